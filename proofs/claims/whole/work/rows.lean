section
-- ===== PART A: goes FIRST, ahead of the names: the tables' words, and 'selects' of the private methods out of them =====
/-- a private method of a class that the tables say can be made, by its rows of tables_1 -/
def lw_okq (q : MethodName × Nat) : Prop := (q.1.cls ≠ "java/lang/invoke/MethodHandle" ∧ q.1.cls ≠ "java/lang/invoke/VarHandle") ∧ Cond.instantiable q.1.cls q.2 ∈ tables_1 ∧ Cond.privateMethod q.1 ∈ tables_1 ∧ Cond.instanceMethod q.1 ∈ tables_1
theorem lw_p0 : lw_okq (⟨"MirrorBytes", "changedBy", "(II)I"⟩, 8) := ⟨⟨by decide +kernel, by decide +kernel⟩, List.mem_of_getElem? (i := 15) (by decide +kernel), List.mem_of_getElem? (i := 494) (by decide +kernel), List.mem_of_getElem? (i := 495) (by decide +kernel)⟩
theorem lw_p1 : lw_okq (⟨"MirrorBytes", "wouldReadTheSame", "(II)Z"⟩, 8) := ⟨⟨by decide +kernel, by decide +kernel⟩, List.mem_of_getElem? (i := 15) (by decide +kernel), List.mem_of_getElem? (i := 601) (by decide +kernel), List.mem_of_getElem? (i := 602) (by decide +kernel)⟩
theorem lw_p2 : lw_okq (⟨"MirrorBytes", "byteThatGives", "(III)I"⟩, 8) := ⟨⟨by decide +kernel, by decide +kernel⟩, List.mem_of_getElem? (i := 15) (by decide +kernel), List.mem_of_getElem? (i := 629) (by decide +kernel), List.mem_of_getElem? (i := 630) (by decide +kernel)⟩
theorem lw_p3 : lw_okq (⟨"MirrorBytes", "walkedBits", "(I)I"⟩, 8) := ⟨⟨by decide +kernel, by decide +kernel⟩, List.mem_of_getElem? (i := 15) (by decide +kernel), List.mem_of_getElem? (i := 643) (by decide +kernel), List.mem_of_getElem? (i := 644) (by decide +kernel)⟩
theorem lw_p4 : lw_okq (⟨"MirrorBytes", "stepOfWalk", "(III)I"⟩, 8) := ⟨⟨by decide +kernel, by decide +kernel⟩, List.mem_of_getElem? (i := 15) (by decide +kernel), List.mem_of_getElem? (i := 655) (by decide +kernel), List.mem_of_getElem? (i := 656) (by decide +kernel)⟩
theorem lw_p5 : lw_okq (⟨"MirrorBytesModel", "begin", "()V"⟩, 14) := ⟨⟨by decide +kernel, by decide +kernel⟩, List.mem_of_getElem? (i := 691) (by decide +kernel), List.mem_of_getElem? (i := 697) (by decide +kernel), List.mem_of_getElem? (i := 698) (by decide +kernel)⟩
theorem lw_p6 : lw_okq (⟨"MirrorBytesModel", "repair", "(I)V"⟩, 14) := ⟨⟨by decide +kernel, by decide +kernel⟩, List.mem_of_getElem? (i := 691) (by decide +kernel), List.mem_of_getElem? (i := 701) (by decide +kernel), List.mem_of_getElem? (i := 702) (by decide +kernel)⟩
theorem lw_p7 : lw_okq (⟨"MirrorBytesModel", "fields", "()I"⟩, 14) := ⟨⟨by decide +kernel, by decide +kernel⟩, List.mem_of_getElem? (i := 691) (by decide +kernel), List.mem_of_getElem? (i := 705) (by decide +kernel), List.mem_of_getElem? (i := 706) (by decide +kernel)⟩
theorem lw_p8 : lw_okq (⟨"MirrorBytesModel", "reset", "(I)V"⟩, 14) := ⟨⟨by decide +kernel, by decide +kernel⟩, List.mem_of_getElem? (i := 691) (by decide +kernel), List.mem_of_getElem? (i := 709) (by decide +kernel), List.mem_of_getElem? (i := 710) (by decide +kernel)⟩
theorem lw_p9 : lw_okq (⟨"MirrorBytesModel", "emptyLog", "()V"⟩, 14) := ⟨⟨by decide +kernel, by decide +kernel⟩, List.mem_of_getElem? (i := 691) (by decide +kernel), List.mem_of_getElem? (i := 713) (by decide +kernel), List.mem_of_getElem? (i := 714) (by decide +kernel)⟩
theorem lw_p10 : lw_okq (⟨"MirrorBytesModel", "note", "()V"⟩, 14) := ⟨⟨by decide +kernel, by decide +kernel⟩, List.mem_of_getElem? (i := 691) (by decide +kernel), List.mem_of_getElem? (i := 764) (by decide +kernel), List.mem_of_getElem? (i := 765) (by decide +kernel)⟩
theorem lw_p11 : lw_okq (⟨"MirrorBytesModel", "goesTo", "(I)I"⟩, 14) := ⟨⟨by decide +kernel, by decide +kernel⟩, List.mem_of_getElem? (i := 691) (by decide +kernel), List.mem_of_getElem? (i := 775) (by decide +kernel), List.mem_of_getElem? (i := 776) (by decide +kernel)⟩
theorem lw_p12 : lw_okq (⟨"MirrorBytesModel", "registers", "()I"⟩, 14) := ⟨⟨by decide +kernel, by decide +kernel⟩, List.mem_of_getElem? (i := 691) (by decide +kernel), List.mem_of_getElem? (i := 779) (by decide +kernel), List.mem_of_getElem? (i := 780) (by decide +kernel)⟩
theorem lw_p13 : lw_okq (⟨"MirrorBytesModel", "peekAt", "(II)I"⟩, 14) := ⟨⟨by decide +kernel, by decide +kernel⟩, List.mem_of_getElem? (i := 691) (by decide +kernel), List.mem_of_getElem? (i := 783) (by decide +kernel), List.mem_of_getElem? (i := 784) (by decide +kernel)⟩
theorem lw_p14 : lw_okq (⟨"MirrorBytesModel", "registerOf", "(I)I"⟩, 14) := ⟨⟨by decide +kernel, by decide +kernel⟩, List.mem_of_getElem? (i := 691) (by decide +kernel), List.mem_of_getElem? (i := 787) (by decide +kernel), List.mem_of_getElem? (i := 788) (by decide +kernel)⟩
theorem lw_p15 : lw_okq (⟨"MirrorBytesModel", "tellsOf", "(II)I"⟩, 14) := ⟨⟨by decide +kernel, by decide +kernel⟩, List.mem_of_getElem? (i := 691) (by decide +kernel), List.mem_of_getElem? (i := 791) (by decide +kernel), List.mem_of_getElem? (i := 792) (by decide +kernel)⟩
def lw_privs_1 : List (MethodName × Nat) := [(⟨"MirrorBytes", "changedBy", "(II)I"⟩, 8), (⟨"MirrorBytes", "wouldReadTheSame", "(II)Z"⟩, 8), (⟨"MirrorBytes", "byteThatGives", "(III)I"⟩, 8), (⟨"MirrorBytes", "walkedBits", "(I)I"⟩, 8), (⟨"MirrorBytes", "stepOfWalk", "(III)I"⟩, 8), (⟨"MirrorBytesModel", "begin", "()V"⟩, 14), (⟨"MirrorBytesModel", "repair", "(I)V"⟩, 14), (⟨"MirrorBytesModel", "fields", "()I"⟩, 14), (⟨"MirrorBytesModel", "reset", "(I)V"⟩, 14), (⟨"MirrorBytesModel", "emptyLog", "()V"⟩, 14), (⟨"MirrorBytesModel", "note", "()V"⟩, 14), (⟨"MirrorBytesModel", "goesTo", "(I)I"⟩, 14), (⟨"MirrorBytesModel", "registers", "()I"⟩, 14), (⟨"MirrorBytesModel", "peekAt", "(II)I"⟩, 14), (⟨"MirrorBytesModel", "registerOf", "(I)I"⟩, 14), (⟨"MirrorBytesModel", "tellsOf", "(II)I"⟩, 14)]
theorem lw_r1 : ∀ q ∈ lw_privs_1, lw_okq q := List.forall_mem_cons.mpr ⟨lw_p0, List.forall_mem_cons.mpr ⟨lw_p1, List.forall_mem_cons.mpr ⟨lw_p2, List.forall_mem_cons.mpr ⟨lw_p3, List.forall_mem_cons.mpr ⟨lw_p4, List.forall_mem_cons.mpr ⟨lw_p5, List.forall_mem_cons.mpr ⟨lw_p6, List.forall_mem_cons.mpr ⟨lw_p7, List.forall_mem_cons.mpr ⟨lw_p8, List.forall_mem_cons.mpr ⟨lw_p9, List.forall_mem_cons.mpr ⟨lw_p10, List.forall_mem_cons.mpr ⟨lw_p11, List.forall_mem_cons.mpr ⟨lw_p12, List.forall_mem_cons.mpr ⟨lw_p13, List.forall_mem_cons.mpr ⟨lw_p14, List.forall_mem_cons.mpr ⟨lw_p15, fun _ h => absurd h List.not_mem_nil⟩⟩⟩⟩⟩⟩⟩⟩⟩⟩⟩⟩⟩⟩⟩⟩
theorem lw_p16 : lw_okq (⟨"MirrorBytesModel", "readOf", "(II)I"⟩, 14) := ⟨⟨by decide +kernel, by decide +kernel⟩, List.mem_of_getElem? (i := 691) (by decide +kernel), List.mem_of_getElem? (i := 795) (by decide +kernel), List.mem_of_getElem? (i := 796) (by decide +kernel)⟩
theorem lw_p17 : lw_okq (⟨"MirrorBytesModel", "clearRead", "(II)V"⟩, 14) := ⟨⟨by decide +kernel, by decide +kernel⟩, List.mem_of_getElem? (i := 691) (by decide +kernel), List.mem_of_getElem? (i := 799) (by decide +kernel), List.mem_of_getElem? (i := 800) (by decide +kernel)⟩
theorem lw_p18 : lw_okq (⟨"MirrorBytesModel", "most", "(I)I"⟩, 14) := ⟨⟨by decide +kernel, by decide +kernel⟩, List.mem_of_getElem? (i := 691) (by decide +kernel), List.mem_of_getElem? (i := 803) (by decide +kernel), List.mem_of_getElem? (i := 804) (by decide +kernel)⟩
theorem lw_p19 : lw_okq (⟨"MirrorBytesModel", "logs", "(III)V"⟩, 14) := ⟨⟨by decide +kernel, by decide +kernel⟩, List.mem_of_getElem? (i := 691) (by decide +kernel), List.mem_of_getElem? (i := 807) (by decide +kernel), List.mem_of_getElem? (i := 808) (by decide +kernel)⟩
theorem lw_p20 : lw_okq (⟨"MirrorBytesModel", "copyMachine", "(II)V"⟩, 14) := ⟨⟨by decide +kernel, by decide +kernel⟩, List.mem_of_getElem? (i := 691) (by decide +kernel), List.mem_of_getElem? (i := 815) (by decide +kernel), List.mem_of_getElem? (i := 816) (by decide +kernel)⟩
theorem lw_p21 : lw_okq (⟨"MirrorBytesModel", "writeTo", "(III)V"⟩, 14) := ⟨⟨by decide +kernel, by decide +kernel⟩, List.mem_of_getElem? (i := 691) (by decide +kernel), List.mem_of_getElem? (i := 819) (by decide +kernel), List.mem_of_getElem? (i := 820) (by decide +kernel)⟩
theorem lw_p22 : lw_okq (⟨"MirrorBytesModel", "isLocked", "(II)Z"⟩, 14) := ⟨⟨by decide +kernel, by decide +kernel⟩, List.mem_of_getElem? (i := 691) (by decide +kernel), List.mem_of_getElem? (i := 823) (by decide +kernel), List.mem_of_getElem? (i := 824) (by decide +kernel)⟩
theorem lw_p23 : lw_okq (⟨"MirrorBytesModel", "letIn", "(IIII)V"⟩, 14) := ⟨⟨by decide +kernel, by decide +kernel⟩, List.mem_of_getElem? (i := 691) (by decide +kernel), List.mem_of_getElem? (i := 827) (by decide +kernel), List.mem_of_getElem? (i := 828) (by decide +kernel)⟩
theorem lw_p24 : lw_okq (⟨"MirrorBytesModel", "openGates", "(III)V"⟩, 14) := ⟨⟨by decide +kernel, by decide +kernel⟩, List.mem_of_getElem? (i := 691) (by decide +kernel), List.mem_of_getElem? (i := 834) (by decide +kernel), List.mem_of_getElem? (i := 835) (by decide +kernel)⟩
theorem lw_p25 : lw_okq (⟨"MirrorBytesModel", "otherFields", "(II)I"⟩, 14) := ⟨⟨by decide +kernel, by decide +kernel⟩, List.mem_of_getElem? (i := 691) (by decide +kernel), List.mem_of_getElem? (i := 838) (by decide +kernel), List.mem_of_getElem? (i := 839) (by decide +kernel)⟩
theorem lw_p26 : lw_okq (⟨"MirrorBytesModel", "isField", "(I)Z"⟩, 14) := ⟨⟨by decide +kernel, by decide +kernel⟩, List.mem_of_getElem? (i := 691) (by decide +kernel), List.mem_of_getElem? (i := 846) (by decide +kernel), List.mem_of_getElem? (i := 847) (by decide +kernel)⟩
theorem lw_p27 : lw_okq (⟨"MirrorBytesModel", "isRegister", "(I)Z"⟩, 14) := ⟨⟨by decide +kernel, by decide +kernel⟩, List.mem_of_getElem? (i := 691) (by decide +kernel), List.mem_of_getElem? (i := 866) (by decide +kernel), List.mem_of_getElem? (i := 867) (by decide +kernel)⟩
theorem lw_p28 : lw_okq (⟨"MirrorBytesModel", "wouldTell", "(II)Z"⟩, 14) := ⟨⟨by decide +kernel, by decide +kernel⟩, List.mem_of_getElem? (i := 691) (by decide +kernel), List.mem_of_getElem? (i := 894) (by decide +kernel), List.mem_of_getElem? (i := 895) (by decide +kernel)⟩
theorem lw_p29 : lw_okq (⟨"MirrorBytesModel", "tryWrite", "(II)V"⟩, 14) := ⟨⟨by decide +kernel, by decide +kernel⟩, List.mem_of_getElem? (i := 691) (by decide +kernel), List.mem_of_getElem? (i := 906) (by decide +kernel), List.mem_of_getElem? (i := 907) (by decide +kernel)⟩
theorem lw_p30 : lw_okq (⟨"MirrorBytesModel", "isWalked", "(I)Z"⟩, 14) := ⟨⟨by decide +kernel, by decide +kernel⟩, List.mem_of_getElem? (i := 691) (by decide +kernel), List.mem_of_getElem? (i := 918) (by decide +kernel), List.mem_of_getElem? (i := 919) (by decide +kernel)⟩
theorem lw_p31 : lw_okq (⟨"MirrorBytesModel", "isLockOrGate", "(II)Z"⟩, 14) := ⟨⟨by decide +kernel, by decide +kernel⟩, List.mem_of_getElem? (i := 691) (by decide +kernel), List.mem_of_getElem? (i := 922) (by decide +kernel), List.mem_of_getElem? (i := 923) (by decide +kernel)⟩
def lw_privs_2 : List (MethodName × Nat) := [(⟨"MirrorBytesModel", "readOf", "(II)I"⟩, 14), (⟨"MirrorBytesModel", "clearRead", "(II)V"⟩, 14), (⟨"MirrorBytesModel", "most", "(I)I"⟩, 14), (⟨"MirrorBytesModel", "logs", "(III)V"⟩, 14), (⟨"MirrorBytesModel", "copyMachine", "(II)V"⟩, 14), (⟨"MirrorBytesModel", "writeTo", "(III)V"⟩, 14), (⟨"MirrorBytesModel", "isLocked", "(II)Z"⟩, 14), (⟨"MirrorBytesModel", "letIn", "(IIII)V"⟩, 14), (⟨"MirrorBytesModel", "openGates", "(III)V"⟩, 14), (⟨"MirrorBytesModel", "otherFields", "(II)I"⟩, 14), (⟨"MirrorBytesModel", "isField", "(I)Z"⟩, 14), (⟨"MirrorBytesModel", "isRegister", "(I)Z"⟩, 14), (⟨"MirrorBytesModel", "wouldTell", "(II)Z"⟩, 14), (⟨"MirrorBytesModel", "tryWrite", "(II)V"⟩, 14), (⟨"MirrorBytesModel", "isWalked", "(I)Z"⟩, 14), (⟨"MirrorBytesModel", "isLockOrGate", "(II)Z"⟩, 14)]
theorem lw_r2 : ∀ q ∈ lw_privs_2, lw_okq q := List.forall_mem_cons.mpr ⟨lw_p16, List.forall_mem_cons.mpr ⟨lw_p17, List.forall_mem_cons.mpr ⟨lw_p18, List.forall_mem_cons.mpr ⟨lw_p19, List.forall_mem_cons.mpr ⟨lw_p20, List.forall_mem_cons.mpr ⟨lw_p21, List.forall_mem_cons.mpr ⟨lw_p22, List.forall_mem_cons.mpr ⟨lw_p23, List.forall_mem_cons.mpr ⟨lw_p24, List.forall_mem_cons.mpr ⟨lw_p25, List.forall_mem_cons.mpr ⟨lw_p26, List.forall_mem_cons.mpr ⟨lw_p27, List.forall_mem_cons.mpr ⟨lw_p28, List.forall_mem_cons.mpr ⟨lw_p29, List.forall_mem_cons.mpr ⟨lw_p30, List.forall_mem_cons.mpr ⟨lw_p31, fun _ h => absurd h List.not_mem_nil⟩⟩⟩⟩⟩⟩⟩⟩⟩⟩⟩⟩⟩⟩⟩⟩
theorem lw_p32 : lw_okq (⟨"MirrorBytesModel", "bitsBy", "(IZ)I"⟩, 14) := ⟨⟨by decide +kernel, by decide +kernel⟩, List.mem_of_getElem? (i := 691) (by decide +kernel), List.mem_of_getElem? (i := 926) (by decide +kernel), List.mem_of_getElem? (i := 927) (by decide +kernel)⟩
theorem lw_p33 : lw_okq (⟨"MirrorBytesModel", "bitsOf", "(I)I"⟩, 14) := ⟨⟨by decide +kernel, by decide +kernel⟩, List.mem_of_getElem? (i := 691) (by decide +kernel), List.mem_of_getElem? (i := 930) (by decide +kernel), List.mem_of_getElem? (i := 931) (by decide +kernel)⟩
theorem lw_p34 : lw_okq (⟨"MirrorBytesModel", "fieldBits", "()I"⟩, 14) := ⟨⟨by decide +kernel, by decide +kernel⟩, List.mem_of_getElem? (i := 691) (by decide +kernel), List.mem_of_getElem? (i := 946) (by decide +kernel), List.mem_of_getElem? (i := 947) (by decide +kernel)⟩
theorem lw_p35 : lw_okq (⟨"MirrorBytesModel", "brokenMany", "()I"⟩, 14) := ⟨⟨by decide +kernel, by decide +kernel⟩, List.mem_of_getElem? (i := 691) (by decide +kernel), List.mem_of_getElem? (i := 950) (by decide +kernel), List.mem_of_getElem? (i := 951) (by decide +kernel)⟩
theorem lw_p36 : lw_okq (⟨"MirrorBytesModel", "next", "()V"⟩, 14) := ⟨⟨by decide +kernel, by decide +kernel⟩, List.mem_of_getElem? (i := 691) (by decide +kernel), List.mem_of_getElem? (i := 966) (by decide +kernel), List.mem_of_getElem? (i := 967) (by decide +kernel)⟩
theorem lw_p37 : lw_okq (⟨"MirrorBytesModel", "isHere", "(II)Z"⟩, 14) := ⟨⟨by decide +kernel, by decide +kernel⟩, List.mem_of_getElem? (i := 691) (by decide +kernel), List.mem_of_getElem? (i := 970) (by decide +kernel), List.mem_of_getElem? (i := 971) (by decide +kernel)⟩
theorem lw_p38 : lw_okq (⟨"MirrorBytesModel", "readItem", "()V"⟩, 14) := ⟨⟨by decide +kernel, by decide +kernel⟩, List.mem_of_getElem? (i := 691) (by decide +kernel), List.mem_of_getElem? (i := 978) (by decide +kernel), List.mem_of_getElem? (i := 979) (by decide +kernel)⟩
theorem lw_p39 : lw_okq (⟨"MirrorBytesModel", "must", "(Z)I"⟩, 14) := ⟨⟨by decide +kernel, by decide +kernel⟩, List.mem_of_getElem? (i := 691) (by decide +kernel), List.mem_of_getElem? (i := 982) (by decide +kernel), List.mem_of_getElem? (i := 983) (by decide +kernel)⟩
theorem lw_p40 : lw_okq (⟨"MirrorBytesModel", "readRegister", "()V"⟩, 14) := ⟨⟨by decide +kernel, by decide +kernel⟩, List.mem_of_getElem? (i := 691) (by decide +kernel), List.mem_of_getElem? (i := 986) (by decide +kernel), List.mem_of_getElem? (i := 987) (by decide +kernel)⟩
theorem lw_p41 : lw_okq (⟨"MirrorBytesModel", "number", "(II)I"⟩, 14) := ⟨⟨by decide +kernel, by decide +kernel⟩, List.mem_of_getElem? (i := 691) (by decide +kernel), List.mem_of_getElem? (i := 990) (by decide +kernel), List.mem_of_getElem? (i := 991) (by decide +kernel)⟩
theorem lw_p42 : lw_okq (⟨"MirrorBytesModel", "readField", "()V"⟩, 14) := ⟨⟨by decide +kernel, by decide +kernel⟩, List.mem_of_getElem? (i := 691) (by decide +kernel), List.mem_of_getElem? (i := 994) (by decide +kernel), List.mem_of_getElem? (i := 995) (by decide +kernel)⟩
theorem lw_p43 : lw_okq (⟨"MirrorBytesModel", "usedBits", "(I)I"⟩, 14) := ⟨⟨by decide +kernel, by decide +kernel⟩, List.mem_of_getElem? (i := 691) (by decide +kernel), List.mem_of_getElem? (i := 998) (by decide +kernel), List.mem_of_getElem? (i := 999) (by decide +kernel)⟩
theorem lw_p44 : lw_okq (⟨"MirrorBytesModel", "readAlias", "()V"⟩, 14) := ⟨⟨by decide +kernel, by decide +kernel⟩, List.mem_of_getElem? (i := 691) (by decide +kernel), List.mem_of_getElem? (i := 1002) (by decide +kernel), List.mem_of_getElem? (i := 1003) (by decide +kernel)⟩
theorem lw_p45 : lw_okq (⟨"MirrorBytesModel", "readLink", "(I)V"⟩, 14) := ⟨⟨by decide +kernel, by decide +kernel⟩, List.mem_of_getElem? (i := 691) (by decide +kernel), List.mem_of_getElem? (i := 1006) (by decide +kernel), List.mem_of_getElem? (i := 1007) (by decide +kernel)⟩
def lw_privs_3 : List (MethodName × Nat) := [(⟨"MirrorBytesModel", "bitsBy", "(IZ)I"⟩, 14), (⟨"MirrorBytesModel", "bitsOf", "(I)I"⟩, 14), (⟨"MirrorBytesModel", "fieldBits", "()I"⟩, 14), (⟨"MirrorBytesModel", "brokenMany", "()I"⟩, 14), (⟨"MirrorBytesModel", "next", "()V"⟩, 14), (⟨"MirrorBytesModel", "isHere", "(II)Z"⟩, 14), (⟨"MirrorBytesModel", "readItem", "()V"⟩, 14), (⟨"MirrorBytesModel", "must", "(Z)I"⟩, 14), (⟨"MirrorBytesModel", "readRegister", "()V"⟩, 14), (⟨"MirrorBytesModel", "number", "(II)I"⟩, 14), (⟨"MirrorBytesModel", "readField", "()V"⟩, 14), (⟨"MirrorBytesModel", "usedBits", "(I)I"⟩, 14), (⟨"MirrorBytesModel", "readAlias", "()V"⟩, 14), (⟨"MirrorBytesModel", "readLink", "(I)V"⟩, 14)]
theorem lw_r3 : ∀ q ∈ lw_privs_3, lw_okq q := List.forall_mem_cons.mpr ⟨lw_p32, List.forall_mem_cons.mpr ⟨lw_p33, List.forall_mem_cons.mpr ⟨lw_p34, List.forall_mem_cons.mpr ⟨lw_p35, List.forall_mem_cons.mpr ⟨lw_p36, List.forall_mem_cons.mpr ⟨lw_p37, List.forall_mem_cons.mpr ⟨lw_p38, List.forall_mem_cons.mpr ⟨lw_p39, List.forall_mem_cons.mpr ⟨lw_p40, List.forall_mem_cons.mpr ⟨lw_p41, List.forall_mem_cons.mpr ⟨lw_p42, List.forall_mem_cons.mpr ⟨lw_p43, List.forall_mem_cons.mpr ⟨lw_p44, List.forall_mem_cons.mpr ⟨lw_p45, fun _ h => absurd h List.not_mem_nil⟩⟩⟩⟩⟩⟩⟩⟩⟩⟩⟩⟩⟩⟩
def lw_privs : List (MethodName × Nat) := lw_privs_1 ++ (lw_privs_2 ++ (lw_privs_3))
def lw_tbl : List Cond := k2_sels lw_privs ++ tables_1
theorem lw_privs_ok : ∀ q ∈ lw_privs, lw_okq q := by
  show ∀ q ∈ lw_privs_1 ++ (lw_privs_2 ++ (lw_privs_3)), lw_okq q
  exact List.forall_mem_append.mpr ⟨lw_r1, List.forall_mem_append.mpr ⟨lw_r2, lw_r3⟩⟩
end
section
def RX0 : String := "MirrorBytes$Block"
def TX0 : u_T := fun k => match k with
  | 0 => ("MirrorBytes$Block", "registers", "I", false)
  | 1 => ("MirrorBytes$Block", "fields", "I", false)
  | 2 => ("MirrorBytes$Block", "aliases", "I", false)
  | 3 => ("MirrorBytes$Block", "address", "[I", true)
  | 4 => ("MirrorBytes$Block", "lock", "[I", true)
  | 5 => ("MirrorBytes$Block", "gate", "[I", true)
  | 6 => ("MirrorBytes$Block", "owner", "[I", true)
  | 7 => ("MirrorBytes$Block", "kind", "[I", true)
  | 8 => ("MirrorBytes$Block", "low", "[I", true)
  | 9 => ("MirrorBytes$Block", "high", "[I", true)
  | 10 => ("MirrorBytes$Block", "mask", "[I", true)
  | 11 => ("MirrorBytes$Block", "initial", "[I", true)
  | 12 => ("MirrorBytes$Block", "aliasAddress", "[I", true)
  | 13 => ("MirrorBytes$Block", "aliasRegister", "[I", true)
  | _ => ("MirrorBytes$Block", "aliasKind", "[I", true)
def tyX0 : Nat → FieldType := fun k => match k with
  | 0 => .int
  | 1 => .int
  | 2 => .int
  | 3 => .array .int
  | 4 => .array .int
  | 5 => .array .int
  | 6 => .array .int
  | 7 => .array .int
  | 8 => .array .int
  | 9 => .array .int
  | 10 => .array .int
  | 11 => .array .int
  | 12 => .array .int
  | 13 => .array .int
  | _ => .array .int
abbrev wsX00 : List Cond := u_ws RX0 TX0 15
theorem nmX0 : ∀ a, a < 15 → ∀ b, b < 15 → a ≠ b → (TX0 a).2.1 ≠ (TX0 b).2.1 := by decide +kernel
theorem tyX0_ok : ∀ k, k < 15 → parseFieldDescriptor (TX0 k).2.2.1 = some (tyX0 k) := by decide +kernel
abbrev cX0_init : ByteArray := prog_2_method_1_code
def yX0_init : MethodName := ⟨RX0, "<init>", "()V"⟩
abbrev cX0_empty : ByteArray := prog_2_method_2_code
def yX0_empty : MethodName := ⟨RX0, "empty", "()V"⟩
abbrev cX0_greatestValue : ByteArray := prog_2_method_3_code
def yX0_greatestValue : MethodName := ⟨RX0, "greatestValue", "(I)I"⟩
abbrev cX0_canHold : ByteArray := prog_2_method_4_code
def yX0_canHold : MethodName := ⟨RX0, "canHold", "(II)Z"⟩
abbrev cX0_usedBits : ByteArray := prog_2_method_5_code
def yX0_usedBits : MethodName := ⟨RX0, "usedBits", "(I)I"⟩
abbrev cX0_plainBits : ByteArray := prog_2_method_6_code
def yX0_plainBits : MethodName := ⟨RX0, "plainBits", "(I)I"⟩
abbrev cX0_bitsOfFields : ByteArray := prog_2_method_7_code
def yX0_bitsOfFields : MethodName := ⟨RX0, "bitsOfFields", "()I"⟩
abbrev cX0_registerAt : ByteArray := prog_2_method_8_code
def yX0_registerAt : MethodName := ⟨RX0, "registerAt", "(I)I"⟩
abbrev cX0_aliasAt : ByteArray := prog_2_method_9_code
def yX0_aliasAt : MethodName := ⟨RX0, "aliasAt", "(I)I"⟩
abbrev cX0_registerBehind : ByteArray := prog_2_method_10_code
def yX0_registerBehind : MethodName := ⟨RX0, "registerBehind", "(I)I"⟩
abbrev cX0_holdersOf : ByteArray := prog_2_method_11_code
def yX0_holdersOf : MethodName := ⟨RX0, "holdersOf", "(I)I"⟩
abbrev cX0_isLock : ByteArray := prog_2_method_12_code
def yX0_isLock : MethodName := ⟨RX0, "isLock", "(I)Z"⟩
abbrev cX0_isGate : ByteArray := prog_2_method_13_code
def yX0_isGate : MethodName := ⟨RX0, "isGate", "(I)Z"⟩
abbrev cX0_isOpenedBy : ByteArray := prog_2_method_14_code
def yX0_isOpenedBy : MethodName := ⟨RX0, "isOpenedBy", "(II)Z"⟩
abbrev cX0_canReach : ByteArray := prog_2_method_15_code
def yX0_canReach : MethodName := ⟨RX0, "canReach", "(II)Z"⟩
def RX1 : String := "MirrorBytes$Device"
def TX1 : u_T := fun k => match k with
  | 0 => ("MirrorBytes$Device", "content", "[I", true)
  | 1 => ("MirrorBytes$Device", "held", "[I", true)
  | 2 => ("MirrorBytes$Device", "entered", "[Z", true)
  | _ => ("MirrorBytes$Device", "kinds", "[I", true)
def tyX1 : Nat → FieldType := fun k => match k with
  | 0 => .array .int
  | 1 => .array .int
  | 2 => .array .boolean
  | _ => .array .int
abbrev wsX10 : List Cond := u_ws RX1 TX1 4
theorem nmX1 : ∀ a, a < 4 → ∀ b, b < 4 → a ≠ b → (TX1 a).2.1 ≠ (TX1 b).2.1 := by decide +kernel
theorem tyX1_ok : ∀ k, k < 4 → parseFieldDescriptor (TX1 k).2.2.1 = some (tyX1 k) := by decide +kernel
abbrev cX1_init : ByteArray := prog_3_method_1_code
def yX1_init : MethodName := ⟨RX1, "<init>", "()V"⟩
abbrev cX1_copyFrom : ByteArray := prog_3_method_2_code
def yX1_copyFrom : MethodName := ⟨RX1, "copyFrom", "(LMirrorBytes$Device;)V"⟩
abbrev cX1_mend : ByteArray := prog_3_method_3_code
def yX1_mend : MethodName := ⟨RX1, "mend", "(LMirrorBytes$Block;)V"⟩
abbrev cX1_restart : ByteArray := prog_3_method_4_code
def yX1_restart : MethodName := ⟨RX1, "restart", "(LMirrorBytes$Block;)V"⟩
abbrev cX1_valueOf : ByteArray := prog_3_method_5_code
def yX1_valueOf : MethodName := ⟨RX1, "valueOf", "(LMirrorBytes$Block;I)I"⟩
abbrev cX1_putValue : ByteArray := prog_3_method_6_code
def yX1_putValue : MethodName := ⟨RX1, "putValue", "(LMirrorBytes$Block;II)V"⟩
abbrev cX1_putBits : ByteArray := prog_3_method_7_code
def yX1_putBits : MethodName := ⟨RX1, "putBits", "(LMirrorBytes$Block;II)V"⟩
abbrev cX1_brokenFields : ByteArray := prog_3_method_8_code
def yX1_brokenFields : MethodName := ⟨RX1, "brokenFields", "(LMirrorBytes$Block;)I"⟩
abbrev cX1_isLocked : ByteArray := prog_3_method_9_code
def yX1_isLocked : MethodName := ⟨RX1, "isLocked", "(LMirrorBytes$Block;I)Z"⟩
abbrev cX1_shown : ByteArray := prog_3_method_10_code
def yX1_shown : MethodName := ⟨RX1, "shown", "(LMirrorBytes$Block;I)I"⟩
abbrev cX1_look : ByteArray := prog_3_method_11_code
def yX1_look : MethodName := ⟨RX1, "look", "(LMirrorBytes$Block;I)I"⟩
abbrev cX1_read : ByteArray := prog_3_method_12_code
def yX1_read : MethodName := ⟨RX1, "read", "(LMirrorBytes$Block;I)I"⟩
abbrev cX1_learn : ByteArray := prog_3_method_13_code
def yX1_learn : MethodName := ⟨RX1, "learn", "(LMirrorBytes$Block;II)V"⟩
abbrev cX1_write : ByteArray := prog_3_method_14_code
def yX1_write : MethodName := ⟨RX1, "write", "(LMirrorBytes$Block;II)V"⟩
abbrev cX1_letIn : ByteArray := prog_3_method_15_code
def yX1_letIn : MethodName := ⟨RX1, "letIn", "(LMirrorBytes$Block;II)V"⟩
abbrev cX1_letInByAlias : ByteArray := prog_3_method_16_code
def yX1_letInByAlias : MethodName := ⟨RX1, "letInByAlias", "(LMirrorBytes$Block;III)V"⟩
abbrev cX1_bitsAfter : ByteArray := prog_3_method_17_code
def yX1_bitsAfter : MethodName := ⟨RX1, "bitsAfter", "(III)I"⟩
abbrev cX1_openGates : ByteArray := prog_3_method_18_code
def yX1_openGates : MethodName := ⟨RX1, "openGates", "(LMirrorBytes$Block;II)V"⟩
def RX2 : String := "MirrorBytes$History"
def TX2 : u_T := fun k => match k with
  | 0 => ("MirrorBytes$History", "before", "[LMirrorBytes$Situation;", true)
  | 1 => ("MirrorBytes$History", "next", "I", false)
  | _ => ("MirrorBytes$History", "length", "I", false)
def tyX2 : Nat → FieldType := fun k => match k with
  | 0 => .array (.object "MirrorBytes$Situation")
  | 1 => .int
  | _ => .int
abbrev wsX20 : List Cond := u_ws RX2 TX2 3
theorem nmX2 : ∀ a, a < 3 → ∀ b, b < 3 → a ≠ b → (TX2 a).2.1 ≠ (TX2 b).2.1 := by decide +kernel
theorem tyX2_ok : ∀ k, k < 3 → parseFieldDescriptor (TX2 k).2.2.1 = some (tyX2 k) := by decide +kernel
abbrev cX2_init : ByteArray := prog_4_method_1_code
def yX2_init : MethodName := ⟨RX2, "<init>", "()V"⟩
abbrev cX2_forget : ByteArray := prog_4_method_2_code
def yX2_forget : MethodName := ⟨RX2, "forget", "()V"⟩
abbrev cX2_remember : ByteArray := prog_4_method_3_code
def yX2_remember : MethodName := ⟨RX2, "remember", "(LMirrorBytes$Situation;)V"⟩
abbrev cX2_recall : ByteArray := prog_4_method_4_code
def yX2_recall : MethodName := ⟨RX2, "recall", "(LMirrorBytes$Situation;)V"⟩
def RX3 : String := "MirrorBytes$Journal"
def TX3 : u_T := fun k => match k with
  | 0 => ("MirrorBytes$Journal", "length", "I", false)
  | 1 => ("MirrorBytes$Journal", "address", "[I", true)
  | 2 => ("MirrorBytes$Journal", "isWrite", "[Z", true)
  | _ => ("MirrorBytes$Journal", "content", "[I", true)
def tyX3 : Nat → FieldType := fun k => match k with
  | 0 => .int
  | 1 => .array .int
  | 2 => .array .boolean
  | _ => .array .int
abbrev wsX30 : List Cond := u_ws RX3 TX3 4
theorem nmX3 : ∀ a, a < 4 → ∀ b, b < 4 → a ≠ b → (TX3 a).2.1 ≠ (TX3 b).2.1 := by decide +kernel
theorem tyX3_ok : ∀ k, k < 4 → parseFieldDescriptor (TX3 k).2.2.1 = some (tyX3 k) := by decide +kernel
abbrev cX3_init : ByteArray := prog_5_method_1_code
def yX3_init : MethodName := ⟨RX3, "<init>", "()V"⟩
abbrev cX3_copyFrom : ByteArray := prog_5_method_2_code
def yX3_copyFrom : MethodName := ⟨RX3, "copyFrom", "(LMirrorBytes$Journal;)V"⟩
abbrev cX3_append : ByteArray := prog_5_method_3_code
def yX3_append : MethodName := ⟨RX3, "append", "(IZI)V"⟩
abbrev cX3_agreesWith : ByteArray := prog_5_method_4_code
def yX3_agreesWith : MethodName := ⟨RX3, "agreesWith", "(LMirrorBytes$Device;LMirrorBytes$Block;)Z"⟩
def RX4 : String := "MirrorBytes$Parser"
def TX4 : u_T := fun k => match k with
  | 0 => ("MirrorBytes$Parser", "tokens", "LMirrorBytes$Tokens;", true)
  | _ => ("MirrorBytes$Parser", "block", "LMirrorBytes$Block;", false)
def tyX4 : Nat → FieldType := fun k => match k with
  | 0 => .object "MirrorBytes$Tokens"
  | _ => .object "MirrorBytes$Block"
abbrev wsX40 : List Cond := u_ws RX4 TX4 2
theorem nmX4 : ∀ a, a < 2 → ∀ b, b < 2 → a ≠ b → (TX4 a).2.1 ≠ (TX4 b).2.1 := by decide +kernel
theorem tyX4_ok : ∀ k, k < 2 → parseFieldDescriptor (TX4 k).2.2.1 = some (tyX4 k) := by decide +kernel
abbrev cX4_init : ByteArray := prog_6_method_1_code
def yX4_init : MethodName := ⟨RX4, "<init>", "(LMirrorBytes$Text;)V"⟩
abbrev cX4_exchange : ByteArray := prog_6_method_2_code
def yX4_exchange : MethodName := ⟨RX4, "exchange", "(LMirrorBytes$Block;)LMirrorBytes$Block;"⟩
abbrev cX4_parse : ByteArray := prog_6_method_3_code
def yX4_parse : MethodName := ⟨RX4, "parse", "()I"⟩
abbrev cX4_readItem : ByteArray := prog_6_method_4_code
def yX4_readItem : MethodName := ⟨RX4, "readItem", "()Z"⟩
abbrev cX4_readRegister : ByteArray := prog_6_method_5_code
def yX4_readRegister : MethodName := ⟨RX4, "readRegister", "()Z"⟩
abbrev cX4_readField : ByteArray := prog_6_method_6_code
def yX4_readField : MethodName := ⟨RX4, "readField", "()Z"⟩
abbrev cX4_readAlias : ByteArray := prog_6_method_7_code
def yX4_readAlias : MethodName := ⟨RX4, "readAlias", "()Z"⟩
abbrev cX4_suitsAlias : ByteArray := prog_6_method_8_code
def yX4_suitsAlias : MethodName := ⟨RX4, "suitsAlias", "(I)Z"⟩
abbrev cX4_readLock : ByteArray := prog_6_method_9_code
def yX4_readLock : MethodName := ⟨RX4, "readLock", "()Z"⟩
abbrev cX4_readGate : ByteArray := prog_6_method_10_code
def yX4_readGate : MethodName := ⟨RX4, "readGate", "()Z"⟩
abbrev cX4_takeNumber : ByteArray := prog_6_method_11_code
def yX4_takeNumber : MethodName := ⟨RX4, "takeNumber", "(II)Z"⟩
abbrev cX4_takeKind : ByteArray := prog_6_method_12_code
def yX4_takeKind : MethodName := ⟨RX4, "takeKind", "()Z"⟩
abbrev cX4_takeSemicolon : ByteArray := prog_6_method_13_code
def yX4_takeSemicolon : MethodName := ⟨RX4, "takeSemicolon", "()Z"⟩
def RX5 : String := "MirrorBytes$Situation"
def TX5 : u_T := fun k => match k with
  | 0 => ("MirrorBytes$Situation", "device", "LMirrorBytes$Device;", true)
  | 1 => ("MirrorBytes$Situation", "mirror", "LMirrorBytes$Device;", true)
  | 2 => ("MirrorBytes$Situation", "journal", "LMirrorBytes$Journal;", true)
  | 3 => ("MirrorBytes$Situation", "differing", "I", false)
  | _ => ("MirrorBytes$Situation", "latestDifference", "I", false)
def tyX5 : Nat → FieldType := fun k => match k with
  | 0 => .object "MirrorBytes$Device"
  | 1 => .object "MirrorBytes$Device"
  | 2 => .object "MirrorBytes$Journal"
  | 3 => .int
  | _ => .int
abbrev wsX50 : List Cond := u_ws RX5 TX5 5
theorem nmX5 : ∀ a, a < 5 → ∀ b, b < 5 → a ≠ b → (TX5 a).2.1 ≠ (TX5 b).2.1 := by decide +kernel
theorem tyX5_ok : ∀ k, k < 5 → parseFieldDescriptor (TX5 k).2.2.1 = some (tyX5 k) := by decide +kernel
abbrev cX5_init : ByteArray := prog_7_method_1_code
def yX5_init : MethodName := ⟨RX5, "<init>", "()V"⟩
abbrev cX5_copyFrom : ByteArray := prog_7_method_2_code
def yX5_copyFrom : MethodName := ⟨RX5, "copyFrom", "(LMirrorBytes$Situation;)V"⟩
abbrev cX5_startWith : ByteArray := prog_7_method_3_code
def yX5_startWith : MethodName := ⟨RX5, "startWith", "(LMirrorBytes$Block;)V"⟩
abbrev cX5_restart : ByteArray := prog_7_method_4_code
def yX5_restart : MethodName := ⟨RX5, "restart", "(LMirrorBytes$Block;)V"⟩
abbrev cX5_performRead : ByteArray := prog_7_method_5_code
def yX5_performRead : MethodName := ⟨RX5, "performRead", "(LMirrorBytes$Block;I)I"⟩
abbrev cX5_performWrite : ByteArray := prog_7_method_6_code
def yX5_performWrite : MethodName := ⟨RX5, "performWrite", "(LMirrorBytes$Block;II)V"⟩
def RX6 : String := "MirrorBytes$Text"
def TX6 : u_T := fun k => match k with
  | 0 => ("MirrorBytes$Text", "content", "[I", true)
  | _ => ("MirrorBytes$Text", "length", "I", false)
def tyX6 : Nat → FieldType := fun k => match k with
  | 0 => .array .int
  | _ => .int
abbrev wsX60 : List Cond := u_ws RX6 TX6 2
theorem nmX6 : ∀ a, a < 2 → ∀ b, b < 2 → a ≠ b → (TX6 a).2.1 ≠ (TX6 b).2.1 := by decide +kernel
theorem tyX6_ok : ∀ k, k < 2 → parseFieldDescriptor (TX6 k).2.2.1 = some (tyX6 k) := by decide +kernel
abbrev cX6_init : ByteArray := prog_8_method_1_code
def yX6_init : MethodName := ⟨RX6, "<init>", "()V"⟩
abbrev cX6_append : ByteArray := prog_8_method_2_code
def yX6_append : MethodName := ⟨RX6, "append", "(I)V"⟩
abbrev cX6_isLetter : ByteArray := prog_8_method_3_code
def yX6_isLetter : MethodName := ⟨RX6, "isLetter", "(I)Z"⟩
abbrev cX6_isDigit : ByteArray := prog_8_method_4_code
def yX6_isDigit : MethodName := ⟨RX6, "isDigit", "(I)Z"⟩
def RX7 : String := "MirrorBytes$Tokens"
def TX7 : u_T := fun k => match k with
  | 0 => ("MirrorBytes$Tokens", "text", "LMirrorBytes$Text;", true)
  | 1 => ("MirrorBytes$Tokens", "start", "I", false)
  | 2 => ("MirrorBytes$Tokens", "end", "I", false)
  | _ => ("MirrorBytes$Tokens", "sort", "I", false)
def tyX7 : Nat → FieldType := fun k => match k with
  | 0 => .object "MirrorBytes$Text"
  | 1 => .int
  | 2 => .int
  | _ => .int
abbrev wsX70 : List Cond := u_ws RX7 TX7 4
theorem nmX7 : ∀ a, a < 4 → ∀ b, b < 4 → a ≠ b → (TX7 a).2.1 ≠ (TX7 b).2.1 := by decide +kernel
theorem tyX7_ok : ∀ k, k < 4 → parseFieldDescriptor (TX7 k).2.2.1 = some (tyX7 k) := by decide +kernel
abbrev cX7_init : ByteArray := prog_9_method_1_code
def yX7_init : MethodName := ⟨RX7, "<init>", "(LMirrorBytes$Text;)V"⟩
abbrev cX7_rewind : ByteArray := prog_9_method_2_code
def yX7_rewind : MethodName := ⟨RX7, "rewind", "()V"⟩
abbrev cX7_advance : ByteArray := prog_9_method_3_code
def yX7_advance : MethodName := ⟨RX7, "advance", "()V"⟩
abbrev cX7_letter : ByteArray := prog_9_method_4_code
def yX7_letter : MethodName := ⟨RX7, "letter", "()I"⟩
abbrev cX7_kind : ByteArray := prog_9_method_5_code
def yX7_kind : MethodName := ⟨RX7, "kind", "()I"⟩
abbrev cX7_number : ByteArray := prog_9_method_6_code
def yX7_number : MethodName := ⟨RX7, "number", "()I"⟩
def RX8 : String := "MirrorBytes"
def TX8 : u_T := fun k => match k with
  | 0 => ("MirrorBytes", "text", "LMirrorBytes$Text;", true)
  | 1 => ("MirrorBytes", "parser", "LMirrorBytes$Parser;", true)
  | 2 => ("MirrorBytes", "now", "LMirrorBytes$Situation;", true)
  | 3 => ("MirrorBytes", "history", "LMirrorBytes$History;", true)
  | 4 => ("MirrorBytes", "images", "[LMirrorBytes$Situation;", true)
  | 5 => ("MirrorBytes", "imageHeld", "[Z", true)
  | 6 => ("MirrorBytes", "trial", "LMirrorBytes$Device;", true)
  | _ => ("MirrorBytes", "block", "LMirrorBytes$Block;", false)
def tyX8 : Nat → FieldType := fun k => match k with
  | 0 => .object "MirrorBytes$Text"
  | 1 => .object "MirrorBytes$Parser"
  | 2 => .object "MirrorBytes$Situation"
  | 3 => .object "MirrorBytes$History"
  | 4 => .array (.object "MirrorBytes$Situation")
  | 5 => .array .boolean
  | 6 => .object "MirrorBytes$Device"
  | _ => .object "MirrorBytes$Block"
abbrev wsX80 : List Cond := u_ws RX8 TX8 8
theorem nmX8 : ∀ a, a < 8 → ∀ b, b < 8 → a ≠ b → (TX8 a).2.1 ≠ (TX8 b).2.1 := by decide +kernel
theorem tyX8_ok : ∀ k, k < 8 → parseFieldDescriptor (TX8 k).2.2.1 = some (tyX8 k) := by decide +kernel
abbrev cX8_init : ByteArray := prog_1_method_1_code
def yX8_init : MethodName := ⟨RX8, "<init>", "()V"⟩
abbrev cX8_type : ByteArray := prog_1_method_2_code
def yX8_type : MethodName := ⟨RX8, "type", "(I)I"⟩
abbrev cX8_clear : ByteArray := prog_1_method_3_code
def yX8_clear : MethodName := ⟨RX8, "clear", "()I"⟩
abbrev cX8_tells : ByteArray := prog_1_method_4_code
def yX8_tells : MethodName := ⟨RX8, "tells", "()I"⟩
abbrev cX8_resets : ByteArray := prog_1_method_5_code
def yX8_resets : MethodName := ⟨RX8, "resets", "()I"⟩
abbrev cX8_reads : ByteArray := prog_1_method_6_code
def yX8_reads : MethodName := ⟨RX8, "reads", "(I)I"⟩
abbrev cX8_writes : ByteArray := prog_1_method_7_code
def yX8_writes : MethodName := ⟨RX8, "writes", "(II)I"⟩
abbrev cX8_sets : ByteArray := prog_1_method_8_code
def yX8_sets : MethodName := ⟨RX8, "sets", "(II)I"⟩
abbrev cX8_breaks : ByteArray := prog_1_method_9_code
def yX8_breaks : MethodName := ⟨RX8, "breaks", "(II)I"⟩
abbrev cX8_undo : ByteArray := prog_1_method_10_code
def yX8_undo : MethodName := ⟨RX8, "undo", "()I"⟩
abbrev cX8_field : ByteArray := prog_1_method_11_code
def yX8_field : MethodName := ⟨RX8, "field", "(II)I"⟩
abbrev cX8_register : ByteArray := prog_1_method_12_code
def yX8_register : MethodName := ⟨RX8, "register", "(II)I"⟩
abbrev cX8_alias : ByteArray := prog_1_method_13_code
def yX8_alias : MethodName := ⟨RX8, "alias", "(II)I"⟩
abbrev cX8_at : ByteArray := prog_1_method_14_code
def yX8_at : MethodName := ⟨RX8, "at", "(I)I"⟩
abbrev cX8_peek : ByteArray := prog_1_method_15_code
def yX8_peek : MethodName := ⟨RX8, "peek", "(II)I"⟩
abbrev cX8_differed : ByteArray := prog_1_method_16_code
def yX8_differed : MethodName := ⟨RX8, "differed", "(I)I"⟩
abbrev cX8_log : ByteArray := prog_1_method_17_code
def yX8_log : MethodName := ⟨RX8, "log", "(II)I"⟩
abbrev cX8_suspects : ByteArray := prog_1_method_18_code
def yX8_suspects : MethodName := ⟨RX8, "suspects", "(I)I"⟩
abbrev cX8_clashes : ByteArray := prog_1_method_19_code
def yX8_clashes : MethodName := ⟨RX8, "clashes", "(I)I"⟩
abbrev cX8_touched : ByteArray := prog_1_method_20_code
def yX8_touched : MethodName := ⟨RX8, "touched", "(II)I"⟩
abbrev cX8_way : ByteArray := prog_1_method_21_code
def yX8_way : MethodName := ⟨RX8, "way", "(II)I"⟩
abbrev cX8_walk : ByteArray := prog_1_method_22_code
def yX8_walk : MethodName := ⟨RX8, "walk", "(II)I"⟩
abbrev cX8_keep : ByteArray := prog_1_method_23_code
def yX8_keep : MethodName := ⟨RX8, "keep", "(I)I"⟩
abbrev cX8_back : ByteArray := prog_1_method_24_code
def yX8_back : MethodName := ⟨RX8, "back", "(I)I"⟩
abbrev cX8_count : ByteArray := prog_1_method_25_code
def yX8_count : MethodName := ⟨RX8, "count", "(I)I"⟩
abbrev cX8_isWithin : ByteArray := prog_1_method_26_code
def yX8_isWithin : MethodName := ⟨RX8, "isWithin", "(II)Z"⟩
abbrev cX8_changedBy : ByteArray := prog_1_method_27_code
def yX8_changedBy : MethodName := ⟨RX8, "changedBy", "(II)I"⟩
abbrev cX8_byteThatGives : ByteArray := prog_1_method_28_code
def yX8_byteThatGives : MethodName := ⟨RX8, "byteThatGives", "(III)I"⟩
abbrev cX8_wouldReadTheSame : ByteArray := prog_1_method_29_code
def yX8_wouldReadTheSame : MethodName := ⟨RX8, "wouldReadTheSame", "(II)Z"⟩
abbrev cX8_walkedBits : ByteArray := prog_1_method_30_code
def yX8_walkedBits : MethodName := ⟨RX8, "walkedBits", "(I)I"⟩
abbrev cX8_stepOfWalk : ByteArray := prog_1_method_31_code
def yX8_stepOfWalk : MethodName := ⟨RX8, "stepOfWalk", "(III)I"⟩
def RX9 : String := "MirrorBytesModel"
def TX9 : u_T := fun k => match k with
  | 0 => ("MirrorBytesModel", "told", "[I", true)
  | 1 => ("MirrorBytesModel", "draft", "[I", true)
  | 2 => ("MirrorBytesModel", "now", "[I", true)
  | 3 => ("MirrorBytesModel", "past", "[I", true)
  | 4 => ("MirrorBytesModel", "pasts", "I", false)
  | 5 => ("MirrorBytesModel", "images", "[I", true)
  | 6 => ("MirrorBytesModel", "isKept", "[Z", true)
  | 7 => ("MirrorBytesModel", "text", "[I", true)
  | 8 => ("MirrorBytesModel", "typed", "I", false)
  | 9 => ("MirrorBytesModel", "at", "I", false)
  | 10 => ("MirrorBytesModel", "tokenAt", "I", false)
  | 11 => ("MirrorBytesModel", "token", "I", false)
  | 12 => ("MirrorBytesModel", "value", "I", false)
  | _ => ("MirrorBytesModel", "fault", "I", false)
def tyX9 : Nat → FieldType := fun k => match k with
  | 0 => .array .int
  | 1 => .array .int
  | 2 => .array .int
  | 3 => .array .int
  | 4 => .int
  | 5 => .array .int
  | 6 => .array .boolean
  | 7 => .array .int
  | 8 => .int
  | 9 => .int
  | 10 => .int
  | 11 => .int
  | 12 => .int
  | _ => .int
abbrev wsX90 : List Cond := u_ws RX9 TX9 14
theorem nmX9 : ∀ a, a < 14 → ∀ b, b < 14 → a ≠ b → (TX9 a).2.1 ≠ (TX9 b).2.1 := by decide +kernel
theorem tyX9_ok : ∀ k, k < 14 → parseFieldDescriptor (TX9 k).2.2.1 = some (tyX9 k) := by decide +kernel
abbrev cX9_init : ByteArray := prog_11_method_1_code
def yX9_init : MethodName := ⟨RX9, "<init>", "()V"⟩
abbrev cX9_in : ByteArray := prog_11_method_2_code
def yX9_in : MethodName := ⟨RX9, "in", "(III)Z"⟩
abbrev cX9_fields : ByteArray := prog_11_method_3_code
def yX9_fields : MethodName := ⟨RX9, "fields", "()I"⟩
abbrev cX9_registers : ByteArray := prog_11_method_4_code
def yX9_registers : MethodName := ⟨RX9, "registers", "()I"⟩
abbrev cX9_isField : ByteArray := prog_11_method_5_code
def yX9_isField : MethodName := ⟨RX9, "isField", "(I)Z"⟩
abbrev cX9_isRegister : ByteArray := prog_11_method_6_code
def yX9_isRegister : MethodName := ⟨RX9, "isRegister", "(I)Z"⟩
abbrev cX9_most : ByteArray := prog_11_method_7_code
def yX9_most : MethodName := ⟨RX9, "most", "(I)I"⟩
abbrev cX9_bitsOf : ByteArray := prog_11_method_8_code
def yX9_bitsOf : MethodName := ⟨RX9, "bitsOf", "(I)I"⟩
abbrev cX9_reset : ByteArray := prog_11_method_9_code
def yX9_reset : MethodName := ⟨RX9, "reset", "(I)V"⟩
abbrev cX9_repair : ByteArray := prog_11_method_10_code
def yX9_repair : MethodName := ⟨RX9, "repair", "(I)V"⟩
abbrev cX9_begin : ByteArray := prog_11_method_11_code
def yX9_begin : MethodName := ⟨RX9, "begin", "()V"⟩
abbrev cX9_emptyLog : ByteArray := prog_11_method_12_code
def yX9_emptyLog : MethodName := ⟨RX9, "emptyLog", "()V"⟩
abbrev cX9_isLocked : ByteArray := prog_11_method_13_code
def yX9_isLocked : MethodName := ⟨RX9, "isLocked", "(II)Z"⟩
abbrev cX9_goesTo : ByteArray := prog_11_method_14_code
def yX9_goesTo : MethodName := ⟨RX9, "goesTo", "(I)I"⟩
abbrev cX9_registerOf : ByteArray := prog_11_method_15_code
def yX9_registerOf : MethodName := ⟨RX9, "registerOf", "(I)I"⟩
abbrev cX9_tellsOf : ByteArray := prog_11_method_16_code
def yX9_tellsOf : MethodName := ⟨RX9, "tellsOf", "(II)I"⟩
abbrev cX9_peekAt : ByteArray := prog_11_method_17_code
def yX9_peekAt : MethodName := ⟨RX9, "peekAt", "(II)I"⟩
abbrev cX9_clearRead : ByteArray := prog_11_method_18_code
def yX9_clearRead : MethodName := ⟨RX9, "clearRead", "(II)V"⟩
abbrev cX9_readOf : ByteArray := prog_11_method_19_code
def yX9_readOf : MethodName := ⟨RX9, "readOf", "(II)I"⟩
abbrev cX9_by : ByteArray := prog_11_method_20_code
def yX9_by : MethodName := ⟨RX9, "by", "(IIIZ)I"⟩
abbrev cX9_letIn : ByteArray := prog_11_method_21_code
def yX9_letIn : MethodName := ⟨RX9, "letIn", "(IIII)V"⟩
abbrev cX9_openGates : ByteArray := prog_11_method_22_code
def yX9_openGates : MethodName := ⟨RX9, "openGates", "(III)V"⟩
abbrev cX9_writeTo : ByteArray := prog_11_method_23_code
def yX9_writeTo : MethodName := ⟨RX9, "writeTo", "(III)V"⟩
abbrev cX9_copyMachine : ByteArray := prog_11_method_24_code
def yX9_copyMachine : MethodName := ⟨RX9, "copyMachine", "(II)V"⟩
abbrev cX9_otherFields : ByteArray := prog_11_method_25_code
def yX9_otherFields : MethodName := ⟨RX9, "otherFields", "(II)I"⟩
abbrev cX9_note : ByteArray := prog_11_method_26_code
def yX9_note : MethodName := ⟨RX9, "note", "()V"⟩
abbrev cX9_resets : ByteArray := prog_11_method_27_code
def yX9_resets : MethodName := ⟨RX9, "resets", "()I"⟩
abbrev cX9_logs : ByteArray := prog_11_method_28_code
def yX9_logs : MethodName := ⟨RX9, "logs", "(III)V"⟩
abbrev cX9_reads : ByteArray := prog_11_method_29_code
def yX9_reads : MethodName := ⟨RX9, "reads", "(I)I"⟩
abbrev cX9_writes : ByteArray := prog_11_method_30_code
def yX9_writes : MethodName := ⟨RX9, "writes", "(II)I"⟩
abbrev cX9_sets : ByteArray := prog_11_method_31_code
def yX9_sets : MethodName := ⟨RX9, "sets", "(II)I"⟩
abbrev cX9_breaks : ByteArray := prog_11_method_32_code
def yX9_breaks : MethodName := ⟨RX9, "breaks", "(II)I"⟩
abbrev cX9_undo : ByteArray := prog_11_method_33_code
def yX9_undo : MethodName := ⟨RX9, "undo", "()I"⟩
abbrev cX9_field : ByteArray := prog_11_method_34_code
def yX9_field : MethodName := ⟨RX9, "field", "(II)I"⟩
abbrev cX9_register : ByteArray := prog_11_method_35_code
def yX9_register : MethodName := ⟨RX9, "register", "(II)I"⟩
abbrev cX9_alias : ByteArray := prog_11_method_36_code
def yX9_alias : MethodName := ⟨RX9, "alias", "(II)I"⟩
abbrev cX9_at : ByteArray := prog_11_method_37_code
def yX9_at : MethodName := ⟨RX9, "at", "(I)I"⟩
abbrev cX9_peek : ByteArray := prog_11_method_38_code
def yX9_peek : MethodName := ⟨RX9, "peek", "(II)I"⟩
abbrev cX9_differed : ByteArray := prog_11_method_39_code
def yX9_differed : MethodName := ⟨RX9, "differed", "(I)I"⟩
abbrev cX9_log : ByteArray := prog_11_method_40_code
def yX9_log : MethodName := ⟨RX9, "log", "(II)I"⟩
abbrev cX9_wouldTell : ByteArray := prog_11_method_41_code
def yX9_wouldTell : MethodName := ⟨RX9, "wouldTell", "(II)Z"⟩
abbrev cX9_suspects : ByteArray := prog_11_method_42_code
def yX9_suspects : MethodName := ⟨RX9, "suspects", "(I)I"⟩
abbrev cX9_clashes : ByteArray := prog_11_method_43_code
def yX9_clashes : MethodName := ⟨RX9, "clashes", "(I)I"⟩
abbrev cX9_tryWrite : ByteArray := prog_11_method_44_code
def yX9_tryWrite : MethodName := ⟨RX9, "tryWrite", "(II)V"⟩
abbrev cX9_touched : ByteArray := prog_11_method_45_code
def yX9_touched : MethodName := ⟨RX9, "touched", "(II)I"⟩
abbrev cX9_way : ByteArray := prog_11_method_46_code
def yX9_way : MethodName := ⟨RX9, "way", "(II)I"⟩
abbrev cX9_isLockOrGate : ByteArray := prog_11_method_47_code
def yX9_isLockOrGate : MethodName := ⟨RX9, "isLockOrGate", "(II)Z"⟩
abbrev cX9_isWalked : ByteArray := prog_11_method_48_code
def yX9_isWalked : MethodName := ⟨RX9, "isWalked", "(I)Z"⟩
abbrev cX9_bitsBy : ByteArray := prog_11_method_49_code
def yX9_bitsBy : MethodName := ⟨RX9, "bitsBy", "(IZ)I"⟩
abbrev cX9_walk : ByteArray := prog_11_method_50_code
def yX9_walk : MethodName := ⟨RX9, "walk", "(II)I"⟩
abbrev cX9_keep : ByteArray := prog_11_method_51_code
def yX9_keep : MethodName := ⟨RX9, "keep", "(I)I"⟩
abbrev cX9_back : ByteArray := prog_11_method_52_code
def yX9_back : MethodName := ⟨RX9, "back", "(I)I"⟩
abbrev cX9_fieldBits : ByteArray := prog_11_method_53_code
def yX9_fieldBits : MethodName := ⟨RX9, "fieldBits", "()I"⟩
abbrev cX9_brokenMany : ByteArray := prog_11_method_54_code
def yX9_brokenMany : MethodName := ⟨RX9, "brokenMany", "()I"⟩
abbrev cX9_count : ByteArray := prog_11_method_55_code
def yX9_count : MethodName := ⟨RX9, "count", "(I)I"⟩
abbrev cX9_type : ByteArray := prog_11_method_56_code
def yX9_type : MethodName := ⟨RX9, "type", "(I)I"⟩
abbrev cX9_clear : ByteArray := prog_11_method_57_code
def yX9_clear : MethodName := ⟨RX9, "clear", "()I"⟩
abbrev cX9_isHere : ByteArray := prog_11_method_58_code
def yX9_isHere : MethodName := ⟨RX9, "isHere", "(II)Z"⟩
abbrev cX9_kindOf : ByteArray := prog_11_method_59_code
def yX9_kindOf : MethodName := ⟨RX9, "kindOf", "(I)I"⟩
abbrev cX9_next : ByteArray := prog_11_method_60_code
def yX9_next : MethodName := ⟨RX9, "next", "()V"⟩
abbrev cX9_must : ByteArray := prog_11_method_61_code
def yX9_must : MethodName := ⟨RX9, "must", "(Z)I"⟩
abbrev cX9_number : ByteArray := prog_11_method_62_code
def yX9_number : MethodName := ⟨RX9, "number", "(II)I"⟩
abbrev cX9_usedBits : ByteArray := prog_11_method_63_code
def yX9_usedBits : MethodName := ⟨RX9, "usedBits", "(I)I"⟩
abbrev cX9_readRegister : ByteArray := prog_11_method_64_code
def yX9_readRegister : MethodName := ⟨RX9, "readRegister", "()V"⟩
abbrev cX9_readField : ByteArray := prog_11_method_65_code
def yX9_readField : MethodName := ⟨RX9, "readField", "()V"⟩
abbrev cX9_readAlias : ByteArray := prog_11_method_66_code
def yX9_readAlias : MethodName := ⟨RX9, "readAlias", "()V"⟩
abbrev cX9_readLink : ByteArray := prog_11_method_67_code
def yX9_readLink : MethodName := ⟨RX9, "readLink", "(I)V"⟩
abbrev cX9_readItem : ByteArray := prog_11_method_68_code
def yX9_readItem : MethodName := ⟨RX9, "readItem", "()V"⟩
abbrev cX9_tells : ByteArray := prog_11_method_69_code
def yX9_tells : MethodName := ⟨RX9, "tells", "()I"⟩
def RJ6 : String := "java/lang/Integer"
def TJ6 : u_T := fun k => match k with
  | _ => ("", "", "", false)
def tyJ6 : Nat → FieldType := fun k => match k with
  | _ => .int
abbrev wsJ60 : List Cond := u_ws RJ6 TJ6 0
theorem nmJ6 : ∀ a, a < 0 → ∀ b, b < 0 → a ≠ b → (TJ6 a).2.1 ≠ (TJ6 b).2.1 := by decide +kernel
theorem tyJ6_ok : ∀ k, k < 0 → parseFieldDescriptor (TJ6 k).2.2.1 = some (tyJ6 k) := by decide +kernel
abbrev cJ6_bitCount_0f7a4 : ByteArray := prog_12_method_49_code
def yJ6_bitCount_0f7a4 : MethodName := ⟨RJ6, "bitCount", "(I)I"⟩
def RJ9 : String := "java/lang/Math"
def TJ9 : u_T := fun k => match k with
  | _ => ("", "", "", false)
def tyJ9 : Nat → FieldType := fun k => match k with
  | _ => .int
abbrev wsJ90 : List Cond := u_ws RJ9 TJ9 0
theorem nmJ9 : ∀ a, a < 0 → ∀ b, b < 0 → a ≠ b → (TJ9 a).2.1 ≠ (TJ9 b).2.1 := by decide +kernel
theorem tyJ9_ok : ∀ k, k < 0 → parseFieldDescriptor (TJ9 k).2.2.1 = some (tyJ9 k) := by decide +kernel
abbrev cJ9_min_7cf53 : ByteArray := prog_13_method_69_code
def yJ9_min_7cf53 : MethodName := ⟨RJ9, "min", "(II)I"⟩
def RJ10 : String := "java/lang/System"
def TJ10 : u_T := fun k => match k with
  | _ => ("", "", "", false)
def tyJ10 : Nat → FieldType := fun k => match k with
  | _ => .int
abbrev wsJ100 : List Cond := u_ws RJ10 TJ10 0
theorem nmJ10 : ∀ a, a < 0 → ∀ b, b < 0 → a ≠ b → (TJ10 a).2.1 ≠ (TJ10 b).2.1 := by decide +kernel
theorem tyJ10_ok : ∀ k, k < 0 → parseFieldDescriptor (TJ10 k).2.2.1 = some (tyJ10 k) := by decide +kernel
def RL : String := "MirrorBytesLaw"
abbrev cL_law : ByteArray := code
def yL_law : MethodName := ⟨RL, "law", "([I)Z"⟩
abbrev vwCl : List vw_C := [(RX0, TX0, 15), (RX1, TX1, 4), (RX2, TX2, 3), (RX3, TX3, 4), (RX4, TX4, 2), (RX5, TX5, 5), (RX6, TX6, 2), (RX7, TX7, 4), (RX8, TX8, 8), (RX9, TX9, 14)]
theorem inX0 : ∀ w ∈ wsX00, w ∈ lw_tbl := by decide +kernel
theorem inX1 : ∀ w ∈ wsX10, w ∈ lw_tbl := by decide +kernel
theorem inX2 : ∀ w ∈ wsX20, w ∈ lw_tbl := by decide +kernel
theorem inX3 : ∀ w ∈ wsX30, w ∈ lw_tbl := by decide +kernel
theorem inX4 : ∀ w ∈ wsX40, w ∈ lw_tbl := by decide +kernel
theorem inX5 : ∀ w ∈ wsX50, w ∈ lw_tbl := by decide +kernel
theorem inX6 : ∀ w ∈ wsX60, w ∈ lw_tbl := by decide +kernel
theorem inX7 : ∀ w ∈ wsX70, w ∈ lw_tbl := by decide +kernel
theorem inX8 : ∀ w ∈ wsX80, w ∈ lw_tbl := by decide +kernel
theorem inX9 : ∀ w ∈ wsX90, w ∈ lw_tbl := by decide +kernel
end
section
def gt : List Cond := lw_tbl.filter goodWord
theorem gm {w : Cond} {i : Nat} (h : lw_tbl[i]? = some w) (g : goodWord w = true) : w ∈ gt := List.mem_filter.mpr ⟨List.mem_of_getElem? h, g⟩
theorem gt_good {w : Cond} (h : w ∈ gt) : (w.onTables && w.keeps) = true ∨ ∃ ty, w = .arrayClass ty := good_of_word (List.mem_filter.mp h).2
theorem gt_tbl {w : Cond} (h : w ∈ gt) : w ∈ lw_tbl := (List.mem_filter.mp h).1
theorem gt_in {ws : List Cond} (h : ∀ w ∈ ws, w ∈ lw_tbl) (g : ws.all goodWord = true) : ∀ w ∈ ws, w ∈ gt := fun w hw => List.mem_filter.mpr ⟨h w hw, List.all_eq_true.mp g w hw⟩
theorem ig0 : ∀ w ∈ wsX00, w ∈ gt := gt_in inX0 (by decide +kernel)
theorem ig1 : ∀ w ∈ wsX10, w ∈ gt := gt_in inX1 (by decide +kernel)
theorem ig2 : ∀ w ∈ wsX20, w ∈ gt := gt_in inX2 (by decide +kernel)
theorem ig3 : ∀ w ∈ wsX30, w ∈ gt := gt_in inX3 (by decide +kernel)
theorem ig4 : ∀ w ∈ wsX40, w ∈ gt := gt_in inX4 (by decide +kernel)
theorem ig5 : ∀ w ∈ wsX50, w ∈ gt := gt_in inX5 (by decide +kernel)
theorem ig6 : ∀ w ∈ wsX60, w ∈ gt := gt_in inX6 (by decide +kernel)
theorem ig7 : ∀ w ∈ wsX70, w ∈ gt := gt_in inX7 (by decide +kernel)
theorem ig8 : ∀ w ∈ wsX80, w ∈ gt := gt_in inX8 (by decide +kernel)
theorem ig9 : ∀ w ∈ wsX90, w ∈ gt := gt_in inX9 (by decide +kernel)
theorem se_X8_changedBy : Cond.selects RX8 yX8_changedBy yX8_changedBy ∈ gt := gm (i := 0) (by decide +kernel) rfl
theorem se_X8_wouldReadTheSame : Cond.selects RX8 yX8_wouldReadTheSame yX8_wouldReadTheSame ∈ gt := gm (i := 1) (by decide +kernel) rfl
theorem se_X8_byteThatGives : Cond.selects RX8 yX8_byteThatGives yX8_byteThatGives ∈ gt := gm (i := 2) (by decide +kernel) rfl
theorem se_X8_walkedBits : Cond.selects RX8 yX8_walkedBits yX8_walkedBits ∈ gt := gm (i := 3) (by decide +kernel) rfl
theorem se_X8_stepOfWalk : Cond.selects RX8 yX8_stepOfWalk yX8_stepOfWalk ∈ gt := gm (i := 4) (by decide +kernel) rfl
theorem se_X9_begin : Cond.selects RX9 yX9_begin yX9_begin ∈ gt := gm (i := 5) (by decide +kernel) rfl
theorem se_X9_repair : Cond.selects RX9 yX9_repair yX9_repair ∈ gt := gm (i := 6) (by decide +kernel) rfl
theorem se_X9_fields : Cond.selects RX9 yX9_fields yX9_fields ∈ gt := gm (i := 7) (by decide +kernel) rfl
theorem se_X9_reset : Cond.selects RX9 yX9_reset yX9_reset ∈ gt := gm (i := 8) (by decide +kernel) rfl
theorem se_X9_emptyLog : Cond.selects RX9 yX9_emptyLog yX9_emptyLog ∈ gt := gm (i := 9) (by decide +kernel) rfl
theorem se_X9_note : Cond.selects RX9 yX9_note yX9_note ∈ gt := gm (i := 10) (by decide +kernel) rfl
theorem se_X9_goesTo : Cond.selects RX9 yX9_goesTo yX9_goesTo ∈ gt := gm (i := 11) (by decide +kernel) rfl
theorem se_X9_registers : Cond.selects RX9 yX9_registers yX9_registers ∈ gt := gm (i := 12) (by decide +kernel) rfl
theorem se_X9_peekAt : Cond.selects RX9 yX9_peekAt yX9_peekAt ∈ gt := gm (i := 13) (by decide +kernel) rfl
theorem se_X9_registerOf : Cond.selects RX9 yX9_registerOf yX9_registerOf ∈ gt := gm (i := 14) (by decide +kernel) rfl
theorem se_X9_tellsOf : Cond.selects RX9 yX9_tellsOf yX9_tellsOf ∈ gt := gm (i := 15) (by decide +kernel) rfl
theorem se_X9_readOf : Cond.selects RX9 yX9_readOf yX9_readOf ∈ gt := gm (i := 16) (by decide +kernel) rfl
theorem se_X9_clearRead : Cond.selects RX9 yX9_clearRead yX9_clearRead ∈ gt := gm (i := 17) (by decide +kernel) rfl
theorem se_X9_most : Cond.selects RX9 yX9_most yX9_most ∈ gt := gm (i := 18) (by decide +kernel) rfl
theorem se_X9_logs : Cond.selects RX9 yX9_logs yX9_logs ∈ gt := gm (i := 19) (by decide +kernel) rfl
theorem se_X9_copyMachine : Cond.selects RX9 yX9_copyMachine yX9_copyMachine ∈ gt := gm (i := 20) (by decide +kernel) rfl
theorem se_X9_writeTo : Cond.selects RX9 yX9_writeTo yX9_writeTo ∈ gt := gm (i := 21) (by decide +kernel) rfl
theorem se_X9_isLocked : Cond.selects RX9 yX9_isLocked yX9_isLocked ∈ gt := gm (i := 22) (by decide +kernel) rfl
theorem se_X9_letIn : Cond.selects RX9 yX9_letIn yX9_letIn ∈ gt := gm (i := 23) (by decide +kernel) rfl
theorem se_X9_openGates : Cond.selects RX9 yX9_openGates yX9_openGates ∈ gt := gm (i := 24) (by decide +kernel) rfl
theorem se_X9_otherFields : Cond.selects RX9 yX9_otherFields yX9_otherFields ∈ gt := gm (i := 25) (by decide +kernel) rfl
theorem se_X9_isField : Cond.selects RX9 yX9_isField yX9_isField ∈ gt := gm (i := 26) (by decide +kernel) rfl
theorem se_X9_isRegister : Cond.selects RX9 yX9_isRegister yX9_isRegister ∈ gt := gm (i := 27) (by decide +kernel) rfl
theorem se_X9_wouldTell : Cond.selects RX9 yX9_wouldTell yX9_wouldTell ∈ gt := gm (i := 28) (by decide +kernel) rfl
theorem se_X9_tryWrite : Cond.selects RX9 yX9_tryWrite yX9_tryWrite ∈ gt := gm (i := 29) (by decide +kernel) rfl
theorem se_X9_isWalked : Cond.selects RX9 yX9_isWalked yX9_isWalked ∈ gt := gm (i := 30) (by decide +kernel) rfl
theorem se_X9_isLockOrGate : Cond.selects RX9 yX9_isLockOrGate yX9_isLockOrGate ∈ gt := gm (i := 31) (by decide +kernel) rfl
theorem se_X9_bitsBy : Cond.selects RX9 yX9_bitsBy yX9_bitsBy ∈ gt := gm (i := 32) (by decide +kernel) rfl
theorem se_X9_bitsOf : Cond.selects RX9 yX9_bitsOf yX9_bitsOf ∈ gt := gm (i := 33) (by decide +kernel) rfl
theorem se_X9_fieldBits : Cond.selects RX9 yX9_fieldBits yX9_fieldBits ∈ gt := gm (i := 34) (by decide +kernel) rfl
theorem se_X9_brokenMany : Cond.selects RX9 yX9_brokenMany yX9_brokenMany ∈ gt := gm (i := 35) (by decide +kernel) rfl
theorem se_X9_next : Cond.selects RX9 yX9_next yX9_next ∈ gt := gm (i := 36) (by decide +kernel) rfl
theorem se_X9_isHere : Cond.selects RX9 yX9_isHere yX9_isHere ∈ gt := gm (i := 37) (by decide +kernel) rfl
theorem se_X9_readItem : Cond.selects RX9 yX9_readItem yX9_readItem ∈ gt := gm (i := 38) (by decide +kernel) rfl
theorem se_X9_must : Cond.selects RX9 yX9_must yX9_must ∈ gt := gm (i := 39) (by decide +kernel) rfl
theorem se_X9_readRegister : Cond.selects RX9 yX9_readRegister yX9_readRegister ∈ gt := gm (i := 40) (by decide +kernel) rfl
theorem se_X9_number : Cond.selects RX9 yX9_number yX9_number ∈ gt := gm (i := 41) (by decide +kernel) rfl
theorem se_X9_readField : Cond.selects RX9 yX9_readField yX9_readField ∈ gt := gm (i := 42) (by decide +kernel) rfl
theorem se_X9_usedBits : Cond.selects RX9 yX9_usedBits yX9_usedBits ∈ gt := gm (i := 43) (by decide +kernel) rfl
theorem se_X9_readAlias : Cond.selects RX9 yX9_readAlias yX9_readAlias ∈ gt := gm (i := 44) (by decide +kernel) rfl
theorem se_X9_readLink : Cond.selects RX9 yX9_readLink yX9_readLink ∈ gt := gm (i := 45) (by decide +kernel) rfl
theorem ini_L : Cond.initialized RL ∈ gt := gm (i := 46) (by decide +kernel) rfl
theorem ini_X8 : Cond.initialized RX8 ∈ gt := gm (i := 47) (by decide +kernel) rfl
theorem ini_X6 : Cond.initialized RX6 ∈ gt := gm (i := 48) (by decide +kernel) rfl
theorem ini_X4 : Cond.initialized RX4 ∈ gt := gm (i := 49) (by decide +kernel) rfl
theorem ini_X0 : Cond.initialized RX0 ∈ gt := gm (i := 50) (by decide +kernel) rfl
theorem ini_X7 : Cond.initialized RX7 ∈ gt := gm (i := 51) (by decide +kernel) rfl
theorem ini_X5 : Cond.initialized RX5 ∈ gt := gm (i := 52) (by decide +kernel) rfl
theorem ini_X1 : Cond.initialized RX1 ∈ gt := gm (i := 53) (by decide +kernel) rfl
theorem ini_X3 : Cond.initialized RX3 ∈ gt := gm (i := 54) (by decide +kernel) rfl
theorem ini_X2 : Cond.initialized RX2 ∈ gt := gm (i := 55) (by decide +kernel) rfl
theorem ini_X9 : Cond.initialized RX9 ∈ gt := gm (i := 56) (by decide +kernel) rfl
theorem ini_J10 : Cond.initialized RJ10 ∈ gt := gm (i := 57) (by decide +kernel) rfl
theorem ini_J9 : Cond.initialized RJ9 ∈ gt := gm (i := 58) (by decide +kernel) rfl
theorem ini_J6 : Cond.initialized RJ6 ∈ gt := gm (i := 59) (by decide +kernel) rfl
theorem cl_L_7 : Cond.classLink RL 7 RX8 ∈ gt := gm (i := 60) (by decide +kernel) rfl
theorem ia_X8 : Cond.instantiable RX8 8 ∈ gt := gm (i := 61) (by decide +kernel) rfl
theorem ml_L_9 : Cond.methodLink RL 9 yX8_init ∈ gt := gm (i := 62) (by decide +kernel) rfl
theorem im_X8_init : Cond.instanceMethod yX8_init ∈ gt := gm (i := 63) (by decide +kernel) rfl
theorem co_X8_init : Cond.code yX8_init cX8_init 2 none ∈ gt := gm (i := 64) (by decide +kernel) rfl
theorem mo_X8 : Cond.methodLink RX8 1 objectInit ∈ gt := gm (i := 65) (by decide +kernel) rfl
theorem cl_X8_7 : Cond.classLink RX8 7 RX6 ∈ gt := gm (i := 68) (by decide +kernel) rfl
theorem ia_X6 : Cond.instantiable RX6 2 ∈ gt := gm (i := 69) (by decide +kernel) rfl
theorem mn_X8_9 : Cond.methodLinkNest RX8 9 yX6_init "MirrorBytes" ∈ lw_tbl := List.mem_of_getElem? (i := 70) (by decide +kernel)
theorem im_X6_init : Cond.instanceMethod yX6_init ∈ gt := gm (i := 71) (by decide +kernel) rfl
theorem co_X6_init : Cond.code yX6_init cX6_init 1 none ∈ gt := gm (i := 72) (by decide +kernel) rfl
theorem mo_X6 : Cond.methodLink RX6 3 objectInit ∈ gt := gm (i := 73) (by decide +kernel) rfl
theorem fl_X6_9 : Cond.fieldLink RX6 9 "MirrorBytes$Text" "content" "[I" ∈ gt := gm (i := 74) (by decide +kernel) rfl
theorem fl_X7_27 : Cond.fieldLink RX7 27 "MirrorBytes$Text" "content" "[I" ∈ gt := gm (i := 75) (by decide +kernel) rfl
theorem fl_X6_15 : Cond.fieldLink RX6 15 "MirrorBytes$Text" "length" "I" ∈ gt := gm (i := 76) (by decide +kernel) rfl
theorem fl_X8_65 : Cond.fieldLink RX8 65 "MirrorBytes$Text" "length" "I" ∈ gt := gm (i := 77) (by decide +kernel) rfl
theorem fl_X7_22 : Cond.fieldLink RX7 22 "MirrorBytes$Text" "length" "I" ∈ gt := gm (i := 78) (by decide +kernel) rfl
theorem cl_X8_16 : Cond.classLink RX8 16 RX4 ∈ gt := gm (i := 85) (by decide +kernel) rfl
theorem ia_X4 : Cond.instantiable RX4 2 ∈ gt := gm (i := 86) (by decide +kernel) rfl
theorem ml_X8_18 : Cond.methodLink RX8 18 yX4_init ∈ gt := gm (i := 87) (by decide +kernel) rfl
theorem im_X4_init : Cond.instanceMethod yX4_init ∈ gt := gm (i := 88) (by decide +kernel) rfl
theorem co_X4_init : Cond.code yX4_init cX4_init 2 none ∈ gt := gm (i := 89) (by decide +kernel) rfl
theorem mo_X4 : Cond.methodLink RX4 3 objectInit ∈ gt := gm (i := 90) (by decide +kernel) rfl
theorem cl_X4_9 : Cond.classLink RX4 9 RX0 ∈ gt := gm (i := 91) (by decide +kernel) rfl
theorem ia_X0 : Cond.instantiable RX0 15 ∈ gt := gm (i := 92) (by decide +kernel) rfl
theorem mn_X4_11 : Cond.methodLinkNest RX4 11 yX0_init "MirrorBytes" ∈ lw_tbl := List.mem_of_getElem? (i := 93) (by decide +kernel)
theorem im_X0_init : Cond.instanceMethod yX0_init ∈ gt := gm (i := 94) (by decide +kernel) rfl
theorem co_X0_init : Cond.code yX0_init cX0_init 1 none ∈ gt := gm (i := 95) (by decide +kernel) rfl
theorem mo_X0 : Cond.methodLink RX0 3 objectInit ∈ gt := gm (i := 96) (by decide +kernel) rfl
theorem fl_X0_48 : Cond.fieldLink RX0 48 "MirrorBytes$Block" "registers" "I" ∈ gt := gm (i := 97) (by decide +kernel) rfl
theorem fl_X4_66 : Cond.fieldLink RX4 66 "MirrorBytes$Block" "registers" "I" ∈ gt := gm (i := 98) (by decide +kernel) rfl
theorem fl_X8_155 : Cond.fieldLink RX8 155 "MirrorBytes$Block" "registers" "I" ∈ gt := gm (i := 99) (by decide +kernel) rfl
theorem fl_X1_110 : Cond.fieldLink RX1 110 "MirrorBytes$Block" "registers" "I" ∈ gt := gm (i := 100) (by decide +kernel) rfl
theorem fl_X0_52 : Cond.fieldLink RX0 52 "MirrorBytes$Block" "fields" "I" ∈ gt := gm (i := 101) (by decide +kernel) rfl
theorem fl_X1_36 : Cond.fieldLink RX1 36 "MirrorBytes$Block" "fields" "I" ∈ gt := gm (i := 102) (by decide +kernel) rfl
theorem fl_X4_89 : Cond.fieldLink RX4 89 "MirrorBytes$Block" "fields" "I" ∈ gt := gm (i := 103) (by decide +kernel) rfl
theorem fl_X8_126 : Cond.fieldLink RX8 126 "MirrorBytes$Block" "fields" "I" ∈ gt := gm (i := 104) (by decide +kernel) rfl
theorem fl_X0_55 : Cond.fieldLink RX0 55 "MirrorBytes$Block" "aliases" "I" ∈ gt := gm (i := 105) (by decide +kernel) rfl
theorem fl_X4_119 : Cond.fieldLink RX4 119 "MirrorBytes$Block" "aliases" "I" ∈ gt := gm (i := 106) (by decide +kernel) rfl
theorem fl_X8_174 : Cond.fieldLink RX8 174 "MirrorBytes$Block" "aliases" "I" ∈ gt := gm (i := 107) (by decide +kernel) rfl
theorem fl_X0_9 : Cond.fieldLink RX0 9 "MirrorBytes$Block" "address" "[I" ∈ gt := gm (i := 108) (by decide +kernel) rfl
theorem fl_X4_73 : Cond.fieldLink RX4 73 "MirrorBytes$Block" "address" "[I" ∈ gt := gm (i := 109) (by decide +kernel) rfl
theorem fl_X8_158 : Cond.fieldLink RX8 158 "MirrorBytes$Block" "address" "[I" ∈ gt := gm (i := 110) (by decide +kernel) rfl
theorem fl_X0_15 : Cond.fieldLink RX0 15 "MirrorBytes$Block" "lock" "[I" ∈ gt := gm (i := 111) (by decide +kernel) rfl
theorem fl_X4_80 : Cond.fieldLink RX4 80 "MirrorBytes$Block" "lock" "[I" ∈ gt := gm (i := 112) (by decide +kernel) rfl
theorem fl_X1_59 : Cond.fieldLink RX1 59 "MirrorBytes$Block" "lock" "[I" ∈ gt := gm (i := 113) (by decide +kernel) rfl
theorem fl_X8_161 : Cond.fieldLink RX8 161 "MirrorBytes$Block" "lock" "[I" ∈ gt := gm (i := 114) (by decide +kernel) rfl
theorem fl_X0_18 : Cond.fieldLink RX0 18 "MirrorBytes$Block" "gate" "[I" ∈ gt := gm (i := 115) (by decide +kernel) rfl
theorem fl_X4_83 : Cond.fieldLink RX4 83 "MirrorBytes$Block" "gate" "[I" ∈ gt := gm (i := 116) (by decide +kernel) rfl
theorem fl_X8_164 : Cond.fieldLink RX8 164 "MirrorBytes$Block" "gate" "[I" ∈ gt := gm (i := 117) (by decide +kernel) rfl
theorem fl_X1_97 : Cond.fieldLink RX1 97 "MirrorBytes$Block" "gate" "[I" ∈ gt := gm (i := 118) (by decide +kernel) rfl
theorem fl_X0_21 : Cond.fieldLink RX0 21 "MirrorBytes$Block" "owner" "[I" ∈ gt := gm (i := 119) (by decide +kernel) rfl
theorem fl_X1_47 : Cond.fieldLink RX1 47 "MirrorBytes$Block" "owner" "[I" ∈ gt := gm (i := 120) (by decide +kernel) rfl
theorem fl_X4_95 : Cond.fieldLink RX4 95 "MirrorBytes$Block" "owner" "[I" ∈ gt := gm (i := 121) (by decide +kernel) rfl
theorem fl_X8_137 : Cond.fieldLink RX8 137 "MirrorBytes$Block" "owner" "[I" ∈ gt := gm (i := 122) (by decide +kernel) rfl
theorem fl_X0_24 : Cond.fieldLink RX0 24 "MirrorBytes$Block" "kind" "[I" ∈ gt := gm (i := 123) (by decide +kernel) rfl
theorem fl_X1_31 : Cond.fieldLink RX1 31 "MirrorBytes$Block" "kind" "[I" ∈ gt := gm (i := 124) (by decide +kernel) rfl
theorem fl_X4_98 : Cond.fieldLink RX4 98 "MirrorBytes$Block" "kind" "[I" ∈ gt := gm (i := 125) (by decide +kernel) rfl
theorem fl_X8_146 : Cond.fieldLink RX8 146 "MirrorBytes$Block" "kind" "[I" ∈ gt := gm (i := 126) (by decide +kernel) rfl
theorem fl_X0_27 : Cond.fieldLink RX0 27 "MirrorBytes$Block" "low" "[I" ∈ gt := gm (i := 127) (by decide +kernel) rfl
theorem fl_X1_53 : Cond.fieldLink RX1 53 "MirrorBytes$Block" "low" "[I" ∈ gt := gm (i := 128) (by decide +kernel) rfl
theorem fl_X4_107 : Cond.fieldLink RX4 107 "MirrorBytes$Block" "low" "[I" ∈ gt := gm (i := 129) (by decide +kernel) rfl
theorem fl_X8_140 : Cond.fieldLink RX8 140 "MirrorBytes$Block" "low" "[I" ∈ gt := gm (i := 130) (by decide +kernel) rfl
theorem fl_X0_30 : Cond.fieldLink RX0 30 "MirrorBytes$Block" "high" "[I" ∈ gt := gm (i := 131) (by decide +kernel) rfl
theorem fl_X4_110 : Cond.fieldLink RX4 110 "MirrorBytes$Block" "high" "[I" ∈ gt := gm (i := 132) (by decide +kernel) rfl
theorem fl_X8_143 : Cond.fieldLink RX8 143 "MirrorBytes$Block" "high" "[I" ∈ gt := gm (i := 133) (by decide +kernel) rfl
theorem fl_X0_33 : Cond.fieldLink RX0 33 "MirrorBytes$Block" "mask" "[I" ∈ gt := gm (i := 134) (by decide +kernel) rfl
theorem fl_X1_50 : Cond.fieldLink RX1 50 "MirrorBytes$Block" "mask" "[I" ∈ gt := gm (i := 135) (by decide +kernel) rfl
theorem fl_X4_113 : Cond.fieldLink RX4 113 "MirrorBytes$Block" "mask" "[I" ∈ gt := gm (i := 136) (by decide +kernel) rfl
theorem fl_X8_259 : Cond.fieldLink RX8 259 "MirrorBytes$Block" "mask" "[I" ∈ gt := gm (i := 137) (by decide +kernel) rfl
theorem fl_X0_36 : Cond.fieldLink RX0 36 "MirrorBytes$Block" "initial" "[I" ∈ gt := gm (i := 138) (by decide +kernel) rfl
theorem fl_X1_40 : Cond.fieldLink RX1 40 "MirrorBytes$Block" "initial" "[I" ∈ gt := gm (i := 139) (by decide +kernel) rfl
theorem fl_X4_116 : Cond.fieldLink RX4 116 "MirrorBytes$Block" "initial" "[I" ∈ gt := gm (i := 140) (by decide +kernel) rfl
theorem fl_X8_149 : Cond.fieldLink RX8 149 "MirrorBytes$Block" "initial" "[I" ∈ gt := gm (i := 141) (by decide +kernel) rfl
theorem fl_X0_39 : Cond.fieldLink RX0 39 "MirrorBytes$Block" "aliasAddress" "[I" ∈ gt := gm (i := 142) (by decide +kernel) rfl
theorem fl_X4_122 : Cond.fieldLink RX4 122 "MirrorBytes$Block" "aliasAddress" "[I" ∈ gt := gm (i := 143) (by decide +kernel) rfl
theorem fl_X8_177 : Cond.fieldLink RX8 177 "MirrorBytes$Block" "aliasAddress" "[I" ∈ gt := gm (i := 144) (by decide +kernel) rfl
theorem fl_X0_42 : Cond.fieldLink RX0 42 "MirrorBytes$Block" "aliasRegister" "[I" ∈ gt := gm (i := 145) (by decide +kernel) rfl
theorem fl_X4_125 : Cond.fieldLink RX4 125 "MirrorBytes$Block" "aliasRegister" "[I" ∈ gt := gm (i := 146) (by decide +kernel) rfl
theorem fl_X8_180 : Cond.fieldLink RX8 180 "MirrorBytes$Block" "aliasRegister" "[I" ∈ gt := gm (i := 147) (by decide +kernel) rfl
theorem fl_X0_45 : Cond.fieldLink RX0 45 "MirrorBytes$Block" "aliasKind" "[I" ∈ gt := gm (i := 148) (by decide +kernel) rfl
theorem fl_X4_132 : Cond.fieldLink RX4 132 "MirrorBytes$Block" "aliasKind" "[I" ∈ gt := gm (i := 149) (by decide +kernel) rfl
theorem fl_X8_183 : Cond.fieldLink RX8 183 "MirrorBytes$Block" "aliasKind" "[I" ∈ gt := gm (i := 150) (by decide +kernel) rfl
theorem fl_X1_90 : Cond.fieldLink RX1 90 "MirrorBytes$Block" "aliasKind" "[I" ∈ gt := gm (i := 151) (by decide +kernel) rfl
theorem cl_X4_18 : Cond.classLink RX4 18 RX7 ∈ gt := gm (i := 183) (by decide +kernel) rfl
theorem ia_X7 : Cond.instantiable RX7 4 ∈ gt := gm (i := 184) (by decide +kernel) rfl
theorem ml_X4_20 : Cond.methodLink RX4 20 yX7_init ∈ gt := gm (i := 185) (by decide +kernel) rfl
theorem im_X7_init : Cond.instanceMethod yX7_init ∈ gt := gm (i := 186) (by decide +kernel) rfl
theorem co_X7_init : Cond.code yX7_init cX7_init 2 none ∈ gt := gm (i := 187) (by decide +kernel) rfl
theorem mo_X7 : Cond.methodLink RX7 3 objectInit ∈ gt := gm (i := 188) (by decide +kernel) rfl
theorem fl_X7_9 : Cond.fieldLink RX7 9 "MirrorBytes$Tokens" "text" "LMirrorBytes$Text;" ∈ gt := gm (i := 189) (by decide +kernel) rfl
theorem fl_X7_19 : Cond.fieldLink RX7 19 "MirrorBytes$Tokens" "start" "I" ∈ gt := gm (i := 190) (by decide +kernel) rfl
theorem fl_X4_44 : Cond.fieldLink RX4 44 "MirrorBytes$Tokens" "start" "I" ∈ gt := gm (i := 191) (by decide +kernel) rfl
theorem fl_X7_15 : Cond.fieldLink RX7 15 "MirrorBytes$Tokens" "end" "I" ∈ gt := gm (i := 192) (by decide +kernel) rfl
theorem fl_X4_36 : Cond.fieldLink RX4 36 "MirrorBytes$Tokens" "sort" "I" ∈ gt := gm (i := 193) (by decide +kernel) rfl
theorem fl_X7_31 : Cond.fieldLink RX7 31 "MirrorBytes$Tokens" "sort" "I" ∈ gt := gm (i := 194) (by decide +kernel) rfl
theorem fl_X4_23 : Cond.fieldLink RX4 23 "MirrorBytes$Parser" "tokens" "LMirrorBytes$Tokens;" ∈ gt := gm (i := 204) (by decide +kernel) rfl
theorem fl_X4_12 : Cond.fieldLink RX4 12 "MirrorBytes$Parser" "block" "LMirrorBytes$Block;" ∈ gt := gm (i := 205) (by decide +kernel) rfl
theorem cl_X8_25 : Cond.classLink RX8 25 RX5 ∈ gt := gm (i := 211) (by decide +kernel) rfl
theorem ia_X5 : Cond.instantiable RX5 5 ∈ gt := gm (i := 212) (by decide +kernel) rfl
theorem mn_X8_27 : Cond.methodLinkNest RX8 27 yX5_init "MirrorBytes" ∈ lw_tbl := List.mem_of_getElem? (i := 213) (by decide +kernel)
theorem im_X5_init : Cond.instanceMethod yX5_init ∈ gt := gm (i := 214) (by decide +kernel) rfl
theorem co_X5_init : Cond.code yX5_init cX5_init 1 none ∈ gt := gm (i := 215) (by decide +kernel) rfl
theorem mo_X5 : Cond.methodLink RX5 3 objectInit ∈ gt := gm (i := 216) (by decide +kernel) rfl
theorem cl_X5_9 : Cond.classLink RX5 9 RX1 ∈ gt := gm (i := 217) (by decide +kernel) rfl
theorem ia_X1 : Cond.instantiable RX1 4 ∈ gt := gm (i := 218) (by decide +kernel) rfl
theorem mn_X5_11 : Cond.methodLinkNest RX5 11 yX1_init "MirrorBytes" ∈ lw_tbl := List.mem_of_getElem? (i := 219) (by decide +kernel)
theorem im_X1_init : Cond.instanceMethod yX1_init ∈ gt := gm (i := 220) (by decide +kernel) rfl
theorem co_X1_init : Cond.code yX1_init cX1_init 1 none ∈ gt := gm (i := 221) (by decide +kernel) rfl
theorem mo_X1 : Cond.methodLink RX1 3 objectInit ∈ gt := gm (i := 222) (by decide +kernel) rfl
theorem fl_X1_9 : Cond.fieldLink RX1 9 "MirrorBytes$Device" "content" "[I" ∈ gt := gm (i := 223) (by decide +kernel) rfl
theorem fl_X8_262 : Cond.fieldLink RX8 262 "MirrorBytes$Device" "content" "[I" ∈ gt := gm (i := 224) (by decide +kernel) rfl
theorem fl_X1_15 : Cond.fieldLink RX1 15 "MirrorBytes$Device" "held" "[I" ∈ gt := gm (i := 225) (by decide +kernel) rfl
theorem fl_X8_171 : Cond.fieldLink RX8 171 "MirrorBytes$Device" "held" "[I" ∈ gt := gm (i := 226) (by decide +kernel) rfl
theorem fl_X1_18 : Cond.fieldLink RX1 18 "MirrorBytes$Device" "entered" "[Z" ∈ gt := gm (i := 227) (by decide +kernel) rfl
theorem fl_X1_22 : Cond.fieldLink RX1 22 "MirrorBytes$Device" "kinds" "[I" ∈ gt := gm (i := 228) (by decide +kernel) rfl
theorem fl_X8_129 : Cond.fieldLink RX8 129 "MirrorBytes$Device" "kinds" "[I" ∈ gt := gm (i := 229) (by decide +kernel) rfl
theorem cl_X5_21 : Cond.classLink RX5 21 RX3 ∈ gt := gm (i := 240) (by decide +kernel) rfl
theorem ia_X3 : Cond.instantiable RX3 4 ∈ gt := gm (i := 241) (by decide +kernel) rfl
theorem mn_X5_23 : Cond.methodLinkNest RX5 23 yX3_init "MirrorBytes" ∈ lw_tbl := List.mem_of_getElem? (i := 242) (by decide +kernel)
theorem im_X3_init : Cond.instanceMethod yX3_init ∈ gt := gm (i := 243) (by decide +kernel) rfl
theorem co_X3_init : Cond.code yX3_init cX3_init 1 none ∈ gt := gm (i := 244) (by decide +kernel) rfl
theorem mo_X3 : Cond.methodLink RX3 3 objectInit ∈ gt := gm (i := 245) (by decide +kernel) rfl
theorem fl_X3_22 : Cond.fieldLink RX3 22 "MirrorBytes$Journal" "length" "I" ∈ gt := gm (i := 246) (by decide +kernel) rfl
theorem fl_X5_50 : Cond.fieldLink RX5 50 "MirrorBytes$Journal" "length" "I" ∈ gt := gm (i := 247) (by decide +kernel) rfl
theorem fl_X8_96 : Cond.fieldLink RX8 96 "MirrorBytes$Journal" "length" "I" ∈ gt := gm (i := 248) (by decide +kernel) rfl
theorem fl_X3_9 : Cond.fieldLink RX3 9 "MirrorBytes$Journal" "address" "[I" ∈ gt := gm (i := 249) (by decide +kernel) rfl
theorem fl_X8_202 : Cond.fieldLink RX8 202 "MirrorBytes$Journal" "address" "[I" ∈ gt := gm (i := 250) (by decide +kernel) rfl
theorem fl_X3_15 : Cond.fieldLink RX3 15 "MirrorBytes$Journal" "isWrite" "[Z" ∈ gt := gm (i := 251) (by decide +kernel) rfl
theorem fl_X8_203 : Cond.fieldLink RX8 203 "MirrorBytes$Journal" "isWrite" "[Z" ∈ gt := gm (i := 252) (by decide +kernel) rfl
theorem fl_X3_19 : Cond.fieldLink RX3 19 "MirrorBytes$Journal" "content" "[I" ∈ gt := gm (i := 253) (by decide +kernel) rfl
theorem fl_X8_206 : Cond.fieldLink RX8 206 "MirrorBytes$Journal" "content" "[I" ∈ gt := gm (i := 254) (by decide +kernel) rfl
theorem fl_X5_12 : Cond.fieldLink RX5 12 "MirrorBytes$Situation" "device" "LMirrorBytes$Device;" ∈ gt := gm (i := 264) (by decide +kernel) rfl
theorem fl_X8_117 : Cond.fieldLink RX8 117 "MirrorBytes$Situation" "device" "LMirrorBytes$Device;" ∈ gt := gm (i := 265) (by decide +kernel) rfl
theorem fl_X5_18 : Cond.fieldLink RX5 18 "MirrorBytes$Situation" "mirror" "LMirrorBytes$Device;" ∈ gt := gm (i := 266) (by decide +kernel) rfl
theorem fl_X8_152 : Cond.fieldLink RX8 152 "MirrorBytes$Situation" "mirror" "LMirrorBytes$Device;" ∈ gt := gm (i := 267) (by decide +kernel) rfl
theorem fl_X5_24 : Cond.fieldLink RX5 24 "MirrorBytes$Situation" "journal" "LMirrorBytes$Journal;" ∈ gt := gm (i := 268) (by decide +kernel) rfl
theorem fl_X8_92 : Cond.fieldLink RX8 92 "MirrorBytes$Situation" "journal" "LMirrorBytes$Journal;" ∈ gt := gm (i := 269) (by decide +kernel) rfl
theorem fl_X5_39 : Cond.fieldLink RX5 39 "MirrorBytes$Situation" "differing" "I" ∈ gt := gm (i := 270) (by decide +kernel) rfl
theorem fl_X8_196 : Cond.fieldLink RX8 196 "MirrorBytes$Situation" "differing" "I" ∈ gt := gm (i := 271) (by decide +kernel) rfl
theorem fl_X5_28 : Cond.fieldLink RX5 28 "MirrorBytes$Situation" "latestDifference" "I" ∈ gt := gm (i := 272) (by decide +kernel) rfl
theorem fl_X8_199 : Cond.fieldLink RX8 199 "MirrorBytes$Situation" "latestDifference" "I" ∈ gt := gm (i := 273) (by decide +kernel) rfl
theorem cl_X8_32 : Cond.classLink RX8 32 RX2 ∈ gt := gm (i := 285) (by decide +kernel) rfl
theorem ia_X2 : Cond.instantiable RX2 3 ∈ gt := gm (i := 286) (by decide +kernel) rfl
theorem ml_X8_34 : Cond.methodLink RX8 34 yX2_init ∈ gt := gm (i := 287) (by decide +kernel) rfl
theorem im_X2_init : Cond.instanceMethod yX2_init ∈ gt := gm (i := 288) (by decide +kernel) rfl
theorem co_X2_init : Cond.code yX2_init cX2_init 2 none ∈ gt := gm (i := 289) (by decide +kernel) rfl
theorem mo_X2 : Cond.methodLink RX2 3 objectInit ∈ gt := gm (i := 290) (by decide +kernel) rfl
theorem cl_X2_9 : Cond.classLink RX2 9 RX5 ∈ gt := gm (i := 291) (by decide +kernel) rfl
theorem mn_X2_17 : Cond.methodLinkNest RX2 17 yX5_init "MirrorBytes" ∈ lw_tbl := List.mem_of_getElem? (i := 293) (by decide +kernel)
theorem fl_X2_11 : Cond.fieldLink RX2 11 "MirrorBytes$History" "before" "[LMirrorBytes$Situation;" ∈ gt := gm (i := 294) (by decide +kernel) rfl
theorem fl_X2_22 : Cond.fieldLink RX2 22 "MirrorBytes$History" "next" "I" ∈ gt := gm (i := 295) (by decide +kernel) rfl
theorem fl_X2_18 : Cond.fieldLink RX2 18 "MirrorBytes$History" "length" "I" ∈ gt := gm (i := 296) (by decide +kernel) rfl
theorem fl_X8_133 : Cond.fieldLink RX8 133 "MirrorBytes$History" "length" "I" ∈ gt := gm (i := 297) (by decide +kernel) rfl
theorem cl_X8_47 : Cond.classLink RX8 47 RX1 ∈ gt := gm (i := 305) (by decide +kernel) rfl
theorem mn_X8_49 : Cond.methodLinkNest RX8 49 yX1_init "MirrorBytes" ∈ lw_tbl := List.mem_of_getElem? (i := 306) (by decide +kernel)
theorem cl_X8_54 : Cond.classLink RX8 54 RX0 ∈ gt := gm (i := 307) (by decide +kernel) rfl
theorem mn_X8_56 : Cond.methodLinkNest RX8 56 yX0_init "MirrorBytes" ∈ lw_tbl := List.mem_of_getElem? (i := 308) (by decide +kernel)
theorem fl_X8_10 : Cond.fieldLink RX8 10 "MirrorBytes" "text" "LMirrorBytes$Text;" ∈ gt := gm (i := 309) (by decide +kernel) rfl
theorem fl_X8_21 : Cond.fieldLink RX8 21 "MirrorBytes" "parser" "LMirrorBytes$Parser;" ∈ gt := gm (i := 310) (by decide +kernel) rfl
theorem fl_X8_28 : Cond.fieldLink RX8 28 "MirrorBytes" "now" "LMirrorBytes$Situation;" ∈ gt := gm (i := 311) (by decide +kernel) rfl
theorem fl_X8_35 : Cond.fieldLink RX8 35 "MirrorBytes" "history" "LMirrorBytes$History;" ∈ gt := gm (i := 312) (by decide +kernel) rfl
theorem fl_X8_39 : Cond.fieldLink RX8 39 "MirrorBytes" "images" "[LMirrorBytes$Situation;" ∈ gt := gm (i := 313) (by decide +kernel) rfl
theorem fl_X8_43 : Cond.fieldLink RX8 43 "MirrorBytes" "imageHeld" "[Z" ∈ gt := gm (i := 314) (by decide +kernel) rfl
theorem fl_X8_50 : Cond.fieldLink RX8 50 "MirrorBytes" "trial" "LMirrorBytes$Device;" ∈ gt := gm (i := 315) (by decide +kernel) rfl
theorem fl_X8_57 : Cond.fieldLink RX8 57 "MirrorBytes" "block" "LMirrorBytes$Block;" ∈ gt := gm (i := 316) (by decide +kernel) rfl
theorem ml_L_13 : Cond.methodLink RL 13 yX8_type ∈ gt := gm (i := 334) (by decide +kernel) rfl
theorem im_X8_type : Cond.instanceMethod yX8_type ∈ gt := gm (i := 335) (by decide +kernel) rfl
theorem se_X8_type : Cond.selects RX8 yX8_type yX8_type ∈ gt := gm (i := 336) (by decide +kernel) rfl
theorem co_X8_type : Cond.code yX8_type cX8_type 2 (some .int) ∈ gt := gm (i := 337) (by decide +kernel) rfl
theorem ml_X8_61 : Cond.methodLink RX8 61 yX8_isWithin ∈ gt := gm (i := 338) (by decide +kernel) rfl
theorem st_X8_isWithin : Cond.static yX8_isWithin ∈ gt := gm (i := 339) (by decide +kernel) rfl
theorem co_X8_isWithin : Cond.code yX8_isWithin cX8_isWithin 2 (some .boolean) ∈ gt := gm (i := 340) (by decide +kernel) rfl
theorem ml_X8_69 : Cond.methodLink RX8 69 yX6_append ∈ gt := gm (i := 341) (by decide +kernel) rfl
theorem im_X6_append : Cond.instanceMethod yX6_append ∈ gt := gm (i := 342) (by decide +kernel) rfl
theorem se_X6_append : Cond.selects RX6 yX6_append yX6_append ∈ gt := gm (i := 343) (by decide +kernel) rfl
theorem co_X6_append : Cond.code yX6_append cX6_append 2 none ∈ gt := gm (i := 344) (by decide +kernel) rfl
theorem ml_L_18 : Cond.methodLink RL 18 yX8_clear ∈ gt := gm (i := 345) (by decide +kernel) rfl
theorem im_X8_clear : Cond.instanceMethod yX8_clear ∈ gt := gm (i := 346) (by decide +kernel) rfl
theorem se_X8_clear : Cond.selects RX8 yX8_clear yX8_clear ∈ gt := gm (i := 347) (by decide +kernel) rfl
theorem co_X8_clear : Cond.code yX8_clear cX8_clear 2 (some .int) ∈ gt := gm (i := 348) (by decide +kernel) rfl
theorem ml_L_23 : Cond.methodLink RL 23 yX8_tells ∈ gt := gm (i := 349) (by decide +kernel) rfl
theorem im_X8_tells : Cond.instanceMethod yX8_tells ∈ gt := gm (i := 350) (by decide +kernel) rfl
theorem se_X8_tells : Cond.selects RX8 yX8_tells yX8_tells ∈ gt := gm (i := 351) (by decide +kernel) rfl
theorem co_X8_tells : Cond.code yX8_tells cX8_tells 3 (some .int) ∈ gt := gm (i := 352) (by decide +kernel) rfl
theorem ml_X8_73 : Cond.methodLink RX8 73 yX4_parse ∈ gt := gm (i := 353) (by decide +kernel) rfl
theorem im_X4_parse : Cond.instanceMethod yX4_parse ∈ gt := gm (i := 354) (by decide +kernel) rfl
theorem se_X4_parse : Cond.selects RX4 yX4_parse yX4_parse ∈ gt := gm (i := 355) (by decide +kernel) rfl
theorem co_X4_parse : Cond.code yX4_parse cX4_parse 2 (some .int) ∈ gt := gm (i := 356) (by decide +kernel) rfl
theorem ml_X4_27 : Cond.methodLink RX4 27 yX0_empty ∈ gt := gm (i := 357) (by decide +kernel) rfl
theorem im_X0_empty : Cond.instanceMethod yX0_empty ∈ gt := gm (i := 358) (by decide +kernel) rfl
theorem se_X0_empty : Cond.selects RX0 yX0_empty yX0_empty ∈ gt := gm (i := 359) (by decide +kernel) rfl
theorem co_X0_empty : Cond.code yX0_empty cX0_empty 1 none ∈ gt := gm (i := 360) (by decide +kernel) rfl
theorem ml_X4_30 : Cond.methodLink RX4 30 yX7_rewind ∈ gt := gm (i := 361) (by decide +kernel) rfl
theorem im_X7_rewind : Cond.instanceMethod yX7_rewind ∈ gt := gm (i := 362) (by decide +kernel) rfl
theorem se_X7_rewind : Cond.selects RX7 yX7_rewind yX7_rewind ∈ gt := gm (i := 363) (by decide +kernel) rfl
theorem co_X7_rewind : Cond.code yX7_rewind cX7_rewind 1 none ∈ gt := gm (i := 364) (by decide +kernel) rfl
theorem ml_X4_33 : Cond.methodLink RX4 33 yX7_advance ∈ gt := gm (i := 365) (by decide +kernel) rfl
theorem im_X7_advance : Cond.instanceMethod yX7_advance ∈ gt := gm (i := 366) (by decide +kernel) rfl
theorem se_X7_advance : Cond.selects RX7 yX7_advance yX7_advance ∈ gt := gm (i := 367) (by decide +kernel) rfl
theorem co_X7_advance : Cond.code yX7_advance cX7_advance 1 none ∈ gt := gm (i := 368) (by decide +kernel) rfl
theorem ml_X7_34 : Cond.methodLink RX7 34 yX6_isLetter ∈ gt := gm (i := 369) (by decide +kernel) rfl
theorem im_X6_isLetter : Cond.instanceMethod yX6_isLetter ∈ gt := gm (i := 370) (by decide +kernel) rfl
theorem se_X6_isLetter : Cond.selects RX6 yX6_isLetter yX6_isLetter ∈ gt := gm (i := 371) (by decide +kernel) rfl
theorem co_X6_isLetter : Cond.code yX6_isLetter cX6_isLetter 2 (some .boolean) ∈ gt := gm (i := 372) (by decide +kernel) rfl
theorem ml_X7_38 : Cond.methodLink RX7 38 yX6_isDigit ∈ gt := gm (i := 373) (by decide +kernel) rfl
theorem im_X6_isDigit : Cond.instanceMethod yX6_isDigit ∈ gt := gm (i := 374) (by decide +kernel) rfl
theorem se_X6_isDigit : Cond.selects RX6 yX6_isDigit yX6_isDigit ∈ gt := gm (i := 375) (by decide +kernel) rfl
theorem co_X6_isDigit : Cond.code yX6_isDigit cX6_isDigit 2 (some .boolean) ∈ gt := gm (i := 376) (by decide +kernel) rfl
theorem ml_X4_40 : Cond.methodLink RX4 40 yX4_readItem ∈ gt := gm (i := 377) (by decide +kernel) rfl
theorem im_X4_readItem : Cond.instanceMethod yX4_readItem ∈ gt := gm (i := 378) (by decide +kernel) rfl
theorem se_X4_readItem : Cond.selects RX4 yX4_readItem yX4_readItem ∈ gt := gm (i := 379) (by decide +kernel) rfl
theorem co_X4_readItem : Cond.code yX4_readItem cX4_readItem 1 (some .boolean) ∈ gt := gm (i := 380) (by decide +kernel) rfl
theorem ml_X4_47 : Cond.methodLink RX4 47 yX7_letter ∈ gt := gm (i := 381) (by decide +kernel) rfl
theorem im_X7_letter : Cond.instanceMethod yX7_letter ∈ gt := gm (i := 382) (by decide +kernel) rfl
theorem se_X7_letter : Cond.selects RX7 yX7_letter yX7_letter ∈ gt := gm (i := 383) (by decide +kernel) rfl
theorem co_X7_letter : Cond.code yX7_letter cX7_letter 1 (some .int) ∈ gt := gm (i := 384) (by decide +kernel) rfl
theorem ml_X4_51 : Cond.methodLink RX4 51 yX4_readRegister ∈ gt := gm (i := 385) (by decide +kernel) rfl
theorem im_X4_readRegister : Cond.instanceMethod yX4_readRegister ∈ gt := gm (i := 386) (by decide +kernel) rfl
theorem se_X4_readRegister : Cond.selects RX4 yX4_readRegister yX4_readRegister ∈ gt := gm (i := 387) (by decide +kernel) rfl
theorem co_X4_readRegister : Cond.code yX4_readRegister cX4_readRegister 2 (some .boolean) ∈ gt := gm (i := 388) (by decide +kernel) rfl
theorem ml_X4_69 : Cond.methodLink RX4 69 yX4_takeNumber ∈ gt := gm (i := 389) (by decide +kernel) rfl
theorem im_X4_takeNumber : Cond.instanceMethod yX4_takeNumber ∈ gt := gm (i := 390) (by decide +kernel) rfl
theorem se_X4_takeNumber : Cond.selects RX4 yX4_takeNumber yX4_takeNumber ∈ gt := gm (i := 391) (by decide +kernel) rfl
theorem co_X4_takeNumber : Cond.code yX4_takeNumber cX4_takeNumber 4 (some .boolean) ∈ gt := gm (i := 392) (by decide +kernel) rfl
theorem ml_X4_77 : Cond.methodLink RX4 77 yX7_number ∈ gt := gm (i := 393) (by decide +kernel) rfl
theorem im_X7_number : Cond.instanceMethod yX7_number ∈ gt := gm (i := 394) (by decide +kernel) rfl
theorem se_X7_number : Cond.selects RX7 yX7_number yX7_number ∈ gt := gm (i := 395) (by decide +kernel) rfl
theorem co_X7_number : Cond.code yX7_number cX7_number 4 (some .int) ∈ gt := gm (i := 396) (by decide +kernel) rfl
theorem ml_X4_86 : Cond.methodLink RX4 86 yX4_takeSemicolon ∈ gt := gm (i := 397) (by decide +kernel) rfl
theorem im_X4_takeSemicolon : Cond.instanceMethod yX4_takeSemicolon ∈ gt := gm (i := 398) (by decide +kernel) rfl
theorem se_X4_takeSemicolon : Cond.selects RX4 yX4_takeSemicolon yX4_takeSemicolon ∈ gt := gm (i := 399) (by decide +kernel) rfl
theorem co_X4_takeSemicolon : Cond.code yX4_takeSemicolon cX4_takeSemicolon 1 (some .boolean) ∈ gt := gm (i := 400) (by decide +kernel) rfl
theorem ml_X4_54 : Cond.methodLink RX4 54 yX4_readField ∈ gt := gm (i := 401) (by decide +kernel) rfl
theorem im_X4_readField : Cond.instanceMethod yX4_readField ∈ gt := gm (i := 402) (by decide +kernel) rfl
theorem se_X4_readField : Cond.selects RX4 yX4_readField yX4_readField ∈ gt := gm (i := 403) (by decide +kernel) rfl
theorem co_X4_readField : Cond.code yX4_readField cX4_readField 7 (some .boolean) ∈ gt := gm (i := 404) (by decide +kernel) rfl
theorem ml_X4_92 : Cond.methodLink RX4 92 yX4_takeKind ∈ gt := gm (i := 405) (by decide +kernel) rfl
theorem im_X4_takeKind : Cond.instanceMethod yX4_takeKind ∈ gt := gm (i := 406) (by decide +kernel) rfl
theorem se_X4_takeKind : Cond.selects RX4 yX4_takeKind yX4_takeKind ∈ gt := gm (i := 407) (by decide +kernel) rfl
theorem co_X4_takeKind : Cond.code yX4_takeKind cX4_takeKind 1 (some .boolean) ∈ gt := gm (i := 408) (by decide +kernel) rfl
theorem ml_X4_101 : Cond.methodLink RX4 101 yX7_kind ∈ gt := gm (i := 409) (by decide +kernel) rfl
theorem im_X7_kind : Cond.instanceMethod yX7_kind ∈ gt := gm (i := 410) (by decide +kernel) rfl
theorem se_X7_kind : Cond.selects RX7 yX7_kind yX7_kind ∈ gt := gm (i := 411) (by decide +kernel) rfl
theorem co_X7_kind : Cond.code yX7_kind cX7_kind 2 (some .int) ∈ gt := gm (i := 412) (by decide +kernel) rfl
theorem ml_X4_103 : Cond.methodLink RX4 103 yX0_usedBits ∈ gt := gm (i := 415) (by decide +kernel) rfl
theorem im_X0_usedBits : Cond.instanceMethod yX0_usedBits ∈ gt := gm (i := 416) (by decide +kernel) rfl
theorem se_X0_usedBits : Cond.selects RX0 yX0_usedBits yX0_usedBits ∈ gt := gm (i := 417) (by decide +kernel) rfl
theorem co_X0_usedBits : Cond.code yX0_usedBits cX0_usedBits 4 (some .int) ∈ gt := gm (i := 418) (by decide +kernel) rfl
theorem ml_X4_57 : Cond.methodLink RX4 57 yX4_readAlias ∈ gt := gm (i := 419) (by decide +kernel) rfl
theorem im_X4_readAlias : Cond.instanceMethod yX4_readAlias ∈ gt := gm (i := 420) (by decide +kernel) rfl
theorem se_X4_readAlias : Cond.selects RX4 yX4_readAlias yX4_readAlias ∈ gt := gm (i := 421) (by decide +kernel) rfl
theorem co_X4_readAlias : Cond.code yX4_readAlias cX4_readAlias 2 (some .boolean) ∈ gt := gm (i := 422) (by decide +kernel) rfl
theorem ml_X4_128 : Cond.methodLink RX4 128 yX4_suitsAlias ∈ gt := gm (i := 423) (by decide +kernel) rfl
theorem st_X4_suitsAlias : Cond.static yX4_suitsAlias ∈ gt := gm (i := 424) (by decide +kernel) rfl
theorem co_X4_suitsAlias : Cond.code yX4_suitsAlias cX4_suitsAlias 1 (some .boolean) ∈ gt := gm (i := 425) (by decide +kernel) rfl
theorem ml_X4_60 : Cond.methodLink RX4 60 yX4_readLock ∈ gt := gm (i := 426) (by decide +kernel) rfl
theorem im_X4_readLock : Cond.instanceMethod yX4_readLock ∈ gt := gm (i := 427) (by decide +kernel) rfl
theorem se_X4_readLock : Cond.selects RX4 yX4_readLock yX4_readLock ∈ gt := gm (i := 428) (by decide +kernel) rfl
theorem co_X4_readLock : Cond.code yX4_readLock cX4_readLock 2 (some .boolean) ∈ gt := gm (i := 429) (by decide +kernel) rfl
theorem ml_X4_63 : Cond.methodLink RX4 63 yX4_readGate ∈ gt := gm (i := 430) (by decide +kernel) rfl
theorem im_X4_readGate : Cond.instanceMethod yX4_readGate ∈ gt := gm (i := 431) (by decide +kernel) rfl
theorem se_X4_readGate : Cond.selects RX4 yX4_readGate yX4_readGate ∈ gt := gm (i := 432) (by decide +kernel) rfl
theorem co_X4_readGate : Cond.code yX4_readGate cX4_readGate 3 (some .boolean) ∈ gt := gm (i := 433) (by decide +kernel) rfl
theorem ml_X8_77 : Cond.methodLink RX8 77 yX4_exchange ∈ gt := gm (i := 434) (by decide +kernel) rfl
theorem im_X4_exchange : Cond.instanceMethod yX4_exchange ∈ gt := gm (i := 435) (by decide +kernel) rfl
theorem se_X4_exchange : Cond.selects RX4 yX4_exchange yX4_exchange ∈ gt := gm (i := 436) (by decide +kernel) rfl
theorem co_X4_exchange : Cond.code yX4_exchange cX4_exchange 3 (some (.object "MirrorBytes$Block")) ∈ gt := gm (i := 437) (by decide +kernel) rfl
theorem ml_X8_81 : Cond.methodLink RX8 81 yX5_startWith ∈ gt := gm (i := 438) (by decide +kernel) rfl
theorem im_X5_startWith : Cond.instanceMethod yX5_startWith ∈ gt := gm (i := 439) (by decide +kernel) rfl
theorem se_X5_startWith : Cond.selects RX5 yX5_startWith yX5_startWith ∈ gt := gm (i := 440) (by decide +kernel) rfl
theorem co_X5_startWith : Cond.code yX5_startWith cX5_startWith 2 none ∈ gt := gm (i := 441) (by decide +kernel) rfl
theorem ml_X5_42 : Cond.methodLink RX5 42 yX1_mend ∈ gt := gm (i := 442) (by decide +kernel) rfl
theorem im_X1_mend : Cond.instanceMethod yX1_mend ∈ gt := gm (i := 443) (by decide +kernel) rfl
theorem se_X1_mend : Cond.selects RX1 yX1_mend yX1_mend ∈ gt := gm (i := 444) (by decide +kernel) rfl
theorem co_X1_mend : Cond.code yX1_mend cX1_mend 2 none ∈ gt := gm (i := 445) (by decide +kernel) rfl
theorem ml_X5_46 : Cond.methodLink RX5 46 yX5_restart ∈ gt := gm (i := 449) (by decide +kernel) rfl
theorem im_X5_restart : Cond.instanceMethod yX5_restart ∈ gt := gm (i := 450) (by decide +kernel) rfl
theorem se_X5_restart : Cond.selects RX5 yX5_restart yX5_restart ∈ gt := gm (i := 451) (by decide +kernel) rfl
theorem co_X5_restart : Cond.code yX5_restart cX5_restart 2 none ∈ gt := gm (i := 452) (by decide +kernel) rfl
theorem ml_X5_49 : Cond.methodLink RX5 49 yX1_restart ∈ gt := gm (i := 453) (by decide +kernel) rfl
theorem im_X1_restart : Cond.instanceMethod yX1_restart ∈ gt := gm (i := 454) (by decide +kernel) rfl
theorem se_X1_restart : Cond.selects RX1 yX1_restart yX1_restart ∈ gt := gm (i := 455) (by decide +kernel) rfl
theorem co_X1_restart : Cond.code yX1_restart cX1_restart 3 none ∈ gt := gm (i := 456) (by decide +kernel) rfl
theorem ml_X1_43 : Cond.methodLink RX1 43 yX1_putValue ∈ gt := gm (i := 457) (by decide +kernel) rfl
theorem im_X1_putValue : Cond.instanceMethod yX1_putValue ∈ gt := gm (i := 458) (by decide +kernel) rfl
theorem se_X1_putValue : Cond.selects RX1 yX1_putValue yX1_putValue ∈ gt := gm (i := 459) (by decide +kernel) rfl
theorem co_X1_putValue : Cond.code yX1_putValue cX1_putValue 4 none ∈ gt := gm (i := 460) (by decide +kernel) rfl
theorem ml_X1_56 : Cond.methodLink RX1 56 yX1_putBits ∈ gt := gm (i := 461) (by decide +kernel) rfl
theorem im_X1_putBits : Cond.instanceMethod yX1_putBits ∈ gt := gm (i := 462) (by decide +kernel) rfl
theorem se_X1_putBits : Cond.selects RX1 yX1_putBits yX1_putBits ∈ gt := gm (i := 463) (by decide +kernel) rfl
theorem co_X1_putBits : Cond.code yX1_putBits cX1_putBits 5 none ∈ gt := gm (i := 464) (by decide +kernel) rfl
theorem ml_X8_85 : Cond.methodLink RX8 85 yX2_forget ∈ gt := gm (i := 465) (by decide +kernel) rfl
theorem im_X2_forget : Cond.instanceMethod yX2_forget ∈ gt := gm (i := 466) (by decide +kernel) rfl
theorem se_X2_forget : Cond.selects RX2 yX2_forget yX2_forget ∈ gt := gm (i := 467) (by decide +kernel) rfl
theorem co_X2_forget : Cond.code yX2_forget cX2_forget 1 none ∈ gt := gm (i := 468) (by decide +kernel) rfl
theorem ml_L_27 : Cond.methodLink RL 27 yX8_resets ∈ gt := gm (i := 469) (by decide +kernel) rfl
theorem im_X8_resets : Cond.instanceMethod yX8_resets ∈ gt := gm (i := 470) (by decide +kernel) rfl
theorem se_X8_resets : Cond.selects RX8 yX8_resets yX8_resets ∈ gt := gm (i := 471) (by decide +kernel) rfl
theorem co_X8_resets : Cond.code yX8_resets cX8_resets 2 (some .int) ∈ gt := gm (i := 472) (by decide +kernel) rfl
theorem ml_X8_88 : Cond.methodLink RX8 88 yX2_remember ∈ gt := gm (i := 473) (by decide +kernel) rfl
theorem im_X2_remember : Cond.instanceMethod yX2_remember ∈ gt := gm (i := 474) (by decide +kernel) rfl
theorem se_X2_remember : Cond.selects RX2 yX2_remember yX2_remember ∈ gt := gm (i := 475) (by decide +kernel) rfl
theorem co_X2_remember : Cond.code yX2_remember cX2_remember 2 none ∈ gt := gm (i := 476) (by decide +kernel) rfl
theorem ml_X2_25 : Cond.methodLink RX2 25 yX5_copyFrom ∈ gt := gm (i := 477) (by decide +kernel) rfl
theorem im_X5_copyFrom : Cond.instanceMethod yX5_copyFrom ∈ gt := gm (i := 478) (by decide +kernel) rfl
theorem se_X5_copyFrom : Cond.selects RX5 yX5_copyFrom yX5_copyFrom ∈ gt := gm (i := 479) (by decide +kernel) rfl
theorem co_X5_copyFrom : Cond.code yX5_copyFrom cX5_copyFrom 2 none ∈ gt := gm (i := 480) (by decide +kernel) rfl
theorem ml_X5_32 : Cond.methodLink RX5 32 yX1_copyFrom ∈ gt := gm (i := 481) (by decide +kernel) rfl
theorem im_X1_copyFrom : Cond.instanceMethod yX1_copyFrom ∈ gt := gm (i := 482) (by decide +kernel) rfl
theorem se_X1_copyFrom : Cond.selects RX1 yX1_copyFrom yX1_copyFrom ∈ gt := gm (i := 483) (by decide +kernel) rfl
theorem co_X1_copyFrom : Cond.code yX1_copyFrom cX1_copyFrom 3 none ∈ gt := gm (i := 484) (by decide +kernel) rfl
theorem ml_X5_36 : Cond.methodLink RX5 36 yX3_copyFrom ∈ gt := gm (i := 485) (by decide +kernel) rfl
theorem im_X3_copyFrom : Cond.instanceMethod yX3_copyFrom ∈ gt := gm (i := 486) (by decide +kernel) rfl
theorem se_X3_copyFrom : Cond.selects RX3 yX3_copyFrom yX3_copyFrom ∈ gt := gm (i := 487) (by decide +kernel) rfl
theorem co_X3_copyFrom : Cond.code yX3_copyFrom cX3_copyFrom 3 none ∈ gt := gm (i := 488) (by decide +kernel) rfl
theorem ml_X2_29 : Cond.methodLink RX2 29 yJ9_min_7cf53 ∈ gt := gm (i := 489) (by decide +kernel) rfl
theorem st_J9_min_7cf53 : Cond.static yJ9_min_7cf53 ∈ gt := gm (i := 490) (by decide +kernel) rfl
theorem co_J9_min_7cf53 : Cond.code yJ9_min_7cf53 cJ9_min_7cf53 2 (some .int) ∈ gt := gm (i := 491) (by decide +kernel) rfl
theorem ml_X8_99 : Cond.methodLink RX8 99 yX5_restart ∈ gt := gm (i := 492) (by decide +kernel) rfl
theorem ml_L_31 : Cond.methodLink RL 31 yX8_reads ∈ gt := gm (i := 493) (by decide +kernel) rfl
theorem im_X8_reads : Cond.instanceMethod yX8_reads ∈ gt := gm (i := 494) (by decide +kernel) rfl
theorem se_X8_reads : Cond.selects RX8 yX8_reads yX8_reads ∈ gt := gm (i := 495) (by decide +kernel) rfl
theorem co_X8_reads : Cond.code yX8_reads cX8_reads 2 (some .int) ∈ gt := gm (i := 496) (by decide +kernel) rfl
theorem ml_X8_102 : Cond.methodLink RX8 102 yX5_performRead ∈ gt := gm (i := 497) (by decide +kernel) rfl
theorem im_X5_performRead : Cond.instanceMethod yX5_performRead ∈ gt := gm (i := 498) (by decide +kernel) rfl
theorem se_X5_performRead : Cond.selects RX5 yX5_performRead yX5_performRead ∈ gt := gm (i := 499) (by decide +kernel) rfl
theorem co_X5_performRead : Cond.code yX5_performRead cX5_performRead 4 (some .int) ∈ gt := gm (i := 500) (by decide +kernel) rfl
theorem ml_X5_53 : Cond.methodLink RX5 53 yX1_read ∈ gt := gm (i := 501) (by decide +kernel) rfl
theorem im_X1_read : Cond.instanceMethod yX1_read ∈ gt := gm (i := 502) (by decide +kernel) rfl
theorem se_X1_read : Cond.selects RX1 yX1_read yX1_read ∈ gt := gm (i := 503) (by decide +kernel) rfl
theorem co_X1_read : Cond.code yX1_read cX1_read 6 (some .int) ∈ gt := gm (i := 504) (by decide +kernel) rfl
theorem ml_X1_77 : Cond.methodLink RX1 77 yX1_look ∈ gt := gm (i := 505) (by decide +kernel) rfl
theorem im_X1_look : Cond.instanceMethod yX1_look ∈ gt := gm (i := 506) (by decide +kernel) rfl
theorem se_X1_look : Cond.selects RX1 yX1_look yX1_look ∈ gt := gm (i := 507) (by decide +kernel) rfl
theorem co_X1_look : Cond.code yX1_look cX1_look 4 (some .int) ∈ gt := gm (i := 508) (by decide +kernel) rfl
theorem ml_X1_70 : Cond.methodLink RX1 70 yX0_registerBehind ∈ gt := gm (i := 509) (by decide +kernel) rfl
theorem im_X0_registerBehind : Cond.instanceMethod yX0_registerBehind ∈ gt := gm (i := 510) (by decide +kernel) rfl
theorem se_X0_registerBehind : Cond.selects RX0 yX0_registerBehind yX0_registerBehind ∈ gt := gm (i := 511) (by decide +kernel) rfl
theorem co_X0_registerBehind : Cond.code yX0_registerBehind cX0_registerBehind 3 (some .int) ∈ gt := gm (i := 512) (by decide +kernel) rfl
theorem ml_X0_74 : Cond.methodLink RX0 74 yX0_aliasAt ∈ gt := gm (i := 513) (by decide +kernel) rfl
theorem im_X0_aliasAt : Cond.instanceMethod yX0_aliasAt ∈ gt := gm (i := 514) (by decide +kernel) rfl
theorem se_X0_aliasAt : Cond.selects RX0 yX0_aliasAt yX0_aliasAt ∈ gt := gm (i := 515) (by decide +kernel) rfl
theorem co_X0_aliasAt : Cond.code yX0_aliasAt cX0_aliasAt 3 (some .int) ∈ gt := gm (i := 516) (by decide +kernel) rfl
theorem ml_X0_71 : Cond.methodLink RX0 71 yX0_registerAt ∈ gt := gm (i := 517) (by decide +kernel) rfl
theorem im_X0_registerAt : Cond.instanceMethod yX0_registerAt ∈ gt := gm (i := 518) (by decide +kernel) rfl
theorem se_X0_registerAt : Cond.selects RX0 yX0_registerAt yX0_registerAt ∈ gt := gm (i := 519) (by decide +kernel) rfl
theorem co_X0_registerAt : Cond.code yX0_registerAt cX0_registerAt 3 (some .int) ∈ gt := gm (i := 520) (by decide +kernel) rfl
theorem ml_X1_74 : Cond.methodLink RX1 74 yX1_shown ∈ gt := gm (i := 521) (by decide +kernel) rfl
theorem im_X1_shown : Cond.instanceMethod yX1_shown ∈ gt := gm (i := 522) (by decide +kernel) rfl
theorem se_X1_shown : Cond.selects RX1 yX1_shown yX1_shown ∈ gt := gm (i := 523) (by decide +kernel) rfl
theorem co_X1_shown : Cond.code yX1_shown cX1_shown 5 (some .int) ∈ gt := gm (i := 524) (by decide +kernel) rfl
theorem ml_X1_80 : Cond.methodLink RX1 80 yX0_registerAt ∈ gt := gm (i := 525) (by decide +kernel) rfl
theorem ml_X5_57 : Cond.methodLink RX5 57 yX1_look ∈ gt := gm (i := 526) (by decide +kernel) rfl
theorem ml_X5_60 : Cond.methodLink RX5 60 yX1_learn ∈ gt := gm (i := 527) (by decide +kernel) rfl
theorem im_X1_learn : Cond.instanceMethod yX1_learn ∈ gt := gm (i := 528) (by decide +kernel) rfl
theorem se_X1_learn : Cond.selects RX1 yX1_learn yX1_learn ∈ gt := gm (i := 529) (by decide +kernel) rfl
theorem co_X1_learn : Cond.code yX1_learn cX1_learn 6 none ∈ gt := gm (i := 530) (by decide +kernel) rfl
theorem ml_X5_64 : Cond.methodLink RX5 64 yX3_append ∈ gt := gm (i := 531) (by decide +kernel) rfl
theorem im_X3_append : Cond.instanceMethod yX3_append ∈ gt := gm (i := 532) (by decide +kernel) rfl
theorem se_X3_append : Cond.selects RX3 yX3_append yX3_append ∈ gt := gm (i := 533) (by decide +kernel) rfl
theorem co_X3_append : Cond.code yX3_append cX3_append 4 none ∈ gt := gm (i := 534) (by decide +kernel) rfl
theorem ml_L_35 : Cond.methodLink RL 35 yX8_writes ∈ gt := gm (i := 535) (by decide +kernel) rfl
theorem im_X8_writes : Cond.instanceMethod yX8_writes ∈ gt := gm (i := 536) (by decide +kernel) rfl
theorem se_X8_writes : Cond.selects RX8 yX8_writes yX8_writes ∈ gt := gm (i := 537) (by decide +kernel) rfl
theorem co_X8_writes : Cond.code yX8_writes cX8_writes 4 (some .int) ∈ gt := gm (i := 538) (by decide +kernel) rfl
theorem ml_X8_106 : Cond.methodLink RX8 106 yX8_changedBy ∈ gt := gm (i := 539) (by decide +kernel) rfl
theorem im_X8_changedBy : Cond.instanceMethod yX8_changedBy ∈ gt := gm (i := 541) (by decide +kernel) rfl
theorem co_X8_changedBy : Cond.code yX8_changedBy cX8_changedBy 5 (some .int) ∈ gt := gm (i := 542) (by decide +kernel) rfl
theorem ml_X8_235 : Cond.methodLink RX8 235 yX1_copyFrom ∈ gt := gm (i := 543) (by decide +kernel) rfl
theorem ml_X8_238 : Cond.methodLink RX8 238 yX1_write ∈ gt := gm (i := 544) (by decide +kernel) rfl
theorem im_X1_write : Cond.instanceMethod yX1_write ∈ gt := gm (i := 545) (by decide +kernel) rfl
theorem se_X1_write : Cond.selects RX1 yX1_write yX1_write ∈ gt := gm (i := 546) (by decide +kernel) rfl
theorem co_X1_write : Cond.code yX1_write cX1_write 6 none ∈ gt := gm (i := 547) (by decide +kernel) rfl
theorem ml_X1_83 : Cond.methodLink RX1 83 yX1_isLocked ∈ gt := gm (i := 548) (by decide +kernel) rfl
theorem im_X1_isLocked : Cond.instanceMethod yX1_isLocked ∈ gt := gm (i := 549) (by decide +kernel) rfl
theorem se_X1_isLocked : Cond.selects RX1 yX1_isLocked yX1_isLocked ∈ gt := gm (i := 550) (by decide +kernel) rfl
theorem co_X1_isLocked : Cond.code yX1_isLocked cX1_isLocked 4 (some .boolean) ∈ gt := gm (i := 551) (by decide +kernel) rfl
theorem mn_X1_62 : Cond.methodLinkNest RX1 62 yX8_isWithin "MirrorBytes" ∈ lw_tbl := List.mem_of_getElem? (i := 552) (by decide +kernel)
theorem ml_X1_66 : Cond.methodLink RX1 66 yX1_valueOf ∈ gt := gm (i := 553) (by decide +kernel) rfl
theorem im_X1_valueOf : Cond.instanceMethod yX1_valueOf ∈ gt := gm (i := 554) (by decide +kernel) rfl
theorem se_X1_valueOf : Cond.selects RX1 yX1_valueOf yX1_valueOf ∈ gt := gm (i := 555) (by decide +kernel) rfl
theorem co_X1_valueOf : Cond.code yX1_valueOf cX1_valueOf 3 (some .int) ∈ gt := gm (i := 556) (by decide +kernel) rfl
theorem ml_X1_87 : Cond.methodLink RX1 87 yX0_aliasAt ∈ gt := gm (i := 557) (by decide +kernel) rfl
theorem ml_X1_93 : Cond.methodLink RX1 93 yX1_letInByAlias ∈ gt := gm (i := 558) (by decide +kernel) rfl
theorem im_X1_letInByAlias : Cond.instanceMethod yX1_letInByAlias ∈ gt := gm (i := 559) (by decide +kernel) rfl
theorem se_X1_letInByAlias : Cond.selects RX1 yX1_letInByAlias yX1_letInByAlias ∈ gt := gm (i := 560) (by decide +kernel) rfl
theorem co_X1_letInByAlias : Cond.code yX1_letInByAlias cX1_letInByAlias 6 none ∈ gt := gm (i := 561) (by decide +kernel) rfl
theorem ml_X1_106 : Cond.methodLink RX1 106 yX1_bitsAfter ∈ gt := gm (i := 562) (by decide +kernel) rfl
theorem im_X1_bitsAfter : Cond.instanceMethod yX1_bitsAfter ∈ gt := gm (i := 563) (by decide +kernel) rfl
theorem se_X1_bitsAfter : Cond.selects RX1 yX1_bitsAfter yX1_bitsAfter ∈ gt := gm (i := 564) (by decide +kernel) rfl
theorem co_X1_bitsAfter : Cond.code yX1_bitsAfter cX1_bitsAfter 4 (some .int) ∈ gt := gm (i := 565) (by decide +kernel) rfl
theorem ml_X1_100 : Cond.methodLink RX1 100 yX1_letIn ∈ gt := gm (i := 566) (by decide +kernel) rfl
theorem im_X1_letIn : Cond.instanceMethod yX1_letIn ∈ gt := gm (i := 567) (by decide +kernel) rfl
theorem se_X1_letIn : Cond.selects RX1 yX1_letIn yX1_letIn ∈ gt := gm (i := 568) (by decide +kernel) rfl
theorem co_X1_letIn : Cond.code yX1_letIn cX1_letIn 5 none ∈ gt := gm (i := 569) (by decide +kernel) rfl
theorem ml_X1_103 : Cond.methodLink RX1 103 yX1_openGates ∈ gt := gm (i := 570) (by decide +kernel) rfl
theorem im_X1_openGates : Cond.instanceMethod yX1_openGates ∈ gt := gm (i := 571) (by decide +kernel) rfl
theorem se_X1_openGates : Cond.selects RX1 yX1_openGates yX1_openGates ∈ gt := gm (i := 572) (by decide +kernel) rfl
theorem co_X1_openGates : Cond.code yX1_openGates cX1_openGates 5 none ∈ gt := gm (i := 573) (by decide +kernel) rfl
theorem ml_X1_113 : Cond.methodLink RX1 113 yX0_isOpenedBy ∈ gt := gm (i := 574) (by decide +kernel) rfl
theorem im_X0_isOpenedBy : Cond.instanceMethod yX0_isOpenedBy ∈ gt := gm (i := 575) (by decide +kernel) rfl
theorem se_X0_isOpenedBy : Cond.selects RX0 yX0_isOpenedBy yX0_isOpenedBy ∈ gt := gm (i := 576) (by decide +kernel) rfl
theorem co_X0_isOpenedBy : Cond.code yX0_isOpenedBy cX0_isOpenedBy 4 (some .boolean) ∈ gt := gm (i := 577) (by decide +kernel) rfl
theorem mn_X0_58 : Cond.methodLinkNest RX0 58 yX8_isWithin "MirrorBytes" ∈ lw_tbl := List.mem_of_getElem? (i := 578) (by decide +kernel)
theorem ml_X8_120 : Cond.methodLink RX8 120 yX1_valueOf ∈ gt := gm (i := 579) (by decide +kernel) rfl
theorem ml_X8_110 : Cond.methodLink RX8 110 yX5_performWrite ∈ gt := gm (i := 580) (by decide +kernel) rfl
theorem im_X5_performWrite : Cond.instanceMethod yX5_performWrite ∈ gt := gm (i := 581) (by decide +kernel) rfl
theorem se_X5_performWrite : Cond.selects RX5 yX5_performWrite yX5_performWrite ∈ gt := gm (i := 582) (by decide +kernel) rfl
theorem co_X5_performWrite : Cond.code yX5_performWrite cX5_performWrite 4 none ∈ gt := gm (i := 583) (by decide +kernel) rfl
theorem ml_X5_68 : Cond.methodLink RX5 68 yX1_write ∈ gt := gm (i := 584) (by decide +kernel) rfl
theorem ml_L_40 : Cond.methodLink RL 40 yX8_sets ∈ gt := gm (i := 585) (by decide +kernel) rfl
theorem im_X8_sets : Cond.instanceMethod yX8_sets ∈ gt := gm (i := 586) (by decide +kernel) rfl
theorem se_X8_sets : Cond.selects RX8 yX8_sets yX8_sets ∈ gt := gm (i := 587) (by decide +kernel) rfl
theorem co_X8_sets : Cond.code yX8_sets cX8_sets 4 (some .int) ∈ gt := gm (i := 588) (by decide +kernel) rfl
theorem ml_X8_114 : Cond.methodLink RX8 114 yX0_canHold ∈ gt := gm (i := 589) (by decide +kernel) rfl
theorem im_X0_canHold : Cond.instanceMethod yX0_canHold ∈ gt := gm (i := 590) (by decide +kernel) rfl
theorem se_X0_canHold : Cond.selects RX0 yX0_canHold yX0_canHold ∈ gt := gm (i := 591) (by decide +kernel) rfl
theorem co_X0_canHold : Cond.code yX0_canHold cX0_canHold 3 (some .boolean) ∈ gt := gm (i := 592) (by decide +kernel) rfl
theorem ml_X0_62 : Cond.methodLink RX0 62 yX0_greatestValue ∈ gt := gm (i := 593) (by decide +kernel) rfl
theorem im_X0_greatestValue : Cond.instanceMethod yX0_greatestValue ∈ gt := gm (i := 594) (by decide +kernel) rfl
theorem se_X0_greatestValue : Cond.selects RX0 yX0_greatestValue yX0_greatestValue ∈ gt := gm (i := 595) (by decide +kernel) rfl
theorem co_X0_greatestValue : Cond.code yX0_greatestValue cX0_greatestValue 2 (some .int) ∈ gt := gm (i := 596) (by decide +kernel) rfl
theorem ml_X8_123 : Cond.methodLink RX8 123 yX1_putValue ∈ gt := gm (i := 597) (by decide +kernel) rfl
theorem ml_L_44 : Cond.methodLink RL 44 yX8_breaks ∈ gt := gm (i := 598) (by decide +kernel) rfl
theorem im_X8_breaks : Cond.instanceMethod yX8_breaks ∈ gt := gm (i := 599) (by decide +kernel) rfl
theorem se_X8_breaks : Cond.selects RX8 yX8_breaks yX8_breaks ∈ gt := gm (i := 600) (by decide +kernel) rfl
theorem co_X8_breaks : Cond.code yX8_breaks cX8_breaks 4 (some .int) ∈ gt := gm (i := 601) (by decide +kernel) rfl
theorem ml_L_48 : Cond.methodLink RL 48 yX8_undo ∈ gt := gm (i := 602) (by decide +kernel) rfl
theorem im_X8_undo : Cond.instanceMethod yX8_undo ∈ gt := gm (i := 603) (by decide +kernel) rfl
theorem se_X8_undo : Cond.selects RX8 yX8_undo yX8_undo ∈ gt := gm (i := 604) (by decide +kernel) rfl
theorem co_X8_undo : Cond.code yX8_undo cX8_undo 1 (some .int) ∈ gt := gm (i := 605) (by decide +kernel) rfl
theorem ml_X8_134 : Cond.methodLink RX8 134 yX2_recall ∈ gt := gm (i := 606) (by decide +kernel) rfl
theorem im_X2_recall : Cond.instanceMethod yX2_recall ∈ gt := gm (i := 607) (by decide +kernel) rfl
theorem se_X2_recall : Cond.selects RX2 yX2_recall yX2_recall ∈ gt := gm (i := 608) (by decide +kernel) rfl
theorem co_X2_recall : Cond.code yX2_recall cX2_recall 2 none ∈ gt := gm (i := 609) (by decide +kernel) rfl
theorem ml_L_52 : Cond.methodLink RL 52 yX8_field ∈ gt := gm (i := 610) (by decide +kernel) rfl
theorem im_X8_field : Cond.instanceMethod yX8_field ∈ gt := gm (i := 611) (by decide +kernel) rfl
theorem se_X8_field : Cond.selects RX8 yX8_field yX8_field ∈ gt := gm (i := 612) (by decide +kernel) rfl
theorem co_X8_field : Cond.code yX8_field cX8_field 3 (some .int) ∈ gt := gm (i := 613) (by decide +kernel) rfl
theorem ml_L_56 : Cond.methodLink RL 56 yX8_register ∈ gt := gm (i := 614) (by decide +kernel) rfl
theorem im_X8_register : Cond.instanceMethod yX8_register ∈ gt := gm (i := 615) (by decide +kernel) rfl
theorem se_X8_register : Cond.selects RX8 yX8_register yX8_register ∈ gt := gm (i := 616) (by decide +kernel) rfl
theorem co_X8_register : Cond.code yX8_register cX8_register 3 (some .int) ∈ gt := gm (i := 617) (by decide +kernel) rfl
theorem ml_X8_167 : Cond.methodLink RX8 167 yX1_isLocked ∈ gt := gm (i := 618) (by decide +kernel) rfl
theorem ml_L_60 : Cond.methodLink RL 60 yX8_alias ∈ gt := gm (i := 619) (by decide +kernel) rfl
theorem im_X8_alias : Cond.instanceMethod yX8_alias ∈ gt := gm (i := 620) (by decide +kernel) rfl
theorem se_X8_alias : Cond.selects RX8 yX8_alias yX8_alias ∈ gt := gm (i := 621) (by decide +kernel) rfl
theorem co_X8_alias : Cond.code yX8_alias cX8_alias 3 (some .int) ∈ gt := gm (i := 622) (by decide +kernel) rfl
theorem ml_L_64 : Cond.methodLink RL 64 yX8_at ∈ gt := gm (i := 623) (by decide +kernel) rfl
theorem im_X8_at : Cond.instanceMethod yX8_at ∈ gt := gm (i := 624) (by decide +kernel) rfl
theorem se_X8_at : Cond.selects RX8 yX8_at yX8_at ∈ gt := gm (i := 625) (by decide +kernel) rfl
theorem co_X8_at : Cond.code yX8_at cX8_at 3 (some .int) ∈ gt := gm (i := 626) (by decide +kernel) rfl
theorem ml_X8_186 : Cond.methodLink RX8 186 yX0_aliasAt ∈ gt := gm (i := 627) (by decide +kernel) rfl
theorem ml_X8_190 : Cond.methodLink RX8 190 yX0_registerAt ∈ gt := gm (i := 628) (by decide +kernel) rfl
theorem ml_L_68 : Cond.methodLink RL 68 yX8_peek ∈ gt := gm (i := 629) (by decide +kernel) rfl
theorem im_X8_peek : Cond.instanceMethod yX8_peek ∈ gt := gm (i := 630) (by decide +kernel) rfl
theorem se_X8_peek : Cond.selects RX8 yX8_peek yX8_peek ∈ gt := gm (i := 631) (by decide +kernel) rfl
theorem co_X8_peek : Cond.code yX8_peek cX8_peek 3 (some .int) ∈ gt := gm (i := 632) (by decide +kernel) rfl
theorem ml_X8_193 : Cond.methodLink RX8 193 yX1_look ∈ gt := gm (i := 633) (by decide +kernel) rfl
theorem ml_L_72 : Cond.methodLink RL 72 yX8_differed ∈ gt := gm (i := 634) (by decide +kernel) rfl
theorem im_X8_differed : Cond.instanceMethod yX8_differed ∈ gt := gm (i := 635) (by decide +kernel) rfl
theorem se_X8_differed : Cond.selects RX8 yX8_differed yX8_differed ∈ gt := gm (i := 636) (by decide +kernel) rfl
theorem co_X8_differed : Cond.code yX8_differed cX8_differed 2 (some .int) ∈ gt := gm (i := 637) (by decide +kernel) rfl
theorem ml_L_76 : Cond.methodLink RL 76 yX8_log ∈ gt := gm (i := 638) (by decide +kernel) rfl
theorem im_X8_log : Cond.instanceMethod yX8_log ∈ gt := gm (i := 639) (by decide +kernel) rfl
theorem se_X8_log : Cond.selects RX8 yX8_log yX8_log ∈ gt := gm (i := 640) (by decide +kernel) rfl
theorem co_X8_log : Cond.code yX8_log cX8_log 3 (some .int) ∈ gt := gm (i := 641) (by decide +kernel) rfl
theorem ml_L_80 : Cond.methodLink RL 80 yX8_suspects ∈ gt := gm (i := 642) (by decide +kernel) rfl
theorem im_X8_suspects : Cond.instanceMethod yX8_suspects ∈ gt := gm (i := 643) (by decide +kernel) rfl
theorem se_X8_suspects : Cond.selects RX8 yX8_suspects yX8_suspects ∈ gt := gm (i := 644) (by decide +kernel) rfl
theorem co_X8_suspects : Cond.code yX8_suspects cX8_suspects 5 (some .int) ∈ gt := gm (i := 645) (by decide +kernel) rfl
theorem ml_X8_209 : Cond.methodLink RX8 209 yX8_wouldReadTheSame ∈ gt := gm (i := 646) (by decide +kernel) rfl
theorem im_X8_wouldReadTheSame : Cond.instanceMethod yX8_wouldReadTheSame ∈ gt := gm (i := 648) (by decide +kernel) rfl
theorem co_X8_wouldReadTheSame : Cond.code yX8_wouldReadTheSame cX8_wouldReadTheSame 3 (some .boolean) ∈ gt := gm (i := 649) (by decide +kernel) rfl
theorem ml_X8_244 : Cond.methodLink RX8 244 yX1_mend ∈ gt := gm (i := 650) (by decide +kernel) rfl
theorem ml_X8_247 : Cond.methodLink RX8 247 yX1_restart ∈ gt := gm (i := 651) (by decide +kernel) rfl
theorem ml_X8_248 : Cond.methodLink RX8 248 yX3_agreesWith ∈ gt := gm (i := 652) (by decide +kernel) rfl
theorem im_X3_agreesWith : Cond.instanceMethod yX3_agreesWith ∈ gt := gm (i := 653) (by decide +kernel) rfl
theorem se_X3_agreesWith : Cond.selects RX3 yX3_agreesWith yX3_agreesWith ∈ gt := gm (i := 654) (by decide +kernel) rfl
theorem co_X3_agreesWith : Cond.code yX3_agreesWith cX3_agreesWith 4 (some .boolean) ∈ gt := gm (i := 655) (by decide +kernel) rfl
theorem ml_X3_26 : Cond.methodLink RX3 26 yX1_write ∈ gt := gm (i := 656) (by decide +kernel) rfl
theorem ml_X3_32 : Cond.methodLink RX3 32 yX1_read ∈ gt := gm (i := 657) (by decide +kernel) rfl
theorem ml_L_84 : Cond.methodLink RL 84 yX8_clashes ∈ gt := gm (i := 658) (by decide +kernel) rfl
theorem im_X8_clashes : Cond.instanceMethod yX8_clashes ∈ gt := gm (i := 659) (by decide +kernel) rfl
theorem se_X8_clashes : Cond.selects RX8 yX8_clashes yX8_clashes ∈ gt := gm (i := 660) (by decide +kernel) rfl
theorem co_X8_clashes : Cond.code yX8_clashes cX8_clashes 5 (some .int) ∈ gt := gm (i := 661) (by decide +kernel) rfl
theorem ml_X8_212 : Cond.methodLink RX8 212 yX0_holdersOf ∈ gt := gm (i := 662) (by decide +kernel) rfl
theorem im_X0_holdersOf : Cond.instanceMethod yX0_holdersOf ∈ gt := gm (i := 663) (by decide +kernel) rfl
theorem se_X0_holdersOf : Cond.selects RX0 yX0_holdersOf yX0_holdersOf ∈ gt := gm (i := 664) (by decide +kernel) rfl
theorem co_X0_holdersOf : Cond.code yX0_holdersOf cX0_holdersOf 4 (some .int) ∈ gt := gm (i := 665) (by decide +kernel) rfl
theorem ml_L_88 : Cond.methodLink RL 88 yX8_touched ∈ gt := gm (i := 666) (by decide +kernel) rfl
theorem im_X8_touched : Cond.instanceMethod yX8_touched ∈ gt := gm (i := 667) (by decide +kernel) rfl
theorem se_X8_touched : Cond.selects RX8 yX8_touched yX8_touched ∈ gt := gm (i := 668) (by decide +kernel) rfl
theorem co_X8_touched : Cond.code yX8_touched cX8_touched 3 (some .int) ∈ gt := gm (i := 669) (by decide +kernel) rfl
theorem ml_L_92 : Cond.methodLink RL 92 yX8_way ∈ gt := gm (i := 670) (by decide +kernel) rfl
theorem im_X8_way : Cond.instanceMethod yX8_way ∈ gt := gm (i := 671) (by decide +kernel) rfl
theorem se_X8_way : Cond.selects RX8 yX8_way yX8_way ∈ gt := gm (i := 672) (by decide +kernel) rfl
theorem co_X8_way : Cond.code yX8_way cX8_way 5 (some .int) ∈ gt := gm (i := 673) (by decide +kernel) rfl
theorem ml_X8_215 : Cond.methodLink RX8 215 yX8_byteThatGives ∈ gt := gm (i := 674) (by decide +kernel) rfl
theorem im_X8_byteThatGives : Cond.instanceMethod yX8_byteThatGives ∈ gt := gm (i := 676) (by decide +kernel) rfl
theorem co_X8_byteThatGives : Cond.code yX8_byteThatGives cX8_byteThatGives 6 (some .int) ∈ gt := gm (i := 677) (by decide +kernel) rfl
theorem ml_X8_241 : Cond.methodLink RX8 241 yX0_canReach ∈ gt := gm (i := 678) (by decide +kernel) rfl
theorem im_X0_canReach : Cond.instanceMethod yX0_canReach ∈ gt := gm (i := 679) (by decide +kernel) rfl
theorem se_X0_canReach : Cond.selects RX0 yX0_canReach yX0_canReach ∈ gt := gm (i := 680) (by decide +kernel) rfl
theorem co_X0_canReach : Cond.code yX0_canReach cX0_canReach 4 (some .boolean) ∈ gt := gm (i := 681) (by decide +kernel) rfl
theorem ml_X0_77 : Cond.methodLink RX0 77 yX0_registerBehind ∈ gt := gm (i := 682) (by decide +kernel) rfl
theorem ml_X0_80 : Cond.methodLink RX0 80 yX0_isOpenedBy ∈ gt := gm (i := 683) (by decide +kernel) rfl
theorem ml_L_96 : Cond.methodLink RL 96 yX8_walk ∈ gt := gm (i := 684) (by decide +kernel) rfl
theorem im_X8_walk : Cond.instanceMethod yX8_walk ∈ gt := gm (i := 685) (by decide +kernel) rfl
theorem se_X8_walk : Cond.selects RX8 yX8_walk yX8_walk ∈ gt := gm (i := 686) (by decide +kernel) rfl
theorem co_X8_walk : Cond.code yX8_walk cX8_walk 8 (some .int) ∈ gt := gm (i := 687) (by decide +kernel) rfl
theorem ml_X8_219 : Cond.methodLink RX8 219 yX8_walkedBits ∈ gt := gm (i := 688) (by decide +kernel) rfl
theorem im_X8_walkedBits : Cond.instanceMethod yX8_walkedBits ∈ gt := gm (i := 690) (by decide +kernel) rfl
theorem co_X8_walkedBits : Cond.code yX8_walkedBits cX8_walkedBits 5 (some .int) ∈ gt := gm (i := 691) (by decide +kernel) rfl
theorem ml_X8_252 : Cond.methodLink RX8 252 yX0_isGate ∈ gt := gm (i := 692) (by decide +kernel) rfl
theorem im_X0_isGate : Cond.instanceMethod yX0_isGate ∈ gt := gm (i := 693) (by decide +kernel) rfl
theorem se_X0_isGate : Cond.selects RX0 yX0_isGate yX0_isGate ∈ gt := gm (i := 694) (by decide +kernel) rfl
theorem co_X0_isGate : Cond.code yX0_isGate cX0_isGate 3 (some .boolean) ∈ gt := gm (i := 695) (by decide +kernel) rfl
theorem ml_X8_256 : Cond.methodLink RX8 256 yX0_isLock ∈ gt := gm (i := 696) (by decide +kernel) rfl
theorem im_X0_isLock : Cond.instanceMethod yX0_isLock ∈ gt := gm (i := 697) (by decide +kernel) rfl
theorem se_X0_isLock : Cond.selects RX0 yX0_isLock yX0_isLock ∈ gt := gm (i := 698) (by decide +kernel) rfl
theorem co_X0_isLock : Cond.code yX0_isLock cX0_isLock 3 (some .boolean) ∈ gt := gm (i := 699) (by decide +kernel) rfl
theorem ml_X8_222 : Cond.methodLink RX8 222 yX8_stepOfWalk ∈ gt := gm (i := 700) (by decide +kernel) rfl
theorem im_X8_stepOfWalk : Cond.instanceMethod yX8_stepOfWalk ∈ gt := gm (i := 702) (by decide +kernel) rfl
theorem co_X8_stepOfWalk : Cond.code yX8_stepOfWalk cX8_stepOfWalk 4 (some .int) ∈ gt := gm (i := 703) (by decide +kernel) rfl
theorem ml_X8_263 : Cond.methodLink RX8 263 yX0_plainBits ∈ gt := gm (i := 704) (by decide +kernel) rfl
theorem im_X0_plainBits : Cond.instanceMethod yX0_plainBits ∈ gt := gm (i := 705) (by decide +kernel) rfl
theorem se_X0_plainBits : Cond.selects RX0 yX0_plainBits yX0_plainBits ∈ gt := gm (i := 706) (by decide +kernel) rfl
theorem co_X0_plainBits : Cond.code yX0_plainBits cX0_plainBits 4 (some .int) ∈ gt := gm (i := 707) (by decide +kernel) rfl
theorem ml_X8_266 : Cond.methodLink RX8 266 yX1_shown ∈ gt := gm (i := 708) (by decide +kernel) rfl
theorem ml_L_100 : Cond.methodLink RL 100 yX8_keep ∈ gt := gm (i := 709) (by decide +kernel) rfl
theorem im_X8_keep : Cond.instanceMethod yX8_keep ∈ gt := gm (i := 710) (by decide +kernel) rfl
theorem se_X8_keep : Cond.selects RX8 yX8_keep yX8_keep ∈ gt := gm (i := 711) (by decide +kernel) rfl
theorem co_X8_keep : Cond.code yX8_keep cX8_keep 2 (some .int) ∈ gt := gm (i := 712) (by decide +kernel) rfl
theorem ml_X8_225 : Cond.methodLink RX8 225 yX5_copyFrom ∈ gt := gm (i := 713) (by decide +kernel) rfl
theorem ml_L_104 : Cond.methodLink RL 104 yX8_back ∈ gt := gm (i := 714) (by decide +kernel) rfl
theorem im_X8_back : Cond.instanceMethod yX8_back ∈ gt := gm (i := 715) (by decide +kernel) rfl
theorem se_X8_back : Cond.selects RX8 yX8_back yX8_back ∈ gt := gm (i := 716) (by decide +kernel) rfl
theorem co_X8_back : Cond.code yX8_back cX8_back 2 (some .int) ∈ gt := gm (i := 717) (by decide +kernel) rfl
theorem ml_L_108 : Cond.methodLink RL 108 yX8_count ∈ gt := gm (i := 718) (by decide +kernel) rfl
theorem im_X8_count : Cond.instanceMethod yX8_count ∈ gt := gm (i := 719) (by decide +kernel) rfl
theorem se_X8_count : Cond.selects RX8 yX8_count yX8_count ∈ gt := gm (i := 720) (by decide +kernel) rfl
theorem co_X8_count : Cond.code yX8_count cX8_count 2 (some .int) ∈ gt := gm (i := 721) (by decide +kernel) rfl
theorem ml_X8_228 : Cond.methodLink RX8 228 yX0_bitsOfFields ∈ gt := gm (i := 722) (by decide +kernel) rfl
theorem im_X0_bitsOfFields : Cond.instanceMethod yX0_bitsOfFields ∈ gt := gm (i := 723) (by decide +kernel) rfl
theorem se_X0_bitsOfFields : Cond.selects RX0 yX0_bitsOfFields yX0_bitsOfFields ∈ gt := gm (i := 724) (by decide +kernel) rfl
theorem co_X0_bitsOfFields : Cond.code yX0_bitsOfFields cX0_bitsOfFields 3 (some .int) ∈ gt := gm (i := 725) (by decide +kernel) rfl
theorem ml_X0_66 : Cond.methodLink RX0 66 yJ6_bitCount_0f7a4 ∈ gt := gm (i := 726) (by decide +kernel) rfl
theorem st_J6_bitCount_0f7a4 : Cond.static yJ6_bitCount_0f7a4 ∈ gt := gm (i := 727) (by decide +kernel) rfl
theorem co_J6_bitCount_0f7a4 : Cond.code yJ6_bitCount_0f7a4 cJ6_bitCount_0f7a4 1 (some .int) ∈ gt := gm (i := 728) (by decide +kernel) rfl
theorem ml_X8_231 : Cond.methodLink RX8 231 yX1_brokenFields ∈ gt := gm (i := 732) (by decide +kernel) rfl
theorem im_X1_brokenFields : Cond.instanceMethod yX1_brokenFields ∈ gt := gm (i := 733) (by decide +kernel) rfl
theorem se_X1_brokenFields : Cond.selects RX1 yX1_brokenFields yX1_brokenFields ∈ gt := gm (i := 734) (by decide +kernel) rfl
theorem co_X1_brokenFields : Cond.code yX1_brokenFields cX1_brokenFields 4 (some .int) ∈ gt := gm (i := 735) (by decide +kernel) rfl
theorem cl_L_10 : Cond.classLink RL 10 RX9 ∈ gt := gm (i := 736) (by decide +kernel) rfl
theorem ia_X9 : Cond.instantiable RX9 14 ∈ gt := gm (i := 737) (by decide +kernel) rfl
theorem ml_L_12 : Cond.methodLink RL 12 yX9_init ∈ gt := gm (i := 738) (by decide +kernel) rfl
theorem im_X9_init : Cond.instanceMethod yX9_init ∈ gt := gm (i := 739) (by decide +kernel) rfl
theorem co_X9_init : Cond.code yX9_init cX9_init 1 none ∈ gt := gm (i := 740) (by decide +kernel) rfl
theorem mo_X9 : Cond.methodLink RX9 1 objectInit ∈ gt := gm (i := 741) (by decide +kernel) rfl
theorem ml_X9_32 : Cond.methodLink RX9 32 yX9_begin ∈ gt := gm (i := 742) (by decide +kernel) rfl
theorem im_X9_begin : Cond.instanceMethod yX9_begin ∈ gt := gm (i := 744) (by decide +kernel) rfl
theorem co_X9_begin : Cond.code yX9_begin cX9_begin 1 none ∈ gt := gm (i := 745) (by decide +kernel) rfl
theorem ml_X9_50 : Cond.methodLink RX9 50 yX9_repair ∈ gt := gm (i := 746) (by decide +kernel) rfl
theorem im_X9_repair : Cond.instanceMethod yX9_repair ∈ gt := gm (i := 748) (by decide +kernel) rfl
theorem co_X9_repair : Cond.code yX9_repair cX9_repair 3 none ∈ gt := gm (i := 749) (by decide +kernel) rfl
theorem ml_X9_35 : Cond.methodLink RX9 35 yX9_fields ∈ gt := gm (i := 750) (by decide +kernel) rfl
theorem im_X9_fields : Cond.instanceMethod yX9_fields ∈ gt := gm (i := 752) (by decide +kernel) rfl
theorem co_X9_fields : Cond.code yX9_fields cX9_fields 1 (some .int) ∈ gt := gm (i := 753) (by decide +kernel) rfl
theorem ml_X9_54 : Cond.methodLink RX9 54 yX9_reset ∈ gt := gm (i := 754) (by decide +kernel) rfl
theorem im_X9_reset : Cond.instanceMethod yX9_reset ∈ gt := gm (i := 756) (by decide +kernel) rfl
theorem co_X9_reset : Cond.code yX9_reset cX9_reset 3 none ∈ gt := gm (i := 757) (by decide +kernel) rfl
theorem ml_X9_57 : Cond.methodLink RX9 57 yX9_emptyLog ∈ gt := gm (i := 758) (by decide +kernel) rfl
theorem im_X9_emptyLog : Cond.instanceMethod yX9_emptyLog ∈ gt := gm (i := 760) (by decide +kernel) rfl
theorem co_X9_emptyLog : Cond.code yX9_emptyLog cX9_emptyLog 1 none ∈ gt := gm (i := 761) (by decide +kernel) rfl
theorem fl_X9_7 : Cond.fieldLink RX9 7 "MirrorBytesModel" "told" "[I" ∈ gt := gm (i := 762) (by decide +kernel) rfl
theorem fl_X9_13 : Cond.fieldLink RX9 13 "MirrorBytesModel" "draft" "[I" ∈ gt := gm (i := 763) (by decide +kernel) rfl
theorem fl_X9_16 : Cond.fieldLink RX9 16 "MirrorBytesModel" "now" "[I" ∈ gt := gm (i := 764) (by decide +kernel) rfl
theorem fl_X9_19 : Cond.fieldLink RX9 19 "MirrorBytesModel" "past" "[I" ∈ gt := gm (i := 765) (by decide +kernel) rfl
theorem fl_X9_60 : Cond.fieldLink RX9 60 "MirrorBytesModel" "pasts" "I" ∈ gt := gm (i := 766) (by decide +kernel) rfl
theorem fl_X9_22 : Cond.fieldLink RX9 22 "MirrorBytesModel" "images" "[I" ∈ gt := gm (i := 767) (by decide +kernel) rfl
theorem fl_X9_25 : Cond.fieldLink RX9 25 "MirrorBytesModel" "isKept" "[Z" ∈ gt := gm (i := 768) (by decide +kernel) rfl
theorem fl_X9_29 : Cond.fieldLink RX9 29 "MirrorBytesModel" "text" "[I" ∈ gt := gm (i := 769) (by decide +kernel) rfl
theorem fl_X9_147 : Cond.fieldLink RX9 147 "MirrorBytesModel" "typed" "I" ∈ gt := gm (i := 770) (by decide +kernel) rfl
theorem fl_X9_150 : Cond.fieldLink RX9 150 "MirrorBytesModel" "at" "I" ∈ gt := gm (i := 771) (by decide +kernel) rfl
theorem fl_X9_156 : Cond.fieldLink RX9 156 "MirrorBytesModel" "tokenAt" "I" ∈ gt := gm (i := 772) (by decide +kernel) rfl
theorem fl_X9_162 : Cond.fieldLink RX9 162 "MirrorBytesModel" "token" "I" ∈ gt := gm (i := 773) (by decide +kernel) rfl
theorem fl_X9_159 : Cond.fieldLink RX9 159 "MirrorBytesModel" "value" "I" ∈ gt := gm (i := 774) (by decide +kernel) rfl
theorem fl_X9_169 : Cond.fieldLink RX9 169 "MirrorBytesModel" "fault" "I" ∈ gt := gm (i := 775) (by decide +kernel) rfl
theorem ml_L_30 : Cond.methodLink RL 30 yX9_resets ∈ gt := gm (i := 805) (by decide +kernel) rfl
theorem im_X9_resets : Cond.instanceMethod yX9_resets ∈ gt := gm (i := 806) (by decide +kernel) rfl
theorem se_X9_resets : Cond.selects RX9 yX9_resets yX9_resets ∈ gt := gm (i := 807) (by decide +kernel) rfl
theorem co_X9_resets : Cond.code yX9_resets cX9_resets 2 (some .int) ∈ gt := gm (i := 808) (by decide +kernel) rfl
theorem ml_X9_97 : Cond.methodLink RX9 97 yX9_note ∈ gt := gm (i := 809) (by decide +kernel) rfl
theorem im_X9_note : Cond.instanceMethod yX9_note ∈ gt := gm (i := 811) (by decide +kernel) rfl
theorem co_X9_note : Cond.code yX9_note cX9_note 2 none ∈ gt := gm (i := 812) (by decide +kernel) rfl
theorem ml_L_34 : Cond.methodLink RL 34 yX9_reads ∈ gt := gm (i := 813) (by decide +kernel) rfl
theorem im_X9_reads : Cond.instanceMethod yX9_reads ∈ gt := gm (i := 814) (by decide +kernel) rfl
theorem se_X9_reads : Cond.selects RX9 yX9_reads yX9_reads ∈ gt := gm (i := 815) (by decide +kernel) rfl
theorem co_X9_reads : Cond.code yX9_reads cX9_reads 6 (some .int) ∈ gt := gm (i := 816) (by decide +kernel) rfl
theorem ml_X9_39 : Cond.methodLink RX9 39 yX9_in ∈ gt := gm (i := 817) (by decide +kernel) rfl
theorem st_X9_in : Cond.static yX9_in ∈ gt := gm (i := 818) (by decide +kernel) rfl
theorem co_X9_in : Cond.code yX9_in cX9_in 3 (some .boolean) ∈ gt := gm (i := 819) (by decide +kernel) rfl
theorem ml_X9_64 : Cond.methodLink RX9 64 yX9_goesTo ∈ gt := gm (i := 820) (by decide +kernel) rfl
theorem im_X9_goesTo : Cond.instanceMethod yX9_goesTo ∈ gt := gm (i := 822) (by decide +kernel) rfl
theorem co_X9_goesTo : Cond.code yX9_goesTo cX9_goesTo 3 (some .int) ∈ gt := gm (i := 823) (by decide +kernel) rfl
theorem ml_X9_43 : Cond.methodLink RX9 43 yX9_registers ∈ gt := gm (i := 824) (by decide +kernel) rfl
theorem im_X9_registers : Cond.instanceMethod yX9_registers ∈ gt := gm (i := 826) (by decide +kernel) rfl
theorem co_X9_registers : Cond.code yX9_registers cX9_registers 1 (some .int) ∈ gt := gm (i := 827) (by decide +kernel) rfl
theorem ml_X9_74 : Cond.methodLink RX9 74 yX9_peekAt ∈ gt := gm (i := 828) (by decide +kernel) rfl
theorem im_X9_peekAt : Cond.instanceMethod yX9_peekAt ∈ gt := gm (i := 830) (by decide +kernel) rfl
theorem co_X9_peekAt : Cond.code yX9_peekAt cX9_peekAt 4 (some .int) ∈ gt := gm (i := 831) (by decide +kernel) rfl
theorem ml_X9_67 : Cond.methodLink RX9 67 yX9_registerOf ∈ gt := gm (i := 832) (by decide +kernel) rfl
theorem im_X9_registerOf : Cond.instanceMethod yX9_registerOf ∈ gt := gm (i := 834) (by decide +kernel) rfl
theorem co_X9_registerOf : Cond.code yX9_registerOf cX9_registerOf 2 (some .int) ∈ gt := gm (i := 835) (by decide +kernel) rfl
theorem ml_X9_70 : Cond.methodLink RX9 70 yX9_tellsOf ∈ gt := gm (i := 836) (by decide +kernel) rfl
theorem im_X9_tellsOf : Cond.instanceMethod yX9_tellsOf ∈ gt := gm (i := 838) (by decide +kernel) rfl
theorem co_X9_tellsOf : Cond.code yX9_tellsOf cX9_tellsOf 5 (some .int) ∈ gt := gm (i := 839) (by decide +kernel) rfl
theorem ml_X9_100 : Cond.methodLink RX9 100 yX9_readOf ∈ gt := gm (i := 840) (by decide +kernel) rfl
theorem im_X9_readOf : Cond.instanceMethod yX9_readOf ∈ gt := gm (i := 842) (by decide +kernel) rfl
theorem co_X9_readOf : Cond.code yX9_readOf cX9_readOf 5 (some .int) ∈ gt := gm (i := 843) (by decide +kernel) rfl
theorem ml_X9_77 : Cond.methodLink RX9 77 yX9_clearRead ∈ gt := gm (i := 844) (by decide +kernel) rfl
theorem im_X9_clearRead : Cond.instanceMethod yX9_clearRead ∈ gt := gm (i := 846) (by decide +kernel) rfl
theorem co_X9_clearRead : Cond.code yX9_clearRead cX9_clearRead 4 none ∈ gt := gm (i := 847) (by decide +kernel) rfl
theorem ml_X9_46 : Cond.methodLink RX9 46 yX9_most ∈ gt := gm (i := 848) (by decide +kernel) rfl
theorem im_X9_most : Cond.instanceMethod yX9_most ∈ gt := gm (i := 850) (by decide +kernel) rfl
theorem co_X9_most : Cond.code yX9_most cX9_most 2 (some .int) ∈ gt := gm (i := 851) (by decide +kernel) rfl
theorem ml_X9_103 : Cond.methodLink RX9 103 yX9_logs ∈ gt := gm (i := 852) (by decide +kernel) rfl
theorem im_X9_logs : Cond.instanceMethod yX9_logs ∈ gt := gm (i := 854) (by decide +kernel) rfl
theorem co_X9_logs : Cond.code yX9_logs cX9_logs 5 none ∈ gt := gm (i := 855) (by decide +kernel) rfl
theorem ml_L_39 : Cond.methodLink RL 39 yX9_writes ∈ gt := gm (i := 856) (by decide +kernel) rfl
theorem im_X9_writes : Cond.instanceMethod yX9_writes ∈ gt := gm (i := 857) (by decide +kernel) rfl
theorem se_X9_writes : Cond.selects RX9 yX9_writes yX9_writes ∈ gt := gm (i := 858) (by decide +kernel) rfl
theorem co_X9_writes : Cond.code yX9_writes cX9_writes 3 (some .int) ∈ gt := gm (i := 859) (by decide +kernel) rfl
theorem ml_X9_106 : Cond.methodLink RX9 106 yX9_copyMachine ∈ gt := gm (i := 860) (by decide +kernel) rfl
theorem im_X9_copyMachine : Cond.instanceMethod yX9_copyMachine ∈ gt := gm (i := 862) (by decide +kernel) rfl
theorem co_X9_copyMachine : Cond.code yX9_copyMachine cX9_copyMachine 4 none ∈ gt := gm (i := 863) (by decide +kernel) rfl
theorem ml_X9_109 : Cond.methodLink RX9 109 yX9_writeTo ∈ gt := gm (i := 864) (by decide +kernel) rfl
theorem im_X9_writeTo : Cond.instanceMethod yX9_writeTo ∈ gt := gm (i := 866) (by decide +kernel) rfl
theorem co_X9_writeTo : Cond.code yX9_writeTo cX9_writeTo 6 none ∈ gt := gm (i := 867) (by decide +kernel) rfl
theorem ml_X9_85 : Cond.methodLink RX9 85 yX9_isLocked ∈ gt := gm (i := 868) (by decide +kernel) rfl
theorem im_X9_isLocked : Cond.instanceMethod yX9_isLocked ∈ gt := gm (i := 870) (by decide +kernel) rfl
theorem co_X9_isLocked : Cond.code yX9_isLocked cX9_isLocked 3 (some .boolean) ∈ gt := gm (i := 871) (by decide +kernel) rfl
theorem ml_X9_89 : Cond.methodLink RX9 89 yX9_letIn ∈ gt := gm (i := 872) (by decide +kernel) rfl
theorem im_X9_letIn : Cond.instanceMethod yX9_letIn ∈ gt := gm (i := 874) (by decide +kernel) rfl
theorem co_X9_letIn : Cond.code yX9_letIn cX9_letIn 9 none ∈ gt := gm (i := 875) (by decide +kernel) rfl
theorem ml_X9_81 : Cond.methodLink RX9 81 yX9_by ∈ gt := gm (i := 876) (by decide +kernel) rfl
theorem st_X9_by : Cond.static yX9_by ∈ gt := gm (i := 877) (by decide +kernel) rfl
theorem co_X9_by : Cond.code yX9_by cX9_by 4 (some .int) ∈ gt := gm (i := 878) (by decide +kernel) rfl
theorem ml_X9_93 : Cond.methodLink RX9 93 yX9_openGates ∈ gt := gm (i := 879) (by decide +kernel) rfl
theorem im_X9_openGates : Cond.instanceMethod yX9_openGates ∈ gt := gm (i := 881) (by decide +kernel) rfl
theorem co_X9_openGates : Cond.code yX9_openGates cX9_openGates 7 none ∈ gt := gm (i := 882) (by decide +kernel) rfl
theorem ml_X9_112 : Cond.methodLink RX9 112 yX9_otherFields ∈ gt := gm (i := 883) (by decide +kernel) rfl
theorem im_X9_otherFields : Cond.instanceMethod yX9_otherFields ∈ gt := gm (i := 885) (by decide +kernel) rfl
theorem co_X9_otherFields : Cond.code yX9_otherFields cX9_otherFields 5 (some .int) ∈ gt := gm (i := 886) (by decide +kernel) rfl
theorem ml_L_43 : Cond.methodLink RL 43 yX9_sets ∈ gt := gm (i := 887) (by decide +kernel) rfl
theorem im_X9_sets : Cond.instanceMethod yX9_sets ∈ gt := gm (i := 888) (by decide +kernel) rfl
theorem se_X9_sets : Cond.selects RX9 yX9_sets yX9_sets ∈ gt := gm (i := 889) (by decide +kernel) rfl
theorem co_X9_sets : Cond.code yX9_sets cX9_sets 4 (some .int) ∈ gt := gm (i := 890) (by decide +kernel) rfl
theorem ml_X9_115 : Cond.methodLink RX9 115 yX9_isField ∈ gt := gm (i := 891) (by decide +kernel) rfl
theorem im_X9_isField : Cond.instanceMethod yX9_isField ∈ gt := gm (i := 893) (by decide +kernel) rfl
theorem co_X9_isField : Cond.code yX9_isField cX9_isField 2 (some .boolean) ∈ gt := gm (i := 894) (by decide +kernel) rfl
theorem ml_L_47 : Cond.methodLink RL 47 yX9_breaks ∈ gt := gm (i := 895) (by decide +kernel) rfl
theorem im_X9_breaks : Cond.instanceMethod yX9_breaks ∈ gt := gm (i := 896) (by decide +kernel) rfl
theorem se_X9_breaks : Cond.selects RX9 yX9_breaks yX9_breaks ∈ gt := gm (i := 897) (by decide +kernel) rfl
theorem co_X9_breaks : Cond.code yX9_breaks cX9_breaks 4 (some .int) ∈ gt := gm (i := 898) (by decide +kernel) rfl
theorem ml_L_51 : Cond.methodLink RL 51 yX9_undo ∈ gt := gm (i := 899) (by decide +kernel) rfl
theorem im_X9_undo : Cond.instanceMethod yX9_undo ∈ gt := gm (i := 900) (by decide +kernel) rfl
theorem se_X9_undo : Cond.selects RX9 yX9_undo yX9_undo ∈ gt := gm (i := 901) (by decide +kernel) rfl
theorem co_X9_undo : Cond.code yX9_undo cX9_undo 2 (some .int) ∈ gt := gm (i := 902) (by decide +kernel) rfl
theorem ml_L_55 : Cond.methodLink RL 55 yX9_field ∈ gt := gm (i := 903) (by decide +kernel) rfl
theorem im_X9_field : Cond.instanceMethod yX9_field ∈ gt := gm (i := 904) (by decide +kernel) rfl
theorem se_X9_field : Cond.selects RX9 yX9_field yX9_field ∈ gt := gm (i := 905) (by decide +kernel) rfl
theorem co_X9_field : Cond.code yX9_field cX9_field 3 (some .int) ∈ gt := gm (i := 906) (by decide +kernel) rfl
theorem ml_L_59 : Cond.methodLink RL 59 yX9_register ∈ gt := gm (i := 907) (by decide +kernel) rfl
theorem im_X9_register : Cond.instanceMethod yX9_register ∈ gt := gm (i := 908) (by decide +kernel) rfl
theorem se_X9_register : Cond.selects RX9 yX9_register yX9_register ∈ gt := gm (i := 909) (by decide +kernel) rfl
theorem co_X9_register : Cond.code yX9_register cX9_register 3 (some .int) ∈ gt := gm (i := 910) (by decide +kernel) rfl
theorem ml_X9_119 : Cond.methodLink RX9 119 yX9_isRegister ∈ gt := gm (i := 911) (by decide +kernel) rfl
theorem im_X9_isRegister : Cond.instanceMethod yX9_isRegister ∈ gt := gm (i := 913) (by decide +kernel) rfl
theorem co_X9_isRegister : Cond.code yX9_isRegister cX9_isRegister 2 (some .boolean) ∈ gt := gm (i := 914) (by decide +kernel) rfl
theorem ml_L_63 : Cond.methodLink RL 63 yX9_alias ∈ gt := gm (i := 915) (by decide +kernel) rfl
theorem im_X9_alias : Cond.instanceMethod yX9_alias ∈ gt := gm (i := 916) (by decide +kernel) rfl
theorem se_X9_alias : Cond.selects RX9 yX9_alias yX9_alias ∈ gt := gm (i := 917) (by decide +kernel) rfl
theorem co_X9_alias : Cond.code yX9_alias cX9_alias 3 (some .int) ∈ gt := gm (i := 918) (by decide +kernel) rfl
theorem ml_L_67 : Cond.methodLink RL 67 yX9_at ∈ gt := gm (i := 919) (by decide +kernel) rfl
theorem im_X9_at : Cond.instanceMethod yX9_at ∈ gt := gm (i := 920) (by decide +kernel) rfl
theorem se_X9_at : Cond.selects RX9 yX9_at yX9_at ∈ gt := gm (i := 921) (by decide +kernel) rfl
theorem co_X9_at : Cond.code yX9_at cX9_at 2 (some .int) ∈ gt := gm (i := 922) (by decide +kernel) rfl
theorem ml_L_71 : Cond.methodLink RL 71 yX9_peek ∈ gt := gm (i := 923) (by decide +kernel) rfl
theorem im_X9_peek : Cond.instanceMethod yX9_peek ∈ gt := gm (i := 924) (by decide +kernel) rfl
theorem se_X9_peek : Cond.selects RX9 yX9_peek yX9_peek ∈ gt := gm (i := 925) (by decide +kernel) rfl
theorem co_X9_peek : Cond.code yX9_peek cX9_peek 3 (some .int) ∈ gt := gm (i := 926) (by decide +kernel) rfl
theorem ml_L_75 : Cond.methodLink RL 75 yX9_differed ∈ gt := gm (i := 927) (by decide +kernel) rfl
theorem im_X9_differed : Cond.instanceMethod yX9_differed ∈ gt := gm (i := 928) (by decide +kernel) rfl
theorem se_X9_differed : Cond.selects RX9 yX9_differed yX9_differed ∈ gt := gm (i := 929) (by decide +kernel) rfl
theorem co_X9_differed : Cond.code yX9_differed cX9_differed 2 (some .int) ∈ gt := gm (i := 930) (by decide +kernel) rfl
theorem ml_L_79 : Cond.methodLink RL 79 yX9_log ∈ gt := gm (i := 931) (by decide +kernel) rfl
theorem im_X9_log : Cond.instanceMethod yX9_log ∈ gt := gm (i := 932) (by decide +kernel) rfl
theorem se_X9_log : Cond.selects RX9 yX9_log yX9_log ∈ gt := gm (i := 933) (by decide +kernel) rfl
theorem co_X9_log : Cond.code yX9_log cX9_log 3 (some .int) ∈ gt := gm (i := 934) (by decide +kernel) rfl
theorem ml_L_83 : Cond.methodLink RL 83 yX9_suspects ∈ gt := gm (i := 935) (by decide +kernel) rfl
theorem im_X9_suspects : Cond.instanceMethod yX9_suspects ∈ gt := gm (i := 936) (by decide +kernel) rfl
theorem se_X9_suspects : Cond.selects RX9 yX9_suspects yX9_suspects ∈ gt := gm (i := 937) (by decide +kernel) rfl
theorem co_X9_suspects : Cond.code yX9_suspects cX9_suspects 5 (some .int) ∈ gt := gm (i := 938) (by decide +kernel) rfl
theorem ml_X9_122 : Cond.methodLink RX9 122 yX9_wouldTell ∈ gt := gm (i := 939) (by decide +kernel) rfl
theorem im_X9_wouldTell : Cond.instanceMethod yX9_wouldTell ∈ gt := gm (i := 941) (by decide +kernel) rfl
theorem co_X9_wouldTell : Cond.code yX9_wouldTell cX9_wouldTell 6 (some .boolean) ∈ gt := gm (i := 942) (by decide +kernel) rfl
theorem ml_L_87 : Cond.methodLink RL 87 yX9_clashes ∈ gt := gm (i := 943) (by decide +kernel) rfl
theorem im_X9_clashes : Cond.instanceMethod yX9_clashes ∈ gt := gm (i := 944) (by decide +kernel) rfl
theorem se_X9_clashes : Cond.selects RX9 yX9_clashes yX9_clashes ∈ gt := gm (i := 945) (by decide +kernel) rfl
theorem co_X9_clashes : Cond.code yX9_clashes cX9_clashes 7 (some .int) ∈ gt := gm (i := 946) (by decide +kernel) rfl
theorem ml_L_91 : Cond.methodLink RL 91 yX9_touched ∈ gt := gm (i := 947) (by decide +kernel) rfl
theorem im_X9_touched : Cond.instanceMethod yX9_touched ∈ gt := gm (i := 948) (by decide +kernel) rfl
theorem se_X9_touched : Cond.selects RX9 yX9_touched yX9_touched ∈ gt := gm (i := 949) (by decide +kernel) rfl
theorem co_X9_touched : Cond.code yX9_touched cX9_touched 3 (some .int) ∈ gt := gm (i := 950) (by decide +kernel) rfl
theorem ml_X9_125 : Cond.methodLink RX9 125 yX9_tryWrite ∈ gt := gm (i := 951) (by decide +kernel) rfl
theorem im_X9_tryWrite : Cond.instanceMethod yX9_tryWrite ∈ gt := gm (i := 953) (by decide +kernel) rfl
theorem co_X9_tryWrite : Cond.code yX9_tryWrite cX9_tryWrite 3 none ∈ gt := gm (i := 954) (by decide +kernel) rfl
theorem ml_L_95 : Cond.methodLink RL 95 yX9_way ∈ gt := gm (i := 955) (by decide +kernel) rfl
theorem im_X9_way : Cond.instanceMethod yX9_way ∈ gt := gm (i := 956) (by decide +kernel) rfl
theorem se_X9_way : Cond.selects RX9 yX9_way yX9_way ∈ gt := gm (i := 957) (by decide +kernel) rfl
theorem co_X9_way : Cond.code yX9_way cX9_way 4 (some .int) ∈ gt := gm (i := 958) (by decide +kernel) rfl
theorem ml_L_99 : Cond.methodLink RL 99 yX9_walk ∈ gt := gm (i := 959) (by decide +kernel) rfl
theorem im_X9_walk : Cond.instanceMethod yX9_walk ∈ gt := gm (i := 960) (by decide +kernel) rfl
theorem se_X9_walk : Cond.selects RX9 yX9_walk yX9_walk ∈ gt := gm (i := 961) (by decide +kernel) rfl
theorem co_X9_walk : Cond.code yX9_walk cX9_walk 8 (some .int) ∈ gt := gm (i := 962) (by decide +kernel) rfl
theorem ml_X9_134 : Cond.methodLink RX9 134 yX9_isWalked ∈ gt := gm (i := 963) (by decide +kernel) rfl
theorem im_X9_isWalked : Cond.instanceMethod yX9_isWalked ∈ gt := gm (i := 965) (by decide +kernel) rfl
theorem co_X9_isWalked : Cond.code yX9_isWalked cX9_isWalked 5 (some .boolean) ∈ gt := gm (i := 966) (by decide +kernel) rfl
theorem ml_X9_128 : Cond.methodLink RX9 128 yX9_isLockOrGate ∈ gt := gm (i := 967) (by decide +kernel) rfl
theorem im_X9_isLockOrGate : Cond.instanceMethod yX9_isLockOrGate ∈ gt := gm (i := 969) (by decide +kernel) rfl
theorem co_X9_isLockOrGate : Cond.code yX9_isLockOrGate cX9_isLockOrGate 5 (some .boolean) ∈ gt := gm (i := 970) (by decide +kernel) rfl
theorem ml_X9_137 : Cond.methodLink RX9 137 yX9_bitsBy ∈ gt := gm (i := 971) (by decide +kernel) rfl
theorem im_X9_bitsBy : Cond.instanceMethod yX9_bitsBy ∈ gt := gm (i := 973) (by decide +kernel) rfl
theorem co_X9_bitsBy : Cond.code yX9_bitsBy cX9_bitsBy 5 (some .int) ∈ gt := gm (i := 974) (by decide +kernel) rfl
theorem ml_X9_131 : Cond.methodLink RX9 131 yX9_bitsOf ∈ gt := gm (i := 975) (by decide +kernel) rfl
theorem im_X9_bitsOf : Cond.instanceMethod yX9_bitsOf ∈ gt := gm (i := 977) (by decide +kernel) rfl
theorem co_X9_bitsOf : Cond.code yX9_bitsOf cX9_bitsOf 2 (some .int) ∈ gt := gm (i := 978) (by decide +kernel) rfl
theorem ml_L_103 : Cond.methodLink RL 103 yX9_keep ∈ gt := gm (i := 979) (by decide +kernel) rfl
theorem im_X9_keep : Cond.instanceMethod yX9_keep ∈ gt := gm (i := 980) (by decide +kernel) rfl
theorem se_X9_keep : Cond.selects RX9 yX9_keep yX9_keep ∈ gt := gm (i := 981) (by decide +kernel) rfl
theorem co_X9_keep : Cond.code yX9_keep cX9_keep 3 (some .int) ∈ gt := gm (i := 982) (by decide +kernel) rfl
theorem ml_L_107 : Cond.methodLink RL 107 yX9_back ∈ gt := gm (i := 983) (by decide +kernel) rfl
theorem im_X9_back : Cond.instanceMethod yX9_back ∈ gt := gm (i := 984) (by decide +kernel) rfl
theorem se_X9_back : Cond.selects RX9 yX9_back yX9_back ∈ gt := gm (i := 985) (by decide +kernel) rfl
theorem co_X9_back : Cond.code yX9_back cX9_back 3 (some .int) ∈ gt := gm (i := 986) (by decide +kernel) rfl
theorem ml_L_111 : Cond.methodLink RL 111 yX9_count ∈ gt := gm (i := 987) (by decide +kernel) rfl
theorem im_X9_count : Cond.instanceMethod yX9_count ∈ gt := gm (i := 988) (by decide +kernel) rfl
theorem se_X9_count : Cond.selects RX9 yX9_count yX9_count ∈ gt := gm (i := 989) (by decide +kernel) rfl
theorem co_X9_count : Cond.code yX9_count cX9_count 2 (some .int) ∈ gt := gm (i := 990) (by decide +kernel) rfl
theorem ml_X9_141 : Cond.methodLink RX9 141 yX9_fieldBits ∈ gt := gm (i := 991) (by decide +kernel) rfl
theorem im_X9_fieldBits : Cond.instanceMethod yX9_fieldBits ∈ gt := gm (i := 993) (by decide +kernel) rfl
theorem co_X9_fieldBits : Cond.code yX9_fieldBits cX9_fieldBits 3 (some .int) ∈ gt := gm (i := 994) (by decide +kernel) rfl
theorem ml_X9_144 : Cond.methodLink RX9 144 yX9_brokenMany ∈ gt := gm (i := 995) (by decide +kernel) rfl
theorem im_X9_brokenMany : Cond.instanceMethod yX9_brokenMany ∈ gt := gm (i := 997) (by decide +kernel) rfl
theorem co_X9_brokenMany : Cond.code yX9_brokenMany cX9_brokenMany 3 (some .int) ∈ gt := gm (i := 998) (by decide +kernel) rfl
theorem ml_L_17 : Cond.methodLink RL 17 yX9_type ∈ gt := gm (i := 999) (by decide +kernel) rfl
theorem im_X9_type : Cond.instanceMethod yX9_type ∈ gt := gm (i := 1000) (by decide +kernel) rfl
theorem se_X9_type : Cond.selects RX9 yX9_type yX9_type ∈ gt := gm (i := 1001) (by decide +kernel) rfl
theorem co_X9_type : Cond.code yX9_type cX9_type 2 (some .int) ∈ gt := gm (i := 1002) (by decide +kernel) rfl
theorem ml_L_22 : Cond.methodLink RL 22 yX9_clear ∈ gt := gm (i := 1003) (by decide +kernel) rfl
theorem im_X9_clear : Cond.instanceMethod yX9_clear ∈ gt := gm (i := 1004) (by decide +kernel) rfl
theorem se_X9_clear : Cond.selects RX9 yX9_clear yX9_clear ∈ gt := gm (i := 1005) (by decide +kernel) rfl
theorem co_X9_clear : Cond.code yX9_clear cX9_clear 2 (some .int) ∈ gt := gm (i := 1006) (by decide +kernel) rfl
theorem ml_L_26 : Cond.methodLink RL 26 yX9_tells ∈ gt := gm (i := 1007) (by decide +kernel) rfl
theorem im_X9_tells : Cond.instanceMethod yX9_tells ∈ gt := gm (i := 1008) (by decide +kernel) rfl
theorem se_X9_tells : Cond.selects RX9 yX9_tells yX9_tells ∈ gt := gm (i := 1009) (by decide +kernel) rfl
theorem co_X9_tells : Cond.code yX9_tells cX9_tells 3 (some .int) ∈ gt := gm (i := 1010) (by decide +kernel) rfl
theorem ml_X9_172 : Cond.methodLink RX9 172 yX9_next ∈ gt := gm (i := 1011) (by decide +kernel) rfl
theorem im_X9_next : Cond.instanceMethod yX9_next ∈ gt := gm (i := 1013) (by decide +kernel) rfl
theorem co_X9_next : Cond.code yX9_next cX9_next 2 none ∈ gt := gm (i := 1014) (by decide +kernel) rfl
theorem ml_X9_153 : Cond.methodLink RX9 153 yX9_isHere ∈ gt := gm (i := 1015) (by decide +kernel) rfl
theorem im_X9_isHere : Cond.instanceMethod yX9_isHere ∈ gt := gm (i := 1017) (by decide +kernel) rfl
theorem co_X9_isHere : Cond.code yX9_isHere cX9_isHere 3 (some .boolean) ∈ gt := gm (i := 1018) (by decide +kernel) rfl
theorem ml_X9_166 : Cond.methodLink RX9 166 yX9_kindOf ∈ gt := gm (i := 1020) (by decide +kernel) rfl
theorem st_X9_kindOf : Cond.static yX9_kindOf ∈ gt := gm (i := 1021) (by decide +kernel) rfl
theorem co_X9_kindOf : Cond.code yX9_kindOf cX9_kindOf 1 (some .int) ∈ gt := gm (i := 1022) (by decide +kernel) rfl
theorem ml_X9_197 : Cond.methodLink RX9 197 yX9_readItem ∈ gt := gm (i := 1023) (by decide +kernel) rfl
theorem im_X9_readItem : Cond.instanceMethod yX9_readItem ∈ gt := gm (i := 1025) (by decide +kernel) rfl
theorem co_X9_readItem : Cond.code yX9_readItem cX9_readItem 3 none ∈ gt := gm (i := 1026) (by decide +kernel) rfl
theorem ml_X9_175 : Cond.methodLink RX9 175 yX9_must ∈ gt := gm (i := 1027) (by decide +kernel) rfl
theorem im_X9_must : Cond.instanceMethod yX9_must ∈ gt := gm (i := 1029) (by decide +kernel) rfl
theorem co_X9_must : Cond.code yX9_must cX9_must 3 (some .int) ∈ gt := gm (i := 1030) (by decide +kernel) rfl
theorem ml_X9_185 : Cond.methodLink RX9 185 yX9_readRegister ∈ gt := gm (i := 1031) (by decide +kernel) rfl
theorem im_X9_readRegister : Cond.instanceMethod yX9_readRegister ∈ gt := gm (i := 1033) (by decide +kernel) rfl
theorem co_X9_readRegister : Cond.code yX9_readRegister cX9_readRegister 3 none ∈ gt := gm (i := 1034) (by decide +kernel) rfl
theorem ml_X9_179 : Cond.methodLink RX9 179 yX9_number ∈ gt := gm (i := 1035) (by decide +kernel) rfl
theorem im_X9_number : Cond.instanceMethod yX9_number ∈ gt := gm (i := 1037) (by decide +kernel) rfl
theorem co_X9_number : Cond.code yX9_number cX9_number 3 (some .int) ∈ gt := gm (i := 1038) (by decide +kernel) rfl
theorem ml_X9_188 : Cond.methodLink RX9 188 yX9_readField ∈ gt := gm (i := 1039) (by decide +kernel) rfl
theorem im_X9_readField : Cond.instanceMethod yX9_readField ∈ gt := gm (i := 1041) (by decide +kernel) rfl
theorem co_X9_readField : Cond.code yX9_readField cX9_readField 8 none ∈ gt := gm (i := 1042) (by decide +kernel) rfl
theorem ml_X9_182 : Cond.methodLink RX9 182 yX9_usedBits ∈ gt := gm (i := 1043) (by decide +kernel) rfl
theorem im_X9_usedBits : Cond.instanceMethod yX9_usedBits ∈ gt := gm (i := 1045) (by decide +kernel) rfl
theorem co_X9_usedBits : Cond.code yX9_usedBits cX9_usedBits 5 (some .int) ∈ gt := gm (i := 1046) (by decide +kernel) rfl
theorem ml_X9_191 : Cond.methodLink RX9 191 yX9_readAlias ∈ gt := gm (i := 1047) (by decide +kernel) rfl
theorem im_X9_readAlias : Cond.instanceMethod yX9_readAlias ∈ gt := gm (i := 1049) (by decide +kernel) rfl
theorem co_X9_readAlias : Cond.code yX9_readAlias cX9_readAlias 5 none ∈ gt := gm (i := 1050) (by decide +kernel) rfl
theorem ml_X9_194 : Cond.methodLink RX9 194 yX9_readLink ∈ gt := gm (i := 1051) (by decide +kernel) rfl
theorem im_X9_readLink : Cond.instanceMethod yX9_readLink ∈ gt := gm (i := 1053) (by decide +kernel) rfl
theorem co_X9_readLink : Cond.code yX9_readLink cX9_readLink 4 none ∈ gt := gm (i := 1054) (by decide +kernel) rfl
theorem ma_X1_25 : Cond.methodLink RX1 25 arraycopyName ∈ gt := gm (i := 446) (by decide +kernel) rfl
theorem wm_objI : Cond.instanceMethod objectInit ∈ gt := gm (i := 66) (by decide +kernel) rfl
theorem wm_objC : Cond.code objectInit ⟨#[0xb1]⟩ 1 none ∈ gt := gm (i := 67) (by decide +kernel) rfl
theorem wm_arrI : Cond.arrayClass .int ∈ gt := gm (i := 84) (by decide +kernel) rfl
theorem wm_arrZ : Cond.arrayClass .boolean ∈ gt := gm (i := 239) (by decide +kernel) rfl
theorem wm_kl : Cond.fieldLinkNest RX7 41 "MirrorBytes" "KIND_LETTERS" "[C" "MirrorBytes" ∈ lw_tbl := List.mem_of_getElem? (i := 413) (by decide +kernel)
theorem wm_acS : Cond.static arraycopyName ∈ gt := gm (i := 447) (by decide +kernel) rfl
theorem wm_acN : Cond.native arraycopyName ∈ gt := gm (i := 448) (by decide +kernel) rfl
theorem wm_c265 : Cond.constant RJ6 265 1431655765 ∈ gt := gm (i := 729) (by decide +kernel) rfl
theorem wm_c266 : Cond.constant RJ6 266 858993459 ∈ gt := gm (i := 730) (by decide +kernel) rfl
theorem wm_c267 : Cond.constant RJ6 267 252645135 ∈ gt := gm (i := 731) (by decide +kernel) rfl
theorem wm_c165 : Cond.constant RX9 165 65535 ∈ gt := gm (i := 1019) (by decide +kernel) rfl
end
section
/-! My own rows: the world as a function of addresses. -/
abbrev Om : Type := Nat → Option va_E
abbrev Gm : Type := va_G × ClassId × ClassId × ClassId
abbrev Fn : Type := Nat → Int32
def tysG (G : Gm) : List (ClassId × FieldType) := [(G.2.1, .int), (G.2.2.1, .boolean), (G.2.2.2, .object "MirrorBytes$Situation")]
def oK (G : Gm) (U : State) : Prop := va_K G.1 vwCl (tysG G) U
def oW (G : Gm) (A : Nat → Prop) (Ω : Om) (H : Heap) : Prop := ∀ a e, Ω a = some e → va_at G.1 vwCl (a, e) H ∧ A a
/-- the words of nest mates -/
def nestM : List (String × Nat × MethodName) := [(RX8, 9, yX6_init), (RX4, 11, yX0_init), (RX8, 27, yX5_init), (RX5, 11, yX1_init), (RX5, 23, yX3_init), (RX2, 17, yX5_init), (RX8, 49, yX1_init), (RX8, 56, yX0_init), (RX1, 62, yX8_isWithin), (RX0, 58, yX8_isWithin)]
def oN (U : State) : Prop := (∀ q ∈ nestM, va_Nw (.methodLinkNest q.1 q.2.1 q.2.2 "MirrorBytes") U) ∧ va_Nw (.fieldLinkNest RX7 41 "MirrorBytes" "KIND_LETTERS" "[C" "MirrorBytes") U
theorem oN.warm {s U : State} (hW : s.WarmedH U.vm) (h : oN s) : oN U := ⟨fun q hq => va_Nw.warmM hW (h.1 q hq), va_Nw.warmF hW h.2⟩
theorem oN.same {u U : State} (hvm : u.vm = U.vm) (h : oN u) : oN U := ⟨fun q hq => va_Nw.same rfl hvm (h.1 q hq), va_Nw.same rfl hvm h.2⟩
def oS (G : Gm) (A : Nat → Prop) (Ω : Om) (U : State) : Prop := oW G A Ω U.heap ∧ oK G U ∧ oN U
def oB (G : Gm) (A : Nat → Prop) (Ω : Om) (U : State) : Prop := oW G A Ω U.heap
def oU (Ω : Om) (a : Nat) (e : va_E) : Om := fun q => if q = a then some e else Ω q
def oF (Ω Ω' : Om) (o k : Nat) : Prop := ∀ q : Nat, (q < o ∨ o + k ≤ q) → Ω' q = Ω q
theorem oU_self {Ω : Om} {a : Nat} {e : va_E} : oU Ω a e a = some e := if_pos rfl
theorem oU_ne {Ω : Om} {a q : Nat} {e : va_E} (h : q ≠ a) : oU Ω a e q = Ω q := if_neg h
theorem oF.rf {Ω : Om} {o k : Nat} : oF Ω Ω o k := fun _ _ => rfl
theorem oF.tr {Ω Ω1 Ω2 : Om} {o k : Nat} (h : oF Ω Ω1 o k) (h2 : oF Ω1 Ω2 o k) : oF Ω Ω2 o k := fun q hq => (h2 q hq).trans (h q hq)
theorem oF.wide {Ω Ω1 : Om} {o k o' k' : Nat} (h : oF Ω Ω1 o k) (h1 : o' ≤ o) (h2 : o + k ≤ o' + k') : oF Ω Ω1 o' k' := fun q hq => h q (by omega)
theorem oF.up {Ω : Om} {a : Nat} {e : va_E} {o k : Nat} (h1 : o ≤ a) (h2 : a < o + k) : oF Ω (oU Ω a e) o k := fun q hq => oU_ne (by omega)
theorem oW.one {G : Gm} {A : Nat → Prop} {Ω : Om} {H : Heap} {a : Nat} {e : va_E} (hW : oW G A Ω H) (he : Ω a = some e) : va_P G.1 vwCl [(a, e)] H := by
  intro k q hk
  have hz : k < 1 := (List.getElem?_eq_some_iff.mp hk).1
  rw [show k = 0 by omega] at hk
  cases hk
  exact (hW a e he).1
theorem oW.put {G : Gm} {A : Nat → Prop} {Ω : Om} {H H1 : Heap} {a : Nat} {e : va_E} (hW : oW G A Ω H) (he : va_at G.1 vwCl (a, e) H1) (oq : ∀ q : Nat, q ≠ a → H1[q]? = H[q]?) (ha : A a) : oW G A (oU Ω a e) H1 := by
  intro q f hq
  by_cases h : q = a
  · subst h
    rw [oU_self] at hq
    cases hq
    exact ⟨he, ha⟩
  · rw [oU_ne h] at hq
    exact ⟨(hW q f hq).1.kept (oq q h), (hW q f hq).2⟩
theorem oK.moved {G : Gm} {u U : State} (hvm : u.vm.Alike U.vm) (h : oK G u) : oK G U := va_K.moved hvm h
theorem oS_blind {G : Gm} {A : Nat → Prop} {Ω : Om} {av : List Value} : FrameBlind (va_Pc av (oS G A Ω)) := fun a U g mk q => ⟨q.1, q.2.1, va_K.moved (u := U) (U := U.calling g mk a) (Vm.Alike.refl U.vm) q.2.2.1, oN.same (u := U) (U := U.calling g mk a) rfl q.2.2.2⟩
theorem oS_ok {G : Gm} {A : Nat → Prop} {Ω : Om} {H : Heap} {av : List Value} {s : State} (hK : oK G s) (hN : oN s) (hW : oW G A Ω H) : ∀ U : State, U.heap = H → s.WarmedH U.vm → va_Pc av (oS G A Ω) av.toArray U := fun U hU hw => ⟨rfl, by rw [hU]; exact hW, va_K.moved hw.alike hK, oN.warm hw hN⟩
/-- the words of a method: its code, and the tables -/
def wz (y : MethodName) (cc : ByteArray) (n : Nat) (ret : Option FieldType) : List Cond := .code y cc n ret :: gt
theorem good_wz {y : MethodName} {cc : ByteArray} {n : Nat} {ret : Option FieldType} (zc : Cond.code y cc n ret ∈ gt) : GoodIn gt (wz y cc n ret) := fun w h => by
  rcases List.mem_cons.mp h with h | h
  · rw [h]; exact ⟨zc, gt_good zc⟩
  · exact ⟨h, gt_good h⟩
theorem good_V {y : MethodName} {cc : ByteArray} {n : Nat} {ret : Option FieldType} {own C : String} {idx : Nat} (z1 : Cond.methodLink own idx y ∈ gt) (z2 : Cond.instanceMethod y ∈ gt) (z3 : Cond.selects C y y ∈ gt) (z4 : Cond.initialized C ∈ gt) (zc : Cond.code y cc n ret ∈ gt) : GoodIn gt (wsV own idx C y (wz y cc n ret)) := fun w h => by
  rcases List.mem_append.mp h with h | h
  · simp only [List.mem_cons, List.not_mem_nil, or_false] at h
    rcases h with h | h | h | h <;> rw [h]
    · exact ⟨z1, gt_good z1⟩
    · exact ⟨z2, gt_good z2⟩
    · exact ⟨z3, gt_good z3⟩
    · exact ⟨z4, gt_good z4⟩
  · exact good_wz zc w h
theorem good_S {y : MethodName} {cc : ByteArray} {n : Nat} {ret : Option FieldType} {own : String} {idx : Nat} (z1 : Cond.methodLink own idx y ∈ gt) (z2 : Cond.static y ∈ gt) (z4 : Cond.initialized own ∈ gt) (zc : Cond.code y cc n ret ∈ gt) : GoodIn gt (wsS own idx y (wz y cc n ret)) := fun w h => by
  rcases List.mem_append.mp h with h | h
  · simp only [List.mem_cons, List.not_mem_nil, or_false] at h
    rcases h with h | h | h <;> rw [h]
    · exact ⟨z1, gt_good z1⟩
    · exact ⟨z2, gt_good z2⟩
    · exact ⟨z4, gt_good z4⟩
  · exact good_wz zc w h
section OR
variable {p : Program} {l : Launch} {e : Env} {R : Room} {s : State} {m : MethodId} {args : Array Value} {below : List Frame} {meth : Method} {c : Code} {H : Heap} {locs : List Loc} {cells slots : Nat} {Q : State → Prop}
variable {cc : ByteArray} {pc : Nat} {ls : Array Slot} {rest : List Value} {G : Gm} {A A0 : Nat → Prop} {Ω : Om} {H0 : Heap} {a : Nat}
theorem o_get (hx : p.tables.exec = Jvm.exec) (hb : c.code = cc) {own C : String} {T : u_T} {N ci index : Nat} (hts : ∀ w ∈ gt, w.before args s = true) (hown : s.vm.findClass own = some m.cls) (hK : oK G s) (hW : oW G A Ω H) {fs : List Value} (he : Ω a = some (.inr (ci, fs))) (hc : vwCl[ci]? = some (C, T, N)) (hin : ∀ w ∈ u_ws C T N, w ∈ gt) (k : Nat) (hk : k < N) (hlink : Cond.fieldLink own index (T k).1 (T k).2.1 (T k).2.2.1 ∈ gt) {v : Value} (hv : fs[k]? = some v) (hdg : decode cc pc = .ok (.getfield index, 3))
    (kk : W p l e R s m args below meth c H locs cells slots Q (F0 m (pc + 3) ls (v :: rest))) : W p l e R s m args below meth c H locs cells slots Q (F0 m pc ls (.ref a :: rest)) :=
  va_get hx hb hts hin hown hK (hW.one he) 0 rfl hc k hk (hts _ hlink) (fun _ h => h) hv hdg kk
theorem o_put (hx : p.tables.exec = Jvm.exec) (hb : c.code = cc) {own C : String} {T : u_T} {N ci index : Nat} (hts : ∀ w ∈ gt, w.before args s = true) (hown : s.vm.findClass own = some m.cls) (hK : oK G s) (hW : oW G A Ω H) (hS0 : va_S A0 H0 H locs) (hA : ∀ q, A q → A0 q) {fs : List Value} (he : Ω a = some (.inr (ci, fs))) (hc : vwCl[ci]? = some (C, T, N)) (hin : ∀ w ∈ u_ws C T N, w ∈ gt) (ty0 : Nat → FieldType) (hty : ∀ k, k < N → parseFieldDescriptor (T k).2.2.1 = some (ty0 k)) (hnm : ∀ a, a < N → ∀ b, b < N → a ≠ b → (T a).2.1 ≠ (T b).2.1) (k : Nat) (hk : k < N) (hlink : Cond.fieldLink own index (T k).1 (T k).2.1 (T k).2.2.1 ∈ gt) (hfin : (T k).2.2.2 = false) {ty : FieldType} {v : Value} (hd : parseFieldDescriptor (T k).2.2.1 = some ty) (hn : narrow ty v = v) (hfit : fits ty v = true) (hl : k < fs.length) (hdg : decode cc pc = .ok (.putfield index, 3))
    (kk : ∀ (H1 : Heap) (locs1 : List Loc), oW G A (oU Ω a (.inr (ci, fs.set k v))) H1 → va_S A0 H0 H1 locs1 → W p l e R s m args below meth c H1 locs1 cells slots Q (F0 m (pc + 3) ls rest)) : W p l e R s m args below meth c H locs cells slots Q (F0 m pc ls (v :: .ref a :: rest)) := by
  have hap := va_apart (own := own) hts hin ty0 hty hnm hK hc
  have hA1 := (hW a _ he).2
  obtain ⟨r, h1, cell, q1, q2, q3, q4⟩ := (hW a _ he).1
  have hr : r = (C, T, N) := Option.some.inj (h1.symm.trans hc)
  subst hr
  obtain ⟨hS, hfc, kC, hkC, hkind⟩ := hK.1 ci _ hc
  obtain ⟨cf, kf, fi, f, hi, hsl⟩ := hS k hk
  have hlay := hts _ (hin _ (u_in_lay hk))
  unfold u_lay at hlay
  rw [if_neg (by rw [hfin]; decide)] at hlay
  have hst := (u_facts hfc hkC (u_lays hts hin hk) hi).1
  have h6 := u_store hfc hkC hkind hlay hi hd hn hfit
  refine W.putK hx hb (f := f) ⟨hown, hts _ hlink, ⟨_, _, _, hi⟩, hst⟩ (by rw [q2]; exact h6) q1 q3 (by rw [hsl]; exact k2_hasslot (q4 k hk)) rfl rfl hdg fun H' e1 e2 e3 => ?_
  rw [hsl] at e1 ⊢
  exact kk H' _ (hW.put ⟨_, hc, t_OB.to (V := updV (vp_V fs) k v) ⟨_, e1, q2, q3, t_set q4 hap hk v⟩ (fun j _ => vp_updV_set hl v j)⟩ e3 hA1) (hS0.put e2 e3 (hA _ hA1))
theorem o_iald (hx : p.tables.exec = Jvm.exec) (hb : c.code = cc) (hK : oK G s) (hW : oW G A Ω H) {n : Nat} {f : Fn} (he : Ω a = some (.inl (G.2.1, n, .inl f))) {i : Int32} (hin : vp_in i n) (hdg : decode cc pc = .ok (.iaload, 1))
    (kk : W p l e R s m args below meth c H locs cells slots Q (F0 m (pc + 1) ls (.int (f i.toNatClampNeg) :: rest))) : W p l e R s m args below meth c H locs cells slots Q (F0 m pc ls (.int i :: .ref a :: rest)) :=
  va_iald hx hb hK (hW.one he) 0 0 rfl rfl hin hdg kk
theorem o_zald (hx : p.tables.exec = Jvm.exec) (hb : c.code = cc) (hK : oK G s) (hW : oW G A Ω H) {n : Nat} {f : Fn} (he : Ω a = some (.inl (G.2.2.1, n, .inl f))) {i : Int32} (hin : vp_in i n) (hdg : decode cc pc = .ok (.baload, 1))
    (kk : W p l e R s m args below meth c H locs cells slots Q (F0 m (pc + 1) ls (.int (f i.toNatClampNeg) :: rest))) : W p l e R s m args below meth c H locs cells slots Q (F0 m pc ls (.int i :: .ref a :: rest)) :=
  va_zald hx hb hK (hW.one he) 0 1 rfl rfl hin hdg kk
theorem o_aldq (hx : p.tables.exec = Jvm.exec) (hb : c.code = cc) (hK : oK G s) (hW : oW G A Ω H) {n : Nat} {f : Nat → Option Nat} (he : Ω a = some (.inl (G.2.2.2, n, .inr (.inr (.inr (.inr f)))))) {i : Int32} (hin : vp_in i n) (hdg : decode cc pc = .ok (.aaload, 1))
    (kk : W p l e R s m args below meth c H locs cells slots Q (F0 m (pc + 1) ls (va_rf (f i.toNatClampNeg) :: rest))) : W p l e R s m args below meth c H locs cells slots Q (F0 m pc ls (.int i :: .ref a :: rest)) :=
  va_aldq hx hb hK (hW.one he) 0 2 rfl rfl hin hdg kk
theorem o_iast (hx : p.tables.exec = Jvm.exec) (hb : c.code = cc) (hK : oK G s) (hW : oW G A Ω H) (hS : va_S A0 H0 H locs) (hA : ∀ q, A q → A0 q) {n : Nat} {f : Fn} (he : Ω a = some (.inl (G.2.1, n, .inl f))) {i x : Int32} (hin : vp_in i n) (hdg : decode cc pc = .ok (.iastore, 1))
    (kk : ∀ (H1 : Heap) (locs1 : List Loc), oW G A (oU Ω a (.inl (G.2.1, n, .inl (upd f i.toNatClampNeg x)))) H1 → va_S A0 H0 H1 locs1 → W p l e R s m args below meth c H1 locs1 cells slots Q (F0 m (pc + 1) ls rest)) : W p l e R s m args below meth c H locs cells slots Q (F0 m pc ls (.int x :: .int i :: .ref a :: rest)) := by
  refine W.iast hx hb (hW a _ he).1 ((hK.2 0 _ rfl).1 n (fun j => .int (f j))) (fun q => by cases q) (by show ¬ (i < 0 ∨ (arrV _ _ _).slots.size ≤ _); rw [arrV_size]; exact hin) rfl rfl hdg fun H1 e z oq => ?_
  refine kk H1 _ (hW.put ?_ oq (hW a _ he).2) (hS.put z oq (hA _ (hW a _ he).2))
  show H1[a]? = some (vp_cell _ _)
  rw [e]
  rw [vp_cell_i, vp_cell_i, arrV_store]
  congr 2
  funext q
  by_cases hq : q = i.toNatClampNeg
  · subst hq
    simp [updV, upd]
  · simp [updV, upd, hq]
theorem o_zast (hx : p.tables.exec = Jvm.exec) (hb : c.code = cc) (hK : oK G s) (hW : oW G A Ω H) (hS : va_S A0 H0 H locs) (hA : ∀ q, A q → A0 q) {n : Nat} {f : Fn} (he : Ω a = some (.inl (G.2.2.1, n, .inl f))) {i x : Int32} (hin : vp_in i n) (hdg : decode cc pc = .ok (.bastore, 1))
    (kk : ∀ (H1 : Heap) (locs1 : List Loc), oW G A (oU Ω a (.inl (G.2.2.1, n, .inl (upd f i.toNatClampNeg (vp_nar .boolean x))))) H1 → va_S A0 H0 H1 locs1 → W p l e R s m args below meth c H1 locs1 cells slots Q (F0 m (pc + 1) ls rest)) : W p l e R s m args below meth c H locs cells slots Q (F0 m pc ls (.int x :: .int i :: .ref a :: rest)) := by
  refine W.zast hx hb (hW a _ he).1 ((hK.2 1 _ rfl).1 n (fun j => .int (f j))) (fun q => by cases q) (by show ¬ (i < 0 ∨ (arrV _ _ _).slots.size ≤ _); rw [arrV_size]; exact hin) rfl rfl hdg fun H1 e z oq => ?_
  refine kk H1 _ (hW.put ?_ oq (hW a _ he).2) (hS.put z oq (hA _ (hW a _ he).2))
  show H1[a]? = some (vp_cell _ _)
  rw [e]
  rw [vp_cell_i, vp_cell_i, arrV_store]
  congr 2
  funext q
  by_cases hq : q = i.toNatClampNeg
  · subst hq
    simp [updV, upd, vp_nar]
    try rfl
  · simp [updV, upd, hq]
/-- System.arraycopy between two int rows, from 0 to 0 -/
theorem o_copy (hx : p.tables.exec = Jvm.exec) (hb : c.code = cc) (hml : c.maxLocals = ls.size) {own : String} {index : Nat} (hown : s.vm.findClass own = some m.cls) (hts : ∀ w ∈ gt, w.before args s = true) (hlink : Cond.methodLink own index arraycopyName ∈ gt) (hini : Cond.initialized "java/lang/System" ∈ gt)
    (hK : oK G s) (hW : oW G A Ω H) (hS : va_S A0 H0 H locs) (hA : ∀ q, A q → A0 q) {a0 : Nat} {n0 n1 : Nat} {f g : Fn} (ha0 : Ω a0 = some (.inl (G.2.1, n0, .inl f))) (ha1 : Ω a = some (.inl (G.2.1, n1, .inl g)))
    {sp dp n : Int32} (h1 : ¬ sp < 0) (h2 : ¬ dp < 0) (h3 : ¬ n < 0) (h4 : sp.toNatClampNeg + n.toNatClampNeg ≤ n0) (h5 : dp.toNatClampNeg + n.toNatClampNeg ≤ n1)
    (hframes : 1 ≤ R.frames) (hlocals : (rest.map fun v => v.category).sum + (nativeFrameWords "java/lang/System" "arraycopy" 5 + 11) ≤ R.locals) (hdg : decode cc pc = .ok (.invokestatic index, 3))
    (kk : ∀ (H1 : Heap) (locs1 : List Loc), oW G A (oU Ω a (.inl (G.2.1, n1, .inl (va_cpy f g sp.toNatClampNeg dp.toNatClampNeg n.toNatClampNeg)))) H1 → va_S A0 H0 H1 locs1 → W p l e R s m args below meth c H1 locs1 cells slots Q (F0 m (pc + 3) ls rest)) : W p l e R s m args below meth c H locs cells slots Q (F0 m pc ls (.int n :: .int dp :: .ref a :: .int sp :: .ref a0 :: rest)) := by
  have nn : ∀ z : Int32, ¬ z < 0 → z.toInt = (z.toNatClampNeg : Int) := by
    intro z hz
    have hz0 : (0 : Int) ≤ z.toInt := by
      have := Int32.not_lt.mp hz
      simpa using Int32.le_iff_toInt_le.mp this
    show z.toInt = ((z.toInt.toNat : Nat) : Int)
    omega
  intro T hT X
  have hc0 := (hW a0 _ ha0).1
  have hc1 := (hW a _ ha1).1
  obtain ⟨-, k0, hk0, cm0, hkk0⟩ := (hK.2 0 _ rfl).1 n0 (fun j => .int (f j))
  obtain ⟨-, k1, hk1, cm1, hkk1⟩ := (hK.2 0 _ rfl).1 n1 (fun j => .int (g j))
  obtain ⟨vm', X', step⟩ := X.arraycopy hx hown (hts _ hlink) (hts _ wm_acN) (hts _ wm_acS) (hts _ hini) (src := a0) (dst := a) (cs := vp_cell G.2.1 (n0, .inl f)) (cd := vp_cell G.2.1 (n1, .inl g)) (srcPos := sp) (destPos := dp) (n := n) (by rw [hT]; exact hc0) (by rw [hT]; exact hc1)
    (fun _ h => by cases h) (fun _ h => by cases h) (fun h => by cases h) (fun h => by cases h) hk0 hk1 hkk0 hkk1 (by simp [refKind]) h1 h2 h3
    (by rw [nn sp h1, nn n h3]; show ¬ _ > ((arrV G.2.1 n0 (fun j => .int (f j))).slots.size : Int); rw [arrV_size]; omega)
    (by rw [nn dp h2, nn n h3]; show ¬ _ > ((arrV G.2.1 n1 (fun j => .int (g j))).slots.size : Int); rw [arrV_size]; omega)
    (fun vm₁ _ i hi => by
      have e : (vp_cell G.2.1 (n0, .inl f)).slots.getD (sp.toNatClampNeg + i) .null = .int (f (sp.toNatClampNeg + i)) := by
        show (arrV G.2.1 n0 (fun j => .int (f j))).slots.getD _ _ = _
        rw [Array.getD_eq_getD_getElem?, arrV_read _ _ (by omega)]
        rfl
      refine ⟨?_, ?_⟩
      · rw [e]
        rfl
      · rw [e]
        exact trivial)
    (g := F0 m pc ls (.int n :: .int dp :: .ref a :: .int sp :: .ref a0 :: rest)) rfl (by rw [hml]) (rest := rest) rfl (by rw [hb]; exact hdg) hframes (by show 2 * 0 + _ + _ ≤ _; omega)
  have e1 : copied (vp_cell G.2.1 (n0, .inl f)) (vp_cell G.2.1 (n1, .inl g)) sp dp n = vp_cell G.2.1 (n1, .inl (va_cpy f g sp.toNatClampNeg dp.toNatClampNeg n.toNatClampNeg)) := va_copied (fun z => .int z) G.2.1 G.2.1 f g h4
  rw [e1] at X' step
  have hl : a < H.size := (Array.getElem?_eq_some_iff.mp hc1).1
  have hheap : ((T.setVm vm').setCell a (vp_cell G.2.1 (n1, .inl (va_cpy f g sp.toNatClampNeg dp.toNatClampNeg n.toNatClampNeg)))).heap = H.setIfInBounds a (vp_cell G.2.1 (n1, .inl (va_cpy f g sp.toNatClampNeg dp.toNatClampNeg n.toNatClampNeg))) := by rw [← hT]; rfl
  have oq : ∀ q : Nat, q ≠ a → (H.setIfInBounds a (vp_cell G.2.1 (n1, .inl (va_cpy f g sp.toNatClampNeg dp.toNatClampNeg n.toNatClampNeg))))[q]? = H[q]? := fun q hq => by simp [Array.getElem?_setIfInBounds, Ne.symm hq]
  have hAa := (hW a _ ha1).2
  obtain ⟨t, a1, b1⟩ := kk _ _ (hW.put (show (H.setIfInBounds a _)[a]? = some _ by simp [Array.getElem?_setIfInBounds, hl]) oq hAa) ⟨by simp; exact hS.1, fun q g1 g2 => by
      rw [oq q (fun e => g2 (by rw [e]; exact hA _ hAa))]
      exact hS.2.1 q g1 g2, fun q hq => by
      rcases List.mem_append.mp hq with h | h
      · exact hS.2.2 q h
      · obtain ⟨z, -, hz⟩ := List.mem_map.mp h
        rw [← hz]
        exact hA _ hAa⟩ _ hheap X'
  exact ⟨t, step t a1, b1⟩
/-- the side facts of a call, by numbers alone -/
def o_num (y : MethodName) (n : Nat) (rm R : Room) (maxL : Nat) : Bool := decide (y.cls ≠ "java/lang/invoke/MethodHandle") && decide (y.cls ≠ "java/lang/invoke/VarHandle") && decide ((parseMethodDescriptor y.desc).map (fun d => d.parameters.length) = some n) && Nat.ble (rm.frames + 1) R.frames && Nat.ble (8 + (maxL + 11) + rm.locals) R.locals && Nat.beq rm.cells 0 && Nat.beq rm.slots 0
theorem o_num_ok {y : MethodName} {n : Nat} {rm R : Room} {maxL : Nat} (h : o_num y n rm R maxL = true) : (y.cls ≠ "java/lang/invoke/MethodHandle" ∧ y.cls ≠ "java/lang/invoke/VarHandle" ∧ (parseMethodDescriptor y.desc).map (fun d => d.parameters.length) = some n) ∧ (rm.frames + 1 ≤ R.frames ∧ 8 + (maxL + 11) + rm.locals ≤ R.locals) ∧ rm.cells = 0 ∧ rm.slots = 0 := by
  simp only [o_num, Bool.and_eq_true, decide_eq_true_eq, Nat.ble_eq, Nat.beq_eq] at h
  obtain ⟨⟨⟨⟨⟨⟨h1, h2⟩, h3⟩, h4⟩, h5⟩, h6⟩, h7⟩ := h
  exact ⟨⟨h1, h2, h3⟩, ⟨h4, h5⟩, h6, h7⟩
theorem o_Vi {y : MethodName} {bytes : ByteArray} {maxL nL index ci N n : Nat} {ret : Option FieldType} {own : String} {T : u_T} {As st0 : List Value} {rm : Room} {fs : List Value} {post : Int32 → Om → Prop} (hx : p.tables.exec = Jvm.exec) (hb : c.code = cc) (hml : c.maxLocals = nL) (hown : s.vm.findClass own = some m.cls) (hts : ∀ w ∈ gt, w.before args s = true) (hK : oK G s) (hN : oN s) (hW : oW G A Ω H) (hS : va_S A0 H0 H locs) (hA : ∀ q, A q → A0 q)
    (hM : Met l y (wz y bytes maxL ret) rm (va_Pc (.ref a :: As) (oS G A Ω)) (va_Qi post (oB G A) A) 0 0 A) (he : Ω a = some (.inr (ci, fs))) (hc : vwCl[ci]? = some (y.cls, T, N)) (hg : GoodIn gt (wsV own index y.cls y (wz y bytes maxL ret))) (hn : o_num y n rm R maxL = true) (hcs : cells ≤ R.cells ∧ slots ≤ R.slots) (hls : ls.size = nL) (hcat : (rest.map fun v => v.category).sum ≤ 8) (hlen : As.length = n) (hst : st0 = As.reverse ++ .ref a :: rest) (hdg : decode cc pc = .ok (.invokevirtual index, 3))
    (kk : ∀ (r : Int32) (Ω1 : Om) (H1 : Heap) (locs1 : List Loc), post r Ω1 → oW G A Ω1 H1 → va_S A0 H0 H1 locs1 → W p l e R s m args below meth c H1 locs1 cells slots Q (F0 m (pc + 3) ls (.int r :: rest))) : W p l e R s m args below meth c H locs cells slots Q (F0 m pc ls st0) := by
  obtain ⟨h1, h2, h3, h4⟩ := o_num_ok hn
  subst hlen
  refine va_calli (va_runV (As := As) (rest := rest) ⟨hx, hb, hml, hown, hts⟩ hM (cwV _ hts hg rfl h3 h4 ⟨rfl, h1⟩ h2) ⟨oS_blind, va_recv hK (hW.one he) (q0 := 0) hc rfl, oS_ok hK hN hW⟩ rfl rfl hls hst (lv_room hcat) hdg ⟨hcs.1, hcs.2⟩) hS (fun q _ h => hA q h) hA (fun r u t H1 locs1 ht hvm hw hB _ _ hS => ?_)
  exact kk r u H1 locs1 hw (by rw [← ht]; exact hB) hS
theorem o_ViR {y : MethodName} {bytes : ByteArray} {maxL nL index ci N n : Nat} {ret : Option FieldType} {own : String} {T : u_T} {As st0 : List Value} {rm : Room} {fs : List Value} {post : Int32 → Prop} (hx : p.tables.exec = Jvm.exec) (hb : c.code = cc) (hml : c.maxLocals = nL) (hown : s.vm.findClass own = some m.cls) (hts : ∀ w ∈ gt, w.before args s = true) (hK : oK G s) (hN : oN s) (hW : oW G A Ω H) (hS : va_S A0 H0 H locs) (hA : ∀ q, A q → A0 q)
    (hM : Met l y (wz y bytes maxL ret) rm (va_Pc (.ref a :: As) (oS G A Ω)) (va_Qi (fun r Ω1 => post r ∧ Ω1 = Ω) (oB G A) A) 0 0 A) (he : Ω a = some (.inr (ci, fs))) (hc : vwCl[ci]? = some (y.cls, T, N)) (hg : GoodIn gt (wsV own index y.cls y (wz y bytes maxL ret))) (hn : o_num y n rm R maxL = true) (hcs : cells ≤ R.cells ∧ slots ≤ R.slots) (hls : ls.size = nL) (hcat : (rest.map fun v => v.category).sum ≤ 8) (hlen : As.length = n) (hst : st0 = As.reverse ++ .ref a :: rest) (hdg : decode cc pc = .ok (.invokevirtual index, 3))
    (kk : ∀ (r : Int32) (H1 : Heap) (locs1 : List Loc), post r → oW G A Ω H1 → va_S A0 H0 H1 locs1 → W p l e R s m args below meth c H1 locs1 cells slots Q (F0 m (pc + 3) ls (.int r :: rest))) : W p l e R s m args below meth c H locs cells slots Q (F0 m pc ls st0) :=
  o_Vi hx hb hml hown hts hK hN hW hS hA hM he hc hg hn hcs hls hcat hlen hst hdg (fun r Ω1 H1 locs1 hp hW hS => by
    obtain ⟨hp, hΩ⟩ := hp
    rw [hΩ] at hW
    exact kk r H1 locs1 hp hW hS)
theorem o_Vv {y : MethodName} {bytes : ByteArray} {maxL nL index ci N n : Nat} {ret : Option FieldType} {own : String} {T : u_T} {As st0 : List Value} {rm : Room} {fs : List Value} {post : Om → Prop} (hx : p.tables.exec = Jvm.exec) (hb : c.code = cc) (hml : c.maxLocals = nL) (hown : s.vm.findClass own = some m.cls) (hts : ∀ w ∈ gt, w.before args s = true) (hK : oK G s) (hN : oN s) (hW : oW G A Ω H) (hS : va_S A0 H0 H locs) (hA : ∀ q, A q → A0 q)
    (hM : Met l y (wz y bytes maxL ret) rm (va_Pc (.ref a :: As) (oS G A Ω)) (va_Qv post (oB G A) A) 0 0 A) (he : Ω a = some (.inr (ci, fs))) (hc : vwCl[ci]? = some (y.cls, T, N)) (hg : GoodIn gt (wsV own index y.cls y (wz y bytes maxL ret))) (hn : o_num y n rm R maxL = true) (hcs : cells ≤ R.cells ∧ slots ≤ R.slots) (hls : ls.size = nL) (hcat : (rest.map fun v => v.category).sum ≤ 8) (hlen : As.length = n) (hst : st0 = As.reverse ++ .ref a :: rest) (hdg : decode cc pc = .ok (.invokevirtual index, 3))
    (kk : ∀ (Ω1 : Om) (H1 : Heap) (locs1 : List Loc), post Ω1 → oW G A Ω1 H1 → va_S A0 H0 H1 locs1 → W p l e R s m args below meth c H1 locs1 cells slots Q (F0 m (pc + 3) ls rest)) : W p l e R s m args below meth c H locs cells slots Q (F0 m pc ls st0) := by
  obtain ⟨h1, h2, h3, h4⟩ := o_num_ok hn
  subst hlen
  refine va_callv (va_runV (As := As) (rest := rest) ⟨hx, hb, hml, hown, hts⟩ hM (cwV _ hts hg rfl h3 h4 ⟨rfl, h1⟩ h2) ⟨oS_blind, va_recv hK (hW.one he) (q0 := 0) hc rfl, oS_ok hK hN hW⟩ rfl rfl hls hst (lv_room hcat) hdg ⟨hcs.1, hcs.2⟩) hS (fun q _ h => hA q h) hA (fun u t H1 locs1 ht hvm hw hB _ _ hS => ?_)
  exact kk u H1 locs1 hw (by rw [← ht]; exact hB) hS
theorem o_Si {y : MethodName} {bytes : ByteArray} {maxL nL index n : Nat} {ret : Option FieldType} {own : String} {As st0 : List Value} {rm : Room} {post : Int32 → Om → Prop} (hx : p.tables.exec = Jvm.exec) (hb : c.code = cc) (hml : c.maxLocals = nL) (hown : s.vm.findClass own = some m.cls) (hts : ∀ w ∈ gt, w.before args s = true) (hK : oK G s) (hN : oN s) (hW : oW G A Ω H) (hS : va_S A0 H0 H locs) (hA : ∀ q, A q → A0 q)
    (hM : Met l y (wz y bytes maxL ret) rm (va_Pc As (oS G A Ω)) (va_Qi post (oB G A) A) 0 0 A) (z1 : Cond.methodLink own index y ∈ gt) (z2 : Cond.static y ∈ gt) (z3 : Cond.initialized y.cls ∈ gt) (zc : Cond.code y bytes maxL ret ∈ gt) (hn : o_num y n rm R maxL = true) (hcs : cells ≤ R.cells ∧ slots ≤ R.slots) (hls : ls.size = nL) (hcat : (rest.map fun v => v.category).sum ≤ 8) (hlen : As.length = n) (hst : st0 = As.reverse ++ rest) (hdg : decode cc pc = .ok (.invokestatic index, 3))
    (kk : ∀ (r : Int32) (Ω1 : Om) (H1 : Heap) (locs1 : List Loc), post r Ω1 → oW G A Ω1 H1 → va_S A0 H0 H1 locs1 → W p l e R s m args below meth c H1 locs1 cells slots Q (F0 m (pc + 3) ls (.int r :: rest))) : W p l e R s m args below meth c H locs cells slots Q (F0 m pc ls st0) := by
  obtain ⟨h1, h2, h3, h4⟩ := o_num_ok hn
  subst hlen
  refine va_calli (va_runS (As := As) (rest := rest) ⟨hx, hb, hml, hown, hts⟩ hM ⟨callB_of _ hts (good_wz zc) rfl h3 h4 (hts _ z3) (hts _ z1) h1 h2, hts _ z2⟩ ⟨oS_blind, oS_ok hK hN hW⟩ rfl rfl hls hst (lv_room hcat) hdg ⟨hcs.1, hcs.2⟩) hS (fun q _ h => hA q h) hA (fun r u t H1 locs1 ht hvm hw hB _ _ hS => ?_)
  exact kk r u H1 locs1 hw (by rw [← ht]; exact hB) hS
theorem o_SiR {y : MethodName} {bytes : ByteArray} {maxL nL index n : Nat} {ret : Option FieldType} {own : String} {As st0 : List Value} {rm : Room} {post : Int32 → Prop} (hx : p.tables.exec = Jvm.exec) (hb : c.code = cc) (hml : c.maxLocals = nL) (hown : s.vm.findClass own = some m.cls) (hts : ∀ w ∈ gt, w.before args s = true) (hK : oK G s) (hN : oN s) (hW : oW G A Ω H) (hS : va_S A0 H0 H locs) (hA : ∀ q, A q → A0 q)
    (hM : Met l y (wz y bytes maxL ret) rm (va_Pc As (oS G A Ω)) (va_Qi (fun r Ω1 => post r ∧ Ω1 = Ω) (oB G A) A) 0 0 A) (z1 : Cond.methodLink own index y ∈ gt) (z2 : Cond.static y ∈ gt) (z3 : Cond.initialized y.cls ∈ gt) (zc : Cond.code y bytes maxL ret ∈ gt) (hn : o_num y n rm R maxL = true) (hcs : cells ≤ R.cells ∧ slots ≤ R.slots) (hls : ls.size = nL) (hcat : (rest.map fun v => v.category).sum ≤ 8) (hlen : As.length = n) (hst : st0 = As.reverse ++ rest) (hdg : decode cc pc = .ok (.invokestatic index, 3))
    (kk : ∀ (r : Int32) (H1 : Heap) (locs1 : List Loc), post r → oW G A Ω H1 → va_S A0 H0 H1 locs1 → W p l e R s m args below meth c H1 locs1 cells slots Q (F0 m (pc + 3) ls (.int r :: rest))) : W p l e R s m args below meth c H locs cells slots Q (F0 m pc ls st0) :=
  o_Si hx hb hml hown hts hK hN hW hS hA hM z1 z2 z3 zc hn hcs hls hcat hlen hst hdg (fun r Ω1 H1 locs1 hp hW hS => by
    obtain ⟨hp, hΩ⟩ := hp
    rw [hΩ] at hW
    exact kk r H1 locs1 hp hW hS)
theorem o_SNi {y : MethodName} {bytes : ByteArray} {maxL nL index n : Nat} {ret : Option FieldType} {own : String} {As st0 : List Value} {rm : Room} {post : Int32 → Om → Prop} (hx : p.tables.exec = Jvm.exec) (hb : c.code = cc) (hml : c.maxLocals = nL) (hown : s.vm.findClass own = some m.cls) (hts : ∀ w ∈ gt, w.before args s = true) (hK : oK G s) (hN : oN s) (hW : oW G A Ω H) (hS : va_S A0 H0 H locs) (hA : ∀ q, A q → A0 q)
    (hM : Met l y (wz y bytes maxL ret) rm (va_Pc As (oS G A Ω)) (va_Qi post (oB G A) A) 0 0 A) (z1 : (own, index, y) ∈ nestM) (z2 : Cond.static y ∈ gt) (z3 : Cond.initialized y.cls ∈ gt) (zc : Cond.code y bytes maxL ret ∈ gt) (hn : o_num y n rm R maxL = true) (hcs : cells ≤ R.cells ∧ slots ≤ R.slots) (hls : ls.size = nL) (hcat : (rest.map fun v => v.category).sum ≤ 8) (hlen : As.length = n) (hst : st0 = As.reverse ++ rest) (hdg : decode cc pc = .ok (.invokestatic index, 3))
    (kk : ∀ (r : Int32) (Ω1 : Om) (H1 : Heap) (locs1 : List Loc), post r Ω1 → oW G A Ω1 H1 → va_S A0 H0 H1 locs1 → W p l e R s m args below meth c H1 locs1 cells slots Q (F0 m (pc + 3) ls (.int r :: rest))) : W p l e R s m args below meth c H locs cells slots Q (F0 m pc ls st0) := by
  obtain ⟨h1, h2, h3, h4⟩ := o_num_ok hn
  subst hlen
  refine va_calli (va_runSN (As := As) (rest := rest) ⟨hx, hb, hml, hown, hts⟩ hM ⟨va_cnB _ hts (good_wz zc) rfl h3 h4 (hN.1 _ z1) (hts _ z3) h1 h2, hts _ z2, trivial⟩ ⟨oS_blind, oS_ok hK hN hW⟩ rfl rfl hls hst (lv_room hcat) hdg ⟨hcs.1, hcs.2⟩) hS (fun q _ h => hA q h) hA (fun r u t H1 locs1 ht hvm hw hB _ _ hS => ?_)
  exact kk r u H1 locs1 hw (by rw [← ht]; exact hB) hS
theorem o_SNiR {y : MethodName} {bytes : ByteArray} {maxL nL index n : Nat} {ret : Option FieldType} {own : String} {As st0 : List Value} {rm : Room} {post : Int32 → Prop} (hx : p.tables.exec = Jvm.exec) (hb : c.code = cc) (hml : c.maxLocals = nL) (hown : s.vm.findClass own = some m.cls) (hts : ∀ w ∈ gt, w.before args s = true) (hK : oK G s) (hN : oN s) (hW : oW G A Ω H) (hS : va_S A0 H0 H locs) (hA : ∀ q, A q → A0 q)
    (hM : Met l y (wz y bytes maxL ret) rm (va_Pc As (oS G A Ω)) (va_Qi (fun r Ω1 => post r ∧ Ω1 = Ω) (oB G A) A) 0 0 A) (z1 : (own, index, y) ∈ nestM) (z2 : Cond.static y ∈ gt) (z3 : Cond.initialized y.cls ∈ gt) (zc : Cond.code y bytes maxL ret ∈ gt) (hn : o_num y n rm R maxL = true) (hcs : cells ≤ R.cells ∧ slots ≤ R.slots) (hls : ls.size = nL) (hcat : (rest.map fun v => v.category).sum ≤ 8) (hlen : As.length = n) (hst : st0 = As.reverse ++ rest) (hdg : decode cc pc = .ok (.invokestatic index, 3))
    (kk : ∀ (r : Int32) (H1 : Heap) (locs1 : List Loc), post r → oW G A Ω H1 → va_S A0 H0 H1 locs1 → W p l e R s m args below meth c H1 locs1 cells slots Q (F0 m (pc + 3) ls (.int r :: rest))) : W p l e R s m args below meth c H locs cells slots Q (F0 m pc ls st0) :=
  o_SNi hx hb hml hown hts hK hN hW hS hA hM z1 z2 z3 zc hn hcs hls hcat hlen hst hdg (fun r Ω1 H1 locs1 hp hW hS => by
    obtain ⟨hp, hΩ⟩ := hp
    rw [hΩ] at hW
    exact kk r H1 locs1 hp hW hS)
end OR
end
section
/-! pictures, by program -/
abbrev Blk : Type := Nat → Nat → Int32
def bs (u : Blk) (k : Nat) (f : Fn) : Blk := fun q => if q = k then f else u q
def inDev (G : Gm) (Ω : Om) (o : Nat) (c0 : Fn) (c1 : Fn) (c2 : Fn) (c3 : Fn) : Prop := Ω o = some (.inr (1, [.ref (o + 1), .ref (o + 2), .ref (o + 3), .ref (o + 4)])) ∧ Ω (o + 1) = some (.inl (G.2.1, 6, .inl c0)) ∧ Ω (o + 2) = some (.inl (G.2.1, 6, .inl c1)) ∧ Ω (o + 3) = some (.inl (G.2.2.1, 6, .inl c2)) ∧ Ω (o + 4) = some (.inl (G.2.1, 12, .inl c3))
theorem inDev_o {G : Gm} {Ω : Om} {o : Nat} {c0 : Fn} {c1 : Fn} {c2 : Fn} {c3 : Fn} (h : inDev G Ω o c0 c1 c2 c3) : Ω o = some (.inr (1, [.ref (o + 1), .ref (o + 2), .ref (o + 3), .ref (o + 4)])) := h.1
theorem inDev_a0 {G : Gm} {Ω : Om} {o : Nat} {c0 : Fn} {c1 : Fn} {c2 : Fn} {c3 : Fn} (h : inDev G Ω o c0 c1 c2 c3) : Ω (o + 1) = some (.inl (G.2.1, 6, .inl c0)) := h.2.1
theorem inDev_a1 {G : Gm} {Ω : Om} {o : Nat} {c0 : Fn} {c1 : Fn} {c2 : Fn} {c3 : Fn} (h : inDev G Ω o c0 c1 c2 c3) : Ω (o + 2) = some (.inl (G.2.1, 6, .inl c1)) := h.2.2.1
theorem inDev_a2 {G : Gm} {Ω : Om} {o : Nat} {c0 : Fn} {c1 : Fn} {c2 : Fn} {c3 : Fn} (h : inDev G Ω o c0 c1 c2 c3) : Ω (o + 3) = some (.inl (G.2.2.1, 6, .inl c2)) := h.2.2.2.1
theorem inDev_a3 {G : Gm} {Ω : Om} {o : Nat} {c0 : Fn} {c1 : Fn} {c2 : Fn} {c3 : Fn} (h : inDev G Ω o c0 c1 c2 c3) : Ω (o + 4) = some (.inl (G.2.1, 12, .inl c3)) := h.2.2.2.2
theorem inDev.keep {G : Gm} {Ω : Om} {o : Nat} {c0 : Fn} {c1 : Fn} {c2 : Fn} {c3 : Fn} {Ω1 : Om} (h : inDev G Ω o c0 c1 c2 c3) (hq : ∀ q : Nat, o ≤ q → q < o + 5 → Ω1 q = Ω q) : inDev G Ω1 o c0 c1 c2 c3 := ⟨(hq _ (by omega) (by omega)).trans (inDev_o h), (hq _ (by omega) (by omega)).trans (inDev_a0 h), (hq _ (by omega) (by omega)).trans (inDev_a1 h), (hq _ (by omega) (by omega)).trans (inDev_a2 h), (hq _ (by omega) (by omega)).trans (inDev_a3 h)⟩
theorem sDev_0 {G : Gm} {Ω : Om} {o : Nat} {c0 : Fn} {c1 : Fn} {c2 : Fn} {c3 : Fn} {f : Fn} (h : inDev G Ω o c0 c1 c2 c3) : inDev G (oU Ω (o + 1) (.inl (G.2.1, 6, .inl f))) o f c1 c2 c3 := ⟨(oU_ne (by omega)).trans (inDev_o h), oU_self, (oU_ne (by omega)).trans (inDev_a1 h), (oU_ne (by omega)).trans (inDev_a2 h), (oU_ne (by omega)).trans (inDev_a3 h)⟩
theorem wDev_0 {p : Program} {l : Launch} {e : Env} {R : Room} {s : State} {m : MethodId} {args : Array Value} {below : List Frame} {meth : Method} {c : Code} {H : Heap} {locs : List Loc} {cells slots : Nat} {Q : State → Prop} {cc : ByteArray} {pc : Nat} {ls : Array Slot} {rest : List Value} {G : Gm} {A A0 : Nat → Prop} {Ω : Om} {H0 : Heap} {o : Nat} {c0 : Fn} {c1 : Fn} {c2 : Fn} {c3 : Fn} (hx : p.tables.exec = Jvm.exec) (hb : c.code = cc) (hK : oK G s) (hW : oW G A Ω H) (hS : va_S A0 H0 H locs) (hA : ∀ q, A q → A0 q) (h : inDev G Ω o c0 c1 c2 c3) {i x : Int32} (hin : vp_in i 6) (hdg : decode cc pc = .ok (.iastore, 1)) (kk : ∀ (Ω1 : Om) (H1 : Heap) (locs1 : List Loc), inDev G Ω1 o (upd c0 i.toNatClampNeg x) c1 c2 c3 → oF Ω Ω1 o 5 → oW G A Ω1 H1 → va_S A0 H0 H1 locs1 → W p l e R s m args below meth c H1 locs1 cells slots Q (F0 m (pc + 1) ls rest)) : W p l e R s m args below meth c H locs cells slots Q (F0 m pc ls (.int x :: .int i :: .ref (o + 1) :: rest)) := o_iast hx hb hK hW hS hA (inDev_a0 h) hin hdg (fun H1 locs1 hW1 hS1 => kk _ H1 locs1 (sDev_0 h) (oF.up (by omega) (by omega)) hW1 hS1)
theorem sDev_1 {G : Gm} {Ω : Om} {o : Nat} {c0 : Fn} {c1 : Fn} {c2 : Fn} {c3 : Fn} {f : Fn} (h : inDev G Ω o c0 c1 c2 c3) : inDev G (oU Ω (o + 2) (.inl (G.2.1, 6, .inl f))) o c0 f c2 c3 := ⟨(oU_ne (by omega)).trans (inDev_o h), (oU_ne (by omega)).trans (inDev_a0 h), oU_self, (oU_ne (by omega)).trans (inDev_a2 h), (oU_ne (by omega)).trans (inDev_a3 h)⟩
theorem wDev_1 {p : Program} {l : Launch} {e : Env} {R : Room} {s : State} {m : MethodId} {args : Array Value} {below : List Frame} {meth : Method} {c : Code} {H : Heap} {locs : List Loc} {cells slots : Nat} {Q : State → Prop} {cc : ByteArray} {pc : Nat} {ls : Array Slot} {rest : List Value} {G : Gm} {A A0 : Nat → Prop} {Ω : Om} {H0 : Heap} {o : Nat} {c0 : Fn} {c1 : Fn} {c2 : Fn} {c3 : Fn} (hx : p.tables.exec = Jvm.exec) (hb : c.code = cc) (hK : oK G s) (hW : oW G A Ω H) (hS : va_S A0 H0 H locs) (hA : ∀ q, A q → A0 q) (h : inDev G Ω o c0 c1 c2 c3) {i x : Int32} (hin : vp_in i 6) (hdg : decode cc pc = .ok (.iastore, 1)) (kk : ∀ (Ω1 : Om) (H1 : Heap) (locs1 : List Loc), inDev G Ω1 o c0 (upd c1 i.toNatClampNeg x) c2 c3 → oF Ω Ω1 o 5 → oW G A Ω1 H1 → va_S A0 H0 H1 locs1 → W p l e R s m args below meth c H1 locs1 cells slots Q (F0 m (pc + 1) ls rest)) : W p l e R s m args below meth c H locs cells slots Q (F0 m pc ls (.int x :: .int i :: .ref (o + 2) :: rest)) := o_iast hx hb hK hW hS hA (inDev_a1 h) hin hdg (fun H1 locs1 hW1 hS1 => kk _ H1 locs1 (sDev_1 h) (oF.up (by omega) (by omega)) hW1 hS1)
theorem sDev_2 {G : Gm} {Ω : Om} {o : Nat} {c0 : Fn} {c1 : Fn} {c2 : Fn} {c3 : Fn} {f : Fn} (h : inDev G Ω o c0 c1 c2 c3) : inDev G (oU Ω (o + 3) (.inl (G.2.2.1, 6, .inl f))) o c0 c1 f c3 := ⟨(oU_ne (by omega)).trans (inDev_o h), (oU_ne (by omega)).trans (inDev_a0 h), (oU_ne (by omega)).trans (inDev_a1 h), oU_self, (oU_ne (by omega)).trans (inDev_a3 h)⟩
theorem wDev_2 {p : Program} {l : Launch} {e : Env} {R : Room} {s : State} {m : MethodId} {args : Array Value} {below : List Frame} {meth : Method} {c : Code} {H : Heap} {locs : List Loc} {cells slots : Nat} {Q : State → Prop} {cc : ByteArray} {pc : Nat} {ls : Array Slot} {rest : List Value} {G : Gm} {A A0 : Nat → Prop} {Ω : Om} {H0 : Heap} {o : Nat} {c0 : Fn} {c1 : Fn} {c2 : Fn} {c3 : Fn} (hx : p.tables.exec = Jvm.exec) (hb : c.code = cc) (hK : oK G s) (hW : oW G A Ω H) (hS : va_S A0 H0 H locs) (hA : ∀ q, A q → A0 q) (h : inDev G Ω o c0 c1 c2 c3) {i x : Int32} (hin : vp_in i 6) (hdg : decode cc pc = .ok (.bastore, 1)) (kk : ∀ (Ω1 : Om) (H1 : Heap) (locs1 : List Loc), inDev G Ω1 o c0 c1 (upd c2 i.toNatClampNeg (vp_nar .boolean x)) c3 → oF Ω Ω1 o 5 → oW G A Ω1 H1 → va_S A0 H0 H1 locs1 → W p l e R s m args below meth c H1 locs1 cells slots Q (F0 m (pc + 1) ls rest)) : W p l e R s m args below meth c H locs cells slots Q (F0 m pc ls (.int x :: .int i :: .ref (o + 3) :: rest)) := o_zast hx hb hK hW hS hA (inDev_a2 h) hin hdg (fun H1 locs1 hW1 hS1 => kk _ H1 locs1 (sDev_2 h) (oF.up (by omega) (by omega)) hW1 hS1)
theorem sDev_3 {G : Gm} {Ω : Om} {o : Nat} {c0 : Fn} {c1 : Fn} {c2 : Fn} {c3 : Fn} {f : Fn} (h : inDev G Ω o c0 c1 c2 c3) : inDev G (oU Ω (o + 4) (.inl (G.2.1, 12, .inl f))) o c0 c1 c2 f := ⟨(oU_ne (by omega)).trans (inDev_o h), (oU_ne (by omega)).trans (inDev_a0 h), (oU_ne (by omega)).trans (inDev_a1 h), (oU_ne (by omega)).trans (inDev_a2 h), oU_self⟩
theorem wDev_3 {p : Program} {l : Launch} {e : Env} {R : Room} {s : State} {m : MethodId} {args : Array Value} {below : List Frame} {meth : Method} {c : Code} {H : Heap} {locs : List Loc} {cells slots : Nat} {Q : State → Prop} {cc : ByteArray} {pc : Nat} {ls : Array Slot} {rest : List Value} {G : Gm} {A A0 : Nat → Prop} {Ω : Om} {H0 : Heap} {o : Nat} {c0 : Fn} {c1 : Fn} {c2 : Fn} {c3 : Fn} (hx : p.tables.exec = Jvm.exec) (hb : c.code = cc) (hK : oK G s) (hW : oW G A Ω H) (hS : va_S A0 H0 H locs) (hA : ∀ q, A q → A0 q) (h : inDev G Ω o c0 c1 c2 c3) {i x : Int32} (hin : vp_in i 12) (hdg : decode cc pc = .ok (.iastore, 1)) (kk : ∀ (Ω1 : Om) (H1 : Heap) (locs1 : List Loc), inDev G Ω1 o c0 c1 c2 (upd c3 i.toNatClampNeg x) → oF Ω Ω1 o 5 → oW G A Ω1 H1 → va_S A0 H0 H1 locs1 → W p l e R s m args below meth c H1 locs1 cells slots Q (F0 m (pc + 1) ls rest)) : W p l e R s m args below meth c H locs cells slots Q (F0 m pc ls (.int x :: .int i :: .ref (o + 4) :: rest)) := o_iast hx hb hK hW hS hA (inDev_a3 h) hin hdg (fun H1 locs1 hW1 hS1 => kk _ H1 locs1 (sDev_3 h) (oF.up (by omega) (by omega)) hW1 hS1)
def inJou (G : Gm) (Ω : Om) (o : Nat) (c0 : Int32) (c1 : Fn) (c2 : Fn) (c3 : Fn) : Prop := Ω o = some (.inr (3, [.int c0, .ref (o + 1), .ref (o + 2), .ref (o + 3)])) ∧ Ω (o + 1) = some (.inl (G.2.1, 20, .inl c1)) ∧ Ω (o + 2) = some (.inl (G.2.2.1, 20, .inl c2)) ∧ Ω (o + 3) = some (.inl (G.2.1, 20, .inl c3))
theorem inJou_o {G : Gm} {Ω : Om} {o : Nat} {c0 : Int32} {c1 : Fn} {c2 : Fn} {c3 : Fn} (h : inJou G Ω o c0 c1 c2 c3) : Ω o = some (.inr (3, [.int c0, .ref (o + 1), .ref (o + 2), .ref (o + 3)])) := h.1
theorem inJou_a0 {G : Gm} {Ω : Om} {o : Nat} {c0 : Int32} {c1 : Fn} {c2 : Fn} {c3 : Fn} (h : inJou G Ω o c0 c1 c2 c3) : Ω (o + 1) = some (.inl (G.2.1, 20, .inl c1)) := h.2.1
theorem inJou_a1 {G : Gm} {Ω : Om} {o : Nat} {c0 : Int32} {c1 : Fn} {c2 : Fn} {c3 : Fn} (h : inJou G Ω o c0 c1 c2 c3) : Ω (o + 2) = some (.inl (G.2.2.1, 20, .inl c2)) := h.2.2.1
theorem inJou_a2 {G : Gm} {Ω : Om} {o : Nat} {c0 : Int32} {c1 : Fn} {c2 : Fn} {c3 : Fn} (h : inJou G Ω o c0 c1 c2 c3) : Ω (o + 3) = some (.inl (G.2.1, 20, .inl c3)) := h.2.2.2
theorem inJou.keep {G : Gm} {Ω : Om} {o : Nat} {c0 : Int32} {c1 : Fn} {c2 : Fn} {c3 : Fn} {Ω1 : Om} (h : inJou G Ω o c0 c1 c2 c3) (hq : ∀ q : Nat, o ≤ q → q < o + 4 → Ω1 q = Ω q) : inJou G Ω1 o c0 c1 c2 c3 := ⟨(hq _ (by omega) (by omega)).trans (inJou_o h), (hq _ (by omega) (by omega)).trans (inJou_a0 h), (hq _ (by omega) (by omega)).trans (inJou_a1 h), (hq _ (by omega) (by omega)).trans (inJou_a2 h)⟩
theorem sJou_0 {G : Gm} {Ω : Om} {o : Nat} {c0 : Int32} {c1 : Fn} {c2 : Fn} {c3 : Fn} {f : Fn} (h : inJou G Ω o c0 c1 c2 c3) : inJou G (oU Ω (o + 1) (.inl (G.2.1, 20, .inl f))) o c0 f c2 c3 := ⟨(oU_ne (by omega)).trans (inJou_o h), oU_self, (oU_ne (by omega)).trans (inJou_a1 h), (oU_ne (by omega)).trans (inJou_a2 h)⟩
theorem wJou_0 {p : Program} {l : Launch} {e : Env} {R : Room} {s : State} {m : MethodId} {args : Array Value} {below : List Frame} {meth : Method} {c : Code} {H : Heap} {locs : List Loc} {cells slots : Nat} {Q : State → Prop} {cc : ByteArray} {pc : Nat} {ls : Array Slot} {rest : List Value} {G : Gm} {A A0 : Nat → Prop} {Ω : Om} {H0 : Heap} {o : Nat} {c0 : Int32} {c1 : Fn} {c2 : Fn} {c3 : Fn} (hx : p.tables.exec = Jvm.exec) (hb : c.code = cc) (hK : oK G s) (hW : oW G A Ω H) (hS : va_S A0 H0 H locs) (hA : ∀ q, A q → A0 q) (h : inJou G Ω o c0 c1 c2 c3) {i x : Int32} (hin : vp_in i 20) (hdg : decode cc pc = .ok (.iastore, 1)) (kk : ∀ (Ω1 : Om) (H1 : Heap) (locs1 : List Loc), inJou G Ω1 o c0 (upd c1 i.toNatClampNeg x) c2 c3 → oF Ω Ω1 o 4 → oW G A Ω1 H1 → va_S A0 H0 H1 locs1 → W p l e R s m args below meth c H1 locs1 cells slots Q (F0 m (pc + 1) ls rest)) : W p l e R s m args below meth c H locs cells slots Q (F0 m pc ls (.int x :: .int i :: .ref (o + 1) :: rest)) := o_iast hx hb hK hW hS hA (inJou_a0 h) hin hdg (fun H1 locs1 hW1 hS1 => kk _ H1 locs1 (sJou_0 h) (oF.up (by omega) (by omega)) hW1 hS1)
theorem sJou_1 {G : Gm} {Ω : Om} {o : Nat} {c0 : Int32} {c1 : Fn} {c2 : Fn} {c3 : Fn} {f : Fn} (h : inJou G Ω o c0 c1 c2 c3) : inJou G (oU Ω (o + 2) (.inl (G.2.2.1, 20, .inl f))) o c0 c1 f c3 := ⟨(oU_ne (by omega)).trans (inJou_o h), (oU_ne (by omega)).trans (inJou_a0 h), oU_self, (oU_ne (by omega)).trans (inJou_a2 h)⟩
theorem wJou_1 {p : Program} {l : Launch} {e : Env} {R : Room} {s : State} {m : MethodId} {args : Array Value} {below : List Frame} {meth : Method} {c : Code} {H : Heap} {locs : List Loc} {cells slots : Nat} {Q : State → Prop} {cc : ByteArray} {pc : Nat} {ls : Array Slot} {rest : List Value} {G : Gm} {A A0 : Nat → Prop} {Ω : Om} {H0 : Heap} {o : Nat} {c0 : Int32} {c1 : Fn} {c2 : Fn} {c3 : Fn} (hx : p.tables.exec = Jvm.exec) (hb : c.code = cc) (hK : oK G s) (hW : oW G A Ω H) (hS : va_S A0 H0 H locs) (hA : ∀ q, A q → A0 q) (h : inJou G Ω o c0 c1 c2 c3) {i x : Int32} (hin : vp_in i 20) (hdg : decode cc pc = .ok (.bastore, 1)) (kk : ∀ (Ω1 : Om) (H1 : Heap) (locs1 : List Loc), inJou G Ω1 o c0 c1 (upd c2 i.toNatClampNeg (vp_nar .boolean x)) c3 → oF Ω Ω1 o 4 → oW G A Ω1 H1 → va_S A0 H0 H1 locs1 → W p l e R s m args below meth c H1 locs1 cells slots Q (F0 m (pc + 1) ls rest)) : W p l e R s m args below meth c H locs cells slots Q (F0 m pc ls (.int x :: .int i :: .ref (o + 2) :: rest)) := o_zast hx hb hK hW hS hA (inJou_a1 h) hin hdg (fun H1 locs1 hW1 hS1 => kk _ H1 locs1 (sJou_1 h) (oF.up (by omega) (by omega)) hW1 hS1)
theorem sJou_2 {G : Gm} {Ω : Om} {o : Nat} {c0 : Int32} {c1 : Fn} {c2 : Fn} {c3 : Fn} {f : Fn} (h : inJou G Ω o c0 c1 c2 c3) : inJou G (oU Ω (o + 3) (.inl (G.2.1, 20, .inl f))) o c0 c1 c2 f := ⟨(oU_ne (by omega)).trans (inJou_o h), (oU_ne (by omega)).trans (inJou_a0 h), (oU_ne (by omega)).trans (inJou_a1 h), oU_self⟩
theorem wJou_2 {p : Program} {l : Launch} {e : Env} {R : Room} {s : State} {m : MethodId} {args : Array Value} {below : List Frame} {meth : Method} {c : Code} {H : Heap} {locs : List Loc} {cells slots : Nat} {Q : State → Prop} {cc : ByteArray} {pc : Nat} {ls : Array Slot} {rest : List Value} {G : Gm} {A A0 : Nat → Prop} {Ω : Om} {H0 : Heap} {o : Nat} {c0 : Int32} {c1 : Fn} {c2 : Fn} {c3 : Fn} (hx : p.tables.exec = Jvm.exec) (hb : c.code = cc) (hK : oK G s) (hW : oW G A Ω H) (hS : va_S A0 H0 H locs) (hA : ∀ q, A q → A0 q) (h : inJou G Ω o c0 c1 c2 c3) {i x : Int32} (hin : vp_in i 20) (hdg : decode cc pc = .ok (.iastore, 1)) (kk : ∀ (Ω1 : Om) (H1 : Heap) (locs1 : List Loc), inJou G Ω1 o c0 c1 c2 (upd c3 i.toNatClampNeg x) → oF Ω Ω1 o 4 → oW G A Ω1 H1 → va_S A0 H0 H1 locs1 → W p l e R s m args below meth c H1 locs1 cells slots Q (F0 m (pc + 1) ls rest)) : W p l e R s m args below meth c H locs cells slots Q (F0 m pc ls (.int x :: .int i :: .ref (o + 3) :: rest)) := o_iast hx hb hK hW hS hA (inJou_a2 h) hin hdg (fun H1 locs1 hW1 hS1 => kk _ H1 locs1 (sJou_2 h) (oF.up (by omega) (by omega)) hW1 hS1)
theorem vJou_0 {p : Program} {l : Launch} {e : Env} {R : Room} {s : State} {m : MethodId} {args : Array Value} {below : List Frame} {meth : Method} {c : Code} {H : Heap} {locs : List Loc} {cells slots : Nat} {Q : State → Prop} {cc : ByteArray} {pc : Nat} {ls : Array Slot} {rest : List Value} {G : Gm} {A A0 : Nat → Prop} {Ω : Om} {H0 : Heap} {o : Nat} {c0 : Int32} {c1 : Fn} {c2 : Fn} {c3 : Fn} (hx : p.tables.exec = Jvm.exec) (hb : c.code = cc) (hts : ∀ w ∈ gt, w.before args s = true) {own : String} {index : Nat} (hown : s.vm.findClass own = some m.cls) (hK : oK G s) (hW : oW G A Ω H) (hS : va_S A0 H0 H locs) (hA : ∀ q, A q → A0 q) (h : inJou G Ω o c0 c1 c2 c3) {x : Int32} (hlink : Cond.fieldLink own index (TX3 0).1 (TX3 0).2.1 (TX3 0).2.2.1 ∈ gt) (hdg : decode cc pc = .ok (.putfield index, 3)) (kk : ∀ (Ω1 : Om) (H1 : Heap) (locs1 : List Loc), inJou G Ω1 o x c1 c2 c3 → oF Ω Ω1 o 4 → oW G A Ω1 H1 → va_S A0 H0 H1 locs1 → W p l e R s m args below meth c H1 locs1 cells slots Q (F0 m (pc + 3) ls rest)) : W p l e R s m args below meth c H locs cells slots Q (F0 m pc ls (.int x :: .ref o :: rest)) := o_put hx hb hts hown hK hW hS hA (inJou_o h) rfl ig3 tyX3 tyX3_ok nmX3 0 (by decide) hlink rfl (ty := .int) (by decide +kernel) rfl rfl (Nat.le_of_ble_eq_true rfl) hdg (fun H1 locs1 hW1 hS1 => kk _ H1 locs1 (show inJou G _ o x c1 c2 c3 from ⟨oU_self, (oU_ne (by omega)).trans (inJou_a0 h), (oU_ne (by omega)).trans (inJou_a1 h), (oU_ne (by omega)).trans (inJou_a2 h)⟩) (oF.up (by omega) (by omega)) hW1 hS1)
def inTxt (G : Gm) (Ω : Om) (o : Nat) (c0 : Fn) (c1 : Int32) : Prop := Ω o = some (.inr (6, [.ref (o + 1), .int c1])) ∧ Ω (o + 1) = some (.inl (G.2.1, 160, .inl c0))
theorem inTxt_o {G : Gm} {Ω : Om} {o : Nat} {c0 : Fn} {c1 : Int32} (h : inTxt G Ω o c0 c1) : Ω o = some (.inr (6, [.ref (o + 1), .int c1])) := h.1
theorem inTxt_a0 {G : Gm} {Ω : Om} {o : Nat} {c0 : Fn} {c1 : Int32} (h : inTxt G Ω o c0 c1) : Ω (o + 1) = some (.inl (G.2.1, 160, .inl c0)) := h.2
theorem inTxt.keep {G : Gm} {Ω : Om} {o : Nat} {c0 : Fn} {c1 : Int32} {Ω1 : Om} (h : inTxt G Ω o c0 c1) (hq : ∀ q : Nat, o ≤ q → q < o + 2 → Ω1 q = Ω q) : inTxt G Ω1 o c0 c1 := ⟨(hq _ (by omega) (by omega)).trans (inTxt_o h), (hq _ (by omega) (by omega)).trans (inTxt_a0 h)⟩
theorem sTxt_0 {G : Gm} {Ω : Om} {o : Nat} {c0 : Fn} {c1 : Int32} {f : Fn} (h : inTxt G Ω o c0 c1) : inTxt G (oU Ω (o + 1) (.inl (G.2.1, 160, .inl f))) o f c1 := ⟨(oU_ne (by omega)).trans (inTxt_o h), oU_self⟩
theorem wTxt_0 {p : Program} {l : Launch} {e : Env} {R : Room} {s : State} {m : MethodId} {args : Array Value} {below : List Frame} {meth : Method} {c : Code} {H : Heap} {locs : List Loc} {cells slots : Nat} {Q : State → Prop} {cc : ByteArray} {pc : Nat} {ls : Array Slot} {rest : List Value} {G : Gm} {A A0 : Nat → Prop} {Ω : Om} {H0 : Heap} {o : Nat} {c0 : Fn} {c1 : Int32} (hx : p.tables.exec = Jvm.exec) (hb : c.code = cc) (hK : oK G s) (hW : oW G A Ω H) (hS : va_S A0 H0 H locs) (hA : ∀ q, A q → A0 q) (h : inTxt G Ω o c0 c1) {i x : Int32} (hin : vp_in i 160) (hdg : decode cc pc = .ok (.iastore, 1)) (kk : ∀ (Ω1 : Om) (H1 : Heap) (locs1 : List Loc), inTxt G Ω1 o (upd c0 i.toNatClampNeg x) c1 → oF Ω Ω1 o 2 → oW G A Ω1 H1 → va_S A0 H0 H1 locs1 → W p l e R s m args below meth c H1 locs1 cells slots Q (F0 m (pc + 1) ls rest)) : W p l e R s m args below meth c H locs cells slots Q (F0 m pc ls (.int x :: .int i :: .ref (o + 1) :: rest)) := o_iast hx hb hK hW hS hA (inTxt_a0 h) hin hdg (fun H1 locs1 hW1 hS1 => kk _ H1 locs1 (sTxt_0 h) (oF.up (by omega) (by omega)) hW1 hS1)
theorem vTxt_1 {p : Program} {l : Launch} {e : Env} {R : Room} {s : State} {m : MethodId} {args : Array Value} {below : List Frame} {meth : Method} {c : Code} {H : Heap} {locs : List Loc} {cells slots : Nat} {Q : State → Prop} {cc : ByteArray} {pc : Nat} {ls : Array Slot} {rest : List Value} {G : Gm} {A A0 : Nat → Prop} {Ω : Om} {H0 : Heap} {o : Nat} {c0 : Fn} {c1 : Int32} (hx : p.tables.exec = Jvm.exec) (hb : c.code = cc) (hts : ∀ w ∈ gt, w.before args s = true) {own : String} {index : Nat} (hown : s.vm.findClass own = some m.cls) (hK : oK G s) (hW : oW G A Ω H) (hS : va_S A0 H0 H locs) (hA : ∀ q, A q → A0 q) (h : inTxt G Ω o c0 c1) {x : Int32} (hlink : Cond.fieldLink own index (TX6 1).1 (TX6 1).2.1 (TX6 1).2.2.1 ∈ gt) (hdg : decode cc pc = .ok (.putfield index, 3)) (kk : ∀ (Ω1 : Om) (H1 : Heap) (locs1 : List Loc), inTxt G Ω1 o c0 x → oF Ω Ω1 o 2 → oW G A Ω1 H1 → va_S A0 H0 H1 locs1 → W p l e R s m args below meth c H1 locs1 cells slots Q (F0 m (pc + 3) ls rest)) : W p l e R s m args below meth c H locs cells slots Q (F0 m pc ls (.int x :: .ref o :: rest)) := o_put hx hb hts hown hK hW hS hA (inTxt_o h) rfl ig6 tyX6 tyX6_ok nmX6 1 (by decide) hlink rfl (ty := .int) (by decide +kernel) rfl rfl (Nat.le_of_ble_eq_true rfl) hdg (fun H1 locs1 hW1 hS1 => kk _ H1 locs1 (show inTxt G _ o c0 x from ⟨oU_self, (oU_ne (by omega)).trans (inTxt_a0 h)⟩) (oF.up (by omega) (by omega)) hW1 hS1)
def inTok (G : Gm) (Ω : Om) (o : Nat) (tx : Nat) (c0 : Int32) (c1 : Int32) (c2 : Int32) : Prop := Ω o = some (.inr (7, [.ref tx, .int c0, .int c1, .int c2]))
theorem inTok_o {G : Gm} {Ω : Om} {o tx : Nat} {c0 : Int32} {c1 : Int32} {c2 : Int32} (h : inTok G Ω o tx c0 c1 c2) : Ω o = some (.inr (7, [.ref tx, .int c0, .int c1, .int c2])) := h
theorem inTok.keep {G : Gm} {Ω : Om} {o tx : Nat} {c0 : Int32} {c1 : Int32} {c2 : Int32} {Ω1 : Om} (h : inTok G Ω o tx c0 c1 c2) (hq : ∀ q : Nat, o ≤ q → q < o + 1 → Ω1 q = Ω q) : inTok G Ω1 o tx c0 c1 c2 := (hq _ (by omega) (by omega)).trans (inTok_o h)
theorem vTok_1 {p : Program} {l : Launch} {e : Env} {R : Room} {s : State} {m : MethodId} {args : Array Value} {below : List Frame} {meth : Method} {c : Code} {H : Heap} {locs : List Loc} {cells slots : Nat} {Q : State → Prop} {cc : ByteArray} {pc : Nat} {ls : Array Slot} {rest : List Value} {G : Gm} {A A0 : Nat → Prop} {Ω : Om} {H0 : Heap} {o tx : Nat} {c0 : Int32} {c1 : Int32} {c2 : Int32} (hx : p.tables.exec = Jvm.exec) (hb : c.code = cc) (hts : ∀ w ∈ gt, w.before args s = true) {own : String} {index : Nat} (hown : s.vm.findClass own = some m.cls) (hK : oK G s) (hW : oW G A Ω H) (hS : va_S A0 H0 H locs) (hA : ∀ q, A q → A0 q) (h : inTok G Ω o tx c0 c1 c2) {x : Int32} (hlink : Cond.fieldLink own index (TX7 1).1 (TX7 1).2.1 (TX7 1).2.2.1 ∈ gt) (hdg : decode cc pc = .ok (.putfield index, 3)) (kk : ∀ (Ω1 : Om) (H1 : Heap) (locs1 : List Loc), inTok G Ω1 o tx x c1 c2 → oF Ω Ω1 o 1 → oW G A Ω1 H1 → va_S A0 H0 H1 locs1 → W p l e R s m args below meth c H1 locs1 cells slots Q (F0 m (pc + 3) ls rest)) : W p l e R s m args below meth c H locs cells slots Q (F0 m pc ls (.int x :: .ref o :: rest)) := o_put hx hb hts hown hK hW hS hA (inTok_o h) rfl ig7 tyX7 tyX7_ok nmX7 1 (by decide) hlink rfl (ty := .int) (by decide +kernel) rfl rfl (Nat.le_of_ble_eq_true rfl) hdg (fun H1 locs1 hW1 hS1 => kk _ H1 locs1 (show inTok G _ o tx x c1 c2 from oU_self) (oF.up (by omega) (by omega)) hW1 hS1)
theorem vTok_2 {p : Program} {l : Launch} {e : Env} {R : Room} {s : State} {m : MethodId} {args : Array Value} {below : List Frame} {meth : Method} {c : Code} {H : Heap} {locs : List Loc} {cells slots : Nat} {Q : State → Prop} {cc : ByteArray} {pc : Nat} {ls : Array Slot} {rest : List Value} {G : Gm} {A A0 : Nat → Prop} {Ω : Om} {H0 : Heap} {o tx : Nat} {c0 : Int32} {c1 : Int32} {c2 : Int32} (hx : p.tables.exec = Jvm.exec) (hb : c.code = cc) (hts : ∀ w ∈ gt, w.before args s = true) {own : String} {index : Nat} (hown : s.vm.findClass own = some m.cls) (hK : oK G s) (hW : oW G A Ω H) (hS : va_S A0 H0 H locs) (hA : ∀ q, A q → A0 q) (h : inTok G Ω o tx c0 c1 c2) {x : Int32} (hlink : Cond.fieldLink own index (TX7 2).1 (TX7 2).2.1 (TX7 2).2.2.1 ∈ gt) (hdg : decode cc pc = .ok (.putfield index, 3)) (kk : ∀ (Ω1 : Om) (H1 : Heap) (locs1 : List Loc), inTok G Ω1 o tx c0 x c2 → oF Ω Ω1 o 1 → oW G A Ω1 H1 → va_S A0 H0 H1 locs1 → W p l e R s m args below meth c H1 locs1 cells slots Q (F0 m (pc + 3) ls rest)) : W p l e R s m args below meth c H locs cells slots Q (F0 m pc ls (.int x :: .ref o :: rest)) := o_put hx hb hts hown hK hW hS hA (inTok_o h) rfl ig7 tyX7 tyX7_ok nmX7 2 (by decide) hlink rfl (ty := .int) (by decide +kernel) rfl rfl (Nat.le_of_ble_eq_true rfl) hdg (fun H1 locs1 hW1 hS1 => kk _ H1 locs1 (show inTok G _ o tx c0 x c2 from oU_self) (oF.up (by omega) (by omega)) hW1 hS1)
theorem vTok_3 {p : Program} {l : Launch} {e : Env} {R : Room} {s : State} {m : MethodId} {args : Array Value} {below : List Frame} {meth : Method} {c : Code} {H : Heap} {locs : List Loc} {cells slots : Nat} {Q : State → Prop} {cc : ByteArray} {pc : Nat} {ls : Array Slot} {rest : List Value} {G : Gm} {A A0 : Nat → Prop} {Ω : Om} {H0 : Heap} {o tx : Nat} {c0 : Int32} {c1 : Int32} {c2 : Int32} (hx : p.tables.exec = Jvm.exec) (hb : c.code = cc) (hts : ∀ w ∈ gt, w.before args s = true) {own : String} {index : Nat} (hown : s.vm.findClass own = some m.cls) (hK : oK G s) (hW : oW G A Ω H) (hS : va_S A0 H0 H locs) (hA : ∀ q, A q → A0 q) (h : inTok G Ω o tx c0 c1 c2) {x : Int32} (hlink : Cond.fieldLink own index (TX7 3).1 (TX7 3).2.1 (TX7 3).2.2.1 ∈ gt) (hdg : decode cc pc = .ok (.putfield index, 3)) (kk : ∀ (Ω1 : Om) (H1 : Heap) (locs1 : List Loc), inTok G Ω1 o tx c0 c1 x → oF Ω Ω1 o 1 → oW G A Ω1 H1 → va_S A0 H0 H1 locs1 → W p l e R s m args below meth c H1 locs1 cells slots Q (F0 m (pc + 3) ls rest)) : W p l e R s m args below meth c H locs cells slots Q (F0 m pc ls (.int x :: .ref o :: rest)) := o_put hx hb hts hown hK hW hS hA (inTok_o h) rfl ig7 tyX7 tyX7_ok nmX7 3 (by decide) hlink rfl (ty := .int) (by decide +kernel) rfl rfl (Nat.le_of_ble_eq_true rfl) hdg (fun H1 locs1 hW1 hS1 => kk _ H1 locs1 (show inTok G _ o tx c0 c1 x from oU_self) (oF.up (by omega) (by omega)) hW1 hS1)
def inPar (G : Gm) (Ω : Om) (o : Nat) (tk bl : Nat) : Prop := Ω o = some (.inr (4, [.ref tk, .ref bl]))
theorem inPar_o {G : Gm} {Ω : Om} {o tk bl : Nat} (h : inPar G Ω o tk bl) : Ω o = some (.inr (4, [.ref tk, .ref bl])) := h
theorem inPar.keep {G : Gm} {Ω : Om} {o tk bl : Nat} {Ω1 : Om} (h : inPar G Ω o tk bl) (hq : ∀ q : Nat, o ≤ q → q < o + 1 → Ω1 q = Ω q) : inPar G Ω1 o tk bl := (hq _ (by omega) (by omega)).trans (inPar_o h)
def inSitO (G : Gm) (Ω : Om) (o : Nat) (c0 : Int32) (c1 : Int32) : Prop := Ω o = some (.inr (5, [.ref (o + 1), .ref (o + 6), .ref (o + 11), .int c0, .int c1]))
theorem inSitO_o {G : Gm} {Ω : Om} {o : Nat} {c0 : Int32} {c1 : Int32} (h : inSitO G Ω o c0 c1) : Ω o = some (.inr (5, [.ref (o + 1), .ref (o + 6), .ref (o + 11), .int c0, .int c1])) := h
theorem inSitO.keep {G : Gm} {Ω : Om} {o : Nat} {c0 : Int32} {c1 : Int32} {Ω1 : Om} (h : inSitO G Ω o c0 c1) (hq : ∀ q : Nat, o ≤ q → q < o + 1 → Ω1 q = Ω q) : inSitO G Ω1 o c0 c1 := (hq _ (by omega) (by omega)).trans (inSitO_o h)
theorem vSitO_3 {p : Program} {l : Launch} {e : Env} {R : Room} {s : State} {m : MethodId} {args : Array Value} {below : List Frame} {meth : Method} {c : Code} {H : Heap} {locs : List Loc} {cells slots : Nat} {Q : State → Prop} {cc : ByteArray} {pc : Nat} {ls : Array Slot} {rest : List Value} {G : Gm} {A A0 : Nat → Prop} {Ω : Om} {H0 : Heap} {o : Nat} {c0 : Int32} {c1 : Int32} (hx : p.tables.exec = Jvm.exec) (hb : c.code = cc) (hts : ∀ w ∈ gt, w.before args s = true) {own : String} {index : Nat} (hown : s.vm.findClass own = some m.cls) (hK : oK G s) (hW : oW G A Ω H) (hS : va_S A0 H0 H locs) (hA : ∀ q, A q → A0 q) (h : inSitO G Ω o c0 c1) {x : Int32} (hlink : Cond.fieldLink own index (TX5 3).1 (TX5 3).2.1 (TX5 3).2.2.1 ∈ gt) (hdg : decode cc pc = .ok (.putfield index, 3)) (kk : ∀ (Ω1 : Om) (H1 : Heap) (locs1 : List Loc), inSitO G Ω1 o x c1 → oF Ω Ω1 o 1 → oW G A Ω1 H1 → va_S A0 H0 H1 locs1 → W p l e R s m args below meth c H1 locs1 cells slots Q (F0 m (pc + 3) ls rest)) : W p l e R s m args below meth c H locs cells slots Q (F0 m pc ls (.int x :: .ref o :: rest)) := o_put hx hb hts hown hK hW hS hA (inSitO_o h) rfl ig5 tyX5 tyX5_ok nmX5 3 (by decide) hlink rfl (ty := .int) (by decide +kernel) rfl rfl (Nat.le_of_ble_eq_true rfl) hdg (fun H1 locs1 hW1 hS1 => kk _ H1 locs1 (show inSitO G _ o x c1 from oU_self) (oF.up (by omega) (by omega)) hW1 hS1)
theorem vSitO_4 {p : Program} {l : Launch} {e : Env} {R : Room} {s : State} {m : MethodId} {args : Array Value} {below : List Frame} {meth : Method} {c : Code} {H : Heap} {locs : List Loc} {cells slots : Nat} {Q : State → Prop} {cc : ByteArray} {pc : Nat} {ls : Array Slot} {rest : List Value} {G : Gm} {A A0 : Nat → Prop} {Ω : Om} {H0 : Heap} {o : Nat} {c0 : Int32} {c1 : Int32} (hx : p.tables.exec = Jvm.exec) (hb : c.code = cc) (hts : ∀ w ∈ gt, w.before args s = true) {own : String} {index : Nat} (hown : s.vm.findClass own = some m.cls) (hK : oK G s) (hW : oW G A Ω H) (hS : va_S A0 H0 H locs) (hA : ∀ q, A q → A0 q) (h : inSitO G Ω o c0 c1) {x : Int32} (hlink : Cond.fieldLink own index (TX5 4).1 (TX5 4).2.1 (TX5 4).2.2.1 ∈ gt) (hdg : decode cc pc = .ok (.putfield index, 3)) (kk : ∀ (Ω1 : Om) (H1 : Heap) (locs1 : List Loc), inSitO G Ω1 o c0 x → oF Ω Ω1 o 1 → oW G A Ω1 H1 → va_S A0 H0 H1 locs1 → W p l e R s m args below meth c H1 locs1 cells slots Q (F0 m (pc + 3) ls rest)) : W p l e R s m args below meth c H locs cells slots Q (F0 m pc ls (.int x :: .ref o :: rest)) := o_put hx hb hts hown hK hW hS hA (inSitO_o h) rfl ig5 tyX5 tyX5_ok nmX5 4 (by decide) hlink rfl (ty := .int) (by decide +kernel) rfl rfl (Nat.le_of_ble_eq_true rfl) hdg (fun H1 locs1 hW1 hS1 => kk _ H1 locs1 (show inSitO G _ o c0 x from oU_self) (oF.up (by omega) (by omega)) hW1 hS1)
def inMBO (G : Gm) (Ω : Om) (o : Nat) (bc : Nat) : Prop := Ω o = some (.inr (8, [.ref (o + 1), .ref (o + 3), .ref (o + 18), .ref (o + 33), .ref (o + 125), .ref (o + 126), .ref (o + 127), .ref bc]))
theorem inMBO_o {G : Gm} {Ω : Om} {o bc : Nat} (h : inMBO G Ω o bc) : Ω o = some (.inr (8, [.ref (o + 1), .ref (o + 3), .ref (o + 18), .ref (o + 33), .ref (o + 125), .ref (o + 126), .ref (o + 127), .ref bc])) := h
theorem inMBO.keep {G : Gm} {Ω : Om} {o bc : Nat} {Ω1 : Om} (h : inMBO G Ω o bc) (hq : ∀ q : Nat, o ≤ q → q < o + 1 → Ω1 q = Ω q) : inMBO G Ω1 o bc := (hq _ (by omega) (by omega)).trans (inMBO_o h)
def inMod (G : Gm) (Ω : Om) (o : Nat) (c0 : Fn) (c1 : Fn) (c2 : Fn) (c3 : Fn) (c4 : Int32) (c5 : Fn) (c6 : Fn) (c7 : Fn) (c8 : Int32) (c9 : Int32) (c10 : Int32) (c11 : Int32) (c12 : Int32) (c13 : Int32) : Prop := Ω o = some (.inr (9, [.ref (o + 1), .ref (o + 2), .ref (o + 3), .ref (o + 4), .int c4, .ref (o + 5), .ref (o + 6), .ref (o + 7), .int c8, .int c9, .int c10, .int c11, .int c12, .int c13])) ∧ Ω (o + 1) = some (.inl (G.2.1, 93, .inl c0)) ∧ Ω (o + 2) = some (.inl (G.2.1, 93, .inl c1)) ∧ Ω (o + 3) = some (.inl (G.2.1, 171, .inl c2)) ∧ Ω (o + 4) = some (.inl (G.2.1, 810, .inl c3)) ∧ Ω (o + 5) = some (.inl (G.2.1, 270, .inl c5)) ∧ Ω (o + 6) = some (.inl (G.2.2.1, 2, .inl c6)) ∧ Ω (o + 7) = some (.inl (G.2.1, 160, .inl c7))
theorem inMod_o {G : Gm} {Ω : Om} {o : Nat} {c0 : Fn} {c1 : Fn} {c2 : Fn} {c3 : Fn} {c4 : Int32} {c5 : Fn} {c6 : Fn} {c7 : Fn} {c8 : Int32} {c9 : Int32} {c10 : Int32} {c11 : Int32} {c12 : Int32} {c13 : Int32} (h : inMod G Ω o c0 c1 c2 c3 c4 c5 c6 c7 c8 c9 c10 c11 c12 c13) : Ω o = some (.inr (9, [.ref (o + 1), .ref (o + 2), .ref (o + 3), .ref (o + 4), .int c4, .ref (o + 5), .ref (o + 6), .ref (o + 7), .int c8, .int c9, .int c10, .int c11, .int c12, .int c13])) := h.1
theorem inMod_a0 {G : Gm} {Ω : Om} {o : Nat} {c0 : Fn} {c1 : Fn} {c2 : Fn} {c3 : Fn} {c4 : Int32} {c5 : Fn} {c6 : Fn} {c7 : Fn} {c8 : Int32} {c9 : Int32} {c10 : Int32} {c11 : Int32} {c12 : Int32} {c13 : Int32} (h : inMod G Ω o c0 c1 c2 c3 c4 c5 c6 c7 c8 c9 c10 c11 c12 c13) : Ω (o + 1) = some (.inl (G.2.1, 93, .inl c0)) := h.2.1
theorem inMod_a1 {G : Gm} {Ω : Om} {o : Nat} {c0 : Fn} {c1 : Fn} {c2 : Fn} {c3 : Fn} {c4 : Int32} {c5 : Fn} {c6 : Fn} {c7 : Fn} {c8 : Int32} {c9 : Int32} {c10 : Int32} {c11 : Int32} {c12 : Int32} {c13 : Int32} (h : inMod G Ω o c0 c1 c2 c3 c4 c5 c6 c7 c8 c9 c10 c11 c12 c13) : Ω (o + 2) = some (.inl (G.2.1, 93, .inl c1)) := h.2.2.1
theorem inMod_a2 {G : Gm} {Ω : Om} {o : Nat} {c0 : Fn} {c1 : Fn} {c2 : Fn} {c3 : Fn} {c4 : Int32} {c5 : Fn} {c6 : Fn} {c7 : Fn} {c8 : Int32} {c9 : Int32} {c10 : Int32} {c11 : Int32} {c12 : Int32} {c13 : Int32} (h : inMod G Ω o c0 c1 c2 c3 c4 c5 c6 c7 c8 c9 c10 c11 c12 c13) : Ω (o + 3) = some (.inl (G.2.1, 171, .inl c2)) := h.2.2.2.1
theorem inMod_a3 {G : Gm} {Ω : Om} {o : Nat} {c0 : Fn} {c1 : Fn} {c2 : Fn} {c3 : Fn} {c4 : Int32} {c5 : Fn} {c6 : Fn} {c7 : Fn} {c8 : Int32} {c9 : Int32} {c10 : Int32} {c11 : Int32} {c12 : Int32} {c13 : Int32} (h : inMod G Ω o c0 c1 c2 c3 c4 c5 c6 c7 c8 c9 c10 c11 c12 c13) : Ω (o + 4) = some (.inl (G.2.1, 810, .inl c3)) := h.2.2.2.2.1
theorem inMod_a4 {G : Gm} {Ω : Om} {o : Nat} {c0 : Fn} {c1 : Fn} {c2 : Fn} {c3 : Fn} {c4 : Int32} {c5 : Fn} {c6 : Fn} {c7 : Fn} {c8 : Int32} {c9 : Int32} {c10 : Int32} {c11 : Int32} {c12 : Int32} {c13 : Int32} (h : inMod G Ω o c0 c1 c2 c3 c4 c5 c6 c7 c8 c9 c10 c11 c12 c13) : Ω (o + 5) = some (.inl (G.2.1, 270, .inl c5)) := h.2.2.2.2.2.1
theorem inMod_a5 {G : Gm} {Ω : Om} {o : Nat} {c0 : Fn} {c1 : Fn} {c2 : Fn} {c3 : Fn} {c4 : Int32} {c5 : Fn} {c6 : Fn} {c7 : Fn} {c8 : Int32} {c9 : Int32} {c10 : Int32} {c11 : Int32} {c12 : Int32} {c13 : Int32} (h : inMod G Ω o c0 c1 c2 c3 c4 c5 c6 c7 c8 c9 c10 c11 c12 c13) : Ω (o + 6) = some (.inl (G.2.2.1, 2, .inl c6)) := h.2.2.2.2.2.2.1
theorem inMod_a6 {G : Gm} {Ω : Om} {o : Nat} {c0 : Fn} {c1 : Fn} {c2 : Fn} {c3 : Fn} {c4 : Int32} {c5 : Fn} {c6 : Fn} {c7 : Fn} {c8 : Int32} {c9 : Int32} {c10 : Int32} {c11 : Int32} {c12 : Int32} {c13 : Int32} (h : inMod G Ω o c0 c1 c2 c3 c4 c5 c6 c7 c8 c9 c10 c11 c12 c13) : Ω (o + 7) = some (.inl (G.2.1, 160, .inl c7)) := h.2.2.2.2.2.2.2
theorem inMod.keep {G : Gm} {Ω : Om} {o : Nat} {c0 : Fn} {c1 : Fn} {c2 : Fn} {c3 : Fn} {c4 : Int32} {c5 : Fn} {c6 : Fn} {c7 : Fn} {c8 : Int32} {c9 : Int32} {c10 : Int32} {c11 : Int32} {c12 : Int32} {c13 : Int32} {Ω1 : Om} (h : inMod G Ω o c0 c1 c2 c3 c4 c5 c6 c7 c8 c9 c10 c11 c12 c13) (hq : ∀ q : Nat, o ≤ q → q < o + 8 → Ω1 q = Ω q) : inMod G Ω1 o c0 c1 c2 c3 c4 c5 c6 c7 c8 c9 c10 c11 c12 c13 := ⟨(hq _ (by omega) (by omega)).trans (inMod_o h), (hq _ (by omega) (by omega)).trans (inMod_a0 h), (hq _ (by omega) (by omega)).trans (inMod_a1 h), (hq _ (by omega) (by omega)).trans (inMod_a2 h), (hq _ (by omega) (by omega)).trans (inMod_a3 h), (hq _ (by omega) (by omega)).trans (inMod_a4 h), (hq _ (by omega) (by omega)).trans (inMod_a5 h), (hq _ (by omega) (by omega)).trans (inMod_a6 h)⟩
theorem sMod_0 {G : Gm} {Ω : Om} {o : Nat} {c0 : Fn} {c1 : Fn} {c2 : Fn} {c3 : Fn} {c4 : Int32} {c5 : Fn} {c6 : Fn} {c7 : Fn} {c8 : Int32} {c9 : Int32} {c10 : Int32} {c11 : Int32} {c12 : Int32} {c13 : Int32} {f : Fn} (h : inMod G Ω o c0 c1 c2 c3 c4 c5 c6 c7 c8 c9 c10 c11 c12 c13) : inMod G (oU Ω (o + 1) (.inl (G.2.1, 93, .inl f))) o f c1 c2 c3 c4 c5 c6 c7 c8 c9 c10 c11 c12 c13 := ⟨(oU_ne (by omega)).trans (inMod_o h), oU_self, (oU_ne (by omega)).trans (inMod_a1 h), (oU_ne (by omega)).trans (inMod_a2 h), (oU_ne (by omega)).trans (inMod_a3 h), (oU_ne (by omega)).trans (inMod_a4 h), (oU_ne (by omega)).trans (inMod_a5 h), (oU_ne (by omega)).trans (inMod_a6 h)⟩
theorem wMod_0 {p : Program} {l : Launch} {e : Env} {R : Room} {s : State} {m : MethodId} {args : Array Value} {below : List Frame} {meth : Method} {c : Code} {H : Heap} {locs : List Loc} {cells slots : Nat} {Q : State → Prop} {cc : ByteArray} {pc : Nat} {ls : Array Slot} {rest : List Value} {G : Gm} {A A0 : Nat → Prop} {Ω : Om} {H0 : Heap} {o : Nat} {c0 : Fn} {c1 : Fn} {c2 : Fn} {c3 : Fn} {c4 : Int32} {c5 : Fn} {c6 : Fn} {c7 : Fn} {c8 : Int32} {c9 : Int32} {c10 : Int32} {c11 : Int32} {c12 : Int32} {c13 : Int32} (hx : p.tables.exec = Jvm.exec) (hb : c.code = cc) (hK : oK G s) (hW : oW G A Ω H) (hS : va_S A0 H0 H locs) (hA : ∀ q, A q → A0 q) (h : inMod G Ω o c0 c1 c2 c3 c4 c5 c6 c7 c8 c9 c10 c11 c12 c13) {i x : Int32} (hin : vp_in i 93) (hdg : decode cc pc = .ok (.iastore, 1)) (kk : ∀ (Ω1 : Om) (H1 : Heap) (locs1 : List Loc), inMod G Ω1 o (upd c0 i.toNatClampNeg x) c1 c2 c3 c4 c5 c6 c7 c8 c9 c10 c11 c12 c13 → oF Ω Ω1 o 8 → oW G A Ω1 H1 → va_S A0 H0 H1 locs1 → W p l e R s m args below meth c H1 locs1 cells slots Q (F0 m (pc + 1) ls rest)) : W p l e R s m args below meth c H locs cells slots Q (F0 m pc ls (.int x :: .int i :: .ref (o + 1) :: rest)) := o_iast hx hb hK hW hS hA (inMod_a0 h) hin hdg (fun H1 locs1 hW1 hS1 => kk _ H1 locs1 (sMod_0 h) (oF.up (by omega) (by omega)) hW1 hS1)
theorem sMod_1 {G : Gm} {Ω : Om} {o : Nat} {c0 : Fn} {c1 : Fn} {c2 : Fn} {c3 : Fn} {c4 : Int32} {c5 : Fn} {c6 : Fn} {c7 : Fn} {c8 : Int32} {c9 : Int32} {c10 : Int32} {c11 : Int32} {c12 : Int32} {c13 : Int32} {f : Fn} (h : inMod G Ω o c0 c1 c2 c3 c4 c5 c6 c7 c8 c9 c10 c11 c12 c13) : inMod G (oU Ω (o + 2) (.inl (G.2.1, 93, .inl f))) o c0 f c2 c3 c4 c5 c6 c7 c8 c9 c10 c11 c12 c13 := ⟨(oU_ne (by omega)).trans (inMod_o h), (oU_ne (by omega)).trans (inMod_a0 h), oU_self, (oU_ne (by omega)).trans (inMod_a2 h), (oU_ne (by omega)).trans (inMod_a3 h), (oU_ne (by omega)).trans (inMod_a4 h), (oU_ne (by omega)).trans (inMod_a5 h), (oU_ne (by omega)).trans (inMod_a6 h)⟩
theorem wMod_1 {p : Program} {l : Launch} {e : Env} {R : Room} {s : State} {m : MethodId} {args : Array Value} {below : List Frame} {meth : Method} {c : Code} {H : Heap} {locs : List Loc} {cells slots : Nat} {Q : State → Prop} {cc : ByteArray} {pc : Nat} {ls : Array Slot} {rest : List Value} {G : Gm} {A A0 : Nat → Prop} {Ω : Om} {H0 : Heap} {o : Nat} {c0 : Fn} {c1 : Fn} {c2 : Fn} {c3 : Fn} {c4 : Int32} {c5 : Fn} {c6 : Fn} {c7 : Fn} {c8 : Int32} {c9 : Int32} {c10 : Int32} {c11 : Int32} {c12 : Int32} {c13 : Int32} (hx : p.tables.exec = Jvm.exec) (hb : c.code = cc) (hK : oK G s) (hW : oW G A Ω H) (hS : va_S A0 H0 H locs) (hA : ∀ q, A q → A0 q) (h : inMod G Ω o c0 c1 c2 c3 c4 c5 c6 c7 c8 c9 c10 c11 c12 c13) {i x : Int32} (hin : vp_in i 93) (hdg : decode cc pc = .ok (.iastore, 1)) (kk : ∀ (Ω1 : Om) (H1 : Heap) (locs1 : List Loc), inMod G Ω1 o c0 (upd c1 i.toNatClampNeg x) c2 c3 c4 c5 c6 c7 c8 c9 c10 c11 c12 c13 → oF Ω Ω1 o 8 → oW G A Ω1 H1 → va_S A0 H0 H1 locs1 → W p l e R s m args below meth c H1 locs1 cells slots Q (F0 m (pc + 1) ls rest)) : W p l e R s m args below meth c H locs cells slots Q (F0 m pc ls (.int x :: .int i :: .ref (o + 2) :: rest)) := o_iast hx hb hK hW hS hA (inMod_a1 h) hin hdg (fun H1 locs1 hW1 hS1 => kk _ H1 locs1 (sMod_1 h) (oF.up (by omega) (by omega)) hW1 hS1)
theorem sMod_2 {G : Gm} {Ω : Om} {o : Nat} {c0 : Fn} {c1 : Fn} {c2 : Fn} {c3 : Fn} {c4 : Int32} {c5 : Fn} {c6 : Fn} {c7 : Fn} {c8 : Int32} {c9 : Int32} {c10 : Int32} {c11 : Int32} {c12 : Int32} {c13 : Int32} {f : Fn} (h : inMod G Ω o c0 c1 c2 c3 c4 c5 c6 c7 c8 c9 c10 c11 c12 c13) : inMod G (oU Ω (o + 3) (.inl (G.2.1, 171, .inl f))) o c0 c1 f c3 c4 c5 c6 c7 c8 c9 c10 c11 c12 c13 := ⟨(oU_ne (by omega)).trans (inMod_o h), (oU_ne (by omega)).trans (inMod_a0 h), (oU_ne (by omega)).trans (inMod_a1 h), oU_self, (oU_ne (by omega)).trans (inMod_a3 h), (oU_ne (by omega)).trans (inMod_a4 h), (oU_ne (by omega)).trans (inMod_a5 h), (oU_ne (by omega)).trans (inMod_a6 h)⟩
theorem wMod_2 {p : Program} {l : Launch} {e : Env} {R : Room} {s : State} {m : MethodId} {args : Array Value} {below : List Frame} {meth : Method} {c : Code} {H : Heap} {locs : List Loc} {cells slots : Nat} {Q : State → Prop} {cc : ByteArray} {pc : Nat} {ls : Array Slot} {rest : List Value} {G : Gm} {A A0 : Nat → Prop} {Ω : Om} {H0 : Heap} {o : Nat} {c0 : Fn} {c1 : Fn} {c2 : Fn} {c3 : Fn} {c4 : Int32} {c5 : Fn} {c6 : Fn} {c7 : Fn} {c8 : Int32} {c9 : Int32} {c10 : Int32} {c11 : Int32} {c12 : Int32} {c13 : Int32} (hx : p.tables.exec = Jvm.exec) (hb : c.code = cc) (hK : oK G s) (hW : oW G A Ω H) (hS : va_S A0 H0 H locs) (hA : ∀ q, A q → A0 q) (h : inMod G Ω o c0 c1 c2 c3 c4 c5 c6 c7 c8 c9 c10 c11 c12 c13) {i x : Int32} (hin : vp_in i 171) (hdg : decode cc pc = .ok (.iastore, 1)) (kk : ∀ (Ω1 : Om) (H1 : Heap) (locs1 : List Loc), inMod G Ω1 o c0 c1 (upd c2 i.toNatClampNeg x) c3 c4 c5 c6 c7 c8 c9 c10 c11 c12 c13 → oF Ω Ω1 o 8 → oW G A Ω1 H1 → va_S A0 H0 H1 locs1 → W p l e R s m args below meth c H1 locs1 cells slots Q (F0 m (pc + 1) ls rest)) : W p l e R s m args below meth c H locs cells slots Q (F0 m pc ls (.int x :: .int i :: .ref (o + 3) :: rest)) := o_iast hx hb hK hW hS hA (inMod_a2 h) hin hdg (fun H1 locs1 hW1 hS1 => kk _ H1 locs1 (sMod_2 h) (oF.up (by omega) (by omega)) hW1 hS1)
theorem sMod_3 {G : Gm} {Ω : Om} {o : Nat} {c0 : Fn} {c1 : Fn} {c2 : Fn} {c3 : Fn} {c4 : Int32} {c5 : Fn} {c6 : Fn} {c7 : Fn} {c8 : Int32} {c9 : Int32} {c10 : Int32} {c11 : Int32} {c12 : Int32} {c13 : Int32} {f : Fn} (h : inMod G Ω o c0 c1 c2 c3 c4 c5 c6 c7 c8 c9 c10 c11 c12 c13) : inMod G (oU Ω (o + 4) (.inl (G.2.1, 810, .inl f))) o c0 c1 c2 f c4 c5 c6 c7 c8 c9 c10 c11 c12 c13 := ⟨(oU_ne (by omega)).trans (inMod_o h), (oU_ne (by omega)).trans (inMod_a0 h), (oU_ne (by omega)).trans (inMod_a1 h), (oU_ne (by omega)).trans (inMod_a2 h), oU_self, (oU_ne (by omega)).trans (inMod_a4 h), (oU_ne (by omega)).trans (inMod_a5 h), (oU_ne (by omega)).trans (inMod_a6 h)⟩
theorem wMod_3 {p : Program} {l : Launch} {e : Env} {R : Room} {s : State} {m : MethodId} {args : Array Value} {below : List Frame} {meth : Method} {c : Code} {H : Heap} {locs : List Loc} {cells slots : Nat} {Q : State → Prop} {cc : ByteArray} {pc : Nat} {ls : Array Slot} {rest : List Value} {G : Gm} {A A0 : Nat → Prop} {Ω : Om} {H0 : Heap} {o : Nat} {c0 : Fn} {c1 : Fn} {c2 : Fn} {c3 : Fn} {c4 : Int32} {c5 : Fn} {c6 : Fn} {c7 : Fn} {c8 : Int32} {c9 : Int32} {c10 : Int32} {c11 : Int32} {c12 : Int32} {c13 : Int32} (hx : p.tables.exec = Jvm.exec) (hb : c.code = cc) (hK : oK G s) (hW : oW G A Ω H) (hS : va_S A0 H0 H locs) (hA : ∀ q, A q → A0 q) (h : inMod G Ω o c0 c1 c2 c3 c4 c5 c6 c7 c8 c9 c10 c11 c12 c13) {i x : Int32} (hin : vp_in i 810) (hdg : decode cc pc = .ok (.iastore, 1)) (kk : ∀ (Ω1 : Om) (H1 : Heap) (locs1 : List Loc), inMod G Ω1 o c0 c1 c2 (upd c3 i.toNatClampNeg x) c4 c5 c6 c7 c8 c9 c10 c11 c12 c13 → oF Ω Ω1 o 8 → oW G A Ω1 H1 → va_S A0 H0 H1 locs1 → W p l e R s m args below meth c H1 locs1 cells slots Q (F0 m (pc + 1) ls rest)) : W p l e R s m args below meth c H locs cells slots Q (F0 m pc ls (.int x :: .int i :: .ref (o + 4) :: rest)) := o_iast hx hb hK hW hS hA (inMod_a3 h) hin hdg (fun H1 locs1 hW1 hS1 => kk _ H1 locs1 (sMod_3 h) (oF.up (by omega) (by omega)) hW1 hS1)
theorem sMod_4 {G : Gm} {Ω : Om} {o : Nat} {c0 : Fn} {c1 : Fn} {c2 : Fn} {c3 : Fn} {c4 : Int32} {c5 : Fn} {c6 : Fn} {c7 : Fn} {c8 : Int32} {c9 : Int32} {c10 : Int32} {c11 : Int32} {c12 : Int32} {c13 : Int32} {f : Fn} (h : inMod G Ω o c0 c1 c2 c3 c4 c5 c6 c7 c8 c9 c10 c11 c12 c13) : inMod G (oU Ω (o + 5) (.inl (G.2.1, 270, .inl f))) o c0 c1 c2 c3 c4 f c6 c7 c8 c9 c10 c11 c12 c13 := ⟨(oU_ne (by omega)).trans (inMod_o h), (oU_ne (by omega)).trans (inMod_a0 h), (oU_ne (by omega)).trans (inMod_a1 h), (oU_ne (by omega)).trans (inMod_a2 h), (oU_ne (by omega)).trans (inMod_a3 h), oU_self, (oU_ne (by omega)).trans (inMod_a5 h), (oU_ne (by omega)).trans (inMod_a6 h)⟩
theorem wMod_4 {p : Program} {l : Launch} {e : Env} {R : Room} {s : State} {m : MethodId} {args : Array Value} {below : List Frame} {meth : Method} {c : Code} {H : Heap} {locs : List Loc} {cells slots : Nat} {Q : State → Prop} {cc : ByteArray} {pc : Nat} {ls : Array Slot} {rest : List Value} {G : Gm} {A A0 : Nat → Prop} {Ω : Om} {H0 : Heap} {o : Nat} {c0 : Fn} {c1 : Fn} {c2 : Fn} {c3 : Fn} {c4 : Int32} {c5 : Fn} {c6 : Fn} {c7 : Fn} {c8 : Int32} {c9 : Int32} {c10 : Int32} {c11 : Int32} {c12 : Int32} {c13 : Int32} (hx : p.tables.exec = Jvm.exec) (hb : c.code = cc) (hK : oK G s) (hW : oW G A Ω H) (hS : va_S A0 H0 H locs) (hA : ∀ q, A q → A0 q) (h : inMod G Ω o c0 c1 c2 c3 c4 c5 c6 c7 c8 c9 c10 c11 c12 c13) {i x : Int32} (hin : vp_in i 270) (hdg : decode cc pc = .ok (.iastore, 1)) (kk : ∀ (Ω1 : Om) (H1 : Heap) (locs1 : List Loc), inMod G Ω1 o c0 c1 c2 c3 c4 (upd c5 i.toNatClampNeg x) c6 c7 c8 c9 c10 c11 c12 c13 → oF Ω Ω1 o 8 → oW G A Ω1 H1 → va_S A0 H0 H1 locs1 → W p l e R s m args below meth c H1 locs1 cells slots Q (F0 m (pc + 1) ls rest)) : W p l e R s m args below meth c H locs cells slots Q (F0 m pc ls (.int x :: .int i :: .ref (o + 5) :: rest)) := o_iast hx hb hK hW hS hA (inMod_a4 h) hin hdg (fun H1 locs1 hW1 hS1 => kk _ H1 locs1 (sMod_4 h) (oF.up (by omega) (by omega)) hW1 hS1)
theorem sMod_5 {G : Gm} {Ω : Om} {o : Nat} {c0 : Fn} {c1 : Fn} {c2 : Fn} {c3 : Fn} {c4 : Int32} {c5 : Fn} {c6 : Fn} {c7 : Fn} {c8 : Int32} {c9 : Int32} {c10 : Int32} {c11 : Int32} {c12 : Int32} {c13 : Int32} {f : Fn} (h : inMod G Ω o c0 c1 c2 c3 c4 c5 c6 c7 c8 c9 c10 c11 c12 c13) : inMod G (oU Ω (o + 6) (.inl (G.2.2.1, 2, .inl f))) o c0 c1 c2 c3 c4 c5 f c7 c8 c9 c10 c11 c12 c13 := ⟨(oU_ne (by omega)).trans (inMod_o h), (oU_ne (by omega)).trans (inMod_a0 h), (oU_ne (by omega)).trans (inMod_a1 h), (oU_ne (by omega)).trans (inMod_a2 h), (oU_ne (by omega)).trans (inMod_a3 h), (oU_ne (by omega)).trans (inMod_a4 h), oU_self, (oU_ne (by omega)).trans (inMod_a6 h)⟩
theorem wMod_5 {p : Program} {l : Launch} {e : Env} {R : Room} {s : State} {m : MethodId} {args : Array Value} {below : List Frame} {meth : Method} {c : Code} {H : Heap} {locs : List Loc} {cells slots : Nat} {Q : State → Prop} {cc : ByteArray} {pc : Nat} {ls : Array Slot} {rest : List Value} {G : Gm} {A A0 : Nat → Prop} {Ω : Om} {H0 : Heap} {o : Nat} {c0 : Fn} {c1 : Fn} {c2 : Fn} {c3 : Fn} {c4 : Int32} {c5 : Fn} {c6 : Fn} {c7 : Fn} {c8 : Int32} {c9 : Int32} {c10 : Int32} {c11 : Int32} {c12 : Int32} {c13 : Int32} (hx : p.tables.exec = Jvm.exec) (hb : c.code = cc) (hK : oK G s) (hW : oW G A Ω H) (hS : va_S A0 H0 H locs) (hA : ∀ q, A q → A0 q) (h : inMod G Ω o c0 c1 c2 c3 c4 c5 c6 c7 c8 c9 c10 c11 c12 c13) {i x : Int32} (hin : vp_in i 2) (hdg : decode cc pc = .ok (.bastore, 1)) (kk : ∀ (Ω1 : Om) (H1 : Heap) (locs1 : List Loc), inMod G Ω1 o c0 c1 c2 c3 c4 c5 (upd c6 i.toNatClampNeg (vp_nar .boolean x)) c7 c8 c9 c10 c11 c12 c13 → oF Ω Ω1 o 8 → oW G A Ω1 H1 → va_S A0 H0 H1 locs1 → W p l e R s m args below meth c H1 locs1 cells slots Q (F0 m (pc + 1) ls rest)) : W p l e R s m args below meth c H locs cells slots Q (F0 m pc ls (.int x :: .int i :: .ref (o + 6) :: rest)) := o_zast hx hb hK hW hS hA (inMod_a5 h) hin hdg (fun H1 locs1 hW1 hS1 => kk _ H1 locs1 (sMod_5 h) (oF.up (by omega) (by omega)) hW1 hS1)
theorem sMod_6 {G : Gm} {Ω : Om} {o : Nat} {c0 : Fn} {c1 : Fn} {c2 : Fn} {c3 : Fn} {c4 : Int32} {c5 : Fn} {c6 : Fn} {c7 : Fn} {c8 : Int32} {c9 : Int32} {c10 : Int32} {c11 : Int32} {c12 : Int32} {c13 : Int32} {f : Fn} (h : inMod G Ω o c0 c1 c2 c3 c4 c5 c6 c7 c8 c9 c10 c11 c12 c13) : inMod G (oU Ω (o + 7) (.inl (G.2.1, 160, .inl f))) o c0 c1 c2 c3 c4 c5 c6 f c8 c9 c10 c11 c12 c13 := ⟨(oU_ne (by omega)).trans (inMod_o h), (oU_ne (by omega)).trans (inMod_a0 h), (oU_ne (by omega)).trans (inMod_a1 h), (oU_ne (by omega)).trans (inMod_a2 h), (oU_ne (by omega)).trans (inMod_a3 h), (oU_ne (by omega)).trans (inMod_a4 h), (oU_ne (by omega)).trans (inMod_a5 h), oU_self⟩
theorem wMod_6 {p : Program} {l : Launch} {e : Env} {R : Room} {s : State} {m : MethodId} {args : Array Value} {below : List Frame} {meth : Method} {c : Code} {H : Heap} {locs : List Loc} {cells slots : Nat} {Q : State → Prop} {cc : ByteArray} {pc : Nat} {ls : Array Slot} {rest : List Value} {G : Gm} {A A0 : Nat → Prop} {Ω : Om} {H0 : Heap} {o : Nat} {c0 : Fn} {c1 : Fn} {c2 : Fn} {c3 : Fn} {c4 : Int32} {c5 : Fn} {c6 : Fn} {c7 : Fn} {c8 : Int32} {c9 : Int32} {c10 : Int32} {c11 : Int32} {c12 : Int32} {c13 : Int32} (hx : p.tables.exec = Jvm.exec) (hb : c.code = cc) (hK : oK G s) (hW : oW G A Ω H) (hS : va_S A0 H0 H locs) (hA : ∀ q, A q → A0 q) (h : inMod G Ω o c0 c1 c2 c3 c4 c5 c6 c7 c8 c9 c10 c11 c12 c13) {i x : Int32} (hin : vp_in i 160) (hdg : decode cc pc = .ok (.iastore, 1)) (kk : ∀ (Ω1 : Om) (H1 : Heap) (locs1 : List Loc), inMod G Ω1 o c0 c1 c2 c3 c4 c5 c6 (upd c7 i.toNatClampNeg x) c8 c9 c10 c11 c12 c13 → oF Ω Ω1 o 8 → oW G A Ω1 H1 → va_S A0 H0 H1 locs1 → W p l e R s m args below meth c H1 locs1 cells slots Q (F0 m (pc + 1) ls rest)) : W p l e R s m args below meth c H locs cells slots Q (F0 m pc ls (.int x :: .int i :: .ref (o + 7) :: rest)) := o_iast hx hb hK hW hS hA (inMod_a6 h) hin hdg (fun H1 locs1 hW1 hS1 => kk _ H1 locs1 (sMod_6 h) (oF.up (by omega) (by omega)) hW1 hS1)
theorem vMod_4 {p : Program} {l : Launch} {e : Env} {R : Room} {s : State} {m : MethodId} {args : Array Value} {below : List Frame} {meth : Method} {c : Code} {H : Heap} {locs : List Loc} {cells slots : Nat} {Q : State → Prop} {cc : ByteArray} {pc : Nat} {ls : Array Slot} {rest : List Value} {G : Gm} {A A0 : Nat → Prop} {Ω : Om} {H0 : Heap} {o : Nat} {c0 : Fn} {c1 : Fn} {c2 : Fn} {c3 : Fn} {c4 : Int32} {c5 : Fn} {c6 : Fn} {c7 : Fn} {c8 : Int32} {c9 : Int32} {c10 : Int32} {c11 : Int32} {c12 : Int32} {c13 : Int32} (hx : p.tables.exec = Jvm.exec) (hb : c.code = cc) (hts : ∀ w ∈ gt, w.before args s = true) {own : String} {index : Nat} (hown : s.vm.findClass own = some m.cls) (hK : oK G s) (hW : oW G A Ω H) (hS : va_S A0 H0 H locs) (hA : ∀ q, A q → A0 q) (h : inMod G Ω o c0 c1 c2 c3 c4 c5 c6 c7 c8 c9 c10 c11 c12 c13) {x : Int32} (hlink : Cond.fieldLink own index (TX9 4).1 (TX9 4).2.1 (TX9 4).2.2.1 ∈ gt) (hdg : decode cc pc = .ok (.putfield index, 3)) (kk : ∀ (Ω1 : Om) (H1 : Heap) (locs1 : List Loc), inMod G Ω1 o c0 c1 c2 c3 x c5 c6 c7 c8 c9 c10 c11 c12 c13 → oF Ω Ω1 o 8 → oW G A Ω1 H1 → va_S A0 H0 H1 locs1 → W p l e R s m args below meth c H1 locs1 cells slots Q (F0 m (pc + 3) ls rest)) : W p l e R s m args below meth c H locs cells slots Q (F0 m pc ls (.int x :: .ref o :: rest)) := o_put hx hb hts hown hK hW hS hA (inMod_o h) rfl ig9 tyX9 tyX9_ok nmX9 4 (by decide) hlink rfl (ty := .int) (by decide +kernel) rfl rfl (Nat.le_of_ble_eq_true rfl) hdg (fun H1 locs1 hW1 hS1 => kk _ H1 locs1 (show inMod G _ o c0 c1 c2 c3 x c5 c6 c7 c8 c9 c10 c11 c12 c13 from ⟨oU_self, (oU_ne (by omega)).trans (inMod_a0 h), (oU_ne (by omega)).trans (inMod_a1 h), (oU_ne (by omega)).trans (inMod_a2 h), (oU_ne (by omega)).trans (inMod_a3 h), (oU_ne (by omega)).trans (inMod_a4 h), (oU_ne (by omega)).trans (inMod_a5 h), (oU_ne (by omega)).trans (inMod_a6 h)⟩) (oF.up (by omega) (by omega)) hW1 hS1)
theorem vMod_8 {p : Program} {l : Launch} {e : Env} {R : Room} {s : State} {m : MethodId} {args : Array Value} {below : List Frame} {meth : Method} {c : Code} {H : Heap} {locs : List Loc} {cells slots : Nat} {Q : State → Prop} {cc : ByteArray} {pc : Nat} {ls : Array Slot} {rest : List Value} {G : Gm} {A A0 : Nat → Prop} {Ω : Om} {H0 : Heap} {o : Nat} {c0 : Fn} {c1 : Fn} {c2 : Fn} {c3 : Fn} {c4 : Int32} {c5 : Fn} {c6 : Fn} {c7 : Fn} {c8 : Int32} {c9 : Int32} {c10 : Int32} {c11 : Int32} {c12 : Int32} {c13 : Int32} (hx : p.tables.exec = Jvm.exec) (hb : c.code = cc) (hts : ∀ w ∈ gt, w.before args s = true) {own : String} {index : Nat} (hown : s.vm.findClass own = some m.cls) (hK : oK G s) (hW : oW G A Ω H) (hS : va_S A0 H0 H locs) (hA : ∀ q, A q → A0 q) (h : inMod G Ω o c0 c1 c2 c3 c4 c5 c6 c7 c8 c9 c10 c11 c12 c13) {x : Int32} (hlink : Cond.fieldLink own index (TX9 8).1 (TX9 8).2.1 (TX9 8).2.2.1 ∈ gt) (hdg : decode cc pc = .ok (.putfield index, 3)) (kk : ∀ (Ω1 : Om) (H1 : Heap) (locs1 : List Loc), inMod G Ω1 o c0 c1 c2 c3 c4 c5 c6 c7 x c9 c10 c11 c12 c13 → oF Ω Ω1 o 8 → oW G A Ω1 H1 → va_S A0 H0 H1 locs1 → W p l e R s m args below meth c H1 locs1 cells slots Q (F0 m (pc + 3) ls rest)) : W p l e R s m args below meth c H locs cells slots Q (F0 m pc ls (.int x :: .ref o :: rest)) := o_put hx hb hts hown hK hW hS hA (inMod_o h) rfl ig9 tyX9 tyX9_ok nmX9 8 (by decide) hlink rfl (ty := .int) (by decide +kernel) rfl rfl (Nat.le_of_ble_eq_true rfl) hdg (fun H1 locs1 hW1 hS1 => kk _ H1 locs1 (show inMod G _ o c0 c1 c2 c3 c4 c5 c6 c7 x c9 c10 c11 c12 c13 from ⟨oU_self, (oU_ne (by omega)).trans (inMod_a0 h), (oU_ne (by omega)).trans (inMod_a1 h), (oU_ne (by omega)).trans (inMod_a2 h), (oU_ne (by omega)).trans (inMod_a3 h), (oU_ne (by omega)).trans (inMod_a4 h), (oU_ne (by omega)).trans (inMod_a5 h), (oU_ne (by omega)).trans (inMod_a6 h)⟩) (oF.up (by omega) (by omega)) hW1 hS1)
theorem vMod_9 {p : Program} {l : Launch} {e : Env} {R : Room} {s : State} {m : MethodId} {args : Array Value} {below : List Frame} {meth : Method} {c : Code} {H : Heap} {locs : List Loc} {cells slots : Nat} {Q : State → Prop} {cc : ByteArray} {pc : Nat} {ls : Array Slot} {rest : List Value} {G : Gm} {A A0 : Nat → Prop} {Ω : Om} {H0 : Heap} {o : Nat} {c0 : Fn} {c1 : Fn} {c2 : Fn} {c3 : Fn} {c4 : Int32} {c5 : Fn} {c6 : Fn} {c7 : Fn} {c8 : Int32} {c9 : Int32} {c10 : Int32} {c11 : Int32} {c12 : Int32} {c13 : Int32} (hx : p.tables.exec = Jvm.exec) (hb : c.code = cc) (hts : ∀ w ∈ gt, w.before args s = true) {own : String} {index : Nat} (hown : s.vm.findClass own = some m.cls) (hK : oK G s) (hW : oW G A Ω H) (hS : va_S A0 H0 H locs) (hA : ∀ q, A q → A0 q) (h : inMod G Ω o c0 c1 c2 c3 c4 c5 c6 c7 c8 c9 c10 c11 c12 c13) {x : Int32} (hlink : Cond.fieldLink own index (TX9 9).1 (TX9 9).2.1 (TX9 9).2.2.1 ∈ gt) (hdg : decode cc pc = .ok (.putfield index, 3)) (kk : ∀ (Ω1 : Om) (H1 : Heap) (locs1 : List Loc), inMod G Ω1 o c0 c1 c2 c3 c4 c5 c6 c7 c8 x c10 c11 c12 c13 → oF Ω Ω1 o 8 → oW G A Ω1 H1 → va_S A0 H0 H1 locs1 → W p l e R s m args below meth c H1 locs1 cells slots Q (F0 m (pc + 3) ls rest)) : W p l e R s m args below meth c H locs cells slots Q (F0 m pc ls (.int x :: .ref o :: rest)) := o_put hx hb hts hown hK hW hS hA (inMod_o h) rfl ig9 tyX9 tyX9_ok nmX9 9 (by decide) hlink rfl (ty := .int) (by decide +kernel) rfl rfl (Nat.le_of_ble_eq_true rfl) hdg (fun H1 locs1 hW1 hS1 => kk _ H1 locs1 (show inMod G _ o c0 c1 c2 c3 c4 c5 c6 c7 c8 x c10 c11 c12 c13 from ⟨oU_self, (oU_ne (by omega)).trans (inMod_a0 h), (oU_ne (by omega)).trans (inMod_a1 h), (oU_ne (by omega)).trans (inMod_a2 h), (oU_ne (by omega)).trans (inMod_a3 h), (oU_ne (by omega)).trans (inMod_a4 h), (oU_ne (by omega)).trans (inMod_a5 h), (oU_ne (by omega)).trans (inMod_a6 h)⟩) (oF.up (by omega) (by omega)) hW1 hS1)
theorem vMod_10 {p : Program} {l : Launch} {e : Env} {R : Room} {s : State} {m : MethodId} {args : Array Value} {below : List Frame} {meth : Method} {c : Code} {H : Heap} {locs : List Loc} {cells slots : Nat} {Q : State → Prop} {cc : ByteArray} {pc : Nat} {ls : Array Slot} {rest : List Value} {G : Gm} {A A0 : Nat → Prop} {Ω : Om} {H0 : Heap} {o : Nat} {c0 : Fn} {c1 : Fn} {c2 : Fn} {c3 : Fn} {c4 : Int32} {c5 : Fn} {c6 : Fn} {c7 : Fn} {c8 : Int32} {c9 : Int32} {c10 : Int32} {c11 : Int32} {c12 : Int32} {c13 : Int32} (hx : p.tables.exec = Jvm.exec) (hb : c.code = cc) (hts : ∀ w ∈ gt, w.before args s = true) {own : String} {index : Nat} (hown : s.vm.findClass own = some m.cls) (hK : oK G s) (hW : oW G A Ω H) (hS : va_S A0 H0 H locs) (hA : ∀ q, A q → A0 q) (h : inMod G Ω o c0 c1 c2 c3 c4 c5 c6 c7 c8 c9 c10 c11 c12 c13) {x : Int32} (hlink : Cond.fieldLink own index (TX9 10).1 (TX9 10).2.1 (TX9 10).2.2.1 ∈ gt) (hdg : decode cc pc = .ok (.putfield index, 3)) (kk : ∀ (Ω1 : Om) (H1 : Heap) (locs1 : List Loc), inMod G Ω1 o c0 c1 c2 c3 c4 c5 c6 c7 c8 c9 x c11 c12 c13 → oF Ω Ω1 o 8 → oW G A Ω1 H1 → va_S A0 H0 H1 locs1 → W p l e R s m args below meth c H1 locs1 cells slots Q (F0 m (pc + 3) ls rest)) : W p l e R s m args below meth c H locs cells slots Q (F0 m pc ls (.int x :: .ref o :: rest)) := o_put hx hb hts hown hK hW hS hA (inMod_o h) rfl ig9 tyX9 tyX9_ok nmX9 10 (by decide) hlink rfl (ty := .int) (by decide +kernel) rfl rfl (Nat.le_of_ble_eq_true rfl) hdg (fun H1 locs1 hW1 hS1 => kk _ H1 locs1 (show inMod G _ o c0 c1 c2 c3 c4 c5 c6 c7 c8 c9 x c11 c12 c13 from ⟨oU_self, (oU_ne (by omega)).trans (inMod_a0 h), (oU_ne (by omega)).trans (inMod_a1 h), (oU_ne (by omega)).trans (inMod_a2 h), (oU_ne (by omega)).trans (inMod_a3 h), (oU_ne (by omega)).trans (inMod_a4 h), (oU_ne (by omega)).trans (inMod_a5 h), (oU_ne (by omega)).trans (inMod_a6 h)⟩) (oF.up (by omega) (by omega)) hW1 hS1)
theorem vMod_11 {p : Program} {l : Launch} {e : Env} {R : Room} {s : State} {m : MethodId} {args : Array Value} {below : List Frame} {meth : Method} {c : Code} {H : Heap} {locs : List Loc} {cells slots : Nat} {Q : State → Prop} {cc : ByteArray} {pc : Nat} {ls : Array Slot} {rest : List Value} {G : Gm} {A A0 : Nat → Prop} {Ω : Om} {H0 : Heap} {o : Nat} {c0 : Fn} {c1 : Fn} {c2 : Fn} {c3 : Fn} {c4 : Int32} {c5 : Fn} {c6 : Fn} {c7 : Fn} {c8 : Int32} {c9 : Int32} {c10 : Int32} {c11 : Int32} {c12 : Int32} {c13 : Int32} (hx : p.tables.exec = Jvm.exec) (hb : c.code = cc) (hts : ∀ w ∈ gt, w.before args s = true) {own : String} {index : Nat} (hown : s.vm.findClass own = some m.cls) (hK : oK G s) (hW : oW G A Ω H) (hS : va_S A0 H0 H locs) (hA : ∀ q, A q → A0 q) (h : inMod G Ω o c0 c1 c2 c3 c4 c5 c6 c7 c8 c9 c10 c11 c12 c13) {x : Int32} (hlink : Cond.fieldLink own index (TX9 11).1 (TX9 11).2.1 (TX9 11).2.2.1 ∈ gt) (hdg : decode cc pc = .ok (.putfield index, 3)) (kk : ∀ (Ω1 : Om) (H1 : Heap) (locs1 : List Loc), inMod G Ω1 o c0 c1 c2 c3 c4 c5 c6 c7 c8 c9 c10 x c12 c13 → oF Ω Ω1 o 8 → oW G A Ω1 H1 → va_S A0 H0 H1 locs1 → W p l e R s m args below meth c H1 locs1 cells slots Q (F0 m (pc + 3) ls rest)) : W p l e R s m args below meth c H locs cells slots Q (F0 m pc ls (.int x :: .ref o :: rest)) := o_put hx hb hts hown hK hW hS hA (inMod_o h) rfl ig9 tyX9 tyX9_ok nmX9 11 (by decide) hlink rfl (ty := .int) (by decide +kernel) rfl rfl (Nat.le_of_ble_eq_true rfl) hdg (fun H1 locs1 hW1 hS1 => kk _ H1 locs1 (show inMod G _ o c0 c1 c2 c3 c4 c5 c6 c7 c8 c9 c10 x c12 c13 from ⟨oU_self, (oU_ne (by omega)).trans (inMod_a0 h), (oU_ne (by omega)).trans (inMod_a1 h), (oU_ne (by omega)).trans (inMod_a2 h), (oU_ne (by omega)).trans (inMod_a3 h), (oU_ne (by omega)).trans (inMod_a4 h), (oU_ne (by omega)).trans (inMod_a5 h), (oU_ne (by omega)).trans (inMod_a6 h)⟩) (oF.up (by omega) (by omega)) hW1 hS1)
theorem vMod_12 {p : Program} {l : Launch} {e : Env} {R : Room} {s : State} {m : MethodId} {args : Array Value} {below : List Frame} {meth : Method} {c : Code} {H : Heap} {locs : List Loc} {cells slots : Nat} {Q : State → Prop} {cc : ByteArray} {pc : Nat} {ls : Array Slot} {rest : List Value} {G : Gm} {A A0 : Nat → Prop} {Ω : Om} {H0 : Heap} {o : Nat} {c0 : Fn} {c1 : Fn} {c2 : Fn} {c3 : Fn} {c4 : Int32} {c5 : Fn} {c6 : Fn} {c7 : Fn} {c8 : Int32} {c9 : Int32} {c10 : Int32} {c11 : Int32} {c12 : Int32} {c13 : Int32} (hx : p.tables.exec = Jvm.exec) (hb : c.code = cc) (hts : ∀ w ∈ gt, w.before args s = true) {own : String} {index : Nat} (hown : s.vm.findClass own = some m.cls) (hK : oK G s) (hW : oW G A Ω H) (hS : va_S A0 H0 H locs) (hA : ∀ q, A q → A0 q) (h : inMod G Ω o c0 c1 c2 c3 c4 c5 c6 c7 c8 c9 c10 c11 c12 c13) {x : Int32} (hlink : Cond.fieldLink own index (TX9 12).1 (TX9 12).2.1 (TX9 12).2.2.1 ∈ gt) (hdg : decode cc pc = .ok (.putfield index, 3)) (kk : ∀ (Ω1 : Om) (H1 : Heap) (locs1 : List Loc), inMod G Ω1 o c0 c1 c2 c3 c4 c5 c6 c7 c8 c9 c10 c11 x c13 → oF Ω Ω1 o 8 → oW G A Ω1 H1 → va_S A0 H0 H1 locs1 → W p l e R s m args below meth c H1 locs1 cells slots Q (F0 m (pc + 3) ls rest)) : W p l e R s m args below meth c H locs cells slots Q (F0 m pc ls (.int x :: .ref o :: rest)) := o_put hx hb hts hown hK hW hS hA (inMod_o h) rfl ig9 tyX9 tyX9_ok nmX9 12 (by decide) hlink rfl (ty := .int) (by decide +kernel) rfl rfl (Nat.le_of_ble_eq_true rfl) hdg (fun H1 locs1 hW1 hS1 => kk _ H1 locs1 (show inMod G _ o c0 c1 c2 c3 c4 c5 c6 c7 c8 c9 c10 c11 x c13 from ⟨oU_self, (oU_ne (by omega)).trans (inMod_a0 h), (oU_ne (by omega)).trans (inMod_a1 h), (oU_ne (by omega)).trans (inMod_a2 h), (oU_ne (by omega)).trans (inMod_a3 h), (oU_ne (by omega)).trans (inMod_a4 h), (oU_ne (by omega)).trans (inMod_a5 h), (oU_ne (by omega)).trans (inMod_a6 h)⟩) (oF.up (by omega) (by omega)) hW1 hS1)
theorem vMod_13 {p : Program} {l : Launch} {e : Env} {R : Room} {s : State} {m : MethodId} {args : Array Value} {below : List Frame} {meth : Method} {c : Code} {H : Heap} {locs : List Loc} {cells slots : Nat} {Q : State → Prop} {cc : ByteArray} {pc : Nat} {ls : Array Slot} {rest : List Value} {G : Gm} {A A0 : Nat → Prop} {Ω : Om} {H0 : Heap} {o : Nat} {c0 : Fn} {c1 : Fn} {c2 : Fn} {c3 : Fn} {c4 : Int32} {c5 : Fn} {c6 : Fn} {c7 : Fn} {c8 : Int32} {c9 : Int32} {c10 : Int32} {c11 : Int32} {c12 : Int32} {c13 : Int32} (hx : p.tables.exec = Jvm.exec) (hb : c.code = cc) (hts : ∀ w ∈ gt, w.before args s = true) {own : String} {index : Nat} (hown : s.vm.findClass own = some m.cls) (hK : oK G s) (hW : oW G A Ω H) (hS : va_S A0 H0 H locs) (hA : ∀ q, A q → A0 q) (h : inMod G Ω o c0 c1 c2 c3 c4 c5 c6 c7 c8 c9 c10 c11 c12 c13) {x : Int32} (hlink : Cond.fieldLink own index (TX9 13).1 (TX9 13).2.1 (TX9 13).2.2.1 ∈ gt) (hdg : decode cc pc = .ok (.putfield index, 3)) (kk : ∀ (Ω1 : Om) (H1 : Heap) (locs1 : List Loc), inMod G Ω1 o c0 c1 c2 c3 c4 c5 c6 c7 c8 c9 c10 c11 c12 x → oF Ω Ω1 o 8 → oW G A Ω1 H1 → va_S A0 H0 H1 locs1 → W p l e R s m args below meth c H1 locs1 cells slots Q (F0 m (pc + 3) ls rest)) : W p l e R s m args below meth c H locs cells slots Q (F0 m pc ls (.int x :: .ref o :: rest)) := o_put hx hb hts hown hK hW hS hA (inMod_o h) rfl ig9 tyX9 tyX9_ok nmX9 13 (by decide) hlink rfl (ty := .int) (by decide +kernel) rfl rfl (Nat.le_of_ble_eq_true rfl) hdg (fun H1 locs1 hW1 hS1 => kk _ H1 locs1 (show inMod G _ o c0 c1 c2 c3 c4 c5 c6 c7 c8 c9 c10 c11 c12 x from ⟨oU_self, (oU_ne (by omega)).trans (inMod_a0 h), (oU_ne (by omega)).trans (inMod_a1 h), (oU_ne (by omega)).trans (inMod_a2 h), (oU_ne (by omega)).trans (inMod_a3 h), (oU_ne (by omega)).trans (inMod_a4 h), (oU_ne (by omega)).trans (inMod_a5 h), (oU_ne (by omega)).trans (inMod_a6 h)⟩) (oF.up (by omega) (by omega)) hW1 hS1)
def inBlk (G : Gm) (Ω : Om) (o : Nat) (u : Blk) : Prop := Ω o = some (.inr (0, [.int (u 0 0), .int (u 0 1), .int (u 0 2), .ref (o + 1), .ref (o + 2), .ref (o + 3), .ref (o + 4), .ref (o + 5), .ref (o + 6), .ref (o + 7), .ref (o + 8), .ref (o + 9), .ref (o + 10), .ref (o + 11), .ref (o + 12)])) ∧ Ω (o + 1) = some (.inl (G.2.1, 6, .inl (u 1))) ∧ Ω (o + 2) = some (.inl (G.2.1, 6, .inl (u 2))) ∧ Ω (o + 3) = some (.inl (G.2.1, 6, .inl (u 3))) ∧ Ω (o + 4) = some (.inl (G.2.1, 12, .inl (u 4))) ∧ Ω (o + 5) = some (.inl (G.2.1, 12, .inl (u 5))) ∧ Ω (o + 6) = some (.inl (G.2.1, 12, .inl (u 6))) ∧ Ω (o + 7) = some (.inl (G.2.1, 12, .inl (u 7))) ∧ Ω (o + 8) = some (.inl (G.2.1, 12, .inl (u 8))) ∧ Ω (o + 9) = some (.inl (G.2.1, 12, .inl (u 9))) ∧ Ω (o + 10) = some (.inl (G.2.1, 4, .inl (u 10))) ∧ Ω (o + 11) = some (.inl (G.2.1, 4, .inl (u 11))) ∧ Ω (o + 12) = some (.inl (G.2.1, 4, .inl (u 12)))
theorem inBlk_o {G : Gm} {Ω : Om} {o : Nat} {u : Blk} (h : inBlk G Ω o u) : Ω o = some (.inr (0, [.int (u 0 0), .int (u 0 1), .int (u 0 2), .ref (o + 1), .ref (o + 2), .ref (o + 3), .ref (o + 4), .ref (o + 5), .ref (o + 6), .ref (o + 7), .ref (o + 8), .ref (o + 9), .ref (o + 10), .ref (o + 11), .ref (o + 12)])) := h.1
theorem inBlk_a0 {G : Gm} {Ω : Om} {o : Nat} {u : Blk} (h : inBlk G Ω o u) : Ω (o + 1) = some (.inl (G.2.1, 6, .inl (u 1))) := h.2.1
theorem inBlk_a1 {G : Gm} {Ω : Om} {o : Nat} {u : Blk} (h : inBlk G Ω o u) : Ω (o + 2) = some (.inl (G.2.1, 6, .inl (u 2))) := h.2.2.1
theorem inBlk_a2 {G : Gm} {Ω : Om} {o : Nat} {u : Blk} (h : inBlk G Ω o u) : Ω (o + 3) = some (.inl (G.2.1, 6, .inl (u 3))) := h.2.2.2.1
theorem inBlk_a3 {G : Gm} {Ω : Om} {o : Nat} {u : Blk} (h : inBlk G Ω o u) : Ω (o + 4) = some (.inl (G.2.1, 12, .inl (u 4))) := h.2.2.2.2.1
theorem inBlk_a4 {G : Gm} {Ω : Om} {o : Nat} {u : Blk} (h : inBlk G Ω o u) : Ω (o + 5) = some (.inl (G.2.1, 12, .inl (u 5))) := h.2.2.2.2.2.1
theorem inBlk_a5 {G : Gm} {Ω : Om} {o : Nat} {u : Blk} (h : inBlk G Ω o u) : Ω (o + 6) = some (.inl (G.2.1, 12, .inl (u 6))) := h.2.2.2.2.2.2.1
theorem inBlk_a6 {G : Gm} {Ω : Om} {o : Nat} {u : Blk} (h : inBlk G Ω o u) : Ω (o + 7) = some (.inl (G.2.1, 12, .inl (u 7))) := h.2.2.2.2.2.2.2.1
theorem inBlk_a7 {G : Gm} {Ω : Om} {o : Nat} {u : Blk} (h : inBlk G Ω o u) : Ω (o + 8) = some (.inl (G.2.1, 12, .inl (u 8))) := h.2.2.2.2.2.2.2.2.1
theorem inBlk_a8 {G : Gm} {Ω : Om} {o : Nat} {u : Blk} (h : inBlk G Ω o u) : Ω (o + 9) = some (.inl (G.2.1, 12, .inl (u 9))) := h.2.2.2.2.2.2.2.2.2.1
theorem inBlk_a9 {G : Gm} {Ω : Om} {o : Nat} {u : Blk} (h : inBlk G Ω o u) : Ω (o + 10) = some (.inl (G.2.1, 4, .inl (u 10))) := h.2.2.2.2.2.2.2.2.2.2.1
theorem inBlk_a10 {G : Gm} {Ω : Om} {o : Nat} {u : Blk} (h : inBlk G Ω o u) : Ω (o + 11) = some (.inl (G.2.1, 4, .inl (u 11))) := h.2.2.2.2.2.2.2.2.2.2.2.1
theorem inBlk_a11 {G : Gm} {Ω : Om} {o : Nat} {u : Blk} (h : inBlk G Ω o u) : Ω (o + 12) = some (.inl (G.2.1, 4, .inl (u 12))) := h.2.2.2.2.2.2.2.2.2.2.2.2
theorem inBlk.keep {G : Gm} {Ω : Om} {o : Nat} {u : Blk} {Ω1 : Om} (h : inBlk G Ω o u) (hq : ∀ q : Nat, o ≤ q → q < o + 13 → Ω1 q = Ω q) : inBlk G Ω1 o u := ⟨(hq _ (by omega) (by omega)).trans (inBlk_o h), (hq _ (by omega) (by omega)).trans (inBlk_a0 h), (hq _ (by omega) (by omega)).trans (inBlk_a1 h), (hq _ (by omega) (by omega)).trans (inBlk_a2 h), (hq _ (by omega) (by omega)).trans (inBlk_a3 h), (hq _ (by omega) (by omega)).trans (inBlk_a4 h), (hq _ (by omega) (by omega)).trans (inBlk_a5 h), (hq _ (by omega) (by omega)).trans (inBlk_a6 h), (hq _ (by omega) (by omega)).trans (inBlk_a7 h), (hq _ (by omega) (by omega)).trans (inBlk_a8 h), (hq _ (by omega) (by omega)).trans (inBlk_a9 h), (hq _ (by omega) (by omega)).trans (inBlk_a10 h), (hq _ (by omega) (by omega)).trans (inBlk_a11 h)⟩
theorem sBlk_0 {G : Gm} {Ω : Om} {o : Nat} {u : Blk} {f : Fn} (h : inBlk G Ω o u) : inBlk G (oU Ω (o + 1) (.inl (G.2.1, 6, .inl f))) o (bs u 1 f) := ⟨(oU_ne (by omega)).trans (inBlk_o (u := u) h), oU_self, (oU_ne (by omega)).trans (inBlk_a1 (u := u) h), (oU_ne (by omega)).trans (inBlk_a2 (u := u) h), (oU_ne (by omega)).trans (inBlk_a3 (u := u) h), (oU_ne (by omega)).trans (inBlk_a4 (u := u) h), (oU_ne (by omega)).trans (inBlk_a5 (u := u) h), (oU_ne (by omega)).trans (inBlk_a6 (u := u) h), (oU_ne (by omega)).trans (inBlk_a7 (u := u) h), (oU_ne (by omega)).trans (inBlk_a8 (u := u) h), (oU_ne (by omega)).trans (inBlk_a9 (u := u) h), (oU_ne (by omega)).trans (inBlk_a10 (u := u) h), (oU_ne (by omega)).trans (inBlk_a11 (u := u) h)⟩
theorem wBlk_0 {p : Program} {l : Launch} {e : Env} {R : Room} {s : State} {m : MethodId} {args : Array Value} {below : List Frame} {meth : Method} {c : Code} {H : Heap} {locs : List Loc} {cells slots : Nat} {Q : State → Prop} {cc : ByteArray} {pc : Nat} {ls : Array Slot} {rest : List Value} {G : Gm} {A A0 : Nat → Prop} {Ω : Om} {H0 : Heap} {o : Nat} {u : Blk} (hx : p.tables.exec = Jvm.exec) (hb : c.code = cc) (hK : oK G s) (hW : oW G A Ω H) (hS : va_S A0 H0 H locs) (hA : ∀ q, A q → A0 q) (h : inBlk G Ω o u) {i x : Int32} (hin : vp_in i 6) (hdg : decode cc pc = .ok (.iastore, 1)) (kk : ∀ (Ω1 : Om) (H1 : Heap) (locs1 : List Loc), inBlk G Ω1 o (bs u 1 (upd (u 1) i.toNatClampNeg x)) → oF Ω Ω1 o 13 → oW G A Ω1 H1 → va_S A0 H0 H1 locs1 → W p l e R s m args below meth c H1 locs1 cells slots Q (F0 m (pc + 1) ls rest)) : W p l e R s m args below meth c H locs cells slots Q (F0 m pc ls (.int x :: .int i :: .ref (o + 1) :: rest)) := o_iast hx hb hK hW hS hA (inBlk_a0 h) hin hdg (fun H1 locs1 hW1 hS1 => kk _ H1 locs1 (sBlk_0 h) (oF.up (by omega) (by omega)) hW1 hS1)
theorem sBlk_1 {G : Gm} {Ω : Om} {o : Nat} {u : Blk} {f : Fn} (h : inBlk G Ω o u) : inBlk G (oU Ω (o + 2) (.inl (G.2.1, 6, .inl f))) o (bs u 2 f) := ⟨(oU_ne (by omega)).trans (inBlk_o (u := u) h), (oU_ne (by omega)).trans (inBlk_a0 (u := u) h), oU_self, (oU_ne (by omega)).trans (inBlk_a2 (u := u) h), (oU_ne (by omega)).trans (inBlk_a3 (u := u) h), (oU_ne (by omega)).trans (inBlk_a4 (u := u) h), (oU_ne (by omega)).trans (inBlk_a5 (u := u) h), (oU_ne (by omega)).trans (inBlk_a6 (u := u) h), (oU_ne (by omega)).trans (inBlk_a7 (u := u) h), (oU_ne (by omega)).trans (inBlk_a8 (u := u) h), (oU_ne (by omega)).trans (inBlk_a9 (u := u) h), (oU_ne (by omega)).trans (inBlk_a10 (u := u) h), (oU_ne (by omega)).trans (inBlk_a11 (u := u) h)⟩
theorem wBlk_1 {p : Program} {l : Launch} {e : Env} {R : Room} {s : State} {m : MethodId} {args : Array Value} {below : List Frame} {meth : Method} {c : Code} {H : Heap} {locs : List Loc} {cells slots : Nat} {Q : State → Prop} {cc : ByteArray} {pc : Nat} {ls : Array Slot} {rest : List Value} {G : Gm} {A A0 : Nat → Prop} {Ω : Om} {H0 : Heap} {o : Nat} {u : Blk} (hx : p.tables.exec = Jvm.exec) (hb : c.code = cc) (hK : oK G s) (hW : oW G A Ω H) (hS : va_S A0 H0 H locs) (hA : ∀ q, A q → A0 q) (h : inBlk G Ω o u) {i x : Int32} (hin : vp_in i 6) (hdg : decode cc pc = .ok (.iastore, 1)) (kk : ∀ (Ω1 : Om) (H1 : Heap) (locs1 : List Loc), inBlk G Ω1 o (bs u 2 (upd (u 2) i.toNatClampNeg x)) → oF Ω Ω1 o 13 → oW G A Ω1 H1 → va_S A0 H0 H1 locs1 → W p l e R s m args below meth c H1 locs1 cells slots Q (F0 m (pc + 1) ls rest)) : W p l e R s m args below meth c H locs cells slots Q (F0 m pc ls (.int x :: .int i :: .ref (o + 2) :: rest)) := o_iast hx hb hK hW hS hA (inBlk_a1 h) hin hdg (fun H1 locs1 hW1 hS1 => kk _ H1 locs1 (sBlk_1 h) (oF.up (by omega) (by omega)) hW1 hS1)
theorem sBlk_2 {G : Gm} {Ω : Om} {o : Nat} {u : Blk} {f : Fn} (h : inBlk G Ω o u) : inBlk G (oU Ω (o + 3) (.inl (G.2.1, 6, .inl f))) o (bs u 3 f) := ⟨(oU_ne (by omega)).trans (inBlk_o (u := u) h), (oU_ne (by omega)).trans (inBlk_a0 (u := u) h), (oU_ne (by omega)).trans (inBlk_a1 (u := u) h), oU_self, (oU_ne (by omega)).trans (inBlk_a3 (u := u) h), (oU_ne (by omega)).trans (inBlk_a4 (u := u) h), (oU_ne (by omega)).trans (inBlk_a5 (u := u) h), (oU_ne (by omega)).trans (inBlk_a6 (u := u) h), (oU_ne (by omega)).trans (inBlk_a7 (u := u) h), (oU_ne (by omega)).trans (inBlk_a8 (u := u) h), (oU_ne (by omega)).trans (inBlk_a9 (u := u) h), (oU_ne (by omega)).trans (inBlk_a10 (u := u) h), (oU_ne (by omega)).trans (inBlk_a11 (u := u) h)⟩
theorem wBlk_2 {p : Program} {l : Launch} {e : Env} {R : Room} {s : State} {m : MethodId} {args : Array Value} {below : List Frame} {meth : Method} {c : Code} {H : Heap} {locs : List Loc} {cells slots : Nat} {Q : State → Prop} {cc : ByteArray} {pc : Nat} {ls : Array Slot} {rest : List Value} {G : Gm} {A A0 : Nat → Prop} {Ω : Om} {H0 : Heap} {o : Nat} {u : Blk} (hx : p.tables.exec = Jvm.exec) (hb : c.code = cc) (hK : oK G s) (hW : oW G A Ω H) (hS : va_S A0 H0 H locs) (hA : ∀ q, A q → A0 q) (h : inBlk G Ω o u) {i x : Int32} (hin : vp_in i 6) (hdg : decode cc pc = .ok (.iastore, 1)) (kk : ∀ (Ω1 : Om) (H1 : Heap) (locs1 : List Loc), inBlk G Ω1 o (bs u 3 (upd (u 3) i.toNatClampNeg x)) → oF Ω Ω1 o 13 → oW G A Ω1 H1 → va_S A0 H0 H1 locs1 → W p l e R s m args below meth c H1 locs1 cells slots Q (F0 m (pc + 1) ls rest)) : W p l e R s m args below meth c H locs cells slots Q (F0 m pc ls (.int x :: .int i :: .ref (o + 3) :: rest)) := o_iast hx hb hK hW hS hA (inBlk_a2 h) hin hdg (fun H1 locs1 hW1 hS1 => kk _ H1 locs1 (sBlk_2 h) (oF.up (by omega) (by omega)) hW1 hS1)
theorem sBlk_3 {G : Gm} {Ω : Om} {o : Nat} {u : Blk} {f : Fn} (h : inBlk G Ω o u) : inBlk G (oU Ω (o + 4) (.inl (G.2.1, 12, .inl f))) o (bs u 4 f) := ⟨(oU_ne (by omega)).trans (inBlk_o (u := u) h), (oU_ne (by omega)).trans (inBlk_a0 (u := u) h), (oU_ne (by omega)).trans (inBlk_a1 (u := u) h), (oU_ne (by omega)).trans (inBlk_a2 (u := u) h), oU_self, (oU_ne (by omega)).trans (inBlk_a4 (u := u) h), (oU_ne (by omega)).trans (inBlk_a5 (u := u) h), (oU_ne (by omega)).trans (inBlk_a6 (u := u) h), (oU_ne (by omega)).trans (inBlk_a7 (u := u) h), (oU_ne (by omega)).trans (inBlk_a8 (u := u) h), (oU_ne (by omega)).trans (inBlk_a9 (u := u) h), (oU_ne (by omega)).trans (inBlk_a10 (u := u) h), (oU_ne (by omega)).trans (inBlk_a11 (u := u) h)⟩
theorem wBlk_3 {p : Program} {l : Launch} {e : Env} {R : Room} {s : State} {m : MethodId} {args : Array Value} {below : List Frame} {meth : Method} {c : Code} {H : Heap} {locs : List Loc} {cells slots : Nat} {Q : State → Prop} {cc : ByteArray} {pc : Nat} {ls : Array Slot} {rest : List Value} {G : Gm} {A A0 : Nat → Prop} {Ω : Om} {H0 : Heap} {o : Nat} {u : Blk} (hx : p.tables.exec = Jvm.exec) (hb : c.code = cc) (hK : oK G s) (hW : oW G A Ω H) (hS : va_S A0 H0 H locs) (hA : ∀ q, A q → A0 q) (h : inBlk G Ω o u) {i x : Int32} (hin : vp_in i 12) (hdg : decode cc pc = .ok (.iastore, 1)) (kk : ∀ (Ω1 : Om) (H1 : Heap) (locs1 : List Loc), inBlk G Ω1 o (bs u 4 (upd (u 4) i.toNatClampNeg x)) → oF Ω Ω1 o 13 → oW G A Ω1 H1 → va_S A0 H0 H1 locs1 → W p l e R s m args below meth c H1 locs1 cells slots Q (F0 m (pc + 1) ls rest)) : W p l e R s m args below meth c H locs cells slots Q (F0 m pc ls (.int x :: .int i :: .ref (o + 4) :: rest)) := o_iast hx hb hK hW hS hA (inBlk_a3 h) hin hdg (fun H1 locs1 hW1 hS1 => kk _ H1 locs1 (sBlk_3 h) (oF.up (by omega) (by omega)) hW1 hS1)
theorem sBlk_4 {G : Gm} {Ω : Om} {o : Nat} {u : Blk} {f : Fn} (h : inBlk G Ω o u) : inBlk G (oU Ω (o + 5) (.inl (G.2.1, 12, .inl f))) o (bs u 5 f) := ⟨(oU_ne (by omega)).trans (inBlk_o (u := u) h), (oU_ne (by omega)).trans (inBlk_a0 (u := u) h), (oU_ne (by omega)).trans (inBlk_a1 (u := u) h), (oU_ne (by omega)).trans (inBlk_a2 (u := u) h), (oU_ne (by omega)).trans (inBlk_a3 (u := u) h), oU_self, (oU_ne (by omega)).trans (inBlk_a5 (u := u) h), (oU_ne (by omega)).trans (inBlk_a6 (u := u) h), (oU_ne (by omega)).trans (inBlk_a7 (u := u) h), (oU_ne (by omega)).trans (inBlk_a8 (u := u) h), (oU_ne (by omega)).trans (inBlk_a9 (u := u) h), (oU_ne (by omega)).trans (inBlk_a10 (u := u) h), (oU_ne (by omega)).trans (inBlk_a11 (u := u) h)⟩
theorem wBlk_4 {p : Program} {l : Launch} {e : Env} {R : Room} {s : State} {m : MethodId} {args : Array Value} {below : List Frame} {meth : Method} {c : Code} {H : Heap} {locs : List Loc} {cells slots : Nat} {Q : State → Prop} {cc : ByteArray} {pc : Nat} {ls : Array Slot} {rest : List Value} {G : Gm} {A A0 : Nat → Prop} {Ω : Om} {H0 : Heap} {o : Nat} {u : Blk} (hx : p.tables.exec = Jvm.exec) (hb : c.code = cc) (hK : oK G s) (hW : oW G A Ω H) (hS : va_S A0 H0 H locs) (hA : ∀ q, A q → A0 q) (h : inBlk G Ω o u) {i x : Int32} (hin : vp_in i 12) (hdg : decode cc pc = .ok (.iastore, 1)) (kk : ∀ (Ω1 : Om) (H1 : Heap) (locs1 : List Loc), inBlk G Ω1 o (bs u 5 (upd (u 5) i.toNatClampNeg x)) → oF Ω Ω1 o 13 → oW G A Ω1 H1 → va_S A0 H0 H1 locs1 → W p l e R s m args below meth c H1 locs1 cells slots Q (F0 m (pc + 1) ls rest)) : W p l e R s m args below meth c H locs cells slots Q (F0 m pc ls (.int x :: .int i :: .ref (o + 5) :: rest)) := o_iast hx hb hK hW hS hA (inBlk_a4 h) hin hdg (fun H1 locs1 hW1 hS1 => kk _ H1 locs1 (sBlk_4 h) (oF.up (by omega) (by omega)) hW1 hS1)
theorem sBlk_5 {G : Gm} {Ω : Om} {o : Nat} {u : Blk} {f : Fn} (h : inBlk G Ω o u) : inBlk G (oU Ω (o + 6) (.inl (G.2.1, 12, .inl f))) o (bs u 6 f) := ⟨(oU_ne (by omega)).trans (inBlk_o (u := u) h), (oU_ne (by omega)).trans (inBlk_a0 (u := u) h), (oU_ne (by omega)).trans (inBlk_a1 (u := u) h), (oU_ne (by omega)).trans (inBlk_a2 (u := u) h), (oU_ne (by omega)).trans (inBlk_a3 (u := u) h), (oU_ne (by omega)).trans (inBlk_a4 (u := u) h), oU_self, (oU_ne (by omega)).trans (inBlk_a6 (u := u) h), (oU_ne (by omega)).trans (inBlk_a7 (u := u) h), (oU_ne (by omega)).trans (inBlk_a8 (u := u) h), (oU_ne (by omega)).trans (inBlk_a9 (u := u) h), (oU_ne (by omega)).trans (inBlk_a10 (u := u) h), (oU_ne (by omega)).trans (inBlk_a11 (u := u) h)⟩
theorem wBlk_5 {p : Program} {l : Launch} {e : Env} {R : Room} {s : State} {m : MethodId} {args : Array Value} {below : List Frame} {meth : Method} {c : Code} {H : Heap} {locs : List Loc} {cells slots : Nat} {Q : State → Prop} {cc : ByteArray} {pc : Nat} {ls : Array Slot} {rest : List Value} {G : Gm} {A A0 : Nat → Prop} {Ω : Om} {H0 : Heap} {o : Nat} {u : Blk} (hx : p.tables.exec = Jvm.exec) (hb : c.code = cc) (hK : oK G s) (hW : oW G A Ω H) (hS : va_S A0 H0 H locs) (hA : ∀ q, A q → A0 q) (h : inBlk G Ω o u) {i x : Int32} (hin : vp_in i 12) (hdg : decode cc pc = .ok (.iastore, 1)) (kk : ∀ (Ω1 : Om) (H1 : Heap) (locs1 : List Loc), inBlk G Ω1 o (bs u 6 (upd (u 6) i.toNatClampNeg x)) → oF Ω Ω1 o 13 → oW G A Ω1 H1 → va_S A0 H0 H1 locs1 → W p l e R s m args below meth c H1 locs1 cells slots Q (F0 m (pc + 1) ls rest)) : W p l e R s m args below meth c H locs cells slots Q (F0 m pc ls (.int x :: .int i :: .ref (o + 6) :: rest)) := o_iast hx hb hK hW hS hA (inBlk_a5 h) hin hdg (fun H1 locs1 hW1 hS1 => kk _ H1 locs1 (sBlk_5 h) (oF.up (by omega) (by omega)) hW1 hS1)
theorem sBlk_6 {G : Gm} {Ω : Om} {o : Nat} {u : Blk} {f : Fn} (h : inBlk G Ω o u) : inBlk G (oU Ω (o + 7) (.inl (G.2.1, 12, .inl f))) o (bs u 7 f) := ⟨(oU_ne (by omega)).trans (inBlk_o (u := u) h), (oU_ne (by omega)).trans (inBlk_a0 (u := u) h), (oU_ne (by omega)).trans (inBlk_a1 (u := u) h), (oU_ne (by omega)).trans (inBlk_a2 (u := u) h), (oU_ne (by omega)).trans (inBlk_a3 (u := u) h), (oU_ne (by omega)).trans (inBlk_a4 (u := u) h), (oU_ne (by omega)).trans (inBlk_a5 (u := u) h), oU_self, (oU_ne (by omega)).trans (inBlk_a7 (u := u) h), (oU_ne (by omega)).trans (inBlk_a8 (u := u) h), (oU_ne (by omega)).trans (inBlk_a9 (u := u) h), (oU_ne (by omega)).trans (inBlk_a10 (u := u) h), (oU_ne (by omega)).trans (inBlk_a11 (u := u) h)⟩
theorem wBlk_6 {p : Program} {l : Launch} {e : Env} {R : Room} {s : State} {m : MethodId} {args : Array Value} {below : List Frame} {meth : Method} {c : Code} {H : Heap} {locs : List Loc} {cells slots : Nat} {Q : State → Prop} {cc : ByteArray} {pc : Nat} {ls : Array Slot} {rest : List Value} {G : Gm} {A A0 : Nat → Prop} {Ω : Om} {H0 : Heap} {o : Nat} {u : Blk} (hx : p.tables.exec = Jvm.exec) (hb : c.code = cc) (hK : oK G s) (hW : oW G A Ω H) (hS : va_S A0 H0 H locs) (hA : ∀ q, A q → A0 q) (h : inBlk G Ω o u) {i x : Int32} (hin : vp_in i 12) (hdg : decode cc pc = .ok (.iastore, 1)) (kk : ∀ (Ω1 : Om) (H1 : Heap) (locs1 : List Loc), inBlk G Ω1 o (bs u 7 (upd (u 7) i.toNatClampNeg x)) → oF Ω Ω1 o 13 → oW G A Ω1 H1 → va_S A0 H0 H1 locs1 → W p l e R s m args below meth c H1 locs1 cells slots Q (F0 m (pc + 1) ls rest)) : W p l e R s m args below meth c H locs cells slots Q (F0 m pc ls (.int x :: .int i :: .ref (o + 7) :: rest)) := o_iast hx hb hK hW hS hA (inBlk_a6 h) hin hdg (fun H1 locs1 hW1 hS1 => kk _ H1 locs1 (sBlk_6 h) (oF.up (by omega) (by omega)) hW1 hS1)
theorem sBlk_7 {G : Gm} {Ω : Om} {o : Nat} {u : Blk} {f : Fn} (h : inBlk G Ω o u) : inBlk G (oU Ω (o + 8) (.inl (G.2.1, 12, .inl f))) o (bs u 8 f) := ⟨(oU_ne (by omega)).trans (inBlk_o (u := u) h), (oU_ne (by omega)).trans (inBlk_a0 (u := u) h), (oU_ne (by omega)).trans (inBlk_a1 (u := u) h), (oU_ne (by omega)).trans (inBlk_a2 (u := u) h), (oU_ne (by omega)).trans (inBlk_a3 (u := u) h), (oU_ne (by omega)).trans (inBlk_a4 (u := u) h), (oU_ne (by omega)).trans (inBlk_a5 (u := u) h), (oU_ne (by omega)).trans (inBlk_a6 (u := u) h), oU_self, (oU_ne (by omega)).trans (inBlk_a8 (u := u) h), (oU_ne (by omega)).trans (inBlk_a9 (u := u) h), (oU_ne (by omega)).trans (inBlk_a10 (u := u) h), (oU_ne (by omega)).trans (inBlk_a11 (u := u) h)⟩
theorem wBlk_7 {p : Program} {l : Launch} {e : Env} {R : Room} {s : State} {m : MethodId} {args : Array Value} {below : List Frame} {meth : Method} {c : Code} {H : Heap} {locs : List Loc} {cells slots : Nat} {Q : State → Prop} {cc : ByteArray} {pc : Nat} {ls : Array Slot} {rest : List Value} {G : Gm} {A A0 : Nat → Prop} {Ω : Om} {H0 : Heap} {o : Nat} {u : Blk} (hx : p.tables.exec = Jvm.exec) (hb : c.code = cc) (hK : oK G s) (hW : oW G A Ω H) (hS : va_S A0 H0 H locs) (hA : ∀ q, A q → A0 q) (h : inBlk G Ω o u) {i x : Int32} (hin : vp_in i 12) (hdg : decode cc pc = .ok (.iastore, 1)) (kk : ∀ (Ω1 : Om) (H1 : Heap) (locs1 : List Loc), inBlk G Ω1 o (bs u 8 (upd (u 8) i.toNatClampNeg x)) → oF Ω Ω1 o 13 → oW G A Ω1 H1 → va_S A0 H0 H1 locs1 → W p l e R s m args below meth c H1 locs1 cells slots Q (F0 m (pc + 1) ls rest)) : W p l e R s m args below meth c H locs cells slots Q (F0 m pc ls (.int x :: .int i :: .ref (o + 8) :: rest)) := o_iast hx hb hK hW hS hA (inBlk_a7 h) hin hdg (fun H1 locs1 hW1 hS1 => kk _ H1 locs1 (sBlk_7 h) (oF.up (by omega) (by omega)) hW1 hS1)
theorem sBlk_8 {G : Gm} {Ω : Om} {o : Nat} {u : Blk} {f : Fn} (h : inBlk G Ω o u) : inBlk G (oU Ω (o + 9) (.inl (G.2.1, 12, .inl f))) o (bs u 9 f) := ⟨(oU_ne (by omega)).trans (inBlk_o (u := u) h), (oU_ne (by omega)).trans (inBlk_a0 (u := u) h), (oU_ne (by omega)).trans (inBlk_a1 (u := u) h), (oU_ne (by omega)).trans (inBlk_a2 (u := u) h), (oU_ne (by omega)).trans (inBlk_a3 (u := u) h), (oU_ne (by omega)).trans (inBlk_a4 (u := u) h), (oU_ne (by omega)).trans (inBlk_a5 (u := u) h), (oU_ne (by omega)).trans (inBlk_a6 (u := u) h), (oU_ne (by omega)).trans (inBlk_a7 (u := u) h), oU_self, (oU_ne (by omega)).trans (inBlk_a9 (u := u) h), (oU_ne (by omega)).trans (inBlk_a10 (u := u) h), (oU_ne (by omega)).trans (inBlk_a11 (u := u) h)⟩
theorem wBlk_8 {p : Program} {l : Launch} {e : Env} {R : Room} {s : State} {m : MethodId} {args : Array Value} {below : List Frame} {meth : Method} {c : Code} {H : Heap} {locs : List Loc} {cells slots : Nat} {Q : State → Prop} {cc : ByteArray} {pc : Nat} {ls : Array Slot} {rest : List Value} {G : Gm} {A A0 : Nat → Prop} {Ω : Om} {H0 : Heap} {o : Nat} {u : Blk} (hx : p.tables.exec = Jvm.exec) (hb : c.code = cc) (hK : oK G s) (hW : oW G A Ω H) (hS : va_S A0 H0 H locs) (hA : ∀ q, A q → A0 q) (h : inBlk G Ω o u) {i x : Int32} (hin : vp_in i 12) (hdg : decode cc pc = .ok (.iastore, 1)) (kk : ∀ (Ω1 : Om) (H1 : Heap) (locs1 : List Loc), inBlk G Ω1 o (bs u 9 (upd (u 9) i.toNatClampNeg x)) → oF Ω Ω1 o 13 → oW G A Ω1 H1 → va_S A0 H0 H1 locs1 → W p l e R s m args below meth c H1 locs1 cells slots Q (F0 m (pc + 1) ls rest)) : W p l e R s m args below meth c H locs cells slots Q (F0 m pc ls (.int x :: .int i :: .ref (o + 9) :: rest)) := o_iast hx hb hK hW hS hA (inBlk_a8 h) hin hdg (fun H1 locs1 hW1 hS1 => kk _ H1 locs1 (sBlk_8 h) (oF.up (by omega) (by omega)) hW1 hS1)
theorem sBlk_9 {G : Gm} {Ω : Om} {o : Nat} {u : Blk} {f : Fn} (h : inBlk G Ω o u) : inBlk G (oU Ω (o + 10) (.inl (G.2.1, 4, .inl f))) o (bs u 10 f) := ⟨(oU_ne (by omega)).trans (inBlk_o (u := u) h), (oU_ne (by omega)).trans (inBlk_a0 (u := u) h), (oU_ne (by omega)).trans (inBlk_a1 (u := u) h), (oU_ne (by omega)).trans (inBlk_a2 (u := u) h), (oU_ne (by omega)).trans (inBlk_a3 (u := u) h), (oU_ne (by omega)).trans (inBlk_a4 (u := u) h), (oU_ne (by omega)).trans (inBlk_a5 (u := u) h), (oU_ne (by omega)).trans (inBlk_a6 (u := u) h), (oU_ne (by omega)).trans (inBlk_a7 (u := u) h), (oU_ne (by omega)).trans (inBlk_a8 (u := u) h), oU_self, (oU_ne (by omega)).trans (inBlk_a10 (u := u) h), (oU_ne (by omega)).trans (inBlk_a11 (u := u) h)⟩
theorem wBlk_9 {p : Program} {l : Launch} {e : Env} {R : Room} {s : State} {m : MethodId} {args : Array Value} {below : List Frame} {meth : Method} {c : Code} {H : Heap} {locs : List Loc} {cells slots : Nat} {Q : State → Prop} {cc : ByteArray} {pc : Nat} {ls : Array Slot} {rest : List Value} {G : Gm} {A A0 : Nat → Prop} {Ω : Om} {H0 : Heap} {o : Nat} {u : Blk} (hx : p.tables.exec = Jvm.exec) (hb : c.code = cc) (hK : oK G s) (hW : oW G A Ω H) (hS : va_S A0 H0 H locs) (hA : ∀ q, A q → A0 q) (h : inBlk G Ω o u) {i x : Int32} (hin : vp_in i 4) (hdg : decode cc pc = .ok (.iastore, 1)) (kk : ∀ (Ω1 : Om) (H1 : Heap) (locs1 : List Loc), inBlk G Ω1 o (bs u 10 (upd (u 10) i.toNatClampNeg x)) → oF Ω Ω1 o 13 → oW G A Ω1 H1 → va_S A0 H0 H1 locs1 → W p l e R s m args below meth c H1 locs1 cells slots Q (F0 m (pc + 1) ls rest)) : W p l e R s m args below meth c H locs cells slots Q (F0 m pc ls (.int x :: .int i :: .ref (o + 10) :: rest)) := o_iast hx hb hK hW hS hA (inBlk_a9 h) hin hdg (fun H1 locs1 hW1 hS1 => kk _ H1 locs1 (sBlk_9 h) (oF.up (by omega) (by omega)) hW1 hS1)
theorem sBlk_10 {G : Gm} {Ω : Om} {o : Nat} {u : Blk} {f : Fn} (h : inBlk G Ω o u) : inBlk G (oU Ω (o + 11) (.inl (G.2.1, 4, .inl f))) o (bs u 11 f) := ⟨(oU_ne (by omega)).trans (inBlk_o (u := u) h), (oU_ne (by omega)).trans (inBlk_a0 (u := u) h), (oU_ne (by omega)).trans (inBlk_a1 (u := u) h), (oU_ne (by omega)).trans (inBlk_a2 (u := u) h), (oU_ne (by omega)).trans (inBlk_a3 (u := u) h), (oU_ne (by omega)).trans (inBlk_a4 (u := u) h), (oU_ne (by omega)).trans (inBlk_a5 (u := u) h), (oU_ne (by omega)).trans (inBlk_a6 (u := u) h), (oU_ne (by omega)).trans (inBlk_a7 (u := u) h), (oU_ne (by omega)).trans (inBlk_a8 (u := u) h), (oU_ne (by omega)).trans (inBlk_a9 (u := u) h), oU_self, (oU_ne (by omega)).trans (inBlk_a11 (u := u) h)⟩
theorem wBlk_10 {p : Program} {l : Launch} {e : Env} {R : Room} {s : State} {m : MethodId} {args : Array Value} {below : List Frame} {meth : Method} {c : Code} {H : Heap} {locs : List Loc} {cells slots : Nat} {Q : State → Prop} {cc : ByteArray} {pc : Nat} {ls : Array Slot} {rest : List Value} {G : Gm} {A A0 : Nat → Prop} {Ω : Om} {H0 : Heap} {o : Nat} {u : Blk} (hx : p.tables.exec = Jvm.exec) (hb : c.code = cc) (hK : oK G s) (hW : oW G A Ω H) (hS : va_S A0 H0 H locs) (hA : ∀ q, A q → A0 q) (h : inBlk G Ω o u) {i x : Int32} (hin : vp_in i 4) (hdg : decode cc pc = .ok (.iastore, 1)) (kk : ∀ (Ω1 : Om) (H1 : Heap) (locs1 : List Loc), inBlk G Ω1 o (bs u 11 (upd (u 11) i.toNatClampNeg x)) → oF Ω Ω1 o 13 → oW G A Ω1 H1 → va_S A0 H0 H1 locs1 → W p l e R s m args below meth c H1 locs1 cells slots Q (F0 m (pc + 1) ls rest)) : W p l e R s m args below meth c H locs cells slots Q (F0 m pc ls (.int x :: .int i :: .ref (o + 11) :: rest)) := o_iast hx hb hK hW hS hA (inBlk_a10 h) hin hdg (fun H1 locs1 hW1 hS1 => kk _ H1 locs1 (sBlk_10 h) (oF.up (by omega) (by omega)) hW1 hS1)
theorem sBlk_11 {G : Gm} {Ω : Om} {o : Nat} {u : Blk} {f : Fn} (h : inBlk G Ω o u) : inBlk G (oU Ω (o + 12) (.inl (G.2.1, 4, .inl f))) o (bs u 12 f) := ⟨(oU_ne (by omega)).trans (inBlk_o (u := u) h), (oU_ne (by omega)).trans (inBlk_a0 (u := u) h), (oU_ne (by omega)).trans (inBlk_a1 (u := u) h), (oU_ne (by omega)).trans (inBlk_a2 (u := u) h), (oU_ne (by omega)).trans (inBlk_a3 (u := u) h), (oU_ne (by omega)).trans (inBlk_a4 (u := u) h), (oU_ne (by omega)).trans (inBlk_a5 (u := u) h), (oU_ne (by omega)).trans (inBlk_a6 (u := u) h), (oU_ne (by omega)).trans (inBlk_a7 (u := u) h), (oU_ne (by omega)).trans (inBlk_a8 (u := u) h), (oU_ne (by omega)).trans (inBlk_a9 (u := u) h), (oU_ne (by omega)).trans (inBlk_a10 (u := u) h), oU_self⟩
theorem wBlk_11 {p : Program} {l : Launch} {e : Env} {R : Room} {s : State} {m : MethodId} {args : Array Value} {below : List Frame} {meth : Method} {c : Code} {H : Heap} {locs : List Loc} {cells slots : Nat} {Q : State → Prop} {cc : ByteArray} {pc : Nat} {ls : Array Slot} {rest : List Value} {G : Gm} {A A0 : Nat → Prop} {Ω : Om} {H0 : Heap} {o : Nat} {u : Blk} (hx : p.tables.exec = Jvm.exec) (hb : c.code = cc) (hK : oK G s) (hW : oW G A Ω H) (hS : va_S A0 H0 H locs) (hA : ∀ q, A q → A0 q) (h : inBlk G Ω o u) {i x : Int32} (hin : vp_in i 4) (hdg : decode cc pc = .ok (.iastore, 1)) (kk : ∀ (Ω1 : Om) (H1 : Heap) (locs1 : List Loc), inBlk G Ω1 o (bs u 12 (upd (u 12) i.toNatClampNeg x)) → oF Ω Ω1 o 13 → oW G A Ω1 H1 → va_S A0 H0 H1 locs1 → W p l e R s m args below meth c H1 locs1 cells slots Q (F0 m (pc + 1) ls rest)) : W p l e R s m args below meth c H locs cells slots Q (F0 m pc ls (.int x :: .int i :: .ref (o + 12) :: rest)) := o_iast hx hb hK hW hS hA (inBlk_a11 h) hin hdg (fun H1 locs1 hW1 hS1 => kk _ H1 locs1 (sBlk_11 h) (oF.up (by omega) (by omega)) hW1 hS1)
theorem vBlk_0 {p : Program} {l : Launch} {e : Env} {R : Room} {s : State} {m : MethodId} {args : Array Value} {below : List Frame} {meth : Method} {c : Code} {H : Heap} {locs : List Loc} {cells slots : Nat} {Q : State → Prop} {cc : ByteArray} {pc : Nat} {ls : Array Slot} {rest : List Value} {G : Gm} {A A0 : Nat → Prop} {Ω : Om} {H0 : Heap} {o : Nat} {u : Blk} (hx : p.tables.exec = Jvm.exec) (hb : c.code = cc) (hts : ∀ w ∈ gt, w.before args s = true) {own : String} {index : Nat} (hown : s.vm.findClass own = some m.cls) (hK : oK G s) (hW : oW G A Ω H) (hS : va_S A0 H0 H locs) (hA : ∀ q, A q → A0 q) (h : inBlk G Ω o u) {x : Int32} (hlink : Cond.fieldLink own index (TX0 0).1 (TX0 0).2.1 (TX0 0).2.2.1 ∈ gt) (hdg : decode cc pc = .ok (.putfield index, 3)) (kk : ∀ (Ω1 : Om) (H1 : Heap) (locs1 : List Loc), inBlk G Ω1 o (bs u 0 (upd (u 0) 0 x)) → oF Ω Ω1 o 13 → oW G A Ω1 H1 → va_S A0 H0 H1 locs1 → W p l e R s m args below meth c H1 locs1 cells slots Q (F0 m (pc + 3) ls rest)) : W p l e R s m args below meth c H locs cells slots Q (F0 m pc ls (.int x :: .ref o :: rest)) := o_put hx hb hts hown hK hW hS hA (inBlk_o h) rfl ig0 tyX0 tyX0_ok nmX0 0 (by decide) hlink rfl (ty := .int) (by decide +kernel) rfl rfl (Nat.le_of_ble_eq_true rfl) hdg (fun H1 locs1 hW1 hS1 => kk _ H1 locs1 (show inBlk G _ o (bs u 0 (upd (u 0) 0 x)) from ⟨oU_self, (oU_ne (by omega)).trans (inBlk_a0 (u := u) h), (oU_ne (by omega)).trans (inBlk_a1 (u := u) h), (oU_ne (by omega)).trans (inBlk_a2 (u := u) h), (oU_ne (by omega)).trans (inBlk_a3 (u := u) h), (oU_ne (by omega)).trans (inBlk_a4 (u := u) h), (oU_ne (by omega)).trans (inBlk_a5 (u := u) h), (oU_ne (by omega)).trans (inBlk_a6 (u := u) h), (oU_ne (by omega)).trans (inBlk_a7 (u := u) h), (oU_ne (by omega)).trans (inBlk_a8 (u := u) h), (oU_ne (by omega)).trans (inBlk_a9 (u := u) h), (oU_ne (by omega)).trans (inBlk_a10 (u := u) h), (oU_ne (by omega)).trans (inBlk_a11 (u := u) h)⟩) (oF.up (by omega) (by omega)) hW1 hS1)
theorem vBlk_1 {p : Program} {l : Launch} {e : Env} {R : Room} {s : State} {m : MethodId} {args : Array Value} {below : List Frame} {meth : Method} {c : Code} {H : Heap} {locs : List Loc} {cells slots : Nat} {Q : State → Prop} {cc : ByteArray} {pc : Nat} {ls : Array Slot} {rest : List Value} {G : Gm} {A A0 : Nat → Prop} {Ω : Om} {H0 : Heap} {o : Nat} {u : Blk} (hx : p.tables.exec = Jvm.exec) (hb : c.code = cc) (hts : ∀ w ∈ gt, w.before args s = true) {own : String} {index : Nat} (hown : s.vm.findClass own = some m.cls) (hK : oK G s) (hW : oW G A Ω H) (hS : va_S A0 H0 H locs) (hA : ∀ q, A q → A0 q) (h : inBlk G Ω o u) {x : Int32} (hlink : Cond.fieldLink own index (TX0 1).1 (TX0 1).2.1 (TX0 1).2.2.1 ∈ gt) (hdg : decode cc pc = .ok (.putfield index, 3)) (kk : ∀ (Ω1 : Om) (H1 : Heap) (locs1 : List Loc), inBlk G Ω1 o (bs u 0 (upd (u 0) 1 x)) → oF Ω Ω1 o 13 → oW G A Ω1 H1 → va_S A0 H0 H1 locs1 → W p l e R s m args below meth c H1 locs1 cells slots Q (F0 m (pc + 3) ls rest)) : W p l e R s m args below meth c H locs cells slots Q (F0 m pc ls (.int x :: .ref o :: rest)) := o_put hx hb hts hown hK hW hS hA (inBlk_o h) rfl ig0 tyX0 tyX0_ok nmX0 1 (by decide) hlink rfl (ty := .int) (by decide +kernel) rfl rfl (Nat.le_of_ble_eq_true rfl) hdg (fun H1 locs1 hW1 hS1 => kk _ H1 locs1 (show inBlk G _ o (bs u 0 (upd (u 0) 1 x)) from ⟨oU_self, (oU_ne (by omega)).trans (inBlk_a0 (u := u) h), (oU_ne (by omega)).trans (inBlk_a1 (u := u) h), (oU_ne (by omega)).trans (inBlk_a2 (u := u) h), (oU_ne (by omega)).trans (inBlk_a3 (u := u) h), (oU_ne (by omega)).trans (inBlk_a4 (u := u) h), (oU_ne (by omega)).trans (inBlk_a5 (u := u) h), (oU_ne (by omega)).trans (inBlk_a6 (u := u) h), (oU_ne (by omega)).trans (inBlk_a7 (u := u) h), (oU_ne (by omega)).trans (inBlk_a8 (u := u) h), (oU_ne (by omega)).trans (inBlk_a9 (u := u) h), (oU_ne (by omega)).trans (inBlk_a10 (u := u) h), (oU_ne (by omega)).trans (inBlk_a11 (u := u) h)⟩) (oF.up (by omega) (by omega)) hW1 hS1)
theorem vBlk_2 {p : Program} {l : Launch} {e : Env} {R : Room} {s : State} {m : MethodId} {args : Array Value} {below : List Frame} {meth : Method} {c : Code} {H : Heap} {locs : List Loc} {cells slots : Nat} {Q : State → Prop} {cc : ByteArray} {pc : Nat} {ls : Array Slot} {rest : List Value} {G : Gm} {A A0 : Nat → Prop} {Ω : Om} {H0 : Heap} {o : Nat} {u : Blk} (hx : p.tables.exec = Jvm.exec) (hb : c.code = cc) (hts : ∀ w ∈ gt, w.before args s = true) {own : String} {index : Nat} (hown : s.vm.findClass own = some m.cls) (hK : oK G s) (hW : oW G A Ω H) (hS : va_S A0 H0 H locs) (hA : ∀ q, A q → A0 q) (h : inBlk G Ω o u) {x : Int32} (hlink : Cond.fieldLink own index (TX0 2).1 (TX0 2).2.1 (TX0 2).2.2.1 ∈ gt) (hdg : decode cc pc = .ok (.putfield index, 3)) (kk : ∀ (Ω1 : Om) (H1 : Heap) (locs1 : List Loc), inBlk G Ω1 o (bs u 0 (upd (u 0) 2 x)) → oF Ω Ω1 o 13 → oW G A Ω1 H1 → va_S A0 H0 H1 locs1 → W p l e R s m args below meth c H1 locs1 cells slots Q (F0 m (pc + 3) ls rest)) : W p l e R s m args below meth c H locs cells slots Q (F0 m pc ls (.int x :: .ref o :: rest)) := o_put hx hb hts hown hK hW hS hA (inBlk_o h) rfl ig0 tyX0 tyX0_ok nmX0 2 (by decide) hlink rfl (ty := .int) (by decide +kernel) rfl rfl (Nat.le_of_ble_eq_true rfl) hdg (fun H1 locs1 hW1 hS1 => kk _ H1 locs1 (show inBlk G _ o (bs u 0 (upd (u 0) 2 x)) from ⟨oU_self, (oU_ne (by omega)).trans (inBlk_a0 (u := u) h), (oU_ne (by omega)).trans (inBlk_a1 (u := u) h), (oU_ne (by omega)).trans (inBlk_a2 (u := u) h), (oU_ne (by omega)).trans (inBlk_a3 (u := u) h), (oU_ne (by omega)).trans (inBlk_a4 (u := u) h), (oU_ne (by omega)).trans (inBlk_a5 (u := u) h), (oU_ne (by omega)).trans (inBlk_a6 (u := u) h), (oU_ne (by omega)).trans (inBlk_a7 (u := u) h), (oU_ne (by omega)).trans (inBlk_a8 (u := u) h), (oU_ne (by omega)).trans (inBlk_a9 (u := u) h), (oU_ne (by omega)).trans (inBlk_a10 (u := u) h), (oU_ne (by omega)).trans (inBlk_a11 (u := u) h)⟩) (oF.up (by omega) (by omega)) hW1 hS1)
def inImH (G : Gm) (Ω : Om) (o : Nat) (c0 : Fn) : Prop := Ω o = some (.inl (G.2.2.1, 2, .inl c0))
theorem inImH_a0 {G : Gm} {Ω : Om} {o : Nat} {c0 : Fn} (h : inImH G Ω o c0) : Ω o = some (.inl (G.2.2.1, 2, .inl c0)) := h
theorem inImH.keep {G : Gm} {Ω : Om} {o : Nat} {c0 : Fn} {Ω1 : Om} (h : inImH G Ω o c0) (hq : ∀ q : Nat, o ≤ q → q < o + 1 → Ω1 q = Ω q) : inImH G Ω1 o c0 := (hq _ (by omega) (by omega)).trans (inImH_a0 h)
theorem sImH_0 {G : Gm} {Ω : Om} {o : Nat} {c0 : Fn} {f : Fn} (h : inImH G Ω o c0) : inImH G (oU Ω o (.inl (G.2.2.1, 2, .inl f))) o f := oU_self
theorem wImH_0 {p : Program} {l : Launch} {e : Env} {R : Room} {s : State} {m : MethodId} {args : Array Value} {below : List Frame} {meth : Method} {c : Code} {H : Heap} {locs : List Loc} {cells slots : Nat} {Q : State → Prop} {cc : ByteArray} {pc : Nat} {ls : Array Slot} {rest : List Value} {G : Gm} {A A0 : Nat → Prop} {Ω : Om} {H0 : Heap} {o : Nat} {c0 : Fn} (hx : p.tables.exec = Jvm.exec) (hb : c.code = cc) (hK : oK G s) (hW : oW G A Ω H) (hS : va_S A0 H0 H locs) (hA : ∀ q, A q → A0 q) (h : inImH G Ω o c0) {i x : Int32} (hin : vp_in i 2) (hdg : decode cc pc = .ok (.bastore, 1)) (kk : ∀ (Ω1 : Om) (H1 : Heap) (locs1 : List Loc), inImH G Ω1 o (upd c0 i.toNatClampNeg (vp_nar .boolean x)) → oF Ω Ω1 o 1 → oW G A Ω1 H1 → va_S A0 H0 H1 locs1 → W p l e R s m args below meth c H1 locs1 cells slots Q (F0 m (pc + 1) ls rest)) : W p l e R s m args below meth c H locs cells slots Q (F0 m pc ls (.int x :: .int i :: .ref o :: rest)) := o_zast hx hb hK hW hS hA (inImH_a0 h) hin hdg (fun H1 locs1 hW1 hS1 => kk _ H1 locs1 (sImH_0 h) (oF.up (by omega) (by omega)) hW1 hS1)
theorem wcDev_3 {p : Program} {l : Launch} {e : Env} {R : Room} {s : State} {m : MethodId} {args : Array Value} {below : List Frame} {meth : Method} {c : Code} {H : Heap} {locs : List Loc} {cells slots : Nat} {Q : State → Prop} {cc : ByteArray} {pc : Nat} {ls : Array Slot} {rest : List Value} {G : Gm} {A A0 : Nat → Prop} {Ω : Om} {H0 : Heap} {o a0 : Nat} {c0 : Fn} {c1 : Fn} {c2 : Fn} {c3 : Fn} (hx : p.tables.exec = Jvm.exec) (hb : c.code = cc) (hml : c.maxLocals = ls.size) {own : String} {index n0 : Nat} (hown : s.vm.findClass own = some m.cls) (hts : ∀ w ∈ gt, w.before args s = true) (hlink : Cond.methodLink own index arraycopyName ∈ gt) (hK : oK G s) (hW : oW G A Ω H) (hS : va_S A0 H0 H locs) (hA : ∀ q, A q → A0 q) {f : Fn} (ha0 : Ω a0 = some (.inl (G.2.1, n0, .inl f))) (hn0 : 12 ≤ n0) (h : inDev G Ω o c0 c1 c2 c3) (hframes : 1 ≤ R.frames) (hlocals : (rest.map fun v => v.category).sum + (nativeFrameWords "java/lang/System" "arraycopy" 5 + 11) ≤ R.locals) (hdg : decode cc pc = .ok (.invokestatic index, 3)) (kk : ∀ (Ω1 : Om) (H1 : Heap) (locs1 : List Loc), inDev G Ω1 o c0 c1 c2 (va_cpy f c3 0 0 12) → oF Ω Ω1 o 5 → oW G A Ω1 H1 → va_S A0 H0 H1 locs1 → W p l e R s m args below meth c H1 locs1 cells slots Q (F0 m (pc + 3) ls rest)) : W p l e R s m args below meth c H locs cells slots Q (F0 m pc ls (.int (12 : Int32) :: .int (0 : Int32) :: .ref (o + 4) :: .int (0 : Int32) :: .ref a0 :: rest)) := o_copy hx hb hml hown hts hlink ini_J10 hK hW hS hA ha0 (inDev_a3 h) (by decide) (by decide) (by decide) (show 0 + 12 ≤ n0 by omega) (show 0 + 12 ≤ 12 by omega) hframes hlocals hdg (fun H1 locs1 hW1 hS1 => kk _ H1 locs1 (sDev_3 h) (oF.up (by omega) (by omega)) hW1 hS1)
end
section
/-! numbers (fb_ rows out of the kit's COUNTS), what holds of a block's rows -/
theorem fb_rng (x : Int32) : -2147483648 ≤ x.toInt ∧ x.toInt < 2147483648 := ⟨by have := Int32.le_toInt x; omega, by have := Int32.toInt_lt x; omega⟩
theorem fb_bmod {z : Int} (h1 : -2147483648 ≤ z) (h2 : z < 2147483648) : z.bmod (2 ^ 32) = z := by
  rw [Int.bmod_eq_of_le] <;> omega
theorem fb_addI {x y : Int32} (h1 : -2147483648 ≤ x.toInt + y.toInt) (h2 : x.toInt + y.toInt < 2147483648) : (x + y).toInt = x.toInt + y.toInt := by
  rw [Int32.toInt_add, fb_bmod h1 h2]
theorem fb_subI {x y : Int32} (h1 : -2147483648 ≤ x.toInt - y.toInt) (h2 : x.toInt - y.toInt < 2147483648) : (x - y).toInt = x.toInt - y.toInt := by
  rw [Int32.toInt_sub, fb_bmod h1 h2]
theorem fb_mulI {x y : Int32} (h1 : -2147483648 ≤ x.toInt * y.toInt) (h2 : x.toInt * y.toInt < 2147483648) : (x * y).toInt = x.toInt * y.toInt := by
  rw [Int32.toInt_mul, fb_bmod h1 h2]
theorem rg_mul {x c : Int32} {n : Int} (hc : c.toInt = n) (h1 : -2147483648 ≤ x.toInt * n) (h2 : x.toInt * n < 2147483648) : (x * c).toInt = x.toInt * n := by
  subst hc; exact fb_mulI h1 h2
theorem rg_mul2 {x c : Int32} {n : Int} (hc : c.toInt = n) (h1 : -2147483648 ≤ n * x.toInt) (h2 : n * x.toInt < 2147483648) : (c * x).toInt = n * x.toInt := by
  subst hc; exact fb_mulI h1 h2
theorem rlt {x y : Int32} (h : x < y) : x.toInt < y.toInt := Int32.lt_iff_toInt_lt.mp h
theorem rle {x y : Int32} (h : x ≤ y) : x.toInt ≤ y.toInt := Int32.le_iff_toInt_le.mp h
theorem rnlt {x y : Int32} (h : ¬ x < y) : y.toInt ≤ x.toInt := by
  have := mt Int32.lt_iff_toInt_lt.mpr h
  omega
theorem rnle {x y : Int32} (h : ¬ x ≤ y) : y.toInt < x.toInt := by
  have := mt Int32.le_iff_toInt_le.mpr h
  omega
theorem rne {x y : Int32} (h : ¬ x = y) : x.toInt ≠ y.toInt := fun q => h (Int32.toInt_inj.mp q)
theorem nb01 {v : Int32} (h : v = 0 ∨ v = 1) : narrow .boolean (.int v) = .int v := by rcases h with rfl | rfl <;> rfl
def BlkInv (u : Blk) : Prop := (0 ≤ (u 0 0).toInt ∧ (u 0 0).toInt ≤ 6) ∧ (0 ≤ (u 0 1).toInt ∧ (u 0 1).toInt ≤ 12) ∧ (0 ≤ (u 0 2).toInt ∧ (u 0 2).toInt ≤ 4) ∧ (∀ k, 0 ≤ (u 4 k).toInt ∧ (u 4 k).toInt < 6) ∧ (∀ k, 0 ≤ (u 11 k).toInt ∧ (u 11 k).toInt < 6)
theorem BI_regs {u : Blk} (h : BlkInv u) : 0 ≤ (u 0 0).toInt ∧ (u 0 0).toInt ≤ 6 := h.1
theorem BI_flds {u : Blk} (h : BlkInv u) : 0 ≤ (u 0 1).toInt ∧ (u 0 1).toInt ≤ 12 := h.2.1
theorem BI_als {u : Blk} (h : BlkInv u) : 0 ≤ (u 0 2).toInt ∧ (u 0 2).toInt ≤ 4 := h.2.2.1
theorem BI_owner {u : Blk} (h : BlkInv u) (k : Nat) : 0 ≤ (u 4 k).toInt ∧ (u 4 k).toInt < 6 := h.2.2.2.1 k
theorem BI_areg {u : Blk} (h : BlkInv u) (k : Nat) : 0 ≤ (u 11 k).toInt ∧ (u 11 k).toInt < 6 := h.2.2.2.2 k
end
section
/-! twin functions, by program -/
def f_X8_isWithin (x0 : Int32) (x1 : Int32) : Int32 := 
  if x0 < 0 then (0 : Int32)
  else 
   if x1 ≤ x0 then (0 : Int32)
   else (1 : Int32)
def f_X6_append (p0_0 : Fn) (p0_1 : Int32) (x1 : Int32) : Fn × Int32 := 
  if (160 : Int32) ≤ p0_1 then (p0_0, p0_1)
  else ((upd p0_0 p0_1.toNatClampNeg x1), (p0_1 + (1 : Int32)))
def f_X1_valueOf (p0_0 : Fn) (p1_0 : Blk) (x2 : Int32) : Int32 := (((p0_0 ((p1_0 4) x2.toNatClampNeg).toNatClampNeg) &&& ((p1_0 8) x2.toNatClampNeg)) >>> (((p1_0 6) x2.toNatClampNeg) &&& 31))
def f_X1_isLocked (p0_0 : Fn) (p1_0 : Blk) (x2 : Int32) : Int32 := 
  if (f_X8_isWithin ((p1_0 2) x2.toNatClampNeg) (p1_0 0 1)) = 0 then (0 : Int32)
  else 
   if (f_X1_valueOf p0_0 p1_0 ((p1_0 2) x2.toNatClampNeg)) = 0 then (0 : Int32)
   else (1 : Int32)
def f_X0_registerAt_L2 (p0_0 : Blk) (x1 : Int32) : Nat → Int32 → Int32
  | 0, _ => 0
  | n + 1, x2 => 
    if (p0_0 0 0) ≤ x2 then (-9 : Int32)
    else 
     if ((p0_0 1) x2.toNatClampNeg) = x1 then x2
     else ((f_X0_registerAt_L2 p0_0 x1 n) (x2 + (1 : Int32)))
def f_X0_registerAt (p0_0 : Blk) (x1 : Int32) : Int32 := (f_X0_registerAt_L2 p0_0 x1 4000 (0 : Int32))
def f_X0_aliasAt_L15 (p0_0 : Blk) (x1 : Int32) : Nat → Int32 → Int32
  | 0, _ => 0
  | n + 1, x2 => 
    if (p0_0 0 2) ≤ x2 then (-9 : Int32)
    else 
     if ((p0_0 10) x2.toNatClampNeg) = x1 then x2
     else ((f_X0_aliasAt_L15 p0_0 x1 n) (x2 + (1 : Int32)))
def f_X0_aliasAt (p0_0 : Blk) (x1 : Int32) : Int32 := 
  if (f_X0_registerAt p0_0 x1) = (-9 : Int32) then (f_X0_aliasAt_L15 p0_0 x1 4000 (0 : Int32))
  else (-9 : Int32)
def f_X0_registerBehind (p0_0 : Blk) (x1 : Int32) : Int32 := 
  if (f_X0_aliasAt p0_0 x1) = (-9 : Int32) then (f_X0_registerAt p0_0 x1)
  else ((p0_0 11) (f_X0_aliasAt p0_0 x1).toNatClampNeg)
def f_X1_shown_L10 (p0_3 : Fn) (p1_0 : Blk) (x2 : Int32) : Nat → Int32 → Int32 → Int32
  | 0, _, _ => 0
  | n + 1, x3, x4 => 
    if (p1_0 0 1) ≤ x4 then x3
    else 
     if ((p1_0 4) x4.toNatClampNeg) = x2 then 
      if (p0_3 x4.toNatClampNeg) = (2 : Int32) then ((f_X1_shown_L10 p0_3 p1_0 x2 n) (x3 &&& (((p1_0 8) x4.toNatClampNeg) ^^^ (-1 : Int32))) (x4 + (1 : Int32)))
      else ((f_X1_shown_L10 p0_3 p1_0 x2 n) x3 (x4 + (1 : Int32)))
     else ((f_X1_shown_L10 p0_3 p1_0 x2 n) x3 (x4 + (1 : Int32)))
def f_X1_shown (p0_0 : Fn) (p0_3 : Fn) (p1_0 : Blk) (x2 : Int32) : Int32 := (f_X1_shown_L10 p0_3 p1_0 x2 4000 (p0_0 x2.toNatClampNeg) (0 : Int32))
def f_X1_look (p0_0 : Fn) (p0_3 : Fn) (p1_0 : Blk) (x2 : Int32) : Int32 := 
  if (f_X0_registerBehind p1_0 x2) = (-9 : Int32) then (0 : Int32)
  else (f_X1_shown p0_0 p0_3 p1_0 (f_X0_registerBehind p1_0 x2))
def f_X1_mend (p0_3 : Fn) (p1_0 : Blk) : Fn := (va_cpy (p1_0 5) p0_3 0 0 12)
def f_X1_putBits (p0_0 : Fn) (p1_0 : Blk) (x2 : Int32) (x3 : Int32) : Fn := (upd p0_0 ((p1_0 4) x2.toNatClampNeg).toNatClampNeg (((p0_0 ((p1_0 4) x2.toNatClampNeg).toNatClampNeg) &&& (((p1_0 8) x2.toNatClampNeg) ^^^ (-1 : Int32))) ||| (x3 &&& ((p1_0 8) x2.toNatClampNeg))))
def f_X1_putValue (p0_0 : Fn) (p1_0 : Blk) (x2 : Int32) (x3 : Int32) : Fn := (f_X1_putBits p0_0 p1_0 x2 (x3 <<< (((p1_0 6) x2.toNatClampNeg) &&& 31)))
def f_X1_restart_L38 (p0_1 : Fn) (p0_2 : Fn) (p1_0 : Blk) : Nat → Int32 → Fn → Fn × Fn × Fn
  | 0, _, _ => ((fun _ => 0), (fun _ => 0), (fun _ => 0))
  | n + 1, x2, p0_0 => 
    if (p1_0 0 1) ≤ x2 then (p0_0, p0_1, p0_2)
    else ((f_X1_restart_L38 p0_1 p0_2 p1_0 n) (x2 + (1 : Int32)) (f_X1_putValue p0_0 p1_0 x2 ((p1_0 9) x2.toNatClampNeg)))
def f_X1_restart_L2 (p1_0 : Blk) : Nat → Int32 → Fn → Fn → Fn → Fn × Fn × Fn
  | 0, _, _, _, _ => ((fun _ => 0), (fun _ => 0), (fun _ => 0))
  | n + 1, x2, p0_0, p0_1, p0_2 => 
    if (6 : Int32) ≤ x2 then (f_X1_restart_L38 p0_1 p0_2 p1_0 4000 (0 : Int32) p0_0)
    else ((f_X1_restart_L2 p1_0 n) (x2 + (1 : Int32)) (upd p0_0 x2.toNatClampNeg (0 : Int32)) (upd p0_1 x2.toNatClampNeg (-9 : Int32)) (upd p0_2 x2.toNatClampNeg (vp_nar .boolean (0 : Int32))))
def f_X1_restart (p0_0 : Fn) (p0_1 : Fn) (p0_2 : Fn) (p1_0 : Blk) : Fn × Fn × Fn := (f_X1_restart_L2 p1_0 4000 (0 : Int32) p0_0 p0_1 p0_2)
def f_X1_bitsAfter (p0_0 : Fn) (p0_2 : Fn) (x1 : Int32) (x2 : Int32) (x3 : Int32) : Int32 := 
  if x3 = (0 : Int32) then x2
  else 
   if x3 = (1 : Int32) then (p0_0 x1.toNatClampNeg)
   else 
    if x3 = (2 : Int32) then x2
    else 
     if x3 = (3 : Int32) then ((p0_0 x1.toNatClampNeg) &&& (x2 ^^^ (-1 : Int32)))
     else 
      if x3 = (4 : Int32) then ((p0_0 x1.toNatClampNeg) ||| x2)
      else 
       if x3 = (5 : Int32) then ((p0_0 x1.toNatClampNeg) ^^^ x2)
       else 
        if x3 = (6 : Int32) then (p0_0 x1.toNatClampNeg)
        else 
         if x3 = (7 : Int32) then 
          if (p0_2 x1.toNatClampNeg) = 0 then x2
          else (p0_0 x1.toNatClampNeg)
         else (p0_0 x1.toNatClampNeg)
def f_X1_letInByAlias_L3 (p0_2 : Fn) (p0_3 : Fn) (p1_0 : Blk) (x2 : Int32) (x3 : Int32) (x4 : Int32) : Nat → Int32 → Fn → Fn
  | 0, _, _ => (fun _ => 0)
  | n + 1, x5, p0_0 => 
    if (p1_0 0 1) ≤ x5 then p0_0
    else 
     if ((p1_0 4) x5.toNatClampNeg) = x2 then 
      if (p0_3 x5.toNatClampNeg) = (1 : Int32) then ((f_X1_letInByAlias_L3 p0_2 p0_3 p1_0 x2 x3 x4 n) (x5 + (1 : Int32)) p0_0)
      else 
       if (p0_3 x5.toNatClampNeg) = (6 : Int32) then ((f_X1_letInByAlias_L3 p0_2 p0_3 p1_0 x2 x3 x4 n) (x5 + (1 : Int32)) p0_0)
       else ((f_X1_letInByAlias_L3 p0_2 p0_3 p1_0 x2 x3 x4 n) (x5 + (1 : Int32)) (f_X1_putBits p0_0 p1_0 x5 (f_X1_bitsAfter p0_0 p0_2 x2 x3 x4)))
     else ((f_X1_letInByAlias_L3 p0_2 p0_3 p1_0 x2 x3 x4 n) (x5 + (1 : Int32)) p0_0)
def f_X1_letInByAlias (p0_0 : Fn) (p0_2 : Fn) (p0_3 : Fn) (p1_0 : Blk) (x2 : Int32) (x3 : Int32) (x4 : Int32) : Fn := (f_X1_letInByAlias_L3 p0_2 p0_3 p1_0 x2 x3 x4 4000 (0 : Int32) p0_0)
def f_X0_isOpenedBy (p0_0 : Blk) (x1 : Int32) (x2 : Int32) : Int32 := 
  if (f_X8_isWithin ((p0_0 3) x1.toNatClampNeg) (p0_0 0 1)) = 0 then (0 : Int32)
  else 
   if ((p0_0 4) ((p0_0 3) x1.toNatClampNeg).toNatClampNeg) = x2 then (1 : Int32)
   else (0 : Int32)
def f_X1_letIn_L3 (p0_2 : Fn) (p0_3 : Fn) (p1_0 : Blk) (x2 : Int32) (x3 : Int32) : Nat → Int32 → Fn → Fn × Fn
  | 0, _, _ => ((fun _ => 0), (fun _ => 0))
  | n + 1, x4, p0_0 => 
    if (p1_0 0 1) ≤ x4 then (p0_0, (upd p0_2 x2.toNatClampNeg (vp_nar .boolean (1 : Int32))))
    else 
     if ((p1_0 4) x4.toNatClampNeg) = x2 then ((f_X1_letIn_L3 p0_2 p0_3 p1_0 x2 x3 n) (x4 + (1 : Int32)) (f_X1_putBits p0_0 p1_0 x4 (f_X1_bitsAfter p0_0 p0_2 x2 x3 (p0_3 x4.toNatClampNeg))))
     else ((f_X1_letIn_L3 p0_2 p0_3 p1_0 x2 x3 n) (x4 + (1 : Int32)) p0_0)
def f_X1_letIn (p0_0 : Fn) (p0_2 : Fn) (p0_3 : Fn) (p1_0 : Blk) (x2 : Int32) (x3 : Int32) : Fn × Fn := (f_X1_letIn_L3 p0_2 p0_3 p1_0 x2 x3 4000 (0 : Int32) p0_0)
def f_X1_openGates_J80 (p0_1 : Fn) (x4 : Int32) (k3 : Int32 → Fn → Fn → Fn → (Fn × Fn × Fn)) (p0_0 : Fn) (p0_2 : Fn) : Fn × Fn × Fn := (k3 (x4 + (1 : Int32)) p0_0 (upd p0_1 x4.toNatClampNeg (-9 : Int32)) p0_2)
def f_X1_openGates_L3 (p0_3 : Fn) (p1_0 : Blk) (x2 : Int32) (x3 : Int32) : Nat → Int32 → Fn → Fn → Fn → Fn × Fn × Fn
  | 0, _, _, _, _ => ((fun _ => 0), (fun _ => 0), (fun _ => 0))
  | n + 1, x4, p0_0, p0_1, p0_2 => 
    if (p1_0 0 0) ≤ x4 then (p0_0, p0_1, p0_2)
    else 
     if (p0_1 x4.toNatClampNeg) = (-9 : Int32) then ((f_X1_openGates_L3 p0_3 p1_0 x2 x3 n) (x4 + (1 : Int32)) p0_0 p0_1 p0_2)
     else 
      if (f_X0_isOpenedBy p1_0 x4 x2) = 0 then ((f_X1_openGates_L3 p0_3 p1_0 x2 x3 n) (x4 + (1 : Int32)) p0_0 p0_1 p0_2)
      else 
       if ((x3 >>> (((p1_0 6) ((p1_0 3) x4.toNatClampNeg).toNatClampNeg) &&& 31)) &&& (1 : Int32)) = 0 then ((f_X1_openGates_L3 p0_3 p1_0 x2 x3 n) (x4 + (1 : Int32)) p0_0 p0_1 p0_2)
       else 
        if (f_X1_isLocked p0_0 p1_0 x4) = 0 then (f_X1_openGates_J80 p0_1 x4 (f_X1_openGates_L3 p0_3 p1_0 x2 x3 n) ((f_X1_letIn p0_0 p0_2 p0_3 p1_0 x4 (p0_1 x4.toNatClampNeg)).1) ((f_X1_letIn p0_0 p0_2 p0_3 p1_0 x4 (p0_1 x4.toNatClampNeg)).2))
        else (f_X1_openGates_J80 p0_1 x4 (f_X1_openGates_L3 p0_3 p1_0 x2 x3 n) p0_0 p0_2)
def f_X1_openGates (p0_0 : Fn) (p0_1 : Fn) (p0_2 : Fn) (p0_3 : Fn) (p1_0 : Blk) (x2 : Int32) (x3 : Int32) : Fn × Fn × Fn := (f_X1_openGates_L3 p0_3 p1_0 x2 x3 4000 (0 : Int32) p0_0 p0_1 p0_2)
def f_X1_write_C97 (p0_0 : Fn) (p0_1 : Fn) (p0_2 : Fn) : Fn × Fn × Fn := (p0_0, p0_1, p0_2)
def f_X1_write_J89 (p0_1 : Fn) (p0_3 : Fn) (p1_0 : Blk) (x3 : Int32) (x4 : Int32) (p0_0 : Fn) (p0_2 : Fn) : Fn × Fn × Fn := (f_X1_write_C97 ((f_X1_openGates p0_0 p0_1 p0_2 p0_3 p1_0 x4 x3).1) ((f_X1_openGates p0_0 p0_1 p0_2 p0_3 p1_0 x4 x3).2.1) ((f_X1_openGates p0_0 p0_1 p0_2 p0_3 p1_0 x4 x3).2.2))
def f_X1_write_C77 (p0_1 : Fn) (p0_3 : Fn) (p1_0 : Blk) (x3 : Int32) (x4 : Int32) (p0_0 : Fn) (p0_2 : Fn) : Fn × Fn × Fn := (f_X1_write_J89 p0_1 p0_3 p1_0 x3 x4 p0_0 p0_2)
def f_X1_write (p0_0 : Fn) (p0_1 : Fn) (p0_2 : Fn) (p0_3 : Fn) (p1_0 : Blk) (x2 : Int32) (x3 : Int32) : Fn × Fn × Fn := 
  if (f_X0_registerBehind p1_0 x2) = (-9 : Int32) then (p0_0, p0_1, p0_2)
  else 
   if (f_X1_isLocked p0_0 p1_0 (f_X0_registerBehind p1_0 x2)) = 0 then 
    if (f_X0_aliasAt p1_0 x2) = (-9 : Int32) then 
     if ((p1_0 3) (f_X0_registerBehind p1_0 x2).toNatClampNeg) = (-9 : Int32) then (f_X1_write_C77 p0_1 p0_3 p1_0 x3 (f_X0_registerBehind p1_0 x2) ((f_X1_letIn p0_0 p0_2 p0_3 p1_0 (f_X0_registerBehind p1_0 x2) x3).1) ((f_X1_letIn p0_0 p0_2 p0_3 p1_0 (f_X0_registerBehind p1_0 x2) x3).2))
     else (p0_0, (upd p0_1 (f_X0_registerBehind p1_0 x2).toNatClampNeg x3), p0_2)
    else (f_X1_write_J89 p0_1 p0_3 p1_0 x3 (f_X0_registerBehind p1_0 x2) (f_X1_letInByAlias p0_0 p0_2 p0_3 p1_0 (f_X0_registerBehind p1_0 x2) x3 ((p1_0 12) (f_X0_aliasAt p1_0 x2).toNatClampNeg)) p0_2)
   else (p0_0, p0_1, p0_2)
def f_X1_read_L17 (p0_3 : Fn) (p1_0 : Blk) (x3 : Int32) (x4 : Int32) : Nat → Int32 → Fn → Int32 × Fn
  | 0, _, _ => (0, (fun _ => 0))
  | n + 1, x5, p0_0 => 
    if (p1_0 0 1) ≤ x5 then (x3, p0_0)
    else 
     if ((p1_0 4) x5.toNatClampNeg) = x4 then 
      if (p0_3 x5.toNatClampNeg) = (6 : Int32) then ((f_X1_read_L17 p0_3 p1_0 x3 x4 n) (x5 + (1 : Int32)) (f_X1_putBits p0_0 p1_0 x5 (0 : Int32)))
      else ((f_X1_read_L17 p0_3 p1_0 x3 x4 n) (x5 + (1 : Int32)) p0_0)
     else ((f_X1_read_L17 p0_3 p1_0 x3 x4 n) (x5 + (1 : Int32)) p0_0)
def f_X1_read (p0_0 : Fn) (p0_3 : Fn) (p1_0 : Blk) (x2 : Int32) : Int32 × Fn := (f_X1_read_L17 p0_3 p1_0 (f_X1_look p0_0 p0_3 p1_0 x2) (f_X0_registerAt p1_0 x2) 4000 (0 : Int32) p0_0)
def f_X3_agreesWith_C36 (x3 : Int32) (k2 : Int32 → Fn → Fn → Fn → (Int32 × Fn × Fn × Fn)) (p1_0 : Fn) (p1_1 : Fn) (p1_2 : Fn) : Int32 × Fn × Fn × Fn := (k2 (x3 + (1 : Int32)) p1_0 p1_1 p1_2)
def f_X3_agreesWith_C50 (p0_3 : Fn) (p1_1 : Fn) (p1_2 : Fn) (x3 : Int32) (k2 : Int32 → Fn → Fn → Fn → (Int32 × Fn × Fn × Fn)) (s0 : Int32) (p1_0 : Fn) : Int32 × Fn × Fn × Fn := 
    if s0 = (p0_3 x3.toNatClampNeg) then (k2 (x3 + (1 : Int32)) p1_0 p1_1 p1_2)
    else ((0 : Int32), p1_0, p1_1, p1_2)
def f_X3_agreesWith_L2 (p0_0 : Int32) (p0_1 : Fn) (p0_2 : Fn) (p0_3 : Fn) (p1_3 : Fn) (p2_0 : Blk) : Nat → Int32 → Fn → Fn → Fn → Int32 × Fn × Fn × Fn
  | 0, _, _, _, _ => (0, (fun _ => 0), (fun _ => 0), (fun _ => 0))
  | n + 1, x3, p1_0, p1_1, p1_2 => 
    if p0_0 ≤ x3 then ((1 : Int32), p1_0, p1_1, p1_2)
    else 
     if (p0_2 x3.toNatClampNeg) = 0 then (f_X3_agreesWith_C50 p0_3 p1_1 p1_2 x3 (f_X3_agreesWith_L2 p0_0 p0_1 p0_2 p0_3 p1_3 p2_0 n) (f_X1_read p1_0 p1_3 p2_0 (p0_1 x3.toNatClampNeg)).1 ((f_X1_read p1_0 p1_3 p2_0 (p0_1 x3.toNatClampNeg)).2))
     else (f_X3_agreesWith_C36 x3 (f_X3_agreesWith_L2 p0_0 p0_1 p0_2 p0_3 p1_3 p2_0 n) ((f_X1_write p1_0 p1_1 p1_2 p1_3 p2_0 (p0_1 x3.toNatClampNeg) (p0_3 x3.toNatClampNeg)).1) ((f_X1_write p1_0 p1_1 p1_2 p1_3 p2_0 (p0_1 x3.toNatClampNeg) (p0_3 x3.toNatClampNeg)).2.1) ((f_X1_write p1_0 p1_1 p1_2 p1_3 p2_0 (p0_1 x3.toNatClampNeg) (p0_3 x3.toNatClampNeg)).2.2))
def f_X3_agreesWith (p0_0 : Int32) (p0_1 : Fn) (p0_2 : Fn) (p0_3 : Fn) (p1_0 : Fn) (p1_1 : Fn) (p1_2 : Fn) (p1_3 : Fn) (p2_0 : Blk) : Int32 × Fn × Fn × Fn := (f_X3_agreesWith_L2 p0_0 p0_1 p0_2 p0_3 p1_3 p2_0 4000 (0 : Int32) p1_0 p1_1 p1_2)
def f_X0_holdersOf_L33 (p0_0 : Blk) (x1 : Int32) : Nat → Int32 → Int32 → Int32
  | 0, _, _ => 0
  | n + 1, x2, x3 => 
    if (p0_0 0 2) ≤ x3 then x2
    else 
     if ((p0_0 10) x3.toNatClampNeg) = x1 then ((f_X0_holdersOf_L33 p0_0 x1 n) (x2 + (1 : Int32)) (x3 + (1 : Int32)))
     else ((f_X0_holdersOf_L33 p0_0 x1 n) x2 (x3 + (1 : Int32)))
def f_X0_holdersOf_L4 (p0_0 : Blk) (x1 : Int32) : Nat → Int32 → Int32 → Int32
  | 0, _, _ => 0
  | n + 1, x2, x3 => 
    if (p0_0 0 0) ≤ x3 then (f_X0_holdersOf_L33 p0_0 x1 4000 x2 (0 : Int32))
    else 
     if ((p0_0 1) x3.toNatClampNeg) = x1 then ((f_X0_holdersOf_L4 p0_0 x1 n) (x2 + (1 : Int32)) (x3 + (1 : Int32)))
     else ((f_X0_holdersOf_L4 p0_0 x1 n) x2 (x3 + (1 : Int32)))
def f_X0_holdersOf (p0_0 : Blk) (x1 : Int32) : Int32 := (f_X0_holdersOf_L4 p0_0 x1 4000 (0 : Int32) (0 : Int32))
def f_X1_copyFrom_L2 (p0_3 : Fn) (p1_0 : Fn) (p1_1 : Fn) (p1_2 : Fn) (p1_3 : Fn) : Nat → Int32 → Fn → Fn → Fn → Fn × Fn × Fn × Fn
  | 0, _, _, _, _ => ((fun _ => 0), (fun _ => 0), (fun _ => 0), (fun _ => 0))
  | n + 1, x2, p0_0, p0_1, p0_2 => 
    if (6 : Int32) ≤ x2 then (p0_0, p0_1, p0_2, (va_cpy p1_3 p0_3 0 0 12))
    else ((f_X1_copyFrom_L2 p0_3 p1_0 p1_1 p1_2 p1_3 n) (x2 + (1 : Int32)) (upd p0_0 x2.toNatClampNeg (p1_0 x2.toNatClampNeg)) (upd p0_1 x2.toNatClampNeg (p1_1 x2.toNatClampNeg)) (upd p0_2 x2.toNatClampNeg (vp_nar .boolean (p1_2 x2.toNatClampNeg))))
def f_X1_copyFrom (p0_0 : Fn) (p0_1 : Fn) (p0_2 : Fn) (p0_3 : Fn) (p1_0 : Fn) (p1_1 : Fn) (p1_2 : Fn) (p1_3 : Fn) : Fn × Fn × Fn × Fn := (f_X1_copyFrom_L2 p0_3 p1_0 p1_1 p1_2 p1_3 4000 (0 : Int32) p0_0 p0_1 p0_2)
def f_X0_greatestValue (p0_0 : Blk) (x1 : Int32) : Int32 := (((p0_0 8) x1.toNatClampNeg) >>> (((p0_0 6) x1.toNatClampNeg) &&& 31))
def f_X0_canHold (p0_0 : Blk) (x1 : Int32) (x2 : Int32) : Int32 := 
  if (f_X8_isWithin x1 (p0_0 0 1)) = 0 then (0 : Int32)
  else 
   if x2 < 0 then (0 : Int32)
   else 
    if (f_X0_greatestValue p0_0 x1) < x2 then (0 : Int32)
    else (1 : Int32)
def f_X0_canReach (p0_0 : Blk) (x1 : Int32) (x2 : Int32) : Int32 := 
  if (f_X0_registerBehind p0_0 x1) = (-9 : Int32) then (0 : Int32)
  else 
   if (f_X0_registerBehind p0_0 x1) = ((p0_0 4) x2.toNatClampNeg) then (1 : Int32)
   else 
    if (f_X0_isOpenedBy p0_0 ((p0_0 4) x2.toNatClampNeg) (f_X0_registerBehind p0_0 x1)) = 0 then (0 : Int32)
    else (1 : Int32)
def f_X0_isGate_L2 (p0_0 : Blk) (x1 : Int32) : Nat → Int32 → Int32
  | 0, _ => 0
  | n + 1, x2 => 
    if (p0_0 0 0) ≤ x2 then (0 : Int32)
    else 
     if ((p0_0 3) x2.toNatClampNeg) = x1 then (1 : Int32)
     else ((f_X0_isGate_L2 p0_0 x1 n) (x2 + (1 : Int32)))
def f_X0_isGate (p0_0 : Blk) (x1 : Int32) : Int32 := (f_X0_isGate_L2 p0_0 x1 4000 (0 : Int32))
def f_X0_isLock_L2 (p0_0 : Blk) (x1 : Int32) : Nat → Int32 → Int32
  | 0, _ => 0
  | n + 1, x2 => 
    if (p0_0 0 0) ≤ x2 then (0 : Int32)
    else 
     if ((p0_0 2) x2.toNatClampNeg) = x1 then (1 : Int32)
     else ((f_X0_isLock_L2 p0_0 x1 n) (x2 + (1 : Int32)))
def f_X0_isLock (p0_0 : Blk) (x1 : Int32) : Int32 := (f_X0_isLock_L2 p0_0 x1 4000 (0 : Int32))
def f_X0_plainBits_L4 (p0_0 : Blk) (x1 : Int32) : Nat → Int32 → Int32 → Int32
  | 0, _, _ => 0
  | n + 1, x2, x3 => 
    if (p0_0 0 1) ≤ x3 then x2
    else 
     if ((p0_0 4) x3.toNatClampNeg) = x1 then 
      if ((p0_0 5) x3.toNatClampNeg) = 0 then ((f_X0_plainBits_L4 p0_0 x1 n) (x2 ||| ((p0_0 8) x3.toNatClampNeg)) (x3 + (1 : Int32)))
      else ((f_X0_plainBits_L4 p0_0 x1 n) x2 (x3 + (1 : Int32)))
     else ((f_X0_plainBits_L4 p0_0 x1 n) x2 (x3 + (1 : Int32)))
def f_X0_plainBits (p0_0 : Blk) (x1 : Int32) : Int32 := (f_X0_plainBits_L4 p0_0 x1 4000 (0 : Int32) (0 : Int32))
def f_X0_empty (p0_0 : Blk) : Blk := (bs (bs (bs p0_0 0 (upd (p0_0 0) 0 (0 : Int32))) 0 (upd ((bs p0_0 0 (upd (p0_0 0) 0 (0 : Int32))) 0) 1 (0 : Int32))) 0 (upd ((bs (bs p0_0 0 (upd (p0_0 0) 0 (0 : Int32))) 0 (upd ((bs p0_0 0 (upd (p0_0 0) 0 (0 : Int32))) 0) 1 (0 : Int32))) 0) 2 (0 : Int32)))
def f_X0_usedBits_L4 (p0_0 : Blk) (x1 : Int32) : Nat → Int32 → Int32 → Int32
  | 0, _, _ => 0
  | n + 1, x2, x3 => 
    if (p0_0 0 1) ≤ x3 then x2
    else 
     if ((p0_0 4) x3.toNatClampNeg) = x1 then ((f_X0_usedBits_L4 p0_0 x1 n) (x2 ||| ((p0_0 8) x3.toNatClampNeg)) (x3 + (1 : Int32)))
     else ((f_X0_usedBits_L4 p0_0 x1 n) x2 (x3 + (1 : Int32)))
def f_X0_usedBits (p0_0 : Blk) (x1 : Int32) : Int32 := (f_X0_usedBits_L4 p0_0 x1 4000 (0 : Int32) (0 : Int32))
def f_X1_brokenFields_L4 (p0_3 : Fn) (p1_0 : Blk) : Nat → Int32 → Int32 → Int32
  | 0, _, _ => 0
  | n + 1, x2, x3 => 
    if (p1_0 0 1) ≤ x3 then x2
    else 
     if (p0_3 x3.toNatClampNeg) = ((p1_0 5) x3.toNatClampNeg) then ((f_X1_brokenFields_L4 p0_3 p1_0 n) x2 (x3 + (1 : Int32)))
     else ((f_X1_brokenFields_L4 p0_3 p1_0 n) (x2 + (1 : Int32)) (x3 + (1 : Int32)))
def f_X1_brokenFields (p0_3 : Fn) (p1_0 : Blk) : Int32 := (f_X1_brokenFields_L4 p0_3 p1_0 4000 (0 : Int32) (0 : Int32))
def f_X1_learn_L10 (p0_3 : Fn) (p1_0 : Blk) (x3 : Int32) (x4 : Int32) : Nat → Int32 → Fn → Fn
  | 0, _, _ => (fun _ => 0)
  | n + 1, x5, p0_0 => 
    if (p1_0 0 1) ≤ x5 then p0_0
    else 
     if ((p1_0 4) x5.toNatClampNeg) = x4 then 
      if (p0_3 x5.toNatClampNeg) = (2 : Int32) then ((f_X1_learn_L10 p0_3 p1_0 x3 x4 n) (x5 + (1 : Int32)) p0_0)
      else ((f_X1_learn_L10 p0_3 p1_0 x3 x4 n) (x5 + (1 : Int32)) (f_X1_putBits p0_0 p1_0 x5 x3))
     else ((f_X1_learn_L10 p0_3 p1_0 x3 x4 n) (x5 + (1 : Int32)) p0_0)
def f_X1_learn (p0_0 : Fn) (p0_3 : Fn) (p1_0 : Blk) (x2 : Int32) (x3 : Int32) : Fn := (f_X1_learn_L10 p0_3 p1_0 x3 (f_X0_registerBehind p1_0 x2) 4000 (0 : Int32) p0_0)
def f_X3_copyFrom_L10 (p0_0 : Int32) (p1_1 : Fn) (p1_2 : Fn) (p1_3 : Fn) : Nat → Int32 → Fn → Fn → Fn → Int32 × Fn × Fn × Fn
  | 0, _, _, _, _ => (0, (fun _ => 0), (fun _ => 0), (fun _ => 0))
  | n + 1, x2, p0_1, p0_2, p0_3 => 
    if (20 : Int32) ≤ x2 then (p0_0, p0_1, p0_2, p0_3)
    else ((f_X3_copyFrom_L10 p0_0 p1_1 p1_2 p1_3 n) (x2 + (1 : Int32)) (upd p0_1 x2.toNatClampNeg (p1_1 x2.toNatClampNeg)) (upd p0_2 x2.toNatClampNeg (vp_nar .boolean (p1_2 x2.toNatClampNeg))) (upd p0_3 x2.toNatClampNeg (p1_3 x2.toNatClampNeg)))
def f_X3_copyFrom (p0_1 : Fn) (p0_2 : Fn) (p0_3 : Fn) (p1_0 : Int32) (p1_1 : Fn) (p1_2 : Fn) (p1_3 : Fn) : Int32 × Fn × Fn × Fn := (f_X3_copyFrom_L10 p1_0 p1_1 p1_2 p1_3 4000 (0 : Int32) p0_1 p0_2 p0_3)
def f_X3_append (p0_0 : Int32) (p0_1 : Fn) (p0_2 : Fn) (p0_3 : Fn) (x1 : Int32) (x2 : Int32) (x3 : Int32) : Int32 × Fn × Fn × Fn := 
  if p0_0 < (20 : Int32) then ((p0_0 + (1 : Int32)), (upd p0_1 p0_0.toNatClampNeg x1), (upd p0_2 p0_0.toNatClampNeg (vp_nar .boolean x2)), (upd p0_3 p0_0.toNatClampNeg x3))
  else (p0_0, p0_1, p0_2, p0_3)
def f_X6_isLetter (p0_0 : Fn) (x1 : Int32) : Int32 := 
  if (p0_0 x1.toNatClampNeg) < (97 : Int32) then (0 : Int32)
  else 
   if (122 : Int32) < (p0_0 x1.toNatClampNeg) then (0 : Int32)
   else (1 : Int32)
def f_X6_isDigit (p0_0 : Fn) (x1 : Int32) : Int32 := 
  if (p0_0 x1.toNatClampNeg) < (48 : Int32) then (0 : Int32)
  else 
   if (57 : Int32) < (p0_0 x1.toNatClampNeg) then (0 : Int32)
   else (1 : Int32)
def f_X5_copyFrom_C33 (p0d_0 : Fn) (p0d_1 : Fn) (p0d_2 : Fn) (p0d_3 : Fn) (p0m_0 : Fn) (p0m_1 : Fn) (p0m_2 : Fn) (p0m_3 : Fn) (p1_0 : Int32) (p1_1 : Int32) (p0j_0 : Int32) (p0j_1 : Fn) (p0j_2 : Fn) (p0j_3 : Fn) : Int32 × Int32 × Fn × Fn × Fn × Fn × Fn × Fn × Fn × Fn × Int32 × Fn × Fn × Fn := (p1_0, p1_1, p0d_0, p0d_1, p0d_2, p0d_3, p0m_0, p0m_1, p0m_2, p0m_3, p0j_0, p0j_1, p0j_2, p0j_3)
def f_X5_copyFrom_C22 (p0d_0 : Fn) (p0d_1 : Fn) (p0d_2 : Fn) (p0d_3 : Fn) (p0j_1 : Fn) (p0j_2 : Fn) (p0j_3 : Fn) (p1_0 : Int32) (p1_1 : Int32) (p1j_0 : Int32) (p1j_1 : Fn) (p1j_2 : Fn) (p1j_3 : Fn) (p0m_0 : Fn) (p0m_1 : Fn) (p0m_2 : Fn) (p0m_3 : Fn) : Int32 × Int32 × Fn × Fn × Fn × Fn × Fn × Fn × Fn × Fn × Int32 × Fn × Fn × Fn := (f_X5_copyFrom_C33 p0d_0 p0d_1 p0d_2 p0d_3 p0m_0 p0m_1 p0m_2 p0m_3 p1_0 p1_1 ((f_X3_copyFrom p0j_1 p0j_2 p0j_3 p1j_0 p1j_1 p1j_2 p1j_3).1) ((f_X3_copyFrom p0j_1 p0j_2 p0j_3 p1j_0 p1j_1 p1j_2 p1j_3).2.1) ((f_X3_copyFrom p0j_1 p0j_2 p0j_3 p1j_0 p1j_1 p1j_2 p1j_3).2.2.1) ((f_X3_copyFrom p0j_1 p0j_2 p0j_3 p1j_0 p1j_1 p1j_2 p1j_3).2.2.2))
def f_X5_copyFrom_C11 (p0m_0 : Fn) (p0m_1 : Fn) (p0m_2 : Fn) (p0m_3 : Fn) (p0j_1 : Fn) (p0j_2 : Fn) (p0j_3 : Fn) (p1_0 : Int32) (p1_1 : Int32) (p1m_0 : Fn) (p1m_1 : Fn) (p1m_2 : Fn) (p1m_3 : Fn) (p1j_0 : Int32) (p1j_1 : Fn) (p1j_2 : Fn) (p1j_3 : Fn) (p0d_0 : Fn) (p0d_1 : Fn) (p0d_2 : Fn) (p0d_3 : Fn) : Int32 × Int32 × Fn × Fn × Fn × Fn × Fn × Fn × Fn × Fn × Int32 × Fn × Fn × Fn := (f_X5_copyFrom_C22 p0d_0 p0d_1 p0d_2 p0d_3 p0j_1 p0j_2 p0j_3 p1_0 p1_1 p1j_0 p1j_1 p1j_2 p1j_3 ((f_X1_copyFrom p0m_0 p0m_1 p0m_2 p0m_3 p1m_0 p1m_1 p1m_2 p1m_3).1) ((f_X1_copyFrom p0m_0 p0m_1 p0m_2 p0m_3 p1m_0 p1m_1 p1m_2 p1m_3).2.1) ((f_X1_copyFrom p0m_0 p0m_1 p0m_2 p0m_3 p1m_0 p1m_1 p1m_2 p1m_3).2.2.1) ((f_X1_copyFrom p0m_0 p0m_1 p0m_2 p0m_3 p1m_0 p1m_1 p1m_2 p1m_3).2.2.2))
def f_X5_copyFrom (p0d_0 : Fn) (p0d_1 : Fn) (p0d_2 : Fn) (p0d_3 : Fn) (p0m_0 : Fn) (p0m_1 : Fn) (p0m_2 : Fn) (p0m_3 : Fn) (p0j_1 : Fn) (p0j_2 : Fn) (p0j_3 : Fn) (p1_0 : Int32) (p1_1 : Int32) (p1d_0 : Fn) (p1d_1 : Fn) (p1d_2 : Fn) (p1d_3 : Fn) (p1m_0 : Fn) (p1m_1 : Fn) (p1m_2 : Fn) (p1m_3 : Fn) (p1j_0 : Int32) (p1j_1 : Fn) (p1j_2 : Fn) (p1j_3 : Fn) : Int32 × Int32 × Fn × Fn × Fn × Fn × Fn × Fn × Fn × Fn × Int32 × Fn × Fn × Fn := (f_X5_copyFrom_C11 p0m_0 p0m_1 p0m_2 p0m_3 p0j_1 p0j_2 p0j_3 p1_0 p1_1 p1m_0 p1m_1 p1m_2 p1m_3 p1j_0 p1j_1 p1j_2 p1j_3 ((f_X1_copyFrom p0d_0 p0d_1 p0d_2 p0d_3 p1d_0 p1d_1 p1d_2 p1d_3).1) ((f_X1_copyFrom p0d_0 p0d_1 p0d_2 p0d_3 p1d_0 p1d_1 p1d_2 p1d_3).2.1) ((f_X1_copyFrom p0d_0 p0d_1 p0d_2 p0d_3 p1d_0 p1d_1 p1d_2 p1d_3).2.2.1) ((f_X1_copyFrom p0d_0 p0d_1 p0d_2 p0d_3 p1d_0 p1d_1 p1d_2 p1d_3).2.2.2))
def f_X5_restart_C16 (p0d_0 : Fn) (p0d_1 : Fn) (p0d_2 : Fn) (p0m_0 : Fn) (p0m_1 : Fn) (p0m_2 : Fn) : Int32 × Int32 × Fn × Fn × Fn × Fn × Fn × Fn × Int32 := ((0 : Int32), (-9 : Int32), p0d_0, p0d_1, p0d_2, p0m_0, p0m_1, p0m_2, (0 : Int32))
def f_X5_restart_C8 (p0m_0 : Fn) (p0m_1 : Fn) (p0m_2 : Fn) (p1_0 : Blk) (p0d_0 : Fn) (p0d_1 : Fn) (p0d_2 : Fn) : Int32 × Int32 × Fn × Fn × Fn × Fn × Fn × Fn × Int32 := (f_X5_restart_C16 p0d_0 p0d_1 p0d_2 ((f_X1_restart p0m_0 p0m_1 p0m_2 p1_0).1) ((f_X1_restart p0m_0 p0m_1 p0m_2 p1_0).2.1) ((f_X1_restart p0m_0 p0m_1 p0m_2 p1_0).2.2))
def f_X5_restart (p0d_0 : Fn) (p0d_1 : Fn) (p0d_2 : Fn) (p0m_0 : Fn) (p0m_1 : Fn) (p0m_2 : Fn) (p1_0 : Blk) : Int32 × Int32 × Fn × Fn × Fn × Fn × Fn × Fn × Int32 := (f_X5_restart_C8 p0m_0 p0m_1 p0m_2 p1_0 ((f_X1_restart p0d_0 p0d_1 p0d_2 p1_0).1) ((f_X1_restart p0d_0 p0d_1 p0d_2 p1_0).2.1) ((f_X1_restart p0d_0 p0d_1 p0d_2 p1_0).2.2))
def f_X5_startWith_C21 (p0d_3 : Fn) (p0m_3 : Fn) (p0_0 : Int32) (p0_1 : Int32) (p0d_0 : Fn) (p0d_1 : Fn) (p0d_2 : Fn) (p0m_0 : Fn) (p0m_1 : Fn) (p0m_2 : Fn) (p0j_0 : Int32) : Int32 × Int32 × Fn × Fn × Fn × Fn × Fn × Fn × Fn × Fn × Int32 := (p0_0, p0_1, p0d_0, p0d_1, p0d_2, p0d_3, p0m_0, p0m_1, p0m_2, p0m_3, p0j_0)
def f_X5_startWith (p0d_0 : Fn) (p0d_1 : Fn) (p0d_2 : Fn) (p0d_3 : Fn) (p0m_0 : Fn) (p0m_1 : Fn) (p0m_2 : Fn) (p0m_3 : Fn) (p1_0 : Blk) : Int32 × Int32 × Fn × Fn × Fn × Fn × Fn × Fn × Fn × Fn × Int32 := (f_X5_startWith_C21 (f_X1_mend p0d_3 p1_0) (f_X1_mend p0m_3 p1_0) ((f_X5_restart p0d_0 p0d_1 p0d_2 p0m_0 p0m_1 p0m_2 p1_0).1) ((f_X5_restart p0d_0 p0d_1 p0d_2 p0m_0 p0m_1 p0m_2 p1_0).2.1) ((f_X5_restart p0d_0 p0d_1 p0d_2 p0m_0 p0m_1 p0m_2 p1_0).2.2.1) ((f_X5_restart p0d_0 p0d_1 p0d_2 p0m_0 p0m_1 p0m_2 p1_0).2.2.2.1) ((f_X5_restart p0d_0 p0d_1 p0d_2 p0m_0 p0m_1 p0m_2 p1_0).2.2.2.2.1) ((f_X5_restart p0d_0 p0d_1 p0d_2 p0m_0 p0m_1 p0m_2 p1_0).2.2.2.2.2.1) ((f_X5_restart p0d_0 p0d_1 p0d_2 p0m_0 p0m_1 p0m_2 p1_0).2.2.2.2.2.2.1) ((f_X5_restart p0d_0 p0d_1 p0d_2 p0m_0 p0m_1 p0m_2 p1_0).2.2.2.2.2.2.2.1) ((f_X5_restart p0d_0 p0d_1 p0d_2 p0m_0 p0m_1 p0m_2 p1_0).2.2.2.2.2.2.2.2))
def f_X5_performRead_C72 (p0_0 : Int32) (p0_1 : Int32) (p0d_0 : Fn) (p0m_0 : Fn) (x3 : Int32) (p0j_0 : Int32) (p0j_1 : Fn) (p0j_2 : Fn) (p0j_3 : Fn) : Int32 × Int32 × Int32 × Fn × Fn × Int32 × Fn × Fn × Fn := (x3, p0_0, p0_1, p0d_0, p0m_0, p0j_0, p0j_1, p0j_2, p0j_3)
def f_X5_performRead_C61 (p0_0 : Int32) (p0_1 : Int32) (p0d_0 : Fn) (p0j_0 : Int32) (p0j_1 : Fn) (p0j_2 : Fn) (p0j_3 : Fn) (x2 : Int32) (x3 : Int32) (s0 : Int32) (p0m_0 : Fn) : Int32 × Int32 × Int32 × Fn × Fn × Int32 × Fn × Fn × Fn := (f_X5_performRead_C72 p0_0 p0_1 p0d_0 p0m_0 x3 ((f_X3_append p0j_0 p0j_1 p0j_2 p0j_3 x2 (0 : Int32) x3).1) ((f_X3_append p0j_0 p0j_1 p0j_2 p0j_3 x2 (0 : Int32) x3).2.1) ((f_X3_append p0j_0 p0j_1 p0j_2 p0j_3 x2 (0 : Int32) x3).2.2.1) ((f_X3_append p0j_0 p0j_1 p0j_2 p0j_3 x2 (0 : Int32) x3).2.2.2))
def f_X5_performRead_J42 (p0_1 : Int32) (p0d_0 : Fn) (p0m_0 : Fn) (p0m_3 : Fn) (p0j_0 : Int32) (p0j_1 : Fn) (p0j_2 : Fn) (p0j_3 : Fn) (p1_0 : Blk) (x2 : Int32) (x3 : Int32) (p0_0 : Int32) : Int32 × Int32 × Int32 × Fn × Fn × Int32 × Fn × Fn × Fn := (f_X5_performRead_C61 p0_0 p0_1 p0d_0 p0j_0 p0j_1 p0j_2 p0j_3 x2 x3 (f_X1_read (f_X1_learn p0m_0 p0m_3 p1_0 x2 x3) p0m_3 p1_0 x2).1 ((f_X1_read (f_X1_learn p0m_0 p0m_3 p1_0 x2 x3) p0m_3 p1_0 x2).2))
def f_X5_performRead_C9 (p0_0 : Int32) (p0m_0 : Fn) (p0m_3 : Fn) (p0j_0 : Int32) (p0j_1 : Fn) (p0j_2 : Fn) (p0j_3 : Fn) (p1_0 : Blk) (x2 : Int32) (s0 : Int32) (p0d_0 : Fn) : Int32 × Int32 × Int32 × Fn × Fn × Int32 × Fn × Fn × Fn := 
    if (s0 ^^^ (f_X1_look p0m_0 p0m_3 p1_0 x2)) = 0 then (f_X5_performRead_J42 (s0 ^^^ (f_X1_look p0m_0 p0m_3 p1_0 x2)) p0d_0 p0m_0 p0m_3 p0j_0 p0j_1 p0j_2 p0j_3 p1_0 x2 s0 p0_0)
    else (f_X5_performRead_J42 (s0 ^^^ (f_X1_look p0m_0 p0m_3 p1_0 x2)) p0d_0 p0m_0 p0m_3 p0j_0 p0j_1 p0j_2 p0j_3 p1_0 x2 s0 (p0_0 + (1 : Int32)))
def f_X5_performRead (p0_0 : Int32) (p0d_0 : Fn) (p0d_3 : Fn) (p0m_0 : Fn) (p0m_3 : Fn) (p0j_0 : Int32) (p0j_1 : Fn) (p0j_2 : Fn) (p0j_3 : Fn) (p1_0 : Blk) (x2 : Int32) : Int32 × Int32 × Int32 × Fn × Fn × Int32 × Fn × Fn × Fn := (f_X5_performRead_C9 p0_0 p0m_0 p0m_3 p0j_0 p0j_1 p0j_2 p0j_3 p1_0 x2 (f_X1_read p0d_0 p0d_3 p1_0 x2).1 ((f_X1_read p0d_0 p0d_3 p1_0 x2).2))
def f_X5_performWrite_C30 (p0d_0 : Fn) (p0d_1 : Fn) (p0d_2 : Fn) (p0m_0 : Fn) (p0m_1 : Fn) (p0m_2 : Fn) (p0j_0 : Int32) (p0j_1 : Fn) (p0j_2 : Fn) (p0j_3 : Fn) : Fn × Fn × Fn × Fn × Fn × Fn × Int32 × Fn × Fn × Fn := (p0d_0, p0d_1, p0d_2, p0m_0, p0m_1, p0m_2, p0j_0, p0j_1, p0j_2, p0j_3)
def f_X5_performWrite_C20 (p0d_0 : Fn) (p0d_1 : Fn) (p0d_2 : Fn) (p0j_0 : Int32) (p0j_1 : Fn) (p0j_2 : Fn) (p0j_3 : Fn) (x2 : Int32) (x3 : Int32) (p0m_0 : Fn) (p0m_1 : Fn) (p0m_2 : Fn) : Fn × Fn × Fn × Fn × Fn × Fn × Int32 × Fn × Fn × Fn := (f_X5_performWrite_C30 p0d_0 p0d_1 p0d_2 p0m_0 p0m_1 p0m_2 ((f_X3_append p0j_0 p0j_1 p0j_2 p0j_3 x2 (1 : Int32) x3).1) ((f_X3_append p0j_0 p0j_1 p0j_2 p0j_3 x2 (1 : Int32) x3).2.1) ((f_X3_append p0j_0 p0j_1 p0j_2 p0j_3 x2 (1 : Int32) x3).2.2.1) ((f_X3_append p0j_0 p0j_1 p0j_2 p0j_3 x2 (1 : Int32) x3).2.2.2))
def f_X5_performWrite_C10 (p0m_0 : Fn) (p0m_1 : Fn) (p0m_2 : Fn) (p0m_3 : Fn) (p0j_0 : Int32) (p0j_1 : Fn) (p0j_2 : Fn) (p0j_3 : Fn) (p1_0 : Blk) (x2 : Int32) (x3 : Int32) (p0d_0 : Fn) (p0d_1 : Fn) (p0d_2 : Fn) : Fn × Fn × Fn × Fn × Fn × Fn × Int32 × Fn × Fn × Fn := (f_X5_performWrite_C20 p0d_0 p0d_1 p0d_2 p0j_0 p0j_1 p0j_2 p0j_3 x2 x3 ((f_X1_write p0m_0 p0m_1 p0m_2 p0m_3 p1_0 x2 x3).1) ((f_X1_write p0m_0 p0m_1 p0m_2 p0m_3 p1_0 x2 x3).2.1) ((f_X1_write p0m_0 p0m_1 p0m_2 p0m_3 p1_0 x2 x3).2.2))
def f_X5_performWrite (p0d_0 : Fn) (p0d_1 : Fn) (p0d_2 : Fn) (p0d_3 : Fn) (p0m_0 : Fn) (p0m_1 : Fn) (p0m_2 : Fn) (p0m_3 : Fn) (p0j_0 : Int32) (p0j_1 : Fn) (p0j_2 : Fn) (p0j_3 : Fn) (p1_0 : Blk) (x2 : Int32) (x3 : Int32) : Fn × Fn × Fn × Fn × Fn × Fn × Int32 × Fn × Fn × Fn := (f_X5_performWrite_C10 p0m_0 p0m_1 p0m_2 p0m_3 p0j_0 p0j_1 p0j_2 p0j_3 p1_0 x2 x3 ((f_X1_write p0d_0 p0d_1 p0d_2 p0d_3 p1_0 x2 x3).1) ((f_X1_write p0d_0 p0d_1 p0d_2 p0d_3 p1_0 x2 x3).2.1) ((f_X1_write p0d_0 p0d_1 p0d_2 p0d_3 p1_0 x2 x3).2.2))
end
section
/-! facts on twin functions that the walks use -/
theorem rg_inc {x : Int32} (h0 : 0 ≤ x.toInt) (h1 : x.toInt < 1000000) : (x + 1).toInt = x.toInt + 1 := fb_addI (by rw [show (1 : Int32).toInt = 1 by decide]; omega) (by rw [show (1 : Int32).toInt = 1 by decide]; omega)
theorem rIW {x b : Int32} (h : ¬ f_X8_isWithin x b = 0) : 0 ≤ x.toInt ∧ x.toInt < b.toInt := by
  unfold f_X8_isWithin at h
  split at h
  · exact absurd rfl h
  · rename_i h1
    split at h
    · exact absurd rfl h
    · rename_i h2
      have i1 := rnlt h1
      have i2 := rnle h2
      rw [show (0 : Int32).toInt = 0 by decide] at i1
      exact ⟨i1, i2⟩
theorem R_registerAt_L {u : Blk} {a : Int32} (h : BlkInv u) : ∀ (n : Nat) (x : Int32), 0 ≤ x.toInt → (f_X0_registerAt_L2 u a n x).toInt = -9 ∨ (0 ≤ (f_X0_registerAt_L2 u a n x).toInt ∧ (f_X0_registerAt_L2 u a n x).toInt < 6) := by
  intro n
  induction n with
  | zero => intro x hx; right; rw [f_X0_registerAt_L2]; decide
  | succ n ih =>
    intro x hx
    have hb := BI_regs h
    rw [f_X0_registerAt_L2]
    split
    · left; decide
    · rename_i h1
      have i1 := rnle h1
      split
      · right; omega
      · exact ih _ (by rw [rg_inc hx (by omega)]; omega)
theorem R_registerAt {u : Blk} (h : BlkInv u) (a : Int32) : (f_X0_registerAt u a).toInt = -9 ∨ (0 ≤ (f_X0_registerAt u a).toInt ∧ (f_X0_registerAt u a).toInt < 6) := R_registerAt_L h _ _ (by decide)
theorem R_aliasAt_L {u : Blk} {a : Int32} (h : BlkInv u) : ∀ (n : Nat) (x : Int32), 0 ≤ x.toInt → (f_X0_aliasAt_L15 u a n x).toInt = -9 ∨ (0 ≤ (f_X0_aliasAt_L15 u a n x).toInt ∧ (f_X0_aliasAt_L15 u a n x).toInt < 4) := by
  intro n
  induction n with
  | zero => intro x hx; right; rw [f_X0_aliasAt_L15]; decide
  | succ n ih =>
    intro x hx
    have hb := BI_als h
    rw [f_X0_aliasAt_L15]
    split
    · left; decide
    · rename_i h1
      have i1 := rnle h1
      split
      · right; omega
      · exact ih _ (by rw [rg_inc hx (by omega)]; omega)
theorem R_aliasAt {u : Blk} (h : BlkInv u) (a : Int32) : (f_X0_aliasAt u a).toInt = -9 ∨ (0 ≤ (f_X0_aliasAt u a).toInt ∧ (f_X0_aliasAt u a).toInt < 4) := by
  rw [f_X0_aliasAt]
  split
  · exact R_aliasAt_L h _ _ (by decide)
  · left; decide
theorem R_registerBehind {u : Blk} (h : BlkInv u) (a : Int32) : (f_X0_registerBehind u a).toInt = -9 ∨ (0 ≤ (f_X0_registerBehind u a).toInt ∧ (f_X0_registerBehind u a).toInt < 6) := by
  rw [f_X0_registerBehind]
  split
  · exact R_registerAt h a
  · right; exact BI_areg h _
theorem rOB {u : Blk} {r o : Int32} (h : ¬ f_X0_isOpenedBy u r o = 0) : 0 ≤ (u 3 r.toNatClampNeg).toInt ∧ (u 3 r.toNatClampNeg).toInt < (u 0 1).toInt := by
  unfold f_X0_isOpenedBy at h
  split at h
  · exact absurd rfl h
  · rename_i h1; exact rIW h1
theorem rCH {u : Blk} {f v : Int32} (h : ¬ f_X0_canHold u f v = 0) : 0 ≤ f.toInt ∧ f.toInt < (u 0 1).toInt := by
  unfold f_X0_canHold at h
  split at h
  · exact absurd rfl h
  · rename_i h1; exact rIW h1
end
section
theorem dX0_empty_0 : decode cX0_empty 0 = .ok (.aload_n 0, 1) := by decide +kernel
theorem dX0_empty_1 : decode cX0_empty 1 = .ok (.iconst 0, 1) := by decide +kernel
theorem dX0_empty_2 : decode cX0_empty 2 = .ok (.putfield 48, 3) := by decide +kernel
theorem dX0_empty_5 : decode cX0_empty 5 = .ok (.aload_n 0, 1) := by decide +kernel
theorem dX0_empty_6 : decode cX0_empty 6 = .ok (.iconst 0, 1) := by decide +kernel
theorem dX0_empty_7 : decode cX0_empty 7 = .ok (.putfield 52, 3) := by decide +kernel
theorem dX0_empty_10 : decode cX0_empty 10 = .ok (.aload_n 0, 1) := by decide +kernel
theorem dX0_empty_11 : decode cX0_empty 11 = .ok (.iconst 0, 1) := by decide +kernel
theorem dX0_empty_12 : decode cX0_empty 12 = .ok (.putfield 55, 3) := by decide +kernel
theorem dX0_empty_15 : decode cX0_empty 15 = .ok (.return_, 1) := by decide +kernel
theorem dX0_greatestValue_0 : decode cX0_greatestValue 0 = .ok (.aload_n 0, 1) := by decide +kernel
theorem dX0_greatestValue_1 : decode cX0_greatestValue 1 = .ok (.getfield 33, 3) := by decide +kernel
theorem dX0_greatestValue_4 : decode cX0_greatestValue 4 = .ok (.iload_n 1, 1) := by decide +kernel
theorem dX0_greatestValue_5 : decode cX0_greatestValue 5 = .ok (.iaload, 1) := by decide +kernel
theorem dX0_greatestValue_6 : decode cX0_greatestValue 6 = .ok (.aload_n 0, 1) := by decide +kernel
theorem dX0_greatestValue_7 : decode cX0_greatestValue 7 = .ok (.getfield 27, 3) := by decide +kernel
theorem dX0_greatestValue_10 : decode cX0_greatestValue 10 = .ok (.iload_n 1, 1) := by decide +kernel
theorem dX0_greatestValue_11 : decode cX0_greatestValue 11 = .ok (.iaload, 1) := by decide +kernel
theorem dX0_greatestValue_12 : decode cX0_greatestValue 12 = .ok (.ishr, 1) := by decide +kernel
theorem dX0_greatestValue_13 : decode cX0_greatestValue 13 = .ok (.ireturn, 1) := by decide +kernel
theorem dX0_canHold_0 : decode cX0_canHold 0 = .ok (.iload_n 1, 1) := by decide +kernel
theorem dX0_canHold_1 : decode cX0_canHold 1 = .ok (.aload_n 0, 1) := by decide +kernel
theorem dX0_canHold_2 : decode cX0_canHold 2 = .ok (.getfield 52, 3) := by decide +kernel
theorem dX0_canHold_5 : decode cX0_canHold 5 = .ok (.invokestatic 58, 3) := by decide +kernel
theorem dX0_canHold_8 : decode cX0_canHold 8 = .ok (.ifCond .eq 20, 3) := by decide +kernel
theorem dX0_canHold_11 : decode cX0_canHold 11 = .ok (.iload_n 2, 1) := by decide +kernel
theorem dX0_canHold_12 : decode cX0_canHold 12 = .ok (.ifCond .lt 16, 3) := by decide +kernel
theorem dX0_canHold_15 : decode cX0_canHold 15 = .ok (.iload_n 2, 1) := by decide +kernel
theorem dX0_canHold_16 : decode cX0_canHold 16 = .ok (.aload_n 0, 1) := by decide +kernel
theorem dX0_canHold_17 : decode cX0_canHold 17 = .ok (.iload_n 1, 1) := by decide +kernel
theorem dX0_canHold_18 : decode cX0_canHold 18 = .ok (.invokevirtual 62, 3) := by decide +kernel
theorem dX0_canHold_21 : decode cX0_canHold 21 = .ok (.if_icmp .gt 7, 3) := by decide +kernel
theorem dX0_canHold_24 : decode cX0_canHold 24 = .ok (.iconst 1, 1) := by decide +kernel
theorem dX0_canHold_25 : decode cX0_canHold 25 = .ok (.goto 4, 3) := by decide +kernel
theorem dX0_canHold_28 : decode cX0_canHold 28 = .ok (.iconst 0, 1) := by decide +kernel
theorem dX0_canHold_29 : decode cX0_canHold 29 = .ok (.ireturn, 1) := by decide +kernel
theorem dX0_usedBits_0 : decode cX0_usedBits 0 = .ok (.iconst 0, 1) := by decide +kernel
theorem dX0_usedBits_1 : decode cX0_usedBits 1 = .ok (.istore_n 2, 1) := by decide +kernel
theorem dX0_usedBits_2 : decode cX0_usedBits 2 = .ok (.iconst 0, 1) := by decide +kernel
theorem dX0_usedBits_3 : decode cX0_usedBits 3 = .ok (.istore_n 3, 1) := by decide +kernel
theorem dX0_usedBits_4 : decode cX0_usedBits 4 = .ok (.iload_n 3, 1) := by decide +kernel
theorem dX0_usedBits_5 : decode cX0_usedBits 5 = .ok (.aload_n 0, 1) := by decide +kernel
theorem dX0_usedBits_6 : decode cX0_usedBits 6 = .ok (.getfield 52, 3) := by decide +kernel
theorem dX0_usedBits_9 : decode cX0_usedBits 9 = .ok (.if_icmp .ge 28, 3) := by decide +kernel
theorem dX0_usedBits_12 : decode cX0_usedBits 12 = .ok (.aload_n 0, 1) := by decide +kernel
theorem dX0_usedBits_13 : decode cX0_usedBits 13 = .ok (.getfield 21, 3) := by decide +kernel
theorem dX0_usedBits_16 : decode cX0_usedBits 16 = .ok (.iload_n 3, 1) := by decide +kernel
theorem dX0_usedBits_17 : decode cX0_usedBits 17 = .ok (.iaload, 1) := by decide +kernel
theorem dX0_usedBits_18 : decode cX0_usedBits 18 = .ok (.iload_n 1, 1) := by decide +kernel
theorem dX0_usedBits_19 : decode cX0_usedBits 19 = .ok (.if_icmp .ne 12, 3) := by decide +kernel
theorem dX0_usedBits_22 : decode cX0_usedBits 22 = .ok (.iload_n 2, 1) := by decide +kernel
theorem dX0_usedBits_23 : decode cX0_usedBits 23 = .ok (.aload_n 0, 1) := by decide +kernel
theorem dX0_usedBits_24 : decode cX0_usedBits 24 = .ok (.getfield 33, 3) := by decide +kernel
theorem dX0_usedBits_27 : decode cX0_usedBits 27 = .ok (.iload_n 3, 1) := by decide +kernel
theorem dX0_usedBits_28 : decode cX0_usedBits 28 = .ok (.iaload, 1) := by decide +kernel
theorem dX0_usedBits_29 : decode cX0_usedBits 29 = .ok (.ior, 1) := by decide +kernel
theorem dX0_usedBits_30 : decode cX0_usedBits 30 = .ok (.istore_n 2, 1) := by decide +kernel
theorem dX0_usedBits_31 : decode cX0_usedBits 31 = .ok (.iinc 3 1, 3) := by decide +kernel
theorem dX0_usedBits_34 : decode cX0_usedBits 34 = .ok (.goto (-30), 3) := by decide +kernel
theorem dX0_usedBits_37 : decode cX0_usedBits 37 = .ok (.iload_n 2, 1) := by decide +kernel
theorem dX0_usedBits_38 : decode cX0_usedBits 38 = .ok (.ireturn, 1) := by decide +kernel
theorem dX0_plainBits_0 : decode cX0_plainBits 0 = .ok (.iconst 0, 1) := by decide +kernel
theorem dX0_plainBits_1 : decode cX0_plainBits 1 = .ok (.istore_n 2, 1) := by decide +kernel
theorem dX0_plainBits_2 : decode cX0_plainBits 2 = .ok (.iconst 0, 1) := by decide +kernel
theorem dX0_plainBits_3 : decode cX0_plainBits 3 = .ok (.istore_n 3, 1) := by decide +kernel
theorem dX0_plainBits_4 : decode cX0_plainBits 4 = .ok (.iload_n 3, 1) := by decide +kernel
theorem dX0_plainBits_5 : decode cX0_plainBits 5 = .ok (.aload_n 0, 1) := by decide +kernel
theorem dX0_plainBits_6 : decode cX0_plainBits 6 = .ok (.getfield 52, 3) := by decide +kernel
theorem dX0_plainBits_9 : decode cX0_plainBits 9 = .ok (.if_icmp .ge 37, 3) := by decide +kernel
theorem dX0_plainBits_12 : decode cX0_plainBits 12 = .ok (.aload_n 0, 1) := by decide +kernel
theorem dX0_plainBits_13 : decode cX0_plainBits 13 = .ok (.getfield 21, 3) := by decide +kernel
theorem dX0_plainBits_16 : decode cX0_plainBits 16 = .ok (.iload_n 3, 1) := by decide +kernel
theorem dX0_plainBits_17 : decode cX0_plainBits 17 = .ok (.iaload, 1) := by decide +kernel
theorem dX0_plainBits_18 : decode cX0_plainBits 18 = .ok (.iload_n 1, 1) := by decide +kernel
theorem dX0_plainBits_19 : decode cX0_plainBits 19 = .ok (.if_icmp .ne 21, 3) := by decide +kernel
theorem dX0_plainBits_22 : decode cX0_plainBits 22 = .ok (.aload_n 0, 1) := by decide +kernel
theorem dX0_plainBits_23 : decode cX0_plainBits 23 = .ok (.getfield 24, 3) := by decide +kernel
theorem dX0_plainBits_26 : decode cX0_plainBits 26 = .ok (.iload_n 3, 1) := by decide +kernel
theorem dX0_plainBits_27 : decode cX0_plainBits 27 = .ok (.iaload, 1) := by decide +kernel
theorem dX0_plainBits_28 : decode cX0_plainBits 28 = .ok (.ifCond .ne 12, 3) := by decide +kernel
theorem dX0_plainBits_31 : decode cX0_plainBits 31 = .ok (.iload_n 2, 1) := by decide +kernel
theorem dX0_plainBits_32 : decode cX0_plainBits 32 = .ok (.aload_n 0, 1) := by decide +kernel
theorem dX0_plainBits_33 : decode cX0_plainBits 33 = .ok (.getfield 33, 3) := by decide +kernel
theorem dX0_plainBits_36 : decode cX0_plainBits 36 = .ok (.iload_n 3, 1) := by decide +kernel
theorem dX0_plainBits_37 : decode cX0_plainBits 37 = .ok (.iaload, 1) := by decide +kernel
theorem dX0_plainBits_38 : decode cX0_plainBits 38 = .ok (.ior, 1) := by decide +kernel
theorem dX0_plainBits_39 : decode cX0_plainBits 39 = .ok (.istore_n 2, 1) := by decide +kernel
theorem dX0_plainBits_40 : decode cX0_plainBits 40 = .ok (.iinc 3 1, 3) := by decide +kernel
theorem dX0_plainBits_43 : decode cX0_plainBits 43 = .ok (.goto (-39), 3) := by decide +kernel
theorem dX0_plainBits_46 : decode cX0_plainBits 46 = .ok (.iload_n 2, 1) := by decide +kernel
theorem dX0_plainBits_47 : decode cX0_plainBits 47 = .ok (.ireturn, 1) := by decide +kernel
theorem dX0_registerAt_0 : decode cX0_registerAt 0 = .ok (.iconst 0, 1) := by decide +kernel
theorem dX0_registerAt_1 : decode cX0_registerAt 1 = .ok (.istore_n 2, 1) := by decide +kernel
theorem dX0_registerAt_2 : decode cX0_registerAt 2 = .ok (.iload_n 2, 1) := by decide +kernel
theorem dX0_registerAt_3 : decode cX0_registerAt 3 = .ok (.aload_n 0, 1) := by decide +kernel
theorem dX0_registerAt_4 : decode cX0_registerAt 4 = .ok (.getfield 48, 3) := by decide +kernel
theorem dX0_registerAt_7 : decode cX0_registerAt 7 = .ok (.if_icmp .ge 21, 3) := by decide +kernel
theorem dX0_registerAt_10 : decode cX0_registerAt 10 = .ok (.aload_n 0, 1) := by decide +kernel
theorem dX0_registerAt_11 : decode cX0_registerAt 11 = .ok (.getfield 9, 3) := by decide +kernel
theorem dX0_registerAt_14 : decode cX0_registerAt 14 = .ok (.iload_n 2, 1) := by decide +kernel
theorem dX0_registerAt_15 : decode cX0_registerAt 15 = .ok (.iaload, 1) := by decide +kernel
theorem dX0_registerAt_16 : decode cX0_registerAt 16 = .ok (.iload_n 1, 1) := by decide +kernel
theorem dX0_registerAt_17 : decode cX0_registerAt 17 = .ok (.if_icmp .ne 5, 3) := by decide +kernel
theorem dX0_registerAt_20 : decode cX0_registerAt 20 = .ok (.iload_n 2, 1) := by decide +kernel
theorem dX0_registerAt_21 : decode cX0_registerAt 21 = .ok (.ireturn, 1) := by decide +kernel
theorem dX0_registerAt_22 : decode cX0_registerAt 22 = .ok (.iinc 2 1, 3) := by decide +kernel
theorem dX0_registerAt_25 : decode cX0_registerAt 25 = .ok (.goto (-23), 3) := by decide +kernel
theorem dX0_registerAt_28 : decode cX0_registerAt 28 = .ok (.bipush (-9), 2) := by decide +kernel
theorem dX0_registerAt_30 : decode cX0_registerAt 30 = .ok (.ireturn, 1) := by decide +kernel
theorem dX0_aliasAt_0 : decode cX0_aliasAt 0 = .ok (.aload_n 0, 1) := by decide +kernel
theorem dX0_aliasAt_1 : decode cX0_aliasAt 1 = .ok (.iload_n 1, 1) := by decide +kernel
theorem dX0_aliasAt_2 : decode cX0_aliasAt 2 = .ok (.invokevirtual 71, 3) := by decide +kernel
theorem dX0_aliasAt_5 : decode cX0_aliasAt 5 = .ok (.bipush (-9), 2) := by decide +kernel
theorem dX0_aliasAt_7 : decode cX0_aliasAt 7 = .ok (.if_icmp .eq 6, 3) := by decide +kernel
theorem dX0_aliasAt_10 : decode cX0_aliasAt 10 = .ok (.bipush (-9), 2) := by decide +kernel
theorem dX0_aliasAt_12 : decode cX0_aliasAt 12 = .ok (.ireturn, 1) := by decide +kernel
theorem dX0_aliasAt_13 : decode cX0_aliasAt 13 = .ok (.iconst 0, 1) := by decide +kernel
theorem dX0_aliasAt_14 : decode cX0_aliasAt 14 = .ok (.istore_n 2, 1) := by decide +kernel
theorem dX0_aliasAt_15 : decode cX0_aliasAt 15 = .ok (.iload_n 2, 1) := by decide +kernel
theorem dX0_aliasAt_16 : decode cX0_aliasAt 16 = .ok (.aload_n 0, 1) := by decide +kernel
theorem dX0_aliasAt_17 : decode cX0_aliasAt 17 = .ok (.getfield 55, 3) := by decide +kernel
theorem dX0_aliasAt_20 : decode cX0_aliasAt 20 = .ok (.if_icmp .ge 21, 3) := by decide +kernel
theorem dX0_aliasAt_23 : decode cX0_aliasAt 23 = .ok (.aload_n 0, 1) := by decide +kernel
theorem dX0_aliasAt_24 : decode cX0_aliasAt 24 = .ok (.getfield 39, 3) := by decide +kernel
theorem dX0_aliasAt_27 : decode cX0_aliasAt 27 = .ok (.iload_n 2, 1) := by decide +kernel
theorem dX0_aliasAt_28 : decode cX0_aliasAt 28 = .ok (.iaload, 1) := by decide +kernel
theorem dX0_aliasAt_29 : decode cX0_aliasAt 29 = .ok (.iload_n 1, 1) := by decide +kernel
theorem dX0_aliasAt_30 : decode cX0_aliasAt 30 = .ok (.if_icmp .ne 5, 3) := by decide +kernel
theorem dX0_aliasAt_33 : decode cX0_aliasAt 33 = .ok (.iload_n 2, 1) := by decide +kernel
theorem dX0_aliasAt_34 : decode cX0_aliasAt 34 = .ok (.ireturn, 1) := by decide +kernel
theorem dX0_aliasAt_35 : decode cX0_aliasAt 35 = .ok (.iinc 2 1, 3) := by decide +kernel
theorem dX0_aliasAt_38 : decode cX0_aliasAt 38 = .ok (.goto (-23), 3) := by decide +kernel
theorem dX0_aliasAt_41 : decode cX0_aliasAt 41 = .ok (.bipush (-9), 2) := by decide +kernel
theorem dX0_aliasAt_43 : decode cX0_aliasAt 43 = .ok (.ireturn, 1) := by decide +kernel
theorem dX0_registerBehind_0 : decode cX0_registerBehind 0 = .ok (.aload_n 0, 1) := by decide +kernel
theorem dX0_registerBehind_1 : decode cX0_registerBehind 1 = .ok (.iload_n 1, 1) := by decide +kernel
theorem dX0_registerBehind_2 : decode cX0_registerBehind 2 = .ok (.invokevirtual 74, 3) := by decide +kernel
theorem dX0_registerBehind_5 : decode cX0_registerBehind 5 = .ok (.istore_n 2, 1) := by decide +kernel
theorem dX0_registerBehind_6 : decode cX0_registerBehind 6 = .ok (.iload_n 2, 1) := by decide +kernel
theorem dX0_registerBehind_7 : decode cX0_registerBehind 7 = .ok (.bipush (-9), 2) := by decide +kernel
theorem dX0_registerBehind_9 : decode cX0_registerBehind 9 = .ok (.if_icmp .ne 11, 3) := by decide +kernel
theorem dX0_registerBehind_12 : decode cX0_registerBehind 12 = .ok (.aload_n 0, 1) := by decide +kernel
theorem dX0_registerBehind_13 : decode cX0_registerBehind 13 = .ok (.iload_n 1, 1) := by decide +kernel
theorem dX0_registerBehind_14 : decode cX0_registerBehind 14 = .ok (.invokevirtual 71, 3) := by decide +kernel
theorem dX0_registerBehind_17 : decode cX0_registerBehind 17 = .ok (.goto 9, 3) := by decide +kernel
theorem dX0_registerBehind_20 : decode cX0_registerBehind 20 = .ok (.aload_n 0, 1) := by decide +kernel
theorem dX0_registerBehind_21 : decode cX0_registerBehind 21 = .ok (.getfield 42, 3) := by decide +kernel
theorem dX0_registerBehind_24 : decode cX0_registerBehind 24 = .ok (.iload_n 2, 1) := by decide +kernel
theorem dX0_registerBehind_25 : decode cX0_registerBehind 25 = .ok (.iaload, 1) := by decide +kernel
theorem dX0_registerBehind_26 : decode cX0_registerBehind 26 = .ok (.ireturn, 1) := by decide +kernel
theorem dX0_holdersOf_0 : decode cX0_holdersOf 0 = .ok (.iconst 0, 1) := by decide +kernel
theorem dX0_holdersOf_1 : decode cX0_holdersOf 1 = .ok (.istore_n 2, 1) := by decide +kernel
theorem dX0_holdersOf_2 : decode cX0_holdersOf 2 = .ok (.iconst 0, 1) := by decide +kernel
theorem dX0_holdersOf_3 : decode cX0_holdersOf 3 = .ok (.istore_n 3, 1) := by decide +kernel
theorem dX0_holdersOf_4 : decode cX0_holdersOf 4 = .ok (.iload_n 3, 1) := by decide +kernel
theorem dX0_holdersOf_5 : decode cX0_holdersOf 5 = .ok (.aload_n 0, 1) := by decide +kernel
theorem dX0_holdersOf_6 : decode cX0_holdersOf 6 = .ok (.getfield 48, 3) := by decide +kernel
theorem dX0_holdersOf_9 : decode cX0_holdersOf 9 = .ok (.if_icmp .ge 22, 3) := by decide +kernel
theorem dX0_holdersOf_12 : decode cX0_holdersOf 12 = .ok (.aload_n 0, 1) := by decide +kernel
theorem dX0_holdersOf_13 : decode cX0_holdersOf 13 = .ok (.getfield 9, 3) := by decide +kernel
theorem dX0_holdersOf_16 : decode cX0_holdersOf 16 = .ok (.iload_n 3, 1) := by decide +kernel
theorem dX0_holdersOf_17 : decode cX0_holdersOf 17 = .ok (.iaload, 1) := by decide +kernel
theorem dX0_holdersOf_18 : decode cX0_holdersOf 18 = .ok (.iload_n 1, 1) := by decide +kernel
theorem dX0_holdersOf_19 : decode cX0_holdersOf 19 = .ok (.if_icmp .ne 6, 3) := by decide +kernel
theorem dX0_holdersOf_22 : decode cX0_holdersOf 22 = .ok (.iinc 2 1, 3) := by decide +kernel
theorem dX0_holdersOf_25 : decode cX0_holdersOf 25 = .ok (.iinc 3 1, 3) := by decide +kernel
theorem dX0_holdersOf_28 : decode cX0_holdersOf 28 = .ok (.goto (-24), 3) := by decide +kernel
theorem dX0_holdersOf_31 : decode cX0_holdersOf 31 = .ok (.iconst 0, 1) := by decide +kernel
theorem dX0_holdersOf_32 : decode cX0_holdersOf 32 = .ok (.istore_n 3, 1) := by decide +kernel
theorem dX0_holdersOf_33 : decode cX0_holdersOf 33 = .ok (.iload_n 3, 1) := by decide +kernel
theorem dX0_holdersOf_34 : decode cX0_holdersOf 34 = .ok (.aload_n 0, 1) := by decide +kernel
theorem dX0_holdersOf_35 : decode cX0_holdersOf 35 = .ok (.getfield 55, 3) := by decide +kernel
theorem dX0_holdersOf_38 : decode cX0_holdersOf 38 = .ok (.if_icmp .ge 22, 3) := by decide +kernel
theorem dX0_holdersOf_41 : decode cX0_holdersOf 41 = .ok (.aload_n 0, 1) := by decide +kernel
theorem dX0_holdersOf_42 : decode cX0_holdersOf 42 = .ok (.getfield 39, 3) := by decide +kernel
theorem dX0_holdersOf_45 : decode cX0_holdersOf 45 = .ok (.iload_n 3, 1) := by decide +kernel
theorem dX0_holdersOf_46 : decode cX0_holdersOf 46 = .ok (.iaload, 1) := by decide +kernel
theorem dX0_holdersOf_47 : decode cX0_holdersOf 47 = .ok (.iload_n 1, 1) := by decide +kernel
theorem dX0_holdersOf_48 : decode cX0_holdersOf 48 = .ok (.if_icmp .ne 6, 3) := by decide +kernel
theorem dX0_holdersOf_51 : decode cX0_holdersOf 51 = .ok (.iinc 2 1, 3) := by decide +kernel
theorem dX0_holdersOf_54 : decode cX0_holdersOf 54 = .ok (.iinc 3 1, 3) := by decide +kernel
theorem dX0_holdersOf_57 : decode cX0_holdersOf 57 = .ok (.goto (-24), 3) := by decide +kernel
theorem dX0_holdersOf_60 : decode cX0_holdersOf 60 = .ok (.iload_n 2, 1) := by decide +kernel
theorem dX0_holdersOf_61 : decode cX0_holdersOf 61 = .ok (.ireturn, 1) := by decide +kernel
theorem dX0_isLock_0 : decode cX0_isLock 0 = .ok (.iconst 0, 1) := by decide +kernel
theorem dX0_isLock_1 : decode cX0_isLock 1 = .ok (.istore_n 2, 1) := by decide +kernel
theorem dX0_isLock_2 : decode cX0_isLock 2 = .ok (.iload_n 2, 1) := by decide +kernel
theorem dX0_isLock_3 : decode cX0_isLock 3 = .ok (.aload_n 0, 1) := by decide +kernel
theorem dX0_isLock_4 : decode cX0_isLock 4 = .ok (.getfield 48, 3) := by decide +kernel
theorem dX0_isLock_7 : decode cX0_isLock 7 = .ok (.if_icmp .ge 21, 3) := by decide +kernel
theorem dX0_isLock_10 : decode cX0_isLock 10 = .ok (.aload_n 0, 1) := by decide +kernel
theorem dX0_isLock_11 : decode cX0_isLock 11 = .ok (.getfield 15, 3) := by decide +kernel
theorem dX0_isLock_14 : decode cX0_isLock 14 = .ok (.iload_n 2, 1) := by decide +kernel
theorem dX0_isLock_15 : decode cX0_isLock 15 = .ok (.iaload, 1) := by decide +kernel
theorem dX0_isLock_16 : decode cX0_isLock 16 = .ok (.iload_n 1, 1) := by decide +kernel
theorem dX0_isLock_17 : decode cX0_isLock 17 = .ok (.if_icmp .ne 5, 3) := by decide +kernel
theorem dX0_isLock_20 : decode cX0_isLock 20 = .ok (.iconst 1, 1) := by decide +kernel
theorem dX0_isLock_21 : decode cX0_isLock 21 = .ok (.ireturn, 1) := by decide +kernel
theorem dX0_isLock_22 : decode cX0_isLock 22 = .ok (.iinc 2 1, 3) := by decide +kernel
theorem dX0_isLock_25 : decode cX0_isLock 25 = .ok (.goto (-23), 3) := by decide +kernel
theorem dX0_isLock_28 : decode cX0_isLock 28 = .ok (.iconst 0, 1) := by decide +kernel
theorem dX0_isLock_29 : decode cX0_isLock 29 = .ok (.ireturn, 1) := by decide +kernel
theorem dX0_isGate_0 : decode cX0_isGate 0 = .ok (.iconst 0, 1) := by decide +kernel
theorem dX0_isGate_1 : decode cX0_isGate 1 = .ok (.istore_n 2, 1) := by decide +kernel
theorem dX0_isGate_2 : decode cX0_isGate 2 = .ok (.iload_n 2, 1) := by decide +kernel
theorem dX0_isGate_3 : decode cX0_isGate 3 = .ok (.aload_n 0, 1) := by decide +kernel
theorem dX0_isGate_4 : decode cX0_isGate 4 = .ok (.getfield 48, 3) := by decide +kernel
theorem dX0_isGate_7 : decode cX0_isGate 7 = .ok (.if_icmp .ge 21, 3) := by decide +kernel
theorem dX0_isGate_10 : decode cX0_isGate 10 = .ok (.aload_n 0, 1) := by decide +kernel
theorem dX0_isGate_11 : decode cX0_isGate 11 = .ok (.getfield 18, 3) := by decide +kernel
theorem dX0_isGate_14 : decode cX0_isGate 14 = .ok (.iload_n 2, 1) := by decide +kernel
theorem dX0_isGate_15 : decode cX0_isGate 15 = .ok (.iaload, 1) := by decide +kernel
theorem dX0_isGate_16 : decode cX0_isGate 16 = .ok (.iload_n 1, 1) := by decide +kernel
theorem dX0_isGate_17 : decode cX0_isGate 17 = .ok (.if_icmp .ne 5, 3) := by decide +kernel
theorem dX0_isGate_20 : decode cX0_isGate 20 = .ok (.iconst 1, 1) := by decide +kernel
theorem dX0_isGate_21 : decode cX0_isGate 21 = .ok (.ireturn, 1) := by decide +kernel
theorem dX0_isGate_22 : decode cX0_isGate 22 = .ok (.iinc 2 1, 3) := by decide +kernel
theorem dX0_isGate_25 : decode cX0_isGate 25 = .ok (.goto (-23), 3) := by decide +kernel
theorem dX0_isGate_28 : decode cX0_isGate 28 = .ok (.iconst 0, 1) := by decide +kernel
theorem dX0_isGate_29 : decode cX0_isGate 29 = .ok (.ireturn, 1) := by decide +kernel
theorem dX0_isOpenedBy_0 : decode cX0_isOpenedBy 0 = .ok (.aload_n 0, 1) := by decide +kernel
theorem dX0_isOpenedBy_1 : decode cX0_isOpenedBy 1 = .ok (.getfield 18, 3) := by decide +kernel
theorem dX0_isOpenedBy_4 : decode cX0_isOpenedBy 4 = .ok (.iload_n 1, 1) := by decide +kernel
theorem dX0_isOpenedBy_5 : decode cX0_isOpenedBy 5 = .ok (.iaload, 1) := by decide +kernel
theorem dX0_isOpenedBy_6 : decode cX0_isOpenedBy 6 = .ok (.istore_n 3, 1) := by decide +kernel
theorem dX0_isOpenedBy_7 : decode cX0_isOpenedBy 7 = .ok (.iload_n 3, 1) := by decide +kernel
theorem dX0_isOpenedBy_8 : decode cX0_isOpenedBy 8 = .ok (.aload_n 0, 1) := by decide +kernel
theorem dX0_isOpenedBy_9 : decode cX0_isOpenedBy 9 = .ok (.getfield 52, 3) := by decide +kernel
theorem dX0_isOpenedBy_12 : decode cX0_isOpenedBy 12 = .ok (.invokestatic 58, 3) := by decide +kernel
theorem dX0_isOpenedBy_15 : decode cX0_isOpenedBy 15 = .ok (.ifCond .eq 17, 3) := by decide +kernel
theorem dX0_isOpenedBy_18 : decode cX0_isOpenedBy 18 = .ok (.aload_n 0, 1) := by decide +kernel
theorem dX0_isOpenedBy_19 : decode cX0_isOpenedBy 19 = .ok (.getfield 21, 3) := by decide +kernel
theorem dX0_isOpenedBy_22 : decode cX0_isOpenedBy 22 = .ok (.iload_n 3, 1) := by decide +kernel
theorem dX0_isOpenedBy_23 : decode cX0_isOpenedBy 23 = .ok (.iaload, 1) := by decide +kernel
theorem dX0_isOpenedBy_24 : decode cX0_isOpenedBy 24 = .ok (.iload_n 2, 1) := by decide +kernel
theorem dX0_isOpenedBy_25 : decode cX0_isOpenedBy 25 = .ok (.if_icmp .ne 7, 3) := by decide +kernel
theorem dX0_isOpenedBy_28 : decode cX0_isOpenedBy 28 = .ok (.iconst 1, 1) := by decide +kernel
theorem dX0_isOpenedBy_29 : decode cX0_isOpenedBy 29 = .ok (.goto 4, 3) := by decide +kernel
theorem dX0_isOpenedBy_32 : decode cX0_isOpenedBy 32 = .ok (.iconst 0, 1) := by decide +kernel
theorem dX0_isOpenedBy_33 : decode cX0_isOpenedBy 33 = .ok (.ireturn, 1) := by decide +kernel
theorem dX0_canReach_0 : decode cX0_canReach 0 = .ok (.aload_n 0, 1) := by decide +kernel
theorem dX0_canReach_1 : decode cX0_canReach 1 = .ok (.iload_n 1, 1) := by decide +kernel
theorem dX0_canReach_2 : decode cX0_canReach 2 = .ok (.invokevirtual 77, 3) := by decide +kernel
theorem dX0_canReach_5 : decode cX0_canReach 5 = .ok (.istore_n 3, 1) := by decide +kernel
theorem dX0_canReach_6 : decode cX0_canReach 6 = .ok (.iload_n 3, 1) := by decide +kernel
theorem dX0_canReach_7 : decode cX0_canReach 7 = .ok (.bipush (-9), 2) := by decide +kernel
theorem dX0_canReach_9 : decode cX0_canReach 9 = .ok (.if_icmp .eq 31, 3) := by decide +kernel
theorem dX0_canReach_12 : decode cX0_canReach 12 = .ok (.iload_n 3, 1) := by decide +kernel
theorem dX0_canReach_13 : decode cX0_canReach 13 = .ok (.aload_n 0, 1) := by decide +kernel
theorem dX0_canReach_14 : decode cX0_canReach 14 = .ok (.getfield 21, 3) := by decide +kernel
theorem dX0_canReach_17 : decode cX0_canReach 17 = .ok (.iload_n 2, 1) := by decide +kernel
theorem dX0_canReach_18 : decode cX0_canReach 18 = .ok (.iaload, 1) := by decide +kernel
theorem dX0_canReach_19 : decode cX0_canReach 19 = .ok (.if_icmp .eq 17, 3) := by decide +kernel
theorem dX0_canReach_22 : decode cX0_canReach 22 = .ok (.aload_n 0, 1) := by decide +kernel
theorem dX0_canReach_23 : decode cX0_canReach 23 = .ok (.aload_n 0, 1) := by decide +kernel
theorem dX0_canReach_24 : decode cX0_canReach 24 = .ok (.getfield 21, 3) := by decide +kernel
theorem dX0_canReach_27 : decode cX0_canReach 27 = .ok (.iload_n 2, 1) := by decide +kernel
theorem dX0_canReach_28 : decode cX0_canReach 28 = .ok (.iaload, 1) := by decide +kernel
theorem dX0_canReach_29 : decode cX0_canReach 29 = .ok (.iload_n 3, 1) := by decide +kernel
theorem dX0_canReach_30 : decode cX0_canReach 30 = .ok (.invokevirtual 80, 3) := by decide +kernel
theorem dX0_canReach_33 : decode cX0_canReach 33 = .ok (.ifCond .eq 7, 3) := by decide +kernel
theorem dX0_canReach_36 : decode cX0_canReach 36 = .ok (.iconst 1, 1) := by decide +kernel
theorem dX0_canReach_37 : decode cX0_canReach 37 = .ok (.goto 4, 3) := by decide +kernel
theorem dX0_canReach_40 : decode cX0_canReach 40 = .ok (.iconst 0, 1) := by decide +kernel
theorem dX0_canReach_41 : decode cX0_canReach 41 = .ok (.ireturn, 1) := by decide +kernel
theorem dX1_copyFrom_0 : decode cX1_copyFrom 0 = .ok (.iconst 0, 1) := by decide +kernel
theorem dX1_copyFrom_1 : decode cX1_copyFrom 1 = .ok (.istore_n 2, 1) := by decide +kernel
theorem dX1_copyFrom_2 : decode cX1_copyFrom 2 = .ok (.iload_n 2, 1) := by decide +kernel
theorem dX1_copyFrom_3 : decode cX1_copyFrom 3 = .ok (.bipush 6, 2) := by decide +kernel
theorem dX1_copyFrom_5 : decode cX1_copyFrom 5 = .ok (.if_icmp .ge 45, 3) := by decide +kernel
theorem dX1_copyFrom_8 : decode cX1_copyFrom 8 = .ok (.aload_n 0, 1) := by decide +kernel
theorem dX1_copyFrom_9 : decode cX1_copyFrom 9 = .ok (.getfield 9, 3) := by decide +kernel
theorem dX1_copyFrom_12 : decode cX1_copyFrom 12 = .ok (.iload_n 2, 1) := by decide +kernel
theorem dX1_copyFrom_13 : decode cX1_copyFrom 13 = .ok (.aload_n 1, 1) := by decide +kernel
theorem dX1_copyFrom_14 : decode cX1_copyFrom 14 = .ok (.getfield 9, 3) := by decide +kernel
theorem dX1_copyFrom_17 : decode cX1_copyFrom 17 = .ok (.iload_n 2, 1) := by decide +kernel
theorem dX1_copyFrom_18 : decode cX1_copyFrom 18 = .ok (.iaload, 1) := by decide +kernel
theorem dX1_copyFrom_19 : decode cX1_copyFrom 19 = .ok (.iastore, 1) := by decide +kernel
theorem dX1_copyFrom_20 : decode cX1_copyFrom 20 = .ok (.aload_n 0, 1) := by decide +kernel
theorem dX1_copyFrom_21 : decode cX1_copyFrom 21 = .ok (.getfield 15, 3) := by decide +kernel
theorem dX1_copyFrom_24 : decode cX1_copyFrom 24 = .ok (.iload_n 2, 1) := by decide +kernel
theorem dX1_copyFrom_25 : decode cX1_copyFrom 25 = .ok (.aload_n 1, 1) := by decide +kernel
theorem dX1_copyFrom_26 : decode cX1_copyFrom 26 = .ok (.getfield 15, 3) := by decide +kernel
theorem dX1_copyFrom_29 : decode cX1_copyFrom 29 = .ok (.iload_n 2, 1) := by decide +kernel
theorem dX1_copyFrom_30 : decode cX1_copyFrom 30 = .ok (.iaload, 1) := by decide +kernel
theorem dX1_copyFrom_31 : decode cX1_copyFrom 31 = .ok (.iastore, 1) := by decide +kernel
theorem dX1_copyFrom_32 : decode cX1_copyFrom 32 = .ok (.aload_n 0, 1) := by decide +kernel
theorem dX1_copyFrom_33 : decode cX1_copyFrom 33 = .ok (.getfield 18, 3) := by decide +kernel
theorem dX1_copyFrom_36 : decode cX1_copyFrom 36 = .ok (.iload_n 2, 1) := by decide +kernel
theorem dX1_copyFrom_37 : decode cX1_copyFrom 37 = .ok (.aload_n 1, 1) := by decide +kernel
theorem dX1_copyFrom_38 : decode cX1_copyFrom 38 = .ok (.getfield 18, 3) := by decide +kernel
theorem dX1_copyFrom_41 : decode cX1_copyFrom 41 = .ok (.iload_n 2, 1) := by decide +kernel
theorem dX1_copyFrom_42 : decode cX1_copyFrom 42 = .ok (.baload, 1) := by decide +kernel
theorem dX1_copyFrom_43 : decode cX1_copyFrom 43 = .ok (.bastore, 1) := by decide +kernel
theorem dX1_copyFrom_44 : decode cX1_copyFrom 44 = .ok (.iinc 2 1, 3) := by decide +kernel
theorem dX1_copyFrom_47 : decode cX1_copyFrom 47 = .ok (.goto (-45), 3) := by decide +kernel
theorem dX1_copyFrom_50 : decode cX1_copyFrom 50 = .ok (.aload_n 1, 1) := by decide +kernel
theorem dX1_copyFrom_51 : decode cX1_copyFrom 51 = .ok (.getfield 22, 3) := by decide +kernel
theorem dX1_copyFrom_54 : decode cX1_copyFrom 54 = .ok (.iconst 0, 1) := by decide +kernel
theorem dX1_copyFrom_55 : decode cX1_copyFrom 55 = .ok (.aload_n 0, 1) := by decide +kernel
theorem dX1_copyFrom_56 : decode cX1_copyFrom 56 = .ok (.getfield 22, 3) := by decide +kernel
theorem dX1_copyFrom_59 : decode cX1_copyFrom 59 = .ok (.iconst 0, 1) := by decide +kernel
theorem dX1_copyFrom_60 : decode cX1_copyFrom 60 = .ok (.bipush 12, 2) := by decide +kernel
theorem dX1_copyFrom_62 : decode cX1_copyFrom 62 = .ok (.invokestatic 25, 3) := by decide +kernel
theorem dX1_copyFrom_65 : decode cX1_copyFrom 65 = .ok (.return_, 1) := by decide +kernel
theorem dX1_mend_0 : decode cX1_mend 0 = .ok (.aload_n 1, 1) := by decide +kernel
theorem dX1_mend_1 : decode cX1_mend 1 = .ok (.getfield 31, 3) := by decide +kernel
theorem dX1_mend_4 : decode cX1_mend 4 = .ok (.iconst 0, 1) := by decide +kernel
theorem dX1_mend_5 : decode cX1_mend 5 = .ok (.aload_n 0, 1) := by decide +kernel
theorem dX1_mend_6 : decode cX1_mend 6 = .ok (.getfield 22, 3) := by decide +kernel
theorem dX1_mend_9 : decode cX1_mend 9 = .ok (.iconst 0, 1) := by decide +kernel
theorem dX1_mend_10 : decode cX1_mend 10 = .ok (.bipush 12, 2) := by decide +kernel
theorem dX1_mend_12 : decode cX1_mend 12 = .ok (.invokestatic 25, 3) := by decide +kernel
theorem dX1_mend_15 : decode cX1_mend 15 = .ok (.return_, 1) := by decide +kernel
theorem dX1_restart_0 : decode cX1_restart 0 = .ok (.iconst 0, 1) := by decide +kernel
theorem dX1_restart_1 : decode cX1_restart 1 = .ok (.istore_n 2, 1) := by decide +kernel
theorem dX1_restart_2 : decode cX1_restart 2 = .ok (.iload_n 2, 1) := by decide +kernel
theorem dX1_restart_3 : decode cX1_restart 3 = .ok (.bipush 6, 2) := by decide +kernel
theorem dX1_restart_5 : decode cX1_restart 5 = .ok (.if_icmp .ge 31, 3) := by decide +kernel
theorem dX1_restart_8 : decode cX1_restart 8 = .ok (.aload_n 0, 1) := by decide +kernel
theorem dX1_restart_9 : decode cX1_restart 9 = .ok (.getfield 9, 3) := by decide +kernel
theorem dX1_restart_12 : decode cX1_restart 12 = .ok (.iload_n 2, 1) := by decide +kernel
theorem dX1_restart_13 : decode cX1_restart 13 = .ok (.iconst 0, 1) := by decide +kernel
theorem dX1_restart_14 : decode cX1_restart 14 = .ok (.iastore, 1) := by decide +kernel
theorem dX1_restart_15 : decode cX1_restart 15 = .ok (.aload_n 0, 1) := by decide +kernel
theorem dX1_restart_16 : decode cX1_restart 16 = .ok (.getfield 15, 3) := by decide +kernel
theorem dX1_restart_19 : decode cX1_restart 19 = .ok (.iload_n 2, 1) := by decide +kernel
theorem dX1_restart_20 : decode cX1_restart 20 = .ok (.bipush (-9), 2) := by decide +kernel
theorem dX1_restart_22 : decode cX1_restart 22 = .ok (.iastore, 1) := by decide +kernel
theorem dX1_restart_23 : decode cX1_restart 23 = .ok (.aload_n 0, 1) := by decide +kernel
theorem dX1_restart_24 : decode cX1_restart 24 = .ok (.getfield 18, 3) := by decide +kernel
theorem dX1_restart_27 : decode cX1_restart 27 = .ok (.iload_n 2, 1) := by decide +kernel
theorem dX1_restart_28 : decode cX1_restart 28 = .ok (.iconst 0, 1) := by decide +kernel
theorem dX1_restart_29 : decode cX1_restart 29 = .ok (.bastore, 1) := by decide +kernel
theorem dX1_restart_30 : decode cX1_restart 30 = .ok (.iinc 2 1, 3) := by decide +kernel
theorem dX1_restart_33 : decode cX1_restart 33 = .ok (.goto (-31), 3) := by decide +kernel
theorem dX1_restart_36 : decode cX1_restart 36 = .ok (.iconst 0, 1) := by decide +kernel
theorem dX1_restart_37 : decode cX1_restart 37 = .ok (.istore_n 2, 1) := by decide +kernel
theorem dX1_restart_38 : decode cX1_restart 38 = .ok (.iload_n 2, 1) := by decide +kernel
theorem dX1_restart_39 : decode cX1_restart 39 = .ok (.aload_n 1, 1) := by decide +kernel
theorem dX1_restart_40 : decode cX1_restart 40 = .ok (.getfield 36, 3) := by decide +kernel
theorem dX1_restart_43 : decode cX1_restart 43 = .ok (.if_icmp .ge 21, 3) := by decide +kernel
theorem dX1_restart_46 : decode cX1_restart 46 = .ok (.aload_n 0, 1) := by decide +kernel
theorem dX1_restart_47 : decode cX1_restart 47 = .ok (.aload_n 1, 1) := by decide +kernel
theorem dX1_restart_48 : decode cX1_restart 48 = .ok (.iload_n 2, 1) := by decide +kernel
theorem dX1_restart_49 : decode cX1_restart 49 = .ok (.aload_n 1, 1) := by decide +kernel
theorem dX1_restart_50 : decode cX1_restart 50 = .ok (.getfield 40, 3) := by decide +kernel
theorem dX1_restart_53 : decode cX1_restart 53 = .ok (.iload_n 2, 1) := by decide +kernel
theorem dX1_restart_54 : decode cX1_restart 54 = .ok (.iaload, 1) := by decide +kernel
theorem dX1_restart_55 : decode cX1_restart 55 = .ok (.invokevirtual 43, 3) := by decide +kernel
theorem dX1_restart_58 : decode cX1_restart 58 = .ok (.iinc 2 1, 3) := by decide +kernel
theorem dX1_restart_61 : decode cX1_restart 61 = .ok (.goto (-23), 3) := by decide +kernel
theorem dX1_restart_64 : decode cX1_restart 64 = .ok (.return_, 1) := by decide +kernel
theorem dX1_valueOf_0 : decode cX1_valueOf 0 = .ok (.aload_n 0, 1) := by decide +kernel
theorem dX1_valueOf_1 : decode cX1_valueOf 1 = .ok (.getfield 9, 3) := by decide +kernel
theorem dX1_valueOf_4 : decode cX1_valueOf 4 = .ok (.aload_n 1, 1) := by decide +kernel
theorem dX1_valueOf_5 : decode cX1_valueOf 5 = .ok (.getfield 47, 3) := by decide +kernel
theorem dX1_valueOf_8 : decode cX1_valueOf 8 = .ok (.iload_n 2, 1) := by decide +kernel
theorem dX1_valueOf_9 : decode cX1_valueOf 9 = .ok (.iaload, 1) := by decide +kernel
theorem dX1_valueOf_10 : decode cX1_valueOf 10 = .ok (.iaload, 1) := by decide +kernel
theorem dX1_valueOf_11 : decode cX1_valueOf 11 = .ok (.aload_n 1, 1) := by decide +kernel
theorem dX1_valueOf_12 : decode cX1_valueOf 12 = .ok (.getfield 50, 3) := by decide +kernel
theorem dX1_valueOf_15 : decode cX1_valueOf 15 = .ok (.iload_n 2, 1) := by decide +kernel
theorem dX1_valueOf_16 : decode cX1_valueOf 16 = .ok (.iaload, 1) := by decide +kernel
theorem dX1_valueOf_17 : decode cX1_valueOf 17 = .ok (.iand, 1) := by decide +kernel
theorem dX1_valueOf_18 : decode cX1_valueOf 18 = .ok (.aload_n 1, 1) := by decide +kernel
theorem dX1_valueOf_19 : decode cX1_valueOf 19 = .ok (.getfield 53, 3) := by decide +kernel
theorem dX1_valueOf_22 : decode cX1_valueOf 22 = .ok (.iload_n 2, 1) := by decide +kernel
theorem dX1_valueOf_23 : decode cX1_valueOf 23 = .ok (.iaload, 1) := by decide +kernel
theorem dX1_valueOf_24 : decode cX1_valueOf 24 = .ok (.ishr, 1) := by decide +kernel
theorem dX1_valueOf_25 : decode cX1_valueOf 25 = .ok (.ireturn, 1) := by decide +kernel
theorem dX1_putValue_0 : decode cX1_putValue 0 = .ok (.aload_n 0, 1) := by decide +kernel
theorem dX1_putValue_1 : decode cX1_putValue 1 = .ok (.aload_n 1, 1) := by decide +kernel
theorem dX1_putValue_2 : decode cX1_putValue 2 = .ok (.iload_n 2, 1) := by decide +kernel
theorem dX1_putValue_3 : decode cX1_putValue 3 = .ok (.iload_n 3, 1) := by decide +kernel
theorem dX1_putValue_4 : decode cX1_putValue 4 = .ok (.aload_n 1, 1) := by decide +kernel
theorem dX1_putValue_5 : decode cX1_putValue 5 = .ok (.getfield 53, 3) := by decide +kernel
theorem dX1_putValue_8 : decode cX1_putValue 8 = .ok (.iload_n 2, 1) := by decide +kernel
theorem dX1_putValue_9 : decode cX1_putValue 9 = .ok (.iaload, 1) := by decide +kernel
theorem dX1_putValue_10 : decode cX1_putValue 10 = .ok (.ishl, 1) := by decide +kernel
theorem dX1_putValue_11 : decode cX1_putValue 11 = .ok (.invokevirtual 56, 3) := by decide +kernel
theorem dX1_putValue_14 : decode cX1_putValue 14 = .ok (.return_, 1) := by decide +kernel
theorem dX1_putBits_0 : decode cX1_putBits 0 = .ok (.aload_n 1, 1) := by decide +kernel
theorem dX1_putBits_1 : decode cX1_putBits 1 = .ok (.getfield 47, 3) := by decide +kernel
theorem dX1_putBits_4 : decode cX1_putBits 4 = .ok (.iload_n 2, 1) := by decide +kernel
theorem dX1_putBits_5 : decode cX1_putBits 5 = .ok (.iaload, 1) := by decide +kernel
theorem dX1_putBits_6 : decode cX1_putBits 6 = .ok (.istore 4, 2) := by decide +kernel
theorem dX1_putBits_8 : decode cX1_putBits 8 = .ok (.aload_n 0, 1) := by decide +kernel
theorem dX1_putBits_9 : decode cX1_putBits 9 = .ok (.getfield 9, 3) := by decide +kernel
theorem dX1_putBits_12 : decode cX1_putBits 12 = .ok (.iload 4, 2) := by decide +kernel
theorem dX1_putBits_14 : decode cX1_putBits 14 = .ok (.aload_n 0, 1) := by decide +kernel
theorem dX1_putBits_15 : decode cX1_putBits 15 = .ok (.getfield 9, 3) := by decide +kernel
theorem dX1_putBits_18 : decode cX1_putBits 18 = .ok (.iload 4, 2) := by decide +kernel
theorem dX1_putBits_20 : decode cX1_putBits 20 = .ok (.iaload, 1) := by decide +kernel
theorem dX1_putBits_21 : decode cX1_putBits 21 = .ok (.aload_n 1, 1) := by decide +kernel
theorem dX1_putBits_22 : decode cX1_putBits 22 = .ok (.getfield 50, 3) := by decide +kernel
theorem dX1_putBits_25 : decode cX1_putBits 25 = .ok (.iload_n 2, 1) := by decide +kernel
theorem dX1_putBits_26 : decode cX1_putBits 26 = .ok (.iaload, 1) := by decide +kernel
theorem dX1_putBits_27 : decode cX1_putBits 27 = .ok (.iconst (-1), 1) := by decide +kernel
theorem dX1_putBits_28 : decode cX1_putBits 28 = .ok (.ixor, 1) := by decide +kernel
theorem dX1_putBits_29 : decode cX1_putBits 29 = .ok (.iand, 1) := by decide +kernel
theorem dX1_putBits_30 : decode cX1_putBits 30 = .ok (.iload_n 3, 1) := by decide +kernel
theorem dX1_putBits_31 : decode cX1_putBits 31 = .ok (.aload_n 1, 1) := by decide +kernel
theorem dX1_putBits_32 : decode cX1_putBits 32 = .ok (.getfield 50, 3) := by decide +kernel
theorem dX1_putBits_35 : decode cX1_putBits 35 = .ok (.iload_n 2, 1) := by decide +kernel
theorem dX1_putBits_36 : decode cX1_putBits 36 = .ok (.iaload, 1) := by decide +kernel
theorem dX1_putBits_37 : decode cX1_putBits 37 = .ok (.iand, 1) := by decide +kernel
theorem dX1_putBits_38 : decode cX1_putBits 38 = .ok (.ior, 1) := by decide +kernel
theorem dX1_putBits_39 : decode cX1_putBits 39 = .ok (.iastore, 1) := by decide +kernel
theorem dX1_putBits_40 : decode cX1_putBits 40 = .ok (.return_, 1) := by decide +kernel
theorem dX1_brokenFields_0 : decode cX1_brokenFields 0 = .ok (.iconst 0, 1) := by decide +kernel
theorem dX1_brokenFields_1 : decode cX1_brokenFields 1 = .ok (.istore_n 2, 1) := by decide +kernel
theorem dX1_brokenFields_2 : decode cX1_brokenFields 2 = .ok (.iconst 0, 1) := by decide +kernel
theorem dX1_brokenFields_3 : decode cX1_brokenFields 3 = .ok (.istore_n 3, 1) := by decide +kernel
theorem dX1_brokenFields_4 : decode cX1_brokenFields 4 = .ok (.iload_n 3, 1) := by decide +kernel
theorem dX1_brokenFields_5 : decode cX1_brokenFields 5 = .ok (.aload_n 1, 1) := by decide +kernel
theorem dX1_brokenFields_6 : decode cX1_brokenFields 6 = .ok (.getfield 36, 3) := by decide +kernel
theorem dX1_brokenFields_9 : decode cX1_brokenFields 9 = .ok (.if_icmp .ge 27, 3) := by decide +kernel
theorem dX1_brokenFields_12 : decode cX1_brokenFields 12 = .ok (.aload_n 0, 1) := by decide +kernel
theorem dX1_brokenFields_13 : decode cX1_brokenFields 13 = .ok (.getfield 22, 3) := by decide +kernel
theorem dX1_brokenFields_16 : decode cX1_brokenFields 16 = .ok (.iload_n 3, 1) := by decide +kernel
theorem dX1_brokenFields_17 : decode cX1_brokenFields 17 = .ok (.iaload, 1) := by decide +kernel
theorem dX1_brokenFields_18 : decode cX1_brokenFields 18 = .ok (.aload_n 1, 1) := by decide +kernel
theorem dX1_brokenFields_19 : decode cX1_brokenFields 19 = .ok (.getfield 31, 3) := by decide +kernel
theorem dX1_brokenFields_22 : decode cX1_brokenFields 22 = .ok (.iload_n 3, 1) := by decide +kernel
theorem dX1_brokenFields_23 : decode cX1_brokenFields 23 = .ok (.iaload, 1) := by decide +kernel
theorem dX1_brokenFields_24 : decode cX1_brokenFields 24 = .ok (.if_icmp .eq 6, 3) := by decide +kernel
theorem dX1_brokenFields_27 : decode cX1_brokenFields 27 = .ok (.iinc 2 1, 3) := by decide +kernel
theorem dX1_brokenFields_30 : decode cX1_brokenFields 30 = .ok (.iinc 3 1, 3) := by decide +kernel
theorem dX1_brokenFields_33 : decode cX1_brokenFields 33 = .ok (.goto (-29), 3) := by decide +kernel
theorem dX1_brokenFields_36 : decode cX1_brokenFields 36 = .ok (.iload_n 2, 1) := by decide +kernel
theorem dX1_brokenFields_37 : decode cX1_brokenFields 37 = .ok (.ireturn, 1) := by decide +kernel
theorem dX1_isLocked_0 : decode cX1_isLocked 0 = .ok (.aload_n 1, 1) := by decide +kernel
theorem dX1_isLocked_1 : decode cX1_isLocked 1 = .ok (.getfield 59, 3) := by decide +kernel
theorem dX1_isLocked_4 : decode cX1_isLocked 4 = .ok (.iload_n 2, 1) := by decide +kernel
theorem dX1_isLocked_5 : decode cX1_isLocked 5 = .ok (.iaload, 1) := by decide +kernel
theorem dX1_isLocked_6 : decode cX1_isLocked 6 = .ok (.istore_n 3, 1) := by decide +kernel
theorem dX1_isLocked_7 : decode cX1_isLocked 7 = .ok (.iload_n 3, 1) := by decide +kernel
theorem dX1_isLocked_8 : decode cX1_isLocked 8 = .ok (.aload_n 1, 1) := by decide +kernel
theorem dX1_isLocked_9 : decode cX1_isLocked 9 = .ok (.getfield 36, 3) := by decide +kernel
theorem dX1_isLocked_12 : decode cX1_isLocked 12 = .ok (.invokestatic 62, 3) := by decide +kernel
theorem dX1_isLocked_15 : decode cX1_isLocked 15 = .ok (.ifCond .eq 16, 3) := by decide +kernel
theorem dX1_isLocked_18 : decode cX1_isLocked 18 = .ok (.aload_n 0, 1) := by decide +kernel
theorem dX1_isLocked_19 : decode cX1_isLocked 19 = .ok (.aload_n 1, 1) := by decide +kernel
theorem dX1_isLocked_20 : decode cX1_isLocked 20 = .ok (.iload_n 3, 1) := by decide +kernel
theorem dX1_isLocked_21 : decode cX1_isLocked 21 = .ok (.invokevirtual 66, 3) := by decide +kernel
theorem dX1_isLocked_24 : decode cX1_isLocked 24 = .ok (.ifCond .eq 7, 3) := by decide +kernel
theorem dX1_isLocked_27 : decode cX1_isLocked 27 = .ok (.iconst 1, 1) := by decide +kernel
theorem dX1_isLocked_28 : decode cX1_isLocked 28 = .ok (.goto 4, 3) := by decide +kernel
theorem dX1_isLocked_31 : decode cX1_isLocked 31 = .ok (.iconst 0, 1) := by decide +kernel
theorem dX1_isLocked_32 : decode cX1_isLocked 32 = .ok (.ireturn, 1) := by decide +kernel
theorem dX1_shown_0 : decode cX1_shown 0 = .ok (.aload_n 0, 1) := by decide +kernel
theorem dX1_shown_1 : decode cX1_shown 1 = .ok (.getfield 9, 3) := by decide +kernel
theorem dX1_shown_4 : decode cX1_shown 4 = .ok (.iload_n 2, 1) := by decide +kernel
theorem dX1_shown_5 : decode cX1_shown 5 = .ok (.iaload, 1) := by decide +kernel
theorem dX1_shown_6 : decode cX1_shown 6 = .ok (.istore_n 3, 1) := by decide +kernel
theorem dX1_shown_7 : decode cX1_shown 7 = .ok (.iconst 0, 1) := by decide +kernel
theorem dX1_shown_8 : decode cX1_shown 8 = .ok (.istore 4, 2) := by decide +kernel
theorem dX1_shown_10 : decode cX1_shown 10 = .ok (.iload 4, 2) := by decide +kernel
theorem dX1_shown_12 : decode cX1_shown 12 = .ok (.aload_n 1, 1) := by decide +kernel
theorem dX1_shown_13 : decode cX1_shown 13 = .ok (.getfield 36, 3) := by decide +kernel
theorem dX1_shown_16 : decode cX1_shown 16 = .ok (.if_icmp .ge 43, 3) := by decide +kernel
theorem dX1_shown_19 : decode cX1_shown 19 = .ok (.aload_n 1, 1) := by decide +kernel
theorem dX1_shown_20 : decode cX1_shown 20 = .ok (.getfield 47, 3) := by decide +kernel
theorem dX1_shown_23 : decode cX1_shown 23 = .ok (.iload 4, 2) := by decide +kernel
theorem dX1_shown_25 : decode cX1_shown 25 = .ok (.iaload, 1) := by decide +kernel
theorem dX1_shown_26 : decode cX1_shown 26 = .ok (.iload_n 2, 1) := by decide +kernel
theorem dX1_shown_27 : decode cX1_shown 27 = .ok (.if_icmp .ne 26, 3) := by decide +kernel
theorem dX1_shown_30 : decode cX1_shown 30 = .ok (.aload_n 0, 1) := by decide +kernel
theorem dX1_shown_31 : decode cX1_shown 31 = .ok (.getfield 22, 3) := by decide +kernel
theorem dX1_shown_34 : decode cX1_shown 34 = .ok (.iload 4, 2) := by decide +kernel
theorem dX1_shown_36 : decode cX1_shown 36 = .ok (.iaload, 1) := by decide +kernel
theorem dX1_shown_37 : decode cX1_shown 37 = .ok (.iconst 2, 1) := by decide +kernel
theorem dX1_shown_38 : decode cX1_shown 38 = .ok (.if_icmp .ne 15, 3) := by decide +kernel
theorem dX1_shown_41 : decode cX1_shown 41 = .ok (.iload_n 3, 1) := by decide +kernel
theorem dX1_shown_42 : decode cX1_shown 42 = .ok (.aload_n 1, 1) := by decide +kernel
theorem dX1_shown_43 : decode cX1_shown 43 = .ok (.getfield 50, 3) := by decide +kernel
theorem dX1_shown_46 : decode cX1_shown 46 = .ok (.iload 4, 2) := by decide +kernel
theorem dX1_shown_48 : decode cX1_shown 48 = .ok (.iaload, 1) := by decide +kernel
theorem dX1_shown_49 : decode cX1_shown 49 = .ok (.iconst (-1), 1) := by decide +kernel
theorem dX1_shown_50 : decode cX1_shown 50 = .ok (.ixor, 1) := by decide +kernel
theorem dX1_shown_51 : decode cX1_shown 51 = .ok (.iand, 1) := by decide +kernel
theorem dX1_shown_52 : decode cX1_shown 52 = .ok (.istore_n 3, 1) := by decide +kernel
theorem dX1_shown_53 : decode cX1_shown 53 = .ok (.iinc 4 1, 3) := by decide +kernel
theorem dX1_shown_56 : decode cX1_shown 56 = .ok (.goto (-46), 3) := by decide +kernel
theorem dX1_shown_59 : decode cX1_shown 59 = .ok (.iload_n 3, 1) := by decide +kernel
theorem dX1_shown_60 : decode cX1_shown 60 = .ok (.ireturn, 1) := by decide +kernel
theorem dX1_look_0 : decode cX1_look 0 = .ok (.aload_n 1, 1) := by decide +kernel
theorem dX1_look_1 : decode cX1_look 1 = .ok (.iload_n 2, 1) := by decide +kernel
theorem dX1_look_2 : decode cX1_look 2 = .ok (.invokevirtual 70, 3) := by decide +kernel
theorem dX1_look_5 : decode cX1_look 5 = .ok (.istore_n 3, 1) := by decide +kernel
theorem dX1_look_6 : decode cX1_look 6 = .ok (.iload_n 3, 1) := by decide +kernel
theorem dX1_look_7 : decode cX1_look 7 = .ok (.bipush (-9), 2) := by decide +kernel
theorem dX1_look_9 : decode cX1_look 9 = .ok (.if_icmp .ne 7, 3) := by decide +kernel
theorem dX1_look_12 : decode cX1_look 12 = .ok (.iconst 0, 1) := by decide +kernel
theorem dX1_look_13 : decode cX1_look 13 = .ok (.goto 9, 3) := by decide +kernel
theorem dX1_look_16 : decode cX1_look 16 = .ok (.aload_n 0, 1) := by decide +kernel
theorem dX1_look_17 : decode cX1_look 17 = .ok (.aload_n 1, 1) := by decide +kernel
theorem dX1_look_18 : decode cX1_look 18 = .ok (.iload_n 3, 1) := by decide +kernel
theorem dX1_look_19 : decode cX1_look 19 = .ok (.invokevirtual 74, 3) := by decide +kernel
theorem dX1_look_22 : decode cX1_look 22 = .ok (.ireturn, 1) := by decide +kernel
theorem dX1_read_0 : decode cX1_read 0 = .ok (.aload_n 0, 1) := by decide +kernel
theorem dX1_read_1 : decode cX1_read 1 = .ok (.aload_n 1, 1) := by decide +kernel
theorem dX1_read_2 : decode cX1_read 2 = .ok (.iload_n 2, 1) := by decide +kernel
theorem dX1_read_3 : decode cX1_read 3 = .ok (.invokevirtual 77, 3) := by decide +kernel
theorem dX1_read_6 : decode cX1_read 6 = .ok (.istore_n 3, 1) := by decide +kernel
theorem dX1_read_7 : decode cX1_read 7 = .ok (.aload_n 1, 1) := by decide +kernel
theorem dX1_read_8 : decode cX1_read 8 = .ok (.iload_n 2, 1) := by decide +kernel
theorem dX1_read_9 : decode cX1_read 9 = .ok (.invokevirtual 80, 3) := by decide +kernel
theorem dX1_read_12 : decode cX1_read 12 = .ok (.istore 4, 2) := by decide +kernel
theorem dX1_read_14 : decode cX1_read 14 = .ok (.iconst 0, 1) := by decide +kernel
theorem dX1_read_15 : decode cX1_read 15 = .ok (.istore 5, 2) := by decide +kernel
theorem dX1_read_17 : decode cX1_read 17 = .ok (.iload 5, 2) := by decide +kernel
theorem dX1_read_19 : decode cX1_read 19 = .ok (.aload_n 1, 1) := by decide +kernel
theorem dX1_read_20 : decode cX1_read 20 = .ok (.getfield 36, 3) := by decide +kernel
theorem dX1_read_23 : decode cX1_read 23 = .ok (.if_icmp .ge 41, 3) := by decide +kernel
theorem dX1_read_26 : decode cX1_read 26 = .ok (.aload_n 1, 1) := by decide +kernel
theorem dX1_read_27 : decode cX1_read 27 = .ok (.getfield 47, 3) := by decide +kernel
theorem dX1_read_30 : decode cX1_read 30 = .ok (.iload 5, 2) := by decide +kernel
theorem dX1_read_32 : decode cX1_read 32 = .ok (.iaload, 1) := by decide +kernel
theorem dX1_read_33 : decode cX1_read 33 = .ok (.iload 4, 2) := by decide +kernel
theorem dX1_read_35 : decode cX1_read 35 = .ok (.if_icmp .ne 23, 3) := by decide +kernel
theorem dX1_read_38 : decode cX1_read 38 = .ok (.aload_n 0, 1) := by decide +kernel
theorem dX1_read_39 : decode cX1_read 39 = .ok (.getfield 22, 3) := by decide +kernel
theorem dX1_read_42 : decode cX1_read 42 = .ok (.iload 5, 2) := by decide +kernel
theorem dX1_read_44 : decode cX1_read 44 = .ok (.iaload, 1) := by decide +kernel
theorem dX1_read_45 : decode cX1_read 45 = .ok (.bipush 6, 2) := by decide +kernel
theorem dX1_read_47 : decode cX1_read 47 = .ok (.if_icmp .ne 11, 3) := by decide +kernel
theorem dX1_read_50 : decode cX1_read 50 = .ok (.aload_n 0, 1) := by decide +kernel
theorem dX1_read_51 : decode cX1_read 51 = .ok (.aload_n 1, 1) := by decide +kernel
theorem dX1_read_52 : decode cX1_read 52 = .ok (.iload 5, 2) := by decide +kernel
theorem dX1_read_54 : decode cX1_read 54 = .ok (.iconst 0, 1) := by decide +kernel
theorem dX1_read_55 : decode cX1_read 55 = .ok (.invokevirtual 56, 3) := by decide +kernel
theorem dX1_read_58 : decode cX1_read 58 = .ok (.iinc 5 1, 3) := by decide +kernel
theorem dX1_read_61 : decode cX1_read 61 = .ok (.goto (-44), 3) := by decide +kernel
theorem dX1_read_64 : decode cX1_read 64 = .ok (.iload_n 3, 1) := by decide +kernel
theorem dX1_read_65 : decode cX1_read 65 = .ok (.ireturn, 1) := by decide +kernel
theorem dX1_learn_0 : decode cX1_learn 0 = .ok (.aload_n 1, 1) := by decide +kernel
theorem dX1_learn_1 : decode cX1_learn 1 = .ok (.iload_n 2, 1) := by decide +kernel
theorem dX1_learn_2 : decode cX1_learn 2 = .ok (.invokevirtual 70, 3) := by decide +kernel
theorem dX1_learn_5 : decode cX1_learn 5 = .ok (.istore 4, 2) := by decide +kernel
theorem dX1_learn_7 : decode cX1_learn 7 = .ok (.iconst 0, 1) := by decide +kernel
theorem dX1_learn_8 : decode cX1_learn 8 = .ok (.istore 5, 2) := by decide +kernel
theorem dX1_learn_10 : decode cX1_learn 10 = .ok (.iload 5, 2) := by decide +kernel
theorem dX1_learn_12 : decode cX1_learn 12 = .ok (.aload_n 1, 1) := by decide +kernel
theorem dX1_learn_13 : decode cX1_learn 13 = .ok (.getfield 36, 3) := by decide +kernel
theorem dX1_learn_16 : decode cX1_learn 16 = .ok (.if_icmp .ge 40, 3) := by decide +kernel
theorem dX1_learn_19 : decode cX1_learn 19 = .ok (.aload_n 1, 1) := by decide +kernel
theorem dX1_learn_20 : decode cX1_learn 20 = .ok (.getfield 47, 3) := by decide +kernel
theorem dX1_learn_23 : decode cX1_learn 23 = .ok (.iload 5, 2) := by decide +kernel
theorem dX1_learn_25 : decode cX1_learn 25 = .ok (.iaload, 1) := by decide +kernel
theorem dX1_learn_26 : decode cX1_learn 26 = .ok (.iload 4, 2) := by decide +kernel
theorem dX1_learn_28 : decode cX1_learn 28 = .ok (.if_icmp .ne 22, 3) := by decide +kernel
theorem dX1_learn_31 : decode cX1_learn 31 = .ok (.aload_n 0, 1) := by decide +kernel
theorem dX1_learn_32 : decode cX1_learn 32 = .ok (.getfield 22, 3) := by decide +kernel
theorem dX1_learn_35 : decode cX1_learn 35 = .ok (.iload 5, 2) := by decide +kernel
theorem dX1_learn_37 : decode cX1_learn 37 = .ok (.iaload, 1) := by decide +kernel
theorem dX1_learn_38 : decode cX1_learn 38 = .ok (.iconst 2, 1) := by decide +kernel
theorem dX1_learn_39 : decode cX1_learn 39 = .ok (.if_icmp .eq 11, 3) := by decide +kernel
theorem dX1_learn_42 : decode cX1_learn 42 = .ok (.aload_n 0, 1) := by decide +kernel
theorem dX1_learn_43 : decode cX1_learn 43 = .ok (.aload_n 1, 1) := by decide +kernel
theorem dX1_learn_44 : decode cX1_learn 44 = .ok (.iload 5, 2) := by decide +kernel
theorem dX1_learn_46 : decode cX1_learn 46 = .ok (.iload_n 3, 1) := by decide +kernel
theorem dX1_learn_47 : decode cX1_learn 47 = .ok (.invokevirtual 56, 3) := by decide +kernel
theorem dX1_learn_50 : decode cX1_learn 50 = .ok (.iinc 5 1, 3) := by decide +kernel
theorem dX1_learn_53 : decode cX1_learn 53 = .ok (.goto (-43), 3) := by decide +kernel
theorem dX1_learn_56 : decode cX1_learn 56 = .ok (.return_, 1) := by decide +kernel
theorem dX1_write_0 : decode cX1_write 0 = .ok (.aload_n 1, 1) := by decide +kernel
theorem dX1_write_1 : decode cX1_write 1 = .ok (.iload_n 2, 1) := by decide +kernel
theorem dX1_write_2 : decode cX1_write 2 = .ok (.invokevirtual 70, 3) := by decide +kernel
theorem dX1_write_5 : decode cX1_write 5 = .ok (.istore 4, 2) := by decide +kernel
theorem dX1_write_7 : decode cX1_write 7 = .ok (.iload 4, 2) := by decide +kernel
theorem dX1_write_9 : decode cX1_write 9 = .ok (.bipush (-9), 2) := by decide +kernel
theorem dX1_write_11 : decode cX1_write 11 = .ok (.if_icmp .eq 13, 3) := by decide +kernel
theorem dX1_write_14 : decode cX1_write 14 = .ok (.aload_n 0, 1) := by decide +kernel
theorem dX1_write_15 : decode cX1_write 15 = .ok (.aload_n 1, 1) := by decide +kernel
theorem dX1_write_16 : decode cX1_write 16 = .ok (.iload 4, 2) := by decide +kernel
theorem dX1_write_18 : decode cX1_write 18 = .ok (.invokevirtual 83, 3) := by decide +kernel
theorem dX1_write_21 : decode cX1_write 21 = .ok (.ifCond .eq 4, 3) := by decide +kernel
theorem dX1_write_24 : decode cX1_write 24 = .ok (.return_, 1) := by decide +kernel
theorem dX1_write_25 : decode cX1_write 25 = .ok (.aload_n 1, 1) := by decide +kernel
theorem dX1_write_26 : decode cX1_write 26 = .ok (.iload_n 2, 1) := by decide +kernel
theorem dX1_write_27 : decode cX1_write 27 = .ok (.invokevirtual 87, 3) := by decide +kernel
theorem dX1_write_30 : decode cX1_write 30 = .ok (.istore 5, 2) := by decide +kernel
theorem dX1_write_32 : decode cX1_write 32 = .ok (.iload 5, 2) := by decide +kernel
theorem dX1_write_34 : decode cX1_write 34 = .ok (.bipush (-9), 2) := by decide +kernel
theorem dX1_write_36 : decode cX1_write 36 = .ok (.if_icmp .eq 21, 3) := by decide +kernel
theorem dX1_write_39 : decode cX1_write 39 = .ok (.aload_n 0, 1) := by decide +kernel
theorem dX1_write_40 : decode cX1_write 40 = .ok (.aload_n 1, 1) := by decide +kernel
theorem dX1_write_41 : decode cX1_write 41 = .ok (.iload 4, 2) := by decide +kernel
theorem dX1_write_43 : decode cX1_write 43 = .ok (.iload_n 3, 1) := by decide +kernel
theorem dX1_write_44 : decode cX1_write 44 = .ok (.aload_n 1, 1) := by decide +kernel
theorem dX1_write_45 : decode cX1_write 45 = .ok (.getfield 90, 3) := by decide +kernel
theorem dX1_write_48 : decode cX1_write 48 = .ok (.iload 5, 2) := by decide +kernel
theorem dX1_write_50 : decode cX1_write 50 = .ok (.iaload, 1) := by decide +kernel
theorem dX1_write_51 : decode cX1_write 51 = .ok (.invokevirtual 93, 3) := by decide +kernel
theorem dX1_write_54 : decode cX1_write 54 = .ok (.goto 35, 3) := by decide +kernel
theorem dX1_write_57 : decode cX1_write 57 = .ok (.aload_n 1, 1) := by decide +kernel
theorem dX1_write_58 : decode cX1_write 58 = .ok (.getfield 97, 3) := by decide +kernel
theorem dX1_write_61 : decode cX1_write 61 = .ok (.iload 4, 2) := by decide +kernel
theorem dX1_write_63 : decode cX1_write 63 = .ok (.iaload, 1) := by decide +kernel
theorem dX1_write_64 : decode cX1_write 64 = .ok (.bipush (-9), 2) := by decide +kernel
theorem dX1_write_66 : decode cX1_write 66 = .ok (.if_icmp .ne 14, 3) := by decide +kernel
theorem dX1_write_69 : decode cX1_write 69 = .ok (.aload_n 0, 1) := by decide +kernel
theorem dX1_write_70 : decode cX1_write 70 = .ok (.aload_n 1, 1) := by decide +kernel
theorem dX1_write_71 : decode cX1_write 71 = .ok (.iload 4, 2) := by decide +kernel
theorem dX1_write_73 : decode cX1_write 73 = .ok (.iload_n 3, 1) := by decide +kernel
theorem dX1_write_74 : decode cX1_write 74 = .ok (.invokevirtual 100, 3) := by decide +kernel
theorem dX1_write_77 : decode cX1_write 77 = .ok (.goto 12, 3) := by decide +kernel
theorem dX1_write_80 : decode cX1_write 80 = .ok (.aload_n 0, 1) := by decide +kernel
theorem dX1_write_81 : decode cX1_write 81 = .ok (.getfield 15, 3) := by decide +kernel
theorem dX1_write_84 : decode cX1_write 84 = .ok (.iload 4, 2) := by decide +kernel
theorem dX1_write_86 : decode cX1_write 86 = .ok (.iload_n 3, 1) := by decide +kernel
theorem dX1_write_87 : decode cX1_write 87 = .ok (.iastore, 1) := by decide +kernel
theorem dX1_write_88 : decode cX1_write 88 = .ok (.return_, 1) := by decide +kernel
theorem dX1_write_89 : decode cX1_write 89 = .ok (.aload_n 0, 1) := by decide +kernel
theorem dX1_write_90 : decode cX1_write 90 = .ok (.aload_n 1, 1) := by decide +kernel
theorem dX1_write_91 : decode cX1_write 91 = .ok (.iload 4, 2) := by decide +kernel
theorem dX1_write_93 : decode cX1_write 93 = .ok (.iload_n 3, 1) := by decide +kernel
theorem dX1_write_94 : decode cX1_write 94 = .ok (.invokevirtual 103, 3) := by decide +kernel
theorem dX1_write_97 : decode cX1_write 97 = .ok (.return_, 1) := by decide +kernel
theorem dX1_letIn_0 : decode cX1_letIn 0 = .ok (.iconst 0, 1) := by decide +kernel
theorem dX1_letIn_1 : decode cX1_letIn 1 = .ok (.istore 4, 2) := by decide +kernel
theorem dX1_letIn_3 : decode cX1_letIn 3 = .ok (.iload 4, 2) := by decide +kernel
theorem dX1_letIn_5 : decode cX1_letIn 5 = .ok (.aload_n 1, 1) := by decide +kernel
theorem dX1_letIn_6 : decode cX1_letIn 6 = .ok (.getfield 36, 3) := by decide +kernel
theorem dX1_letIn_9 : decode cX1_letIn 9 = .ok (.if_icmp .ge 40, 3) := by decide +kernel
theorem dX1_letIn_12 : decode cX1_letIn 12 = .ok (.aload_n 1, 1) := by decide +kernel
theorem dX1_letIn_13 : decode cX1_letIn 13 = .ok (.getfield 47, 3) := by decide +kernel
theorem dX1_letIn_16 : decode cX1_letIn 16 = .ok (.iload 4, 2) := by decide +kernel
theorem dX1_letIn_18 : decode cX1_letIn 18 = .ok (.iaload, 1) := by decide +kernel
theorem dX1_letIn_19 : decode cX1_letIn 19 = .ok (.iload_n 2, 1) := by decide +kernel
theorem dX1_letIn_20 : decode cX1_letIn 20 = .ok (.if_icmp .ne 23, 3) := by decide +kernel
theorem dX1_letIn_23 : decode cX1_letIn 23 = .ok (.aload_n 0, 1) := by decide +kernel
theorem dX1_letIn_24 : decode cX1_letIn 24 = .ok (.aload_n 1, 1) := by decide +kernel
theorem dX1_letIn_25 : decode cX1_letIn 25 = .ok (.iload 4, 2) := by decide +kernel
theorem dX1_letIn_27 : decode cX1_letIn 27 = .ok (.aload_n 0, 1) := by decide +kernel
theorem dX1_letIn_28 : decode cX1_letIn 28 = .ok (.iload_n 2, 1) := by decide +kernel
theorem dX1_letIn_29 : decode cX1_letIn 29 = .ok (.iload_n 3, 1) := by decide +kernel
theorem dX1_letIn_30 : decode cX1_letIn 30 = .ok (.aload_n 0, 1) := by decide +kernel
theorem dX1_letIn_31 : decode cX1_letIn 31 = .ok (.getfield 22, 3) := by decide +kernel
theorem dX1_letIn_34 : decode cX1_letIn 34 = .ok (.iload 4, 2) := by decide +kernel
theorem dX1_letIn_36 : decode cX1_letIn 36 = .ok (.iaload, 1) := by decide +kernel
theorem dX1_letIn_37 : decode cX1_letIn 37 = .ok (.invokevirtual 106, 3) := by decide +kernel
theorem dX1_letIn_40 : decode cX1_letIn 40 = .ok (.invokevirtual 56, 3) := by decide +kernel
theorem dX1_letIn_43 : decode cX1_letIn 43 = .ok (.iinc 4 1, 3) := by decide +kernel
theorem dX1_letIn_46 : decode cX1_letIn 46 = .ok (.goto (-43), 3) := by decide +kernel
theorem dX1_letIn_49 : decode cX1_letIn 49 = .ok (.aload_n 0, 1) := by decide +kernel
theorem dX1_letIn_50 : decode cX1_letIn 50 = .ok (.getfield 18, 3) := by decide +kernel
theorem dX1_letIn_53 : decode cX1_letIn 53 = .ok (.iload_n 2, 1) := by decide +kernel
theorem dX1_letIn_54 : decode cX1_letIn 54 = .ok (.iconst 1, 1) := by decide +kernel
theorem dX1_letIn_55 : decode cX1_letIn 55 = .ok (.bastore, 1) := by decide +kernel
theorem dX1_letIn_56 : decode cX1_letIn 56 = .ok (.return_, 1) := by decide +kernel
theorem dX1_letInByAlias_0 : decode cX1_letInByAlias 0 = .ok (.iconst 0, 1) := by decide +kernel
theorem dX1_letInByAlias_1 : decode cX1_letInByAlias 1 = .ok (.istore 5, 2) := by decide +kernel
theorem dX1_letInByAlias_3 : decode cX1_letInByAlias 3 = .ok (.iload 5, 2) := by decide +kernel
theorem dX1_letInByAlias_5 : decode cX1_letInByAlias 5 = .ok (.aload_n 1, 1) := by decide +kernel
theorem dX1_letInByAlias_6 : decode cX1_letInByAlias 6 = .ok (.getfield 36, 3) := by decide +kernel
theorem dX1_letInByAlias_9 : decode cX1_letInByAlias 9 = .ok (.if_icmp .ge 58, 3) := by decide +kernel
theorem dX1_letInByAlias_12 : decode cX1_letInByAlias 12 = .ok (.aload_n 1, 1) := by decide +kernel
theorem dX1_letInByAlias_13 : decode cX1_letInByAlias 13 = .ok (.getfield 47, 3) := by decide +kernel
theorem dX1_letInByAlias_16 : decode cX1_letInByAlias 16 = .ok (.iload 5, 2) := by decide +kernel
theorem dX1_letInByAlias_18 : decode cX1_letInByAlias 18 = .ok (.iaload, 1) := by decide +kernel
theorem dX1_letInByAlias_19 : decode cX1_letInByAlias 19 = .ok (.iload_n 2, 1) := by decide +kernel
theorem dX1_letInByAlias_20 : decode cX1_letInByAlias 20 = .ok (.if_icmp .ne 41, 3) := by decide +kernel
theorem dX1_letInByAlias_23 : decode cX1_letInByAlias 23 = .ok (.aload_n 0, 1) := by decide +kernel
theorem dX1_letInByAlias_24 : decode cX1_letInByAlias 24 = .ok (.getfield 22, 3) := by decide +kernel
theorem dX1_letInByAlias_27 : decode cX1_letInByAlias 27 = .ok (.iload 5, 2) := by decide +kernel
theorem dX1_letInByAlias_29 : decode cX1_letInByAlias 29 = .ok (.iaload, 1) := by decide +kernel
theorem dX1_letInByAlias_30 : decode cX1_letInByAlias 30 = .ok (.iconst 1, 1) := by decide +kernel
theorem dX1_letInByAlias_31 : decode cX1_letInByAlias 31 = .ok (.if_icmp .eq 30, 3) := by decide +kernel
theorem dX1_letInByAlias_34 : decode cX1_letInByAlias 34 = .ok (.aload_n 0, 1) := by decide +kernel
theorem dX1_letInByAlias_35 : decode cX1_letInByAlias 35 = .ok (.getfield 22, 3) := by decide +kernel
theorem dX1_letInByAlias_38 : decode cX1_letInByAlias 38 = .ok (.iload 5, 2) := by decide +kernel
theorem dX1_letInByAlias_40 : decode cX1_letInByAlias 40 = .ok (.iaload, 1) := by decide +kernel
theorem dX1_letInByAlias_41 : decode cX1_letInByAlias 41 = .ok (.bipush 6, 2) := by decide +kernel
theorem dX1_letInByAlias_43 : decode cX1_letInByAlias 43 = .ok (.if_icmp .eq 18, 3) := by decide +kernel
theorem dX1_letInByAlias_46 : decode cX1_letInByAlias 46 = .ok (.aload_n 0, 1) := by decide +kernel
theorem dX1_letInByAlias_47 : decode cX1_letInByAlias 47 = .ok (.aload_n 1, 1) := by decide +kernel
theorem dX1_letInByAlias_48 : decode cX1_letInByAlias 48 = .ok (.iload 5, 2) := by decide +kernel
theorem dX1_letInByAlias_50 : decode cX1_letInByAlias 50 = .ok (.aload_n 0, 1) := by decide +kernel
theorem dX1_letInByAlias_51 : decode cX1_letInByAlias 51 = .ok (.iload_n 2, 1) := by decide +kernel
theorem dX1_letInByAlias_52 : decode cX1_letInByAlias 52 = .ok (.iload_n 3, 1) := by decide +kernel
theorem dX1_letInByAlias_53 : decode cX1_letInByAlias 53 = .ok (.iload 4, 2) := by decide +kernel
theorem dX1_letInByAlias_55 : decode cX1_letInByAlias 55 = .ok (.invokevirtual 106, 3) := by decide +kernel
theorem dX1_letInByAlias_58 : decode cX1_letInByAlias 58 = .ok (.invokevirtual 56, 3) := by decide +kernel
theorem dX1_letInByAlias_61 : decode cX1_letInByAlias 61 = .ok (.iinc 5 1, 3) := by decide +kernel
theorem dX1_letInByAlias_64 : decode cX1_letInByAlias 64 = .ok (.goto (-61), 3) := by decide +kernel
theorem dX1_letInByAlias_67 : decode cX1_letInByAlias 67 = .ok (.return_, 1) := by decide +kernel
theorem dX1_bitsAfter_0 : decode cX1_bitsAfter 0 = .ok (.iload_n 3, 1) := by decide +kernel
theorem dX1_bitsAfter_1 : decode cX1_bitsAfter 1 = .ok (.tableswitch 98 0 7 #[47, 98, 47, 49, 60, 69, 98, 78], 47) := by decide +kernel
theorem dX1_bitsAfter_48 : decode cX1_bitsAfter 48 = .ok (.iload_n 2, 1) := by decide +kernel
theorem dX1_bitsAfter_49 : decode cX1_bitsAfter 49 = .ok (.ireturn, 1) := by decide +kernel
theorem dX1_bitsAfter_50 : decode cX1_bitsAfter 50 = .ok (.aload_n 0, 1) := by decide +kernel
theorem dX1_bitsAfter_51 : decode cX1_bitsAfter 51 = .ok (.getfield 9, 3) := by decide +kernel
theorem dX1_bitsAfter_54 : decode cX1_bitsAfter 54 = .ok (.iload_n 1, 1) := by decide +kernel
theorem dX1_bitsAfter_55 : decode cX1_bitsAfter 55 = .ok (.iaload, 1) := by decide +kernel
theorem dX1_bitsAfter_56 : decode cX1_bitsAfter 56 = .ok (.iload_n 2, 1) := by decide +kernel
theorem dX1_bitsAfter_57 : decode cX1_bitsAfter 57 = .ok (.iconst (-1), 1) := by decide +kernel
theorem dX1_bitsAfter_58 : decode cX1_bitsAfter 58 = .ok (.ixor, 1) := by decide +kernel
theorem dX1_bitsAfter_59 : decode cX1_bitsAfter 59 = .ok (.iand, 1) := by decide +kernel
theorem dX1_bitsAfter_60 : decode cX1_bitsAfter 60 = .ok (.ireturn, 1) := by decide +kernel
theorem dX1_bitsAfter_61 : decode cX1_bitsAfter 61 = .ok (.aload_n 0, 1) := by decide +kernel
theorem dX1_bitsAfter_62 : decode cX1_bitsAfter 62 = .ok (.getfield 9, 3) := by decide +kernel
theorem dX1_bitsAfter_65 : decode cX1_bitsAfter 65 = .ok (.iload_n 1, 1) := by decide +kernel
theorem dX1_bitsAfter_66 : decode cX1_bitsAfter 66 = .ok (.iaload, 1) := by decide +kernel
theorem dX1_bitsAfter_67 : decode cX1_bitsAfter 67 = .ok (.iload_n 2, 1) := by decide +kernel
theorem dX1_bitsAfter_68 : decode cX1_bitsAfter 68 = .ok (.ior, 1) := by decide +kernel
theorem dX1_bitsAfter_69 : decode cX1_bitsAfter 69 = .ok (.ireturn, 1) := by decide +kernel
theorem dX1_bitsAfter_70 : decode cX1_bitsAfter 70 = .ok (.aload_n 0, 1) := by decide +kernel
theorem dX1_bitsAfter_71 : decode cX1_bitsAfter 71 = .ok (.getfield 9, 3) := by decide +kernel
theorem dX1_bitsAfter_74 : decode cX1_bitsAfter 74 = .ok (.iload_n 1, 1) := by decide +kernel
theorem dX1_bitsAfter_75 : decode cX1_bitsAfter 75 = .ok (.iaload, 1) := by decide +kernel
theorem dX1_bitsAfter_76 : decode cX1_bitsAfter 76 = .ok (.iload_n 2, 1) := by decide +kernel
theorem dX1_bitsAfter_77 : decode cX1_bitsAfter 77 = .ok (.ixor, 1) := by decide +kernel
theorem dX1_bitsAfter_78 : decode cX1_bitsAfter 78 = .ok (.ireturn, 1) := by decide +kernel
theorem dX1_bitsAfter_79 : decode cX1_bitsAfter 79 = .ok (.aload_n 0, 1) := by decide +kernel
theorem dX1_bitsAfter_80 : decode cX1_bitsAfter 80 = .ok (.getfield 18, 3) := by decide +kernel
theorem dX1_bitsAfter_83 : decode cX1_bitsAfter 83 = .ok (.iload_n 1, 1) := by decide +kernel
theorem dX1_bitsAfter_84 : decode cX1_bitsAfter 84 = .ok (.baload, 1) := by decide +kernel
theorem dX1_bitsAfter_85 : decode cX1_bitsAfter 85 = .ok (.ifCond .eq 12, 3) := by decide +kernel
theorem dX1_bitsAfter_88 : decode cX1_bitsAfter 88 = .ok (.aload_n 0, 1) := by decide +kernel
theorem dX1_bitsAfter_89 : decode cX1_bitsAfter 89 = .ok (.getfield 9, 3) := by decide +kernel
theorem dX1_bitsAfter_92 : decode cX1_bitsAfter 92 = .ok (.iload_n 1, 1) := by decide +kernel
theorem dX1_bitsAfter_93 : decode cX1_bitsAfter 93 = .ok (.iaload, 1) := by decide +kernel
theorem dX1_bitsAfter_94 : decode cX1_bitsAfter 94 = .ok (.goto 4, 3) := by decide +kernel
theorem dX1_bitsAfter_97 : decode cX1_bitsAfter 97 = .ok (.iload_n 2, 1) := by decide +kernel
theorem dX1_bitsAfter_98 : decode cX1_bitsAfter 98 = .ok (.ireturn, 1) := by decide +kernel
theorem dX1_bitsAfter_99 : decode cX1_bitsAfter 99 = .ok (.aload_n 0, 1) := by decide +kernel
theorem dX1_bitsAfter_100 : decode cX1_bitsAfter 100 = .ok (.getfield 9, 3) := by decide +kernel
theorem dX1_bitsAfter_103 : decode cX1_bitsAfter 103 = .ok (.iload_n 1, 1) := by decide +kernel
theorem dX1_bitsAfter_104 : decode cX1_bitsAfter 104 = .ok (.iaload, 1) := by decide +kernel
theorem dX1_bitsAfter_105 : decode cX1_bitsAfter 105 = .ok (.ireturn, 1) := by decide +kernel
theorem dX1_openGates_0 : decode cX1_openGates 0 = .ok (.iconst 0, 1) := by decide +kernel
theorem dX1_openGates_1 : decode cX1_openGates 1 = .ok (.istore 4, 2) := by decide +kernel
theorem dX1_openGates_3 : decode cX1_openGates 3 = .ok (.iload 4, 2) := by decide +kernel
theorem dX1_openGates_5 : decode cX1_openGates 5 = .ok (.aload_n 1, 1) := by decide +kernel
theorem dX1_openGates_6 : decode cX1_openGates 6 = .ok (.getfield 110, 3) := by decide +kernel
theorem dX1_openGates_9 : decode cX1_openGates 9 = .ok (.if_icmp .ge 86, 3) := by decide +kernel
theorem dX1_openGates_12 : decode cX1_openGates 12 = .ok (.aload_n 0, 1) := by decide +kernel
theorem dX1_openGates_13 : decode cX1_openGates 13 = .ok (.getfield 15, 3) := by decide +kernel
theorem dX1_openGates_16 : decode cX1_openGates 16 = .ok (.iload 4, 2) := by decide +kernel
theorem dX1_openGates_18 : decode cX1_openGates 18 = .ok (.iaload, 1) := by decide +kernel
theorem dX1_openGates_19 : decode cX1_openGates 19 = .ok (.bipush (-9), 2) := by decide +kernel
theorem dX1_openGates_21 : decode cX1_openGates 21 = .ok (.if_icmp .eq 68, 3) := by decide +kernel
theorem dX1_openGates_24 : decode cX1_openGates 24 = .ok (.aload_n 1, 1) := by decide +kernel
theorem dX1_openGates_25 : decode cX1_openGates 25 = .ok (.iload 4, 2) := by decide +kernel
theorem dX1_openGates_27 : decode cX1_openGates 27 = .ok (.iload_n 2, 1) := by decide +kernel
theorem dX1_openGates_28 : decode cX1_openGates 28 = .ok (.invokevirtual 113, 3) := by decide +kernel
theorem dX1_openGates_31 : decode cX1_openGates 31 = .ok (.ifCond .eq 58, 3) := by decide +kernel
theorem dX1_openGates_34 : decode cX1_openGates 34 = .ok (.iload_n 3, 1) := by decide +kernel
theorem dX1_openGates_35 : decode cX1_openGates 35 = .ok (.aload_n 1, 1) := by decide +kernel
theorem dX1_openGates_36 : decode cX1_openGates 36 = .ok (.getfield 53, 3) := by decide +kernel
theorem dX1_openGates_39 : decode cX1_openGates 39 = .ok (.aload_n 1, 1) := by decide +kernel
theorem dX1_openGates_40 : decode cX1_openGates 40 = .ok (.getfield 97, 3) := by decide +kernel
theorem dX1_openGates_43 : decode cX1_openGates 43 = .ok (.iload 4, 2) := by decide +kernel
theorem dX1_openGates_45 : decode cX1_openGates 45 = .ok (.iaload, 1) := by decide +kernel
theorem dX1_openGates_46 : decode cX1_openGates 46 = .ok (.iaload, 1) := by decide +kernel
theorem dX1_openGates_47 : decode cX1_openGates 47 = .ok (.ishr, 1) := by decide +kernel
theorem dX1_openGates_48 : decode cX1_openGates 48 = .ok (.iconst 1, 1) := by decide +kernel
theorem dX1_openGates_49 : decode cX1_openGates 49 = .ok (.iand, 1) := by decide +kernel
theorem dX1_openGates_50 : decode cX1_openGates 50 = .ok (.ifCond .ne 6, 3) := by decide +kernel
theorem dX1_openGates_53 : decode cX1_openGates 53 = .ok (.goto 36, 3) := by decide +kernel
theorem dX1_openGates_56 : decode cX1_openGates 56 = .ok (.aload_n 0, 1) := by decide +kernel
theorem dX1_openGates_57 : decode cX1_openGates 57 = .ok (.aload_n 1, 1) := by decide +kernel
theorem dX1_openGates_58 : decode cX1_openGates 58 = .ok (.iload 4, 2) := by decide +kernel
theorem dX1_openGates_60 : decode cX1_openGates 60 = .ok (.invokevirtual 83, 3) := by decide +kernel
theorem dX1_openGates_63 : decode cX1_openGates 63 = .ok (.ifCond .ne 17, 3) := by decide +kernel
theorem dX1_openGates_66 : decode cX1_openGates 66 = .ok (.aload_n 0, 1) := by decide +kernel
theorem dX1_openGates_67 : decode cX1_openGates 67 = .ok (.aload_n 1, 1) := by decide +kernel
theorem dX1_openGates_68 : decode cX1_openGates 68 = .ok (.iload 4, 2) := by decide +kernel
theorem dX1_openGates_70 : decode cX1_openGates 70 = .ok (.aload_n 0, 1) := by decide +kernel
theorem dX1_openGates_71 : decode cX1_openGates 71 = .ok (.getfield 15, 3) := by decide +kernel
theorem dX1_openGates_74 : decode cX1_openGates 74 = .ok (.iload 4, 2) := by decide +kernel
theorem dX1_openGates_76 : decode cX1_openGates 76 = .ok (.iaload, 1) := by decide +kernel
theorem dX1_openGates_77 : decode cX1_openGates 77 = .ok (.invokevirtual 100, 3) := by decide +kernel
theorem dX1_openGates_80 : decode cX1_openGates 80 = .ok (.aload_n 0, 1) := by decide +kernel
theorem dX1_openGates_81 : decode cX1_openGates 81 = .ok (.getfield 15, 3) := by decide +kernel
theorem dX1_openGates_84 : decode cX1_openGates 84 = .ok (.iload 4, 2) := by decide +kernel
theorem dX1_openGates_86 : decode cX1_openGates 86 = .ok (.bipush (-9), 2) := by decide +kernel
theorem dX1_openGates_88 : decode cX1_openGates 88 = .ok (.iastore, 1) := by decide +kernel
theorem dX1_openGates_89 : decode cX1_openGates 89 = .ok (.iinc 4 1, 3) := by decide +kernel
theorem dX1_openGates_92 : decode cX1_openGates 92 = .ok (.goto (-89), 3) := by decide +kernel
theorem dX1_openGates_95 : decode cX1_openGates 95 = .ok (.return_, 1) := by decide +kernel
theorem dX3_copyFrom_0 : decode cX3_copyFrom 0 = .ok (.aload_n 0, 1) := by decide +kernel
theorem dX3_copyFrom_1 : decode cX3_copyFrom 1 = .ok (.aload_n 1, 1) := by decide +kernel
theorem dX3_copyFrom_2 : decode cX3_copyFrom 2 = .ok (.getfield 22, 3) := by decide +kernel
theorem dX3_copyFrom_5 : decode cX3_copyFrom 5 = .ok (.putfield 22, 3) := by decide +kernel
theorem dX3_copyFrom_8 : decode cX3_copyFrom 8 = .ok (.iconst 0, 1) := by decide +kernel
theorem dX3_copyFrom_9 : decode cX3_copyFrom 9 = .ok (.istore_n 2, 1) := by decide +kernel
theorem dX3_copyFrom_10 : decode cX3_copyFrom 10 = .ok (.iload_n 2, 1) := by decide +kernel
theorem dX3_copyFrom_11 : decode cX3_copyFrom 11 = .ok (.bipush 20, 2) := by decide +kernel
theorem dX3_copyFrom_13 : decode cX3_copyFrom 13 = .ok (.if_icmp .ge 45, 3) := by decide +kernel
theorem dX3_copyFrom_16 : decode cX3_copyFrom 16 = .ok (.aload_n 0, 1) := by decide +kernel
theorem dX3_copyFrom_17 : decode cX3_copyFrom 17 = .ok (.getfield 9, 3) := by decide +kernel
theorem dX3_copyFrom_20 : decode cX3_copyFrom 20 = .ok (.iload_n 2, 1) := by decide +kernel
theorem dX3_copyFrom_21 : decode cX3_copyFrom 21 = .ok (.aload_n 1, 1) := by decide +kernel
theorem dX3_copyFrom_22 : decode cX3_copyFrom 22 = .ok (.getfield 9, 3) := by decide +kernel
theorem dX3_copyFrom_25 : decode cX3_copyFrom 25 = .ok (.iload_n 2, 1) := by decide +kernel
theorem dX3_copyFrom_26 : decode cX3_copyFrom 26 = .ok (.iaload, 1) := by decide +kernel
theorem dX3_copyFrom_27 : decode cX3_copyFrom 27 = .ok (.iastore, 1) := by decide +kernel
theorem dX3_copyFrom_28 : decode cX3_copyFrom 28 = .ok (.aload_n 0, 1) := by decide +kernel
theorem dX3_copyFrom_29 : decode cX3_copyFrom 29 = .ok (.getfield 15, 3) := by decide +kernel
theorem dX3_copyFrom_32 : decode cX3_copyFrom 32 = .ok (.iload_n 2, 1) := by decide +kernel
theorem dX3_copyFrom_33 : decode cX3_copyFrom 33 = .ok (.aload_n 1, 1) := by decide +kernel
theorem dX3_copyFrom_34 : decode cX3_copyFrom 34 = .ok (.getfield 15, 3) := by decide +kernel
theorem dX3_copyFrom_37 : decode cX3_copyFrom 37 = .ok (.iload_n 2, 1) := by decide +kernel
theorem dX3_copyFrom_38 : decode cX3_copyFrom 38 = .ok (.baload, 1) := by decide +kernel
theorem dX3_copyFrom_39 : decode cX3_copyFrom 39 = .ok (.bastore, 1) := by decide +kernel
theorem dX3_copyFrom_40 : decode cX3_copyFrom 40 = .ok (.aload_n 0, 1) := by decide +kernel
theorem dX3_copyFrom_41 : decode cX3_copyFrom 41 = .ok (.getfield 19, 3) := by decide +kernel
theorem dX3_copyFrom_44 : decode cX3_copyFrom 44 = .ok (.iload_n 2, 1) := by decide +kernel
theorem dX3_copyFrom_45 : decode cX3_copyFrom 45 = .ok (.aload_n 1, 1) := by decide +kernel
theorem dX3_copyFrom_46 : decode cX3_copyFrom 46 = .ok (.getfield 19, 3) := by decide +kernel
theorem dX3_copyFrom_49 : decode cX3_copyFrom 49 = .ok (.iload_n 2, 1) := by decide +kernel
theorem dX3_copyFrom_50 : decode cX3_copyFrom 50 = .ok (.iaload, 1) := by decide +kernel
theorem dX3_copyFrom_51 : decode cX3_copyFrom 51 = .ok (.iastore, 1) := by decide +kernel
theorem dX3_copyFrom_52 : decode cX3_copyFrom 52 = .ok (.iinc 2 1, 3) := by decide +kernel
theorem dX3_copyFrom_55 : decode cX3_copyFrom 55 = .ok (.goto (-45), 3) := by decide +kernel
theorem dX3_copyFrom_58 : decode cX3_copyFrom 58 = .ok (.return_, 1) := by decide +kernel
theorem dX3_append_0 : decode cX3_append 0 = .ok (.aload_n 0, 1) := by decide +kernel
theorem dX3_append_1 : decode cX3_append 1 = .ok (.getfield 22, 3) := by decide +kernel
theorem dX3_append_4 : decode cX3_append 4 = .ok (.bipush 20, 2) := by decide +kernel
theorem dX3_append_6 : decode cX3_append 6 = .ok (.if_icmp .lt 4, 3) := by decide +kernel
theorem dX3_append_9 : decode cX3_append 9 = .ok (.return_, 1) := by decide +kernel
theorem dX3_append_10 : decode cX3_append 10 = .ok (.aload_n 0, 1) := by decide +kernel
theorem dX3_append_11 : decode cX3_append 11 = .ok (.getfield 9, 3) := by decide +kernel
theorem dX3_append_14 : decode cX3_append 14 = .ok (.aload_n 0, 1) := by decide +kernel
theorem dX3_append_15 : decode cX3_append 15 = .ok (.getfield 22, 3) := by decide +kernel
theorem dX3_append_18 : decode cX3_append 18 = .ok (.iload_n 1, 1) := by decide +kernel
theorem dX3_append_19 : decode cX3_append 19 = .ok (.iastore, 1) := by decide +kernel
theorem dX3_append_20 : decode cX3_append 20 = .ok (.aload_n 0, 1) := by decide +kernel
theorem dX3_append_21 : decode cX3_append 21 = .ok (.getfield 15, 3) := by decide +kernel
theorem dX3_append_24 : decode cX3_append 24 = .ok (.aload_n 0, 1) := by decide +kernel
theorem dX3_append_25 : decode cX3_append 25 = .ok (.getfield 22, 3) := by decide +kernel
theorem dX3_append_28 : decode cX3_append 28 = .ok (.iload_n 2, 1) := by decide +kernel
theorem dX3_append_29 : decode cX3_append 29 = .ok (.bastore, 1) := by decide +kernel
theorem dX3_append_30 : decode cX3_append 30 = .ok (.aload_n 0, 1) := by decide +kernel
theorem dX3_append_31 : decode cX3_append 31 = .ok (.getfield 19, 3) := by decide +kernel
theorem dX3_append_34 : decode cX3_append 34 = .ok (.aload_n 0, 1) := by decide +kernel
theorem dX3_append_35 : decode cX3_append 35 = .ok (.getfield 22, 3) := by decide +kernel
theorem dX3_append_38 : decode cX3_append 38 = .ok (.iload_n 3, 1) := by decide +kernel
theorem dX3_append_39 : decode cX3_append 39 = .ok (.iastore, 1) := by decide +kernel
theorem dX3_append_40 : decode cX3_append 40 = .ok (.aload_n 0, 1) := by decide +kernel
theorem dX3_append_41 : decode cX3_append 41 = .ok (.dup, 1) := by decide +kernel
theorem dX3_append_42 : decode cX3_append 42 = .ok (.getfield 22, 3) := by decide +kernel
theorem dX3_append_45 : decode cX3_append 45 = .ok (.iconst 1, 1) := by decide +kernel
theorem dX3_append_46 : decode cX3_append 46 = .ok (.iadd, 1) := by decide +kernel
theorem dX3_append_47 : decode cX3_append 47 = .ok (.putfield 22, 3) := by decide +kernel
theorem dX3_append_50 : decode cX3_append 50 = .ok (.return_, 1) := by decide +kernel
theorem dX3_agreesWith_0 : decode cX3_agreesWith 0 = .ok (.iconst 0, 1) := by decide +kernel
theorem dX3_agreesWith_1 : decode cX3_agreesWith 1 = .ok (.istore_n 3, 1) := by decide +kernel
theorem dX3_agreesWith_2 : decode cX3_agreesWith 2 = .ok (.iload_n 3, 1) := by decide +kernel
theorem dX3_agreesWith_3 : decode cX3_agreesWith 3 = .ok (.aload_n 0, 1) := by decide +kernel
theorem dX3_agreesWith_4 : decode cX3_agreesWith 4 = .ok (.getfield 22, 3) := by decide +kernel
theorem dX3_agreesWith_7 : decode cX3_agreesWith 7 = .ok (.if_icmp .ge 60, 3) := by decide +kernel
theorem dX3_agreesWith_10 : decode cX3_agreesWith 10 = .ok (.aload_n 0, 1) := by decide +kernel
theorem dX3_agreesWith_11 : decode cX3_agreesWith 11 = .ok (.getfield 15, 3) := by decide +kernel
theorem dX3_agreesWith_14 : decode cX3_agreesWith 14 = .ok (.iload_n 3, 1) := by decide +kernel
theorem dX3_agreesWith_15 : decode cX3_agreesWith 15 = .ok (.baload, 1) := by decide +kernel
theorem dX3_agreesWith_16 : decode cX3_agreesWith 16 = .ok (.ifCond .eq 23, 3) := by decide +kernel
theorem dX3_agreesWith_19 : decode cX3_agreesWith 19 = .ok (.aload_n 1, 1) := by decide +kernel
theorem dX3_agreesWith_20 : decode cX3_agreesWith 20 = .ok (.aload_n 2, 1) := by decide +kernel
theorem dX3_agreesWith_21 : decode cX3_agreesWith 21 = .ok (.aload_n 0, 1) := by decide +kernel
theorem dX3_agreesWith_22 : decode cX3_agreesWith 22 = .ok (.getfield 9, 3) := by decide +kernel
theorem dX3_agreesWith_25 : decode cX3_agreesWith 25 = .ok (.iload_n 3, 1) := by decide +kernel
theorem dX3_agreesWith_26 : decode cX3_agreesWith 26 = .ok (.iaload, 1) := by decide +kernel
theorem dX3_agreesWith_27 : decode cX3_agreesWith 27 = .ok (.aload_n 0, 1) := by decide +kernel
theorem dX3_agreesWith_28 : decode cX3_agreesWith 28 = .ok (.getfield 19, 3) := by decide +kernel
theorem dX3_agreesWith_31 : decode cX3_agreesWith 31 = .ok (.iload_n 3, 1) := by decide +kernel
theorem dX3_agreesWith_32 : decode cX3_agreesWith 32 = .ok (.iaload, 1) := by decide +kernel
theorem dX3_agreesWith_33 : decode cX3_agreesWith 33 = .ok (.invokevirtual 26, 3) := by decide +kernel
theorem dX3_agreesWith_36 : decode cX3_agreesWith 36 = .ok (.goto 25, 3) := by decide +kernel
theorem dX3_agreesWith_39 : decode cX3_agreesWith 39 = .ok (.aload_n 1, 1) := by decide +kernel
theorem dX3_agreesWith_40 : decode cX3_agreesWith 40 = .ok (.aload_n 2, 1) := by decide +kernel
theorem dX3_agreesWith_41 : decode cX3_agreesWith 41 = .ok (.aload_n 0, 1) := by decide +kernel
theorem dX3_agreesWith_42 : decode cX3_agreesWith 42 = .ok (.getfield 9, 3) := by decide +kernel
theorem dX3_agreesWith_45 : decode cX3_agreesWith 45 = .ok (.iload_n 3, 1) := by decide +kernel
theorem dX3_agreesWith_46 : decode cX3_agreesWith 46 = .ok (.iaload, 1) := by decide +kernel
theorem dX3_agreesWith_47 : decode cX3_agreesWith 47 = .ok (.invokevirtual 32, 3) := by decide +kernel
theorem dX3_agreesWith_50 : decode cX3_agreesWith 50 = .ok (.aload_n 0, 1) := by decide +kernel
theorem dX3_agreesWith_51 : decode cX3_agreesWith 51 = .ok (.getfield 19, 3) := by decide +kernel
theorem dX3_agreesWith_54 : decode cX3_agreesWith 54 = .ok (.iload_n 3, 1) := by decide +kernel
theorem dX3_agreesWith_55 : decode cX3_agreesWith 55 = .ok (.iaload, 1) := by decide +kernel
theorem dX3_agreesWith_56 : decode cX3_agreesWith 56 = .ok (.if_icmp .eq 5, 3) := by decide +kernel
theorem dX3_agreesWith_59 : decode cX3_agreesWith 59 = .ok (.iconst 0, 1) := by decide +kernel
theorem dX3_agreesWith_60 : decode cX3_agreesWith 60 = .ok (.ireturn, 1) := by decide +kernel
theorem dX3_agreesWith_61 : decode cX3_agreesWith 61 = .ok (.iinc 3 1, 3) := by decide +kernel
theorem dX3_agreesWith_64 : decode cX3_agreesWith 64 = .ok (.goto (-62), 3) := by decide +kernel
theorem dX3_agreesWith_67 : decode cX3_agreesWith 67 = .ok (.iconst 1, 1) := by decide +kernel
theorem dX3_agreesWith_68 : decode cX3_agreesWith 68 = .ok (.ireturn, 1) := by decide +kernel
theorem dX5_copyFrom_0 : decode cX5_copyFrom 0 = .ok (.aload_n 0, 1) := by decide +kernel
theorem dX5_copyFrom_1 : decode cX5_copyFrom 1 = .ok (.getfield 12, 3) := by decide +kernel
theorem dX5_copyFrom_4 : decode cX5_copyFrom 4 = .ok (.aload_n 1, 1) := by decide +kernel
theorem dX5_copyFrom_5 : decode cX5_copyFrom 5 = .ok (.getfield 12, 3) := by decide +kernel
theorem dX5_copyFrom_8 : decode cX5_copyFrom 8 = .ok (.invokevirtual 32, 3) := by decide +kernel
theorem dX5_copyFrom_11 : decode cX5_copyFrom 11 = .ok (.aload_n 0, 1) := by decide +kernel
theorem dX5_copyFrom_12 : decode cX5_copyFrom 12 = .ok (.getfield 18, 3) := by decide +kernel
theorem dX5_copyFrom_15 : decode cX5_copyFrom 15 = .ok (.aload_n 1, 1) := by decide +kernel
theorem dX5_copyFrom_16 : decode cX5_copyFrom 16 = .ok (.getfield 18, 3) := by decide +kernel
theorem dX5_copyFrom_19 : decode cX5_copyFrom 19 = .ok (.invokevirtual 32, 3) := by decide +kernel
theorem dX5_copyFrom_22 : decode cX5_copyFrom 22 = .ok (.aload_n 0, 1) := by decide +kernel
theorem dX5_copyFrom_23 : decode cX5_copyFrom 23 = .ok (.getfield 24, 3) := by decide +kernel
theorem dX5_copyFrom_26 : decode cX5_copyFrom 26 = .ok (.aload_n 1, 1) := by decide +kernel
theorem dX5_copyFrom_27 : decode cX5_copyFrom 27 = .ok (.getfield 24, 3) := by decide +kernel
theorem dX5_copyFrom_30 : decode cX5_copyFrom 30 = .ok (.invokevirtual 36, 3) := by decide +kernel
theorem dX5_copyFrom_33 : decode cX5_copyFrom 33 = .ok (.aload_n 0, 1) := by decide +kernel
theorem dX5_copyFrom_34 : decode cX5_copyFrom 34 = .ok (.aload_n 1, 1) := by decide +kernel
theorem dX5_copyFrom_35 : decode cX5_copyFrom 35 = .ok (.getfield 39, 3) := by decide +kernel
theorem dX5_copyFrom_38 : decode cX5_copyFrom 38 = .ok (.putfield 39, 3) := by decide +kernel
theorem dX5_copyFrom_41 : decode cX5_copyFrom 41 = .ok (.aload_n 0, 1) := by decide +kernel
theorem dX5_copyFrom_42 : decode cX5_copyFrom 42 = .ok (.aload_n 1, 1) := by decide +kernel
theorem dX5_copyFrom_43 : decode cX5_copyFrom 43 = .ok (.getfield 28, 3) := by decide +kernel
theorem dX5_copyFrom_46 : decode cX5_copyFrom 46 = .ok (.putfield 28, 3) := by decide +kernel
theorem dX5_copyFrom_49 : decode cX5_copyFrom 49 = .ok (.return_, 1) := by decide +kernel
theorem dX5_startWith_0 : decode cX5_startWith 0 = .ok (.aload_n 0, 1) := by decide +kernel
theorem dX5_startWith_1 : decode cX5_startWith 1 = .ok (.getfield 12, 3) := by decide +kernel
theorem dX5_startWith_4 : decode cX5_startWith 4 = .ok (.aload_n 1, 1) := by decide +kernel
theorem dX5_startWith_5 : decode cX5_startWith 5 = .ok (.invokevirtual 42, 3) := by decide +kernel
theorem dX5_startWith_8 : decode cX5_startWith 8 = .ok (.aload_n 0, 1) := by decide +kernel
theorem dX5_startWith_9 : decode cX5_startWith 9 = .ok (.getfield 18, 3) := by decide +kernel
theorem dX5_startWith_12 : decode cX5_startWith 12 = .ok (.aload_n 1, 1) := by decide +kernel
theorem dX5_startWith_13 : decode cX5_startWith 13 = .ok (.invokevirtual 42, 3) := by decide +kernel
theorem dX5_startWith_16 : decode cX5_startWith 16 = .ok (.aload_n 0, 1) := by decide +kernel
theorem dX5_startWith_17 : decode cX5_startWith 17 = .ok (.aload_n 1, 1) := by decide +kernel
theorem dX5_startWith_18 : decode cX5_startWith 18 = .ok (.invokevirtual 46, 3) := by decide +kernel
theorem dX5_startWith_21 : decode cX5_startWith 21 = .ok (.return_, 1) := by decide +kernel
theorem dX5_restart_0 : decode cX5_restart 0 = .ok (.aload_n 0, 1) := by decide +kernel
theorem dX5_restart_1 : decode cX5_restart 1 = .ok (.getfield 12, 3) := by decide +kernel
theorem dX5_restart_4 : decode cX5_restart 4 = .ok (.aload_n 1, 1) := by decide +kernel
theorem dX5_restart_5 : decode cX5_restart 5 = .ok (.invokevirtual 49, 3) := by decide +kernel
theorem dX5_restart_8 : decode cX5_restart 8 = .ok (.aload_n 0, 1) := by decide +kernel
theorem dX5_restart_9 : decode cX5_restart 9 = .ok (.getfield 18, 3) := by decide +kernel
theorem dX5_restart_12 : decode cX5_restart 12 = .ok (.aload_n 1, 1) := by decide +kernel
theorem dX5_restart_13 : decode cX5_restart 13 = .ok (.invokevirtual 49, 3) := by decide +kernel
theorem dX5_restart_16 : decode cX5_restart 16 = .ok (.aload_n 0, 1) := by decide +kernel
theorem dX5_restart_17 : decode cX5_restart 17 = .ok (.getfield 24, 3) := by decide +kernel
theorem dX5_restart_20 : decode cX5_restart 20 = .ok (.iconst 0, 1) := by decide +kernel
theorem dX5_restart_21 : decode cX5_restart 21 = .ok (.putfield 50, 3) := by decide +kernel
theorem dX5_restart_24 : decode cX5_restart 24 = .ok (.aload_n 0, 1) := by decide +kernel
theorem dX5_restart_25 : decode cX5_restart 25 = .ok (.iconst 0, 1) := by decide +kernel
theorem dX5_restart_26 : decode cX5_restart 26 = .ok (.putfield 39, 3) := by decide +kernel
theorem dX5_restart_29 : decode cX5_restart 29 = .ok (.aload_n 0, 1) := by decide +kernel
theorem dX5_restart_30 : decode cX5_restart 30 = .ok (.bipush (-9), 2) := by decide +kernel
theorem dX5_restart_32 : decode cX5_restart 32 = .ok (.putfield 28, 3) := by decide +kernel
theorem dX5_restart_35 : decode cX5_restart 35 = .ok (.return_, 1) := by decide +kernel
theorem dX5_performRead_0 : decode cX5_performRead 0 = .ok (.aload_n 0, 1) := by decide +kernel
theorem dX5_performRead_1 : decode cX5_performRead 1 = .ok (.getfield 12, 3) := by decide +kernel
theorem dX5_performRead_4 : decode cX5_performRead 4 = .ok (.aload_n 1, 1) := by decide +kernel
theorem dX5_performRead_5 : decode cX5_performRead 5 = .ok (.iload_n 2, 1) := by decide +kernel
theorem dX5_performRead_6 : decode cX5_performRead 6 = .ok (.invokevirtual 53, 3) := by decide +kernel
theorem dX5_performRead_9 : decode cX5_performRead 9 = .ok (.istore_n 3, 1) := by decide +kernel
theorem dX5_performRead_10 : decode cX5_performRead 10 = .ok (.aload_n 0, 1) := by decide +kernel
theorem dX5_performRead_11 : decode cX5_performRead 11 = .ok (.iload_n 3, 1) := by decide +kernel
theorem dX5_performRead_12 : decode cX5_performRead 12 = .ok (.aload_n 0, 1) := by decide +kernel
theorem dX5_performRead_13 : decode cX5_performRead 13 = .ok (.getfield 18, 3) := by decide +kernel
theorem dX5_performRead_16 : decode cX5_performRead 16 = .ok (.aload_n 1, 1) := by decide +kernel
theorem dX5_performRead_17 : decode cX5_performRead 17 = .ok (.iload_n 2, 1) := by decide +kernel
theorem dX5_performRead_18 : decode cX5_performRead 18 = .ok (.invokevirtual 57, 3) := by decide +kernel
theorem dX5_performRead_21 : decode cX5_performRead 21 = .ok (.ixor, 1) := by decide +kernel
theorem dX5_performRead_22 : decode cX5_performRead 22 = .ok (.putfield 28, 3) := by decide +kernel
theorem dX5_performRead_25 : decode cX5_performRead 25 = .ok (.aload_n 0, 1) := by decide +kernel
theorem dX5_performRead_26 : decode cX5_performRead 26 = .ok (.getfield 28, 3) := by decide +kernel
theorem dX5_performRead_29 : decode cX5_performRead 29 = .ok (.ifCond .eq 13, 3) := by decide +kernel
theorem dX5_performRead_32 : decode cX5_performRead 32 = .ok (.aload_n 0, 1) := by decide +kernel
theorem dX5_performRead_33 : decode cX5_performRead 33 = .ok (.dup, 1) := by decide +kernel
theorem dX5_performRead_34 : decode cX5_performRead 34 = .ok (.getfield 39, 3) := by decide +kernel
theorem dX5_performRead_37 : decode cX5_performRead 37 = .ok (.iconst 1, 1) := by decide +kernel
theorem dX5_performRead_38 : decode cX5_performRead 38 = .ok (.iadd, 1) := by decide +kernel
theorem dX5_performRead_39 : decode cX5_performRead 39 = .ok (.putfield 39, 3) := by decide +kernel
theorem dX5_performRead_42 : decode cX5_performRead 42 = .ok (.aload_n 0, 1) := by decide +kernel
theorem dX5_performRead_43 : decode cX5_performRead 43 = .ok (.getfield 18, 3) := by decide +kernel
theorem dX5_performRead_46 : decode cX5_performRead 46 = .ok (.aload_n 1, 1) := by decide +kernel
theorem dX5_performRead_47 : decode cX5_performRead 47 = .ok (.iload_n 2, 1) := by decide +kernel
theorem dX5_performRead_48 : decode cX5_performRead 48 = .ok (.iload_n 3, 1) := by decide +kernel
theorem dX5_performRead_49 : decode cX5_performRead 49 = .ok (.invokevirtual 60, 3) := by decide +kernel
theorem dX5_performRead_52 : decode cX5_performRead 52 = .ok (.aload_n 0, 1) := by decide +kernel
theorem dX5_performRead_53 : decode cX5_performRead 53 = .ok (.getfield 18, 3) := by decide +kernel
theorem dX5_performRead_56 : decode cX5_performRead 56 = .ok (.aload_n 1, 1) := by decide +kernel
theorem dX5_performRead_57 : decode cX5_performRead 57 = .ok (.iload_n 2, 1) := by decide +kernel
theorem dX5_performRead_58 : decode cX5_performRead 58 = .ok (.invokevirtual 53, 3) := by decide +kernel
theorem dX5_performRead_61 : decode cX5_performRead 61 = .ok (.pop, 1) := by decide +kernel
theorem dX5_performRead_62 : decode cX5_performRead 62 = .ok (.aload_n 0, 1) := by decide +kernel
theorem dX5_performRead_63 : decode cX5_performRead 63 = .ok (.getfield 24, 3) := by decide +kernel
theorem dX5_performRead_66 : decode cX5_performRead 66 = .ok (.iload_n 2, 1) := by decide +kernel
theorem dX5_performRead_67 : decode cX5_performRead 67 = .ok (.iconst 0, 1) := by decide +kernel
theorem dX5_performRead_68 : decode cX5_performRead 68 = .ok (.iload_n 3, 1) := by decide +kernel
theorem dX5_performRead_69 : decode cX5_performRead 69 = .ok (.invokevirtual 64, 3) := by decide +kernel
theorem dX5_performRead_72 : decode cX5_performRead 72 = .ok (.iload_n 3, 1) := by decide +kernel
theorem dX5_performRead_73 : decode cX5_performRead 73 = .ok (.ireturn, 1) := by decide +kernel
theorem dX5_performWrite_0 : decode cX5_performWrite 0 = .ok (.aload_n 0, 1) := by decide +kernel
theorem dX5_performWrite_1 : decode cX5_performWrite 1 = .ok (.getfield 12, 3) := by decide +kernel
theorem dX5_performWrite_4 : decode cX5_performWrite 4 = .ok (.aload_n 1, 1) := by decide +kernel
theorem dX5_performWrite_5 : decode cX5_performWrite 5 = .ok (.iload_n 2, 1) := by decide +kernel
theorem dX5_performWrite_6 : decode cX5_performWrite 6 = .ok (.iload_n 3, 1) := by decide +kernel
theorem dX5_performWrite_7 : decode cX5_performWrite 7 = .ok (.invokevirtual 68, 3) := by decide +kernel
theorem dX5_performWrite_10 : decode cX5_performWrite 10 = .ok (.aload_n 0, 1) := by decide +kernel
theorem dX5_performWrite_11 : decode cX5_performWrite 11 = .ok (.getfield 18, 3) := by decide +kernel
theorem dX5_performWrite_14 : decode cX5_performWrite 14 = .ok (.aload_n 1, 1) := by decide +kernel
theorem dX5_performWrite_15 : decode cX5_performWrite 15 = .ok (.iload_n 2, 1) := by decide +kernel
theorem dX5_performWrite_16 : decode cX5_performWrite 16 = .ok (.iload_n 3, 1) := by decide +kernel
theorem dX5_performWrite_17 : decode cX5_performWrite 17 = .ok (.invokevirtual 68, 3) := by decide +kernel
theorem dX5_performWrite_20 : decode cX5_performWrite 20 = .ok (.aload_n 0, 1) := by decide +kernel
theorem dX5_performWrite_21 : decode cX5_performWrite 21 = .ok (.getfield 24, 3) := by decide +kernel
theorem dX5_performWrite_24 : decode cX5_performWrite 24 = .ok (.iload_n 2, 1) := by decide +kernel
theorem dX5_performWrite_25 : decode cX5_performWrite 25 = .ok (.iconst 1, 1) := by decide +kernel
theorem dX5_performWrite_26 : decode cX5_performWrite 26 = .ok (.iload_n 3, 1) := by decide +kernel
theorem dX5_performWrite_27 : decode cX5_performWrite 27 = .ok (.invokevirtual 64, 3) := by decide +kernel
theorem dX5_performWrite_30 : decode cX5_performWrite 30 = .ok (.return_, 1) := by decide +kernel
theorem dX6_append_0 : decode cX6_append 0 = .ok (.aload_n 0, 1) := by decide +kernel
theorem dX6_append_1 : decode cX6_append 1 = .ok (.getfield 15, 3) := by decide +kernel
theorem dX6_append_4 : decode cX6_append 4 = .ok (.sipush 160, 3) := by decide +kernel
theorem dX6_append_7 : decode cX6_append 7 = .ok (.if_icmp .ge 23, 3) := by decide +kernel
theorem dX6_append_10 : decode cX6_append 10 = .ok (.aload_n 0, 1) := by decide +kernel
theorem dX6_append_11 : decode cX6_append 11 = .ok (.getfield 9, 3) := by decide +kernel
theorem dX6_append_14 : decode cX6_append 14 = .ok (.aload_n 0, 1) := by decide +kernel
theorem dX6_append_15 : decode cX6_append 15 = .ok (.getfield 15, 3) := by decide +kernel
theorem dX6_append_18 : decode cX6_append 18 = .ok (.iload_n 1, 1) := by decide +kernel
theorem dX6_append_19 : decode cX6_append 19 = .ok (.iastore, 1) := by decide +kernel
theorem dX6_append_20 : decode cX6_append 20 = .ok (.aload_n 0, 1) := by decide +kernel
theorem dX6_append_21 : decode cX6_append 21 = .ok (.dup, 1) := by decide +kernel
theorem dX6_append_22 : decode cX6_append 22 = .ok (.getfield 15, 3) := by decide +kernel
theorem dX6_append_25 : decode cX6_append 25 = .ok (.iconst 1, 1) := by decide +kernel
theorem dX6_append_26 : decode cX6_append 26 = .ok (.iadd, 1) := by decide +kernel
theorem dX6_append_27 : decode cX6_append 27 = .ok (.putfield 15, 3) := by decide +kernel
theorem dX6_append_30 : decode cX6_append 30 = .ok (.return_, 1) := by decide +kernel
theorem dX6_isLetter_0 : decode cX6_isLetter 0 = .ok (.aload_n 0, 1) := by decide +kernel
theorem dX6_isLetter_1 : decode cX6_isLetter 1 = .ok (.getfield 9, 3) := by decide +kernel
theorem dX6_isLetter_4 : decode cX6_isLetter 4 = .ok (.iload_n 1, 1) := by decide +kernel
theorem dX6_isLetter_5 : decode cX6_isLetter 5 = .ok (.iaload, 1) := by decide +kernel
theorem dX6_isLetter_6 : decode cX6_isLetter 6 = .ok (.bipush 97, 2) := by decide +kernel
theorem dX6_isLetter_8 : decode cX6_isLetter 8 = .ok (.if_icmp .lt 18, 3) := by decide +kernel
theorem dX6_isLetter_11 : decode cX6_isLetter 11 = .ok (.aload_n 0, 1) := by decide +kernel
theorem dX6_isLetter_12 : decode cX6_isLetter 12 = .ok (.getfield 9, 3) := by decide +kernel
theorem dX6_isLetter_15 : decode cX6_isLetter 15 = .ok (.iload_n 1, 1) := by decide +kernel
theorem dX6_isLetter_16 : decode cX6_isLetter 16 = .ok (.iaload, 1) := by decide +kernel
theorem dX6_isLetter_17 : decode cX6_isLetter 17 = .ok (.bipush 122, 2) := by decide +kernel
theorem dX6_isLetter_19 : decode cX6_isLetter 19 = .ok (.if_icmp .gt 7, 3) := by decide +kernel
theorem dX6_isLetter_22 : decode cX6_isLetter 22 = .ok (.iconst 1, 1) := by decide +kernel
theorem dX6_isLetter_23 : decode cX6_isLetter 23 = .ok (.goto 4, 3) := by decide +kernel
theorem dX6_isLetter_26 : decode cX6_isLetter 26 = .ok (.iconst 0, 1) := by decide +kernel
theorem dX6_isLetter_27 : decode cX6_isLetter 27 = .ok (.ireturn, 1) := by decide +kernel
theorem dX6_isDigit_0 : decode cX6_isDigit 0 = .ok (.aload_n 0, 1) := by decide +kernel
theorem dX6_isDigit_1 : decode cX6_isDigit 1 = .ok (.getfield 9, 3) := by decide +kernel
theorem dX6_isDigit_4 : decode cX6_isDigit 4 = .ok (.iload_n 1, 1) := by decide +kernel
theorem dX6_isDigit_5 : decode cX6_isDigit 5 = .ok (.iaload, 1) := by decide +kernel
theorem dX6_isDigit_6 : decode cX6_isDigit 6 = .ok (.bipush 48, 2) := by decide +kernel
theorem dX6_isDigit_8 : decode cX6_isDigit 8 = .ok (.if_icmp .lt 18, 3) := by decide +kernel
theorem dX6_isDigit_11 : decode cX6_isDigit 11 = .ok (.aload_n 0, 1) := by decide +kernel
theorem dX6_isDigit_12 : decode cX6_isDigit 12 = .ok (.getfield 9, 3) := by decide +kernel
theorem dX6_isDigit_15 : decode cX6_isDigit 15 = .ok (.iload_n 1, 1) := by decide +kernel
theorem dX6_isDigit_16 : decode cX6_isDigit 16 = .ok (.iaload, 1) := by decide +kernel
theorem dX6_isDigit_17 : decode cX6_isDigit 17 = .ok (.bipush 57, 2) := by decide +kernel
theorem dX6_isDigit_19 : decode cX6_isDigit 19 = .ok (.if_icmp .gt 7, 3) := by decide +kernel
theorem dX6_isDigit_22 : decode cX6_isDigit 22 = .ok (.iconst 1, 1) := by decide +kernel
theorem dX6_isDigit_23 : decode cX6_isDigit 23 = .ok (.goto 4, 3) := by decide +kernel
theorem dX6_isDigit_26 : decode cX6_isDigit 26 = .ok (.iconst 0, 1) := by decide +kernel
theorem dX6_isDigit_27 : decode cX6_isDigit 27 = .ok (.ireturn, 1) := by decide +kernel
theorem dX8_isWithin_0 : decode cX8_isWithin 0 = .ok (.iload_n 0, 1) := by decide +kernel
theorem dX8_isWithin_1 : decode cX8_isWithin 1 = .ok (.ifCond .lt 12, 3) := by decide +kernel
theorem dX8_isWithin_4 : decode cX8_isWithin 4 = .ok (.iload_n 0, 1) := by decide +kernel
theorem dX8_isWithin_5 : decode cX8_isWithin 5 = .ok (.iload_n 1, 1) := by decide +kernel
theorem dX8_isWithin_6 : decode cX8_isWithin 6 = .ok (.if_icmp .ge 7, 3) := by decide +kernel
theorem dX8_isWithin_9 : decode cX8_isWithin 9 = .ok (.iconst 1, 1) := by decide +kernel
theorem dX8_isWithin_10 : decode cX8_isWithin 10 = .ok (.goto 4, 3) := by decide +kernel
theorem dX8_isWithin_13 : decode cX8_isWithin 13 = .ok (.iconst 0, 1) := by decide +kernel
theorem dX8_isWithin_14 : decode cX8_isWithin 14 = .ok (.ireturn, 1) := by decide +kernel
end
section
set_option maxHeartbeats 4000000 in
set_option maxRecDepth 100000 in
theorem c_X8_isWithin (l : Launch) (G : Gm) (A : Nat → Prop) (Ω : Om) (x0 : Int32) (x1 : Int32) : Met l yX8_isWithin (wz yX8_isWithin cX8_isWithin 2 (some .boolean)) ({ frames := 0, cells := 0, slots := 0, locals := 0 } : Room) (va_Pc [.int x0, .int x1] (oS G A Ω)) (va_Qi (fun (r : Int32) (Ω1 : Om) => (r = (f_X8_isWithin x0 x1) ∧ (r = 0 ∨ r = 1)) ∧ Ω1 = Ω) (oB G A) A) 0 0 A := by
  refine Met.ofW (cc := cX8_isWithin) (maxL := 2) (ret := (some .boolean)) (by decide) rfl ?_
  intro p e s m args below meth c s₁ B hml hv
  obtain ⟨rfl, hW, hK, hN⟩ := hv
  have hx := B.exec
  have hb := B.bytes
  have hr := B.returns
  have hts : ∀ w ∈ gt, w.before _ s = true := fun w hw => atoms_spec (ws := wz yX8_isWithin cX8_isWithin 2 (some .boolean)) B.pre w (List.mem_cons_of_mem _ hw)
  have hown : s.vm.findClass RX8 = some m.cls := findClass_of_methodNamed B.named
  have hlocks := B.notSynchronized
  have hA : ∀ q, A q → A q := fun _ h => h
  have hS : va_S A s.heap s.heap [] := va_S.rf
  have hS0 := hS
  have hl := lv_entry ([.int x0, .int x1]) (n := 2) (Nat.le_of_ble_eq_true rfl)
  rw [lg_entry_eq]
  generalize (lg_sl ([.int x0, .int x1]) ++ List.replicate (2 - (lg_sl ([.int x0, .int x1])).length) Slot.unset).toArray = ls at hl ⊢
  have hl : lv_has ls 2 [(0, .int x0), (1, .int x1)] := hl
  generalize hR : (f_X8_isWithin x0 x1) = R
  rw [f_X8_isWithin] at hR
  refine lv_iload_n hx hb dX8_isWithin_0 rfl (lv_at hl 0 rfl) ?_
  have j_2 : (0 : Int32).toInt = 0 := by decide
  refine lv_if_lt (tgt := 13) hx hb dX8_isWithin_1 (by decide) (fun c_1 => ?_) (fun c_1 => ?_)
  · rw [if_pos c_1] at hR
    have i_1 := rlt c_1
    refine lv_iconst (v := (0 : Int32)) hx hb dX8_isWithin_13 (by decide) ?_
    subst hR
    exact W.zret (v := (0 : Int32)) hx hb hr (nb01 (Or.inl rfl)) (fun t ht hW9 => ⟨⟨(0 : Int32), Ω, rfl, ⟨⟨rfl, (Or.inl rfl)⟩, rfl⟩, by rw [oB, ht]; exact hW⟩, hS.F ht⟩) hS.2.2 dX8_isWithin_14
  · rw [if_neg c_1] at hR
    have i_1 := rnlt c_1
    refine lv_iload_n hx hb dX8_isWithin_4 rfl (lv_at hl 0 rfl) ?_
    refine lv_iload_n hx hb dX8_isWithin_5 rfl (lv_at hl 1 rfl) ?_
    refine lv_icmp_ge (tgt := 13) hx hb dX8_isWithin_6 (by decide) (fun c_3 => ?_) (fun c_3 => ?_)
    · rw [if_pos c_3] at hR
      have i_3 := rle c_3
      refine lv_iconst (v := (0 : Int32)) hx hb dX8_isWithin_13 (by decide) ?_
      subst hR
      exact W.zret (v := (0 : Int32)) hx hb hr (nb01 (Or.inl rfl)) (fun t ht hW9 => ⟨⟨(0 : Int32), Ω, rfl, ⟨⟨rfl, (Or.inl rfl)⟩, rfl⟩, by rw [oB, ht]; exact hW⟩, hS.F ht⟩) hS.2.2 dX8_isWithin_14
    · rw [if_neg c_3] at hR
      have i_3 := rnle c_3
      refine lv_iconst (v := (1 : Int32)) hx hb dX8_isWithin_9 (by decide) ?_
      refine lv_goto (tgt := 14) hx hb dX8_isWithin_10 (by decide) ?_
      subst hR
      exact W.zret (v := (1 : Int32)) hx hb hr (nb01 (Or.inr rfl)) (fun t ht hW9 => ⟨⟨(1 : Int32), Ω, rfl, ⟨⟨rfl, (Or.inr rfl)⟩, rfl⟩, by rw [oB, ht]; exact hW⟩, hS.F ht⟩) hS.2.2 dX8_isWithin_14
set_option maxHeartbeats 4000000 in
set_option maxRecDepth 100000 in
theorem c_X6_append (l : Launch) (G : Gm) (A : Nat → Prop) (Ω : Om) (p0 : Nat) (p0_0 : Fn) (p0_1 : Int32) (x1 : Int32) (hT_p0 : 0 ≤ p0_1.toInt ∧ p0_1.toInt ≤ 160) (h_p0 : inTxt G Ω p0 p0_0 p0_1) : Met l yX6_append (wz yX6_append cX6_append 2 none) ({ frames := 0, cells := 0, slots := 0, locals := 0 } : Room) (va_Pc [.ref p0, .int x1] (oS G A Ω)) (va_Qv (fun (Ω1 : Om) => inTxt G Ω1 p0 ((f_X6_append p0_0 p0_1 x1).1) ((f_X6_append p0_0 p0_1 x1).2) ∧ (∀ q : Nat, (q < p0 ∨ p0 + 2 ≤ q) → Ω1 q = Ω q)) (oB G A) A) 0 0 A := by
  refine Met.ofW (cc := cX6_append) (maxL := 2) (ret := none) (by decide) rfl ?_
  intro p e s m args below meth c s₁ B hml hv
  obtain ⟨rfl, hW, hK, hN⟩ := hv
  have hx := B.exec
  have hb := B.bytes
  have hr := B.returns
  have hts : ∀ w ∈ gt, w.before _ s = true := fun w hw => atoms_spec (ws := wz yX6_append cX6_append 2 none) B.pre w (List.mem_cons_of_mem _ hw)
  have hown : s.vm.findClass RX6 = some m.cls := findClass_of_methodNamed B.named
  have hlocks := B.notSynchronized
  have hA : ∀ q, A q → A q := fun _ h => h
  have hS : va_S A s.heap s.heap [] := va_S.rf
  have hS0 := hS
  have hl := lv_entry ([.ref p0, .int x1]) (n := 2) (Nat.le_of_ble_eq_true rfl)
  rw [lg_entry_eq]
  generalize (lg_sl ([.ref p0, .int x1]) ++ List.replicate (2 - (lg_sl ([.ref p0, .int x1])).length) Slot.unset).toArray = ls at hl ⊢
  have hl : lv_has ls 2 [(0, .ref p0), (1, .int x1)] := hl
  have hE : ∀ q : Nat, (q < p0 ∨ p0 + 2 ≤ q) → Ω q = Ω q := by intros; rfl
  generalize hR : (f_X6_append p0_0 p0_1 x1) = R
  rw [f_X6_append] at hR
  refine lv_aload_n hx hb dX6_append_0 rfl (lv_at hl 0 rfl) ?_
  refine o_get hx hb hts hown hK hW (inTxt_o h_p0) rfl ig6 1 (by decide) fl_X6_15 rfl dX6_append_1 ?_
  refine lv_sipush (v := (160 : Int32)) hx hb dX6_append_4 (by decide) ?_
  have j_2 : (160 : Int32).toInt = 160 := by decide
  refine lv_icmp_ge (tgt := 30) hx hb dX6_append_7 (by decide) (fun c_1 => ?_) (fun c_1 => ?_)
  · rw [if_pos c_1] at hR
    have i_1 := rle c_1
    subst hR
    exact W.vret hx hb hr (fun t ht hW9 => ⟨⟨Ω, rfl, ⟨h_p0, hE⟩, by rw [oB, ht]; exact hW⟩, hS.F ht⟩) hS.2.2 dX6_append_30
  · rw [if_neg c_1] at hR
    have i_1 := rnle c_1
    refine lv_aload_n hx hb dX6_append_10 rfl (lv_at hl 0 rfl) ?_
    refine o_get hx hb hts hown hK hW (inTxt_o h_p0) rfl ig6 0 (by decide) fl_X6_9 rfl dX6_append_11 ?_
    refine lv_aload_n hx hb dX6_append_14 rfl (lv_at hl 0 rfl) ?_
    refine o_get hx hb hts hown hK hW (inTxt_o h_p0) rfl ig6 1 (by decide) fl_X6_15 rfl dX6_append_15 ?_
    refine lv_iload_n hx hb dX6_append_18 rfl (lv_at hl 1 rfl) ?_
    refine wTxt_0 hx hb hK hW hS hA h_p0 (vp_in_iff.mpr ⟨by omega, by omega⟩) dX6_append_19 (fun Ω_3 H locs h_p0 hF_3 hW hS => ?_)
    have hE : ∀ q : Nat, (q < p0 ∨ p0 + 2 ≤ q) → Ω_3 q = Ω q := fun q g0 => (hF_3 q (by omega)).trans (hE q g0)
    refine lv_aload_n hx hb dX6_append_20 rfl (lv_at hl 0 rfl) ?_
    refine lv_dup hx hb dX6_append_21 rfl ?_
    refine o_get hx hb hts hown hK hW (inTxt_o h_p0) rfl ig6 1 (by decide) fl_X6_15 rfl dX6_append_22 ?_
    refine lv_iconst (v := (1 : Int32)) hx hb dX6_append_25 (by decide) ?_
    refine lv_iadd hx hb dX6_append_26 ?_
    refine vTxt_1 hx hb hts hown hK hW hS hA h_p0 fl_X6_15 dX6_append_27 (fun Ω_4 H locs h_p0 hF_4 hW hS => ?_)
    have hE : ∀ q : Nat, (q < p0 ∨ p0 + 2 ≤ q) → Ω_4 q = Ω q := fun q g0 => (hF_4 q (by omega)).trans (hE q g0)
    subst hR
    exact W.vret hx hb hr (fun t ht hW9 => ⟨⟨Ω_4, rfl, ⟨h_p0, hE⟩, by rw [oB, ht]; exact hW⟩, hS.F ht⟩) hS.2.2 dX6_append_30
set_option maxHeartbeats 4000000 in
set_option maxRecDepth 100000 in
theorem c_X1_valueOf (l : Launch) (G : Gm) (A : Nat → Prop) (Ω : Om) (p0 : Nat) (p1 : Nat) (p0_0 : Fn) (p0_1 : Fn) (p0_2 : Fn) (p0_3 : Fn) (p1_0 : Blk) (x2 : Int32) (hB_p1 : BlkInv p1_0) (hi_x2 : 0 ≤ x2.toInt ∧ x2.toInt < 12) (h_p0 : inDev G Ω p0 p0_0 p0_1 p0_2 p0_3) (h_p1 : inBlk G Ω p1 p1_0) : Met l yX1_valueOf (wz yX1_valueOf cX1_valueOf 3 (some .int)) ({ frames := 0, cells := 0, slots := 0, locals := 0 } : Room) (va_Pc [.ref p0, .ref p1, .int x2] (oS G A Ω)) (va_Qi (fun (r : Int32) (Ω1 : Om) => r = (f_X1_valueOf p0_0 p1_0 x2) ∧ Ω1 = Ω) (oB G A) A) 0 0 A := by
  refine Met.ofW (cc := cX1_valueOf) (maxL := 3) (ret := (some .int)) (by decide) rfl ?_
  intro p e s m args below meth c s₁ B hml hv
  obtain ⟨rfl, hW, hK, hN⟩ := hv
  have hx := B.exec
  have hb := B.bytes
  have hr := B.returns
  have hts : ∀ w ∈ gt, w.before _ s = true := fun w hw => atoms_spec (ws := wz yX1_valueOf cX1_valueOf 3 (some .int)) B.pre w (List.mem_cons_of_mem _ hw)
  have hown : s.vm.findClass RX1 = some m.cls := findClass_of_methodNamed B.named
  have hlocks := B.notSynchronized
  have hA : ∀ q, A q → A q := fun _ h => h
  have hS : va_S A s.heap s.heap [] := va_S.rf
  have hS0 := hS
  have hl := lv_entry ([.ref p0, .ref p1, .int x2]) (n := 3) (Nat.le_of_ble_eq_true rfl)
  rw [lg_entry_eq]
  generalize (lg_sl ([.ref p0, .ref p1, .int x2]) ++ List.replicate (3 - (lg_sl ([.ref p0, .ref p1, .int x2])).length) Slot.unset).toArray = ls at hl ⊢
  have hl : lv_has ls 3 [(0, .ref p0), (1, .ref p1), (2, .int x2)] := hl
  generalize hR : (f_X1_valueOf p0_0 p1_0 x2) = R
  rw [f_X1_valueOf] at hR
  refine lv_aload_n hx hb dX1_valueOf_0 rfl (lv_at hl 0 rfl) ?_
  refine o_get hx hb hts hown hK hW (inDev_o h_p0) rfl ig1 0 (by decide) fl_X1_9 rfl dX1_valueOf_1 ?_
  refine lv_aload_n hx hb dX1_valueOf_4 rfl (lv_at hl 1 rfl) ?_
  refine o_get hx hb hts hown hK hW (inBlk_o h_p1) rfl ig0 6 (by decide) fl_X1_47 rfl dX1_valueOf_5 ?_
  refine lv_iload_n hx hb dX1_valueOf_8 rfl (lv_at hl 2 rfl) ?_
  refine o_iald hx hb hK hW (inBlk_a3 h_p1) (vp_in_iff.mpr ⟨by omega, by omega⟩) dX1_valueOf_9 ?_
  try have j_1 : 0 ≤ ((p1_0 4) x2.toNatClampNeg).toInt ∧ ((p1_0 4) x2.toNatClampNeg).toInt < 6 := BI_owner (by assumption) _
  refine o_iald hx hb hK hW (inDev_a0 h_p0) (vp_in_iff.mpr ⟨by omega, by omega⟩) dX1_valueOf_10 ?_
  refine lv_aload_n hx hb dX1_valueOf_11 rfl (lv_at hl 1 rfl) ?_
  refine o_get hx hb hts hown hK hW (inBlk_o h_p1) rfl ig0 10 (by decide) fl_X1_50 rfl dX1_valueOf_12 ?_
  refine lv_iload_n hx hb dX1_valueOf_15 rfl (lv_at hl 2 rfl) ?_
  refine o_iald hx hb hK hW (inBlk_a7 h_p1) (vp_in_iff.mpr ⟨by omega, by omega⟩) dX1_valueOf_16 ?_
  refine lv_iand hx hb dX1_valueOf_17 ?_
  refine lv_aload_n hx hb dX1_valueOf_18 rfl (lv_at hl 1 rfl) ?_
  refine o_get hx hb hts hown hK hW (inBlk_o h_p1) rfl ig0 8 (by decide) fl_X1_53 rfl dX1_valueOf_19 ?_
  refine lv_iload_n hx hb dX1_valueOf_22 rfl (lv_at hl 2 rfl) ?_
  refine o_iald hx hb hK hW (inBlk_a5 h_p1) (vp_in_iff.mpr ⟨by omega, by omega⟩) dX1_valueOf_23 ?_
  refine lv_ishr hx hb dX1_valueOf_24 ?_
  subst hR
  exact W.iret (v := (((p0_0 ((p1_0 4) x2.toNatClampNeg).toNatClampNeg) &&& ((p1_0 8) x2.toNatClampNeg)) >>> (((p1_0 6) x2.toNatClampNeg) &&& 31))) hx hb hr (fun t ht hW9 => ⟨⟨(((p0_0 ((p1_0 4) x2.toNatClampNeg).toNatClampNeg) &&& ((p1_0 8) x2.toNatClampNeg)) >>> (((p1_0 6) x2.toNatClampNeg) &&& 31)), Ω, rfl, ⟨rfl, rfl⟩, by rw [oB, ht]; exact hW⟩, hS.F ht⟩) hS.2.2 dX1_valueOf_25
set_option maxHeartbeats 4000000 in
set_option maxRecDepth 100000 in
theorem c_X1_isLocked (l : Launch) (G : Gm) (A : Nat → Prop) (Ω : Om) (p0 : Nat) (p1 : Nat) (p0_0 : Fn) (p0_1 : Fn) (p0_2 : Fn) (p0_3 : Fn) (p1_0 : Blk) (x2 : Int32) (hB_p1 : BlkInv p1_0) (hi_x2 : 0 ≤ x2.toInt ∧ x2.toInt < 6) (h_p0 : inDev G Ω p0 p0_0 p0_1 p0_2 p0_3) (h_p1 : inBlk G Ω p1 p1_0) : Met l yX1_isLocked (wz yX1_isLocked cX1_isLocked 4 (some .boolean)) ({ frames := 1, cells := 0, slots := 0, locals := 22 } : Room) (va_Pc [.ref p0, .ref p1, .int x2] (oS G A Ω)) (va_Qi (fun (r : Int32) (Ω1 : Om) => (r = (f_X1_isLocked p0_0 p1_0 x2) ∧ (r = 0 ∨ r = 1)) ∧ Ω1 = Ω) (oB G A) A) 0 0 A := by
  refine Met.ofW (cc := cX1_isLocked) (maxL := 4) (ret := (some .boolean)) (by decide) rfl ?_
  intro p e s m args below meth c s₁ B hml hv
  obtain ⟨rfl, hW, hK, hN⟩ := hv
  have hx := B.exec
  have hb := B.bytes
  have hr := B.returns
  have hts : ∀ w ∈ gt, w.before _ s = true := fun w hw => atoms_spec (ws := wz yX1_isLocked cX1_isLocked 4 (some .boolean)) B.pre w (List.mem_cons_of_mem _ hw)
  have hown : s.vm.findClass RX1 = some m.cls := findClass_of_methodNamed B.named
  have hlocks := B.notSynchronized
  have hA : ∀ q, A q → A q := fun _ h => h
  have hS : va_S A s.heap s.heap [] := va_S.rf
  have hS0 := hS
  have hl := lv_entry ([.ref p0, .ref p1, .int x2]) (n := 4) (Nat.le_of_ble_eq_true rfl)
  rw [lg_entry_eq]
  generalize (lg_sl ([.ref p0, .ref p1, .int x2]) ++ List.replicate (4 - (lg_sl ([.ref p0, .ref p1, .int x2])).length) Slot.unset).toArray = ls at hl ⊢
  have hl : lv_has ls 4 [(0, .ref p0), (1, .ref p1), (2, .int x2)] := hl
  generalize hR : (f_X1_isLocked p0_0 p1_0 x2) = R
  rw [f_X1_isLocked] at hR
  refine lv_aload_n hx hb dX1_isLocked_0 rfl (lv_at hl 1 rfl) ?_
  refine o_get hx hb hts hown hK hW (inBlk_o h_p1) rfl ig0 4 (by decide) fl_X1_59 rfl dX1_isLocked_1 ?_
  refine lv_iload_n hx hb dX1_isLocked_4 rfl (lv_at hl 2 rfl) ?_
  refine o_iald hx hb hK hW (inBlk_a1 h_p1) (vp_in_iff.mpr ⟨by omega, by omega⟩) dX1_isLocked_5 ?_
  refine lv_istore_n (lv' := [(3, .int ((p1_0 2) x2.toNatClampNeg)), (0, .ref p0), (1, .ref p1), (2, .int x2)]) hx hb dX1_isLocked_6 rfl hl (by decide) rfl (fun ls hl => ?_)
  refine lv_iload_n hx hb dX1_isLocked_7 rfl (lv_at hl 0 rfl) ?_
  refine lv_aload_n hx hb dX1_isLocked_8 rfl (lv_at hl 2 rfl) ?_
  refine o_get hx hb hts hown hK hW (inBlk_o h_p1) rfl ig0 1 (by decide) fl_X1_36 rfl dX1_isLocked_9 ?_
  try have j_1 : 0 ≤ (p1_0 0 1).toInt ∧ (p1_0 0 1).toInt ≤ 12 := BI_flds (by assumption)
  refine o_SNiR (rest := []) (As := [.int ((p1_0 2) x2.toNatClampNeg), .int (p1_0 0 1)]) (n := 2) hx hb hml hown hts hK hN hW hS hA (c_X8_isWithin l G A Ω ((p1_0 2) x2.toNatClampNeg) (p1_0 0 1)) (List.mem_of_getElem? (i := 8) rfl) st_X8_isWithin ini_X8 co_X8_isWithin (by decide +kernel) ⟨Nat.zero_le _, Nat.zero_le _⟩ hl.1 (Nat.le_of_ble_eq_true rfl) rfl rfl dX1_isLocked_12 (fun r H locs hp hW hS => ?_)
  obtain ⟨rfl, hz_2⟩ := hp
  have j_4 : (0 : Int32).toInt = 0 := by decide
  refine lv_if_eq (tgt := 31) hx hb dX1_isLocked_15 (by decide) (fun c_3 => ?_) (fun c_3 => ?_)
  · rw [if_pos c_3] at hR
    have i_3 := congrArg Int32.toInt c_3
    refine lv_iconst (v := (0 : Int32)) hx hb dX1_isLocked_31 (by decide) ?_
    subst hR
    exact W.zret (v := (0 : Int32)) hx hb hr (nb01 (Or.inl rfl)) (fun t ht hW9 => ⟨⟨(0 : Int32), Ω, rfl, ⟨⟨rfl, (Or.inl rfl)⟩, rfl⟩, by rw [oB, ht]; exact hW⟩, hS.F ht⟩) hS.2.2 dX1_isLocked_32
  · rw [if_neg c_3] at hR
    have i_3 := rne c_3
    have b_c_3 := rIW c_3
    refine lv_aload_n hx hb dX1_isLocked_18 rfl (lv_at hl 1 rfl) ?_
    refine lv_aload_n hx hb dX1_isLocked_19 rfl (lv_at hl 2 rfl) ?_
    refine lv_iload_n hx hb dX1_isLocked_20 rfl (lv_at hl 0 rfl) ?_
    refine o_ViR (rest := []) (As := [.ref p1, .int ((p1_0 2) x2.toNatClampNeg)]) (n := 2) hx hb hml hown hts hK hN hW hS hA (c_X1_valueOf l G A Ω p0 p1 p0_0 p0_1 p0_2 p0_3 p1_0 ((p1_0 2) x2.toNatClampNeg) (by first | assumption | omega) (by first | assumption | omega) h_p0 h_p1) (inDev_o h_p0) rfl (good_V ml_X1_66 im_X1_valueOf se_X1_valueOf ini_X1 co_X1_valueOf) (by decide +kernel) ⟨Nat.zero_le _, Nat.zero_le _⟩ hl.1 (Nat.le_of_ble_eq_true rfl) rfl rfl dX1_isLocked_21 (fun r H locs hp hW hS => ?_)
    subst hp
    refine lv_if_eq (tgt := 31) hx hb dX1_isLocked_24 (by decide) (fun c_6 => ?_) (fun c_6 => ?_)
    · rw [if_pos c_6] at hR
      have i_6 := congrArg Int32.toInt c_6
      refine lv_iconst (v := (0 : Int32)) hx hb dX1_isLocked_31 (by decide) ?_
      subst hR
      exact W.zret (v := (0 : Int32)) hx hb hr (nb01 (Or.inl rfl)) (fun t ht hW9 => ⟨⟨(0 : Int32), Ω, rfl, ⟨⟨rfl, (Or.inl rfl)⟩, rfl⟩, by rw [oB, ht]; exact hW⟩, hS.F ht⟩) hS.2.2 dX1_isLocked_32
    · rw [if_neg c_6] at hR
      have i_6 := rne c_6
      refine lv_iconst (v := (1 : Int32)) hx hb dX1_isLocked_27 (by decide) ?_
      refine lv_goto (tgt := 32) hx hb dX1_isLocked_28 (by decide) ?_
      subst hR
      exact W.zret (v := (1 : Int32)) hx hb hr (nb01 (Or.inr rfl)) (fun t ht hW9 => ⟨⟨(1 : Int32), Ω, rfl, ⟨⟨rfl, (Or.inr rfl)⟩, rfl⟩, by rw [oB, ht]; exact hW⟩, hS.F ht⟩) hS.2.2 dX1_isLocked_32
set_option maxHeartbeats 4000000 in
set_option maxRecDepth 100000 in
theorem c_X0_registerAt (l : Launch) (G : Gm) (A : Nat → Prop) (Ω : Om) (p0 : Nat) (p0_0 : Blk) (x1 : Int32) (hB_p0 : BlkInv p0_0) (h_p0 : inBlk G Ω p0 p0_0) : Met l yX0_registerAt (wz yX0_registerAt cX0_registerAt 3 (some .int)) ({ frames := 0, cells := 0, slots := 0, locals := 0 } : Room) (va_Pc [.ref p0, .int x1] (oS G A Ω)) (va_Qi (fun (r : Int32) (Ω1 : Om) => r = (f_X0_registerAt p0_0 x1) ∧ Ω1 = Ω) (oB G A) A) 0 0 A := by
  refine Met.ofW (cc := cX0_registerAt) (maxL := 3) (ret := (some .int)) (by decide) rfl ?_
  intro p e s m args below meth c s₁ B hml hv
  obtain ⟨rfl, hW, hK, hN⟩ := hv
  have hx := B.exec
  have hb := B.bytes
  have hr := B.returns
  have hts : ∀ w ∈ gt, w.before _ s = true := fun w hw => atoms_spec (ws := wz yX0_registerAt cX0_registerAt 3 (some .int)) B.pre w (List.mem_cons_of_mem _ hw)
  have hown : s.vm.findClass RX0 = some m.cls := findClass_of_methodNamed B.named
  have hlocks := B.notSynchronized
  have hA : ∀ q, A q → A q := fun _ h => h
  have hS : va_S A s.heap s.heap [] := va_S.rf
  have hS0 := hS
  have hl := lv_entry ([.ref p0, .int x1]) (n := 3) (Nat.le_of_ble_eq_true rfl)
  rw [lg_entry_eq]
  generalize (lg_sl ([.ref p0, .int x1]) ++ List.replicate (3 - (lg_sl ([.ref p0, .int x1])).length) Slot.unset).toArray = ls at hl ⊢
  have hl : lv_has ls 3 [(0, .ref p0), (1, .int x1)] := hl
  generalize hR : (f_X0_registerAt p0_0 x1) = R
  rw [f_X0_registerAt] at hR
  refine lv_iconst (v := (0 : Int32)) hx hb dX0_registerAt_0 (by decide) ?_
  refine lv_istore_n (lv' := [(2, .int (0 : Int32)), (0, .ref p0), (1, .int x1)]) hx hb dX0_registerAt_1 rfl hl (by decide) rfl (fun ls hl => ?_)
  have L2 : ∀ (n_2 : Nat) (x2_1 : Int32) (H : Heap) (locs : List Loc), (0 ≤ x2_1.toInt ∧ x2_1.toInt ≤ 6 ∧ 6 - x2_1.toInt < n_2) → oW G A Ω H → va_S A s.heap H locs → ∀ ls : Array Slot, lv_has ls 3 [(0, .ref p0), (1, .int x1), (2, .int x2_1)] → (f_X0_registerAt_L2 p0_0 x1 n_2 x2_1) = R → W p l e (headSpec (wz yX0_registerAt cX0_registerAt 3 (some .int)) ({ frames := 0, cells := 0, slots := 0, locals := 0 } : Room)).room s m ([.ref p0, .int x1] : List Value).toArray below meth c H locs 0 0 (MQ below (va_Qi (fun (r : Int32) (Ω1 : Om) => r = R ∧ Ω1 = Ω) (oB G A) A) ([.ref p0, .int x1] : List Value).toArray s 0 0 A) (F0 m 2 ls []) := by
    intro n_2
    induction n_2 with
    | zero =>
      intro x2_1 H locs v_2_0 hW hS ls hl hR
      exfalso
      omega
    | succ n_2 ih2 =>
      intro x2_1 H locs v_2_0 hW hS ls hl hR
      rw [f_X0_registerAt_L2] at hR
      refine lv_iload_n hx hb dX0_registerAt_2 rfl (lv_at hl 2 rfl) ?_
      refine lv_aload_n hx hb dX0_registerAt_3 rfl (lv_at hl 0 rfl) ?_
      refine o_get hx hb hts hown hK hW (inBlk_o h_p0) rfl ig0 0 (by decide) fl_X0_48 rfl dX0_registerAt_4 ?_
      try have j_4 : 0 ≤ (p0_0 0 0).toInt ∧ (p0_0 0 0).toInt ≤ 6 := BI_regs (by assumption)
      refine lv_icmp_ge (tgt := 28) hx hb dX0_registerAt_7 (by decide) (fun c_3 => ?_) (fun c_3 => ?_)
      · rw [if_pos c_3] at hR
        have i_3 := rle c_3
        refine lv_bipush (v := (-9 : Int32)) hx hb dX0_registerAt_28 (by decide) ?_
        subst hR
        exact W.iret (v := (-9 : Int32)) hx hb hr (fun t ht hW9 => ⟨⟨(-9 : Int32), Ω, rfl, ⟨rfl, rfl⟩, by rw [oB, ht]; exact hW⟩, hS.F ht⟩) hS.2.2 dX0_registerAt_30
      · rw [if_neg c_3] at hR
        have i_3 := rnle c_3
        refine lv_aload_n hx hb dX0_registerAt_10 rfl (lv_at hl 0 rfl) ?_
        refine o_get hx hb hts hown hK hW (inBlk_o h_p0) rfl ig0 3 (by decide) fl_X0_9 rfl dX0_registerAt_11 ?_
        refine lv_iload_n hx hb dX0_registerAt_14 rfl (lv_at hl 2 rfl) ?_
        refine o_iald hx hb hK hW (inBlk_a0 h_p0) (vp_in_iff.mpr ⟨by omega, by omega⟩) dX0_registerAt_15 ?_
        refine lv_iload_n hx hb dX0_registerAt_16 rfl (lv_at hl 1 rfl) ?_
        refine lv_icmp_ne (tgt := 22) hx hb dX0_registerAt_17 (by decide) (fun c_5 => ?_) (fun c_5 => ?_)
        · rw [if_neg c_5] at hR
          have i_5 := rne c_5
          refine lv_iinc (v := (x2_1 + (1 : Int32))) (lv' := [(2, .int (x2_1 + (1 : Int32))), (0, .ref p0), (1, .int x1)]) hx hb dX0_registerAt_22 hl (k := 2) rfl rfl (by decide) rfl (fun ls hl => ?_)
          refine lv_goto (tgt := 2) hx hb dX0_registerAt_25 (by decide) ?_
          have j_6 : (1 : Int32).toInt = 1 := by decide
          try have j_7 : (x2_1 + (1 : Int32)).toInt = x2_1.toInt + (1 : Int32).toInt := fb_addI (by omega) (by omega)
          exact ih2 (x2_1 + (1 : Int32)) H locs (by first | assumption | omega) hW hS ls (lv_sub hl [1, 2, 0] rfl) hR
        · rw [if_pos c_5] at hR
          have i_5 := congrArg Int32.toInt c_5
          refine lv_iload_n hx hb dX0_registerAt_20 rfl (lv_at hl 2 rfl) ?_
          subst hR
          exact W.iret (v := x2_1) hx hb hr (fun t ht hW9 => ⟨⟨x2_1, Ω, rfl, ⟨rfl, rfl⟩, by rw [oB, ht]; exact hW⟩, hS.F ht⟩) hS.2.2 dX0_registerAt_21
  have j_8 : (0 : Int32).toInt = 0 := by decide
  exact L2 4000 (0 : Int32) s.heap [] (by first | assumption | omega) hW hS ls (lv_sub hl [1, 2, 0] rfl) hR
set_option maxHeartbeats 4000000 in
set_option maxRecDepth 100000 in
theorem c_X0_aliasAt (l : Launch) (G : Gm) (A : Nat → Prop) (Ω : Om) (p0 : Nat) (p0_0 : Blk) (x1 : Int32) (hB_p0 : BlkInv p0_0) (h_p0 : inBlk G Ω p0 p0_0) : Met l yX0_aliasAt (wz yX0_aliasAt cX0_aliasAt 3 (some .int)) ({ frames := 1, cells := 0, slots := 0, locals := 22 } : Room) (va_Pc [.ref p0, .int x1] (oS G A Ω)) (va_Qi (fun (r : Int32) (Ω1 : Om) => r = (f_X0_aliasAt p0_0 x1) ∧ Ω1 = Ω) (oB G A) A) 0 0 A := by
  refine Met.ofW (cc := cX0_aliasAt) (maxL := 3) (ret := (some .int)) (by decide) rfl ?_
  intro p e s m args below meth c s₁ B hml hv
  obtain ⟨rfl, hW, hK, hN⟩ := hv
  have hx := B.exec
  have hb := B.bytes
  have hr := B.returns
  have hts : ∀ w ∈ gt, w.before _ s = true := fun w hw => atoms_spec (ws := wz yX0_aliasAt cX0_aliasAt 3 (some .int)) B.pre w (List.mem_cons_of_mem _ hw)
  have hown : s.vm.findClass RX0 = some m.cls := findClass_of_methodNamed B.named
  have hlocks := B.notSynchronized
  have hA : ∀ q, A q → A q := fun _ h => h
  have hS : va_S A s.heap s.heap [] := va_S.rf
  have hS0 := hS
  have hl := lv_entry ([.ref p0, .int x1]) (n := 3) (Nat.le_of_ble_eq_true rfl)
  rw [lg_entry_eq]
  generalize (lg_sl ([.ref p0, .int x1]) ++ List.replicate (3 - (lg_sl ([.ref p0, .int x1])).length) Slot.unset).toArray = ls at hl ⊢
  have hl : lv_has ls 3 [(0, .ref p0), (1, .int x1)] := hl
  generalize hR : (f_X0_aliasAt p0_0 x1) = R
  rw [f_X0_aliasAt] at hR
  refine lv_aload_n hx hb dX0_aliasAt_0 rfl (lv_at hl 0 rfl) ?_
  refine lv_iload_n hx hb dX0_aliasAt_1 rfl (lv_at hl 1 rfl) ?_
  refine o_ViR (rest := []) (As := [.int x1]) (n := 1) hx hb hml hown hts hK hN hW hS hA (c_X0_registerAt l G A Ω p0 p0_0 x1 (by first | assumption | omega) h_p0) (inBlk_o h_p0) rfl (good_V ml_X0_71 im_X0_registerAt se_X0_registerAt ini_X0 co_X0_registerAt) (by decide +kernel) ⟨Nat.zero_le _, Nat.zero_le _⟩ hl.1 (Nat.le_of_ble_eq_true rfl) rfl rfl dX0_aliasAt_2 (fun r H locs hp hW hS => ?_)
  subst hp
  refine lv_bipush (v := (-9 : Int32)) hx hb dX0_aliasAt_5 (by decide) ?_
  try have j_3 : (f_X0_registerAt p0_0 x1).toInt = -9 ∨ (0 ≤ (f_X0_registerAt p0_0 x1).toInt ∧ (f_X0_registerAt p0_0 x1).toInt < 6) := R_registerAt (by assumption) _
  have j_4 : (-9 : Int32).toInt = -9 := by decide
  refine lv_icmp_eq (tgt := 13) hx hb dX0_aliasAt_7 (by decide) (fun c_2 => ?_) (fun c_2 => ?_)
  · rw [if_pos c_2] at hR
    have i_2 := congrArg Int32.toInt c_2
    refine lv_iconst (v := (0 : Int32)) hx hb dX0_aliasAt_13 (by decide) ?_
    refine lv_istore_n (lv' := [(2, .int (0 : Int32)), (0, .ref p0), (1, .int x1)]) hx hb dX0_aliasAt_14 rfl hl (by decide) rfl (fun ls hl => ?_)
    have L15 : ∀ (n_6 : Nat) (x2_5 : Int32) (H : Heap) (locs : List Loc), (0 ≤ x2_5.toInt ∧ x2_5.toInt ≤ 4 ∧ 4 - x2_5.toInt < n_6) → oW G A Ω H → va_S A s.heap H locs → ∀ ls : Array Slot, lv_has ls 3 [(0, .ref p0), (1, .int x1), (2, .int x2_5)] → (f_X0_aliasAt_L15 p0_0 x1 n_6 x2_5) = R → W p l e (headSpec (wz yX0_aliasAt cX0_aliasAt 3 (some .int)) ({ frames := 1, cells := 0, slots := 0, locals := 22 } : Room)).room s m ([.ref p0, .int x1] : List Value).toArray below meth c H locs 0 0 (MQ below (va_Qi (fun (r : Int32) (Ω1 : Om) => r = R ∧ Ω1 = Ω) (oB G A) A) ([.ref p0, .int x1] : List Value).toArray s 0 0 A) (F0 m 15 ls []) := by
      intro n_6
      induction n_6 with
      | zero =>
        intro x2_5 H locs v_15_0 hW hS ls hl hR
        exfalso
        omega
      | succ n_6 ih15 =>
        intro x2_5 H locs v_15_0 hW hS ls hl hR
        rw [f_X0_aliasAt_L15] at hR
        refine lv_iload_n hx hb dX0_aliasAt_15 rfl (lv_at hl 2 rfl) ?_
        refine lv_aload_n hx hb dX0_aliasAt_16 rfl (lv_at hl 0 rfl) ?_
        refine o_get hx hb hts hown hK hW (inBlk_o h_p0) rfl ig0 2 (by decide) fl_X0_55 rfl dX0_aliasAt_17 ?_
        try have j_8 : 0 ≤ (p0_0 0 2).toInt ∧ (p0_0 0 2).toInt ≤ 4 := BI_als (by assumption)
        refine lv_icmp_ge (tgt := 41) hx hb dX0_aliasAt_20 (by decide) (fun c_7 => ?_) (fun c_7 => ?_)
        · rw [if_pos c_7] at hR
          have i_7 := rle c_7
          refine lv_bipush (v := (-9 : Int32)) hx hb dX0_aliasAt_41 (by decide) ?_
          subst hR
          exact W.iret (v := (-9 : Int32)) hx hb hr (fun t ht hW9 => ⟨⟨(-9 : Int32), Ω, rfl, ⟨rfl, rfl⟩, by rw [oB, ht]; exact hW⟩, hS.F ht⟩) hS.2.2 dX0_aliasAt_43
        · rw [if_neg c_7] at hR
          have i_7 := rnle c_7
          refine lv_aload_n hx hb dX0_aliasAt_23 rfl (lv_at hl 0 rfl) ?_
          refine o_get hx hb hts hown hK hW (inBlk_o h_p0) rfl ig0 12 (by decide) fl_X0_39 rfl dX0_aliasAt_24 ?_
          refine lv_iload_n hx hb dX0_aliasAt_27 rfl (lv_at hl 2 rfl) ?_
          refine o_iald hx hb hK hW (inBlk_a9 h_p0) (vp_in_iff.mpr ⟨by omega, by omega⟩) dX0_aliasAt_28 ?_
          refine lv_iload_n hx hb dX0_aliasAt_29 rfl (lv_at hl 1 rfl) ?_
          refine lv_icmp_ne (tgt := 35) hx hb dX0_aliasAt_30 (by decide) (fun c_9 => ?_) (fun c_9 => ?_)
          · rw [if_neg c_9] at hR
            have i_9 := rne c_9
            refine lv_iinc (v := (x2_5 + (1 : Int32))) (lv' := [(2, .int (x2_5 + (1 : Int32))), (0, .ref p0), (1, .int x1)]) hx hb dX0_aliasAt_35 hl (k := 2) rfl rfl (by decide) rfl (fun ls hl => ?_)
            refine lv_goto (tgt := 15) hx hb dX0_aliasAt_38 (by decide) ?_
            have j_10 : (1 : Int32).toInt = 1 := by decide
            try have j_11 : (x2_5 + (1 : Int32)).toInt = x2_5.toInt + (1 : Int32).toInt := fb_addI (by omega) (by omega)
            exact ih15 (x2_5 + (1 : Int32)) H locs (by first | assumption | omega) hW hS ls (lv_sub hl [1, 2, 0] rfl) hR
          · rw [if_pos c_9] at hR
            have i_9 := congrArg Int32.toInt c_9
            refine lv_iload_n hx hb dX0_aliasAt_33 rfl (lv_at hl 2 rfl) ?_
            subst hR
            exact W.iret (v := x2_5) hx hb hr (fun t ht hW9 => ⟨⟨x2_5, Ω, rfl, ⟨rfl, rfl⟩, by rw [oB, ht]; exact hW⟩, hS.F ht⟩) hS.2.2 dX0_aliasAt_34
    have j_12 : (0 : Int32).toInt = 0 := by decide
    exact L15 4000 (0 : Int32) H locs (by first | assumption | omega) hW hS ls (lv_sub hl [1, 2, 0] rfl) hR
  · rw [if_neg c_2] at hR
    have i_2 := rne c_2
    refine lv_bipush (v := (-9 : Int32)) hx hb dX0_aliasAt_10 (by decide) ?_
    subst hR
    exact W.iret (v := (-9 : Int32)) hx hb hr (fun t ht hW9 => ⟨⟨(-9 : Int32), Ω, rfl, ⟨rfl, rfl⟩, by rw [oB, ht]; exact hW⟩, hS.F ht⟩) hS.2.2 dX0_aliasAt_12
set_option maxHeartbeats 4000000 in
set_option maxRecDepth 100000 in
theorem c_X0_registerBehind (l : Launch) (G : Gm) (A : Nat → Prop) (Ω : Om) (p0 : Nat) (p0_0 : Blk) (x1 : Int32) (hB_p0 : BlkInv p0_0) (h_p0 : inBlk G Ω p0 p0_0) : Met l yX0_registerBehind (wz yX0_registerBehind cX0_registerBehind 3 (some .int)) ({ frames := 2, cells := 0, slots := 0, locals := 44 } : Room) (va_Pc [.ref p0, .int x1] (oS G A Ω)) (va_Qi (fun (r : Int32) (Ω1 : Om) => r = (f_X0_registerBehind p0_0 x1) ∧ Ω1 = Ω) (oB G A) A) 0 0 A := by
  refine Met.ofW (cc := cX0_registerBehind) (maxL := 3) (ret := (some .int)) (by decide) rfl ?_
  intro p e s m args below meth c s₁ B hml hv
  obtain ⟨rfl, hW, hK, hN⟩ := hv
  have hx := B.exec
  have hb := B.bytes
  have hr := B.returns
  have hts : ∀ w ∈ gt, w.before _ s = true := fun w hw => atoms_spec (ws := wz yX0_registerBehind cX0_registerBehind 3 (some .int)) B.pre w (List.mem_cons_of_mem _ hw)
  have hown : s.vm.findClass RX0 = some m.cls := findClass_of_methodNamed B.named
  have hlocks := B.notSynchronized
  have hA : ∀ q, A q → A q := fun _ h => h
  have hS : va_S A s.heap s.heap [] := va_S.rf
  have hS0 := hS
  have hl := lv_entry ([.ref p0, .int x1]) (n := 3) (Nat.le_of_ble_eq_true rfl)
  rw [lg_entry_eq]
  generalize (lg_sl ([.ref p0, .int x1]) ++ List.replicate (3 - (lg_sl ([.ref p0, .int x1])).length) Slot.unset).toArray = ls at hl ⊢
  have hl : lv_has ls 3 [(0, .ref p0), (1, .int x1)] := hl
  generalize hR : (f_X0_registerBehind p0_0 x1) = R
  rw [f_X0_registerBehind] at hR
  refine lv_aload_n hx hb dX0_registerBehind_0 rfl (lv_at hl 0 rfl) ?_
  refine lv_iload_n hx hb dX0_registerBehind_1 rfl (lv_at hl 1 rfl) ?_
  refine o_ViR (rest := []) (As := [.int x1]) (n := 1) hx hb hml hown hts hK hN hW hS hA (c_X0_aliasAt l G A Ω p0 p0_0 x1 (by first | assumption | omega) h_p0) (inBlk_o h_p0) rfl (good_V ml_X0_74 im_X0_aliasAt se_X0_aliasAt ini_X0 co_X0_aliasAt) (by decide +kernel) ⟨Nat.zero_le _, Nat.zero_le _⟩ hl.1 (Nat.le_of_ble_eq_true rfl) rfl rfl dX0_registerBehind_2 (fun r H locs hp hW hS => ?_)
  subst hp
  refine lv_istore_n (lv' := [(2, .int (f_X0_aliasAt p0_0 x1)), (0, .ref p0), (1, .int x1)]) hx hb dX0_registerBehind_5 rfl hl (by decide) rfl (fun ls hl => ?_)
  refine lv_iload_n hx hb dX0_registerBehind_6 rfl (lv_at hl 0 rfl) ?_
  refine lv_bipush (v := (-9 : Int32)) hx hb dX0_registerBehind_7 (by decide) ?_
  try have j_3 : (f_X0_aliasAt p0_0 x1).toInt = -9 ∨ (0 ≤ (f_X0_aliasAt p0_0 x1).toInt ∧ (f_X0_aliasAt p0_0 x1).toInt < 4) := R_aliasAt (by assumption) _
  have j_4 : (-9 : Int32).toInt = -9 := by decide
  refine lv_icmp_ne (tgt := 20) hx hb dX0_registerBehind_9 (by decide) (fun c_2 => ?_) (fun c_2 => ?_)
  · rw [if_neg c_2] at hR
    have i_2 := rne c_2
    refine lv_aload_n hx hb dX0_registerBehind_20 rfl (lv_at hl 1 rfl) ?_
    refine o_get hx hb hts hown hK hW (inBlk_o h_p0) rfl ig0 13 (by decide) fl_X0_42 rfl dX0_registerBehind_21 ?_
    refine lv_iload_n hx hb dX0_registerBehind_24 rfl (lv_at hl 0 rfl) ?_
    refine o_iald hx hb hK hW (inBlk_a10 h_p0) (vp_in_iff.mpr ⟨by omega, by omega⟩) dX0_registerBehind_25 ?_
    subst hR
    exact W.iret (v := ((p0_0 11) (f_X0_aliasAt p0_0 x1).toNatClampNeg)) hx hb hr (fun t ht hW9 => ⟨⟨((p0_0 11) (f_X0_aliasAt p0_0 x1).toNatClampNeg), Ω, rfl, ⟨rfl, rfl⟩, by rw [oB, ht]; exact hW⟩, hS.F ht⟩) hS.2.2 dX0_registerBehind_26
  · rw [if_pos c_2] at hR
    have i_2 := congrArg Int32.toInt c_2
    refine lv_aload_n hx hb dX0_registerBehind_12 rfl (lv_at hl 1 rfl) ?_
    refine lv_iload_n hx hb dX0_registerBehind_13 rfl (lv_at hl 2 rfl) ?_
    refine o_ViR (rest := []) (As := [.int x1]) (n := 1) hx hb hml hown hts hK hN hW hS hA (c_X0_registerAt l G A Ω p0 p0_0 x1 (by first | assumption | omega) h_p0) (inBlk_o h_p0) rfl (good_V ml_X0_71 im_X0_registerAt se_X0_registerAt ini_X0 co_X0_registerAt) (by decide +kernel) ⟨Nat.zero_le _, Nat.zero_le _⟩ hl.1 (Nat.le_of_ble_eq_true rfl) rfl rfl dX0_registerBehind_14 (fun r H locs hp hW hS => ?_)
    subst hp
    refine lv_goto (tgt := 26) hx hb dX0_registerBehind_17 (by decide) ?_
    subst hR
    exact W.iret (v := (f_X0_registerAt p0_0 x1)) hx hb hr (fun t ht hW9 => ⟨⟨(f_X0_registerAt p0_0 x1), Ω, rfl, ⟨rfl, rfl⟩, by rw [oB, ht]; exact hW⟩, hS.F ht⟩) hS.2.2 dX0_registerBehind_26
set_option maxHeartbeats 4000000 in
set_option maxRecDepth 100000 in
theorem c_X1_shown (l : Launch) (G : Gm) (A : Nat → Prop) (Ω : Om) (p0 : Nat) (p1 : Nat) (p0_0 : Fn) (p0_1 : Fn) (p0_2 : Fn) (p0_3 : Fn) (p1_0 : Blk) (x2 : Int32) (hB_p1 : BlkInv p1_0) (hi_x2 : 0 ≤ x2.toInt ∧ x2.toInt < 6) (h_p0 : inDev G Ω p0 p0_0 p0_1 p0_2 p0_3) (h_p1 : inBlk G Ω p1 p1_0) : Met l yX1_shown (wz yX1_shown cX1_shown 5 (some .int)) ({ frames := 0, cells := 0, slots := 0, locals := 0 } : Room) (va_Pc [.ref p0, .ref p1, .int x2] (oS G A Ω)) (va_Qi (fun (r : Int32) (Ω1 : Om) => r = (f_X1_shown p0_0 p0_3 p1_0 x2) ∧ Ω1 = Ω) (oB G A) A) 0 0 A := by
  refine Met.ofW (cc := cX1_shown) (maxL := 5) (ret := (some .int)) (by decide) rfl ?_
  intro p e s m args below meth c s₁ B hml hv
  obtain ⟨rfl, hW, hK, hN⟩ := hv
  have hx := B.exec
  have hb := B.bytes
  have hr := B.returns
  have hts : ∀ w ∈ gt, w.before _ s = true := fun w hw => atoms_spec (ws := wz yX1_shown cX1_shown 5 (some .int)) B.pre w (List.mem_cons_of_mem _ hw)
  have hown : s.vm.findClass RX1 = some m.cls := findClass_of_methodNamed B.named
  have hlocks := B.notSynchronized
  have hA : ∀ q, A q → A q := fun _ h => h
  have hS : va_S A s.heap s.heap [] := va_S.rf
  have hS0 := hS
  have hl := lv_entry ([.ref p0, .ref p1, .int x2]) (n := 5) (Nat.le_of_ble_eq_true rfl)
  rw [lg_entry_eq]
  generalize (lg_sl ([.ref p0, .ref p1, .int x2]) ++ List.replicate (5 - (lg_sl ([.ref p0, .ref p1, .int x2])).length) Slot.unset).toArray = ls at hl ⊢
  have hl : lv_has ls 5 [(0, .ref p0), (1, .ref p1), (2, .int x2)] := hl
  generalize hR : (f_X1_shown p0_0 p0_3 p1_0 x2) = R
  rw [f_X1_shown] at hR
  refine lv_aload_n hx hb dX1_shown_0 rfl (lv_at hl 0 rfl) ?_
  refine o_get hx hb hts hown hK hW (inDev_o h_p0) rfl ig1 0 (by decide) fl_X1_9 rfl dX1_shown_1 ?_
  refine lv_iload_n hx hb dX1_shown_4 rfl (lv_at hl 2 rfl) ?_
  refine o_iald hx hb hK hW (inDev_a0 h_p0) (vp_in_iff.mpr ⟨by omega, by omega⟩) dX1_shown_5 ?_
  refine lv_istore_n (lv' := [(3, .int (p0_0 x2.toNatClampNeg)), (0, .ref p0), (1, .ref p1), (2, .int x2)]) hx hb dX1_shown_6 rfl hl (by decide) rfl (fun ls hl => ?_)
  refine lv_iconst (v := (0 : Int32)) hx hb dX1_shown_7 (by decide) ?_
  refine lv_istore (lv' := [(4, .int (0 : Int32)), (3, .int (p0_0 x2.toNatClampNeg)), (0, .ref p0), (1, .ref p1), (2, .int x2)]) hx hb dX1_shown_8 hl (by decide) rfl (fun ls hl => ?_)
  have L10 : ∀ (n_2 : Nat) (x3_1 : Int32) (x4_1 : Int32) (H : Heap) (locs : List Loc), (0 ≤ x4_1.toInt ∧ x4_1.toInt ≤ 12 ∧ 12 - x4_1.toInt < n_2) → oW G A Ω H → va_S A s.heap H locs → ∀ ls : Array Slot, lv_has ls 5 [(0, .ref p0), (1, .ref p1), (2, .int x2), (3, .int x3_1), (4, .int x4_1)] → (f_X1_shown_L10 p0_3 p1_0 x2 n_2 x3_1 x4_1) = R → W p l e (headSpec (wz yX1_shown cX1_shown 5 (some .int)) ({ frames := 0, cells := 0, slots := 0, locals := 0 } : Room)).room s m ([.ref p0, .ref p1, .int x2] : List Value).toArray below meth c H locs 0 0 (MQ below (va_Qi (fun (r : Int32) (Ω1 : Om) => r = R ∧ Ω1 = Ω) (oB G A) A) ([.ref p0, .ref p1, .int x2] : List Value).toArray s 0 0 A) (F0 m 10 ls []) := by
    intro n_2
    induction n_2 with
    | zero =>
      intro x3_1 x4_1 H locs v_10_0 hW hS ls hl hR
      exfalso
      omega
    | succ n_2 ih10 =>
      intro x3_1 x4_1 H locs v_10_0 hW hS ls hl hR
      rw [f_X1_shown_L10] at hR
      refine lv_iload hx hb dX1_shown_10 (lv_at hl 4 rfl) ?_
      refine lv_aload_n hx hb dX1_shown_12 rfl (lv_at hl 1 rfl) ?_
      refine o_get hx hb hts hown hK hW (inBlk_o h_p1) rfl ig0 1 (by decide) fl_X1_36 rfl dX1_shown_13 ?_
      try have j_4 : 0 ≤ (p1_0 0 1).toInt ∧ (p1_0 0 1).toInt ≤ 12 := BI_flds (by assumption)
      refine lv_icmp_ge (tgt := 59) hx hb dX1_shown_16 (by decide) (fun c_3 => ?_) (fun c_3 => ?_)
      · rw [if_pos c_3] at hR
        have i_3 := rle c_3
        refine lv_iload_n hx hb dX1_shown_59 rfl (lv_at hl 3 rfl) ?_
        subst hR
        exact W.iret (v := x3_1) hx hb hr (fun t ht hW9 => ⟨⟨x3_1, Ω, rfl, ⟨rfl, rfl⟩, by rw [oB, ht]; exact hW⟩, hS.F ht⟩) hS.2.2 dX1_shown_60
      · rw [if_neg c_3] at hR
        have i_3 := rnle c_3
        refine lv_aload_n hx hb dX1_shown_19 rfl (lv_at hl 1 rfl) ?_
        refine o_get hx hb hts hown hK hW (inBlk_o h_p1) rfl ig0 6 (by decide) fl_X1_47 rfl dX1_shown_20 ?_
        refine lv_iload hx hb dX1_shown_23 (lv_at hl 4 rfl) ?_
        refine o_iald hx hb hK hW (inBlk_a3 h_p1) (vp_in_iff.mpr ⟨by omega, by omega⟩) dX1_shown_25 ?_
        refine lv_iload_n hx hb dX1_shown_26 rfl (lv_at hl 2 rfl) ?_
        try have j_6 : 0 ≤ ((p1_0 4) x4_1.toNatClampNeg).toInt ∧ ((p1_0 4) x4_1.toNatClampNeg).toInt < 6 := BI_owner (by assumption) _
        refine lv_icmp_ne (tgt := 53) hx hb dX1_shown_27 (by decide) (fun c_5 => ?_) (fun c_5 => ?_)
        · rw [if_neg c_5] at hR
          have i_5 := rne c_5
          refine lv_iinc (v := (x4_1 + (1 : Int32))) (lv' := [(4, .int (x4_1 + (1 : Int32))), (0, .ref p0), (1, .ref p1), (2, .int x2), (3, .int x3_1)]) hx hb dX1_shown_53 hl (k := 4) rfl rfl (by decide) rfl (fun ls hl => ?_)
          refine lv_goto (tgt := 10) hx hb dX1_shown_56 (by decide) ?_
          have j_7 : (1 : Int32).toInt = 1 := by decide
          try have j_8 : (x4_1 + (1 : Int32)).toInt = x4_1.toInt + (1 : Int32).toInt := fb_addI (by omega) (by omega)
          exact ih10 x3_1 (x4_1 + (1 : Int32)) H locs (by first | assumption | omega) hW hS ls (lv_sub hl [1, 2, 3, 4, 0] rfl) hR
        · rw [if_pos c_5] at hR
          have i_5 := congrArg Int32.toInt c_5
          refine lv_aload_n hx hb dX1_shown_30 rfl (lv_at hl 0 rfl) ?_
          refine o_get hx hb hts hown hK hW (inDev_o h_p0) rfl ig1 3 (by decide) fl_X1_22 rfl dX1_shown_31 ?_
          refine lv_iload hx hb dX1_shown_34 (lv_at hl 4 rfl) ?_
          refine o_iald hx hb hK hW (inDev_a3 h_p0) (vp_in_iff.mpr ⟨by omega, by omega⟩) dX1_shown_36 ?_
          refine lv_iconst (v := (2 : Int32)) hx hb dX1_shown_37 (by decide) ?_
          have j_10 : (2 : Int32).toInt = 2 := by decide
          refine lv_icmp_ne (tgt := 53) hx hb dX1_shown_38 (by decide) (fun c_9 => ?_) (fun c_9 => ?_)
          · rw [if_neg c_9] at hR
            have i_9 := rne c_9
            refine lv_iinc (v := (x4_1 + (1 : Int32))) (lv' := [(4, .int (x4_1 + (1 : Int32))), (0, .ref p0), (1, .ref p1), (2, .int x2), (3, .int x3_1)]) hx hb dX1_shown_53 hl (k := 4) rfl rfl (by decide) rfl (fun ls hl => ?_)
            refine lv_goto (tgt := 10) hx hb dX1_shown_56 (by decide) ?_
            have j_11 : (1 : Int32).toInt = 1 := by decide
            try have j_12 : (x4_1 + (1 : Int32)).toInt = x4_1.toInt + (1 : Int32).toInt := fb_addI (by omega) (by omega)
            exact ih10 x3_1 (x4_1 + (1 : Int32)) H locs (by first | assumption | omega) hW hS ls (lv_sub hl [1, 2, 3, 4, 0] rfl) hR
          · rw [if_pos c_9] at hR
            have i_9 := congrArg Int32.toInt c_9
            refine lv_iload_n hx hb dX1_shown_41 rfl (lv_at hl 3 rfl) ?_
            refine lv_aload_n hx hb dX1_shown_42 rfl (lv_at hl 1 rfl) ?_
            refine o_get hx hb hts hown hK hW (inBlk_o h_p1) rfl ig0 10 (by decide) fl_X1_50 rfl dX1_shown_43 ?_
            refine lv_iload hx hb dX1_shown_46 (lv_at hl 4 rfl) ?_
            refine o_iald hx hb hK hW (inBlk_a7 h_p1) (vp_in_iff.mpr ⟨by omega, by omega⟩) dX1_shown_48 ?_
            refine lv_iconst (v := (-1 : Int32)) hx hb dX1_shown_49 (by decide) ?_
            refine lv_ixor hx hb dX1_shown_50 ?_
            refine lv_iand hx hb dX1_shown_51 ?_
            refine lv_istore_n (lv' := [(3, .int (x3_1 &&& (((p1_0 8) x4_1.toNatClampNeg) ^^^ (-1 : Int32)))), (0, .ref p0), (1, .ref p1), (2, .int x2), (4, .int x4_1)]) hx hb dX1_shown_52 rfl hl (by decide) rfl (fun ls hl => ?_)
            refine lv_iinc (v := (x4_1 + (1 : Int32))) (lv' := [(4, .int (x4_1 + (1 : Int32))), (3, .int (x3_1 &&& (((p1_0 8) x4_1.toNatClampNeg) ^^^ (-1 : Int32)))), (0, .ref p0), (1, .ref p1), (2, .int x2)]) hx hb dX1_shown_53 hl (k := 4) rfl rfl (by decide) rfl (fun ls hl => ?_)
            refine lv_goto (tgt := 10) hx hb dX1_shown_56 (by decide) ?_
            have j_13 : (1 : Int32).toInt = 1 := by decide
            try have j_14 : (x4_1 + (1 : Int32)).toInt = x4_1.toInt + (1 : Int32).toInt := fb_addI (by omega) (by omega)
            exact ih10 (x3_1 &&& (((p1_0 8) x4_1.toNatClampNeg) ^^^ (-1 : Int32))) (x4_1 + (1 : Int32)) H locs (by first | assumption | omega) hW hS ls (lv_sub hl [2, 3, 4, 1, 0] rfl) hR
  have j_15 : (0 : Int32).toInt = 0 := by decide
  exact L10 4000 (p0_0 x2.toNatClampNeg) (0 : Int32) s.heap [] (by first | assumption | omega) hW hS ls (lv_sub hl [2, 3, 4, 1, 0] rfl) hR
set_option maxHeartbeats 4000000 in
set_option maxRecDepth 100000 in
theorem c_X1_look (l : Launch) (G : Gm) (A : Nat → Prop) (Ω : Om) (p0 : Nat) (p1 : Nat) (p0_0 : Fn) (p0_1 : Fn) (p0_2 : Fn) (p0_3 : Fn) (p1_0 : Blk) (x2 : Int32) (hB_p1 : BlkInv p1_0) (h_p0 : inDev G Ω p0 p0_0 p0_1 p0_2 p0_3) (h_p1 : inBlk G Ω p1 p1_0) : Met l yX1_look (wz yX1_look cX1_look 4 (some .int)) ({ frames := 3, cells := 0, slots := 0, locals := 66 } : Room) (va_Pc [.ref p0, .ref p1, .int x2] (oS G A Ω)) (va_Qi (fun (r : Int32) (Ω1 : Om) => r = (f_X1_look p0_0 p0_3 p1_0 x2) ∧ Ω1 = Ω) (oB G A) A) 0 0 A := by
  refine Met.ofW (cc := cX1_look) (maxL := 4) (ret := (some .int)) (by decide) rfl ?_
  intro p e s m args below meth c s₁ B hml hv
  obtain ⟨rfl, hW, hK, hN⟩ := hv
  have hx := B.exec
  have hb := B.bytes
  have hr := B.returns
  have hts : ∀ w ∈ gt, w.before _ s = true := fun w hw => atoms_spec (ws := wz yX1_look cX1_look 4 (some .int)) B.pre w (List.mem_cons_of_mem _ hw)
  have hown : s.vm.findClass RX1 = some m.cls := findClass_of_methodNamed B.named
  have hlocks := B.notSynchronized
  have hA : ∀ q, A q → A q := fun _ h => h
  have hS : va_S A s.heap s.heap [] := va_S.rf
  have hS0 := hS
  have hl := lv_entry ([.ref p0, .ref p1, .int x2]) (n := 4) (Nat.le_of_ble_eq_true rfl)
  rw [lg_entry_eq]
  generalize (lg_sl ([.ref p0, .ref p1, .int x2]) ++ List.replicate (4 - (lg_sl ([.ref p0, .ref p1, .int x2])).length) Slot.unset).toArray = ls at hl ⊢
  have hl : lv_has ls 4 [(0, .ref p0), (1, .ref p1), (2, .int x2)] := hl
  generalize hR : (f_X1_look p0_0 p0_3 p1_0 x2) = R
  rw [f_X1_look] at hR
  refine lv_aload_n hx hb dX1_look_0 rfl (lv_at hl 1 rfl) ?_
  refine lv_iload_n hx hb dX1_look_1 rfl (lv_at hl 2 rfl) ?_
  refine o_ViR (rest := []) (As := [.int x2]) (n := 1) hx hb hml hown hts hK hN hW hS hA (c_X0_registerBehind l G A Ω p1 p1_0 x2 (by first | assumption | omega) h_p1) (inBlk_o h_p1) rfl (good_V ml_X1_70 im_X0_registerBehind se_X0_registerBehind ini_X0 co_X0_registerBehind) (by decide +kernel) ⟨Nat.zero_le _, Nat.zero_le _⟩ hl.1 (Nat.le_of_ble_eq_true rfl) rfl rfl dX1_look_2 (fun r H locs hp hW hS => ?_)
  subst hp
  refine lv_istore_n (lv' := [(3, .int (f_X0_registerBehind p1_0 x2)), (0, .ref p0), (1, .ref p1), (2, .int x2)]) hx hb dX1_look_5 rfl hl (by decide) rfl (fun ls hl => ?_)
  refine lv_iload_n hx hb dX1_look_6 rfl (lv_at hl 0 rfl) ?_
  refine lv_bipush (v := (-9 : Int32)) hx hb dX1_look_7 (by decide) ?_
  try have j_3 : (f_X0_registerBehind p1_0 x2).toInt = -9 ∨ (0 ≤ (f_X0_registerBehind p1_0 x2).toInt ∧ (f_X0_registerBehind p1_0 x2).toInt < 6) := R_registerBehind (by assumption) _
  have j_4 : (-9 : Int32).toInt = -9 := by decide
  refine lv_icmp_ne (tgt := 16) hx hb dX1_look_9 (by decide) (fun c_2 => ?_) (fun c_2 => ?_)
  · rw [if_neg c_2] at hR
    have i_2 := rne c_2
    refine lv_aload_n hx hb dX1_look_16 rfl (lv_at hl 1 rfl) ?_
    refine lv_aload_n hx hb dX1_look_17 rfl (lv_at hl 2 rfl) ?_
    refine lv_iload_n hx hb dX1_look_18 rfl (lv_at hl 0 rfl) ?_
    refine o_ViR (rest := []) (As := [.ref p1, .int (f_X0_registerBehind p1_0 x2)]) (n := 2) hx hb hml hown hts hK hN hW hS hA (c_X1_shown l G A Ω p0 p1 p0_0 p0_1 p0_2 p0_3 p1_0 (f_X0_registerBehind p1_0 x2) (by first | assumption | omega) (by first | assumption | omega) h_p0 h_p1) (inDev_o h_p0) rfl (good_V ml_X1_74 im_X1_shown se_X1_shown ini_X1 co_X1_shown) (by decide +kernel) ⟨Nat.zero_le _, Nat.zero_le _⟩ hl.1 (Nat.le_of_ble_eq_true rfl) rfl rfl dX1_look_19 (fun r H locs hp hW hS => ?_)
    subst hp
    subst hR
    exact W.iret (v := (f_X1_shown p0_0 p0_3 p1_0 (f_X0_registerBehind p1_0 x2))) hx hb hr (fun t ht hW9 => ⟨⟨(f_X1_shown p0_0 p0_3 p1_0 (f_X0_registerBehind p1_0 x2)), Ω, rfl, ⟨rfl, rfl⟩, by rw [oB, ht]; exact hW⟩, hS.F ht⟩) hS.2.2 dX1_look_22
  · rw [if_pos c_2] at hR
    have i_2 := congrArg Int32.toInt c_2
    refine lv_iconst (v := (0 : Int32)) hx hb dX1_look_12 (by decide) ?_
    refine lv_goto (tgt := 22) hx hb dX1_look_13 (by decide) ?_
    subst hR
    exact W.iret (v := (0 : Int32)) hx hb hr (fun t ht hW9 => ⟨⟨(0 : Int32), Ω, rfl, ⟨rfl, rfl⟩, by rw [oB, ht]; exact hW⟩, hS.F ht⟩) hS.2.2 dX1_look_22
set_option maxHeartbeats 4000000 in
set_option maxRecDepth 100000 in
theorem c_X1_mend (l : Launch) (G : Gm) (A : Nat → Prop) (Ω : Om) (p0 : Nat) (p1 : Nat) (p0_0 : Fn) (p0_1 : Fn) (p0_2 : Fn) (p0_3 : Fn) (p1_0 : Blk) (hd_p0_p1 : p0 + 5 ≤ p1 ∨ p1 + 13 ≤ p0) (hB_p1 : BlkInv p1_0) (h_p0 : inDev G Ω p0 p0_0 p0_1 p0_2 p0_3) (h_p1 : inBlk G Ω p1 p1_0) : Met l yX1_mend (wz yX1_mend cX1_mend 2 none) ({ frames := 1, cells := 0, slots := 0, locals := 60 } : Room) (va_Pc [.ref p0, .ref p1] (oS G A Ω)) (va_Qv (fun (Ω1 : Om) => inDev G Ω1 p0 p0_0 p0_1 p0_2 ((f_X1_mend p0_3 p1_0)) ∧ (∀ q : Nat, (q < p0 ∨ p0 + 5 ≤ q) → Ω1 q = Ω q)) (oB G A) A) 0 0 A := by
  refine Met.ofW (cc := cX1_mend) (maxL := 2) (ret := none) (by decide) rfl ?_
  intro p e s m args below meth c s₁ B hml hv
  obtain ⟨rfl, hW, hK, hN⟩ := hv
  have hx := B.exec
  have hb := B.bytes
  have hr := B.returns
  have hts : ∀ w ∈ gt, w.before _ s = true := fun w hw => atoms_spec (ws := wz yX1_mend cX1_mend 2 none) B.pre w (List.mem_cons_of_mem _ hw)
  have hown : s.vm.findClass RX1 = some m.cls := findClass_of_methodNamed B.named
  have hlocks := B.notSynchronized
  have hA : ∀ q, A q → A q := fun _ h => h
  have hS : va_S A s.heap s.heap [] := va_S.rf
  have hS0 := hS
  have hl := lv_entry ([.ref p0, .ref p1]) (n := 2) (Nat.le_of_ble_eq_true rfl)
  rw [lg_entry_eq]
  generalize (lg_sl ([.ref p0, .ref p1]) ++ List.replicate (2 - (lg_sl ([.ref p0, .ref p1])).length) Slot.unset).toArray = ls at hl ⊢
  have hl : lv_has ls 2 [(0, .ref p0), (1, .ref p1)] := hl
  have hE : ∀ q : Nat, (q < p0 ∨ p0 + 5 ≤ q) → Ω q = Ω q := by intros; rfl
  generalize hR : (f_X1_mend p0_3 p1_0) = R
  rw [f_X1_mend] at hR
  refine lv_aload_n hx hb dX1_mend_0 rfl (lv_at hl 1 rfl) ?_
  refine o_get hx hb hts hown hK hW (inBlk_o h_p1) rfl ig0 7 (by decide) fl_X1_31 rfl dX1_mend_1 ?_
  refine lv_iconst (v := (0 : Int32)) hx hb dX1_mend_4 (by decide) ?_
  refine lv_aload_n hx hb dX1_mend_5 rfl (lv_at hl 0 rfl) ?_
  refine o_get hx hb hts hown hK hW (inDev_o h_p0) rfl ig1 3 (by decide) fl_X1_22 rfl dX1_mend_6 ?_
  refine lv_iconst (v := (0 : Int32)) hx hb dX1_mend_9 (by decide) ?_
  refine lv_bipush (v := (12 : Int32)) hx hb dX1_mend_10 (by decide) ?_
  refine wcDev_3 hx hb (hml.trans hl.1.symm) hown hts ma_X1_25 hK hW hS hA (inBlk_a4 h_p1) (by decide) h_p0 (Nat.le_of_ble_eq_true rfl) (Nat.le_of_ble_eq_true rfl) dX1_mend_12 (fun Ω_1 H locs h_p0 hF_1 hW hS => ?_)
  have h_p1 := h_p1.keep (fun q h1 h2 => hF_1 q (by omega))
  have hE : ∀ q : Nat, (q < p0 ∨ p0 + 5 ≤ q) → Ω_1 q = Ω q := fun q g0 => (hF_1 q (by omega)).trans (hE q g0)
  subst hR
  exact W.vret hx hb hr (fun t ht hW9 => ⟨⟨Ω_1, rfl, ⟨h_p0, hE⟩, by rw [oB, ht]; exact hW⟩, hS.F ht⟩) hS.2.2 dX1_mend_15
set_option maxHeartbeats 4000000 in
set_option maxRecDepth 100000 in
theorem c_X1_putBits (l : Launch) (G : Gm) (A : Nat → Prop) (Ω : Om) (p0 : Nat) (p1 : Nat) (p0_0 : Fn) (p0_1 : Fn) (p0_2 : Fn) (p0_3 : Fn) (p1_0 : Blk) (x2 : Int32) (x3 : Int32) (hd_p0_p1 : p0 + 5 ≤ p1 ∨ p1 + 13 ≤ p0) (hB_p1 : BlkInv p1_0) (hi_x2 : 0 ≤ x2.toInt ∧ x2.toInt < 12) (h_p0 : inDev G Ω p0 p0_0 p0_1 p0_2 p0_3) (h_p1 : inBlk G Ω p1 p1_0) : Met l yX1_putBits (wz yX1_putBits cX1_putBits 5 none) ({ frames := 0, cells := 0, slots := 0, locals := 0 } : Room) (va_Pc [.ref p0, .ref p1, .int x2, .int x3] (oS G A Ω)) (va_Qv (fun (Ω1 : Om) => inDev G Ω1 p0 ((f_X1_putBits p0_0 p1_0 x2 x3)) p0_1 p0_2 p0_3 ∧ (∀ q : Nat, (q < p0 ∨ p0 + 5 ≤ q) → Ω1 q = Ω q)) (oB G A) A) 0 0 A := by
  refine Met.ofW (cc := cX1_putBits) (maxL := 5) (ret := none) (by decide) rfl ?_
  intro p e s m args below meth c s₁ B hml hv
  obtain ⟨rfl, hW, hK, hN⟩ := hv
  have hx := B.exec
  have hb := B.bytes
  have hr := B.returns
  have hts : ∀ w ∈ gt, w.before _ s = true := fun w hw => atoms_spec (ws := wz yX1_putBits cX1_putBits 5 none) B.pre w (List.mem_cons_of_mem _ hw)
  have hown : s.vm.findClass RX1 = some m.cls := findClass_of_methodNamed B.named
  have hlocks := B.notSynchronized
  have hA : ∀ q, A q → A q := fun _ h => h
  have hS : va_S A s.heap s.heap [] := va_S.rf
  have hS0 := hS
  have hl := lv_entry ([.ref p0, .ref p1, .int x2, .int x3]) (n := 5) (Nat.le_of_ble_eq_true rfl)
  rw [lg_entry_eq]
  generalize (lg_sl ([.ref p0, .ref p1, .int x2, .int x3]) ++ List.replicate (5 - (lg_sl ([.ref p0, .ref p1, .int x2, .int x3])).length) Slot.unset).toArray = ls at hl ⊢
  have hl : lv_has ls 5 [(0, .ref p0), (1, .ref p1), (2, .int x2), (3, .int x3)] := hl
  have hE : ∀ q : Nat, (q < p0 ∨ p0 + 5 ≤ q) → Ω q = Ω q := by intros; rfl
  generalize hR : (f_X1_putBits p0_0 p1_0 x2 x3) = R
  rw [f_X1_putBits] at hR
  refine lv_aload_n hx hb dX1_putBits_0 rfl (lv_at hl 1 rfl) ?_
  refine o_get hx hb hts hown hK hW (inBlk_o h_p1) rfl ig0 6 (by decide) fl_X1_47 rfl dX1_putBits_1 ?_
  refine lv_iload_n hx hb dX1_putBits_4 rfl (lv_at hl 2 rfl) ?_
  refine o_iald hx hb hK hW (inBlk_a3 h_p1) (vp_in_iff.mpr ⟨by omega, by omega⟩) dX1_putBits_5 ?_
  refine lv_istore (lv' := [(4, .int ((p1_0 4) x2.toNatClampNeg)), (0, .ref p0), (1, .ref p1), (2, .int x2), (3, .int x3)]) hx hb dX1_putBits_6 hl (by decide) rfl (fun ls hl => ?_)
  refine lv_aload_n hx hb dX1_putBits_8 rfl (lv_at hl 1 rfl) ?_
  refine o_get hx hb hts hown hK hW (inDev_o h_p0) rfl ig1 0 (by decide) fl_X1_9 rfl dX1_putBits_9 ?_
  refine lv_iload hx hb dX1_putBits_12 (lv_at hl 0 rfl) ?_
  refine lv_aload_n hx hb dX1_putBits_14 rfl (lv_at hl 1 rfl) ?_
  refine o_get hx hb hts hown hK hW (inDev_o h_p0) rfl ig1 0 (by decide) fl_X1_9 rfl dX1_putBits_15 ?_
  refine lv_iload hx hb dX1_putBits_18 (lv_at hl 0 rfl) ?_
  try have j_1 : 0 ≤ ((p1_0 4) x2.toNatClampNeg).toInt ∧ ((p1_0 4) x2.toNatClampNeg).toInt < 6 := BI_owner (by assumption) _
  refine o_iald hx hb hK hW (inDev_a0 h_p0) (vp_in_iff.mpr ⟨by omega, by omega⟩) dX1_putBits_20 ?_
  refine lv_aload_n hx hb dX1_putBits_21 rfl (lv_at hl 2 rfl) ?_
  refine o_get hx hb hts hown hK hW (inBlk_o h_p1) rfl ig0 10 (by decide) fl_X1_50 rfl dX1_putBits_22 ?_
  refine lv_iload_n hx hb dX1_putBits_25 rfl (lv_at hl 3 rfl) ?_
  refine o_iald hx hb hK hW (inBlk_a7 h_p1) (vp_in_iff.mpr ⟨by omega, by omega⟩) dX1_putBits_26 ?_
  refine lv_iconst (v := (-1 : Int32)) hx hb dX1_putBits_27 (by decide) ?_
  refine lv_ixor hx hb dX1_putBits_28 ?_
  refine lv_iand hx hb dX1_putBits_29 ?_
  refine lv_iload_n hx hb dX1_putBits_30 rfl (lv_at hl 4 rfl) ?_
  refine lv_aload_n hx hb dX1_putBits_31 rfl (lv_at hl 2 rfl) ?_
  refine o_get hx hb hts hown hK hW (inBlk_o h_p1) rfl ig0 10 (by decide) fl_X1_50 rfl dX1_putBits_32 ?_
  refine lv_iload_n hx hb dX1_putBits_35 rfl (lv_at hl 3 rfl) ?_
  refine o_iald hx hb hK hW (inBlk_a7 h_p1) (vp_in_iff.mpr ⟨by omega, by omega⟩) dX1_putBits_36 ?_
  refine lv_iand hx hb dX1_putBits_37 ?_
  refine lv_ior hx hb dX1_putBits_38 ?_
  refine wDev_0 hx hb hK hW hS hA h_p0 (vp_in_iff.mpr ⟨by omega, by omega⟩) dX1_putBits_39 (fun Ω_2 H locs h_p0 hF_2 hW hS => ?_)
  have h_p1 := h_p1.keep (fun q h1 h2 => hF_2 q (by omega))
  have hE : ∀ q : Nat, (q < p0 ∨ p0 + 5 ≤ q) → Ω_2 q = Ω q := fun q g0 => (hF_2 q (by omega)).trans (hE q g0)
  subst hR
  exact W.vret hx hb hr (fun t ht hW9 => ⟨⟨Ω_2, rfl, ⟨h_p0, hE⟩, by rw [oB, ht]; exact hW⟩, hS.F ht⟩) hS.2.2 dX1_putBits_40
set_option maxHeartbeats 4000000 in
set_option maxRecDepth 100000 in
theorem c_X1_putValue (l : Launch) (G : Gm) (A : Nat → Prop) (Ω : Om) (p0 : Nat) (p1 : Nat) (p0_0 : Fn) (p0_1 : Fn) (p0_2 : Fn) (p0_3 : Fn) (p1_0 : Blk) (x2 : Int32) (x3 : Int32) (hd_p0_p1 : p0 + 5 ≤ p1 ∨ p1 + 13 ≤ p0) (hB_p1 : BlkInv p1_0) (hi_x2 : 0 ≤ x2.toInt ∧ x2.toInt < 12) (h_p0 : inDev G Ω p0 p0_0 p0_1 p0_2 p0_3) (h_p1 : inBlk G Ω p1 p1_0) : Met l yX1_putValue (wz yX1_putValue cX1_putValue 4 none) ({ frames := 1, cells := 0, slots := 0, locals := 24 } : Room) (va_Pc [.ref p0, .ref p1, .int x2, .int x3] (oS G A Ω)) (va_Qv (fun (Ω1 : Om) => inDev G Ω1 p0 ((f_X1_putValue p0_0 p1_0 x2 x3)) p0_1 p0_2 p0_3 ∧ (∀ q : Nat, (q < p0 ∨ p0 + 5 ≤ q) → Ω1 q = Ω q)) (oB G A) A) 0 0 A := by
  refine Met.ofW (cc := cX1_putValue) (maxL := 4) (ret := none) (by decide) rfl ?_
  intro p e s m args below meth c s₁ B hml hv
  obtain ⟨rfl, hW, hK, hN⟩ := hv
  have hx := B.exec
  have hb := B.bytes
  have hr := B.returns
  have hts : ∀ w ∈ gt, w.before _ s = true := fun w hw => atoms_spec (ws := wz yX1_putValue cX1_putValue 4 none) B.pre w (List.mem_cons_of_mem _ hw)
  have hown : s.vm.findClass RX1 = some m.cls := findClass_of_methodNamed B.named
  have hlocks := B.notSynchronized
  have hA : ∀ q, A q → A q := fun _ h => h
  have hS : va_S A s.heap s.heap [] := va_S.rf
  have hS0 := hS
  have hl := lv_entry ([.ref p0, .ref p1, .int x2, .int x3]) (n := 4) (Nat.le_of_ble_eq_true rfl)
  rw [lg_entry_eq]
  generalize (lg_sl ([.ref p0, .ref p1, .int x2, .int x3]) ++ List.replicate (4 - (lg_sl ([.ref p0, .ref p1, .int x2, .int x3])).length) Slot.unset).toArray = ls at hl ⊢
  have hl : lv_has ls 4 [(0, .ref p0), (1, .ref p1), (2, .int x2), (3, .int x3)] := hl
  have hE : ∀ q : Nat, (q < p0 ∨ p0 + 5 ≤ q) → Ω q = Ω q := by intros; rfl
  generalize hR : (f_X1_putValue p0_0 p1_0 x2 x3) = R
  rw [f_X1_putValue] at hR
  refine lv_aload_n hx hb dX1_putValue_0 rfl (lv_at hl 0 rfl) ?_
  refine lv_aload_n hx hb dX1_putValue_1 rfl (lv_at hl 1 rfl) ?_
  refine lv_iload_n hx hb dX1_putValue_2 rfl (lv_at hl 2 rfl) ?_
  refine lv_iload_n hx hb dX1_putValue_3 rfl (lv_at hl 3 rfl) ?_
  refine lv_aload_n hx hb dX1_putValue_4 rfl (lv_at hl 1 rfl) ?_
  refine o_get hx hb hts hown hK hW (inBlk_o h_p1) rfl ig0 8 (by decide) fl_X1_53 rfl dX1_putValue_5 ?_
  refine lv_iload_n hx hb dX1_putValue_8 rfl (lv_at hl 2 rfl) ?_
  refine o_iald hx hb hK hW (inBlk_a5 h_p1) (vp_in_iff.mpr ⟨by omega, by omega⟩) dX1_putValue_9 ?_
  refine lv_ishl hx hb dX1_putValue_10 ?_
  refine o_Vv (rest := []) (As := [.ref p1, .int x2, .int (x3 <<< (((p1_0 6) x2.toNatClampNeg) &&& 31))]) (n := 3) hx hb hml hown hts hK hN hW hS hA (c_X1_putBits l G A Ω p0 p1 p0_0 p0_1 p0_2 p0_3 p1_0 x2 (x3 <<< (((p1_0 6) x2.toNatClampNeg) &&& 31)) (by omega) (by first | assumption | omega) (by first | assumption | omega) h_p0 h_p1) (inDev_o h_p0) rfl (good_V ml_X1_56 im_X1_putBits se_X1_putBits ini_X1 co_X1_putBits) (by decide +kernel) ⟨Nat.zero_le _, Nat.zero_le _⟩ hl.1 (Nat.le_of_ble_eq_true rfl) rfl rfl dX1_putValue_11 (fun Ω_1 H locs hp hW hS => ?_)
  obtain ⟨h_p0, hF_1⟩ := hp
  have h_p1 := h_p1.keep (fun q h1 h2 => hF_1 q (by omega))
  have hE : ∀ q : Nat, (q < p0 ∨ p0 + 5 ≤ q) → Ω_1 q = Ω q := fun q g0 => (hF_1 q (by omega)).trans (hE q g0)
  subst hR
  exact W.vret hx hb hr (fun t ht hW9 => ⟨⟨Ω_1, rfl, ⟨h_p0, hE⟩, by rw [oB, ht]; exact hW⟩, hS.F ht⟩) hS.2.2 dX1_putValue_14
set_option maxHeartbeats 4000000 in
set_option maxRecDepth 100000 in
theorem c_X1_restart (l : Launch) (G : Gm) (A : Nat → Prop) (Ω : Om) (p0 : Nat) (p1 : Nat) (p0_0 : Fn) (p0_1 : Fn) (p0_2 : Fn) (p0_3 : Fn) (p1_0 : Blk) (hd_p0_p1 : p0 + 5 ≤ p1 ∨ p1 + 13 ≤ p0) (hB_p1 : BlkInv p1_0) (h_p0 : inDev G Ω p0 p0_0 p0_1 p0_2 p0_3) (h_p1 : inBlk G Ω p1 p1_0) : Met l yX1_restart (wz yX1_restart cX1_restart 3 none) ({ frames := 2, cells := 0, slots := 0, locals := 47 } : Room) (va_Pc [.ref p0, .ref p1] (oS G A Ω)) (va_Qv (fun (Ω1 : Om) => inDev G Ω1 p0 ((f_X1_restart p0_0 p0_1 p0_2 p1_0).1) ((f_X1_restart p0_0 p0_1 p0_2 p1_0).2.1) ((f_X1_restart p0_0 p0_1 p0_2 p1_0).2.2) p0_3 ∧ (∀ q : Nat, (q < p0 ∨ p0 + 5 ≤ q) → Ω1 q = Ω q)) (oB G A) A) 0 0 A := by
  refine Met.ofW (cc := cX1_restart) (maxL := 3) (ret := none) (by decide) rfl ?_
  intro p e s m args below meth c s₁ B hml hv
  obtain ⟨rfl, hW, hK, hN⟩ := hv
  have hx := B.exec
  have hb := B.bytes
  have hr := B.returns
  have hts : ∀ w ∈ gt, w.before _ s = true := fun w hw => atoms_spec (ws := wz yX1_restart cX1_restart 3 none) B.pre w (List.mem_cons_of_mem _ hw)
  have hown : s.vm.findClass RX1 = some m.cls := findClass_of_methodNamed B.named
  have hlocks := B.notSynchronized
  have hA : ∀ q, A q → A q := fun _ h => h
  have hS : va_S A s.heap s.heap [] := va_S.rf
  have hS0 := hS
  have hl := lv_entry ([.ref p0, .ref p1]) (n := 3) (Nat.le_of_ble_eq_true rfl)
  rw [lg_entry_eq]
  generalize (lg_sl ([.ref p0, .ref p1]) ++ List.replicate (3 - (lg_sl ([.ref p0, .ref p1])).length) Slot.unset).toArray = ls at hl ⊢
  have hl : lv_has ls 3 [(0, .ref p0), (1, .ref p1)] := hl
  have hE : ∀ q : Nat, (q < p0 ∨ p0 + 5 ≤ q) → Ω q = Ω q := by intros; rfl
  generalize hR : (f_X1_restart p0_0 p0_1 p0_2 p1_0) = R
  rw [f_X1_restart] at hR
  refine lv_iconst (v := (0 : Int32)) hx hb dX1_restart_0 (by decide) ?_
  refine lv_istore_n (lv' := [(2, .int (0 : Int32)), (0, .ref p0), (1, .ref p1)]) hx hb dX1_restart_1 rfl hl (by decide) rfl (fun ls hl => ?_)
  have L2 : ∀ (n_2 : Nat) (x2_1 : Int32) (p0_0_1 : Fn) (p0_1_1 : Fn) (p0_2_1 : Fn) (Ω_3 : Om) (H : Heap) (locs : List Loc), (0 ≤ x2_1.toInt ∧ x2_1.toInt ≤ 6 ∧ 6 - x2_1.toInt < n_2) → inDev G Ω_3 p0 p0_0_1 p0_1_1 p0_2_1 p0_3 → inBlk G Ω_3 p1 p1_0 → (∀ q : Nat, (q < p0 ∨ p0 + 5 ≤ q) → Ω_3 q = Ω q) → oW G A Ω_3 H → va_S A s.heap H locs → ∀ ls : Array Slot, lv_has ls 3 [(0, .ref p0), (1, .ref p1), (2, .int x2_1)] → (f_X1_restart_L2 p1_0 n_2 x2_1 p0_0_1 p0_1_1 p0_2_1) = R → W p l e (headSpec (wz yX1_restart cX1_restart 3 none) ({ frames := 2, cells := 0, slots := 0, locals := 47 } : Room)).room s m ([.ref p0, .ref p1] : List Value).toArray below meth c H locs 0 0 (MQ below (va_Qv (fun (Ω1 : Om) => inDev G Ω1 p0 (R.1) (R.2.1) (R.2.2) p0_3 ∧ (∀ q : Nat, (q < p0 ∨ p0 + 5 ≤ q) → Ω1 q = Ω q)) (oB G A) A) ([.ref p0, .ref p1] : List Value).toArray s 0 0 A) (F0 m 2 ls []) := by
    intro n_2
    induction n_2 with
    | zero =>
      intro x2_1 p0_0_1 p0_1_1 p0_2_1 Ω_3 H locs v_2_0 h_p0 h_p1 hE hW hS ls hl hR
      exfalso
      omega
    | succ n_2 ih2 =>
      intro x2_1 p0_0_1 p0_1_1 p0_2_1 Ω_3 H locs v_2_0 h_p0 h_p1 hE hW hS ls hl hR
      rw [f_X1_restart_L2] at hR
      refine lv_iload_n hx hb dX1_restart_2 rfl (lv_at hl 2 rfl) ?_
      refine lv_bipush (v := (6 : Int32)) hx hb dX1_restart_3 (by decide) ?_
      have j_5 : (6 : Int32).toInt = 6 := by decide
      refine lv_icmp_ge (tgt := 36) hx hb dX1_restart_5 (by decide) (fun c_4 => ?_) (fun c_4 => ?_)
      · rw [if_pos c_4] at hR
        have i_4 := rle c_4
        refine lv_iconst (v := (0 : Int32)) hx hb dX1_restart_36 (by decide) ?_
        refine lv_istore_n (lv' := [(2, .int (0 : Int32)), (0, .ref p0), (1, .ref p1)]) hx hb dX1_restart_37 rfl hl (by decide) rfl (fun ls hl => ?_)
        have L38 : ∀ (n_7 : Nat) (x2_6 : Int32) (p0_0_6 : Fn) (Ω_8 : Om) (H : Heap) (locs : List Loc), (0 ≤ x2_6.toInt ∧ x2_6.toInt ≤ 12 ∧ 12 - x2_6.toInt < n_7) → inDev G Ω_8 p0 p0_0_6 p0_1_1 p0_2_1 p0_3 → inBlk G Ω_8 p1 p1_0 → (∀ q : Nat, (q < p0 ∨ p0 + 5 ≤ q) → Ω_8 q = Ω q) → oW G A Ω_8 H → va_S A s.heap H locs → ∀ ls : Array Slot, lv_has ls 3 [(0, .ref p0), (1, .ref p1), (2, .int x2_6)] → (f_X1_restart_L38 p0_1_1 p0_2_1 p1_0 n_7 x2_6 p0_0_6) = R → W p l e (headSpec (wz yX1_restart cX1_restart 3 none) ({ frames := 2, cells := 0, slots := 0, locals := 47 } : Room)).room s m ([.ref p0, .ref p1] : List Value).toArray below meth c H locs 0 0 (MQ below (va_Qv (fun (Ω1 : Om) => inDev G Ω1 p0 (R.1) (R.2.1) (R.2.2) p0_3 ∧ (∀ q : Nat, (q < p0 ∨ p0 + 5 ≤ q) → Ω1 q = Ω q)) (oB G A) A) ([.ref p0, .ref p1] : List Value).toArray s 0 0 A) (F0 m 38 ls []) := by
          intro n_7
          induction n_7 with
          | zero =>
            intro x2_6 p0_0_6 Ω_8 H locs v_38_0 h_p0 h_p1 hE hW hS ls hl hR
            exfalso
            omega
          | succ n_7 ih38 =>
            intro x2_6 p0_0_6 Ω_8 H locs v_38_0 h_p0 h_p1 hE hW hS ls hl hR
            rw [f_X1_restart_L38] at hR
            refine lv_iload_n hx hb dX1_restart_38 rfl (lv_at hl 2 rfl) ?_
            refine lv_aload_n hx hb dX1_restart_39 rfl (lv_at hl 1 rfl) ?_
            refine o_get hx hb hts hown hK hW (inBlk_o h_p1) rfl ig0 1 (by decide) fl_X1_36 rfl dX1_restart_40 ?_
            try have j_10 : 0 ≤ (p1_0 0 1).toInt ∧ (p1_0 0 1).toInt ≤ 12 := BI_flds (by assumption)
            refine lv_icmp_ge (tgt := 64) hx hb dX1_restart_43 (by decide) (fun c_9 => ?_) (fun c_9 => ?_)
            · rw [if_pos c_9] at hR
              have i_9 := rle c_9
              subst hR
              exact W.vret hx hb hr (fun t ht hW9 => ⟨⟨Ω_8, rfl, ⟨h_p0, hE⟩, by rw [oB, ht]; exact hW⟩, hS.F ht⟩) hS.2.2 dX1_restart_64
            · rw [if_neg c_9] at hR
              have i_9 := rnle c_9
              refine lv_aload_n hx hb dX1_restart_46 rfl (lv_at hl 0 rfl) ?_
              refine lv_aload_n hx hb dX1_restart_47 rfl (lv_at hl 1 rfl) ?_
              refine lv_iload_n hx hb dX1_restart_48 rfl (lv_at hl 2 rfl) ?_
              refine lv_aload_n hx hb dX1_restart_49 rfl (lv_at hl 1 rfl) ?_
              refine o_get hx hb hts hown hK hW (inBlk_o h_p1) rfl ig0 11 (by decide) fl_X1_40 rfl dX1_restart_50 ?_
              refine lv_iload_n hx hb dX1_restart_53 rfl (lv_at hl 2 rfl) ?_
              refine o_iald hx hb hK hW (inBlk_a8 h_p1) (vp_in_iff.mpr ⟨by omega, by omega⟩) dX1_restart_54 ?_
              refine o_Vv (rest := []) (As := [.ref p1, .int x2_6, .int ((p1_0 9) x2_6.toNatClampNeg)]) (n := 3) hx hb hml hown hts hK hN hW hS hA (c_X1_putValue l G A Ω_8 p0 p1 p0_0_6 p0_1_1 p0_2_1 p0_3 p1_0 x2_6 ((p1_0 9) x2_6.toNatClampNeg) (by omega) (by first | assumption | omega) (by first | assumption | omega) h_p0 h_p1) (inDev_o h_p0) rfl (good_V ml_X1_43 im_X1_putValue se_X1_putValue ini_X1 co_X1_putValue) (by decide +kernel) ⟨Nat.zero_le _, Nat.zero_le _⟩ hl.1 (Nat.le_of_ble_eq_true rfl) rfl rfl dX1_restart_55 (fun Ω_11 H locs hp hW hS => ?_)
              obtain ⟨h_p0, hF_11⟩ := hp
              have h_p1 := h_p1.keep (fun q h1 h2 => hF_11 q (by omega))
              have hE : ∀ q : Nat, (q < p0 ∨ p0 + 5 ≤ q) → Ω_11 q = Ω q := fun q g0 => (hF_11 q (by omega)).trans (hE q g0)
              refine lv_iinc (v := (x2_6 + (1 : Int32))) (lv' := [(2, .int (x2_6 + (1 : Int32))), (0, .ref p0), (1, .ref p1)]) hx hb dX1_restart_58 hl (k := 2) rfl rfl (by decide) rfl (fun ls hl => ?_)
              refine lv_goto (tgt := 38) hx hb dX1_restart_61 (by decide) ?_
              have j_12 : (1 : Int32).toInt = 1 := by decide
              try have j_13 : (x2_6 + (1 : Int32)).toInt = x2_6.toInt + (1 : Int32).toInt := fb_addI (by omega) (by omega)
              exact ih38 (x2_6 + (1 : Int32)) (f_X1_putValue p0_0_6 p1_0 x2_6 ((p1_0 9) x2_6.toNatClampNeg)) Ω_11 H locs (by first | assumption | omega) h_p0 h_p1 hE hW hS ls (lv_sub hl [1, 2, 0] rfl) hR
        have j_14 : (0 : Int32).toInt = 0 := by decide
        exact L38 4000 (0 : Int32) p0_0_1 Ω_3 H locs (by first | assumption | omega) h_p0 h_p1 hE hW hS ls (lv_sub hl [1, 2, 0] rfl) hR
      · rw [if_neg c_4] at hR
        have i_4 := rnle c_4
        refine lv_aload_n hx hb dX1_restart_8 rfl (lv_at hl 0 rfl) ?_
        refine o_get hx hb hts hown hK hW (inDev_o h_p0) rfl ig1 0 (by decide) fl_X1_9 rfl dX1_restart_9 ?_
        refine lv_iload_n hx hb dX1_restart_12 rfl (lv_at hl 2 rfl) ?_
        refine lv_iconst (v := (0 : Int32)) hx hb dX1_restart_13 (by decide) ?_
        refine wDev_0 hx hb hK hW hS hA h_p0 (vp_in_iff.mpr ⟨by omega, by omega⟩) dX1_restart_14 (fun Ω_15 H locs h_p0 hF_15 hW hS => ?_)
        have h_p1 := h_p1.keep (fun q h1 h2 => hF_15 q (by omega))
        have hE : ∀ q : Nat, (q < p0 ∨ p0 + 5 ≤ q) → Ω_15 q = Ω q := fun q g0 => (hF_15 q (by omega)).trans (hE q g0)
        refine lv_aload_n hx hb dX1_restart_15 rfl (lv_at hl 0 rfl) ?_
        refine o_get hx hb hts hown hK hW (inDev_o h_p0) rfl ig1 1 (by decide) fl_X1_15 rfl dX1_restart_16 ?_
        refine lv_iload_n hx hb dX1_restart_19 rfl (lv_at hl 2 rfl) ?_
        refine lv_bipush (v := (-9 : Int32)) hx hb dX1_restart_20 (by decide) ?_
        refine wDev_1 hx hb hK hW hS hA h_p0 (vp_in_iff.mpr ⟨by omega, by omega⟩) dX1_restart_22 (fun Ω_16 H locs h_p0 hF_16 hW hS => ?_)
        have h_p1 := h_p1.keep (fun q h1 h2 => hF_16 q (by omega))
        have hE : ∀ q : Nat, (q < p0 ∨ p0 + 5 ≤ q) → Ω_16 q = Ω q := fun q g0 => (hF_16 q (by omega)).trans (hE q g0)
        refine lv_aload_n hx hb dX1_restart_23 rfl (lv_at hl 0 rfl) ?_
        refine o_get hx hb hts hown hK hW (inDev_o h_p0) rfl ig1 2 (by decide) fl_X1_18 rfl dX1_restart_24 ?_
        refine lv_iload_n hx hb dX1_restart_27 rfl (lv_at hl 2 rfl) ?_
        refine lv_iconst (v := (0 : Int32)) hx hb dX1_restart_28 (by decide) ?_
        refine wDev_2 hx hb hK hW hS hA h_p0 (vp_in_iff.mpr ⟨by omega, by omega⟩) dX1_restart_29 (fun Ω_17 H locs h_p0 hF_17 hW hS => ?_)
        have h_p1 := h_p1.keep (fun q h1 h2 => hF_17 q (by omega))
        have hE : ∀ q : Nat, (q < p0 ∨ p0 + 5 ≤ q) → Ω_17 q = Ω q := fun q g0 => (hF_17 q (by omega)).trans (hE q g0)
        refine lv_iinc (v := (x2_1 + (1 : Int32))) (lv' := [(2, .int (x2_1 + (1 : Int32))), (0, .ref p0), (1, .ref p1)]) hx hb dX1_restart_30 hl (k := 2) rfl rfl (by decide) rfl (fun ls hl => ?_)
        refine lv_goto (tgt := 2) hx hb dX1_restart_33 (by decide) ?_
        have j_18 : (1 : Int32).toInt = 1 := by decide
        try have j_19 : (x2_1 + (1 : Int32)).toInt = x2_1.toInt + (1 : Int32).toInt := fb_addI (by omega) (by omega)
        exact ih2 (x2_1 + (1 : Int32)) (upd p0_0_1 x2_1.toNatClampNeg (0 : Int32)) (upd p0_1_1 x2_1.toNatClampNeg (-9 : Int32)) (upd p0_2_1 x2_1.toNatClampNeg (vp_nar .boolean (0 : Int32))) Ω_17 H locs (by first | assumption | omega) h_p0 h_p1 hE hW hS ls (lv_sub hl [1, 2, 0] rfl) hR
  have j_20 : (0 : Int32).toInt = 0 := by decide
  exact L2 4000 (0 : Int32) p0_0 p0_1 p0_2 Ω s.heap [] (by first | assumption | omega) h_p0 h_p1 hE hW hS ls (lv_sub hl [1, 2, 0] rfl) hR
set_option maxHeartbeats 4000000 in
set_option maxRecDepth 100000 in
theorem c_X1_bitsAfter (l : Launch) (G : Gm) (A : Nat → Prop) (Ω : Om) (p0 : Nat) (p0_0 : Fn) (p0_1 : Fn) (p0_2 : Fn) (p0_3 : Fn) (x1 : Int32) (x2 : Int32) (x3 : Int32) (hi_x1 : 0 ≤ x1.toInt ∧ x1.toInt < 6) (h_p0 : inDev G Ω p0 p0_0 p0_1 p0_2 p0_3) : Met l yX1_bitsAfter (wz yX1_bitsAfter cX1_bitsAfter 4 (some .int)) ({ frames := 0, cells := 0, slots := 0, locals := 0 } : Room) (va_Pc [.ref p0, .int x1, .int x2, .int x3] (oS G A Ω)) (va_Qi (fun (r : Int32) (Ω1 : Om) => r = (f_X1_bitsAfter p0_0 p0_2 x1 x2 x3) ∧ Ω1 = Ω) (oB G A) A) 0 0 A := by
  refine Met.ofW (cc := cX1_bitsAfter) (maxL := 4) (ret := (some .int)) (by decide) rfl ?_
  intro p e s m args below meth c s₁ B hml hv
  obtain ⟨rfl, hW, hK, hN⟩ := hv
  have hx := B.exec
  have hb := B.bytes
  have hr := B.returns
  have hts : ∀ w ∈ gt, w.before _ s = true := fun w hw => atoms_spec (ws := wz yX1_bitsAfter cX1_bitsAfter 4 (some .int)) B.pre w (List.mem_cons_of_mem _ hw)
  have hown : s.vm.findClass RX1 = some m.cls := findClass_of_methodNamed B.named
  have hlocks := B.notSynchronized
  have hA : ∀ q, A q → A q := fun _ h => h
  have hS : va_S A s.heap s.heap [] := va_S.rf
  have hS0 := hS
  have hl := lv_entry ([.ref p0, .int x1, .int x2, .int x3]) (n := 4) (Nat.le_of_ble_eq_true rfl)
  rw [lg_entry_eq]
  generalize (lg_sl ([.ref p0, .int x1, .int x2, .int x3]) ++ List.replicate (4 - (lg_sl ([.ref p0, .int x1, .int x2, .int x3])).length) Slot.unset).toArray = ls at hl ⊢
  have hl : lv_has ls 4 [(0, .ref p0), (1, .int x1), (2, .int x2), (3, .int x3)] := hl
  generalize hR : (f_X1_bitsAfter p0_0 p0_2 x1 x2 x3) = R
  rw [f_X1_bitsAfter] at hR
  refine lv_iload_n hx hb dX1_bitsAfter_0 rfl (lv_at hl 3 rfl) ?_
  by_cases c_1 : x3 = (0 : Int32)
  · rw [if_pos c_1] at hR
    refine lv_tableIn (tgt := 48) hx hb dX1_bitsAfter_1 (by rw [c_1]; decide) (by rw [c_1]; decide) (by rw [c_1]; rfl) (by decide) ?_
    have i_1 := congrArg Int32.toInt c_1
    have j_2 : (0 : Int32).toInt = 0 := by decide
    refine lv_iload_n hx hb dX1_bitsAfter_48 rfl (lv_at hl 2 rfl) ?_
    subst hR
    exact W.iret (v := x2) hx hb hr (fun t ht hW9 => ⟨⟨x2, Ω, rfl, ⟨rfl, rfl⟩, by rw [oB, ht]; exact hW⟩, hS.F ht⟩) hS.2.2 dX1_bitsAfter_49
  rw [if_neg c_1] at hR
  by_cases c_3 : x3 = (1 : Int32)
  · rw [if_pos c_3] at hR
    refine lv_tableIn (tgt := 99) hx hb dX1_bitsAfter_1 (by rw [c_3]; decide) (by rw [c_3]; decide) (by rw [c_3]; rfl) (by decide) ?_
    have i_3 := congrArg Int32.toInt c_3
    refine lv_aload_n hx hb dX1_bitsAfter_99 rfl (lv_at hl 0 rfl) ?_
    refine o_get hx hb hts hown hK hW (inDev_o h_p0) rfl ig1 0 (by decide) fl_X1_9 rfl dX1_bitsAfter_100 ?_
    refine lv_iload_n hx hb dX1_bitsAfter_103 rfl (lv_at hl 1 rfl) ?_
    refine o_iald hx hb hK hW (inDev_a0 h_p0) (vp_in_iff.mpr ⟨by omega, by omega⟩) dX1_bitsAfter_104 ?_
    subst hR
    exact W.iret (v := (p0_0 x1.toNatClampNeg)) hx hb hr (fun t ht hW9 => ⟨⟨(p0_0 x1.toNatClampNeg), Ω, rfl, ⟨rfl, rfl⟩, by rw [oB, ht]; exact hW⟩, hS.F ht⟩) hS.2.2 dX1_bitsAfter_105
  rw [if_neg c_3] at hR
  by_cases c_4 : x3 = (2 : Int32)
  · rw [if_pos c_4] at hR
    refine lv_tableIn (tgt := 48) hx hb dX1_bitsAfter_1 (by rw [c_4]; decide) (by rw [c_4]; decide) (by rw [c_4]; rfl) (by decide) ?_
    have i_4 := congrArg Int32.toInt c_4
    refine lv_iload_n hx hb dX1_bitsAfter_48 rfl (lv_at hl 2 rfl) ?_
    subst hR
    exact W.iret (v := x2) hx hb hr (fun t ht hW9 => ⟨⟨x2, Ω, rfl, ⟨rfl, rfl⟩, by rw [oB, ht]; exact hW⟩, hS.F ht⟩) hS.2.2 dX1_bitsAfter_49
  rw [if_neg c_4] at hR
  by_cases c_5 : x3 = (3 : Int32)
  · rw [if_pos c_5] at hR
    refine lv_tableIn (tgt := 50) hx hb dX1_bitsAfter_1 (by rw [c_5]; decide) (by rw [c_5]; decide) (by rw [c_5]; rfl) (by decide) ?_
    have i_5 := congrArg Int32.toInt c_5
    refine lv_aload_n hx hb dX1_bitsAfter_50 rfl (lv_at hl 0 rfl) ?_
    refine o_get hx hb hts hown hK hW (inDev_o h_p0) rfl ig1 0 (by decide) fl_X1_9 rfl dX1_bitsAfter_51 ?_
    refine lv_iload_n hx hb dX1_bitsAfter_54 rfl (lv_at hl 1 rfl) ?_
    refine o_iald hx hb hK hW (inDev_a0 h_p0) (vp_in_iff.mpr ⟨by omega, by omega⟩) dX1_bitsAfter_55 ?_
    refine lv_iload_n hx hb dX1_bitsAfter_56 rfl (lv_at hl 2 rfl) ?_
    refine lv_iconst (v := (-1 : Int32)) hx hb dX1_bitsAfter_57 (by decide) ?_
    refine lv_ixor hx hb dX1_bitsAfter_58 ?_
    refine lv_iand hx hb dX1_bitsAfter_59 ?_
    subst hR
    exact W.iret (v := ((p0_0 x1.toNatClampNeg) &&& (x2 ^^^ (-1 : Int32)))) hx hb hr (fun t ht hW9 => ⟨⟨((p0_0 x1.toNatClampNeg) &&& (x2 ^^^ (-1 : Int32))), Ω, rfl, ⟨rfl, rfl⟩, by rw [oB, ht]; exact hW⟩, hS.F ht⟩) hS.2.2 dX1_bitsAfter_60
  rw [if_neg c_5] at hR
  by_cases c_6 : x3 = (4 : Int32)
  · rw [if_pos c_6] at hR
    refine lv_tableIn (tgt := 61) hx hb dX1_bitsAfter_1 (by rw [c_6]; decide) (by rw [c_6]; decide) (by rw [c_6]; rfl) (by decide) ?_
    have i_6 := congrArg Int32.toInt c_6
    refine lv_aload_n hx hb dX1_bitsAfter_61 rfl (lv_at hl 0 rfl) ?_
    refine o_get hx hb hts hown hK hW (inDev_o h_p0) rfl ig1 0 (by decide) fl_X1_9 rfl dX1_bitsAfter_62 ?_
    refine lv_iload_n hx hb dX1_bitsAfter_65 rfl (lv_at hl 1 rfl) ?_
    refine o_iald hx hb hK hW (inDev_a0 h_p0) (vp_in_iff.mpr ⟨by omega, by omega⟩) dX1_bitsAfter_66 ?_
    refine lv_iload_n hx hb dX1_bitsAfter_67 rfl (lv_at hl 2 rfl) ?_
    refine lv_ior hx hb dX1_bitsAfter_68 ?_
    subst hR
    exact W.iret (v := ((p0_0 x1.toNatClampNeg) ||| x2)) hx hb hr (fun t ht hW9 => ⟨⟨((p0_0 x1.toNatClampNeg) ||| x2), Ω, rfl, ⟨rfl, rfl⟩, by rw [oB, ht]; exact hW⟩, hS.F ht⟩) hS.2.2 dX1_bitsAfter_69
  rw [if_neg c_6] at hR
  by_cases c_7 : x3 = (5 : Int32)
  · rw [if_pos c_7] at hR
    refine lv_tableIn (tgt := 70) hx hb dX1_bitsAfter_1 (by rw [c_7]; decide) (by rw [c_7]; decide) (by rw [c_7]; rfl) (by decide) ?_
    have i_7 := congrArg Int32.toInt c_7
    refine lv_aload_n hx hb dX1_bitsAfter_70 rfl (lv_at hl 0 rfl) ?_
    refine o_get hx hb hts hown hK hW (inDev_o h_p0) rfl ig1 0 (by decide) fl_X1_9 rfl dX1_bitsAfter_71 ?_
    refine lv_iload_n hx hb dX1_bitsAfter_74 rfl (lv_at hl 1 rfl) ?_
    refine o_iald hx hb hK hW (inDev_a0 h_p0) (vp_in_iff.mpr ⟨by omega, by omega⟩) dX1_bitsAfter_75 ?_
    refine lv_iload_n hx hb dX1_bitsAfter_76 rfl (lv_at hl 2 rfl) ?_
    refine lv_ixor hx hb dX1_bitsAfter_77 ?_
    subst hR
    exact W.iret (v := ((p0_0 x1.toNatClampNeg) ^^^ x2)) hx hb hr (fun t ht hW9 => ⟨⟨((p0_0 x1.toNatClampNeg) ^^^ x2), Ω, rfl, ⟨rfl, rfl⟩, by rw [oB, ht]; exact hW⟩, hS.F ht⟩) hS.2.2 dX1_bitsAfter_78
  rw [if_neg c_7] at hR
  by_cases c_8 : x3 = (6 : Int32)
  · rw [if_pos c_8] at hR
    refine lv_tableIn (tgt := 99) hx hb dX1_bitsAfter_1 (by rw [c_8]; decide) (by rw [c_8]; decide) (by rw [c_8]; rfl) (by decide) ?_
    have i_8 := congrArg Int32.toInt c_8
    refine lv_aload_n hx hb dX1_bitsAfter_99 rfl (lv_at hl 0 rfl) ?_
    refine o_get hx hb hts hown hK hW (inDev_o h_p0) rfl ig1 0 (by decide) fl_X1_9 rfl dX1_bitsAfter_100 ?_
    refine lv_iload_n hx hb dX1_bitsAfter_103 rfl (lv_at hl 1 rfl) ?_
    refine o_iald hx hb hK hW (inDev_a0 h_p0) (vp_in_iff.mpr ⟨by omega, by omega⟩) dX1_bitsAfter_104 ?_
    subst hR
    exact W.iret (v := (p0_0 x1.toNatClampNeg)) hx hb hr (fun t ht hW9 => ⟨⟨(p0_0 x1.toNatClampNeg), Ω, rfl, ⟨rfl, rfl⟩, by rw [oB, ht]; exact hW⟩, hS.F ht⟩) hS.2.2 dX1_bitsAfter_105
  rw [if_neg c_8] at hR
  by_cases c_9 : x3 = (7 : Int32)
  · rw [if_pos c_9] at hR
    refine lv_tableIn (tgt := 79) hx hb dX1_bitsAfter_1 (by rw [c_9]; decide) (by rw [c_9]; decide) (by rw [c_9]; rfl) (by decide) ?_
    have i_9 := congrArg Int32.toInt c_9
    refine lv_aload_n hx hb dX1_bitsAfter_79 rfl (lv_at hl 0 rfl) ?_
    refine o_get hx hb hts hown hK hW (inDev_o h_p0) rfl ig1 2 (by decide) fl_X1_18 rfl dX1_bitsAfter_80 ?_
    refine lv_iload_n hx hb dX1_bitsAfter_83 rfl (lv_at hl 1 rfl) ?_
    refine o_zald hx hb hK hW (inDev_a2 h_p0) (vp_in_iff.mpr ⟨by omega, by omega⟩) dX1_bitsAfter_84 ?_
    have j_11 : (0 : Int32).toInt = 0 := by decide
    refine lv_if_eq (tgt := 97) hx hb dX1_bitsAfter_85 (by decide) (fun c_10 => ?_) (fun c_10 => ?_)
    · rw [if_pos c_10] at hR
      have i_10 := congrArg Int32.toInt c_10
      refine lv_iload_n hx hb dX1_bitsAfter_97 rfl (lv_at hl 2 rfl) ?_
      subst hR
      exact W.iret (v := x2) hx hb hr (fun t ht hW9 => ⟨⟨x2, Ω, rfl, ⟨rfl, rfl⟩, by rw [oB, ht]; exact hW⟩, hS.F ht⟩) hS.2.2 dX1_bitsAfter_98
    · rw [if_neg c_10] at hR
      have i_10 := rne c_10
      refine lv_aload_n hx hb dX1_bitsAfter_88 rfl (lv_at hl 0 rfl) ?_
      refine o_get hx hb hts hown hK hW (inDev_o h_p0) rfl ig1 0 (by decide) fl_X1_9 rfl dX1_bitsAfter_89 ?_
      refine lv_iload_n hx hb dX1_bitsAfter_92 rfl (lv_at hl 1 rfl) ?_
      refine o_iald hx hb hK hW (inDev_a0 h_p0) (vp_in_iff.mpr ⟨by omega, by omega⟩) dX1_bitsAfter_93 ?_
      refine lv_goto (tgt := 98) hx hb dX1_bitsAfter_94 (by decide) ?_
      subst hR
      exact W.iret (v := (p0_0 x1.toNatClampNeg)) hx hb hr (fun t ht hW9 => ⟨⟨(p0_0 x1.toNatClampNeg), Ω, rfl, ⟨rfl, rfl⟩, by rw [oB, ht]; exact hW⟩, hS.F ht⟩) hS.2.2 dX1_bitsAfter_98
  rw [if_neg c_9] at hR
  have i_1 := lv_neT c_1 (a := 0) rfl
  have i_3 := lv_neT c_3 (a := 1) rfl
  have i_4 := lv_neT c_4 (a := 2) rfl
  have i_5 := lv_neT c_5 (a := 3) rfl
  have i_6 := lv_neT c_6 (a := 4) rfl
  have i_7 := lv_neT c_7 (a := 5) rfl
  have i_8 := lv_neT c_8 (a := 6) rfl
  have i_9 := lv_neT c_9 (a := 7) rfl
  refine lv_tableOut (tgt := 99) hx hb dX1_bitsAfter_1 (by omega) (by decide) ?_
  refine lv_aload_n hx hb dX1_bitsAfter_99 rfl (lv_at hl 0 rfl) ?_
  refine o_get hx hb hts hown hK hW (inDev_o h_p0) rfl ig1 0 (by decide) fl_X1_9 rfl dX1_bitsAfter_100 ?_
  refine lv_iload_n hx hb dX1_bitsAfter_103 rfl (lv_at hl 1 rfl) ?_
  refine o_iald hx hb hK hW (inDev_a0 h_p0) (vp_in_iff.mpr ⟨by omega, by omega⟩) dX1_bitsAfter_104 ?_
  subst hR
  exact W.iret (v := (p0_0 x1.toNatClampNeg)) hx hb hr (fun t ht hW9 => ⟨⟨(p0_0 x1.toNatClampNeg), Ω, rfl, ⟨rfl, rfl⟩, by rw [oB, ht]; exact hW⟩, hS.F ht⟩) hS.2.2 dX1_bitsAfter_105
set_option maxHeartbeats 4000000 in
set_option maxRecDepth 100000 in
theorem c_X1_letInByAlias (l : Launch) (G : Gm) (A : Nat → Prop) (Ω : Om) (p0 : Nat) (p1 : Nat) (p0_0 : Fn) (p0_1 : Fn) (p0_2 : Fn) (p0_3 : Fn) (p1_0 : Blk) (x2 : Int32) (x3 : Int32) (x4 : Int32) (hd_p0_p1 : p0 + 5 ≤ p1 ∨ p1 + 13 ≤ p0) (hB_p1 : BlkInv p1_0) (hi_x2 : 0 ≤ x2.toInt ∧ x2.toInt < 6) (h_p0 : inDev G Ω p0 p0_0 p0_1 p0_2 p0_3) (h_p1 : inBlk G Ω p1 p1_0) : Met l yX1_letInByAlias (wz yX1_letInByAlias cX1_letInByAlias 6 none) ({ frames := 1, cells := 0, slots := 0, locals := 24 } : Room) (va_Pc [.ref p0, .ref p1, .int x2, .int x3, .int x4] (oS G A Ω)) (va_Qv (fun (Ω1 : Om) => inDev G Ω1 p0 ((f_X1_letInByAlias p0_0 p0_2 p0_3 p1_0 x2 x3 x4)) p0_1 p0_2 p0_3 ∧ (∀ q : Nat, (q < p0 ∨ p0 + 5 ≤ q) → Ω1 q = Ω q)) (oB G A) A) 0 0 A := by
  refine Met.ofW (cc := cX1_letInByAlias) (maxL := 6) (ret := none) (by decide) rfl ?_
  intro p e s m args below meth c s₁ B hml hv
  obtain ⟨rfl, hW, hK, hN⟩ := hv
  have hx := B.exec
  have hb := B.bytes
  have hr := B.returns
  have hts : ∀ w ∈ gt, w.before _ s = true := fun w hw => atoms_spec (ws := wz yX1_letInByAlias cX1_letInByAlias 6 none) B.pre w (List.mem_cons_of_mem _ hw)
  have hown : s.vm.findClass RX1 = some m.cls := findClass_of_methodNamed B.named
  have hlocks := B.notSynchronized
  have hA : ∀ q, A q → A q := fun _ h => h
  have hS : va_S A s.heap s.heap [] := va_S.rf
  have hS0 := hS
  have hl := lv_entry ([.ref p0, .ref p1, .int x2, .int x3, .int x4]) (n := 6) (Nat.le_of_ble_eq_true rfl)
  rw [lg_entry_eq]
  generalize (lg_sl ([.ref p0, .ref p1, .int x2, .int x3, .int x4]) ++ List.replicate (6 - (lg_sl ([.ref p0, .ref p1, .int x2, .int x3, .int x4])).length) Slot.unset).toArray = ls at hl ⊢
  have hl : lv_has ls 6 [(0, .ref p0), (1, .ref p1), (2, .int x2), (3, .int x3), (4, .int x4)] := hl
  have hE : ∀ q : Nat, (q < p0 ∨ p0 + 5 ≤ q) → Ω q = Ω q := by intros; rfl
  generalize hR : (f_X1_letInByAlias p0_0 p0_2 p0_3 p1_0 x2 x3 x4) = R
  rw [f_X1_letInByAlias] at hR
  refine lv_iconst (v := (0 : Int32)) hx hb dX1_letInByAlias_0 (by decide) ?_
  refine lv_istore (lv' := [(5, .int (0 : Int32)), (0, .ref p0), (1, .ref p1), (2, .int x2), (3, .int x3), (4, .int x4)]) hx hb dX1_letInByAlias_1 hl (by decide) rfl (fun ls hl => ?_)
  have L3 : ∀ (n_2 : Nat) (x5_1 : Int32) (p0_0_1 : Fn) (Ω_3 : Om) (H : Heap) (locs : List Loc), (0 ≤ x5_1.toInt ∧ x5_1.toInt ≤ 12 ∧ 12 - x5_1.toInt < n_2) → inDev G Ω_3 p0 p0_0_1 p0_1 p0_2 p0_3 → inBlk G Ω_3 p1 p1_0 → (∀ q : Nat, (q < p0 ∨ p0 + 5 ≤ q) → Ω_3 q = Ω q) → oW G A Ω_3 H → va_S A s.heap H locs → ∀ ls : Array Slot, lv_has ls 6 [(0, .ref p0), (1, .ref p1), (2, .int x2), (3, .int x3), (4, .int x4), (5, .int x5_1)] → (f_X1_letInByAlias_L3 p0_2 p0_3 p1_0 x2 x3 x4 n_2 x5_1 p0_0_1) = R → W p l e (headSpec (wz yX1_letInByAlias cX1_letInByAlias 6 none) ({ frames := 1, cells := 0, slots := 0, locals := 24 } : Room)).room s m ([.ref p0, .ref p1, .int x2, .int x3, .int x4] : List Value).toArray below meth c H locs 0 0 (MQ below (va_Qv (fun (Ω1 : Om) => inDev G Ω1 p0 (R) p0_1 p0_2 p0_3 ∧ (∀ q : Nat, (q < p0 ∨ p0 + 5 ≤ q) → Ω1 q = Ω q)) (oB G A) A) ([.ref p0, .ref p1, .int x2, .int x3, .int x4] : List Value).toArray s 0 0 A) (F0 m 3 ls []) := by
    intro n_2
    induction n_2 with
    | zero =>
      intro x5_1 p0_0_1 Ω_3 H locs v_3_0 h_p0 h_p1 hE hW hS ls hl hR
      exfalso
      omega
    | succ n_2 ih3 =>
      intro x5_1 p0_0_1 Ω_3 H locs v_3_0 h_p0 h_p1 hE hW hS ls hl hR
      rw [f_X1_letInByAlias_L3] at hR
      refine lv_iload hx hb dX1_letInByAlias_3 (lv_at hl 5 rfl) ?_
      refine lv_aload_n hx hb dX1_letInByAlias_5 rfl (lv_at hl 1 rfl) ?_
      refine o_get hx hb hts hown hK hW (inBlk_o h_p1) rfl ig0 1 (by decide) fl_X1_36 rfl dX1_letInByAlias_6 ?_
      try have j_5 : 0 ≤ (p1_0 0 1).toInt ∧ (p1_0 0 1).toInt ≤ 12 := BI_flds (by assumption)
      refine lv_icmp_ge (tgt := 67) hx hb dX1_letInByAlias_9 (by decide) (fun c_4 => ?_) (fun c_4 => ?_)
      · rw [if_pos c_4] at hR
        have i_4 := rle c_4
        subst hR
        exact W.vret hx hb hr (fun t ht hW9 => ⟨⟨Ω_3, rfl, ⟨h_p0, hE⟩, by rw [oB, ht]; exact hW⟩, hS.F ht⟩) hS.2.2 dX1_letInByAlias_67
      · rw [if_neg c_4] at hR
        have i_4 := rnle c_4
        refine lv_aload_n hx hb dX1_letInByAlias_12 rfl (lv_at hl 1 rfl) ?_
        refine o_get hx hb hts hown hK hW (inBlk_o h_p1) rfl ig0 6 (by decide) fl_X1_47 rfl dX1_letInByAlias_13 ?_
        refine lv_iload hx hb dX1_letInByAlias_16 (lv_at hl 5 rfl) ?_
        refine o_iald hx hb hK hW (inBlk_a3 h_p1) (vp_in_iff.mpr ⟨by omega, by omega⟩) dX1_letInByAlias_18 ?_
        refine lv_iload_n hx hb dX1_letInByAlias_19 rfl (lv_at hl 2 rfl) ?_
        try have j_7 : 0 ≤ ((p1_0 4) x5_1.toNatClampNeg).toInt ∧ ((p1_0 4) x5_1.toNatClampNeg).toInt < 6 := BI_owner (by assumption) _
        refine lv_icmp_ne (tgt := 61) hx hb dX1_letInByAlias_20 (by decide) (fun c_6 => ?_) (fun c_6 => ?_)
        · rw [if_neg c_6] at hR
          have i_6 := rne c_6
          refine lv_iinc (v := (x5_1 + (1 : Int32))) (lv' := [(5, .int (x5_1 + (1 : Int32))), (0, .ref p0), (1, .ref p1), (2, .int x2), (3, .int x3), (4, .int x4)]) hx hb dX1_letInByAlias_61 hl (k := 5) rfl rfl (by decide) rfl (fun ls hl => ?_)
          refine lv_goto (tgt := 3) hx hb dX1_letInByAlias_64 (by decide) ?_
          have j_8 : (1 : Int32).toInt = 1 := by decide
          try have j_9 : (x5_1 + (1 : Int32)).toInt = x5_1.toInt + (1 : Int32).toInt := fb_addI (by omega) (by omega)
          exact ih3 (x5_1 + (1 : Int32)) p0_0_1 Ω_3 H locs (by first | assumption | omega) h_p0 h_p1 hE hW hS ls (lv_sub hl [1, 2, 3, 4, 5, 0] rfl) hR
        · rw [if_pos c_6] at hR
          have i_6 := congrArg Int32.toInt c_6
          refine lv_aload_n hx hb dX1_letInByAlias_23 rfl (lv_at hl 0 rfl) ?_
          refine o_get hx hb hts hown hK hW (inDev_o h_p0) rfl ig1 3 (by decide) fl_X1_22 rfl dX1_letInByAlias_24 ?_
          refine lv_iload hx hb dX1_letInByAlias_27 (lv_at hl 5 rfl) ?_
          refine o_iald hx hb hK hW (inDev_a3 h_p0) (vp_in_iff.mpr ⟨by omega, by omega⟩) dX1_letInByAlias_29 ?_
          refine lv_iconst (v := (1 : Int32)) hx hb dX1_letInByAlias_30 (by decide) ?_
          have j_11 : (1 : Int32).toInt = 1 := by decide
          refine lv_icmp_eq (tgt := 61) hx hb dX1_letInByAlias_31 (by decide) (fun c_10 => ?_) (fun c_10 => ?_)
          · rw [if_pos c_10] at hR
            have i_10 := congrArg Int32.toInt c_10
            refine lv_iinc (v := (x5_1 + (1 : Int32))) (lv' := [(5, .int (x5_1 + (1 : Int32))), (0, .ref p0), (1, .ref p1), (2, .int x2), (3, .int x3), (4, .int x4)]) hx hb dX1_letInByAlias_61 hl (k := 5) rfl rfl (by decide) rfl (fun ls hl => ?_)
            refine lv_goto (tgt := 3) hx hb dX1_letInByAlias_64 (by decide) ?_
            try have j_12 : (x5_1 + (1 : Int32)).toInt = x5_1.toInt + (1 : Int32).toInt := fb_addI (by omega) (by omega)
            exact ih3 (x5_1 + (1 : Int32)) p0_0_1 Ω_3 H locs (by first | assumption | omega) h_p0 h_p1 hE hW hS ls (lv_sub hl [1, 2, 3, 4, 5, 0] rfl) hR
          · rw [if_neg c_10] at hR
            have i_10 := rne c_10
            refine lv_aload_n hx hb dX1_letInByAlias_34 rfl (lv_at hl 0 rfl) ?_
            refine o_get hx hb hts hown hK hW (inDev_o h_p0) rfl ig1 3 (by decide) fl_X1_22 rfl dX1_letInByAlias_35 ?_
            refine lv_iload hx hb dX1_letInByAlias_38 (lv_at hl 5 rfl) ?_
            refine o_iald hx hb hK hW (inDev_a3 h_p0) (vp_in_iff.mpr ⟨by omega, by omega⟩) dX1_letInByAlias_40 ?_
            refine lv_bipush (v := (6 : Int32)) hx hb dX1_letInByAlias_41 (by decide) ?_
            have j_14 : (6 : Int32).toInt = 6 := by decide
            refine lv_icmp_eq (tgt := 61) hx hb dX1_letInByAlias_43 (by decide) (fun c_13 => ?_) (fun c_13 => ?_)
            · rw [if_pos c_13] at hR
              have i_13 := congrArg Int32.toInt c_13
              refine lv_iinc (v := (x5_1 + (1 : Int32))) (lv' := [(5, .int (x5_1 + (1 : Int32))), (0, .ref p0), (1, .ref p1), (2, .int x2), (3, .int x3), (4, .int x4)]) hx hb dX1_letInByAlias_61 hl (k := 5) rfl rfl (by decide) rfl (fun ls hl => ?_)
              refine lv_goto (tgt := 3) hx hb dX1_letInByAlias_64 (by decide) ?_
              try have j_15 : (x5_1 + (1 : Int32)).toInt = x5_1.toInt + (1 : Int32).toInt := fb_addI (by omega) (by omega)
              exact ih3 (x5_1 + (1 : Int32)) p0_0_1 Ω_3 H locs (by first | assumption | omega) h_p0 h_p1 hE hW hS ls (lv_sub hl [1, 2, 3, 4, 5, 0] rfl) hR
            · rw [if_neg c_13] at hR
              have i_13 := rne c_13
              refine lv_aload_n hx hb dX1_letInByAlias_46 rfl (lv_at hl 0 rfl) ?_
              refine lv_aload_n hx hb dX1_letInByAlias_47 rfl (lv_at hl 1 rfl) ?_
              refine lv_iload hx hb dX1_letInByAlias_48 (lv_at hl 5 rfl) ?_
              refine lv_aload_n hx hb dX1_letInByAlias_50 rfl (lv_at hl 0 rfl) ?_
              refine lv_iload_n hx hb dX1_letInByAlias_51 rfl (lv_at hl 2 rfl) ?_
              refine lv_iload_n hx hb dX1_letInByAlias_52 rfl (lv_at hl 3 rfl) ?_
              refine lv_iload hx hb dX1_letInByAlias_53 (lv_at hl 4 rfl) ?_
              refine o_ViR (rest := [.int x5_1, .ref p1, .ref p0]) (As := [.int x2, .int x3, .int x4]) (n := 3) hx hb hml hown hts hK hN hW hS hA (c_X1_bitsAfter l G A Ω_3 p0 p0_0_1 p0_1 p0_2 p0_3 x2 x3 x4 (by first | assumption | omega) h_p0) (inDev_o h_p0) rfl (good_V ml_X1_106 im_X1_bitsAfter se_X1_bitsAfter ini_X1 co_X1_bitsAfter) (by decide +kernel) ⟨Nat.zero_le _, Nat.zero_le _⟩ hl.1 (Nat.le_of_ble_eq_true rfl) rfl rfl dX1_letInByAlias_55 (fun r H locs hp hW hS => ?_)
              subst hp
              refine o_Vv (rest := []) (As := [.ref p1, .int x5_1, .int (f_X1_bitsAfter p0_0_1 p0_2 x2 x3 x4)]) (n := 3) hx hb hml hown hts hK hN hW hS hA (c_X1_putBits l G A Ω_3 p0 p1 p0_0_1 p0_1 p0_2 p0_3 p1_0 x5_1 (f_X1_bitsAfter p0_0_1 p0_2 x2 x3 x4) (by omega) (by first | assumption | omega) (by first | assumption | omega) h_p0 h_p1) (inDev_o h_p0) rfl (good_V ml_X1_56 im_X1_putBits se_X1_putBits ini_X1 co_X1_putBits) (by decide +kernel) ⟨Nat.zero_le _, Nat.zero_le _⟩ hl.1 (Nat.le_of_ble_eq_true rfl) rfl rfl dX1_letInByAlias_58 (fun Ω_17 H locs hp hW hS => ?_)
              obtain ⟨h_p0, hF_17⟩ := hp
              have h_p1 := h_p1.keep (fun q h1 h2 => hF_17 q (by omega))
              have hE : ∀ q : Nat, (q < p0 ∨ p0 + 5 ≤ q) → Ω_17 q = Ω q := fun q g0 => (hF_17 q (by omega)).trans (hE q g0)
              refine lv_iinc (v := (x5_1 + (1 : Int32))) (lv' := [(5, .int (x5_1 + (1 : Int32))), (0, .ref p0), (1, .ref p1), (2, .int x2), (3, .int x3), (4, .int x4)]) hx hb dX1_letInByAlias_61 hl (k := 5) rfl rfl (by decide) rfl (fun ls hl => ?_)
              refine lv_goto (tgt := 3) hx hb dX1_letInByAlias_64 (by decide) ?_
              try have j_18 : (x5_1 + (1 : Int32)).toInt = x5_1.toInt + (1 : Int32).toInt := fb_addI (by omega) (by omega)
              exact ih3 (x5_1 + (1 : Int32)) (f_X1_putBits p0_0_1 p1_0 x5_1 (f_X1_bitsAfter p0_0_1 p0_2 x2 x3 x4)) Ω_17 H locs (by first | assumption | omega) h_p0 h_p1 hE hW hS ls (lv_sub hl [1, 2, 3, 4, 5, 0] rfl) hR
  have j_19 : (0 : Int32).toInt = 0 := by decide
  exact L3 4000 (0 : Int32) p0_0 Ω s.heap [] (by first | assumption | omega) h_p0 h_p1 hE hW hS ls (lv_sub hl [1, 2, 3, 4, 5, 0] rfl) hR
set_option maxHeartbeats 4000000 in
set_option maxRecDepth 100000 in
theorem c_X0_isOpenedBy (l : Launch) (G : Gm) (A : Nat → Prop) (Ω : Om) (p0 : Nat) (p0_0 : Blk) (x1 : Int32) (x2 : Int32) (hB_p0 : BlkInv p0_0) (hi_x1 : 0 ≤ x1.toInt ∧ x1.toInt < 6) (h_p0 : inBlk G Ω p0 p0_0) : Met l yX0_isOpenedBy (wz yX0_isOpenedBy cX0_isOpenedBy 4 (some .boolean)) ({ frames := 1, cells := 0, slots := 0, locals := 21 } : Room) (va_Pc [.ref p0, .int x1, .int x2] (oS G A Ω)) (va_Qi (fun (r : Int32) (Ω1 : Om) => (r = (f_X0_isOpenedBy p0_0 x1 x2) ∧ (r = 0 ∨ r = 1)) ∧ Ω1 = Ω) (oB G A) A) 0 0 A := by
  refine Met.ofW (cc := cX0_isOpenedBy) (maxL := 4) (ret := (some .boolean)) (by decide) rfl ?_
  intro p e s m args below meth c s₁ B hml hv
  obtain ⟨rfl, hW, hK, hN⟩ := hv
  have hx := B.exec
  have hb := B.bytes
  have hr := B.returns
  have hts : ∀ w ∈ gt, w.before _ s = true := fun w hw => atoms_spec (ws := wz yX0_isOpenedBy cX0_isOpenedBy 4 (some .boolean)) B.pre w (List.mem_cons_of_mem _ hw)
  have hown : s.vm.findClass RX0 = some m.cls := findClass_of_methodNamed B.named
  have hlocks := B.notSynchronized
  have hA : ∀ q, A q → A q := fun _ h => h
  have hS : va_S A s.heap s.heap [] := va_S.rf
  have hS0 := hS
  have hl := lv_entry ([.ref p0, .int x1, .int x2]) (n := 4) (Nat.le_of_ble_eq_true rfl)
  rw [lg_entry_eq]
  generalize (lg_sl ([.ref p0, .int x1, .int x2]) ++ List.replicate (4 - (lg_sl ([.ref p0, .int x1, .int x2])).length) Slot.unset).toArray = ls at hl ⊢
  have hl : lv_has ls 4 [(0, .ref p0), (1, .int x1), (2, .int x2)] := hl
  generalize hR : (f_X0_isOpenedBy p0_0 x1 x2) = R
  rw [f_X0_isOpenedBy] at hR
  refine lv_aload_n hx hb dX0_isOpenedBy_0 rfl (lv_at hl 0 rfl) ?_
  refine o_get hx hb hts hown hK hW (inBlk_o h_p0) rfl ig0 5 (by decide) fl_X0_18 rfl dX0_isOpenedBy_1 ?_
  refine lv_iload_n hx hb dX0_isOpenedBy_4 rfl (lv_at hl 1 rfl) ?_
  refine o_iald hx hb hK hW (inBlk_a2 h_p0) (vp_in_iff.mpr ⟨by omega, by omega⟩) dX0_isOpenedBy_5 ?_
  refine lv_istore_n (lv' := [(3, .int ((p0_0 3) x1.toNatClampNeg)), (0, .ref p0), (1, .int x1), (2, .int x2)]) hx hb dX0_isOpenedBy_6 rfl hl (by decide) rfl (fun ls hl => ?_)
  refine lv_iload_n hx hb dX0_isOpenedBy_7 rfl (lv_at hl 0 rfl) ?_
  refine lv_aload_n hx hb dX0_isOpenedBy_8 rfl (lv_at hl 1 rfl) ?_
  refine o_get hx hb hts hown hK hW (inBlk_o h_p0) rfl ig0 1 (by decide) fl_X0_52 rfl dX0_isOpenedBy_9 ?_
  try have j_1 : 0 ≤ (p0_0 0 1).toInt ∧ (p0_0 0 1).toInt ≤ 12 := BI_flds (by assumption)
  refine o_SNiR (rest := []) (As := [.int ((p0_0 3) x1.toNatClampNeg), .int (p0_0 0 1)]) (n := 2) hx hb hml hown hts hK hN hW hS hA (c_X8_isWithin l G A Ω ((p0_0 3) x1.toNatClampNeg) (p0_0 0 1)) (List.mem_of_getElem? (i := 9) rfl) st_X8_isWithin ini_X8 co_X8_isWithin (by decide +kernel) ⟨Nat.zero_le _, Nat.zero_le _⟩ hl.1 (Nat.le_of_ble_eq_true rfl) rfl rfl dX0_isOpenedBy_12 (fun r H locs hp hW hS => ?_)
  obtain ⟨rfl, hz_2⟩ := hp
  have j_4 : (0 : Int32).toInt = 0 := by decide
  refine lv_if_eq (tgt := 32) hx hb dX0_isOpenedBy_15 (by decide) (fun c_3 => ?_) (fun c_3 => ?_)
  · rw [if_pos c_3] at hR
    have i_3 := congrArg Int32.toInt c_3
    refine lv_iconst (v := (0 : Int32)) hx hb dX0_isOpenedBy_32 (by decide) ?_
    subst hR
    exact W.zret (v := (0 : Int32)) hx hb hr (nb01 (Or.inl rfl)) (fun t ht hW9 => ⟨⟨(0 : Int32), Ω, rfl, ⟨⟨rfl, (Or.inl rfl)⟩, rfl⟩, by rw [oB, ht]; exact hW⟩, hS.F ht⟩) hS.2.2 dX0_isOpenedBy_33
  · rw [if_neg c_3] at hR
    have i_3 := rne c_3
    have b_c_3 := rIW c_3
    refine lv_aload_n hx hb dX0_isOpenedBy_18 rfl (lv_at hl 1 rfl) ?_
    refine o_get hx hb hts hown hK hW (inBlk_o h_p0) rfl ig0 6 (by decide) fl_X0_21 rfl dX0_isOpenedBy_19 ?_
    refine lv_iload_n hx hb dX0_isOpenedBy_22 rfl (lv_at hl 0 rfl) ?_
    refine o_iald hx hb hK hW (inBlk_a3 h_p0) (vp_in_iff.mpr ⟨by omega, by omega⟩) dX0_isOpenedBy_23 ?_
    refine lv_iload_n hx hb dX0_isOpenedBy_24 rfl (lv_at hl 3 rfl) ?_
    try have j_6 : 0 ≤ ((p0_0 4) ((p0_0 3) x1.toNatClampNeg).toNatClampNeg).toInt ∧ ((p0_0 4) ((p0_0 3) x1.toNatClampNeg).toNatClampNeg).toInt < 6 := BI_owner (by assumption) _
    refine lv_icmp_ne (tgt := 32) hx hb dX0_isOpenedBy_25 (by decide) (fun c_5 => ?_) (fun c_5 => ?_)
    · rw [if_neg c_5] at hR
      have i_5 := rne c_5
      refine lv_iconst (v := (0 : Int32)) hx hb dX0_isOpenedBy_32 (by decide) ?_
      subst hR
      exact W.zret (v := (0 : Int32)) hx hb hr (nb01 (Or.inl rfl)) (fun t ht hW9 => ⟨⟨(0 : Int32), Ω, rfl, ⟨⟨rfl, (Or.inl rfl)⟩, rfl⟩, by rw [oB, ht]; exact hW⟩, hS.F ht⟩) hS.2.2 dX0_isOpenedBy_33
    · rw [if_pos c_5] at hR
      have i_5 := congrArg Int32.toInt c_5
      refine lv_iconst (v := (1 : Int32)) hx hb dX0_isOpenedBy_28 (by decide) ?_
      refine lv_goto (tgt := 33) hx hb dX0_isOpenedBy_29 (by decide) ?_
      subst hR
      exact W.zret (v := (1 : Int32)) hx hb hr (nb01 (Or.inr rfl)) (fun t ht hW9 => ⟨⟨(1 : Int32), Ω, rfl, ⟨⟨rfl, (Or.inr rfl)⟩, rfl⟩, by rw [oB, ht]; exact hW⟩, hS.F ht⟩) hS.2.2 dX0_isOpenedBy_33
set_option maxHeartbeats 4000000 in
set_option maxRecDepth 100000 in
theorem c_X1_letIn (l : Launch) (G : Gm) (A : Nat → Prop) (Ω : Om) (p0 : Nat) (p1 : Nat) (p0_0 : Fn) (p0_1 : Fn) (p0_2 : Fn) (p0_3 : Fn) (p1_0 : Blk) (x2 : Int32) (x3 : Int32) (hd_p0_p1 : p0 + 5 ≤ p1 ∨ p1 + 13 ≤ p0) (hB_p1 : BlkInv p1_0) (hi_x2 : 0 ≤ x2.toInt ∧ x2.toInt < 6) (h_p0 : inDev G Ω p0 p0_0 p0_1 p0_2 p0_3) (h_p1 : inBlk G Ω p1 p1_0) : Met l yX1_letIn (wz yX1_letIn cX1_letIn 5 none) ({ frames := 1, cells := 0, slots := 0, locals := 24 } : Room) (va_Pc [.ref p0, .ref p1, .int x2, .int x3] (oS G A Ω)) (va_Qv (fun (Ω1 : Om) => inDev G Ω1 p0 ((f_X1_letIn p0_0 p0_2 p0_3 p1_0 x2 x3).1) p0_1 ((f_X1_letIn p0_0 p0_2 p0_3 p1_0 x2 x3).2) p0_3 ∧ (∀ q : Nat, (q < p0 ∨ p0 + 5 ≤ q) → Ω1 q = Ω q)) (oB G A) A) 0 0 A := by
  refine Met.ofW (cc := cX1_letIn) (maxL := 5) (ret := none) (by decide) rfl ?_
  intro p e s m args below meth c s₁ B hml hv
  obtain ⟨rfl, hW, hK, hN⟩ := hv
  have hx := B.exec
  have hb := B.bytes
  have hr := B.returns
  have hts : ∀ w ∈ gt, w.before _ s = true := fun w hw => atoms_spec (ws := wz yX1_letIn cX1_letIn 5 none) B.pre w (List.mem_cons_of_mem _ hw)
  have hown : s.vm.findClass RX1 = some m.cls := findClass_of_methodNamed B.named
  have hlocks := B.notSynchronized
  have hA : ∀ q, A q → A q := fun _ h => h
  have hS : va_S A s.heap s.heap [] := va_S.rf
  have hS0 := hS
  have hl := lv_entry ([.ref p0, .ref p1, .int x2, .int x3]) (n := 5) (Nat.le_of_ble_eq_true rfl)
  rw [lg_entry_eq]
  generalize (lg_sl ([.ref p0, .ref p1, .int x2, .int x3]) ++ List.replicate (5 - (lg_sl ([.ref p0, .ref p1, .int x2, .int x3])).length) Slot.unset).toArray = ls at hl ⊢
  have hl : lv_has ls 5 [(0, .ref p0), (1, .ref p1), (2, .int x2), (3, .int x3)] := hl
  have hE : ∀ q : Nat, (q < p0 ∨ p0 + 5 ≤ q) → Ω q = Ω q := by intros; rfl
  generalize hR : (f_X1_letIn p0_0 p0_2 p0_3 p1_0 x2 x3) = R
  rw [f_X1_letIn] at hR
  refine lv_iconst (v := (0 : Int32)) hx hb dX1_letIn_0 (by decide) ?_
  refine lv_istore (lv' := [(4, .int (0 : Int32)), (0, .ref p0), (1, .ref p1), (2, .int x2), (3, .int x3)]) hx hb dX1_letIn_1 hl (by decide) rfl (fun ls hl => ?_)
  have L3 : ∀ (n_2 : Nat) (x4_1 : Int32) (p0_0_1 : Fn) (Ω_3 : Om) (H : Heap) (locs : List Loc), (0 ≤ x4_1.toInt ∧ x4_1.toInt ≤ 12 ∧ 12 - x4_1.toInt < n_2) → inDev G Ω_3 p0 p0_0_1 p0_1 p0_2 p0_3 → inBlk G Ω_3 p1 p1_0 → (∀ q : Nat, (q < p0 ∨ p0 + 5 ≤ q) → Ω_3 q = Ω q) → oW G A Ω_3 H → va_S A s.heap H locs → ∀ ls : Array Slot, lv_has ls 5 [(0, .ref p0), (1, .ref p1), (2, .int x2), (3, .int x3), (4, .int x4_1)] → (f_X1_letIn_L3 p0_2 p0_3 p1_0 x2 x3 n_2 x4_1 p0_0_1) = R → W p l e (headSpec (wz yX1_letIn cX1_letIn 5 none) ({ frames := 1, cells := 0, slots := 0, locals := 24 } : Room)).room s m ([.ref p0, .ref p1, .int x2, .int x3] : List Value).toArray below meth c H locs 0 0 (MQ below (va_Qv (fun (Ω1 : Om) => inDev G Ω1 p0 (R.1) p0_1 (R.2) p0_3 ∧ (∀ q : Nat, (q < p0 ∨ p0 + 5 ≤ q) → Ω1 q = Ω q)) (oB G A) A) ([.ref p0, .ref p1, .int x2, .int x3] : List Value).toArray s 0 0 A) (F0 m 3 ls []) := by
    intro n_2
    induction n_2 with
    | zero =>
      intro x4_1 p0_0_1 Ω_3 H locs v_3_0 h_p0 h_p1 hE hW hS ls hl hR
      exfalso
      omega
    | succ n_2 ih3 =>
      intro x4_1 p0_0_1 Ω_3 H locs v_3_0 h_p0 h_p1 hE hW hS ls hl hR
      rw [f_X1_letIn_L3] at hR
      refine lv_iload hx hb dX1_letIn_3 (lv_at hl 4 rfl) ?_
      refine lv_aload_n hx hb dX1_letIn_5 rfl (lv_at hl 1 rfl) ?_
      refine o_get hx hb hts hown hK hW (inBlk_o h_p1) rfl ig0 1 (by decide) fl_X1_36 rfl dX1_letIn_6 ?_
      try have j_5 : 0 ≤ (p1_0 0 1).toInt ∧ (p1_0 0 1).toInt ≤ 12 := BI_flds (by assumption)
      refine lv_icmp_ge (tgt := 49) hx hb dX1_letIn_9 (by decide) (fun c_4 => ?_) (fun c_4 => ?_)
      · rw [if_pos c_4] at hR
        have i_4 := rle c_4
        refine lv_aload_n hx hb dX1_letIn_49 rfl (lv_at hl 0 rfl) ?_
        refine o_get hx hb hts hown hK hW (inDev_o h_p0) rfl ig1 2 (by decide) fl_X1_18 rfl dX1_letIn_50 ?_
        refine lv_iload_n hx hb dX1_letIn_53 rfl (lv_at hl 2 rfl) ?_
        refine lv_iconst (v := (1 : Int32)) hx hb dX1_letIn_54 (by decide) ?_
        refine wDev_2 hx hb hK hW hS hA h_p0 (vp_in_iff.mpr ⟨by omega, by omega⟩) dX1_letIn_55 (fun Ω_6 H locs h_p0 hF_6 hW hS => ?_)
        have h_p1 := h_p1.keep (fun q h1 h2 => hF_6 q (by omega))
        have hE : ∀ q : Nat, (q < p0 ∨ p0 + 5 ≤ q) → Ω_6 q = Ω q := fun q g0 => (hF_6 q (by omega)).trans (hE q g0)
        subst hR
        exact W.vret hx hb hr (fun t ht hW9 => ⟨⟨Ω_6, rfl, ⟨h_p0, hE⟩, by rw [oB, ht]; exact hW⟩, hS.F ht⟩) hS.2.2 dX1_letIn_56
      · rw [if_neg c_4] at hR
        have i_4 := rnle c_4
        refine lv_aload_n hx hb dX1_letIn_12 rfl (lv_at hl 1 rfl) ?_
        refine o_get hx hb hts hown hK hW (inBlk_o h_p1) rfl ig0 6 (by decide) fl_X1_47 rfl dX1_letIn_13 ?_
        refine lv_iload hx hb dX1_letIn_16 (lv_at hl 4 rfl) ?_
        refine o_iald hx hb hK hW (inBlk_a3 h_p1) (vp_in_iff.mpr ⟨by omega, by omega⟩) dX1_letIn_18 ?_
        refine lv_iload_n hx hb dX1_letIn_19 rfl (lv_at hl 2 rfl) ?_
        try have j_8 : 0 ≤ ((p1_0 4) x4_1.toNatClampNeg).toInt ∧ ((p1_0 4) x4_1.toNatClampNeg).toInt < 6 := BI_owner (by assumption) _
        refine lv_icmp_ne (tgt := 43) hx hb dX1_letIn_20 (by decide) (fun c_7 => ?_) (fun c_7 => ?_)
        · rw [if_neg c_7] at hR
          have i_7 := rne c_7
          refine lv_iinc (v := (x4_1 + (1 : Int32))) (lv' := [(4, .int (x4_1 + (1 : Int32))), (0, .ref p0), (1, .ref p1), (2, .int x2), (3, .int x3)]) hx hb dX1_letIn_43 hl (k := 4) rfl rfl (by decide) rfl (fun ls hl => ?_)
          refine lv_goto (tgt := 3) hx hb dX1_letIn_46 (by decide) ?_
          have j_9 : (1 : Int32).toInt = 1 := by decide
          try have j_10 : (x4_1 + (1 : Int32)).toInt = x4_1.toInt + (1 : Int32).toInt := fb_addI (by omega) (by omega)
          exact ih3 (x4_1 + (1 : Int32)) p0_0_1 Ω_3 H locs (by first | assumption | omega) h_p0 h_p1 hE hW hS ls (lv_sub hl [1, 2, 3, 4, 0] rfl) hR
        · rw [if_pos c_7] at hR
          have i_7 := congrArg Int32.toInt c_7
          refine lv_aload_n hx hb dX1_letIn_23 rfl (lv_at hl 0 rfl) ?_
          refine lv_aload_n hx hb dX1_letIn_24 rfl (lv_at hl 1 rfl) ?_
          refine lv_iload hx hb dX1_letIn_25 (lv_at hl 4 rfl) ?_
          refine lv_aload_n hx hb dX1_letIn_27 rfl (lv_at hl 0 rfl) ?_
          refine lv_iload_n hx hb dX1_letIn_28 rfl (lv_at hl 2 rfl) ?_
          refine lv_iload_n hx hb dX1_letIn_29 rfl (lv_at hl 3 rfl) ?_
          refine lv_aload_n hx hb dX1_letIn_30 rfl (lv_at hl 0 rfl) ?_
          refine o_get hx hb hts hown hK hW (inDev_o h_p0) rfl ig1 3 (by decide) fl_X1_22 rfl dX1_letIn_31 ?_
          refine lv_iload hx hb dX1_letIn_34 (lv_at hl 4 rfl) ?_
          refine o_iald hx hb hK hW (inDev_a3 h_p0) (vp_in_iff.mpr ⟨by omega, by omega⟩) dX1_letIn_36 ?_
          refine o_ViR (rest := [.int x4_1, .ref p1, .ref p0]) (As := [.int x2, .int x3, .int (p0_3 x4_1.toNatClampNeg)]) (n := 3) hx hb hml hown hts hK hN hW hS hA (c_X1_bitsAfter l G A Ω_3 p0 p0_0_1 p0_1 p0_2 p0_3 x2 x3 (p0_3 x4_1.toNatClampNeg) (by first | assumption | omega) h_p0) (inDev_o h_p0) rfl (good_V ml_X1_106 im_X1_bitsAfter se_X1_bitsAfter ini_X1 co_X1_bitsAfter) (by decide +kernel) ⟨Nat.zero_le _, Nat.zero_le _⟩ hl.1 (Nat.le_of_ble_eq_true rfl) rfl rfl dX1_letIn_37 (fun r H locs hp hW hS => ?_)
          subst hp
          refine o_Vv (rest := []) (As := [.ref p1, .int x4_1, .int (f_X1_bitsAfter p0_0_1 p0_2 x2 x3 (p0_3 x4_1.toNatClampNeg))]) (n := 3) hx hb hml hown hts hK hN hW hS hA (c_X1_putBits l G A Ω_3 p0 p1 p0_0_1 p0_1 p0_2 p0_3 p1_0 x4_1 (f_X1_bitsAfter p0_0_1 p0_2 x2 x3 (p0_3 x4_1.toNatClampNeg)) (by omega) (by first | assumption | omega) (by first | assumption | omega) h_p0 h_p1) (inDev_o h_p0) rfl (good_V ml_X1_56 im_X1_putBits se_X1_putBits ini_X1 co_X1_putBits) (by decide +kernel) ⟨Nat.zero_le _, Nat.zero_le _⟩ hl.1 (Nat.le_of_ble_eq_true rfl) rfl rfl dX1_letIn_40 (fun Ω_12 H locs hp hW hS => ?_)
          obtain ⟨h_p0, hF_12⟩ := hp
          have h_p1 := h_p1.keep (fun q h1 h2 => hF_12 q (by omega))
          have hE : ∀ q : Nat, (q < p0 ∨ p0 + 5 ≤ q) → Ω_12 q = Ω q := fun q g0 => (hF_12 q (by omega)).trans (hE q g0)
          refine lv_iinc (v := (x4_1 + (1 : Int32))) (lv' := [(4, .int (x4_1 + (1 : Int32))), (0, .ref p0), (1, .ref p1), (2, .int x2), (3, .int x3)]) hx hb dX1_letIn_43 hl (k := 4) rfl rfl (by decide) rfl (fun ls hl => ?_)
          refine lv_goto (tgt := 3) hx hb dX1_letIn_46 (by decide) ?_
          have j_13 : (1 : Int32).toInt = 1 := by decide
          try have j_14 : (x4_1 + (1 : Int32)).toInt = x4_1.toInt + (1 : Int32).toInt := fb_addI (by omega) (by omega)
          exact ih3 (x4_1 + (1 : Int32)) (f_X1_putBits p0_0_1 p1_0 x4_1 (f_X1_bitsAfter p0_0_1 p0_2 x2 x3 (p0_3 x4_1.toNatClampNeg))) Ω_12 H locs (by first | assumption | omega) h_p0 h_p1 hE hW hS ls (lv_sub hl [1, 2, 3, 4, 0] rfl) hR
  have j_15 : (0 : Int32).toInt = 0 := by decide
  exact L3 4000 (0 : Int32) p0_0 Ω s.heap [] (by first | assumption | omega) h_p0 h_p1 hE hW hS ls (lv_sub hl [1, 2, 3, 4, 0] rfl) hR
set_option maxHeartbeats 4000000 in
set_option maxRecDepth 100000 in
theorem c_X1_openGates (l : Launch) (G : Gm) (A : Nat → Prop) (Ω : Om) (p0 : Nat) (p1 : Nat) (p0_0 : Fn) (p0_1 : Fn) (p0_2 : Fn) (p0_3 : Fn) (p1_0 : Blk) (x2 : Int32) (x3 : Int32) (hd_p0_p1 : p0 + 5 ≤ p1 ∨ p1 + 13 ≤ p0) (hB_p1 : BlkInv p1_0) (h_p0 : inDev G Ω p0 p0_0 p0_1 p0_2 p0_3) (h_p1 : inBlk G Ω p1 p1_0) : Met l yX1_openGates (wz yX1_openGates cX1_openGates 5 none) ({ frames := 2, cells := 0, slots := 0, locals := 48 } : Room) (va_Pc [.ref p0, .ref p1, .int x2, .int x3] (oS G A Ω)) (va_Qv (fun (Ω1 : Om) => inDev G Ω1 p0 ((f_X1_openGates p0_0 p0_1 p0_2 p0_3 p1_0 x2 x3).1) ((f_X1_openGates p0_0 p0_1 p0_2 p0_3 p1_0 x2 x3).2.1) ((f_X1_openGates p0_0 p0_1 p0_2 p0_3 p1_0 x2 x3).2.2) p0_3 ∧ (∀ q : Nat, (q < p0 ∨ p0 + 5 ≤ q) → Ω1 q = Ω q)) (oB G A) A) 0 0 A := by
  refine Met.ofW (cc := cX1_openGates) (maxL := 5) (ret := none) (by decide) rfl ?_
  intro p e s m args below meth c s₁ B hml hv
  obtain ⟨rfl, hW, hK, hN⟩ := hv
  have hx := B.exec
  have hb := B.bytes
  have hr := B.returns
  have hts : ∀ w ∈ gt, w.before _ s = true := fun w hw => atoms_spec (ws := wz yX1_openGates cX1_openGates 5 none) B.pre w (List.mem_cons_of_mem _ hw)
  have hown : s.vm.findClass RX1 = some m.cls := findClass_of_methodNamed B.named
  have hlocks := B.notSynchronized
  have hA : ∀ q, A q → A q := fun _ h => h
  have hS : va_S A s.heap s.heap [] := va_S.rf
  have hS0 := hS
  have hl := lv_entry ([.ref p0, .ref p1, .int x2, .int x3]) (n := 5) (Nat.le_of_ble_eq_true rfl)
  rw [lg_entry_eq]
  generalize (lg_sl ([.ref p0, .ref p1, .int x2, .int x3]) ++ List.replicate (5 - (lg_sl ([.ref p0, .ref p1, .int x2, .int x3])).length) Slot.unset).toArray = ls at hl ⊢
  have hl : lv_has ls 5 [(0, .ref p0), (1, .ref p1), (2, .int x2), (3, .int x3)] := hl
  have hE : ∀ q : Nat, (q < p0 ∨ p0 + 5 ≤ q) → Ω q = Ω q := by intros; rfl
  generalize hR : (f_X1_openGates p0_0 p0_1 p0_2 p0_3 p1_0 x2 x3) = R
  rw [f_X1_openGates] at hR
  refine lv_iconst (v := (0 : Int32)) hx hb dX1_openGates_0 (by decide) ?_
  refine lv_istore (lv' := [(4, .int (0 : Int32)), (0, .ref p0), (1, .ref p1), (2, .int x2), (3, .int x3)]) hx hb dX1_openGates_1 hl (by decide) rfl (fun ls hl => ?_)
  have L3 : ∀ (n_2 : Nat) (x4_1 : Int32) (p0_0_1 : Fn) (p0_1_1 : Fn) (p0_2_1 : Fn) (Ω_3 : Om) (H : Heap) (locs : List Loc), (0 ≤ x4_1.toInt ∧ x4_1.toInt ≤ 6 ∧ 6 - x4_1.toInt < n_2) → inDev G Ω_3 p0 p0_0_1 p0_1_1 p0_2_1 p0_3 → inBlk G Ω_3 p1 p1_0 → (∀ q : Nat, (q < p0 ∨ p0 + 5 ≤ q) → Ω_3 q = Ω q) → oW G A Ω_3 H → va_S A s.heap H locs → ∀ ls : Array Slot, lv_has ls 5 [(0, .ref p0), (1, .ref p1), (2, .int x2), (3, .int x3), (4, .int x4_1)] → (f_X1_openGates_L3 p0_3 p1_0 x2 x3 n_2 x4_1 p0_0_1 p0_1_1 p0_2_1) = R → W p l e (headSpec (wz yX1_openGates cX1_openGates 5 none) ({ frames := 2, cells := 0, slots := 0, locals := 48 } : Room)).room s m ([.ref p0, .ref p1, .int x2, .int x3] : List Value).toArray below meth c H locs 0 0 (MQ below (va_Qv (fun (Ω1 : Om) => inDev G Ω1 p0 (R.1) (R.2.1) (R.2.2) p0_3 ∧ (∀ q : Nat, (q < p0 ∨ p0 + 5 ≤ q) → Ω1 q = Ω q)) (oB G A) A) ([.ref p0, .ref p1, .int x2, .int x3] : List Value).toArray s 0 0 A) (F0 m 3 ls []) := by
    intro n_2
    induction n_2 with
    | zero =>
      intro x4_1 p0_0_1 p0_1_1 p0_2_1 Ω_3 H locs v_3_0 h_p0 h_p1 hE hW hS ls hl hR
      exfalso
      omega
    | succ n_2 ih3 =>
      intro x4_1 p0_0_1 p0_1_1 p0_2_1 Ω_3 H locs v_3_0 h_p0 h_p1 hE hW hS ls hl hR
      rw [f_X1_openGates_L3] at hR
      refine lv_iload hx hb dX1_openGates_3 (lv_at hl 4 rfl) ?_
      refine lv_aload_n hx hb dX1_openGates_5 rfl (lv_at hl 1 rfl) ?_
      refine o_get hx hb hts hown hK hW (inBlk_o h_p1) rfl ig0 0 (by decide) fl_X1_110 rfl dX1_openGates_6 ?_
      try have j_5 : 0 ≤ (p1_0 0 0).toInt ∧ (p1_0 0 0).toInt ≤ 6 := BI_regs (by assumption)
      refine lv_icmp_ge (tgt := 95) hx hb dX1_openGates_9 (by decide) (fun c_4 => ?_) (fun c_4 => ?_)
      · rw [if_pos c_4] at hR
        have i_4 := rle c_4
        subst hR
        exact W.vret hx hb hr (fun t ht hW9 => ⟨⟨Ω_3, rfl, ⟨h_p0, hE⟩, by rw [oB, ht]; exact hW⟩, hS.F ht⟩) hS.2.2 dX1_openGates_95
      · rw [if_neg c_4] at hR
        have i_4 := rnle c_4
        refine lv_aload_n hx hb dX1_openGates_12 rfl (lv_at hl 0 rfl) ?_
        refine o_get hx hb hts hown hK hW (inDev_o h_p0) rfl ig1 1 (by decide) fl_X1_15 rfl dX1_openGates_13 ?_
        refine lv_iload hx hb dX1_openGates_16 (lv_at hl 4 rfl) ?_
        refine o_iald hx hb hK hW (inDev_a1 h_p0) (vp_in_iff.mpr ⟨by omega, by omega⟩) dX1_openGates_18 ?_
        refine lv_bipush (v := (-9 : Int32)) hx hb dX1_openGates_19 (by decide) ?_
        have j_7 : (-9 : Int32).toInt = -9 := by decide
        refine lv_icmp_eq (tgt := 89) hx hb dX1_openGates_21 (by decide) (fun c_6 => ?_) (fun c_6 => ?_)
        · rw [if_pos c_6] at hR
          have i_6 := congrArg Int32.toInt c_6
          refine lv_iinc (v := (x4_1 + (1 : Int32))) (lv' := [(4, .int (x4_1 + (1 : Int32))), (0, .ref p0), (1, .ref p1), (2, .int x2), (3, .int x3)]) hx hb dX1_openGates_89 hl (k := 4) rfl rfl (by decide) rfl (fun ls hl => ?_)
          refine lv_goto (tgt := 3) hx hb dX1_openGates_92 (by decide) ?_
          have j_8 : (1 : Int32).toInt = 1 := by decide
          try have j_9 : (x4_1 + (1 : Int32)).toInt = x4_1.toInt + (1 : Int32).toInt := fb_addI (by omega) (by omega)
          exact ih3 (x4_1 + (1 : Int32)) p0_0_1 p0_1_1 p0_2_1 Ω_3 H locs (by first | assumption | omega) h_p0 h_p1 hE hW hS ls (lv_sub hl [1, 2, 3, 4, 0] rfl) hR
        · rw [if_neg c_6] at hR
          have i_6 := rne c_6
          refine lv_aload_n hx hb dX1_openGates_24 rfl (lv_at hl 1 rfl) ?_
          refine lv_iload hx hb dX1_openGates_25 (lv_at hl 4 rfl) ?_
          refine lv_iload_n hx hb dX1_openGates_27 rfl (lv_at hl 2 rfl) ?_
          refine o_ViR (rest := []) (As := [.int x4_1, .int x2]) (n := 2) hx hb hml hown hts hK hN hW hS hA (c_X0_isOpenedBy l G A Ω_3 p1 p1_0 x4_1 x2 (by first | assumption | omega) (by first | assumption | omega) h_p1) (inBlk_o h_p1) rfl (good_V ml_X1_113 im_X0_isOpenedBy se_X0_isOpenedBy ini_X0 co_X0_isOpenedBy) (by decide +kernel) ⟨Nat.zero_le _, Nat.zero_le _⟩ hl.1 (Nat.le_of_ble_eq_true rfl) rfl rfl dX1_openGates_28 (fun r H locs hp hW hS => ?_)
          obtain ⟨rfl, hz_10⟩ := hp
          have j_12 : (0 : Int32).toInt = 0 := by decide
          refine lv_if_eq (tgt := 89) hx hb dX1_openGates_31 (by decide) (fun c_11 => ?_) (fun c_11 => ?_)
          · rw [if_pos c_11] at hR
            have i_11 := congrArg Int32.toInt c_11
            refine lv_iinc (v := (x4_1 + (1 : Int32))) (lv' := [(4, .int (x4_1 + (1 : Int32))), (0, .ref p0), (1, .ref p1), (2, .int x2), (3, .int x3)]) hx hb dX1_openGates_89 hl (k := 4) rfl rfl (by decide) rfl (fun ls hl => ?_)
            refine lv_goto (tgt := 3) hx hb dX1_openGates_92 (by decide) ?_
            have j_13 : (1 : Int32).toInt = 1 := by decide
            try have j_14 : (x4_1 + (1 : Int32)).toInt = x4_1.toInt + (1 : Int32).toInt := fb_addI (by omega) (by omega)
            exact ih3 (x4_1 + (1 : Int32)) p0_0_1 p0_1_1 p0_2_1 Ω_3 H locs (by first | assumption | omega) h_p0 h_p1 hE hW hS ls (lv_sub hl [1, 2, 3, 4, 0] rfl) hR
          · rw [if_neg c_11] at hR
            have i_11 := rne c_11
            have b_c_11 := rOB c_11
            have bb_c_11 := BI_flds (u := p1_0) (by assumption)
            refine lv_iload_n hx hb dX1_openGates_34 rfl (lv_at hl 3 rfl) ?_
            refine lv_aload_n hx hb dX1_openGates_35 rfl (lv_at hl 1 rfl) ?_
            refine o_get hx hb hts hown hK hW (inBlk_o h_p1) rfl ig0 8 (by decide) fl_X1_53 rfl dX1_openGates_36 ?_
            refine lv_aload_n hx hb dX1_openGates_39 rfl (lv_at hl 1 rfl) ?_
            refine o_get hx hb hts hown hK hW (inBlk_o h_p1) rfl ig0 5 (by decide) fl_X1_97 rfl dX1_openGates_40 ?_
            refine lv_iload hx hb dX1_openGates_43 (lv_at hl 4 rfl) ?_
            refine o_iald hx hb hK hW (inBlk_a2 h_p1) (vp_in_iff.mpr ⟨by omega, by omega⟩) dX1_openGates_45 ?_
            refine o_iald hx hb hK hW (inBlk_a5 h_p1) (vp_in_iff.mpr ⟨by omega, by omega⟩) dX1_openGates_46 ?_
            refine lv_ishr hx hb dX1_openGates_47 ?_
            refine lv_iconst (v := (1 : Int32)) hx hb dX1_openGates_48 (by decide) ?_
            refine lv_iand hx hb dX1_openGates_49 ?_
            refine lv_if_ne (tgt := 56) hx hb dX1_openGates_50 (by decide) (fun c_15 => ?_) (fun c_15 => ?_)
            · rw [if_neg c_15] at hR
              have i_15 := rne c_15
              refine lv_aload_n hx hb dX1_openGates_56 rfl (lv_at hl 0 rfl) ?_
              refine lv_aload_n hx hb dX1_openGates_57 rfl (lv_at hl 1 rfl) ?_
              refine lv_iload hx hb dX1_openGates_58 (lv_at hl 4 rfl) ?_
              refine o_ViR (rest := []) (As := [.ref p1, .int x4_1]) (n := 2) hx hb hml hown hts hK hN hW hS hA (c_X1_isLocked l G A Ω_3 p0 p1 p0_0_1 p0_1_1 p0_2_1 p0_3 p1_0 x4_1 (by first | assumption | omega) (by first | assumption | omega) h_p0 h_p1) (inDev_o h_p0) rfl (good_V ml_X1_83 im_X1_isLocked se_X1_isLocked ini_X1 co_X1_isLocked) (by decide +kernel) ⟨Nat.zero_le _, Nat.zero_le _⟩ hl.1 (Nat.le_of_ble_eq_true rfl) rfl rfl dX1_openGates_60 (fun r H locs hp hW hS => ?_)
              obtain ⟨rfl, hz_16⟩ := hp
              have J80 : ∀ (p0_0_17 : Fn) (p0_2_17 : Fn) (Ω_18 : Om) (H : Heap) (locs : List Loc), inDev G Ω_18 p0 p0_0_17 p0_1_1 p0_2_17 p0_3 → inBlk G Ω_18 p1 p1_0 → (∀ q : Nat, (q < p0 ∨ p0 + 5 ≤ q) → Ω_18 q = Ω q) → oW G A Ω_18 H → va_S A s.heap H locs → ∀ ls : Array Slot, lv_has ls 5 [(0, .ref p0), (1, .ref p1), (2, .int x2), (3, .int x3), (4, .int x4_1)] → (f_X1_openGates_J80 p0_1_1 x4_1 (f_X1_openGates_L3 p0_3 p1_0 x2 x3 n_2) p0_0_17 p0_2_17) = R → W p l e (headSpec (wz yX1_openGates cX1_openGates 5 none) ({ frames := 2, cells := 0, slots := 0, locals := 48 } : Room)).room s m ([.ref p0, .ref p1, .int x2, .int x3] : List Value).toArray below meth c H locs 0 0 (MQ below (va_Qv (fun (Ω1 : Om) => inDev G Ω1 p0 (R.1) (R.2.1) (R.2.2) p0_3 ∧ (∀ q : Nat, (q < p0 ∨ p0 + 5 ≤ q) → Ω1 q = Ω q)) (oB G A) A) ([.ref p0, .ref p1, .int x2, .int x3] : List Value).toArray s 0 0 A) (F0 m 80 ls []) := by
                intro p0_0_17 p0_2_17 Ω_18 H locs h_p0 h_p1 hE hW hS ls hl hR
                rw [f_X1_openGates_J80] at hR
                refine lv_aload_n hx hb dX1_openGates_80 rfl (lv_at hl 0 rfl) ?_
                refine o_get hx hb hts hown hK hW (inDev_o h_p0) rfl ig1 1 (by decide) fl_X1_15 rfl dX1_openGates_81 ?_
                refine lv_iload hx hb dX1_openGates_84 (lv_at hl 4 rfl) ?_
                refine lv_bipush (v := (-9 : Int32)) hx hb dX1_openGates_86 (by decide) ?_
                refine wDev_1 hx hb hK hW hS hA h_p0 (vp_in_iff.mpr ⟨by omega, by omega⟩) dX1_openGates_88 (fun Ω_19 H locs h_p0 hF_19 hW hS => ?_)
                have h_p1 := h_p1.keep (fun q h1 h2 => hF_19 q (by omega))
                have hE : ∀ q : Nat, (q < p0 ∨ p0 + 5 ≤ q) → Ω_19 q = Ω q := fun q g0 => (hF_19 q (by omega)).trans (hE q g0)
                refine lv_iinc (v := (x4_1 + (1 : Int32))) (lv' := [(4, .int (x4_1 + (1 : Int32))), (0, .ref p0), (1, .ref p1), (2, .int x2), (3, .int x3)]) hx hb dX1_openGates_89 hl (k := 4) rfl rfl (by decide) rfl (fun ls hl => ?_)
                refine lv_goto (tgt := 3) hx hb dX1_openGates_92 (by decide) ?_
                have j_20 : (1 : Int32).toInt = 1 := by decide
                try have j_21 : (x4_1 + (1 : Int32)).toInt = x4_1.toInt + (1 : Int32).toInt := fb_addI (by omega) (by omega)
                exact ih3 (x4_1 + (1 : Int32)) p0_0_17 (upd p0_1_1 x4_1.toNatClampNeg (-9 : Int32)) p0_2_17 Ω_19 H locs (by first | assumption | omega) h_p0 h_p1 hE hW hS ls (lv_sub hl [1, 2, 3, 4, 0] rfl) hR
              refine lv_if_ne (tgt := 80) hx hb dX1_openGates_63 (by decide) (fun c_22 => ?_) (fun c_22 => ?_)
              · rw [if_neg c_22] at hR
                have i_22 := rne c_22
                exact J80 p0_0_1 p0_2_1 Ω_3 H locs h_p0 h_p1 hE hW hS ls (lv_sub hl [0, 1, 2, 3, 4] rfl) hR
              · rw [if_pos c_22] at hR
                have i_22 := congrArg Int32.toInt c_22
                refine lv_aload_n hx hb dX1_openGates_66 rfl (lv_at hl 0 rfl) ?_
                refine lv_aload_n hx hb dX1_openGates_67 rfl (lv_at hl 1 rfl) ?_
                refine lv_iload hx hb dX1_openGates_68 (lv_at hl 4 rfl) ?_
                refine lv_aload_n hx hb dX1_openGates_70 rfl (lv_at hl 0 rfl) ?_
                refine o_get hx hb hts hown hK hW (inDev_o h_p0) rfl ig1 1 (by decide) fl_X1_15 rfl dX1_openGates_71 ?_
                refine lv_iload hx hb dX1_openGates_74 (lv_at hl 4 rfl) ?_
                refine o_iald hx hb hK hW (inDev_a1 h_p0) (vp_in_iff.mpr ⟨by omega, by omega⟩) dX1_openGates_76 ?_
                refine o_Vv (rest := []) (As := [.ref p1, .int x4_1, .int (p0_1_1 x4_1.toNatClampNeg)]) (n := 3) hx hb hml hown hts hK hN hW hS hA (c_X1_letIn l G A Ω_3 p0 p1 p0_0_1 p0_1_1 p0_2_1 p0_3 p1_0 x4_1 (p0_1_1 x4_1.toNatClampNeg) (by omega) (by first | assumption | omega) (by first | assumption | omega) h_p0 h_p1) (inDev_o h_p0) rfl (good_V ml_X1_100 im_X1_letIn se_X1_letIn ini_X1 co_X1_letIn) (by decide +kernel) ⟨Nat.zero_le _, Nat.zero_le _⟩ hl.1 (Nat.le_of_ble_eq_true rfl) rfl rfl dX1_openGates_77 (fun Ω_23 H locs hp hW hS => ?_)
                obtain ⟨h_p0, hF_23⟩ := hp
                have h_p1 := h_p1.keep (fun q h1 h2 => hF_23 q (by omega))
                have hE : ∀ q : Nat, (q < p0 ∨ p0 + 5 ≤ q) → Ω_23 q = Ω q := fun q g0 => (hF_23 q (by omega)).trans (hE q g0)
                exact J80 ((f_X1_letIn p0_0_1 p0_2_1 p0_3 p1_0 x4_1 (p0_1_1 x4_1.toNatClampNeg)).1) ((f_X1_letIn p0_0_1 p0_2_1 p0_3 p1_0 x4_1 (p0_1_1 x4_1.toNatClampNeg)).2) Ω_23 H locs h_p0 h_p1 hE hW hS ls (lv_sub hl [0, 1, 2, 3, 4] rfl) hR
            · rw [if_pos c_15] at hR
              have i_15 := congrArg Int32.toInt c_15
              refine lv_goto (tgt := 89) hx hb dX1_openGates_53 (by decide) ?_
              refine lv_iinc (v := (x4_1 + (1 : Int32))) (lv' := [(4, .int (x4_1 + (1 : Int32))), (0, .ref p0), (1, .ref p1), (2, .int x2), (3, .int x3)]) hx hb dX1_openGates_89 hl (k := 4) rfl rfl (by decide) rfl (fun ls hl => ?_)
              refine lv_goto (tgt := 3) hx hb dX1_openGates_92 (by decide) ?_
              have j_24 : (1 : Int32).toInt = 1 := by decide
              try have j_25 : (x4_1 + (1 : Int32)).toInt = x4_1.toInt + (1 : Int32).toInt := fb_addI (by omega) (by omega)
              exact ih3 (x4_1 + (1 : Int32)) p0_0_1 p0_1_1 p0_2_1 Ω_3 H locs (by first | assumption | omega) h_p0 h_p1 hE hW hS ls (lv_sub hl [1, 2, 3, 4, 0] rfl) hR
  have j_26 : (0 : Int32).toInt = 0 := by decide
  exact L3 4000 (0 : Int32) p0_0 p0_1 p0_2 Ω s.heap [] (by first | assumption | omega) h_p0 h_p1 hE hW hS ls (lv_sub hl [1, 2, 3, 4, 0] rfl) hR
set_option maxHeartbeats 4000000 in
set_option maxRecDepth 100000 in
theorem c_X1_write (l : Launch) (G : Gm) (A : Nat → Prop) (Ω : Om) (p0 : Nat) (p1 : Nat) (p0_0 : Fn) (p0_1 : Fn) (p0_2 : Fn) (p0_3 : Fn) (p1_0 : Blk) (x2 : Int32) (x3 : Int32) (hd_p0_p1 : p0 + 5 ≤ p1 ∨ p1 + 13 ≤ p0) (hB_p1 : BlkInv p1_0) (h_p0 : inDev G Ω p0 p0_0 p0_1 p0_2 p0_3) (h_p1 : inBlk G Ω p1 p1_0) : Met l yX1_write (wz yX1_write cX1_write 6 none) ({ frames := 3, cells := 0, slots := 0, locals := 72 } : Room) (va_Pc [.ref p0, .ref p1, .int x2, .int x3] (oS G A Ω)) (va_Qv (fun (Ω1 : Om) => inDev G Ω1 p0 ((f_X1_write p0_0 p0_1 p0_2 p0_3 p1_0 x2 x3).1) ((f_X1_write p0_0 p0_1 p0_2 p0_3 p1_0 x2 x3).2.1) ((f_X1_write p0_0 p0_1 p0_2 p0_3 p1_0 x2 x3).2.2) p0_3 ∧ (∀ q : Nat, (q < p0 ∨ p0 + 5 ≤ q) → Ω1 q = Ω q)) (oB G A) A) 0 0 A := by
  refine Met.ofW (cc := cX1_write) (maxL := 6) (ret := none) (by decide) rfl ?_
  intro p e s m args below meth c s₁ B hml hv
  obtain ⟨rfl, hW, hK, hN⟩ := hv
  have hx := B.exec
  have hb := B.bytes
  have hr := B.returns
  have hts : ∀ w ∈ gt, w.before _ s = true := fun w hw => atoms_spec (ws := wz yX1_write cX1_write 6 none) B.pre w (List.mem_cons_of_mem _ hw)
  have hown : s.vm.findClass RX1 = some m.cls := findClass_of_methodNamed B.named
  have hlocks := B.notSynchronized
  have hA : ∀ q, A q → A q := fun _ h => h
  have hS : va_S A s.heap s.heap [] := va_S.rf
  have hS0 := hS
  have hl := lv_entry ([.ref p0, .ref p1, .int x2, .int x3]) (n := 6) (Nat.le_of_ble_eq_true rfl)
  rw [lg_entry_eq]
  generalize (lg_sl ([.ref p0, .ref p1, .int x2, .int x3]) ++ List.replicate (6 - (lg_sl ([.ref p0, .ref p1, .int x2, .int x3])).length) Slot.unset).toArray = ls at hl ⊢
  have hl : lv_has ls 6 [(0, .ref p0), (1, .ref p1), (2, .int x2), (3, .int x3)] := hl
  have hE : ∀ q : Nat, (q < p0 ∨ p0 + 5 ≤ q) → Ω q = Ω q := by intros; rfl
  generalize hR : (f_X1_write p0_0 p0_1 p0_2 p0_3 p1_0 x2 x3) = R
  rw [f_X1_write] at hR
  refine lv_aload_n hx hb dX1_write_0 rfl (lv_at hl 1 rfl) ?_
  refine lv_iload_n hx hb dX1_write_1 rfl (lv_at hl 2 rfl) ?_
  refine o_ViR (rest := []) (As := [.int x2]) (n := 1) hx hb hml hown hts hK hN hW hS hA (c_X0_registerBehind l G A Ω p1 p1_0 x2 (by first | assumption | omega) h_p1) (inBlk_o h_p1) rfl (good_V ml_X1_70 im_X0_registerBehind se_X0_registerBehind ini_X0 co_X0_registerBehind) (by decide +kernel) ⟨Nat.zero_le _, Nat.zero_le _⟩ hl.1 (Nat.le_of_ble_eq_true rfl) rfl rfl dX1_write_2 (fun r H locs hp hW hS => ?_)
  subst hp
  refine lv_istore (lv' := [(4, .int (f_X0_registerBehind p1_0 x2)), (0, .ref p0), (1, .ref p1), (2, .int x2), (3, .int x3)]) hx hb dX1_write_5 hl (by decide) rfl (fun ls hl => ?_)
  refine lv_iload hx hb dX1_write_7 (lv_at hl 0 rfl) ?_
  refine lv_bipush (v := (-9 : Int32)) hx hb dX1_write_9 (by decide) ?_
  try have j_3 : (f_X0_registerBehind p1_0 x2).toInt = -9 ∨ (0 ≤ (f_X0_registerBehind p1_0 x2).toInt ∧ (f_X0_registerBehind p1_0 x2).toInt < 6) := R_registerBehind (by assumption) _
  have j_4 : (-9 : Int32).toInt = -9 := by decide
  refine lv_icmp_eq (tgt := 24) hx hb dX1_write_11 (by decide) (fun c_2 => ?_) (fun c_2 => ?_)
  · rw [if_pos c_2] at hR
    have i_2 := congrArg Int32.toInt c_2
    subst hR
    exact W.vret hx hb hr (fun t ht hW9 => ⟨⟨Ω, rfl, ⟨h_p0, hE⟩, by rw [oB, ht]; exact hW⟩, hS.F ht⟩) hS.2.2 dX1_write_24
  · rw [if_neg c_2] at hR
    have i_2 := rne c_2
    refine lv_aload_n hx hb dX1_write_14 rfl (lv_at hl 1 rfl) ?_
    refine lv_aload_n hx hb dX1_write_15 rfl (lv_at hl 2 rfl) ?_
    refine lv_iload hx hb dX1_write_16 (lv_at hl 0 rfl) ?_
    refine o_ViR (rest := []) (As := [.ref p1, .int (f_X0_registerBehind p1_0 x2)]) (n := 2) hx hb hml hown hts hK hN hW hS hA (c_X1_isLocked l G A Ω p0 p1 p0_0 p0_1 p0_2 p0_3 p1_0 (f_X0_registerBehind p1_0 x2) (by first | assumption | omega) (by first | assumption | omega) h_p0 h_p1) (inDev_o h_p0) rfl (good_V ml_X1_83 im_X1_isLocked se_X1_isLocked ini_X1 co_X1_isLocked) (by decide +kernel) ⟨Nat.zero_le _, Nat.zero_le _⟩ hl.1 (Nat.le_of_ble_eq_true rfl) rfl rfl dX1_write_18 (fun r H locs hp hW hS => ?_)
    obtain ⟨rfl, hz_5⟩ := hp
    have j_7 : (0 : Int32).toInt = 0 := by decide
    refine lv_if_eq (tgt := 25) hx hb dX1_write_21 (by decide) (fun c_6 => ?_) (fun c_6 => ?_)
    · rw [if_pos c_6] at hR
      have i_6 := congrArg Int32.toInt c_6
      refine lv_aload_n hx hb dX1_write_25 rfl (lv_at hl 2 rfl) ?_
      refine lv_iload_n hx hb dX1_write_26 rfl (lv_at hl 3 rfl) ?_
      refine o_ViR (rest := []) (As := [.int x2]) (n := 1) hx hb hml hown hts hK hN hW hS hA (c_X0_aliasAt l G A Ω p1 p1_0 x2 (by first | assumption | omega) h_p1) (inBlk_o h_p1) rfl (good_V ml_X1_87 im_X0_aliasAt se_X0_aliasAt ini_X0 co_X0_aliasAt) (by decide +kernel) ⟨Nat.zero_le _, Nat.zero_le _⟩ hl.1 (Nat.le_of_ble_eq_true rfl) rfl rfl dX1_write_27 (fun r H locs hp hW hS => ?_)
      subst hp
      refine lv_istore (lv' := [(5, .int (f_X0_aliasAt p1_0 x2)), (4, .int (f_X0_registerBehind p1_0 x2)), (0, .ref p0), (1, .ref p1), (2, .int x2), (3, .int x3)]) hx hb dX1_write_30 hl (by decide) rfl (fun ls hl => ?_)
      refine lv_iload hx hb dX1_write_32 (lv_at hl 0 rfl) ?_
      refine lv_bipush (v := (-9 : Int32)) hx hb dX1_write_34 (by decide) ?_
      have J89 : ∀ (p0_0_9 : Fn) (p0_2_9 : Fn) (Ω_10 : Om) (H : Heap) (locs : List Loc), inDev G Ω_10 p0 p0_0_9 p0_1 p0_2_9 p0_3 → inBlk G Ω_10 p1 p1_0 → (∀ q : Nat, (q < p0 ∨ p0 + 5 ≤ q) → Ω_10 q = Ω q) → oW G A Ω_10 H → va_S A s.heap H locs → ∀ ls : Array Slot, lv_has ls 6 [(0, .ref p0), (1, .ref p1), (3, .int x3), (4, .int (f_X0_registerBehind p1_0 x2))] → (f_X1_write_J89 p0_1 p0_3 p1_0 x3 (f_X0_registerBehind p1_0 x2) p0_0_9 p0_2_9) = R → W p l e (headSpec (wz yX1_write cX1_write 6 none) ({ frames := 3, cells := 0, slots := 0, locals := 72 } : Room)).room s m ([.ref p0, .ref p1, .int x2, .int x3] : List Value).toArray below meth c H locs 0 0 (MQ below (va_Qv (fun (Ω1 : Om) => inDev G Ω1 p0 (R.1) (R.2.1) (R.2.2) p0_3 ∧ (∀ q : Nat, (q < p0 ∨ p0 + 5 ≤ q) → Ω1 q = Ω q)) (oB G A) A) ([.ref p0, .ref p1, .int x2, .int x3] : List Value).toArray s 0 0 A) (F0 m 89 ls []) := by
        intro p0_0_9 p0_2_9 Ω_10 H locs h_p0 h_p1 hE hW hS ls hl hR
        rw [f_X1_write_J89] at hR
        refine lv_aload_n hx hb dX1_write_89 rfl (lv_at hl 0 rfl) ?_
        refine lv_aload_n hx hb dX1_write_90 rfl (lv_at hl 1 rfl) ?_
        refine lv_iload hx hb dX1_write_91 (lv_at hl 3 rfl) ?_
        refine lv_iload_n hx hb dX1_write_93 rfl (lv_at hl 2 rfl) ?_
        refine o_Vv (rest := []) (As := [.ref p1, .int (f_X0_registerBehind p1_0 x2), .int x3]) (n := 3) hx hb hml hown hts hK hN hW hS hA (c_X1_openGates l G A Ω_10 p0 p1 p0_0_9 p0_1 p0_2_9 p0_3 p1_0 (f_X0_registerBehind p1_0 x2) x3 (by omega) (by first | assumption | omega) h_p0 h_p1) (inDev_o h_p0) rfl (good_V ml_X1_103 im_X1_openGates se_X1_openGates ini_X1 co_X1_openGates) (by decide +kernel) ⟨Nat.zero_le _, Nat.zero_le _⟩ hl.1 (Nat.le_of_ble_eq_true rfl) rfl rfl dX1_write_94 (fun Ω_11 H locs hp hW hS => ?_)
        obtain ⟨h_p0, hF_11⟩ := hp
        have h_p1 := h_p1.keep (fun q h1 h2 => hF_11 q (by omega))
        have hE : ∀ q : Nat, (q < p0 ∨ p0 + 5 ≤ q) → Ω_11 q = Ω q := fun q g0 => (hF_11 q (by omega)).trans (hE q g0)
        generalize (f_X1_openGates p0_0_9 p0_1 p0_2_9 p0_3 p1_0 (f_X0_registerBehind p1_0 x2) x3) = Z_11 at h_p0 hR
        obtain ⟨z11_0, z11_1, z11_2⟩ := Z_11
        dsimp only at h_p0 hR
        rw [f_X1_write_C97] at hR
        subst hR
        exact W.vret hx hb hr (fun t ht hW9 => ⟨⟨Ω_11, rfl, ⟨h_p0, hE⟩, by rw [oB, ht]; exact hW⟩, hS.F ht⟩) hS.2.2 dX1_write_97
      try have j_13 : (f_X0_aliasAt p1_0 x2).toInt = -9 ∨ (0 ≤ (f_X0_aliasAt p1_0 x2).toInt ∧ (f_X0_aliasAt p1_0 x2).toInt < 4) := R_aliasAt (by assumption) _
      refine lv_icmp_eq (tgt := 57) hx hb dX1_write_36 (by decide) (fun c_12 => ?_) (fun c_12 => ?_)
      · rw [if_pos c_12] at hR
        have i_12 := congrArg Int32.toInt c_12
        refine lv_aload_n hx hb dX1_write_57 rfl (lv_at hl 3 rfl) ?_
        refine o_get hx hb hts hown hK hW (inBlk_o h_p1) rfl ig0 5 (by decide) fl_X1_97 rfl dX1_write_58 ?_
        refine lv_iload hx hb dX1_write_61 (lv_at hl 1 rfl) ?_
        refine o_iald hx hb hK hW (inBlk_a2 h_p1) (vp_in_iff.mpr ⟨by omega, by omega⟩) dX1_write_63 ?_
        refine lv_bipush (v := (-9 : Int32)) hx hb dX1_write_64 (by decide) ?_
        refine lv_icmp_ne (tgt := 80) hx hb dX1_write_66 (by decide) (fun c_14 => ?_) (fun c_14 => ?_)
        · rw [if_neg c_14] at hR
          have i_14 := rne c_14
          refine lv_aload_n hx hb dX1_write_80 rfl (lv_at hl 2 rfl) ?_
          refine o_get hx hb hts hown hK hW (inDev_o h_p0) rfl ig1 1 (by decide) fl_X1_15 rfl dX1_write_81 ?_
          refine lv_iload hx hb dX1_write_84 (lv_at hl 1 rfl) ?_
          refine lv_iload_n hx hb dX1_write_86 rfl (lv_at hl 5 rfl) ?_
          refine wDev_1 hx hb hK hW hS hA h_p0 (vp_in_iff.mpr ⟨by omega, by omega⟩) dX1_write_87 (fun Ω_15 H locs h_p0 hF_15 hW hS => ?_)
          have h_p1 := h_p1.keep (fun q h1 h2 => hF_15 q (by omega))
          have hE : ∀ q : Nat, (q < p0 ∨ p0 + 5 ≤ q) → Ω_15 q = Ω q := fun q g0 => (hF_15 q (by omega)).trans (hE q g0)
          subst hR
          exact W.vret hx hb hr (fun t ht hW9 => ⟨⟨Ω_15, rfl, ⟨h_p0, hE⟩, by rw [oB, ht]; exact hW⟩, hS.F ht⟩) hS.2.2 dX1_write_88
        · rw [if_pos c_14] at hR
          have i_14 := congrArg Int32.toInt c_14
          refine lv_aload_n hx hb dX1_write_69 rfl (lv_at hl 2 rfl) ?_
          refine lv_aload_n hx hb dX1_write_70 rfl (lv_at hl 3 rfl) ?_
          refine lv_iload hx hb dX1_write_71 (lv_at hl 1 rfl) ?_
          refine lv_iload_n hx hb dX1_write_73 rfl (lv_at hl 5 rfl) ?_
          refine o_Vv (rest := []) (As := [.ref p1, .int (f_X0_registerBehind p1_0 x2), .int x3]) (n := 3) hx hb hml hown hts hK hN hW hS hA (c_X1_letIn l G A Ω p0 p1 p0_0 p0_1 p0_2 p0_3 p1_0 (f_X0_registerBehind p1_0 x2) x3 (by omega) (by first | assumption | omega) (by first | assumption | omega) h_p0 h_p1) (inDev_o h_p0) rfl (good_V ml_X1_100 im_X1_letIn se_X1_letIn ini_X1 co_X1_letIn) (by decide +kernel) ⟨Nat.zero_le _, Nat.zero_le _⟩ hl.1 (Nat.le_of_ble_eq_true rfl) rfl rfl dX1_write_74 (fun Ω_16 H locs hp hW hS => ?_)
          obtain ⟨h_p0, hF_16⟩ := hp
          have h_p1 := h_p1.keep (fun q h1 h2 => hF_16 q (by omega))
          have hE : ∀ q : Nat, (q < p0 ∨ p0 + 5 ≤ q) → Ω_16 q = Ω q := fun q g0 => (hF_16 q (by omega)).trans (hE q g0)
          generalize (f_X1_letIn p0_0 p0_2 p0_3 p1_0 (f_X0_registerBehind p1_0 x2) x3) = Z_16 at h_p0 hR
          obtain ⟨z16_0, z16_1⟩ := Z_16
          dsimp only at h_p0 hR
          rw [f_X1_write_C77] at hR
          refine lv_goto (tgt := 89) hx hb dX1_write_77 (by decide) ?_
          exact J89 z16_0 z16_1 Ω_16 H locs h_p0 h_p1 hE hW hS ls (lv_sub hl [2, 3, 5, 1] rfl) hR
      · rw [if_neg c_12] at hR
        have i_12 := rne c_12
        refine lv_aload_n hx hb dX1_write_39 rfl (lv_at hl 2 rfl) ?_
        refine lv_aload_n hx hb dX1_write_40 rfl (lv_at hl 3 rfl) ?_
        refine lv_iload hx hb dX1_write_41 (lv_at hl 1 rfl) ?_
        refine lv_iload_n hx hb dX1_write_43 rfl (lv_at hl 5 rfl) ?_
        refine lv_aload_n hx hb dX1_write_44 rfl (lv_at hl 3 rfl) ?_
        refine o_get hx hb hts hown hK hW (inBlk_o h_p1) rfl ig0 14 (by decide) fl_X1_90 rfl dX1_write_45 ?_
        refine lv_iload hx hb dX1_write_48 (lv_at hl 0 rfl) ?_
        refine o_iald hx hb hK hW (inBlk_a11 h_p1) (vp_in_iff.mpr ⟨by omega, by omega⟩) dX1_write_50 ?_
        refine o_Vv (rest := []) (As := [.ref p1, .int (f_X0_registerBehind p1_0 x2), .int x3, .int ((p1_0 12) (f_X0_aliasAt p1_0 x2).toNatClampNeg)]) (n := 4) hx hb hml hown hts hK hN hW hS hA (c_X1_letInByAlias l G A Ω p0 p1 p0_0 p0_1 p0_2 p0_3 p1_0 (f_X0_registerBehind p1_0 x2) x3 ((p1_0 12) (f_X0_aliasAt p1_0 x2).toNatClampNeg) (by omega) (by first | assumption | omega) (by first | assumption | omega) h_p0 h_p1) (inDev_o h_p0) rfl (good_V ml_X1_93 im_X1_letInByAlias se_X1_letInByAlias ini_X1 co_X1_letInByAlias) (by decide +kernel) ⟨Nat.zero_le _, Nat.zero_le _⟩ hl.1 (Nat.le_of_ble_eq_true rfl) rfl rfl dX1_write_51 (fun Ω_17 H locs hp hW hS => ?_)
        obtain ⟨h_p0, hF_17⟩ := hp
        have h_p1 := h_p1.keep (fun q h1 h2 => hF_17 q (by omega))
        have hE : ∀ q : Nat, (q < p0 ∨ p0 + 5 ≤ q) → Ω_17 q = Ω q := fun q g0 => (hF_17 q (by omega)).trans (hE q g0)
        refine lv_goto (tgt := 89) hx hb dX1_write_54 (by decide) ?_
        exact J89 (f_X1_letInByAlias p0_0 p0_2 p0_3 p1_0 (f_X0_registerBehind p1_0 x2) x3 ((p1_0 12) (f_X0_aliasAt p1_0 x2).toNatClampNeg)) p0_2 Ω_17 H locs h_p0 h_p1 hE hW hS ls (lv_sub hl [2, 3, 5, 1] rfl) hR
    · rw [if_neg c_6] at hR
      have i_6 := rne c_6
      subst hR
      exact W.vret hx hb hr (fun t ht hW9 => ⟨⟨Ω, rfl, ⟨h_p0, hE⟩, by rw [oB, ht]; exact hW⟩, hS.F ht⟩) hS.2.2 dX1_write_24
set_option maxHeartbeats 4000000 in
set_option maxRecDepth 100000 in
theorem c_X1_read (l : Launch) (G : Gm) (A : Nat → Prop) (Ω : Om) (p0 : Nat) (p1 : Nat) (p0_0 : Fn) (p0_1 : Fn) (p0_2 : Fn) (p0_3 : Fn) (p1_0 : Blk) (x2 : Int32) (hd_p0_p1 : p0 + 5 ≤ p1 ∨ p1 + 13 ≤ p0) (hB_p1 : BlkInv p1_0) (h_p0 : inDev G Ω p0 p0_0 p0_1 p0_2 p0_3) (h_p1 : inBlk G Ω p1 p1_0) : Met l yX1_read (wz yX1_read cX1_read 6 (some .int)) ({ frames := 4, cells := 0, slots := 0, locals := 89 } : Room) (va_Pc [.ref p0, .ref p1, .int x2] (oS G A Ω)) (va_Qi (fun (r : Int32) (Ω1 : Om) => r = (f_X1_read p0_0 p0_3 p1_0 x2).1 ∧ inDev G Ω1 p0 ((f_X1_read p0_0 p0_3 p1_0 x2).2) p0_1 p0_2 p0_3 ∧ (∀ q : Nat, (q < p0 ∨ p0 + 5 ≤ q) → Ω1 q = Ω q)) (oB G A) A) 0 0 A := by
  refine Met.ofW (cc := cX1_read) (maxL := 6) (ret := (some .int)) (by decide) rfl ?_
  intro p e s m args below meth c s₁ B hml hv
  obtain ⟨rfl, hW, hK, hN⟩ := hv
  have hx := B.exec
  have hb := B.bytes
  have hr := B.returns
  have hts : ∀ w ∈ gt, w.before _ s = true := fun w hw => atoms_spec (ws := wz yX1_read cX1_read 6 (some .int)) B.pre w (List.mem_cons_of_mem _ hw)
  have hown : s.vm.findClass RX1 = some m.cls := findClass_of_methodNamed B.named
  have hlocks := B.notSynchronized
  have hA : ∀ q, A q → A q := fun _ h => h
  have hS : va_S A s.heap s.heap [] := va_S.rf
  have hS0 := hS
  have hl := lv_entry ([.ref p0, .ref p1, .int x2]) (n := 6) (Nat.le_of_ble_eq_true rfl)
  rw [lg_entry_eq]
  generalize (lg_sl ([.ref p0, .ref p1, .int x2]) ++ List.replicate (6 - (lg_sl ([.ref p0, .ref p1, .int x2])).length) Slot.unset).toArray = ls at hl ⊢
  have hl : lv_has ls 6 [(0, .ref p0), (1, .ref p1), (2, .int x2)] := hl
  have hE : ∀ q : Nat, (q < p0 ∨ p0 + 5 ≤ q) → Ω q = Ω q := by intros; rfl
  generalize hR : (f_X1_read p0_0 p0_3 p1_0 x2) = R
  rw [f_X1_read] at hR
  refine lv_aload_n hx hb dX1_read_0 rfl (lv_at hl 0 rfl) ?_
  refine lv_aload_n hx hb dX1_read_1 rfl (lv_at hl 1 rfl) ?_
  refine lv_iload_n hx hb dX1_read_2 rfl (lv_at hl 2 rfl) ?_
  refine o_ViR (rest := []) (As := [.ref p1, .int x2]) (n := 2) hx hb hml hown hts hK hN hW hS hA (c_X1_look l G A Ω p0 p1 p0_0 p0_1 p0_2 p0_3 p1_0 x2 (by first | assumption | omega) h_p0 h_p1) (inDev_o h_p0) rfl (good_V ml_X1_77 im_X1_look se_X1_look ini_X1 co_X1_look) (by decide +kernel) ⟨Nat.zero_le _, Nat.zero_le _⟩ hl.1 (Nat.le_of_ble_eq_true rfl) rfl rfl dX1_read_3 (fun r H locs hp hW hS => ?_)
  subst hp
  refine lv_istore_n (lv' := [(3, .int (f_X1_look p0_0 p0_3 p1_0 x2)), (0, .ref p0), (1, .ref p1), (2, .int x2)]) hx hb dX1_read_6 rfl hl (by decide) rfl (fun ls hl => ?_)
  refine lv_aload_n hx hb dX1_read_7 rfl (lv_at hl 2 rfl) ?_
  refine lv_iload_n hx hb dX1_read_8 rfl (lv_at hl 3 rfl) ?_
  refine o_ViR (rest := []) (As := [.int x2]) (n := 1) hx hb hml hown hts hK hN hW hS hA (c_X0_registerAt l G A Ω p1 p1_0 x2 (by first | assumption | omega) h_p1) (inBlk_o h_p1) rfl (good_V ml_X1_80 im_X0_registerAt se_X0_registerAt ini_X0 co_X0_registerAt) (by decide +kernel) ⟨Nat.zero_le _, Nat.zero_le _⟩ hl.1 (Nat.le_of_ble_eq_true rfl) rfl rfl dX1_read_9 (fun r H locs hp hW hS => ?_)
  subst hp
  refine lv_istore (lv' := [(4, .int (f_X0_registerAt p1_0 x2)), (3, .int (f_X1_look p0_0 p0_3 p1_0 x2)), (0, .ref p0), (1, .ref p1), (2, .int x2)]) hx hb dX1_read_12 hl (by decide) rfl (fun ls hl => ?_)
  refine lv_iconst (v := (0 : Int32)) hx hb dX1_read_14 (by decide) ?_
  refine lv_istore (lv' := [(5, .int (0 : Int32)), (4, .int (f_X0_registerAt p1_0 x2)), (3, .int (f_X1_look p0_0 p0_3 p1_0 x2)), (0, .ref p0), (1, .ref p1), (2, .int x2)]) hx hb dX1_read_15 hl (by decide) rfl (fun ls hl => ?_)
  have L17 : ∀ (n_4 : Nat) (x5_3 : Int32) (p0_0_3 : Fn) (Ω_5 : Om) (H : Heap) (locs : List Loc), (0 ≤ x5_3.toInt ∧ x5_3.toInt ≤ 12 ∧ 12 - x5_3.toInt < n_4) → inDev G Ω_5 p0 p0_0_3 p0_1 p0_2 p0_3 → inBlk G Ω_5 p1 p1_0 → (∀ q : Nat, (q < p0 ∨ p0 + 5 ≤ q) → Ω_5 q = Ω q) → oW G A Ω_5 H → va_S A s.heap H locs → ∀ ls : Array Slot, lv_has ls 6 [(0, .ref p0), (1, .ref p1), (3, .int (f_X1_look p0_0 p0_3 p1_0 x2)), (4, .int (f_X0_registerAt p1_0 x2)), (5, .int x5_3)] → (f_X1_read_L17 p0_3 p1_0 (f_X1_look p0_0 p0_3 p1_0 x2) (f_X0_registerAt p1_0 x2) n_4 x5_3 p0_0_3) = R → W p l e (headSpec (wz yX1_read cX1_read 6 (some .int)) ({ frames := 4, cells := 0, slots := 0, locals := 89 } : Room)).room s m ([.ref p0, .ref p1, .int x2] : List Value).toArray below meth c H locs 0 0 (MQ below (va_Qi (fun (r : Int32) (Ω1 : Om) => r = R.1 ∧ inDev G Ω1 p0 (R.2) p0_1 p0_2 p0_3 ∧ (∀ q : Nat, (q < p0 ∨ p0 + 5 ≤ q) → Ω1 q = Ω q)) (oB G A) A) ([.ref p0, .ref p1, .int x2] : List Value).toArray s 0 0 A) (F0 m 17 ls []) := by
    intro n_4
    induction n_4 with
    | zero =>
      intro x5_3 p0_0_3 Ω_5 H locs v_17_0 h_p0 h_p1 hE hW hS ls hl hR
      exfalso
      omega
    | succ n_4 ih17 =>
      intro x5_3 p0_0_3 Ω_5 H locs v_17_0 h_p0 h_p1 hE hW hS ls hl hR
      rw [f_X1_read_L17] at hR
      refine lv_iload hx hb dX1_read_17 (lv_at hl 4 rfl) ?_
      refine lv_aload_n hx hb dX1_read_19 rfl (lv_at hl 1 rfl) ?_
      refine o_get hx hb hts hown hK hW (inBlk_o h_p1) rfl ig0 1 (by decide) fl_X1_36 rfl dX1_read_20 ?_
      try have j_7 : 0 ≤ (p1_0 0 1).toInt ∧ (p1_0 0 1).toInt ≤ 12 := BI_flds (by assumption)
      refine lv_icmp_ge (tgt := 64) hx hb dX1_read_23 (by decide) (fun c_6 => ?_) (fun c_6 => ?_)
      · rw [if_pos c_6] at hR
        have i_6 := rle c_6
        refine lv_iload_n hx hb dX1_read_64 rfl (lv_at hl 2 rfl) ?_
        subst hR
        exact W.iret (v := (f_X1_look p0_0 p0_3 p1_0 x2)) hx hb hr (fun t ht hW9 => ⟨⟨(f_X1_look p0_0 p0_3 p1_0 x2), Ω_5, rfl, ⟨rfl, h_p0, hE⟩, by rw [oB, ht]; exact hW⟩, hS.F ht⟩) hS.2.2 dX1_read_65
      · rw [if_neg c_6] at hR
        have i_6 := rnle c_6
        refine lv_aload_n hx hb dX1_read_26 rfl (lv_at hl 1 rfl) ?_
        refine o_get hx hb hts hown hK hW (inBlk_o h_p1) rfl ig0 6 (by decide) fl_X1_47 rfl dX1_read_27 ?_
        refine lv_iload hx hb dX1_read_30 (lv_at hl 4 rfl) ?_
        refine o_iald hx hb hK hW (inBlk_a3 h_p1) (vp_in_iff.mpr ⟨by omega, by omega⟩) dX1_read_32 ?_
        refine lv_iload hx hb dX1_read_33 (lv_at hl 3 rfl) ?_
        try have j_9 : 0 ≤ ((p1_0 4) x5_3.toNatClampNeg).toInt ∧ ((p1_0 4) x5_3.toNatClampNeg).toInt < 6 := BI_owner (by assumption) _
        try have j_10 : (f_X0_registerAt p1_0 x2).toInt = -9 ∨ (0 ≤ (f_X0_registerAt p1_0 x2).toInt ∧ (f_X0_registerAt p1_0 x2).toInt < 6) := R_registerAt (by assumption) _
        refine lv_icmp_ne (tgt := 58) hx hb dX1_read_35 (by decide) (fun c_8 => ?_) (fun c_8 => ?_)
        · rw [if_neg c_8] at hR
          have i_8 := rne c_8
          refine lv_iinc (v := (x5_3 + (1 : Int32))) (lv' := [(5, .int (x5_3 + (1 : Int32))), (0, .ref p0), (1, .ref p1), (3, .int (f_X1_look p0_0 p0_3 p1_0 x2)), (4, .int (f_X0_registerAt p1_0 x2))]) hx hb dX1_read_58 hl (k := 4) rfl rfl (by decide) rfl (fun ls hl => ?_)
          refine lv_goto (tgt := 17) hx hb dX1_read_61 (by decide) ?_
          have j_11 : (1 : Int32).toInt = 1 := by decide
          try have j_12 : (x5_3 + (1 : Int32)).toInt = x5_3.toInt + (1 : Int32).toInt := fb_addI (by omega) (by omega)
          exact ih17 (x5_3 + (1 : Int32)) p0_0_3 Ω_5 H locs (by first | assumption | omega) h_p0 h_p1 hE hW hS ls (lv_sub hl [1, 2, 3, 4, 0] rfl) hR
        · rw [if_pos c_8] at hR
          have i_8 := congrArg Int32.toInt c_8
          refine lv_aload_n hx hb dX1_read_38 rfl (lv_at hl 0 rfl) ?_
          refine o_get hx hb hts hown hK hW (inDev_o h_p0) rfl ig1 3 (by decide) fl_X1_22 rfl dX1_read_39 ?_
          refine lv_iload hx hb dX1_read_42 (lv_at hl 4 rfl) ?_
          refine o_iald hx hb hK hW (inDev_a3 h_p0) (vp_in_iff.mpr ⟨by omega, by omega⟩) dX1_read_44 ?_
          refine lv_bipush (v := (6 : Int32)) hx hb dX1_read_45 (by decide) ?_
          have j_14 : (6 : Int32).toInt = 6 := by decide
          refine lv_icmp_ne (tgt := 58) hx hb dX1_read_47 (by decide) (fun c_13 => ?_) (fun c_13 => ?_)
          · rw [if_neg c_13] at hR
            have i_13 := rne c_13
            refine lv_iinc (v := (x5_3 + (1 : Int32))) (lv' := [(5, .int (x5_3 + (1 : Int32))), (0, .ref p0), (1, .ref p1), (3, .int (f_X1_look p0_0 p0_3 p1_0 x2)), (4, .int (f_X0_registerAt p1_0 x2))]) hx hb dX1_read_58 hl (k := 4) rfl rfl (by decide) rfl (fun ls hl => ?_)
            refine lv_goto (tgt := 17) hx hb dX1_read_61 (by decide) ?_
            have j_15 : (1 : Int32).toInt = 1 := by decide
            try have j_16 : (x5_3 + (1 : Int32)).toInt = x5_3.toInt + (1 : Int32).toInt := fb_addI (by omega) (by omega)
            exact ih17 (x5_3 + (1 : Int32)) p0_0_3 Ω_5 H locs (by first | assumption | omega) h_p0 h_p1 hE hW hS ls (lv_sub hl [1, 2, 3, 4, 0] rfl) hR
          · rw [if_pos c_13] at hR
            have i_13 := congrArg Int32.toInt c_13
            refine lv_aload_n hx hb dX1_read_50 rfl (lv_at hl 0 rfl) ?_
            refine lv_aload_n hx hb dX1_read_51 rfl (lv_at hl 1 rfl) ?_
            refine lv_iload hx hb dX1_read_52 (lv_at hl 4 rfl) ?_
            refine lv_iconst (v := (0 : Int32)) hx hb dX1_read_54 (by decide) ?_
            have j_17 : (0 : Int32).toInt = 0 := by decide
            refine o_Vv (rest := []) (As := [.ref p1, .int x5_3, .int (0 : Int32)]) (n := 3) hx hb hml hown hts hK hN hW hS hA (c_X1_putBits l G A Ω_5 p0 p1 p0_0_3 p0_1 p0_2 p0_3 p1_0 x5_3 (0 : Int32) (by omega) (by first | assumption | omega) (by first | assumption | omega) h_p0 h_p1) (inDev_o h_p0) rfl (good_V ml_X1_56 im_X1_putBits se_X1_putBits ini_X1 co_X1_putBits) (by decide +kernel) ⟨Nat.zero_le _, Nat.zero_le _⟩ hl.1 (Nat.le_of_ble_eq_true rfl) rfl rfl dX1_read_55 (fun Ω_18 H locs hp hW hS => ?_)
            obtain ⟨h_p0, hF_18⟩ := hp
            have h_p1 := h_p1.keep (fun q h1 h2 => hF_18 q (by omega))
            have hE : ∀ q : Nat, (q < p0 ∨ p0 + 5 ≤ q) → Ω_18 q = Ω q := fun q g0 => (hF_18 q (by omega)).trans (hE q g0)
            refine lv_iinc (v := (x5_3 + (1 : Int32))) (lv' := [(5, .int (x5_3 + (1 : Int32))), (0, .ref p0), (1, .ref p1), (3, .int (f_X1_look p0_0 p0_3 p1_0 x2)), (4, .int (f_X0_registerAt p1_0 x2))]) hx hb dX1_read_58 hl (k := 4) rfl rfl (by decide) rfl (fun ls hl => ?_)
            refine lv_goto (tgt := 17) hx hb dX1_read_61 (by decide) ?_
            have j_19 : (1 : Int32).toInt = 1 := by decide
            try have j_20 : (x5_3 + (1 : Int32)).toInt = x5_3.toInt + (1 : Int32).toInt := fb_addI (by omega) (by omega)
            exact ih17 (x5_3 + (1 : Int32)) (f_X1_putBits p0_0_3 p1_0 x5_3 (0 : Int32)) Ω_18 H locs (by first | assumption | omega) h_p0 h_p1 hE hW hS ls (lv_sub hl [1, 2, 3, 4, 0] rfl) hR
  have j_21 : (0 : Int32).toInt = 0 := by decide
  exact L17 4000 (0 : Int32) p0_0 Ω H locs (by first | assumption | omega) h_p0 h_p1 hE hW hS ls (lv_sub hl [3, 4, 2, 1, 0] rfl) hR
set_option maxHeartbeats 4000000 in
set_option maxRecDepth 100000 in
theorem c_X3_agreesWith (l : Launch) (G : Gm) (A : Nat → Prop) (Ω : Om) (p0 : Nat) (p1 : Nat) (p2 : Nat) (p0_0 : Int32) (p0_1 : Fn) (p0_2 : Fn) (p0_3 : Fn) (p1_0 : Fn) (p1_1 : Fn) (p1_2 : Fn) (p1_3 : Fn) (p2_0 : Blk) (hd_p0_p1 : p0 + 4 ≤ p1 ∨ p1 + 5 ≤ p0) (hd_p0_p2 : p0 + 4 ≤ p2 ∨ p2 + 13 ≤ p0) (hd_p1_p2 : p1 + 5 ≤ p2 ∨ p2 + 13 ≤ p1) (hJ_p0 : 0 ≤ p0_0.toInt ∧ p0_0.toInt ≤ 20) (hB_p2 : BlkInv p2_0) (h_p0 : inJou G Ω p0 p0_0 p0_1 p0_2 p0_3) (h_p1 : inDev G Ω p1 p1_0 p1_1 p1_2 p1_3) (h_p2 : inBlk G Ω p2 p2_0) : Met l yX3_agreesWith (wz yX3_agreesWith cX3_agreesWith 4 (some .boolean)) ({ frames := 5, cells := 0, slots := 0, locals := 114 } : Room) (va_Pc [.ref p0, .ref p1, .ref p2] (oS G A Ω)) (va_Qi (fun (r : Int32) (Ω1 : Om) => r = (f_X3_agreesWith p0_0 p0_1 p0_2 p0_3 p1_0 p1_1 p1_2 p1_3 p2_0).1 ∧ (r = 0 ∨ r = 1) ∧ inDev G Ω1 p1 ((f_X3_agreesWith p0_0 p0_1 p0_2 p0_3 p1_0 p1_1 p1_2 p1_3 p2_0).2.1) ((f_X3_agreesWith p0_0 p0_1 p0_2 p0_3 p1_0 p1_1 p1_2 p1_3 p2_0).2.2.1) ((f_X3_agreesWith p0_0 p0_1 p0_2 p0_3 p1_0 p1_1 p1_2 p1_3 p2_0).2.2.2) p1_3 ∧ (∀ q : Nat, (q < p1 ∨ p1 + 5 ≤ q) → Ω1 q = Ω q)) (oB G A) A) 0 0 A := by
  refine Met.ofW (cc := cX3_agreesWith) (maxL := 4) (ret := (some .boolean)) (by decide) rfl ?_
  intro p e s m args below meth c s₁ B hml hv
  obtain ⟨rfl, hW, hK, hN⟩ := hv
  have hx := B.exec
  have hb := B.bytes
  have hr := B.returns
  have hts : ∀ w ∈ gt, w.before _ s = true := fun w hw => atoms_spec (ws := wz yX3_agreesWith cX3_agreesWith 4 (some .boolean)) B.pre w (List.mem_cons_of_mem _ hw)
  have hown : s.vm.findClass RX3 = some m.cls := findClass_of_methodNamed B.named
  have hlocks := B.notSynchronized
  have hA : ∀ q, A q → A q := fun _ h => h
  have hS : va_S A s.heap s.heap [] := va_S.rf
  have hS0 := hS
  have hl := lv_entry ([.ref p0, .ref p1, .ref p2]) (n := 4) (Nat.le_of_ble_eq_true rfl)
  rw [lg_entry_eq]
  generalize (lg_sl ([.ref p0, .ref p1, .ref p2]) ++ List.replicate (4 - (lg_sl ([.ref p0, .ref p1, .ref p2])).length) Slot.unset).toArray = ls at hl ⊢
  have hl : lv_has ls 4 [(0, .ref p0), (1, .ref p1), (2, .ref p2)] := hl
  have hE : ∀ q : Nat, (q < p1 ∨ p1 + 5 ≤ q) → Ω q = Ω q := by intros; rfl
  generalize hR : (f_X3_agreesWith p0_0 p0_1 p0_2 p0_3 p1_0 p1_1 p1_2 p1_3 p2_0) = R
  rw [f_X3_agreesWith] at hR
  refine lv_iconst (v := (0 : Int32)) hx hb dX3_agreesWith_0 (by decide) ?_
  refine lv_istore_n (lv' := [(3, .int (0 : Int32)), (0, .ref p0), (1, .ref p1), (2, .ref p2)]) hx hb dX3_agreesWith_1 rfl hl (by decide) rfl (fun ls hl => ?_)
  have L2 : ∀ (n_2 : Nat) (x3_1 : Int32) (p1_0_1 : Fn) (p1_1_1 : Fn) (p1_2_1 : Fn) (Ω_3 : Om) (H : Heap) (locs : List Loc), (0 ≤ x3_1.toInt ∧ x3_1.toInt ≤ 20 ∧ 20 - x3_1.toInt < n_2) → inJou G Ω_3 p0 p0_0 p0_1 p0_2 p0_3 → inDev G Ω_3 p1 p1_0_1 p1_1_1 p1_2_1 p1_3 → inBlk G Ω_3 p2 p2_0 → (∀ q : Nat, (q < p1 ∨ p1 + 5 ≤ q) → Ω_3 q = Ω q) → oW G A Ω_3 H → va_S A s.heap H locs → ∀ ls : Array Slot, lv_has ls 4 [(0, .ref p0), (1, .ref p1), (2, .ref p2), (3, .int x3_1)] → (f_X3_agreesWith_L2 p0_0 p0_1 p0_2 p0_3 p1_3 p2_0 n_2 x3_1 p1_0_1 p1_1_1 p1_2_1) = R → W p l e (headSpec (wz yX3_agreesWith cX3_agreesWith 4 (some .boolean)) ({ frames := 5, cells := 0, slots := 0, locals := 114 } : Room)).room s m ([.ref p0, .ref p1, .ref p2] : List Value).toArray below meth c H locs 0 0 (MQ below (va_Qi (fun (r : Int32) (Ω1 : Om) => r = R.1 ∧ (r = 0 ∨ r = 1) ∧ inDev G Ω1 p1 (R.2.1) (R.2.2.1) (R.2.2.2) p1_3 ∧ (∀ q : Nat, (q < p1 ∨ p1 + 5 ≤ q) → Ω1 q = Ω q)) (oB G A) A) ([.ref p0, .ref p1, .ref p2] : List Value).toArray s 0 0 A) (F0 m 2 ls []) := by
    intro n_2
    induction n_2 with
    | zero =>
      intro x3_1 p1_0_1 p1_1_1 p1_2_1 Ω_3 H locs v_2_0 h_p0 h_p1 h_p2 hE hW hS ls hl hR
      exfalso
      omega
    | succ n_2 ih2 =>
      intro x3_1 p1_0_1 p1_1_1 p1_2_1 Ω_3 H locs v_2_0 h_p0 h_p1 h_p2 hE hW hS ls hl hR
      rw [f_X3_agreesWith_L2] at hR
      refine lv_iload_n hx hb dX3_agreesWith_2 rfl (lv_at hl 3 rfl) ?_
      refine lv_aload_n hx hb dX3_agreesWith_3 rfl (lv_at hl 0 rfl) ?_
      refine o_get hx hb hts hown hK hW (inJou_o h_p0) rfl ig3 0 (by decide) fl_X3_22 rfl dX3_agreesWith_4 ?_
      refine lv_icmp_ge (tgt := 67) hx hb dX3_agreesWith_7 (by decide) (fun c_4 => ?_) (fun c_4 => ?_)
      · rw [if_pos c_4] at hR
        have i_4 := rle c_4
        refine lv_iconst (v := (1 : Int32)) hx hb dX3_agreesWith_67 (by decide) ?_
        subst hR
        exact W.zret (v := (1 : Int32)) hx hb hr (nb01 (Or.inr rfl)) (fun t ht hW9 => ⟨⟨(1 : Int32), Ω_3, rfl, ⟨rfl, (Or.inr rfl), h_p1, hE⟩, by rw [oB, ht]; exact hW⟩, hS.F ht⟩) hS.2.2 dX3_agreesWith_68
      · rw [if_neg c_4] at hR
        have i_4 := rnle c_4
        refine lv_aload_n hx hb dX3_agreesWith_10 rfl (lv_at hl 0 rfl) ?_
        refine o_get hx hb hts hown hK hW (inJou_o h_p0) rfl ig3 2 (by decide) fl_X3_15 rfl dX3_agreesWith_11 ?_
        refine lv_iload_n hx hb dX3_agreesWith_14 rfl (lv_at hl 3 rfl) ?_
        refine o_zald hx hb hK hW (inJou_a1 h_p0) (vp_in_iff.mpr ⟨by omega, by omega⟩) dX3_agreesWith_15 ?_
        have j_6 : (0 : Int32).toInt = 0 := by decide
        refine lv_if_eq (tgt := 39) hx hb dX3_agreesWith_16 (by decide) (fun c_5 => ?_) (fun c_5 => ?_)
        · rw [if_pos c_5] at hR
          have i_5 := congrArg Int32.toInt c_5
          refine lv_aload_n hx hb dX3_agreesWith_39 rfl (lv_at hl 1 rfl) ?_
          refine lv_aload_n hx hb dX3_agreesWith_40 rfl (lv_at hl 2 rfl) ?_
          refine lv_aload_n hx hb dX3_agreesWith_41 rfl (lv_at hl 0 rfl) ?_
          refine o_get hx hb hts hown hK hW (inJou_o h_p0) rfl ig3 1 (by decide) fl_X3_9 rfl dX3_agreesWith_42 ?_
          refine lv_iload_n hx hb dX3_agreesWith_45 rfl (lv_at hl 3 rfl) ?_
          refine o_iald hx hb hK hW (inJou_a0 h_p0) (vp_in_iff.mpr ⟨by omega, by omega⟩) dX3_agreesWith_46 ?_
          refine o_Vi (rest := []) (As := [.ref p2, .int (p0_1 x3_1.toNatClampNeg)]) (n := 2) hx hb hml hown hts hK hN hW hS hA (c_X1_read l G A Ω_3 p1 p2 p1_0_1 p1_1_1 p1_2_1 p1_3 p2_0 (p0_1 x3_1.toNatClampNeg) (by omega) (by first | assumption | omega) h_p1 h_p2) (inDev_o h_p1) rfl (good_V ml_X3_32 im_X1_read se_X1_read ini_X1 co_X1_read) (by decide +kernel) ⟨Nat.zero_le _, Nat.zero_le _⟩ hl.1 (Nat.le_of_ble_eq_true rfl) rfl rfl dX3_agreesWith_47 (fun r Ω_7 H locs hp hW hS => ?_)
          obtain ⟨rfl, h_p1, hF_7⟩ := hp
          have h_p0 := h_p0.keep (fun q h1 h2 => hF_7 q (by omega))
          have h_p2 := h_p2.keep (fun q h1 h2 => hF_7 q (by omega))
          have hE : ∀ q : Nat, (q < p1 ∨ p1 + 5 ≤ q) → Ω_7 q = Ω q := fun q g0 => (hF_7 q (by omega)).trans (hE q g0)
          generalize (f_X1_read p1_0_1 p1_3 p2_0 (p0_1 x3_1.toNatClampNeg)) = Z_7 at h_p1 hR ⊢
          obtain ⟨z7_0, z7_1⟩ := Z_7
          dsimp only at h_p1 hR ⊢
          rw [f_X3_agreesWith_C50] at hR
          refine lv_aload_n hx hb dX3_agreesWith_50 rfl (lv_at hl 0 rfl) ?_
          refine o_get hx hb hts hown hK hW (inJou_o h_p0) rfl ig3 3 (by decide) fl_X3_19 rfl dX3_agreesWith_51 ?_
          refine lv_iload_n hx hb dX3_agreesWith_54 rfl (lv_at hl 3 rfl) ?_
          refine o_iald hx hb hK hW (inJou_a2 h_p0) (vp_in_iff.mpr ⟨by omega, by omega⟩) dX3_agreesWith_55 ?_
          refine lv_icmp_eq (tgt := 61) hx hb dX3_agreesWith_56 (by decide) (fun c_8 => ?_) (fun c_8 => ?_)
          · rw [if_pos c_8] at hR
            have i_8 := congrArg Int32.toInt c_8
            refine lv_iinc (v := (x3_1 + (1 : Int32))) (lv' := [(3, .int (x3_1 + (1 : Int32))), (0, .ref p0), (1, .ref p1), (2, .ref p2)]) hx hb dX3_agreesWith_61 hl (k := 3) rfl rfl (by decide) rfl (fun ls hl => ?_)
            refine lv_goto (tgt := 2) hx hb dX3_agreesWith_64 (by decide) ?_
            have j_9 : (1 : Int32).toInt = 1 := by decide
            try have j_10 : (x3_1 + (1 : Int32)).toInt = x3_1.toInt + (1 : Int32).toInt := fb_addI (by omega) (by omega)
            exact ih2 (x3_1 + (1 : Int32)) z7_1 p1_1_1 p1_2_1 Ω_7 H locs (by first | assumption | omega) h_p0 h_p1 h_p2 hE hW hS ls (lv_sub hl [1, 2, 3, 0] rfl) hR
          · rw [if_neg c_8] at hR
            have i_8 := rne c_8
            refine lv_iconst (v := (0 : Int32)) hx hb dX3_agreesWith_59 (by decide) ?_
            subst hR
            exact W.zret (v := (0 : Int32)) hx hb hr (nb01 (Or.inl rfl)) (fun t ht hW9 => ⟨⟨(0 : Int32), Ω_7, rfl, ⟨rfl, (Or.inl rfl), h_p1, hE⟩, by rw [oB, ht]; exact hW⟩, hS.F ht⟩) hS.2.2 dX3_agreesWith_60
        · rw [if_neg c_5] at hR
          have i_5 := rne c_5
          refine lv_aload_n hx hb dX3_agreesWith_19 rfl (lv_at hl 1 rfl) ?_
          refine lv_aload_n hx hb dX3_agreesWith_20 rfl (lv_at hl 2 rfl) ?_
          refine lv_aload_n hx hb dX3_agreesWith_21 rfl (lv_at hl 0 rfl) ?_
          refine o_get hx hb hts hown hK hW (inJou_o h_p0) rfl ig3 1 (by decide) fl_X3_9 rfl dX3_agreesWith_22 ?_
          refine lv_iload_n hx hb dX3_agreesWith_25 rfl (lv_at hl 3 rfl) ?_
          refine o_iald hx hb hK hW (inJou_a0 h_p0) (vp_in_iff.mpr ⟨by omega, by omega⟩) dX3_agreesWith_26 ?_
          refine lv_aload_n hx hb dX3_agreesWith_27 rfl (lv_at hl 0 rfl) ?_
          refine o_get hx hb hts hown hK hW (inJou_o h_p0) rfl ig3 3 (by decide) fl_X3_19 rfl dX3_agreesWith_28 ?_
          refine lv_iload_n hx hb dX3_agreesWith_31 rfl (lv_at hl 3 rfl) ?_
          refine o_iald hx hb hK hW (inJou_a2 h_p0) (vp_in_iff.mpr ⟨by omega, by omega⟩) dX3_agreesWith_32 ?_
          refine o_Vv (rest := []) (As := [.ref p2, .int (p0_1 x3_1.toNatClampNeg), .int (p0_3 x3_1.toNatClampNeg)]) (n := 3) hx hb hml hown hts hK hN hW hS hA (c_X1_write l G A Ω_3 p1 p2 p1_0_1 p1_1_1 p1_2_1 p1_3 p2_0 (p0_1 x3_1.toNatClampNeg) (p0_3 x3_1.toNatClampNeg) (by omega) (by first | assumption | omega) h_p1 h_p2) (inDev_o h_p1) rfl (good_V ml_X3_26 im_X1_write se_X1_write ini_X1 co_X1_write) (by decide +kernel) ⟨Nat.zero_le _, Nat.zero_le _⟩ hl.1 (Nat.le_of_ble_eq_true rfl) rfl rfl dX3_agreesWith_33 (fun Ω_11 H locs hp hW hS => ?_)
          obtain ⟨h_p1, hF_11⟩ := hp
          have h_p0 := h_p0.keep (fun q h1 h2 => hF_11 q (by omega))
          have h_p2 := h_p2.keep (fun q h1 h2 => hF_11 q (by omega))
          have hE : ∀ q : Nat, (q < p1 ∨ p1 + 5 ≤ q) → Ω_11 q = Ω q := fun q g0 => (hF_11 q (by omega)).trans (hE q g0)
          generalize (f_X1_write p1_0_1 p1_1_1 p1_2_1 p1_3 p2_0 (p0_1 x3_1.toNatClampNeg) (p0_3 x3_1.toNatClampNeg)) = Z_11 at h_p1 hR
          obtain ⟨z11_0, z11_1, z11_2⟩ := Z_11
          dsimp only at h_p1 hR
          rw [f_X3_agreesWith_C36] at hR
          refine lv_goto (tgt := 61) hx hb dX3_agreesWith_36 (by decide) ?_
          refine lv_iinc (v := (x3_1 + (1 : Int32))) (lv' := [(3, .int (x3_1 + (1 : Int32))), (0, .ref p0), (1, .ref p1), (2, .ref p2)]) hx hb dX3_agreesWith_61 hl (k := 3) rfl rfl (by decide) rfl (fun ls hl => ?_)
          refine lv_goto (tgt := 2) hx hb dX3_agreesWith_64 (by decide) ?_
          have j_12 : (1 : Int32).toInt = 1 := by decide
          try have j_13 : (x3_1 + (1 : Int32)).toInt = x3_1.toInt + (1 : Int32).toInt := fb_addI (by omega) (by omega)
          exact ih2 (x3_1 + (1 : Int32)) z11_0 z11_1 z11_2 Ω_11 H locs (by first | assumption | omega) h_p0 h_p1 h_p2 hE hW hS ls (lv_sub hl [1, 2, 3, 0] rfl) hR
  have j_14 : (0 : Int32).toInt = 0 := by decide
  exact L2 4000 (0 : Int32) p1_0 p1_1 p1_2 Ω s.heap [] (by first | assumption | omega) h_p0 h_p1 h_p2 hE hW hS ls (lv_sub hl [1, 2, 3, 0] rfl) hR
set_option maxHeartbeats 4000000 in
set_option maxRecDepth 100000 in
theorem c_X0_holdersOf (l : Launch) (G : Gm) (A : Nat → Prop) (Ω : Om) (p0 : Nat) (p0_0 : Blk) (x1 : Int32) (hB_p0 : BlkInv p0_0) (h_p0 : inBlk G Ω p0 p0_0) : Met l yX0_holdersOf (wz yX0_holdersOf cX0_holdersOf 4 (some .int)) ({ frames := 0, cells := 0, slots := 0, locals := 0 } : Room) (va_Pc [.ref p0, .int x1] (oS G A Ω)) (va_Qi (fun (r : Int32) (Ω1 : Om) => r = (f_X0_holdersOf p0_0 x1) ∧ Ω1 = Ω) (oB G A) A) 0 0 A := by
  refine Met.ofW (cc := cX0_holdersOf) (maxL := 4) (ret := (some .int)) (by decide) rfl ?_
  intro p e s m args below meth c s₁ B hml hv
  obtain ⟨rfl, hW, hK, hN⟩ := hv
  have hx := B.exec
  have hb := B.bytes
  have hr := B.returns
  have hts : ∀ w ∈ gt, w.before _ s = true := fun w hw => atoms_spec (ws := wz yX0_holdersOf cX0_holdersOf 4 (some .int)) B.pre w (List.mem_cons_of_mem _ hw)
  have hown : s.vm.findClass RX0 = some m.cls := findClass_of_methodNamed B.named
  have hlocks := B.notSynchronized
  have hA : ∀ q, A q → A q := fun _ h => h
  have hS : va_S A s.heap s.heap [] := va_S.rf
  have hS0 := hS
  have hl := lv_entry ([.ref p0, .int x1]) (n := 4) (Nat.le_of_ble_eq_true rfl)
  rw [lg_entry_eq]
  generalize (lg_sl ([.ref p0, .int x1]) ++ List.replicate (4 - (lg_sl ([.ref p0, .int x1])).length) Slot.unset).toArray = ls at hl ⊢
  have hl : lv_has ls 4 [(0, .ref p0), (1, .int x1)] := hl
  generalize hR : (f_X0_holdersOf p0_0 x1) = R
  rw [f_X0_holdersOf] at hR
  refine lv_iconst (v := (0 : Int32)) hx hb dX0_holdersOf_0 (by decide) ?_
  refine lv_istore_n (lv' := [(2, .int (0 : Int32)), (0, .ref p0), (1, .int x1)]) hx hb dX0_holdersOf_1 rfl hl (by decide) rfl (fun ls hl => ?_)
  refine lv_iconst (v := (0 : Int32)) hx hb dX0_holdersOf_2 (by decide) ?_
  refine lv_istore_n (lv' := [(3, .int (0 : Int32)), (2, .int (0 : Int32)), (0, .ref p0), (1, .int x1)]) hx hb dX0_holdersOf_3 rfl hl (by decide) rfl (fun ls hl => ?_)
  have L4 : ∀ (n_2 : Nat) (x2_1 : Int32) (x3_1 : Int32) (H : Heap) (locs : List Loc), (0 ≤ x3_1.toInt ∧ x3_1.toInt ≤ 6 ∧ 6 - x3_1.toInt < n_2) → oW G A Ω H → va_S A s.heap H locs → ∀ ls : Array Slot, lv_has ls 4 [(0, .ref p0), (1, .int x1), (2, .int x2_1), (3, .int x3_1)] → (f_X0_holdersOf_L4 p0_0 x1 n_2 x2_1 x3_1) = R → W p l e (headSpec (wz yX0_holdersOf cX0_holdersOf 4 (some .int)) ({ frames := 0, cells := 0, slots := 0, locals := 0 } : Room)).room s m ([.ref p0, .int x1] : List Value).toArray below meth c H locs 0 0 (MQ below (va_Qi (fun (r : Int32) (Ω1 : Om) => r = R ∧ Ω1 = Ω) (oB G A) A) ([.ref p0, .int x1] : List Value).toArray s 0 0 A) (F0 m 4 ls []) := by
    intro n_2
    induction n_2 with
    | zero =>
      intro x2_1 x3_1 H locs v_4_0 hW hS ls hl hR
      exfalso
      omega
    | succ n_2 ih4 =>
      intro x2_1 x3_1 H locs v_4_0 hW hS ls hl hR
      rw [f_X0_holdersOf_L4] at hR
      refine lv_iload_n hx hb dX0_holdersOf_4 rfl (lv_at hl 3 rfl) ?_
      refine lv_aload_n hx hb dX0_holdersOf_5 rfl (lv_at hl 0 rfl) ?_
      refine o_get hx hb hts hown hK hW (inBlk_o h_p0) rfl ig0 0 (by decide) fl_X0_48 rfl dX0_holdersOf_6 ?_
      try have j_4 : 0 ≤ (p0_0 0 0).toInt ∧ (p0_0 0 0).toInt ≤ 6 := BI_regs (by assumption)
      refine lv_icmp_ge (tgt := 31) hx hb dX0_holdersOf_9 (by decide) (fun c_3 => ?_) (fun c_3 => ?_)
      · rw [if_pos c_3] at hR
        have i_3 := rle c_3
        refine lv_iconst (v := (0 : Int32)) hx hb dX0_holdersOf_31 (by decide) ?_
        refine lv_istore_n (lv' := [(3, .int (0 : Int32)), (0, .ref p0), (1, .int x1), (2, .int x2_1)]) hx hb dX0_holdersOf_32 rfl hl (by decide) rfl (fun ls hl => ?_)
        have L33 : ∀ (n_6 : Nat) (x2_5 : Int32) (x3_5 : Int32) (H : Heap) (locs : List Loc), (0 ≤ x3_5.toInt ∧ x3_5.toInt ≤ 4 ∧ 4 - x3_5.toInt < n_6) → oW G A Ω H → va_S A s.heap H locs → ∀ ls : Array Slot, lv_has ls 4 [(0, .ref p0), (1, .int x1), (2, .int x2_5), (3, .int x3_5)] → (f_X0_holdersOf_L33 p0_0 x1 n_6 x2_5 x3_5) = R → W p l e (headSpec (wz yX0_holdersOf cX0_holdersOf 4 (some .int)) ({ frames := 0, cells := 0, slots := 0, locals := 0 } : Room)).room s m ([.ref p0, .int x1] : List Value).toArray below meth c H locs 0 0 (MQ below (va_Qi (fun (r : Int32) (Ω1 : Om) => r = R ∧ Ω1 = Ω) (oB G A) A) ([.ref p0, .int x1] : List Value).toArray s 0 0 A) (F0 m 33 ls []) := by
          intro n_6
          induction n_6 with
          | zero =>
            intro x2_5 x3_5 H locs v_33_0 hW hS ls hl hR
            exfalso
            omega
          | succ n_6 ih33 =>
            intro x2_5 x3_5 H locs v_33_0 hW hS ls hl hR
            rw [f_X0_holdersOf_L33] at hR
            refine lv_iload_n hx hb dX0_holdersOf_33 rfl (lv_at hl 3 rfl) ?_
            refine lv_aload_n hx hb dX0_holdersOf_34 rfl (lv_at hl 0 rfl) ?_
            refine o_get hx hb hts hown hK hW (inBlk_o h_p0) rfl ig0 2 (by decide) fl_X0_55 rfl dX0_holdersOf_35 ?_
            try have j_8 : 0 ≤ (p0_0 0 2).toInt ∧ (p0_0 0 2).toInt ≤ 4 := BI_als (by assumption)
            refine lv_icmp_ge (tgt := 60) hx hb dX0_holdersOf_38 (by decide) (fun c_7 => ?_) (fun c_7 => ?_)
            · rw [if_pos c_7] at hR
              have i_7 := rle c_7
              refine lv_iload_n hx hb dX0_holdersOf_60 rfl (lv_at hl 2 rfl) ?_
              subst hR
              exact W.iret (v := x2_5) hx hb hr (fun t ht hW9 => ⟨⟨x2_5, Ω, rfl, ⟨rfl, rfl⟩, by rw [oB, ht]; exact hW⟩, hS.F ht⟩) hS.2.2 dX0_holdersOf_61
            · rw [if_neg c_7] at hR
              have i_7 := rnle c_7
              refine lv_aload_n hx hb dX0_holdersOf_41 rfl (lv_at hl 0 rfl) ?_
              refine o_get hx hb hts hown hK hW (inBlk_o h_p0) rfl ig0 12 (by decide) fl_X0_39 rfl dX0_holdersOf_42 ?_
              refine lv_iload_n hx hb dX0_holdersOf_45 rfl (lv_at hl 3 rfl) ?_
              refine o_iald hx hb hK hW (inBlk_a9 h_p0) (vp_in_iff.mpr ⟨by omega, by omega⟩) dX0_holdersOf_46 ?_
              refine lv_iload_n hx hb dX0_holdersOf_47 rfl (lv_at hl 1 rfl) ?_
              refine lv_icmp_ne (tgt := 54) hx hb dX0_holdersOf_48 (by decide) (fun c_9 => ?_) (fun c_9 => ?_)
              · rw [if_neg c_9] at hR
                have i_9 := rne c_9
                refine lv_iinc (v := (x3_5 + (1 : Int32))) (lv' := [(3, .int (x3_5 + (1 : Int32))), (0, .ref p0), (1, .int x1), (2, .int x2_5)]) hx hb dX0_holdersOf_54 hl (k := 3) rfl rfl (by decide) rfl (fun ls hl => ?_)
                refine lv_goto (tgt := 33) hx hb dX0_holdersOf_57 (by decide) ?_
                have j_10 : (1 : Int32).toInt = 1 := by decide
                try have j_11 : (x3_5 + (1 : Int32)).toInt = x3_5.toInt + (1 : Int32).toInt := fb_addI (by omega) (by omega)
                exact ih33 x2_5 (x3_5 + (1 : Int32)) H locs (by first | assumption | omega) hW hS ls (lv_sub hl [1, 2, 3, 0] rfl) hR
              · rw [if_pos c_9] at hR
                have i_9 := congrArg Int32.toInt c_9
                refine lv_iinc (v := (x2_5 + (1 : Int32))) (lv' := [(2, .int (x2_5 + (1 : Int32))), (0, .ref p0), (1, .int x1), (3, .int x3_5)]) hx hb dX0_holdersOf_51 hl (k := 2) rfl rfl (by decide) rfl (fun ls hl => ?_)
                refine lv_iinc (v := (x3_5 + (1 : Int32))) (lv' := [(3, .int (x3_5 + (1 : Int32))), (2, .int (x2_5 + (1 : Int32))), (0, .ref p0), (1, .int x1)]) hx hb dX0_holdersOf_54 hl (k := 3) rfl rfl (by decide) rfl (fun ls hl => ?_)
                refine lv_goto (tgt := 33) hx hb dX0_holdersOf_57 (by decide) ?_
                have j_12 : (1 : Int32).toInt = 1 := by decide
                try have j_13 : (x2_5 + (1 : Int32)).toInt = x2_5.toInt + (1 : Int32).toInt := fb_addI (by omega) (by omega)
                try have j_14 : (x3_5 + (1 : Int32)).toInt = x3_5.toInt + (1 : Int32).toInt := fb_addI (by omega) (by omega)
                exact ih33 (x2_5 + (1 : Int32)) (x3_5 + (1 : Int32)) H locs (by first | assumption | omega) hW hS ls (lv_sub hl [2, 3, 1, 0] rfl) hR
        have j_15 : (0 : Int32).toInt = 0 := by decide
        exact L33 4000 x2_1 (0 : Int32) H locs (by first | assumption | omega) hW hS ls (lv_sub hl [1, 2, 3, 0] rfl) hR
      · rw [if_neg c_3] at hR
        have i_3 := rnle c_3
        refine lv_aload_n hx hb dX0_holdersOf_12 rfl (lv_at hl 0 rfl) ?_
        refine o_get hx hb hts hown hK hW (inBlk_o h_p0) rfl ig0 3 (by decide) fl_X0_9 rfl dX0_holdersOf_13 ?_
        refine lv_iload_n hx hb dX0_holdersOf_16 rfl (lv_at hl 3 rfl) ?_
        refine o_iald hx hb hK hW (inBlk_a0 h_p0) (vp_in_iff.mpr ⟨by omega, by omega⟩) dX0_holdersOf_17 ?_
        refine lv_iload_n hx hb dX0_holdersOf_18 rfl (lv_at hl 1 rfl) ?_
        refine lv_icmp_ne (tgt := 25) hx hb dX0_holdersOf_19 (by decide) (fun c_16 => ?_) (fun c_16 => ?_)
        · rw [if_neg c_16] at hR
          have i_16 := rne c_16
          refine lv_iinc (v := (x3_1 + (1 : Int32))) (lv' := [(3, .int (x3_1 + (1 : Int32))), (0, .ref p0), (1, .int x1), (2, .int x2_1)]) hx hb dX0_holdersOf_25 hl (k := 3) rfl rfl (by decide) rfl (fun ls hl => ?_)
          refine lv_goto (tgt := 4) hx hb dX0_holdersOf_28 (by decide) ?_
          have j_17 : (1 : Int32).toInt = 1 := by decide
          try have j_18 : (x3_1 + (1 : Int32)).toInt = x3_1.toInt + (1 : Int32).toInt := fb_addI (by omega) (by omega)
          exact ih4 x2_1 (x3_1 + (1 : Int32)) H locs (by first | assumption | omega) hW hS ls (lv_sub hl [1, 2, 3, 0] rfl) hR
        · rw [if_pos c_16] at hR
          have i_16 := congrArg Int32.toInt c_16
          refine lv_iinc (v := (x2_1 + (1 : Int32))) (lv' := [(2, .int (x2_1 + (1 : Int32))), (0, .ref p0), (1, .int x1), (3, .int x3_1)]) hx hb dX0_holdersOf_22 hl (k := 2) rfl rfl (by decide) rfl (fun ls hl => ?_)
          refine lv_iinc (v := (x3_1 + (1 : Int32))) (lv' := [(3, .int (x3_1 + (1 : Int32))), (2, .int (x2_1 + (1 : Int32))), (0, .ref p0), (1, .int x1)]) hx hb dX0_holdersOf_25 hl (k := 3) rfl rfl (by decide) rfl (fun ls hl => ?_)
          refine lv_goto (tgt := 4) hx hb dX0_holdersOf_28 (by decide) ?_
          have j_19 : (1 : Int32).toInt = 1 := by decide
          try have j_20 : (x2_1 + (1 : Int32)).toInt = x2_1.toInt + (1 : Int32).toInt := fb_addI (by omega) (by omega)
          try have j_21 : (x3_1 + (1 : Int32)).toInt = x3_1.toInt + (1 : Int32).toInt := fb_addI (by omega) (by omega)
          exact ih4 (x2_1 + (1 : Int32)) (x3_1 + (1 : Int32)) H locs (by first | assumption | omega) hW hS ls (lv_sub hl [2, 3, 1, 0] rfl) hR
  have j_22 : (0 : Int32).toInt = 0 := by decide
  exact L4 4000 (0 : Int32) (0 : Int32) s.heap [] (by first | assumption | omega) hW hS ls (lv_sub hl [2, 3, 1, 0] rfl) hR
set_option maxHeartbeats 4000000 in
set_option maxRecDepth 100000 in
theorem c_X1_copyFrom (l : Launch) (G : Gm) (A : Nat → Prop) (Ω : Om) (p0 : Nat) (p1 : Nat) (p0_0 : Fn) (p0_1 : Fn) (p0_2 : Fn) (p0_3 : Fn) (p1_0 : Fn) (p1_1 : Fn) (p1_2 : Fn) (p1_3 : Fn) (hd_p0_p1 : p0 + 5 ≤ p1 ∨ p1 + 5 ≤ p0) (h_p0 : inDev G Ω p0 p0_0 p0_1 p0_2 p0_3) (h_p1 : inDev G Ω p1 p1_0 p1_1 p1_2 p1_3) : Met l yX1_copyFrom (wz yX1_copyFrom cX1_copyFrom 3 none) ({ frames := 1, cells := 0, slots := 0, locals := 60 } : Room) (va_Pc [.ref p0, .ref p1] (oS G A Ω)) (va_Qv (fun (Ω1 : Om) => inDev G Ω1 p0 ((f_X1_copyFrom p0_0 p0_1 p0_2 p0_3 p1_0 p1_1 p1_2 p1_3).1) ((f_X1_copyFrom p0_0 p0_1 p0_2 p0_3 p1_0 p1_1 p1_2 p1_3).2.1) ((f_X1_copyFrom p0_0 p0_1 p0_2 p0_3 p1_0 p1_1 p1_2 p1_3).2.2.1) ((f_X1_copyFrom p0_0 p0_1 p0_2 p0_3 p1_0 p1_1 p1_2 p1_3).2.2.2) ∧ (∀ q : Nat, (q < p0 ∨ p0 + 5 ≤ q) → Ω1 q = Ω q)) (oB G A) A) 0 0 A := by
  refine Met.ofW (cc := cX1_copyFrom) (maxL := 3) (ret := none) (by decide) rfl ?_
  intro p e s m args below meth c s₁ B hml hv
  obtain ⟨rfl, hW, hK, hN⟩ := hv
  have hx := B.exec
  have hb := B.bytes
  have hr := B.returns
  have hts : ∀ w ∈ gt, w.before _ s = true := fun w hw => atoms_spec (ws := wz yX1_copyFrom cX1_copyFrom 3 none) B.pre w (List.mem_cons_of_mem _ hw)
  have hown : s.vm.findClass RX1 = some m.cls := findClass_of_methodNamed B.named
  have hlocks := B.notSynchronized
  have hA : ∀ q, A q → A q := fun _ h => h
  have hS : va_S A s.heap s.heap [] := va_S.rf
  have hS0 := hS
  have hl := lv_entry ([.ref p0, .ref p1]) (n := 3) (Nat.le_of_ble_eq_true rfl)
  rw [lg_entry_eq]
  generalize (lg_sl ([.ref p0, .ref p1]) ++ List.replicate (3 - (lg_sl ([.ref p0, .ref p1])).length) Slot.unset).toArray = ls at hl ⊢
  have hl : lv_has ls 3 [(0, .ref p0), (1, .ref p1)] := hl
  have hE : ∀ q : Nat, (q < p0 ∨ p0 + 5 ≤ q) → Ω q = Ω q := by intros; rfl
  generalize hR : (f_X1_copyFrom p0_0 p0_1 p0_2 p0_3 p1_0 p1_1 p1_2 p1_3) = R
  rw [f_X1_copyFrom] at hR
  refine lv_iconst (v := (0 : Int32)) hx hb dX1_copyFrom_0 (by decide) ?_
  refine lv_istore_n (lv' := [(2, .int (0 : Int32)), (0, .ref p0), (1, .ref p1)]) hx hb dX1_copyFrom_1 rfl hl (by decide) rfl (fun ls hl => ?_)
  have L2 : ∀ (n_2 : Nat) (x2_1 : Int32) (p0_0_1 : Fn) (p0_1_1 : Fn) (p0_2_1 : Fn) (Ω_3 : Om) (H : Heap) (locs : List Loc), (0 ≤ x2_1.toInt ∧ x2_1.toInt ≤ 6 ∧ 6 - x2_1.toInt < n_2) → inDev G Ω_3 p0 p0_0_1 p0_1_1 p0_2_1 p0_3 → inDev G Ω_3 p1 p1_0 p1_1 p1_2 p1_3 → (∀ q : Nat, (q < p0 ∨ p0 + 5 ≤ q) → Ω_3 q = Ω q) → oW G A Ω_3 H → va_S A s.heap H locs → ∀ ls : Array Slot, lv_has ls 3 [(0, .ref p0), (1, .ref p1), (2, .int x2_1)] → (f_X1_copyFrom_L2 p0_3 p1_0 p1_1 p1_2 p1_3 n_2 x2_1 p0_0_1 p0_1_1 p0_2_1) = R → W p l e (headSpec (wz yX1_copyFrom cX1_copyFrom 3 none) ({ frames := 1, cells := 0, slots := 0, locals := 60 } : Room)).room s m ([.ref p0, .ref p1] : List Value).toArray below meth c H locs 0 0 (MQ below (va_Qv (fun (Ω1 : Om) => inDev G Ω1 p0 (R.1) (R.2.1) (R.2.2.1) (R.2.2.2) ∧ (∀ q : Nat, (q < p0 ∨ p0 + 5 ≤ q) → Ω1 q = Ω q)) (oB G A) A) ([.ref p0, .ref p1] : List Value).toArray s 0 0 A) (F0 m 2 ls []) := by
    intro n_2
    induction n_2 with
    | zero =>
      intro x2_1 p0_0_1 p0_1_1 p0_2_1 Ω_3 H locs v_2_0 h_p0 h_p1 hE hW hS ls hl hR
      exfalso
      omega
    | succ n_2 ih2 =>
      intro x2_1 p0_0_1 p0_1_1 p0_2_1 Ω_3 H locs v_2_0 h_p0 h_p1 hE hW hS ls hl hR
      rw [f_X1_copyFrom_L2] at hR
      refine lv_iload_n hx hb dX1_copyFrom_2 rfl (lv_at hl 2 rfl) ?_
      refine lv_bipush (v := (6 : Int32)) hx hb dX1_copyFrom_3 (by decide) ?_
      have j_5 : (6 : Int32).toInt = 6 := by decide
      refine lv_icmp_ge (tgt := 50) hx hb dX1_copyFrom_5 (by decide) (fun c_4 => ?_) (fun c_4 => ?_)
      · rw [if_pos c_4] at hR
        have i_4 := rle c_4
        refine lv_aload_n hx hb dX1_copyFrom_50 rfl (lv_at hl 1 rfl) ?_
        refine o_get hx hb hts hown hK hW (inDev_o h_p1) rfl ig1 3 (by decide) fl_X1_22 rfl dX1_copyFrom_51 ?_
        refine lv_iconst (v := (0 : Int32)) hx hb dX1_copyFrom_54 (by decide) ?_
        refine lv_aload_n hx hb dX1_copyFrom_55 rfl (lv_at hl 0 rfl) ?_
        refine o_get hx hb hts hown hK hW (inDev_o h_p0) rfl ig1 3 (by decide) fl_X1_22 rfl dX1_copyFrom_56 ?_
        refine lv_iconst (v := (0 : Int32)) hx hb dX1_copyFrom_59 (by decide) ?_
        refine lv_bipush (v := (12 : Int32)) hx hb dX1_copyFrom_60 (by decide) ?_
        refine wcDev_3 hx hb (hml.trans hl.1.symm) hown hts ma_X1_25 hK hW hS hA (inDev_a3 h_p1) (by decide) h_p0 (Nat.le_of_ble_eq_true rfl) (Nat.le_of_ble_eq_true rfl) dX1_copyFrom_62 (fun Ω_6 H locs h_p0 hF_6 hW hS => ?_)
        have h_p1 := h_p1.keep (fun q h1 h2 => hF_6 q (by omega))
        have hE : ∀ q : Nat, (q < p0 ∨ p0 + 5 ≤ q) → Ω_6 q = Ω q := fun q g0 => (hF_6 q (by omega)).trans (hE q g0)
        subst hR
        exact W.vret hx hb hr (fun t ht hW9 => ⟨⟨Ω_6, rfl, ⟨h_p0, hE⟩, by rw [oB, ht]; exact hW⟩, hS.F ht⟩) hS.2.2 dX1_copyFrom_65
      · rw [if_neg c_4] at hR
        have i_4 := rnle c_4
        refine lv_aload_n hx hb dX1_copyFrom_8 rfl (lv_at hl 0 rfl) ?_
        refine o_get hx hb hts hown hK hW (inDev_o h_p0) rfl ig1 0 (by decide) fl_X1_9 rfl dX1_copyFrom_9 ?_
        refine lv_iload_n hx hb dX1_copyFrom_12 rfl (lv_at hl 2 rfl) ?_
        refine lv_aload_n hx hb dX1_copyFrom_13 rfl (lv_at hl 1 rfl) ?_
        refine o_get hx hb hts hown hK hW (inDev_o h_p1) rfl ig1 0 (by decide) fl_X1_9 rfl dX1_copyFrom_14 ?_
        refine lv_iload_n hx hb dX1_copyFrom_17 rfl (lv_at hl 2 rfl) ?_
        refine o_iald hx hb hK hW (inDev_a0 h_p1) (vp_in_iff.mpr ⟨by omega, by omega⟩) dX1_copyFrom_18 ?_
        refine wDev_0 hx hb hK hW hS hA h_p0 (vp_in_iff.mpr ⟨by omega, by omega⟩) dX1_copyFrom_19 (fun Ω_7 H locs h_p0 hF_7 hW hS => ?_)
        have h_p1 := h_p1.keep (fun q h1 h2 => hF_7 q (by omega))
        have hE : ∀ q : Nat, (q < p0 ∨ p0 + 5 ≤ q) → Ω_7 q = Ω q := fun q g0 => (hF_7 q (by omega)).trans (hE q g0)
        refine lv_aload_n hx hb dX1_copyFrom_20 rfl (lv_at hl 0 rfl) ?_
        refine o_get hx hb hts hown hK hW (inDev_o h_p0) rfl ig1 1 (by decide) fl_X1_15 rfl dX1_copyFrom_21 ?_
        refine lv_iload_n hx hb dX1_copyFrom_24 rfl (lv_at hl 2 rfl) ?_
        refine lv_aload_n hx hb dX1_copyFrom_25 rfl (lv_at hl 1 rfl) ?_
        refine o_get hx hb hts hown hK hW (inDev_o h_p1) rfl ig1 1 (by decide) fl_X1_15 rfl dX1_copyFrom_26 ?_
        refine lv_iload_n hx hb dX1_copyFrom_29 rfl (lv_at hl 2 rfl) ?_
        refine o_iald hx hb hK hW (inDev_a1 h_p1) (vp_in_iff.mpr ⟨by omega, by omega⟩) dX1_copyFrom_30 ?_
        refine wDev_1 hx hb hK hW hS hA h_p0 (vp_in_iff.mpr ⟨by omega, by omega⟩) dX1_copyFrom_31 (fun Ω_8 H locs h_p0 hF_8 hW hS => ?_)
        have h_p1 := h_p1.keep (fun q h1 h2 => hF_8 q (by omega))
        have hE : ∀ q : Nat, (q < p0 ∨ p0 + 5 ≤ q) → Ω_8 q = Ω q := fun q g0 => (hF_8 q (by omega)).trans (hE q g0)
        refine lv_aload_n hx hb dX1_copyFrom_32 rfl (lv_at hl 0 rfl) ?_
        refine o_get hx hb hts hown hK hW (inDev_o h_p0) rfl ig1 2 (by decide) fl_X1_18 rfl dX1_copyFrom_33 ?_
        refine lv_iload_n hx hb dX1_copyFrom_36 rfl (lv_at hl 2 rfl) ?_
        refine lv_aload_n hx hb dX1_copyFrom_37 rfl (lv_at hl 1 rfl) ?_
        refine o_get hx hb hts hown hK hW (inDev_o h_p1) rfl ig1 2 (by decide) fl_X1_18 rfl dX1_copyFrom_38 ?_
        refine lv_iload_n hx hb dX1_copyFrom_41 rfl (lv_at hl 2 rfl) ?_
        refine o_zald hx hb hK hW (inDev_a2 h_p1) (vp_in_iff.mpr ⟨by omega, by omega⟩) dX1_copyFrom_42 ?_
        refine wDev_2 hx hb hK hW hS hA h_p0 (vp_in_iff.mpr ⟨by omega, by omega⟩) dX1_copyFrom_43 (fun Ω_9 H locs h_p0 hF_9 hW hS => ?_)
        have h_p1 := h_p1.keep (fun q h1 h2 => hF_9 q (by omega))
        have hE : ∀ q : Nat, (q < p0 ∨ p0 + 5 ≤ q) → Ω_9 q = Ω q := fun q g0 => (hF_9 q (by omega)).trans (hE q g0)
        refine lv_iinc (v := (x2_1 + (1 : Int32))) (lv' := [(2, .int (x2_1 + (1 : Int32))), (0, .ref p0), (1, .ref p1)]) hx hb dX1_copyFrom_44 hl (k := 2) rfl rfl (by decide) rfl (fun ls hl => ?_)
        refine lv_goto (tgt := 2) hx hb dX1_copyFrom_47 (by decide) ?_
        have j_10 : (1 : Int32).toInt = 1 := by decide
        try have j_11 : (x2_1 + (1 : Int32)).toInt = x2_1.toInt + (1 : Int32).toInt := fb_addI (by omega) (by omega)
        exact ih2 (x2_1 + (1 : Int32)) (upd p0_0_1 x2_1.toNatClampNeg (p1_0 x2_1.toNatClampNeg)) (upd p0_1_1 x2_1.toNatClampNeg (p1_1 x2_1.toNatClampNeg)) (upd p0_2_1 x2_1.toNatClampNeg (vp_nar .boolean (p1_2 x2_1.toNatClampNeg))) Ω_9 H locs (by first | assumption | omega) h_p0 h_p1 hE hW hS ls (lv_sub hl [1, 2, 0] rfl) hR
  have j_12 : (0 : Int32).toInt = 0 := by decide
  exact L2 4000 (0 : Int32) p0_0 p0_1 p0_2 Ω s.heap [] (by first | assumption | omega) h_p0 h_p1 hE hW hS ls (lv_sub hl [1, 2, 0] rfl) hR
set_option maxHeartbeats 4000000 in
set_option maxRecDepth 100000 in
theorem c_X0_greatestValue (l : Launch) (G : Gm) (A : Nat → Prop) (Ω : Om) (p0 : Nat) (p0_0 : Blk) (x1 : Int32) (hB_p0 : BlkInv p0_0) (hi_x1 : 0 ≤ x1.toInt ∧ x1.toInt < 12) (h_p0 : inBlk G Ω p0 p0_0) : Met l yX0_greatestValue (wz yX0_greatestValue cX0_greatestValue 2 (some .int)) ({ frames := 0, cells := 0, slots := 0, locals := 0 } : Room) (va_Pc [.ref p0, .int x1] (oS G A Ω)) (va_Qi (fun (r : Int32) (Ω1 : Om) => r = (f_X0_greatestValue p0_0 x1) ∧ Ω1 = Ω) (oB G A) A) 0 0 A := by
  refine Met.ofW (cc := cX0_greatestValue) (maxL := 2) (ret := (some .int)) (by decide) rfl ?_
  intro p e s m args below meth c s₁ B hml hv
  obtain ⟨rfl, hW, hK, hN⟩ := hv
  have hx := B.exec
  have hb := B.bytes
  have hr := B.returns
  have hts : ∀ w ∈ gt, w.before _ s = true := fun w hw => atoms_spec (ws := wz yX0_greatestValue cX0_greatestValue 2 (some .int)) B.pre w (List.mem_cons_of_mem _ hw)
  have hown : s.vm.findClass RX0 = some m.cls := findClass_of_methodNamed B.named
  have hlocks := B.notSynchronized
  have hA : ∀ q, A q → A q := fun _ h => h
  have hS : va_S A s.heap s.heap [] := va_S.rf
  have hS0 := hS
  have hl := lv_entry ([.ref p0, .int x1]) (n := 2) (Nat.le_of_ble_eq_true rfl)
  rw [lg_entry_eq]
  generalize (lg_sl ([.ref p0, .int x1]) ++ List.replicate (2 - (lg_sl ([.ref p0, .int x1])).length) Slot.unset).toArray = ls at hl ⊢
  have hl : lv_has ls 2 [(0, .ref p0), (1, .int x1)] := hl
  generalize hR : (f_X0_greatestValue p0_0 x1) = R
  rw [f_X0_greatestValue] at hR
  refine lv_aload_n hx hb dX0_greatestValue_0 rfl (lv_at hl 0 rfl) ?_
  refine o_get hx hb hts hown hK hW (inBlk_o h_p0) rfl ig0 10 (by decide) fl_X0_33 rfl dX0_greatestValue_1 ?_
  refine lv_iload_n hx hb dX0_greatestValue_4 rfl (lv_at hl 1 rfl) ?_
  refine o_iald hx hb hK hW (inBlk_a7 h_p0) (vp_in_iff.mpr ⟨by omega, by omega⟩) dX0_greatestValue_5 ?_
  refine lv_aload_n hx hb dX0_greatestValue_6 rfl (lv_at hl 0 rfl) ?_
  refine o_get hx hb hts hown hK hW (inBlk_o h_p0) rfl ig0 8 (by decide) fl_X0_27 rfl dX0_greatestValue_7 ?_
  refine lv_iload_n hx hb dX0_greatestValue_10 rfl (lv_at hl 1 rfl) ?_
  refine o_iald hx hb hK hW (inBlk_a5 h_p0) (vp_in_iff.mpr ⟨by omega, by omega⟩) dX0_greatestValue_11 ?_
  refine lv_ishr hx hb dX0_greatestValue_12 ?_
  subst hR
  exact W.iret (v := (((p0_0 8) x1.toNatClampNeg) >>> (((p0_0 6) x1.toNatClampNeg) &&& 31))) hx hb hr (fun t ht hW9 => ⟨⟨(((p0_0 8) x1.toNatClampNeg) >>> (((p0_0 6) x1.toNatClampNeg) &&& 31)), Ω, rfl, ⟨rfl, rfl⟩, by rw [oB, ht]; exact hW⟩, hS.F ht⟩) hS.2.2 dX0_greatestValue_13
set_option maxHeartbeats 4000000 in
set_option maxRecDepth 100000 in
theorem c_X0_canHold (l : Launch) (G : Gm) (A : Nat → Prop) (Ω : Om) (p0 : Nat) (p0_0 : Blk) (x1 : Int32) (x2 : Int32) (hB_p0 : BlkInv p0_0) (h_p0 : inBlk G Ω p0 p0_0) : Met l yX0_canHold (wz yX0_canHold cX0_canHold 3 (some .boolean)) ({ frames := 1, cells := 0, slots := 0, locals := 21 } : Room) (va_Pc [.ref p0, .int x1, .int x2] (oS G A Ω)) (va_Qi (fun (r : Int32) (Ω1 : Om) => (r = (f_X0_canHold p0_0 x1 x2) ∧ (r = 0 ∨ r = 1)) ∧ Ω1 = Ω) (oB G A) A) 0 0 A := by
  refine Met.ofW (cc := cX0_canHold) (maxL := 3) (ret := (some .boolean)) (by decide) rfl ?_
  intro p e s m args below meth c s₁ B hml hv
  obtain ⟨rfl, hW, hK, hN⟩ := hv
  have hx := B.exec
  have hb := B.bytes
  have hr := B.returns
  have hts : ∀ w ∈ gt, w.before _ s = true := fun w hw => atoms_spec (ws := wz yX0_canHold cX0_canHold 3 (some .boolean)) B.pre w (List.mem_cons_of_mem _ hw)
  have hown : s.vm.findClass RX0 = some m.cls := findClass_of_methodNamed B.named
  have hlocks := B.notSynchronized
  have hA : ∀ q, A q → A q := fun _ h => h
  have hS : va_S A s.heap s.heap [] := va_S.rf
  have hS0 := hS
  have hl := lv_entry ([.ref p0, .int x1, .int x2]) (n := 3) (Nat.le_of_ble_eq_true rfl)
  rw [lg_entry_eq]
  generalize (lg_sl ([.ref p0, .int x1, .int x2]) ++ List.replicate (3 - (lg_sl ([.ref p0, .int x1, .int x2])).length) Slot.unset).toArray = ls at hl ⊢
  have hl : lv_has ls 3 [(0, .ref p0), (1, .int x1), (2, .int x2)] := hl
  generalize hR : (f_X0_canHold p0_0 x1 x2) = R
  rw [f_X0_canHold] at hR
  refine lv_iload_n hx hb dX0_canHold_0 rfl (lv_at hl 1 rfl) ?_
  refine lv_aload_n hx hb dX0_canHold_1 rfl (lv_at hl 0 rfl) ?_
  refine o_get hx hb hts hown hK hW (inBlk_o h_p0) rfl ig0 1 (by decide) fl_X0_52 rfl dX0_canHold_2 ?_
  try have j_1 : 0 ≤ (p0_0 0 1).toInt ∧ (p0_0 0 1).toInt ≤ 12 := BI_flds (by assumption)
  refine o_SNiR (rest := []) (As := [.int x1, .int (p0_0 0 1)]) (n := 2) hx hb hml hown hts hK hN hW hS hA (c_X8_isWithin l G A Ω x1 (p0_0 0 1)) (List.mem_of_getElem? (i := 9) rfl) st_X8_isWithin ini_X8 co_X8_isWithin (by decide +kernel) ⟨Nat.zero_le _, Nat.zero_le _⟩ hl.1 (Nat.le_of_ble_eq_true rfl) rfl rfl dX0_canHold_5 (fun r H locs hp hW hS => ?_)
  obtain ⟨rfl, hz_2⟩ := hp
  have j_4 : (0 : Int32).toInt = 0 := by decide
  refine lv_if_eq (tgt := 28) hx hb dX0_canHold_8 (by decide) (fun c_3 => ?_) (fun c_3 => ?_)
  · rw [if_pos c_3] at hR
    have i_3 := congrArg Int32.toInt c_3
    refine lv_iconst (v := (0 : Int32)) hx hb dX0_canHold_28 (by decide) ?_
    subst hR
    exact W.zret (v := (0 : Int32)) hx hb hr (nb01 (Or.inl rfl)) (fun t ht hW9 => ⟨⟨(0 : Int32), Ω, rfl, ⟨⟨rfl, (Or.inl rfl)⟩, rfl⟩, by rw [oB, ht]; exact hW⟩, hS.F ht⟩) hS.2.2 dX0_canHold_29
  · rw [if_neg c_3] at hR
    have i_3 := rne c_3
    have b_c_3 := rIW c_3
    refine lv_iload_n hx hb dX0_canHold_11 rfl (lv_at hl 2 rfl) ?_
    refine lv_if_lt (tgt := 28) hx hb dX0_canHold_12 (by decide) (fun c_5 => ?_) (fun c_5 => ?_)
    · rw [if_pos c_5] at hR
      have i_5 := rlt c_5
      refine lv_iconst (v := (0 : Int32)) hx hb dX0_canHold_28 (by decide) ?_
      subst hR
      exact W.zret (v := (0 : Int32)) hx hb hr (nb01 (Or.inl rfl)) (fun t ht hW9 => ⟨⟨(0 : Int32), Ω, rfl, ⟨⟨rfl, (Or.inl rfl)⟩, rfl⟩, by rw [oB, ht]; exact hW⟩, hS.F ht⟩) hS.2.2 dX0_canHold_29
    · rw [if_neg c_5] at hR
      have i_5 := rnlt c_5
      refine lv_iload_n hx hb dX0_canHold_15 rfl (lv_at hl 2 rfl) ?_
      refine lv_aload_n hx hb dX0_canHold_16 rfl (lv_at hl 0 rfl) ?_
      refine lv_iload_n hx hb dX0_canHold_17 rfl (lv_at hl 1 rfl) ?_
      refine o_ViR (rest := [.int x2]) (As := [.int x1]) (n := 1) hx hb hml hown hts hK hN hW hS hA (c_X0_greatestValue l G A Ω p0 p0_0 x1 (by first | assumption | omega) (by first | assumption | omega) h_p0) (inBlk_o h_p0) rfl (good_V ml_X0_62 im_X0_greatestValue se_X0_greatestValue ini_X0 co_X0_greatestValue) (by decide +kernel) ⟨Nat.zero_le _, Nat.zero_le _⟩ hl.1 (Nat.le_of_ble_eq_true rfl) rfl rfl dX0_canHold_18 (fun r H locs hp hW hS => ?_)
      subst hp
      refine lv_icmp_gt (tgt := 28) hx hb dX0_canHold_21 (by decide) (fun c_7 => ?_) (fun c_7 => ?_)
      · rw [if_pos c_7] at hR
        have i_7 := rlt c_7
        refine lv_iconst (v := (0 : Int32)) hx hb dX0_canHold_28 (by decide) ?_
        subst hR
        exact W.zret (v := (0 : Int32)) hx hb hr (nb01 (Or.inl rfl)) (fun t ht hW9 => ⟨⟨(0 : Int32), Ω, rfl, ⟨⟨rfl, (Or.inl rfl)⟩, rfl⟩, by rw [oB, ht]; exact hW⟩, hS.F ht⟩) hS.2.2 dX0_canHold_29
      · rw [if_neg c_7] at hR
        have i_7 := rnlt c_7
        refine lv_iconst (v := (1 : Int32)) hx hb dX0_canHold_24 (by decide) ?_
        refine lv_goto (tgt := 29) hx hb dX0_canHold_25 (by decide) ?_
        subst hR
        exact W.zret (v := (1 : Int32)) hx hb hr (nb01 (Or.inr rfl)) (fun t ht hW9 => ⟨⟨(1 : Int32), Ω, rfl, ⟨⟨rfl, (Or.inr rfl)⟩, rfl⟩, by rw [oB, ht]; exact hW⟩, hS.F ht⟩) hS.2.2 dX0_canHold_29
set_option maxHeartbeats 4000000 in
set_option maxRecDepth 100000 in
theorem c_X0_canReach (l : Launch) (G : Gm) (A : Nat → Prop) (Ω : Om) (p0 : Nat) (p0_0 : Blk) (x1 : Int32) (x2 : Int32) (hB_p0 : BlkInv p0_0) (hi_x2 : 0 ≤ x2.toInt ∧ x2.toInt < 12) (h_p0 : inBlk G Ω p0 p0_0) : Met l yX0_canReach (wz yX0_canReach cX0_canReach 4 (some .boolean)) ({ frames := 3, cells := 0, slots := 0, locals := 66 } : Room) (va_Pc [.ref p0, .int x1, .int x2] (oS G A Ω)) (va_Qi (fun (r : Int32) (Ω1 : Om) => (r = (f_X0_canReach p0_0 x1 x2) ∧ (r = 0 ∨ r = 1)) ∧ Ω1 = Ω) (oB G A) A) 0 0 A := by
  refine Met.ofW (cc := cX0_canReach) (maxL := 4) (ret := (some .boolean)) (by decide) rfl ?_
  intro p e s m args below meth c s₁ B hml hv
  obtain ⟨rfl, hW, hK, hN⟩ := hv
  have hx := B.exec
  have hb := B.bytes
  have hr := B.returns
  have hts : ∀ w ∈ gt, w.before _ s = true := fun w hw => atoms_spec (ws := wz yX0_canReach cX0_canReach 4 (some .boolean)) B.pre w (List.mem_cons_of_mem _ hw)
  have hown : s.vm.findClass RX0 = some m.cls := findClass_of_methodNamed B.named
  have hlocks := B.notSynchronized
  have hA : ∀ q, A q → A q := fun _ h => h
  have hS : va_S A s.heap s.heap [] := va_S.rf
  have hS0 := hS
  have hl := lv_entry ([.ref p0, .int x1, .int x2]) (n := 4) (Nat.le_of_ble_eq_true rfl)
  rw [lg_entry_eq]
  generalize (lg_sl ([.ref p0, .int x1, .int x2]) ++ List.replicate (4 - (lg_sl ([.ref p0, .int x1, .int x2])).length) Slot.unset).toArray = ls at hl ⊢
  have hl : lv_has ls 4 [(0, .ref p0), (1, .int x1), (2, .int x2)] := hl
  generalize hR : (f_X0_canReach p0_0 x1 x2) = R
  rw [f_X0_canReach] at hR
  refine lv_aload_n hx hb dX0_canReach_0 rfl (lv_at hl 0 rfl) ?_
  refine lv_iload_n hx hb dX0_canReach_1 rfl (lv_at hl 1 rfl) ?_
  refine o_ViR (rest := []) (As := [.int x1]) (n := 1) hx hb hml hown hts hK hN hW hS hA (c_X0_registerBehind l G A Ω p0 p0_0 x1 (by first | assumption | omega) h_p0) (inBlk_o h_p0) rfl (good_V ml_X0_77 im_X0_registerBehind se_X0_registerBehind ini_X0 co_X0_registerBehind) (by decide +kernel) ⟨Nat.zero_le _, Nat.zero_le _⟩ hl.1 (Nat.le_of_ble_eq_true rfl) rfl rfl dX0_canReach_2 (fun r H locs hp hW hS => ?_)
  subst hp
  refine lv_istore_n (lv' := [(3, .int (f_X0_registerBehind p0_0 x1)), (0, .ref p0), (1, .int x1), (2, .int x2)]) hx hb dX0_canReach_5 rfl hl (by decide) rfl (fun ls hl => ?_)
  refine lv_iload_n hx hb dX0_canReach_6 rfl (lv_at hl 0 rfl) ?_
  refine lv_bipush (v := (-9 : Int32)) hx hb dX0_canReach_7 (by decide) ?_
  try have j_3 : (f_X0_registerBehind p0_0 x1).toInt = -9 ∨ (0 ≤ (f_X0_registerBehind p0_0 x1).toInt ∧ (f_X0_registerBehind p0_0 x1).toInt < 6) := R_registerBehind (by assumption) _
  have j_4 : (-9 : Int32).toInt = -9 := by decide
  refine lv_icmp_eq (tgt := 40) hx hb dX0_canReach_9 (by decide) (fun c_2 => ?_) (fun c_2 => ?_)
  · rw [if_pos c_2] at hR
    have i_2 := congrArg Int32.toInt c_2
    refine lv_iconst (v := (0 : Int32)) hx hb dX0_canReach_40 (by decide) ?_
    subst hR
    exact W.zret (v := (0 : Int32)) hx hb hr (nb01 (Or.inl rfl)) (fun t ht hW9 => ⟨⟨(0 : Int32), Ω, rfl, ⟨⟨rfl, (Or.inl rfl)⟩, rfl⟩, by rw [oB, ht]; exact hW⟩, hS.F ht⟩) hS.2.2 dX0_canReach_41
  · rw [if_neg c_2] at hR
    have i_2 := rne c_2
    refine lv_iload_n hx hb dX0_canReach_12 rfl (lv_at hl 0 rfl) ?_
    refine lv_aload_n hx hb dX0_canReach_13 rfl (lv_at hl 1 rfl) ?_
    refine o_get hx hb hts hown hK hW (inBlk_o h_p0) rfl ig0 6 (by decide) fl_X0_21 rfl dX0_canReach_14 ?_
    refine lv_iload_n hx hb dX0_canReach_17 rfl (lv_at hl 3 rfl) ?_
    refine o_iald hx hb hK hW (inBlk_a3 h_p0) (vp_in_iff.mpr ⟨by omega, by omega⟩) dX0_canReach_18 ?_
    try have j_6 : 0 ≤ ((p0_0 4) x2.toNatClampNeg).toInt ∧ ((p0_0 4) x2.toNatClampNeg).toInt < 6 := BI_owner (by assumption) _
    refine lv_icmp_eq (tgt := 36) hx hb dX0_canReach_19 (by decide) (fun c_5 => ?_) (fun c_5 => ?_)
    · rw [if_pos c_5] at hR
      have i_5 := congrArg Int32.toInt c_5
      refine lv_iconst (v := (1 : Int32)) hx hb dX0_canReach_36 (by decide) ?_
      refine lv_goto (tgt := 41) hx hb dX0_canReach_37 (by decide) ?_
      subst hR
      exact W.zret (v := (1 : Int32)) hx hb hr (nb01 (Or.inr rfl)) (fun t ht hW9 => ⟨⟨(1 : Int32), Ω, rfl, ⟨⟨rfl, (Or.inr rfl)⟩, rfl⟩, by rw [oB, ht]; exact hW⟩, hS.F ht⟩) hS.2.2 dX0_canReach_41
    · rw [if_neg c_5] at hR
      have i_5 := rne c_5
      refine lv_aload_n hx hb dX0_canReach_22 rfl (lv_at hl 1 rfl) ?_
      refine lv_aload_n hx hb dX0_canReach_23 rfl (lv_at hl 1 rfl) ?_
      refine o_get hx hb hts hown hK hW (inBlk_o h_p0) rfl ig0 6 (by decide) fl_X0_21 rfl dX0_canReach_24 ?_
      refine lv_iload_n hx hb dX0_canReach_27 rfl (lv_at hl 3 rfl) ?_
      refine o_iald hx hb hK hW (inBlk_a3 h_p0) (vp_in_iff.mpr ⟨by omega, by omega⟩) dX0_canReach_28 ?_
      refine lv_iload_n hx hb dX0_canReach_29 rfl (lv_at hl 0 rfl) ?_
      refine o_ViR (rest := []) (As := [.int ((p0_0 4) x2.toNatClampNeg), .int (f_X0_registerBehind p0_0 x1)]) (n := 2) hx hb hml hown hts hK hN hW hS hA (c_X0_isOpenedBy l G A Ω p0 p0_0 ((p0_0 4) x2.toNatClampNeg) (f_X0_registerBehind p0_0 x1) (by first | assumption | omega) (by first | assumption | omega) h_p0) (inBlk_o h_p0) rfl (good_V ml_X0_80 im_X0_isOpenedBy se_X0_isOpenedBy ini_X0 co_X0_isOpenedBy) (by decide +kernel) ⟨Nat.zero_le _, Nat.zero_le _⟩ hl.1 (Nat.le_of_ble_eq_true rfl) rfl rfl dX0_canReach_30 (fun r H locs hp hW hS => ?_)
      obtain ⟨rfl, hz_7⟩ := hp
      have j_9 : (0 : Int32).toInt = 0 := by decide
      refine lv_if_eq (tgt := 40) hx hb dX0_canReach_33 (by decide) (fun c_8 => ?_) (fun c_8 => ?_)
      · rw [if_pos c_8] at hR
        have i_8 := congrArg Int32.toInt c_8
        refine lv_iconst (v := (0 : Int32)) hx hb dX0_canReach_40 (by decide) ?_
        subst hR
        exact W.zret (v := (0 : Int32)) hx hb hr (nb01 (Or.inl rfl)) (fun t ht hW9 => ⟨⟨(0 : Int32), Ω, rfl, ⟨⟨rfl, (Or.inl rfl)⟩, rfl⟩, by rw [oB, ht]; exact hW⟩, hS.F ht⟩) hS.2.2 dX0_canReach_41
      · rw [if_neg c_8] at hR
        have i_8 := rne c_8
        have b_c_8 := rOB c_8
        have bb_c_8 := BI_flds (u := p0_0) (by assumption)
        refine lv_iconst (v := (1 : Int32)) hx hb dX0_canReach_36 (by decide) ?_
        refine lv_goto (tgt := 41) hx hb dX0_canReach_37 (by decide) ?_
        subst hR
        exact W.zret (v := (1 : Int32)) hx hb hr (nb01 (Or.inr rfl)) (fun t ht hW9 => ⟨⟨(1 : Int32), Ω, rfl, ⟨⟨rfl, (Or.inr rfl)⟩, rfl⟩, by rw [oB, ht]; exact hW⟩, hS.F ht⟩) hS.2.2 dX0_canReach_41
set_option maxHeartbeats 4000000 in
set_option maxRecDepth 100000 in
theorem c_X0_isGate (l : Launch) (G : Gm) (A : Nat → Prop) (Ω : Om) (p0 : Nat) (p0_0 : Blk) (x1 : Int32) (hB_p0 : BlkInv p0_0) (h_p0 : inBlk G Ω p0 p0_0) : Met l yX0_isGate (wz yX0_isGate cX0_isGate 3 (some .boolean)) ({ frames := 0, cells := 0, slots := 0, locals := 0 } : Room) (va_Pc [.ref p0, .int x1] (oS G A Ω)) (va_Qi (fun (r : Int32) (Ω1 : Om) => (r = (f_X0_isGate p0_0 x1) ∧ (r = 0 ∨ r = 1)) ∧ Ω1 = Ω) (oB G A) A) 0 0 A := by
  refine Met.ofW (cc := cX0_isGate) (maxL := 3) (ret := (some .boolean)) (by decide) rfl ?_
  intro p e s m args below meth c s₁ B hml hv
  obtain ⟨rfl, hW, hK, hN⟩ := hv
  have hx := B.exec
  have hb := B.bytes
  have hr := B.returns
  have hts : ∀ w ∈ gt, w.before _ s = true := fun w hw => atoms_spec (ws := wz yX0_isGate cX0_isGate 3 (some .boolean)) B.pre w (List.mem_cons_of_mem _ hw)
  have hown : s.vm.findClass RX0 = some m.cls := findClass_of_methodNamed B.named
  have hlocks := B.notSynchronized
  have hA : ∀ q, A q → A q := fun _ h => h
  have hS : va_S A s.heap s.heap [] := va_S.rf
  have hS0 := hS
  have hl := lv_entry ([.ref p0, .int x1]) (n := 3) (Nat.le_of_ble_eq_true rfl)
  rw [lg_entry_eq]
  generalize (lg_sl ([.ref p0, .int x1]) ++ List.replicate (3 - (lg_sl ([.ref p0, .int x1])).length) Slot.unset).toArray = ls at hl ⊢
  have hl : lv_has ls 3 [(0, .ref p0), (1, .int x1)] := hl
  generalize hR : (f_X0_isGate p0_0 x1) = R
  rw [f_X0_isGate] at hR
  refine lv_iconst (v := (0 : Int32)) hx hb dX0_isGate_0 (by decide) ?_
  refine lv_istore_n (lv' := [(2, .int (0 : Int32)), (0, .ref p0), (1, .int x1)]) hx hb dX0_isGate_1 rfl hl (by decide) rfl (fun ls hl => ?_)
  have L2 : ∀ (n_2 : Nat) (x2_1 : Int32) (H : Heap) (locs : List Loc), (0 ≤ x2_1.toInt ∧ x2_1.toInt ≤ 6 ∧ 6 - x2_1.toInt < n_2) → oW G A Ω H → va_S A s.heap H locs → ∀ ls : Array Slot, lv_has ls 3 [(0, .ref p0), (1, .int x1), (2, .int x2_1)] → (f_X0_isGate_L2 p0_0 x1 n_2 x2_1) = R → W p l e (headSpec (wz yX0_isGate cX0_isGate 3 (some .boolean)) ({ frames := 0, cells := 0, slots := 0, locals := 0 } : Room)).room s m ([.ref p0, .int x1] : List Value).toArray below meth c H locs 0 0 (MQ below (va_Qi (fun (r : Int32) (Ω1 : Om) => (r = R ∧ (r = 0 ∨ r = 1)) ∧ Ω1 = Ω) (oB G A) A) ([.ref p0, .int x1] : List Value).toArray s 0 0 A) (F0 m 2 ls []) := by
    intro n_2
    induction n_2 with
    | zero =>
      intro x2_1 H locs v_2_0 hW hS ls hl hR
      exfalso
      omega
    | succ n_2 ih2 =>
      intro x2_1 H locs v_2_0 hW hS ls hl hR
      rw [f_X0_isGate_L2] at hR
      refine lv_iload_n hx hb dX0_isGate_2 rfl (lv_at hl 2 rfl) ?_
      refine lv_aload_n hx hb dX0_isGate_3 rfl (lv_at hl 0 rfl) ?_
      refine o_get hx hb hts hown hK hW (inBlk_o h_p0) rfl ig0 0 (by decide) fl_X0_48 rfl dX0_isGate_4 ?_
      try have j_4 : 0 ≤ (p0_0 0 0).toInt ∧ (p0_0 0 0).toInt ≤ 6 := BI_regs (by assumption)
      refine lv_icmp_ge (tgt := 28) hx hb dX0_isGate_7 (by decide) (fun c_3 => ?_) (fun c_3 => ?_)
      · rw [if_pos c_3] at hR
        have i_3 := rle c_3
        refine lv_iconst (v := (0 : Int32)) hx hb dX0_isGate_28 (by decide) ?_
        subst hR
        exact W.zret (v := (0 : Int32)) hx hb hr (nb01 (Or.inl rfl)) (fun t ht hW9 => ⟨⟨(0 : Int32), Ω, rfl, ⟨⟨rfl, (Or.inl rfl)⟩, rfl⟩, by rw [oB, ht]; exact hW⟩, hS.F ht⟩) hS.2.2 dX0_isGate_29
      · rw [if_neg c_3] at hR
        have i_3 := rnle c_3
        refine lv_aload_n hx hb dX0_isGate_10 rfl (lv_at hl 0 rfl) ?_
        refine o_get hx hb hts hown hK hW (inBlk_o h_p0) rfl ig0 5 (by decide) fl_X0_18 rfl dX0_isGate_11 ?_
        refine lv_iload_n hx hb dX0_isGate_14 rfl (lv_at hl 2 rfl) ?_
        refine o_iald hx hb hK hW (inBlk_a2 h_p0) (vp_in_iff.mpr ⟨by omega, by omega⟩) dX0_isGate_15 ?_
        refine lv_iload_n hx hb dX0_isGate_16 rfl (lv_at hl 1 rfl) ?_
        refine lv_icmp_ne (tgt := 22) hx hb dX0_isGate_17 (by decide) (fun c_5 => ?_) (fun c_5 => ?_)
        · rw [if_neg c_5] at hR
          have i_5 := rne c_5
          refine lv_iinc (v := (x2_1 + (1 : Int32))) (lv' := [(2, .int (x2_1 + (1 : Int32))), (0, .ref p0), (1, .int x1)]) hx hb dX0_isGate_22 hl (k := 2) rfl rfl (by decide) rfl (fun ls hl => ?_)
          refine lv_goto (tgt := 2) hx hb dX0_isGate_25 (by decide) ?_
          have j_6 : (1 : Int32).toInt = 1 := by decide
          try have j_7 : (x2_1 + (1 : Int32)).toInt = x2_1.toInt + (1 : Int32).toInt := fb_addI (by omega) (by omega)
          exact ih2 (x2_1 + (1 : Int32)) H locs (by first | assumption | omega) hW hS ls (lv_sub hl [1, 2, 0] rfl) hR
        · rw [if_pos c_5] at hR
          have i_5 := congrArg Int32.toInt c_5
          refine lv_iconst (v := (1 : Int32)) hx hb dX0_isGate_20 (by decide) ?_
          subst hR
          exact W.zret (v := (1 : Int32)) hx hb hr (nb01 (Or.inr rfl)) (fun t ht hW9 => ⟨⟨(1 : Int32), Ω, rfl, ⟨⟨rfl, (Or.inr rfl)⟩, rfl⟩, by rw [oB, ht]; exact hW⟩, hS.F ht⟩) hS.2.2 dX0_isGate_21
  have j_8 : (0 : Int32).toInt = 0 := by decide
  exact L2 4000 (0 : Int32) s.heap [] (by first | assumption | omega) hW hS ls (lv_sub hl [1, 2, 0] rfl) hR
set_option maxHeartbeats 4000000 in
set_option maxRecDepth 100000 in
theorem c_X0_isLock (l : Launch) (G : Gm) (A : Nat → Prop) (Ω : Om) (p0 : Nat) (p0_0 : Blk) (x1 : Int32) (hB_p0 : BlkInv p0_0) (h_p0 : inBlk G Ω p0 p0_0) : Met l yX0_isLock (wz yX0_isLock cX0_isLock 3 (some .boolean)) ({ frames := 0, cells := 0, slots := 0, locals := 0 } : Room) (va_Pc [.ref p0, .int x1] (oS G A Ω)) (va_Qi (fun (r : Int32) (Ω1 : Om) => (r = (f_X0_isLock p0_0 x1) ∧ (r = 0 ∨ r = 1)) ∧ Ω1 = Ω) (oB G A) A) 0 0 A := by
  refine Met.ofW (cc := cX0_isLock) (maxL := 3) (ret := (some .boolean)) (by decide) rfl ?_
  intro p e s m args below meth c s₁ B hml hv
  obtain ⟨rfl, hW, hK, hN⟩ := hv
  have hx := B.exec
  have hb := B.bytes
  have hr := B.returns
  have hts : ∀ w ∈ gt, w.before _ s = true := fun w hw => atoms_spec (ws := wz yX0_isLock cX0_isLock 3 (some .boolean)) B.pre w (List.mem_cons_of_mem _ hw)
  have hown : s.vm.findClass RX0 = some m.cls := findClass_of_methodNamed B.named
  have hlocks := B.notSynchronized
  have hA : ∀ q, A q → A q := fun _ h => h
  have hS : va_S A s.heap s.heap [] := va_S.rf
  have hS0 := hS
  have hl := lv_entry ([.ref p0, .int x1]) (n := 3) (Nat.le_of_ble_eq_true rfl)
  rw [lg_entry_eq]
  generalize (lg_sl ([.ref p0, .int x1]) ++ List.replicate (3 - (lg_sl ([.ref p0, .int x1])).length) Slot.unset).toArray = ls at hl ⊢
  have hl : lv_has ls 3 [(0, .ref p0), (1, .int x1)] := hl
  generalize hR : (f_X0_isLock p0_0 x1) = R
  rw [f_X0_isLock] at hR
  refine lv_iconst (v := (0 : Int32)) hx hb dX0_isLock_0 (by decide) ?_
  refine lv_istore_n (lv' := [(2, .int (0 : Int32)), (0, .ref p0), (1, .int x1)]) hx hb dX0_isLock_1 rfl hl (by decide) rfl (fun ls hl => ?_)
  have L2 : ∀ (n_2 : Nat) (x2_1 : Int32) (H : Heap) (locs : List Loc), (0 ≤ x2_1.toInt ∧ x2_1.toInt ≤ 6 ∧ 6 - x2_1.toInt < n_2) → oW G A Ω H → va_S A s.heap H locs → ∀ ls : Array Slot, lv_has ls 3 [(0, .ref p0), (1, .int x1), (2, .int x2_1)] → (f_X0_isLock_L2 p0_0 x1 n_2 x2_1) = R → W p l e (headSpec (wz yX0_isLock cX0_isLock 3 (some .boolean)) ({ frames := 0, cells := 0, slots := 0, locals := 0 } : Room)).room s m ([.ref p0, .int x1] : List Value).toArray below meth c H locs 0 0 (MQ below (va_Qi (fun (r : Int32) (Ω1 : Om) => (r = R ∧ (r = 0 ∨ r = 1)) ∧ Ω1 = Ω) (oB G A) A) ([.ref p0, .int x1] : List Value).toArray s 0 0 A) (F0 m 2 ls []) := by
    intro n_2
    induction n_2 with
    | zero =>
      intro x2_1 H locs v_2_0 hW hS ls hl hR
      exfalso
      omega
    | succ n_2 ih2 =>
      intro x2_1 H locs v_2_0 hW hS ls hl hR
      rw [f_X0_isLock_L2] at hR
      refine lv_iload_n hx hb dX0_isLock_2 rfl (lv_at hl 2 rfl) ?_
      refine lv_aload_n hx hb dX0_isLock_3 rfl (lv_at hl 0 rfl) ?_
      refine o_get hx hb hts hown hK hW (inBlk_o h_p0) rfl ig0 0 (by decide) fl_X0_48 rfl dX0_isLock_4 ?_
      try have j_4 : 0 ≤ (p0_0 0 0).toInt ∧ (p0_0 0 0).toInt ≤ 6 := BI_regs (by assumption)
      refine lv_icmp_ge (tgt := 28) hx hb dX0_isLock_7 (by decide) (fun c_3 => ?_) (fun c_3 => ?_)
      · rw [if_pos c_3] at hR
        have i_3 := rle c_3
        refine lv_iconst (v := (0 : Int32)) hx hb dX0_isLock_28 (by decide) ?_
        subst hR
        exact W.zret (v := (0 : Int32)) hx hb hr (nb01 (Or.inl rfl)) (fun t ht hW9 => ⟨⟨(0 : Int32), Ω, rfl, ⟨⟨rfl, (Or.inl rfl)⟩, rfl⟩, by rw [oB, ht]; exact hW⟩, hS.F ht⟩) hS.2.2 dX0_isLock_29
      · rw [if_neg c_3] at hR
        have i_3 := rnle c_3
        refine lv_aload_n hx hb dX0_isLock_10 rfl (lv_at hl 0 rfl) ?_
        refine o_get hx hb hts hown hK hW (inBlk_o h_p0) rfl ig0 4 (by decide) fl_X0_15 rfl dX0_isLock_11 ?_
        refine lv_iload_n hx hb dX0_isLock_14 rfl (lv_at hl 2 rfl) ?_
        refine o_iald hx hb hK hW (inBlk_a1 h_p0) (vp_in_iff.mpr ⟨by omega, by omega⟩) dX0_isLock_15 ?_
        refine lv_iload_n hx hb dX0_isLock_16 rfl (lv_at hl 1 rfl) ?_
        refine lv_icmp_ne (tgt := 22) hx hb dX0_isLock_17 (by decide) (fun c_5 => ?_) (fun c_5 => ?_)
        · rw [if_neg c_5] at hR
          have i_5 := rne c_5
          refine lv_iinc (v := (x2_1 + (1 : Int32))) (lv' := [(2, .int (x2_1 + (1 : Int32))), (0, .ref p0), (1, .int x1)]) hx hb dX0_isLock_22 hl (k := 2) rfl rfl (by decide) rfl (fun ls hl => ?_)
          refine lv_goto (tgt := 2) hx hb dX0_isLock_25 (by decide) ?_
          have j_6 : (1 : Int32).toInt = 1 := by decide
          try have j_7 : (x2_1 + (1 : Int32)).toInt = x2_1.toInt + (1 : Int32).toInt := fb_addI (by omega) (by omega)
          exact ih2 (x2_1 + (1 : Int32)) H locs (by first | assumption | omega) hW hS ls (lv_sub hl [1, 2, 0] rfl) hR
        · rw [if_pos c_5] at hR
          have i_5 := congrArg Int32.toInt c_5
          refine lv_iconst (v := (1 : Int32)) hx hb dX0_isLock_20 (by decide) ?_
          subst hR
          exact W.zret (v := (1 : Int32)) hx hb hr (nb01 (Or.inr rfl)) (fun t ht hW9 => ⟨⟨(1 : Int32), Ω, rfl, ⟨⟨rfl, (Or.inr rfl)⟩, rfl⟩, by rw [oB, ht]; exact hW⟩, hS.F ht⟩) hS.2.2 dX0_isLock_21
  have j_8 : (0 : Int32).toInt = 0 := by decide
  exact L2 4000 (0 : Int32) s.heap [] (by first | assumption | omega) hW hS ls (lv_sub hl [1, 2, 0] rfl) hR
set_option maxHeartbeats 4000000 in
set_option maxRecDepth 100000 in
theorem c_X0_plainBits (l : Launch) (G : Gm) (A : Nat → Prop) (Ω : Om) (p0 : Nat) (p0_0 : Blk) (x1 : Int32) (hB_p0 : BlkInv p0_0) (h_p0 : inBlk G Ω p0 p0_0) : Met l yX0_plainBits (wz yX0_plainBits cX0_plainBits 4 (some .int)) ({ frames := 0, cells := 0, slots := 0, locals := 0 } : Room) (va_Pc [.ref p0, .int x1] (oS G A Ω)) (va_Qi (fun (r : Int32) (Ω1 : Om) => r = (f_X0_plainBits p0_0 x1) ∧ Ω1 = Ω) (oB G A) A) 0 0 A := by
  refine Met.ofW (cc := cX0_plainBits) (maxL := 4) (ret := (some .int)) (by decide) rfl ?_
  intro p e s m args below meth c s₁ B hml hv
  obtain ⟨rfl, hW, hK, hN⟩ := hv
  have hx := B.exec
  have hb := B.bytes
  have hr := B.returns
  have hts : ∀ w ∈ gt, w.before _ s = true := fun w hw => atoms_spec (ws := wz yX0_plainBits cX0_plainBits 4 (some .int)) B.pre w (List.mem_cons_of_mem _ hw)
  have hown : s.vm.findClass RX0 = some m.cls := findClass_of_methodNamed B.named
  have hlocks := B.notSynchronized
  have hA : ∀ q, A q → A q := fun _ h => h
  have hS : va_S A s.heap s.heap [] := va_S.rf
  have hS0 := hS
  have hl := lv_entry ([.ref p0, .int x1]) (n := 4) (Nat.le_of_ble_eq_true rfl)
  rw [lg_entry_eq]
  generalize (lg_sl ([.ref p0, .int x1]) ++ List.replicate (4 - (lg_sl ([.ref p0, .int x1])).length) Slot.unset).toArray = ls at hl ⊢
  have hl : lv_has ls 4 [(0, .ref p0), (1, .int x1)] := hl
  generalize hR : (f_X0_plainBits p0_0 x1) = R
  rw [f_X0_plainBits] at hR
  refine lv_iconst (v := (0 : Int32)) hx hb dX0_plainBits_0 (by decide) ?_
  refine lv_istore_n (lv' := [(2, .int (0 : Int32)), (0, .ref p0), (1, .int x1)]) hx hb dX0_plainBits_1 rfl hl (by decide) rfl (fun ls hl => ?_)
  refine lv_iconst (v := (0 : Int32)) hx hb dX0_plainBits_2 (by decide) ?_
  refine lv_istore_n (lv' := [(3, .int (0 : Int32)), (2, .int (0 : Int32)), (0, .ref p0), (1, .int x1)]) hx hb dX0_plainBits_3 rfl hl (by decide) rfl (fun ls hl => ?_)
  have L4 : ∀ (n_2 : Nat) (x2_1 : Int32) (x3_1 : Int32) (H : Heap) (locs : List Loc), (0 ≤ x3_1.toInt ∧ x3_1.toInt ≤ 12 ∧ 12 - x3_1.toInt < n_2) → oW G A Ω H → va_S A s.heap H locs → ∀ ls : Array Slot, lv_has ls 4 [(0, .ref p0), (1, .int x1), (2, .int x2_1), (3, .int x3_1)] → (f_X0_plainBits_L4 p0_0 x1 n_2 x2_1 x3_1) = R → W p l e (headSpec (wz yX0_plainBits cX0_plainBits 4 (some .int)) ({ frames := 0, cells := 0, slots := 0, locals := 0 } : Room)).room s m ([.ref p0, .int x1] : List Value).toArray below meth c H locs 0 0 (MQ below (va_Qi (fun (r : Int32) (Ω1 : Om) => r = R ∧ Ω1 = Ω) (oB G A) A) ([.ref p0, .int x1] : List Value).toArray s 0 0 A) (F0 m 4 ls []) := by
    intro n_2
    induction n_2 with
    | zero =>
      intro x2_1 x3_1 H locs v_4_0 hW hS ls hl hR
      exfalso
      omega
    | succ n_2 ih4 =>
      intro x2_1 x3_1 H locs v_4_0 hW hS ls hl hR
      rw [f_X0_plainBits_L4] at hR
      refine lv_iload_n hx hb dX0_plainBits_4 rfl (lv_at hl 3 rfl) ?_
      refine lv_aload_n hx hb dX0_plainBits_5 rfl (lv_at hl 0 rfl) ?_
      refine o_get hx hb hts hown hK hW (inBlk_o h_p0) rfl ig0 1 (by decide) fl_X0_52 rfl dX0_plainBits_6 ?_
      try have j_4 : 0 ≤ (p0_0 0 1).toInt ∧ (p0_0 0 1).toInt ≤ 12 := BI_flds (by assumption)
      refine lv_icmp_ge (tgt := 46) hx hb dX0_plainBits_9 (by decide) (fun c_3 => ?_) (fun c_3 => ?_)
      · rw [if_pos c_3] at hR
        have i_3 := rle c_3
        refine lv_iload_n hx hb dX0_plainBits_46 rfl (lv_at hl 2 rfl) ?_
        subst hR
        exact W.iret (v := x2_1) hx hb hr (fun t ht hW9 => ⟨⟨x2_1, Ω, rfl, ⟨rfl, rfl⟩, by rw [oB, ht]; exact hW⟩, hS.F ht⟩) hS.2.2 dX0_plainBits_47
      · rw [if_neg c_3] at hR
        have i_3 := rnle c_3
        refine lv_aload_n hx hb dX0_plainBits_12 rfl (lv_at hl 0 rfl) ?_
        refine o_get hx hb hts hown hK hW (inBlk_o h_p0) rfl ig0 6 (by decide) fl_X0_21 rfl dX0_plainBits_13 ?_
        refine lv_iload_n hx hb dX0_plainBits_16 rfl (lv_at hl 3 rfl) ?_
        refine o_iald hx hb hK hW (inBlk_a3 h_p0) (vp_in_iff.mpr ⟨by omega, by omega⟩) dX0_plainBits_17 ?_
        refine lv_iload_n hx hb dX0_plainBits_18 rfl (lv_at hl 1 rfl) ?_
        try have j_6 : 0 ≤ ((p0_0 4) x3_1.toNatClampNeg).toInt ∧ ((p0_0 4) x3_1.toNatClampNeg).toInt < 6 := BI_owner (by assumption) _
        refine lv_icmp_ne (tgt := 40) hx hb dX0_plainBits_19 (by decide) (fun c_5 => ?_) (fun c_5 => ?_)
        · rw [if_neg c_5] at hR
          have i_5 := rne c_5
          refine lv_iinc (v := (x3_1 + (1 : Int32))) (lv' := [(3, .int (x3_1 + (1 : Int32))), (0, .ref p0), (1, .int x1), (2, .int x2_1)]) hx hb dX0_plainBits_40 hl (k := 3) rfl rfl (by decide) rfl (fun ls hl => ?_)
          refine lv_goto (tgt := 4) hx hb dX0_plainBits_43 (by decide) ?_
          have j_7 : (1 : Int32).toInt = 1 := by decide
          try have j_8 : (x3_1 + (1 : Int32)).toInt = x3_1.toInt + (1 : Int32).toInt := fb_addI (by omega) (by omega)
          exact ih4 x2_1 (x3_1 + (1 : Int32)) H locs (by first | assumption | omega) hW hS ls (lv_sub hl [1, 2, 3, 0] rfl) hR
        · rw [if_pos c_5] at hR
          have i_5 := congrArg Int32.toInt c_5
          refine lv_aload_n hx hb dX0_plainBits_22 rfl (lv_at hl 0 rfl) ?_
          refine o_get hx hb hts hown hK hW (inBlk_o h_p0) rfl ig0 7 (by decide) fl_X0_24 rfl dX0_plainBits_23 ?_
          refine lv_iload_n hx hb dX0_plainBits_26 rfl (lv_at hl 3 rfl) ?_
          refine o_iald hx hb hK hW (inBlk_a4 h_p0) (vp_in_iff.mpr ⟨by omega, by omega⟩) dX0_plainBits_27 ?_
          have j_10 : (0 : Int32).toInt = 0 := by decide
          refine lv_if_ne (tgt := 40) hx hb dX0_plainBits_28 (by decide) (fun c_9 => ?_) (fun c_9 => ?_)
          · rw [if_neg c_9] at hR
            have i_9 := rne c_9
            refine lv_iinc (v := (x3_1 + (1 : Int32))) (lv' := [(3, .int (x3_1 + (1 : Int32))), (0, .ref p0), (1, .int x1), (2, .int x2_1)]) hx hb dX0_plainBits_40 hl (k := 3) rfl rfl (by decide) rfl (fun ls hl => ?_)
            refine lv_goto (tgt := 4) hx hb dX0_plainBits_43 (by decide) ?_
            have j_11 : (1 : Int32).toInt = 1 := by decide
            try have j_12 : (x3_1 + (1 : Int32)).toInt = x3_1.toInt + (1 : Int32).toInt := fb_addI (by omega) (by omega)
            exact ih4 x2_1 (x3_1 + (1 : Int32)) H locs (by first | assumption | omega) hW hS ls (lv_sub hl [1, 2, 3, 0] rfl) hR
          · rw [if_pos c_9] at hR
            have i_9 := congrArg Int32.toInt c_9
            refine lv_iload_n hx hb dX0_plainBits_31 rfl (lv_at hl 2 rfl) ?_
            refine lv_aload_n hx hb dX0_plainBits_32 rfl (lv_at hl 0 rfl) ?_
            refine o_get hx hb hts hown hK hW (inBlk_o h_p0) rfl ig0 10 (by decide) fl_X0_33 rfl dX0_plainBits_33 ?_
            refine lv_iload_n hx hb dX0_plainBits_36 rfl (lv_at hl 3 rfl) ?_
            refine o_iald hx hb hK hW (inBlk_a7 h_p0) (vp_in_iff.mpr ⟨by omega, by omega⟩) dX0_plainBits_37 ?_
            refine lv_ior hx hb dX0_plainBits_38 ?_
            refine lv_istore_n (lv' := [(2, .int (x2_1 ||| ((p0_0 8) x3_1.toNatClampNeg))), (0, .ref p0), (1, .int x1), (3, .int x3_1)]) hx hb dX0_plainBits_39 rfl hl (by decide) rfl (fun ls hl => ?_)
            refine lv_iinc (v := (x3_1 + (1 : Int32))) (lv' := [(3, .int (x3_1 + (1 : Int32))), (2, .int (x2_1 ||| ((p0_0 8) x3_1.toNatClampNeg))), (0, .ref p0), (1, .int x1)]) hx hb dX0_plainBits_40 hl (k := 3) rfl rfl (by decide) rfl (fun ls hl => ?_)
            refine lv_goto (tgt := 4) hx hb dX0_plainBits_43 (by decide) ?_
            have j_13 : (1 : Int32).toInt = 1 := by decide
            try have j_14 : (x3_1 + (1 : Int32)).toInt = x3_1.toInt + (1 : Int32).toInt := fb_addI (by omega) (by omega)
            exact ih4 (x2_1 ||| ((p0_0 8) x3_1.toNatClampNeg)) (x3_1 + (1 : Int32)) H locs (by first | assumption | omega) hW hS ls (lv_sub hl [2, 3, 1, 0] rfl) hR
  have j_15 : (0 : Int32).toInt = 0 := by decide
  exact L4 4000 (0 : Int32) (0 : Int32) s.heap [] (by first | assumption | omega) hW hS ls (lv_sub hl [2, 3, 1, 0] rfl) hR
set_option maxHeartbeats 4000000 in
set_option maxRecDepth 100000 in
theorem c_X0_empty (l : Launch) (G : Gm) (A : Nat → Prop) (Ω : Om) (p0 : Nat) (p0_0 : Blk) (hB_p0 : BlkInv p0_0) (h_p0 : inBlk G Ω p0 p0_0) : Met l yX0_empty (wz yX0_empty cX0_empty 1 none) ({ frames := 0, cells := 0, slots := 0, locals := 0 } : Room) (va_Pc [.ref p0] (oS G A Ω)) (va_Qv (fun (Ω1 : Om) => inBlk G Ω1 p0 ((f_X0_empty p0_0)) ∧ (∀ q : Nat, (q < p0 ∨ p0 + 13 ≤ q) → Ω1 q = Ω q)) (oB G A) A) 0 0 A := by
  refine Met.ofW (cc := cX0_empty) (maxL := 1) (ret := none) (by decide) rfl ?_
  intro p e s m args below meth c s₁ B hml hv
  obtain ⟨rfl, hW, hK, hN⟩ := hv
  have hx := B.exec
  have hb := B.bytes
  have hr := B.returns
  have hts : ∀ w ∈ gt, w.before _ s = true := fun w hw => atoms_spec (ws := wz yX0_empty cX0_empty 1 none) B.pre w (List.mem_cons_of_mem _ hw)
  have hown : s.vm.findClass RX0 = some m.cls := findClass_of_methodNamed B.named
  have hlocks := B.notSynchronized
  have hA : ∀ q, A q → A q := fun _ h => h
  have hS : va_S A s.heap s.heap [] := va_S.rf
  have hS0 := hS
  have hl := lv_entry ([.ref p0]) (n := 1) (Nat.le_of_ble_eq_true rfl)
  rw [lg_entry_eq]
  generalize (lg_sl ([.ref p0]) ++ List.replicate (1 - (lg_sl ([.ref p0])).length) Slot.unset).toArray = ls at hl ⊢
  have hl : lv_has ls 1 [(0, .ref p0)] := hl
  have hE : ∀ q : Nat, (q < p0 ∨ p0 + 13 ≤ q) → Ω q = Ω q := by intros; rfl
  generalize hR : (f_X0_empty p0_0) = R
  rw [f_X0_empty] at hR
  refine lv_aload_n hx hb dX0_empty_0 rfl (lv_at hl 0 rfl) ?_
  refine lv_iconst (v := (0 : Int32)) hx hb dX0_empty_1 (by decide) ?_
  refine vBlk_0 hx hb hts hown hK hW hS hA h_p0 fl_X0_48 dX0_empty_2 (fun Ω_1 H locs h_p0 hF_1 hW hS => ?_)
  have hE : ∀ q : Nat, (q < p0 ∨ p0 + 13 ≤ q) → Ω_1 q = Ω q := fun q g0 => (hF_1 q (by omega)).trans (hE q g0)
  refine lv_aload_n hx hb dX0_empty_5 rfl (lv_at hl 0 rfl) ?_
  refine lv_iconst (v := (0 : Int32)) hx hb dX0_empty_6 (by decide) ?_
  refine vBlk_1 hx hb hts hown hK hW hS hA h_p0 fl_X0_52 dX0_empty_7 (fun Ω_2 H locs h_p0 hF_2 hW hS => ?_)
  have hE : ∀ q : Nat, (q < p0 ∨ p0 + 13 ≤ q) → Ω_2 q = Ω q := fun q g0 => (hF_2 q (by omega)).trans (hE q g0)
  refine lv_aload_n hx hb dX0_empty_10 rfl (lv_at hl 0 rfl) ?_
  refine lv_iconst (v := (0 : Int32)) hx hb dX0_empty_11 (by decide) ?_
  refine vBlk_2 hx hb hts hown hK hW hS hA h_p0 fl_X0_55 dX0_empty_12 (fun Ω_3 H locs h_p0 hF_3 hW hS => ?_)
  have hE : ∀ q : Nat, (q < p0 ∨ p0 + 13 ≤ q) → Ω_3 q = Ω q := fun q g0 => (hF_3 q (by omega)).trans (hE q g0)
  subst hR
  exact W.vret hx hb hr (fun t ht hW9 => ⟨⟨Ω_3, rfl, ⟨h_p0, hE⟩, by rw [oB, ht]; exact hW⟩, hS.F ht⟩) hS.2.2 dX0_empty_15
set_option maxHeartbeats 4000000 in
set_option maxRecDepth 100000 in
theorem c_X0_usedBits (l : Launch) (G : Gm) (A : Nat → Prop) (Ω : Om) (p0 : Nat) (p0_0 : Blk) (x1 : Int32) (hB_p0 : BlkInv p0_0) (h_p0 : inBlk G Ω p0 p0_0) : Met l yX0_usedBits (wz yX0_usedBits cX0_usedBits 4 (some .int)) ({ frames := 0, cells := 0, slots := 0, locals := 0 } : Room) (va_Pc [.ref p0, .int x1] (oS G A Ω)) (va_Qi (fun (r : Int32) (Ω1 : Om) => r = (f_X0_usedBits p0_0 x1) ∧ Ω1 = Ω) (oB G A) A) 0 0 A := by
  refine Met.ofW (cc := cX0_usedBits) (maxL := 4) (ret := (some .int)) (by decide) rfl ?_
  intro p e s m args below meth c s₁ B hml hv
  obtain ⟨rfl, hW, hK, hN⟩ := hv
  have hx := B.exec
  have hb := B.bytes
  have hr := B.returns
  have hts : ∀ w ∈ gt, w.before _ s = true := fun w hw => atoms_spec (ws := wz yX0_usedBits cX0_usedBits 4 (some .int)) B.pre w (List.mem_cons_of_mem _ hw)
  have hown : s.vm.findClass RX0 = some m.cls := findClass_of_methodNamed B.named
  have hlocks := B.notSynchronized
  have hA : ∀ q, A q → A q := fun _ h => h
  have hS : va_S A s.heap s.heap [] := va_S.rf
  have hS0 := hS
  have hl := lv_entry ([.ref p0, .int x1]) (n := 4) (Nat.le_of_ble_eq_true rfl)
  rw [lg_entry_eq]
  generalize (lg_sl ([.ref p0, .int x1]) ++ List.replicate (4 - (lg_sl ([.ref p0, .int x1])).length) Slot.unset).toArray = ls at hl ⊢
  have hl : lv_has ls 4 [(0, .ref p0), (1, .int x1)] := hl
  generalize hR : (f_X0_usedBits p0_0 x1) = R
  rw [f_X0_usedBits] at hR
  refine lv_iconst (v := (0 : Int32)) hx hb dX0_usedBits_0 (by decide) ?_
  refine lv_istore_n (lv' := [(2, .int (0 : Int32)), (0, .ref p0), (1, .int x1)]) hx hb dX0_usedBits_1 rfl hl (by decide) rfl (fun ls hl => ?_)
  refine lv_iconst (v := (0 : Int32)) hx hb dX0_usedBits_2 (by decide) ?_
  refine lv_istore_n (lv' := [(3, .int (0 : Int32)), (2, .int (0 : Int32)), (0, .ref p0), (1, .int x1)]) hx hb dX0_usedBits_3 rfl hl (by decide) rfl (fun ls hl => ?_)
  have L4 : ∀ (n_2 : Nat) (x2_1 : Int32) (x3_1 : Int32) (H : Heap) (locs : List Loc), (0 ≤ x3_1.toInt ∧ x3_1.toInt ≤ 12 ∧ 12 - x3_1.toInt < n_2) → oW G A Ω H → va_S A s.heap H locs → ∀ ls : Array Slot, lv_has ls 4 [(0, .ref p0), (1, .int x1), (2, .int x2_1), (3, .int x3_1)] → (f_X0_usedBits_L4 p0_0 x1 n_2 x2_1 x3_1) = R → W p l e (headSpec (wz yX0_usedBits cX0_usedBits 4 (some .int)) ({ frames := 0, cells := 0, slots := 0, locals := 0 } : Room)).room s m ([.ref p0, .int x1] : List Value).toArray below meth c H locs 0 0 (MQ below (va_Qi (fun (r : Int32) (Ω1 : Om) => r = R ∧ Ω1 = Ω) (oB G A) A) ([.ref p0, .int x1] : List Value).toArray s 0 0 A) (F0 m 4 ls []) := by
    intro n_2
    induction n_2 with
    | zero =>
      intro x2_1 x3_1 H locs v_4_0 hW hS ls hl hR
      exfalso
      omega
    | succ n_2 ih4 =>
      intro x2_1 x3_1 H locs v_4_0 hW hS ls hl hR
      rw [f_X0_usedBits_L4] at hR
      refine lv_iload_n hx hb dX0_usedBits_4 rfl (lv_at hl 3 rfl) ?_
      refine lv_aload_n hx hb dX0_usedBits_5 rfl (lv_at hl 0 rfl) ?_
      refine o_get hx hb hts hown hK hW (inBlk_o h_p0) rfl ig0 1 (by decide) fl_X0_52 rfl dX0_usedBits_6 ?_
      try have j_4 : 0 ≤ (p0_0 0 1).toInt ∧ (p0_0 0 1).toInt ≤ 12 := BI_flds (by assumption)
      refine lv_icmp_ge (tgt := 37) hx hb dX0_usedBits_9 (by decide) (fun c_3 => ?_) (fun c_3 => ?_)
      · rw [if_pos c_3] at hR
        have i_3 := rle c_3
        refine lv_iload_n hx hb dX0_usedBits_37 rfl (lv_at hl 2 rfl) ?_
        subst hR
        exact W.iret (v := x2_1) hx hb hr (fun t ht hW9 => ⟨⟨x2_1, Ω, rfl, ⟨rfl, rfl⟩, by rw [oB, ht]; exact hW⟩, hS.F ht⟩) hS.2.2 dX0_usedBits_38
      · rw [if_neg c_3] at hR
        have i_3 := rnle c_3
        refine lv_aload_n hx hb dX0_usedBits_12 rfl (lv_at hl 0 rfl) ?_
        refine o_get hx hb hts hown hK hW (inBlk_o h_p0) rfl ig0 6 (by decide) fl_X0_21 rfl dX0_usedBits_13 ?_
        refine lv_iload_n hx hb dX0_usedBits_16 rfl (lv_at hl 3 rfl) ?_
        refine o_iald hx hb hK hW (inBlk_a3 h_p0) (vp_in_iff.mpr ⟨by omega, by omega⟩) dX0_usedBits_17 ?_
        refine lv_iload_n hx hb dX0_usedBits_18 rfl (lv_at hl 1 rfl) ?_
        try have j_6 : 0 ≤ ((p0_0 4) x3_1.toNatClampNeg).toInt ∧ ((p0_0 4) x3_1.toNatClampNeg).toInt < 6 := BI_owner (by assumption) _
        refine lv_icmp_ne (tgt := 31) hx hb dX0_usedBits_19 (by decide) (fun c_5 => ?_) (fun c_5 => ?_)
        · rw [if_neg c_5] at hR
          have i_5 := rne c_5
          refine lv_iinc (v := (x3_1 + (1 : Int32))) (lv' := [(3, .int (x3_1 + (1 : Int32))), (0, .ref p0), (1, .int x1), (2, .int x2_1)]) hx hb dX0_usedBits_31 hl (k := 3) rfl rfl (by decide) rfl (fun ls hl => ?_)
          refine lv_goto (tgt := 4) hx hb dX0_usedBits_34 (by decide) ?_
          have j_7 : (1 : Int32).toInt = 1 := by decide
          try have j_8 : (x3_1 + (1 : Int32)).toInt = x3_1.toInt + (1 : Int32).toInt := fb_addI (by omega) (by omega)
          exact ih4 x2_1 (x3_1 + (1 : Int32)) H locs (by first | assumption | omega) hW hS ls (lv_sub hl [1, 2, 3, 0] rfl) hR
        · rw [if_pos c_5] at hR
          have i_5 := congrArg Int32.toInt c_5
          refine lv_iload_n hx hb dX0_usedBits_22 rfl (lv_at hl 2 rfl) ?_
          refine lv_aload_n hx hb dX0_usedBits_23 rfl (lv_at hl 0 rfl) ?_
          refine o_get hx hb hts hown hK hW (inBlk_o h_p0) rfl ig0 10 (by decide) fl_X0_33 rfl dX0_usedBits_24 ?_
          refine lv_iload_n hx hb dX0_usedBits_27 rfl (lv_at hl 3 rfl) ?_
          refine o_iald hx hb hK hW (inBlk_a7 h_p0) (vp_in_iff.mpr ⟨by omega, by omega⟩) dX0_usedBits_28 ?_
          refine lv_ior hx hb dX0_usedBits_29 ?_
          refine lv_istore_n (lv' := [(2, .int (x2_1 ||| ((p0_0 8) x3_1.toNatClampNeg))), (0, .ref p0), (1, .int x1), (3, .int x3_1)]) hx hb dX0_usedBits_30 rfl hl (by decide) rfl (fun ls hl => ?_)
          refine lv_iinc (v := (x3_1 + (1 : Int32))) (lv' := [(3, .int (x3_1 + (1 : Int32))), (2, .int (x2_1 ||| ((p0_0 8) x3_1.toNatClampNeg))), (0, .ref p0), (1, .int x1)]) hx hb dX0_usedBits_31 hl (k := 3) rfl rfl (by decide) rfl (fun ls hl => ?_)
          refine lv_goto (tgt := 4) hx hb dX0_usedBits_34 (by decide) ?_
          have j_9 : (1 : Int32).toInt = 1 := by decide
          try have j_10 : (x3_1 + (1 : Int32)).toInt = x3_1.toInt + (1 : Int32).toInt := fb_addI (by omega) (by omega)
          exact ih4 (x2_1 ||| ((p0_0 8) x3_1.toNatClampNeg)) (x3_1 + (1 : Int32)) H locs (by first | assumption | omega) hW hS ls (lv_sub hl [2, 3, 1, 0] rfl) hR
  have j_11 : (0 : Int32).toInt = 0 := by decide
  exact L4 4000 (0 : Int32) (0 : Int32) s.heap [] (by first | assumption | omega) hW hS ls (lv_sub hl [2, 3, 1, 0] rfl) hR
set_option maxHeartbeats 4000000 in
set_option maxRecDepth 100000 in
theorem c_X1_brokenFields (l : Launch) (G : Gm) (A : Nat → Prop) (Ω : Om) (p0 : Nat) (p1 : Nat) (p0_0 : Fn) (p0_1 : Fn) (p0_2 : Fn) (p0_3 : Fn) (p1_0 : Blk) (hB_p1 : BlkInv p1_0) (h_p0 : inDev G Ω p0 p0_0 p0_1 p0_2 p0_3) (h_p1 : inBlk G Ω p1 p1_0) : Met l yX1_brokenFields (wz yX1_brokenFields cX1_brokenFields 4 (some .int)) ({ frames := 0, cells := 0, slots := 0, locals := 0 } : Room) (va_Pc [.ref p0, .ref p1] (oS G A Ω)) (va_Qi (fun (r : Int32) (Ω1 : Om) => r = (f_X1_brokenFields p0_3 p1_0) ∧ Ω1 = Ω) (oB G A) A) 0 0 A := by
  refine Met.ofW (cc := cX1_brokenFields) (maxL := 4) (ret := (some .int)) (by decide) rfl ?_
  intro p e s m args below meth c s₁ B hml hv
  obtain ⟨rfl, hW, hK, hN⟩ := hv
  have hx := B.exec
  have hb := B.bytes
  have hr := B.returns
  have hts : ∀ w ∈ gt, w.before _ s = true := fun w hw => atoms_spec (ws := wz yX1_brokenFields cX1_brokenFields 4 (some .int)) B.pre w (List.mem_cons_of_mem _ hw)
  have hown : s.vm.findClass RX1 = some m.cls := findClass_of_methodNamed B.named
  have hlocks := B.notSynchronized
  have hA : ∀ q, A q → A q := fun _ h => h
  have hS : va_S A s.heap s.heap [] := va_S.rf
  have hS0 := hS
  have hl := lv_entry ([.ref p0, .ref p1]) (n := 4) (Nat.le_of_ble_eq_true rfl)
  rw [lg_entry_eq]
  generalize (lg_sl ([.ref p0, .ref p1]) ++ List.replicate (4 - (lg_sl ([.ref p0, .ref p1])).length) Slot.unset).toArray = ls at hl ⊢
  have hl : lv_has ls 4 [(0, .ref p0), (1, .ref p1)] := hl
  generalize hR : (f_X1_brokenFields p0_3 p1_0) = R
  rw [f_X1_brokenFields] at hR
  refine lv_iconst (v := (0 : Int32)) hx hb dX1_brokenFields_0 (by decide) ?_
  refine lv_istore_n (lv' := [(2, .int (0 : Int32)), (0, .ref p0), (1, .ref p1)]) hx hb dX1_brokenFields_1 rfl hl (by decide) rfl (fun ls hl => ?_)
  refine lv_iconst (v := (0 : Int32)) hx hb dX1_brokenFields_2 (by decide) ?_
  refine lv_istore_n (lv' := [(3, .int (0 : Int32)), (2, .int (0 : Int32)), (0, .ref p0), (1, .ref p1)]) hx hb dX1_brokenFields_3 rfl hl (by decide) rfl (fun ls hl => ?_)
  have L4 : ∀ (n_2 : Nat) (x2_1 : Int32) (x3_1 : Int32) (H : Heap) (locs : List Loc), (0 ≤ x3_1.toInt ∧ x3_1.toInt ≤ 12 ∧ 12 - x3_1.toInt < n_2) → oW G A Ω H → va_S A s.heap H locs → ∀ ls : Array Slot, lv_has ls 4 [(0, .ref p0), (1, .ref p1), (2, .int x2_1), (3, .int x3_1)] → (f_X1_brokenFields_L4 p0_3 p1_0 n_2 x2_1 x3_1) = R → W p l e (headSpec (wz yX1_brokenFields cX1_brokenFields 4 (some .int)) ({ frames := 0, cells := 0, slots := 0, locals := 0 } : Room)).room s m ([.ref p0, .ref p1] : List Value).toArray below meth c H locs 0 0 (MQ below (va_Qi (fun (r : Int32) (Ω1 : Om) => r = R ∧ Ω1 = Ω) (oB G A) A) ([.ref p0, .ref p1] : List Value).toArray s 0 0 A) (F0 m 4 ls []) := by
    intro n_2
    induction n_2 with
    | zero =>
      intro x2_1 x3_1 H locs v_4_0 hW hS ls hl hR
      exfalso
      omega
    | succ n_2 ih4 =>
      intro x2_1 x3_1 H locs v_4_0 hW hS ls hl hR
      rw [f_X1_brokenFields_L4] at hR
      refine lv_iload_n hx hb dX1_brokenFields_4 rfl (lv_at hl 3 rfl) ?_
      refine lv_aload_n hx hb dX1_brokenFields_5 rfl (lv_at hl 1 rfl) ?_
      refine o_get hx hb hts hown hK hW (inBlk_o h_p1) rfl ig0 1 (by decide) fl_X1_36 rfl dX1_brokenFields_6 ?_
      try have j_4 : 0 ≤ (p1_0 0 1).toInt ∧ (p1_0 0 1).toInt ≤ 12 := BI_flds (by assumption)
      refine lv_icmp_ge (tgt := 36) hx hb dX1_brokenFields_9 (by decide) (fun c_3 => ?_) (fun c_3 => ?_)
      · rw [if_pos c_3] at hR
        have i_3 := rle c_3
        refine lv_iload_n hx hb dX1_brokenFields_36 rfl (lv_at hl 2 rfl) ?_
        subst hR
        exact W.iret (v := x2_1) hx hb hr (fun t ht hW9 => ⟨⟨x2_1, Ω, rfl, ⟨rfl, rfl⟩, by rw [oB, ht]; exact hW⟩, hS.F ht⟩) hS.2.2 dX1_brokenFields_37
      · rw [if_neg c_3] at hR
        have i_3 := rnle c_3
        refine lv_aload_n hx hb dX1_brokenFields_12 rfl (lv_at hl 0 rfl) ?_
        refine o_get hx hb hts hown hK hW (inDev_o h_p0) rfl ig1 3 (by decide) fl_X1_22 rfl dX1_brokenFields_13 ?_
        refine lv_iload_n hx hb dX1_brokenFields_16 rfl (lv_at hl 3 rfl) ?_
        refine o_iald hx hb hK hW (inDev_a3 h_p0) (vp_in_iff.mpr ⟨by omega, by omega⟩) dX1_brokenFields_17 ?_
        refine lv_aload_n hx hb dX1_brokenFields_18 rfl (lv_at hl 1 rfl) ?_
        refine o_get hx hb hts hown hK hW (inBlk_o h_p1) rfl ig0 7 (by decide) fl_X1_31 rfl dX1_brokenFields_19 ?_
        refine lv_iload_n hx hb dX1_brokenFields_22 rfl (lv_at hl 3 rfl) ?_
        refine o_iald hx hb hK hW (inBlk_a4 h_p1) (vp_in_iff.mpr ⟨by omega, by omega⟩) dX1_brokenFields_23 ?_
        refine lv_icmp_eq (tgt := 30) hx hb dX1_brokenFields_24 (by decide) (fun c_5 => ?_) (fun c_5 => ?_)
        · rw [if_pos c_5] at hR
          have i_5 := congrArg Int32.toInt c_5
          refine lv_iinc (v := (x3_1 + (1 : Int32))) (lv' := [(3, .int (x3_1 + (1 : Int32))), (0, .ref p0), (1, .ref p1), (2, .int x2_1)]) hx hb dX1_brokenFields_30 hl (k := 3) rfl rfl (by decide) rfl (fun ls hl => ?_)
          refine lv_goto (tgt := 4) hx hb dX1_brokenFields_33 (by decide) ?_
          have j_6 : (1 : Int32).toInt = 1 := by decide
          try have j_7 : (x3_1 + (1 : Int32)).toInt = x3_1.toInt + (1 : Int32).toInt := fb_addI (by omega) (by omega)
          exact ih4 x2_1 (x3_1 + (1 : Int32)) H locs (by first | assumption | omega) hW hS ls (lv_sub hl [1, 2, 3, 0] rfl) hR
        · rw [if_neg c_5] at hR
          have i_5 := rne c_5
          refine lv_iinc (v := (x2_1 + (1 : Int32))) (lv' := [(2, .int (x2_1 + (1 : Int32))), (0, .ref p0), (1, .ref p1), (3, .int x3_1)]) hx hb dX1_brokenFields_27 hl (k := 2) rfl rfl (by decide) rfl (fun ls hl => ?_)
          refine lv_iinc (v := (x3_1 + (1 : Int32))) (lv' := [(3, .int (x3_1 + (1 : Int32))), (2, .int (x2_1 + (1 : Int32))), (0, .ref p0), (1, .ref p1)]) hx hb dX1_brokenFields_30 hl (k := 3) rfl rfl (by decide) rfl (fun ls hl => ?_)
          refine lv_goto (tgt := 4) hx hb dX1_brokenFields_33 (by decide) ?_
          have j_8 : (1 : Int32).toInt = 1 := by decide
          try have j_9 : (x2_1 + (1 : Int32)).toInt = x2_1.toInt + (1 : Int32).toInt := fb_addI (by omega) (by omega)
          try have j_10 : (x3_1 + (1 : Int32)).toInt = x3_1.toInt + (1 : Int32).toInt := fb_addI (by omega) (by omega)
          exact ih4 (x2_1 + (1 : Int32)) (x3_1 + (1 : Int32)) H locs (by first | assumption | omega) hW hS ls (lv_sub hl [2, 3, 1, 0] rfl) hR
  have j_11 : (0 : Int32).toInt = 0 := by decide
  exact L4 4000 (0 : Int32) (0 : Int32) s.heap [] (by first | assumption | omega) hW hS ls (lv_sub hl [2, 3, 1, 0] rfl) hR
set_option maxHeartbeats 4000000 in
set_option maxRecDepth 100000 in
theorem c_X1_learn (l : Launch) (G : Gm) (A : Nat → Prop) (Ω : Om) (p0 : Nat) (p1 : Nat) (p0_0 : Fn) (p0_1 : Fn) (p0_2 : Fn) (p0_3 : Fn) (p1_0 : Blk) (x2 : Int32) (x3 : Int32) (hd_p0_p1 : p0 + 5 ≤ p1 ∨ p1 + 13 ≤ p0) (hB_p1 : BlkInv p1_0) (h_p0 : inDev G Ω p0 p0_0 p0_1 p0_2 p0_3) (h_p1 : inBlk G Ω p1 p1_0) : Met l yX1_learn (wz yX1_learn cX1_learn 6 none) ({ frames := 3, cells := 0, slots := 0, locals := 66 } : Room) (va_Pc [.ref p0, .ref p1, .int x2, .int x3] (oS G A Ω)) (va_Qv (fun (Ω1 : Om) => inDev G Ω1 p0 ((f_X1_learn p0_0 p0_3 p1_0 x2 x3)) p0_1 p0_2 p0_3 ∧ (∀ q : Nat, (q < p0 ∨ p0 + 5 ≤ q) → Ω1 q = Ω q)) (oB G A) A) 0 0 A := by
  refine Met.ofW (cc := cX1_learn) (maxL := 6) (ret := none) (by decide) rfl ?_
  intro p e s m args below meth c s₁ B hml hv
  obtain ⟨rfl, hW, hK, hN⟩ := hv
  have hx := B.exec
  have hb := B.bytes
  have hr := B.returns
  have hts : ∀ w ∈ gt, w.before _ s = true := fun w hw => atoms_spec (ws := wz yX1_learn cX1_learn 6 none) B.pre w (List.mem_cons_of_mem _ hw)
  have hown : s.vm.findClass RX1 = some m.cls := findClass_of_methodNamed B.named
  have hlocks := B.notSynchronized
  have hA : ∀ q, A q → A q := fun _ h => h
  have hS : va_S A s.heap s.heap [] := va_S.rf
  have hS0 := hS
  have hl := lv_entry ([.ref p0, .ref p1, .int x2, .int x3]) (n := 6) (Nat.le_of_ble_eq_true rfl)
  rw [lg_entry_eq]
  generalize (lg_sl ([.ref p0, .ref p1, .int x2, .int x3]) ++ List.replicate (6 - (lg_sl ([.ref p0, .ref p1, .int x2, .int x3])).length) Slot.unset).toArray = ls at hl ⊢
  have hl : lv_has ls 6 [(0, .ref p0), (1, .ref p1), (2, .int x2), (3, .int x3)] := hl
  have hE : ∀ q : Nat, (q < p0 ∨ p0 + 5 ≤ q) → Ω q = Ω q := by intros; rfl
  generalize hR : (f_X1_learn p0_0 p0_3 p1_0 x2 x3) = R
  rw [f_X1_learn] at hR
  refine lv_aload_n hx hb dX1_learn_0 rfl (lv_at hl 1 rfl) ?_
  refine lv_iload_n hx hb dX1_learn_1 rfl (lv_at hl 2 rfl) ?_
  refine o_ViR (rest := []) (As := [.int x2]) (n := 1) hx hb hml hown hts hK hN hW hS hA (c_X0_registerBehind l G A Ω p1 p1_0 x2 (by first | assumption | omega) h_p1) (inBlk_o h_p1) rfl (good_V ml_X1_70 im_X0_registerBehind se_X0_registerBehind ini_X0 co_X0_registerBehind) (by decide +kernel) ⟨Nat.zero_le _, Nat.zero_le _⟩ hl.1 (Nat.le_of_ble_eq_true rfl) rfl rfl dX1_learn_2 (fun r H locs hp hW hS => ?_)
  subst hp
  refine lv_istore (lv' := [(4, .int (f_X0_registerBehind p1_0 x2)), (0, .ref p0), (1, .ref p1), (2, .int x2), (3, .int x3)]) hx hb dX1_learn_5 hl (by decide) rfl (fun ls hl => ?_)
  refine lv_iconst (v := (0 : Int32)) hx hb dX1_learn_7 (by decide) ?_
  refine lv_istore (lv' := [(5, .int (0 : Int32)), (4, .int (f_X0_registerBehind p1_0 x2)), (0, .ref p0), (1, .ref p1), (2, .int x2), (3, .int x3)]) hx hb dX1_learn_8 hl (by decide) rfl (fun ls hl => ?_)
  have L10 : ∀ (n_3 : Nat) (x5_2 : Int32) (p0_0_2 : Fn) (Ω_4 : Om) (H : Heap) (locs : List Loc), (0 ≤ x5_2.toInt ∧ x5_2.toInt ≤ 12 ∧ 12 - x5_2.toInt < n_3) → inDev G Ω_4 p0 p0_0_2 p0_1 p0_2 p0_3 → inBlk G Ω_4 p1 p1_0 → (∀ q : Nat, (q < p0 ∨ p0 + 5 ≤ q) → Ω_4 q = Ω q) → oW G A Ω_4 H → va_S A s.heap H locs → ∀ ls : Array Slot, lv_has ls 6 [(0, .ref p0), (1, .ref p1), (3, .int x3), (4, .int (f_X0_registerBehind p1_0 x2)), (5, .int x5_2)] → (f_X1_learn_L10 p0_3 p1_0 x3 (f_X0_registerBehind p1_0 x2) n_3 x5_2 p0_0_2) = R → W p l e (headSpec (wz yX1_learn cX1_learn 6 none) ({ frames := 3, cells := 0, slots := 0, locals := 66 } : Room)).room s m ([.ref p0, .ref p1, .int x2, .int x3] : List Value).toArray below meth c H locs 0 0 (MQ below (va_Qv (fun (Ω1 : Om) => inDev G Ω1 p0 (R) p0_1 p0_2 p0_3 ∧ (∀ q : Nat, (q < p0 ∨ p0 + 5 ≤ q) → Ω1 q = Ω q)) (oB G A) A) ([.ref p0, .ref p1, .int x2, .int x3] : List Value).toArray s 0 0 A) (F0 m 10 ls []) := by
    intro n_3
    induction n_3 with
    | zero =>
      intro x5_2 p0_0_2 Ω_4 H locs v_10_0 h_p0 h_p1 hE hW hS ls hl hR
      exfalso
      omega
    | succ n_3 ih10 =>
      intro x5_2 p0_0_2 Ω_4 H locs v_10_0 h_p0 h_p1 hE hW hS ls hl hR
      rw [f_X1_learn_L10] at hR
      refine lv_iload hx hb dX1_learn_10 (lv_at hl 4 rfl) ?_
      refine lv_aload_n hx hb dX1_learn_12 rfl (lv_at hl 1 rfl) ?_
      refine o_get hx hb hts hown hK hW (inBlk_o h_p1) rfl ig0 1 (by decide) fl_X1_36 rfl dX1_learn_13 ?_
      try have j_6 : 0 ≤ (p1_0 0 1).toInt ∧ (p1_0 0 1).toInt ≤ 12 := BI_flds (by assumption)
      refine lv_icmp_ge (tgt := 56) hx hb dX1_learn_16 (by decide) (fun c_5 => ?_) (fun c_5 => ?_)
      · rw [if_pos c_5] at hR
        have i_5 := rle c_5
        subst hR
        exact W.vret hx hb hr (fun t ht hW9 => ⟨⟨Ω_4, rfl, ⟨h_p0, hE⟩, by rw [oB, ht]; exact hW⟩, hS.F ht⟩) hS.2.2 dX1_learn_56
      · rw [if_neg c_5] at hR
        have i_5 := rnle c_5
        refine lv_aload_n hx hb dX1_learn_19 rfl (lv_at hl 1 rfl) ?_
        refine o_get hx hb hts hown hK hW (inBlk_o h_p1) rfl ig0 6 (by decide) fl_X1_47 rfl dX1_learn_20 ?_
        refine lv_iload hx hb dX1_learn_23 (lv_at hl 4 rfl) ?_
        refine o_iald hx hb hK hW (inBlk_a3 h_p1) (vp_in_iff.mpr ⟨by omega, by omega⟩) dX1_learn_25 ?_
        refine lv_iload hx hb dX1_learn_26 (lv_at hl 3 rfl) ?_
        try have j_8 : 0 ≤ ((p1_0 4) x5_2.toNatClampNeg).toInt ∧ ((p1_0 4) x5_2.toNatClampNeg).toInt < 6 := BI_owner (by assumption) _
        try have j_9 : (f_X0_registerBehind p1_0 x2).toInt = -9 ∨ (0 ≤ (f_X0_registerBehind p1_0 x2).toInt ∧ (f_X0_registerBehind p1_0 x2).toInt < 6) := R_registerBehind (by assumption) _
        refine lv_icmp_ne (tgt := 50) hx hb dX1_learn_28 (by decide) (fun c_7 => ?_) (fun c_7 => ?_)
        · rw [if_neg c_7] at hR
          have i_7 := rne c_7
          refine lv_iinc (v := (x5_2 + (1 : Int32))) (lv' := [(5, .int (x5_2 + (1 : Int32))), (0, .ref p0), (1, .ref p1), (3, .int x3), (4, .int (f_X0_registerBehind p1_0 x2))]) hx hb dX1_learn_50 hl (k := 4) rfl rfl (by decide) rfl (fun ls hl => ?_)
          refine lv_goto (tgt := 10) hx hb dX1_learn_53 (by decide) ?_
          have j_10 : (1 : Int32).toInt = 1 := by decide
          try have j_11 : (x5_2 + (1 : Int32)).toInt = x5_2.toInt + (1 : Int32).toInt := fb_addI (by omega) (by omega)
          exact ih10 (x5_2 + (1 : Int32)) p0_0_2 Ω_4 H locs (by first | assumption | omega) h_p0 h_p1 hE hW hS ls (lv_sub hl [1, 2, 3, 4, 0] rfl) hR
        · rw [if_pos c_7] at hR
          have i_7 := congrArg Int32.toInt c_7
          refine lv_aload_n hx hb dX1_learn_31 rfl (lv_at hl 0 rfl) ?_
          refine o_get hx hb hts hown hK hW (inDev_o h_p0) rfl ig1 3 (by decide) fl_X1_22 rfl dX1_learn_32 ?_
          refine lv_iload hx hb dX1_learn_35 (lv_at hl 4 rfl) ?_
          refine o_iald hx hb hK hW (inDev_a3 h_p0) (vp_in_iff.mpr ⟨by omega, by omega⟩) dX1_learn_37 ?_
          refine lv_iconst (v := (2 : Int32)) hx hb dX1_learn_38 (by decide) ?_
          have j_13 : (2 : Int32).toInt = 2 := by decide
          refine lv_icmp_eq (tgt := 50) hx hb dX1_learn_39 (by decide) (fun c_12 => ?_) (fun c_12 => ?_)
          · rw [if_pos c_12] at hR
            have i_12 := congrArg Int32.toInt c_12
            refine lv_iinc (v := (x5_2 + (1 : Int32))) (lv' := [(5, .int (x5_2 + (1 : Int32))), (0, .ref p0), (1, .ref p1), (3, .int x3), (4, .int (f_X0_registerBehind p1_0 x2))]) hx hb dX1_learn_50 hl (k := 4) rfl rfl (by decide) rfl (fun ls hl => ?_)
            refine lv_goto (tgt := 10) hx hb dX1_learn_53 (by decide) ?_
            have j_14 : (1 : Int32).toInt = 1 := by decide
            try have j_15 : (x5_2 + (1 : Int32)).toInt = x5_2.toInt + (1 : Int32).toInt := fb_addI (by omega) (by omega)
            exact ih10 (x5_2 + (1 : Int32)) p0_0_2 Ω_4 H locs (by first | assumption | omega) h_p0 h_p1 hE hW hS ls (lv_sub hl [1, 2, 3, 4, 0] rfl) hR
          · rw [if_neg c_12] at hR
            have i_12 := rne c_12
            refine lv_aload_n hx hb dX1_learn_42 rfl (lv_at hl 0 rfl) ?_
            refine lv_aload_n hx hb dX1_learn_43 rfl (lv_at hl 1 rfl) ?_
            refine lv_iload hx hb dX1_learn_44 (lv_at hl 4 rfl) ?_
            refine lv_iload_n hx hb dX1_learn_46 rfl (lv_at hl 2 rfl) ?_
            refine o_Vv (rest := []) (As := [.ref p1, .int x5_2, .int x3]) (n := 3) hx hb hml hown hts hK hN hW hS hA (c_X1_putBits l G A Ω_4 p0 p1 p0_0_2 p0_1 p0_2 p0_3 p1_0 x5_2 x3 (by omega) (by first | assumption | omega) (by first | assumption | omega) h_p0 h_p1) (inDev_o h_p0) rfl (good_V ml_X1_56 im_X1_putBits se_X1_putBits ini_X1 co_X1_putBits) (by decide +kernel) ⟨Nat.zero_le _, Nat.zero_le _⟩ hl.1 (Nat.le_of_ble_eq_true rfl) rfl rfl dX1_learn_47 (fun Ω_16 H locs hp hW hS => ?_)
            obtain ⟨h_p0, hF_16⟩ := hp
            have h_p1 := h_p1.keep (fun q h1 h2 => hF_16 q (by omega))
            have hE : ∀ q : Nat, (q < p0 ∨ p0 + 5 ≤ q) → Ω_16 q = Ω q := fun q g0 => (hF_16 q (by omega)).trans (hE q g0)
            refine lv_iinc (v := (x5_2 + (1 : Int32))) (lv' := [(5, .int (x5_2 + (1 : Int32))), (0, .ref p0), (1, .ref p1), (3, .int x3), (4, .int (f_X0_registerBehind p1_0 x2))]) hx hb dX1_learn_50 hl (k := 4) rfl rfl (by decide) rfl (fun ls hl => ?_)
            refine lv_goto (tgt := 10) hx hb dX1_learn_53 (by decide) ?_
            have j_17 : (1 : Int32).toInt = 1 := by decide
            try have j_18 : (x5_2 + (1 : Int32)).toInt = x5_2.toInt + (1 : Int32).toInt := fb_addI (by omega) (by omega)
            exact ih10 (x5_2 + (1 : Int32)) (f_X1_putBits p0_0_2 p1_0 x5_2 x3) Ω_16 H locs (by first | assumption | omega) h_p0 h_p1 hE hW hS ls (lv_sub hl [1, 2, 3, 4, 0] rfl) hR
  have j_19 : (0 : Int32).toInt = 0 := by decide
  exact L10 4000 (0 : Int32) p0_0 Ω H locs (by first | assumption | omega) h_p0 h_p1 hE hW hS ls (lv_sub hl [2, 3, 5, 1, 0] rfl) hR
set_option maxHeartbeats 4000000 in
set_option maxRecDepth 100000 in
theorem c_X3_copyFrom (l : Launch) (G : Gm) (A : Nat → Prop) (Ω : Om) (p0 : Nat) (p1 : Nat) (p0_0 : Int32) (p0_1 : Fn) (p0_2 : Fn) (p0_3 : Fn) (p1_0 : Int32) (p1_1 : Fn) (p1_2 : Fn) (p1_3 : Fn) (hd_p0_p1 : p0 + 4 ≤ p1 ∨ p1 + 4 ≤ p0) (hJ_p0 : 0 ≤ p0_0.toInt ∧ p0_0.toInt ≤ 20) (hJ_p1 : 0 ≤ p1_0.toInt ∧ p1_0.toInt ≤ 20) (h_p0 : inJou G Ω p0 p0_0 p0_1 p0_2 p0_3) (h_p1 : inJou G Ω p1 p1_0 p1_1 p1_2 p1_3) : Met l yX3_copyFrom (wz yX3_copyFrom cX3_copyFrom 3 none) ({ frames := 0, cells := 0, slots := 0, locals := 0 } : Room) (va_Pc [.ref p0, .ref p1] (oS G A Ω)) (va_Qv (fun (Ω1 : Om) => inJou G Ω1 p0 ((f_X3_copyFrom p0_1 p0_2 p0_3 p1_0 p1_1 p1_2 p1_3).1) ((f_X3_copyFrom p0_1 p0_2 p0_3 p1_0 p1_1 p1_2 p1_3).2.1) ((f_X3_copyFrom p0_1 p0_2 p0_3 p1_0 p1_1 p1_2 p1_3).2.2.1) ((f_X3_copyFrom p0_1 p0_2 p0_3 p1_0 p1_1 p1_2 p1_3).2.2.2) ∧ (∀ q : Nat, (q < p0 ∨ p0 + 4 ≤ q) → Ω1 q = Ω q)) (oB G A) A) 0 0 A := by
  refine Met.ofW (cc := cX3_copyFrom) (maxL := 3) (ret := none) (by decide) rfl ?_
  intro p e s m args below meth c s₁ B hml hv
  obtain ⟨rfl, hW, hK, hN⟩ := hv
  have hx := B.exec
  have hb := B.bytes
  have hr := B.returns
  have hts : ∀ w ∈ gt, w.before _ s = true := fun w hw => atoms_spec (ws := wz yX3_copyFrom cX3_copyFrom 3 none) B.pre w (List.mem_cons_of_mem _ hw)
  have hown : s.vm.findClass RX3 = some m.cls := findClass_of_methodNamed B.named
  have hlocks := B.notSynchronized
  have hA : ∀ q, A q → A q := fun _ h => h
  have hS : va_S A s.heap s.heap [] := va_S.rf
  have hS0 := hS
  have hl := lv_entry ([.ref p0, .ref p1]) (n := 3) (Nat.le_of_ble_eq_true rfl)
  rw [lg_entry_eq]
  generalize (lg_sl ([.ref p0, .ref p1]) ++ List.replicate (3 - (lg_sl ([.ref p0, .ref p1])).length) Slot.unset).toArray = ls at hl ⊢
  have hl : lv_has ls 3 [(0, .ref p0), (1, .ref p1)] := hl
  have hE : ∀ q : Nat, (q < p0 ∨ p0 + 4 ≤ q) → Ω q = Ω q := by intros; rfl
  generalize hR : (f_X3_copyFrom p0_1 p0_2 p0_3 p1_0 p1_1 p1_2 p1_3) = R
  rw [f_X3_copyFrom] at hR
  refine lv_aload_n hx hb dX3_copyFrom_0 rfl (lv_at hl 0 rfl) ?_
  refine lv_aload_n hx hb dX3_copyFrom_1 rfl (lv_at hl 1 rfl) ?_
  refine o_get hx hb hts hown hK hW (inJou_o h_p1) rfl ig3 0 (by decide) fl_X3_22 rfl dX3_copyFrom_2 ?_
  refine vJou_0 hx hb hts hown hK hW hS hA h_p0 fl_X3_22 dX3_copyFrom_5 (fun Ω_1 H locs h_p0 hF_1 hW hS => ?_)
  have h_p1 := h_p1.keep (fun q h1 h2 => hF_1 q (by omega))
  have hE : ∀ q : Nat, (q < p0 ∨ p0 + 4 ≤ q) → Ω_1 q = Ω q := fun q g0 => (hF_1 q (by omega)).trans (hE q g0)
  refine lv_iconst (v := (0 : Int32)) hx hb dX3_copyFrom_8 (by decide) ?_
  refine lv_istore_n (lv' := [(2, .int (0 : Int32)), (0, .ref p0), (1, .ref p1)]) hx hb dX3_copyFrom_9 rfl hl (by decide) rfl (fun ls hl => ?_)
  have L10 : ∀ (n_3 : Nat) (x2_2 : Int32) (p0_1_2 : Fn) (p0_2_2 : Fn) (p0_3_2 : Fn) (Ω_4 : Om) (H : Heap) (locs : List Loc), (0 ≤ x2_2.toInt ∧ x2_2.toInt ≤ 20 ∧ 20 - x2_2.toInt < n_3) → inJou G Ω_4 p0 p1_0 p0_1_2 p0_2_2 p0_3_2 → inJou G Ω_4 p1 p1_0 p1_1 p1_2 p1_3 → (∀ q : Nat, (q < p0 ∨ p0 + 4 ≤ q) → Ω_4 q = Ω q) → oW G A Ω_4 H → va_S A s.heap H locs → ∀ ls : Array Slot, lv_has ls 3 [(0, .ref p0), (1, .ref p1), (2, .int x2_2)] → (f_X3_copyFrom_L10 p1_0 p1_1 p1_2 p1_3 n_3 x2_2 p0_1_2 p0_2_2 p0_3_2) = R → W p l e (headSpec (wz yX3_copyFrom cX3_copyFrom 3 none) ({ frames := 0, cells := 0, slots := 0, locals := 0 } : Room)).room s m ([.ref p0, .ref p1] : List Value).toArray below meth c H locs 0 0 (MQ below (va_Qv (fun (Ω1 : Om) => inJou G Ω1 p0 (R.1) (R.2.1) (R.2.2.1) (R.2.2.2) ∧ (∀ q : Nat, (q < p0 ∨ p0 + 4 ≤ q) → Ω1 q = Ω q)) (oB G A) A) ([.ref p0, .ref p1] : List Value).toArray s 0 0 A) (F0 m 10 ls []) := by
    intro n_3
    induction n_3 with
    | zero =>
      intro x2_2 p0_1_2 p0_2_2 p0_3_2 Ω_4 H locs v_10_0 h_p0 h_p1 hE hW hS ls hl hR
      exfalso
      omega
    | succ n_3 ih10 =>
      intro x2_2 p0_1_2 p0_2_2 p0_3_2 Ω_4 H locs v_10_0 h_p0 h_p1 hE hW hS ls hl hR
      rw [f_X3_copyFrom_L10] at hR
      refine lv_iload_n hx hb dX3_copyFrom_10 rfl (lv_at hl 2 rfl) ?_
      refine lv_bipush (v := (20 : Int32)) hx hb dX3_copyFrom_11 (by decide) ?_
      have j_6 : (20 : Int32).toInt = 20 := by decide
      refine lv_icmp_ge (tgt := 58) hx hb dX3_copyFrom_13 (by decide) (fun c_5 => ?_) (fun c_5 => ?_)
      · rw [if_pos c_5] at hR
        have i_5 := rle c_5
        subst hR
        exact W.vret hx hb hr (fun t ht hW9 => ⟨⟨Ω_4, rfl, ⟨h_p0, hE⟩, by rw [oB, ht]; exact hW⟩, hS.F ht⟩) hS.2.2 dX3_copyFrom_58
      · rw [if_neg c_5] at hR
        have i_5 := rnle c_5
        refine lv_aload_n hx hb dX3_copyFrom_16 rfl (lv_at hl 0 rfl) ?_
        refine o_get hx hb hts hown hK hW (inJou_o h_p0) rfl ig3 1 (by decide) fl_X3_9 rfl dX3_copyFrom_17 ?_
        refine lv_iload_n hx hb dX3_copyFrom_20 rfl (lv_at hl 2 rfl) ?_
        refine lv_aload_n hx hb dX3_copyFrom_21 rfl (lv_at hl 1 rfl) ?_
        refine o_get hx hb hts hown hK hW (inJou_o h_p1) rfl ig3 1 (by decide) fl_X3_9 rfl dX3_copyFrom_22 ?_
        refine lv_iload_n hx hb dX3_copyFrom_25 rfl (lv_at hl 2 rfl) ?_
        refine o_iald hx hb hK hW (inJou_a0 h_p1) (vp_in_iff.mpr ⟨by omega, by omega⟩) dX3_copyFrom_26 ?_
        refine wJou_0 hx hb hK hW hS hA h_p0 (vp_in_iff.mpr ⟨by omega, by omega⟩) dX3_copyFrom_27 (fun Ω_7 H locs h_p0 hF_7 hW hS => ?_)
        have h_p1 := h_p1.keep (fun q h1 h2 => hF_7 q (by omega))
        have hE : ∀ q : Nat, (q < p0 ∨ p0 + 4 ≤ q) → Ω_7 q = Ω q := fun q g0 => (hF_7 q (by omega)).trans (hE q g0)
        refine lv_aload_n hx hb dX3_copyFrom_28 rfl (lv_at hl 0 rfl) ?_
        refine o_get hx hb hts hown hK hW (inJou_o h_p0) rfl ig3 2 (by decide) fl_X3_15 rfl dX3_copyFrom_29 ?_
        refine lv_iload_n hx hb dX3_copyFrom_32 rfl (lv_at hl 2 rfl) ?_
        refine lv_aload_n hx hb dX3_copyFrom_33 rfl (lv_at hl 1 rfl) ?_
        refine o_get hx hb hts hown hK hW (inJou_o h_p1) rfl ig3 2 (by decide) fl_X3_15 rfl dX3_copyFrom_34 ?_
        refine lv_iload_n hx hb dX3_copyFrom_37 rfl (lv_at hl 2 rfl) ?_
        refine o_zald hx hb hK hW (inJou_a1 h_p1) (vp_in_iff.mpr ⟨by omega, by omega⟩) dX3_copyFrom_38 ?_
        refine wJou_1 hx hb hK hW hS hA h_p0 (vp_in_iff.mpr ⟨by omega, by omega⟩) dX3_copyFrom_39 (fun Ω_8 H locs h_p0 hF_8 hW hS => ?_)
        have h_p1 := h_p1.keep (fun q h1 h2 => hF_8 q (by omega))
        have hE : ∀ q : Nat, (q < p0 ∨ p0 + 4 ≤ q) → Ω_8 q = Ω q := fun q g0 => (hF_8 q (by omega)).trans (hE q g0)
        refine lv_aload_n hx hb dX3_copyFrom_40 rfl (lv_at hl 0 rfl) ?_
        refine o_get hx hb hts hown hK hW (inJou_o h_p0) rfl ig3 3 (by decide) fl_X3_19 rfl dX3_copyFrom_41 ?_
        refine lv_iload_n hx hb dX3_copyFrom_44 rfl (lv_at hl 2 rfl) ?_
        refine lv_aload_n hx hb dX3_copyFrom_45 rfl (lv_at hl 1 rfl) ?_
        refine o_get hx hb hts hown hK hW (inJou_o h_p1) rfl ig3 3 (by decide) fl_X3_19 rfl dX3_copyFrom_46 ?_
        refine lv_iload_n hx hb dX3_copyFrom_49 rfl (lv_at hl 2 rfl) ?_
        refine o_iald hx hb hK hW (inJou_a2 h_p1) (vp_in_iff.mpr ⟨by omega, by omega⟩) dX3_copyFrom_50 ?_
        refine wJou_2 hx hb hK hW hS hA h_p0 (vp_in_iff.mpr ⟨by omega, by omega⟩) dX3_copyFrom_51 (fun Ω_9 H locs h_p0 hF_9 hW hS => ?_)
        have h_p1 := h_p1.keep (fun q h1 h2 => hF_9 q (by omega))
        have hE : ∀ q : Nat, (q < p0 ∨ p0 + 4 ≤ q) → Ω_9 q = Ω q := fun q g0 => (hF_9 q (by omega)).trans (hE q g0)
        refine lv_iinc (v := (x2_2 + (1 : Int32))) (lv' := [(2, .int (x2_2 + (1 : Int32))), (0, .ref p0), (1, .ref p1)]) hx hb dX3_copyFrom_52 hl (k := 2) rfl rfl (by decide) rfl (fun ls hl => ?_)
        refine lv_goto (tgt := 10) hx hb dX3_copyFrom_55 (by decide) ?_
        have j_10 : (1 : Int32).toInt = 1 := by decide
        try have j_11 : (x2_2 + (1 : Int32)).toInt = x2_2.toInt + (1 : Int32).toInt := fb_addI (by omega) (by omega)
        exact ih10 (x2_2 + (1 : Int32)) (upd p0_1_2 x2_2.toNatClampNeg (p1_1 x2_2.toNatClampNeg)) (upd p0_2_2 x2_2.toNatClampNeg (vp_nar .boolean (p1_2 x2_2.toNatClampNeg))) (upd p0_3_2 x2_2.toNatClampNeg (p1_3 x2_2.toNatClampNeg)) Ω_9 H locs (by first | assumption | omega) h_p0 h_p1 hE hW hS ls (lv_sub hl [1, 2, 0] rfl) hR
  have j_12 : (0 : Int32).toInt = 0 := by decide
  exact L10 4000 (0 : Int32) p0_1 p0_2 p0_3 Ω_1 H locs (by first | assumption | omega) h_p0 h_p1 hE hW hS ls (lv_sub hl [1, 2, 0] rfl) hR
set_option maxHeartbeats 4000000 in
set_option maxRecDepth 100000 in
theorem c_X3_append (l : Launch) (G : Gm) (A : Nat → Prop) (Ω : Om) (p0 : Nat) (p0_0 : Int32) (p0_1 : Fn) (p0_2 : Fn) (p0_3 : Fn) (x1 : Int32) (x2 : Int32) (x3 : Int32) (hJ_p0 : 0 ≤ p0_0.toInt ∧ p0_0.toInt ≤ 20) (h_p0 : inJou G Ω p0 p0_0 p0_1 p0_2 p0_3) : Met l yX3_append (wz yX3_append cX3_append 4 none) ({ frames := 0, cells := 0, slots := 0, locals := 0 } : Room) (va_Pc [.ref p0, .int x1, .int x2, .int x3] (oS G A Ω)) (va_Qv (fun (Ω1 : Om) => inJou G Ω1 p0 ((f_X3_append p0_0 p0_1 p0_2 p0_3 x1 x2 x3).1) ((f_X3_append p0_0 p0_1 p0_2 p0_3 x1 x2 x3).2.1) ((f_X3_append p0_0 p0_1 p0_2 p0_3 x1 x2 x3).2.2.1) ((f_X3_append p0_0 p0_1 p0_2 p0_3 x1 x2 x3).2.2.2) ∧ (∀ q : Nat, (q < p0 ∨ p0 + 4 ≤ q) → Ω1 q = Ω q)) (oB G A) A) 0 0 A := by
  refine Met.ofW (cc := cX3_append) (maxL := 4) (ret := none) (by decide) rfl ?_
  intro p e s m args below meth c s₁ B hml hv
  obtain ⟨rfl, hW, hK, hN⟩ := hv
  have hx := B.exec
  have hb := B.bytes
  have hr := B.returns
  have hts : ∀ w ∈ gt, w.before _ s = true := fun w hw => atoms_spec (ws := wz yX3_append cX3_append 4 none) B.pre w (List.mem_cons_of_mem _ hw)
  have hown : s.vm.findClass RX3 = some m.cls := findClass_of_methodNamed B.named
  have hlocks := B.notSynchronized
  have hA : ∀ q, A q → A q := fun _ h => h
  have hS : va_S A s.heap s.heap [] := va_S.rf
  have hS0 := hS
  have hl := lv_entry ([.ref p0, .int x1, .int x2, .int x3]) (n := 4) (Nat.le_of_ble_eq_true rfl)
  rw [lg_entry_eq]
  generalize (lg_sl ([.ref p0, .int x1, .int x2, .int x3]) ++ List.replicate (4 - (lg_sl ([.ref p0, .int x1, .int x2, .int x3])).length) Slot.unset).toArray = ls at hl ⊢
  have hl : lv_has ls 4 [(0, .ref p0), (1, .int x1), (2, .int x2), (3, .int x3)] := hl
  have hE : ∀ q : Nat, (q < p0 ∨ p0 + 4 ≤ q) → Ω q = Ω q := by intros; rfl
  generalize hR : (f_X3_append p0_0 p0_1 p0_2 p0_3 x1 x2 x3) = R
  rw [f_X3_append] at hR
  refine lv_aload_n hx hb dX3_append_0 rfl (lv_at hl 0 rfl) ?_
  refine o_get hx hb hts hown hK hW (inJou_o h_p0) rfl ig3 0 (by decide) fl_X3_22 rfl dX3_append_1 ?_
  refine lv_bipush (v := (20 : Int32)) hx hb dX3_append_4 (by decide) ?_
  have j_2 : (20 : Int32).toInt = 20 := by decide
  refine lv_icmp_lt (tgt := 10) hx hb dX3_append_6 (by decide) (fun c_1 => ?_) (fun c_1 => ?_)
  · rw [if_pos c_1] at hR
    have i_1 := rlt c_1
    refine lv_aload_n hx hb dX3_append_10 rfl (lv_at hl 0 rfl) ?_
    refine o_get hx hb hts hown hK hW (inJou_o h_p0) rfl ig3 1 (by decide) fl_X3_9 rfl dX3_append_11 ?_
    refine lv_aload_n hx hb dX3_append_14 rfl (lv_at hl 0 rfl) ?_
    refine o_get hx hb hts hown hK hW (inJou_o h_p0) rfl ig3 0 (by decide) fl_X3_22 rfl dX3_append_15 ?_
    refine lv_iload_n hx hb dX3_append_18 rfl (lv_at hl 1 rfl) ?_
    refine wJou_0 hx hb hK hW hS hA h_p0 (vp_in_iff.mpr ⟨by omega, by omega⟩) dX3_append_19 (fun Ω_3 H locs h_p0 hF_3 hW hS => ?_)
    have hE : ∀ q : Nat, (q < p0 ∨ p0 + 4 ≤ q) → Ω_3 q = Ω q := fun q g0 => (hF_3 q (by omega)).trans (hE q g0)
    refine lv_aload_n hx hb dX3_append_20 rfl (lv_at hl 0 rfl) ?_
    refine o_get hx hb hts hown hK hW (inJou_o h_p0) rfl ig3 2 (by decide) fl_X3_15 rfl dX3_append_21 ?_
    refine lv_aload_n hx hb dX3_append_24 rfl (lv_at hl 0 rfl) ?_
    refine o_get hx hb hts hown hK hW (inJou_o h_p0) rfl ig3 0 (by decide) fl_X3_22 rfl dX3_append_25 ?_
    refine lv_iload_n hx hb dX3_append_28 rfl (lv_at hl 2 rfl) ?_
    refine wJou_1 hx hb hK hW hS hA h_p0 (vp_in_iff.mpr ⟨by omega, by omega⟩) dX3_append_29 (fun Ω_4 H locs h_p0 hF_4 hW hS => ?_)
    have hE : ∀ q : Nat, (q < p0 ∨ p0 + 4 ≤ q) → Ω_4 q = Ω q := fun q g0 => (hF_4 q (by omega)).trans (hE q g0)
    refine lv_aload_n hx hb dX3_append_30 rfl (lv_at hl 0 rfl) ?_
    refine o_get hx hb hts hown hK hW (inJou_o h_p0) rfl ig3 3 (by decide) fl_X3_19 rfl dX3_append_31 ?_
    refine lv_aload_n hx hb dX3_append_34 rfl (lv_at hl 0 rfl) ?_
    refine o_get hx hb hts hown hK hW (inJou_o h_p0) rfl ig3 0 (by decide) fl_X3_22 rfl dX3_append_35 ?_
    refine lv_iload_n hx hb dX3_append_38 rfl (lv_at hl 3 rfl) ?_
    refine wJou_2 hx hb hK hW hS hA h_p0 (vp_in_iff.mpr ⟨by omega, by omega⟩) dX3_append_39 (fun Ω_5 H locs h_p0 hF_5 hW hS => ?_)
    have hE : ∀ q : Nat, (q < p0 ∨ p0 + 4 ≤ q) → Ω_5 q = Ω q := fun q g0 => (hF_5 q (by omega)).trans (hE q g0)
    refine lv_aload_n hx hb dX3_append_40 rfl (lv_at hl 0 rfl) ?_
    refine lv_dup hx hb dX3_append_41 rfl ?_
    refine o_get hx hb hts hown hK hW (inJou_o h_p0) rfl ig3 0 (by decide) fl_X3_22 rfl dX3_append_42 ?_
    refine lv_iconst (v := (1 : Int32)) hx hb dX3_append_45 (by decide) ?_
    refine lv_iadd hx hb dX3_append_46 ?_
    refine vJou_0 hx hb hts hown hK hW hS hA h_p0 fl_X3_22 dX3_append_47 (fun Ω_6 H locs h_p0 hF_6 hW hS => ?_)
    have hE : ∀ q : Nat, (q < p0 ∨ p0 + 4 ≤ q) → Ω_6 q = Ω q := fun q g0 => (hF_6 q (by omega)).trans (hE q g0)
    subst hR
    exact W.vret hx hb hr (fun t ht hW9 => ⟨⟨Ω_6, rfl, ⟨h_p0, hE⟩, by rw [oB, ht]; exact hW⟩, hS.F ht⟩) hS.2.2 dX3_append_50
  · rw [if_neg c_1] at hR
    have i_1 := rnlt c_1
    subst hR
    exact W.vret hx hb hr (fun t ht hW9 => ⟨⟨Ω, rfl, ⟨h_p0, hE⟩, by rw [oB, ht]; exact hW⟩, hS.F ht⟩) hS.2.2 dX3_append_9
set_option maxHeartbeats 4000000 in
set_option maxRecDepth 100000 in
theorem c_X6_isLetter (l : Launch) (G : Gm) (A : Nat → Prop) (Ω : Om) (p0 : Nat) (p0_0 : Fn) (p0_1 : Int32) (x1 : Int32) (hT_p0 : 0 ≤ p0_1.toInt ∧ p0_1.toInt ≤ 160) (h_p0 : inTxt G Ω p0 p0_0 p0_1) : Met l yX6_isLetter (wz yX6_isLetter cX6_isLetter 2 (some .boolean)) ({ frames := 0, cells := 0, slots := 0, locals := 0 } : Room) (va_Pc [.ref p0, .int x1] (oS G A Ω)) (va_Qi (fun (r : Int32) (Ω1 : Om) => (r = (f_X6_isLetter p0_0 x1) ∧ (r = 0 ∨ r = 1)) ∧ Ω1 = Ω) (oB G A) A) 0 0 A := by
  refine Met.ofW (cc := cX6_isLetter) (maxL := 2) (ret := (some .boolean)) (by decide) rfl ?_
  intro p e s m args below meth c s₁ B hml hv
  obtain ⟨rfl, hW, hK, hN⟩ := hv
  have hx := B.exec
  have hb := B.bytes
  have hr := B.returns
  have hts : ∀ w ∈ gt, w.before _ s = true := fun w hw => atoms_spec (ws := wz yX6_isLetter cX6_isLetter 2 (some .boolean)) B.pre w (List.mem_cons_of_mem _ hw)
  have hown : s.vm.findClass RX6 = some m.cls := findClass_of_methodNamed B.named
  have hlocks := B.notSynchronized
  have hA : ∀ q, A q → A q := fun _ h => h
  have hS : va_S A s.heap s.heap [] := va_S.rf
  have hS0 := hS
  have hl := lv_entry ([.ref p0, .int x1]) (n := 2) (Nat.le_of_ble_eq_true rfl)
  rw [lg_entry_eq]
  generalize (lg_sl ([.ref p0, .int x1]) ++ List.replicate (2 - (lg_sl ([.ref p0, .int x1])).length) Slot.unset).toArray = ls at hl ⊢
  have hl : lv_has ls 2 [(0, .ref p0), (1, .int x1)] := hl
  generalize hR : (f_X6_isLetter p0_0 x1) = R
  rw [f_X6_isLetter] at hR
  refine lv_aload_n hx hb dX6_isLetter_0 rfl (lv_at hl 0 rfl) ?_
  refine o_get hx hb hts hown hK hW (inTxt_o h_p0) rfl ig6 0 (by decide) fl_X6_9 rfl dX6_isLetter_1 ?_
  refine lv_iload_n hx hb dX6_isLetter_4 rfl (lv_at hl 1 rfl) ?_
  refine o_iald hx hb hK hW (inTxt_a0 h_p0) (vp_in_iff.mpr ⟨by omega, by omega⟩) dX6_isLetter_5 ?_
  refine lv_bipush (v := (97 : Int32)) hx hb dX6_isLetter_6 (by decide) ?_
  have j_2 : (97 : Int32).toInt = 97 := by decide
  refine lv_icmp_lt (tgt := 26) hx hb dX6_isLetter_8 (by decide) (fun c_1 => ?_) (fun c_1 => ?_)
  · rw [if_pos c_1] at hR
    have i_1 := rlt c_1
    refine lv_iconst (v := (0 : Int32)) hx hb dX6_isLetter_26 (by decide) ?_
    subst hR
    exact W.zret (v := (0 : Int32)) hx hb hr (nb01 (Or.inl rfl)) (fun t ht hW9 => ⟨⟨(0 : Int32), Ω, rfl, ⟨⟨rfl, (Or.inl rfl)⟩, rfl⟩, by rw [oB, ht]; exact hW⟩, hS.F ht⟩) hS.2.2 dX6_isLetter_27
  · rw [if_neg c_1] at hR
    have i_1 := rnlt c_1
    refine lv_aload_n hx hb dX6_isLetter_11 rfl (lv_at hl 0 rfl) ?_
    refine o_get hx hb hts hown hK hW (inTxt_o h_p0) rfl ig6 0 (by decide) fl_X6_9 rfl dX6_isLetter_12 ?_
    refine lv_iload_n hx hb dX6_isLetter_15 rfl (lv_at hl 1 rfl) ?_
    refine o_iald hx hb hK hW (inTxt_a0 h_p0) (vp_in_iff.mpr ⟨by omega, by omega⟩) dX6_isLetter_16 ?_
    refine lv_bipush (v := (122 : Int32)) hx hb dX6_isLetter_17 (by decide) ?_
    have j_4 : (122 : Int32).toInt = 122 := by decide
    refine lv_icmp_gt (tgt := 26) hx hb dX6_isLetter_19 (by decide) (fun c_3 => ?_) (fun c_3 => ?_)
    · rw [if_pos c_3] at hR
      have i_3 := rlt c_3
      refine lv_iconst (v := (0 : Int32)) hx hb dX6_isLetter_26 (by decide) ?_
      subst hR
      exact W.zret (v := (0 : Int32)) hx hb hr (nb01 (Or.inl rfl)) (fun t ht hW9 => ⟨⟨(0 : Int32), Ω, rfl, ⟨⟨rfl, (Or.inl rfl)⟩, rfl⟩, by rw [oB, ht]; exact hW⟩, hS.F ht⟩) hS.2.2 dX6_isLetter_27
    · rw [if_neg c_3] at hR
      have i_3 := rnlt c_3
      refine lv_iconst (v := (1 : Int32)) hx hb dX6_isLetter_22 (by decide) ?_
      refine lv_goto (tgt := 27) hx hb dX6_isLetter_23 (by decide) ?_
      subst hR
      exact W.zret (v := (1 : Int32)) hx hb hr (nb01 (Or.inr rfl)) (fun t ht hW9 => ⟨⟨(1 : Int32), Ω, rfl, ⟨⟨rfl, (Or.inr rfl)⟩, rfl⟩, by rw [oB, ht]; exact hW⟩, hS.F ht⟩) hS.2.2 dX6_isLetter_27
set_option maxHeartbeats 4000000 in
set_option maxRecDepth 100000 in
theorem c_X6_isDigit (l : Launch) (G : Gm) (A : Nat → Prop) (Ω : Om) (p0 : Nat) (p0_0 : Fn) (p0_1 : Int32) (x1 : Int32) (hT_p0 : 0 ≤ p0_1.toInt ∧ p0_1.toInt ≤ 160) (h_p0 : inTxt G Ω p0 p0_0 p0_1) : Met l yX6_isDigit (wz yX6_isDigit cX6_isDigit 2 (some .boolean)) ({ frames := 0, cells := 0, slots := 0, locals := 0 } : Room) (va_Pc [.ref p0, .int x1] (oS G A Ω)) (va_Qi (fun (r : Int32) (Ω1 : Om) => (r = (f_X6_isDigit p0_0 x1) ∧ (r = 0 ∨ r = 1)) ∧ Ω1 = Ω) (oB G A) A) 0 0 A := by
  refine Met.ofW (cc := cX6_isDigit) (maxL := 2) (ret := (some .boolean)) (by decide) rfl ?_
  intro p e s m args below meth c s₁ B hml hv
  obtain ⟨rfl, hW, hK, hN⟩ := hv
  have hx := B.exec
  have hb := B.bytes
  have hr := B.returns
  have hts : ∀ w ∈ gt, w.before _ s = true := fun w hw => atoms_spec (ws := wz yX6_isDigit cX6_isDigit 2 (some .boolean)) B.pre w (List.mem_cons_of_mem _ hw)
  have hown : s.vm.findClass RX6 = some m.cls := findClass_of_methodNamed B.named
  have hlocks := B.notSynchronized
  have hA : ∀ q, A q → A q := fun _ h => h
  have hS : va_S A s.heap s.heap [] := va_S.rf
  have hS0 := hS
  have hl := lv_entry ([.ref p0, .int x1]) (n := 2) (Nat.le_of_ble_eq_true rfl)
  rw [lg_entry_eq]
  generalize (lg_sl ([.ref p0, .int x1]) ++ List.replicate (2 - (lg_sl ([.ref p0, .int x1])).length) Slot.unset).toArray = ls at hl ⊢
  have hl : lv_has ls 2 [(0, .ref p0), (1, .int x1)] := hl
  generalize hR : (f_X6_isDigit p0_0 x1) = R
  rw [f_X6_isDigit] at hR
  refine lv_aload_n hx hb dX6_isDigit_0 rfl (lv_at hl 0 rfl) ?_
  refine o_get hx hb hts hown hK hW (inTxt_o h_p0) rfl ig6 0 (by decide) fl_X6_9 rfl dX6_isDigit_1 ?_
  refine lv_iload_n hx hb dX6_isDigit_4 rfl (lv_at hl 1 rfl) ?_
  refine o_iald hx hb hK hW (inTxt_a0 h_p0) (vp_in_iff.mpr ⟨by omega, by omega⟩) dX6_isDigit_5 ?_
  refine lv_bipush (v := (48 : Int32)) hx hb dX6_isDigit_6 (by decide) ?_
  have j_2 : (48 : Int32).toInt = 48 := by decide
  refine lv_icmp_lt (tgt := 26) hx hb dX6_isDigit_8 (by decide) (fun c_1 => ?_) (fun c_1 => ?_)
  · rw [if_pos c_1] at hR
    have i_1 := rlt c_1
    refine lv_iconst (v := (0 : Int32)) hx hb dX6_isDigit_26 (by decide) ?_
    subst hR
    exact W.zret (v := (0 : Int32)) hx hb hr (nb01 (Or.inl rfl)) (fun t ht hW9 => ⟨⟨(0 : Int32), Ω, rfl, ⟨⟨rfl, (Or.inl rfl)⟩, rfl⟩, by rw [oB, ht]; exact hW⟩, hS.F ht⟩) hS.2.2 dX6_isDigit_27
  · rw [if_neg c_1] at hR
    have i_1 := rnlt c_1
    refine lv_aload_n hx hb dX6_isDigit_11 rfl (lv_at hl 0 rfl) ?_
    refine o_get hx hb hts hown hK hW (inTxt_o h_p0) rfl ig6 0 (by decide) fl_X6_9 rfl dX6_isDigit_12 ?_
    refine lv_iload_n hx hb dX6_isDigit_15 rfl (lv_at hl 1 rfl) ?_
    refine o_iald hx hb hK hW (inTxt_a0 h_p0) (vp_in_iff.mpr ⟨by omega, by omega⟩) dX6_isDigit_16 ?_
    refine lv_bipush (v := (57 : Int32)) hx hb dX6_isDigit_17 (by decide) ?_
    have j_4 : (57 : Int32).toInt = 57 := by decide
    refine lv_icmp_gt (tgt := 26) hx hb dX6_isDigit_19 (by decide) (fun c_3 => ?_) (fun c_3 => ?_)
    · rw [if_pos c_3] at hR
      have i_3 := rlt c_3
      refine lv_iconst (v := (0 : Int32)) hx hb dX6_isDigit_26 (by decide) ?_
      subst hR
      exact W.zret (v := (0 : Int32)) hx hb hr (nb01 (Or.inl rfl)) (fun t ht hW9 => ⟨⟨(0 : Int32), Ω, rfl, ⟨⟨rfl, (Or.inl rfl)⟩, rfl⟩, by rw [oB, ht]; exact hW⟩, hS.F ht⟩) hS.2.2 dX6_isDigit_27
    · rw [if_neg c_3] at hR
      have i_3 := rnlt c_3
      refine lv_iconst (v := (1 : Int32)) hx hb dX6_isDigit_22 (by decide) ?_
      refine lv_goto (tgt := 27) hx hb dX6_isDigit_23 (by decide) ?_
      subst hR
      exact W.zret (v := (1 : Int32)) hx hb hr (nb01 (Or.inr rfl)) (fun t ht hW9 => ⟨⟨(1 : Int32), Ω, rfl, ⟨⟨rfl, (Or.inr rfl)⟩, rfl⟩, by rw [oB, ht]; exact hW⟩, hS.F ht⟩) hS.2.2 dX6_isDigit_27
set_option maxHeartbeats 4000000 in
set_option maxRecDepth 100000 in
theorem c_X5_copyFrom (l : Launch) (G : Gm) (A : Nat → Prop) (Ω : Om) (p0 : Nat) (p1 : Nat) (p0_0 : Int32) (p0_1 : Int32) (p0d_0 : Fn) (p0d_1 : Fn) (p0d_2 : Fn) (p0d_3 : Fn) (p0m_0 : Fn) (p0m_1 : Fn) (p0m_2 : Fn) (p0m_3 : Fn) (p0j_0 : Int32) (p0j_1 : Fn) (p0j_2 : Fn) (p0j_3 : Fn) (p1_0 : Int32) (p1_1 : Int32) (p1d_0 : Fn) (p1d_1 : Fn) (p1d_2 : Fn) (p1d_3 : Fn) (p1m_0 : Fn) (p1m_1 : Fn) (p1m_2 : Fn) (p1m_3 : Fn) (p1j_0 : Int32) (p1j_1 : Fn) (p1j_2 : Fn) (p1j_3 : Fn) (hd_p0_p1 : p0 + 15 ≤ p1 ∨ p1 + 15 ≤ p0) (hJ_p0j : 0 ≤ p0j_0.toInt ∧ p0j_0.toInt ≤ 20) (hJ_p1j : 0 ≤ p1j_0.toInt ∧ p1j_0.toInt ≤ 20) (h_p0 : inSitO G Ω p0 p0_0 p0_1) (h_p0d : inDev G Ω (p0 + 1) p0d_0 p0d_1 p0d_2 p0d_3) (h_p0m : inDev G Ω (p0 + 6) p0m_0 p0m_1 p0m_2 p0m_3) (h_p0j : inJou G Ω (p0 + 11) p0j_0 p0j_1 p0j_2 p0j_3) (h_p1 : inSitO G Ω p1 p1_0 p1_1) (h_p1d : inDev G Ω (p1 + 1) p1d_0 p1d_1 p1d_2 p1d_3) (h_p1m : inDev G Ω (p1 + 6) p1m_0 p1m_1 p1m_2 p1m_3) (h_p1j : inJou G Ω (p1 + 11) p1j_0 p1j_1 p1j_2 p1j_3) : Met l yX5_copyFrom (wz yX5_copyFrom cX5_copyFrom 2 none) ({ frames := 2, cells := 0, slots := 0, locals := 82 } : Room) (va_Pc [.ref p0, .ref p1] (oS G A Ω)) (va_Qv (fun (Ω1 : Om) => inSitO G Ω1 p0 ((f_X5_copyFrom p0d_0 p0d_1 p0d_2 p0d_3 p0m_0 p0m_1 p0m_2 p0m_3 p0j_1 p0j_2 p0j_3 p1_0 p1_1 p1d_0 p1d_1 p1d_2 p1d_3 p1m_0 p1m_1 p1m_2 p1m_3 p1j_0 p1j_1 p1j_2 p1j_3).1) ((f_X5_copyFrom p0d_0 p0d_1 p0d_2 p0d_3 p0m_0 p0m_1 p0m_2 p0m_3 p0j_1 p0j_2 p0j_3 p1_0 p1_1 p1d_0 p1d_1 p1d_2 p1d_3 p1m_0 p1m_1 p1m_2 p1m_3 p1j_0 p1j_1 p1j_2 p1j_3).2.1) ∧ inDev G Ω1 (p0 + 1) ((f_X5_copyFrom p0d_0 p0d_1 p0d_2 p0d_3 p0m_0 p0m_1 p0m_2 p0m_3 p0j_1 p0j_2 p0j_3 p1_0 p1_1 p1d_0 p1d_1 p1d_2 p1d_3 p1m_0 p1m_1 p1m_2 p1m_3 p1j_0 p1j_1 p1j_2 p1j_3).2.2.1) ((f_X5_copyFrom p0d_0 p0d_1 p0d_2 p0d_3 p0m_0 p0m_1 p0m_2 p0m_3 p0j_1 p0j_2 p0j_3 p1_0 p1_1 p1d_0 p1d_1 p1d_2 p1d_3 p1m_0 p1m_1 p1m_2 p1m_3 p1j_0 p1j_1 p1j_2 p1j_3).2.2.2.1) ((f_X5_copyFrom p0d_0 p0d_1 p0d_2 p0d_3 p0m_0 p0m_1 p0m_2 p0m_3 p0j_1 p0j_2 p0j_3 p1_0 p1_1 p1d_0 p1d_1 p1d_2 p1d_3 p1m_0 p1m_1 p1m_2 p1m_3 p1j_0 p1j_1 p1j_2 p1j_3).2.2.2.2.1) ((f_X5_copyFrom p0d_0 p0d_1 p0d_2 p0d_3 p0m_0 p0m_1 p0m_2 p0m_3 p0j_1 p0j_2 p0j_3 p1_0 p1_1 p1d_0 p1d_1 p1d_2 p1d_3 p1m_0 p1m_1 p1m_2 p1m_3 p1j_0 p1j_1 p1j_2 p1j_3).2.2.2.2.2.1) ∧ inDev G Ω1 (p0 + 6) ((f_X5_copyFrom p0d_0 p0d_1 p0d_2 p0d_3 p0m_0 p0m_1 p0m_2 p0m_3 p0j_1 p0j_2 p0j_3 p1_0 p1_1 p1d_0 p1d_1 p1d_2 p1d_3 p1m_0 p1m_1 p1m_2 p1m_3 p1j_0 p1j_1 p1j_2 p1j_3).2.2.2.2.2.2.1) ((f_X5_copyFrom p0d_0 p0d_1 p0d_2 p0d_3 p0m_0 p0m_1 p0m_2 p0m_3 p0j_1 p0j_2 p0j_3 p1_0 p1_1 p1d_0 p1d_1 p1d_2 p1d_3 p1m_0 p1m_1 p1m_2 p1m_3 p1j_0 p1j_1 p1j_2 p1j_3).2.2.2.2.2.2.2.1) ((f_X5_copyFrom p0d_0 p0d_1 p0d_2 p0d_3 p0m_0 p0m_1 p0m_2 p0m_3 p0j_1 p0j_2 p0j_3 p1_0 p1_1 p1d_0 p1d_1 p1d_2 p1d_3 p1m_0 p1m_1 p1m_2 p1m_3 p1j_0 p1j_1 p1j_2 p1j_3).2.2.2.2.2.2.2.2.1) ((f_X5_copyFrom p0d_0 p0d_1 p0d_2 p0d_3 p0m_0 p0m_1 p0m_2 p0m_3 p0j_1 p0j_2 p0j_3 p1_0 p1_1 p1d_0 p1d_1 p1d_2 p1d_3 p1m_0 p1m_1 p1m_2 p1m_3 p1j_0 p1j_1 p1j_2 p1j_3).2.2.2.2.2.2.2.2.2.1) ∧ inJou G Ω1 (p0 + 11) ((f_X5_copyFrom p0d_0 p0d_1 p0d_2 p0d_3 p0m_0 p0m_1 p0m_2 p0m_3 p0j_1 p0j_2 p0j_3 p1_0 p1_1 p1d_0 p1d_1 p1d_2 p1d_3 p1m_0 p1m_1 p1m_2 p1m_3 p1j_0 p1j_1 p1j_2 p1j_3).2.2.2.2.2.2.2.2.2.2.1) ((f_X5_copyFrom p0d_0 p0d_1 p0d_2 p0d_3 p0m_0 p0m_1 p0m_2 p0m_3 p0j_1 p0j_2 p0j_3 p1_0 p1_1 p1d_0 p1d_1 p1d_2 p1d_3 p1m_0 p1m_1 p1m_2 p1m_3 p1j_0 p1j_1 p1j_2 p1j_3).2.2.2.2.2.2.2.2.2.2.2.1) ((f_X5_copyFrom p0d_0 p0d_1 p0d_2 p0d_3 p0m_0 p0m_1 p0m_2 p0m_3 p0j_1 p0j_2 p0j_3 p1_0 p1_1 p1d_0 p1d_1 p1d_2 p1d_3 p1m_0 p1m_1 p1m_2 p1m_3 p1j_0 p1j_1 p1j_2 p1j_3).2.2.2.2.2.2.2.2.2.2.2.2.1) ((f_X5_copyFrom p0d_0 p0d_1 p0d_2 p0d_3 p0m_0 p0m_1 p0m_2 p0m_3 p0j_1 p0j_2 p0j_3 p1_0 p1_1 p1d_0 p1d_1 p1d_2 p1d_3 p1m_0 p1m_1 p1m_2 p1m_3 p1j_0 p1j_1 p1j_2 p1j_3).2.2.2.2.2.2.2.2.2.2.2.2.2) ∧ (∀ q : Nat, (q < p0 ∨ p0 + 1 ≤ q) → (q < (p0 + 1) ∨ (p0 + 1) + 5 ≤ q) → (q < (p0 + 6) ∨ (p0 + 6) + 5 ≤ q) → (q < (p0 + 11) ∨ (p0 + 11) + 4 ≤ q) → Ω1 q = Ω q)) (oB G A) A) 0 0 A := by
  refine Met.ofW (cc := cX5_copyFrom) (maxL := 2) (ret := none) (by decide) rfl ?_
  intro p e s m args below meth c s₁ B hml hv
  obtain ⟨rfl, hW, hK, hN⟩ := hv
  have hx := B.exec
  have hb := B.bytes
  have hr := B.returns
  have hts : ∀ w ∈ gt, w.before _ s = true := fun w hw => atoms_spec (ws := wz yX5_copyFrom cX5_copyFrom 2 none) B.pre w (List.mem_cons_of_mem _ hw)
  have hown : s.vm.findClass RX5 = some m.cls := findClass_of_methodNamed B.named
  have hlocks := B.notSynchronized
  have hA : ∀ q, A q → A q := fun _ h => h
  have hS : va_S A s.heap s.heap [] := va_S.rf
  have hS0 := hS
  have hl := lv_entry ([.ref p0, .ref p1]) (n := 2) (Nat.le_of_ble_eq_true rfl)
  rw [lg_entry_eq]
  generalize (lg_sl ([.ref p0, .ref p1]) ++ List.replicate (2 - (lg_sl ([.ref p0, .ref p1])).length) Slot.unset).toArray = ls at hl ⊢
  have hl : lv_has ls 2 [(0, .ref p0), (1, .ref p1)] := hl
  have hE : ∀ q : Nat, (q < p0 ∨ p0 + 1 ≤ q) → (q < (p0 + 1) ∨ (p0 + 1) + 5 ≤ q) → (q < (p0 + 6) ∨ (p0 + 6) + 5 ≤ q) → (q < (p0 + 11) ∨ (p0 + 11) + 4 ≤ q) → Ω q = Ω q := by intros; rfl
  generalize hR : (f_X5_copyFrom p0d_0 p0d_1 p0d_2 p0d_3 p0m_0 p0m_1 p0m_2 p0m_3 p0j_1 p0j_2 p0j_3 p1_0 p1_1 p1d_0 p1d_1 p1d_2 p1d_3 p1m_0 p1m_1 p1m_2 p1m_3 p1j_0 p1j_1 p1j_2 p1j_3) = R
  rw [f_X5_copyFrom] at hR
  refine lv_aload_n hx hb dX5_copyFrom_0 rfl (lv_at hl 0 rfl) ?_
  refine o_get hx hb hts hown hK hW (inSitO_o h_p0) rfl ig5 0 (by decide) fl_X5_12 rfl dX5_copyFrom_1 ?_
  refine lv_aload_n hx hb dX5_copyFrom_4 rfl (lv_at hl 1 rfl) ?_
  refine o_get hx hb hts hown hK hW (inSitO_o h_p1) rfl ig5 0 (by decide) fl_X5_12 rfl dX5_copyFrom_5 ?_
  refine o_Vv (rest := []) (As := [.ref (p1 + 1)]) (n := 1) hx hb hml hown hts hK hN hW hS hA (c_X1_copyFrom l G A Ω (p0 + 1) (p1 + 1) p0d_0 p0d_1 p0d_2 p0d_3 p1d_0 p1d_1 p1d_2 p1d_3 (by omega) h_p0d h_p1d) (inDev_o h_p0d) rfl (good_V ml_X5_32 im_X1_copyFrom se_X1_copyFrom ini_X1 co_X1_copyFrom) (by decide +kernel) ⟨Nat.zero_le _, Nat.zero_le _⟩ hl.1 (Nat.le_of_ble_eq_true rfl) rfl rfl dX5_copyFrom_8 (fun Ω_1 H locs hp hW hS => ?_)
  obtain ⟨h_p0d, hF_1⟩ := hp
  have h_p0 := h_p0.keep (fun q h1 h2 => hF_1 q (by omega))
  have h_p0m := h_p0m.keep (fun q h1 h2 => hF_1 q (by omega))
  have h_p0j := h_p0j.keep (fun q h1 h2 => hF_1 q (by omega))
  have h_p1 := h_p1.keep (fun q h1 h2 => hF_1 q (by omega))
  have h_p1d := h_p1d.keep (fun q h1 h2 => hF_1 q (by omega))
  have h_p1m := h_p1m.keep (fun q h1 h2 => hF_1 q (by omega))
  have h_p1j := h_p1j.keep (fun q h1 h2 => hF_1 q (by omega))
  have hE : ∀ q : Nat, (q < p0 ∨ p0 + 1 ≤ q) → (q < (p0 + 1) ∨ (p0 + 1) + 5 ≤ q) → (q < (p0 + 6) ∨ (p0 + 6) + 5 ≤ q) → (q < (p0 + 11) ∨ (p0 + 11) + 4 ≤ q) → Ω_1 q = Ω q := fun q g0 g1 g2 g3 => (hF_1 q (by omega)).trans (hE q g0 g1 g2 g3)
  generalize (f_X1_copyFrom p0d_0 p0d_1 p0d_2 p0d_3 p1d_0 p1d_1 p1d_2 p1d_3) = Z_1 at h_p0d hR
  obtain ⟨z1_0, z1_1, z1_2, z1_3⟩ := Z_1
  dsimp only at h_p0d hR
  rw [f_X5_copyFrom_C11] at hR
  refine lv_aload_n hx hb dX5_copyFrom_11 rfl (lv_at hl 0 rfl) ?_
  refine o_get hx hb hts hown hK hW (inSitO_o h_p0) rfl ig5 1 (by decide) fl_X5_18 rfl dX5_copyFrom_12 ?_
  refine lv_aload_n hx hb dX5_copyFrom_15 rfl (lv_at hl 1 rfl) ?_
  refine o_get hx hb hts hown hK hW (inSitO_o h_p1) rfl ig5 1 (by decide) fl_X5_18 rfl dX5_copyFrom_16 ?_
  refine o_Vv (rest := []) (As := [.ref (p1 + 6)]) (n := 1) hx hb hml hown hts hK hN hW hS hA (c_X1_copyFrom l G A Ω_1 (p0 + 6) (p1 + 6) p0m_0 p0m_1 p0m_2 p0m_3 p1m_0 p1m_1 p1m_2 p1m_3 (by omega) h_p0m h_p1m) (inDev_o h_p0m) rfl (good_V ml_X5_32 im_X1_copyFrom se_X1_copyFrom ini_X1 co_X1_copyFrom) (by decide +kernel) ⟨Nat.zero_le _, Nat.zero_le _⟩ hl.1 (Nat.le_of_ble_eq_true rfl) rfl rfl dX5_copyFrom_19 (fun Ω_2 H locs hp hW hS => ?_)
  obtain ⟨h_p0m, hF_2⟩ := hp
  have h_p0 := h_p0.keep (fun q h1 h2 => hF_2 q (by omega))
  have h_p0d := h_p0d.keep (fun q h1 h2 => hF_2 q (by omega))
  have h_p0j := h_p0j.keep (fun q h1 h2 => hF_2 q (by omega))
  have h_p1 := h_p1.keep (fun q h1 h2 => hF_2 q (by omega))
  have h_p1d := h_p1d.keep (fun q h1 h2 => hF_2 q (by omega))
  have h_p1m := h_p1m.keep (fun q h1 h2 => hF_2 q (by omega))
  have h_p1j := h_p1j.keep (fun q h1 h2 => hF_2 q (by omega))
  have hE : ∀ q : Nat, (q < p0 ∨ p0 + 1 ≤ q) → (q < (p0 + 1) ∨ (p0 + 1) + 5 ≤ q) → (q < (p0 + 6) ∨ (p0 + 6) + 5 ≤ q) → (q < (p0 + 11) ∨ (p0 + 11) + 4 ≤ q) → Ω_2 q = Ω q := fun q g0 g1 g2 g3 => (hF_2 q (by omega)).trans (hE q g0 g1 g2 g3)
  generalize (f_X1_copyFrom p0m_0 p0m_1 p0m_2 p0m_3 p1m_0 p1m_1 p1m_2 p1m_3) = Z_2 at h_p0m hR
  obtain ⟨z2_0, z2_1, z2_2, z2_3⟩ := Z_2
  dsimp only at h_p0m hR
  rw [f_X5_copyFrom_C22] at hR
  refine lv_aload_n hx hb dX5_copyFrom_22 rfl (lv_at hl 0 rfl) ?_
  refine o_get hx hb hts hown hK hW (inSitO_o h_p0) rfl ig5 2 (by decide) fl_X5_24 rfl dX5_copyFrom_23 ?_
  refine lv_aload_n hx hb dX5_copyFrom_26 rfl (lv_at hl 1 rfl) ?_
  refine o_get hx hb hts hown hK hW (inSitO_o h_p1) rfl ig5 2 (by decide) fl_X5_24 rfl dX5_copyFrom_27 ?_
  refine o_Vv (rest := []) (As := [.ref (p1 + 11)]) (n := 1) hx hb hml hown hts hK hN hW hS hA (c_X3_copyFrom l G A Ω_2 (p0 + 11) (p1 + 11) p0j_0 p0j_1 p0j_2 p0j_3 p1j_0 p1j_1 p1j_2 p1j_3 (by omega) (by first | assumption | omega) (by first | assumption | omega) h_p0j h_p1j) (inJou_o h_p0j) rfl (good_V ml_X5_36 im_X3_copyFrom se_X3_copyFrom ini_X3 co_X3_copyFrom) (by decide +kernel) ⟨Nat.zero_le _, Nat.zero_le _⟩ hl.1 (Nat.le_of_ble_eq_true rfl) rfl rfl dX5_copyFrom_30 (fun Ω_3 H locs hp hW hS => ?_)
  obtain ⟨h_p0j, hF_3⟩ := hp
  have h_p0 := h_p0.keep (fun q h1 h2 => hF_3 q (by omega))
  have h_p0d := h_p0d.keep (fun q h1 h2 => hF_3 q (by omega))
  have h_p0m := h_p0m.keep (fun q h1 h2 => hF_3 q (by omega))
  have h_p1 := h_p1.keep (fun q h1 h2 => hF_3 q (by omega))
  have h_p1d := h_p1d.keep (fun q h1 h2 => hF_3 q (by omega))
  have h_p1m := h_p1m.keep (fun q h1 h2 => hF_3 q (by omega))
  have h_p1j := h_p1j.keep (fun q h1 h2 => hF_3 q (by omega))
  have hE : ∀ q : Nat, (q < p0 ∨ p0 + 1 ≤ q) → (q < (p0 + 1) ∨ (p0 + 1) + 5 ≤ q) → (q < (p0 + 6) ∨ (p0 + 6) + 5 ≤ q) → (q < (p0 + 11) ∨ (p0 + 11) + 4 ≤ q) → Ω_3 q = Ω q := fun q g0 g1 g2 g3 => (hF_3 q (by omega)).trans (hE q g0 g1 g2 g3)
  generalize (f_X3_copyFrom p0j_1 p0j_2 p0j_3 p1j_0 p1j_1 p1j_2 p1j_3) = Z_3 at h_p0j hR
  obtain ⟨z3_0, z3_1, z3_2, z3_3⟩ := Z_3
  dsimp only at h_p0j hR
  rw [f_X5_copyFrom_C33] at hR
  refine lv_aload_n hx hb dX5_copyFrom_33 rfl (lv_at hl 0 rfl) ?_
  refine lv_aload_n hx hb dX5_copyFrom_34 rfl (lv_at hl 1 rfl) ?_
  refine o_get hx hb hts hown hK hW (inSitO_o h_p1) rfl ig5 3 (by decide) fl_X5_39 rfl dX5_copyFrom_35 ?_
  refine vSitO_3 hx hb hts hown hK hW hS hA h_p0 fl_X5_39 dX5_copyFrom_38 (fun Ω_4 H locs h_p0 hF_4 hW hS => ?_)
  have h_p0d := h_p0d.keep (fun q h1 h2 => hF_4 q (by omega))
  have h_p0m := h_p0m.keep (fun q h1 h2 => hF_4 q (by omega))
  have h_p0j := h_p0j.keep (fun q h1 h2 => hF_4 q (by omega))
  have h_p1 := h_p1.keep (fun q h1 h2 => hF_4 q (by omega))
  have h_p1d := h_p1d.keep (fun q h1 h2 => hF_4 q (by omega))
  have h_p1m := h_p1m.keep (fun q h1 h2 => hF_4 q (by omega))
  have h_p1j := h_p1j.keep (fun q h1 h2 => hF_4 q (by omega))
  have hE : ∀ q : Nat, (q < p0 ∨ p0 + 1 ≤ q) → (q < (p0 + 1) ∨ (p0 + 1) + 5 ≤ q) → (q < (p0 + 6) ∨ (p0 + 6) + 5 ≤ q) → (q < (p0 + 11) ∨ (p0 + 11) + 4 ≤ q) → Ω_4 q = Ω q := fun q g0 g1 g2 g3 => (hF_4 q (by omega)).trans (hE q g0 g1 g2 g3)
  refine lv_aload_n hx hb dX5_copyFrom_41 rfl (lv_at hl 0 rfl) ?_
  refine lv_aload_n hx hb dX5_copyFrom_42 rfl (lv_at hl 1 rfl) ?_
  refine o_get hx hb hts hown hK hW (inSitO_o h_p1) rfl ig5 4 (by decide) fl_X5_28 rfl dX5_copyFrom_43 ?_
  refine vSitO_4 hx hb hts hown hK hW hS hA h_p0 fl_X5_28 dX5_copyFrom_46 (fun Ω_5 H locs h_p0 hF_5 hW hS => ?_)
  have h_p0d := h_p0d.keep (fun q h1 h2 => hF_5 q (by omega))
  have h_p0m := h_p0m.keep (fun q h1 h2 => hF_5 q (by omega))
  have h_p0j := h_p0j.keep (fun q h1 h2 => hF_5 q (by omega))
  have h_p1 := h_p1.keep (fun q h1 h2 => hF_5 q (by omega))
  have h_p1d := h_p1d.keep (fun q h1 h2 => hF_5 q (by omega))
  have h_p1m := h_p1m.keep (fun q h1 h2 => hF_5 q (by omega))
  have h_p1j := h_p1j.keep (fun q h1 h2 => hF_5 q (by omega))
  have hE : ∀ q : Nat, (q < p0 ∨ p0 + 1 ≤ q) → (q < (p0 + 1) ∨ (p0 + 1) + 5 ≤ q) → (q < (p0 + 6) ∨ (p0 + 6) + 5 ≤ q) → (q < (p0 + 11) ∨ (p0 + 11) + 4 ≤ q) → Ω_5 q = Ω q := fun q g0 g1 g2 g3 => (hF_5 q (by omega)).trans (hE q g0 g1 g2 g3)
  subst hR
  exact W.vret hx hb hr (fun t ht hW9 => ⟨⟨Ω_5, rfl, ⟨h_p0, h_p0d, h_p0m, h_p0j, hE⟩, by rw [oB, ht]; exact hW⟩, hS.F ht⟩) hS.2.2 dX5_copyFrom_49
set_option maxHeartbeats 4000000 in
set_option maxRecDepth 100000 in
theorem c_X5_restart (l : Launch) (G : Gm) (A : Nat → Prop) (Ω : Om) (p0 : Nat) (p1 : Nat) (p0_0 : Int32) (p0_1 : Int32) (p0d_0 : Fn) (p0d_1 : Fn) (p0d_2 : Fn) (p0d_3 : Fn) (p0m_0 : Fn) (p0m_1 : Fn) (p0m_2 : Fn) (p0m_3 : Fn) (p0j_0 : Int32) (p0j_1 : Fn) (p0j_2 : Fn) (p0j_3 : Fn) (p1_0 : Blk) (hd_p0_p1 : p0 + 15 ≤ p1 ∨ p1 + 13 ≤ p0) (hJ_p0j : 0 ≤ p0j_0.toInt ∧ p0j_0.toInt ≤ 20) (hB_p1 : BlkInv p1_0) (h_p0 : inSitO G Ω p0 p0_0 p0_1) (h_p0d : inDev G Ω (p0 + 1) p0d_0 p0d_1 p0d_2 p0d_3) (h_p0m : inDev G Ω (p0 + 6) p0m_0 p0m_1 p0m_2 p0m_3) (h_p0j : inJou G Ω (p0 + 11) p0j_0 p0j_1 p0j_2 p0j_3) (h_p1 : inBlk G Ω p1 p1_0) : Met l yX5_restart (wz yX5_restart cX5_restart 2 none) ({ frames := 3, cells := 0, slots := 0, locals := 69 } : Room) (va_Pc [.ref p0, .ref p1] (oS G A Ω)) (va_Qv (fun (Ω1 : Om) => inSitO G Ω1 p0 ((f_X5_restart p0d_0 p0d_1 p0d_2 p0m_0 p0m_1 p0m_2 p1_0).1) ((f_X5_restart p0d_0 p0d_1 p0d_2 p0m_0 p0m_1 p0m_2 p1_0).2.1) ∧ inDev G Ω1 (p0 + 1) ((f_X5_restart p0d_0 p0d_1 p0d_2 p0m_0 p0m_1 p0m_2 p1_0).2.2.1) ((f_X5_restart p0d_0 p0d_1 p0d_2 p0m_0 p0m_1 p0m_2 p1_0).2.2.2.1) ((f_X5_restart p0d_0 p0d_1 p0d_2 p0m_0 p0m_1 p0m_2 p1_0).2.2.2.2.1) p0d_3 ∧ inDev G Ω1 (p0 + 6) ((f_X5_restart p0d_0 p0d_1 p0d_2 p0m_0 p0m_1 p0m_2 p1_0).2.2.2.2.2.1) ((f_X5_restart p0d_0 p0d_1 p0d_2 p0m_0 p0m_1 p0m_2 p1_0).2.2.2.2.2.2.1) ((f_X5_restart p0d_0 p0d_1 p0d_2 p0m_0 p0m_1 p0m_2 p1_0).2.2.2.2.2.2.2.1) p0m_3 ∧ inJou G Ω1 (p0 + 11) ((f_X5_restart p0d_0 p0d_1 p0d_2 p0m_0 p0m_1 p0m_2 p1_0).2.2.2.2.2.2.2.2) p0j_1 p0j_2 p0j_3 ∧ (∀ q : Nat, (q < p0 ∨ p0 + 1 ≤ q) → (q < (p0 + 1) ∨ (p0 + 1) + 5 ≤ q) → (q < (p0 + 6) ∨ (p0 + 6) + 5 ≤ q) → (q < (p0 + 11) ∨ (p0 + 11) + 4 ≤ q) → Ω1 q = Ω q)) (oB G A) A) 0 0 A := by
  refine Met.ofW (cc := cX5_restart) (maxL := 2) (ret := none) (by decide) rfl ?_
  intro p e s m args below meth c s₁ B hml hv
  obtain ⟨rfl, hW, hK, hN⟩ := hv
  have hx := B.exec
  have hb := B.bytes
  have hr := B.returns
  have hts : ∀ w ∈ gt, w.before _ s = true := fun w hw => atoms_spec (ws := wz yX5_restart cX5_restart 2 none) B.pre w (List.mem_cons_of_mem _ hw)
  have hown : s.vm.findClass RX5 = some m.cls := findClass_of_methodNamed B.named
  have hlocks := B.notSynchronized
  have hA : ∀ q, A q → A q := fun _ h => h
  have hS : va_S A s.heap s.heap [] := va_S.rf
  have hS0 := hS
  have hl := lv_entry ([.ref p0, .ref p1]) (n := 2) (Nat.le_of_ble_eq_true rfl)
  rw [lg_entry_eq]
  generalize (lg_sl ([.ref p0, .ref p1]) ++ List.replicate (2 - (lg_sl ([.ref p0, .ref p1])).length) Slot.unset).toArray = ls at hl ⊢
  have hl : lv_has ls 2 [(0, .ref p0), (1, .ref p1)] := hl
  have hE : ∀ q : Nat, (q < p0 ∨ p0 + 1 ≤ q) → (q < (p0 + 1) ∨ (p0 + 1) + 5 ≤ q) → (q < (p0 + 6) ∨ (p0 + 6) + 5 ≤ q) → (q < (p0 + 11) ∨ (p0 + 11) + 4 ≤ q) → Ω q = Ω q := by intros; rfl
  generalize hR : (f_X5_restart p0d_0 p0d_1 p0d_2 p0m_0 p0m_1 p0m_2 p1_0) = R
  rw [f_X5_restart] at hR
  refine lv_aload_n hx hb dX5_restart_0 rfl (lv_at hl 0 rfl) ?_
  refine o_get hx hb hts hown hK hW (inSitO_o h_p0) rfl ig5 0 (by decide) fl_X5_12 rfl dX5_restart_1 ?_
  refine lv_aload_n hx hb dX5_restart_4 rfl (lv_at hl 1 rfl) ?_
  refine o_Vv (rest := []) (As := [.ref p1]) (n := 1) hx hb hml hown hts hK hN hW hS hA (c_X1_restart l G A Ω (p0 + 1) p1 p0d_0 p0d_1 p0d_2 p0d_3 p1_0 (by omega) (by first | assumption | omega) h_p0d h_p1) (inDev_o h_p0d) rfl (good_V ml_X5_49 im_X1_restart se_X1_restart ini_X1 co_X1_restart) (by decide +kernel) ⟨Nat.zero_le _, Nat.zero_le _⟩ hl.1 (Nat.le_of_ble_eq_true rfl) rfl rfl dX5_restart_5 (fun Ω_1 H locs hp hW hS => ?_)
  obtain ⟨h_p0d, hF_1⟩ := hp
  have h_p0 := h_p0.keep (fun q h1 h2 => hF_1 q (by omega))
  have h_p0m := h_p0m.keep (fun q h1 h2 => hF_1 q (by omega))
  have h_p0j := h_p0j.keep (fun q h1 h2 => hF_1 q (by omega))
  have h_p1 := h_p1.keep (fun q h1 h2 => hF_1 q (by omega))
  have hE : ∀ q : Nat, (q < p0 ∨ p0 + 1 ≤ q) → (q < (p0 + 1) ∨ (p0 + 1) + 5 ≤ q) → (q < (p0 + 6) ∨ (p0 + 6) + 5 ≤ q) → (q < (p0 + 11) ∨ (p0 + 11) + 4 ≤ q) → Ω_1 q = Ω q := fun q g0 g1 g2 g3 => (hF_1 q (by omega)).trans (hE q g0 g1 g2 g3)
  generalize (f_X1_restart p0d_0 p0d_1 p0d_2 p1_0) = Z_1 at h_p0d hR
  obtain ⟨z1_0, z1_1, z1_2⟩ := Z_1
  dsimp only at h_p0d hR
  rw [f_X5_restart_C8] at hR
  refine lv_aload_n hx hb dX5_restart_8 rfl (lv_at hl 0 rfl) ?_
  refine o_get hx hb hts hown hK hW (inSitO_o h_p0) rfl ig5 1 (by decide) fl_X5_18 rfl dX5_restart_9 ?_
  refine lv_aload_n hx hb dX5_restart_12 rfl (lv_at hl 1 rfl) ?_
  refine o_Vv (rest := []) (As := [.ref p1]) (n := 1) hx hb hml hown hts hK hN hW hS hA (c_X1_restart l G A Ω_1 (p0 + 6) p1 p0m_0 p0m_1 p0m_2 p0m_3 p1_0 (by omega) (by first | assumption | omega) h_p0m h_p1) (inDev_o h_p0m) rfl (good_V ml_X5_49 im_X1_restart se_X1_restart ini_X1 co_X1_restart) (by decide +kernel) ⟨Nat.zero_le _, Nat.zero_le _⟩ hl.1 (Nat.le_of_ble_eq_true rfl) rfl rfl dX5_restart_13 (fun Ω_2 H locs hp hW hS => ?_)
  obtain ⟨h_p0m, hF_2⟩ := hp
  have h_p0 := h_p0.keep (fun q h1 h2 => hF_2 q (by omega))
  have h_p0d := h_p0d.keep (fun q h1 h2 => hF_2 q (by omega))
  have h_p0j := h_p0j.keep (fun q h1 h2 => hF_2 q (by omega))
  have h_p1 := h_p1.keep (fun q h1 h2 => hF_2 q (by omega))
  have hE : ∀ q : Nat, (q < p0 ∨ p0 + 1 ≤ q) → (q < (p0 + 1) ∨ (p0 + 1) + 5 ≤ q) → (q < (p0 + 6) ∨ (p0 + 6) + 5 ≤ q) → (q < (p0 + 11) ∨ (p0 + 11) + 4 ≤ q) → Ω_2 q = Ω q := fun q g0 g1 g2 g3 => (hF_2 q (by omega)).trans (hE q g0 g1 g2 g3)
  generalize (f_X1_restart p0m_0 p0m_1 p0m_2 p1_0) = Z_2 at h_p0m hR
  obtain ⟨z2_0, z2_1, z2_2⟩ := Z_2
  dsimp only at h_p0m hR
  rw [f_X5_restart_C16] at hR
  refine lv_aload_n hx hb dX5_restart_16 rfl (lv_at hl 0 rfl) ?_
  refine o_get hx hb hts hown hK hW (inSitO_o h_p0) rfl ig5 2 (by decide) fl_X5_24 rfl dX5_restart_17 ?_
  refine lv_iconst (v := (0 : Int32)) hx hb dX5_restart_20 (by decide) ?_
  refine vJou_0 hx hb hts hown hK hW hS hA h_p0j fl_X5_50 dX5_restart_21 (fun Ω_3 H locs h_p0j hF_3 hW hS => ?_)
  have h_p0 := h_p0.keep (fun q h1 h2 => hF_3 q (by omega))
  have h_p0d := h_p0d.keep (fun q h1 h2 => hF_3 q (by omega))
  have h_p0m := h_p0m.keep (fun q h1 h2 => hF_3 q (by omega))
  have h_p1 := h_p1.keep (fun q h1 h2 => hF_3 q (by omega))
  have hE : ∀ q : Nat, (q < p0 ∨ p0 + 1 ≤ q) → (q < (p0 + 1) ∨ (p0 + 1) + 5 ≤ q) → (q < (p0 + 6) ∨ (p0 + 6) + 5 ≤ q) → (q < (p0 + 11) ∨ (p0 + 11) + 4 ≤ q) → Ω_3 q = Ω q := fun q g0 g1 g2 g3 => (hF_3 q (by omega)).trans (hE q g0 g1 g2 g3)
  refine lv_aload_n hx hb dX5_restart_24 rfl (lv_at hl 0 rfl) ?_
  refine lv_iconst (v := (0 : Int32)) hx hb dX5_restart_25 (by decide) ?_
  refine vSitO_3 hx hb hts hown hK hW hS hA h_p0 fl_X5_39 dX5_restart_26 (fun Ω_4 H locs h_p0 hF_4 hW hS => ?_)
  have h_p0d := h_p0d.keep (fun q h1 h2 => hF_4 q (by omega))
  have h_p0m := h_p0m.keep (fun q h1 h2 => hF_4 q (by omega))
  have h_p0j := h_p0j.keep (fun q h1 h2 => hF_4 q (by omega))
  have h_p1 := h_p1.keep (fun q h1 h2 => hF_4 q (by omega))
  have hE : ∀ q : Nat, (q < p0 ∨ p0 + 1 ≤ q) → (q < (p0 + 1) ∨ (p0 + 1) + 5 ≤ q) → (q < (p0 + 6) ∨ (p0 + 6) + 5 ≤ q) → (q < (p0 + 11) ∨ (p0 + 11) + 4 ≤ q) → Ω_4 q = Ω q := fun q g0 g1 g2 g3 => (hF_4 q (by omega)).trans (hE q g0 g1 g2 g3)
  refine lv_aload_n hx hb dX5_restart_29 rfl (lv_at hl 0 rfl) ?_
  refine lv_bipush (v := (-9 : Int32)) hx hb dX5_restart_30 (by decide) ?_
  refine vSitO_4 hx hb hts hown hK hW hS hA h_p0 fl_X5_28 dX5_restart_32 (fun Ω_5 H locs h_p0 hF_5 hW hS => ?_)
  have h_p0d := h_p0d.keep (fun q h1 h2 => hF_5 q (by omega))
  have h_p0m := h_p0m.keep (fun q h1 h2 => hF_5 q (by omega))
  have h_p0j := h_p0j.keep (fun q h1 h2 => hF_5 q (by omega))
  have h_p1 := h_p1.keep (fun q h1 h2 => hF_5 q (by omega))
  have hE : ∀ q : Nat, (q < p0 ∨ p0 + 1 ≤ q) → (q < (p0 + 1) ∨ (p0 + 1) + 5 ≤ q) → (q < (p0 + 6) ∨ (p0 + 6) + 5 ≤ q) → (q < (p0 + 11) ∨ (p0 + 11) + 4 ≤ q) → Ω_5 q = Ω q := fun q g0 g1 g2 g3 => (hF_5 q (by omega)).trans (hE q g0 g1 g2 g3)
  subst hR
  exact W.vret hx hb hr (fun t ht hW9 => ⟨⟨Ω_5, rfl, ⟨h_p0, h_p0d, h_p0m, h_p0j, hE⟩, by rw [oB, ht]; exact hW⟩, hS.F ht⟩) hS.2.2 dX5_restart_35
set_option maxHeartbeats 4000000 in
set_option maxRecDepth 100000 in
theorem c_X5_startWith (l : Launch) (G : Gm) (A : Nat → Prop) (Ω : Om) (p0 : Nat) (p1 : Nat) (p0_0 : Int32) (p0_1 : Int32) (p0d_0 : Fn) (p0d_1 : Fn) (p0d_2 : Fn) (p0d_3 : Fn) (p0m_0 : Fn) (p0m_1 : Fn) (p0m_2 : Fn) (p0m_3 : Fn) (p0j_0 : Int32) (p0j_1 : Fn) (p0j_2 : Fn) (p0j_3 : Fn) (p1_0 : Blk) (hd_p0_p1 : p0 + 15 ≤ p1 ∨ p1 + 13 ≤ p0) (hJ_p0j : 0 ≤ p0j_0.toInt ∧ p0j_0.toInt ≤ 20) (hB_p1 : BlkInv p1_0) (h_p0 : inSitO G Ω p0 p0_0 p0_1) (h_p0d : inDev G Ω (p0 + 1) p0d_0 p0d_1 p0d_2 p0d_3) (h_p0m : inDev G Ω (p0 + 6) p0m_0 p0m_1 p0m_2 p0m_3) (h_p0j : inJou G Ω (p0 + 11) p0j_0 p0j_1 p0j_2 p0j_3) (h_p1 : inBlk G Ω p1 p1_0) : Met l yX5_startWith (wz yX5_startWith cX5_startWith 2 none) ({ frames := 4, cells := 0, slots := 0, locals := 90 } : Room) (va_Pc [.ref p0, .ref p1] (oS G A Ω)) (va_Qv (fun (Ω1 : Om) => inSitO G Ω1 p0 ((f_X5_startWith p0d_0 p0d_1 p0d_2 p0d_3 p0m_0 p0m_1 p0m_2 p0m_3 p1_0).1) ((f_X5_startWith p0d_0 p0d_1 p0d_2 p0d_3 p0m_0 p0m_1 p0m_2 p0m_3 p1_0).2.1) ∧ inDev G Ω1 (p0 + 1) ((f_X5_startWith p0d_0 p0d_1 p0d_2 p0d_3 p0m_0 p0m_1 p0m_2 p0m_3 p1_0).2.2.1) ((f_X5_startWith p0d_0 p0d_1 p0d_2 p0d_3 p0m_0 p0m_1 p0m_2 p0m_3 p1_0).2.2.2.1) ((f_X5_startWith p0d_0 p0d_1 p0d_2 p0d_3 p0m_0 p0m_1 p0m_2 p0m_3 p1_0).2.2.2.2.1) ((f_X5_startWith p0d_0 p0d_1 p0d_2 p0d_3 p0m_0 p0m_1 p0m_2 p0m_3 p1_0).2.2.2.2.2.1) ∧ inDev G Ω1 (p0 + 6) ((f_X5_startWith p0d_0 p0d_1 p0d_2 p0d_3 p0m_0 p0m_1 p0m_2 p0m_3 p1_0).2.2.2.2.2.2.1) ((f_X5_startWith p0d_0 p0d_1 p0d_2 p0d_3 p0m_0 p0m_1 p0m_2 p0m_3 p1_0).2.2.2.2.2.2.2.1) ((f_X5_startWith p0d_0 p0d_1 p0d_2 p0d_3 p0m_0 p0m_1 p0m_2 p0m_3 p1_0).2.2.2.2.2.2.2.2.1) ((f_X5_startWith p0d_0 p0d_1 p0d_2 p0d_3 p0m_0 p0m_1 p0m_2 p0m_3 p1_0).2.2.2.2.2.2.2.2.2.1) ∧ inJou G Ω1 (p0 + 11) ((f_X5_startWith p0d_0 p0d_1 p0d_2 p0d_3 p0m_0 p0m_1 p0m_2 p0m_3 p1_0).2.2.2.2.2.2.2.2.2.2) p0j_1 p0j_2 p0j_3 ∧ (∀ q : Nat, (q < p0 ∨ p0 + 1 ≤ q) → (q < (p0 + 1) ∨ (p0 + 1) + 5 ≤ q) → (q < (p0 + 6) ∨ (p0 + 6) + 5 ≤ q) → (q < (p0 + 11) ∨ (p0 + 11) + 4 ≤ q) → Ω1 q = Ω q)) (oB G A) A) 0 0 A := by
  refine Met.ofW (cc := cX5_startWith) (maxL := 2) (ret := none) (by decide) rfl ?_
  intro p e s m args below meth c s₁ B hml hv
  obtain ⟨rfl, hW, hK, hN⟩ := hv
  have hx := B.exec
  have hb := B.bytes
  have hr := B.returns
  have hts : ∀ w ∈ gt, w.before _ s = true := fun w hw => atoms_spec (ws := wz yX5_startWith cX5_startWith 2 none) B.pre w (List.mem_cons_of_mem _ hw)
  have hown : s.vm.findClass RX5 = some m.cls := findClass_of_methodNamed B.named
  have hlocks := B.notSynchronized
  have hA : ∀ q, A q → A q := fun _ h => h
  have hS : va_S A s.heap s.heap [] := va_S.rf
  have hS0 := hS
  have hl := lv_entry ([.ref p0, .ref p1]) (n := 2) (Nat.le_of_ble_eq_true rfl)
  rw [lg_entry_eq]
  generalize (lg_sl ([.ref p0, .ref p1]) ++ List.replicate (2 - (lg_sl ([.ref p0, .ref p1])).length) Slot.unset).toArray = ls at hl ⊢
  have hl : lv_has ls 2 [(0, .ref p0), (1, .ref p1)] := hl
  have hE : ∀ q : Nat, (q < p0 ∨ p0 + 1 ≤ q) → (q < (p0 + 1) ∨ (p0 + 1) + 5 ≤ q) → (q < (p0 + 6) ∨ (p0 + 6) + 5 ≤ q) → (q < (p0 + 11) ∨ (p0 + 11) + 4 ≤ q) → Ω q = Ω q := by intros; rfl
  generalize hR : (f_X5_startWith p0d_0 p0d_1 p0d_2 p0d_3 p0m_0 p0m_1 p0m_2 p0m_3 p1_0) = R
  rw [f_X5_startWith] at hR
  refine lv_aload_n hx hb dX5_startWith_0 rfl (lv_at hl 0 rfl) ?_
  refine o_get hx hb hts hown hK hW (inSitO_o h_p0) rfl ig5 0 (by decide) fl_X5_12 rfl dX5_startWith_1 ?_
  refine lv_aload_n hx hb dX5_startWith_4 rfl (lv_at hl 1 rfl) ?_
  refine o_Vv (rest := []) (As := [.ref p1]) (n := 1) hx hb hml hown hts hK hN hW hS hA (c_X1_mend l G A Ω (p0 + 1) p1 p0d_0 p0d_1 p0d_2 p0d_3 p1_0 (by omega) (by first | assumption | omega) h_p0d h_p1) (inDev_o h_p0d) rfl (good_V ml_X5_42 im_X1_mend se_X1_mend ini_X1 co_X1_mend) (by decide +kernel) ⟨Nat.zero_le _, Nat.zero_le _⟩ hl.1 (Nat.le_of_ble_eq_true rfl) rfl rfl dX5_startWith_5 (fun Ω_1 H locs hp hW hS => ?_)
  obtain ⟨h_p0d, hF_1⟩ := hp
  have h_p0 := h_p0.keep (fun q h1 h2 => hF_1 q (by omega))
  have h_p0m := h_p0m.keep (fun q h1 h2 => hF_1 q (by omega))
  have h_p0j := h_p0j.keep (fun q h1 h2 => hF_1 q (by omega))
  have h_p1 := h_p1.keep (fun q h1 h2 => hF_1 q (by omega))
  have hE : ∀ q : Nat, (q < p0 ∨ p0 + 1 ≤ q) → (q < (p0 + 1) ∨ (p0 + 1) + 5 ≤ q) → (q < (p0 + 6) ∨ (p0 + 6) + 5 ≤ q) → (q < (p0 + 11) ∨ (p0 + 11) + 4 ≤ q) → Ω_1 q = Ω q := fun q g0 g1 g2 g3 => (hF_1 q (by omega)).trans (hE q g0 g1 g2 g3)
  refine lv_aload_n hx hb dX5_startWith_8 rfl (lv_at hl 0 rfl) ?_
  refine o_get hx hb hts hown hK hW (inSitO_o h_p0) rfl ig5 1 (by decide) fl_X5_18 rfl dX5_startWith_9 ?_
  refine lv_aload_n hx hb dX5_startWith_12 rfl (lv_at hl 1 rfl) ?_
  refine o_Vv (rest := []) (As := [.ref p1]) (n := 1) hx hb hml hown hts hK hN hW hS hA (c_X1_mend l G A Ω_1 (p0 + 6) p1 p0m_0 p0m_1 p0m_2 p0m_3 p1_0 (by omega) (by first | assumption | omega) h_p0m h_p1) (inDev_o h_p0m) rfl (good_V ml_X5_42 im_X1_mend se_X1_mend ini_X1 co_X1_mend) (by decide +kernel) ⟨Nat.zero_le _, Nat.zero_le _⟩ hl.1 (Nat.le_of_ble_eq_true rfl) rfl rfl dX5_startWith_13 (fun Ω_2 H locs hp hW hS => ?_)
  obtain ⟨h_p0m, hF_2⟩ := hp
  have h_p0 := h_p0.keep (fun q h1 h2 => hF_2 q (by omega))
  have h_p0d := h_p0d.keep (fun q h1 h2 => hF_2 q (by omega))
  have h_p0j := h_p0j.keep (fun q h1 h2 => hF_2 q (by omega))
  have h_p1 := h_p1.keep (fun q h1 h2 => hF_2 q (by omega))
  have hE : ∀ q : Nat, (q < p0 ∨ p0 + 1 ≤ q) → (q < (p0 + 1) ∨ (p0 + 1) + 5 ≤ q) → (q < (p0 + 6) ∨ (p0 + 6) + 5 ≤ q) → (q < (p0 + 11) ∨ (p0 + 11) + 4 ≤ q) → Ω_2 q = Ω q := fun q g0 g1 g2 g3 => (hF_2 q (by omega)).trans (hE q g0 g1 g2 g3)
  refine lv_aload_n hx hb dX5_startWith_16 rfl (lv_at hl 0 rfl) ?_
  refine lv_aload_n hx hb dX5_startWith_17 rfl (lv_at hl 1 rfl) ?_
  refine o_Vv (rest := []) (As := [.ref p1]) (n := 1) hx hb hml hown hts hK hN hW hS hA (c_X5_restart l G A Ω_2 p0 p1 p0_0 p0_1 p0d_0 p0d_1 p0d_2 (f_X1_mend p0d_3 p1_0) p0m_0 p0m_1 p0m_2 (f_X1_mend p0m_3 p1_0) p0j_0 p0j_1 p0j_2 p0j_3 p1_0 (by omega) (by first | assumption | omega) (by first | assumption | omega) h_p0 h_p0d h_p0m h_p0j h_p1) (inSitO_o h_p0) rfl (good_V ml_X5_46 im_X5_restart se_X5_restart ini_X5 co_X5_restart) (by decide +kernel) ⟨Nat.zero_le _, Nat.zero_le _⟩ hl.1 (Nat.le_of_ble_eq_true rfl) rfl rfl dX5_startWith_18 (fun Ω_3 H locs hp hW hS => ?_)
  obtain ⟨h_p0, h_p0d, h_p0m, h_p0j, hF_3⟩ := hp
  have h_p1 := h_p1.keep (fun q h1 h2 => hF_3 q (by omega) (by omega) (by omega) (by omega))
  have hE : ∀ q : Nat, (q < p0 ∨ p0 + 1 ≤ q) → (q < (p0 + 1) ∨ (p0 + 1) + 5 ≤ q) → (q < (p0 + 6) ∨ (p0 + 6) + 5 ≤ q) → (q < (p0 + 11) ∨ (p0 + 11) + 4 ≤ q) → Ω_3 q = Ω q := fun q g0 g1 g2 g3 => (hF_3 q (by omega) (by omega) (by omega) (by omega)).trans (hE q g0 g1 g2 g3)
  generalize (f_X5_restart p0d_0 p0d_1 p0d_2 p0m_0 p0m_1 p0m_2 p1_0) = Z_3 at h_p0 h_p0d h_p0m h_p0j hR
  obtain ⟨z3_0, z3_1, z3_2, z3_3, z3_4, z3_5, z3_6, z3_7, z3_8⟩ := Z_3
  dsimp only at h_p0 h_p0d h_p0m h_p0j hR
  rw [f_X5_startWith_C21] at hR
  subst hR
  exact W.vret hx hb hr (fun t ht hW9 => ⟨⟨Ω_3, rfl, ⟨h_p0, h_p0d, h_p0m, h_p0j, hE⟩, by rw [oB, ht]; exact hW⟩, hS.F ht⟩) hS.2.2 dX5_startWith_21
set_option maxHeartbeats 4000000 in
set_option maxRecDepth 100000 in
theorem c_X5_performRead (l : Launch) (G : Gm) (A : Nat → Prop) (Ω : Om) (p0 : Nat) (p1 : Nat) (p0_0 : Int32) (p0_1 : Int32) (p0d_0 : Fn) (p0d_1 : Fn) (p0d_2 : Fn) (p0d_3 : Fn) (p0m_0 : Fn) (p0m_1 : Fn) (p0m_2 : Fn) (p0m_3 : Fn) (p0j_0 : Int32) (p0j_1 : Fn) (p0j_2 : Fn) (p0j_3 : Fn) (p1_0 : Blk) (x2 : Int32) (hd_p0_p1 : p0 + 15 ≤ p1 ∨ p1 + 13 ≤ p0) (hJ_p0j : 0 ≤ p0j_0.toInt ∧ p0j_0.toInt ≤ 20) (hB_p1 : BlkInv p1_0) (h_p0 : inSitO G Ω p0 p0_0 p0_1) (h_p0d : inDev G Ω (p0 + 1) p0d_0 p0d_1 p0d_2 p0d_3) (h_p0m : inDev G Ω (p0 + 6) p0m_0 p0m_1 p0m_2 p0m_3) (h_p0j : inJou G Ω (p0 + 11) p0j_0 p0j_1 p0j_2 p0j_3) (h_p1 : inBlk G Ω p1 p1_0) : Met l yX5_performRead (wz yX5_performRead cX5_performRead 4 (some .int)) ({ frames := 5, cells := 0, slots := 0, locals := 114 } : Room) (va_Pc [.ref p0, .ref p1, .int x2] (oS G A Ω)) (va_Qi (fun (r : Int32) (Ω1 : Om) => r = (f_X5_performRead p0_0 p0d_0 p0d_3 p0m_0 p0m_3 p0j_0 p0j_1 p0j_2 p0j_3 p1_0 x2).1 ∧ inSitO G Ω1 p0 ((f_X5_performRead p0_0 p0d_0 p0d_3 p0m_0 p0m_3 p0j_0 p0j_1 p0j_2 p0j_3 p1_0 x2).2.1) ((f_X5_performRead p0_0 p0d_0 p0d_3 p0m_0 p0m_3 p0j_0 p0j_1 p0j_2 p0j_3 p1_0 x2).2.2.1) ∧ inDev G Ω1 (p0 + 1) ((f_X5_performRead p0_0 p0d_0 p0d_3 p0m_0 p0m_3 p0j_0 p0j_1 p0j_2 p0j_3 p1_0 x2).2.2.2.1) p0d_1 p0d_2 p0d_3 ∧ inDev G Ω1 (p0 + 6) ((f_X5_performRead p0_0 p0d_0 p0d_3 p0m_0 p0m_3 p0j_0 p0j_1 p0j_2 p0j_3 p1_0 x2).2.2.2.2.1) p0m_1 p0m_2 p0m_3 ∧ inJou G Ω1 (p0 + 11) ((f_X5_performRead p0_0 p0d_0 p0d_3 p0m_0 p0m_3 p0j_0 p0j_1 p0j_2 p0j_3 p1_0 x2).2.2.2.2.2.1) ((f_X5_performRead p0_0 p0d_0 p0d_3 p0m_0 p0m_3 p0j_0 p0j_1 p0j_2 p0j_3 p1_0 x2).2.2.2.2.2.2.1) ((f_X5_performRead p0_0 p0d_0 p0d_3 p0m_0 p0m_3 p0j_0 p0j_1 p0j_2 p0j_3 p1_0 x2).2.2.2.2.2.2.2.1) ((f_X5_performRead p0_0 p0d_0 p0d_3 p0m_0 p0m_3 p0j_0 p0j_1 p0j_2 p0j_3 p1_0 x2).2.2.2.2.2.2.2.2) ∧ (∀ q : Nat, (q < p0 ∨ p0 + 1 ≤ q) → (q < (p0 + 1) ∨ (p0 + 1) + 5 ≤ q) → (q < (p0 + 6) ∨ (p0 + 6) + 5 ≤ q) → (q < (p0 + 11) ∨ (p0 + 11) + 4 ≤ q) → Ω1 q = Ω q)) (oB G A) A) 0 0 A := by
  refine Met.ofW (cc := cX5_performRead) (maxL := 4) (ret := (some .int)) (by decide) rfl ?_
  intro p e s m args below meth c s₁ B hml hv
  obtain ⟨rfl, hW, hK, hN⟩ := hv
  have hx := B.exec
  have hb := B.bytes
  have hr := B.returns
  have hts : ∀ w ∈ gt, w.before _ s = true := fun w hw => atoms_spec (ws := wz yX5_performRead cX5_performRead 4 (some .int)) B.pre w (List.mem_cons_of_mem _ hw)
  have hown : s.vm.findClass RX5 = some m.cls := findClass_of_methodNamed B.named
  have hlocks := B.notSynchronized
  have hA : ∀ q, A q → A q := fun _ h => h
  have hS : va_S A s.heap s.heap [] := va_S.rf
  have hS0 := hS
  have hl := lv_entry ([.ref p0, .ref p1, .int x2]) (n := 4) (Nat.le_of_ble_eq_true rfl)
  rw [lg_entry_eq]
  generalize (lg_sl ([.ref p0, .ref p1, .int x2]) ++ List.replicate (4 - (lg_sl ([.ref p0, .ref p1, .int x2])).length) Slot.unset).toArray = ls at hl ⊢
  have hl : lv_has ls 4 [(0, .ref p0), (1, .ref p1), (2, .int x2)] := hl
  have hE : ∀ q : Nat, (q < p0 ∨ p0 + 1 ≤ q) → (q < (p0 + 1) ∨ (p0 + 1) + 5 ≤ q) → (q < (p0 + 6) ∨ (p0 + 6) + 5 ≤ q) → (q < (p0 + 11) ∨ (p0 + 11) + 4 ≤ q) → Ω q = Ω q := by intros; rfl
  generalize hR : (f_X5_performRead p0_0 p0d_0 p0d_3 p0m_0 p0m_3 p0j_0 p0j_1 p0j_2 p0j_3 p1_0 x2) = R
  rw [f_X5_performRead] at hR
  refine lv_aload_n hx hb dX5_performRead_0 rfl (lv_at hl 0 rfl) ?_
  refine o_get hx hb hts hown hK hW (inSitO_o h_p0) rfl ig5 0 (by decide) fl_X5_12 rfl dX5_performRead_1 ?_
  refine lv_aload_n hx hb dX5_performRead_4 rfl (lv_at hl 1 rfl) ?_
  refine lv_iload_n hx hb dX5_performRead_5 rfl (lv_at hl 2 rfl) ?_
  refine o_Vi (rest := []) (As := [.ref p1, .int x2]) (n := 2) hx hb hml hown hts hK hN hW hS hA (c_X1_read l G A Ω (p0 + 1) p1 p0d_0 p0d_1 p0d_2 p0d_3 p1_0 x2 (by omega) (by first | assumption | omega) h_p0d h_p1) (inDev_o h_p0d) rfl (good_V ml_X5_53 im_X1_read se_X1_read ini_X1 co_X1_read) (by decide +kernel) ⟨Nat.zero_le _, Nat.zero_le _⟩ hl.1 (Nat.le_of_ble_eq_true rfl) rfl rfl dX5_performRead_6 (fun r Ω_1 H locs hp hW hS => ?_)
  obtain ⟨rfl, h_p0d, hF_1⟩ := hp
  have h_p0 := h_p0.keep (fun q h1 h2 => hF_1 q (by omega))
  have h_p0m := h_p0m.keep (fun q h1 h2 => hF_1 q (by omega))
  have h_p0j := h_p0j.keep (fun q h1 h2 => hF_1 q (by omega))
  have h_p1 := h_p1.keep (fun q h1 h2 => hF_1 q (by omega))
  have hE : ∀ q : Nat, (q < p0 ∨ p0 + 1 ≤ q) → (q < (p0 + 1) ∨ (p0 + 1) + 5 ≤ q) → (q < (p0 + 6) ∨ (p0 + 6) + 5 ≤ q) → (q < (p0 + 11) ∨ (p0 + 11) + 4 ≤ q) → Ω_1 q = Ω q := fun q g0 g1 g2 g3 => (hF_1 q (by omega)).trans (hE q g0 g1 g2 g3)
  generalize (f_X1_read p0d_0 p0d_3 p1_0 x2) = Z_1 at h_p0d hR ⊢
  obtain ⟨z1_0, z1_1⟩ := Z_1
  dsimp only at h_p0d hR ⊢
  rw [f_X5_performRead_C9] at hR
  refine lv_istore_n (lv' := [(3, .int z1_0), (0, .ref p0), (1, .ref p1), (2, .int x2)]) hx hb dX5_performRead_9 rfl hl (by decide) rfl (fun ls hl => ?_)
  refine lv_aload_n hx hb dX5_performRead_10 rfl (lv_at hl 1 rfl) ?_
  refine lv_iload_n hx hb dX5_performRead_11 rfl (lv_at hl 0 rfl) ?_
  refine lv_aload_n hx hb dX5_performRead_12 rfl (lv_at hl 1 rfl) ?_
  refine o_get hx hb hts hown hK hW (inSitO_o h_p0) rfl ig5 1 (by decide) fl_X5_18 rfl dX5_performRead_13 ?_
  refine lv_aload_n hx hb dX5_performRead_16 rfl (lv_at hl 2 rfl) ?_
  refine lv_iload_n hx hb dX5_performRead_17 rfl (lv_at hl 3 rfl) ?_
  refine o_ViR (rest := [.int z1_0, .ref p0]) (As := [.ref p1, .int x2]) (n := 2) hx hb hml hown hts hK hN hW hS hA (c_X1_look l G A Ω_1 (p0 + 6) p1 p0m_0 p0m_1 p0m_2 p0m_3 p1_0 x2 (by first | assumption | omega) h_p0m h_p1) (inDev_o h_p0m) rfl (good_V ml_X5_57 im_X1_look se_X1_look ini_X1 co_X1_look) (by decide +kernel) ⟨Nat.zero_le _, Nat.zero_le _⟩ hl.1 (Nat.le_of_ble_eq_true rfl) rfl rfl dX5_performRead_18 (fun r H locs hp hW hS => ?_)
  subst hp
  refine lv_ixor hx hb dX5_performRead_21 ?_
  refine vSitO_4 hx hb hts hown hK hW hS hA h_p0 fl_X5_28 dX5_performRead_22 (fun Ω_3 H locs h_p0 hF_3 hW hS => ?_)
  have h_p0d := h_p0d.keep (fun q h1 h2 => hF_3 q (by omega))
  have h_p0m := h_p0m.keep (fun q h1 h2 => hF_3 q (by omega))
  have h_p0j := h_p0j.keep (fun q h1 h2 => hF_3 q (by omega))
  have h_p1 := h_p1.keep (fun q h1 h2 => hF_3 q (by omega))
  have hE : ∀ q : Nat, (q < p0 ∨ p0 + 1 ≤ q) → (q < (p0 + 1) ∨ (p0 + 1) + 5 ≤ q) → (q < (p0 + 6) ∨ (p0 + 6) + 5 ≤ q) → (q < (p0 + 11) ∨ (p0 + 11) + 4 ≤ q) → Ω_3 q = Ω q := fun q g0 g1 g2 g3 => (hF_3 q (by omega)).trans (hE q g0 g1 g2 g3)
  refine lv_aload_n hx hb dX5_performRead_25 rfl (lv_at hl 1 rfl) ?_
  refine o_get hx hb hts hown hK hW (inSitO_o h_p0) rfl ig5 4 (by decide) fl_X5_28 rfl dX5_performRead_26 ?_
  have J42 : ∀ (p0_0_4 : Int32) (Ω_5 : Om) (H : Heap) (locs : List Loc), inSitO G Ω_5 p0 p0_0_4 (z1_0 ^^^ (f_X1_look p0m_0 p0m_3 p1_0 x2)) → inDev G Ω_5 (p0 + 1) z1_1 p0d_1 p0d_2 p0d_3 → inDev G Ω_5 (p0 + 6) p0m_0 p0m_1 p0m_2 p0m_3 → inJou G Ω_5 (p0 + 11) p0j_0 p0j_1 p0j_2 p0j_3 → inBlk G Ω_5 p1 p1_0 → (∀ q : Nat, (q < p0 ∨ p0 + 1 ≤ q) → (q < (p0 + 1) ∨ (p0 + 1) + 5 ≤ q) → (q < (p0 + 6) ∨ (p0 + 6) + 5 ≤ q) → (q < (p0 + 11) ∨ (p0 + 11) + 4 ≤ q) → Ω_5 q = Ω q) → oW G A Ω_5 H → va_S A s.heap H locs → ∀ ls : Array Slot, lv_has ls 4 [(0, .ref p0), (1, .ref p1), (2, .int x2), (3, .int z1_0)] → (f_X5_performRead_J42 (z1_0 ^^^ (f_X1_look p0m_0 p0m_3 p1_0 x2)) z1_1 p0m_0 p0m_3 p0j_0 p0j_1 p0j_2 p0j_3 p1_0 x2 z1_0 p0_0_4) = R → W p l e (headSpec (wz yX5_performRead cX5_performRead 4 (some .int)) ({ frames := 5, cells := 0, slots := 0, locals := 114 } : Room)).room s m ([.ref p0, .ref p1, .int x2] : List Value).toArray below meth c H locs 0 0 (MQ below (va_Qi (fun (r : Int32) (Ω1 : Om) => r = R.1 ∧ inSitO G Ω1 p0 (R.2.1) (R.2.2.1) ∧ inDev G Ω1 (p0 + 1) (R.2.2.2.1) p0d_1 p0d_2 p0d_3 ∧ inDev G Ω1 (p0 + 6) (R.2.2.2.2.1) p0m_1 p0m_2 p0m_3 ∧ inJou G Ω1 (p0 + 11) (R.2.2.2.2.2.1) (R.2.2.2.2.2.2.1) (R.2.2.2.2.2.2.2.1) (R.2.2.2.2.2.2.2.2) ∧ (∀ q : Nat, (q < p0 ∨ p0 + 1 ≤ q) → (q < (p0 + 1) ∨ (p0 + 1) + 5 ≤ q) → (q < (p0 + 6) ∨ (p0 + 6) + 5 ≤ q) → (q < (p0 + 11) ∨ (p0 + 11) + 4 ≤ q) → Ω1 q = Ω q)) (oB G A) A) ([.ref p0, .ref p1, .int x2] : List Value).toArray s 0 0 A) (F0 m 42 ls []) := by
    intro p0_0_4 Ω_5 H locs h_p0 h_p0d h_p0m h_p0j h_p1 hE hW hS ls hl hR
    rw [f_X5_performRead_J42] at hR
    refine lv_aload_n hx hb dX5_performRead_42 rfl (lv_at hl 0 rfl) ?_
    refine o_get hx hb hts hown hK hW (inSitO_o h_p0) rfl ig5 1 (by decide) fl_X5_18 rfl dX5_performRead_43 ?_
    refine lv_aload_n hx hb dX5_performRead_46 rfl (lv_at hl 1 rfl) ?_
    refine lv_iload_n hx hb dX5_performRead_47 rfl (lv_at hl 2 rfl) ?_
    refine lv_iload_n hx hb dX5_performRead_48 rfl (lv_at hl 3 rfl) ?_
    refine o_Vv (rest := []) (As := [.ref p1, .int x2, .int z1_0]) (n := 3) hx hb hml hown hts hK hN hW hS hA (c_X1_learn l G A Ω_5 (p0 + 6) p1 p0m_0 p0m_1 p0m_2 p0m_3 p1_0 x2 z1_0 (by omega) (by first | assumption | omega) h_p0m h_p1) (inDev_o h_p0m) rfl (good_V ml_X5_60 im_X1_learn se_X1_learn ini_X1 co_X1_learn) (by decide +kernel) ⟨Nat.zero_le _, Nat.zero_le _⟩ hl.1 (Nat.le_of_ble_eq_true rfl) rfl rfl dX5_performRead_49 (fun Ω_6 H locs hp hW hS => ?_)
    obtain ⟨h_p0m, hF_6⟩ := hp
    have h_p0 := h_p0.keep (fun q h1 h2 => hF_6 q (by omega))
    have h_p0d := h_p0d.keep (fun q h1 h2 => hF_6 q (by omega))
    have h_p0j := h_p0j.keep (fun q h1 h2 => hF_6 q (by omega))
    have h_p1 := h_p1.keep (fun q h1 h2 => hF_6 q (by omega))
    have hE : ∀ q : Nat, (q < p0 ∨ p0 + 1 ≤ q) → (q < (p0 + 1) ∨ (p0 + 1) + 5 ≤ q) → (q < (p0 + 6) ∨ (p0 + 6) + 5 ≤ q) → (q < (p0 + 11) ∨ (p0 + 11) + 4 ≤ q) → Ω_6 q = Ω q := fun q g0 g1 g2 g3 => (hF_6 q (by omega)).trans (hE q g0 g1 g2 g3)
    refine lv_aload_n hx hb dX5_performRead_52 rfl (lv_at hl 0 rfl) ?_
    refine o_get hx hb hts hown hK hW (inSitO_o h_p0) rfl ig5 1 (by decide) fl_X5_18 rfl dX5_performRead_53 ?_
    refine lv_aload_n hx hb dX5_performRead_56 rfl (lv_at hl 1 rfl) ?_
    refine lv_iload_n hx hb dX5_performRead_57 rfl (lv_at hl 2 rfl) ?_
    refine o_Vi (rest := []) (As := [.ref p1, .int x2]) (n := 2) hx hb hml hown hts hK hN hW hS hA (c_X1_read l G A Ω_6 (p0 + 6) p1 (f_X1_learn p0m_0 p0m_3 p1_0 x2 z1_0) p0m_1 p0m_2 p0m_3 p1_0 x2 (by omega) (by first | assumption | omega) h_p0m h_p1) (inDev_o h_p0m) rfl (good_V ml_X5_53 im_X1_read se_X1_read ini_X1 co_X1_read) (by decide +kernel) ⟨Nat.zero_le _, Nat.zero_le _⟩ hl.1 (Nat.le_of_ble_eq_true rfl) rfl rfl dX5_performRead_58 (fun r Ω_7 H locs hp hW hS => ?_)
    obtain ⟨rfl, h_p0m, hF_7⟩ := hp
    have h_p0 := h_p0.keep (fun q h1 h2 => hF_7 q (by omega))
    have h_p0d := h_p0d.keep (fun q h1 h2 => hF_7 q (by omega))
    have h_p0j := h_p0j.keep (fun q h1 h2 => hF_7 q (by omega))
    have h_p1 := h_p1.keep (fun q h1 h2 => hF_7 q (by omega))
    have hE : ∀ q : Nat, (q < p0 ∨ p0 + 1 ≤ q) → (q < (p0 + 1) ∨ (p0 + 1) + 5 ≤ q) → (q < (p0 + 6) ∨ (p0 + 6) + 5 ≤ q) → (q < (p0 + 11) ∨ (p0 + 11) + 4 ≤ q) → Ω_7 q = Ω q := fun q g0 g1 g2 g3 => (hF_7 q (by omega)).trans (hE q g0 g1 g2 g3)
    generalize (f_X1_read (f_X1_learn p0m_0 p0m_3 p1_0 x2 z1_0) p0m_3 p1_0 x2) = Z_7 at h_p0m hR ⊢
    obtain ⟨z7_0, z7_1⟩ := Z_7
    dsimp only at h_p0m hR ⊢
    rw [f_X5_performRead_C61] at hR
    refine lv_pop hx hb dX5_performRead_61 rfl ?_
    refine lv_aload_n hx hb dX5_performRead_62 rfl (lv_at hl 0 rfl) ?_
    refine o_get hx hb hts hown hK hW (inSitO_o h_p0) rfl ig5 2 (by decide) fl_X5_24 rfl dX5_performRead_63 ?_
    refine lv_iload_n hx hb dX5_performRead_66 rfl (lv_at hl 2 rfl) ?_
    refine lv_iconst (v := (0 : Int32)) hx hb dX5_performRead_67 (by decide) ?_
    refine lv_iload_n hx hb dX5_performRead_68 rfl (lv_at hl 3 rfl) ?_
    have j_8 : (0 : Int32).toInt = 0 := by decide
    refine o_Vv (rest := []) (As := [.int x2, .int (0 : Int32), .int z1_0]) (n := 3) hx hb hml hown hts hK hN hW hS hA (c_X3_append l G A Ω_7 (p0 + 11) p0j_0 p0j_1 p0j_2 p0j_3 x2 (0 : Int32) z1_0 (by first | assumption | omega) h_p0j) (inJou_o h_p0j) rfl (good_V ml_X5_64 im_X3_append se_X3_append ini_X3 co_X3_append) (by decide +kernel) ⟨Nat.zero_le _, Nat.zero_le _⟩ hl.1 (Nat.le_of_ble_eq_true rfl) rfl rfl dX5_performRead_69 (fun Ω_9 H locs hp hW hS => ?_)
    obtain ⟨h_p0j, hF_9⟩ := hp
    have h_p0 := h_p0.keep (fun q h1 h2 => hF_9 q (by omega))
    have h_p0d := h_p0d.keep (fun q h1 h2 => hF_9 q (by omega))
    have h_p0m := h_p0m.keep (fun q h1 h2 => hF_9 q (by omega))
    have h_p1 := h_p1.keep (fun q h1 h2 => hF_9 q (by omega))
    have hE : ∀ q : Nat, (q < p0 ∨ p0 + 1 ≤ q) → (q < (p0 + 1) ∨ (p0 + 1) + 5 ≤ q) → (q < (p0 + 6) ∨ (p0 + 6) + 5 ≤ q) → (q < (p0 + 11) ∨ (p0 + 11) + 4 ≤ q) → Ω_9 q = Ω q := fun q g0 g1 g2 g3 => (hF_9 q (by omega)).trans (hE q g0 g1 g2 g3)
    generalize (f_X3_append p0j_0 p0j_1 p0j_2 p0j_3 x2 (0 : Int32) z1_0) = Z_9 at h_p0j hR
    obtain ⟨z9_0, z9_1, z9_2, z9_3⟩ := Z_9
    dsimp only at h_p0j hR
    rw [f_X5_performRead_C72] at hR
    refine lv_iload_n hx hb dX5_performRead_72 rfl (lv_at hl 3 rfl) ?_
    subst hR
    exact W.iret (v := z1_0) hx hb hr (fun t ht hW9 => ⟨⟨z1_0, Ω_9, rfl, ⟨rfl, h_p0, h_p0d, h_p0m, h_p0j, hE⟩, by rw [oB, ht]; exact hW⟩, hS.F ht⟩) hS.2.2 dX5_performRead_73
  have j_11 : (0 : Int32).toInt = 0 := by decide
  refine lv_if_eq (tgt := 42) hx hb dX5_performRead_29 (by decide) (fun c_10 => ?_) (fun c_10 => ?_)
  · rw [if_pos c_10] at hR
    have i_10 := congrArg Int32.toInt c_10
    exact J42 p0_0 Ω_3 H locs h_p0 h_p0d h_p0m h_p0j h_p1 hE hW hS ls (lv_sub hl [1, 2, 3, 0] rfl) hR
  · rw [if_neg c_10] at hR
    have i_10 := rne c_10
    refine lv_aload_n hx hb dX5_performRead_32 rfl (lv_at hl 1 rfl) ?_
    refine lv_dup hx hb dX5_performRead_33 rfl ?_
    refine o_get hx hb hts hown hK hW (inSitO_o h_p0) rfl ig5 3 (by decide) fl_X5_39 rfl dX5_performRead_34 ?_
    refine lv_iconst (v := (1 : Int32)) hx hb dX5_performRead_37 (by decide) ?_
    refine lv_iadd hx hb dX5_performRead_38 ?_
    refine vSitO_3 hx hb hts hown hK hW hS hA h_p0 fl_X5_39 dX5_performRead_39 (fun Ω_12 H locs h_p0 hF_12 hW hS => ?_)
    have h_p0d := h_p0d.keep (fun q h1 h2 => hF_12 q (by omega))
    have h_p0m := h_p0m.keep (fun q h1 h2 => hF_12 q (by omega))
    have h_p0j := h_p0j.keep (fun q h1 h2 => hF_12 q (by omega))
    have h_p1 := h_p1.keep (fun q h1 h2 => hF_12 q (by omega))
    have hE : ∀ q : Nat, (q < p0 ∨ p0 + 1 ≤ q) → (q < (p0 + 1) ∨ (p0 + 1) + 5 ≤ q) → (q < (p0 + 6) ∨ (p0 + 6) + 5 ≤ q) → (q < (p0 + 11) ∨ (p0 + 11) + 4 ≤ q) → Ω_12 q = Ω q := fun q g0 g1 g2 g3 => (hF_12 q (by omega)).trans (hE q g0 g1 g2 g3)
    exact J42 (p0_0 + (1 : Int32)) Ω_12 H locs h_p0 h_p0d h_p0m h_p0j h_p1 hE hW hS ls (lv_sub hl [1, 2, 3, 0] rfl) hR
set_option maxHeartbeats 4000000 in
set_option maxRecDepth 100000 in
theorem c_X5_performWrite (l : Launch) (G : Gm) (A : Nat → Prop) (Ω : Om) (p0 : Nat) (p1 : Nat) (p0_0 : Int32) (p0_1 : Int32) (p0d_0 : Fn) (p0d_1 : Fn) (p0d_2 : Fn) (p0d_3 : Fn) (p0m_0 : Fn) (p0m_1 : Fn) (p0m_2 : Fn) (p0m_3 : Fn) (p0j_0 : Int32) (p0j_1 : Fn) (p0j_2 : Fn) (p0j_3 : Fn) (p1_0 : Blk) (x2 : Int32) (x3 : Int32) (hd_p0_p1 : p0 + 15 ≤ p1 ∨ p1 + 13 ≤ p0) (hJ_p0j : 0 ≤ p0j_0.toInt ∧ p0j_0.toInt ≤ 20) (hB_p1 : BlkInv p1_0) (h_p0 : inSitO G Ω p0 p0_0 p0_1) (h_p0d : inDev G Ω (p0 + 1) p0d_0 p0d_1 p0d_2 p0d_3) (h_p0m : inDev G Ω (p0 + 6) p0m_0 p0m_1 p0m_2 p0m_3) (h_p0j : inJou G Ω (p0 + 11) p0j_0 p0j_1 p0j_2 p0j_3) (h_p1 : inBlk G Ω p1 p1_0) : Met l yX5_performWrite (wz yX5_performWrite cX5_performWrite 4 none) ({ frames := 4, cells := 0, slots := 0, locals := 97 } : Room) (va_Pc [.ref p0, .ref p1, .int x2, .int x3] (oS G A Ω)) (va_Qv (fun (Ω1 : Om) => inDev G Ω1 (p0 + 1) ((f_X5_performWrite p0d_0 p0d_1 p0d_2 p0d_3 p0m_0 p0m_1 p0m_2 p0m_3 p0j_0 p0j_1 p0j_2 p0j_3 p1_0 x2 x3).1) ((f_X5_performWrite p0d_0 p0d_1 p0d_2 p0d_3 p0m_0 p0m_1 p0m_2 p0m_3 p0j_0 p0j_1 p0j_2 p0j_3 p1_0 x2 x3).2.1) ((f_X5_performWrite p0d_0 p0d_1 p0d_2 p0d_3 p0m_0 p0m_1 p0m_2 p0m_3 p0j_0 p0j_1 p0j_2 p0j_3 p1_0 x2 x3).2.2.1) p0d_3 ∧ inDev G Ω1 (p0 + 6) ((f_X5_performWrite p0d_0 p0d_1 p0d_2 p0d_3 p0m_0 p0m_1 p0m_2 p0m_3 p0j_0 p0j_1 p0j_2 p0j_3 p1_0 x2 x3).2.2.2.1) ((f_X5_performWrite p0d_0 p0d_1 p0d_2 p0d_3 p0m_0 p0m_1 p0m_2 p0m_3 p0j_0 p0j_1 p0j_2 p0j_3 p1_0 x2 x3).2.2.2.2.1) ((f_X5_performWrite p0d_0 p0d_1 p0d_2 p0d_3 p0m_0 p0m_1 p0m_2 p0m_3 p0j_0 p0j_1 p0j_2 p0j_3 p1_0 x2 x3).2.2.2.2.2.1) p0m_3 ∧ inJou G Ω1 (p0 + 11) ((f_X5_performWrite p0d_0 p0d_1 p0d_2 p0d_3 p0m_0 p0m_1 p0m_2 p0m_3 p0j_0 p0j_1 p0j_2 p0j_3 p1_0 x2 x3).2.2.2.2.2.2.1) ((f_X5_performWrite p0d_0 p0d_1 p0d_2 p0d_3 p0m_0 p0m_1 p0m_2 p0m_3 p0j_0 p0j_1 p0j_2 p0j_3 p1_0 x2 x3).2.2.2.2.2.2.2.1) ((f_X5_performWrite p0d_0 p0d_1 p0d_2 p0d_3 p0m_0 p0m_1 p0m_2 p0m_3 p0j_0 p0j_1 p0j_2 p0j_3 p1_0 x2 x3).2.2.2.2.2.2.2.2.1) ((f_X5_performWrite p0d_0 p0d_1 p0d_2 p0d_3 p0m_0 p0m_1 p0m_2 p0m_3 p0j_0 p0j_1 p0j_2 p0j_3 p1_0 x2 x3).2.2.2.2.2.2.2.2.2) ∧ (∀ q : Nat, (q < (p0 + 1) ∨ (p0 + 1) + 5 ≤ q) → (q < (p0 + 6) ∨ (p0 + 6) + 5 ≤ q) → (q < (p0 + 11) ∨ (p0 + 11) + 4 ≤ q) → Ω1 q = Ω q)) (oB G A) A) 0 0 A := by
  refine Met.ofW (cc := cX5_performWrite) (maxL := 4) (ret := none) (by decide) rfl ?_
  intro p e s m args below meth c s₁ B hml hv
  obtain ⟨rfl, hW, hK, hN⟩ := hv
  have hx := B.exec
  have hb := B.bytes
  have hr := B.returns
  have hts : ∀ w ∈ gt, w.before _ s = true := fun w hw => atoms_spec (ws := wz yX5_performWrite cX5_performWrite 4 none) B.pre w (List.mem_cons_of_mem _ hw)
  have hown : s.vm.findClass RX5 = some m.cls := findClass_of_methodNamed B.named
  have hlocks := B.notSynchronized
  have hA : ∀ q, A q → A q := fun _ h => h
  have hS : va_S A s.heap s.heap [] := va_S.rf
  have hS0 := hS
  have hl := lv_entry ([.ref p0, .ref p1, .int x2, .int x3]) (n := 4) (Nat.le_of_ble_eq_true rfl)
  rw [lg_entry_eq]
  generalize (lg_sl ([.ref p0, .ref p1, .int x2, .int x3]) ++ List.replicate (4 - (lg_sl ([.ref p0, .ref p1, .int x2, .int x3])).length) Slot.unset).toArray = ls at hl ⊢
  have hl : lv_has ls 4 [(0, .ref p0), (1, .ref p1), (2, .int x2), (3, .int x3)] := hl
  have hE : ∀ q : Nat, (q < (p0 + 1) ∨ (p0 + 1) + 5 ≤ q) → (q < (p0 + 6) ∨ (p0 + 6) + 5 ≤ q) → (q < (p0 + 11) ∨ (p0 + 11) + 4 ≤ q) → Ω q = Ω q := by intros; rfl
  generalize hR : (f_X5_performWrite p0d_0 p0d_1 p0d_2 p0d_3 p0m_0 p0m_1 p0m_2 p0m_3 p0j_0 p0j_1 p0j_2 p0j_3 p1_0 x2 x3) = R
  rw [f_X5_performWrite] at hR
  refine lv_aload_n hx hb dX5_performWrite_0 rfl (lv_at hl 0 rfl) ?_
  refine o_get hx hb hts hown hK hW (inSitO_o h_p0) rfl ig5 0 (by decide) fl_X5_12 rfl dX5_performWrite_1 ?_
  refine lv_aload_n hx hb dX5_performWrite_4 rfl (lv_at hl 1 rfl) ?_
  refine lv_iload_n hx hb dX5_performWrite_5 rfl (lv_at hl 2 rfl) ?_
  refine lv_iload_n hx hb dX5_performWrite_6 rfl (lv_at hl 3 rfl) ?_
  refine o_Vv (rest := []) (As := [.ref p1, .int x2, .int x3]) (n := 3) hx hb hml hown hts hK hN hW hS hA (c_X1_write l G A Ω (p0 + 1) p1 p0d_0 p0d_1 p0d_2 p0d_3 p1_0 x2 x3 (by omega) (by first | assumption | omega) h_p0d h_p1) (inDev_o h_p0d) rfl (good_V ml_X5_68 im_X1_write se_X1_write ini_X1 co_X1_write) (by decide +kernel) ⟨Nat.zero_le _, Nat.zero_le _⟩ hl.1 (Nat.le_of_ble_eq_true rfl) rfl rfl dX5_performWrite_7 (fun Ω_1 H locs hp hW hS => ?_)
  obtain ⟨h_p0d, hF_1⟩ := hp
  have h_p0 := h_p0.keep (fun q h1 h2 => hF_1 q (by omega))
  have h_p0m := h_p0m.keep (fun q h1 h2 => hF_1 q (by omega))
  have h_p0j := h_p0j.keep (fun q h1 h2 => hF_1 q (by omega))
  have h_p1 := h_p1.keep (fun q h1 h2 => hF_1 q (by omega))
  have hE : ∀ q : Nat, (q < (p0 + 1) ∨ (p0 + 1) + 5 ≤ q) → (q < (p0 + 6) ∨ (p0 + 6) + 5 ≤ q) → (q < (p0 + 11) ∨ (p0 + 11) + 4 ≤ q) → Ω_1 q = Ω q := fun q g0 g1 g2 => (hF_1 q (by omega)).trans (hE q g0 g1 g2)
  generalize (f_X1_write p0d_0 p0d_1 p0d_2 p0d_3 p1_0 x2 x3) = Z_1 at h_p0d hR
  obtain ⟨z1_0, z1_1, z1_2⟩ := Z_1
  dsimp only at h_p0d hR
  rw [f_X5_performWrite_C10] at hR
  refine lv_aload_n hx hb dX5_performWrite_10 rfl (lv_at hl 0 rfl) ?_
  refine o_get hx hb hts hown hK hW (inSitO_o h_p0) rfl ig5 1 (by decide) fl_X5_18 rfl dX5_performWrite_11 ?_
  refine lv_aload_n hx hb dX5_performWrite_14 rfl (lv_at hl 1 rfl) ?_
  refine lv_iload_n hx hb dX5_performWrite_15 rfl (lv_at hl 2 rfl) ?_
  refine lv_iload_n hx hb dX5_performWrite_16 rfl (lv_at hl 3 rfl) ?_
  refine o_Vv (rest := []) (As := [.ref p1, .int x2, .int x3]) (n := 3) hx hb hml hown hts hK hN hW hS hA (c_X1_write l G A Ω_1 (p0 + 6) p1 p0m_0 p0m_1 p0m_2 p0m_3 p1_0 x2 x3 (by omega) (by first | assumption | omega) h_p0m h_p1) (inDev_o h_p0m) rfl (good_V ml_X5_68 im_X1_write se_X1_write ini_X1 co_X1_write) (by decide +kernel) ⟨Nat.zero_le _, Nat.zero_le _⟩ hl.1 (Nat.le_of_ble_eq_true rfl) rfl rfl dX5_performWrite_17 (fun Ω_2 H locs hp hW hS => ?_)
  obtain ⟨h_p0m, hF_2⟩ := hp
  have h_p0 := h_p0.keep (fun q h1 h2 => hF_2 q (by omega))
  have h_p0d := h_p0d.keep (fun q h1 h2 => hF_2 q (by omega))
  have h_p0j := h_p0j.keep (fun q h1 h2 => hF_2 q (by omega))
  have h_p1 := h_p1.keep (fun q h1 h2 => hF_2 q (by omega))
  have hE : ∀ q : Nat, (q < (p0 + 1) ∨ (p0 + 1) + 5 ≤ q) → (q < (p0 + 6) ∨ (p0 + 6) + 5 ≤ q) → (q < (p0 + 11) ∨ (p0 + 11) + 4 ≤ q) → Ω_2 q = Ω q := fun q g0 g1 g2 => (hF_2 q (by omega)).trans (hE q g0 g1 g2)
  generalize (f_X1_write p0m_0 p0m_1 p0m_2 p0m_3 p1_0 x2 x3) = Z_2 at h_p0m hR
  obtain ⟨z2_0, z2_1, z2_2⟩ := Z_2
  dsimp only at h_p0m hR
  rw [f_X5_performWrite_C20] at hR
  refine lv_aload_n hx hb dX5_performWrite_20 rfl (lv_at hl 0 rfl) ?_
  refine o_get hx hb hts hown hK hW (inSitO_o h_p0) rfl ig5 2 (by decide) fl_X5_24 rfl dX5_performWrite_21 ?_
  refine lv_iload_n hx hb dX5_performWrite_24 rfl (lv_at hl 2 rfl) ?_
  refine lv_iconst (v := (1 : Int32)) hx hb dX5_performWrite_25 (by decide) ?_
  refine lv_iload_n hx hb dX5_performWrite_26 rfl (lv_at hl 3 rfl) ?_
  have j_3 : (1 : Int32).toInt = 1 := by decide
  refine o_Vv (rest := []) (As := [.int x2, .int (1 : Int32), .int x3]) (n := 3) hx hb hml hown hts hK hN hW hS hA (c_X3_append l G A Ω_2 (p0 + 11) p0j_0 p0j_1 p0j_2 p0j_3 x2 (1 : Int32) x3 (by first | assumption | omega) h_p0j) (inJou_o h_p0j) rfl (good_V ml_X5_64 im_X3_append se_X3_append ini_X3 co_X3_append) (by decide +kernel) ⟨Nat.zero_le _, Nat.zero_le _⟩ hl.1 (Nat.le_of_ble_eq_true rfl) rfl rfl dX5_performWrite_27 (fun Ω_4 H locs hp hW hS => ?_)
  obtain ⟨h_p0j, hF_4⟩ := hp
  have h_p0 := h_p0.keep (fun q h1 h2 => hF_4 q (by omega))
  have h_p0d := h_p0d.keep (fun q h1 h2 => hF_4 q (by omega))
  have h_p0m := h_p0m.keep (fun q h1 h2 => hF_4 q (by omega))
  have h_p1 := h_p1.keep (fun q h1 h2 => hF_4 q (by omega))
  have hE : ∀ q : Nat, (q < (p0 + 1) ∨ (p0 + 1) + 5 ≤ q) → (q < (p0 + 6) ∨ (p0 + 6) + 5 ≤ q) → (q < (p0 + 11) ∨ (p0 + 11) + 4 ≤ q) → Ω_4 q = Ω q := fun q g0 g1 g2 => (hF_4 q (by omega)).trans (hE q g0 g1 g2)
  generalize (f_X3_append p0j_0 p0j_1 p0j_2 p0j_3 x2 (1 : Int32) x3) = Z_4 at h_p0j hR
  obtain ⟨z4_0, z4_1, z4_2, z4_3⟩ := Z_4
  dsimp only at h_p0j hR
  rw [f_X5_performWrite_C30] at hR
  subst hR
  exact W.vret hx hb hr (fun t ht hW9 => ⟨⟨Ω_4, rfl, ⟨h_p0d, h_p0m, h_p0j, hE⟩, by rw [oB, ht]; exact hW⟩, hS.F ht⟩) hS.2.2 dX5_performWrite_30
end
section
theorem zz_1 : True := trivial
end

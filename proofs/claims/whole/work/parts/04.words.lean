def gt : List Cond := lw_tbl.filter goodWord
theorem gm {w : Cond} {i : Nat} (h : lw_tbl[i]? = some w) (g : goodWord w = true) : w ∈ gt := List.mem_filter.mpr ⟨List.mem_of_getElem? h, g⟩
theorem gt_good {w : Cond} (h : w ∈ gt) : (w.onTables && w.keeps) = true ∨ ∃ ty, w = .arrayClass ty := good_of_word (List.mem_filter.mp h).2
theorem gt_tbl {w : Cond} (h : w ∈ gt) : w ∈ lw_tbl := (List.mem_filter.mp h).1
theorem gt_in {ws : List Cond} (h : ∀ w ∈ ws, w ∈ lw_tbl) (g : ws.all goodWord = true) : ∀ w ∈ ws, w ∈ gt := fun w hw => List.mem_filter.mpr ⟨h w hw, List.all_eq_true.mp g w hw⟩
theorem ig0 : ∀ w ∈ wsX00, w ∈ gt := gt_in inX0 (by decide +kernel)
theorem ig1 : ∀ w ∈ wsX10, w ∈ gt := gt_in inX1 (by decide +kernel)
theorem ig2 : ∀ w ∈ wsX20, w ∈ gt := gt_in inX2 (by decide +kernel)
theorem ig3 : ∀ w ∈ wsX30, w ∈ gt := gt_in inX3 (by decide +kernel)
theorem ig4 : ∀ w ∈ wsX40, w ∈ gt := gt_in inX4 (by decide +kernel)
theorem ig5 : ∀ w ∈ wsX50, w ∈ gt := gt_in inX5 (by decide +kernel)
theorem ig6 : ∀ w ∈ wsX60, w ∈ gt := gt_in inX6 (by decide +kernel)
theorem ig7 : ∀ w ∈ wsX70, w ∈ gt := gt_in inX7 (by decide +kernel)
theorem ig8 : ∀ w ∈ wsX80, w ∈ gt := gt_in inX8 (by decide +kernel)
theorem ig9 : ∀ w ∈ wsX90, w ∈ gt := gt_in inX9 (by decide +kernel)
theorem se_X8_changedBy : Cond.selects RX8 yX8_changedBy yX8_changedBy ∈ gt := gm (i := 0) (by decide +kernel) rfl
theorem se_X8_wouldReadTheSame : Cond.selects RX8 yX8_wouldReadTheSame yX8_wouldReadTheSame ∈ gt := gm (i := 1) (by decide +kernel) rfl
theorem se_X8_byteThatGives : Cond.selects RX8 yX8_byteThatGives yX8_byteThatGives ∈ gt := gm (i := 2) (by decide +kernel) rfl
theorem se_X8_walkedBits : Cond.selects RX8 yX8_walkedBits yX8_walkedBits ∈ gt := gm (i := 3) (by decide +kernel) rfl
theorem se_X8_stepOfWalk : Cond.selects RX8 yX8_stepOfWalk yX8_stepOfWalk ∈ gt := gm (i := 4) (by decide +kernel) rfl
theorem se_X9_begin : Cond.selects RX9 yX9_begin yX9_begin ∈ gt := gm (i := 5) (by decide +kernel) rfl
theorem se_X9_repair : Cond.selects RX9 yX9_repair yX9_repair ∈ gt := gm (i := 6) (by decide +kernel) rfl
theorem se_X9_fields : Cond.selects RX9 yX9_fields yX9_fields ∈ gt := gm (i := 7) (by decide +kernel) rfl
theorem se_X9_reset : Cond.selects RX9 yX9_reset yX9_reset ∈ gt := gm (i := 8) (by decide +kernel) rfl
theorem se_X9_emptyLog : Cond.selects RX9 yX9_emptyLog yX9_emptyLog ∈ gt := gm (i := 9) (by decide +kernel) rfl
theorem se_X9_note : Cond.selects RX9 yX9_note yX9_note ∈ gt := gm (i := 10) (by decide +kernel) rfl
theorem se_X9_goesTo : Cond.selects RX9 yX9_goesTo yX9_goesTo ∈ gt := gm (i := 11) (by decide +kernel) rfl
theorem se_X9_registers : Cond.selects RX9 yX9_registers yX9_registers ∈ gt := gm (i := 12) (by decide +kernel) rfl
theorem se_X9_peekAt : Cond.selects RX9 yX9_peekAt yX9_peekAt ∈ gt := gm (i := 13) (by decide +kernel) rfl
theorem se_X9_registerOf : Cond.selects RX9 yX9_registerOf yX9_registerOf ∈ gt := gm (i := 14) (by decide +kernel) rfl
theorem se_X9_tellsOf : Cond.selects RX9 yX9_tellsOf yX9_tellsOf ∈ gt := gm (i := 15) (by decide +kernel) rfl
theorem se_X9_readOf : Cond.selects RX9 yX9_readOf yX9_readOf ∈ gt := gm (i := 16) (by decide +kernel) rfl
theorem se_X9_clearRead : Cond.selects RX9 yX9_clearRead yX9_clearRead ∈ gt := gm (i := 17) (by decide +kernel) rfl
theorem se_X9_most : Cond.selects RX9 yX9_most yX9_most ∈ gt := gm (i := 18) (by decide +kernel) rfl
theorem se_X9_logs : Cond.selects RX9 yX9_logs yX9_logs ∈ gt := gm (i := 19) (by decide +kernel) rfl
theorem se_X9_copyMachine : Cond.selects RX9 yX9_copyMachine yX9_copyMachine ∈ gt := gm (i := 20) (by decide +kernel) rfl
theorem se_X9_writeTo : Cond.selects RX9 yX9_writeTo yX9_writeTo ∈ gt := gm (i := 21) (by decide +kernel) rfl
theorem se_X9_isLocked : Cond.selects RX9 yX9_isLocked yX9_isLocked ∈ gt := gm (i := 22) (by decide +kernel) rfl
theorem se_X9_letIn : Cond.selects RX9 yX9_letIn yX9_letIn ∈ gt := gm (i := 23) (by decide +kernel) rfl
theorem se_X9_openGates : Cond.selects RX9 yX9_openGates yX9_openGates ∈ gt := gm (i := 24) (by decide +kernel) rfl
theorem se_X9_otherFields : Cond.selects RX9 yX9_otherFields yX9_otherFields ∈ gt := gm (i := 25) (by decide +kernel) rfl
theorem se_X9_isField : Cond.selects RX9 yX9_isField yX9_isField ∈ gt := gm (i := 26) (by decide +kernel) rfl
theorem se_X9_isRegister : Cond.selects RX9 yX9_isRegister yX9_isRegister ∈ gt := gm (i := 27) (by decide +kernel) rfl
theorem se_X9_wouldTell : Cond.selects RX9 yX9_wouldTell yX9_wouldTell ∈ gt := gm (i := 28) (by decide +kernel) rfl
theorem se_X9_tryWrite : Cond.selects RX9 yX9_tryWrite yX9_tryWrite ∈ gt := gm (i := 29) (by decide +kernel) rfl
theorem se_X9_isWalked : Cond.selects RX9 yX9_isWalked yX9_isWalked ∈ gt := gm (i := 30) (by decide +kernel) rfl
theorem se_X9_isLockOrGate : Cond.selects RX9 yX9_isLockOrGate yX9_isLockOrGate ∈ gt := gm (i := 31) (by decide +kernel) rfl
theorem se_X9_bitsBy : Cond.selects RX9 yX9_bitsBy yX9_bitsBy ∈ gt := gm (i := 32) (by decide +kernel) rfl
theorem se_X9_bitsOf : Cond.selects RX9 yX9_bitsOf yX9_bitsOf ∈ gt := gm (i := 33) (by decide +kernel) rfl
theorem se_X9_fieldBits : Cond.selects RX9 yX9_fieldBits yX9_fieldBits ∈ gt := gm (i := 34) (by decide +kernel) rfl
theorem se_X9_brokenMany : Cond.selects RX9 yX9_brokenMany yX9_brokenMany ∈ gt := gm (i := 35) (by decide +kernel) rfl
theorem se_X9_next : Cond.selects RX9 yX9_next yX9_next ∈ gt := gm (i := 36) (by decide +kernel) rfl
theorem se_X9_isHere : Cond.selects RX9 yX9_isHere yX9_isHere ∈ gt := gm (i := 37) (by decide +kernel) rfl
theorem se_X9_readItem : Cond.selects RX9 yX9_readItem yX9_readItem ∈ gt := gm (i := 38) (by decide +kernel) rfl
theorem se_X9_must : Cond.selects RX9 yX9_must yX9_must ∈ gt := gm (i := 39) (by decide +kernel) rfl
theorem se_X9_readRegister : Cond.selects RX9 yX9_readRegister yX9_readRegister ∈ gt := gm (i := 40) (by decide +kernel) rfl
theorem se_X9_number : Cond.selects RX9 yX9_number yX9_number ∈ gt := gm (i := 41) (by decide +kernel) rfl
theorem se_X9_readField : Cond.selects RX9 yX9_readField yX9_readField ∈ gt := gm (i := 42) (by decide +kernel) rfl
theorem se_X9_usedBits : Cond.selects RX9 yX9_usedBits yX9_usedBits ∈ gt := gm (i := 43) (by decide +kernel) rfl
theorem se_X9_readAlias : Cond.selects RX9 yX9_readAlias yX9_readAlias ∈ gt := gm (i := 44) (by decide +kernel) rfl
theorem se_X9_readLink : Cond.selects RX9 yX9_readLink yX9_readLink ∈ gt := gm (i := 45) (by decide +kernel) rfl
theorem ini_L : Cond.initialized RL ∈ gt := gm (i := 46) (by decide +kernel) rfl
theorem ini_X8 : Cond.initialized RX8 ∈ gt := gm (i := 47) (by decide +kernel) rfl
theorem ini_X6 : Cond.initialized RX6 ∈ gt := gm (i := 48) (by decide +kernel) rfl
theorem ini_X4 : Cond.initialized RX4 ∈ gt := gm (i := 49) (by decide +kernel) rfl
theorem ini_X0 : Cond.initialized RX0 ∈ gt := gm (i := 50) (by decide +kernel) rfl
theorem ini_X7 : Cond.initialized RX7 ∈ gt := gm (i := 51) (by decide +kernel) rfl
theorem ini_X5 : Cond.initialized RX5 ∈ gt := gm (i := 52) (by decide +kernel) rfl
theorem ini_X1 : Cond.initialized RX1 ∈ gt := gm (i := 53) (by decide +kernel) rfl
theorem ini_X3 : Cond.initialized RX3 ∈ gt := gm (i := 54) (by decide +kernel) rfl
theorem ini_X2 : Cond.initialized RX2 ∈ gt := gm (i := 55) (by decide +kernel) rfl
theorem ini_X9 : Cond.initialized RX9 ∈ gt := gm (i := 56) (by decide +kernel) rfl
theorem ini_J10 : Cond.initialized RJ10 ∈ gt := gm (i := 57) (by decide +kernel) rfl
theorem ini_J9 : Cond.initialized RJ9 ∈ gt := gm (i := 58) (by decide +kernel) rfl
theorem ini_J6 : Cond.initialized RJ6 ∈ gt := gm (i := 59) (by decide +kernel) rfl
theorem cl_L_7 : Cond.classLink RL 7 RX8 ∈ gt := gm (i := 60) (by decide +kernel) rfl
theorem ia_X8 : Cond.instantiable RX8 8 ∈ gt := gm (i := 61) (by decide +kernel) rfl
theorem ml_L_9 : Cond.methodLink RL 9 yX8_init ∈ gt := gm (i := 62) (by decide +kernel) rfl
theorem im_X8_init : Cond.instanceMethod yX8_init ∈ gt := gm (i := 63) (by decide +kernel) rfl
theorem co_X8_init : Cond.code yX8_init cX8_init 2 none ∈ gt := gm (i := 64) (by decide +kernel) rfl
theorem mo_X8 : Cond.methodLink RX8 1 objectInit ∈ gt := gm (i := 65) (by decide +kernel) rfl
theorem cl_X8_7 : Cond.classLink RX8 7 RX6 ∈ gt := gm (i := 68) (by decide +kernel) rfl
theorem ia_X6 : Cond.instantiable RX6 2 ∈ gt := gm (i := 69) (by decide +kernel) rfl
theorem mn_X8_9 : Cond.methodLinkNest RX8 9 yX6_init "MirrorBytes" ∈ lw_tbl := List.mem_of_getElem? (i := 70) (by decide +kernel)
theorem im_X6_init : Cond.instanceMethod yX6_init ∈ gt := gm (i := 71) (by decide +kernel) rfl
theorem co_X6_init : Cond.code yX6_init cX6_init 1 none ∈ gt := gm (i := 72) (by decide +kernel) rfl
theorem mo_X6 : Cond.methodLink RX6 3 objectInit ∈ gt := gm (i := 73) (by decide +kernel) rfl
theorem fl_X6_9 : Cond.fieldLink RX6 9 "MirrorBytes$Text" "content" "[I" ∈ gt := gm (i := 74) (by decide +kernel) rfl
theorem fl_X7_27 : Cond.fieldLink RX7 27 "MirrorBytes$Text" "content" "[I" ∈ gt := gm (i := 75) (by decide +kernel) rfl
theorem fl_X6_15 : Cond.fieldLink RX6 15 "MirrorBytes$Text" "length" "I" ∈ gt := gm (i := 76) (by decide +kernel) rfl
theorem fl_X8_65 : Cond.fieldLink RX8 65 "MirrorBytes$Text" "length" "I" ∈ gt := gm (i := 77) (by decide +kernel) rfl
theorem fl_X7_22 : Cond.fieldLink RX7 22 "MirrorBytes$Text" "length" "I" ∈ gt := gm (i := 78) (by decide +kernel) rfl
theorem cl_X8_16 : Cond.classLink RX8 16 RX4 ∈ gt := gm (i := 85) (by decide +kernel) rfl
theorem ia_X4 : Cond.instantiable RX4 2 ∈ gt := gm (i := 86) (by decide +kernel) rfl
theorem ml_X8_18 : Cond.methodLink RX8 18 yX4_init ∈ gt := gm (i := 87) (by decide +kernel) rfl
theorem im_X4_init : Cond.instanceMethod yX4_init ∈ gt := gm (i := 88) (by decide +kernel) rfl
theorem co_X4_init : Cond.code yX4_init cX4_init 2 none ∈ gt := gm (i := 89) (by decide +kernel) rfl
theorem mo_X4 : Cond.methodLink RX4 3 objectInit ∈ gt := gm (i := 90) (by decide +kernel) rfl
theorem cl_X4_9 : Cond.classLink RX4 9 RX0 ∈ gt := gm (i := 91) (by decide +kernel) rfl
theorem ia_X0 : Cond.instantiable RX0 15 ∈ gt := gm (i := 92) (by decide +kernel) rfl
theorem mn_X4_11 : Cond.methodLinkNest RX4 11 yX0_init "MirrorBytes" ∈ lw_tbl := List.mem_of_getElem? (i := 93) (by decide +kernel)
theorem im_X0_init : Cond.instanceMethod yX0_init ∈ gt := gm (i := 94) (by decide +kernel) rfl
theorem co_X0_init : Cond.code yX0_init cX0_init 1 none ∈ gt := gm (i := 95) (by decide +kernel) rfl
theorem mo_X0 : Cond.methodLink RX0 3 objectInit ∈ gt := gm (i := 96) (by decide +kernel) rfl
theorem fl_X0_48 : Cond.fieldLink RX0 48 "MirrorBytes$Block" "registers" "I" ∈ gt := gm (i := 97) (by decide +kernel) rfl
theorem fl_X4_66 : Cond.fieldLink RX4 66 "MirrorBytes$Block" "registers" "I" ∈ gt := gm (i := 98) (by decide +kernel) rfl
theorem fl_X8_155 : Cond.fieldLink RX8 155 "MirrorBytes$Block" "registers" "I" ∈ gt := gm (i := 99) (by decide +kernel) rfl
theorem fl_X1_110 : Cond.fieldLink RX1 110 "MirrorBytes$Block" "registers" "I" ∈ gt := gm (i := 100) (by decide +kernel) rfl
theorem fl_X0_52 : Cond.fieldLink RX0 52 "MirrorBytes$Block" "fields" "I" ∈ gt := gm (i := 101) (by decide +kernel) rfl
theorem fl_X1_36 : Cond.fieldLink RX1 36 "MirrorBytes$Block" "fields" "I" ∈ gt := gm (i := 102) (by decide +kernel) rfl
theorem fl_X4_89 : Cond.fieldLink RX4 89 "MirrorBytes$Block" "fields" "I" ∈ gt := gm (i := 103) (by decide +kernel) rfl
theorem fl_X8_126 : Cond.fieldLink RX8 126 "MirrorBytes$Block" "fields" "I" ∈ gt := gm (i := 104) (by decide +kernel) rfl
theorem fl_X0_55 : Cond.fieldLink RX0 55 "MirrorBytes$Block" "aliases" "I" ∈ gt := gm (i := 105) (by decide +kernel) rfl
theorem fl_X4_119 : Cond.fieldLink RX4 119 "MirrorBytes$Block" "aliases" "I" ∈ gt := gm (i := 106) (by decide +kernel) rfl
theorem fl_X8_174 : Cond.fieldLink RX8 174 "MirrorBytes$Block" "aliases" "I" ∈ gt := gm (i := 107) (by decide +kernel) rfl
theorem fl_X0_9 : Cond.fieldLink RX0 9 "MirrorBytes$Block" "address" "[I" ∈ gt := gm (i := 108) (by decide +kernel) rfl
theorem fl_X4_73 : Cond.fieldLink RX4 73 "MirrorBytes$Block" "address" "[I" ∈ gt := gm (i := 109) (by decide +kernel) rfl
theorem fl_X8_158 : Cond.fieldLink RX8 158 "MirrorBytes$Block" "address" "[I" ∈ gt := gm (i := 110) (by decide +kernel) rfl
theorem fl_X0_15 : Cond.fieldLink RX0 15 "MirrorBytes$Block" "lock" "[I" ∈ gt := gm (i := 111) (by decide +kernel) rfl
theorem fl_X4_80 : Cond.fieldLink RX4 80 "MirrorBytes$Block" "lock" "[I" ∈ gt := gm (i := 112) (by decide +kernel) rfl
theorem fl_X1_59 : Cond.fieldLink RX1 59 "MirrorBytes$Block" "lock" "[I" ∈ gt := gm (i := 113) (by decide +kernel) rfl
theorem fl_X8_161 : Cond.fieldLink RX8 161 "MirrorBytes$Block" "lock" "[I" ∈ gt := gm (i := 114) (by decide +kernel) rfl
theorem fl_X0_18 : Cond.fieldLink RX0 18 "MirrorBytes$Block" "gate" "[I" ∈ gt := gm (i := 115) (by decide +kernel) rfl
theorem fl_X4_83 : Cond.fieldLink RX4 83 "MirrorBytes$Block" "gate" "[I" ∈ gt := gm (i := 116) (by decide +kernel) rfl
theorem fl_X8_164 : Cond.fieldLink RX8 164 "MirrorBytes$Block" "gate" "[I" ∈ gt := gm (i := 117) (by decide +kernel) rfl
theorem fl_X1_97 : Cond.fieldLink RX1 97 "MirrorBytes$Block" "gate" "[I" ∈ gt := gm (i := 118) (by decide +kernel) rfl
theorem fl_X0_21 : Cond.fieldLink RX0 21 "MirrorBytes$Block" "owner" "[I" ∈ gt := gm (i := 119) (by decide +kernel) rfl
theorem fl_X1_47 : Cond.fieldLink RX1 47 "MirrorBytes$Block" "owner" "[I" ∈ gt := gm (i := 120) (by decide +kernel) rfl
theorem fl_X4_95 : Cond.fieldLink RX4 95 "MirrorBytes$Block" "owner" "[I" ∈ gt := gm (i := 121) (by decide +kernel) rfl
theorem fl_X8_137 : Cond.fieldLink RX8 137 "MirrorBytes$Block" "owner" "[I" ∈ gt := gm (i := 122) (by decide +kernel) rfl
theorem fl_X0_24 : Cond.fieldLink RX0 24 "MirrorBytes$Block" "kind" "[I" ∈ gt := gm (i := 123) (by decide +kernel) rfl
theorem fl_X1_31 : Cond.fieldLink RX1 31 "MirrorBytes$Block" "kind" "[I" ∈ gt := gm (i := 124) (by decide +kernel) rfl
theorem fl_X4_98 : Cond.fieldLink RX4 98 "MirrorBytes$Block" "kind" "[I" ∈ gt := gm (i := 125) (by decide +kernel) rfl
theorem fl_X8_146 : Cond.fieldLink RX8 146 "MirrorBytes$Block" "kind" "[I" ∈ gt := gm (i := 126) (by decide +kernel) rfl
theorem fl_X0_27 : Cond.fieldLink RX0 27 "MirrorBytes$Block" "low" "[I" ∈ gt := gm (i := 127) (by decide +kernel) rfl
theorem fl_X1_53 : Cond.fieldLink RX1 53 "MirrorBytes$Block" "low" "[I" ∈ gt := gm (i := 128) (by decide +kernel) rfl
theorem fl_X4_107 : Cond.fieldLink RX4 107 "MirrorBytes$Block" "low" "[I" ∈ gt := gm (i := 129) (by decide +kernel) rfl
theorem fl_X8_140 : Cond.fieldLink RX8 140 "MirrorBytes$Block" "low" "[I" ∈ gt := gm (i := 130) (by decide +kernel) rfl
theorem fl_X0_30 : Cond.fieldLink RX0 30 "MirrorBytes$Block" "high" "[I" ∈ gt := gm (i := 131) (by decide +kernel) rfl
theorem fl_X4_110 : Cond.fieldLink RX4 110 "MirrorBytes$Block" "high" "[I" ∈ gt := gm (i := 132) (by decide +kernel) rfl
theorem fl_X8_143 : Cond.fieldLink RX8 143 "MirrorBytes$Block" "high" "[I" ∈ gt := gm (i := 133) (by decide +kernel) rfl
theorem fl_X0_33 : Cond.fieldLink RX0 33 "MirrorBytes$Block" "mask" "[I" ∈ gt := gm (i := 134) (by decide +kernel) rfl
theorem fl_X1_50 : Cond.fieldLink RX1 50 "MirrorBytes$Block" "mask" "[I" ∈ gt := gm (i := 135) (by decide +kernel) rfl
theorem fl_X4_113 : Cond.fieldLink RX4 113 "MirrorBytes$Block" "mask" "[I" ∈ gt := gm (i := 136) (by decide +kernel) rfl
theorem fl_X8_259 : Cond.fieldLink RX8 259 "MirrorBytes$Block" "mask" "[I" ∈ gt := gm (i := 137) (by decide +kernel) rfl
theorem fl_X0_36 : Cond.fieldLink RX0 36 "MirrorBytes$Block" "initial" "[I" ∈ gt := gm (i := 138) (by decide +kernel) rfl
theorem fl_X1_40 : Cond.fieldLink RX1 40 "MirrorBytes$Block" "initial" "[I" ∈ gt := gm (i := 139) (by decide +kernel) rfl
theorem fl_X4_116 : Cond.fieldLink RX4 116 "MirrorBytes$Block" "initial" "[I" ∈ gt := gm (i := 140) (by decide +kernel) rfl
theorem fl_X8_149 : Cond.fieldLink RX8 149 "MirrorBytes$Block" "initial" "[I" ∈ gt := gm (i := 141) (by decide +kernel) rfl
theorem fl_X0_39 : Cond.fieldLink RX0 39 "MirrorBytes$Block" "aliasAddress" "[I" ∈ gt := gm (i := 142) (by decide +kernel) rfl
theorem fl_X4_122 : Cond.fieldLink RX4 122 "MirrorBytes$Block" "aliasAddress" "[I" ∈ gt := gm (i := 143) (by decide +kernel) rfl
theorem fl_X8_177 : Cond.fieldLink RX8 177 "MirrorBytes$Block" "aliasAddress" "[I" ∈ gt := gm (i := 144) (by decide +kernel) rfl
theorem fl_X0_42 : Cond.fieldLink RX0 42 "MirrorBytes$Block" "aliasRegister" "[I" ∈ gt := gm (i := 145) (by decide +kernel) rfl
theorem fl_X4_125 : Cond.fieldLink RX4 125 "MirrorBytes$Block" "aliasRegister" "[I" ∈ gt := gm (i := 146) (by decide +kernel) rfl
theorem fl_X8_180 : Cond.fieldLink RX8 180 "MirrorBytes$Block" "aliasRegister" "[I" ∈ gt := gm (i := 147) (by decide +kernel) rfl
theorem fl_X0_45 : Cond.fieldLink RX0 45 "MirrorBytes$Block" "aliasKind" "[I" ∈ gt := gm (i := 148) (by decide +kernel) rfl
theorem fl_X4_132 : Cond.fieldLink RX4 132 "MirrorBytes$Block" "aliasKind" "[I" ∈ gt := gm (i := 149) (by decide +kernel) rfl
theorem fl_X8_183 : Cond.fieldLink RX8 183 "MirrorBytes$Block" "aliasKind" "[I" ∈ gt := gm (i := 150) (by decide +kernel) rfl
theorem fl_X1_90 : Cond.fieldLink RX1 90 "MirrorBytes$Block" "aliasKind" "[I" ∈ gt := gm (i := 151) (by decide +kernel) rfl
theorem cl_X4_18 : Cond.classLink RX4 18 RX7 ∈ gt := gm (i := 183) (by decide +kernel) rfl
theorem ia_X7 : Cond.instantiable RX7 4 ∈ gt := gm (i := 184) (by decide +kernel) rfl
theorem ml_X4_20 : Cond.methodLink RX4 20 yX7_init ∈ gt := gm (i := 185) (by decide +kernel) rfl
theorem im_X7_init : Cond.instanceMethod yX7_init ∈ gt := gm (i := 186) (by decide +kernel) rfl
theorem co_X7_init : Cond.code yX7_init cX7_init 2 none ∈ gt := gm (i := 187) (by decide +kernel) rfl
theorem mo_X7 : Cond.methodLink RX7 3 objectInit ∈ gt := gm (i := 188) (by decide +kernel) rfl
theorem fl_X7_9 : Cond.fieldLink RX7 9 "MirrorBytes$Tokens" "text" "LMirrorBytes$Text;" ∈ gt := gm (i := 189) (by decide +kernel) rfl
theorem fl_X7_19 : Cond.fieldLink RX7 19 "MirrorBytes$Tokens" "start" "I" ∈ gt := gm (i := 190) (by decide +kernel) rfl
theorem fl_X4_44 : Cond.fieldLink RX4 44 "MirrorBytes$Tokens" "start" "I" ∈ gt := gm (i := 191) (by decide +kernel) rfl
theorem fl_X7_15 : Cond.fieldLink RX7 15 "MirrorBytes$Tokens" "end" "I" ∈ gt := gm (i := 192) (by decide +kernel) rfl
theorem fl_X4_36 : Cond.fieldLink RX4 36 "MirrorBytes$Tokens" "sort" "I" ∈ gt := gm (i := 193) (by decide +kernel) rfl
theorem fl_X7_31 : Cond.fieldLink RX7 31 "MirrorBytes$Tokens" "sort" "I" ∈ gt := gm (i := 194) (by decide +kernel) rfl
theorem fl_X4_23 : Cond.fieldLink RX4 23 "MirrorBytes$Parser" "tokens" "LMirrorBytes$Tokens;" ∈ gt := gm (i := 204) (by decide +kernel) rfl
theorem fl_X4_12 : Cond.fieldLink RX4 12 "MirrorBytes$Parser" "block" "LMirrorBytes$Block;" ∈ gt := gm (i := 205) (by decide +kernel) rfl
theorem cl_X8_25 : Cond.classLink RX8 25 RX5 ∈ gt := gm (i := 211) (by decide +kernel) rfl
theorem ia_X5 : Cond.instantiable RX5 5 ∈ gt := gm (i := 212) (by decide +kernel) rfl
theorem mn_X8_27 : Cond.methodLinkNest RX8 27 yX5_init "MirrorBytes" ∈ lw_tbl := List.mem_of_getElem? (i := 213) (by decide +kernel)
theorem im_X5_init : Cond.instanceMethod yX5_init ∈ gt := gm (i := 214) (by decide +kernel) rfl
theorem co_X5_init : Cond.code yX5_init cX5_init 1 none ∈ gt := gm (i := 215) (by decide +kernel) rfl
theorem mo_X5 : Cond.methodLink RX5 3 objectInit ∈ gt := gm (i := 216) (by decide +kernel) rfl
theorem cl_X5_9 : Cond.classLink RX5 9 RX1 ∈ gt := gm (i := 217) (by decide +kernel) rfl
theorem ia_X1 : Cond.instantiable RX1 4 ∈ gt := gm (i := 218) (by decide +kernel) rfl
theorem mn_X5_11 : Cond.methodLinkNest RX5 11 yX1_init "MirrorBytes" ∈ lw_tbl := List.mem_of_getElem? (i := 219) (by decide +kernel)
theorem im_X1_init : Cond.instanceMethod yX1_init ∈ gt := gm (i := 220) (by decide +kernel) rfl
theorem co_X1_init : Cond.code yX1_init cX1_init 1 none ∈ gt := gm (i := 221) (by decide +kernel) rfl
theorem mo_X1 : Cond.methodLink RX1 3 objectInit ∈ gt := gm (i := 222) (by decide +kernel) rfl
theorem fl_X1_9 : Cond.fieldLink RX1 9 "MirrorBytes$Device" "content" "[I" ∈ gt := gm (i := 223) (by decide +kernel) rfl
theorem fl_X8_262 : Cond.fieldLink RX8 262 "MirrorBytes$Device" "content" "[I" ∈ gt := gm (i := 224) (by decide +kernel) rfl
theorem fl_X1_15 : Cond.fieldLink RX1 15 "MirrorBytes$Device" "held" "[I" ∈ gt := gm (i := 225) (by decide +kernel) rfl
theorem fl_X8_171 : Cond.fieldLink RX8 171 "MirrorBytes$Device" "held" "[I" ∈ gt := gm (i := 226) (by decide +kernel) rfl
theorem fl_X1_18 : Cond.fieldLink RX1 18 "MirrorBytes$Device" "entered" "[Z" ∈ gt := gm (i := 227) (by decide +kernel) rfl
theorem fl_X1_22 : Cond.fieldLink RX1 22 "MirrorBytes$Device" "kinds" "[I" ∈ gt := gm (i := 228) (by decide +kernel) rfl
theorem fl_X8_129 : Cond.fieldLink RX8 129 "MirrorBytes$Device" "kinds" "[I" ∈ gt := gm (i := 229) (by decide +kernel) rfl
theorem cl_X5_21 : Cond.classLink RX5 21 RX3 ∈ gt := gm (i := 240) (by decide +kernel) rfl
theorem ia_X3 : Cond.instantiable RX3 4 ∈ gt := gm (i := 241) (by decide +kernel) rfl
theorem mn_X5_23 : Cond.methodLinkNest RX5 23 yX3_init "MirrorBytes" ∈ lw_tbl := List.mem_of_getElem? (i := 242) (by decide +kernel)
theorem im_X3_init : Cond.instanceMethod yX3_init ∈ gt := gm (i := 243) (by decide +kernel) rfl
theorem co_X3_init : Cond.code yX3_init cX3_init 1 none ∈ gt := gm (i := 244) (by decide +kernel) rfl
theorem mo_X3 : Cond.methodLink RX3 3 objectInit ∈ gt := gm (i := 245) (by decide +kernel) rfl
theorem fl_X3_22 : Cond.fieldLink RX3 22 "MirrorBytes$Journal" "length" "I" ∈ gt := gm (i := 246) (by decide +kernel) rfl
theorem fl_X5_50 : Cond.fieldLink RX5 50 "MirrorBytes$Journal" "length" "I" ∈ gt := gm (i := 247) (by decide +kernel) rfl
theorem fl_X8_96 : Cond.fieldLink RX8 96 "MirrorBytes$Journal" "length" "I" ∈ gt := gm (i := 248) (by decide +kernel) rfl
theorem fl_X3_9 : Cond.fieldLink RX3 9 "MirrorBytes$Journal" "address" "[I" ∈ gt := gm (i := 249) (by decide +kernel) rfl
theorem fl_X8_202 : Cond.fieldLink RX8 202 "MirrorBytes$Journal" "address" "[I" ∈ gt := gm (i := 250) (by decide +kernel) rfl
theorem fl_X3_15 : Cond.fieldLink RX3 15 "MirrorBytes$Journal" "isWrite" "[Z" ∈ gt := gm (i := 251) (by decide +kernel) rfl
theorem fl_X8_203 : Cond.fieldLink RX8 203 "MirrorBytes$Journal" "isWrite" "[Z" ∈ gt := gm (i := 252) (by decide +kernel) rfl
theorem fl_X3_19 : Cond.fieldLink RX3 19 "MirrorBytes$Journal" "content" "[I" ∈ gt := gm (i := 253) (by decide +kernel) rfl
theorem fl_X8_206 : Cond.fieldLink RX8 206 "MirrorBytes$Journal" "content" "[I" ∈ gt := gm (i := 254) (by decide +kernel) rfl
theorem fl_X5_12 : Cond.fieldLink RX5 12 "MirrorBytes$Situation" "device" "LMirrorBytes$Device;" ∈ gt := gm (i := 264) (by decide +kernel) rfl
theorem fl_X8_117 : Cond.fieldLink RX8 117 "MirrorBytes$Situation" "device" "LMirrorBytes$Device;" ∈ gt := gm (i := 265) (by decide +kernel) rfl
theorem fl_X5_18 : Cond.fieldLink RX5 18 "MirrorBytes$Situation" "mirror" "LMirrorBytes$Device;" ∈ gt := gm (i := 266) (by decide +kernel) rfl
theorem fl_X8_152 : Cond.fieldLink RX8 152 "MirrorBytes$Situation" "mirror" "LMirrorBytes$Device;" ∈ gt := gm (i := 267) (by decide +kernel) rfl
theorem fl_X5_24 : Cond.fieldLink RX5 24 "MirrorBytes$Situation" "journal" "LMirrorBytes$Journal;" ∈ gt := gm (i := 268) (by decide +kernel) rfl
theorem fl_X8_92 : Cond.fieldLink RX8 92 "MirrorBytes$Situation" "journal" "LMirrorBytes$Journal;" ∈ gt := gm (i := 269) (by decide +kernel) rfl
theorem fl_X5_39 : Cond.fieldLink RX5 39 "MirrorBytes$Situation" "differing" "I" ∈ gt := gm (i := 270) (by decide +kernel) rfl
theorem fl_X8_196 : Cond.fieldLink RX8 196 "MirrorBytes$Situation" "differing" "I" ∈ gt := gm (i := 271) (by decide +kernel) rfl
theorem fl_X5_28 : Cond.fieldLink RX5 28 "MirrorBytes$Situation" "latestDifference" "I" ∈ gt := gm (i := 272) (by decide +kernel) rfl
theorem fl_X8_199 : Cond.fieldLink RX8 199 "MirrorBytes$Situation" "latestDifference" "I" ∈ gt := gm (i := 273) (by decide +kernel) rfl
theorem cl_X8_32 : Cond.classLink RX8 32 RX2 ∈ gt := gm (i := 285) (by decide +kernel) rfl
theorem ia_X2 : Cond.instantiable RX2 3 ∈ gt := gm (i := 286) (by decide +kernel) rfl
theorem ml_X8_34 : Cond.methodLink RX8 34 yX2_init ∈ gt := gm (i := 287) (by decide +kernel) rfl
theorem im_X2_init : Cond.instanceMethod yX2_init ∈ gt := gm (i := 288) (by decide +kernel) rfl
theorem co_X2_init : Cond.code yX2_init cX2_init 2 none ∈ gt := gm (i := 289) (by decide +kernel) rfl
theorem mo_X2 : Cond.methodLink RX2 3 objectInit ∈ gt := gm (i := 290) (by decide +kernel) rfl
theorem cl_X2_9 : Cond.classLink RX2 9 RX5 ∈ gt := gm (i := 291) (by decide +kernel) rfl
theorem mn_X2_17 : Cond.methodLinkNest RX2 17 yX5_init "MirrorBytes" ∈ lw_tbl := List.mem_of_getElem? (i := 293) (by decide +kernel)
theorem fl_X2_11 : Cond.fieldLink RX2 11 "MirrorBytes$History" "before" "[LMirrorBytes$Situation;" ∈ gt := gm (i := 294) (by decide +kernel) rfl
theorem fl_X2_22 : Cond.fieldLink RX2 22 "MirrorBytes$History" "next" "I" ∈ gt := gm (i := 295) (by decide +kernel) rfl
theorem fl_X2_18 : Cond.fieldLink RX2 18 "MirrorBytes$History" "length" "I" ∈ gt := gm (i := 296) (by decide +kernel) rfl
theorem fl_X8_133 : Cond.fieldLink RX8 133 "MirrorBytes$History" "length" "I" ∈ gt := gm (i := 297) (by decide +kernel) rfl
theorem cl_X8_47 : Cond.classLink RX8 47 RX1 ∈ gt := gm (i := 305) (by decide +kernel) rfl
theorem mn_X8_49 : Cond.methodLinkNest RX8 49 yX1_init "MirrorBytes" ∈ lw_tbl := List.mem_of_getElem? (i := 306) (by decide +kernel)
theorem cl_X8_54 : Cond.classLink RX8 54 RX0 ∈ gt := gm (i := 307) (by decide +kernel) rfl
theorem mn_X8_56 : Cond.methodLinkNest RX8 56 yX0_init "MirrorBytes" ∈ lw_tbl := List.mem_of_getElem? (i := 308) (by decide +kernel)
theorem fl_X8_10 : Cond.fieldLink RX8 10 "MirrorBytes" "text" "LMirrorBytes$Text;" ∈ gt := gm (i := 309) (by decide +kernel) rfl
theorem fl_X8_21 : Cond.fieldLink RX8 21 "MirrorBytes" "parser" "LMirrorBytes$Parser;" ∈ gt := gm (i := 310) (by decide +kernel) rfl
theorem fl_X8_28 : Cond.fieldLink RX8 28 "MirrorBytes" "now" "LMirrorBytes$Situation;" ∈ gt := gm (i := 311) (by decide +kernel) rfl
theorem fl_X8_35 : Cond.fieldLink RX8 35 "MirrorBytes" "history" "LMirrorBytes$History;" ∈ gt := gm (i := 312) (by decide +kernel) rfl
theorem fl_X8_39 : Cond.fieldLink RX8 39 "MirrorBytes" "images" "[LMirrorBytes$Situation;" ∈ gt := gm (i := 313) (by decide +kernel) rfl
theorem fl_X8_43 : Cond.fieldLink RX8 43 "MirrorBytes" "imageHeld" "[Z" ∈ gt := gm (i := 314) (by decide +kernel) rfl
theorem fl_X8_50 : Cond.fieldLink RX8 50 "MirrorBytes" "trial" "LMirrorBytes$Device;" ∈ gt := gm (i := 315) (by decide +kernel) rfl
theorem fl_X8_57 : Cond.fieldLink RX8 57 "MirrorBytes" "block" "LMirrorBytes$Block;" ∈ gt := gm (i := 316) (by decide +kernel) rfl
theorem ml_L_13 : Cond.methodLink RL 13 yX8_type ∈ gt := gm (i := 334) (by decide +kernel) rfl
theorem im_X8_type : Cond.instanceMethod yX8_type ∈ gt := gm (i := 335) (by decide +kernel) rfl
theorem se_X8_type : Cond.selects RX8 yX8_type yX8_type ∈ gt := gm (i := 336) (by decide +kernel) rfl
theorem co_X8_type : Cond.code yX8_type cX8_type 2 (some .int) ∈ gt := gm (i := 337) (by decide +kernel) rfl
theorem ml_X8_61 : Cond.methodLink RX8 61 yX8_isWithin ∈ gt := gm (i := 338) (by decide +kernel) rfl
theorem st_X8_isWithin : Cond.static yX8_isWithin ∈ gt := gm (i := 339) (by decide +kernel) rfl
theorem co_X8_isWithin : Cond.code yX8_isWithin cX8_isWithin 2 (some .boolean) ∈ gt := gm (i := 340) (by decide +kernel) rfl
theorem ml_X8_69 : Cond.methodLink RX8 69 yX6_append ∈ gt := gm (i := 341) (by decide +kernel) rfl
theorem im_X6_append : Cond.instanceMethod yX6_append ∈ gt := gm (i := 342) (by decide +kernel) rfl
theorem se_X6_append : Cond.selects RX6 yX6_append yX6_append ∈ gt := gm (i := 343) (by decide +kernel) rfl
theorem co_X6_append : Cond.code yX6_append cX6_append 2 none ∈ gt := gm (i := 344) (by decide +kernel) rfl
theorem ml_L_18 : Cond.methodLink RL 18 yX8_clear ∈ gt := gm (i := 345) (by decide +kernel) rfl
theorem im_X8_clear : Cond.instanceMethod yX8_clear ∈ gt := gm (i := 346) (by decide +kernel) rfl
theorem se_X8_clear : Cond.selects RX8 yX8_clear yX8_clear ∈ gt := gm (i := 347) (by decide +kernel) rfl
theorem co_X8_clear : Cond.code yX8_clear cX8_clear 2 (some .int) ∈ gt := gm (i := 348) (by decide +kernel) rfl
theorem ml_L_23 : Cond.methodLink RL 23 yX8_tells ∈ gt := gm (i := 349) (by decide +kernel) rfl
theorem im_X8_tells : Cond.instanceMethod yX8_tells ∈ gt := gm (i := 350) (by decide +kernel) rfl
theorem se_X8_tells : Cond.selects RX8 yX8_tells yX8_tells ∈ gt := gm (i := 351) (by decide +kernel) rfl
theorem co_X8_tells : Cond.code yX8_tells cX8_tells 3 (some .int) ∈ gt := gm (i := 352) (by decide +kernel) rfl
theorem ml_X8_73 : Cond.methodLink RX8 73 yX4_parse ∈ gt := gm (i := 353) (by decide +kernel) rfl
theorem im_X4_parse : Cond.instanceMethod yX4_parse ∈ gt := gm (i := 354) (by decide +kernel) rfl
theorem se_X4_parse : Cond.selects RX4 yX4_parse yX4_parse ∈ gt := gm (i := 355) (by decide +kernel) rfl
theorem co_X4_parse : Cond.code yX4_parse cX4_parse 2 (some .int) ∈ gt := gm (i := 356) (by decide +kernel) rfl
theorem ml_X4_27 : Cond.methodLink RX4 27 yX0_empty ∈ gt := gm (i := 357) (by decide +kernel) rfl
theorem im_X0_empty : Cond.instanceMethod yX0_empty ∈ gt := gm (i := 358) (by decide +kernel) rfl
theorem se_X0_empty : Cond.selects RX0 yX0_empty yX0_empty ∈ gt := gm (i := 359) (by decide +kernel) rfl
theorem co_X0_empty : Cond.code yX0_empty cX0_empty 1 none ∈ gt := gm (i := 360) (by decide +kernel) rfl
theorem ml_X4_30 : Cond.methodLink RX4 30 yX7_rewind ∈ gt := gm (i := 361) (by decide +kernel) rfl
theorem im_X7_rewind : Cond.instanceMethod yX7_rewind ∈ gt := gm (i := 362) (by decide +kernel) rfl
theorem se_X7_rewind : Cond.selects RX7 yX7_rewind yX7_rewind ∈ gt := gm (i := 363) (by decide +kernel) rfl
theorem co_X7_rewind : Cond.code yX7_rewind cX7_rewind 1 none ∈ gt := gm (i := 364) (by decide +kernel) rfl
theorem ml_X4_33 : Cond.methodLink RX4 33 yX7_advance ∈ gt := gm (i := 365) (by decide +kernel) rfl
theorem im_X7_advance : Cond.instanceMethod yX7_advance ∈ gt := gm (i := 366) (by decide +kernel) rfl
theorem se_X7_advance : Cond.selects RX7 yX7_advance yX7_advance ∈ gt := gm (i := 367) (by decide +kernel) rfl
theorem co_X7_advance : Cond.code yX7_advance cX7_advance 1 none ∈ gt := gm (i := 368) (by decide +kernel) rfl
theorem ml_X7_34 : Cond.methodLink RX7 34 yX6_isLetter ∈ gt := gm (i := 369) (by decide +kernel) rfl
theorem im_X6_isLetter : Cond.instanceMethod yX6_isLetter ∈ gt := gm (i := 370) (by decide +kernel) rfl
theorem se_X6_isLetter : Cond.selects RX6 yX6_isLetter yX6_isLetter ∈ gt := gm (i := 371) (by decide +kernel) rfl
theorem co_X6_isLetter : Cond.code yX6_isLetter cX6_isLetter 2 (some .boolean) ∈ gt := gm (i := 372) (by decide +kernel) rfl
theorem ml_X7_38 : Cond.methodLink RX7 38 yX6_isDigit ∈ gt := gm (i := 373) (by decide +kernel) rfl
theorem im_X6_isDigit : Cond.instanceMethod yX6_isDigit ∈ gt := gm (i := 374) (by decide +kernel) rfl
theorem se_X6_isDigit : Cond.selects RX6 yX6_isDigit yX6_isDigit ∈ gt := gm (i := 375) (by decide +kernel) rfl
theorem co_X6_isDigit : Cond.code yX6_isDigit cX6_isDigit 2 (some .boolean) ∈ gt := gm (i := 376) (by decide +kernel) rfl
theorem ml_X4_40 : Cond.methodLink RX4 40 yX4_readItem ∈ gt := gm (i := 377) (by decide +kernel) rfl
theorem im_X4_readItem : Cond.instanceMethod yX4_readItem ∈ gt := gm (i := 378) (by decide +kernel) rfl
theorem se_X4_readItem : Cond.selects RX4 yX4_readItem yX4_readItem ∈ gt := gm (i := 379) (by decide +kernel) rfl
theorem co_X4_readItem : Cond.code yX4_readItem cX4_readItem 1 (some .boolean) ∈ gt := gm (i := 380) (by decide +kernel) rfl
theorem ml_X4_47 : Cond.methodLink RX4 47 yX7_letter ∈ gt := gm (i := 381) (by decide +kernel) rfl
theorem im_X7_letter : Cond.instanceMethod yX7_letter ∈ gt := gm (i := 382) (by decide +kernel) rfl
theorem se_X7_letter : Cond.selects RX7 yX7_letter yX7_letter ∈ gt := gm (i := 383) (by decide +kernel) rfl
theorem co_X7_letter : Cond.code yX7_letter cX7_letter 1 (some .int) ∈ gt := gm (i := 384) (by decide +kernel) rfl
theorem ml_X4_51 : Cond.methodLink RX4 51 yX4_readRegister ∈ gt := gm (i := 385) (by decide +kernel) rfl
theorem im_X4_readRegister : Cond.instanceMethod yX4_readRegister ∈ gt := gm (i := 386) (by decide +kernel) rfl
theorem se_X4_readRegister : Cond.selects RX4 yX4_readRegister yX4_readRegister ∈ gt := gm (i := 387) (by decide +kernel) rfl
theorem co_X4_readRegister : Cond.code yX4_readRegister cX4_readRegister 2 (some .boolean) ∈ gt := gm (i := 388) (by decide +kernel) rfl
theorem ml_X4_69 : Cond.methodLink RX4 69 yX4_takeNumber ∈ gt := gm (i := 389) (by decide +kernel) rfl
theorem im_X4_takeNumber : Cond.instanceMethod yX4_takeNumber ∈ gt := gm (i := 390) (by decide +kernel) rfl
theorem se_X4_takeNumber : Cond.selects RX4 yX4_takeNumber yX4_takeNumber ∈ gt := gm (i := 391) (by decide +kernel) rfl
theorem co_X4_takeNumber : Cond.code yX4_takeNumber cX4_takeNumber 4 (some .boolean) ∈ gt := gm (i := 392) (by decide +kernel) rfl
theorem ml_X4_77 : Cond.methodLink RX4 77 yX7_number ∈ gt := gm (i := 393) (by decide +kernel) rfl
theorem im_X7_number : Cond.instanceMethod yX7_number ∈ gt := gm (i := 394) (by decide +kernel) rfl
theorem se_X7_number : Cond.selects RX7 yX7_number yX7_number ∈ gt := gm (i := 395) (by decide +kernel) rfl
theorem co_X7_number : Cond.code yX7_number cX7_number 4 (some .int) ∈ gt := gm (i := 396) (by decide +kernel) rfl
theorem ml_X4_86 : Cond.methodLink RX4 86 yX4_takeSemicolon ∈ gt := gm (i := 397) (by decide +kernel) rfl
theorem im_X4_takeSemicolon : Cond.instanceMethod yX4_takeSemicolon ∈ gt := gm (i := 398) (by decide +kernel) rfl
theorem se_X4_takeSemicolon : Cond.selects RX4 yX4_takeSemicolon yX4_takeSemicolon ∈ gt := gm (i := 399) (by decide +kernel) rfl
theorem co_X4_takeSemicolon : Cond.code yX4_takeSemicolon cX4_takeSemicolon 1 (some .boolean) ∈ gt := gm (i := 400) (by decide +kernel) rfl
theorem ml_X4_54 : Cond.methodLink RX4 54 yX4_readField ∈ gt := gm (i := 401) (by decide +kernel) rfl
theorem im_X4_readField : Cond.instanceMethod yX4_readField ∈ gt := gm (i := 402) (by decide +kernel) rfl
theorem se_X4_readField : Cond.selects RX4 yX4_readField yX4_readField ∈ gt := gm (i := 403) (by decide +kernel) rfl
theorem co_X4_readField : Cond.code yX4_readField cX4_readField 7 (some .boolean) ∈ gt := gm (i := 404) (by decide +kernel) rfl
theorem ml_X4_92 : Cond.methodLink RX4 92 yX4_takeKind ∈ gt := gm (i := 405) (by decide +kernel) rfl
theorem im_X4_takeKind : Cond.instanceMethod yX4_takeKind ∈ gt := gm (i := 406) (by decide +kernel) rfl
theorem se_X4_takeKind : Cond.selects RX4 yX4_takeKind yX4_takeKind ∈ gt := gm (i := 407) (by decide +kernel) rfl
theorem co_X4_takeKind : Cond.code yX4_takeKind cX4_takeKind 1 (some .boolean) ∈ gt := gm (i := 408) (by decide +kernel) rfl
theorem ml_X4_101 : Cond.methodLink RX4 101 yX7_kind ∈ gt := gm (i := 409) (by decide +kernel) rfl
theorem im_X7_kind : Cond.instanceMethod yX7_kind ∈ gt := gm (i := 410) (by decide +kernel) rfl
theorem se_X7_kind : Cond.selects RX7 yX7_kind yX7_kind ∈ gt := gm (i := 411) (by decide +kernel) rfl
theorem co_X7_kind : Cond.code yX7_kind cX7_kind 2 (some .int) ∈ gt := gm (i := 412) (by decide +kernel) rfl
theorem ml_X4_103 : Cond.methodLink RX4 103 yX0_usedBits ∈ gt := gm (i := 415) (by decide +kernel) rfl
theorem im_X0_usedBits : Cond.instanceMethod yX0_usedBits ∈ gt := gm (i := 416) (by decide +kernel) rfl
theorem se_X0_usedBits : Cond.selects RX0 yX0_usedBits yX0_usedBits ∈ gt := gm (i := 417) (by decide +kernel) rfl
theorem co_X0_usedBits : Cond.code yX0_usedBits cX0_usedBits 4 (some .int) ∈ gt := gm (i := 418) (by decide +kernel) rfl
theorem ml_X4_57 : Cond.methodLink RX4 57 yX4_readAlias ∈ gt := gm (i := 419) (by decide +kernel) rfl
theorem im_X4_readAlias : Cond.instanceMethod yX4_readAlias ∈ gt := gm (i := 420) (by decide +kernel) rfl
theorem se_X4_readAlias : Cond.selects RX4 yX4_readAlias yX4_readAlias ∈ gt := gm (i := 421) (by decide +kernel) rfl
theorem co_X4_readAlias : Cond.code yX4_readAlias cX4_readAlias 2 (some .boolean) ∈ gt := gm (i := 422) (by decide +kernel) rfl
theorem ml_X4_128 : Cond.methodLink RX4 128 yX4_suitsAlias ∈ gt := gm (i := 423) (by decide +kernel) rfl
theorem st_X4_suitsAlias : Cond.static yX4_suitsAlias ∈ gt := gm (i := 424) (by decide +kernel) rfl
theorem co_X4_suitsAlias : Cond.code yX4_suitsAlias cX4_suitsAlias 1 (some .boolean) ∈ gt := gm (i := 425) (by decide +kernel) rfl
theorem ml_X4_60 : Cond.methodLink RX4 60 yX4_readLock ∈ gt := gm (i := 426) (by decide +kernel) rfl
theorem im_X4_readLock : Cond.instanceMethod yX4_readLock ∈ gt := gm (i := 427) (by decide +kernel) rfl
theorem se_X4_readLock : Cond.selects RX4 yX4_readLock yX4_readLock ∈ gt := gm (i := 428) (by decide +kernel) rfl
theorem co_X4_readLock : Cond.code yX4_readLock cX4_readLock 2 (some .boolean) ∈ gt := gm (i := 429) (by decide +kernel) rfl
theorem ml_X4_63 : Cond.methodLink RX4 63 yX4_readGate ∈ gt := gm (i := 430) (by decide +kernel) rfl
theorem im_X4_readGate : Cond.instanceMethod yX4_readGate ∈ gt := gm (i := 431) (by decide +kernel) rfl
theorem se_X4_readGate : Cond.selects RX4 yX4_readGate yX4_readGate ∈ gt := gm (i := 432) (by decide +kernel) rfl
theorem co_X4_readGate : Cond.code yX4_readGate cX4_readGate 3 (some .boolean) ∈ gt := gm (i := 433) (by decide +kernel) rfl
theorem ml_X8_77 : Cond.methodLink RX8 77 yX4_exchange ∈ gt := gm (i := 434) (by decide +kernel) rfl
theorem im_X4_exchange : Cond.instanceMethod yX4_exchange ∈ gt := gm (i := 435) (by decide +kernel) rfl
theorem se_X4_exchange : Cond.selects RX4 yX4_exchange yX4_exchange ∈ gt := gm (i := 436) (by decide +kernel) rfl
theorem co_X4_exchange : Cond.code yX4_exchange cX4_exchange 3 (some (.object "MirrorBytes$Block")) ∈ gt := gm (i := 437) (by decide +kernel) rfl
theorem ml_X8_81 : Cond.methodLink RX8 81 yX5_startWith ∈ gt := gm (i := 438) (by decide +kernel) rfl
theorem im_X5_startWith : Cond.instanceMethod yX5_startWith ∈ gt := gm (i := 439) (by decide +kernel) rfl
theorem se_X5_startWith : Cond.selects RX5 yX5_startWith yX5_startWith ∈ gt := gm (i := 440) (by decide +kernel) rfl
theorem co_X5_startWith : Cond.code yX5_startWith cX5_startWith 2 none ∈ gt := gm (i := 441) (by decide +kernel) rfl
theorem ml_X5_42 : Cond.methodLink RX5 42 yX1_mend ∈ gt := gm (i := 442) (by decide +kernel) rfl
theorem im_X1_mend : Cond.instanceMethod yX1_mend ∈ gt := gm (i := 443) (by decide +kernel) rfl
theorem se_X1_mend : Cond.selects RX1 yX1_mend yX1_mend ∈ gt := gm (i := 444) (by decide +kernel) rfl
theorem co_X1_mend : Cond.code yX1_mend cX1_mend 2 none ∈ gt := gm (i := 445) (by decide +kernel) rfl
theorem ml_X5_46 : Cond.methodLink RX5 46 yX5_restart ∈ gt := gm (i := 449) (by decide +kernel) rfl
theorem im_X5_restart : Cond.instanceMethod yX5_restart ∈ gt := gm (i := 450) (by decide +kernel) rfl
theorem se_X5_restart : Cond.selects RX5 yX5_restart yX5_restart ∈ gt := gm (i := 451) (by decide +kernel) rfl
theorem co_X5_restart : Cond.code yX5_restart cX5_restart 2 none ∈ gt := gm (i := 452) (by decide +kernel) rfl
theorem ml_X5_49 : Cond.methodLink RX5 49 yX1_restart ∈ gt := gm (i := 453) (by decide +kernel) rfl
theorem im_X1_restart : Cond.instanceMethod yX1_restart ∈ gt := gm (i := 454) (by decide +kernel) rfl
theorem se_X1_restart : Cond.selects RX1 yX1_restart yX1_restart ∈ gt := gm (i := 455) (by decide +kernel) rfl
theorem co_X1_restart : Cond.code yX1_restart cX1_restart 3 none ∈ gt := gm (i := 456) (by decide +kernel) rfl
theorem ml_X1_43 : Cond.methodLink RX1 43 yX1_putValue ∈ gt := gm (i := 457) (by decide +kernel) rfl
theorem im_X1_putValue : Cond.instanceMethod yX1_putValue ∈ gt := gm (i := 458) (by decide +kernel) rfl
theorem se_X1_putValue : Cond.selects RX1 yX1_putValue yX1_putValue ∈ gt := gm (i := 459) (by decide +kernel) rfl
theorem co_X1_putValue : Cond.code yX1_putValue cX1_putValue 4 none ∈ gt := gm (i := 460) (by decide +kernel) rfl
theorem ml_X1_56 : Cond.methodLink RX1 56 yX1_putBits ∈ gt := gm (i := 461) (by decide +kernel) rfl
theorem im_X1_putBits : Cond.instanceMethod yX1_putBits ∈ gt := gm (i := 462) (by decide +kernel) rfl
theorem se_X1_putBits : Cond.selects RX1 yX1_putBits yX1_putBits ∈ gt := gm (i := 463) (by decide +kernel) rfl
theorem co_X1_putBits : Cond.code yX1_putBits cX1_putBits 5 none ∈ gt := gm (i := 464) (by decide +kernel) rfl
theorem ml_X8_85 : Cond.methodLink RX8 85 yX2_forget ∈ gt := gm (i := 465) (by decide +kernel) rfl
theorem im_X2_forget : Cond.instanceMethod yX2_forget ∈ gt := gm (i := 466) (by decide +kernel) rfl
theorem se_X2_forget : Cond.selects RX2 yX2_forget yX2_forget ∈ gt := gm (i := 467) (by decide +kernel) rfl
theorem co_X2_forget : Cond.code yX2_forget cX2_forget 1 none ∈ gt := gm (i := 468) (by decide +kernel) rfl
theorem ml_L_27 : Cond.methodLink RL 27 yX8_resets ∈ gt := gm (i := 469) (by decide +kernel) rfl
theorem im_X8_resets : Cond.instanceMethod yX8_resets ∈ gt := gm (i := 470) (by decide +kernel) rfl
theorem se_X8_resets : Cond.selects RX8 yX8_resets yX8_resets ∈ gt := gm (i := 471) (by decide +kernel) rfl
theorem co_X8_resets : Cond.code yX8_resets cX8_resets 2 (some .int) ∈ gt := gm (i := 472) (by decide +kernel) rfl
theorem ml_X8_88 : Cond.methodLink RX8 88 yX2_remember ∈ gt := gm (i := 473) (by decide +kernel) rfl
theorem im_X2_remember : Cond.instanceMethod yX2_remember ∈ gt := gm (i := 474) (by decide +kernel) rfl
theorem se_X2_remember : Cond.selects RX2 yX2_remember yX2_remember ∈ gt := gm (i := 475) (by decide +kernel) rfl
theorem co_X2_remember : Cond.code yX2_remember cX2_remember 2 none ∈ gt := gm (i := 476) (by decide +kernel) rfl
theorem ml_X2_25 : Cond.methodLink RX2 25 yX5_copyFrom ∈ gt := gm (i := 477) (by decide +kernel) rfl
theorem im_X5_copyFrom : Cond.instanceMethod yX5_copyFrom ∈ gt := gm (i := 478) (by decide +kernel) rfl
theorem se_X5_copyFrom : Cond.selects RX5 yX5_copyFrom yX5_copyFrom ∈ gt := gm (i := 479) (by decide +kernel) rfl
theorem co_X5_copyFrom : Cond.code yX5_copyFrom cX5_copyFrom 2 none ∈ gt := gm (i := 480) (by decide +kernel) rfl
theorem ml_X5_32 : Cond.methodLink RX5 32 yX1_copyFrom ∈ gt := gm (i := 481) (by decide +kernel) rfl
theorem im_X1_copyFrom : Cond.instanceMethod yX1_copyFrom ∈ gt := gm (i := 482) (by decide +kernel) rfl
theorem se_X1_copyFrom : Cond.selects RX1 yX1_copyFrom yX1_copyFrom ∈ gt := gm (i := 483) (by decide +kernel) rfl
theorem co_X1_copyFrom : Cond.code yX1_copyFrom cX1_copyFrom 3 none ∈ gt := gm (i := 484) (by decide +kernel) rfl
theorem ml_X5_36 : Cond.methodLink RX5 36 yX3_copyFrom ∈ gt := gm (i := 485) (by decide +kernel) rfl
theorem im_X3_copyFrom : Cond.instanceMethod yX3_copyFrom ∈ gt := gm (i := 486) (by decide +kernel) rfl
theorem se_X3_copyFrom : Cond.selects RX3 yX3_copyFrom yX3_copyFrom ∈ gt := gm (i := 487) (by decide +kernel) rfl
theorem co_X3_copyFrom : Cond.code yX3_copyFrom cX3_copyFrom 3 none ∈ gt := gm (i := 488) (by decide +kernel) rfl
theorem ml_X2_29 : Cond.methodLink RX2 29 yJ9_min_7cf53 ∈ gt := gm (i := 489) (by decide +kernel) rfl
theorem st_J9_min_7cf53 : Cond.static yJ9_min_7cf53 ∈ gt := gm (i := 490) (by decide +kernel) rfl
theorem co_J9_min_7cf53 : Cond.code yJ9_min_7cf53 cJ9_min_7cf53 2 (some .int) ∈ gt := gm (i := 491) (by decide +kernel) rfl
theorem ml_X8_99 : Cond.methodLink RX8 99 yX5_restart ∈ gt := gm (i := 492) (by decide +kernel) rfl
theorem ml_L_31 : Cond.methodLink RL 31 yX8_reads ∈ gt := gm (i := 493) (by decide +kernel) rfl
theorem im_X8_reads : Cond.instanceMethod yX8_reads ∈ gt := gm (i := 494) (by decide +kernel) rfl
theorem se_X8_reads : Cond.selects RX8 yX8_reads yX8_reads ∈ gt := gm (i := 495) (by decide +kernel) rfl
theorem co_X8_reads : Cond.code yX8_reads cX8_reads 2 (some .int) ∈ gt := gm (i := 496) (by decide +kernel) rfl
theorem ml_X8_102 : Cond.methodLink RX8 102 yX5_performRead ∈ gt := gm (i := 497) (by decide +kernel) rfl
theorem im_X5_performRead : Cond.instanceMethod yX5_performRead ∈ gt := gm (i := 498) (by decide +kernel) rfl
theorem se_X5_performRead : Cond.selects RX5 yX5_performRead yX5_performRead ∈ gt := gm (i := 499) (by decide +kernel) rfl
theorem co_X5_performRead : Cond.code yX5_performRead cX5_performRead 4 (some .int) ∈ gt := gm (i := 500) (by decide +kernel) rfl
theorem ml_X5_53 : Cond.methodLink RX5 53 yX1_read ∈ gt := gm (i := 501) (by decide +kernel) rfl
theorem im_X1_read : Cond.instanceMethod yX1_read ∈ gt := gm (i := 502) (by decide +kernel) rfl
theorem se_X1_read : Cond.selects RX1 yX1_read yX1_read ∈ gt := gm (i := 503) (by decide +kernel) rfl
theorem co_X1_read : Cond.code yX1_read cX1_read 6 (some .int) ∈ gt := gm (i := 504) (by decide +kernel) rfl
theorem ml_X1_77 : Cond.methodLink RX1 77 yX1_look ∈ gt := gm (i := 505) (by decide +kernel) rfl
theorem im_X1_look : Cond.instanceMethod yX1_look ∈ gt := gm (i := 506) (by decide +kernel) rfl
theorem se_X1_look : Cond.selects RX1 yX1_look yX1_look ∈ gt := gm (i := 507) (by decide +kernel) rfl
theorem co_X1_look : Cond.code yX1_look cX1_look 4 (some .int) ∈ gt := gm (i := 508) (by decide +kernel) rfl
theorem ml_X1_70 : Cond.methodLink RX1 70 yX0_registerBehind ∈ gt := gm (i := 509) (by decide +kernel) rfl
theorem im_X0_registerBehind : Cond.instanceMethod yX0_registerBehind ∈ gt := gm (i := 510) (by decide +kernel) rfl
theorem se_X0_registerBehind : Cond.selects RX0 yX0_registerBehind yX0_registerBehind ∈ gt := gm (i := 511) (by decide +kernel) rfl
theorem co_X0_registerBehind : Cond.code yX0_registerBehind cX0_registerBehind 3 (some .int) ∈ gt := gm (i := 512) (by decide +kernel) rfl
theorem ml_X0_74 : Cond.methodLink RX0 74 yX0_aliasAt ∈ gt := gm (i := 513) (by decide +kernel) rfl
theorem im_X0_aliasAt : Cond.instanceMethod yX0_aliasAt ∈ gt := gm (i := 514) (by decide +kernel) rfl
theorem se_X0_aliasAt : Cond.selects RX0 yX0_aliasAt yX0_aliasAt ∈ gt := gm (i := 515) (by decide +kernel) rfl
theorem co_X0_aliasAt : Cond.code yX0_aliasAt cX0_aliasAt 3 (some .int) ∈ gt := gm (i := 516) (by decide +kernel) rfl
theorem ml_X0_71 : Cond.methodLink RX0 71 yX0_registerAt ∈ gt := gm (i := 517) (by decide +kernel) rfl
theorem im_X0_registerAt : Cond.instanceMethod yX0_registerAt ∈ gt := gm (i := 518) (by decide +kernel) rfl
theorem se_X0_registerAt : Cond.selects RX0 yX0_registerAt yX0_registerAt ∈ gt := gm (i := 519) (by decide +kernel) rfl
theorem co_X0_registerAt : Cond.code yX0_registerAt cX0_registerAt 3 (some .int) ∈ gt := gm (i := 520) (by decide +kernel) rfl
theorem ml_X1_74 : Cond.methodLink RX1 74 yX1_shown ∈ gt := gm (i := 521) (by decide +kernel) rfl
theorem im_X1_shown : Cond.instanceMethod yX1_shown ∈ gt := gm (i := 522) (by decide +kernel) rfl
theorem se_X1_shown : Cond.selects RX1 yX1_shown yX1_shown ∈ gt := gm (i := 523) (by decide +kernel) rfl
theorem co_X1_shown : Cond.code yX1_shown cX1_shown 5 (some .int) ∈ gt := gm (i := 524) (by decide +kernel) rfl
theorem ml_X1_80 : Cond.methodLink RX1 80 yX0_registerAt ∈ gt := gm (i := 525) (by decide +kernel) rfl
theorem ml_X5_57 : Cond.methodLink RX5 57 yX1_look ∈ gt := gm (i := 526) (by decide +kernel) rfl
theorem ml_X5_60 : Cond.methodLink RX5 60 yX1_learn ∈ gt := gm (i := 527) (by decide +kernel) rfl
theorem im_X1_learn : Cond.instanceMethod yX1_learn ∈ gt := gm (i := 528) (by decide +kernel) rfl
theorem se_X1_learn : Cond.selects RX1 yX1_learn yX1_learn ∈ gt := gm (i := 529) (by decide +kernel) rfl
theorem co_X1_learn : Cond.code yX1_learn cX1_learn 6 none ∈ gt := gm (i := 530) (by decide +kernel) rfl
theorem ml_X5_64 : Cond.methodLink RX5 64 yX3_append ∈ gt := gm (i := 531) (by decide +kernel) rfl
theorem im_X3_append : Cond.instanceMethod yX3_append ∈ gt := gm (i := 532) (by decide +kernel) rfl
theorem se_X3_append : Cond.selects RX3 yX3_append yX3_append ∈ gt := gm (i := 533) (by decide +kernel) rfl
theorem co_X3_append : Cond.code yX3_append cX3_append 4 none ∈ gt := gm (i := 534) (by decide +kernel) rfl
theorem ml_L_35 : Cond.methodLink RL 35 yX8_writes ∈ gt := gm (i := 535) (by decide +kernel) rfl
theorem im_X8_writes : Cond.instanceMethod yX8_writes ∈ gt := gm (i := 536) (by decide +kernel) rfl
theorem se_X8_writes : Cond.selects RX8 yX8_writes yX8_writes ∈ gt := gm (i := 537) (by decide +kernel) rfl
theorem co_X8_writes : Cond.code yX8_writes cX8_writes 4 (some .int) ∈ gt := gm (i := 538) (by decide +kernel) rfl
theorem ml_X8_106 : Cond.methodLink RX8 106 yX8_changedBy ∈ gt := gm (i := 539) (by decide +kernel) rfl
theorem im_X8_changedBy : Cond.instanceMethod yX8_changedBy ∈ gt := gm (i := 541) (by decide +kernel) rfl
theorem co_X8_changedBy : Cond.code yX8_changedBy cX8_changedBy 5 (some .int) ∈ gt := gm (i := 542) (by decide +kernel) rfl
theorem ml_X8_235 : Cond.methodLink RX8 235 yX1_copyFrom ∈ gt := gm (i := 543) (by decide +kernel) rfl
theorem ml_X8_238 : Cond.methodLink RX8 238 yX1_write ∈ gt := gm (i := 544) (by decide +kernel) rfl
theorem im_X1_write : Cond.instanceMethod yX1_write ∈ gt := gm (i := 545) (by decide +kernel) rfl
theorem se_X1_write : Cond.selects RX1 yX1_write yX1_write ∈ gt := gm (i := 546) (by decide +kernel) rfl
theorem co_X1_write : Cond.code yX1_write cX1_write 6 none ∈ gt := gm (i := 547) (by decide +kernel) rfl
theorem ml_X1_83 : Cond.methodLink RX1 83 yX1_isLocked ∈ gt := gm (i := 548) (by decide +kernel) rfl
theorem im_X1_isLocked : Cond.instanceMethod yX1_isLocked ∈ gt := gm (i := 549) (by decide +kernel) rfl
theorem se_X1_isLocked : Cond.selects RX1 yX1_isLocked yX1_isLocked ∈ gt := gm (i := 550) (by decide +kernel) rfl
theorem co_X1_isLocked : Cond.code yX1_isLocked cX1_isLocked 4 (some .boolean) ∈ gt := gm (i := 551) (by decide +kernel) rfl
theorem mn_X1_62 : Cond.methodLinkNest RX1 62 yX8_isWithin "MirrorBytes" ∈ lw_tbl := List.mem_of_getElem? (i := 552) (by decide +kernel)
theorem ml_X1_66 : Cond.methodLink RX1 66 yX1_valueOf ∈ gt := gm (i := 553) (by decide +kernel) rfl
theorem im_X1_valueOf : Cond.instanceMethod yX1_valueOf ∈ gt := gm (i := 554) (by decide +kernel) rfl
theorem se_X1_valueOf : Cond.selects RX1 yX1_valueOf yX1_valueOf ∈ gt := gm (i := 555) (by decide +kernel) rfl
theorem co_X1_valueOf : Cond.code yX1_valueOf cX1_valueOf 3 (some .int) ∈ gt := gm (i := 556) (by decide +kernel) rfl
theorem ml_X1_87 : Cond.methodLink RX1 87 yX0_aliasAt ∈ gt := gm (i := 557) (by decide +kernel) rfl
theorem ml_X1_93 : Cond.methodLink RX1 93 yX1_letInByAlias ∈ gt := gm (i := 558) (by decide +kernel) rfl
theorem im_X1_letInByAlias : Cond.instanceMethod yX1_letInByAlias ∈ gt := gm (i := 559) (by decide +kernel) rfl
theorem se_X1_letInByAlias : Cond.selects RX1 yX1_letInByAlias yX1_letInByAlias ∈ gt := gm (i := 560) (by decide +kernel) rfl
theorem co_X1_letInByAlias : Cond.code yX1_letInByAlias cX1_letInByAlias 6 none ∈ gt := gm (i := 561) (by decide +kernel) rfl
theorem ml_X1_106 : Cond.methodLink RX1 106 yX1_bitsAfter ∈ gt := gm (i := 562) (by decide +kernel) rfl
theorem im_X1_bitsAfter : Cond.instanceMethod yX1_bitsAfter ∈ gt := gm (i := 563) (by decide +kernel) rfl
theorem se_X1_bitsAfter : Cond.selects RX1 yX1_bitsAfter yX1_bitsAfter ∈ gt := gm (i := 564) (by decide +kernel) rfl
theorem co_X1_bitsAfter : Cond.code yX1_bitsAfter cX1_bitsAfter 4 (some .int) ∈ gt := gm (i := 565) (by decide +kernel) rfl
theorem ml_X1_100 : Cond.methodLink RX1 100 yX1_letIn ∈ gt := gm (i := 566) (by decide +kernel) rfl
theorem im_X1_letIn : Cond.instanceMethod yX1_letIn ∈ gt := gm (i := 567) (by decide +kernel) rfl
theorem se_X1_letIn : Cond.selects RX1 yX1_letIn yX1_letIn ∈ gt := gm (i := 568) (by decide +kernel) rfl
theorem co_X1_letIn : Cond.code yX1_letIn cX1_letIn 5 none ∈ gt := gm (i := 569) (by decide +kernel) rfl
theorem ml_X1_103 : Cond.methodLink RX1 103 yX1_openGates ∈ gt := gm (i := 570) (by decide +kernel) rfl
theorem im_X1_openGates : Cond.instanceMethod yX1_openGates ∈ gt := gm (i := 571) (by decide +kernel) rfl
theorem se_X1_openGates : Cond.selects RX1 yX1_openGates yX1_openGates ∈ gt := gm (i := 572) (by decide +kernel) rfl
theorem co_X1_openGates : Cond.code yX1_openGates cX1_openGates 5 none ∈ gt := gm (i := 573) (by decide +kernel) rfl
theorem ml_X1_113 : Cond.methodLink RX1 113 yX0_isOpenedBy ∈ gt := gm (i := 574) (by decide +kernel) rfl
theorem im_X0_isOpenedBy : Cond.instanceMethod yX0_isOpenedBy ∈ gt := gm (i := 575) (by decide +kernel) rfl
theorem se_X0_isOpenedBy : Cond.selects RX0 yX0_isOpenedBy yX0_isOpenedBy ∈ gt := gm (i := 576) (by decide +kernel) rfl
theorem co_X0_isOpenedBy : Cond.code yX0_isOpenedBy cX0_isOpenedBy 4 (some .boolean) ∈ gt := gm (i := 577) (by decide +kernel) rfl
theorem mn_X0_58 : Cond.methodLinkNest RX0 58 yX8_isWithin "MirrorBytes" ∈ lw_tbl := List.mem_of_getElem? (i := 578) (by decide +kernel)
theorem ml_X8_120 : Cond.methodLink RX8 120 yX1_valueOf ∈ gt := gm (i := 579) (by decide +kernel) rfl
theorem ml_X8_110 : Cond.methodLink RX8 110 yX5_performWrite ∈ gt := gm (i := 580) (by decide +kernel) rfl
theorem im_X5_performWrite : Cond.instanceMethod yX5_performWrite ∈ gt := gm (i := 581) (by decide +kernel) rfl
theorem se_X5_performWrite : Cond.selects RX5 yX5_performWrite yX5_performWrite ∈ gt := gm (i := 582) (by decide +kernel) rfl
theorem co_X5_performWrite : Cond.code yX5_performWrite cX5_performWrite 4 none ∈ gt := gm (i := 583) (by decide +kernel) rfl
theorem ml_X5_68 : Cond.methodLink RX5 68 yX1_write ∈ gt := gm (i := 584) (by decide +kernel) rfl
theorem ml_L_40 : Cond.methodLink RL 40 yX8_sets ∈ gt := gm (i := 585) (by decide +kernel) rfl
theorem im_X8_sets : Cond.instanceMethod yX8_sets ∈ gt := gm (i := 586) (by decide +kernel) rfl
theorem se_X8_sets : Cond.selects RX8 yX8_sets yX8_sets ∈ gt := gm (i := 587) (by decide +kernel) rfl
theorem co_X8_sets : Cond.code yX8_sets cX8_sets 4 (some .int) ∈ gt := gm (i := 588) (by decide +kernel) rfl
theorem ml_X8_114 : Cond.methodLink RX8 114 yX0_canHold ∈ gt := gm (i := 589) (by decide +kernel) rfl
theorem im_X0_canHold : Cond.instanceMethod yX0_canHold ∈ gt := gm (i := 590) (by decide +kernel) rfl
theorem se_X0_canHold : Cond.selects RX0 yX0_canHold yX0_canHold ∈ gt := gm (i := 591) (by decide +kernel) rfl
theorem co_X0_canHold : Cond.code yX0_canHold cX0_canHold 3 (some .boolean) ∈ gt := gm (i := 592) (by decide +kernel) rfl
theorem ml_X0_62 : Cond.methodLink RX0 62 yX0_greatestValue ∈ gt := gm (i := 593) (by decide +kernel) rfl
theorem im_X0_greatestValue : Cond.instanceMethod yX0_greatestValue ∈ gt := gm (i := 594) (by decide +kernel) rfl
theorem se_X0_greatestValue : Cond.selects RX0 yX0_greatestValue yX0_greatestValue ∈ gt := gm (i := 595) (by decide +kernel) rfl
theorem co_X0_greatestValue : Cond.code yX0_greatestValue cX0_greatestValue 2 (some .int) ∈ gt := gm (i := 596) (by decide +kernel) rfl
theorem ml_X8_123 : Cond.methodLink RX8 123 yX1_putValue ∈ gt := gm (i := 597) (by decide +kernel) rfl
theorem ml_L_44 : Cond.methodLink RL 44 yX8_breaks ∈ gt := gm (i := 598) (by decide +kernel) rfl
theorem im_X8_breaks : Cond.instanceMethod yX8_breaks ∈ gt := gm (i := 599) (by decide +kernel) rfl
theorem se_X8_breaks : Cond.selects RX8 yX8_breaks yX8_breaks ∈ gt := gm (i := 600) (by decide +kernel) rfl
theorem co_X8_breaks : Cond.code yX8_breaks cX8_breaks 4 (some .int) ∈ gt := gm (i := 601) (by decide +kernel) rfl
theorem ml_L_48 : Cond.methodLink RL 48 yX8_undo ∈ gt := gm (i := 602) (by decide +kernel) rfl
theorem im_X8_undo : Cond.instanceMethod yX8_undo ∈ gt := gm (i := 603) (by decide +kernel) rfl
theorem se_X8_undo : Cond.selects RX8 yX8_undo yX8_undo ∈ gt := gm (i := 604) (by decide +kernel) rfl
theorem co_X8_undo : Cond.code yX8_undo cX8_undo 1 (some .int) ∈ gt := gm (i := 605) (by decide +kernel) rfl
theorem ml_X8_134 : Cond.methodLink RX8 134 yX2_recall ∈ gt := gm (i := 606) (by decide +kernel) rfl
theorem im_X2_recall : Cond.instanceMethod yX2_recall ∈ gt := gm (i := 607) (by decide +kernel) rfl
theorem se_X2_recall : Cond.selects RX2 yX2_recall yX2_recall ∈ gt := gm (i := 608) (by decide +kernel) rfl
theorem co_X2_recall : Cond.code yX2_recall cX2_recall 2 none ∈ gt := gm (i := 609) (by decide +kernel) rfl
theorem ml_L_52 : Cond.methodLink RL 52 yX8_field ∈ gt := gm (i := 610) (by decide +kernel) rfl
theorem im_X8_field : Cond.instanceMethod yX8_field ∈ gt := gm (i := 611) (by decide +kernel) rfl
theorem se_X8_field : Cond.selects RX8 yX8_field yX8_field ∈ gt := gm (i := 612) (by decide +kernel) rfl
theorem co_X8_field : Cond.code yX8_field cX8_field 3 (some .int) ∈ gt := gm (i := 613) (by decide +kernel) rfl
theorem ml_L_56 : Cond.methodLink RL 56 yX8_register ∈ gt := gm (i := 614) (by decide +kernel) rfl
theorem im_X8_register : Cond.instanceMethod yX8_register ∈ gt := gm (i := 615) (by decide +kernel) rfl
theorem se_X8_register : Cond.selects RX8 yX8_register yX8_register ∈ gt := gm (i := 616) (by decide +kernel) rfl
theorem co_X8_register : Cond.code yX8_register cX8_register 3 (some .int) ∈ gt := gm (i := 617) (by decide +kernel) rfl
theorem ml_X8_167 : Cond.methodLink RX8 167 yX1_isLocked ∈ gt := gm (i := 618) (by decide +kernel) rfl
theorem ml_L_60 : Cond.methodLink RL 60 yX8_alias ∈ gt := gm (i := 619) (by decide +kernel) rfl
theorem im_X8_alias : Cond.instanceMethod yX8_alias ∈ gt := gm (i := 620) (by decide +kernel) rfl
theorem se_X8_alias : Cond.selects RX8 yX8_alias yX8_alias ∈ gt := gm (i := 621) (by decide +kernel) rfl
theorem co_X8_alias : Cond.code yX8_alias cX8_alias 3 (some .int) ∈ gt := gm (i := 622) (by decide +kernel) rfl
theorem ml_L_64 : Cond.methodLink RL 64 yX8_at ∈ gt := gm (i := 623) (by decide +kernel) rfl
theorem im_X8_at : Cond.instanceMethod yX8_at ∈ gt := gm (i := 624) (by decide +kernel) rfl
theorem se_X8_at : Cond.selects RX8 yX8_at yX8_at ∈ gt := gm (i := 625) (by decide +kernel) rfl
theorem co_X8_at : Cond.code yX8_at cX8_at 3 (some .int) ∈ gt := gm (i := 626) (by decide +kernel) rfl
theorem ml_X8_186 : Cond.methodLink RX8 186 yX0_aliasAt ∈ gt := gm (i := 627) (by decide +kernel) rfl
theorem ml_X8_190 : Cond.methodLink RX8 190 yX0_registerAt ∈ gt := gm (i := 628) (by decide +kernel) rfl
theorem ml_L_68 : Cond.methodLink RL 68 yX8_peek ∈ gt := gm (i := 629) (by decide +kernel) rfl
theorem im_X8_peek : Cond.instanceMethod yX8_peek ∈ gt := gm (i := 630) (by decide +kernel) rfl
theorem se_X8_peek : Cond.selects RX8 yX8_peek yX8_peek ∈ gt := gm (i := 631) (by decide +kernel) rfl
theorem co_X8_peek : Cond.code yX8_peek cX8_peek 3 (some .int) ∈ gt := gm (i := 632) (by decide +kernel) rfl
theorem ml_X8_193 : Cond.methodLink RX8 193 yX1_look ∈ gt := gm (i := 633) (by decide +kernel) rfl
theorem ml_L_72 : Cond.methodLink RL 72 yX8_differed ∈ gt := gm (i := 634) (by decide +kernel) rfl
theorem im_X8_differed : Cond.instanceMethod yX8_differed ∈ gt := gm (i := 635) (by decide +kernel) rfl
theorem se_X8_differed : Cond.selects RX8 yX8_differed yX8_differed ∈ gt := gm (i := 636) (by decide +kernel) rfl
theorem co_X8_differed : Cond.code yX8_differed cX8_differed 2 (some .int) ∈ gt := gm (i := 637) (by decide +kernel) rfl
theorem ml_L_76 : Cond.methodLink RL 76 yX8_log ∈ gt := gm (i := 638) (by decide +kernel) rfl
theorem im_X8_log : Cond.instanceMethod yX8_log ∈ gt := gm (i := 639) (by decide +kernel) rfl
theorem se_X8_log : Cond.selects RX8 yX8_log yX8_log ∈ gt := gm (i := 640) (by decide +kernel) rfl
theorem co_X8_log : Cond.code yX8_log cX8_log 3 (some .int) ∈ gt := gm (i := 641) (by decide +kernel) rfl
theorem ml_L_80 : Cond.methodLink RL 80 yX8_suspects ∈ gt := gm (i := 642) (by decide +kernel) rfl
theorem im_X8_suspects : Cond.instanceMethod yX8_suspects ∈ gt := gm (i := 643) (by decide +kernel) rfl
theorem se_X8_suspects : Cond.selects RX8 yX8_suspects yX8_suspects ∈ gt := gm (i := 644) (by decide +kernel) rfl
theorem co_X8_suspects : Cond.code yX8_suspects cX8_suspects 5 (some .int) ∈ gt := gm (i := 645) (by decide +kernel) rfl
theorem ml_X8_209 : Cond.methodLink RX8 209 yX8_wouldReadTheSame ∈ gt := gm (i := 646) (by decide +kernel) rfl
theorem im_X8_wouldReadTheSame : Cond.instanceMethod yX8_wouldReadTheSame ∈ gt := gm (i := 648) (by decide +kernel) rfl
theorem co_X8_wouldReadTheSame : Cond.code yX8_wouldReadTheSame cX8_wouldReadTheSame 3 (some .boolean) ∈ gt := gm (i := 649) (by decide +kernel) rfl
theorem ml_X8_244 : Cond.methodLink RX8 244 yX1_mend ∈ gt := gm (i := 650) (by decide +kernel) rfl
theorem ml_X8_247 : Cond.methodLink RX8 247 yX1_restart ∈ gt := gm (i := 651) (by decide +kernel) rfl
theorem ml_X8_248 : Cond.methodLink RX8 248 yX3_agreesWith ∈ gt := gm (i := 652) (by decide +kernel) rfl
theorem im_X3_agreesWith : Cond.instanceMethod yX3_agreesWith ∈ gt := gm (i := 653) (by decide +kernel) rfl
theorem se_X3_agreesWith : Cond.selects RX3 yX3_agreesWith yX3_agreesWith ∈ gt := gm (i := 654) (by decide +kernel) rfl
theorem co_X3_agreesWith : Cond.code yX3_agreesWith cX3_agreesWith 4 (some .boolean) ∈ gt := gm (i := 655) (by decide +kernel) rfl
theorem ml_X3_26 : Cond.methodLink RX3 26 yX1_write ∈ gt := gm (i := 656) (by decide +kernel) rfl
theorem ml_X3_32 : Cond.methodLink RX3 32 yX1_read ∈ gt := gm (i := 657) (by decide +kernel) rfl
theorem ml_L_84 : Cond.methodLink RL 84 yX8_clashes ∈ gt := gm (i := 658) (by decide +kernel) rfl
theorem im_X8_clashes : Cond.instanceMethod yX8_clashes ∈ gt := gm (i := 659) (by decide +kernel) rfl
theorem se_X8_clashes : Cond.selects RX8 yX8_clashes yX8_clashes ∈ gt := gm (i := 660) (by decide +kernel) rfl
theorem co_X8_clashes : Cond.code yX8_clashes cX8_clashes 5 (some .int) ∈ gt := gm (i := 661) (by decide +kernel) rfl
theorem ml_X8_212 : Cond.methodLink RX8 212 yX0_holdersOf ∈ gt := gm (i := 662) (by decide +kernel) rfl
theorem im_X0_holdersOf : Cond.instanceMethod yX0_holdersOf ∈ gt := gm (i := 663) (by decide +kernel) rfl
theorem se_X0_holdersOf : Cond.selects RX0 yX0_holdersOf yX0_holdersOf ∈ gt := gm (i := 664) (by decide +kernel) rfl
theorem co_X0_holdersOf : Cond.code yX0_holdersOf cX0_holdersOf 4 (some .int) ∈ gt := gm (i := 665) (by decide +kernel) rfl
theorem ml_L_88 : Cond.methodLink RL 88 yX8_touched ∈ gt := gm (i := 666) (by decide +kernel) rfl
theorem im_X8_touched : Cond.instanceMethod yX8_touched ∈ gt := gm (i := 667) (by decide +kernel) rfl
theorem se_X8_touched : Cond.selects RX8 yX8_touched yX8_touched ∈ gt := gm (i := 668) (by decide +kernel) rfl
theorem co_X8_touched : Cond.code yX8_touched cX8_touched 3 (some .int) ∈ gt := gm (i := 669) (by decide +kernel) rfl
theorem ml_L_92 : Cond.methodLink RL 92 yX8_way ∈ gt := gm (i := 670) (by decide +kernel) rfl
theorem im_X8_way : Cond.instanceMethod yX8_way ∈ gt := gm (i := 671) (by decide +kernel) rfl
theorem se_X8_way : Cond.selects RX8 yX8_way yX8_way ∈ gt := gm (i := 672) (by decide +kernel) rfl
theorem co_X8_way : Cond.code yX8_way cX8_way 5 (some .int) ∈ gt := gm (i := 673) (by decide +kernel) rfl
theorem ml_X8_215 : Cond.methodLink RX8 215 yX8_byteThatGives ∈ gt := gm (i := 674) (by decide +kernel) rfl
theorem im_X8_byteThatGives : Cond.instanceMethod yX8_byteThatGives ∈ gt := gm (i := 676) (by decide +kernel) rfl
theorem co_X8_byteThatGives : Cond.code yX8_byteThatGives cX8_byteThatGives 6 (some .int) ∈ gt := gm (i := 677) (by decide +kernel) rfl
theorem ml_X8_241 : Cond.methodLink RX8 241 yX0_canReach ∈ gt := gm (i := 678) (by decide +kernel) rfl
theorem im_X0_canReach : Cond.instanceMethod yX0_canReach ∈ gt := gm (i := 679) (by decide +kernel) rfl
theorem se_X0_canReach : Cond.selects RX0 yX0_canReach yX0_canReach ∈ gt := gm (i := 680) (by decide +kernel) rfl
theorem co_X0_canReach : Cond.code yX0_canReach cX0_canReach 4 (some .boolean) ∈ gt := gm (i := 681) (by decide +kernel) rfl
theorem ml_X0_77 : Cond.methodLink RX0 77 yX0_registerBehind ∈ gt := gm (i := 682) (by decide +kernel) rfl
theorem ml_X0_80 : Cond.methodLink RX0 80 yX0_isOpenedBy ∈ gt := gm (i := 683) (by decide +kernel) rfl
theorem ml_L_96 : Cond.methodLink RL 96 yX8_walk ∈ gt := gm (i := 684) (by decide +kernel) rfl
theorem im_X8_walk : Cond.instanceMethod yX8_walk ∈ gt := gm (i := 685) (by decide +kernel) rfl
theorem se_X8_walk : Cond.selects RX8 yX8_walk yX8_walk ∈ gt := gm (i := 686) (by decide +kernel) rfl
theorem co_X8_walk : Cond.code yX8_walk cX8_walk 8 (some .int) ∈ gt := gm (i := 687) (by decide +kernel) rfl
theorem ml_X8_219 : Cond.methodLink RX8 219 yX8_walkedBits ∈ gt := gm (i := 688) (by decide +kernel) rfl
theorem im_X8_walkedBits : Cond.instanceMethod yX8_walkedBits ∈ gt := gm (i := 690) (by decide +kernel) rfl
theorem co_X8_walkedBits : Cond.code yX8_walkedBits cX8_walkedBits 5 (some .int) ∈ gt := gm (i := 691) (by decide +kernel) rfl
theorem ml_X8_252 : Cond.methodLink RX8 252 yX0_isGate ∈ gt := gm (i := 692) (by decide +kernel) rfl
theorem im_X0_isGate : Cond.instanceMethod yX0_isGate ∈ gt := gm (i := 693) (by decide +kernel) rfl
theorem se_X0_isGate : Cond.selects RX0 yX0_isGate yX0_isGate ∈ gt := gm (i := 694) (by decide +kernel) rfl
theorem co_X0_isGate : Cond.code yX0_isGate cX0_isGate 3 (some .boolean) ∈ gt := gm (i := 695) (by decide +kernel) rfl
theorem ml_X8_256 : Cond.methodLink RX8 256 yX0_isLock ∈ gt := gm (i := 696) (by decide +kernel) rfl
theorem im_X0_isLock : Cond.instanceMethod yX0_isLock ∈ gt := gm (i := 697) (by decide +kernel) rfl
theorem se_X0_isLock : Cond.selects RX0 yX0_isLock yX0_isLock ∈ gt := gm (i := 698) (by decide +kernel) rfl
theorem co_X0_isLock : Cond.code yX0_isLock cX0_isLock 3 (some .boolean) ∈ gt := gm (i := 699) (by decide +kernel) rfl
theorem ml_X8_222 : Cond.methodLink RX8 222 yX8_stepOfWalk ∈ gt := gm (i := 700) (by decide +kernel) rfl
theorem im_X8_stepOfWalk : Cond.instanceMethod yX8_stepOfWalk ∈ gt := gm (i := 702) (by decide +kernel) rfl
theorem co_X8_stepOfWalk : Cond.code yX8_stepOfWalk cX8_stepOfWalk 4 (some .int) ∈ gt := gm (i := 703) (by decide +kernel) rfl
theorem ml_X8_263 : Cond.methodLink RX8 263 yX0_plainBits ∈ gt := gm (i := 704) (by decide +kernel) rfl
theorem im_X0_plainBits : Cond.instanceMethod yX0_plainBits ∈ gt := gm (i := 705) (by decide +kernel) rfl
theorem se_X0_plainBits : Cond.selects RX0 yX0_plainBits yX0_plainBits ∈ gt := gm (i := 706) (by decide +kernel) rfl
theorem co_X0_plainBits : Cond.code yX0_plainBits cX0_plainBits 4 (some .int) ∈ gt := gm (i := 707) (by decide +kernel) rfl
theorem ml_X8_266 : Cond.methodLink RX8 266 yX1_shown ∈ gt := gm (i := 708) (by decide +kernel) rfl
theorem ml_L_100 : Cond.methodLink RL 100 yX8_keep ∈ gt := gm (i := 709) (by decide +kernel) rfl
theorem im_X8_keep : Cond.instanceMethod yX8_keep ∈ gt := gm (i := 710) (by decide +kernel) rfl
theorem se_X8_keep : Cond.selects RX8 yX8_keep yX8_keep ∈ gt := gm (i := 711) (by decide +kernel) rfl
theorem co_X8_keep : Cond.code yX8_keep cX8_keep 2 (some .int) ∈ gt := gm (i := 712) (by decide +kernel) rfl
theorem ml_X8_225 : Cond.methodLink RX8 225 yX5_copyFrom ∈ gt := gm (i := 713) (by decide +kernel) rfl
theorem ml_L_104 : Cond.methodLink RL 104 yX8_back ∈ gt := gm (i := 714) (by decide +kernel) rfl
theorem im_X8_back : Cond.instanceMethod yX8_back ∈ gt := gm (i := 715) (by decide +kernel) rfl
theorem se_X8_back : Cond.selects RX8 yX8_back yX8_back ∈ gt := gm (i := 716) (by decide +kernel) rfl
theorem co_X8_back : Cond.code yX8_back cX8_back 2 (some .int) ∈ gt := gm (i := 717) (by decide +kernel) rfl
theorem ml_L_108 : Cond.methodLink RL 108 yX8_count ∈ gt := gm (i := 718) (by decide +kernel) rfl
theorem im_X8_count : Cond.instanceMethod yX8_count ∈ gt := gm (i := 719) (by decide +kernel) rfl
theorem se_X8_count : Cond.selects RX8 yX8_count yX8_count ∈ gt := gm (i := 720) (by decide +kernel) rfl
theorem co_X8_count : Cond.code yX8_count cX8_count 2 (some .int) ∈ gt := gm (i := 721) (by decide +kernel) rfl
theorem ml_X8_228 : Cond.methodLink RX8 228 yX0_bitsOfFields ∈ gt := gm (i := 722) (by decide +kernel) rfl
theorem im_X0_bitsOfFields : Cond.instanceMethod yX0_bitsOfFields ∈ gt := gm (i := 723) (by decide +kernel) rfl
theorem se_X0_bitsOfFields : Cond.selects RX0 yX0_bitsOfFields yX0_bitsOfFields ∈ gt := gm (i := 724) (by decide +kernel) rfl
theorem co_X0_bitsOfFields : Cond.code yX0_bitsOfFields cX0_bitsOfFields 3 (some .int) ∈ gt := gm (i := 725) (by decide +kernel) rfl
theorem ml_X0_66 : Cond.methodLink RX0 66 yJ6_bitCount_0f7a4 ∈ gt := gm (i := 726) (by decide +kernel) rfl
theorem st_J6_bitCount_0f7a4 : Cond.static yJ6_bitCount_0f7a4 ∈ gt := gm (i := 727) (by decide +kernel) rfl
theorem co_J6_bitCount_0f7a4 : Cond.code yJ6_bitCount_0f7a4 cJ6_bitCount_0f7a4 1 (some .int) ∈ gt := gm (i := 728) (by decide +kernel) rfl
theorem ml_X8_231 : Cond.methodLink RX8 231 yX1_brokenFields ∈ gt := gm (i := 732) (by decide +kernel) rfl
theorem im_X1_brokenFields : Cond.instanceMethod yX1_brokenFields ∈ gt := gm (i := 733) (by decide +kernel) rfl
theorem se_X1_brokenFields : Cond.selects RX1 yX1_brokenFields yX1_brokenFields ∈ gt := gm (i := 734) (by decide +kernel) rfl
theorem co_X1_brokenFields : Cond.code yX1_brokenFields cX1_brokenFields 4 (some .int) ∈ gt := gm (i := 735) (by decide +kernel) rfl
theorem cl_L_10 : Cond.classLink RL 10 RX9 ∈ gt := gm (i := 736) (by decide +kernel) rfl
theorem ia_X9 : Cond.instantiable RX9 14 ∈ gt := gm (i := 737) (by decide +kernel) rfl
theorem ml_L_12 : Cond.methodLink RL 12 yX9_init ∈ gt := gm (i := 738) (by decide +kernel) rfl
theorem im_X9_init : Cond.instanceMethod yX9_init ∈ gt := gm (i := 739) (by decide +kernel) rfl
theorem co_X9_init : Cond.code yX9_init cX9_init 1 none ∈ gt := gm (i := 740) (by decide +kernel) rfl
theorem mo_X9 : Cond.methodLink RX9 1 objectInit ∈ gt := gm (i := 741) (by decide +kernel) rfl
theorem ml_X9_32 : Cond.methodLink RX9 32 yX9_begin ∈ gt := gm (i := 742) (by decide +kernel) rfl
theorem im_X9_begin : Cond.instanceMethod yX9_begin ∈ gt := gm (i := 744) (by decide +kernel) rfl
theorem co_X9_begin : Cond.code yX9_begin cX9_begin 1 none ∈ gt := gm (i := 745) (by decide +kernel) rfl
theorem ml_X9_50 : Cond.methodLink RX9 50 yX9_repair ∈ gt := gm (i := 746) (by decide +kernel) rfl
theorem im_X9_repair : Cond.instanceMethod yX9_repair ∈ gt := gm (i := 748) (by decide +kernel) rfl
theorem co_X9_repair : Cond.code yX9_repair cX9_repair 3 none ∈ gt := gm (i := 749) (by decide +kernel) rfl
theorem ml_X9_35 : Cond.methodLink RX9 35 yX9_fields ∈ gt := gm (i := 750) (by decide +kernel) rfl
theorem im_X9_fields : Cond.instanceMethod yX9_fields ∈ gt := gm (i := 752) (by decide +kernel) rfl
theorem co_X9_fields : Cond.code yX9_fields cX9_fields 1 (some .int) ∈ gt := gm (i := 753) (by decide +kernel) rfl
theorem ml_X9_54 : Cond.methodLink RX9 54 yX9_reset ∈ gt := gm (i := 754) (by decide +kernel) rfl
theorem im_X9_reset : Cond.instanceMethod yX9_reset ∈ gt := gm (i := 756) (by decide +kernel) rfl
theorem co_X9_reset : Cond.code yX9_reset cX9_reset 3 none ∈ gt := gm (i := 757) (by decide +kernel) rfl
theorem ml_X9_57 : Cond.methodLink RX9 57 yX9_emptyLog ∈ gt := gm (i := 758) (by decide +kernel) rfl
theorem im_X9_emptyLog : Cond.instanceMethod yX9_emptyLog ∈ gt := gm (i := 760) (by decide +kernel) rfl
theorem co_X9_emptyLog : Cond.code yX9_emptyLog cX9_emptyLog 1 none ∈ gt := gm (i := 761) (by decide +kernel) rfl
theorem fl_X9_7 : Cond.fieldLink RX9 7 "MirrorBytesModel" "told" "[I" ∈ gt := gm (i := 762) (by decide +kernel) rfl
theorem fl_X9_13 : Cond.fieldLink RX9 13 "MirrorBytesModel" "draft" "[I" ∈ gt := gm (i := 763) (by decide +kernel) rfl
theorem fl_X9_16 : Cond.fieldLink RX9 16 "MirrorBytesModel" "now" "[I" ∈ gt := gm (i := 764) (by decide +kernel) rfl
theorem fl_X9_19 : Cond.fieldLink RX9 19 "MirrorBytesModel" "past" "[I" ∈ gt := gm (i := 765) (by decide +kernel) rfl
theorem fl_X9_60 : Cond.fieldLink RX9 60 "MirrorBytesModel" "pasts" "I" ∈ gt := gm (i := 766) (by decide +kernel) rfl
theorem fl_X9_22 : Cond.fieldLink RX9 22 "MirrorBytesModel" "images" "[I" ∈ gt := gm (i := 767) (by decide +kernel) rfl
theorem fl_X9_25 : Cond.fieldLink RX9 25 "MirrorBytesModel" "isKept" "[Z" ∈ gt := gm (i := 768) (by decide +kernel) rfl
theorem fl_X9_29 : Cond.fieldLink RX9 29 "MirrorBytesModel" "text" "[I" ∈ gt := gm (i := 769) (by decide +kernel) rfl
theorem fl_X9_147 : Cond.fieldLink RX9 147 "MirrorBytesModel" "typed" "I" ∈ gt := gm (i := 770) (by decide +kernel) rfl
theorem fl_X9_150 : Cond.fieldLink RX9 150 "MirrorBytesModel" "at" "I" ∈ gt := gm (i := 771) (by decide +kernel) rfl
theorem fl_X9_156 : Cond.fieldLink RX9 156 "MirrorBytesModel" "tokenAt" "I" ∈ gt := gm (i := 772) (by decide +kernel) rfl
theorem fl_X9_162 : Cond.fieldLink RX9 162 "MirrorBytesModel" "token" "I" ∈ gt := gm (i := 773) (by decide +kernel) rfl
theorem fl_X9_159 : Cond.fieldLink RX9 159 "MirrorBytesModel" "value" "I" ∈ gt := gm (i := 774) (by decide +kernel) rfl
theorem fl_X9_169 : Cond.fieldLink RX9 169 "MirrorBytesModel" "fault" "I" ∈ gt := gm (i := 775) (by decide +kernel) rfl
theorem ml_L_30 : Cond.methodLink RL 30 yX9_resets ∈ gt := gm (i := 805) (by decide +kernel) rfl
theorem im_X9_resets : Cond.instanceMethod yX9_resets ∈ gt := gm (i := 806) (by decide +kernel) rfl
theorem se_X9_resets : Cond.selects RX9 yX9_resets yX9_resets ∈ gt := gm (i := 807) (by decide +kernel) rfl
theorem co_X9_resets : Cond.code yX9_resets cX9_resets 2 (some .int) ∈ gt := gm (i := 808) (by decide +kernel) rfl
theorem ml_X9_97 : Cond.methodLink RX9 97 yX9_note ∈ gt := gm (i := 809) (by decide +kernel) rfl
theorem im_X9_note : Cond.instanceMethod yX9_note ∈ gt := gm (i := 811) (by decide +kernel) rfl
theorem co_X9_note : Cond.code yX9_note cX9_note 2 none ∈ gt := gm (i := 812) (by decide +kernel) rfl
theorem ml_L_34 : Cond.methodLink RL 34 yX9_reads ∈ gt := gm (i := 813) (by decide +kernel) rfl
theorem im_X9_reads : Cond.instanceMethod yX9_reads ∈ gt := gm (i := 814) (by decide +kernel) rfl
theorem se_X9_reads : Cond.selects RX9 yX9_reads yX9_reads ∈ gt := gm (i := 815) (by decide +kernel) rfl
theorem co_X9_reads : Cond.code yX9_reads cX9_reads 6 (some .int) ∈ gt := gm (i := 816) (by decide +kernel) rfl
theorem ml_X9_39 : Cond.methodLink RX9 39 yX9_in ∈ gt := gm (i := 817) (by decide +kernel) rfl
theorem st_X9_in : Cond.static yX9_in ∈ gt := gm (i := 818) (by decide +kernel) rfl
theorem co_X9_in : Cond.code yX9_in cX9_in 3 (some .boolean) ∈ gt := gm (i := 819) (by decide +kernel) rfl
theorem ml_X9_64 : Cond.methodLink RX9 64 yX9_goesTo ∈ gt := gm (i := 820) (by decide +kernel) rfl
theorem im_X9_goesTo : Cond.instanceMethod yX9_goesTo ∈ gt := gm (i := 822) (by decide +kernel) rfl
theorem co_X9_goesTo : Cond.code yX9_goesTo cX9_goesTo 3 (some .int) ∈ gt := gm (i := 823) (by decide +kernel) rfl
theorem ml_X9_43 : Cond.methodLink RX9 43 yX9_registers ∈ gt := gm (i := 824) (by decide +kernel) rfl
theorem im_X9_registers : Cond.instanceMethod yX9_registers ∈ gt := gm (i := 826) (by decide +kernel) rfl
theorem co_X9_registers : Cond.code yX9_registers cX9_registers 1 (some .int) ∈ gt := gm (i := 827) (by decide +kernel) rfl
theorem ml_X9_74 : Cond.methodLink RX9 74 yX9_peekAt ∈ gt := gm (i := 828) (by decide +kernel) rfl
theorem im_X9_peekAt : Cond.instanceMethod yX9_peekAt ∈ gt := gm (i := 830) (by decide +kernel) rfl
theorem co_X9_peekAt : Cond.code yX9_peekAt cX9_peekAt 4 (some .int) ∈ gt := gm (i := 831) (by decide +kernel) rfl
theorem ml_X9_67 : Cond.methodLink RX9 67 yX9_registerOf ∈ gt := gm (i := 832) (by decide +kernel) rfl
theorem im_X9_registerOf : Cond.instanceMethod yX9_registerOf ∈ gt := gm (i := 834) (by decide +kernel) rfl
theorem co_X9_registerOf : Cond.code yX9_registerOf cX9_registerOf 2 (some .int) ∈ gt := gm (i := 835) (by decide +kernel) rfl
theorem ml_X9_70 : Cond.methodLink RX9 70 yX9_tellsOf ∈ gt := gm (i := 836) (by decide +kernel) rfl
theorem im_X9_tellsOf : Cond.instanceMethod yX9_tellsOf ∈ gt := gm (i := 838) (by decide +kernel) rfl
theorem co_X9_tellsOf : Cond.code yX9_tellsOf cX9_tellsOf 5 (some .int) ∈ gt := gm (i := 839) (by decide +kernel) rfl
theorem ml_X9_100 : Cond.methodLink RX9 100 yX9_readOf ∈ gt := gm (i := 840) (by decide +kernel) rfl
theorem im_X9_readOf : Cond.instanceMethod yX9_readOf ∈ gt := gm (i := 842) (by decide +kernel) rfl
theorem co_X9_readOf : Cond.code yX9_readOf cX9_readOf 5 (some .int) ∈ gt := gm (i := 843) (by decide +kernel) rfl
theorem ml_X9_77 : Cond.methodLink RX9 77 yX9_clearRead ∈ gt := gm (i := 844) (by decide +kernel) rfl
theorem im_X9_clearRead : Cond.instanceMethod yX9_clearRead ∈ gt := gm (i := 846) (by decide +kernel) rfl
theorem co_X9_clearRead : Cond.code yX9_clearRead cX9_clearRead 4 none ∈ gt := gm (i := 847) (by decide +kernel) rfl
theorem ml_X9_46 : Cond.methodLink RX9 46 yX9_most ∈ gt := gm (i := 848) (by decide +kernel) rfl
theorem im_X9_most : Cond.instanceMethod yX9_most ∈ gt := gm (i := 850) (by decide +kernel) rfl
theorem co_X9_most : Cond.code yX9_most cX9_most 2 (some .int) ∈ gt := gm (i := 851) (by decide +kernel) rfl
theorem ml_X9_103 : Cond.methodLink RX9 103 yX9_logs ∈ gt := gm (i := 852) (by decide +kernel) rfl
theorem im_X9_logs : Cond.instanceMethod yX9_logs ∈ gt := gm (i := 854) (by decide +kernel) rfl
theorem co_X9_logs : Cond.code yX9_logs cX9_logs 5 none ∈ gt := gm (i := 855) (by decide +kernel) rfl
theorem ml_L_39 : Cond.methodLink RL 39 yX9_writes ∈ gt := gm (i := 856) (by decide +kernel) rfl
theorem im_X9_writes : Cond.instanceMethod yX9_writes ∈ gt := gm (i := 857) (by decide +kernel) rfl
theorem se_X9_writes : Cond.selects RX9 yX9_writes yX9_writes ∈ gt := gm (i := 858) (by decide +kernel) rfl
theorem co_X9_writes : Cond.code yX9_writes cX9_writes 3 (some .int) ∈ gt := gm (i := 859) (by decide +kernel) rfl
theorem ml_X9_106 : Cond.methodLink RX9 106 yX9_copyMachine ∈ gt := gm (i := 860) (by decide +kernel) rfl
theorem im_X9_copyMachine : Cond.instanceMethod yX9_copyMachine ∈ gt := gm (i := 862) (by decide +kernel) rfl
theorem co_X9_copyMachine : Cond.code yX9_copyMachine cX9_copyMachine 4 none ∈ gt := gm (i := 863) (by decide +kernel) rfl
theorem ml_X9_109 : Cond.methodLink RX9 109 yX9_writeTo ∈ gt := gm (i := 864) (by decide +kernel) rfl
theorem im_X9_writeTo : Cond.instanceMethod yX9_writeTo ∈ gt := gm (i := 866) (by decide +kernel) rfl
theorem co_X9_writeTo : Cond.code yX9_writeTo cX9_writeTo 6 none ∈ gt := gm (i := 867) (by decide +kernel) rfl
theorem ml_X9_85 : Cond.methodLink RX9 85 yX9_isLocked ∈ gt := gm (i := 868) (by decide +kernel) rfl
theorem im_X9_isLocked : Cond.instanceMethod yX9_isLocked ∈ gt := gm (i := 870) (by decide +kernel) rfl
theorem co_X9_isLocked : Cond.code yX9_isLocked cX9_isLocked 3 (some .boolean) ∈ gt := gm (i := 871) (by decide +kernel) rfl
theorem ml_X9_89 : Cond.methodLink RX9 89 yX9_letIn ∈ gt := gm (i := 872) (by decide +kernel) rfl
theorem im_X9_letIn : Cond.instanceMethod yX9_letIn ∈ gt := gm (i := 874) (by decide +kernel) rfl
theorem co_X9_letIn : Cond.code yX9_letIn cX9_letIn 9 none ∈ gt := gm (i := 875) (by decide +kernel) rfl
theorem ml_X9_81 : Cond.methodLink RX9 81 yX9_by ∈ gt := gm (i := 876) (by decide +kernel) rfl
theorem st_X9_by : Cond.static yX9_by ∈ gt := gm (i := 877) (by decide +kernel) rfl
theorem co_X9_by : Cond.code yX9_by cX9_by 4 (some .int) ∈ gt := gm (i := 878) (by decide +kernel) rfl
theorem ml_X9_93 : Cond.methodLink RX9 93 yX9_openGates ∈ gt := gm (i := 879) (by decide +kernel) rfl
theorem im_X9_openGates : Cond.instanceMethod yX9_openGates ∈ gt := gm (i := 881) (by decide +kernel) rfl
theorem co_X9_openGates : Cond.code yX9_openGates cX9_openGates 7 none ∈ gt := gm (i := 882) (by decide +kernel) rfl
theorem ml_X9_112 : Cond.methodLink RX9 112 yX9_otherFields ∈ gt := gm (i := 883) (by decide +kernel) rfl
theorem im_X9_otherFields : Cond.instanceMethod yX9_otherFields ∈ gt := gm (i := 885) (by decide +kernel) rfl
theorem co_X9_otherFields : Cond.code yX9_otherFields cX9_otherFields 5 (some .int) ∈ gt := gm (i := 886) (by decide +kernel) rfl
theorem ml_L_43 : Cond.methodLink RL 43 yX9_sets ∈ gt := gm (i := 887) (by decide +kernel) rfl
theorem im_X9_sets : Cond.instanceMethod yX9_sets ∈ gt := gm (i := 888) (by decide +kernel) rfl
theorem se_X9_sets : Cond.selects RX9 yX9_sets yX9_sets ∈ gt := gm (i := 889) (by decide +kernel) rfl
theorem co_X9_sets : Cond.code yX9_sets cX9_sets 4 (some .int) ∈ gt := gm (i := 890) (by decide +kernel) rfl
theorem ml_X9_115 : Cond.methodLink RX9 115 yX9_isField ∈ gt := gm (i := 891) (by decide +kernel) rfl
theorem im_X9_isField : Cond.instanceMethod yX9_isField ∈ gt := gm (i := 893) (by decide +kernel) rfl
theorem co_X9_isField : Cond.code yX9_isField cX9_isField 2 (some .boolean) ∈ gt := gm (i := 894) (by decide +kernel) rfl
theorem ml_L_47 : Cond.methodLink RL 47 yX9_breaks ∈ gt := gm (i := 895) (by decide +kernel) rfl
theorem im_X9_breaks : Cond.instanceMethod yX9_breaks ∈ gt := gm (i := 896) (by decide +kernel) rfl
theorem se_X9_breaks : Cond.selects RX9 yX9_breaks yX9_breaks ∈ gt := gm (i := 897) (by decide +kernel) rfl
theorem co_X9_breaks : Cond.code yX9_breaks cX9_breaks 4 (some .int) ∈ gt := gm (i := 898) (by decide +kernel) rfl
theorem ml_L_51 : Cond.methodLink RL 51 yX9_undo ∈ gt := gm (i := 899) (by decide +kernel) rfl
theorem im_X9_undo : Cond.instanceMethod yX9_undo ∈ gt := gm (i := 900) (by decide +kernel) rfl
theorem se_X9_undo : Cond.selects RX9 yX9_undo yX9_undo ∈ gt := gm (i := 901) (by decide +kernel) rfl
theorem co_X9_undo : Cond.code yX9_undo cX9_undo 2 (some .int) ∈ gt := gm (i := 902) (by decide +kernel) rfl
theorem ml_L_55 : Cond.methodLink RL 55 yX9_field ∈ gt := gm (i := 903) (by decide +kernel) rfl
theorem im_X9_field : Cond.instanceMethod yX9_field ∈ gt := gm (i := 904) (by decide +kernel) rfl
theorem se_X9_field : Cond.selects RX9 yX9_field yX9_field ∈ gt := gm (i := 905) (by decide +kernel) rfl
theorem co_X9_field : Cond.code yX9_field cX9_field 3 (some .int) ∈ gt := gm (i := 906) (by decide +kernel) rfl
theorem ml_L_59 : Cond.methodLink RL 59 yX9_register ∈ gt := gm (i := 907) (by decide +kernel) rfl
theorem im_X9_register : Cond.instanceMethod yX9_register ∈ gt := gm (i := 908) (by decide +kernel) rfl
theorem se_X9_register : Cond.selects RX9 yX9_register yX9_register ∈ gt := gm (i := 909) (by decide +kernel) rfl
theorem co_X9_register : Cond.code yX9_register cX9_register 3 (some .int) ∈ gt := gm (i := 910) (by decide +kernel) rfl
theorem ml_X9_119 : Cond.methodLink RX9 119 yX9_isRegister ∈ gt := gm (i := 911) (by decide +kernel) rfl
theorem im_X9_isRegister : Cond.instanceMethod yX9_isRegister ∈ gt := gm (i := 913) (by decide +kernel) rfl
theorem co_X9_isRegister : Cond.code yX9_isRegister cX9_isRegister 2 (some .boolean) ∈ gt := gm (i := 914) (by decide +kernel) rfl
theorem ml_L_63 : Cond.methodLink RL 63 yX9_alias ∈ gt := gm (i := 915) (by decide +kernel) rfl
theorem im_X9_alias : Cond.instanceMethod yX9_alias ∈ gt := gm (i := 916) (by decide +kernel) rfl
theorem se_X9_alias : Cond.selects RX9 yX9_alias yX9_alias ∈ gt := gm (i := 917) (by decide +kernel) rfl
theorem co_X9_alias : Cond.code yX9_alias cX9_alias 3 (some .int) ∈ gt := gm (i := 918) (by decide +kernel) rfl
theorem ml_L_67 : Cond.methodLink RL 67 yX9_at ∈ gt := gm (i := 919) (by decide +kernel) rfl
theorem im_X9_at : Cond.instanceMethod yX9_at ∈ gt := gm (i := 920) (by decide +kernel) rfl
theorem se_X9_at : Cond.selects RX9 yX9_at yX9_at ∈ gt := gm (i := 921) (by decide +kernel) rfl
theorem co_X9_at : Cond.code yX9_at cX9_at 2 (some .int) ∈ gt := gm (i := 922) (by decide +kernel) rfl
theorem ml_L_71 : Cond.methodLink RL 71 yX9_peek ∈ gt := gm (i := 923) (by decide +kernel) rfl
theorem im_X9_peek : Cond.instanceMethod yX9_peek ∈ gt := gm (i := 924) (by decide +kernel) rfl
theorem se_X9_peek : Cond.selects RX9 yX9_peek yX9_peek ∈ gt := gm (i := 925) (by decide +kernel) rfl
theorem co_X9_peek : Cond.code yX9_peek cX9_peek 3 (some .int) ∈ gt := gm (i := 926) (by decide +kernel) rfl
theorem ml_L_75 : Cond.methodLink RL 75 yX9_differed ∈ gt := gm (i := 927) (by decide +kernel) rfl
theorem im_X9_differed : Cond.instanceMethod yX9_differed ∈ gt := gm (i := 928) (by decide +kernel) rfl
theorem se_X9_differed : Cond.selects RX9 yX9_differed yX9_differed ∈ gt := gm (i := 929) (by decide +kernel) rfl
theorem co_X9_differed : Cond.code yX9_differed cX9_differed 2 (some .int) ∈ gt := gm (i := 930) (by decide +kernel) rfl
theorem ml_L_79 : Cond.methodLink RL 79 yX9_log ∈ gt := gm (i := 931) (by decide +kernel) rfl
theorem im_X9_log : Cond.instanceMethod yX9_log ∈ gt := gm (i := 932) (by decide +kernel) rfl
theorem se_X9_log : Cond.selects RX9 yX9_log yX9_log ∈ gt := gm (i := 933) (by decide +kernel) rfl
theorem co_X9_log : Cond.code yX9_log cX9_log 3 (some .int) ∈ gt := gm (i := 934) (by decide +kernel) rfl
theorem ml_L_83 : Cond.methodLink RL 83 yX9_suspects ∈ gt := gm (i := 935) (by decide +kernel) rfl
theorem im_X9_suspects : Cond.instanceMethod yX9_suspects ∈ gt := gm (i := 936) (by decide +kernel) rfl
theorem se_X9_suspects : Cond.selects RX9 yX9_suspects yX9_suspects ∈ gt := gm (i := 937) (by decide +kernel) rfl
theorem co_X9_suspects : Cond.code yX9_suspects cX9_suspects 5 (some .int) ∈ gt := gm (i := 938) (by decide +kernel) rfl
theorem ml_X9_122 : Cond.methodLink RX9 122 yX9_wouldTell ∈ gt := gm (i := 939) (by decide +kernel) rfl
theorem im_X9_wouldTell : Cond.instanceMethod yX9_wouldTell ∈ gt := gm (i := 941) (by decide +kernel) rfl
theorem co_X9_wouldTell : Cond.code yX9_wouldTell cX9_wouldTell 6 (some .boolean) ∈ gt := gm (i := 942) (by decide +kernel) rfl
theorem ml_L_87 : Cond.methodLink RL 87 yX9_clashes ∈ gt := gm (i := 943) (by decide +kernel) rfl
theorem im_X9_clashes : Cond.instanceMethod yX9_clashes ∈ gt := gm (i := 944) (by decide +kernel) rfl
theorem se_X9_clashes : Cond.selects RX9 yX9_clashes yX9_clashes ∈ gt := gm (i := 945) (by decide +kernel) rfl
theorem co_X9_clashes : Cond.code yX9_clashes cX9_clashes 7 (some .int) ∈ gt := gm (i := 946) (by decide +kernel) rfl
theorem ml_L_91 : Cond.methodLink RL 91 yX9_touched ∈ gt := gm (i := 947) (by decide +kernel) rfl
theorem im_X9_touched : Cond.instanceMethod yX9_touched ∈ gt := gm (i := 948) (by decide +kernel) rfl
theorem se_X9_touched : Cond.selects RX9 yX9_touched yX9_touched ∈ gt := gm (i := 949) (by decide +kernel) rfl
theorem co_X9_touched : Cond.code yX9_touched cX9_touched 3 (some .int) ∈ gt := gm (i := 950) (by decide +kernel) rfl
theorem ml_X9_125 : Cond.methodLink RX9 125 yX9_tryWrite ∈ gt := gm (i := 951) (by decide +kernel) rfl
theorem im_X9_tryWrite : Cond.instanceMethod yX9_tryWrite ∈ gt := gm (i := 953) (by decide +kernel) rfl
theorem co_X9_tryWrite : Cond.code yX9_tryWrite cX9_tryWrite 3 none ∈ gt := gm (i := 954) (by decide +kernel) rfl
theorem ml_L_95 : Cond.methodLink RL 95 yX9_way ∈ gt := gm (i := 955) (by decide +kernel) rfl
theorem im_X9_way : Cond.instanceMethod yX9_way ∈ gt := gm (i := 956) (by decide +kernel) rfl
theorem se_X9_way : Cond.selects RX9 yX9_way yX9_way ∈ gt := gm (i := 957) (by decide +kernel) rfl
theorem co_X9_way : Cond.code yX9_way cX9_way 4 (some .int) ∈ gt := gm (i := 958) (by decide +kernel) rfl
theorem ml_L_99 : Cond.methodLink RL 99 yX9_walk ∈ gt := gm (i := 959) (by decide +kernel) rfl
theorem im_X9_walk : Cond.instanceMethod yX9_walk ∈ gt := gm (i := 960) (by decide +kernel) rfl
theorem se_X9_walk : Cond.selects RX9 yX9_walk yX9_walk ∈ gt := gm (i := 961) (by decide +kernel) rfl
theorem co_X9_walk : Cond.code yX9_walk cX9_walk 8 (some .int) ∈ gt := gm (i := 962) (by decide +kernel) rfl
theorem ml_X9_134 : Cond.methodLink RX9 134 yX9_isWalked ∈ gt := gm (i := 963) (by decide +kernel) rfl
theorem im_X9_isWalked : Cond.instanceMethod yX9_isWalked ∈ gt := gm (i := 965) (by decide +kernel) rfl
theorem co_X9_isWalked : Cond.code yX9_isWalked cX9_isWalked 5 (some .boolean) ∈ gt := gm (i := 966) (by decide +kernel) rfl
theorem ml_X9_128 : Cond.methodLink RX9 128 yX9_isLockOrGate ∈ gt := gm (i := 967) (by decide +kernel) rfl
theorem im_X9_isLockOrGate : Cond.instanceMethod yX9_isLockOrGate ∈ gt := gm (i := 969) (by decide +kernel) rfl
theorem co_X9_isLockOrGate : Cond.code yX9_isLockOrGate cX9_isLockOrGate 5 (some .boolean) ∈ gt := gm (i := 970) (by decide +kernel) rfl
theorem ml_X9_137 : Cond.methodLink RX9 137 yX9_bitsBy ∈ gt := gm (i := 971) (by decide +kernel) rfl
theorem im_X9_bitsBy : Cond.instanceMethod yX9_bitsBy ∈ gt := gm (i := 973) (by decide +kernel) rfl
theorem co_X9_bitsBy : Cond.code yX9_bitsBy cX9_bitsBy 5 (some .int) ∈ gt := gm (i := 974) (by decide +kernel) rfl
theorem ml_X9_131 : Cond.methodLink RX9 131 yX9_bitsOf ∈ gt := gm (i := 975) (by decide +kernel) rfl
theorem im_X9_bitsOf : Cond.instanceMethod yX9_bitsOf ∈ gt := gm (i := 977) (by decide +kernel) rfl
theorem co_X9_bitsOf : Cond.code yX9_bitsOf cX9_bitsOf 2 (some .int) ∈ gt := gm (i := 978) (by decide +kernel) rfl
theorem ml_L_103 : Cond.methodLink RL 103 yX9_keep ∈ gt := gm (i := 979) (by decide +kernel) rfl
theorem im_X9_keep : Cond.instanceMethod yX9_keep ∈ gt := gm (i := 980) (by decide +kernel) rfl
theorem se_X9_keep : Cond.selects RX9 yX9_keep yX9_keep ∈ gt := gm (i := 981) (by decide +kernel) rfl
theorem co_X9_keep : Cond.code yX9_keep cX9_keep 3 (some .int) ∈ gt := gm (i := 982) (by decide +kernel) rfl
theorem ml_L_107 : Cond.methodLink RL 107 yX9_back ∈ gt := gm (i := 983) (by decide +kernel) rfl
theorem im_X9_back : Cond.instanceMethod yX9_back ∈ gt := gm (i := 984) (by decide +kernel) rfl
theorem se_X9_back : Cond.selects RX9 yX9_back yX9_back ∈ gt := gm (i := 985) (by decide +kernel) rfl
theorem co_X9_back : Cond.code yX9_back cX9_back 3 (some .int) ∈ gt := gm (i := 986) (by decide +kernel) rfl
theorem ml_L_111 : Cond.methodLink RL 111 yX9_count ∈ gt := gm (i := 987) (by decide +kernel) rfl
theorem im_X9_count : Cond.instanceMethod yX9_count ∈ gt := gm (i := 988) (by decide +kernel) rfl
theorem se_X9_count : Cond.selects RX9 yX9_count yX9_count ∈ gt := gm (i := 989) (by decide +kernel) rfl
theorem co_X9_count : Cond.code yX9_count cX9_count 2 (some .int) ∈ gt := gm (i := 990) (by decide +kernel) rfl
theorem ml_X9_141 : Cond.methodLink RX9 141 yX9_fieldBits ∈ gt := gm (i := 991) (by decide +kernel) rfl
theorem im_X9_fieldBits : Cond.instanceMethod yX9_fieldBits ∈ gt := gm (i := 993) (by decide +kernel) rfl
theorem co_X9_fieldBits : Cond.code yX9_fieldBits cX9_fieldBits 3 (some .int) ∈ gt := gm (i := 994) (by decide +kernel) rfl
theorem ml_X9_144 : Cond.methodLink RX9 144 yX9_brokenMany ∈ gt := gm (i := 995) (by decide +kernel) rfl
theorem im_X9_brokenMany : Cond.instanceMethod yX9_brokenMany ∈ gt := gm (i := 997) (by decide +kernel) rfl
theorem co_X9_brokenMany : Cond.code yX9_brokenMany cX9_brokenMany 3 (some .int) ∈ gt := gm (i := 998) (by decide +kernel) rfl
theorem ml_L_17 : Cond.methodLink RL 17 yX9_type ∈ gt := gm (i := 999) (by decide +kernel) rfl
theorem im_X9_type : Cond.instanceMethod yX9_type ∈ gt := gm (i := 1000) (by decide +kernel) rfl
theorem se_X9_type : Cond.selects RX9 yX9_type yX9_type ∈ gt := gm (i := 1001) (by decide +kernel) rfl
theorem co_X9_type : Cond.code yX9_type cX9_type 2 (some .int) ∈ gt := gm (i := 1002) (by decide +kernel) rfl
theorem ml_L_22 : Cond.methodLink RL 22 yX9_clear ∈ gt := gm (i := 1003) (by decide +kernel) rfl
theorem im_X9_clear : Cond.instanceMethod yX9_clear ∈ gt := gm (i := 1004) (by decide +kernel) rfl
theorem se_X9_clear : Cond.selects RX9 yX9_clear yX9_clear ∈ gt := gm (i := 1005) (by decide +kernel) rfl
theorem co_X9_clear : Cond.code yX9_clear cX9_clear 2 (some .int) ∈ gt := gm (i := 1006) (by decide +kernel) rfl
theorem ml_L_26 : Cond.methodLink RL 26 yX9_tells ∈ gt := gm (i := 1007) (by decide +kernel) rfl
theorem im_X9_tells : Cond.instanceMethod yX9_tells ∈ gt := gm (i := 1008) (by decide +kernel) rfl
theorem se_X9_tells : Cond.selects RX9 yX9_tells yX9_tells ∈ gt := gm (i := 1009) (by decide +kernel) rfl
theorem co_X9_tells : Cond.code yX9_tells cX9_tells 3 (some .int) ∈ gt := gm (i := 1010) (by decide +kernel) rfl
theorem ml_X9_172 : Cond.methodLink RX9 172 yX9_next ∈ gt := gm (i := 1011) (by decide +kernel) rfl
theorem im_X9_next : Cond.instanceMethod yX9_next ∈ gt := gm (i := 1013) (by decide +kernel) rfl
theorem co_X9_next : Cond.code yX9_next cX9_next 2 none ∈ gt := gm (i := 1014) (by decide +kernel) rfl
theorem ml_X9_153 : Cond.methodLink RX9 153 yX9_isHere ∈ gt := gm (i := 1015) (by decide +kernel) rfl
theorem im_X9_isHere : Cond.instanceMethod yX9_isHere ∈ gt := gm (i := 1017) (by decide +kernel) rfl
theorem co_X9_isHere : Cond.code yX9_isHere cX9_isHere 3 (some .boolean) ∈ gt := gm (i := 1018) (by decide +kernel) rfl
theorem ml_X9_166 : Cond.methodLink RX9 166 yX9_kindOf ∈ gt := gm (i := 1020) (by decide +kernel) rfl
theorem st_X9_kindOf : Cond.static yX9_kindOf ∈ gt := gm (i := 1021) (by decide +kernel) rfl
theorem co_X9_kindOf : Cond.code yX9_kindOf cX9_kindOf 1 (some .int) ∈ gt := gm (i := 1022) (by decide +kernel) rfl
theorem ml_X9_197 : Cond.methodLink RX9 197 yX9_readItem ∈ gt := gm (i := 1023) (by decide +kernel) rfl
theorem im_X9_readItem : Cond.instanceMethod yX9_readItem ∈ gt := gm (i := 1025) (by decide +kernel) rfl
theorem co_X9_readItem : Cond.code yX9_readItem cX9_readItem 3 none ∈ gt := gm (i := 1026) (by decide +kernel) rfl
theorem ml_X9_175 : Cond.methodLink RX9 175 yX9_must ∈ gt := gm (i := 1027) (by decide +kernel) rfl
theorem im_X9_must : Cond.instanceMethod yX9_must ∈ gt := gm (i := 1029) (by decide +kernel) rfl
theorem co_X9_must : Cond.code yX9_must cX9_must 3 (some .int) ∈ gt := gm (i := 1030) (by decide +kernel) rfl
theorem ml_X9_185 : Cond.methodLink RX9 185 yX9_readRegister ∈ gt := gm (i := 1031) (by decide +kernel) rfl
theorem im_X9_readRegister : Cond.instanceMethod yX9_readRegister ∈ gt := gm (i := 1033) (by decide +kernel) rfl
theorem co_X9_readRegister : Cond.code yX9_readRegister cX9_readRegister 3 none ∈ gt := gm (i := 1034) (by decide +kernel) rfl
theorem ml_X9_179 : Cond.methodLink RX9 179 yX9_number ∈ gt := gm (i := 1035) (by decide +kernel) rfl
theorem im_X9_number : Cond.instanceMethod yX9_number ∈ gt := gm (i := 1037) (by decide +kernel) rfl
theorem co_X9_number : Cond.code yX9_number cX9_number 3 (some .int) ∈ gt := gm (i := 1038) (by decide +kernel) rfl
theorem ml_X9_188 : Cond.methodLink RX9 188 yX9_readField ∈ gt := gm (i := 1039) (by decide +kernel) rfl
theorem im_X9_readField : Cond.instanceMethod yX9_readField ∈ gt := gm (i := 1041) (by decide +kernel) rfl
theorem co_X9_readField : Cond.code yX9_readField cX9_readField 8 none ∈ gt := gm (i := 1042) (by decide +kernel) rfl
theorem ml_X9_182 : Cond.methodLink RX9 182 yX9_usedBits ∈ gt := gm (i := 1043) (by decide +kernel) rfl
theorem im_X9_usedBits : Cond.instanceMethod yX9_usedBits ∈ gt := gm (i := 1045) (by decide +kernel) rfl
theorem co_X9_usedBits : Cond.code yX9_usedBits cX9_usedBits 5 (some .int) ∈ gt := gm (i := 1046) (by decide +kernel) rfl
theorem ml_X9_191 : Cond.methodLink RX9 191 yX9_readAlias ∈ gt := gm (i := 1047) (by decide +kernel) rfl
theorem im_X9_readAlias : Cond.instanceMethod yX9_readAlias ∈ gt := gm (i := 1049) (by decide +kernel) rfl
theorem co_X9_readAlias : Cond.code yX9_readAlias cX9_readAlias 5 none ∈ gt := gm (i := 1050) (by decide +kernel) rfl
theorem ml_X9_194 : Cond.methodLink RX9 194 yX9_readLink ∈ gt := gm (i := 1051) (by decide +kernel) rfl
theorem im_X9_readLink : Cond.instanceMethod yX9_readLink ∈ gt := gm (i := 1053) (by decide +kernel) rfl
theorem co_X9_readLink : Cond.code yX9_readLink cX9_readLink 4 none ∈ gt := gm (i := 1054) (by decide +kernel) rfl
theorem ma_X1_25 : Cond.methodLink RX1 25 arraycopyName ∈ gt := gm (i := 446) (by decide +kernel) rfl
theorem wm_objI : Cond.instanceMethod objectInit ∈ gt := gm (i := 66) (by decide +kernel) rfl
theorem wm_objC : Cond.code objectInit ⟨#[0xb1]⟩ 1 none ∈ gt := gm (i := 67) (by decide +kernel) rfl
theorem wm_arrI : Cond.arrayClass .int ∈ gt := gm (i := 84) (by decide +kernel) rfl
theorem wm_arrZ : Cond.arrayClass .boolean ∈ gt := gm (i := 239) (by decide +kernel) rfl
theorem wm_kl : Cond.fieldLinkNest RX7 41 "MirrorBytes" "KIND_LETTERS" "[C" "MirrorBytes" ∈ lw_tbl := List.mem_of_getElem? (i := 413) (by decide +kernel)
theorem wm_acS : Cond.static arraycopyName ∈ gt := gm (i := 447) (by decide +kernel) rfl
theorem wm_acN : Cond.native arraycopyName ∈ gt := gm (i := 448) (by decide +kernel) rfl
theorem wm_c265 : Cond.constant RJ6 265 1431655765 ∈ gt := gm (i := 729) (by decide +kernel) rfl
theorem wm_c266 : Cond.constant RJ6 266 858993459 ∈ gt := gm (i := 730) (by decide +kernel) rfl
theorem wm_c267 : Cond.constant RJ6 267 252645135 ∈ gt := gm (i := 731) (by decide +kernel) rfl
theorem wm_c165 : Cond.constant RX9 165 65535 ∈ gt := gm (i := 1019) (by decide +kernel) rfl

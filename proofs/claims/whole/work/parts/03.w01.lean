set_option maxRecDepth 20000 in
theorem tp_0 : Cond.selects RX1 yX1_spanHas yX1_spanHas ∈ WT := wt_0 (List.mem_of_getElem? (i := 0) rfl) rfl
set_option maxRecDepth 20000 in
theorem tp_1 : Cond.selects RX1 yX1_testIsSo yX1_testIsSo ∈ WT := wt_0 (List.mem_of_getElem? (i := 1) rfl) rfl
set_option maxRecDepth 20000 in
theorem tp_2 : Cond.selects RX3 yX3_isJump yX3_isJump ∈ WT := wt_0 (List.mem_of_getElem? (i := 2) rfl) rfl
set_option maxRecDepth 20000 in
theorem tp_3 : Cond.selects RX3 yX3_isBend yX3_isBend ∈ WT := wt_0 (List.mem_of_getElem? (i := 3) rfl) rfl
set_option maxRecDepth 20000 in
theorem tp_4 : Cond.selects RX2 yX2_nextRest yX2_nextRest ∈ WT := wt_0 (List.mem_of_getElem? (i := 4) rfl) rfl
set_option maxRecDepth 20000 in
theorem tp_5 : Cond.selects RX5 yX5_saysSame yX5_saysSame ∈ WT := wt_0 (List.mem_of_getElem? (i := 5) rfl) rfl
set_option maxRecDepth 20000 in
theorem tp_6 : Cond.selects RX1 yX1_saysSame yX1_saysSame ∈ WT := wt_0 (List.mem_of_getElem? (i := 6) rfl) rfl
set_option maxRecDepth 20000 in
theorem tp_7 : Cond.selects RX8 yX8_add yX8_add ∈ WT := wt_0 (List.mem_of_getElem? (i := 7) rfl) rfl
set_option maxRecDepth 20000 in
theorem tp_8 : Cond.selects RX4 yX4_readLaw yX4_readLaw ∈ WT := wt_0 (List.mem_of_getElem? (i := 8) rfl) rfl
set_option maxRecDepth 20000 in
theorem tp_9 : Cond.selects RX4 yX4_isWord yX4_isWord ∈ WT := wt_0 (List.mem_of_getElem? (i := 9) rfl) rfl
set_option maxRecDepth 20000 in
theorem tp_10 : Cond.selects RX4 yX4_readTest yX4_readTest ∈ WT := wt_0 (List.mem_of_getElem? (i := 10) rfl) rfl
set_option maxRecDepth 20000 in
theorem tp_11 : Cond.selects RX4 yX4_takeWord yX4_takeWord ∈ WT := wt_0 (List.mem_of_getElem? (i := 11) rfl) rfl
set_option maxRecDepth 20000 in
theorem tp_12 : Cond.selects RX4 yX4_readLowAndHigh yX4_readLowAndHigh ∈ WT := wt_0 (List.mem_of_getElem? (i := 12) rfl) rfl
set_option maxRecDepth 20000 in
theorem tp_13 : Cond.selects RX4 yX4_takeNumber yX4_takeNumber ∈ WT := wt_0 (List.mem_of_getElem? (i := 13) rfl) rfl
set_option maxRecDepth 20000 in
theorem tp_14 : Cond.selects RX4 yX4_takeTrait yX4_takeTrait ∈ WT := wt_0 (List.mem_of_getElem? (i := 14) rfl) rfl
set_option maxRecDepth 20000 in
theorem tp_15 : Cond.selects RX4 yX4_readGrant yX4_readGrant ∈ WT := wt_0 (List.mem_of_getElem? (i := 15) rfl) rfl
set_option maxRecDepth 20000 in
theorem tp_16 : Cond.selects RX4 yX4_readSpan yX4_readSpan ∈ WT := wt_0 (List.mem_of_getElem? (i := 16) rfl) rfl
set_option maxRecDepth 20000 in
theorem tp_17 : Cond.selects RX4 yX4_readException yX4_readException ∈ WT := wt_0 (List.mem_of_getElem? (i := 17) rfl) rfl
set_option maxRecDepth 20000 in
theorem tp_18 : Cond.selects RX11 yX11_comes yX11_comes ∈ WT := wt_0 (List.mem_of_getElem? (i := 18) rfl) rfl
set_option maxRecDepth 20000 in
theorem tp_19 : Cond.selects RX11 yX11_sets yX11_sets ∈ WT := wt_0 (List.mem_of_getElem? (i := 19) rfl) rfl
set_option maxRecDepth 20000 in
theorem tp_20 : Cond.selects RX11 yX11_isClause yX11_isClause ∈ WT := wt_0 (List.mem_of_getElem? (i := 20) rfl) rfl
set_option maxRecDepth 20000 in
theorem tp_21 : Cond.selects RX11 yX11_is yX11_is ∈ WT := wt_0 (List.mem_of_getElem? (i := 21) rfl) rfl
set_option maxRecDepth 20000 in
theorem tp_22 : Cond.selects RX11 yX11_isNow yX11_isNow ∈ WT := wt_0 (List.mem_of_getElem? (i := 22) rfl) rfl
set_option maxRecDepth 20000 in
theorem tp_23 : Cond.selects RX11 yX11_outcomeOf yX11_outcomeOf ∈ WT := wt_0 (List.mem_of_getElem? (i := 23) rfl) rfl
set_option maxRecDepth 20000 in
theorem tp_24 : Cond.selects RX11 yX11_looks yX11_looks ∈ WT := wt_0 (List.mem_of_getElem? (i := 24) rfl) rfl
set_option maxRecDepth 20000 in
theorem tp_25 : Cond.selects RX11 yX11_counts yX11_counts ∈ WT := wt_0 (List.mem_of_getElem? (i := 25) rfl) rfl
set_option maxRecDepth 20000 in
theorem tp_26 : Cond.selects RX11 yX11_halting yX11_halting ∈ WT := wt_0 (List.mem_of_getElem? (i := 26) rfl) rfl
set_option maxRecDepth 20000 in
theorem tp_27 : Cond.selects RX11 yX11_drawnOne yX11_drawnOne ∈ WT := wt_0 (List.mem_of_getElem? (i := 27) rfl) rfl
set_option maxRecDepth 20000 in
theorem tp_28 : Cond.selects RX11 yX11_draw yX11_draw ∈ WT := wt_0 (List.mem_of_getElem? (i := 28) rfl) rfl
set_option maxRecDepth 20000 in
theorem tp_29 : Cond.selects RX11 yX11_touchedBy yX11_touchedBy ∈ WT := wt_0 (List.mem_of_getElem? (i := 29) rfl) rfl
set_option maxRecDepth 20000 in
theorem tp_30 : Cond.selects RX11 yX11_filedAt yX11_filedAt ∈ WT := wt_0 (List.mem_of_getElem? (i := 30) rfl) rfl
set_option maxRecDepth 20000 in
theorem tp_31 : Cond.selects RX11 yX11_isText yX11_isText ∈ WT := wt_0 (List.mem_of_getElem? (i := 31) rfl) rfl
set_option maxRecDepth 20000 in
theorem tp_32 : Cond.selects RX11 yX11_goesOn yX11_goesOn ∈ WT := wt_0 (List.mem_of_getElem? (i := 32) rfl) rfl
set_option maxRecDepth 20000 in
theorem tp_33 : Cond.selects RX11 yX11_isAt yX11_isAt ∈ WT := wt_0 (List.mem_of_getElem? (i := 33) rfl) rfl
set_option maxRecDepth 20000 in
theorem tp_34 : Cond.selects RX11 yX11_isLaw yX11_isLaw ∈ WT := wt_0 (List.mem_of_getElem? (i := 34) rfl) rfl
set_option maxRecDepth 20000 in
theorem tp_35 : Cond.selects RX11 yX11_isWord yX11_isWord ∈ WT := wt_0 (List.mem_of_getElem? (i := 35) rfl) rfl
set_option maxRecDepth 20000 in
theorem tp_36 : Cond.selects RX11 yX11_isTest yX11_isTest ∈ WT := wt_0 (List.mem_of_getElem? (i := 36) rfl) rfl
set_option maxRecDepth 20000 in
theorem tp_37 : Cond.selects RX11 yX11_takes yX11_takes ∈ WT := wt_0 (List.mem_of_getElem? (i := 37) rfl) rfl
set_option maxRecDepth 20000 in
theorem tp_38 : Cond.selects RX11 yX11_number yX11_number ∈ WT := wt_0 (List.mem_of_getElem? (i := 38) rfl) rfl
set_option maxRecDepth 20000 in
theorem tp_39 : Cond.selects RX11 yX11_isTraitRead yX11_isTraitRead ∈ WT := wt_0 (List.mem_of_getElem? (i := 39) rfl) rfl
set_option maxRecDepth 20000 in
theorem tp_40 : Cond.selects RX11 yX11_isGrant yX11_isGrant ∈ WT := wt_0 (List.mem_of_getElem? (i := 40) rfl) rfl
set_option maxRecDepth 20000 in
theorem tp_41 : Cond.selects RX11 yX11_wrongAt yX11_wrongAt ∈ WT := wt_0 (List.mem_of_getElem? (i := 41) rfl) rfl
set_option maxRecDepth 20000 in
theorem tw_1 : Cond.initialized RL ∈ WT := wt_1 0 rfl rfl
set_option maxRecDepth 20000 in
theorem tw_2 : Cond.initialized RX10 ∈ WT := wt_1 1 rfl rfl
set_option maxRecDepth 20000 in
theorem tw_3 : Cond.initialized RX1 ∈ WT := wt_1 2 rfl rfl
set_option maxRecDepth 20000 in
theorem tw_4 : Cond.initialized RX5 ∈ WT := wt_1 3 rfl rfl
set_option maxRecDepth 20000 in
theorem tw_5 : Cond.initialized RX2 ∈ WT := wt_1 4 rfl rfl
set_option maxRecDepth 20000 in
theorem tw_6 : Cond.initialized RX7 ∈ WT := wt_1 5 rfl rfl
set_option maxRecDepth 20000 in
theorem tw_7 : Cond.initialized RX4 ∈ WT := wt_1 6 rfl rfl
set_option maxRecDepth 20000 in
theorem tw_8 : Cond.initialized RX8 ∈ WT := wt_1 7 rfl rfl
set_option maxRecDepth 20000 in
theorem tw_9 : Cond.initialized RX3 ∈ WT := wt_1 8 rfl rfl
set_option maxRecDepth 20000 in
theorem tw_10 : Cond.initialized RX6 ∈ WT := wt_1 9 rfl rfl
set_option maxRecDepth 20000 in
theorem tw_11 : Cond.initialized RX11 ∈ WT := wt_1 10 rfl rfl
set_option maxRecDepth 20000 in
theorem tw_12 : Cond.initialized RX9 ∈ WT := wt_1 11 rfl rfl
set_option maxRecDepth 20000 in
theorem tw_13 : Cond.initialized RJ9 ∈ WT := wt_1 12 rfl rfl
set_option maxRecDepth 20000 in
theorem tw_14 : Cond.initialized RX0 ∈ WT := wt_1 13 rfl rfl
set_option maxRecDepth 20000 in
theorem tw_15 : Cond.initialized RJxe99ae ∈ WT := wt_1 14 rfl rfl
set_option maxRecDepth 20000 in
theorem tw_16 : Cond.initialized RJxf58ca ∈ WT := wt_1 15 rfl rfl
set_option maxRecDepth 20000 in
theorem tw_17 : Cond.initialized RJ10 ∈ WT := wt_1 16 rfl rfl
set_option maxRecDepth 20000 in
theorem tw_18 : Cond.initialized RJ0 ∈ WT := wt_1 17 rfl rfl
set_option maxRecDepth 20000 in
theorem tw_19 : Cond.initialized RJ1 ∈ WT := wt_1 18 rfl rfl
set_option maxRecDepth 20000 in
theorem tw_20 : Cond.initialized RJ3 ∈ WT := wt_1 19 rfl rfl
set_option maxRecDepth 20000 in
theorem tw_21 : Cond.initialized RJ2 ∈ WT := wt_1 20 rfl rfl
set_option maxRecDepth 20000 in
theorem tw_22 : Cond.classLink RL 7 RX10 ∈ WT := wt_1 21 rfl rfl
set_option maxRecDepth 20000 in
theorem tw_23 : Cond.instantiable RX10 12 ∈ WT := wt_1 22 rfl rfl
set_option maxRecDepth 20000 in
theorem tw_24 : Cond.methodLink RL 9 yX10_init ∈ WT := wt_1 23 rfl rfl
set_option maxRecDepth 20000 in
theorem tw_25 : Cond.instanceMethod yX10_init ∈ WT := wt_1 24 rfl rfl
set_option maxRecDepth 20000 in
theorem tw_26 : Cond.code yX10_init cX10_init 1 (Option.none : Option Jvm.ClassFile.FieldType) ∈ WT := wt_1 25 rfl rfl
set_option maxRecDepth 20000 in
theorem tw_27 : Cond.methodLink RX10 1 ⟨"java/lang/Object", "<init>", "()V"⟩ ∈ WT := wt_1 26 rfl rfl
set_option maxRecDepth 20000 in
theorem tw_28 : Cond.instanceMethod ⟨"java/lang/Object", "<init>", "()V"⟩ ∈ WT := wt_1 27 rfl rfl
set_option maxRecDepth 20000 in
theorem tw_29 : Cond.code ({ cls := "java/lang/Object", name := "<init>", desc := "()V" } : Jvm.MethodName) object_method_1_code 1 (Option.none : Option Jvm.ClassFile.FieldType) ∈ WT := wt_1 28 rfl rfl
set_option maxRecDepth 20000 in
theorem tw_30 : Cond.classLink RX10 7 RX1 ∈ WT := wt_1 29 rfl rfl
set_option maxRecDepth 20000 in
theorem tw_31 : Cond.instantiable RX1 2 ∈ WT := wt_1 30 rfl rfl
set_option maxRecDepth 20000 in
theorem tw_33 : Cond.instanceMethod yX1_init ∈ WT := wt_1 32 rfl rfl
set_option maxRecDepth 20000 in
theorem tw_34 : Cond.code yX1_init cX1_init 1 (Option.none : Option Jvm.ClassFile.FieldType) ∈ WT := wt_1 33 rfl rfl
set_option maxRecDepth 20000 in
theorem tw_35 : Cond.methodLink RX1 3 ⟨"java/lang/Object", "<init>", "()V"⟩ ∈ WT := wt_1 34 rfl rfl
set_option maxRecDepth 20000 in
theorem tw_36 : Cond.fieldLink RX1 11 "StatuteBook$Clauses" "cells" "[I" ∈ WT := wt_1 35 rfl rfl
set_option maxRecDepth 20000 in
theorem tw_37 : Cond.fieldLink RX1 15 "StatuteBook$Clauses" "size" "I" ∈ WT := wt_1 36 rfl rfl
set_option maxRecDepth 20000 in
theorem tw_38 : Cond.laysFinal RX1 "StatuteBook$Clauses" "cells" "[I" ∈ WT := wt_1 37 rfl rfl
set_option maxRecDepth 20000 in
theorem tw_40 : Cond.lays RX1 "StatuteBook$Clauses" "size" "I" ∈ WT := wt_1 39 rfl rfl
set_option maxRecDepth 20000 in
theorem tw_43 : Cond.arrayClass Jvm.ClassFile.FieldType.int ∈ WT := wt_1 42 rfl rfl
set_option maxRecDepth 20000 in
theorem tw_44 : Cond.classLink RX10 19 RX5 ∈ WT := wt_1 43 rfl rfl
set_option maxRecDepth 20000 in
theorem tw_45 : Cond.instantiable RX5 3 ∈ WT := wt_1 44 rfl rfl
set_option maxRecDepth 20000 in
theorem tw_47 : Cond.instanceMethod yX5_init ∈ WT := wt_1 46 rfl rfl
set_option maxRecDepth 20000 in
theorem tw_48 : Cond.code yX5_init cX5_init 1 (Option.none : Option Jvm.ClassFile.FieldType) ∈ WT := wt_1 47 rfl rfl
set_option maxRecDepth 20000 in
theorem tw_49 : Cond.methodLink RX5 3 ⟨"java/lang/Object", "<init>", "()V"⟩ ∈ WT := wt_1 48 rfl rfl
set_option maxRecDepth 20000 in
theorem tw_50 : Cond.fieldLink RX5 11 "StatuteBook$Register" "cells" "[I" ∈ WT := wt_1 49 rfl rfl
set_option maxRecDepth 20000 in
theorem tw_51 : Cond.fieldLink RX5 17 "StatuteBook$Register" "times" "[I" ∈ WT := wt_1 50 rfl rfl
set_option maxRecDepth 20000 in
theorem tw_52 : Cond.fieldLink RX5 20 "StatuteBook$Register" "size" "I" ∈ WT := wt_1 51 rfl rfl
set_option maxRecDepth 20000 in
theorem tw_53 : Cond.laysFinal RX5 "StatuteBook$Register" "cells" "[I" ∈ WT := wt_1 52 rfl rfl
set_option maxRecDepth 20000 in
theorem tw_55 : Cond.laysFinal RX5 "StatuteBook$Register" "times" "[I" ∈ WT := wt_1 54 rfl rfl
set_option maxRecDepth 20000 in
theorem tw_57 : Cond.lays RX5 "StatuteBook$Register" "size" "I" ∈ WT := wt_1 56 rfl rfl
set_option maxRecDepth 20000 in
theorem tw_60 : Cond.classLink RX10 26 RX2 ∈ WT := wt_1 59 rfl rfl
set_option maxRecDepth 20000 in
theorem tw_61 : Cond.instantiable RX2 1 ∈ WT := wt_1 60 rfl rfl
set_option maxRecDepth 20000 in
theorem tw_63 : Cond.instanceMethod yX2_init ∈ WT := wt_1 62 rfl rfl
set_option maxRecDepth 20000 in
theorem tw_64 : Cond.code yX2_init cX2_init 1 (Option.none : Option Jvm.ClassFile.FieldType) ∈ WT := wt_1 63 rfl rfl
set_option maxRecDepth 20000 in
theorem tw_65 : Cond.methodLink RX2 1 ⟨"java/lang/Object", "<init>", "()V"⟩ ∈ WT := wt_1 64 rfl rfl
set_option maxRecDepth 20000 in
theorem tw_66 : Cond.fieldLink RX2 7 "StatuteBook$Draws" "z" "I" ∈ WT := wt_1 65 rfl rfl
set_option maxRecDepth 20000 in
theorem tw_67 : Cond.fieldLink RX10 208 "StatuteBook$Draws" "z" "I" ∈ WT := wt_1 66 rfl rfl
set_option maxRecDepth 20000 in
theorem tw_68 : Cond.lays RX2 "StatuteBook$Draws" "z" "I" ∈ WT := wt_1 67 rfl rfl
set_option maxRecDepth 20000 in
theorem tw_71 : Cond.classLink RX10 33 RX7 ∈ WT := wt_1 70 rfl rfl
set_option maxRecDepth 20000 in
theorem tw_72 : Cond.instantiable RX7 2 ∈ WT := wt_1 71 rfl rfl
set_option maxRecDepth 20000 in
theorem tw_74 : Cond.instanceMethod yX7_init ∈ WT := wt_1 73 rfl rfl
set_option maxRecDepth 20000 in
theorem tw_75 : Cond.code yX7_init cX7_init 1 (Option.none : Option Jvm.ClassFile.FieldType) ∈ WT := wt_1 74 rfl rfl
set_option maxRecDepth 20000 in
theorem tw_76 : Cond.methodLink RX7 3 ⟨"java/lang/Object", "<init>", "()V"⟩ ∈ WT := wt_1 75 rfl rfl
set_option maxRecDepth 20000 in
theorem tw_77 : Cond.fieldLink RX7 9 "StatuteBook$Tape" "bytes" "[I" ∈ WT := wt_1 76 rfl rfl
set_option maxRecDepth 20000 in
theorem tw_78 : Cond.fieldLink RX7 15 "StatuteBook$Tape" "size" "I" ∈ WT := wt_1 77 rfl rfl
set_option maxRecDepth 20000 in
theorem tw_79 : Cond.laysFinal RX7 "StatuteBook$Tape" "bytes" "[I" ∈ WT := wt_1 78 rfl rfl
set_option maxRecDepth 20000 in
theorem tw_81 : Cond.lays RX7 "StatuteBook$Tape" "size" "I" ∈ WT := wt_1 80 rfl rfl
set_option maxRecDepth 20000 in
theorem tw_84 : Cond.classLink RX10 40 RX4 ∈ WT := wt_1 83 rfl rfl
set_option maxRecDepth 20000 in
theorem tw_85 : Cond.instantiable RX4 4 ∈ WT := wt_1 84 rfl rfl
set_option maxRecDepth 20000 in
theorem tw_86 : Cond.methodLink RX10 42 yX4_init ∈ WT := wt_1 85 rfl rfl
set_option maxRecDepth 20000 in
theorem tw_87 : Cond.instanceMethod yX4_init ∈ WT := wt_1 86 rfl rfl
set_option maxRecDepth 20000 in
theorem tw_88 : Cond.code yX4_init cX4_init 2 (Option.none : Option Jvm.ClassFile.FieldType) ∈ WT := wt_1 87 rfl rfl
set_option maxRecDepth 20000 in
theorem tw_89 : Cond.methodLink RX4 3 ⟨"java/lang/Object", "<init>", "()V"⟩ ∈ WT := wt_1 88 rfl rfl
set_option maxRecDepth 20000 in
theorem tw_90 : Cond.classLink RX4 9 RX8 ∈ WT := wt_1 89 rfl rfl
set_option maxRecDepth 20000 in
theorem tw_91 : Cond.instantiable RX8 4 ∈ WT := wt_1 90 rfl rfl
set_option maxRecDepth 20000 in
theorem tw_93 : Cond.instanceMethod yX8_init ∈ WT := wt_1 92 rfl rfl
set_option maxRecDepth 20000 in
theorem tw_94 : Cond.code yX8_init cX8_init 1 (Option.none : Option Jvm.ClassFile.FieldType) ∈ WT := wt_1 93 rfl rfl
set_option maxRecDepth 20000 in
theorem tw_95 : Cond.methodLink RX8 3 ⟨"java/lang/Object", "<init>", "()V"⟩ ∈ WT := wt_1 94 rfl rfl
set_option maxRecDepth 20000 in
theorem tw_96 : Cond.fieldLink RX8 11 "StatuteBook$Tokens" "kinds" "[I" ∈ WT := wt_1 95 rfl rfl
set_option maxRecDepth 20000 in
theorem tw_97 : Cond.fieldLink RX8 15 "StatuteBook$Tokens" "starts" "[I" ∈ WT := wt_1 96 rfl rfl
set_option maxRecDepth 20000 in
theorem tw_98 : Cond.fieldLink RX8 18 "StatuteBook$Tokens" "values" "[I" ∈ WT := wt_1 97 rfl rfl
set_option maxRecDepth 20000 in
theorem tw_99 : Cond.fieldLink RX8 21 "StatuteBook$Tokens" "size" "I" ∈ WT := wt_1 98 rfl rfl
set_option maxRecDepth 20000 in
theorem tw_100 : Cond.laysFinal RX8 "StatuteBook$Tokens" "kinds" "[I" ∈ WT := wt_1 99 rfl rfl
set_option maxRecDepth 20000 in
theorem tw_102 : Cond.laysFinal RX8 "StatuteBook$Tokens" "starts" "[I" ∈ WT := wt_1 101 rfl rfl
set_option maxRecDepth 20000 in
theorem tw_104 : Cond.laysFinal RX8 "StatuteBook$Tokens" "values" "[I" ∈ WT := wt_1 103 rfl rfl
set_option maxRecDepth 20000 in
theorem tw_106 : Cond.lays RX8 "StatuteBook$Tokens" "size" "I" ∈ WT := wt_1 105 rfl rfl
set_option maxRecDepth 20000 in
theorem tw_109 : Cond.fieldLink RX4 25 "StatuteBook$Reader" "clauses" "LStatuteBook$Clauses;" ∈ WT := wt_1 108 rfl rfl
set_option maxRecDepth 20000 in
theorem tw_110 : Cond.fieldLink RX4 12 "StatuteBook$Reader" "tokens" "LStatuteBook$Tokens;" ∈ WT := wt_1 109 rfl rfl
set_option maxRecDepth 20000 in
theorem tw_111 : Cond.fieldLink RX4 18 "StatuteBook$Reader" "looked" "I" ∈ WT := wt_1 110 rfl rfl
set_option maxRecDepth 20000 in
theorem tw_112 : Cond.fieldLink RX4 22 "StatuteBook$Reader" "c" "I" ∈ WT := wt_1 111 rfl rfl
set_option maxRecDepth 20000 in
theorem tw_113 : Cond.laysFinal RX4 "StatuteBook$Reader" "clauses" "LStatuteBook$Clauses;" ∈ WT := wt_1 112 rfl rfl
set_option maxRecDepth 20000 in
theorem tw_115 : Cond.laysFinal RX4 "StatuteBook$Reader" "tokens" "LStatuteBook$Tokens;" ∈ WT := wt_1 114 rfl rfl
set_option maxRecDepth 20000 in
theorem tw_117 : Cond.lays RX4 "StatuteBook$Reader" "looked" "I" ∈ WT := wt_1 116 rfl rfl
set_option maxRecDepth 20000 in
theorem tw_119 : Cond.lays RX4 "StatuteBook$Reader" "c" "I" ∈ WT := wt_1 118 rfl rfl
set_option maxRecDepth 20000 in
theorem tw_122 : Cond.classLink RX10 49 RX3 ∈ WT := wt_1 121 rfl rfl
set_option maxRecDepth 20000 in
theorem tw_123 : Cond.instantiable RX3 2 ∈ WT := wt_1 122 rfl rfl
set_option maxRecDepth 20000 in
theorem tw_125 : Cond.instanceMethod yX3_init ∈ WT := wt_1 124 rfl rfl
set_option maxRecDepth 20000 in
theorem tw_126 : Cond.code yX3_init cX3_init 1 (Option.none : Option Jvm.ClassFile.FieldType) ∈ WT := wt_1 125 rfl rfl
set_option maxRecDepth 20000 in
theorem tw_127 : Cond.methodLink RX3 3 ⟨"java/lang/Object", "<init>", "()V"⟩ ∈ WT := wt_1 126 rfl rfl
set_option maxRecDepth 20000 in
theorem tw_128 : Cond.fieldLink RX3 9 "StatuteBook$Line" "values" "[I" ∈ WT := wt_1 127 rfl rfl
set_option maxRecDepth 20000 in
theorem tw_129 : Cond.fieldLink RX3 15 "StatuteBook$Line" "size" "I" ∈ WT := wt_1 128 rfl rfl
set_option maxRecDepth 20000 in
theorem tw_130 : Cond.laysFinal RX3 "StatuteBook$Line" "values" "[I" ∈ WT := wt_1 129 rfl rfl
set_option maxRecDepth 20000 in
theorem tw_132 : Cond.lays RX3 "StatuteBook$Line" "size" "I" ∈ WT := wt_1 131 rfl rfl
set_option maxRecDepth 20000 in
theorem tw_135 : Cond.classLink RX10 56 RX6 ∈ WT := wt_1 134 rfl rfl
set_option maxRecDepth 20000 in
theorem tw_137 : Cond.instantiable RX6 3 ∈ WT := wt_1 136 rfl rfl
set_option maxRecDepth 20000 in
theorem tw_139 : Cond.instanceMethod yX6_init ∈ WT := wt_1 138 rfl rfl
set_option maxRecDepth 20000 in
theorem tw_140 : Cond.code yX6_init cX6_init 1 (Option.none : Option Jvm.ClassFile.FieldType) ∈ WT := wt_1 139 rfl rfl
set_option maxRecDepth 20000 in
theorem tw_141 : Cond.methodLink RX6 3 ⟨"java/lang/Object", "<init>", "()V"⟩ ∈ WT := wt_1 140 rfl rfl
set_option maxRecDepth 20000 in
theorem tw_142 : Cond.fieldLink RX6 9 "StatuteBook$Sheet" "cells" "[I" ∈ WT := wt_1 141 rfl rfl
set_option maxRecDepth 20000 in
theorem tw_143 : Cond.fieldLink RX6 15 "StatuteBook$Sheet" "sort" "I" ∈ WT := wt_1 142 rfl rfl
set_option maxRecDepth 20000 in
theorem tw_144 : Cond.fieldLink RX6 19 "StatuteBook$Sheet" "size" "I" ∈ WT := wt_1 143 rfl rfl
set_option maxRecDepth 20000 in
theorem tw_145 : Cond.laysFinal RX6 "StatuteBook$Sheet" "cells" "[I" ∈ WT := wt_1 144 rfl rfl
set_option maxRecDepth 20000 in
theorem tw_147 : Cond.lays RX6 "StatuteBook$Sheet" "sort" "I" ∈ WT := wt_1 146 rfl rfl
set_option maxRecDepth 20000 in
theorem tw_149 : Cond.lays RX6 "StatuteBook$Sheet" "size" "I" ∈ WT := wt_1 148 rfl rfl
set_option maxRecDepth 20000 in
theorem tw_152 : Cond.fieldLink RX10 10 "StatuteBook" "now" "LStatuteBook$Clauses;" ∈ WT := wt_1 151 rfl rfl
set_option maxRecDepth 20000 in
theorem tw_153 : Cond.fieldLink RX10 16 "StatuteBook" "marked" "LStatuteBook$Clauses;" ∈ WT := wt_1 152 rfl rfl
set_option maxRecDepth 20000 in
theorem tw_154 : Cond.fieldLink RX10 22 "StatuteBook" "register" "LStatuteBook$Register;" ∈ WT := wt_1 153 rfl rfl
set_option maxRecDepth 20000 in
theorem tw_155 : Cond.fieldLink RX10 29 "StatuteBook" "draws" "LStatuteBook$Draws;" ∈ WT := wt_1 154 rfl rfl
set_option maxRecDepth 20000 in
theorem tw_156 : Cond.fieldLink RX10 36 "StatuteBook" "tape" "LStatuteBook$Tape;" ∈ WT := wt_1 155 rfl rfl
set_option maxRecDepth 20000 in
theorem tw_157 : Cond.fieldLink RX10 45 "StatuteBook" "reader" "LStatuteBook$Reader;" ∈ WT := wt_1 156 rfl rfl
set_option maxRecDepth 20000 in
theorem tw_158 : Cond.fieldLink RX10 52 "StatuteBook" "line" "LStatuteBook$Line;" ∈ WT := wt_1 157 rfl rfl
set_option maxRecDepth 20000 in
theorem tw_159 : Cond.fieldLink RX10 59 "StatuteBook" "sheets" "[LStatuteBook$Sheet;" ∈ WT := wt_1 158 rfl rfl
set_option maxRecDepth 20000 in
theorem tw_160 : Cond.fieldLink RX10 63 "StatuteBook" "imaged" "Z" ∈ WT := wt_1 159 rfl rfl
set_option maxRecDepth 20000 in
theorem tw_161 : Cond.fieldLink RX10 67 "StatuteBook" "imageClauses" "LStatuteBook$Clauses;" ∈ WT := wt_1 160 rfl rfl
set_option maxRecDepth 20000 in
theorem tw_162 : Cond.fieldLink RX10 70 "StatuteBook" "imageRegister" "LStatuteBook$Register;" ∈ WT := wt_1 161 rfl rfl
set_option maxRecDepth 20000 in
theorem tw_163 : Cond.fieldLink RX10 73 "StatuteBook" "imageZ" "I" ∈ WT := wt_1 162 rfl rfl
set_option maxRecDepth 20000 in
theorem tw_164 : Cond.laysFinal RX10 "StatuteBook" "now" "LStatuteBook$Clauses;" ∈ WT := wt_1 163 rfl rfl
set_option maxRecDepth 20000 in
theorem tw_166 : Cond.laysFinal RX10 "StatuteBook" "marked" "LStatuteBook$Clauses;" ∈ WT := wt_1 165 rfl rfl
set_option maxRecDepth 20000 in
theorem tw_168 : Cond.laysFinal RX10 "StatuteBook" "register" "LStatuteBook$Register;" ∈ WT := wt_1 167 rfl rfl
set_option maxRecDepth 20000 in
theorem tw_170 : Cond.laysFinal RX10 "StatuteBook" "draws" "LStatuteBook$Draws;" ∈ WT := wt_1 169 rfl rfl
set_option maxRecDepth 20000 in
theorem tw_172 : Cond.laysFinal RX10 "StatuteBook" "tape" "LStatuteBook$Tape;" ∈ WT := wt_1 171 rfl rfl
set_option maxRecDepth 20000 in
theorem tw_174 : Cond.laysFinal RX10 "StatuteBook" "reader" "LStatuteBook$Reader;" ∈ WT := wt_1 173 rfl rfl
set_option maxRecDepth 20000 in
theorem tw_176 : Cond.laysFinal RX10 "StatuteBook" "line" "LStatuteBook$Line;" ∈ WT := wt_1 175 rfl rfl
set_option maxRecDepth 20000 in
theorem tw_178 : Cond.laysFinal RX10 "StatuteBook" "sheets" "[LStatuteBook$Sheet;" ∈ WT := wt_1 177 rfl rfl
set_option maxRecDepth 20000 in
theorem tw_180 : Cond.lays RX10 "StatuteBook" "imaged" "Z" ∈ WT := wt_1 179 rfl rfl
set_option maxRecDepth 20000 in
theorem tw_182 : Cond.laysFinal RX10 "StatuteBook" "imageClauses" "LStatuteBook$Clauses;" ∈ WT := wt_1 181 rfl rfl
set_option maxRecDepth 20000 in
theorem tw_184 : Cond.laysFinal RX10 "StatuteBook" "imageRegister" "LStatuteBook$Register;" ∈ WT := wt_1 183 rfl rfl
set_option maxRecDepth 20000 in
theorem tw_186 : Cond.lays RX10 "StatuteBook" "imageZ" "I" ∈ WT := wt_1 185 rfl rfl
set_option maxRecDepth 20000 in
theorem tw_189 : Cond.methodLink RL 13 yX10_clause ∈ WT := wt_1 188 rfl rfl
set_option maxRecDepth 20000 in
theorem tw_190 : Cond.instanceMethod yX10_clause ∈ WT := wt_1 189 rfl rfl
set_option maxRecDepth 20000 in
theorem tw_191 : Cond.selects RX10 yX10_clause yX10_clause ∈ WT := wt_1 190 rfl rfl
set_option maxRecDepth 20000 in
theorem tw_192 : Cond.code yX10_clause cX10_clause 1 (Option.some Jvm.ClassFile.FieldType.int) ∈ WT := wt_1 191 rfl rfl
set_option maxRecDepth 20000 in
theorem tw_193 : Cond.methodLink RX10 77 yX1_append ∈ WT := wt_1 192 rfl rfl
set_option maxRecDepth 20000 in
theorem tw_194 : Cond.instanceMethod yX1_append ∈ WT := wt_1 193 rfl rfl
set_option maxRecDepth 20000 in
theorem tw_195 : Cond.selects RX1 yX1_append yX1_append ∈ WT := wt_1 194 rfl rfl
set_option maxRecDepth 20000 in
theorem tw_196 : Cond.code yX1_append cX1_append 3 (Option.some Jvm.ClassFile.FieldType.int) ∈ WT := wt_1 195 rfl rfl
set_option maxRecDepth 20000 in
theorem tw_197 : Cond.methodLink RX1 19 yX1_put ∈ WT := wt_1 196 rfl rfl
set_option maxRecDepth 20000 in
theorem tw_198 : Cond.instanceMethod yX1_put ∈ WT := wt_1 197 rfl rfl
set_option maxRecDepth 20000 in
theorem tw_199 : Cond.selects RX1 yX1_put yX1_put ∈ WT := wt_1 198 rfl rfl
set_option maxRecDepth 20000 in
theorem tw_200 : Cond.code yX1_put cX1_put 4 (Option.none : Option Jvm.ClassFile.FieldType) ∈ WT := wt_1 199 rfl rfl
set_option maxRecDepth 20000 in
theorem tw_201 : Cond.methodLink RL 18 yX10_test ∈ WT := wt_1 200 rfl rfl
set_option maxRecDepth 20000 in
theorem tw_202 : Cond.instanceMethod yX10_test ∈ WT := wt_1 201 rfl rfl
set_option maxRecDepth 20000 in
theorem tw_203 : Cond.selects RX10 yX10_test yX10_test ∈ WT := wt_1 202 rfl rfl
set_option maxRecDepth 20000 in
theorem tw_204 : Cond.code yX10_test cX10_test 8 (Option.some Jvm.ClassFile.FieldType.int) ∈ WT := wt_1 203 rfl rfl
set_option maxRecDepth 20000 in
theorem tw_205 : Cond.methodLink RX10 81 yX1_has ∈ WT := wt_1 204 rfl rfl
set_option maxRecDepth 20000 in
theorem tw_206 : Cond.instanceMethod yX1_has ∈ WT := wt_1 205 rfl rfl
set_option maxRecDepth 20000 in
theorem tw_207 : Cond.selects RX1 yX1_has yX1_has ∈ WT := wt_1 206 rfl rfl
set_option maxRecDepth 20000 in
theorem tw_208 : Cond.code yX1_has cX1_has 2 (Option.some Jvm.ClassFile.FieldType.boolean) ∈ WT := wt_1 207 rfl rfl
set_option maxRecDepth 20000 in
theorem tw_209 : Cond.methodLink RX10 85 yX10_within ∈ WT := wt_1 208 rfl rfl
set_option maxRecDepth 20000 in
theorem tw_210 : Cond.static yX10_within ∈ WT := wt_1 209 rfl rfl
set_option maxRecDepth 20000 in
theorem tw_211 : Cond.code yX10_within cX10_within 3 (Option.some Jvm.ClassFile.FieldType.boolean) ∈ WT := wt_1 210 rfl rfl
set_option maxRecDepth 20000 in
theorem tw_212 : Cond.methodLink RX10 89 yX1_testNeedsTrait ∈ WT := wt_1 211 rfl rfl
set_option maxRecDepth 20000 in
theorem tw_213 : Cond.static yX1_testNeedsTrait ∈ WT := wt_1 212 rfl rfl
set_option maxRecDepth 20000 in
theorem tw_214 : Cond.code yX1_testNeedsTrait cX1_testNeedsTrait 1 (Option.some Jvm.ClassFile.FieldType.boolean) ∈ WT := wt_1 213 rfl rfl
set_option maxRecDepth 20000 in
theorem tw_215 : Cond.methodLink RX10 92 yX1_at ∈ WT := wt_1 214 rfl rfl
set_option maxRecDepth 20000 in
theorem tw_216 : Cond.instanceMethod yX1_at ∈ WT := wt_1 215 rfl rfl
set_option maxRecDepth 20000 in
theorem tw_217 : Cond.selects RX1 yX1_at yX1_at ∈ WT := wt_1 216 rfl rfl
set_option maxRecDepth 20000 in
theorem tw_218 : Cond.code yX1_at cX1_at 3 (Option.some Jvm.ClassFile.FieldType.int) ∈ WT := wt_1 217 rfl rfl
set_option maxRecDepth 20000 in
theorem tw_219 : Cond.methodLink RX10 96 yX1_put ∈ WT := wt_1 218 rfl rfl
set_option maxRecDepth 20000 in
theorem tw_220 : Cond.methodLink RL 23 yX10_grant ∈ WT := wt_1 219 rfl rfl
set_option maxRecDepth 20000 in
theorem tw_221 : Cond.instanceMethod yX10_grant ∈ WT := wt_1 220 rfl rfl
set_option maxRecDepth 20000 in
theorem tw_222 : Cond.selects RX10 yX10_grant yX10_grant ∈ WT := wt_1 221 rfl rfl
set_option maxRecDepth 20000 in
theorem tw_223 : Cond.code yX10_grant cX10_grant 7 (Option.some Jvm.ClassFile.FieldType.int) ∈ WT := wt_1 222 rfl rfl
set_option maxRecDepth 20000 in
theorem tw_224 : Cond.methodLink RX10 100 yX1_grantNeedsTrait ∈ WT := wt_1 223 rfl rfl
set_option maxRecDepth 20000 in
theorem tw_225 : Cond.static yX1_grantNeedsTrait ∈ WT := wt_1 224 rfl rfl
set_option maxRecDepth 20000 in
theorem tw_226 : Cond.code yX1_grantNeedsTrait cX1_grantNeedsTrait 1 (Option.some Jvm.ClassFile.FieldType.boolean) ∈ WT := wt_1 225 rfl rfl
set_option maxRecDepth 20000 in
theorem tw_227 : Cond.methodLink RX10 103 yX1_leastPart ∈ WT := wt_1 226 rfl rfl
set_option maxRecDepth 20000 in
theorem tw_228 : Cond.static yX1_leastPart ∈ WT := wt_1 227 rfl rfl
set_option maxRecDepth 20000 in
theorem tw_229 : Cond.code yX1_leastPart cX1_leastPart 1 (Option.some Jvm.ClassFile.FieldType.int) ∈ WT := wt_1 228 rfl rfl
set_option maxRecDepth 20000 in
theorem tw_230 : Cond.methodLink RX10 107 yX1_mostPart ∈ WT := wt_1 229 rfl rfl
set_option maxRecDepth 20000 in
theorem tw_231 : Cond.static yX1_mostPart ∈ WT := wt_1 230 rfl rfl
set_option maxRecDepth 20000 in
theorem tw_232 : Cond.code yX1_mostPart cX1_mostPart 1 (Option.some Jvm.ClassFile.FieldType.int) ∈ WT := wt_1 231 rfl rfl
set_option maxRecDepth 20000 in
theorem tw_233 : Cond.methodLink RL 27 yX10_span ∈ WT := wt_1 232 rfl rfl
set_option maxRecDepth 20000 in
theorem tw_234 : Cond.instanceMethod yX10_span ∈ WT := wt_1 233 rfl rfl
set_option maxRecDepth 20000 in
theorem tw_235 : Cond.selects RX10 yX10_span yX10_span ∈ WT := wt_1 234 rfl rfl
set_option maxRecDepth 20000 in
theorem tw_236 : Cond.code yX10_span cX10_span 4 (Option.some Jvm.ClassFile.FieldType.int) ∈ WT := wt_1 235 rfl rfl
set_option maxRecDepth 20000 in
theorem tw_237 : Cond.methodLink RX10 110 yX10_isDay ∈ WT := wt_1 236 rfl rfl
set_option maxRecDepth 20000 in
theorem tw_238 : Cond.static yX10_isDay ∈ WT := wt_1 237 rfl rfl
set_option maxRecDepth 20000 in
theorem tw_239 : Cond.code yX10_isDay cX10_isDay 1 (Option.some Jvm.ClassFile.FieldType.boolean) ∈ WT := wt_1 238 rfl rfl
set_option maxRecDepth 20000 in
theorem tw_240 : Cond.methodLink RL 32 yX10_except ∈ WT := wt_1 239 rfl rfl
set_option maxRecDepth 20000 in
theorem tw_241 : Cond.instanceMethod yX10_except ∈ WT := wt_2 0 rfl rfl
set_option maxRecDepth 20000 in
theorem tw_242 : Cond.selects RX10 yX10_except yX10_except ∈ WT := wt_2 1 rfl rfl
set_option maxRecDepth 20000 in
theorem tw_243 : Cond.code yX10_except cX10_except 4 (Option.some Jvm.ClassFile.FieldType.int) ∈ WT := wt_2 2 rfl rfl
set_option maxRecDepth 20000 in
theorem tw_244 : Cond.methodLink RL 37 yX10_of ∈ WT := wt_2 3 rfl rfl
set_option maxRecDepth 20000 in
theorem tw_245 : Cond.instanceMethod yX10_of ∈ WT := wt_2 4 rfl rfl
set_option maxRecDepth 20000 in
theorem tw_246 : Cond.selects RX10 yX10_of yX10_of ∈ WT := wt_2 5 rfl rfl
set_option maxRecDepth 20000 in
theorem tw_247 : Cond.code yX10_of cX10_of 3 (Option.some Jvm.ClassFile.FieldType.int) ∈ WT := wt_2 6 rfl rfl
set_option maxRecDepth 20000 in
theorem tw_248 : Cond.methodLink RL 41 yX10_drop ∈ WT := wt_2 7 rfl rfl
set_option maxRecDepth 20000 in
theorem tw_249 : Cond.instanceMethod yX10_drop ∈ WT := wt_2 8 rfl rfl
set_option maxRecDepth 20000 in
theorem tw_250 : Cond.selects RX10 yX10_drop yX10_drop ∈ WT := wt_2 9 rfl rfl
set_option maxRecDepth 20000 in
theorem tw_251 : Cond.code yX10_drop cX10_drop 1 (Option.some Jvm.ClassFile.FieldType.int) ∈ WT := wt_2 10 rfl rfl
set_option maxRecDepth 20000 in
theorem tw_252 : Cond.methodLink RX10 113 yX1_size ∈ WT := wt_2 11 rfl rfl
set_option maxRecDepth 20000 in
theorem tw_253 : Cond.instanceMethod yX1_size ∈ WT := wt_2 12 rfl rfl
set_option maxRecDepth 20000 in
theorem tw_254 : Cond.selects RX1 yX1_size yX1_size ∈ WT := wt_2 13 rfl rfl
set_option maxRecDepth 20000 in
theorem tw_255 : Cond.code yX1_size cX1_size 1 (Option.some Jvm.ClassFile.FieldType.int) ∈ WT := wt_2 14 rfl rfl
set_option maxRecDepth 20000 in
theorem tw_256 : Cond.methodLink RX10 116 yX1_cutTo ∈ WT := wt_2 15 rfl rfl
set_option maxRecDepth 20000 in
theorem tw_257 : Cond.instanceMethod yX1_cutTo ∈ WT := wt_2 16 rfl rfl
set_option maxRecDepth 20000 in
theorem tw_258 : Cond.selects RX1 yX1_cutTo yX1_cutTo ∈ WT := wt_2 17 rfl rfl
set_option maxRecDepth 20000 in
theorem tw_259 : Cond.code yX1_cutTo cX1_cutTo 2 (Option.none : Option Jvm.ClassFile.FieldType) ∈ WT := wt_2 18 rfl rfl
set_option maxRecDepth 20000 in
theorem tw_260 : Cond.methodLink RL 45 yX10_profile ∈ WT := wt_2 19 rfl rfl
set_option maxRecDepth 20000 in
theorem tw_261 : Cond.instanceMethod yX10_profile ∈ WT := wt_2 20 rfl rfl
set_option maxRecDepth 20000 in
theorem tw_262 : Cond.selects RX10 yX10_profile yX10_profile ∈ WT := wt_2 21 rfl rfl
set_option maxRecDepth 20000 in
theorem tw_263 : Cond.code yX10_profile cX10_profile 7 (Option.some Jvm.ClassFile.FieldType.int) ∈ WT := wt_2 22 rfl rfl
set_option maxRecDepth 20000 in
theorem tw_264 : Cond.methodLink RX10 122 yX9_last ∈ WT := wt_2 23 rfl rfl
set_option maxRecDepth 20000 in
theorem tw_265 : Cond.static yX9_last ∈ WT := wt_2 24 rfl rfl
set_option maxRecDepth 20000 in
theorem tw_266 : Cond.code yX9_last cX9_last 1 (Option.some Jvm.ClassFile.FieldType.int) ∈ WT := wt_2 25 rfl rfl
set_option maxRecDepth 20000 in
theorem tw_267 : Cond.methodLink RX10 125 yX9_together ∈ WT := wt_2 26 rfl rfl
set_option maxRecDepth 20000 in
theorem tw_268 : Cond.static yX9_together ∈ WT := wt_2 27 rfl rfl

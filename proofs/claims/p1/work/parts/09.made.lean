-- ===== printed names =====
def wsX10_init : List Cond := .code yX10_init cX10_init 4 none :: ([.methodLink RX10 3 objectInit, .instanceMethod objectInit, .code objectInit ⟨#[0xb1]⟩ 1 none, .fieldLink RX10 9 "LastroomModel$Hide" "material" "I", .fieldLink RX10 15 "LastroomModel$Hide" "columns" "I", .fieldLink RX10 18 "LastroomModel$Hide" "rows" "I", .arrayClass .int, .fieldLink RX10 21 "LastroomModel$Hide" "cells" "[I", .methodLink RX10 25 yJ7_fill_53178, .static yJ7_fill_53178, .initialized RJ7, .code yJ7_fill_53178 cJ7_fill_53178 4 none] ++ wsX100)
set_option maxRecDepth 20000 in
theorem ggX9_convert_X9_demandSize : GoodIn wsX9_convert wsX9_demandSize := goodIn_ca (goodIn_r _ [10, 1, 2, 11, 12, 9, 13, 14, 15, 16, 17, 18, 19, 20, 21, 22] (by decide +kernel) (by decide +kernel)) (goodIn_sub (fun _ h => List.mem_cons_of_mem _ (List.mem_append_right _ h)) (by decide +kernel))
set_option maxRecDepth 20000 in
theorem gX9_convert_X9_demandSize : GoodIn wsX9_convert (va_wsS RX9 50 yX9_demandSize wsX9_demandSize) := goodIn_app (goodIn_of _ (by decide +kernel)) ggX9_convert_X9_demandSize
set_option maxRecDepth 20000 in
theorem ggX9_convert_X9_isSystem : GoodIn wsX9_convert wsX9_isSystem := goodIn_r _ [13] (by decide +kernel) (by decide +kernel)
set_option maxRecDepth 20000 in
theorem gX9_convert_X9_isSystem : GoodIn wsX9_convert (va_wsS RX9 58 yX9_isSystem wsX9_isSystem) := goodIn_app (goodIn_of _ (by decide +kernel)) ggX9_convert_X9_isSystem
set_option maxRecDepth 20000 in
theorem ggX9_convert_X9_lengthOf : GoodIn wsX9_convert wsX9_lengthOf := goodIn_r _ [25] (by decide +kernel) (by decide +kernel)
set_option maxRecDepth 20000 in
theorem gX9_convert_X9_lengthOf : GoodIn wsX9_convert (va_wsS RX9 54 yX9_lengthOf wsX9_lengthOf) := goodIn_app (goodIn_of _ (by decide +kernel)) ggX9_convert_X9_lengthOf
set_option maxRecDepth 20000 in
theorem ggX9_convert_X9_lowestSize : GoodIn wsX9_convert wsX9_lowestSize := goodIn_r _ [16] (by decide +kernel) (by decide +kernel)
set_option maxRecDepth 20000 in
theorem gX9_convert_X9_lowestSize : GoodIn wsX9_convert (va_wsS RX9 69 yX9_lowestSize wsX9_lowestSize) := goodIn_app (goodIn_of _ (by decide +kernel)) ggX9_convert_X9_lowestSize
set_option maxRecDepth 20000 in
theorem ggX9_convert_X9_highestSize : GoodIn wsX9_convert wsX9_highestSize := goodIn_r _ [19] (by decide +kernel) (by decide +kernel)
set_option maxRecDepth 20000 in
theorem gX9_convert_X9_highestSize : GoodIn wsX9_convert (va_wsS RX9 73 yX9_highestSize wsX9_highestSize) := goodIn_app (goodIn_of _ (by decide +kernel)) ggX9_convert_X9_highestSize
theorem dX9_convert_0 : decode cX9_convert 0 = .ok (.iload_n 1, 1) := by decide +kernel
theorem dX9_convert_1 : decode cX9_convert 1 = .ok (.iload_n 2, 1) := by decide +kernel
theorem dX9_convert_2 : decode cX9_convert 2 = .ok (.invokestatic 50, 3) := by decide +kernel
theorem dX9_convert_5 : decode cX9_convert 5 = .ok (.iload_n 3, 1) := by decide +kernel
theorem dX9_convert_6 : decode cX9_convert 6 = .ok (.invokestatic 58, 3) := by decide +kernel
theorem dX9_convert_9 : decode cX9_convert 9 = .ok (.ifCond .ne 13, 3) := by decide +kernel
theorem dX9_convert_12 : decode cX9_convert 12 = .ok (.new 62, 3) := by decide +kernel
theorem dX9_convert_15 : decode cX9_convert 15 = .ok (.dup, 1) := by decide +kernel
theorem dX9_convert_16 : decode cX9_convert 16 = .ok (.ldc 64, 2) := by decide +kernel
theorem dX9_convert_18 : decode cX9_convert 18 = .ok (.invokespecial 66, 3) := by decide +kernel
theorem dX9_convert_21 : decode cX9_convert 21 = .ok (.athrow, 1) := by decide +kernel
theorem dX9_convert_22 : decode cX9_convert 22 = .ok (.iload_n 1, 1) := by decide +kernel
theorem dX9_convert_23 : decode cX9_convert 23 = .ok (.iload_n 2, 1) := by decide +kernel
theorem dX9_convert_24 : decode cX9_convert 24 = .ok (.invokestatic 54, 3) := by decide +kernel
theorem dX9_convert_27 : decode cX9_convert 27 = .ok (.istore 4, 2) := by decide +kernel
theorem dX9_convert_29 : decode cX9_convert 29 = .ok (.iload_n 3, 1) := by decide +kernel
theorem dX9_convert_30 : decode cX9_convert 30 = .ok (.invokestatic 69, 3) := by decide +kernel
theorem dX9_convert_33 : decode cX9_convert 33 = .ok (.istore 5, 2) := by decide +kernel
theorem dX9_convert_35 : decode cX9_convert 35 = .ok (.iload 5, 2) := by decide +kernel
theorem dX9_convert_37 : decode cX9_convert 37 = .ok (.iconst 1, 1) := by decide +kernel
theorem dX9_convert_38 : decode cX9_convert 38 = .ok (.iadd, 1) := by decide +kernel
theorem dX9_convert_39 : decode cX9_convert 39 = .ok (.istore 6, 2) := by decide +kernel
theorem dX9_convert_41 : decode cX9_convert 41 = .ok (.iload 6, 2) := by decide +kernel
theorem dX9_convert_43 : decode cX9_convert 43 = .ok (.iload_n 3, 1) := by decide +kernel
theorem dX9_convert_44 : decode cX9_convert 44 = .ok (.invokestatic 73, 3) := by decide +kernel
theorem dX9_convert_47 : decode cX9_convert 47 = .ok (.if_icmp .gt 40, 3) := by decide +kernel
theorem dX9_convert_50 : decode cX9_convert 50 = .ok (.iload_n 3, 1) := by decide +kernel
theorem dX9_convert_51 : decode cX9_convert 51 = .ok (.iload 6, 2) := by decide +kernel
theorem dX9_convert_53 : decode cX9_convert 53 = .ok (.invokestatic 54, 3) := by decide +kernel
theorem dX9_convert_56 : decode cX9_convert 56 = .ok (.iload 4, 2) := by decide +kernel
theorem dX9_convert_58 : decode cX9_convert 58 = .ok (.isub, 1) := by decide +kernel
theorem dX9_convert_59 : decode cX9_convert 59 = .ok (.invokestatic 76, 3) := by decide +kernel
theorem dX9_convert_62 : decode cX9_convert 62 = .ok (.iload_n 3, 1) := by decide +kernel
theorem dX9_convert_63 : decode cX9_convert 63 = .ok (.iload 5, 2) := by decide +kernel
theorem dX9_convert_65 : decode cX9_convert 65 = .ok (.invokestatic 54, 3) := by decide +kernel
theorem dX9_convert_68 : decode cX9_convert 68 = .ok (.iload 4, 2) := by decide +kernel
theorem dX9_convert_70 : decode cX9_convert 70 = .ok (.isub, 1) := by decide +kernel
theorem dX9_convert_71 : decode cX9_convert 71 = .ok (.invokestatic 76, 3) := by decide +kernel
theorem dX9_convert_74 : decode cX9_convert 74 = .ok (.if_icmp .ge 7, 3) := by decide +kernel
theorem dX9_convert_77 : decode cX9_convert 77 = .ok (.iload 6, 2) := by decide +kernel
theorem dX9_convert_79 : decode cX9_convert 79 = .ok (.istore 5, 2) := by decide +kernel
theorem dX9_convert_81 : decode cX9_convert 81 = .ok (.iinc 6 1, 3) := by decide +kernel
theorem dX9_convert_84 : decode cX9_convert 84 = .ok (.goto (-43), 3) := by decide +kernel
theorem dX9_convert_87 : decode cX9_convert 87 = .ok (.iload 5, 2) := by decide +kernel
theorem dX9_convert_89 : decode cX9_convert 89 = .ok (.ireturn, 1) := by decide +kernel
set_option maxRecDepth 20000 in
theorem ggX10_init_J7_fill_53178 : GoodIn wsX10_init wsJ7_fill_53178 := goodIn_r _ [12] (by decide +kernel) (by decide +kernel)
set_option maxRecDepth 20000 in
theorem gX10_init_J7_fill_53178 : GoodIn wsX10_init (va_wsS RX10 25 yJ7_fill_53178 wsJ7_fill_53178) := goodIn_app (goodIn_of _ (by decide +kernel)) ggX10_init_J7_fill_53178
theorem dX10_init_0 : decode cX10_init 0 = .ok (.aload_n 0, 1) := by decide +kernel
theorem dX10_init_1 : decode cX10_init 1 = .ok (.invokespecial 3, 3) := by decide +kernel
theorem dX10_init_4 : decode cX10_init 4 = .ok (.aload_n 0, 1) := by decide +kernel
theorem dX10_init_5 : decode cX10_init 5 = .ok (.iload_n 1, 1) := by decide +kernel
theorem dX10_init_6 : decode cX10_init 6 = .ok (.putfield 9, 3) := by decide +kernel
theorem dX10_init_9 : decode cX10_init 9 = .ok (.aload_n 0, 1) := by decide +kernel
theorem dX10_init_10 : decode cX10_init 10 = .ok (.iload_n 2, 1) := by decide +kernel
theorem dX10_init_11 : decode cX10_init 11 = .ok (.putfield 15, 3) := by decide +kernel
theorem dX10_init_14 : decode cX10_init 14 = .ok (.aload_n 0, 1) := by decide +kernel
theorem dX10_init_15 : decode cX10_init 15 = .ok (.iload_n 3, 1) := by decide +kernel
theorem dX10_init_16 : decode cX10_init 16 = .ok (.putfield 18, 3) := by decide +kernel
theorem dX10_init_19 : decode cX10_init 19 = .ok (.aload_n 0, 1) := by decide +kernel
theorem dX10_init_20 : decode cX10_init 20 = .ok (.iload_n 2, 1) := by decide +kernel
theorem dX10_init_21 : decode cX10_init 21 = .ok (.iload_n 3, 1) := by decide +kernel
theorem dX10_init_22 : decode cX10_init 22 = .ok (.imul, 1) := by decide +kernel
theorem dX10_init_23 : decode cX10_init 23 = .ok (.newarray .int, 2) := by decide +kernel
theorem dX10_init_25 : decode cX10_init 25 = .ok (.putfield 21, 3) := by decide +kernel
theorem dX10_init_28 : decode cX10_init 28 = .ok (.aload_n 0, 1) := by decide +kernel
theorem dX10_init_29 : decode cX10_init 29 = .ok (.getfield 21, 3) := by decide +kernel
theorem dX10_init_32 : decode cX10_init 32 = .ok (.iconst 3, 1) := by decide +kernel
theorem dX10_init_33 : decode cX10_init 33 = .ok (.invokestatic 25, 3) := by decide +kernel
theorem dX10_init_36 : decode cX10_init 36 = .ok (.return_, 1) := by decide +kernel
set_option maxRecDepth 20000 in
theorem ggX13_init_Jx4a65c_init_da8c8 : GoodIn wsX13_init wsJx4a65c_init_da8c8 := goodIn_r _ [22, 23, 24, 25, 26, 27, 28, 29, 30, 31, 32, 33, 34, 2, 3, 35, 36, 37] (by decide +kernel) (by decide +kernel)
set_option maxRecDepth 20000 in
theorem gX13_init_Jx4a65c_init_da8c8 : GoodIn wsX13_init (wsJx4a65c_init_da8c8) := ggX13_init_Jx4a65c_init_da8c8
theorem dX13_init_0 : decode cX13_init 0 = .ok (.aload_n 0, 1) := by decide +kernel
theorem dX13_init_1 : decode cX13_init 1 = .ok (.invokespecial 1, 3) := by decide +kernel
theorem dX13_init_4 : decode cX13_init 4 = .ok (.aload_n 0, 1) := by decide +kernel
theorem dX13_init_5 : decode cX13_init 5 = .ok (.new 7, 3) := by decide +kernel
theorem dX13_init_8 : decode cX13_init 8 = .ok (.dup, 1) := by decide +kernel
theorem dX13_init_9 : decode cX13_init 9 = .ok (.invokespecial 9, 3) := by decide +kernel
theorem dX13_init_12 : decode cX13_init 12 = .ok (.putfield 10, 3) := by decide +kernel
theorem dX13_init_15 : decode cX13_init 15 = .ok (.aload_n 0, 1) := by decide +kernel
theorem dX13_init_16 : decode cX13_init 16 = .ok (.sipush 255, 3) := by decide +kernel
theorem dX13_init_19 : decode cX13_init 19 = .ok (.newarray .int, 2) := by decide +kernel
theorem dX13_init_21 : decode cX13_init 21 = .ok (.putfield 16, 3) := by decide +kernel
theorem dX13_init_24 : decode cX13_init 24 = .ok (.aload_n 0, 1) := by decide +kernel
theorem dX13_init_25 : decode cX13_init 25 = .ok (.new 7, 3) := by decide +kernel
theorem dX13_init_28 : decode cX13_init 28 = .ok (.dup, 1) := by decide +kernel
theorem dX13_init_29 : decode cX13_init 29 = .ok (.invokespecial 9, 3) := by decide +kernel
theorem dX13_init_32 : decode cX13_init 32 = .ok (.putfield 20, 3) := by decide +kernel
theorem dX13_init_35 : decode cX13_init 35 = .ok (.aload_n 0, 1) := by decide +kernel
theorem dX13_init_36 : decode cX13_init 36 = .ok (.new 7, 3) := by decide +kernel
theorem dX13_init_39 : decode cX13_init 39 = .ok (.dup, 1) := by decide +kernel
theorem dX13_init_40 : decode cX13_init 40 = .ok (.invokespecial 9, 3) := by decide +kernel
theorem dX13_init_43 : decode cX13_init 43 = .ok (.putfield 23, 3) := by decide +kernel
theorem dX13_init_46 : decode cX13_init 46 = .ok (.aload_n 0, 1) := by decide +kernel
theorem dX13_init_47 : decode cX13_init 47 = .ok (.new 7, 3) := by decide +kernel
theorem dX13_init_50 : decode cX13_init 50 = .ok (.dup, 1) := by decide +kernel
theorem dX13_init_51 : decode cX13_init 51 = .ok (.invokespecial 9, 3) := by decide +kernel
theorem dX13_init_54 : decode cX13_init 54 = .ok (.putfield 26, 3) := by decide +kernel
theorem dX13_init_57 : decode cX13_init 57 = .ok (.aload_n 0, 1) := by decide +kernel
theorem dX13_init_58 : decode cX13_init 58 = .ok (.bipush 32, 2) := by decide +kernel
theorem dX13_init_60 : decode cX13_init 60 = .ok (.newarray .boolean, 2) := by decide +kernel
theorem dX13_init_62 : decode cX13_init 62 = .ok (.putfield 29, 3) := by decide +kernel
theorem dX13_init_65 : decode cX13_init 65 = .ok (.aload_n 0, 1) := by decide +kernel
theorem dX13_init_66 : decode cX13_init 66 = .ok (.bipush 8, 2) := by decide +kernel
theorem dX13_init_68 : decode cX13_init 68 = .ok (.newarray .boolean, 2) := by decide +kernel
theorem dX13_init_70 : decode cX13_init 70 = .ok (.putfield 33, 3) := by decide +kernel
theorem dX13_init_73 : decode cX13_init 73 = .ok (.aload_n 0, 1) := by decide +kernel
theorem dX13_init_74 : decode cX13_init 74 = .ok (.bipush 8, 2) := by decide +kernel
theorem dX13_init_76 : decode cX13_init 76 = .ok (.newarray .int, 2) := by decide +kernel
theorem dX13_init_78 : decode cX13_init 78 = .ok (.putfield 36, 3) := by decide +kernel
theorem dX13_init_81 : decode cX13_init 81 = .ok (.aload_n 0, 1) := by decide +kernel
theorem dX13_init_82 : decode cX13_init 82 = .ok (.bipush 8, 2) := by decide +kernel
theorem dX13_init_84 : decode cX13_init 84 = .ok (.newarray .int, 2) := by decide +kernel
theorem dX13_init_86 : decode cX13_init 86 = .ok (.putfield 39, 3) := by decide +kernel
theorem dX13_init_89 : decode cX13_init 89 = .ok (.aload_n 0, 1) := by decide +kernel
theorem dX13_init_90 : decode cX13_init 90 = .ok (.iconst 5, 1) := by decide +kernel
theorem dX13_init_91 : decode cX13_init 91 = .ok (.newarray .int, 2) := by decide +kernel
theorem dX13_init_93 : decode cX13_init 93 = .ok (.dup, 1) := by decide +kernel
theorem dX13_init_94 : decode cX13_init 94 = .ok (.iconst 0, 1) := by decide +kernel
theorem dX13_init_95 : decode cX13_init 95 = .ok (.bipush 30, 2) := by decide +kernel
theorem dX13_init_97 : decode cX13_init 97 = .ok (.iastore, 1) := by decide +kernel
theorem dX13_init_98 : decode cX13_init 98 = .ok (.dup, 1) := by decide +kernel
theorem dX13_init_99 : decode cX13_init 99 = .ok (.iconst 1, 1) := by decide +kernel
theorem dX13_init_100 : decode cX13_init 100 = .ok (.bipush 30, 2) := by decide +kernel
theorem dX13_init_102 : decode cX13_init 102 = .ok (.iastore, 1) := by decide +kernel
theorem dX13_init_103 : decode cX13_init 103 = .ok (.dup, 1) := by decide +kernel
theorem dX13_init_104 : decode cX13_init 104 = .ok (.iconst 2, 1) := by decide +kernel
theorem dX13_init_105 : decode cX13_init 105 = .ok (.bipush 30, 2) := by decide +kernel
theorem dX13_init_107 : decode cX13_init 107 = .ok (.iastore, 1) := by decide +kernel
theorem dX13_init_108 : decode cX13_init 108 = .ok (.dup, 1) := by decide +kernel
theorem dX13_init_109 : decode cX13_init 109 = .ok (.iconst 3, 1) := by decide +kernel
theorem dX13_init_110 : decode cX13_init 110 = .ok (.bipush 30, 2) := by decide +kernel
theorem dX13_init_112 : decode cX13_init 112 = .ok (.iastore, 1) := by decide +kernel
theorem dX13_init_113 : decode cX13_init 113 = .ok (.dup, 1) := by decide +kernel
theorem dX13_init_114 : decode cX13_init 114 = .ok (.iconst 4, 1) := by decide +kernel
theorem dX13_init_115 : decode cX13_init 115 = .ok (.bipush 30, 2) := by decide +kernel
theorem dX13_init_117 : decode cX13_init 117 = .ok (.iastore, 1) := by decide +kernel
theorem dX13_init_118 : decode cX13_init 118 = .ok (.putfield 42, 3) := by decide +kernel
theorem dX13_init_121 : decode cX13_init 121 = .ok (.aload_n 0, 1) := by decide +kernel
theorem dX13_init_122 : decode cX13_init 122 = .ok (.new 7, 3) := by decide +kernel
theorem dX13_init_125 : decode cX13_init 125 = .ok (.dup, 1) := by decide +kernel
theorem dX13_init_126 : decode cX13_init 126 = .ok (.invokespecial 9, 3) := by decide +kernel
theorem dX13_init_129 : decode cX13_init 129 = .ok (.putfield 45, 3) := by decide +kernel
theorem dX13_init_132 : decode cX13_init 132 = .ok (.return_, 1) := by decide +kernel
set_option maxRecDepth 20000 in
theorem ggX13_convert_X13_isSize : GoodIn wsX13_convert wsX13_isSize := goodIn_r _ [9, 10, 11, 8, 12, 13, 14, 15, 16, 17, 18, 19, 20, 21] (by decide +kernel) (by decide +kernel)
set_option maxRecDepth 20000 in
theorem gX13_convert_X13_isSize : GoodIn wsX13_convert (va_wsS RX13 67 yX13_isSize wsX13_isSize) := goodIn_app (goodIn_of _ (by decide +kernel)) ggX13_convert_X13_isSize
set_option maxRecDepth 20000 in
theorem ggX13_convert_X13_isSystem : GoodIn wsX13_convert wsX13_isSystem := goodIn_r _ [12] (by decide +kernel) (by decide +kernel)
set_option maxRecDepth 20000 in
theorem gX13_convert_X13_isSystem : GoodIn wsX13_convert (va_wsS RX13 52 yX13_isSystem wsX13_isSystem) := goodIn_app (goodIn_of _ (by decide +kernel)) ggX13_convert_X13_isSystem
set_option maxRecDepth 20000 in
theorem ggX13_convert_X13_fails : GoodIn wsX13_convert wsX13_fails := goodIn_r _ [25, 1, 29, 30, 31, 32, 33, 34, 35, 36, 37, 38, 39, 40, 41] (by decide +kernel) (by decide +kernel)
set_option maxRecDepth 20000 in
theorem gX13_convert_X13_fails : GoodIn wsX13_convert (wsV RX13 75 RX13 yX13_fails wsX13_fails) := goodIn_app (goodIn_of _ (by decide +kernel)) ggX13_convert_X13_fails
set_option maxRecDepth 20000 in
theorem ggX13_convert_X13_long3 : GoodIn wsX13_convert wsX13_long3 := goodIn_r _ [28] (by decide +kernel) (by decide +kernel)
set_option maxRecDepth 20000 in
theorem gX13_convert_X13_long3 : GoodIn wsX13_convert (va_wsS RX13 71 yX13_long3 wsX13_long3) := goodIn_app (goodIn_of _ (by decide +kernel)) ggX13_convert_X13_long3
set_option maxRecDepth 20000 in
theorem ggX13_convert_X13_lowest : GoodIn wsX13_convert wsX13_lowest := goodIn_r _ [15] (by decide +kernel) (by decide +kernel)
set_option maxRecDepth 20000 in
theorem gX13_convert_X13_lowest : GoodIn wsX13_convert (va_wsS RX13 56 yX13_lowest wsX13_lowest) := goodIn_app (goodIn_of _ (by decide +kernel)) ggX13_convert_X13_lowest
set_option maxRecDepth 20000 in
theorem ggX13_convert_X13_highest : GoodIn wsX13_convert wsX13_highest := goodIn_r _ [18] (by decide +kernel) (by decide +kernel)
set_option maxRecDepth 20000 in
theorem gX13_convert_X13_highest : GoodIn wsX13_convert (va_wsS RX13 60 yX13_highest wsX13_highest) := goodIn_app (goodIn_of _ (by decide +kernel)) ggX13_convert_X13_highest
theorem dX13_convert_0 : decode cX13_convert 0 = .ok (.aload_n 0, 1) := by decide +kernel
theorem dX13_convert_1 : decode cX13_convert 1 = .ok (.iconst 0, 1) := by decide +kernel
theorem dX13_convert_2 : decode cX13_convert 2 = .ok (.putfield 48, 3) := by decide +kernel
theorem dX13_convert_5 : decode cX13_convert 5 = .ok (.iload_n 1, 1) := by decide +kernel
theorem dX13_convert_6 : decode cX13_convert 6 = .ok (.iload_n 2, 1) := by decide +kernel
theorem dX13_convert_7 : decode cX13_convert 7 = .ok (.invokestatic 67, 3) := by decide +kernel
theorem dX13_convert_10 : decode cX13_convert 10 = .ok (.ifCond .eq 10, 3) := by decide +kernel
theorem dX13_convert_13 : decode cX13_convert 13 = .ok (.iload_n 3, 1) := by decide +kernel
theorem dX13_convert_14 : decode cX13_convert 14 = .ok (.invokestatic 52, 3) := by decide +kernel
theorem dX13_convert_17 : decode cX13_convert 17 = .ok (.ifCond .ne 9, 3) := by decide +kernel
theorem dX13_convert_20 : decode cX13_convert 20 = .ok (.aload_n 0, 1) := by decide +kernel
theorem dX13_convert_21 : decode cX13_convert 21 = .ok (.iconst 1, 1) := by decide +kernel
theorem dX13_convert_22 : decode cX13_convert 22 = .ok (.invokevirtual 75, 3) := by decide +kernel
theorem dX13_convert_25 : decode cX13_convert 25 = .ok (.ireturn, 1) := by decide +kernel
theorem dX13_convert_26 : decode cX13_convert 26 = .ok (.iload_n 1, 1) := by decide +kernel
theorem dX13_convert_27 : decode cX13_convert 27 = .ok (.iload_n 2, 1) := by decide +kernel
theorem dX13_convert_28 : decode cX13_convert 28 = .ok (.invokestatic 71, 3) := by decide +kernel
theorem dX13_convert_31 : decode cX13_convert 31 = .ok (.istore 4, 2) := by decide +kernel
theorem dX13_convert_33 : decode cX13_convert 33 = .ok (.iload_n 3, 1) := by decide +kernel
theorem dX13_convert_34 : decode cX13_convert 34 = .ok (.invokestatic 56, 3) := by decide +kernel
theorem dX13_convert_37 : decode cX13_convert 37 = .ok (.istore 5, 2) := by decide +kernel
theorem dX13_convert_39 : decode cX13_convert 39 = .ok (.iload_n 3, 1) := by decide +kernel
theorem dX13_convert_40 : decode cX13_convert 40 = .ok (.invokestatic 56, 3) := by decide +kernel
theorem dX13_convert_43 : decode cX13_convert 43 = .ok (.istore 6, 2) := by decide +kernel
theorem dX13_convert_45 : decode cX13_convert 45 = .ok (.iload 6, 2) := by decide +kernel
theorem dX13_convert_47 : decode cX13_convert 47 = .ok (.iload_n 3, 1) := by decide +kernel
theorem dX13_convert_48 : decode cX13_convert 48 = .ok (.invokestatic 60, 3) := by decide +kernel
theorem dX13_convert_51 : decode cX13_convert 51 = .ok (.if_icmp .gt 45, 3) := by decide +kernel
theorem dX13_convert_54 : decode cX13_convert 54 = .ok (.iload_n 3, 1) := by decide +kernel
theorem dX13_convert_55 : decode cX13_convert 55 = .ok (.iload 6, 2) := by decide +kernel
theorem dX13_convert_57 : decode cX13_convert 57 = .ok (.invokestatic 71, 3) := by decide +kernel
theorem dX13_convert_60 : decode cX13_convert 60 = .ok (.iload 4, 2) := by decide +kernel
theorem dX13_convert_62 : decode cX13_convert 62 = .ok (.isub, 1) := by decide +kernel
theorem dX13_convert_63 : decode cX13_convert 63 = .ok (.invokestatic 79, 3) := by decide +kernel
theorem dX13_convert_66 : decode cX13_convert 66 = .ok (.iload_n 3, 1) := by decide +kernel
theorem dX13_convert_67 : decode cX13_convert 67 = .ok (.iload 5, 2) := by decide +kernel
theorem dX13_convert_69 : decode cX13_convert 69 = .ok (.invokestatic 71, 3) := by decide +kernel
theorem dX13_convert_72 : decode cX13_convert 72 = .ok (.iload 4, 2) := by decide +kernel
theorem dX13_convert_74 : decode cX13_convert 74 = .ok (.isub, 1) := by decide +kernel
theorem dX13_convert_75 : decode cX13_convert 75 = .ok (.invokestatic 79, 3) := by decide +kernel
theorem dX13_convert_78 : decode cX13_convert 78 = .ok (.if_icmp .ge 8, 3) := by decide +kernel
theorem dX13_convert_81 : decode cX13_convert 81 = .ok (.iload 6, 2) := by decide +kernel
theorem dX13_convert_83 : decode cX13_convert 83 = .ok (.goto 5, 3) := by decide +kernel
theorem dX13_convert_86 : decode cX13_convert 86 = .ok (.iload 5, 2) := by decide +kernel
theorem dX13_convert_88 : decode cX13_convert 88 = .ok (.istore 5, 2) := by decide +kernel
theorem dX13_convert_90 : decode cX13_convert 90 = .ok (.iinc 6 1, 3) := by decide +kernel
theorem dX13_convert_93 : decode cX13_convert 93 = .ok (.goto (-48), 3) := by decide +kernel
theorem dX13_convert_96 : decode cX13_convert 96 = .ok (.iload 5, 2) := by decide +kernel
theorem dX13_convert_98 : decode cX13_convert 98 = .ok (.ireturn, 1) := by decide +kernel
set_option maxRecDepth 20000 in
theorem ggX13_hide_X13_in : GoodIn wsX13_hide wsX13_in := goodIn_r _ [9] (by decide +kernel) (by decide +kernel)
set_option maxRecDepth 20000 in
theorem gX13_hide_X13_in : GoodIn wsX13_hide (va_wsS RX13 63 yX13_in wsX13_in) := goodIn_app (goodIn_of _ (by decide +kernel)) ggX13_hide_X13_in
set_option maxRecDepth 20000 in
theorem ggX13_hide_X13_fails : GoodIn wsX13_hide wsX13_fails := goodIn_r _ [13, 1, 88, 89, 90, 91, 92, 93, 94, 95, 96, 97, 98, 99, 100] (by decide +kernel) (by decide +kernel)
set_option maxRecDepth 20000 in
theorem gX13_hide_X13_fails : GoodIn wsX13_hide (wsV RX13 75 RX13 yX13_fails wsX13_fails) := goodIn_app (goodIn_of _ (by decide +kernel)) ggX13_hide_X13_fails
set_option maxRecDepth 20000 in
theorem ggX13_hide_Jx4a65c_size_8abf5 : GoodIn wsX13_hide wsJx4a65c_size_8abf5 := goodIn_r _ [18, 19, 105, 106, 107] (by decide +kernel) (by decide +kernel)
set_option maxRecDepth 20000 in
theorem gX13_hide_Jx4a65c_size_8abf5_f84Jx4a65c : GoodIn wsX13_hide (va_wsF RX13 84 RJx4a65c ⟨"java/util/List", "size", "()I"⟩ yJx4a65c_size_8abf5 wsJx4a65c_size_8abf5) := goodIn_app (goodIn_of _ (by decide +kernel)) ggX13_hide_Jx4a65c_size_8abf5
set_option maxRecDepth 20000 in
theorem ggX13_hide_X10_init : GoodIn wsX13_hide wsX10_init := goodIn_r _ [22, 23, 24, 25, 26, 27, 28, 29, 30, 31, 32, 33, 34, 101, 102, 103, 104] (by decide +kernel) (by decide +kernel)
set_option maxRecDepth 20000 in
theorem gX13_hide_X10_init : GoodIn wsX13_hide (wsX10_init) := ggX13_hide_X10_init
set_option maxRecDepth 20000 in
theorem ggX13_hide_Jx4a65c_add_9ea2d : GoodIn wsX13_hide wsJx4a65c_add_9ea2d := goodIn_r _ [38, 39, 40, 41, 19, 42, 43, 44, 17, 45, 46, 47, 48, 49, 50, 51, 52, 53, 54, 55, 56, 57, 58, 59, 60, 61, 62, 63, 64, 65, 66, 67, 68, 69, 70, 33, 71, 72, 73, 74, 75, 76, 77, 78, 79, 80, 81, 82, 83, 84, 85, 86, 87, 105, 106, 107] (by decide +kernel) (by decide +kernel)
set_option maxRecDepth 20000 in
theorem gX13_hide_Jx4a65c_add_9ea2d_f90Jx4a65c : GoodIn wsX13_hide (va_wsF RX13 90 RJx4a65c ⟨"java/util/List", "add", "(Ljava/lang/Object;)Z"⟩ yJx4a65c_add_9ea2d wsJx4a65c_add_9ea2d) := goodIn_app (goodIn_of _ (by decide +kernel)) ggX13_hide_Jx4a65c_add_9ea2d
theorem dX13_hide_0 : decode cX13_hide 0 = .ok (.aload_n 0, 1) := by decide +kernel
theorem dX13_hide_1 : decode cX13_hide 1 = .ok (.iconst 0, 1) := by decide +kernel
theorem dX13_hide_2 : decode cX13_hide 2 = .ok (.putfield 48, 3) := by decide +kernel
theorem dX13_hide_5 : decode cX13_hide 5 = .ok (.iload_n 1, 1) := by decide +kernel
theorem dX13_hide_6 : decode cX13_hide 6 = .ok (.iconst 0, 1) := by decide +kernel
theorem dX13_hide_7 : decode cX13_hide 7 = .ok (.iconst 4, 1) := by decide +kernel
theorem dX13_hide_8 : decode cX13_hide 8 = .ok (.invokestatic 63, 3) := by decide +kernel
theorem dX13_hide_11 : decode cX13_hide 11 = .ok (.ifCond .eq 23, 3) := by decide +kernel
theorem dX13_hide_14 : decode cX13_hide 14 = .ok (.iload_n 2, 1) := by decide +kernel
theorem dX13_hide_15 : decode cX13_hide 15 = .ok (.iconst 1, 1) := by decide +kernel
theorem dX13_hide_16 : decode cX13_hide 16 = .ok (.bipush 12, 2) := by decide +kernel
theorem dX13_hide_18 : decode cX13_hide 18 = .ok (.invokestatic 63, 3) := by decide +kernel
theorem dX13_hide_21 : decode cX13_hide 21 = .ok (.ifCond .eq 13, 3) := by decide +kernel
theorem dX13_hide_24 : decode cX13_hide 24 = .ok (.iload_n 3, 1) := by decide +kernel
theorem dX13_hide_25 : decode cX13_hide 25 = .ok (.iconst 1, 1) := by decide +kernel
theorem dX13_hide_26 : decode cX13_hide 26 = .ok (.bipush 10, 2) := by decide +kernel
theorem dX13_hide_28 : decode cX13_hide 28 = .ok (.invokestatic 63, 3) := by decide +kernel
theorem dX13_hide_31 : decode cX13_hide 31 = .ok (.ifCond .ne 9, 3) := by decide +kernel
theorem dX13_hide_34 : decode cX13_hide 34 = .ok (.aload_n 0, 1) := by decide +kernel
theorem dX13_hide_35 : decode cX13_hide 35 = .ok (.iconst 1, 1) := by decide +kernel
theorem dX13_hide_36 : decode cX13_hide 36 = .ok (.invokevirtual 75, 3) := by decide +kernel
theorem dX13_hide_39 : decode cX13_hide 39 = .ok (.ireturn, 1) := by decide +kernel
theorem dX13_hide_40 : decode cX13_hide 40 = .ok (.aload_n 0, 1) := by decide +kernel
theorem dX13_hide_41 : decode cX13_hide 41 = .ok (.getfield 23, 3) := by decide +kernel
theorem dX13_hide_44 : decode cX13_hide 44 = .ok (.invokeinterface 84 1, 5) := by decide +kernel
theorem dX13_hide_49 : decode cX13_hide 49 = .ok (.bipush 6, 2) := by decide +kernel
theorem dX13_hide_51 : decode cX13_hide 51 = .ok (.if_icmp .ne 9, 3) := by decide +kernel
theorem dX13_hide_60 : decode cX13_hide 60 = .ok (.aload_n 0, 1) := by decide +kernel
theorem dX13_hide_61 : decode cX13_hide 61 = .ok (.getfield 23, 3) := by decide +kernel
theorem dX13_hide_64 : decode cX13_hide 64 = .ok (.new 202, 3) := by decide +kernel
theorem dX13_hide_67 : decode cX13_hide 67 = .ok (.dup, 1) := by decide +kernel
theorem dX13_hide_68 : decode cX13_hide 68 = .ok (.iload_n 1, 1) := by decide +kernel
theorem dX13_hide_69 : decode cX13_hide 69 = .ok (.iload_n 2, 1) := by decide +kernel
theorem dX13_hide_70 : decode cX13_hide 70 = .ok (.iload_n 3, 1) := by decide +kernel
theorem dX13_hide_71 : decode cX13_hide 71 = .ok (.invokespecial 204, 3) := by decide +kernel
theorem dX13_hide_74 : decode cX13_hide 74 = .ok (.invokeinterface 90 2, 5) := by decide +kernel
theorem dX13_hide_79 : decode cX13_hide 79 = .ok (.pop, 1) := by decide +kernel
theorem dX13_hide_80 : decode cX13_hide 80 = .ok (.aload_n 0, 1) := by decide +kernel
theorem dX13_hide_81 : decode cX13_hide 81 = .ok (.getfield 23, 3) := by decide +kernel
theorem dX13_hide_84 : decode cX13_hide 84 = .ok (.invokeinterface 84 1, 5) := by decide +kernel
theorem dX13_hide_89 : decode cX13_hide 89 = .ok (.iconst 1, 1) := by decide +kernel
theorem dX13_hide_90 : decode cX13_hide 90 = .ok (.isub, 1) := by decide +kernel
theorem dX13_hide_91 : decode cX13_hide 91 = .ok (.ireturn, 1) := by decide +kernel
/-- the nearest size, from the i-th on, n more -/
def cvR (c w : Int32) : Nat → Nat → Int32 → Int32
  | 0, _, b => b
  | n + 1, i, b => cvR c w n (i + 1) (cvB c w (nI i) b)
def cvLo (c : Int32) : Nat := if c = 102 then 15 else if c = 117 then 0 else if c = 97 then 1 else 150
def cvHi (c : Int32) : Nat := if c = 102 then 50 else if c = 117 then 15 else if c = 97 then 16 else 330
def cvV (a n c : Int32) : Int32 := cvR c (lenS a n) (cvHi c - cvLo c) (cvLo c + 1) (lowS c)
def cvOK (a n c : Int32) : Bool := szB a n && sysB c
theorem cv_lo (c : Int32) : lowS c = nI (cvLo c) := by
  unfold lowS cvLo
  by_cases h1 : c = 102
  · rw [if_pos h1, if_pos h1]; rfl
  · rw [if_neg h1, if_neg h1]
    by_cases h2 : c = 117
    · rw [if_pos h2, if_pos h2]; rfl
    · rw [if_neg h2, if_neg h2]
      by_cases h3 : c = 97
      · rw [if_pos h3, if_pos h3]; rfl
      · rw [if_neg h3, if_neg h3]; rfl
theorem cv_hi (c : Int32) : highS c = nI (cvHi c) := by
  unfold highS cvHi
  by_cases h1 : c = 102
  · rw [if_pos h1, if_pos h1]; rfl
  · rw [if_neg h1, if_neg h1]
    by_cases h2 : c = 117
    · rw [if_pos h2, if_pos h2]; rfl
    · rw [if_neg h2, if_neg h2]
      by_cases h3 : c = 97
      · rw [if_pos h3, if_pos h3]; rfl
      · rw [if_neg h3, if_neg h3]; rfl
theorem cv_lh (c : Int32) : cvLo c ≤ cvHi c ∧ cvHi c < 1000 := by
  unfold cvLo cvHi
  by_cases h1 : c = 102
  · rw [if_pos h1, if_pos h1]; decide
  · rw [if_neg h1, if_neg h1]
    by_cases h2 : c = 117
    · rw [if_pos h2, if_pos h2]; decide
    · rw [if_neg h2, if_neg h2]
      by_cases h3 : c = 97
      · rw [if_pos h3, if_pos h3]; decide
      · rw [if_neg h3, if_neg h3]; decide
theorem cv_lo1 (c : Int32) : lowS c + 1 = nI (cvLo c + 1) := by rw [cv_lo]; exact nI_1 _
theorem cv_over (c : Int32) : highS c < nI (cvHi c + 1) := by
  rw [cv_hi]
  exact nI_lt (Nat.lt_succ_self _) (by have := (cv_lh c).2; omega)
theorem cv_in (c : Int32) {i : Nat} (h : i ≤ cvHi c) : ¬ highS c < nI i := by
  rw [cv_hi]
  exact nI_nlt h (by have := (cv_lh c).2; omega)
theorem cv_yes {c w o b B : Int32} {n i : Nat} (e : o = nI i) (hB : cvR c w (n + 1) i b = B) (h : ¬ (if 0 ≤ lenS c b - w then lenS c b - w else 0 - (lenS c b - w)) ≤ (if 0 ≤ lenS c o - w then lenS c o - w else 0 - (lenS c o - w))) : cvR c w n (i + 1) o = B := by
  subst e
  rw [← hB]
  show _ = cvR c w n (i + 1) (cvB c w (nI i) b)
  unfold cvB
  rw [if_pos (Int32.not_le.mp h)]
theorem cv_no {c w o b B : Int32} {n i : Nat} (e : o = nI i) (hB : cvR c w (n + 1) i b = B) (h : (if 0 ≤ lenS c b - w then lenS c b - w else 0 - (lenS c b - w)) ≤ (if 0 ≤ lenS c o - w then lenS c o - w else 0 - (lenS c o - w))) : cvR c w n (i + 1) b = B := by
  subst e
  rw [← hB]
  show _ = cvR c w n (i + 1) (cvB c w (nI i) b)
  unfold cvB
  rw [if_neg (Int32.not_lt.mpr h)]
theorem cv_first (a n c : Int32) : cvR c (lenS a n) (cvHi c - cvLo c + 1) (cvLo c) (lowS c) = cvV a n c := by
  show cvR c (lenS a n) (cvHi c - cvLo c) (cvLo c + 1) (cvB c (lenS a n) (nI (cvLo c)) (lowS c)) = _
  rw [← cv_lo]
  unfold cvB
  rw [if_neg (Int32.not_lt.mpr (Int32.le_refl _))]
  rfl
theorem hid_n {b c : Int32} (h1 : rg b 1 12 = true) (h2 : rg c 1 10 = true) : ∃ N : Nat, b * c = nI N ∧ N ≤ 120 := by
  obtain ⟨x1, x2⟩ := rg_iff.mp h1
  obtain ⟨y1, y2⟩ := rg_iff.mp h2
  have e1 : (1 : Int32).toInt = 1 := by decide
  have e0 : (0 : Int32).toInt = 0 := by decide
  have hx : ¬ b < 0 := by
    rw [Int32.le_iff_toInt_le] at x1
    rw [Int32.lt_iff_toInt_lt]
    omega
  have hy : ¬ c < 0 := by
    rw [Int32.le_iff_toInt_le] at y1
    rw [Int32.lt_iff_toInt_lt]
    omega
  obtain ⟨i, hi, rfl⟩ := nI_of2 (M := 12) (n := 12) (by decide) hx x2
  obtain ⟨j, hj, rfl⟩ := nI_of2 (M := 10) (n := 10) (by decide) hy y2
  refine ⟨i * j, pk_mul i j, ?_⟩
  exact Nat.le_trans (Nat.mul_le_mul hi hj) (by decide)
-- ===== rows =====
set_option maxHeartbeats 4000000 in
set_option maxRecDepth 100000 in
/-- the nearest size: the loop of the class -/
theorem lp_conv {p : Program} {l : Launch} {e : Env} {R : Room} {s : State} {m : MethodId} {args : Array Value} {below : List Frame} {meth : Method} {c : Code} {A : Nat → Prop} {Q : State → Prop} {cells slots : Nat} (D : va_G) (tC tE : Nat) (x q0 q1 q2 q3 q4 q5 q6 : Nat) (c0 w B : Int32) (hx : p.tables.exec = Jvm.exec) (hb : c.code = cX9_convert) (hml : c.maxLocals = 7) (hts : ∀ w ∈ wsX9_convert, w.before args s = true) (hown : s.vm.findClass RX9 = some m.cls) (hK : va_K D vwCl [] s) (hG : G0 tC tE A s) (hA : ∀ q : Nat, s.heap.size ≤ q → A q) (hfr : 1 ≤ R.frames) (hlo : 40 ≤ R.locals) (hc : cells ≤ R.cells) (hs : slots ≤ R.slots)
    (kk : ∀ (H : Heap) (locs : List Loc) (ls : Array Slot), va_P D vwCl [(x, .inr (13, [.ref q0, .ref q1, .ref q2, .ref q3, .ref q4, .ref q5, .ref q6, .int 0, .int 0, .int 0, .int 0, .int 0, .int 0, .int 0]))] H → va_D A [(x, .inr (13, [.ref q0, .ref q1, .ref q2, .ref q3, .ref q4, .ref q5, .ref q6, .int 0, .int 0, .int 0, .int 0, .int 0, .int 0, .int 0]))] → va_S A s.heap H locs → lv_has ls 7 [(6, .int (nI (cvHi c0 + 1))), (5, .int B), (4, .int w), (3, .int c0)] → W p l e R s m args below meth c H locs cells slots Q (F0 m 87 ls [])) :
    ∀ (n i : Nat) (b : Int32) (H : Heap) (locs : List Loc) (ls : Array Slot), i + n = cvHi c0 + 1 → cvR c0 w n i b = B → va_P D vwCl [(x, .inr (13, [.ref q0, .ref q1, .ref q2, .ref q3, .ref q4, .ref q5, .ref q6, .int 0, .int 0, .int 0, .int 0, .int 0, .int 0, .int 0]))] H → va_D A [(x, .inr (13, [.ref q0, .ref q1, .ref q2, .ref q3, .ref q4, .ref q5, .ref q6, .int 0, .int 0, .int 0, .int 0, .int 0, .int 0, .int 0]))] → va_S A s.heap H locs → lv_has ls 7 [(6, .int (nI i)), (5, .int b), (4, .int w), (3, .int c0)] → W p l e R s m args below meth c H locs cells slots Q (F0 m 41 ls []) := by
  intro n
  induction n with
  | zero =>
    intro i b H locs ls hn hBB hP hD hS hl
    obtain rfl : i = cvHi c0 + 1 := by omega
    obtain rfl : b = B := hBB
    refine lv_iload hx hb dX9_convert_41 (lv_at hl 0 rfl) ?_
    refine lv_iload_n hx hb dX9_convert_43 rfl (lv_at hl 3 rfl) ?_
    have hFc := va_free (wc := []) hD hS hA [] rfl
    refine va_calli (va_runS (As := [.int c0]) (rest := [.int (nI (cvHi c0 + 1))]) ⟨hx, hb, hml, hown, hts⟩ (c_highestSize l D tC tE H.size c0) (va_cwS 1 hts gX9_convert_X9_highestSize rfl rfl rfl (by decide +kernel) ⟨(Nat.le_trans (Nat.le_of_ble_eq_true rfl) hfr), (Nat.le_trans (Nat.le_of_ble_eq_true rfl) hlo)⟩) ⟨pg_blind, (pg_pre hP hD hK hG hS hFc [] rfl (by decide) [] rfl _)⟩ rfl rfl hl.1 rfl (lv_room (Nat.le_of_ble_eq_true rfl)) dX9_convert_44 ⟨hc, hs⟩) hS (fun q _ h => hFc q h) hFc (fun r_1 u_2 t H locs ht hvm hw hB hz1 hk1 hS => ?_)
    subst hw
    obtain ⟨hP, hD, hK⟩ := jn (wr := [(x, .inr (13, [.ref q0, .ref q1, .ref q2, .ref q3, .ref q4, .ref q5, .ref q6, .int 0, .int 0, .int 0, .int 0, .int 0, .int 0, .int 0]))]) (w1 := []) (t1 := []) (tr := []) hP hD hK [] [0] rfl rfl (by decide) (by decide) [] rfl hk1 hFc hB rfl rfl ht hvm
    have hP : va_P D vwCl [(x, .inr (13, [.ref q0, .ref q1, .ref q2, .ref q3, .ref q4, .ref q5, .ref q6, .int 0, .int 0, .int 0, .int 0, .int 0, .int 0, .int 0]))] H := hP
    have hD : va_D A [(x, .inr (13, [.ref q0, .ref q1, .ref q2, .ref q3, .ref q4, .ref q5, .ref q6, .int 0, .int 0, .int 0, .int 0, .int 0, .int 0, .int 0]))] := hD
    have hK : va_K D vwCl [] s := hK
    refine W.widen (k := cells) (n := slots) (Nat.le_refl _) (Nat.le_refl _) ?_
    refine lv_icmp_gt (tgt := 87) hx hb dX9_convert_47 (by decide) (fun c_3 => ?_) (fun c_3 => absurd (cv_over c0) c_3)
    exact kk _ _ _ hP hD hS hl
  | succ n ih =>
    intro i b H locs ls hn hBB hP hD hS hl
    have hi : i ≤ cvHi c0 := by omega
    refine lv_iload hx hb dX9_convert_41 (lv_at hl 0 rfl) ?_
    refine lv_iload_n hx hb dX9_convert_43 rfl (lv_at hl 3 rfl) ?_
    have hFc := va_free (wc := []) hD hS hA [] rfl
    refine va_calli (va_runS (As := [.int c0]) (rest := [.int (nI i)]) ⟨hx, hb, hml, hown, hts⟩ (c_highestSize l D tC tE H.size c0) (va_cwS 1 hts gX9_convert_X9_highestSize rfl rfl rfl (by decide +kernel) ⟨(Nat.le_trans (Nat.le_of_ble_eq_true rfl) hfr), (Nat.le_trans (Nat.le_of_ble_eq_true rfl) hlo)⟩) ⟨pg_blind, (pg_pre hP hD hK hG hS hFc [] rfl (by decide) [] rfl _)⟩ rfl rfl hl.1 rfl (lv_room (Nat.le_of_ble_eq_true rfl)) dX9_convert_44 ⟨hc, hs⟩) hS (fun q _ h => hFc q h) hFc (fun r_4 u_5 t H locs ht hvm hw hB hz1 hk1 hS => ?_)
    subst hw
    obtain ⟨hP, hD, hK⟩ := jn (wr := [(x, .inr (13, [.ref q0, .ref q1, .ref q2, .ref q3, .ref q4, .ref q5, .ref q6, .int 0, .int 0, .int 0, .int 0, .int 0, .int 0, .int 0]))]) (w1 := []) (t1 := []) (tr := []) hP hD hK [] [0] rfl rfl (by decide) (by decide) [] rfl hk1 hFc hB rfl rfl ht hvm
    have hP : va_P D vwCl [(x, .inr (13, [.ref q0, .ref q1, .ref q2, .ref q3, .ref q4, .ref q5, .ref q6, .int 0, .int 0, .int 0, .int 0, .int 0, .int 0, .int 0]))] H := hP
    have hD : va_D A [(x, .inr (13, [.ref q0, .ref q1, .ref q2, .ref q3, .ref q4, .ref q5, .ref q6, .int 0, .int 0, .int 0, .int 0, .int 0, .int 0, .int 0]))] := hD
    have hK : va_K D vwCl [] s := hK
    refine W.widen (k := cells) (n := slots) (Nat.le_refl _) (Nat.le_refl _) ?_
    refine lv_icmp_gt (tgt := 87) hx hb dX9_convert_47 (by decide) (fun c_6 => absurd c_6 (cv_in c0 hi)) (fun c_6 => ?_)
    refine lv_iload_n hx hb dX9_convert_50 rfl (lv_at hl 3 rfl) ?_
    refine lv_iload hx hb dX9_convert_51 (lv_at hl 0 rfl) ?_
    have hFc := va_free (wc := []) hD hS hA [] rfl
    refine va_calli (va_runS (As := [.int c0, .int (nI i)]) (rest := []) ⟨hx, hb, hml, hown, hts⟩ (c_lengthOf l D tC tE H.size c0 (nI i)) (va_cwS 2 hts gX9_convert_X9_lengthOf rfl rfl rfl (by decide +kernel) ⟨(Nat.le_trans (Nat.le_of_ble_eq_true rfl) hfr), (Nat.le_trans (Nat.le_of_ble_eq_true rfl) hlo)⟩) ⟨pg_blind, (pg_pre hP hD hK hG hS hFc [] rfl (by decide) [] rfl _)⟩ rfl rfl hl.1 rfl (lv_room (Nat.le_of_ble_eq_true rfl)) dX9_convert_53 ⟨hc, hs⟩) hS (fun q _ h => hFc q h) hFc (fun r_7 u_8 t H locs ht hvm hw hB hz1 hk1 hS => ?_)
    subst hw
    obtain ⟨hP, hD, hK⟩ := jn (wr := [(x, .inr (13, [.ref q0, .ref q1, .ref q2, .ref q3, .ref q4, .ref q5, .ref q6, .int 0, .int 0, .int 0, .int 0, .int 0, .int 0, .int 0]))]) (w1 := []) (t1 := []) (tr := []) hP hD hK [] [0] rfl rfl (by decide) (by decide) [] rfl hk1 hFc hB rfl rfl ht hvm
    have hP : va_P D vwCl [(x, .inr (13, [.ref q0, .ref q1, .ref q2, .ref q3, .ref q4, .ref q5, .ref q6, .int 0, .int 0, .int 0, .int 0, .int 0, .int 0, .int 0]))] H := hP
    have hD : va_D A [(x, .inr (13, [.ref q0, .ref q1, .ref q2, .ref q3, .ref q4, .ref q5, .ref q6, .int 0, .int 0, .int 0, .int 0, .int 0, .int 0, .int 0]))] := hD
    have hK : va_K D vwCl [] s := hK
    refine W.widen (k := cells) (n := slots) (Nat.le_refl _) (Nat.le_refl _) ?_
    refine lv_iload hx hb dX9_convert_56 (lv_at hl 2 rfl) ?_
    refine lv_isub hx hb dX9_convert_58 ?_
    refine va_mabs hx hb (hml.trans hl.1.symm) hown (hts (.methodLink RX9 76 Lib.Math.abs.name) (List.mem_of_getElem? (i := 3) rfl)) (hts (.static Lib.Math.abs.name) (List.mem_of_getElem? (i := 4) rfl)) (hts (.initialized "java/lang/Math") (List.mem_of_getElem? (i := 5) rfl)) (hts (.code Lib.Math.abs.name Lib.Math.abs.code 1 (some .int)) (List.mem_of_getElem? (i := 6) rfl)) (Nat.le_trans (Nat.le_of_ble_eq_true rfl) hfr) (Nat.le_trans (Nat.le_of_ble_eq_true rfl) hlo) hc hs dX9_convert_59 ?_
    refine lv_iload_n hx hb dX9_convert_62 rfl (lv_at hl 3 rfl) ?_
    refine lv_iload hx hb dX9_convert_63 (lv_at hl 1 rfl) ?_
    have hFc := va_free (wc := []) hD hS hA [] rfl
    refine va_calli (va_runS (As := [.int c0, .int b]) (rest := [.int (if 0 ≤ ((lenS c0 (nI i)) - w) then ((lenS c0 (nI i)) - w) else 0 - ((lenS c0 (nI i)) - w))]) ⟨hx, hb, hml, hown, hts⟩ (c_lengthOf l D tC tE H.size c0 b) (va_cwS 2 hts gX9_convert_X9_lengthOf rfl rfl rfl (by decide +kernel) ⟨(Nat.le_trans (Nat.le_of_ble_eq_true rfl) hfr), (Nat.le_trans (Nat.le_of_ble_eq_true rfl) hlo)⟩) ⟨pg_blind, (pg_pre hP hD hK hG hS hFc [] rfl (by decide) [] rfl _)⟩ rfl rfl hl.1 rfl (lv_room (Nat.le_of_ble_eq_true rfl)) dX9_convert_65 ⟨hc, hs⟩) hS (fun q _ h => hFc q h) hFc (fun r_9 u_10 t H locs ht hvm hw hB hz1 hk1 hS => ?_)
    subst hw
    obtain ⟨hP, hD, hK⟩ := jn (wr := [(x, .inr (13, [.ref q0, .ref q1, .ref q2, .ref q3, .ref q4, .ref q5, .ref q6, .int 0, .int 0, .int 0, .int 0, .int 0, .int 0, .int 0]))]) (w1 := []) (t1 := []) (tr := []) hP hD hK [] [0] rfl rfl (by decide) (by decide) [] rfl hk1 hFc hB rfl rfl ht hvm
    have hP : va_P D vwCl [(x, .inr (13, [.ref q0, .ref q1, .ref q2, .ref q3, .ref q4, .ref q5, .ref q6, .int 0, .int 0, .int 0, .int 0, .int 0, .int 0, .int 0]))] H := hP
    have hD : va_D A [(x, .inr (13, [.ref q0, .ref q1, .ref q2, .ref q3, .ref q4, .ref q5, .ref q6, .int 0, .int 0, .int 0, .int 0, .int 0, .int 0, .int 0]))] := hD
    have hK : va_K D vwCl [] s := hK
    refine W.widen (k := cells) (n := slots) (Nat.le_refl _) (Nat.le_refl _) ?_
    refine lv_iload hx hb dX9_convert_68 (lv_at hl 2 rfl) ?_
    refine lv_isub hx hb dX9_convert_70 ?_
    refine va_mabs hx hb (hml.trans hl.1.symm) hown (hts (.methodLink RX9 76 Lib.Math.abs.name) (List.mem_of_getElem? (i := 3) rfl)) (hts (.static Lib.Math.abs.name) (List.mem_of_getElem? (i := 4) rfl)) (hts (.initialized "java/lang/Math") (List.mem_of_getElem? (i := 5) rfl)) (hts (.code Lib.Math.abs.name Lib.Math.abs.code 1 (some .int)) (List.mem_of_getElem? (i := 6) rfl)) (Nat.le_trans (Nat.le_of_ble_eq_true rfl) hfr) (Nat.le_trans (Nat.le_of_ble_eq_true rfl) hlo) hc hs dX9_convert_71 ?_
    refine lv_icmp_ge (tgt := 81) hx hb dX9_convert_74 (by decide) (fun c_12 => ?_) (fun c_12 => ?_)
    · refine lv_iinc (v := nI (i + 1)) (lv' := [(6, .int (nI (i + 1))), (5, .int b), (4, .int w), (3, .int c0)]) hx hb dX9_convert_81 hl (k := 0) rfl (show nI i + 1 = nI (i + 1) from nI_1 i) (by decide) rfl (fun ls hl => ?_)
      refine lv_goto (tgt := 41) hx hb dX9_convert_84 (by decide) ?_
      exact ih (i + 1) b _ _ _ (by omega) (cv_no rfl hBB c_12) hP hD hS (lv_sub hl [0, 1, 2, 3] rfl)
    · refine lv_iload hx hb dX9_convert_77 (lv_at hl 0 rfl) ?_
      refine lv_istore (lv' := [(5, .int (nI i)), (6, .int (nI i)), (4, .int w), (3, .int c0)]) hx hb dX9_convert_79 hl (by decide) rfl (fun ls hl => ?_)
      refine lv_iinc (v := nI (i + 1)) (lv' := [(6, .int (nI (i + 1))), (5, .int (nI i)), (4, .int w), (3, .int c0)]) hx hb dX9_convert_81 hl (k := 1) rfl (show nI i + 1 = nI (i + 1) from nI_1 i) (by decide) rfl (fun ls hl => ?_)
      refine lv_goto (tgt := 41) hx hb dX9_convert_84 (by decide) ?_
      exact ih (i + 1) (nI i) _ _ _ (by omega) (cv_yes rfl hBB c_12) hP hD hS (lv_sub hl [0, 1, 2, 3] rfl)
set_option maxHeartbeats 4000000 in
set_option maxRecDepth 100000 in
/-- convert on a fresh object -/
theorem c_convert (l : Launch) (hlt : l.stackTraces = false) (D : va_G) (tC tE sz : Nat) (x q0 q1 q2 q3 q4 q5 q6 : Nat) (a1 a2 a3 : Int32) : vx_Met l yX9_convert wsX9_convert ({ frames := 8, cells := 2, slots := 12, locals := 125 }) (Pg D tC tE sz [(x, .inr (13, [.ref q0, .ref q1, .ref q2, .ref q3, .ref q4, .ref q5, .ref q6, .int 0, .int 0, .int 0, .int 0, .int 0, .int 0, .int 0]))] [] [.ref x, .int a1, .int a2, .int a3]) (Qgi (S := Unit) D (fun u => []) (fun u => []) (fun r _ => cvOK a1 a2 a3 = true ∧ r = cvV a1 a2 a3) (va_A [(x, .inr (13, [.ref q0, .ref q1, .ref q2, .ref q3, .ref q4, .ref q5, .ref q6, .int 0, .int 0, .int 0, .int 0, .int 0, .int 0, .int 0]))] sz)) (XX (fun E => E = gx_iae ∧ cvOK a1 a2 a3 = false) (va_A [(x, .inr (13, [.ref q0, .ref q1, .ref q2, .ref q3, .ref q4, .ref q5, .ref q6, .int 0, .int 0, .int 0, .int 0, .int 0, .int 0, .int 0]))] sz)) 2 12 (va_A [(x, .inr (13, [.ref q0, .ref q1, .ref q2, .ref q3, .ref q4, .ref q5, .ref q6, .int 0, .int 0, .int 0, .int 0, .int 0, .int 0, .int 0]))] sz) := by
  refine og_x (cc := cX9_convert) (maxL := 7) (ret := (some .int)) (Qc := Qgi (S := Unit) D (fun u => []) (fun u => []) (fun r _ => cvOK a1 a2 a3 = true ∧ r = cvV a1 a2 a3)) (XC := XX (fun E => E = gx_iae ∧ cvOK a1 a2 a3 = false)) (by decide) rfl (Nat.le_of_ble_eq_true rfl) ?_
  intro p e s m below meth c A hx hb hr hml hts hown hlocks hin htab hP hD hK hG hA hS ls hl
  have hl : lv_has ls 7 [(0, .ref x), (1, .int a1), (2, .int a2), (3, .int a3)] := hl
  refine lv_iload_n hx hb dX9_convert_0 rfl (lv_at hl 1 rfl) ?_
  refine lv_iload_n hx hb dX9_convert_1 rfl (lv_at hl 2 rfl) ?_
  have hFc := va_free (wc := []) hD hS hA [] rfl
  refine vx_callv (vx_runS (As := [.int a1, .int a2]) (rest := []) ⟨hx, hb, hml, hown, hts⟩ (c_demandSize l hlt D tC tE s.heap.size a1 a2) (va_cwS 2 hts gX9_convert_X9_demandSize rfl rfl rfl (by decide +kernel) ⟨(Nat.le_of_ble_eq_true rfl), (Nat.le_of_ble_eq_true rfl)⟩) ⟨pg_blind, (pg_pre hP hD hK hG hS hFc [] rfl (by decide) [] rfl _)⟩ rfl rfl hl.1 rfl (lv_room (Nat.le_of_ble_eq_true rfl)) dX9_convert_2 ⟨(Nat.le_of_ble_eq_true rfl), (Nat.le_of_ble_eq_true rfl)⟩) hS (fun q _ h => hFc q h) hFc (fun q _ h => hFc q h) (fun E ce q9 u t H1 locs1 ht hvm hw hB hz1 hk1 hS hce hcv hcl => ?_) (fun u_1 t H locs ht hvm hw hB hz1 hk1 hS => ?_)
  · obtain ⟨hE, hf⟩ := hB
    subst hE
    exact vx_widen (k := 1) (n := 6) (Nat.le_of_ble_eq_true rfl) (Nat.le_of_ble_eq_true rfl) (vx_out (fun x hx => (htab x hx).elim) hlocks hce hcv hcl (xx_out hS ⟨rfl, by simp [cvOK, hf]⟩) hS.2.2 (Nat.le_of_ble_eq_true rfl) (Nat.le_of_ble_eq_true rfl))
  · have h_2 := hw
    obtain ⟨hP, hD, hK⟩ := jn (wr := [(x, .inr (13, [.ref q0, .ref q1, .ref q2, .ref q3, .ref q4, .ref q5, .ref q6, .int 0, .int 0, .int 0, .int 0, .int 0, .int 0, .int 0]))]) (w1 := []) (t1 := []) (tr := []) hP hD hK [] [0] rfl rfl (by decide) (by decide) [] rfl hk1 hFc hB rfl rfl ht hvm
    have hP : va_P D vwCl [(x, .inr (13, [.ref q0, .ref q1, .ref q2, .ref q3, .ref q4, .ref q5, .ref q6, .int 0, .int 0, .int 0, .int 0, .int 0, .int 0, .int 0]))] H := hP
    have hD : va_D A [(x, .inr (13, [.ref q0, .ref q1, .ref q2, .ref q3, .ref q4, .ref q5, .ref q6, .int 0, .int 0, .int 0, .int 0, .int 0, .int 0, .int 0]))] := hD
    have hK : va_K D vwCl [] s := hK
    refine W.widen (k := 1) (n := 6) (Nat.le_of_ble_eq_true rfl) (Nat.le_of_ble_eq_true rfl) ?_
    refine lv_iload_n hx hb dX9_convert_5 rfl (lv_at hl 3 rfl) ?_
    have hFc := va_free (wc := []) hD hS hA [] rfl
    refine va_calli (va_runS (As := [.int a3]) (rest := []) ⟨hx, hb, hml, hown, hts⟩ (c_isSystem l D tC tE H.size a3) (va_cwS 1 hts gX9_convert_X9_isSystem rfl rfl rfl (by decide +kernel) ⟨(Nat.le_of_ble_eq_true rfl), (Nat.le_of_ble_eq_true rfl)⟩) ⟨pg_blind, (pg_pre hP hD hK hG hS hFc [] rfl (by decide) [] rfl _)⟩ rfl rfl hl.1 rfl (lv_room (Nat.le_of_ble_eq_true rfl)) dX9_convert_6 ⟨(Nat.le_of_ble_eq_true rfl), (Nat.le_of_ble_eq_true rfl)⟩) hS (fun q _ h => hFc q h) hFc (fun r_3 u_4 t H locs ht hvm hw hB hz1 hk1 hS => ?_)
    obtain ⟨hP, hD, hK⟩ := jn (wr := [(x, .inr (13, [.ref q0, .ref q1, .ref q2, .ref q3, .ref q4, .ref q5, .ref q6, .int 0, .int 0, .int 0, .int 0, .int 0, .int 0, .int 0]))]) (w1 := []) (t1 := []) (tr := []) hP hD hK [] [0] rfl rfl (by decide) (by decide) [] rfl hk1 hFc hB rfl rfl ht hvm
    have hP : va_P D vwCl [(x, .inr (13, [.ref q0, .ref q1, .ref q2, .ref q3, .ref q4, .ref q5, .ref q6, .int 0, .int 0, .int 0, .int 0, .int 0, .int 0, .int 0]))] H := hP
    have hD : va_D A [(x, .inr (13, [.ref q0, .ref q1, .ref q2, .ref q3, .ref q4, .ref q5, .ref q6, .int 0, .int 0, .int 0, .int 0, .int 0, .int 0, .int 0]))] := hD
    have hK : va_K D vwCl [] s := hK
    refine W.widen (k := 1) (n := 6) (Nat.le_of_ble_eq_true rfl) (Nat.le_of_ble_eq_true rfl) ?_
    rcases hw with ⟨q_6, h_5⟩ | ⟨q_6, h_5⟩
    · subst q_6
      refine lv_if_ne (tgt := 22) hx hb dX9_convert_9 (by decide) (fun c_7 => ?_) (fun c_7 => absurd c_7 (by decide))
      refine lv_iload_n hx hb dX9_convert_22 rfl (lv_at hl 1 rfl) ?_
      refine lv_iload_n hx hb dX9_convert_23 rfl (lv_at hl 2 rfl) ?_
      have hFc := va_free (wc := []) hD hS hA [] rfl
      refine va_calli (va_runS (As := [.int a1, .int a2]) (rest := []) ⟨hx, hb, hml, hown, hts⟩ (c_lengthOf l D tC tE H.size a1 a2) (va_cwS 2 hts gX9_convert_X9_lengthOf rfl rfl rfl (by decide +kernel) ⟨(Nat.le_of_ble_eq_true rfl), (Nat.le_of_ble_eq_true rfl)⟩) ⟨pg_blind, (pg_pre hP hD hK hG hS hFc [] rfl (by decide) [] rfl _)⟩ rfl rfl hl.1 rfl (lv_room (Nat.le_of_ble_eq_true rfl)) dX9_convert_24 ⟨(Nat.le_of_ble_eq_true rfl), (Nat.le_of_ble_eq_true rfl)⟩) hS (fun q _ h => hFc q h) hFc (fun r_8 u_9 t H locs ht hvm hw hB hz1 hk1 hS => ?_)
      subst hw
      obtain ⟨hP, hD, hK⟩ := jn (wr := [(x, .inr (13, [.ref q0, .ref q1, .ref q2, .ref q3, .ref q4, .ref q5, .ref q6, .int 0, .int 0, .int 0, .int 0, .int 0, .int 0, .int 0]))]) (w1 := []) (t1 := []) (tr := []) hP hD hK [] [0] rfl rfl (by decide) (by decide) [] rfl hk1 hFc hB rfl rfl ht hvm
      have hP : va_P D vwCl [(x, .inr (13, [.ref q0, .ref q1, .ref q2, .ref q3, .ref q4, .ref q5, .ref q6, .int 0, .int 0, .int 0, .int 0, .int 0, .int 0, .int 0]))] H := hP
      have hD : va_D A [(x, .inr (13, [.ref q0, .ref q1, .ref q2, .ref q3, .ref q4, .ref q5, .ref q6, .int 0, .int 0, .int 0, .int 0, .int 0, .int 0, .int 0]))] := hD
      have hK : va_K D vwCl [] s := hK
      refine W.widen (k := 1) (n := 6) (Nat.le_of_ble_eq_true rfl) (Nat.le_of_ble_eq_true rfl) ?_
      refine lv_istore (lv' := [(4, .int (lenS a1 a2)), (0, .ref x), (1, .int a1), (2, .int a2), (3, .int a3)]) hx hb dX9_convert_27 hl (by decide) rfl (fun ls hl => ?_)
      refine lv_iload_n hx hb dX9_convert_29 rfl (lv_at hl 4 rfl) ?_
      have hFc := va_free (wc := []) hD hS hA [] rfl
      refine va_calli (va_runS (As := [.int a3]) (rest := []) ⟨hx, hb, hml, hown, hts⟩ (c_lowestSize l D tC tE H.size a3) (va_cwS 1 hts gX9_convert_X9_lowestSize rfl rfl rfl (by decide +kernel) ⟨(Nat.le_of_ble_eq_true rfl), (Nat.le_of_ble_eq_true rfl)⟩) ⟨pg_blind, (pg_pre hP hD hK hG hS hFc [] rfl (by decide) [] rfl _)⟩ rfl rfl hl.1 rfl (lv_room (Nat.le_of_ble_eq_true rfl)) dX9_convert_30 ⟨(Nat.le_of_ble_eq_true rfl), (Nat.le_of_ble_eq_true rfl)⟩) hS (fun q _ h => hFc q h) hFc (fun r_10 u_11 t H locs ht hvm hw hB hz1 hk1 hS => ?_)
      subst hw
      obtain ⟨hP, hD, hK⟩ := jn (wr := [(x, .inr (13, [.ref q0, .ref q1, .ref q2, .ref q3, .ref q4, .ref q5, .ref q6, .int 0, .int 0, .int 0, .int 0, .int 0, .int 0, .int 0]))]) (w1 := []) (t1 := []) (tr := []) hP hD hK [] [0] rfl rfl (by decide) (by decide) [] rfl hk1 hFc hB rfl rfl ht hvm
      have hP : va_P D vwCl [(x, .inr (13, [.ref q0, .ref q1, .ref q2, .ref q3, .ref q4, .ref q5, .ref q6, .int 0, .int 0, .int 0, .int 0, .int 0, .int 0, .int 0]))] H := hP
      have hD : va_D A [(x, .inr (13, [.ref q0, .ref q1, .ref q2, .ref q3, .ref q4, .ref q5, .ref q6, .int 0, .int 0, .int 0, .int 0, .int 0, .int 0, .int 0]))] := hD
      have hK : va_K D vwCl [] s := hK
      refine W.widen (k := 1) (n := 6) (Nat.le_of_ble_eq_true rfl) (Nat.le_of_ble_eq_true rfl) ?_
      refine lv_istore (lv' := [(5, .int (lowS a3)), (4, .int (lenS a1 a2)), (0, .ref x), (1, .int a1), (2, .int a2), (3, .int a3)]) hx hb dX9_convert_33 hl (by decide) rfl (fun ls hl => ?_)
      refine lv_iload hx hb dX9_convert_35 (lv_at hl 0 rfl) ?_
      refine lv_iconst (v := 1) hx hb dX9_convert_37 (by decide) ?_
      refine lv_iadd hx hb dX9_convert_38 ?_
      refine lv_topi (fun y hy => ?_)
      rw [cv_lo1] at hy
      subst hy
      refine lv_istore (lv' := [(6, .int (nI (cvLo a3 + 1))), (5, .int (lowS a3)), (4, .int (lenS a1 a2)), (0, .ref x), (1, .int a1), (2, .int a2), (3, .int a3)]) hx hb dX9_convert_39 hl (by decide) rfl (fun ls hl => ?_)
      refine lp_conv D tC tE x q0 q1 q2 q3 q4 q5 q6 a3 (lenS a1 a2) (cvV a1 a2 a3) hx hb hml hts hown (hK.sub [] rfl) hG hA (Nat.le_of_ble_eq_true rfl) (Nat.le_of_ble_eq_true rfl) (Nat.le_of_ble_eq_true rfl) (Nat.le_of_ble_eq_true rfl) (fun H locs ls hP hD hS hl => ?_) (cvHi a3 - cvLo a3) (cvLo a3 + 1) (lowS a3) _ _ _ (by have := (cv_lh a3).1; omega) rfl (hP.sub [0] rfl) (hD.sub [0] (by decide) rfl) hS (lv_sub hl [0, 1, 2, 6] rfl)
      have hl : lv_has ls 7 [(6, .int (nI (cvHi a3 + 1))), (5, .int (cvV a1 a2 a3)), (4, .int (lenS a1 a2)), (3, .int a3)] := hl
      have hP : va_P D vwCl [(x, .inr (13, [.ref q0, .ref q1, .ref q2, .ref q3, .ref q4, .ref q5, .ref q6, .int 0, .int 0, .int 0, .int 0, .int 0, .int 0, .int 0]))] H := hP
      have hD : va_D A [(x, .inr (13, [.ref q0, .ref q1, .ref q2, .ref q3, .ref q4, .ref q5, .ref q6, .int 0, .int 0, .int 0, .int 0, .int 0, .int 0, .int 0]))] := hD
      have hK := hK.sub (tys' := []) [] rfl
      refine lv_iload hx hb dX9_convert_87 (lv_at hl 1 rfl) ?_
      have hP9 := hP.sub (ws' := []) [] rfl
      have hD9 := hD.sub (ws' := []) [] (by decide) rfl
      have hK9 := hK.sub (tys' := []) [] rfl
      exact vx_ret (end_i hx hb hr hlocks hP9 hD9 hK9 hS () rfl rfl ⟨by simp [cvOK, h_2, h_5], rfl⟩ (Nat.le_of_ble_eq_true rfl) (Nat.le_of_ble_eq_true rfl) dX9_convert_89)
    · subst q_6
      refine lv_if_ne (tgt := 22) hx hb dX9_convert_9 (by decide) (fun c_12 => absurd (by decide) c_12) (fun c_12 => ?_)
      exact th_s (i := 0) gx_thr_iae hx hb hlt hown (hts (.classLink RX9 62 "java/lang/IllegalArgumentException") (List.mem_of_getElem? (i := 1) rfl)) (hts (.initialized "java/lang/IllegalArgumentException") (List.mem_of_getElem? (i := 2) rfl)) (fun w h => hts w (List.mem_cons_of_mem _ (List.mem_append_right _ h))) rfl hG hS (hl.1.trans hml.symm) htab hlocks dX9_convert_12 dX9_convert_15 dX9_convert_16 dX9_convert_18 dX9_convert_21 ⟨rfl, by simp [cvOK, h_2, h_5]⟩ (Nat.le_of_ble_eq_true rfl) (Nat.le_of_ble_eq_true rfl) (Nat.le_of_ble_eq_true rfl) (Nat.le_of_ble_eq_true rfl) (Nat.le_of_ble_eq_true rfl) (Nat.le_of_ble_eq_true rfl)
set_option maxHeartbeats 4000000 in
set_option maxRecDepth 100000 in
/-- the nearest size: the loop of the reference -/
theorem lp_convM {p : Program} {l : Launch} {e : Env} {R : Room} {s : State} {m : MethodId} {args : Array Value} {below : List Frame} {meth : Method} {c : Code} {A : Nat → Prop} {Q : State → Prop} {cells slots : Nat} (D : va_G) (tC tE : Nat) (mm l0 l1 l2 l3 l4 la sk ab bu cu sd : Nat) (c0 w B : Int32) (hx : p.tables.exec = Jvm.exec) (hb : c.code = cX13_convert) (hml : c.maxLocals = 7) (hts : ∀ w ∈ wsX13_convert, w.before args s = true) (hown : s.vm.findClass RX13 = some m.cls) (hK : va_K D vwCl [] s) (hG : G0 tC tE A s) (hA : ∀ q : Nat, s.heap.size ≤ q → A q) (hfr : 1 ≤ R.frames) (hlo : 40 ≤ R.locals) (hc : cells ≤ R.cells) (hs : slots ≤ R.slots)
    (kk : ∀ (H : Heap) (locs : List Loc) (ls : Array Slot), va_P D vwCl [(mm, .inr (17, [.int 0, .int 0, .ref l0, .ref la, .ref l1, .ref l2, .ref l3, .ref sk, .ref ab, .ref bu, .ref cu, .ref sd, .ref l4]))] H → va_D A [(mm, .inr (17, [.int 0, .int 0, .ref l0, .ref la, .ref l1, .ref l2, .ref l3, .ref sk, .ref ab, .ref bu, .ref cu, .ref sd, .ref l4]))] → va_S A s.heap H locs → lv_has ls 7 [(6, .int (nI (cvHi c0 + 1))), (5, .int B), (4, .int w), (3, .int c0)] → W p l e R s m args below meth c H locs cells slots Q (F0 m 96 ls [])) :
    ∀ (n i : Nat) (b : Int32) (H : Heap) (locs : List Loc) (ls : Array Slot), i + n = cvHi c0 + 1 → cvR c0 w n i b = B → va_P D vwCl [(mm, .inr (17, [.int 0, .int 0, .ref l0, .ref la, .ref l1, .ref l2, .ref l3, .ref sk, .ref ab, .ref bu, .ref cu, .ref sd, .ref l4]))] H → va_D A [(mm, .inr (17, [.int 0, .int 0, .ref l0, .ref la, .ref l1, .ref l2, .ref l3, .ref sk, .ref ab, .ref bu, .ref cu, .ref sd, .ref l4]))] → va_S A s.heap H locs → lv_has ls 7 [(6, .int (nI i)), (5, .int b), (4, .int w), (3, .int c0)] → W p l e R s m args below meth c H locs cells slots Q (F0 m 45 ls []) := by
  intro n
  induction n with
  | zero =>
    intro i b H locs ls hn hBB hP hD hS hl
    obtain rfl : i = cvHi c0 + 1 := by omega
    obtain rfl : b = B := hBB
    refine lv_iload hx hb dX13_convert_45 (lv_at hl 0 rfl) ?_
    refine lv_iload_n hx hb dX13_convert_47 rfl (lv_at hl 3 rfl) ?_
    have hFc := va_free (wc := []) hD hS hA [] rfl
    refine va_calli (va_runS (As := [.int c0]) (rest := [.int (nI (cvHi c0 + 1))]) ⟨hx, hb, hml, hown, hts⟩ (m_highest l D tC tE H.size c0) (va_cwS 1 hts gX13_convert_X13_highest rfl rfl rfl (by decide +kernel) ⟨(Nat.le_trans (Nat.le_of_ble_eq_true rfl) hfr), (Nat.le_trans (Nat.le_of_ble_eq_true rfl) hlo)⟩) ⟨pg_blind, (pg_pre hP hD hK hG hS hFc [] rfl (by decide) [] rfl _)⟩ rfl rfl hl.1 rfl (lv_room (Nat.le_of_ble_eq_true rfl)) dX13_convert_48 ⟨hc, hs⟩) hS (fun q _ h => hFc q h) hFc (fun r_1 u_2 t H locs ht hvm hw hB hz1 hk1 hS => ?_)
    subst hw
    obtain ⟨hP, hD, hK⟩ := jn (wr := [(mm, .inr (17, [.int 0, .int 0, .ref l0, .ref la, .ref l1, .ref l2, .ref l3, .ref sk, .ref ab, .ref bu, .ref cu, .ref sd, .ref l4]))]) (w1 := []) (t1 := []) (tr := []) hP hD hK [] [0] rfl rfl (by decide) (by decide) [] rfl hk1 hFc hB rfl rfl ht hvm
    have hP : va_P D vwCl [(mm, .inr (17, [.int 0, .int 0, .ref l0, .ref la, .ref l1, .ref l2, .ref l3, .ref sk, .ref ab, .ref bu, .ref cu, .ref sd, .ref l4]))] H := hP
    have hD : va_D A [(mm, .inr (17, [.int 0, .int 0, .ref l0, .ref la, .ref l1, .ref l2, .ref l3, .ref sk, .ref ab, .ref bu, .ref cu, .ref sd, .ref l4]))] := hD
    have hK : va_K D vwCl [] s := hK
    refine W.widen (k := cells) (n := slots) (Nat.le_refl _) (Nat.le_refl _) ?_
    refine lv_icmp_gt (tgt := 96) hx hb dX13_convert_51 (by decide) (fun c_3 => ?_) (fun c_3 => absurd (cv_over c0) c_3)
    exact kk _ _ _ hP hD hS hl
  | succ n ih =>
    intro i b H locs ls hn hBB hP hD hS hl
    have hi : i ≤ cvHi c0 := by omega
    refine lv_iload hx hb dX13_convert_45 (lv_at hl 0 rfl) ?_
    refine lv_iload_n hx hb dX13_convert_47 rfl (lv_at hl 3 rfl) ?_
    have hFc := va_free (wc := []) hD hS hA [] rfl
    refine va_calli (va_runS (As := [.int c0]) (rest := [.int (nI i)]) ⟨hx, hb, hml, hown, hts⟩ (m_highest l D tC tE H.size c0) (va_cwS 1 hts gX13_convert_X13_highest rfl rfl rfl (by decide +kernel) ⟨(Nat.le_trans (Nat.le_of_ble_eq_true rfl) hfr), (Nat.le_trans (Nat.le_of_ble_eq_true rfl) hlo)⟩) ⟨pg_blind, (pg_pre hP hD hK hG hS hFc [] rfl (by decide) [] rfl _)⟩ rfl rfl hl.1 rfl (lv_room (Nat.le_of_ble_eq_true rfl)) dX13_convert_48 ⟨hc, hs⟩) hS (fun q _ h => hFc q h) hFc (fun r_4 u_5 t H locs ht hvm hw hB hz1 hk1 hS => ?_)
    subst hw
    obtain ⟨hP, hD, hK⟩ := jn (wr := [(mm, .inr (17, [.int 0, .int 0, .ref l0, .ref la, .ref l1, .ref l2, .ref l3, .ref sk, .ref ab, .ref bu, .ref cu, .ref sd, .ref l4]))]) (w1 := []) (t1 := []) (tr := []) hP hD hK [] [0] rfl rfl (by decide) (by decide) [] rfl hk1 hFc hB rfl rfl ht hvm
    have hP : va_P D vwCl [(mm, .inr (17, [.int 0, .int 0, .ref l0, .ref la, .ref l1, .ref l2, .ref l3, .ref sk, .ref ab, .ref bu, .ref cu, .ref sd, .ref l4]))] H := hP
    have hD : va_D A [(mm, .inr (17, [.int 0, .int 0, .ref l0, .ref la, .ref l1, .ref l2, .ref l3, .ref sk, .ref ab, .ref bu, .ref cu, .ref sd, .ref l4]))] := hD
    have hK : va_K D vwCl [] s := hK
    refine W.widen (k := cells) (n := slots) (Nat.le_refl _) (Nat.le_refl _) ?_
    refine lv_icmp_gt (tgt := 96) hx hb dX13_convert_51 (by decide) (fun c_6 => absurd c_6 (cv_in c0 hi)) (fun c_6 => ?_)
    refine lv_iload_n hx hb dX13_convert_54 rfl (lv_at hl 3 rfl) ?_
    refine lv_iload hx hb dX13_convert_55 (lv_at hl 0 rfl) ?_
    have hFc := va_free (wc := []) hD hS hA [] rfl
    refine va_calli (va_runS (As := [.int c0, .int (nI i)]) (rest := []) ⟨hx, hb, hml, hown, hts⟩ (m_long3 l D tC tE H.size c0 (nI i)) (va_cwS 2 hts gX13_convert_X13_long3 rfl rfl rfl (by decide +kernel) ⟨(Nat.le_trans (Nat.le_of_ble_eq_true rfl) hfr), (Nat.le_trans (Nat.le_of_ble_eq_true rfl) hlo)⟩) ⟨pg_blind, (pg_pre hP hD hK hG hS hFc [] rfl (by decide) [] rfl _)⟩ rfl rfl hl.1 rfl (lv_room (Nat.le_of_ble_eq_true rfl)) dX13_convert_57 ⟨hc, hs⟩) hS (fun q _ h => hFc q h) hFc (fun r_7 u_8 t H locs ht hvm hw hB hz1 hk1 hS => ?_)
    subst hw
    obtain ⟨hP, hD, hK⟩ := jn (wr := [(mm, .inr (17, [.int 0, .int 0, .ref l0, .ref la, .ref l1, .ref l2, .ref l3, .ref sk, .ref ab, .ref bu, .ref cu, .ref sd, .ref l4]))]) (w1 := []) (t1 := []) (tr := []) hP hD hK [] [0] rfl rfl (by decide) (by decide) [] rfl hk1 hFc hB rfl rfl ht hvm
    have hP : va_P D vwCl [(mm, .inr (17, [.int 0, .int 0, .ref l0, .ref la, .ref l1, .ref l2, .ref l3, .ref sk, .ref ab, .ref bu, .ref cu, .ref sd, .ref l4]))] H := hP
    have hD : va_D A [(mm, .inr (17, [.int 0, .int 0, .ref l0, .ref la, .ref l1, .ref l2, .ref l3, .ref sk, .ref ab, .ref bu, .ref cu, .ref sd, .ref l4]))] := hD
    have hK : va_K D vwCl [] s := hK
    refine W.widen (k := cells) (n := slots) (Nat.le_refl _) (Nat.le_refl _) ?_
    refine lv_iload hx hb dX13_convert_60 (lv_at hl 2 rfl) ?_
    refine lv_isub hx hb dX13_convert_62 ?_
    refine va_mabs hx hb (hml.trans hl.1.symm) hown (hts (.methodLink RX13 79 Lib.Math.abs.name) (List.mem_of_getElem? (i := 2) rfl)) (hts (.static Lib.Math.abs.name) (List.mem_of_getElem? (i := 3) rfl)) (hts (.initialized "java/lang/Math") (List.mem_of_getElem? (i := 4) rfl)) (hts (.code Lib.Math.abs.name Lib.Math.abs.code 1 (some .int)) (List.mem_of_getElem? (i := 5) rfl)) (Nat.le_trans (Nat.le_of_ble_eq_true rfl) hfr) (Nat.le_trans (Nat.le_of_ble_eq_true rfl) hlo) hc hs dX13_convert_63 ?_
    refine lv_iload_n hx hb dX13_convert_66 rfl (lv_at hl 3 rfl) ?_
    refine lv_iload hx hb dX13_convert_67 (lv_at hl 1 rfl) ?_
    have hFc := va_free (wc := []) hD hS hA [] rfl
    refine va_calli (va_runS (As := [.int c0, .int b]) (rest := [.int (if 0 ≤ ((lenS c0 (nI i)) - w) then ((lenS c0 (nI i)) - w) else 0 - ((lenS c0 (nI i)) - w))]) ⟨hx, hb, hml, hown, hts⟩ (m_long3 l D tC tE H.size c0 b) (va_cwS 2 hts gX13_convert_X13_long3 rfl rfl rfl (by decide +kernel) ⟨(Nat.le_trans (Nat.le_of_ble_eq_true rfl) hfr), (Nat.le_trans (Nat.le_of_ble_eq_true rfl) hlo)⟩) ⟨pg_blind, (pg_pre hP hD hK hG hS hFc [] rfl (by decide) [] rfl _)⟩ rfl rfl hl.1 rfl (lv_room (Nat.le_of_ble_eq_true rfl)) dX13_convert_69 ⟨hc, hs⟩) hS (fun q _ h => hFc q h) hFc (fun r_9 u_10 t H locs ht hvm hw hB hz1 hk1 hS => ?_)
    subst hw
    obtain ⟨hP, hD, hK⟩ := jn (wr := [(mm, .inr (17, [.int 0, .int 0, .ref l0, .ref la, .ref l1, .ref l2, .ref l3, .ref sk, .ref ab, .ref bu, .ref cu, .ref sd, .ref l4]))]) (w1 := []) (t1 := []) (tr := []) hP hD hK [] [0] rfl rfl (by decide) (by decide) [] rfl hk1 hFc hB rfl rfl ht hvm
    have hP : va_P D vwCl [(mm, .inr (17, [.int 0, .int 0, .ref l0, .ref la, .ref l1, .ref l2, .ref l3, .ref sk, .ref ab, .ref bu, .ref cu, .ref sd, .ref l4]))] H := hP
    have hD : va_D A [(mm, .inr (17, [.int 0, .int 0, .ref l0, .ref la, .ref l1, .ref l2, .ref l3, .ref sk, .ref ab, .ref bu, .ref cu, .ref sd, .ref l4]))] := hD
    have hK : va_K D vwCl [] s := hK
    refine W.widen (k := cells) (n := slots) (Nat.le_refl _) (Nat.le_refl _) ?_
    refine lv_iload hx hb dX13_convert_72 (lv_at hl 2 rfl) ?_
    refine lv_isub hx hb dX13_convert_74 ?_
    refine va_mabs hx hb (hml.trans hl.1.symm) hown (hts (.methodLink RX13 79 Lib.Math.abs.name) (List.mem_of_getElem? (i := 2) rfl)) (hts (.static Lib.Math.abs.name) (List.mem_of_getElem? (i := 3) rfl)) (hts (.initialized "java/lang/Math") (List.mem_of_getElem? (i := 4) rfl)) (hts (.code Lib.Math.abs.name Lib.Math.abs.code 1 (some .int)) (List.mem_of_getElem? (i := 5) rfl)) (Nat.le_trans (Nat.le_of_ble_eq_true rfl) hfr) (Nat.le_trans (Nat.le_of_ble_eq_true rfl) hlo) hc hs dX13_convert_75 ?_
    refine lv_icmp_ge (tgt := 86) hx hb dX13_convert_78 (by decide) (fun c_12 => ?_) (fun c_12 => ?_)
    · refine lv_iload hx hb dX13_convert_86 (lv_at hl 1 rfl) ?_
      refine lv_istore (lv' := [(5, .int b), (6, .int (nI i)), (4, .int w), (3, .int c0)]) hx hb dX13_convert_88 hl (by decide) rfl (fun ls hl => ?_)
      refine lv_iinc (v := nI (i + 1)) (lv' := [(6, .int (nI (i + 1))), (5, .int b), (4, .int w), (3, .int c0)]) hx hb dX13_convert_90 hl (k := 1) rfl (show nI i + 1 = nI (i + 1) from nI_1 i) (by decide) rfl (fun ls hl => ?_)
      refine lv_goto (tgt := 45) hx hb dX13_convert_93 (by decide) ?_
      exact ih (i + 1) b _ _ _ (by omega) (cv_no rfl hBB c_12) hP hD hS (lv_sub hl [0, 1, 2, 3] rfl)
    · refine lv_iload hx hb dX13_convert_81 (lv_at hl 0 rfl) ?_
      refine lv_goto (tgt := 88) hx hb dX13_convert_83 (by decide) ?_
      refine lv_istore (lv' := [(5, .int (nI i)), (6, .int (nI i)), (4, .int w), (3, .int c0)]) hx hb dX13_convert_88 hl (by decide) rfl (fun ls hl => ?_)
      refine lv_iinc (v := nI (i + 1)) (lv' := [(6, .int (nI (i + 1))), (5, .int (nI i)), (4, .int w), (3, .int c0)]) hx hb dX13_convert_90 hl (k := 1) rfl (show nI i + 1 = nI (i + 1) from nI_1 i) (by decide) rfl (fun ls hl => ?_)
      refine lv_goto (tgt := 45) hx hb dX13_convert_93 (by decide) ?_
      exact ih (i + 1) (nI i) _ _ _ (by omega) (cv_yes rfl hBB c_12) hP hD hS (lv_sub hl [0, 1, 2, 3] rfl)
set_option maxHeartbeats 4000000 in
set_option maxRecDepth 100000 in
/-- convert of the reference, on a fresh object -/
theorem m_convert (l : Launch) (D : va_G) (tC tE sz : Nat) (mm l0 l1 l2 l3 l4 la sk ab bu cu sd : Nat) (a1 a2 a3 : Int32) : Met l yX13_convert wsX13_convert ({ frames := 2, cells := 0, slots := 0, locals := 43 }) (Pg D tC tE sz [(mm, .inr (17, [.int 0, .int 0, .ref l0, .ref la, .ref l1, .ref l2, .ref l3, .ref sk, .ref ab, .ref bu, .ref cu, .ref sd, .ref l4]))] [] [.ref mm, .int a1, .int a2, .int a3]) (Qgi (S := Int32 × Int32) D (fun u => [(mm, .inr (17, [.int (u.1), .int (u.2), .ref l0, .ref la, .ref l1, .ref l2, .ref l3, .ref sk, .ref ab, .ref bu, .ref cu, .ref sd, .ref l4]))]) (fun u => []) (fun r u => (cvOK a1 a2 a3 = true ∧ u.1 = 0 ∧ r = cvV a1 a2 a3) ∨ (cvOK a1 a2 a3 = false ∧ u.1 = 1)) (va_A [(mm, .inr (17, [.int 0, .int 0, .ref l0, .ref la, .ref l1, .ref l2, .ref l3, .ref sk, .ref ab, .ref bu, .ref cu, .ref sd, .ref l4]))] sz)) 0 0 (va_A [(mm, .inr (17, [.int 0, .int 0, .ref l0, .ref la, .ref l1, .ref l2, .ref l3, .ref sk, .ref ab, .ref bu, .ref cu, .ref sd, .ref l4]))] sz) := by
  refine og_m (cc := cX13_convert) (maxL := 7) (ret := (some .int)) (Qc := Qgi (S := Int32 × Int32) D (fun u => [(mm, .inr (17, [.int (u.1), .int (u.2), .ref l0, .ref la, .ref l1, .ref l2, .ref l3, .ref sk, .ref ab, .ref bu, .ref cu, .ref sd, .ref l4]))]) (fun u => []) (fun r u => (cvOK a1 a2 a3 = true ∧ u.1 = 0 ∧ r = cvV a1 a2 a3) ∨ (cvOK a1 a2 a3 = false ∧ u.1 = 1))) (by decide) rfl (Nat.le_of_ble_eq_true rfl) ?_
  intro p e s m below meth c A hx hb hr hml hts hown hlocks hin hP hD hK hG hA hS ls hl
  have hl : lv_has ls 7 [(0, .ref mm), (1, .int a1), (2, .int a2), (3, .int a3)] := hl
  refine lv_aload_n hx hb dX13_convert_0 rfl (lv_at hl 0 rfl) ?_
  refine lv_iconst (v := 0) hx hb dX13_convert_1 (by decide) ?_
  refine va_put (D := D) (ci := 17) (v := .int 0) (ty := .int) (C := RX13) (T := TX13) (N := 13) hx hb hts (fun w h => List.mem_cons_of_mem _ (List.mem_append_right _ h)) tyX13 tyX13_ok nmX13 hown hK hP hD hS 0 rfl rfl 0 (by decide) (hts (.fieldLink RX13 48 "LastroomModel" "code" "I") (List.mem_of_getElem? (i := 1) rfl)) (fun _ h9 => h9) rfl (by decide +kernel) rfl rfl (Nat.le_of_ble_eq_true rfl) dX13_convert_2 (fun H locs hP hD hS => ?_)
  have hP : va_P D vwCl [(mm, .inr (17, [.int 0, .int 0, .ref l0, .ref la, .ref l1, .ref l2, .ref l3, .ref sk, .ref ab, .ref bu, .ref cu, .ref sd, .ref l4]))] H := hP
  have hD : va_D A [(mm, .inr (17, [.int 0, .int 0, .ref l0, .ref la, .ref l1, .ref l2, .ref l3, .ref sk, .ref ab, .ref bu, .ref cu, .ref sd, .ref l4]))] := hD
  refine lv_iload_n hx hb dX13_convert_5 rfl (lv_at hl 1 rfl) ?_
  refine lv_iload_n hx hb dX13_convert_6 rfl (lv_at hl 2 rfl) ?_
  have hFc := va_free (wc := []) hD hS hA [] rfl
  refine va_calli (va_runS (As := [.int a1, .int a2]) (rest := []) ⟨hx, hb, hml, hown, hts⟩ (m_isSize l D tC tE H.size a1 a2) (va_cwS 2 hts gX13_convert_X13_isSize rfl rfl rfl (by decide +kernel) ⟨(Nat.le_of_ble_eq_true rfl), (Nat.le_of_ble_eq_true rfl)⟩) ⟨pg_blind, (pg_pre hP hD hK hG hS hFc [] rfl (by decide) [] rfl _)⟩ rfl rfl hl.1 rfl (lv_room (Nat.le_of_ble_eq_true rfl)) dX13_convert_7 ⟨(Nat.le_of_ble_eq_true rfl), (Nat.le_of_ble_eq_true rfl)⟩) hS (fun q _ h => hFc q h) hFc (fun r_1 u_2 t H locs ht hvm hw hB hz1 hk1 hS => ?_)
  obtain ⟨hP, hD, hK⟩ := jn (wr := [(mm, .inr (17, [.int 0, .int 0, .ref l0, .ref la, .ref l1, .ref l2, .ref l3, .ref sk, .ref ab, .ref bu, .ref cu, .ref sd, .ref l4]))]) (w1 := []) (t1 := []) (tr := []) hP hD hK [] [0] rfl rfl (by decide) (by decide) [] rfl hk1 hFc hB rfl rfl ht hvm
  have hP : va_P D vwCl [(mm, .inr (17, [.int 0, .int 0, .ref l0, .ref la, .ref l1, .ref l2, .ref l3, .ref sk, .ref ab, .ref bu, .ref cu, .ref sd, .ref l4]))] H := hP
  have hD : va_D A [(mm, .inr (17, [.int 0, .int 0, .ref l0, .ref la, .ref l1, .ref l2, .ref l3, .ref sk, .ref ab, .ref bu, .ref cu, .ref sd, .ref l4]))] := hD
  have hK : va_K D vwCl [] s := hK
  refine W.widen (k := 0) (n := 0) (Nat.le_of_ble_eq_true rfl) (Nat.le_of_ble_eq_true rfl) ?_
  rcases hw with ⟨q_4, h_3⟩ | ⟨q_4, h_3⟩
  · subst q_4
    refine lv_if_eq (tgt := 20) hx hb dX13_convert_10 (by decide) (fun c_5 => absurd c_5 (show ¬ (1 : Int32) = 0 from (by decide))) (fun c_5 => ?_)
    refine lv_iload_n hx hb dX13_convert_13 rfl (lv_at hl 3 rfl) ?_
    have hFc := va_free (wc := []) hD hS hA [] rfl
    refine va_calli (va_runS (As := [.int a3]) (rest := []) ⟨hx, hb, hml, hown, hts⟩ (m_isSystem l D tC tE H.size a3) (va_cwS 1 hts gX13_convert_X13_isSystem rfl rfl rfl (by decide +kernel) ⟨(Nat.le_of_ble_eq_true rfl), (Nat.le_of_ble_eq_true rfl)⟩) ⟨pg_blind, (pg_pre hP hD hK hG hS hFc [] rfl (by decide) [] rfl _)⟩ rfl rfl hl.1 rfl (lv_room (Nat.le_of_ble_eq_true rfl)) dX13_convert_14 ⟨(Nat.le_of_ble_eq_true rfl), (Nat.le_of_ble_eq_true rfl)⟩) hS (fun q _ h => hFc q h) hFc (fun r_6 u_7 t H locs ht hvm hw hB hz1 hk1 hS => ?_)
    obtain ⟨hP, hD, hK⟩ := jn (wr := [(mm, .inr (17, [.int 0, .int 0, .ref l0, .ref la, .ref l1, .ref l2, .ref l3, .ref sk, .ref ab, .ref bu, .ref cu, .ref sd, .ref l4]))]) (w1 := []) (t1 := []) (tr := []) hP hD hK [] [0] rfl rfl (by decide) (by decide) [] rfl hk1 hFc hB rfl rfl ht hvm
    have hP : va_P D vwCl [(mm, .inr (17, [.int 0, .int 0, .ref l0, .ref la, .ref l1, .ref l2, .ref l3, .ref sk, .ref ab, .ref bu, .ref cu, .ref sd, .ref l4]))] H := hP
    have hD : va_D A [(mm, .inr (17, [.int 0, .int 0, .ref l0, .ref la, .ref l1, .ref l2, .ref l3, .ref sk, .ref ab, .ref bu, .ref cu, .ref sd, .ref l4]))] := hD
    have hK : va_K D vwCl [] s := hK
    refine W.widen (k := 0) (n := 0) (Nat.le_of_ble_eq_true rfl) (Nat.le_of_ble_eq_true rfl) ?_
    rcases hw with ⟨q_9, h_8⟩ | ⟨q_9, h_8⟩
    · subst q_9
      refine lv_if_ne (tgt := 26) hx hb dX13_convert_17 (by decide) (fun c_10 => ?_) (fun c_10 => absurd c_10 (by decide))
      refine lv_iload_n hx hb dX13_convert_26 rfl (lv_at hl 1 rfl) ?_
      refine lv_iload_n hx hb dX13_convert_27 rfl (lv_at hl 2 rfl) ?_
      have hFc := va_free (wc := []) hD hS hA [] rfl
      refine va_calli (va_runS (As := [.int a1, .int a2]) (rest := []) ⟨hx, hb, hml, hown, hts⟩ (m_long3 l D tC tE H.size a1 a2) (va_cwS 2 hts gX13_convert_X13_long3 rfl rfl rfl (by decide +kernel) ⟨(Nat.le_of_ble_eq_true rfl), (Nat.le_of_ble_eq_true rfl)⟩) ⟨pg_blind, (pg_pre hP hD hK hG hS hFc [] rfl (by decide) [] rfl _)⟩ rfl rfl hl.1 rfl (lv_room (Nat.le_of_ble_eq_true rfl)) dX13_convert_28 ⟨(Nat.le_of_ble_eq_true rfl), (Nat.le_of_ble_eq_true rfl)⟩) hS (fun q _ h => hFc q h) hFc (fun r_11 u_12 t H locs ht hvm hw hB hz1 hk1 hS => ?_)
      subst hw
      obtain ⟨hP, hD, hK⟩ := jn (wr := [(mm, .inr (17, [.int 0, .int 0, .ref l0, .ref la, .ref l1, .ref l2, .ref l3, .ref sk, .ref ab, .ref bu, .ref cu, .ref sd, .ref l4]))]) (w1 := []) (t1 := []) (tr := []) hP hD hK [] [0] rfl rfl (by decide) (by decide) [] rfl hk1 hFc hB rfl rfl ht hvm
      have hP : va_P D vwCl [(mm, .inr (17, [.int 0, .int 0, .ref l0, .ref la, .ref l1, .ref l2, .ref l3, .ref sk, .ref ab, .ref bu, .ref cu, .ref sd, .ref l4]))] H := hP
      have hD : va_D A [(mm, .inr (17, [.int 0, .int 0, .ref l0, .ref la, .ref l1, .ref l2, .ref l3, .ref sk, .ref ab, .ref bu, .ref cu, .ref sd, .ref l4]))] := hD
      have hK : va_K D vwCl [] s := hK
      refine W.widen (k := 0) (n := 0) (Nat.le_of_ble_eq_true rfl) (Nat.le_of_ble_eq_true rfl) ?_
      refine lv_istore (lv' := [(4, .int (lenS a1 a2)), (0, .ref mm), (1, .int a1), (2, .int a2), (3, .int a3)]) hx hb dX13_convert_31 hl (by decide) rfl (fun ls hl => ?_)
      refine lv_iload_n hx hb dX13_convert_33 rfl (lv_at hl 4 rfl) ?_
      have hFc := va_free (wc := []) hD hS hA [] rfl
      refine va_calli (va_runS (As := [.int a3]) (rest := []) ⟨hx, hb, hml, hown, hts⟩ (m_lowest l D tC tE H.size a3) (va_cwS 1 hts gX13_convert_X13_lowest rfl rfl rfl (by decide +kernel) ⟨(Nat.le_of_ble_eq_true rfl), (Nat.le_of_ble_eq_true rfl)⟩) ⟨pg_blind, (pg_pre hP hD hK hG hS hFc [] rfl (by decide) [] rfl _)⟩ rfl rfl hl.1 rfl (lv_room (Nat.le_of_ble_eq_true rfl)) dX13_convert_34 ⟨(Nat.le_of_ble_eq_true rfl), (Nat.le_of_ble_eq_true rfl)⟩) hS (fun q _ h => hFc q h) hFc (fun r_13 u_14 t H locs ht hvm hw hB hz1 hk1 hS => ?_)
      subst hw
      obtain ⟨hP, hD, hK⟩ := jn (wr := [(mm, .inr (17, [.int 0, .int 0, .ref l0, .ref la, .ref l1, .ref l2, .ref l3, .ref sk, .ref ab, .ref bu, .ref cu, .ref sd, .ref l4]))]) (w1 := []) (t1 := []) (tr := []) hP hD hK [] [0] rfl rfl (by decide) (by decide) [] rfl hk1 hFc hB rfl rfl ht hvm
      have hP : va_P D vwCl [(mm, .inr (17, [.int 0, .int 0, .ref l0, .ref la, .ref l1, .ref l2, .ref l3, .ref sk, .ref ab, .ref bu, .ref cu, .ref sd, .ref l4]))] H := hP
      have hD : va_D A [(mm, .inr (17, [.int 0, .int 0, .ref l0, .ref la, .ref l1, .ref l2, .ref l3, .ref sk, .ref ab, .ref bu, .ref cu, .ref sd, .ref l4]))] := hD
      have hK : va_K D vwCl [] s := hK
      refine W.widen (k := 0) (n := 0) (Nat.le_of_ble_eq_true rfl) (Nat.le_of_ble_eq_true rfl) ?_
      refine lv_istore (lv' := [(5, .int (lowS a3)), (4, .int (lenS a1 a2)), (0, .ref mm), (1, .int a1), (2, .int a2), (3, .int a3)]) hx hb dX13_convert_37 hl (by decide) rfl (fun ls hl => ?_)
      refine lv_iload_n hx hb dX13_convert_39 rfl (lv_at hl 5 rfl) ?_
      have hFc := va_free (wc := []) hD hS hA [] rfl
      refine va_calli (va_runS (As := [.int a3]) (rest := []) ⟨hx, hb, hml, hown, hts⟩ (m_lowest l D tC tE H.size a3) (va_cwS 1 hts gX13_convert_X13_lowest rfl rfl rfl (by decide +kernel) ⟨(Nat.le_of_ble_eq_true rfl), (Nat.le_of_ble_eq_true rfl)⟩) ⟨pg_blind, (pg_pre hP hD hK hG hS hFc [] rfl (by decide) [] rfl _)⟩ rfl rfl hl.1 rfl (lv_room (Nat.le_of_ble_eq_true rfl)) dX13_convert_40 ⟨(Nat.le_of_ble_eq_true rfl), (Nat.le_of_ble_eq_true rfl)⟩) hS (fun q _ h => hFc q h) hFc (fun r_15 u_16 t H locs ht hvm hw hB hz1 hk1 hS => ?_)
      subst hw
      obtain ⟨hP, hD, hK⟩ := jn (wr := [(mm, .inr (17, [.int 0, .int 0, .ref l0, .ref la, .ref l1, .ref l2, .ref l3, .ref sk, .ref ab, .ref bu, .ref cu, .ref sd, .ref l4]))]) (w1 := []) (t1 := []) (tr := []) hP hD hK [] [0] rfl rfl (by decide) (by decide) [] rfl hk1 hFc hB rfl rfl ht hvm
      have hP : va_P D vwCl [(mm, .inr (17, [.int 0, .int 0, .ref l0, .ref la, .ref l1, .ref l2, .ref l3, .ref sk, .ref ab, .ref bu, .ref cu, .ref sd, .ref l4]))] H := hP
      have hD : va_D A [(mm, .inr (17, [.int 0, .int 0, .ref l0, .ref la, .ref l1, .ref l2, .ref l3, .ref sk, .ref ab, .ref bu, .ref cu, .ref sd, .ref l4]))] := hD
      have hK : va_K D vwCl [] s := hK
      refine W.widen (k := 0) (n := 0) (Nat.le_of_ble_eq_true rfl) (Nat.le_of_ble_eq_true rfl) ?_
      refine lv_topi (fun y hy => ?_)
      rw [cv_lo] at hy
      subst hy
      refine lv_istore (lv' := [(6, .int (nI (cvLo a3))), (5, .int (lowS a3)), (4, .int (lenS a1 a2)), (0, .ref mm), (1, .int a1), (2, .int a2), (3, .int a3)]) hx hb dX13_convert_43 hl (by decide) rfl (fun ls hl => ?_)
      refine lp_convM D tC tE mm l0 l1 l2 l3 l4 la sk ab bu cu sd a3 (lenS a1 a2) (cvV a1 a2 a3) hx hb hml hts hown (hK.sub [] rfl) hG hA (Nat.le_of_ble_eq_true rfl) (Nat.le_of_ble_eq_true rfl) (Nat.le_of_ble_eq_true rfl) (Nat.le_of_ble_eq_true rfl) (fun H locs ls hP hD hS hl => ?_) (cvHi a3 - cvLo a3 + 1) (cvLo a3) (lowS a3) _ _ _ (by have := (cv_lh a3).1; omega) (cv_first a1 a2 a3) (hP.sub [0] rfl) (hD.sub [0] (by decide) rfl) hS (lv_sub hl [0, 1, 2, 6] rfl)
      have hl : lv_has ls 7 [(6, .int (nI (cvHi a3 + 1))), (5, .int (cvV a1 a2 a3)), (4, .int (lenS a1 a2)), (3, .int a3)] := hl
      have hP : va_P D vwCl [(mm, .inr (17, [.int 0, .int 0, .ref l0, .ref la, .ref l1, .ref l2, .ref l3, .ref sk, .ref ab, .ref bu, .ref cu, .ref sd, .ref l4]))] H := hP
      have hD : va_D A [(mm, .inr (17, [.int 0, .int 0, .ref l0, .ref la, .ref l1, .ref l2, .ref l3, .ref sk, .ref ab, .ref bu, .ref cu, .ref sd, .ref l4]))] := hD
      have hK := hK.sub (tys' := []) [] rfl
      refine lv_iload hx hb dX13_convert_96 (lv_at hl 1 rfl) ?_
      have hP9 := hP.sub (ws' := [(mm, .inr (17, [.int 0, .int 0, .ref l0, .ref la, .ref l1, .ref l2, .ref l3, .ref sk, .ref ab, .ref bu, .ref cu, .ref sd, .ref l4]))]) [0] rfl
      have hD9 := hD.sub (ws' := [(mm, .inr (17, [.int 0, .int 0, .ref l0, .ref la, .ref l1, .ref l2, .ref l3, .ref sk, .ref ab, .ref bu, .ref cu, .ref sd, .ref l4]))]) [0] (by decide) rfl
      have hK9 := hK.sub (tys' := []) [] rfl
      exact end_i hx hb hr hlocks hP9 hD9 hK9 hS (0, 0) rfl rfl (Or.inl ⟨by simp [cvOK, h_3, h_8], rfl, rfl⟩) (Nat.le_of_ble_eq_true rfl) (Nat.le_of_ble_eq_true rfl) dX13_convert_98
    · subst q_9
      refine lv_if_ne (tgt := 26) hx hb dX13_convert_17 (by decide) (fun c_17 => absurd (by decide) c_17) (fun c_17 => ?_)
      refine lv_aload_n hx hb dX13_convert_20 rfl (lv_at hl 0 rfl) ?_
      refine lv_iconst (v := 1) hx hb dX13_convert_21 (by decide) ?_
      have hFc := va_free (wc := [(mm, .inr (17, [.int 0, .int 0, .ref l0, .ref la, .ref l1, .ref l2, .ref l3, .ref sk, .ref ab, .ref bu, .ref cu, .ref sd, .ref l4]))]) hD hS hA [0] rfl
      refine va_calli (va_runV (As := [.int 1]) (rest := []) ⟨hx, hb, hml, hown, hts⟩ (m_fails l D tC tE H.size mm l0 l1 l2 l3 l4 la sk ab bu cu sd 0 0 1) (cwV 1 hts gX13_convert_X13_fails rfl rfl rfl (by decide +kernel) ⟨(Nat.le_of_ble_eq_true rfl), (Nat.le_of_ble_eq_true rfl)⟩) ⟨pg_blind, (va_recv hK hP (ci := 17) (q0 := 0) rfl rfl), (pg_pre hP hD hK hG hS hFc [0] rfl (by decide) [] rfl _)⟩ rfl rfl hl.1 rfl (lv_room (Nat.le_of_ble_eq_true rfl)) dX13_convert_22 ⟨(Nat.le_of_ble_eq_true rfl), (Nat.le_of_ble_eq_true rfl)⟩) hS (fun q _ h => hFc q h) hFc (fun r_18 u_19 t H locs ht hvm hw hB hz1 hk1 hS => ?_)
      subst hw
      obtain ⟨hP, hD, hK⟩ := jn (wr := []) (w1 := [(mm, .inr (17, [.int 1, .int 0, .ref l0, .ref la, .ref l1, .ref l2, .ref l3, .ref sk, .ref ab, .ref bu, .ref cu, .ref sd, .ref l4]))]) (t1 := []) (tr := []) hP hD hK [0] [] rfl rfl (by decide) (by decide) [] rfl hk1 hFc hB rfl rfl ht hvm
      have hP : va_P D vwCl [(mm, .inr (17, [.int 1, .int 0, .ref l0, .ref la, .ref l1, .ref l2, .ref l3, .ref sk, .ref ab, .ref bu, .ref cu, .ref sd, .ref l4]))] H := hP
      have hD : va_D A [(mm, .inr (17, [.int 1, .int 0, .ref l0, .ref la, .ref l1, .ref l2, .ref l3, .ref sk, .ref ab, .ref bu, .ref cu, .ref sd, .ref l4]))] := hD
      have hK : va_K D vwCl [] s := hK
      refine W.widen (k := 0) (n := 0) (Nat.le_of_ble_eq_true rfl) (Nat.le_of_ble_eq_true rfl) ?_
      have hP9 := hP.sub (ws' := [(mm, .inr (17, [.int 1, .int 0, .ref l0, .ref la, .ref l1, .ref l2, .ref l3, .ref sk, .ref ab, .ref bu, .ref cu, .ref sd, .ref l4]))]) [0] rfl
      have hD9 := hD.sub (ws' := [(mm, .inr (17, [.int 1, .int 0, .ref l0, .ref la, .ref l1, .ref l2, .ref l3, .ref sk, .ref ab, .ref bu, .ref cu, .ref sd, .ref l4]))]) [0] (by decide) rfl
      have hK9 := hK.sub (tys' := []) [] rfl
      exact end_i hx hb hr hlocks hP9 hD9 hK9 hS (1, 0) rfl rfl (Or.inr ⟨by simp [cvOK, h_3, h_8], rfl⟩) (Nat.le_of_ble_eq_true rfl) (Nat.le_of_ble_eq_true rfl) dX13_convert_25
  · subst q_4
    refine lv_if_eq (tgt := 20) hx hb dX13_convert_10 (by decide) (fun c_20 => ?_) (fun c_20 => absurd (show (0 : Int32) = 0 from (by decide)) c_20)
    refine lv_aload_n hx hb dX13_convert_20 rfl (lv_at hl 0 rfl) ?_
    refine lv_iconst (v := 1) hx hb dX13_convert_21 (by decide) ?_
    have hFc := va_free (wc := [(mm, .inr (17, [.int 0, .int 0, .ref l0, .ref la, .ref l1, .ref l2, .ref l3, .ref sk, .ref ab, .ref bu, .ref cu, .ref sd, .ref l4]))]) hD hS hA [0] rfl
    refine va_calli (va_runV (As := [.int 1]) (rest := []) ⟨hx, hb, hml, hown, hts⟩ (m_fails l D tC tE H.size mm l0 l1 l2 l3 l4 la sk ab bu cu sd 0 0 1) (cwV 1 hts gX13_convert_X13_fails rfl rfl rfl (by decide +kernel) ⟨(Nat.le_of_ble_eq_true rfl), (Nat.le_of_ble_eq_true rfl)⟩) ⟨pg_blind, (va_recv hK hP (ci := 17) (q0 := 0) rfl rfl), (pg_pre hP hD hK hG hS hFc [0] rfl (by decide) [] rfl _)⟩ rfl rfl hl.1 rfl (lv_room (Nat.le_of_ble_eq_true rfl)) dX13_convert_22 ⟨(Nat.le_of_ble_eq_true rfl), (Nat.le_of_ble_eq_true rfl)⟩) hS (fun q _ h => hFc q h) hFc (fun r_21 u_22 t H locs ht hvm hw hB hz1 hk1 hS => ?_)
    subst hw
    obtain ⟨hP, hD, hK⟩ := jn (wr := []) (w1 := [(mm, .inr (17, [.int 1, .int 0, .ref l0, .ref la, .ref l1, .ref l2, .ref l3, .ref sk, .ref ab, .ref bu, .ref cu, .ref sd, .ref l4]))]) (t1 := []) (tr := []) hP hD hK [0] [] rfl rfl (by decide) (by decide) [] rfl hk1 hFc hB rfl rfl ht hvm
    have hP : va_P D vwCl [(mm, .inr (17, [.int 1, .int 0, .ref l0, .ref la, .ref l1, .ref l2, .ref l3, .ref sk, .ref ab, .ref bu, .ref cu, .ref sd, .ref l4]))] H := hP
    have hD : va_D A [(mm, .inr (17, [.int 1, .int 0, .ref l0, .ref la, .ref l1, .ref l2, .ref l3, .ref sk, .ref ab, .ref bu, .ref cu, .ref sd, .ref l4]))] := hD
    have hK : va_K D vwCl [] s := hK
    refine W.widen (k := 0) (n := 0) (Nat.le_of_ble_eq_true rfl) (Nat.le_of_ble_eq_true rfl) ?_
    have hP9 := hP.sub (ws' := [(mm, .inr (17, [.int 1, .int 0, .ref l0, .ref la, .ref l1, .ref l2, .ref l3, .ref sk, .ref ab, .ref bu, .ref cu, .ref sd, .ref l4]))]) [0] rfl
    have hD9 := hD.sub (ws' := [(mm, .inr (17, [.int 1, .int 0, .ref l0, .ref la, .ref l1, .ref l2, .ref l3, .ref sk, .ref ab, .ref bu, .ref cu, .ref sd, .ref l4]))]) [0] (by decide) rfl
    have hK9 := hK.sub (tys' := []) [] rfl
    exact end_i hx hb hr hlocks hP9 hD9 hK9 hS (1, 0) rfl rfl (Or.inr ⟨by simp [cvOK, h_3], rfl⟩) (Nat.le_of_ble_eq_true rfl) (Nat.le_of_ble_eq_true rfl) dX13_convert_25
set_option maxHeartbeats 4000000 in
set_option maxRecDepth 100000 in
/-- Hide(material, columns, rows) of the reference -/
theorem m_Hide (l : Launch) (D : va_G) (tC tE sz : Nat) (h0 : Nat) (b1 b2 b3 : Int32) (N : Nat) (hN : b2 * b3 = nI N) (hN2 : N ≤ 120) : Met l yX10_init wsX10_init ({ frames := 1, cells := 1, slots := 120, locals := 23 }) (Pg D tC tE sz [(h0, .inr (14, [.int 0, .int 0, .int 0, .null]))] [] [.ref h0, .int b1, .int b2, .int b3]) (Qgv (S := Nat) D (fun u => [(h0, .inr (14, [.int b1, .int b2, .int b3, .ref u]))]) (fun u => []) (fun _ => True) (va_A [(h0, .inr (14, [.int 0, .int 0, .int 0, .null]))] sz)) 1 120 (va_A [(h0, .inr (14, [.int 0, .int 0, .int 0, .null]))] sz) := by
  refine og_m (cc := cX10_init) (maxL := 4) (ret := none) (Qc := Qgv (S := Nat) D (fun u => [(h0, .inr (14, [.int b1, .int b2, .int b3, .ref u]))]) (fun u => []) (fun _ => True)) (by decide) rfl (Nat.le_of_ble_eq_true rfl) ?_
  intro p e s m below meth c A hx hb hr hml hts hown hlocks hin hP hD hK hG hA hS ls hl
  have hl : lv_has ls 4 [(0, .ref h0), (1, .int b1), (2, .int b2), (3, .int b3)] := hl
  refine lv_aload_n hx hb dX10_init_0 rfl (lv_at hl 0 rfl) ?_
  refine W.objInit hx hb hown (hts (.methodLink RX10 3 objectInit) (List.mem_of_getElem? (i := 1) rfl)) (hts (.instanceMethod objectInit) (List.mem_of_getElem? (i := 2) rfl)) (hts (.code objectInit ⟨#[0xb1]⟩ 1 none) (List.mem_of_getElem? (i := 3) rfl)) rfl (by rw [hml]; exact hl.1) rfl dX10_init_1 (Nat.le_of_ble_eq_true rfl) (Nat.le_of_ble_eq_true rfl) ?_
  refine W.eq (g2 := F0 m 4 ls []) rfl ?_
  refine lv_aload_n hx hb dX10_init_4 rfl (lv_at hl 0 rfl) ?_
  refine lv_iload_n hx hb dX10_init_5 rfl (lv_at hl 1 rfl) ?_
  refine va_putF (D := D) (ci := 14) (v := .int b1) (ty := .int) (C := RX10) (T := TX10) (N := 4) hx hb hts (fun w h => List.mem_cons_of_mem _ (List.mem_append_right _ h)) tyX10 tyX10_ok nmX10 hown hK hP hD hS 0 rfl rfl 0 (by decide) (hts (.fieldLink RX10 9 "LastroomModel$Hide" "material" "I") (List.mem_of_getElem? (i := 4) rfl)) (fun _ h9 => h9) rfl hin rfl (by decide +kernel) rfl rfl (Nat.le_of_ble_eq_true rfl) dX10_init_6 (fun H locs hP hD hS => ?_)
  have hP : va_P D vwCl [(h0, .inr (14, [.int b1, .int 0, .int 0, .null]))] H := hP
  have hD : va_D A [(h0, .inr (14, [.int b1, .int 0, .int 0, .null]))] := hD
  refine lv_aload_n hx hb dX10_init_9 rfl (lv_at hl 0 rfl) ?_
  refine lv_iload_n hx hb dX10_init_10 rfl (lv_at hl 2 rfl) ?_
  refine va_putF (D := D) (ci := 14) (v := .int b2) (ty := .int) (C := RX10) (T := TX10) (N := 4) hx hb hts (fun w h => List.mem_cons_of_mem _ (List.mem_append_right _ h)) tyX10 tyX10_ok nmX10 hown hK hP hD hS 0 rfl rfl 1 (by decide) (hts (.fieldLink RX10 15 "LastroomModel$Hide" "columns" "I") (List.mem_of_getElem? (i := 5) rfl)) (fun _ h9 => h9) rfl hin rfl (by decide +kernel) rfl rfl (Nat.le_of_ble_eq_true rfl) dX10_init_11 (fun H locs hP hD hS => ?_)
  have hP : va_P D vwCl [(h0, .inr (14, [.int b1, .int b2, .int 0, .null]))] H := hP
  have hD : va_D A [(h0, .inr (14, [.int b1, .int b2, .int 0, .null]))] := hD
  refine lv_aload_n hx hb dX10_init_14 rfl (lv_at hl 0 rfl) ?_
  refine lv_iload_n hx hb dX10_init_15 rfl (lv_at hl 3 rfl) ?_
  refine va_putF (D := D) (ci := 14) (v := .int b3) (ty := .int) (C := RX10) (T := TX10) (N := 4) hx hb hts (fun w h => List.mem_cons_of_mem _ (List.mem_append_right _ h)) tyX10 tyX10_ok nmX10 hown hK hP hD hS 0 rfl rfl 2 (by decide) (hts (.fieldLink RX10 18 "LastroomModel$Hide" "rows" "I") (List.mem_of_getElem? (i := 6) rfl)) (fun _ h9 => h9) rfl hin rfl (by decide +kernel) rfl rfl (Nat.le_of_ble_eq_true rfl) dX10_init_16 (fun H locs hP hD hS => ?_)
  have hP : va_P D vwCl [(h0, .inr (14, [.int b1, .int b2, .int b3, .null]))] H := hP
  have hD : va_D A [(h0, .inr (14, [.int b1, .int b2, .int b3, .null]))] := hD
  refine lv_aload_n hx hb dX10_init_19 rfl (lv_at hl 0 rfl) ?_
  refine lv_iload_n hx hb dX10_init_20 rfl (lv_at hl 2 rfl) ?_
  refine lv_iload_n hx hb dX10_init_21 rfl (lv_at hl 3 rfl) ?_
  refine lv_imul hx hb dX10_init_22 ?_
  refine lv_topi (fun y hy => ?_)
  rw [hN] at hy
  subst hy
  refine va_newa (atype := .int) (ty := .int) (N' := N) (a0 := (N, .inl (fun _ => 0))) hx hb (hts (.arrayClass .int) (List.mem_of_getElem? (i := 7) rfl)) rfl hK hP hD hS hA (fun _ => rfl) (nI_pos (by omega)) (nI_clamp (by omega)) (by show N * 4 ≤ _; omega) (Nat.le_of_ble_eq_true rfl) (by show 0 + N ≤ 120; omega) dX10_init_23 (fun q_1 k_1 H hK hP hD hS => ?_)
  have hP : va_P D vwCl [(h0, .inr (14, [.int b1, .int b2, .int b3, .null])), (q_1, .inl (k_1, N, .inl (fun _ => 0)))] H := hP
  have hD : va_D A [(h0, .inr (14, [.int b1, .int b2, .int b3, .null])), (q_1, .inl (k_1, N, .inl (fun _ => 0)))] := hD
  have hK : va_K D vwCl [(k_1, .int)] s := hK
  refine W.widen (k := 1) (n := 120) (Nat.le_of_ble_eq_true rfl) (by omega) ?_
  refine va_putF (D := D) (ci := 14) (v := .ref q_1) (ty := .array (.int)) (C := RX10) (T := TX10) (N := 4) hx hb hts (fun w h => List.mem_cons_of_mem _ (List.mem_append_right _ h)) tyX10 tyX10_ok nmX10 hown hK hP hD hS 0 rfl rfl 3 (by decide) (hts (.fieldLink RX10 21 "LastroomModel$Hide" "cells" "[I") (List.mem_of_getElem? (i := 8) rfl)) (fun _ h9 => h9) rfl hin rfl (by decide +kernel) rfl rfl (Nat.le_of_ble_eq_true rfl) dX10_init_25 (fun H locs hP hD hS => ?_)
  have hP : va_P D vwCl [(h0, .inr (14, [.int b1, .int b2, .int b3, .ref q_1])), (q_1, .inl (k_1, N, .inl (fun _ => 0)))] H := hP
  have hD : va_D A [(h0, .inr (14, [.int b1, .int b2, .int b3, .ref q_1])), (q_1, .inl (k_1, N, .inl (fun _ => 0)))] := hD
  refine lv_aload_n hx hb dX10_init_28 rfl (lv_at hl 0 rfl) ?_
  refine va_get (D := D) (ci := 14) (v := .ref q_1) (C := RX10) (T := TX10) (N := 4) hx hb hts (fun w h => List.mem_cons_of_mem _ (List.mem_append_right _ h)) hown hK hP 0 rfl rfl 3 (by decide) (hts (.fieldLink RX10 21 "LastroomModel$Hide" "cells" "[I") (List.mem_of_getElem? (i := 8) rfl)) (fun _ h9 => h9) rfl dX10_init_29 ?_
  refine lv_iconst (v := 3) hx hb dX10_init_32 (by decide) ?_
  have hFc := va_free (wc := [(q_1, .inl (k_1, N, .inl (fun _ => 0)))]) hD hS hA [1] rfl
  refine va_callv (va_runS (As := [.ref q_1, .int 3]) (rest := []) ⟨hx, hb, hml, hown, hts⟩ (c_fill l D tC tE H.size q_1 k_1 N (by omega) 3 (fun _ => 0)) (va_cwS 2 hts gX10_init_J7_fill_53178 rfl rfl rfl (by decide +kernel) ⟨(Nat.le_of_ble_eq_true rfl), (Nat.le_of_ble_eq_true rfl)⟩) ⟨pg_blind, (pg_pre hP hD hK hG hS hFc [1] rfl (by decide) [0] rfl _)⟩ rfl rfl hl.1 rfl (lv_room (Nat.le_of_ble_eq_true rfl)) dX10_init_33 ⟨(Nat.le_of_ble_eq_true rfl), (Nat.le_of_ble_eq_true rfl)⟩) hS (fun q _ h => hFc q h) hFc (fun u_1 t H locs ht hvm hw hB hz1 hk1 hS => ?_)
  obtain ⟨hP, hD, hK⟩ := jn (wr := [(h0, .inr (14, [.int b1, .int b2, .int b3, .ref q_1]))]) (w1 := []) (t1 := []) (tr := [(k_1, .int)]) hP hD hK [1] [0] rfl rfl (by decide) (by decide) [0] rfl hk1 hFc hB rfl rfl ht hvm
  have hP : va_P D vwCl [(h0, .inr (14, [.int b1, .int b2, .int b3, .ref q_1]))] H := hP
  have hD : va_D A [(h0, .inr (14, [.int b1, .int b2, .int b3, .ref q_1]))] := hD
  have hK : va_K D vwCl [(k_1, .int)] s := hK
  refine W.widen (k := 1) (n := 120) (Nat.le_of_ble_eq_true rfl) (Nat.le_of_ble_eq_true rfl) ?_
  have hP9 := hP.sub (ws' := [(h0, .inr (14, [.int b1, .int b2, .int b3, .ref q_1]))]) [0] rfl
  have hD9 := hD.sub (ws' := [(h0, .inr (14, [.int b1, .int b2, .int b3, .ref q_1]))]) [0] (by decide) rfl
  have hK9 := hK.sub (tys' := []) [] rfl
  exact end_v hx hb hr hlocks hP9 hD9 hK9 hS q_1 rfl rfl trivial (Nat.le_of_ble_eq_true rfl) (Nat.le_of_ble_eq_true rfl) dX10_init_36
set_option maxHeartbeats 4000000 in
set_option maxRecDepth 100000 in
/-- hide of the reference, on a fresh object -/
theorem m_hide (l : Launch) (D : va_G) (tC tE sz : Nat) (mm l0 l1 l2 l3 l4 la sk ab bu cu sd : Nat) (a1 a2 a3 : Int32) : Met l yX13_hide wsX13_hide ({ frames := 5, cells := 3, slots := 134, locals := 108 }) (Pg D tC tE sz [(mm, .inr (17, [.int 0, .int 0, .ref l0, .ref la, .ref l1, .ref l2, .ref l3, .ref sk, .ref ab, .ref bu, .ref cu, .ref sd, .ref l4])), (l2, .inr (3, [.int 0, .ref tE, .int 0]))] [] [.ref mm, .int a1, .int a2, .int a3]) (Qgi (S := Int32 × Int32) D (fun u => [(mm, .inr (17, [.int (u.1), .int (u.2), .ref l0, .ref la, .ref l1, .ref l2, .ref l3, .ref sk, .ref ab, .ref bu, .ref cu, .ref sd, .ref l4]))]) (fun u => []) (fun r u => (hidB a1 a2 a3 = true ∧ u.1 = 0 ∧ r = 0) ∨ (hidB a1 a2 a3 = false ∧ u.1 = 1)) (va_A [(mm, .inr (17, [.int 0, .int 0, .ref l0, .ref la, .ref l1, .ref l2, .ref l3, .ref sk, .ref ab, .ref bu, .ref cu, .ref sd, .ref l4])), (l2, .inr (3, [.int 0, .ref tE, .int 0]))] sz)) 3 134 (va_A [(mm, .inr (17, [.int 0, .int 0, .ref l0, .ref la, .ref l1, .ref l2, .ref l3, .ref sk, .ref ab, .ref bu, .ref cu, .ref sd, .ref l4])), (l2, .inr (3, [.int 0, .ref tE, .int 0]))] sz) := by
  refine og_m (cc := cX13_hide) (maxL := 4) (ret := (some .int)) (Qc := Qgi (S := Int32 × Int32) D (fun u => [(mm, .inr (17, [.int (u.1), .int (u.2), .ref l0, .ref la, .ref l1, .ref l2, .ref l3, .ref sk, .ref ab, .ref bu, .ref cu, .ref sd, .ref l4]))]) (fun u => []) (fun r u => (hidB a1 a2 a3 = true ∧ u.1 = 0 ∧ r = 0) ∨ (hidB a1 a2 a3 = false ∧ u.1 = 1))) (by decide) rfl (Nat.le_of_ble_eq_true rfl) ?_
  intro p e s m below meth c A hx hb hr hml hts hown hlocks hin hP hD hK hG hA hS ls hl
  have hl : lv_has ls 4 [(0, .ref mm), (1, .int a1), (2, .int a2), (3, .int a3)] := hl
  refine lv_aload_n hx hb dX13_hide_0 rfl (lv_at hl 0 rfl) ?_
  refine lv_iconst (v := 0) hx hb dX13_hide_1 (by decide) ?_
  refine va_put (D := D) (ci := 17) (v := .int 0) (ty := .int) (C := RX13) (T := TX13) (N := 13) hx hb hts (fun w h => List.mem_cons_of_mem _ (List.mem_append_left _ (List.mem_append_left _ (List.mem_append_right _ h)))) tyX13 tyX13_ok nmX13 hown hK hP hD hS 0 rfl rfl 0 (by decide) (hts (.fieldLink RX13 48 "LastroomModel" "code" "I") (List.mem_of_getElem? (i := 1) rfl)) (fun _ h9 => h9) rfl (by decide +kernel) rfl rfl (Nat.le_of_ble_eq_true rfl) dX13_hide_2 (fun H locs hP hD hS => ?_)
  have hP : va_P D vwCl [(mm, .inr (17, [.int 0, .int 0, .ref l0, .ref la, .ref l1, .ref l2, .ref l3, .ref sk, .ref ab, .ref bu, .ref cu, .ref sd, .ref l4])), (l2, .inr (3, [.int 0, .ref tE, .int 0]))] H := hP
  have hD : va_D A [(mm, .inr (17, [.int 0, .int 0, .ref l0, .ref la, .ref l1, .ref l2, .ref l3, .ref sk, .ref ab, .ref bu, .ref cu, .ref sd, .ref l4])), (l2, .inr (3, [.int 0, .ref tE, .int 0]))] := hD
  refine lv_iload_n hx hb dX13_hide_5 rfl (lv_at hl 1 rfl) ?_
  refine lv_iconst (v := 0) hx hb dX13_hide_6 (by decide) ?_
  refine lv_iconst (v := 4) hx hb dX13_hide_7 (by decide) ?_
  have hFc := va_free (wc := []) hD hS hA [] rfl
  refine va_calli (va_runS (As := [.int a1, .int 0, .int 4]) (rest := []) ⟨hx, hb, hml, hown, hts⟩ (m_in l D tC tE H.size a1 0 4) (va_cwS 3 hts gX13_hide_X13_in rfl rfl rfl (by decide +kernel) ⟨(Nat.le_of_ble_eq_true rfl), (Nat.le_of_ble_eq_true rfl)⟩) ⟨pg_blind, (pg_pre hP hD hK hG hS hFc [] rfl (by decide) [] rfl _)⟩ rfl rfl hl.1 rfl (lv_room (Nat.le_of_ble_eq_true rfl)) dX13_hide_8 ⟨(Nat.le_of_ble_eq_true rfl), (Nat.le_of_ble_eq_true rfl)⟩) hS (fun q _ h => hFc q h) hFc (fun r_1 u_2 t H locs ht hvm hw hB hz1 hk1 hS => ?_)
  obtain ⟨hP, hD, hK⟩ := jn (wr := [(mm, .inr (17, [.int 0, .int 0, .ref l0, .ref la, .ref l1, .ref l2, .ref l3, .ref sk, .ref ab, .ref bu, .ref cu, .ref sd, .ref l4])), (l2, .inr (3, [.int 0, .ref tE, .int 0]))]) (w1 := []) (t1 := []) (tr := []) hP hD hK [] [0, 1] rfl rfl (by decide) (by decide) [] rfl hk1 hFc hB rfl rfl ht hvm
  have hP : va_P D vwCl [(mm, .inr (17, [.int 0, .int 0, .ref l0, .ref la, .ref l1, .ref l2, .ref l3, .ref sk, .ref ab, .ref bu, .ref cu, .ref sd, .ref l4])), (l2, .inr (3, [.int 0, .ref tE, .int 0]))] H := hP
  have hD : va_D A [(mm, .inr (17, [.int 0, .int 0, .ref l0, .ref la, .ref l1, .ref l2, .ref l3, .ref sk, .ref ab, .ref bu, .ref cu, .ref sd, .ref l4])), (l2, .inr (3, [.int 0, .ref tE, .int 0]))] := hD
  have hK : va_K D vwCl [] s := hK
  refine W.widen (k := 0) (n := 0) (Nat.le_of_ble_eq_true rfl) (Nat.le_of_ble_eq_true rfl) ?_
  rcases hw with ⟨q_4, h_3⟩ | ⟨q_4, h_3⟩
  · subst q_4
    refine lv_if_eq (tgt := 34) hx hb dX13_hide_11 (by decide) (fun c_5 => absurd c_5 (show ¬ (1 : Int32) = 0 from (by decide))) (fun c_5 => ?_)
    refine lv_iload_n hx hb dX13_hide_14 rfl (lv_at hl 2 rfl) ?_
    refine lv_iconst (v := 1) hx hb dX13_hide_15 (by decide) ?_
    refine lv_bipush (v := 12) hx hb dX13_hide_16 (by decide) ?_
    have hFc := va_free (wc := []) hD hS hA [] rfl
    refine va_calli (va_runS (As := [.int a2, .int 1, .int 12]) (rest := []) ⟨hx, hb, hml, hown, hts⟩ (m_in l D tC tE H.size a2 1 12) (va_cwS 3 hts gX13_hide_X13_in rfl rfl rfl (by decide +kernel) ⟨(Nat.le_of_ble_eq_true rfl), (Nat.le_of_ble_eq_true rfl)⟩) ⟨pg_blind, (pg_pre hP hD hK hG hS hFc [] rfl (by decide) [] rfl _)⟩ rfl rfl hl.1 rfl (lv_room (Nat.le_of_ble_eq_true rfl)) dX13_hide_18 ⟨(Nat.le_of_ble_eq_true rfl), (Nat.le_of_ble_eq_true rfl)⟩) hS (fun q _ h => hFc q h) hFc (fun r_6 u_7 t H locs ht hvm hw hB hz1 hk1 hS => ?_)
    obtain ⟨hP, hD, hK⟩ := jn (wr := [(mm, .inr (17, [.int 0, .int 0, .ref l0, .ref la, .ref l1, .ref l2, .ref l3, .ref sk, .ref ab, .ref bu, .ref cu, .ref sd, .ref l4])), (l2, .inr (3, [.int 0, .ref tE, .int 0]))]) (w1 := []) (t1 := []) (tr := []) hP hD hK [] [0, 1] rfl rfl (by decide) (by decide) [] rfl hk1 hFc hB rfl rfl ht hvm
    have hP : va_P D vwCl [(mm, .inr (17, [.int 0, .int 0, .ref l0, .ref la, .ref l1, .ref l2, .ref l3, .ref sk, .ref ab, .ref bu, .ref cu, .ref sd, .ref l4])), (l2, .inr (3, [.int 0, .ref tE, .int 0]))] H := hP
    have hD : va_D A [(mm, .inr (17, [.int 0, .int 0, .ref l0, .ref la, .ref l1, .ref l2, .ref l3, .ref sk, .ref ab, .ref bu, .ref cu, .ref sd, .ref l4])), (l2, .inr (3, [.int 0, .ref tE, .int 0]))] := hD
    have hK : va_K D vwCl [] s := hK
    refine W.widen (k := 0) (n := 0) (Nat.le_of_ble_eq_true rfl) (Nat.le_of_ble_eq_true rfl) ?_
    rcases hw with ⟨q_9, h_8⟩ | ⟨q_9, h_8⟩
    · subst q_9
      refine lv_if_eq (tgt := 34) hx hb dX13_hide_21 (by decide) (fun c_10 => absurd c_10 (show ¬ (1 : Int32) = 0 from (by decide))) (fun c_10 => ?_)
      refine lv_iload_n hx hb dX13_hide_24 rfl (lv_at hl 3 rfl) ?_
      refine lv_iconst (v := 1) hx hb dX13_hide_25 (by decide) ?_
      refine lv_bipush (v := 10) hx hb dX13_hide_26 (by decide) ?_
      have hFc := va_free (wc := []) hD hS hA [] rfl
      refine va_calli (va_runS (As := [.int a3, .int 1, .int 10]) (rest := []) ⟨hx, hb, hml, hown, hts⟩ (m_in l D tC tE H.size a3 1 10) (va_cwS 3 hts gX13_hide_X13_in rfl rfl rfl (by decide +kernel) ⟨(Nat.le_of_ble_eq_true rfl), (Nat.le_of_ble_eq_true rfl)⟩) ⟨pg_blind, (pg_pre hP hD hK hG hS hFc [] rfl (by decide) [] rfl _)⟩ rfl rfl hl.1 rfl (lv_room (Nat.le_of_ble_eq_true rfl)) dX13_hide_28 ⟨(Nat.le_of_ble_eq_true rfl), (Nat.le_of_ble_eq_true rfl)⟩) hS (fun q _ h => hFc q h) hFc (fun r_11 u_12 t H locs ht hvm hw hB hz1 hk1 hS => ?_)
      obtain ⟨hP, hD, hK⟩ := jn (wr := [(mm, .inr (17, [.int 0, .int 0, .ref l0, .ref la, .ref l1, .ref l2, .ref l3, .ref sk, .ref ab, .ref bu, .ref cu, .ref sd, .ref l4])), (l2, .inr (3, [.int 0, .ref tE, .int 0]))]) (w1 := []) (t1 := []) (tr := []) hP hD hK [] [0, 1] rfl rfl (by decide) (by decide) [] rfl hk1 hFc hB rfl rfl ht hvm
      have hP : va_P D vwCl [(mm, .inr (17, [.int 0, .int 0, .ref l0, .ref la, .ref l1, .ref l2, .ref l3, .ref sk, .ref ab, .ref bu, .ref cu, .ref sd, .ref l4])), (l2, .inr (3, [.int 0, .ref tE, .int 0]))] H := hP
      have hD : va_D A [(mm, .inr (17, [.int 0, .int 0, .ref l0, .ref la, .ref l1, .ref l2, .ref l3, .ref sk, .ref ab, .ref bu, .ref cu, .ref sd, .ref l4])), (l2, .inr (3, [.int 0, .ref tE, .int 0]))] := hD
      have hK : va_K D vwCl [] s := hK
      refine W.widen (k := 0) (n := 0) (Nat.le_of_ble_eq_true rfl) (Nat.le_of_ble_eq_true rfl) ?_
      rcases hw with ⟨q_14, h_13⟩ | ⟨q_14, h_13⟩
      · subst q_14
        refine lv_if_ne (tgt := 40) hx hb dX13_hide_31 (by decide) (fun c_15 => ?_) (fun c_15 => absurd c_15 (by decide))
        refine lv_aload_n hx hb dX13_hide_40 rfl (lv_at hl 0 rfl) ?_
        refine va_get (D := D) (ci := 17) (v := .ref l2) (C := RX13) (T := TX13) (N := 13) hx hb hts (fun w h => List.mem_cons_of_mem _ (List.mem_append_left _ (List.mem_append_left _ (List.mem_append_right _ h)))) hown hK hP 0 rfl rfl 5 (by decide) (hts (.fieldLink RX13 23 "LastroomModel" "hides" "Ljava/util/List;") (List.mem_of_getElem? (i := 2) rfl)) (fun _ h9 => h9) rfl dX13_hide_41 ?_
        have hFc := va_free (wc := [(l2, .inr (3, [.int 0, .ref tE, .int 0]))]) hD hS hA [1] rfl
        refine va_callFi (va_runF (As := []) (rest := []) (hK.1 3 _ rfl).2 ⟨hx, hb, hml, hown, hts⟩ (c_size l D tC tE H.size l2 0 0 tE) (va_cwF 0 hts gX13_hide_Jx4a65c_size_8abf5_f84Jx4a65c rfl rfl rfl (hG.2.2.2.2.2.2.2.2.1 _ (List.mem_of_getElem? (i := 0) rfl)) (by decide +kernel) ⟨(Nat.le_of_ble_eq_true rfl), (Nat.le_of_ble_eq_true rfl)⟩) ⟨pg_blind, (va_recv hK hP (ci := 3) (q0 := 1) rfl rfl), (pg_pre hP hD hK hG hS hFc [1] rfl (by decide) [] rfl _)⟩ rfl rfl hl.1 rfl (lv_room (Nat.le_of_ble_eq_true rfl)) dX13_hide_44 ⟨(Nat.le_of_ble_eq_true rfl), (Nat.le_of_ble_eq_true rfl)⟩) hS (fun q _ h => hFc q h) hFc (fun r_16 u_17 t H locs ht hvm hw hB hz1 hk1 hS => ?_)
        subst hw
        obtain ⟨hP, hD, hK⟩ := jn (wr := [(mm, .inr (17, [.int 0, .int 0, .ref l0, .ref la, .ref l1, .ref l2, .ref l3, .ref sk, .ref ab, .ref bu, .ref cu, .ref sd, .ref l4]))]) (w1 := [(l2, .inr (3, [.int 0, .ref tE, .int 0]))]) (t1 := []) (tr := []) hP hD hK [1] [0] rfl rfl (by decide) (by decide) [] rfl hk1 hFc hB rfl rfl ht hvm
        have hP : va_P D vwCl [(mm, .inr (17, [.int 0, .int 0, .ref l0, .ref la, .ref l1, .ref l2, .ref l3, .ref sk, .ref ab, .ref bu, .ref cu, .ref sd, .ref l4])), (l2, .inr (3, [.int 0, .ref tE, .int 0]))] H := hP
        have hD : va_D A [(mm, .inr (17, [.int 0, .int 0, .ref l0, .ref la, .ref l1, .ref l2, .ref l3, .ref sk, .ref ab, .ref bu, .ref cu, .ref sd, .ref l4])), (l2, .inr (3, [.int 0, .ref tE, .int 0]))] := hD
        have hK : va_K D vwCl [] s := hK
        refine W.widen (k := 0) (n := 0) (Nat.le_of_ble_eq_true rfl) (Nat.le_of_ble_eq_true rfl) ?_
        refine lv_bipush (v := 6) hx hb dX13_hide_49 (by decide) ?_
        refine lv_icmp_ne (tgt := 60) hx hb dX13_hide_51 (by decide) (fun c_18 => ?_) (fun c_18 => absurd c_18 (by decide))
        obtain ⟨hidN, hidN1, hidN2⟩ := hid_n h_8 h_13
        refine lv_aload_n hx hb dX13_hide_60 rfl (lv_at hl 0 rfl) ?_
        refine va_get (D := D) (ci := 17) (v := .ref l2) (C := RX13) (T := TX13) (N := 13) hx hb hts (fun w h => List.mem_cons_of_mem _ (List.mem_append_left _ (List.mem_append_left _ (List.mem_append_right _ h)))) hown hK hP 0 rfl rfl 5 (by decide) (hts (.fieldLink RX13 23 "LastroomModel" "hides" "Ljava/util/List;") (List.mem_of_getElem? (i := 2) rfl)) (fun _ h9 => h9) rfl dX13_hide_61 ?_
        refine va_new (ci := 14) (fs := [.int 0, .int 0, .int 0, .null]) (C := RX10) (T := TX10) (N := 4) hx hb hts (fun w h => List.mem_cons_of_mem _ (List.mem_append_left _ (List.mem_append_right _ h))) tyX10 tyX10_ok hown (hts (.classLink RX13 202 RX10) (List.mem_of_getElem? (i := 3) rfl)) (hts (.instantiable RX10 4) (List.mem_of_getElem? (i := 4) rfl)) (hts (.initialized RX10) (List.mem_of_getElem? (i := 5) rfl)) hK hP hD hS hA rfl (fun j hj => by rcases (show j = 0 ∨ j = 1 ∨ j = 2 ∨ j = 3 by omega) with rfl | rfl | rfl | rfl <;> rfl) (Nat.le_of_ble_eq_true rfl) (Nat.le_of_ble_eq_true rfl) dX13_hide_64 (fun q_19 H hP hD hS => ?_)
        have hP : va_P D vwCl [(mm, .inr (17, [.int 0, .int 0, .ref l0, .ref la, .ref l1, .ref l2, .ref l3, .ref sk, .ref ab, .ref bu, .ref cu, .ref sd, .ref l4])), (l2, .inr (3, [.int 0, .ref tE, .int 0])), (q_19, .inr (14, [.int 0, .int 0, .int 0, .null]))] H := hP
        have hD : va_D A [(mm, .inr (17, [.int 0, .int 0, .ref l0, .ref la, .ref l1, .ref l2, .ref l3, .ref sk, .ref ab, .ref bu, .ref cu, .ref sd, .ref l4])), (l2, .inr (3, [.int 0, .ref tE, .int 0])), (q_19, .inr (14, [.int 0, .int 0, .int 0, .null]))] := hD
        refine W.widen (k := 1) (n := 4) (Nat.le_of_ble_eq_true rfl) (Nat.le_of_ble_eq_true rfl) ?_
        refine lv_dup hx hb dX13_hide_67 rfl ?_
        refine lv_iload_n hx hb dX13_hide_68 rfl (lv_at hl 1 rfl) ?_
        refine lv_iload_n hx hb dX13_hide_69 rfl (lv_at hl 2 rfl) ?_
        refine lv_iload_n hx hb dX13_hide_70 rfl (lv_at hl 3 rfl) ?_
        have hFc := va_free (wc := [(q_19, .inr (14, [.int 0, .int 0, .int 0, .null]))]) hD hS hA [2] rfl
        refine va_callv (va_runI (As := [.int a1, .int a2, .int a3]) (rest := [.ref q_19, .ref l2]) ⟨hx, hb, hml, hown, hts⟩ (m_Hide l D tC tE H.size q_19 a1 a2 a3 hidN hidN1 hidN2) (cwI 3 hts gX13_hide_X10_init rfl rfl rfl (hts (.initialized RX10) (List.mem_of_getElem? (i := 5) rfl)) (hts (.methodLink RX13 204 yX10_init) (List.mem_of_getElem? (i := 20) rfl)) (hts (.instanceMethod yX10_init) (List.mem_of_getElem? (i := 21) rfl)) rfl (by decide +kernel) ⟨(Nat.le_of_ble_eq_true rfl), (Nat.le_of_ble_eq_true rfl)⟩) ⟨pg_blind, (pg_pre hP hD hK hG hS hFc [2] rfl (by decide) [] rfl _)⟩ rfl rfl hl.1 rfl (lv_room (Nat.le_of_ble_eq_true rfl)) dX13_hide_71 ⟨(Nat.le_of_ble_eq_true rfl), (Nat.le_of_ble_eq_true rfl)⟩) hS (fun q _ h => hFc q h) hFc (fun u_20 t H locs ht hvm hw hB hz1 hk1 hS => ?_)
        obtain ⟨hP, hD, hK⟩ := jn (wr := [(mm, .inr (17, [.int 0, .int 0, .ref l0, .ref la, .ref l1, .ref l2, .ref l3, .ref sk, .ref ab, .ref bu, .ref cu, .ref sd, .ref l4])), (l2, .inr (3, [.int 0, .ref tE, .int 0]))]) (w1 := [(q_19, .inr (14, [.int a1, .int a2, .int a3, .ref u_20]))]) (t1 := []) (tr := []) hP hD hK [2] [0, 1] rfl rfl (by decide) (by decide) [] rfl hk1 hFc hB rfl rfl ht hvm
        have hP : va_P D vwCl [(mm, .inr (17, [.int 0, .int 0, .ref l0, .ref la, .ref l1, .ref l2, .ref l3, .ref sk, .ref ab, .ref bu, .ref cu, .ref sd, .ref l4])), (l2, .inr (3, [.int 0, .ref tE, .int 0])), (q_19, .inr (14, [.int a1, .int a2, .int a3, .ref u_20]))] H := hP
        have hD : va_D A [(mm, .inr (17, [.int 0, .int 0, .ref l0, .ref la, .ref l1, .ref l2, .ref l3, .ref sk, .ref ab, .ref bu, .ref cu, .ref sd, .ref l4])), (l2, .inr (3, [.int 0, .ref tE, .int 0])), (q_19, .inr (14, [.int a1, .int a2, .int a3, .ref u_20]))] := hD
        have hK : va_K D vwCl [] s := hK
        refine W.widen (k := 2) (n := 124) (Nat.le_of_ble_eq_true rfl) (Nat.le_of_ble_eq_true rfl) ?_
        have hFc := va_free (wc := [(l2, .inr (3, [.int 0, .ref tE, .int 0])), (q_19, .inr (14, [.int a1, .int a2, .int a3, .ref u_20]))]) hD hS hA [1, 2] rfl
        refine va_callFi (va_runF (As := [.ref q_19]) (rest := []) (hK.1 3 _ rfl).2 ⟨hx, hb, hml, hown, hts⟩ (c_addH l D tC tE H.size l2 q_19 a1 a2 a3 u_20) (va_cwF 1 hts gX13_hide_Jx4a65c_add_9ea2d_f90Jx4a65c rfl rfl rfl (hG.2.2.2.2.2.2.2.2.1 _ (List.mem_of_getElem? (i := 1) rfl)) (by decide +kernel) ⟨(Nat.le_of_ble_eq_true rfl), (Nat.le_of_ble_eq_true rfl)⟩) ⟨pg_blind, (va_recv hK hP (ci := 3) (q0 := 1) rfl rfl), (pg_pre hP hD hK hG hS hFc [1, 2] rfl (by decide) [] rfl _)⟩ rfl rfl hl.1 rfl (lv_room (Nat.le_of_ble_eq_true rfl)) dX13_hide_74 ⟨(Nat.le_of_ble_eq_true rfl), (Nat.le_of_ble_eq_true rfl)⟩) hS (fun q _ h => hFc q h) hFc (fun r_21 u_22 t H locs ht hvm hw hB hz1 hk1 hS => ?_)
        subst hw
        obtain ⟨hP, hD, hK⟩ := jn (wr := [(mm, .inr (17, [.int 0, .int 0, .ref l0, .ref la, .ref l1, .ref l2, .ref l3, .ref sk, .ref ab, .ref bu, .ref cu, .ref sd, .ref l4]))]) (w1 := [(l2, .inr (3, [.int 1, .ref u_22, .int 1]))]) (t1 := []) (tr := []) hP hD hK [1, 2] [0] rfl rfl (by decide) (by decide) [] rfl hk1 hFc hB rfl rfl ht hvm
        have hP : va_P D vwCl [(mm, .inr (17, [.int 0, .int 0, .ref l0, .ref la, .ref l1, .ref l2, .ref l3, .ref sk, .ref ab, .ref bu, .ref cu, .ref sd, .ref l4])), (l2, .inr (3, [.int 1, .ref u_22, .int 1]))] H := hP
        have hD : va_D A [(mm, .inr (17, [.int 0, .int 0, .ref l0, .ref la, .ref l1, .ref l2, .ref l3, .ref sk, .ref ab, .ref bu, .ref cu, .ref sd, .ref l4])), (l2, .inr (3, [.int 1, .ref u_22, .int 1]))] := hD
        have hK : va_K D vwCl [] s := hK
        refine W.widen (k := 3) (n := 134) (Nat.le_of_ble_eq_true rfl) (Nat.le_of_ble_eq_true rfl) ?_
        refine lv_pop hx hb dX13_hide_79 rfl ?_
        refine lv_aload_n hx hb dX13_hide_80 rfl (lv_at hl 0 rfl) ?_
        refine va_get (D := D) (ci := 17) (v := .ref l2) (C := RX13) (T := TX13) (N := 13) hx hb hts (fun w h => List.mem_cons_of_mem _ (List.mem_append_left _ (List.mem_append_left _ (List.mem_append_right _ h)))) hown hK hP 0 rfl rfl 5 (by decide) (hts (.fieldLink RX13 23 "LastroomModel" "hides" "Ljava/util/List;") (List.mem_of_getElem? (i := 2) rfl)) (fun _ h9 => h9) rfl dX13_hide_81 ?_
        have hFc := va_free (wc := [(l2, .inr (3, [.int 1, .ref u_22, .int 1]))]) hD hS hA [1] rfl
        refine va_callFi (va_runF (As := []) (rest := []) (hK.1 3 _ rfl).2 ⟨hx, hb, hml, hown, hts⟩ (c_size l D tC tE H.size l2 1 1 u_22) (va_cwF 0 hts gX13_hide_Jx4a65c_size_8abf5_f84Jx4a65c rfl rfl rfl (hG.2.2.2.2.2.2.2.2.1 _ (List.mem_of_getElem? (i := 0) rfl)) (by decide +kernel) ⟨(Nat.le_of_ble_eq_true rfl), (Nat.le_of_ble_eq_true rfl)⟩) ⟨pg_blind, (va_recv hK hP (ci := 3) (q0 := 1) rfl rfl), (pg_pre hP hD hK hG hS hFc [1] rfl (by decide) [] rfl _)⟩ rfl rfl hl.1 rfl (lv_room (Nat.le_of_ble_eq_true rfl)) dX13_hide_84 ⟨(Nat.le_of_ble_eq_true rfl), (Nat.le_of_ble_eq_true rfl)⟩) hS (fun q _ h => hFc q h) hFc (fun r_23 u_24 t H locs ht hvm hw hB hz1 hk1 hS => ?_)
        subst hw
        obtain ⟨hP, hD, hK⟩ := jn (wr := [(mm, .inr (17, [.int 0, .int 0, .ref l0, .ref la, .ref l1, .ref l2, .ref l3, .ref sk, .ref ab, .ref bu, .ref cu, .ref sd, .ref l4]))]) (w1 := [(l2, .inr (3, [.int 1, .ref u_22, .int 1]))]) (t1 := []) (tr := []) hP hD hK [1] [0] rfl rfl (by decide) (by decide) [] rfl hk1 hFc hB rfl rfl ht hvm
        have hP : va_P D vwCl [(mm, .inr (17, [.int 0, .int 0, .ref l0, .ref la, .ref l1, .ref l2, .ref l3, .ref sk, .ref ab, .ref bu, .ref cu, .ref sd, .ref l4])), (l2, .inr (3, [.int 1, .ref u_22, .int 1]))] H := hP
        have hD : va_D A [(mm, .inr (17, [.int 0, .int 0, .ref l0, .ref la, .ref l1, .ref l2, .ref l3, .ref sk, .ref ab, .ref bu, .ref cu, .ref sd, .ref l4])), (l2, .inr (3, [.int 1, .ref u_22, .int 1]))] := hD
        have hK : va_K D vwCl [] s := hK
        refine W.widen (k := 3) (n := 134) (Nat.le_of_ble_eq_true rfl) (Nat.le_of_ble_eq_true rfl) ?_
        refine lv_iconst (v := 1) hx hb dX13_hide_89 (by decide) ?_
        refine lv_isub hx hb dX13_hide_90 ?_
        refine lv_topi (fun y hy => ?_)
        rw [show (1 : Int32) - (1 : Int32) = 0 by decide] at hy
        subst hy
        have hP9 := hP.sub (ws' := [(mm, .inr (17, [.int 0, .int 0, .ref l0, .ref la, .ref l1, .ref l2, .ref l3, .ref sk, .ref ab, .ref bu, .ref cu, .ref sd, .ref l4]))]) [0] rfl
        have hD9 := hD.sub (ws' := [(mm, .inr (17, [.int 0, .int 0, .ref l0, .ref la, .ref l1, .ref l2, .ref l3, .ref sk, .ref ab, .ref bu, .ref cu, .ref sd, .ref l4]))]) [0] (by decide) rfl
        have hK9 := hK.sub (tys' := []) [] rfl
        exact end_i hx hb hr hlocks hP9 hD9 hK9 hS (0, 0) rfl rfl (Or.inl ⟨by simp [hidB, h_3, h_8, h_13], rfl, rfl⟩) (Nat.le_of_ble_eq_true rfl) (Nat.le_of_ble_eq_true rfl) dX13_hide_91
      · subst q_14
        refine lv_if_ne (tgt := 40) hx hb dX13_hide_31 (by decide) (fun c_25 => absurd (by decide) c_25) (fun c_25 => ?_)
        refine lv_aload_n hx hb dX13_hide_34 rfl (lv_at hl 0 rfl) ?_
        refine lv_iconst (v := 1) hx hb dX13_hide_35 (by decide) ?_
        have hFc := va_free (wc := [(mm, .inr (17, [.int 0, .int 0, .ref l0, .ref la, .ref l1, .ref l2, .ref l3, .ref sk, .ref ab, .ref bu, .ref cu, .ref sd, .ref l4]))]) hD hS hA [0] rfl
        refine va_calli (va_runV (As := [.int 1]) (rest := []) ⟨hx, hb, hml, hown, hts⟩ (m_fails l D tC tE H.size mm l0 l1 l2 l3 l4 la sk ab bu cu sd 0 0 1) (cwV 1 hts gX13_hide_X13_fails rfl rfl rfl (by decide +kernel) ⟨(Nat.le_of_ble_eq_true rfl), (Nat.le_of_ble_eq_true rfl)⟩) ⟨pg_blind, (va_recv hK hP (ci := 17) (q0 := 0) rfl rfl), (pg_pre hP hD hK hG hS hFc [0] rfl (by decide) [] rfl _)⟩ rfl rfl hl.1 rfl (lv_room (Nat.le_of_ble_eq_true rfl)) dX13_hide_36 ⟨(Nat.le_of_ble_eq_true rfl), (Nat.le_of_ble_eq_true rfl)⟩) hS (fun q _ h => hFc q h) hFc (fun r_26 u_27 t H locs ht hvm hw hB hz1 hk1 hS => ?_)
        subst hw
        obtain ⟨hP, hD, hK⟩ := jn (wr := [(l2, .inr (3, [.int 0, .ref tE, .int 0]))]) (w1 := [(mm, .inr (17, [.int 1, .int 0, .ref l0, .ref la, .ref l1, .ref l2, .ref l3, .ref sk, .ref ab, .ref bu, .ref cu, .ref sd, .ref l4]))]) (t1 := []) (tr := []) hP hD hK [0] [1] rfl rfl (by decide) (by decide) [] rfl hk1 hFc hB rfl rfl ht hvm
        have hP : va_P D vwCl [(l2, .inr (3, [.int 0, .ref tE, .int 0])), (mm, .inr (17, [.int 1, .int 0, .ref l0, .ref la, .ref l1, .ref l2, .ref l3, .ref sk, .ref ab, .ref bu, .ref cu, .ref sd, .ref l4]))] H := hP
        have hD : va_D A [(l2, .inr (3, [.int 0, .ref tE, .int 0])), (mm, .inr (17, [.int 1, .int 0, .ref l0, .ref la, .ref l1, .ref l2, .ref l3, .ref sk, .ref ab, .ref bu, .ref cu, .ref sd, .ref l4]))] := hD
        have hK : va_K D vwCl [] s := hK
        refine W.widen (k := 0) (n := 0) (Nat.le_of_ble_eq_true rfl) (Nat.le_of_ble_eq_true rfl) ?_
        have hP9 := hP.sub (ws' := [(mm, .inr (17, [.int 1, .int 0, .ref l0, .ref la, .ref l1, .ref l2, .ref l3, .ref sk, .ref ab, .ref bu, .ref cu, .ref sd, .ref l4]))]) [1] rfl
        have hD9 := hD.sub (ws' := [(mm, .inr (17, [.int 1, .int 0, .ref l0, .ref la, .ref l1, .ref l2, .ref l3, .ref sk, .ref ab, .ref bu, .ref cu, .ref sd, .ref l4]))]) [1] (by decide) rfl
        have hK9 := hK.sub (tys' := []) [] rfl
        exact end_i hx hb hr hlocks hP9 hD9 hK9 hS (1, 0) rfl rfl (Or.inr ⟨by simp [hidB, h_3, h_8, h_13], rfl⟩) (Nat.le_of_ble_eq_true rfl) (Nat.le_of_ble_eq_true rfl) dX13_hide_39
    · subst q_9
      refine lv_if_eq (tgt := 34) hx hb dX13_hide_21 (by decide) (fun c_28 => ?_) (fun c_28 => absurd (show (0 : Int32) = 0 from (by decide)) c_28)
      refine lv_aload_n hx hb dX13_hide_34 rfl (lv_at hl 0 rfl) ?_
      refine lv_iconst (v := 1) hx hb dX13_hide_35 (by decide) ?_
      have hFc := va_free (wc := [(mm, .inr (17, [.int 0, .int 0, .ref l0, .ref la, .ref l1, .ref l2, .ref l3, .ref sk, .ref ab, .ref bu, .ref cu, .ref sd, .ref l4]))]) hD hS hA [0] rfl
      refine va_calli (va_runV (As := [.int 1]) (rest := []) ⟨hx, hb, hml, hown, hts⟩ (m_fails l D tC tE H.size mm l0 l1 l2 l3 l4 la sk ab bu cu sd 0 0 1) (cwV 1 hts gX13_hide_X13_fails rfl rfl rfl (by decide +kernel) ⟨(Nat.le_of_ble_eq_true rfl), (Nat.le_of_ble_eq_true rfl)⟩) ⟨pg_blind, (va_recv hK hP (ci := 17) (q0 := 0) rfl rfl), (pg_pre hP hD hK hG hS hFc [0] rfl (by decide) [] rfl _)⟩ rfl rfl hl.1 rfl (lv_room (Nat.le_of_ble_eq_true rfl)) dX13_hide_36 ⟨(Nat.le_of_ble_eq_true rfl), (Nat.le_of_ble_eq_true rfl)⟩) hS (fun q _ h => hFc q h) hFc (fun r_29 u_30 t H locs ht hvm hw hB hz1 hk1 hS => ?_)
      subst hw
      obtain ⟨hP, hD, hK⟩ := jn (wr := [(l2, .inr (3, [.int 0, .ref tE, .int 0]))]) (w1 := [(mm, .inr (17, [.int 1, .int 0, .ref l0, .ref la, .ref l1, .ref l2, .ref l3, .ref sk, .ref ab, .ref bu, .ref cu, .ref sd, .ref l4]))]) (t1 := []) (tr := []) hP hD hK [0] [1] rfl rfl (by decide) (by decide) [] rfl hk1 hFc hB rfl rfl ht hvm
      have hP : va_P D vwCl [(l2, .inr (3, [.int 0, .ref tE, .int 0])), (mm, .inr (17, [.int 1, .int 0, .ref l0, .ref la, .ref l1, .ref l2, .ref l3, .ref sk, .ref ab, .ref bu, .ref cu, .ref sd, .ref l4]))] H := hP
      have hD : va_D A [(l2, .inr (3, [.int 0, .ref tE, .int 0])), (mm, .inr (17, [.int 1, .int 0, .ref l0, .ref la, .ref l1, .ref l2, .ref l3, .ref sk, .ref ab, .ref bu, .ref cu, .ref sd, .ref l4]))] := hD
      have hK : va_K D vwCl [] s := hK
      refine W.widen (k := 0) (n := 0) (Nat.le_of_ble_eq_true rfl) (Nat.le_of_ble_eq_true rfl) ?_
      have hP9 := hP.sub (ws' := [(mm, .inr (17, [.int 1, .int 0, .ref l0, .ref la, .ref l1, .ref l2, .ref l3, .ref sk, .ref ab, .ref bu, .ref cu, .ref sd, .ref l4]))]) [1] rfl
      have hD9 := hD.sub (ws' := [(mm, .inr (17, [.int 1, .int 0, .ref l0, .ref la, .ref l1, .ref l2, .ref l3, .ref sk, .ref ab, .ref bu, .ref cu, .ref sd, .ref l4]))]) [1] (by decide) rfl
      have hK9 := hK.sub (tys' := []) [] rfl
      exact end_i hx hb hr hlocks hP9 hD9 hK9 hS (1, 0) rfl rfl (Or.inr ⟨by simp [hidB, h_3, h_8], rfl⟩) (Nat.le_of_ble_eq_true rfl) (Nat.le_of_ble_eq_true rfl) dX13_hide_39
  · subst q_4
    refine lv_if_eq (tgt := 34) hx hb dX13_hide_11 (by decide) (fun c_31 => ?_) (fun c_31 => absurd (show (0 : Int32) = 0 from (by decide)) c_31)
    refine lv_aload_n hx hb dX13_hide_34 rfl (lv_at hl 0 rfl) ?_
    refine lv_iconst (v := 1) hx hb dX13_hide_35 (by decide) ?_
    have hFc := va_free (wc := [(mm, .inr (17, [.int 0, .int 0, .ref l0, .ref la, .ref l1, .ref l2, .ref l3, .ref sk, .ref ab, .ref bu, .ref cu, .ref sd, .ref l4]))]) hD hS hA [0] rfl
    refine va_calli (va_runV (As := [.int 1]) (rest := []) ⟨hx, hb, hml, hown, hts⟩ (m_fails l D tC tE H.size mm l0 l1 l2 l3 l4 la sk ab bu cu sd 0 0 1) (cwV 1 hts gX13_hide_X13_fails rfl rfl rfl (by decide +kernel) ⟨(Nat.le_of_ble_eq_true rfl), (Nat.le_of_ble_eq_true rfl)⟩) ⟨pg_blind, (va_recv hK hP (ci := 17) (q0 := 0) rfl rfl), (pg_pre hP hD hK hG hS hFc [0] rfl (by decide) [] rfl _)⟩ rfl rfl hl.1 rfl (lv_room (Nat.le_of_ble_eq_true rfl)) dX13_hide_36 ⟨(Nat.le_of_ble_eq_true rfl), (Nat.le_of_ble_eq_true rfl)⟩) hS (fun q _ h => hFc q h) hFc (fun r_32 u_33 t H locs ht hvm hw hB hz1 hk1 hS => ?_)
    subst hw
    obtain ⟨hP, hD, hK⟩ := jn (wr := [(l2, .inr (3, [.int 0, .ref tE, .int 0]))]) (w1 := [(mm, .inr (17, [.int 1, .int 0, .ref l0, .ref la, .ref l1, .ref l2, .ref l3, .ref sk, .ref ab, .ref bu, .ref cu, .ref sd, .ref l4]))]) (t1 := []) (tr := []) hP hD hK [0] [1] rfl rfl (by decide) (by decide) [] rfl hk1 hFc hB rfl rfl ht hvm
    have hP : va_P D vwCl [(l2, .inr (3, [.int 0, .ref tE, .int 0])), (mm, .inr (17, [.int 1, .int 0, .ref l0, .ref la, .ref l1, .ref l2, .ref l3, .ref sk, .ref ab, .ref bu, .ref cu, .ref sd, .ref l4]))] H := hP
    have hD : va_D A [(l2, .inr (3, [.int 0, .ref tE, .int 0])), (mm, .inr (17, [.int 1, .int 0, .ref l0, .ref la, .ref l1, .ref l2, .ref l3, .ref sk, .ref ab, .ref bu, .ref cu, .ref sd, .ref l4]))] := hD
    have hK : va_K D vwCl [] s := hK
    refine W.widen (k := 0) (n := 0) (Nat.le_of_ble_eq_true rfl) (Nat.le_of_ble_eq_true rfl) ?_
    have hP9 := hP.sub (ws' := [(mm, .inr (17, [.int 1, .int 0, .ref l0, .ref la, .ref l1, .ref l2, .ref l3, .ref sk, .ref ab, .ref bu, .ref cu, .ref sd, .ref l4]))]) [1] rfl
    have hD9 := hD.sub (ws' := [(mm, .inr (17, [.int 1, .int 0, .ref l0, .ref la, .ref l1, .ref l2, .ref l3, .ref sk, .ref ab, .ref bu, .ref cu, .ref sd, .ref l4]))]) [1] (by decide) rfl
    have hK9 := hK.sub (tys' := []) [] rfl
    exact end_i hx hb hr hlocks hP9 hD9 hK9 hS (1, 0) rfl rfl (Or.inr ⟨by simp [hidB, h_3], rfl⟩) (Nat.le_of_ble_eq_true rfl) (Nat.le_of_ble_eq_true rfl) dX13_hide_39
set_option maxHeartbeats 4000000 in
set_option maxRecDepth 100000 in
/-- LastroomModel() -/
theorem m_LastroomModel (l : Launch) (D : va_G) (tC tE sz : Nat) (h0 : Nat) : Met l yX13_init wsX13_init ({ frames := 4, cells := 11, slots := 331, locals := 72 }) (Pg D tC tE sz [(h0, .inr (17, [.int 0, .int 0, .null, .null, .null, .null, .null, .null, .null, .null, .null, .null, .null]))] [] [.ref h0]) (Qgv (S := (Nat → Nat) × (Nat → ClassId)) D (fun u => [(h0, .inr (17, [.int 0, .int 0, .ref (u.1 0), .ref (u.1 1), .ref (u.1 2), .ref (u.1 3), .ref (u.1 4), .ref (u.1 5), .ref (u.1 6), .ref (u.1 7), .ref (u.1 8), .ref (u.1 9), .ref (u.1 10)])), ((u.1 0), .inr (3, [.int 0, .ref tE, .int 0])), ((u.1 1), .inl ((u.2 0), 255, .inl (fun _ => 0))), ((u.1 2), .inr (3, [.int 0, .ref tE, .int 0])), ((u.1 3), .inr (3, [.int 0, .ref tE, .int 0])), ((u.1 4), .inr (3, [.int 0, .ref tE, .int 0])), ((u.1 5), .inl ((u.2 1), 32, .inl (fun _ => 0))), ((u.1 6), .inl ((u.2 2), 8, .inl (fun _ => 0))), ((u.1 7), .inl ((u.2 3), 8, .inl (fun _ => 0))), ((u.1 8), .inl ((u.2 4), 8, .inl (fun _ => 0))), ((u.1 9), .inl ((u.2 5), 5, .inl fst5)), ((u.1 10), .inr (3, [.int 0, .ref tE, .int 0]))]) (fun u => [((u.2 0), .int), ((u.2 1), .boolean), ((u.2 2), .boolean), ((u.2 3), .int), ((u.2 4), .int), ((u.2 5), .int)]) (fun _ => True) (va_A [(h0, .inr (17, [.int 0, .int 0, .null, .null, .null, .null, .null, .null, .null, .null, .null, .null, .null]))] sz)) 11 331 (va_A [(h0, .inr (17, [.int 0, .int 0, .null, .null, .null, .null, .null, .null, .null, .null, .null, .null, .null]))] sz) := by
  refine og_m (cc := cX13_init) (maxL := 1) (ret := none) (Qc := Qgv (S := (Nat → Nat) × (Nat → ClassId)) D (fun u => [(h0, .inr (17, [.int 0, .int 0, .ref (u.1 0), .ref (u.1 1), .ref (u.1 2), .ref (u.1 3), .ref (u.1 4), .ref (u.1 5), .ref (u.1 6), .ref (u.1 7), .ref (u.1 8), .ref (u.1 9), .ref (u.1 10)])), ((u.1 0), .inr (3, [.int 0, .ref tE, .int 0])), ((u.1 1), .inl ((u.2 0), 255, .inl (fun _ => 0))), ((u.1 2), .inr (3, [.int 0, .ref tE, .int 0])), ((u.1 3), .inr (3, [.int 0, .ref tE, .int 0])), ((u.1 4), .inr (3, [.int 0, .ref tE, .int 0])), ((u.1 5), .inl ((u.2 1), 32, .inl (fun _ => 0))), ((u.1 6), .inl ((u.2 2), 8, .inl (fun _ => 0))), ((u.1 7), .inl ((u.2 3), 8, .inl (fun _ => 0))), ((u.1 8), .inl ((u.2 4), 8, .inl (fun _ => 0))), ((u.1 9), .inl ((u.2 5), 5, .inl fst5)), ((u.1 10), .inr (3, [.int 0, .ref tE, .int 0]))]) (fun u => [((u.2 0), .int), ((u.2 1), .boolean), ((u.2 2), .boolean), ((u.2 3), .int), ((u.2 4), .int), ((u.2 5), .int)]) (fun _ => True)) (by decide) rfl (Nat.le_of_ble_eq_true rfl) ?_
  intro p e s m below meth c A hx hb hr hml hts hown hlocks hin hP hD hK hG hA hS ls hl
  have hl : lv_has ls 1 [(0, .ref h0)] := hl
  refine lv_aload_n hx hb dX13_init_0 rfl (lv_at hl 0 rfl) ?_
  refine W.objInit hx hb hown (hts (.methodLink RX13 1 objectInit) (List.mem_of_getElem? (i := 1) rfl)) (hts (.instanceMethod objectInit) (List.mem_of_getElem? (i := 2) rfl)) (hts (.code objectInit ⟨#[0xb1]⟩ 1 none) (List.mem_of_getElem? (i := 3) rfl)) rfl (by rw [hml]; exact hl.1) rfl dX13_init_1 (Nat.le_of_ble_eq_true rfl) (Nat.le_of_ble_eq_true rfl) ?_
  refine W.eq (g2 := F0 m 4 ls []) rfl ?_
  refine lv_aload_n hx hb dX13_init_4 rfl (lv_at hl 0 rfl) ?_
  refine va_new (ci := 3) (fs := [.int 0, .null, .int 0]) (C := RJx4a65c) (T := TJx4a65c) (N := 3) hx hb hts (fun w h => List.mem_cons_of_mem _ (List.mem_append_left _ (List.mem_append_left _ (List.mem_append_right _ h)))) tyJx4a65c tyJx4a65c_ok hown (hts (.classLink RX13 7 RJx4a65c) (List.mem_of_getElem? (i := 4) rfl)) (hts (.instantiable RJx4a65c 3) (List.mem_of_getElem? (i := 5) rfl)) (hts (.initialized RJx4a65c) (List.mem_of_getElem? (i := 6) rfl)) hK hP hD hS hA rfl (fun j hj => by rcases (show j = 0 ∨ j = 1 ∨ j = 2 by omega) with rfl | rfl | rfl <;> rfl) (Nat.le_of_ble_eq_true rfl) (Nat.le_of_ble_eq_true rfl) dX13_init_5 (fun q_1 H hP hD hS => ?_)
  have hP : va_P D vwCl [(h0, .inr (17, [.int 0, .int 0, .null, .null, .null, .null, .null, .null, .null, .null, .null, .null, .null])), (q_1, .inr (3, [.int 0, .null, .int 0]))] H := hP
  have hD : va_D A [(h0, .inr (17, [.int 0, .int 0, .null, .null, .null, .null, .null, .null, .null, .null, .null, .null, .null])), (q_1, .inr (3, [.int 0, .null, .int 0]))] := hD
  refine W.widen (k := 1) (n := 3) (Nat.le_of_ble_eq_true rfl) (Nat.le_of_ble_eq_true rfl) ?_
  refine lv_dup hx hb dX13_init_8 rfl ?_
  have hFc := va_free (wc := [(q_1, .inr (3, [.int 0, .null, .int 0]))]) hD hS hA [1] rfl
  refine va_callv (va_runI (As := []) (rest := [.ref q_1, .ref h0]) ⟨hx, hb, hml, hown, hts⟩ (c_ArrayList l D tC tE H.size q_1) (cwI 0 hts gX13_init_Jx4a65c_init_da8c8 rfl rfl rfl (hts (.initialized RJx4a65c) (List.mem_of_getElem? (i := 6) rfl)) (hts (.methodLink RX13 9 yJx4a65c_init_da8c8) (List.mem_of_getElem? (i := 20) rfl)) (hts (.instanceMethod yJx4a65c_init_da8c8) (List.mem_of_getElem? (i := 21) rfl)) rfl (by decide +kernel) ⟨(Nat.le_of_ble_eq_true rfl), (Nat.le_of_ble_eq_true rfl)⟩) ⟨pg_blind, (pg_pre hP hD hK hG hS hFc [1] rfl (by decide) [] rfl _)⟩ rfl rfl hl.1 rfl (lv_room (Nat.le_of_ble_eq_true rfl)) dX13_init_9 ⟨(Nat.le_of_ble_eq_true rfl), (Nat.le_of_ble_eq_true rfl)⟩) hS (fun q _ h => hFc q h) hFc (fun u_2 t H locs ht hvm hw hB hz1 hk1 hS => ?_)
  obtain ⟨hP, hD, hK⟩ := jn (wr := [(h0, .inr (17, [.int 0, .int 0, .null, .null, .null, .null, .null, .null, .null, .null, .null, .null, .null]))]) (w1 := [(q_1, .inr (3, [.int 0, .ref tE, .int 0]))]) (t1 := []) (tr := []) hP hD hK [1] [0] rfl rfl (by decide) (by decide) [] rfl hk1 hFc hB rfl rfl ht hvm
  have hP : va_P D vwCl [(h0, .inr (17, [.int 0, .int 0, .null, .null, .null, .null, .null, .null, .null, .null, .null, .null, .null])), (q_1, .inr (3, [.int 0, .ref tE, .int 0]))] H := hP
  have hD : va_D A [(h0, .inr (17, [.int 0, .int 0, .null, .null, .null, .null, .null, .null, .null, .null, .null, .null, .null])), (q_1, .inr (3, [.int 0, .ref tE, .int 0]))] := hD
  have hK : va_K D vwCl [] s := hK
  refine W.widen (k := 1) (n := 3) (Nat.le_of_ble_eq_true rfl) (Nat.le_of_ble_eq_true rfl) ?_
  refine va_putF (D := D) (ci := 17) (v := .ref q_1) (ty := .object "java/util/List") (C := RX13) (T := TX13) (N := 13) hx hb hts (fun w h => List.mem_cons_of_mem _ (List.mem_append_left _ (List.mem_append_right _ h))) tyX13 tyX13_ok nmX13 hown hK hP hD hS 0 rfl rfl 2 (by decide) (hts (.fieldLink RX13 10 "LastroomModel" "models" "Ljava/util/List;") (List.mem_of_getElem? (i := 7) rfl)) (fun _ h9 => h9) rfl hin rfl (by decide +kernel) rfl rfl (Nat.le_of_ble_eq_true rfl) dX13_init_12 (fun H locs hP hD hS => ?_)
  have hP : va_P D vwCl [(h0, .inr (17, [.int 0, .int 0, .ref q_1, .null, .null, .null, .null, .null, .null, .null, .null, .null, .null])), (q_1, .inr (3, [.int 0, .ref tE, .int 0]))] H := hP
  have hD : va_D A [(h0, .inr (17, [.int 0, .int 0, .ref q_1, .null, .null, .null, .null, .null, .null, .null, .null, .null, .null])), (q_1, .inr (3, [.int 0, .ref tE, .int 0]))] := hD
  refine lv_aload_n hx hb dX13_init_15 rfl (lv_at hl 0 rfl) ?_
  refine lv_sipush (v := 255) hx hb dX13_init_16 (by decide) ?_
  refine va_newa (atype := .int) (ty := .int) (N' := 255) (a0 := (255, .inl (fun _ => 0))) hx hb (hts (.arrayClass .int) (List.mem_of_getElem? (i := 8) rfl)) rfl hK hP hD hS hA (fun _ => rfl) (by decide) (by decide) (by decide) (Nat.le_of_ble_eq_true rfl) (Nat.le_of_ble_eq_true rfl) dX13_init_19 (fun q_3 k_4 H hK hP hD hS => ?_)
  have hP : va_P D vwCl [(h0, .inr (17, [.int 0, .int 0, .ref q_1, .null, .null, .null, .null, .null, .null, .null, .null, .null, .null])), (q_1, .inr (3, [.int 0, .ref tE, .int 0])), (q_3, .inl (k_4, 255, .inl (fun _ => 0)))] H := hP
  have hD : va_D A [(h0, .inr (17, [.int 0, .int 0, .ref q_1, .null, .null, .null, .null, .null, .null, .null, .null, .null, .null])), (q_1, .inr (3, [.int 0, .ref tE, .int 0])), (q_3, .inl (k_4, 255, .inl (fun _ => 0)))] := hD
  have hK : va_K D vwCl [(k_4, .int)] s := hK
  refine W.widen (k := 2) (n := 258) (Nat.le_of_ble_eq_true rfl) (Nat.le_of_ble_eq_true rfl) ?_
  refine va_putF (D := D) (ci := 17) (v := .ref q_3) (ty := .array (.int)) (C := RX13) (T := TX13) (N := 13) hx hb hts (fun w h => List.mem_cons_of_mem _ (List.mem_append_left _ (List.mem_append_right _ h))) tyX13 tyX13_ok nmX13 hown hK hP hD hS 0 rfl rfl 3 (by decide) (hts (.fieldLink RX13 16 "LastroomModel" "lasts" "[I") (List.mem_of_getElem? (i := 9) rfl)) (fun _ h9 => h9) rfl hin rfl (by decide +kernel) rfl rfl (Nat.le_of_ble_eq_true rfl) dX13_init_21 (fun H locs hP hD hS => ?_)
  have hP : va_P D vwCl [(h0, .inr (17, [.int 0, .int 0, .ref q_1, .ref q_3, .null, .null, .null, .null, .null, .null, .null, .null, .null])), (q_1, .inr (3, [.int 0, .ref tE, .int 0])), (q_3, .inl (k_4, 255, .inl (fun _ => 0)))] H := hP
  have hD : va_D A [(h0, .inr (17, [.int 0, .int 0, .ref q_1, .ref q_3, .null, .null, .null, .null, .null, .null, .null, .null, .null])), (q_1, .inr (3, [.int 0, .ref tE, .int 0])), (q_3, .inl (k_4, 255, .inl (fun _ => 0)))] := hD
  refine lv_aload_n hx hb dX13_init_24 rfl (lv_at hl 0 rfl) ?_
  refine va_new (ci := 3) (fs := [.int 0, .null, .int 0]) (C := RJx4a65c) (T := TJx4a65c) (N := 3) hx hb hts (fun w h => List.mem_cons_of_mem _ (List.mem_append_left _ (List.mem_append_left _ (List.mem_append_right _ h)))) tyJx4a65c tyJx4a65c_ok hown (hts (.classLink RX13 7 RJx4a65c) (List.mem_of_getElem? (i := 4) rfl)) (hts (.instantiable RJx4a65c 3) (List.mem_of_getElem? (i := 5) rfl)) (hts (.initialized RJx4a65c) (List.mem_of_getElem? (i := 6) rfl)) hK hP hD hS hA rfl (fun j hj => by rcases (show j = 0 ∨ j = 1 ∨ j = 2 by omega) with rfl | rfl | rfl <;> rfl) (Nat.le_of_ble_eq_true rfl) (Nat.le_of_ble_eq_true rfl) dX13_init_25 (fun q_5 H hP hD hS => ?_)
  have hP : va_P D vwCl [(h0, .inr (17, [.int 0, .int 0, .ref q_1, .ref q_3, .null, .null, .null, .null, .null, .null, .null, .null, .null])), (q_1, .inr (3, [.int 0, .ref tE, .int 0])), (q_3, .inl (k_4, 255, .inl (fun _ => 0))), (q_5, .inr (3, [.int 0, .null, .int 0]))] H := hP
  have hD : va_D A [(h0, .inr (17, [.int 0, .int 0, .ref q_1, .ref q_3, .null, .null, .null, .null, .null, .null, .null, .null, .null])), (q_1, .inr (3, [.int 0, .ref tE, .int 0])), (q_3, .inl (k_4, 255, .inl (fun _ => 0))), (q_5, .inr (3, [.int 0, .null, .int 0]))] := hD
  refine W.widen (k := 3) (n := 261) (Nat.le_of_ble_eq_true rfl) (Nat.le_of_ble_eq_true rfl) ?_
  refine lv_dup hx hb dX13_init_28 rfl ?_
  have hFc := va_free (wc := [(q_5, .inr (3, [.int 0, .null, .int 0]))]) hD hS hA [3] rfl
  refine va_callv (va_runI (As := []) (rest := [.ref q_5, .ref h0]) ⟨hx, hb, hml, hown, hts⟩ (c_ArrayList l D tC tE H.size q_5) (cwI 0 hts gX13_init_Jx4a65c_init_da8c8 rfl rfl rfl (hts (.initialized RJx4a65c) (List.mem_of_getElem? (i := 6) rfl)) (hts (.methodLink RX13 9 yJx4a65c_init_da8c8) (List.mem_of_getElem? (i := 20) rfl)) (hts (.instanceMethod yJx4a65c_init_da8c8) (List.mem_of_getElem? (i := 21) rfl)) rfl (by decide +kernel) ⟨(Nat.le_of_ble_eq_true rfl), (Nat.le_of_ble_eq_true rfl)⟩) ⟨pg_blind, (pg_pre hP hD hK hG hS hFc [3] rfl (by decide) [] rfl _)⟩ rfl rfl hl.1 rfl (lv_room (Nat.le_of_ble_eq_true rfl)) dX13_init_29 ⟨(Nat.le_of_ble_eq_true rfl), (Nat.le_of_ble_eq_true rfl)⟩) hS (fun q _ h => hFc q h) hFc (fun u_6 t H locs ht hvm hw hB hz1 hk1 hS => ?_)
  obtain ⟨hP, hD, hK⟩ := jn (wr := [(h0, .inr (17, [.int 0, .int 0, .ref q_1, .ref q_3, .null, .null, .null, .null, .null, .null, .null, .null, .null])), (q_1, .inr (3, [.int 0, .ref tE, .int 0])), (q_3, .inl (k_4, 255, .inl (fun _ => 0)))]) (w1 := [(q_5, .inr (3, [.int 0, .ref tE, .int 0]))]) (t1 := []) (tr := [(k_4, .int)]) hP hD hK [3] [0, 1, 2] rfl rfl (by decide) (by decide) [0] rfl hk1 hFc hB rfl rfl ht hvm
  have hP : va_P D vwCl [(h0, .inr (17, [.int 0, .int 0, .ref q_1, .ref q_3, .null, .null, .null, .null, .null, .null, .null, .null, .null])), (q_1, .inr (3, [.int 0, .ref tE, .int 0])), (q_3, .inl (k_4, 255, .inl (fun _ => 0))), (q_5, .inr (3, [.int 0, .ref tE, .int 0]))] H := hP
  have hD : va_D A [(h0, .inr (17, [.int 0, .int 0, .ref q_1, .ref q_3, .null, .null, .null, .null, .null, .null, .null, .null, .null])), (q_1, .inr (3, [.int 0, .ref tE, .int 0])), (q_3, .inl (k_4, 255, .inl (fun _ => 0))), (q_5, .inr (3, [.int 0, .ref tE, .int 0]))] := hD
  have hK : va_K D vwCl [(k_4, .int)] s := hK
  refine W.widen (k := 3) (n := 261) (Nat.le_of_ble_eq_true rfl) (Nat.le_of_ble_eq_true rfl) ?_
  refine va_putF (D := D) (ci := 17) (v := .ref q_5) (ty := .object "java/util/List") (C := RX13) (T := TX13) (N := 13) hx hb hts (fun w h => List.mem_cons_of_mem _ (List.mem_append_left _ (List.mem_append_right _ h))) tyX13 tyX13_ok nmX13 hown hK hP hD hS 0 rfl rfl 4 (by decide) (hts (.fieldLink RX13 20 "LastroomModel" "styles" "Ljava/util/List;") (List.mem_of_getElem? (i := 10) rfl)) (fun _ h9 => h9) rfl hin rfl (by decide +kernel) rfl rfl (Nat.le_of_ble_eq_true rfl) dX13_init_32 (fun H locs hP hD hS => ?_)
  have hP : va_P D vwCl [(h0, .inr (17, [.int 0, .int 0, .ref q_1, .ref q_3, .ref q_5, .null, .null, .null, .null, .null, .null, .null, .null])), (q_1, .inr (3, [.int 0, .ref tE, .int 0])), (q_3, .inl (k_4, 255, .inl (fun _ => 0))), (q_5, .inr (3, [.int 0, .ref tE, .int 0]))] H := hP
  have hD : va_D A [(h0, .inr (17, [.int 0, .int 0, .ref q_1, .ref q_3, .ref q_5, .null, .null, .null, .null, .null, .null, .null, .null])), (q_1, .inr (3, [.int 0, .ref tE, .int 0])), (q_3, .inl (k_4, 255, .inl (fun _ => 0))), (q_5, .inr (3, [.int 0, .ref tE, .int 0]))] := hD
  refine lv_aload_n hx hb dX13_init_35 rfl (lv_at hl 0 rfl) ?_
  refine va_new (ci := 3) (fs := [.int 0, .null, .int 0]) (C := RJx4a65c) (T := TJx4a65c) (N := 3) hx hb hts (fun w h => List.mem_cons_of_mem _ (List.mem_append_left _ (List.mem_append_left _ (List.mem_append_right _ h)))) tyJx4a65c tyJx4a65c_ok hown (hts (.classLink RX13 7 RJx4a65c) (List.mem_of_getElem? (i := 4) rfl)) (hts (.instantiable RJx4a65c 3) (List.mem_of_getElem? (i := 5) rfl)) (hts (.initialized RJx4a65c) (List.mem_of_getElem? (i := 6) rfl)) hK hP hD hS hA rfl (fun j hj => by rcases (show j = 0 ∨ j = 1 ∨ j = 2 by omega) with rfl | rfl | rfl <;> rfl) (Nat.le_of_ble_eq_true rfl) (Nat.le_of_ble_eq_true rfl) dX13_init_36 (fun q_7 H hP hD hS => ?_)
  have hP : va_P D vwCl [(h0, .inr (17, [.int 0, .int 0, .ref q_1, .ref q_3, .ref q_5, .null, .null, .null, .null, .null, .null, .null, .null])), (q_1, .inr (3, [.int 0, .ref tE, .int 0])), (q_3, .inl (k_4, 255, .inl (fun _ => 0))), (q_5, .inr (3, [.int 0, .ref tE, .int 0])), (q_7, .inr (3, [.int 0, .null, .int 0]))] H := hP
  have hD : va_D A [(h0, .inr (17, [.int 0, .int 0, .ref q_1, .ref q_3, .ref q_5, .null, .null, .null, .null, .null, .null, .null, .null])), (q_1, .inr (3, [.int 0, .ref tE, .int 0])), (q_3, .inl (k_4, 255, .inl (fun _ => 0))), (q_5, .inr (3, [.int 0, .ref tE, .int 0])), (q_7, .inr (3, [.int 0, .null, .int 0]))] := hD
  refine W.widen (k := 4) (n := 264) (Nat.le_of_ble_eq_true rfl) (Nat.le_of_ble_eq_true rfl) ?_
  refine lv_dup hx hb dX13_init_39 rfl ?_
  have hFc := va_free (wc := [(q_7, .inr (3, [.int 0, .null, .int 0]))]) hD hS hA [4] rfl
  refine va_callv (va_runI (As := []) (rest := [.ref q_7, .ref h0]) ⟨hx, hb, hml, hown, hts⟩ (c_ArrayList l D tC tE H.size q_7) (cwI 0 hts gX13_init_Jx4a65c_init_da8c8 rfl rfl rfl (hts (.initialized RJx4a65c) (List.mem_of_getElem? (i := 6) rfl)) (hts (.methodLink RX13 9 yJx4a65c_init_da8c8) (List.mem_of_getElem? (i := 20) rfl)) (hts (.instanceMethod yJx4a65c_init_da8c8) (List.mem_of_getElem? (i := 21) rfl)) rfl (by decide +kernel) ⟨(Nat.le_of_ble_eq_true rfl), (Nat.le_of_ble_eq_true rfl)⟩) ⟨pg_blind, (pg_pre hP hD hK hG hS hFc [4] rfl (by decide) [] rfl _)⟩ rfl rfl hl.1 rfl (lv_room (Nat.le_of_ble_eq_true rfl)) dX13_init_40 ⟨(Nat.le_of_ble_eq_true rfl), (Nat.le_of_ble_eq_true rfl)⟩) hS (fun q _ h => hFc q h) hFc (fun u_8 t H locs ht hvm hw hB hz1 hk1 hS => ?_)
  obtain ⟨hP, hD, hK⟩ := jn (wr := [(h0, .inr (17, [.int 0, .int 0, .ref q_1, .ref q_3, .ref q_5, .null, .null, .null, .null, .null, .null, .null, .null])), (q_1, .inr (3, [.int 0, .ref tE, .int 0])), (q_3, .inl (k_4, 255, .inl (fun _ => 0))), (q_5, .inr (3, [.int 0, .ref tE, .int 0]))]) (w1 := [(q_7, .inr (3, [.int 0, .ref tE, .int 0]))]) (t1 := []) (tr := [(k_4, .int)]) hP hD hK [4] [0, 1, 2, 3] rfl rfl (by decide) (by decide) [0] rfl hk1 hFc hB rfl rfl ht hvm
  have hP : va_P D vwCl [(h0, .inr (17, [.int 0, .int 0, .ref q_1, .ref q_3, .ref q_5, .null, .null, .null, .null, .null, .null, .null, .null])), (q_1, .inr (3, [.int 0, .ref tE, .int 0])), (q_3, .inl (k_4, 255, .inl (fun _ => 0))), (q_5, .inr (3, [.int 0, .ref tE, .int 0])), (q_7, .inr (3, [.int 0, .ref tE, .int 0]))] H := hP
  have hD : va_D A [(h0, .inr (17, [.int 0, .int 0, .ref q_1, .ref q_3, .ref q_5, .null, .null, .null, .null, .null, .null, .null, .null])), (q_1, .inr (3, [.int 0, .ref tE, .int 0])), (q_3, .inl (k_4, 255, .inl (fun _ => 0))), (q_5, .inr (3, [.int 0, .ref tE, .int 0])), (q_7, .inr (3, [.int 0, .ref tE, .int 0]))] := hD
  have hK : va_K D vwCl [(k_4, .int)] s := hK
  refine W.widen (k := 4) (n := 264) (Nat.le_of_ble_eq_true rfl) (Nat.le_of_ble_eq_true rfl) ?_
  refine va_putF (D := D) (ci := 17) (v := .ref q_7) (ty := .object "java/util/List") (C := RX13) (T := TX13) (N := 13) hx hb hts (fun w h => List.mem_cons_of_mem _ (List.mem_append_left _ (List.mem_append_right _ h))) tyX13 tyX13_ok nmX13 hown hK hP hD hS 0 rfl rfl 5 (by decide) (hts (.fieldLink RX13 23 "LastroomModel" "hides" "Ljava/util/List;") (List.mem_of_getElem? (i := 11) rfl)) (fun _ h9 => h9) rfl hin rfl (by decide +kernel) rfl rfl (Nat.le_of_ble_eq_true rfl) dX13_init_43 (fun H locs hP hD hS => ?_)
  have hP : va_P D vwCl [(h0, .inr (17, [.int 0, .int 0, .ref q_1, .ref q_3, .ref q_5, .ref q_7, .null, .null, .null, .null, .null, .null, .null])), (q_1, .inr (3, [.int 0, .ref tE, .int 0])), (q_3, .inl (k_4, 255, .inl (fun _ => 0))), (q_5, .inr (3, [.int 0, .ref tE, .int 0])), (q_7, .inr (3, [.int 0, .ref tE, .int 0]))] H := hP
  have hD : va_D A [(h0, .inr (17, [.int 0, .int 0, .ref q_1, .ref q_3, .ref q_5, .ref q_7, .null, .null, .null, .null, .null, .null, .null])), (q_1, .inr (3, [.int 0, .ref tE, .int 0])), (q_3, .inl (k_4, 255, .inl (fun _ => 0))), (q_5, .inr (3, [.int 0, .ref tE, .int 0])), (q_7, .inr (3, [.int 0, .ref tE, .int 0]))] := hD
  refine lv_aload_n hx hb dX13_init_46 rfl (lv_at hl 0 rfl) ?_
  refine va_new (ci := 3) (fs := [.int 0, .null, .int 0]) (C := RJx4a65c) (T := TJx4a65c) (N := 3) hx hb hts (fun w h => List.mem_cons_of_mem _ (List.mem_append_left _ (List.mem_append_left _ (List.mem_append_right _ h)))) tyJx4a65c tyJx4a65c_ok hown (hts (.classLink RX13 7 RJx4a65c) (List.mem_of_getElem? (i := 4) rfl)) (hts (.instantiable RJx4a65c 3) (List.mem_of_getElem? (i := 5) rfl)) (hts (.initialized RJx4a65c) (List.mem_of_getElem? (i := 6) rfl)) hK hP hD hS hA rfl (fun j hj => by rcases (show j = 0 ∨ j = 1 ∨ j = 2 by omega) with rfl | rfl | rfl <;> rfl) (Nat.le_of_ble_eq_true rfl) (Nat.le_of_ble_eq_true rfl) dX13_init_47 (fun q_9 H hP hD hS => ?_)
  have hP : va_P D vwCl [(h0, .inr (17, [.int 0, .int 0, .ref q_1, .ref q_3, .ref q_5, .ref q_7, .null, .null, .null, .null, .null, .null, .null])), (q_1, .inr (3, [.int 0, .ref tE, .int 0])), (q_3, .inl (k_4, 255, .inl (fun _ => 0))), (q_5, .inr (3, [.int 0, .ref tE, .int 0])), (q_7, .inr (3, [.int 0, .ref tE, .int 0])), (q_9, .inr (3, [.int 0, .null, .int 0]))] H := hP
  have hD : va_D A [(h0, .inr (17, [.int 0, .int 0, .ref q_1, .ref q_3, .ref q_5, .ref q_7, .null, .null, .null, .null, .null, .null, .null])), (q_1, .inr (3, [.int 0, .ref tE, .int 0])), (q_3, .inl (k_4, 255, .inl (fun _ => 0))), (q_5, .inr (3, [.int 0, .ref tE, .int 0])), (q_7, .inr (3, [.int 0, .ref tE, .int 0])), (q_9, .inr (3, [.int 0, .null, .int 0]))] := hD
  refine W.widen (k := 5) (n := 267) (Nat.le_of_ble_eq_true rfl) (Nat.le_of_ble_eq_true rfl) ?_
  refine lv_dup hx hb dX13_init_50 rfl ?_
  have hFc := va_free (wc := [(q_9, .inr (3, [.int 0, .null, .int 0]))]) hD hS hA [5] rfl
  refine va_callv (va_runI (As := []) (rest := [.ref q_9, .ref h0]) ⟨hx, hb, hml, hown, hts⟩ (c_ArrayList l D tC tE H.size q_9) (cwI 0 hts gX13_init_Jx4a65c_init_da8c8 rfl rfl rfl (hts (.initialized RJx4a65c) (List.mem_of_getElem? (i := 6) rfl)) (hts (.methodLink RX13 9 yJx4a65c_init_da8c8) (List.mem_of_getElem? (i := 20) rfl)) (hts (.instanceMethod yJx4a65c_init_da8c8) (List.mem_of_getElem? (i := 21) rfl)) rfl (by decide +kernel) ⟨(Nat.le_of_ble_eq_true rfl), (Nat.le_of_ble_eq_true rfl)⟩) ⟨pg_blind, (pg_pre hP hD hK hG hS hFc [5] rfl (by decide) [] rfl _)⟩ rfl rfl hl.1 rfl (lv_room (Nat.le_of_ble_eq_true rfl)) dX13_init_51 ⟨(Nat.le_of_ble_eq_true rfl), (Nat.le_of_ble_eq_true rfl)⟩) hS (fun q _ h => hFc q h) hFc (fun u_10 t H locs ht hvm hw hB hz1 hk1 hS => ?_)
  obtain ⟨hP, hD, hK⟩ := jn (wr := [(h0, .inr (17, [.int 0, .int 0, .ref q_1, .ref q_3, .ref q_5, .ref q_7, .null, .null, .null, .null, .null, .null, .null])), (q_1, .inr (3, [.int 0, .ref tE, .int 0])), (q_3, .inl (k_4, 255, .inl (fun _ => 0))), (q_5, .inr (3, [.int 0, .ref tE, .int 0])), (q_7, .inr (3, [.int 0, .ref tE, .int 0]))]) (w1 := [(q_9, .inr (3, [.int 0, .ref tE, .int 0]))]) (t1 := []) (tr := [(k_4, .int)]) hP hD hK [5] [0, 1, 2, 3, 4] rfl rfl (by decide) (by decide) [0] rfl hk1 hFc hB rfl rfl ht hvm
  have hP : va_P D vwCl [(h0, .inr (17, [.int 0, .int 0, .ref q_1, .ref q_3, .ref q_5, .ref q_7, .null, .null, .null, .null, .null, .null, .null])), (q_1, .inr (3, [.int 0, .ref tE, .int 0])), (q_3, .inl (k_4, 255, .inl (fun _ => 0))), (q_5, .inr (3, [.int 0, .ref tE, .int 0])), (q_7, .inr (3, [.int 0, .ref tE, .int 0])), (q_9, .inr (3, [.int 0, .ref tE, .int 0]))] H := hP
  have hD : va_D A [(h0, .inr (17, [.int 0, .int 0, .ref q_1, .ref q_3, .ref q_5, .ref q_7, .null, .null, .null, .null, .null, .null, .null])), (q_1, .inr (3, [.int 0, .ref tE, .int 0])), (q_3, .inl (k_4, 255, .inl (fun _ => 0))), (q_5, .inr (3, [.int 0, .ref tE, .int 0])), (q_7, .inr (3, [.int 0, .ref tE, .int 0])), (q_9, .inr (3, [.int 0, .ref tE, .int 0]))] := hD
  have hK : va_K D vwCl [(k_4, .int)] s := hK
  refine W.widen (k := 5) (n := 267) (Nat.le_of_ble_eq_true rfl) (Nat.le_of_ble_eq_true rfl) ?_
  refine va_putF (D := D) (ci := 17) (v := .ref q_9) (ty := .object "java/util/List") (C := RX13) (T := TX13) (N := 13) hx hb hts (fun w h => List.mem_cons_of_mem _ (List.mem_append_left _ (List.mem_append_right _ h))) tyX13 tyX13_ok nmX13 hown hK hP hD hS 0 rfl rfl 6 (by decide) (hts (.fieldLink RX13 26 "LastroomModel" "tickets" "Ljava/util/List;") (List.mem_of_getElem? (i := 12) rfl)) (fun _ h9 => h9) rfl hin rfl (by decide +kernel) rfl rfl (Nat.le_of_ble_eq_true rfl) dX13_init_54 (fun H locs hP hD hS => ?_)
  have hP : va_P D vwCl [(h0, .inr (17, [.int 0, .int 0, .ref q_1, .ref q_3, .ref q_5, .ref q_7, .ref q_9, .null, .null, .null, .null, .null, .null])), (q_1, .inr (3, [.int 0, .ref tE, .int 0])), (q_3, .inl (k_4, 255, .inl (fun _ => 0))), (q_5, .inr (3, [.int 0, .ref tE, .int 0])), (q_7, .inr (3, [.int 0, .ref tE, .int 0])), (q_9, .inr (3, [.int 0, .ref tE, .int 0]))] H := hP
  have hD : va_D A [(h0, .inr (17, [.int 0, .int 0, .ref q_1, .ref q_3, .ref q_5, .ref q_7, .ref q_9, .null, .null, .null, .null, .null, .null])), (q_1, .inr (3, [.int 0, .ref tE, .int 0])), (q_3, .inl (k_4, 255, .inl (fun _ => 0))), (q_5, .inr (3, [.int 0, .ref tE, .int 0])), (q_7, .inr (3, [.int 0, .ref tE, .int 0])), (q_9, .inr (3, [.int 0, .ref tE, .int 0]))] := hD
  refine lv_aload_n hx hb dX13_init_57 rfl (lv_at hl 0 rfl) ?_
  refine lv_bipush (v := 32) hx hb dX13_init_58 (by decide) ?_
  refine va_newa (atype := .boolean) (ty := .boolean) (N' := 32) (a0 := (32, .inl (fun _ => 0))) hx hb (hts (.arrayClass .boolean) (List.mem_of_getElem? (i := 13) rfl)) rfl hK hP hD hS hA (fun _ => rfl) (by decide) (by decide) (by decide) (Nat.le_of_ble_eq_true rfl) (Nat.le_of_ble_eq_true rfl) dX13_init_60 (fun q_11 k_12 H hK hP hD hS => ?_)
  have hP : va_P D vwCl [(h0, .inr (17, [.int 0, .int 0, .ref q_1, .ref q_3, .ref q_5, .ref q_7, .ref q_9, .null, .null, .null, .null, .null, .null])), (q_1, .inr (3, [.int 0, .ref tE, .int 0])), (q_3, .inl (k_4, 255, .inl (fun _ => 0))), (q_5, .inr (3, [.int 0, .ref tE, .int 0])), (q_7, .inr (3, [.int 0, .ref tE, .int 0])), (q_9, .inr (3, [.int 0, .ref tE, .int 0])), (q_11, .inl (k_12, 32, .inl (fun _ => 0)))] H := hP
  have hD : va_D A [(h0, .inr (17, [.int 0, .int 0, .ref q_1, .ref q_3, .ref q_5, .ref q_7, .ref q_9, .null, .null, .null, .null, .null, .null])), (q_1, .inr (3, [.int 0, .ref tE, .int 0])), (q_3, .inl (k_4, 255, .inl (fun _ => 0))), (q_5, .inr (3, [.int 0, .ref tE, .int 0])), (q_7, .inr (3, [.int 0, .ref tE, .int 0])), (q_9, .inr (3, [.int 0, .ref tE, .int 0])), (q_11, .inl (k_12, 32, .inl (fun _ => 0)))] := hD
  have hK : va_K D vwCl [(k_4, .int), (k_12, .boolean)] s := hK
  refine W.widen (k := 6) (n := 299) (Nat.le_of_ble_eq_true rfl) (Nat.le_of_ble_eq_true rfl) ?_
  refine va_putF (D := D) (ci := 17) (v := .ref q_11) (ty := .array (.boolean)) (C := RX13) (T := TX13) (N := 13) hx hb hts (fun w h => List.mem_cons_of_mem _ (List.mem_append_left _ (List.mem_append_right _ h))) tyX13 tyX13_ok nmX13 hown hK hP hD hS 0 rfl rfl 7 (by decide) (hts (.fieldLink RX13 29 "LastroomModel" "skills" "[Z") (List.mem_of_getElem? (i := 14) rfl)) (fun _ h9 => h9) rfl hin rfl (by decide +kernel) rfl rfl (Nat.le_of_ble_eq_true rfl) dX13_init_62 (fun H locs hP hD hS => ?_)
  have hP : va_P D vwCl [(h0, .inr (17, [.int 0, .int 0, .ref q_1, .ref q_3, .ref q_5, .ref q_7, .ref q_9, .ref q_11, .null, .null, .null, .null, .null])), (q_1, .inr (3, [.int 0, .ref tE, .int 0])), (q_3, .inl (k_4, 255, .inl (fun _ => 0))), (q_5, .inr (3, [.int 0, .ref tE, .int 0])), (q_7, .inr (3, [.int 0, .ref tE, .int 0])), (q_9, .inr (3, [.int 0, .ref tE, .int 0])), (q_11, .inl (k_12, 32, .inl (fun _ => 0)))] H := hP
  have hD : va_D A [(h0, .inr (17, [.int 0, .int 0, .ref q_1, .ref q_3, .ref q_5, .ref q_7, .ref q_9, .ref q_11, .null, .null, .null, .null, .null])), (q_1, .inr (3, [.int 0, .ref tE, .int 0])), (q_3, .inl (k_4, 255, .inl (fun _ => 0))), (q_5, .inr (3, [.int 0, .ref tE, .int 0])), (q_7, .inr (3, [.int 0, .ref tE, .int 0])), (q_9, .inr (3, [.int 0, .ref tE, .int 0])), (q_11, .inl (k_12, 32, .inl (fun _ => 0)))] := hD
  refine lv_aload_n hx hb dX13_init_65 rfl (lv_at hl 0 rfl) ?_
  refine lv_bipush (v := 8) hx hb dX13_init_66 (by decide) ?_
  refine va_newa (atype := .boolean) (ty := .boolean) (N' := 8) (a0 := (8, .inl (fun _ => 0))) hx hb (hts (.arrayClass .boolean) (List.mem_of_getElem? (i := 13) rfl)) rfl hK hP hD hS hA (fun _ => rfl) (by decide) (by decide) (by decide) (Nat.le_of_ble_eq_true rfl) (Nat.le_of_ble_eq_true rfl) dX13_init_68 (fun q_13 k_14 H hK hP hD hS => ?_)
  have hP : va_P D vwCl [(h0, .inr (17, [.int 0, .int 0, .ref q_1, .ref q_3, .ref q_5, .ref q_7, .ref q_9, .ref q_11, .null, .null, .null, .null, .null])), (q_1, .inr (3, [.int 0, .ref tE, .int 0])), (q_3, .inl (k_4, 255, .inl (fun _ => 0))), (q_5, .inr (3, [.int 0, .ref tE, .int 0])), (q_7, .inr (3, [.int 0, .ref tE, .int 0])), (q_9, .inr (3, [.int 0, .ref tE, .int 0])), (q_11, .inl (k_12, 32, .inl (fun _ => 0))), (q_13, .inl (k_14, 8, .inl (fun _ => 0)))] H := hP
  have hD : va_D A [(h0, .inr (17, [.int 0, .int 0, .ref q_1, .ref q_3, .ref q_5, .ref q_7, .ref q_9, .ref q_11, .null, .null, .null, .null, .null])), (q_1, .inr (3, [.int 0, .ref tE, .int 0])), (q_3, .inl (k_4, 255, .inl (fun _ => 0))), (q_5, .inr (3, [.int 0, .ref tE, .int 0])), (q_7, .inr (3, [.int 0, .ref tE, .int 0])), (q_9, .inr (3, [.int 0, .ref tE, .int 0])), (q_11, .inl (k_12, 32, .inl (fun _ => 0))), (q_13, .inl (k_14, 8, .inl (fun _ => 0)))] := hD
  have hK : va_K D vwCl [(k_4, .int), (k_12, .boolean), (k_14, .boolean)] s := hK
  refine W.widen (k := 7) (n := 307) (Nat.le_of_ble_eq_true rfl) (Nat.le_of_ble_eq_true rfl) ?_
  refine va_putF (D := D) (ci := 17) (v := .ref q_13) (ty := .array (.boolean)) (C := RX13) (T := TX13) (N := 13) hx hb hts (fun w h => List.mem_cons_of_mem _ (List.mem_append_left _ (List.mem_append_right _ h))) tyX13 tyX13_ok nmX13 hown hK hP hD hS 0 rfl rfl 8 (by decide) (hts (.fieldLink RX13 33 "LastroomModel" "absent" "[Z") (List.mem_of_getElem? (i := 15) rfl)) (fun _ h9 => h9) rfl hin rfl (by decide +kernel) rfl rfl (Nat.le_of_ble_eq_true rfl) dX13_init_70 (fun H locs hP hD hS => ?_)
  have hP : va_P D vwCl [(h0, .inr (17, [.int 0, .int 0, .ref q_1, .ref q_3, .ref q_5, .ref q_7, .ref q_9, .ref q_11, .ref q_13, .null, .null, .null, .null])), (q_1, .inr (3, [.int 0, .ref tE, .int 0])), (q_3, .inl (k_4, 255, .inl (fun _ => 0))), (q_5, .inr (3, [.int 0, .ref tE, .int 0])), (q_7, .inr (3, [.int 0, .ref tE, .int 0])), (q_9, .inr (3, [.int 0, .ref tE, .int 0])), (q_11, .inl (k_12, 32, .inl (fun _ => 0))), (q_13, .inl (k_14, 8, .inl (fun _ => 0)))] H := hP
  have hD : va_D A [(h0, .inr (17, [.int 0, .int 0, .ref q_1, .ref q_3, .ref q_5, .ref q_7, .ref q_9, .ref q_11, .ref q_13, .null, .null, .null, .null])), (q_1, .inr (3, [.int 0, .ref tE, .int 0])), (q_3, .inl (k_4, 255, .inl (fun _ => 0))), (q_5, .inr (3, [.int 0, .ref tE, .int 0])), (q_7, .inr (3, [.int 0, .ref tE, .int 0])), (q_9, .inr (3, [.int 0, .ref tE, .int 0])), (q_11, .inl (k_12, 32, .inl (fun _ => 0))), (q_13, .inl (k_14, 8, .inl (fun _ => 0)))] := hD
  refine lv_aload_n hx hb dX13_init_73 rfl (lv_at hl 0 rfl) ?_
  refine lv_bipush (v := 8) hx hb dX13_init_74 (by decide) ?_
  refine va_newa (atype := .int) (ty := .int) (N' := 8) (a0 := (8, .inl (fun _ => 0))) hx hb (hts (.arrayClass .int) (List.mem_of_getElem? (i := 8) rfl)) rfl hK hP hD hS hA (fun _ => rfl) (by decide) (by decide) (by decide) (Nat.le_of_ble_eq_true rfl) (Nat.le_of_ble_eq_true rfl) dX13_init_76 (fun q_15 k_16 H hK hP hD hS => ?_)
  have hP : va_P D vwCl [(h0, .inr (17, [.int 0, .int 0, .ref q_1, .ref q_3, .ref q_5, .ref q_7, .ref q_9, .ref q_11, .ref q_13, .null, .null, .null, .null])), (q_1, .inr (3, [.int 0, .ref tE, .int 0])), (q_3, .inl (k_4, 255, .inl (fun _ => 0))), (q_5, .inr (3, [.int 0, .ref tE, .int 0])), (q_7, .inr (3, [.int 0, .ref tE, .int 0])), (q_9, .inr (3, [.int 0, .ref tE, .int 0])), (q_11, .inl (k_12, 32, .inl (fun _ => 0))), (q_13, .inl (k_14, 8, .inl (fun _ => 0))), (q_15, .inl (k_16, 8, .inl (fun _ => 0)))] H := hP
  have hD : va_D A [(h0, .inr (17, [.int 0, .int 0, .ref q_1, .ref q_3, .ref q_5, .ref q_7, .ref q_9, .ref q_11, .ref q_13, .null, .null, .null, .null])), (q_1, .inr (3, [.int 0, .ref tE, .int 0])), (q_3, .inl (k_4, 255, .inl (fun _ => 0))), (q_5, .inr (3, [.int 0, .ref tE, .int 0])), (q_7, .inr (3, [.int 0, .ref tE, .int 0])), (q_9, .inr (3, [.int 0, .ref tE, .int 0])), (q_11, .inl (k_12, 32, .inl (fun _ => 0))), (q_13, .inl (k_14, 8, .inl (fun _ => 0))), (q_15, .inl (k_16, 8, .inl (fun _ => 0)))] := hD
  have hK : va_K D vwCl [(k_4, .int), (k_12, .boolean), (k_14, .boolean), (k_16, .int)] s := hK
  refine W.widen (k := 8) (n := 315) (Nat.le_of_ble_eq_true rfl) (Nat.le_of_ble_eq_true rfl) ?_
  refine va_putF (D := D) (ci := 17) (v := .ref q_15) (ty := .array (.int)) (C := RX13) (T := TX13) (N := 13) hx hb hts (fun w h => List.mem_cons_of_mem _ (List.mem_append_left _ (List.mem_append_right _ h))) tyX13 tyX13_ok nmX13 hown hK hP hD hS 0 rfl rfl 9 (by decide) (hts (.fieldLink RX13 36 "LastroomModel" "busy" "[I") (List.mem_of_getElem? (i := 16) rfl)) (fun _ h9 => h9) rfl hin rfl (by decide +kernel) rfl rfl (Nat.le_of_ble_eq_true rfl) dX13_init_78 (fun H locs hP hD hS => ?_)
  have hP : va_P D vwCl [(h0, .inr (17, [.int 0, .int 0, .ref q_1, .ref q_3, .ref q_5, .ref q_7, .ref q_9, .ref q_11, .ref q_13, .ref q_15, .null, .null, .null])), (q_1, .inr (3, [.int 0, .ref tE, .int 0])), (q_3, .inl (k_4, 255, .inl (fun _ => 0))), (q_5, .inr (3, [.int 0, .ref tE, .int 0])), (q_7, .inr (3, [.int 0, .ref tE, .int 0])), (q_9, .inr (3, [.int 0, .ref tE, .int 0])), (q_11, .inl (k_12, 32, .inl (fun _ => 0))), (q_13, .inl (k_14, 8, .inl (fun _ => 0))), (q_15, .inl (k_16, 8, .inl (fun _ => 0)))] H := hP
  have hD : va_D A [(h0, .inr (17, [.int 0, .int 0, .ref q_1, .ref q_3, .ref q_5, .ref q_7, .ref q_9, .ref q_11, .ref q_13, .ref q_15, .null, .null, .null])), (q_1, .inr (3, [.int 0, .ref tE, .int 0])), (q_3, .inl (k_4, 255, .inl (fun _ => 0))), (q_5, .inr (3, [.int 0, .ref tE, .int 0])), (q_7, .inr (3, [.int 0, .ref tE, .int 0])), (q_9, .inr (3, [.int 0, .ref tE, .int 0])), (q_11, .inl (k_12, 32, .inl (fun _ => 0))), (q_13, .inl (k_14, 8, .inl (fun _ => 0))), (q_15, .inl (k_16, 8, .inl (fun _ => 0)))] := hD
  refine lv_aload_n hx hb dX13_init_81 rfl (lv_at hl 0 rfl) ?_
  refine lv_bipush (v := 8) hx hb dX13_init_82 (by decide) ?_
  refine va_newa (atype := .int) (ty := .int) (N' := 8) (a0 := (8, .inl (fun _ => 0))) hx hb (hts (.arrayClass .int) (List.mem_of_getElem? (i := 8) rfl)) rfl hK hP hD hS hA (fun _ => rfl) (by decide) (by decide) (by decide) (Nat.le_of_ble_eq_true rfl) (Nat.le_of_ble_eq_true rfl) dX13_init_84 (fun q_17 k_18 H hK hP hD hS => ?_)
  have hP : va_P D vwCl [(h0, .inr (17, [.int 0, .int 0, .ref q_1, .ref q_3, .ref q_5, .ref q_7, .ref q_9, .ref q_11, .ref q_13, .ref q_15, .null, .null, .null])), (q_1, .inr (3, [.int 0, .ref tE, .int 0])), (q_3, .inl (k_4, 255, .inl (fun _ => 0))), (q_5, .inr (3, [.int 0, .ref tE, .int 0])), (q_7, .inr (3, [.int 0, .ref tE, .int 0])), (q_9, .inr (3, [.int 0, .ref tE, .int 0])), (q_11, .inl (k_12, 32, .inl (fun _ => 0))), (q_13, .inl (k_14, 8, .inl (fun _ => 0))), (q_15, .inl (k_16, 8, .inl (fun _ => 0))), (q_17, .inl (k_18, 8, .inl (fun _ => 0)))] H := hP
  have hD : va_D A [(h0, .inr (17, [.int 0, .int 0, .ref q_1, .ref q_3, .ref q_5, .ref q_7, .ref q_9, .ref q_11, .ref q_13, .ref q_15, .null, .null, .null])), (q_1, .inr (3, [.int 0, .ref tE, .int 0])), (q_3, .inl (k_4, 255, .inl (fun _ => 0))), (q_5, .inr (3, [.int 0, .ref tE, .int 0])), (q_7, .inr (3, [.int 0, .ref tE, .int 0])), (q_9, .inr (3, [.int 0, .ref tE, .int 0])), (q_11, .inl (k_12, 32, .inl (fun _ => 0))), (q_13, .inl (k_14, 8, .inl (fun _ => 0))), (q_15, .inl (k_16, 8, .inl (fun _ => 0))), (q_17, .inl (k_18, 8, .inl (fun _ => 0)))] := hD
  have hK : va_K D vwCl [(k_4, .int), (k_12, .boolean), (k_14, .boolean), (k_16, .int), (k_18, .int)] s := hK
  refine W.widen (k := 9) (n := 323) (Nat.le_of_ble_eq_true rfl) (Nat.le_of_ble_eq_true rfl) ?_
  refine va_putF (D := D) (ci := 17) (v := .ref q_17) (ty := .array (.int)) (C := RX13) (T := TX13) (N := 13) hx hb hts (fun w h => List.mem_cons_of_mem _ (List.mem_append_left _ (List.mem_append_right _ h))) tyX13 tyX13_ok nmX13 hown hK hP hD hS 0 rfl rfl 10 (by decide) (hts (.fieldLink RX13 39 "LastroomModel" "cuts" "[I") (List.mem_of_getElem? (i := 17) rfl)) (fun _ h9 => h9) rfl hin rfl (by decide +kernel) rfl rfl (Nat.le_of_ble_eq_true rfl) dX13_init_86 (fun H locs hP hD hS => ?_)
  have hP : va_P D vwCl [(h0, .inr (17, [.int 0, .int 0, .ref q_1, .ref q_3, .ref q_5, .ref q_7, .ref q_9, .ref q_11, .ref q_13, .ref q_15, .ref q_17, .null, .null])), (q_1, .inr (3, [.int 0, .ref tE, .int 0])), (q_3, .inl (k_4, 255, .inl (fun _ => 0))), (q_5, .inr (3, [.int 0, .ref tE, .int 0])), (q_7, .inr (3, [.int 0, .ref tE, .int 0])), (q_9, .inr (3, [.int 0, .ref tE, .int 0])), (q_11, .inl (k_12, 32, .inl (fun _ => 0))), (q_13, .inl (k_14, 8, .inl (fun _ => 0))), (q_15, .inl (k_16, 8, .inl (fun _ => 0))), (q_17, .inl (k_18, 8, .inl (fun _ => 0)))] H := hP
  have hD : va_D A [(h0, .inr (17, [.int 0, .int 0, .ref q_1, .ref q_3, .ref q_5, .ref q_7, .ref q_9, .ref q_11, .ref q_13, .ref q_15, .ref q_17, .null, .null])), (q_1, .inr (3, [.int 0, .ref tE, .int 0])), (q_3, .inl (k_4, 255, .inl (fun _ => 0))), (q_5, .inr (3, [.int 0, .ref tE, .int 0])), (q_7, .inr (3, [.int 0, .ref tE, .int 0])), (q_9, .inr (3, [.int 0, .ref tE, .int 0])), (q_11, .inl (k_12, 32, .inl (fun _ => 0))), (q_13, .inl (k_14, 8, .inl (fun _ => 0))), (q_15, .inl (k_16, 8, .inl (fun _ => 0))), (q_17, .inl (k_18, 8, .inl (fun _ => 0)))] := hD
  refine lv_aload_n hx hb dX13_init_89 rfl (lv_at hl 0 rfl) ?_
  refine lv_iconst (v := 5) hx hb dX13_init_90 (by decide) ?_
  refine va_newa (atype := .int) (ty := .int) (N' := 5) (a0 := (5, .inl (fun _ => 0))) hx hb (hts (.arrayClass .int) (List.mem_of_getElem? (i := 8) rfl)) rfl hK hP hD hS hA (fun _ => rfl) (by decide) (by decide) (by decide) (Nat.le_of_ble_eq_true rfl) (Nat.le_of_ble_eq_true rfl) dX13_init_91 (fun q_19 k_20 H hK hP hD hS => ?_)
  have hP : va_P D vwCl [(h0, .inr (17, [.int 0, .int 0, .ref q_1, .ref q_3, .ref q_5, .ref q_7, .ref q_9, .ref q_11, .ref q_13, .ref q_15, .ref q_17, .null, .null])), (q_1, .inr (3, [.int 0, .ref tE, .int 0])), (q_3, .inl (k_4, 255, .inl (fun _ => 0))), (q_5, .inr (3, [.int 0, .ref tE, .int 0])), (q_7, .inr (3, [.int 0, .ref tE, .int 0])), (q_9, .inr (3, [.int 0, .ref tE, .int 0])), (q_11, .inl (k_12, 32, .inl (fun _ => 0))), (q_13, .inl (k_14, 8, .inl (fun _ => 0))), (q_15, .inl (k_16, 8, .inl (fun _ => 0))), (q_17, .inl (k_18, 8, .inl (fun _ => 0))), (q_19, .inl (k_20, 5, .inl (fun _ => 0)))] H := hP
  have hD : va_D A [(h0, .inr (17, [.int 0, .int 0, .ref q_1, .ref q_3, .ref q_5, .ref q_7, .ref q_9, .ref q_11, .ref q_13, .ref q_15, .ref q_17, .null, .null])), (q_1, .inr (3, [.int 0, .ref tE, .int 0])), (q_3, .inl (k_4, 255, .inl (fun _ => 0))), (q_5, .inr (3, [.int 0, .ref tE, .int 0])), (q_7, .inr (3, [.int 0, .ref tE, .int 0])), (q_9, .inr (3, [.int 0, .ref tE, .int 0])), (q_11, .inl (k_12, 32, .inl (fun _ => 0))), (q_13, .inl (k_14, 8, .inl (fun _ => 0))), (q_15, .inl (k_16, 8, .inl (fun _ => 0))), (q_17, .inl (k_18, 8, .inl (fun _ => 0))), (q_19, .inl (k_20, 5, .inl (fun _ => 0)))] := hD
  have hK : va_K D vwCl [(k_4, .int), (k_12, .boolean), (k_14, .boolean), (k_16, .int), (k_18, .int), (k_20, .int)] s := hK
  refine W.widen (k := 10) (n := 328) (Nat.le_of_ble_eq_true rfl) (Nat.le_of_ble_eq_true rfl) ?_
  refine lv_dup hx hb dX13_init_93 rfl ?_
  refine lv_iconst (v := 0) hx hb dX13_init_94 (by decide) ?_
  refine lv_bipush (v := 30) hx hb dX13_init_95 (by decide) ?_
  refine va_iast hx hb hK hP hD hS 10 5 rfl rfl (vp_in_iff.mpr (by decide)) dX13_init_97 (fun H locs hP hD hS => ?_)
  have hP : va_P D vwCl [(h0, .inr (17, [.int 0, .int 0, .ref q_1, .ref q_3, .ref q_5, .ref q_7, .ref q_9, .ref q_11, .ref q_13, .ref q_15, .ref q_17, .null, .null])), (q_1, .inr (3, [.int 0, .ref tE, .int 0])), (q_3, .inl (k_4, 255, .inl (fun _ => 0))), (q_5, .inr (3, [.int 0, .ref tE, .int 0])), (q_7, .inr (3, [.int 0, .ref tE, .int 0])), (q_9, .inr (3, [.int 0, .ref tE, .int 0])), (q_11, .inl (k_12, 32, .inl (fun _ => 0))), (q_13, .inl (k_14, 8, .inl (fun _ => 0))), (q_15, .inl (k_16, 8, .inl (fun _ => 0))), (q_17, .inl (k_18, 8, .inl (fun _ => 0))), (q_19, .inl (k_20, 5, .inl (upd (fun _ => 0) (0 : Int32).toNatClampNeg 30)))] H := hP
  have hD : va_D A [(h0, .inr (17, [.int 0, .int 0, .ref q_1, .ref q_3, .ref q_5, .ref q_7, .ref q_9, .ref q_11, .ref q_13, .ref q_15, .ref q_17, .null, .null])), (q_1, .inr (3, [.int 0, .ref tE, .int 0])), (q_3, .inl (k_4, 255, .inl (fun _ => 0))), (q_5, .inr (3, [.int 0, .ref tE, .int 0])), (q_7, .inr (3, [.int 0, .ref tE, .int 0])), (q_9, .inr (3, [.int 0, .ref tE, .int 0])), (q_11, .inl (k_12, 32, .inl (fun _ => 0))), (q_13, .inl (k_14, 8, .inl (fun _ => 0))), (q_15, .inl (k_16, 8, .inl (fun _ => 0))), (q_17, .inl (k_18, 8, .inl (fun _ => 0))), (q_19, .inl (k_20, 5, .inl (upd (fun _ => 0) (0 : Int32).toNatClampNeg 30)))] := hD
  refine lv_dup hx hb dX13_init_98 rfl ?_
  refine lv_iconst (v := 1) hx hb dX13_init_99 (by decide) ?_
  refine lv_bipush (v := 30) hx hb dX13_init_100 (by decide) ?_
  refine va_iast hx hb hK hP hD hS 10 5 rfl rfl (vp_in_iff.mpr (by decide)) dX13_init_102 (fun H locs hP hD hS => ?_)
  have hP : va_P D vwCl [(h0, .inr (17, [.int 0, .int 0, .ref q_1, .ref q_3, .ref q_5, .ref q_7, .ref q_9, .ref q_11, .ref q_13, .ref q_15, .ref q_17, .null, .null])), (q_1, .inr (3, [.int 0, .ref tE, .int 0])), (q_3, .inl (k_4, 255, .inl (fun _ => 0))), (q_5, .inr (3, [.int 0, .ref tE, .int 0])), (q_7, .inr (3, [.int 0, .ref tE, .int 0])), (q_9, .inr (3, [.int 0, .ref tE, .int 0])), (q_11, .inl (k_12, 32, .inl (fun _ => 0))), (q_13, .inl (k_14, 8, .inl (fun _ => 0))), (q_15, .inl (k_16, 8, .inl (fun _ => 0))), (q_17, .inl (k_18, 8, .inl (fun _ => 0))), (q_19, .inl (k_20, 5, .inl (upd (upd (fun _ => 0) (0 : Int32).toNatClampNeg 30) (1 : Int32).toNatClampNeg 30)))] H := hP
  have hD : va_D A [(h0, .inr (17, [.int 0, .int 0, .ref q_1, .ref q_3, .ref q_5, .ref q_7, .ref q_9, .ref q_11, .ref q_13, .ref q_15, .ref q_17, .null, .null])), (q_1, .inr (3, [.int 0, .ref tE, .int 0])), (q_3, .inl (k_4, 255, .inl (fun _ => 0))), (q_5, .inr (3, [.int 0, .ref tE, .int 0])), (q_7, .inr (3, [.int 0, .ref tE, .int 0])), (q_9, .inr (3, [.int 0, .ref tE, .int 0])), (q_11, .inl (k_12, 32, .inl (fun _ => 0))), (q_13, .inl (k_14, 8, .inl (fun _ => 0))), (q_15, .inl (k_16, 8, .inl (fun _ => 0))), (q_17, .inl (k_18, 8, .inl (fun _ => 0))), (q_19, .inl (k_20, 5, .inl (upd (upd (fun _ => 0) (0 : Int32).toNatClampNeg 30) (1 : Int32).toNatClampNeg 30)))] := hD
  refine lv_dup hx hb dX13_init_103 rfl ?_
  refine lv_iconst (v := 2) hx hb dX13_init_104 (by decide) ?_
  refine lv_bipush (v := 30) hx hb dX13_init_105 (by decide) ?_
  refine va_iast hx hb hK hP hD hS 10 5 rfl rfl (vp_in_iff.mpr (by decide)) dX13_init_107 (fun H locs hP hD hS => ?_)
  have hP : va_P D vwCl [(h0, .inr (17, [.int 0, .int 0, .ref q_1, .ref q_3, .ref q_5, .ref q_7, .ref q_9, .ref q_11, .ref q_13, .ref q_15, .ref q_17, .null, .null])), (q_1, .inr (3, [.int 0, .ref tE, .int 0])), (q_3, .inl (k_4, 255, .inl (fun _ => 0))), (q_5, .inr (3, [.int 0, .ref tE, .int 0])), (q_7, .inr (3, [.int 0, .ref tE, .int 0])), (q_9, .inr (3, [.int 0, .ref tE, .int 0])), (q_11, .inl (k_12, 32, .inl (fun _ => 0))), (q_13, .inl (k_14, 8, .inl (fun _ => 0))), (q_15, .inl (k_16, 8, .inl (fun _ => 0))), (q_17, .inl (k_18, 8, .inl (fun _ => 0))), (q_19, .inl (k_20, 5, .inl (upd (upd (upd (fun _ => 0) (0 : Int32).toNatClampNeg 30) (1 : Int32).toNatClampNeg 30) (2 : Int32).toNatClampNeg 30)))] H := hP
  have hD : va_D A [(h0, .inr (17, [.int 0, .int 0, .ref q_1, .ref q_3, .ref q_5, .ref q_7, .ref q_9, .ref q_11, .ref q_13, .ref q_15, .ref q_17, .null, .null])), (q_1, .inr (3, [.int 0, .ref tE, .int 0])), (q_3, .inl (k_4, 255, .inl (fun _ => 0))), (q_5, .inr (3, [.int 0, .ref tE, .int 0])), (q_7, .inr (3, [.int 0, .ref tE, .int 0])), (q_9, .inr (3, [.int 0, .ref tE, .int 0])), (q_11, .inl (k_12, 32, .inl (fun _ => 0))), (q_13, .inl (k_14, 8, .inl (fun _ => 0))), (q_15, .inl (k_16, 8, .inl (fun _ => 0))), (q_17, .inl (k_18, 8, .inl (fun _ => 0))), (q_19, .inl (k_20, 5, .inl (upd (upd (upd (fun _ => 0) (0 : Int32).toNatClampNeg 30) (1 : Int32).toNatClampNeg 30) (2 : Int32).toNatClampNeg 30)))] := hD
  refine lv_dup hx hb dX13_init_108 rfl ?_
  refine lv_iconst (v := 3) hx hb dX13_init_109 (by decide) ?_
  refine lv_bipush (v := 30) hx hb dX13_init_110 (by decide) ?_
  refine va_iast hx hb hK hP hD hS 10 5 rfl rfl (vp_in_iff.mpr (by decide)) dX13_init_112 (fun H locs hP hD hS => ?_)
  have hP : va_P D vwCl [(h0, .inr (17, [.int 0, .int 0, .ref q_1, .ref q_3, .ref q_5, .ref q_7, .ref q_9, .ref q_11, .ref q_13, .ref q_15, .ref q_17, .null, .null])), (q_1, .inr (3, [.int 0, .ref tE, .int 0])), (q_3, .inl (k_4, 255, .inl (fun _ => 0))), (q_5, .inr (3, [.int 0, .ref tE, .int 0])), (q_7, .inr (3, [.int 0, .ref tE, .int 0])), (q_9, .inr (3, [.int 0, .ref tE, .int 0])), (q_11, .inl (k_12, 32, .inl (fun _ => 0))), (q_13, .inl (k_14, 8, .inl (fun _ => 0))), (q_15, .inl (k_16, 8, .inl (fun _ => 0))), (q_17, .inl (k_18, 8, .inl (fun _ => 0))), (q_19, .inl (k_20, 5, .inl (upd (upd (upd (upd (fun _ => 0) (0 : Int32).toNatClampNeg 30) (1 : Int32).toNatClampNeg 30) (2 : Int32).toNatClampNeg 30) (3 : Int32).toNatClampNeg 30)))] H := hP
  have hD : va_D A [(h0, .inr (17, [.int 0, .int 0, .ref q_1, .ref q_3, .ref q_5, .ref q_7, .ref q_9, .ref q_11, .ref q_13, .ref q_15, .ref q_17, .null, .null])), (q_1, .inr (3, [.int 0, .ref tE, .int 0])), (q_3, .inl (k_4, 255, .inl (fun _ => 0))), (q_5, .inr (3, [.int 0, .ref tE, .int 0])), (q_7, .inr (3, [.int 0, .ref tE, .int 0])), (q_9, .inr (3, [.int 0, .ref tE, .int 0])), (q_11, .inl (k_12, 32, .inl (fun _ => 0))), (q_13, .inl (k_14, 8, .inl (fun _ => 0))), (q_15, .inl (k_16, 8, .inl (fun _ => 0))), (q_17, .inl (k_18, 8, .inl (fun _ => 0))), (q_19, .inl (k_20, 5, .inl (upd (upd (upd (upd (fun _ => 0) (0 : Int32).toNatClampNeg 30) (1 : Int32).toNatClampNeg 30) (2 : Int32).toNatClampNeg 30) (3 : Int32).toNatClampNeg 30)))] := hD
  refine lv_dup hx hb dX13_init_113 rfl ?_
  refine lv_iconst (v := 4) hx hb dX13_init_114 (by decide) ?_
  refine lv_bipush (v := 30) hx hb dX13_init_115 (by decide) ?_
  refine va_iast hx hb hK hP hD hS 10 5 rfl rfl (vp_in_iff.mpr (by decide)) dX13_init_117 (fun H locs hP hD hS => ?_)
  have hP : va_P D vwCl [(h0, .inr (17, [.int 0, .int 0, .ref q_1, .ref q_3, .ref q_5, .ref q_7, .ref q_9, .ref q_11, .ref q_13, .ref q_15, .ref q_17, .null, .null])), (q_1, .inr (3, [.int 0, .ref tE, .int 0])), (q_3, .inl (k_4, 255, .inl (fun _ => 0))), (q_5, .inr (3, [.int 0, .ref tE, .int 0])), (q_7, .inr (3, [.int 0, .ref tE, .int 0])), (q_9, .inr (3, [.int 0, .ref tE, .int 0])), (q_11, .inl (k_12, 32, .inl (fun _ => 0))), (q_13, .inl (k_14, 8, .inl (fun _ => 0))), (q_15, .inl (k_16, 8, .inl (fun _ => 0))), (q_17, .inl (k_18, 8, .inl (fun _ => 0))), (q_19, .inl (k_20, 5, .inl (upd (upd (upd (upd (upd (fun _ => 0) (0 : Int32).toNatClampNeg 30) (1 : Int32).toNatClampNeg 30) (2 : Int32).toNatClampNeg 30) (3 : Int32).toNatClampNeg 30) (4 : Int32).toNatClampNeg 30)))] H := hP
  have hD : va_D A [(h0, .inr (17, [.int 0, .int 0, .ref q_1, .ref q_3, .ref q_5, .ref q_7, .ref q_9, .ref q_11, .ref q_13, .ref q_15, .ref q_17, .null, .null])), (q_1, .inr (3, [.int 0, .ref tE, .int 0])), (q_3, .inl (k_4, 255, .inl (fun _ => 0))), (q_5, .inr (3, [.int 0, .ref tE, .int 0])), (q_7, .inr (3, [.int 0, .ref tE, .int 0])), (q_9, .inr (3, [.int 0, .ref tE, .int 0])), (q_11, .inl (k_12, 32, .inl (fun _ => 0))), (q_13, .inl (k_14, 8, .inl (fun _ => 0))), (q_15, .inl (k_16, 8, .inl (fun _ => 0))), (q_17, .inl (k_18, 8, .inl (fun _ => 0))), (q_19, .inl (k_20, 5, .inl (upd (upd (upd (upd (upd (fun _ => 0) (0 : Int32).toNatClampNeg 30) (1 : Int32).toNatClampNeg 30) (2 : Int32).toNatClampNeg 30) (3 : Int32).toNatClampNeg 30) (4 : Int32).toNatClampNeg 30)))] := hD
  refine va_putF (D := D) (ci := 17) (v := .ref q_19) (ty := .array (.int)) (C := RX13) (T := TX13) (N := 13) hx hb hts (fun w h => List.mem_cons_of_mem _ (List.mem_append_left _ (List.mem_append_right _ h))) tyX13 tyX13_ok nmX13 hown hK hP hD hS 0 rfl rfl 11 (by decide) (hts (.fieldLink RX13 42 "LastroomModel" "stands" "[I") (List.mem_of_getElem? (i := 18) rfl)) (fun _ h9 => h9) rfl hin rfl (by decide +kernel) rfl rfl (Nat.le_of_ble_eq_true rfl) dX13_init_118 (fun H locs hP hD hS => ?_)
  have hP : va_P D vwCl [(h0, .inr (17, [.int 0, .int 0, .ref q_1, .ref q_3, .ref q_5, .ref q_7, .ref q_9, .ref q_11, .ref q_13, .ref q_15, .ref q_17, .ref q_19, .null])), (q_1, .inr (3, [.int 0, .ref tE, .int 0])), (q_3, .inl (k_4, 255, .inl (fun _ => 0))), (q_5, .inr (3, [.int 0, .ref tE, .int 0])), (q_7, .inr (3, [.int 0, .ref tE, .int 0])), (q_9, .inr (3, [.int 0, .ref tE, .int 0])), (q_11, .inl (k_12, 32, .inl (fun _ => 0))), (q_13, .inl (k_14, 8, .inl (fun _ => 0))), (q_15, .inl (k_16, 8, .inl (fun _ => 0))), (q_17, .inl (k_18, 8, .inl (fun _ => 0))), (q_19, .inl (k_20, 5, .inl (upd (upd (upd (upd (upd (fun _ => 0) (0 : Int32).toNatClampNeg 30) (1 : Int32).toNatClampNeg 30) (2 : Int32).toNatClampNeg 30) (3 : Int32).toNatClampNeg 30) (4 : Int32).toNatClampNeg 30)))] H := hP
  have hD : va_D A [(h0, .inr (17, [.int 0, .int 0, .ref q_1, .ref q_3, .ref q_5, .ref q_7, .ref q_9, .ref q_11, .ref q_13, .ref q_15, .ref q_17, .ref q_19, .null])), (q_1, .inr (3, [.int 0, .ref tE, .int 0])), (q_3, .inl (k_4, 255, .inl (fun _ => 0))), (q_5, .inr (3, [.int 0, .ref tE, .int 0])), (q_7, .inr (3, [.int 0, .ref tE, .int 0])), (q_9, .inr (3, [.int 0, .ref tE, .int 0])), (q_11, .inl (k_12, 32, .inl (fun _ => 0))), (q_13, .inl (k_14, 8, .inl (fun _ => 0))), (q_15, .inl (k_16, 8, .inl (fun _ => 0))), (q_17, .inl (k_18, 8, .inl (fun _ => 0))), (q_19, .inl (k_20, 5, .inl (upd (upd (upd (upd (upd (fun _ => 0) (0 : Int32).toNatClampNeg 30) (1 : Int32).toNatClampNeg 30) (2 : Int32).toNatClampNeg 30) (3 : Int32).toNatClampNeg 30) (4 : Int32).toNatClampNeg 30)))] := hD
  refine lv_aload_n hx hb dX13_init_121 rfl (lv_at hl 0 rfl) ?_
  refine va_new (ci := 3) (fs := [.int 0, .null, .int 0]) (C := RJx4a65c) (T := TJx4a65c) (N := 3) hx hb hts (fun w h => List.mem_cons_of_mem _ (List.mem_append_left _ (List.mem_append_left _ (List.mem_append_right _ h)))) tyJx4a65c tyJx4a65c_ok hown (hts (.classLink RX13 7 RJx4a65c) (List.mem_of_getElem? (i := 4) rfl)) (hts (.instantiable RJx4a65c 3) (List.mem_of_getElem? (i := 5) rfl)) (hts (.initialized RJx4a65c) (List.mem_of_getElem? (i := 6) rfl)) hK hP hD hS hA rfl (fun j hj => by rcases (show j = 0 ∨ j = 1 ∨ j = 2 by omega) with rfl | rfl | rfl <;> rfl) (Nat.le_of_ble_eq_true rfl) (Nat.le_of_ble_eq_true rfl) dX13_init_122 (fun q_21 H hP hD hS => ?_)
  have hP : va_P D vwCl [(h0, .inr (17, [.int 0, .int 0, .ref q_1, .ref q_3, .ref q_5, .ref q_7, .ref q_9, .ref q_11, .ref q_13, .ref q_15, .ref q_17, .ref q_19, .null])), (q_1, .inr (3, [.int 0, .ref tE, .int 0])), (q_3, .inl (k_4, 255, .inl (fun _ => 0))), (q_5, .inr (3, [.int 0, .ref tE, .int 0])), (q_7, .inr (3, [.int 0, .ref tE, .int 0])), (q_9, .inr (3, [.int 0, .ref tE, .int 0])), (q_11, .inl (k_12, 32, .inl (fun _ => 0))), (q_13, .inl (k_14, 8, .inl (fun _ => 0))), (q_15, .inl (k_16, 8, .inl (fun _ => 0))), (q_17, .inl (k_18, 8, .inl (fun _ => 0))), (q_19, .inl (k_20, 5, .inl (upd (upd (upd (upd (upd (fun _ => 0) (0 : Int32).toNatClampNeg 30) (1 : Int32).toNatClampNeg 30) (2 : Int32).toNatClampNeg 30) (3 : Int32).toNatClampNeg 30) (4 : Int32).toNatClampNeg 30))), (q_21, .inr (3, [.int 0, .null, .int 0]))] H := hP
  have hD : va_D A [(h0, .inr (17, [.int 0, .int 0, .ref q_1, .ref q_3, .ref q_5, .ref q_7, .ref q_9, .ref q_11, .ref q_13, .ref q_15, .ref q_17, .ref q_19, .null])), (q_1, .inr (3, [.int 0, .ref tE, .int 0])), (q_3, .inl (k_4, 255, .inl (fun _ => 0))), (q_5, .inr (3, [.int 0, .ref tE, .int 0])), (q_7, .inr (3, [.int 0, .ref tE, .int 0])), (q_9, .inr (3, [.int 0, .ref tE, .int 0])), (q_11, .inl (k_12, 32, .inl (fun _ => 0))), (q_13, .inl (k_14, 8, .inl (fun _ => 0))), (q_15, .inl (k_16, 8, .inl (fun _ => 0))), (q_17, .inl (k_18, 8, .inl (fun _ => 0))), (q_19, .inl (k_20, 5, .inl (upd (upd (upd (upd (upd (fun _ => 0) (0 : Int32).toNatClampNeg 30) (1 : Int32).toNatClampNeg 30) (2 : Int32).toNatClampNeg 30) (3 : Int32).toNatClampNeg 30) (4 : Int32).toNatClampNeg 30))), (q_21, .inr (3, [.int 0, .null, .int 0]))] := hD
  refine W.widen (k := 11) (n := 331) (Nat.le_of_ble_eq_true rfl) (Nat.le_of_ble_eq_true rfl) ?_
  refine lv_dup hx hb dX13_init_125 rfl ?_
  have hFc := va_free (wc := [(q_21, .inr (3, [.int 0, .null, .int 0]))]) hD hS hA [11] rfl
  refine va_callv (va_runI (As := []) (rest := [.ref q_21, .ref h0]) ⟨hx, hb, hml, hown, hts⟩ (c_ArrayList l D tC tE H.size q_21) (cwI 0 hts gX13_init_Jx4a65c_init_da8c8 rfl rfl rfl (hts (.initialized RJx4a65c) (List.mem_of_getElem? (i := 6) rfl)) (hts (.methodLink RX13 9 yJx4a65c_init_da8c8) (List.mem_of_getElem? (i := 20) rfl)) (hts (.instanceMethod yJx4a65c_init_da8c8) (List.mem_of_getElem? (i := 21) rfl)) rfl (by decide +kernel) ⟨(Nat.le_of_ble_eq_true rfl), (Nat.le_of_ble_eq_true rfl)⟩) ⟨pg_blind, (pg_pre hP hD hK hG hS hFc [11] rfl (by decide) [] rfl _)⟩ rfl rfl hl.1 rfl (lv_room (Nat.le_of_ble_eq_true rfl)) dX13_init_126 ⟨(Nat.le_of_ble_eq_true rfl), (Nat.le_of_ble_eq_true rfl)⟩) hS (fun q _ h => hFc q h) hFc (fun u_22 t H locs ht hvm hw hB hz1 hk1 hS => ?_)
  obtain ⟨hP, hD, hK⟩ := jn (wr := [(h0, .inr (17, [.int 0, .int 0, .ref q_1, .ref q_3, .ref q_5, .ref q_7, .ref q_9, .ref q_11, .ref q_13, .ref q_15, .ref q_17, .ref q_19, .null])), (q_1, .inr (3, [.int 0, .ref tE, .int 0])), (q_3, .inl (k_4, 255, .inl (fun _ => 0))), (q_5, .inr (3, [.int 0, .ref tE, .int 0])), (q_7, .inr (3, [.int 0, .ref tE, .int 0])), (q_9, .inr (3, [.int 0, .ref tE, .int 0])), (q_11, .inl (k_12, 32, .inl (fun _ => 0))), (q_13, .inl (k_14, 8, .inl (fun _ => 0))), (q_15, .inl (k_16, 8, .inl (fun _ => 0))), (q_17, .inl (k_18, 8, .inl (fun _ => 0))), (q_19, .inl (k_20, 5, .inl (upd (upd (upd (upd (upd (fun _ => 0) (0 : Int32).toNatClampNeg 30) (1 : Int32).toNatClampNeg 30) (2 : Int32).toNatClampNeg 30) (3 : Int32).toNatClampNeg 30) (4 : Int32).toNatClampNeg 30)))]) (w1 := [(q_21, .inr (3, [.int 0, .ref tE, .int 0]))]) (t1 := []) (tr := [(k_4, .int), (k_12, .boolean), (k_14, .boolean), (k_16, .int), (k_18, .int), (k_20, .int)]) hP hD hK [11] [0, 1, 2, 3, 4, 5, 6, 7, 8, 9, 10] rfl rfl (by decide) (by decide) [0, 1, 2, 3, 4, 5] rfl hk1 hFc hB rfl rfl ht hvm
  have hP : va_P D vwCl [(h0, .inr (17, [.int 0, .int 0, .ref q_1, .ref q_3, .ref q_5, .ref q_7, .ref q_9, .ref q_11, .ref q_13, .ref q_15, .ref q_17, .ref q_19, .null])), (q_1, .inr (3, [.int 0, .ref tE, .int 0])), (q_3, .inl (k_4, 255, .inl (fun _ => 0))), (q_5, .inr (3, [.int 0, .ref tE, .int 0])), (q_7, .inr (3, [.int 0, .ref tE, .int 0])), (q_9, .inr (3, [.int 0, .ref tE, .int 0])), (q_11, .inl (k_12, 32, .inl (fun _ => 0))), (q_13, .inl (k_14, 8, .inl (fun _ => 0))), (q_15, .inl (k_16, 8, .inl (fun _ => 0))), (q_17, .inl (k_18, 8, .inl (fun _ => 0))), (q_19, .inl (k_20, 5, .inl (upd (upd (upd (upd (upd (fun _ => 0) (0 : Int32).toNatClampNeg 30) (1 : Int32).toNatClampNeg 30) (2 : Int32).toNatClampNeg 30) (3 : Int32).toNatClampNeg 30) (4 : Int32).toNatClampNeg 30))), (q_21, .inr (3, [.int 0, .ref tE, .int 0]))] H := hP
  have hD : va_D A [(h0, .inr (17, [.int 0, .int 0, .ref q_1, .ref q_3, .ref q_5, .ref q_7, .ref q_9, .ref q_11, .ref q_13, .ref q_15, .ref q_17, .ref q_19, .null])), (q_1, .inr (3, [.int 0, .ref tE, .int 0])), (q_3, .inl (k_4, 255, .inl (fun _ => 0))), (q_5, .inr (3, [.int 0, .ref tE, .int 0])), (q_7, .inr (3, [.int 0, .ref tE, .int 0])), (q_9, .inr (3, [.int 0, .ref tE, .int 0])), (q_11, .inl (k_12, 32, .inl (fun _ => 0))), (q_13, .inl (k_14, 8, .inl (fun _ => 0))), (q_15, .inl (k_16, 8, .inl (fun _ => 0))), (q_17, .inl (k_18, 8, .inl (fun _ => 0))), (q_19, .inl (k_20, 5, .inl (upd (upd (upd (upd (upd (fun _ => 0) (0 : Int32).toNatClampNeg 30) (1 : Int32).toNatClampNeg 30) (2 : Int32).toNatClampNeg 30) (3 : Int32).toNatClampNeg 30) (4 : Int32).toNatClampNeg 30))), (q_21, .inr (3, [.int 0, .ref tE, .int 0]))] := hD
  have hK : va_K D vwCl [(k_4, .int), (k_12, .boolean), (k_14, .boolean), (k_16, .int), (k_18, .int), (k_20, .int)] s := hK
  refine W.widen (k := 11) (n := 331) (Nat.le_of_ble_eq_true rfl) (Nat.le_of_ble_eq_true rfl) ?_
  refine va_putF (D := D) (ci := 17) (v := .ref q_21) (ty := .object "java/util/List") (C := RX13) (T := TX13) (N := 13) hx hb hts (fun w h => List.mem_cons_of_mem _ (List.mem_append_left _ (List.mem_append_right _ h))) tyX13 tyX13_ok nmX13 hown hK hP hD hS 0 rfl rfl 12 (by decide) (hts (.fieldLink RX13 45 "LastroomModel" "lots" "Ljava/util/List;") (List.mem_of_getElem? (i := 19) rfl)) (fun _ h9 => h9) rfl hin rfl (by decide +kernel) rfl rfl (Nat.le_of_ble_eq_true rfl) dX13_init_129 (fun H locs hP hD hS => ?_)
  have hP : va_P D vwCl [(h0, .inr (17, [.int 0, .int 0, .ref q_1, .ref q_3, .ref q_5, .ref q_7, .ref q_9, .ref q_11, .ref q_13, .ref q_15, .ref q_17, .ref q_19, .ref q_21])), (q_1, .inr (3, [.int 0, .ref tE, .int 0])), (q_3, .inl (k_4, 255, .inl (fun _ => 0))), (q_5, .inr (3, [.int 0, .ref tE, .int 0])), (q_7, .inr (3, [.int 0, .ref tE, .int 0])), (q_9, .inr (3, [.int 0, .ref tE, .int 0])), (q_11, .inl (k_12, 32, .inl (fun _ => 0))), (q_13, .inl (k_14, 8, .inl (fun _ => 0))), (q_15, .inl (k_16, 8, .inl (fun _ => 0))), (q_17, .inl (k_18, 8, .inl (fun _ => 0))), (q_19, .inl (k_20, 5, .inl (upd (upd (upd (upd (upd (fun _ => 0) (0 : Int32).toNatClampNeg 30) (1 : Int32).toNatClampNeg 30) (2 : Int32).toNatClampNeg 30) (3 : Int32).toNatClampNeg 30) (4 : Int32).toNatClampNeg 30))), (q_21, .inr (3, [.int 0, .ref tE, .int 0]))] H := hP
  have hD : va_D A [(h0, .inr (17, [.int 0, .int 0, .ref q_1, .ref q_3, .ref q_5, .ref q_7, .ref q_9, .ref q_11, .ref q_13, .ref q_15, .ref q_17, .ref q_19, .ref q_21])), (q_1, .inr (3, [.int 0, .ref tE, .int 0])), (q_3, .inl (k_4, 255, .inl (fun _ => 0))), (q_5, .inr (3, [.int 0, .ref tE, .int 0])), (q_7, .inr (3, [.int 0, .ref tE, .int 0])), (q_9, .inr (3, [.int 0, .ref tE, .int 0])), (q_11, .inl (k_12, 32, .inl (fun _ => 0))), (q_13, .inl (k_14, 8, .inl (fun _ => 0))), (q_15, .inl (k_16, 8, .inl (fun _ => 0))), (q_17, .inl (k_18, 8, .inl (fun _ => 0))), (q_19, .inl (k_20, 5, .inl (upd (upd (upd (upd (upd (fun _ => 0) (0 : Int32).toNatClampNeg 30) (1 : Int32).toNatClampNeg 30) (2 : Int32).toNatClampNeg 30) (3 : Int32).toNatClampNeg 30) (4 : Int32).toNatClampNeg 30))), (q_21, .inr (3, [.int 0, .ref tE, .int 0]))] := hD
  have hP9 := hP.sub (ws' := [(h0, .inr (17, [.int 0, .int 0, .ref q_1, .ref q_3, .ref q_5, .ref q_7, .ref q_9, .ref q_11, .ref q_13, .ref q_15, .ref q_17, .ref q_19, .ref q_21])), (q_1, .inr (3, [.int 0, .ref tE, .int 0])), (q_3, .inl (k_4, 255, .inl (fun _ => 0))), (q_5, .inr (3, [.int 0, .ref tE, .int 0])), (q_7, .inr (3, [.int 0, .ref tE, .int 0])), (q_9, .inr (3, [.int 0, .ref tE, .int 0])), (q_11, .inl (k_12, 32, .inl (fun _ => 0))), (q_13, .inl (k_14, 8, .inl (fun _ => 0))), (q_15, .inl (k_16, 8, .inl (fun _ => 0))), (q_17, .inl (k_18, 8, .inl (fun _ => 0))), (q_19, .inl (k_20, 5, .inl (upd (upd (upd (upd (upd (fun _ => 0) (0 : Int32).toNatClampNeg 30) (1 : Int32).toNatClampNeg 30) (2 : Int32).toNatClampNeg 30) (3 : Int32).toNatClampNeg 30) (4 : Int32).toNatClampNeg 30))), (q_21, .inr (3, [.int 0, .ref tE, .int 0]))]) [0, 1, 2, 3, 4, 5, 6, 7, 8, 9, 10, 11] rfl
  have hD9 := hD.sub (ws' := [(h0, .inr (17, [.int 0, .int 0, .ref q_1, .ref q_3, .ref q_5, .ref q_7, .ref q_9, .ref q_11, .ref q_13, .ref q_15, .ref q_17, .ref q_19, .ref q_21])), (q_1, .inr (3, [.int 0, .ref tE, .int 0])), (q_3, .inl (k_4, 255, .inl (fun _ => 0))), (q_5, .inr (3, [.int 0, .ref tE, .int 0])), (q_7, .inr (3, [.int 0, .ref tE, .int 0])), (q_9, .inr (3, [.int 0, .ref tE, .int 0])), (q_11, .inl (k_12, 32, .inl (fun _ => 0))), (q_13, .inl (k_14, 8, .inl (fun _ => 0))), (q_15, .inl (k_16, 8, .inl (fun _ => 0))), (q_17, .inl (k_18, 8, .inl (fun _ => 0))), (q_19, .inl (k_20, 5, .inl (upd (upd (upd (upd (upd (fun _ => 0) (0 : Int32).toNatClampNeg 30) (1 : Int32).toNatClampNeg 30) (2 : Int32).toNatClampNeg 30) (3 : Int32).toNatClampNeg 30) (4 : Int32).toNatClampNeg 30))), (q_21, .inr (3, [.int 0, .ref tE, .int 0]))]) [0, 1, 2, 3, 4, 5, 6, 7, 8, 9, 10, 11] (by decide) rfl
  have hK9 := hK.sub (tys' := [(k_4, .int), (k_12, .boolean), (k_14, .boolean), (k_16, .int), (k_18, .int), (k_20, .int)]) [0, 1, 2, 3, 4, 5] rfl
  exact end_v hx hb hr hlocks hP9 hD9 hK9 hS (fun j => [q_1, q_3, q_5, q_7, q_9, q_11, q_13, q_15, q_17, q_19, q_21].getD j 0, fun j => [k_4, k_12, k_14, k_16, k_18, k_20].getD j 0) rfl rfl trivial (Nat.le_of_ble_eq_true rfl) (Nat.le_of_ble_eq_true rfl) dX13_init_132

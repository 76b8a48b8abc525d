-- ===== printed names =====
def wsX4_hasSkill : List Cond := .code yX4_hasSkill cX4_hasSkill 2 (some .boolean) :: ([.fieldLink RX4 7 "Lastroom$Operator" "skills" "I"] ++ wsX40)
def wsX9_findOperator : List Cond := .code yX9_findOperator cX9_findOperator 3 (some (.object "Lastroom$Operator")) :: ([.classLink RX9 517 "java/lang/IndexOutOfBoundsException", .initialized "java/lang/IndexOutOfBoundsException", .fieldLink RX9 41 "Lastroom" "operators" "[LLastroom$Operator;"] ++ wsX90 ++ (vx_atS RX9 521 "java/lang/IndexOutOfBoundsException" ["java/lang/RuntimeException", "java/lang/Exception"]).filter goodWord)
def wsX9_countMinutes : List Cond := .code yX9_countMinutes cX9_countMinutes 7 (some .int) :: ([.fieldLink RX9 29 "Lastroom" "tickets" "[LLastroom$Ticket;", .methodLink RX9 557 yX8_minutesLeft, .instanceMethod yX8_minutesLeft, .selects RX8 yX8_minutesLeft yX8_minutesLeft, .initialized RX8, .code yX8_minutesLeft cX8_minutesLeft 5 (some .int), .fieldLink RX8 29 "Lastroom$Ticket" "style" "LLastroom$Style;", .fieldLink RX8 85 "Lastroom$Style" "seams" "[LLastroom$Seam;", .fieldLink RX8 89 "Lastroom$Seam" "skill" "I", .fieldLink RX8 12 "Lastroom$Ticket" "left" "LLastroom$Foot;", .fieldLink RX8 97 "Lastroom$Seam" "minutes" "I", .fieldLink RX8 18 "Lastroom$Ticket" "right" "LLastroom$Foot;", .methodLink RX8 94 yX0_sewerAt, .instanceMethod yX0_sewerAt, .selects RX0 yX0_sewerAt yX0_sewerAt, .initialized RX0, .code yX0_sewerAt cX0_sewerAt 2 (some .int), .fieldLink RX0 18 "Lastroom$Foot" "sewers" "[I"] ++ wsX90 ++ wsX80 ++ wsX70 ++ wsX60 ++ wsX00 ++ (vx_atM "java/lang/ArrayIndexOutOfBoundsException" ["java/lang/IndexOutOfBoundsException", "java/lang/RuntimeException", "java/lang/Exception"]).filter goodWord)
def wsX9_countHands : List Cond := .code yX9_countHands cX9_countHands 7 (some .int) :: ([.fieldLink RX9 41 "Lastroom" "operators" "[LLastroom$Operator;", .fieldLink RX9 345 "Lastroom$Operator" "isAbsent" "Z", .methodLink RX9 339 yX4_hasSkill, .instanceMethod yX4_hasSkill, .selects RX4 yX4_hasSkill yX4_hasSkill, .initialized RX4, .code yX4_hasSkill cX4_hasSkill 2 (some .boolean), .fieldLink RX4 7 "Lastroom$Operator" "skills" "I"] ++ wsX90 ++ wsX40)
theorem dX4_hasSkill_0 : decode cX4_hasSkill 0 = .ok (.aload_n 0, 1) := by decide +kernel
theorem dX4_hasSkill_1 : decode cX4_hasSkill 1 = .ok (.getfield 7, 3) := by decide +kernel
theorem dX4_hasSkill_4 : decode cX4_hasSkill 4 = .ok (.iload_n 1, 1) := by decide +kernel
theorem dX4_hasSkill_5 : decode cX4_hasSkill 5 = .ok (.iushr, 1) := by decide +kernel
theorem dX4_hasSkill_6 : decode cX4_hasSkill 6 = .ok (.iconst 1, 1) := by decide +kernel
theorem dX4_hasSkill_7 : decode cX4_hasSkill 7 = .ok (.iand, 1) := by decide +kernel
theorem dX4_hasSkill_8 : decode cX4_hasSkill 8 = .ok (.iconst 1, 1) := by decide +kernel
theorem dX4_hasSkill_9 : decode cX4_hasSkill 9 = .ok (.if_icmp .ne 7, 3) := by decide +kernel
theorem dX4_hasSkill_16 : decode cX4_hasSkill 16 = .ok (.iconst 0, 1) := by decide +kernel
theorem dX4_hasSkill_17 : decode cX4_hasSkill 17 = .ok (.ireturn, 1) := by decide +kernel
set_option maxRecDepth 20000 in
theorem ggX9_cutBy_X9_findOperator : GoodIn wsX9_cutBy wsX9_findOperator := goodIn_ca (goodIn_r _ [6, 7, 8, 9, 14, 15, 16, 17, 18, 19, 20, 21, 22, 23, 24, 25, 26, 27] (by decide +kernel) (by decide +kernel)) (goodIn_sub (fun _ h => List.mem_cons_of_mem _ (List.mem_append_right _ h)) (by decide +kernel))
set_option maxRecDepth 20000 in
theorem gX9_cutBy_X9_findOperator : GoodIn wsX9_cutBy (wsV RX9 260 RX9 yX9_findOperator wsX9_findOperator) := goodIn_app (goodIn_of _ (by decide +kernel)) ggX9_cutBy_X9_findOperator
theorem dX9_cutBy_0 : decode cX9_cutBy 0 = .ok (.aload_n 0, 1) := by decide +kernel
theorem dX9_cutBy_1 : decode cX9_cutBy 1 = .ok (.iload_n 1, 1) := by decide +kernel
theorem dX9_cutBy_2 : decode cX9_cutBy 2 = .ok (.invokevirtual 260, 3) := by decide +kernel
theorem dX9_cutBy_5 : decode cX9_cutBy 5 = .ok (.getfield 328, 3) := by decide +kernel
theorem dX9_cutBy_8 : decode cX9_cutBy 8 = .ok (.ireturn, 1) := by decide +kernel
set_option maxRecDepth 20000 in
theorem ggX9_setSkill_X9_findOperator : GoodIn wsX9_setSkill wsX9_findOperator := goodIn_ca (goodIn_r _ [6, 7, 8, 9, 25, 26, 27, 28, 29, 30, 31, 32, 33, 34, 35, 36, 37, 38] (by decide +kernel) (by decide +kernel)) (goodIn_sub (fun _ h => List.mem_cons_of_mem _ (List.mem_append_left _ (List.mem_append_right _ h))) (by decide +kernel))
set_option maxRecDepth 20000 in
theorem gX9_setSkill_X9_findOperator : GoodIn wsX9_setSkill (wsV RX9 260 RX9 yX9_findOperator wsX9_findOperator) := goodIn_app (goodIn_of _ (by decide +kernel)) ggX9_setSkill_X9_findOperator
set_option maxRecDepth 20000 in
theorem ggX9_setSkill_X9_demandRange : GoodIn wsX9_setSkill wsX9_demandRange := goodIn_ca (goodIn_r _ [12, 13, 14] (by decide +kernel) (by decide +kernel)) (goodIn_sub (fun _ h => List.mem_cons_of_mem _ (List.mem_append_right _ h)) (by decide +kernel))
set_option maxRecDepth 20000 in
theorem gX9_setSkill_X9_demandRange : GoodIn wsX9_setSkill (va_wsS RX9 82 yX9_demandRange wsX9_demandRange) := goodIn_app (goodIn_of _ (by decide +kernel)) ggX9_setSkill_X9_demandRange
set_option maxRecDepth 20000 in
theorem ggX9_setSkill_X4_hasSkill : GoodIn wsX9_setSkill wsX4_hasSkill := goodIn_r _ [19, 20, 21, 22, 23, 24] (by decide +kernel) (by decide +kernel)
set_option maxRecDepth 20000 in
theorem gX9_setSkill_X4_hasSkill : GoodIn wsX9_setSkill (wsV RX9 339 RX4 yX4_hasSkill wsX4_hasSkill) := goodIn_app (goodIn_of _ (by decide +kernel)) ggX9_setSkill_X4_hasSkill
theorem dX9_setSkill_0 : decode cX9_setSkill 0 = .ok (.aload_n 0, 1) := by decide +kernel
theorem dX9_setSkill_1 : decode cX9_setSkill 1 = .ok (.iload_n 1, 1) := by decide +kernel
theorem dX9_setSkill_2 : decode cX9_setSkill 2 = .ok (.invokevirtual 260, 3) := by decide +kernel
theorem dX9_setSkill_5 : decode cX9_setSkill 5 = .ok (.astore 4, 2) := by decide +kernel
theorem dX9_setSkill_7 : decode cX9_setSkill 7 = .ok (.iload_n 2, 1) := by decide +kernel
theorem dX9_setSkill_8 : decode cX9_setSkill 8 = .ok (.iconst 0, 1) := by decide +kernel
theorem dX9_setSkill_9 : decode cX9_setSkill 9 = .ok (.iconst 3, 1) := by decide +kernel
theorem dX9_setSkill_10 : decode cX9_setSkill 10 = .ok (.invokestatic 82, 3) := by decide +kernel
theorem dX9_setSkill_13 : decode cX9_setSkill 13 = .ok (.aload 4, 2) := by decide +kernel
theorem dX9_setSkill_15 : decode cX9_setSkill 15 = .ok (.iload_n 2, 1) := by decide +kernel
theorem dX9_setSkill_16 : decode cX9_setSkill 16 = .ok (.invokevirtual 339, 3) := by decide +kernel
theorem dX9_setSkill_19 : decode cX9_setSkill 19 = .ok (.istore 5, 2) := by decide +kernel
theorem dX9_setSkill_21 : decode cX9_setSkill 21 = .ok (.aload 4, 2) := by decide +kernel
theorem dX9_setSkill_23 : decode cX9_setSkill 23 = .ok (.iload_n 3, 1) := by decide +kernel
theorem dX9_setSkill_24 : decode cX9_setSkill 24 = .ok (.ifCond .eq 15, 3) := by decide +kernel
theorem dX9_setSkill_27 : decode cX9_setSkill 27 = .ok (.aload 4, 2) := by decide +kernel
theorem dX9_setSkill_29 : decode cX9_setSkill 29 = .ok (.getfield 342, 3) := by decide +kernel
theorem dX9_setSkill_32 : decode cX9_setSkill 32 = .ok (.iconst 1, 1) := by decide +kernel
theorem dX9_setSkill_33 : decode cX9_setSkill 33 = .ok (.iload_n 2, 1) := by decide +kernel
theorem dX9_setSkill_34 : decode cX9_setSkill 34 = .ok (.ishl, 1) := by decide +kernel
theorem dX9_setSkill_35 : decode cX9_setSkill 35 = .ok (.ior, 1) := by decide +kernel
theorem dX9_setSkill_36 : decode cX9_setSkill 36 = .ok (.goto 14, 3) := by decide +kernel
theorem dX9_setSkill_39 : decode cX9_setSkill 39 = .ok (.aload 4, 2) := by decide +kernel
theorem dX9_setSkill_41 : decode cX9_setSkill 41 = .ok (.getfield 342, 3) := by decide +kernel
theorem dX9_setSkill_44 : decode cX9_setSkill 44 = .ok (.iconst 1, 1) := by decide +kernel
theorem dX9_setSkill_45 : decode cX9_setSkill 45 = .ok (.iload_n 2, 1) := by decide +kernel
theorem dX9_setSkill_46 : decode cX9_setSkill 46 = .ok (.ishl, 1) := by decide +kernel
theorem dX9_setSkill_47 : decode cX9_setSkill 47 = .ok (.iconst (-1), 1) := by decide +kernel
theorem dX9_setSkill_48 : decode cX9_setSkill 48 = .ok (.ixor, 1) := by decide +kernel
theorem dX9_setSkill_49 : decode cX9_setSkill 49 = .ok (.iand, 1) := by decide +kernel
theorem dX9_setSkill_50 : decode cX9_setSkill 50 = .ok (.putfield 342, 3) := by decide +kernel
theorem dX9_setSkill_53 : decode cX9_setSkill 53 = .ok (.iload 5, 2) := by decide +kernel
theorem dX9_setSkill_55 : decode cX9_setSkill 55 = .ok (.ireturn, 1) := by decide +kernel
set_option maxRecDepth 20000 in
theorem ggX9_setAbsent_X9_findOperator : GoodIn wsX9_setAbsent wsX9_findOperator := goodIn_ca (goodIn_r _ [6, 7, 8, 9, 14, 15, 16, 17, 18, 19, 20, 21, 22, 23, 24, 25, 26, 27] (by decide +kernel) (by decide +kernel)) (goodIn_sub (fun _ h => List.mem_cons_of_mem _ (List.mem_append_right _ h)) (by decide +kernel))
set_option maxRecDepth 20000 in
theorem gX9_setAbsent_X9_findOperator : GoodIn wsX9_setAbsent (wsV RX9 260 RX9 yX9_findOperator wsX9_findOperator) := goodIn_app (goodIn_of _ (by decide +kernel)) ggX9_setAbsent_X9_findOperator
theorem dX9_setAbsent_0 : decode cX9_setAbsent 0 = .ok (.aload_n 0, 1) := by decide +kernel
theorem dX9_setAbsent_1 : decode cX9_setAbsent 1 = .ok (.iload_n 1, 1) := by decide +kernel
theorem dX9_setAbsent_2 : decode cX9_setAbsent 2 = .ok (.invokevirtual 260, 3) := by decide +kernel
theorem dX9_setAbsent_5 : decode cX9_setAbsent 5 = .ok (.astore_n 3, 1) := by decide +kernel
theorem dX9_setAbsent_6 : decode cX9_setAbsent 6 = .ok (.aload_n 3, 1) := by decide +kernel
theorem dX9_setAbsent_7 : decode cX9_setAbsent 7 = .ok (.getfield 345, 3) := by decide +kernel
theorem dX9_setAbsent_10 : decode cX9_setAbsent 10 = .ok (.istore 4, 2) := by decide +kernel
theorem dX9_setAbsent_12 : decode cX9_setAbsent 12 = .ok (.aload_n 3, 1) := by decide +kernel
theorem dX9_setAbsent_13 : decode cX9_setAbsent 13 = .ok (.iload_n 2, 1) := by decide +kernel
theorem dX9_setAbsent_14 : decode cX9_setAbsent 14 = .ok (.putfield 345, 3) := by decide +kernel
theorem dX9_setAbsent_17 : decode cX9_setAbsent 17 = .ok (.iload 4, 2) := by decide +kernel
theorem dX9_setAbsent_19 : decode cX9_setAbsent 19 = .ok (.ireturn, 1) := by decide +kernel
set_option maxRecDepth 20000 in
theorem ggX9_bottleneck_X9_countMinutes : GoodIn wsX9_bottleneck wsX9_countMinutes := goodIn_ca (goodIn_r _ [8, 9, 10, 11, 12, 13, 14, 15, 16, 17, 18, 19, 20, 21, 22, 23, 24, 25, 26, 42, 43, 44, 45, 46, 47, 48, 49, 50, 51, 52, 53, 54, 55, 56, 57, 58, 59, 60, 61, 62, 63, 64, 65, 66, 67, 68, 69, 70, 71, 72, 73, 74, 75, 76, 77, 78, 79, 80, 81, 82, 83, 84, 85, 86, 87] (by decide +kernel) (by decide +kernel)) (goodIn_sub (fun _ h => List.mem_cons_of_mem _ (List.mem_append_left _ (List.mem_append_right _ h))) (by decide +kernel))
set_option maxRecDepth 20000 in
theorem gX9_bottleneck_X9_countMinutes : GoodIn wsX9_bottleneck (wsV RX9 397 RX9 yX9_countMinutes wsX9_countMinutes) := goodIn_app (goodIn_of _ (by decide +kernel)) ggX9_bottleneck_X9_countMinutes
set_option maxRecDepth 20000 in
theorem ggX9_bottleneck_X9_countHands : GoodIn wsX9_bottleneck wsX9_countHands := goodIn_r _ [30, 31, 32, 33, 34, 35, 36, 37, 38, 42, 43, 44, 45, 46, 47, 48, 49, 50, 51, 52, 53, 54, 55, 88, 89, 90, 91] (by decide +kernel) (by decide +kernel)
set_option maxRecDepth 20000 in
theorem gX9_bottleneck_X9_countHands : GoodIn wsX9_bottleneck (wsV RX9 400 RX9 yX9_countHands wsX9_countHands) := goodIn_app (goodIn_of _ (by decide +kernel)) ggX9_bottleneck_X9_countHands
theorem dX9_bottleneck_0 : decode cX9_bottleneck 0 = .ok (.iconst (-1), 1) := by decide +kernel
theorem dX9_bottleneck_1 : decode cX9_bottleneck 1 = .ok (.istore_n 1, 1) := by decide +kernel
theorem dX9_bottleneck_2 : decode cX9_bottleneck 2 = .ok (.iconst (-1), 1) := by decide +kernel
theorem dX9_bottleneck_3 : decode cX9_bottleneck 3 = .ok (.istore_n 2, 1) := by decide +kernel
theorem dX9_bottleneck_4 : decode cX9_bottleneck 4 = .ok (.iconst 0, 1) := by decide +kernel
theorem dX9_bottleneck_5 : decode cX9_bottleneck 5 = .ok (.istore_n 3, 1) := by decide +kernel
theorem dX9_bottleneck_6 : decode cX9_bottleneck 6 = .ok (.iload_n 3, 1) := by decide +kernel
theorem dX9_bottleneck_7 : decode cX9_bottleneck 7 = .ok (.iconst 4, 1) := by decide +kernel
theorem dX9_bottleneck_8 : decode cX9_bottleneck 8 = .ok (.if_icmp .ge 58, 3) := by decide +kernel
theorem dX9_bottleneck_11 : decode cX9_bottleneck 11 = .ok (.aload_n 0, 1) := by decide +kernel
theorem dX9_bottleneck_12 : decode cX9_bottleneck 12 = .ok (.iload_n 3, 1) := by decide +kernel
theorem dX9_bottleneck_13 : decode cX9_bottleneck 13 = .ok (.invokevirtual 397, 3) := by decide +kernel
theorem dX9_bottleneck_16 : decode cX9_bottleneck 16 = .ok (.istore 4, 2) := by decide +kernel
theorem dX9_bottleneck_18 : decode cX9_bottleneck 18 = .ok (.aload_n 0, 1) := by decide +kernel
theorem dX9_bottleneck_19 : decode cX9_bottleneck 19 = .ok (.iload_n 3, 1) := by decide +kernel
theorem dX9_bottleneck_20 : decode cX9_bottleneck 20 = .ok (.invokevirtual 400, 3) := by decide +kernel
theorem dX9_bottleneck_23 : decode cX9_bottleneck 23 = .ok (.istore 5, 2) := by decide +kernel
theorem dX9_bottleneck_25 : decode cX9_bottleneck 25 = .ok (.iload 5, 2) := by decide +kernel
theorem dX9_bottleneck_27 : decode cX9_bottleneck 27 = .ok (.ifCond .ne 8, 3) := by decide +kernel
theorem dX9_bottleneck_30 : decode cX9_bottleneck 30 = .ok (.ldc 143, 2) := by decide +kernel
theorem dX9_bottleneck_32 : decode cX9_bottleneck 32 = .ok (.goto 10, 3) := by decide +kernel
theorem dX9_bottleneck_42 : decode cX9_bottleneck 42 = .ok (.istore 6, 2) := by decide +kernel
theorem dX9_bottleneck_44 : decode cX9_bottleneck 44 = .ok (.iload 4, 2) := by decide +kernel
theorem dX9_bottleneck_46 : decode cX9_bottleneck 46 = .ok (.ifCond .le 14, 3) := by decide +kernel
theorem dX9_bottleneck_60 : decode cX9_bottleneck 60 = .ok (.iinc 3 1, 3) := by decide +kernel
theorem dX9_bottleneck_63 : decode cX9_bottleneck 63 = .ok (.goto (-57), 3) := by decide +kernel
theorem dX9_bottleneck_66 : decode cX9_bottleneck 66 = .ok (.iload_n 1, 1) := by decide +kernel
theorem dX9_bottleneck_67 : decode cX9_bottleneck 67 = .ok (.iconst (-1), 1) := by decide +kernel
theorem dX9_bottleneck_68 : decode cX9_bottleneck 68 = .ok (.if_icmp .ne 14, 3) := by decide +kernel
theorem dX9_bottleneck_71 : decode cX9_bottleneck 71 = .ok (.new 148, 3) := by decide +kernel
theorem dX9_bottleneck_74 : decode cX9_bottleneck 74 = .ok (.dup, 1) := by decide +kernel
theorem dX9_bottleneck_75 : decode cX9_bottleneck 75 = .ok (.ldc_w 406, 3) := by decide +kernel
theorem dX9_bottleneck_78 : decode cX9_bottleneck 78 = .ok (.invokespecial 152, 3) := by decide +kernel
theorem dX9_bottleneck_81 : decode cX9_bottleneck 81 = .ok (.athrow, 1) := by decide +kernel
theorem dX9_findOperator_0 : decode cX9_findOperator 0 = .ok (.iload_n 1, 1) := by decide +kernel
theorem dX9_findOperator_1 : decode cX9_findOperator 1 = .ok (.ifCond .lt 21, 3) := by decide +kernel
theorem dX9_findOperator_4 : decode cX9_findOperator 4 = .ok (.iload_n 1, 1) := by decide +kernel
theorem dX9_findOperator_5 : decode cX9_findOperator 5 = .ok (.aload_n 0, 1) := by decide +kernel
theorem dX9_findOperator_6 : decode cX9_findOperator 6 = .ok (.getfield 41, 3) := by decide +kernel
theorem dX9_findOperator_9 : decode cX9_findOperator 9 = .ok (.arraylength, 1) := by decide +kernel
theorem dX9_findOperator_10 : decode cX9_findOperator 10 = .ok (.if_icmp .ge 12, 3) := by decide +kernel
theorem dX9_findOperator_13 : decode cX9_findOperator 13 = .ok (.aload_n 0, 1) := by decide +kernel
theorem dX9_findOperator_14 : decode cX9_findOperator 14 = .ok (.getfield 41, 3) := by decide +kernel
theorem dX9_findOperator_17 : decode cX9_findOperator 17 = .ok (.iload_n 1, 1) := by decide +kernel
theorem dX9_findOperator_18 : decode cX9_findOperator 18 = .ok (.aaload, 1) := by decide +kernel
theorem dX9_findOperator_19 : decode cX9_findOperator 19 = .ok (.goto 4, 3) := by decide +kernel
theorem dX9_findOperator_22 : decode cX9_findOperator 22 = .ok (.aconst_null, 1) := by decide +kernel
theorem dX9_findOperator_23 : decode cX9_findOperator 23 = .ok (.astore_n 2, 1) := by decide +kernel
theorem dX9_findOperator_24 : decode cX9_findOperator 24 = .ok (.aload_n 2, 1) := by decide +kernel
theorem dX9_findOperator_25 : decode cX9_findOperator 25 = .ok (.ifnonnull 14, 3) := by decide +kernel
theorem dX9_findOperator_28 : decode cX9_findOperator 28 = .ok (.new 517, 3) := by decide +kernel
theorem dX9_findOperator_31 : decode cX9_findOperator 31 = .ok (.dup, 1) := by decide +kernel
theorem dX9_findOperator_32 : decode cX9_findOperator 32 = .ok (.ldc_w 538, 3) := by decide +kernel
theorem dX9_findOperator_35 : decode cX9_findOperator 35 = .ok (.invokespecial 521, 3) := by decide +kernel
theorem dX9_findOperator_38 : decode cX9_findOperator 38 = .ok (.athrow, 1) := by decide +kernel
theorem dX9_findOperator_39 : decode cX9_findOperator 39 = .ok (.aload_n 2, 1) := by decide +kernel
theorem dX9_findOperator_40 : decode cX9_findOperator 40 = .ok (.areturn, 1) := by decide +kernel
theorem dX9_countMinutes_0 : decode cX9_countMinutes 0 = .ok (.iconst 0, 1) := by decide +kernel
theorem dX9_countMinutes_1 : decode cX9_countMinutes 1 = .ok (.istore_n 2, 1) := by decide +kernel
theorem dX9_countMinutes_2 : decode cX9_countMinutes 2 = .ok (.aload_n 0, 1) := by decide +kernel
theorem dX9_countMinutes_3 : decode cX9_countMinutes 3 = .ok (.getfield 29, 3) := by decide +kernel
theorem dX9_countMinutes_6 : decode cX9_countMinutes 6 = .ok (.astore_n 3, 1) := by decide +kernel
theorem dX9_countMinutes_7 : decode cX9_countMinutes 7 = .ok (.aload_n 3, 1) := by decide +kernel
theorem dX9_countMinutes_8 : decode cX9_countMinutes 8 = .ok (.arraylength, 1) := by decide +kernel
theorem dX9_countMinutes_9 : decode cX9_countMinutes 9 = .ok (.istore 4, 2) := by decide +kernel
theorem dX9_countMinutes_11 : decode cX9_countMinutes 11 = .ok (.iconst 0, 1) := by decide +kernel
theorem dX9_countMinutes_12 : decode cX9_countMinutes 12 = .ok (.istore 5, 2) := by decide +kernel
theorem dX9_countMinutes_14 : decode cX9_countMinutes 14 = .ok (.iload 5, 2) := by decide +kernel
theorem dX9_countMinutes_16 : decode cX9_countMinutes 16 = .ok (.iload 4, 2) := by decide +kernel
theorem dX9_countMinutes_18 : decode cX9_countMinutes 18 = .ok (.if_icmp .ge 29, 3) := by decide +kernel
theorem dX9_countMinutes_21 : decode cX9_countMinutes 21 = .ok (.aload_n 3, 1) := by decide +kernel
theorem dX9_countMinutes_22 : decode cX9_countMinutes 22 = .ok (.iload 5, 2) := by decide +kernel
theorem dX9_countMinutes_24 : decode cX9_countMinutes 24 = .ok (.aaload, 1) := by decide +kernel
theorem dX9_countMinutes_25 : decode cX9_countMinutes 25 = .ok (.astore 6, 2) := by decide +kernel
theorem dX9_countMinutes_27 : decode cX9_countMinutes 27 = .ok (.aload 6, 2) := by decide +kernel
theorem dX9_countMinutes_29 : decode cX9_countMinutes 29 = .ok (.ifnull 12, 3) := by decide +kernel
theorem dX9_countMinutes_41 : decode cX9_countMinutes 41 = .ok (.iinc 5 1, 3) := by decide +kernel
theorem dX9_countMinutes_44 : decode cX9_countMinutes 44 = .ok (.goto (-30), 3) := by decide +kernel
theorem dX9_countMinutes_47 : decode cX9_countMinutes 47 = .ok (.iload_n 2, 1) := by decide +kernel
theorem dX9_countMinutes_48 : decode cX9_countMinutes 48 = .ok (.ireturn, 1) := by decide +kernel
set_option maxRecDepth 20000 in
theorem ggX9_countHands_X4_hasSkill : GoodIn wsX9_countHands wsX4_hasSkill := goodIn_r _ [7, 8, 23, 24, 25, 26] (by decide +kernel) (by decide +kernel)
set_option maxRecDepth 20000 in
theorem gX9_countHands_X4_hasSkill : GoodIn wsX9_countHands (wsV RX9 339 RX4 yX4_hasSkill wsX4_hasSkill) := goodIn_app (goodIn_of _ (by decide +kernel)) ggX9_countHands_X4_hasSkill
theorem dX9_countHands_0 : decode cX9_countHands 0 = .ok (.iconst 0, 1) := by decide +kernel
theorem dX9_countHands_1 : decode cX9_countHands 1 = .ok (.istore_n 2, 1) := by decide +kernel
theorem dX9_countHands_2 : decode cX9_countHands 2 = .ok (.aload_n 0, 1) := by decide +kernel
theorem dX9_countHands_3 : decode cX9_countHands 3 = .ok (.getfield 41, 3) := by decide +kernel
theorem dX9_countHands_6 : decode cX9_countHands 6 = .ok (.astore_n 3, 1) := by decide +kernel
theorem dX9_countHands_7 : decode cX9_countHands 7 = .ok (.aload_n 3, 1) := by decide +kernel
theorem dX9_countHands_8 : decode cX9_countHands 8 = .ok (.arraylength, 1) := by decide +kernel
theorem dX9_countHands_9 : decode cX9_countHands 9 = .ok (.istore 4, 2) := by decide +kernel
theorem dX9_countHands_11 : decode cX9_countHands 11 = .ok (.iconst 0, 1) := by decide +kernel
theorem dX9_countHands_12 : decode cX9_countHands 12 = .ok (.istore 5, 2) := by decide +kernel
theorem dX9_countHands_14 : decode cX9_countHands 14 = .ok (.iload 5, 2) := by decide +kernel
theorem dX9_countHands_16 : decode cX9_countHands 16 = .ok (.iload 4, 2) := by decide +kernel
theorem dX9_countHands_18 : decode cX9_countHands 18 = .ok (.if_icmp .ge 40, 3) := by decide +kernel
theorem dX9_countHands_21 : decode cX9_countHands 21 = .ok (.aload_n 3, 1) := by decide +kernel
theorem dX9_countHands_22 : decode cX9_countHands 22 = .ok (.iload 5, 2) := by decide +kernel
theorem dX9_countHands_24 : decode cX9_countHands 24 = .ok (.aaload, 1) := by decide +kernel
theorem dX9_countHands_25 : decode cX9_countHands 25 = .ok (.astore 6, 2) := by decide +kernel
theorem dX9_countHands_27 : decode cX9_countHands 27 = .ok (.aload 6, 2) := by decide +kernel
theorem dX9_countHands_29 : decode cX9_countHands 29 = .ok (.ifnull 23, 3) := by decide +kernel
theorem dX9_countHands_32 : decode cX9_countHands 32 = .ok (.aload 6, 2) := by decide +kernel
theorem dX9_countHands_34 : decode cX9_countHands 34 = .ok (.getfield 345, 3) := by decide +kernel
theorem dX9_countHands_37 : decode cX9_countHands 37 = .ok (.ifCond .ne 15, 3) := by decide +kernel
theorem dX9_countHands_40 : decode cX9_countHands 40 = .ok (.aload 6, 2) := by decide +kernel
theorem dX9_countHands_42 : decode cX9_countHands 42 = .ok (.iload_n 1, 1) := by decide +kernel
theorem dX9_countHands_43 : decode cX9_countHands 43 = .ok (.invokevirtual 339, 3) := by decide +kernel
theorem dX9_countHands_46 : decode cX9_countHands 46 = .ok (.ifCond .eq 6, 3) := by decide +kernel
theorem dX9_countHands_52 : decode cX9_countHands 52 = .ok (.iinc 5 1, 3) := by decide +kernel
theorem dX9_countHands_55 : decode cX9_countHands 55 = .ok (.goto (-41), 3) := by decide +kernel
theorem dX9_countHands_58 : decode cX9_countHands 58 = .ok (.iload_n 2, 1) := by decide +kernel
theorem dX9_countHands_59 : decode cX9_countHands 59 = .ok (.ireturn, 1) := by decide +kernel
theorem sk0 (k : Int32) : ((0 : Int32).toUInt32 >>> (k.toUInt32 &&& Int32.toUInt32 31)).toInt32 &&& 1 = 0 := by
  have h : (0 : Int32).toUInt32 >>> (k.toUInt32 &&& Int32.toUInt32 31) = 0 := by
    apply UInt32.toBitVec_inj.mp
    rw [UInt32.toBitVec_shiftRight]
    exact BitVec.zero_ushiftRight
  rw [h]; rfl
theorem sk64 (k : Int32) : ((0 : Int64).toUInt64 >>> (k.toInt64.toUInt64 &&& Int64.toUInt64 63)).toInt64 &&& 1 = 0 := by
  have h : (0 : Int64).toUInt64 >>> (k.toInt64.toUInt64 &&& Int64.toUInt64 63) = 0 := by
    apply UInt64.toBitVec_inj.mp
    rw [UInt64.toBitVec_shiftRight]
    exact BitVec.zero_ushiftRight
  rw [h]; rfl
def opa (o0 o1 o2 o3 o4 o5 o6 o7 : Nat) (j : Nat) : Nat := [o0, o1, o2, o3, o4, o5, o6, o7].getD j 0
def fop (o0 o1 o2 o3 o4 o5 o6 o7 : Nat) : Nat → Option Nat := (va_up (va_up (va_up (va_up (va_up (va_up (va_up (va_up (fun _ => none) (0 : Int32).toNatClampNeg (some o0)) (1 : Int32).toNatClampNeg (some o1)) (2 : Int32).toNatClampNeg (some o2)) (3 : Int32).toNatClampNeg (some o3)) (4 : Int32).toNatClampNeg (some o4)) (5 : Int32).toNatClampNeg (some o5)) (6 : Int32).toNatClampNeg (some o6)) (7 : Int32).toNatClampNeg (some o7))
theorem rg7 {n : Int32} (h1 : ¬ n < 0) (h2 : ¬ 8 ≤ n) : rg n 0 7 = true := by
  refine rg_t h1 ?_
  rw [Int32.le_iff_toInt_le] at h2 ⊢
  have e8 : (8 : Int32).toInt = 8 := by decide
  have e7 : (7 : Int32).toInt = 7 := by decide
  omega
theorem rg7f {n : Int32} (h2 : 8 ≤ n) : rg n 0 7 = false := by
  refine rg_b ?_
  rw [Int32.le_iff_toInt_le] at h2 ⊢
  have e8 : (8 : Int32).toInt = 8 := by decide
  have e7 : (7 : Int32).toInt = 7 := by decide
  omega
def cvB (to wanted other best : Int32) : Int32 := if (if 0 ≤ lenS to other - wanted then lenS to other - wanted else 0 - (lenS to other - wanted)) < (if 0 ≤ lenS to best - wanted then lenS to best - wanted else 0 - (lenS to best - wanted)) then other else best
-- ===== the calls of the class on a fresh object, second half =====
set_option maxHeartbeats 4000000 in
set_option maxRecDepth 100000 in
/-- hasSkill(k) of a fresh operator -/
theorem c_hasSkill (l : Launch) (D : va_G) (tC tE sz : Nat) (h0 : Nat) (k : Int32) : Met l yX4_hasSkill wsX4_hasSkill ({ frames := 0, cells := 0, slots := 0, locals := 0 }) (Pg D tC tE sz [(h0, .inr (8, [.int 0, .int 0, .int 0, .int 0]))] [] [.ref h0, .int k]) (Qgi (S := Unit) D (fun u => [(h0, .inr (8, [.int 0, .int 0, .int 0, .int 0]))]) (fun u => []) (fun r _ => r = 0) (va_A [(h0, .inr (8, [.int 0, .int 0, .int 0, .int 0]))] sz)) 0 0 (va_A [(h0, .inr (8, [.int 0, .int 0, .int 0, .int 0]))] sz) := by
  refine og_m (cc := cX4_hasSkill) (maxL := 2) (ret := (some .boolean)) (Qc := Qgi (S := Unit) D (fun u => [(h0, .inr (8, [.int 0, .int 0, .int 0, .int 0]))]) (fun u => []) (fun r _ => r = 0)) (by decide) rfl (Nat.le_of_ble_eq_true rfl) ?_
  intro p e s m below meth c A hx hb hr hml hts hown hlocks hin hP hD hK hG hA hS ls hl
  have hl : lv_has ls 2 [(0, .ref h0), (1, .int k)] := hl
  refine lv_aload_n hx hb dX4_hasSkill_0 rfl (lv_at hl 0 rfl) ?_
  refine va_get (D := D) (ci := 8) (v := .int 0) (C := RX4) (T := TX4) (N := 4) hx hb hts (fun w h => List.mem_cons_of_mem _ (List.mem_append_right _ h)) hown hK hP 0 rfl rfl 0 (by decide) (hts (.fieldLink RX4 7 "Lastroom$Operator" "skills" "I") (List.mem_of_getElem? (i := 1) rfl)) (fun _ h9 => h9) rfl dX4_hasSkill_1 ?_
  refine lv_iload_n hx hb dX4_hasSkill_4 rfl (lv_at hl 1 rfl) ?_
  refine lv_iushr hx hb dX4_hasSkill_5 rfl ?_
  refine lv_iconst (v := 1) hx hb dX4_hasSkill_6 (by decide) ?_
  refine lv_iand hx hb dX4_hasSkill_7 ?_
  refine lv_topi (fun y hy => ?_)
  rw [sk0] at hy
  subst hy
  refine lv_iconst (v := 1) hx hb dX4_hasSkill_8 (by decide) ?_
  refine lv_icmp_ne (tgt := 16) hx hb dX4_hasSkill_9 (by decide) (fun c_1 => ?_) (fun c_1 => absurd c_1 (by decide))
  refine lv_iconst (v := 0) hx hb dX4_hasSkill_16 (by decide) ?_
  have hP9 := hP.sub (ws' := [(h0, .inr (8, [.int 0, .int 0, .int 0, .int 0]))]) [0] rfl
  have hD9 := hD.sub (ws' := [(h0, .inr (8, [.int 0, .int 0, .int 0, .int 0]))]) [0] (by decide) rfl
  have hK9 := hK.sub (tys' := []) [] rfl
  exact end_z hx hb hr hlocks (by decide) hP9 hD9 hK9 hS () rfl rfl rfl (Nat.le_of_ble_eq_true rfl) (Nat.le_of_ble_eq_true rfl) dX4_hasSkill_17
set_option maxHeartbeats 4000000 in
set_option maxRecDepth 100000 in
/-- findOperator(n): the operator of that number -/
theorem c_findOperator (l : Launch) (hlt : l.stackTraces = false) (D : va_G) (tC tE sz : Nat) (x q0 q1 q2 q3 q4 q5 q6 : Nat) (o0 o1 o2 o3 o4 o5 o6 o7 : Nat) (k5 : ClassId) (n : Int32) : vx_Met l yX9_findOperator wsX9_findOperator ({ frames := 6, cells := 1, slots := 6, locals := 82 }) (Pg D tC tE sz [(x, .inr (13, [.ref q0, .ref q1, .ref q2, .ref q3, .ref q4, .ref q5, .ref q6, .int 0, .int 0, .int 0, .int 0, .int 0, .int 0, .int 0])), (q5, .inl (k5, 8, .inr (.inr (.inr (.inr (fop o0 o1 o2 o3 o4 o5 o6 o7))))))] [(k5, .object "Lastroom$Operator")] [.ref x, .int n]) (Qgr (S := Nat) D (fun u => []) (fun u => []) (opa o0 o1 o2 o3 o4 o5 o6 o7) (fun u => u < 8 ∧ n = nI u ∧ rg n 0 7 = true) (va_A [(x, .inr (13, [.ref q0, .ref q1, .ref q2, .ref q3, .ref q4, .ref q5, .ref q6, .int 0, .int 0, .int 0, .int 0, .int 0, .int 0, .int 0])), (q5, .inl (k5, 8, .inr (.inr (.inr (.inr (fop o0 o1 o2 o3 o4 o5 o6 o7))))))] sz)) (XX (fun E => E = gx_ioo ∧ rg n 0 7 = false) (va_A [(x, .inr (13, [.ref q0, .ref q1, .ref q2, .ref q3, .ref q4, .ref q5, .ref q6, .int 0, .int 0, .int 0, .int 0, .int 0, .int 0, .int 0])), (q5, .inl (k5, 8, .inr (.inr (.inr (.inr (fop o0 o1 o2 o3 o4 o5 o6 o7))))))] sz)) 1 6 (va_A [(x, .inr (13, [.ref q0, .ref q1, .ref q2, .ref q3, .ref q4, .ref q5, .ref q6, .int 0, .int 0, .int 0, .int 0, .int 0, .int 0, .int 0])), (q5, .inl (k5, 8, .inr (.inr (.inr (.inr (fop o0 o1 o2 o3 o4 o5 o6 o7))))))] sz) := by
  refine og_x (cc := cX9_findOperator) (maxL := 3) (ret := (some (.object "Lastroom$Operator"))) (Qc := Qgr (S := Nat) D (fun u => []) (fun u => []) (opa o0 o1 o2 o3 o4 o5 o6 o7) (fun u => u < 8 ∧ n = nI u ∧ rg n 0 7 = true)) (XC := XX (fun E => E = gx_ioo ∧ rg n 0 7 = false)) (by decide) rfl (Nat.le_of_ble_eq_true rfl) ?_
  intro p e s m below meth c A hx hb hr hml hts hown hlocks hin htab hP hD hK hG hA hS ls hl
  have hl : lv_has ls 3 [(0, .ref x), (1, .int n)] := hl
  refine lv_iload_n hx hb dX9_findOperator_0 rfl (lv_at hl 1 rfl) ?_
  refine lv_if_lt (tgt := 22) hx hb dX9_findOperator_1 (by decide) (fun c_1 => ?_) (fun c_1 => ?_)
  · refine lv_null hx hb dX9_findOperator_22 ?_
    refine lv_astore_nN (lv' := [(2, .null), (0, .ref x), (1, .int n)]) hx hb dX9_findOperator_23 rfl hl (by decide) rfl (fun ls hl => ?_)
    refine lv_aload_nN hx hb dX9_findOperator_24 rfl (lv_at hl 0 rfl) ?_
    refine lv_ifnonnullN hx hb dX9_findOperator_25 ?_
    exact th_w (i := 10) gx_thr_ioo hx hb hlt hown (hts (.classLink RX9 517 "java/lang/IndexOutOfBoundsException") (List.mem_of_getElem? (i := 1) rfl)) (hts (.initialized "java/lang/IndexOutOfBoundsException") (List.mem_of_getElem? (i := 2) rfl)) (fun w h => hts w (List.mem_cons_of_mem _ (List.mem_append_right _ h))) rfl hG hS (hl.1.trans hml.symm) htab hlocks dX9_findOperator_28 dX9_findOperator_31 dX9_findOperator_32 dX9_findOperator_35 dX9_findOperator_38 ⟨rfl, rg_a c_1⟩ (Nat.le_of_ble_eq_true rfl) (Nat.le_of_ble_eq_true rfl) (Nat.le_of_ble_eq_true rfl) (Nat.le_of_ble_eq_true rfl) (Nat.le_of_ble_eq_true rfl) (Nat.le_of_ble_eq_true rfl)
  · refine lv_iload_n hx hb dX9_findOperator_4 rfl (lv_at hl 1 rfl) ?_
    refine lv_aload_n hx hb dX9_findOperator_5 rfl (lv_at hl 0 rfl) ?_
    refine va_get (D := D) (ci := 13) (v := .ref q5) (C := RX9) (T := TX9) (N := 14) hx hb hts (fun w h => List.mem_cons_of_mem _ (List.mem_append_left _ (List.mem_append_right _ h))) hown hK hP 0 rfl rfl 5 (by decide) (hts (.fieldLink RX9 41 "Lastroom" "operators" "[LLastroom$Operator;") (List.mem_of_getElem? (i := 3) rfl)) (fun _ h9 => h9) rfl dX9_findOperator_6 ?_
    refine va_alen hx hb hK hP 1 0 rfl rfl (v := 8) rfl dX9_findOperator_9 ?_
    refine lv_icmp_ge (tgt := 22) hx hb dX9_findOperator_10 (by decide) (fun c_2 => ?_) (fun c_2 => ?_)
    · refine lv_null hx hb dX9_findOperator_22 ?_
      refine lv_astore_nN (lv' := [(2, .null), (0, .ref x), (1, .int n)]) hx hb dX9_findOperator_23 rfl hl (by decide) rfl (fun ls hl => ?_)
      refine lv_aload_nN hx hb dX9_findOperator_24 rfl (lv_at hl 0 rfl) ?_
      refine lv_ifnonnullN hx hb dX9_findOperator_25 ?_
      exact th_w (i := 10) gx_thr_ioo hx hb hlt hown (hts (.classLink RX9 517 "java/lang/IndexOutOfBoundsException") (List.mem_of_getElem? (i := 1) rfl)) (hts (.initialized "java/lang/IndexOutOfBoundsException") (List.mem_of_getElem? (i := 2) rfl)) (fun w h => hts w (List.mem_cons_of_mem _ (List.mem_append_right _ h))) rfl hG hS (hl.1.trans hml.symm) htab hlocks dX9_findOperator_28 dX9_findOperator_31 dX9_findOperator_32 dX9_findOperator_35 dX9_findOperator_38 ⟨rfl, rg7f c_2⟩ (Nat.le_of_ble_eq_true rfl) (Nat.le_of_ble_eq_true rfl) (Nat.le_of_ble_eq_true rfl) (Nat.le_of_ble_eq_true rfl) (Nat.le_of_ble_eq_true rfl) (Nat.le_of_ble_eq_true rfl)
    · refine lv_aload_n hx hb dX9_findOperator_13 rfl (lv_at hl 0 rfl) ?_
      refine va_get (D := D) (ci := 13) (v := .ref q5) (C := RX9) (T := TX9) (N := 14) hx hb hts (fun w h => List.mem_cons_of_mem _ (List.mem_append_left _ (List.mem_append_right _ h))) hown hK hP 0 rfl rfl 5 (by decide) (hts (.fieldLink RX9 41 "Lastroom" "operators" "[LLastroom$Operator;") (List.mem_of_getElem? (i := 3) rfl)) (fun _ h9 => h9) rfl dX9_findOperator_14 ?_
      refine lv_iload_n hx hb dX9_findOperator_17 rfl (lv_at hl 1 rfl) ?_
      have h_3 := in_ge (n := n) (k := 8) (N := 8) (by decide) c_1 c_2
      have hrg : rg n 0 7 = true := rg7 c_1 c_2
      obtain ⟨j_4, h_5, e_6⟩ := vp_in_of h_3 (by decide)
      refine va_aldq hx hb hK hP 1 0 rfl rfl h_3 dX9_findOperator_18 ?_
      rcases (show j_4 = 0 ∨ j_4 = 1 ∨ j_4 = 2 ∨ j_4 = 3 ∨ j_4 = 4 ∨ j_4 = 5 ∨ j_4 = 6 ∨ j_4 = 7 by omega) with rfl | rfl | rfl | rfl | rfl | rfl | rfl | rfl
      · subst e_6
        refine W.eq (g2 := F0 m 19 ls [.ref o0]) rfl ?_
        refine lv_goto (tgt := 23) hx hb dX9_findOperator_19 (by decide) ?_
        refine lv_astore_n (lv' := [(2, .ref o0), (0, .ref x), (1, .int (nI 0))]) hx hb dX9_findOperator_23 rfl hl (by decide) rfl (fun ls hl => ?_)
        refine lv_aload_n hx hb dX9_findOperator_24 rfl (lv_at hl 0 rfl) ?_
        refine lv_ifnonnull (tgt := 39) hx hb dX9_findOperator_25 (by decide) ?_
        refine lv_aload_n hx hb dX9_findOperator_39 rfl (lv_at hl 0 rfl) ?_
        have hP9 := hP.sub (ws' := []) [] rfl
        have hD9 := hD.sub (ws' := []) [] (by decide) rfl
        have hK9 := hK.sub (tys' := []) [] rfl
        exact vx_ret (end_r hx hb hr (Or.inl ⟨_, rfl⟩) hlocks hP9 hD9 hK9 hS 0 rfl rfl rfl ⟨by decide, rfl, hrg⟩ (Nat.le_of_ble_eq_true rfl) (Nat.le_of_ble_eq_true rfl) dX9_findOperator_40)
      · subst e_6
        refine W.eq (g2 := F0 m 19 ls [.ref o1]) rfl ?_
        refine lv_goto (tgt := 23) hx hb dX9_findOperator_19 (by decide) ?_
        refine lv_astore_n (lv' := [(2, .ref o1), (0, .ref x), (1, .int (nI 1))]) hx hb dX9_findOperator_23 rfl hl (by decide) rfl (fun ls hl => ?_)
        refine lv_aload_n hx hb dX9_findOperator_24 rfl (lv_at hl 0 rfl) ?_
        refine lv_ifnonnull (tgt := 39) hx hb dX9_findOperator_25 (by decide) ?_
        refine lv_aload_n hx hb dX9_findOperator_39 rfl (lv_at hl 0 rfl) ?_
        have hP9 := hP.sub (ws' := []) [] rfl
        have hD9 := hD.sub (ws' := []) [] (by decide) rfl
        have hK9 := hK.sub (tys' := []) [] rfl
        exact vx_ret (end_r hx hb hr (Or.inl ⟨_, rfl⟩) hlocks hP9 hD9 hK9 hS 1 rfl rfl rfl ⟨by decide, rfl, hrg⟩ (Nat.le_of_ble_eq_true rfl) (Nat.le_of_ble_eq_true rfl) dX9_findOperator_40)
      · subst e_6
        refine W.eq (g2 := F0 m 19 ls [.ref o2]) rfl ?_
        refine lv_goto (tgt := 23) hx hb dX9_findOperator_19 (by decide) ?_
        refine lv_astore_n (lv' := [(2, .ref o2), (0, .ref x), (1, .int (nI 2))]) hx hb dX9_findOperator_23 rfl hl (by decide) rfl (fun ls hl => ?_)
        refine lv_aload_n hx hb dX9_findOperator_24 rfl (lv_at hl 0 rfl) ?_
        refine lv_ifnonnull (tgt := 39) hx hb dX9_findOperator_25 (by decide) ?_
        refine lv_aload_n hx hb dX9_findOperator_39 rfl (lv_at hl 0 rfl) ?_
        have hP9 := hP.sub (ws' := []) [] rfl
        have hD9 := hD.sub (ws' := []) [] (by decide) rfl
        have hK9 := hK.sub (tys' := []) [] rfl
        exact vx_ret (end_r hx hb hr (Or.inl ⟨_, rfl⟩) hlocks hP9 hD9 hK9 hS 2 rfl rfl rfl ⟨by decide, rfl, hrg⟩ (Nat.le_of_ble_eq_true rfl) (Nat.le_of_ble_eq_true rfl) dX9_findOperator_40)
      · subst e_6
        refine W.eq (g2 := F0 m 19 ls [.ref o3]) rfl ?_
        refine lv_goto (tgt := 23) hx hb dX9_findOperator_19 (by decide) ?_
        refine lv_astore_n (lv' := [(2, .ref o3), (0, .ref x), (1, .int (nI 3))]) hx hb dX9_findOperator_23 rfl hl (by decide) rfl (fun ls hl => ?_)
        refine lv_aload_n hx hb dX9_findOperator_24 rfl (lv_at hl 0 rfl) ?_
        refine lv_ifnonnull (tgt := 39) hx hb dX9_findOperator_25 (by decide) ?_
        refine lv_aload_n hx hb dX9_findOperator_39 rfl (lv_at hl 0 rfl) ?_
        have hP9 := hP.sub (ws' := []) [] rfl
        have hD9 := hD.sub (ws' := []) [] (by decide) rfl
        have hK9 := hK.sub (tys' := []) [] rfl
        exact vx_ret (end_r hx hb hr (Or.inl ⟨_, rfl⟩) hlocks hP9 hD9 hK9 hS 3 rfl rfl rfl ⟨by decide, rfl, hrg⟩ (Nat.le_of_ble_eq_true rfl) (Nat.le_of_ble_eq_true rfl) dX9_findOperator_40)
      · subst e_6
        refine W.eq (g2 := F0 m 19 ls [.ref o4]) rfl ?_
        refine lv_goto (tgt := 23) hx hb dX9_findOperator_19 (by decide) ?_
        refine lv_astore_n (lv' := [(2, .ref o4), (0, .ref x), (1, .int (nI 4))]) hx hb dX9_findOperator_23 rfl hl (by decide) rfl (fun ls hl => ?_)
        refine lv_aload_n hx hb dX9_findOperator_24 rfl (lv_at hl 0 rfl) ?_
        refine lv_ifnonnull (tgt := 39) hx hb dX9_findOperator_25 (by decide) ?_
        refine lv_aload_n hx hb dX9_findOperator_39 rfl (lv_at hl 0 rfl) ?_
        have hP9 := hP.sub (ws' := []) [] rfl
        have hD9 := hD.sub (ws' := []) [] (by decide) rfl
        have hK9 := hK.sub (tys' := []) [] rfl
        exact vx_ret (end_r hx hb hr (Or.inl ⟨_, rfl⟩) hlocks hP9 hD9 hK9 hS 4 rfl rfl rfl ⟨by decide, rfl, hrg⟩ (Nat.le_of_ble_eq_true rfl) (Nat.le_of_ble_eq_true rfl) dX9_findOperator_40)
      · subst e_6
        refine W.eq (g2 := F0 m 19 ls [.ref o5]) rfl ?_
        refine lv_goto (tgt := 23) hx hb dX9_findOperator_19 (by decide) ?_
        refine lv_astore_n (lv' := [(2, .ref o5), (0, .ref x), (1, .int (nI 5))]) hx hb dX9_findOperator_23 rfl hl (by decide) rfl (fun ls hl => ?_)
        refine lv_aload_n hx hb dX9_findOperator_24 rfl (lv_at hl 0 rfl) ?_
        refine lv_ifnonnull (tgt := 39) hx hb dX9_findOperator_25 (by decide) ?_
        refine lv_aload_n hx hb dX9_findOperator_39 rfl (lv_at hl 0 rfl) ?_
        have hP9 := hP.sub (ws' := []) [] rfl
        have hD9 := hD.sub (ws' := []) [] (by decide) rfl
        have hK9 := hK.sub (tys' := []) [] rfl
        exact vx_ret (end_r hx hb hr (Or.inl ⟨_, rfl⟩) hlocks hP9 hD9 hK9 hS 5 rfl rfl rfl ⟨by decide, rfl, hrg⟩ (Nat.le_of_ble_eq_true rfl) (Nat.le_of_ble_eq_true rfl) dX9_findOperator_40)
      · subst e_6
        refine W.eq (g2 := F0 m 19 ls [.ref o6]) rfl ?_
        refine lv_goto (tgt := 23) hx hb dX9_findOperator_19 (by decide) ?_
        refine lv_astore_n (lv' := [(2, .ref o6), (0, .ref x), (1, .int (nI 6))]) hx hb dX9_findOperator_23 rfl hl (by decide) rfl (fun ls hl => ?_)
        refine lv_aload_n hx hb dX9_findOperator_24 rfl (lv_at hl 0 rfl) ?_
        refine lv_ifnonnull (tgt := 39) hx hb dX9_findOperator_25 (by decide) ?_
        refine lv_aload_n hx hb dX9_findOperator_39 rfl (lv_at hl 0 rfl) ?_
        have hP9 := hP.sub (ws' := []) [] rfl
        have hD9 := hD.sub (ws' := []) [] (by decide) rfl
        have hK9 := hK.sub (tys' := []) [] rfl
        exact vx_ret (end_r hx hb hr (Or.inl ⟨_, rfl⟩) hlocks hP9 hD9 hK9 hS 6 rfl rfl rfl ⟨by decide, rfl, hrg⟩ (Nat.le_of_ble_eq_true rfl) (Nat.le_of_ble_eq_true rfl) dX9_findOperator_40)
      · subst e_6
        refine W.eq (g2 := F0 m 19 ls [.ref o7]) rfl ?_
        refine lv_goto (tgt := 23) hx hb dX9_findOperator_19 (by decide) ?_
        refine lv_astore_n (lv' := [(2, .ref o7), (0, .ref x), (1, .int (nI 7))]) hx hb dX9_findOperator_23 rfl hl (by decide) rfl (fun ls hl => ?_)
        refine lv_aload_n hx hb dX9_findOperator_24 rfl (lv_at hl 0 rfl) ?_
        refine lv_ifnonnull (tgt := 39) hx hb dX9_findOperator_25 (by decide) ?_
        refine lv_aload_n hx hb dX9_findOperator_39 rfl (lv_at hl 0 rfl) ?_
        have hP9 := hP.sub (ws' := []) [] rfl
        have hD9 := hD.sub (ws' := []) [] (by decide) rfl
        have hK9 := hK.sub (tys' := []) [] rfl
        exact vx_ret (end_r hx hb hr (Or.inl ⟨_, rfl⟩) hlocks hP9 hD9 hK9 hS 7 rfl rfl rfl ⟨by decide, rfl, hrg⟩ (Nat.le_of_ble_eq_true rfl) (Nat.le_of_ble_eq_true rfl) dX9_findOperator_40)
set_option maxHeartbeats 4000000 in
set_option maxRecDepth 100000 in
/-- cutBy on a fresh object -/
theorem c_cutBy (l : Launch) (hlt : l.stackTraces = false) (D : va_G) (tC tE sz : Nat) (x q0 q1 q2 q3 q4 q5 q6 : Nat) (o0 o1 o2 o3 o4 o5 o6 o7 : Nat) (k5 : ClassId) (a1 : Int32) : vx_Met l yX9_cutBy wsX9_cutBy ({ frames := 7, cells := 1, slots := 6, locals := 104 }) (Pg D tC tE sz [(x, .inr (13, [.ref q0, .ref q1, .ref q2, .ref q3, .ref q4, .ref q5, .ref q6, .int 0, .int 0, .int 0, .int 0, .int 0, .int 0, .int 0])), (q5, .inl (k5, 8, .inr (.inr (.inr (.inr (fop o0 o1 o2 o3 o4 o5 o6 o7)))))), (o0, .inr (8, [.int 0, .int 0, .int 0, .int 0])), (o1, .inr (8, [.int 0, .int 0, .int 0, .int 0])), (o2, .inr (8, [.int 0, .int 0, .int 0, .int 0])), (o3, .inr (8, [.int 0, .int 0, .int 0, .int 0])), (o4, .inr (8, [.int 0, .int 0, .int 0, .int 0])), (o5, .inr (8, [.int 0, .int 0, .int 0, .int 0])), (o6, .inr (8, [.int 0, .int 0, .int 0, .int 0])), (o7, .inr (8, [.int 0, .int 0, .int 0, .int 0]))] [(k5, .object "Lastroom$Operator")] [.ref x, .int a1]) (Qgi (S := Unit) D (fun u => []) (fun u => []) (fun r _ => rg a1 0 7 = true ∧ r = 0) (va_A [(x, .inr (13, [.ref q0, .ref q1, .ref q2, .ref q3, .ref q4, .ref q5, .ref q6, .int 0, .int 0, .int 0, .int 0, .int 0, .int 0, .int 0])), (q5, .inl (k5, 8, .inr (.inr (.inr (.inr (fop o0 o1 o2 o3 o4 o5 o6 o7)))))), (o0, .inr (8, [.int 0, .int 0, .int 0, .int 0])), (o1, .inr (8, [.int 0, .int 0, .int 0, .int 0])), (o2, .inr (8, [.int 0, .int 0, .int 0, .int 0])), (o3, .inr (8, [.int 0, .int 0, .int 0, .int 0])), (o4, .inr (8, [.int 0, .int 0, .int 0, .int 0])), (o5, .inr (8, [.int 0, .int 0, .int 0, .int 0])), (o6, .inr (8, [.int 0, .int 0, .int 0, .int 0])), (o7, .inr (8, [.int 0, .int 0, .int 0, .int 0]))] sz)) (XX (fun E => E = gx_ioo ∧ rg a1 0 7 = false) (va_A [(x, .inr (13, [.ref q0, .ref q1, .ref q2, .ref q3, .ref q4, .ref q5, .ref q6, .int 0, .int 0, .int 0, .int 0, .int 0, .int 0, .int 0])), (q5, .inl (k5, 8, .inr (.inr (.inr (.inr (fop o0 o1 o2 o3 o4 o5 o6 o7)))))), (o0, .inr (8, [.int 0, .int 0, .int 0, .int 0])), (o1, .inr (8, [.int 0, .int 0, .int 0, .int 0])), (o2, .inr (8, [.int 0, .int 0, .int 0, .int 0])), (o3, .inr (8, [.int 0, .int 0, .int 0, .int 0])), (o4, .inr (8, [.int 0, .int 0, .int 0, .int 0])), (o5, .inr (8, [.int 0, .int 0, .int 0, .int 0])), (o6, .inr (8, [.int 0, .int 0, .int 0, .int 0])), (o7, .inr (8, [.int 0, .int 0, .int 0, .int 0]))] sz)) 1 6 (va_A [(x, .inr (13, [.ref q0, .ref q1, .ref q2, .ref q3, .ref q4, .ref q5, .ref q6, .int 0, .int 0, .int 0, .int 0, .int 0, .int 0, .int 0])), (q5, .inl (k5, 8, .inr (.inr (.inr (.inr (fop o0 o1 o2 o3 o4 o5 o6 o7)))))), (o0, .inr (8, [.int 0, .int 0, .int 0, .int 0])), (o1, .inr (8, [.int 0, .int 0, .int 0, .int 0])), (o2, .inr (8, [.int 0, .int 0, .int 0, .int 0])), (o3, .inr (8, [.int 0, .int 0, .int 0, .int 0])), (o4, .inr (8, [.int 0, .int 0, .int 0, .int 0])), (o5, .inr (8, [.int 0, .int 0, .int 0, .int 0])), (o6, .inr (8, [.int 0, .int 0, .int 0, .int 0])), (o7, .inr (8, [.int 0, .int 0, .int 0, .int 0]))] sz) := by
  refine og_x (cc := cX9_cutBy) (maxL := 2) (ret := (some .int)) (Qc := Qgi (S := Unit) D (fun u => []) (fun u => []) (fun r _ => rg a1 0 7 = true ∧ r = 0)) (XC := XX (fun E => E = gx_ioo ∧ rg a1 0 7 = false)) (by decide) rfl (Nat.le_of_ble_eq_true rfl) ?_
  intro p e s m below meth c A hx hb hr hml hts hown hlocks hin htab hP hD hK hG hA hS ls hl
  have hl : lv_has ls 2 [(0, .ref x), (1, .int a1)] := hl
  refine lv_aload_n hx hb dX9_cutBy_0 rfl (lv_at hl 0 rfl) ?_
  refine lv_iload_n hx hb dX9_cutBy_1 rfl (lv_at hl 1 rfl) ?_
  have hFc := va_free (wc := [(x, .inr (13, [.ref q0, .ref q1, .ref q2, .ref q3, .ref q4, .ref q5, .ref q6, .int 0, .int 0, .int 0, .int 0, .int 0, .int 0, .int 0])), (q5, .inl (k5, 8, .inr (.inr (.inr (.inr (fop o0 o1 o2 o3 o4 o5 o6 o7))))))]) hD hS hA [0, 1] rfl
  refine vx_callr (vx_runV (As := [.int a1]) (rest := []) ⟨hx, hb, hml, hown, hts⟩ (c_findOperator l hlt D tC tE s.heap.size x q0 q1 q2 q3 q4 q5 q6 o0 o1 o2 o3 o4 o5 o6 o7 k5 a1) (cwV 1 hts gX9_cutBy_X9_findOperator rfl rfl rfl (by decide +kernel) ⟨(Nat.le_of_ble_eq_true rfl), (Nat.le_of_ble_eq_true rfl)⟩) ⟨pg_blind, (va_recv hK hP (ci := 13) (q0 := 0) rfl rfl), (pg_pre hP hD hK hG hS hFc [0, 1] rfl (by decide) [0] rfl _)⟩ rfl rfl hl.1 rfl (lv_room (Nat.le_of_ble_eq_true rfl)) dX9_cutBy_2 ⟨(Nat.le_of_ble_eq_true rfl), (Nat.le_of_ble_eq_true rfl)⟩) hS (fun q _ h => hFc q h) hFc (fun q _ h => hFc q h) (fun E ce q9 u t H1 locs1 ht hvm hw hB hz1 hk1 hS hce hcv hcl => ?_) (fun u_2 r_1 t H locs ht hvm hw hB hz1 hk1 hS => ?_)
  · obtain ⟨hE, hf⟩ := hB
    subst hE
    exact vx_widen (k := 1) (n := 6) (Nat.le_of_ble_eq_true rfl) (Nat.le_of_ble_eq_true rfl) (vx_out (fun x hx => (htab x hx).elim) hlocks hce hcv hcl (xx_out hS ⟨rfl, hf⟩) hS.2.2 (Nat.le_of_ble_eq_true rfl) (Nat.le_of_ble_eq_true rfl))
  · obtain ⟨h_3, h_4, h_5⟩ := hw
    obtain ⟨hra, hB⟩ := hB
    have hra := hra.symm
    subst hra
    obtain ⟨hP, hD, hK⟩ := jn (wr := [(o0, .inr (8, [.int 0, .int 0, .int 0, .int 0])), (o1, .inr (8, [.int 0, .int 0, .int 0, .int 0])), (o2, .inr (8, [.int 0, .int 0, .int 0, .int 0])), (o3, .inr (8, [.int 0, .int 0, .int 0, .int 0])), (o4, .inr (8, [.int 0, .int 0, .int 0, .int 0])), (o5, .inr (8, [.int 0, .int 0, .int 0, .int 0])), (o6, .inr (8, [.int 0, .int 0, .int 0, .int 0])), (o7, .inr (8, [.int 0, .int 0, .int 0, .int 0]))]) (w1 := []) (t1 := []) (tr := [(k5, .object "Lastroom$Operator")]) hP hD hK [0, 1] [2, 3, 4, 5, 6, 7, 8, 9] rfl rfl (by decide) (by decide) [0] rfl hk1 hFc hB rfl rfl ht hvm
    have hP : va_P D vwCl [(o0, .inr (8, [.int 0, .int 0, .int 0, .int 0])), (o1, .inr (8, [.int 0, .int 0, .int 0, .int 0])), (o2, .inr (8, [.int 0, .int 0, .int 0, .int 0])), (o3, .inr (8, [.int 0, .int 0, .int 0, .int 0])), (o4, .inr (8, [.int 0, .int 0, .int 0, .int 0])), (o5, .inr (8, [.int 0, .int 0, .int 0, .int 0])), (o6, .inr (8, [.int 0, .int 0, .int 0, .int 0])), (o7, .inr (8, [.int 0, .int 0, .int 0, .int 0]))] H := hP
    have hD : va_D A [(o0, .inr (8, [.int 0, .int 0, .int 0, .int 0])), (o1, .inr (8, [.int 0, .int 0, .int 0, .int 0])), (o2, .inr (8, [.int 0, .int 0, .int 0, .int 0])), (o3, .inr (8, [.int 0, .int 0, .int 0, .int 0])), (o4, .inr (8, [.int 0, .int 0, .int 0, .int 0])), (o5, .inr (8, [.int 0, .int 0, .int 0, .int 0])), (o6, .inr (8, [.int 0, .int 0, .int 0, .int 0])), (o7, .inr (8, [.int 0, .int 0, .int 0, .int 0]))] := hD
    have hK : va_K D vwCl [(k5, .object "Lastroom$Operator")] s := hK
    refine W.widen (k := 1) (n := 6) (Nat.le_of_ble_eq_true rfl) (Nat.le_of_ble_eq_true rfl) ?_
    rcases (show u_2 = 0 ∨ u_2 = 1 ∨ u_2 = 2 ∨ u_2 = 3 ∨ u_2 = 4 ∨ u_2 = 5 ∨ u_2 = 6 ∨ u_2 = 7 by omega) with rfl | rfl | rfl | rfl | rfl | rfl | rfl | rfl
    · refine W.eq (g2 := F0 m 5 ls [.ref o0]) rfl ?_
      refine va_get (D := D) (ci := 8) (v := .int 0) (C := RX4) (T := TX4) (N := 4) hx hb hts (fun w h => List.mem_cons_of_mem _ (List.mem_append_left _ (List.mem_append_left _ (List.mem_append_right _ h)))) hown hK hP 0 rfl rfl 3 (by decide) (hts (.fieldLink RX9 328 "Lastroom$Operator" "pieceCount" "I") (List.mem_of_getElem? (i := 1) rfl)) (fun _ h9 => h9) rfl dX9_cutBy_5 ?_
      have hP9 := hP.sub (ws' := []) [] rfl
      have hD9 := hD.sub (ws' := []) [] (by decide) rfl
      have hK9 := hK.sub (tys' := []) [] rfl
      exact vx_ret (end_i hx hb hr hlocks hP9 hD9 hK9 hS () rfl rfl ⟨h_5, rfl⟩ (Nat.le_of_ble_eq_true rfl) (Nat.le_of_ble_eq_true rfl) dX9_cutBy_8)
    · refine W.eq (g2 := F0 m 5 ls [.ref o1]) rfl ?_
      refine va_get (D := D) (ci := 8) (v := .int 0) (C := RX4) (T := TX4) (N := 4) hx hb hts (fun w h => List.mem_cons_of_mem _ (List.mem_append_left _ (List.mem_append_left _ (List.mem_append_right _ h)))) hown hK hP 1 rfl rfl 3 (by decide) (hts (.fieldLink RX9 328 "Lastroom$Operator" "pieceCount" "I") (List.mem_of_getElem? (i := 1) rfl)) (fun _ h9 => h9) rfl dX9_cutBy_5 ?_
      have hP9 := hP.sub (ws' := []) [] rfl
      have hD9 := hD.sub (ws' := []) [] (by decide) rfl
      have hK9 := hK.sub (tys' := []) [] rfl
      exact vx_ret (end_i hx hb hr hlocks hP9 hD9 hK9 hS () rfl rfl ⟨h_5, rfl⟩ (Nat.le_of_ble_eq_true rfl) (Nat.le_of_ble_eq_true rfl) dX9_cutBy_8)
    · refine W.eq (g2 := F0 m 5 ls [.ref o2]) rfl ?_
      refine va_get (D := D) (ci := 8) (v := .int 0) (C := RX4) (T := TX4) (N := 4) hx hb hts (fun w h => List.mem_cons_of_mem _ (List.mem_append_left _ (List.mem_append_left _ (List.mem_append_right _ h)))) hown hK hP 2 rfl rfl 3 (by decide) (hts (.fieldLink RX9 328 "Lastroom$Operator" "pieceCount" "I") (List.mem_of_getElem? (i := 1) rfl)) (fun _ h9 => h9) rfl dX9_cutBy_5 ?_
      have hP9 := hP.sub (ws' := []) [] rfl
      have hD9 := hD.sub (ws' := []) [] (by decide) rfl
      have hK9 := hK.sub (tys' := []) [] rfl
      exact vx_ret (end_i hx hb hr hlocks hP9 hD9 hK9 hS () rfl rfl ⟨h_5, rfl⟩ (Nat.le_of_ble_eq_true rfl) (Nat.le_of_ble_eq_true rfl) dX9_cutBy_8)
    · refine W.eq (g2 := F0 m 5 ls [.ref o3]) rfl ?_
      refine va_get (D := D) (ci := 8) (v := .int 0) (C := RX4) (T := TX4) (N := 4) hx hb hts (fun w h => List.mem_cons_of_mem _ (List.mem_append_left _ (List.mem_append_left _ (List.mem_append_right _ h)))) hown hK hP 3 rfl rfl 3 (by decide) (hts (.fieldLink RX9 328 "Lastroom$Operator" "pieceCount" "I") (List.mem_of_getElem? (i := 1) rfl)) (fun _ h9 => h9) rfl dX9_cutBy_5 ?_
      have hP9 := hP.sub (ws' := []) [] rfl
      have hD9 := hD.sub (ws' := []) [] (by decide) rfl
      have hK9 := hK.sub (tys' := []) [] rfl
      exact vx_ret (end_i hx hb hr hlocks hP9 hD9 hK9 hS () rfl rfl ⟨h_5, rfl⟩ (Nat.le_of_ble_eq_true rfl) (Nat.le_of_ble_eq_true rfl) dX9_cutBy_8)
    · refine W.eq (g2 := F0 m 5 ls [.ref o4]) rfl ?_
      refine va_get (D := D) (ci := 8) (v := .int 0) (C := RX4) (T := TX4) (N := 4) hx hb hts (fun w h => List.mem_cons_of_mem _ (List.mem_append_left _ (List.mem_append_left _ (List.mem_append_right _ h)))) hown hK hP 4 rfl rfl 3 (by decide) (hts (.fieldLink RX9 328 "Lastroom$Operator" "pieceCount" "I") (List.mem_of_getElem? (i := 1) rfl)) (fun _ h9 => h9) rfl dX9_cutBy_5 ?_
      have hP9 := hP.sub (ws' := []) [] rfl
      have hD9 := hD.sub (ws' := []) [] (by decide) rfl
      have hK9 := hK.sub (tys' := []) [] rfl
      exact vx_ret (end_i hx hb hr hlocks hP9 hD9 hK9 hS () rfl rfl ⟨h_5, rfl⟩ (Nat.le_of_ble_eq_true rfl) (Nat.le_of_ble_eq_true rfl) dX9_cutBy_8)
    · refine W.eq (g2 := F0 m 5 ls [.ref o5]) rfl ?_
      refine va_get (D := D) (ci := 8) (v := .int 0) (C := RX4) (T := TX4) (N := 4) hx hb hts (fun w h => List.mem_cons_of_mem _ (List.mem_append_left _ (List.mem_append_left _ (List.mem_append_right _ h)))) hown hK hP 5 rfl rfl 3 (by decide) (hts (.fieldLink RX9 328 "Lastroom$Operator" "pieceCount" "I") (List.mem_of_getElem? (i := 1) rfl)) (fun _ h9 => h9) rfl dX9_cutBy_5 ?_
      have hP9 := hP.sub (ws' := []) [] rfl
      have hD9 := hD.sub (ws' := []) [] (by decide) rfl
      have hK9 := hK.sub (tys' := []) [] rfl
      exact vx_ret (end_i hx hb hr hlocks hP9 hD9 hK9 hS () rfl rfl ⟨h_5, rfl⟩ (Nat.le_of_ble_eq_true rfl) (Nat.le_of_ble_eq_true rfl) dX9_cutBy_8)
    · refine W.eq (g2 := F0 m 5 ls [.ref o6]) rfl ?_
      refine va_get (D := D) (ci := 8) (v := .int 0) (C := RX4) (T := TX4) (N := 4) hx hb hts (fun w h => List.mem_cons_of_mem _ (List.mem_append_left _ (List.mem_append_left _ (List.mem_append_right _ h)))) hown hK hP 6 rfl rfl 3 (by decide) (hts (.fieldLink RX9 328 "Lastroom$Operator" "pieceCount" "I") (List.mem_of_getElem? (i := 1) rfl)) (fun _ h9 => h9) rfl dX9_cutBy_5 ?_
      have hP9 := hP.sub (ws' := []) [] rfl
      have hD9 := hD.sub (ws' := []) [] (by decide) rfl
      have hK9 := hK.sub (tys' := []) [] rfl
      exact vx_ret (end_i hx hb hr hlocks hP9 hD9 hK9 hS () rfl rfl ⟨h_5, rfl⟩ (Nat.le_of_ble_eq_true rfl) (Nat.le_of_ble_eq_true rfl) dX9_cutBy_8)
    · refine W.eq (g2 := F0 m 5 ls [.ref o7]) rfl ?_
      refine va_get (D := D) (ci := 8) (v := .int 0) (C := RX4) (T := TX4) (N := 4) hx hb hts (fun w h => List.mem_cons_of_mem _ (List.mem_append_left _ (List.mem_append_left _ (List.mem_append_right _ h)))) hown hK hP 7 rfl rfl 3 (by decide) (hts (.fieldLink RX9 328 "Lastroom$Operator" "pieceCount" "I") (List.mem_of_getElem? (i := 1) rfl)) (fun _ h9 => h9) rfl dX9_cutBy_5 ?_
      have hP9 := hP.sub (ws' := []) [] rfl
      have hD9 := hD.sub (ws' := []) [] (by decide) rfl
      have hK9 := hK.sub (tys' := []) [] rfl
      exact vx_ret (end_i hx hb hr hlocks hP9 hD9 hK9 hS () rfl rfl ⟨h_5, rfl⟩ (Nat.le_of_ble_eq_true rfl) (Nat.le_of_ble_eq_true rfl) dX9_cutBy_8)
set_option maxHeartbeats 4000000 in
set_option maxRecDepth 100000 in
/-- setAbsent on a fresh object -/
theorem c_setAbsent (l : Launch) (hlt : l.stackTraces = false) (D : va_G) (tC tE sz : Nat) (x q0 q1 q2 q3 q4 q5 q6 : Nat) (o0 o1 o2 o3 o4 o5 o6 o7 : Nat) (k5 : ClassId) (a1 a2 : Int32) (ha2 : a2 = 0 ∨ a2 = 1) : vx_Met l yX9_setAbsent wsX9_setAbsent ({ frames := 7, cells := 1, slots := 6, locals := 104 }) (Pg D tC tE sz [(x, .inr (13, [.ref q0, .ref q1, .ref q2, .ref q3, .ref q4, .ref q5, .ref q6, .int 0, .int 0, .int 0, .int 0, .int 0, .int 0, .int 0])), (q5, .inl (k5, 8, .inr (.inr (.inr (.inr (fop o0 o1 o2 o3 o4 o5 o6 o7)))))), (o0, .inr (8, [.int 0, .int 0, .int 0, .int 0])), (o1, .inr (8, [.int 0, .int 0, .int 0, .int 0])), (o2, .inr (8, [.int 0, .int 0, .int 0, .int 0])), (o3, .inr (8, [.int 0, .int 0, .int 0, .int 0])), (o4, .inr (8, [.int 0, .int 0, .int 0, .int 0])), (o5, .inr (8, [.int 0, .int 0, .int 0, .int 0])), (o6, .inr (8, [.int 0, .int 0, .int 0, .int 0])), (o7, .inr (8, [.int 0, .int 0, .int 0, .int 0]))] [(k5, .object "Lastroom$Operator")] [.ref x, .int a1, .int a2]) (Qgi (S := Unit) D (fun u => []) (fun u => []) (fun r _ => rg a1 0 7 = true ∧ r = 0) (va_A [(x, .inr (13, [.ref q0, .ref q1, .ref q2, .ref q3, .ref q4, .ref q5, .ref q6, .int 0, .int 0, .int 0, .int 0, .int 0, .int 0, .int 0])), (q5, .inl (k5, 8, .inr (.inr (.inr (.inr (fop o0 o1 o2 o3 o4 o5 o6 o7)))))), (o0, .inr (8, [.int 0, .int 0, .int 0, .int 0])), (o1, .inr (8, [.int 0, .int 0, .int 0, .int 0])), (o2, .inr (8, [.int 0, .int 0, .int 0, .int 0])), (o3, .inr (8, [.int 0, .int 0, .int 0, .int 0])), (o4, .inr (8, [.int 0, .int 0, .int 0, .int 0])), (o5, .inr (8, [.int 0, .int 0, .int 0, .int 0])), (o6, .inr (8, [.int 0, .int 0, .int 0, .int 0])), (o7, .inr (8, [.int 0, .int 0, .int 0, .int 0]))] sz)) (XX (fun E => E = gx_ioo ∧ rg a1 0 7 = false) (va_A [(x, .inr (13, [.ref q0, .ref q1, .ref q2, .ref q3, .ref q4, .ref q5, .ref q6, .int 0, .int 0, .int 0, .int 0, .int 0, .int 0, .int 0])), (q5, .inl (k5, 8, .inr (.inr (.inr (.inr (fop o0 o1 o2 o3 o4 o5 o6 o7)))))), (o0, .inr (8, [.int 0, .int 0, .int 0, .int 0])), (o1, .inr (8, [.int 0, .int 0, .int 0, .int 0])), (o2, .inr (8, [.int 0, .int 0, .int 0, .int 0])), (o3, .inr (8, [.int 0, .int 0, .int 0, .int 0])), (o4, .inr (8, [.int 0, .int 0, .int 0, .int 0])), (o5, .inr (8, [.int 0, .int 0, .int 0, .int 0])), (o6, .inr (8, [.int 0, .int 0, .int 0, .int 0])), (o7, .inr (8, [.int 0, .int 0, .int 0, .int 0]))] sz)) 1 6 (va_A [(x, .inr (13, [.ref q0, .ref q1, .ref q2, .ref q3, .ref q4, .ref q5, .ref q6, .int 0, .int 0, .int 0, .int 0, .int 0, .int 0, .int 0])), (q5, .inl (k5, 8, .inr (.inr (.inr (.inr (fop o0 o1 o2 o3 o4 o5 o6 o7)))))), (o0, .inr (8, [.int 0, .int 0, .int 0, .int 0])), (o1, .inr (8, [.int 0, .int 0, .int 0, .int 0])), (o2, .inr (8, [.int 0, .int 0, .int 0, .int 0])), (o3, .inr (8, [.int 0, .int 0, .int 0, .int 0])), (o4, .inr (8, [.int 0, .int 0, .int 0, .int 0])), (o5, .inr (8, [.int 0, .int 0, .int 0, .int 0])), (o6, .inr (8, [.int 0, .int 0, .int 0, .int 0])), (o7, .inr (8, [.int 0, .int 0, .int 0, .int 0]))] sz) := by
  refine og_x (cc := cX9_setAbsent) (maxL := 5) (ret := (some .boolean)) (Qc := Qgi (S := Unit) D (fun u => []) (fun u => []) (fun r _ => rg a1 0 7 = true ∧ r = 0)) (XC := XX (fun E => E = gx_ioo ∧ rg a1 0 7 = false)) (by decide) rfl (Nat.le_of_ble_eq_true rfl) ?_
  intro p e s m below meth c A hx hb hr hml hts hown hlocks hin htab hP hD hK hG hA hS ls hl
  have hl : lv_has ls 5 [(0, .ref x), (1, .int a1), (2, .int a2)] := hl
  refine lv_aload_n hx hb dX9_setAbsent_0 rfl (lv_at hl 0 rfl) ?_
  refine lv_iload_n hx hb dX9_setAbsent_1 rfl (lv_at hl 1 rfl) ?_
  have hFc := va_free (wc := [(x, .inr (13, [.ref q0, .ref q1, .ref q2, .ref q3, .ref q4, .ref q5, .ref q6, .int 0, .int 0, .int 0, .int 0, .int 0, .int 0, .int 0])), (q5, .inl (k5, 8, .inr (.inr (.inr (.inr (fop o0 o1 o2 o3 o4 o5 o6 o7))))))]) hD hS hA [0, 1] rfl
  refine vx_callr (vx_runV (As := [.int a1]) (rest := []) ⟨hx, hb, hml, hown, hts⟩ (c_findOperator l hlt D tC tE s.heap.size x q0 q1 q2 q3 q4 q5 q6 o0 o1 o2 o3 o4 o5 o6 o7 k5 a1) (cwV 1 hts gX9_setAbsent_X9_findOperator rfl rfl rfl (by decide +kernel) ⟨(Nat.le_of_ble_eq_true rfl), (Nat.le_of_ble_eq_true rfl)⟩) ⟨pg_blind, (va_recv hK hP (ci := 13) (q0 := 0) rfl rfl), (pg_pre hP hD hK hG hS hFc [0, 1] rfl (by decide) [0] rfl _)⟩ rfl rfl hl.1 rfl (lv_room (Nat.le_of_ble_eq_true rfl)) dX9_setAbsent_2 ⟨(Nat.le_of_ble_eq_true rfl), (Nat.le_of_ble_eq_true rfl)⟩) hS (fun q _ h => hFc q h) hFc (fun q _ h => hFc q h) (fun E ce q9 u t H1 locs1 ht hvm hw hB hz1 hk1 hS hce hcv hcl => ?_) (fun u_2 r_1 t H locs ht hvm hw hB hz1 hk1 hS => ?_)
  · obtain ⟨hE, hf⟩ := hB
    subst hE
    exact vx_widen (k := 1) (n := 6) (Nat.le_of_ble_eq_true rfl) (Nat.le_of_ble_eq_true rfl) (vx_out (fun x hx => (htab x hx).elim) hlocks hce hcv hcl (xx_out hS ⟨rfl, hf⟩) hS.2.2 (Nat.le_of_ble_eq_true rfl) (Nat.le_of_ble_eq_true rfl))
  · obtain ⟨h_3, h_4, h_5⟩ := hw
    obtain ⟨hra, hB⟩ := hB
    have hra := hra.symm
    subst hra
    obtain ⟨hP, hD, hK⟩ := jn (wr := [(o0, .inr (8, [.int 0, .int 0, .int 0, .int 0])), (o1, .inr (8, [.int 0, .int 0, .int 0, .int 0])), (o2, .inr (8, [.int 0, .int 0, .int 0, .int 0])), (o3, .inr (8, [.int 0, .int 0, .int 0, .int 0])), (o4, .inr (8, [.int 0, .int 0, .int 0, .int 0])), (o5, .inr (8, [.int 0, .int 0, .int 0, .int 0])), (o6, .inr (8, [.int 0, .int 0, .int 0, .int 0])), (o7, .inr (8, [.int 0, .int 0, .int 0, .int 0]))]) (w1 := []) (t1 := []) (tr := [(k5, .object "Lastroom$Operator")]) hP hD hK [0, 1] [2, 3, 4, 5, 6, 7, 8, 9] rfl rfl (by decide) (by decide) [0] rfl hk1 hFc hB rfl rfl ht hvm
    have hP : va_P D vwCl [(o0, .inr (8, [.int 0, .int 0, .int 0, .int 0])), (o1, .inr (8, [.int 0, .int 0, .int 0, .int 0])), (o2, .inr (8, [.int 0, .int 0, .int 0, .int 0])), (o3, .inr (8, [.int 0, .int 0, .int 0, .int 0])), (o4, .inr (8, [.int 0, .int 0, .int 0, .int 0])), (o5, .inr (8, [.int 0, .int 0, .int 0, .int 0])), (o6, .inr (8, [.int 0, .int 0, .int 0, .int 0])), (o7, .inr (8, [.int 0, .int 0, .int 0, .int 0]))] H := hP
    have hD : va_D A [(o0, .inr (8, [.int 0, .int 0, .int 0, .int 0])), (o1, .inr (8, [.int 0, .int 0, .int 0, .int 0])), (o2, .inr (8, [.int 0, .int 0, .int 0, .int 0])), (o3, .inr (8, [.int 0, .int 0, .int 0, .int 0])), (o4, .inr (8, [.int 0, .int 0, .int 0, .int 0])), (o5, .inr (8, [.int 0, .int 0, .int 0, .int 0])), (o6, .inr (8, [.int 0, .int 0, .int 0, .int 0])), (o7, .inr (8, [.int 0, .int 0, .int 0, .int 0]))] := hD
    have hK : va_K D vwCl [(k5, .object "Lastroom$Operator")] s := hK
    refine W.widen (k := 1) (n := 6) (Nat.le_of_ble_eq_true rfl) (Nat.le_of_ble_eq_true rfl) ?_
    rcases (show u_2 = 0 ∨ u_2 = 1 ∨ u_2 = 2 ∨ u_2 = 3 ∨ u_2 = 4 ∨ u_2 = 5 ∨ u_2 = 6 ∨ u_2 = 7 by omega) with rfl | rfl | rfl | rfl | rfl | rfl | rfl | rfl
    · refine W.eq (g2 := F0 m 5 ls [.ref o0]) rfl ?_
      refine lv_astore_n (lv' := [(3, .ref o0), (0, .ref x), (1, .int a1), (2, .int a2)]) hx hb dX9_setAbsent_5 rfl hl (by decide) rfl (fun ls hl => ?_)
      refine lv_aload_n hx hb dX9_setAbsent_6 rfl (lv_at hl 0 rfl) ?_
      refine va_get (D := D) (ci := 8) (v := .int 0) (C := RX4) (T := TX4) (N := 4) hx hb hts (fun w h => List.mem_cons_of_mem _ (List.mem_append_left _ (List.mem_append_left _ (List.mem_append_right _ h)))) hown hK hP 0 rfl rfl 1 (by decide) (hts (.fieldLink RX9 345 "Lastroom$Operator" "isAbsent" "Z") (List.mem_of_getElem? (i := 1) rfl)) (fun _ h9 => h9) rfl dX9_setAbsent_7 ?_
      refine lv_istore (lv' := [(4, .int 0), (3, .ref o0), (0, .ref x), (1, .int a1), (2, .int a2)]) hx hb dX9_setAbsent_10 hl (by decide) rfl (fun ls hl => ?_)
      refine lv_aload_n hx hb dX9_setAbsent_12 rfl (lv_at hl 1 rfl) ?_
      refine lv_iload_n hx hb dX9_setAbsent_13 rfl (lv_at hl 4 rfl) ?_
      refine va_put (D := D) (ci := 8) (v := .int a2) (ty := .boolean) (C := RX4) (T := TX4) (N := 4) hx hb hts (fun w h => List.mem_cons_of_mem _ (List.mem_append_left _ (List.mem_append_left _ (List.mem_append_right _ h)))) tyX4 tyX4_ok nmX4 hown hK hP hD hS 0 rfl rfl 1 (by decide) (hts (.fieldLink RX9 345 "Lastroom$Operator" "isAbsent" "Z") (List.mem_of_getElem? (i := 1) rfl)) (fun _ h9 => h9) rfl (by decide +kernel) (by rcases ha2 with rfl | rfl <;> rfl) (by rcases ha2 with rfl | rfl <;> rfl) (Nat.le_of_ble_eq_true rfl) dX9_setAbsent_14 (fun H locs hP hD hS => ?_)
      have hP : va_P D vwCl [(o0, .inr (8, [.int 0, .int a2, .int 0, .int 0])), (o1, .inr (8, [.int 0, .int 0, .int 0, .int 0])), (o2, .inr (8, [.int 0, .int 0, .int 0, .int 0])), (o3, .inr (8, [.int 0, .int 0, .int 0, .int 0])), (o4, .inr (8, [.int 0, .int 0, .int 0, .int 0])), (o5, .inr (8, [.int 0, .int 0, .int 0, .int 0])), (o6, .inr (8, [.int 0, .int 0, .int 0, .int 0])), (o7, .inr (8, [.int 0, .int 0, .int 0, .int 0]))] H := hP
      have hD : va_D A [(o0, .inr (8, [.int 0, .int a2, .int 0, .int 0])), (o1, .inr (8, [.int 0, .int 0, .int 0, .int 0])), (o2, .inr (8, [.int 0, .int 0, .int 0, .int 0])), (o3, .inr (8, [.int 0, .int 0, .int 0, .int 0])), (o4, .inr (8, [.int 0, .int 0, .int 0, .int 0])), (o5, .inr (8, [.int 0, .int 0, .int 0, .int 0])), (o6, .inr (8, [.int 0, .int 0, .int 0, .int 0])), (o7, .inr (8, [.int 0, .int 0, .int 0, .int 0]))] := hD
      refine lv_iload hx hb dX9_setAbsent_17 (lv_at hl 0 rfl) ?_
      have hP9 := hP.sub (ws' := []) [] rfl
      have hD9 := hD.sub (ws' := []) [] (by decide) rfl
      have hK9 := hK.sub (tys' := []) [] rfl
      exact vx_ret (end_z hx hb hr hlocks (by decide) hP9 hD9 hK9 hS () rfl rfl ⟨h_5, rfl⟩ (Nat.le_of_ble_eq_true rfl) (Nat.le_of_ble_eq_true rfl) dX9_setAbsent_19)
    · refine W.eq (g2 := F0 m 5 ls [.ref o1]) rfl ?_
      refine lv_astore_n (lv' := [(3, .ref o1), (0, .ref x), (1, .int a1), (2, .int a2)]) hx hb dX9_setAbsent_5 rfl hl (by decide) rfl (fun ls hl => ?_)
      refine lv_aload_n hx hb dX9_setAbsent_6 rfl (lv_at hl 0 rfl) ?_
      refine va_get (D := D) (ci := 8) (v := .int 0) (C := RX4) (T := TX4) (N := 4) hx hb hts (fun w h => List.mem_cons_of_mem _ (List.mem_append_left _ (List.mem_append_left _ (List.mem_append_right _ h)))) hown hK hP 1 rfl rfl 1 (by decide) (hts (.fieldLink RX9 345 "Lastroom$Operator" "isAbsent" "Z") (List.mem_of_getElem? (i := 1) rfl)) (fun _ h9 => h9) rfl dX9_setAbsent_7 ?_
      refine lv_istore (lv' := [(4, .int 0), (3, .ref o1), (0, .ref x), (1, .int a1), (2, .int a2)]) hx hb dX9_setAbsent_10 hl (by decide) rfl (fun ls hl => ?_)
      refine lv_aload_n hx hb dX9_setAbsent_12 rfl (lv_at hl 1 rfl) ?_
      refine lv_iload_n hx hb dX9_setAbsent_13 rfl (lv_at hl 4 rfl) ?_
      refine va_put (D := D) (ci := 8) (v := .int a2) (ty := .boolean) (C := RX4) (T := TX4) (N := 4) hx hb hts (fun w h => List.mem_cons_of_mem _ (List.mem_append_left _ (List.mem_append_left _ (List.mem_append_right _ h)))) tyX4 tyX4_ok nmX4 hown hK hP hD hS 1 rfl rfl 1 (by decide) (hts (.fieldLink RX9 345 "Lastroom$Operator" "isAbsent" "Z") (List.mem_of_getElem? (i := 1) rfl)) (fun _ h9 => h9) rfl (by decide +kernel) (by rcases ha2 with rfl | rfl <;> rfl) (by rcases ha2 with rfl | rfl <;> rfl) (Nat.le_of_ble_eq_true rfl) dX9_setAbsent_14 (fun H locs hP hD hS => ?_)
      have hP : va_P D vwCl [(o0, .inr (8, [.int 0, .int 0, .int 0, .int 0])), (o1, .inr (8, [.int 0, .int a2, .int 0, .int 0])), (o2, .inr (8, [.int 0, .int 0, .int 0, .int 0])), (o3, .inr (8, [.int 0, .int 0, .int 0, .int 0])), (o4, .inr (8, [.int 0, .int 0, .int 0, .int 0])), (o5, .inr (8, [.int 0, .int 0, .int 0, .int 0])), (o6, .inr (8, [.int 0, .int 0, .int 0, .int 0])), (o7, .inr (8, [.int 0, .int 0, .int 0, .int 0]))] H := hP
      have hD : va_D A [(o0, .inr (8, [.int 0, .int 0, .int 0, .int 0])), (o1, .inr (8, [.int 0, .int a2, .int 0, .int 0])), (o2, .inr (8, [.int 0, .int 0, .int 0, .int 0])), (o3, .inr (8, [.int 0, .int 0, .int 0, .int 0])), (o4, .inr (8, [.int 0, .int 0, .int 0, .int 0])), (o5, .inr (8, [.int 0, .int 0, .int 0, .int 0])), (o6, .inr (8, [.int 0, .int 0, .int 0, .int 0])), (o7, .inr (8, [.int 0, .int 0, .int 0, .int 0]))] := hD
      refine lv_iload hx hb dX9_setAbsent_17 (lv_at hl 0 rfl) ?_
      have hP9 := hP.sub (ws' := []) [] rfl
      have hD9 := hD.sub (ws' := []) [] (by decide) rfl
      have hK9 := hK.sub (tys' := []) [] rfl
      exact vx_ret (end_z hx hb hr hlocks (by decide) hP9 hD9 hK9 hS () rfl rfl ⟨h_5, rfl⟩ (Nat.le_of_ble_eq_true rfl) (Nat.le_of_ble_eq_true rfl) dX9_setAbsent_19)
    · refine W.eq (g2 := F0 m 5 ls [.ref o2]) rfl ?_
      refine lv_astore_n (lv' := [(3, .ref o2), (0, .ref x), (1, .int a1), (2, .int a2)]) hx hb dX9_setAbsent_5 rfl hl (by decide) rfl (fun ls hl => ?_)
      refine lv_aload_n hx hb dX9_setAbsent_6 rfl (lv_at hl 0 rfl) ?_
      refine va_get (D := D) (ci := 8) (v := .int 0) (C := RX4) (T := TX4) (N := 4) hx hb hts (fun w h => List.mem_cons_of_mem _ (List.mem_append_left _ (List.mem_append_left _ (List.mem_append_right _ h)))) hown hK hP 2 rfl rfl 1 (by decide) (hts (.fieldLink RX9 345 "Lastroom$Operator" "isAbsent" "Z") (List.mem_of_getElem? (i := 1) rfl)) (fun _ h9 => h9) rfl dX9_setAbsent_7 ?_
      refine lv_istore (lv' := [(4, .int 0), (3, .ref o2), (0, .ref x), (1, .int a1), (2, .int a2)]) hx hb dX9_setAbsent_10 hl (by decide) rfl (fun ls hl => ?_)
      refine lv_aload_n hx hb dX9_setAbsent_12 rfl (lv_at hl 1 rfl) ?_
      refine lv_iload_n hx hb dX9_setAbsent_13 rfl (lv_at hl 4 rfl) ?_
      refine va_put (D := D) (ci := 8) (v := .int a2) (ty := .boolean) (C := RX4) (T := TX4) (N := 4) hx hb hts (fun w h => List.mem_cons_of_mem _ (List.mem_append_left _ (List.mem_append_left _ (List.mem_append_right _ h)))) tyX4 tyX4_ok nmX4 hown hK hP hD hS 2 rfl rfl 1 (by decide) (hts (.fieldLink RX9 345 "Lastroom$Operator" "isAbsent" "Z") (List.mem_of_getElem? (i := 1) rfl)) (fun _ h9 => h9) rfl (by decide +kernel) (by rcases ha2 with rfl | rfl <;> rfl) (by rcases ha2 with rfl | rfl <;> rfl) (Nat.le_of_ble_eq_true rfl) dX9_setAbsent_14 (fun H locs hP hD hS => ?_)
      have hP : va_P D vwCl [(o0, .inr (8, [.int 0, .int 0, .int 0, .int 0])), (o1, .inr (8, [.int 0, .int 0, .int 0, .int 0])), (o2, .inr (8, [.int 0, .int a2, .int 0, .int 0])), (o3, .inr (8, [.int 0, .int 0, .int 0, .int 0])), (o4, .inr (8, [.int 0, .int 0, .int 0, .int 0])), (o5, .inr (8, [.int 0, .int 0, .int 0, .int 0])), (o6, .inr (8, [.int 0, .int 0, .int 0, .int 0])), (o7, .inr (8, [.int 0, .int 0, .int 0, .int 0]))] H := hP
      have hD : va_D A [(o0, .inr (8, [.int 0, .int 0, .int 0, .int 0])), (o1, .inr (8, [.int 0, .int 0, .int 0, .int 0])), (o2, .inr (8, [.int 0, .int a2, .int 0, .int 0])), (o3, .inr (8, [.int 0, .int 0, .int 0, .int 0])), (o4, .inr (8, [.int 0, .int 0, .int 0, .int 0])), (o5, .inr (8, [.int 0, .int 0, .int 0, .int 0])), (o6, .inr (8, [.int 0, .int 0, .int 0, .int 0])), (o7, .inr (8, [.int 0, .int 0, .int 0, .int 0]))] := hD
      refine lv_iload hx hb dX9_setAbsent_17 (lv_at hl 0 rfl) ?_
      have hP9 := hP.sub (ws' := []) [] rfl
      have hD9 := hD.sub (ws' := []) [] (by decide) rfl
      have hK9 := hK.sub (tys' := []) [] rfl
      exact vx_ret (end_z hx hb hr hlocks (by decide) hP9 hD9 hK9 hS () rfl rfl ⟨h_5, rfl⟩ (Nat.le_of_ble_eq_true rfl) (Nat.le_of_ble_eq_true rfl) dX9_setAbsent_19)
    · refine W.eq (g2 := F0 m 5 ls [.ref o3]) rfl ?_
      refine lv_astore_n (lv' := [(3, .ref o3), (0, .ref x), (1, .int a1), (2, .int a2)]) hx hb dX9_setAbsent_5 rfl hl (by decide) rfl (fun ls hl => ?_)
      refine lv_aload_n hx hb dX9_setAbsent_6 rfl (lv_at hl 0 rfl) ?_
      refine va_get (D := D) (ci := 8) (v := .int 0) (C := RX4) (T := TX4) (N := 4) hx hb hts (fun w h => List.mem_cons_of_mem _ (List.mem_append_left _ (List.mem_append_left _ (List.mem_append_right _ h)))) hown hK hP 3 rfl rfl 1 (by decide) (hts (.fieldLink RX9 345 "Lastroom$Operator" "isAbsent" "Z") (List.mem_of_getElem? (i := 1) rfl)) (fun _ h9 => h9) rfl dX9_setAbsent_7 ?_
      refine lv_istore (lv' := [(4, .int 0), (3, .ref o3), (0, .ref x), (1, .int a1), (2, .int a2)]) hx hb dX9_setAbsent_10 hl (by decide) rfl (fun ls hl => ?_)
      refine lv_aload_n hx hb dX9_setAbsent_12 rfl (lv_at hl 1 rfl) ?_
      refine lv_iload_n hx hb dX9_setAbsent_13 rfl (lv_at hl 4 rfl) ?_
      refine va_put (D := D) (ci := 8) (v := .int a2) (ty := .boolean) (C := RX4) (T := TX4) (N := 4) hx hb hts (fun w h => List.mem_cons_of_mem _ (List.mem_append_left _ (List.mem_append_left _ (List.mem_append_right _ h)))) tyX4 tyX4_ok nmX4 hown hK hP hD hS 3 rfl rfl 1 (by decide) (hts (.fieldLink RX9 345 "Lastroom$Operator" "isAbsent" "Z") (List.mem_of_getElem? (i := 1) rfl)) (fun _ h9 => h9) rfl (by decide +kernel) (by rcases ha2 with rfl | rfl <;> rfl) (by rcases ha2 with rfl | rfl <;> rfl) (Nat.le_of_ble_eq_true rfl) dX9_setAbsent_14 (fun H locs hP hD hS => ?_)
      have hP : va_P D vwCl [(o0, .inr (8, [.int 0, .int 0, .int 0, .int 0])), (o1, .inr (8, [.int 0, .int 0, .int 0, .int 0])), (o2, .inr (8, [.int 0, .int 0, .int 0, .int 0])), (o3, .inr (8, [.int 0, .int a2, .int 0, .int 0])), (o4, .inr (8, [.int 0, .int 0, .int 0, .int 0])), (o5, .inr (8, [.int 0, .int 0, .int 0, .int 0])), (o6, .inr (8, [.int 0, .int 0, .int 0, .int 0])), (o7, .inr (8, [.int 0, .int 0, .int 0, .int 0]))] H := hP
      have hD : va_D A [(o0, .inr (8, [.int 0, .int 0, .int 0, .int 0])), (o1, .inr (8, [.int 0, .int 0, .int 0, .int 0])), (o2, .inr (8, [.int 0, .int 0, .int 0, .int 0])), (o3, .inr (8, [.int 0, .int a2, .int 0, .int 0])), (o4, .inr (8, [.int 0, .int 0, .int 0, .int 0])), (o5, .inr (8, [.int 0, .int 0, .int 0, .int 0])), (o6, .inr (8, [.int 0, .int 0, .int 0, .int 0])), (o7, .inr (8, [.int 0, .int 0, .int 0, .int 0]))] := hD
      refine lv_iload hx hb dX9_setAbsent_17 (lv_at hl 0 rfl) ?_
      have hP9 := hP.sub (ws' := []) [] rfl
      have hD9 := hD.sub (ws' := []) [] (by decide) rfl
      have hK9 := hK.sub (tys' := []) [] rfl
      exact vx_ret (end_z hx hb hr hlocks (by decide) hP9 hD9 hK9 hS () rfl rfl ⟨h_5, rfl⟩ (Nat.le_of_ble_eq_true rfl) (Nat.le_of_ble_eq_true rfl) dX9_setAbsent_19)
    · refine W.eq (g2 := F0 m 5 ls [.ref o4]) rfl ?_
      refine lv_astore_n (lv' := [(3, .ref o4), (0, .ref x), (1, .int a1), (2, .int a2)]) hx hb dX9_setAbsent_5 rfl hl (by decide) rfl (fun ls hl => ?_)
      refine lv_aload_n hx hb dX9_setAbsent_6 rfl (lv_at hl 0 rfl) ?_
      refine va_get (D := D) (ci := 8) (v := .int 0) (C := RX4) (T := TX4) (N := 4) hx hb hts (fun w h => List.mem_cons_of_mem _ (List.mem_append_left _ (List.mem_append_left _ (List.mem_append_right _ h)))) hown hK hP 4 rfl rfl 1 (by decide) (hts (.fieldLink RX9 345 "Lastroom$Operator" "isAbsent" "Z") (List.mem_of_getElem? (i := 1) rfl)) (fun _ h9 => h9) rfl dX9_setAbsent_7 ?_
      refine lv_istore (lv' := [(4, .int 0), (3, .ref o4), (0, .ref x), (1, .int a1), (2, .int a2)]) hx hb dX9_setAbsent_10 hl (by decide) rfl (fun ls hl => ?_)
      refine lv_aload_n hx hb dX9_setAbsent_12 rfl (lv_at hl 1 rfl) ?_
      refine lv_iload_n hx hb dX9_setAbsent_13 rfl (lv_at hl 4 rfl) ?_
      refine va_put (D := D) (ci := 8) (v := .int a2) (ty := .boolean) (C := RX4) (T := TX4) (N := 4) hx hb hts (fun w h => List.mem_cons_of_mem _ (List.mem_append_left _ (List.mem_append_left _ (List.mem_append_right _ h)))) tyX4 tyX4_ok nmX4 hown hK hP hD hS 4 rfl rfl 1 (by decide) (hts (.fieldLink RX9 345 "Lastroom$Operator" "isAbsent" "Z") (List.mem_of_getElem? (i := 1) rfl)) (fun _ h9 => h9) rfl (by decide +kernel) (by rcases ha2 with rfl | rfl <;> rfl) (by rcases ha2 with rfl | rfl <;> rfl) (Nat.le_of_ble_eq_true rfl) dX9_setAbsent_14 (fun H locs hP hD hS => ?_)
      have hP : va_P D vwCl [(o0, .inr (8, [.int 0, .int 0, .int 0, .int 0])), (o1, .inr (8, [.int 0, .int 0, .int 0, .int 0])), (o2, .inr (8, [.int 0, .int 0, .int 0, .int 0])), (o3, .inr (8, [.int 0, .int 0, .int 0, .int 0])), (o4, .inr (8, [.int 0, .int a2, .int 0, .int 0])), (o5, .inr (8, [.int 0, .int 0, .int 0, .int 0])), (o6, .inr (8, [.int 0, .int 0, .int 0, .int 0])), (o7, .inr (8, [.int 0, .int 0, .int 0, .int 0]))] H := hP
      have hD : va_D A [(o0, .inr (8, [.int 0, .int 0, .int 0, .int 0])), (o1, .inr (8, [.int 0, .int 0, .int 0, .int 0])), (o2, .inr (8, [.int 0, .int 0, .int 0, .int 0])), (o3, .inr (8, [.int 0, .int 0, .int 0, .int 0])), (o4, .inr (8, [.int 0, .int a2, .int 0, .int 0])), (o5, .inr (8, [.int 0, .int 0, .int 0, .int 0])), (o6, .inr (8, [.int 0, .int 0, .int 0, .int 0])), (o7, .inr (8, [.int 0, .int 0, .int 0, .int 0]))] := hD
      refine lv_iload hx hb dX9_setAbsent_17 (lv_at hl 0 rfl) ?_
      have hP9 := hP.sub (ws' := []) [] rfl
      have hD9 := hD.sub (ws' := []) [] (by decide) rfl
      have hK9 := hK.sub (tys' := []) [] rfl
      exact vx_ret (end_z hx hb hr hlocks (by decide) hP9 hD9 hK9 hS () rfl rfl ⟨h_5, rfl⟩ (Nat.le_of_ble_eq_true rfl) (Nat.le_of_ble_eq_true rfl) dX9_setAbsent_19)
    · refine W.eq (g2 := F0 m 5 ls [.ref o5]) rfl ?_
      refine lv_astore_n (lv' := [(3, .ref o5), (0, .ref x), (1, .int a1), (2, .int a2)]) hx hb dX9_setAbsent_5 rfl hl (by decide) rfl (fun ls hl => ?_)
      refine lv_aload_n hx hb dX9_setAbsent_6 rfl (lv_at hl 0 rfl) ?_
      refine va_get (D := D) (ci := 8) (v := .int 0) (C := RX4) (T := TX4) (N := 4) hx hb hts (fun w h => List.mem_cons_of_mem _ (List.mem_append_left _ (List.mem_append_left _ (List.mem_append_right _ h)))) hown hK hP 5 rfl rfl 1 (by decide) (hts (.fieldLink RX9 345 "Lastroom$Operator" "isAbsent" "Z") (List.mem_of_getElem? (i := 1) rfl)) (fun _ h9 => h9) rfl dX9_setAbsent_7 ?_
      refine lv_istore (lv' := [(4, .int 0), (3, .ref o5), (0, .ref x), (1, .int a1), (2, .int a2)]) hx hb dX9_setAbsent_10 hl (by decide) rfl (fun ls hl => ?_)
      refine lv_aload_n hx hb dX9_setAbsent_12 rfl (lv_at hl 1 rfl) ?_
      refine lv_iload_n hx hb dX9_setAbsent_13 rfl (lv_at hl 4 rfl) ?_
      refine va_put (D := D) (ci := 8) (v := .int a2) (ty := .boolean) (C := RX4) (T := TX4) (N := 4) hx hb hts (fun w h => List.mem_cons_of_mem _ (List.mem_append_left _ (List.mem_append_left _ (List.mem_append_right _ h)))) tyX4 tyX4_ok nmX4 hown hK hP hD hS 5 rfl rfl 1 (by decide) (hts (.fieldLink RX9 345 "Lastroom$Operator" "isAbsent" "Z") (List.mem_of_getElem? (i := 1) rfl)) (fun _ h9 => h9) rfl (by decide +kernel) (by rcases ha2 with rfl | rfl <;> rfl) (by rcases ha2 with rfl | rfl <;> rfl) (Nat.le_of_ble_eq_true rfl) dX9_setAbsent_14 (fun H locs hP hD hS => ?_)
      have hP : va_P D vwCl [(o0, .inr (8, [.int 0, .int 0, .int 0, .int 0])), (o1, .inr (8, [.int 0, .int 0, .int 0, .int 0])), (o2, .inr (8, [.int 0, .int 0, .int 0, .int 0])), (o3, .inr (8, [.int 0, .int 0, .int 0, .int 0])), (o4, .inr (8, [.int 0, .int 0, .int 0, .int 0])), (o5, .inr (8, [.int 0, .int a2, .int 0, .int 0])), (o6, .inr (8, [.int 0, .int 0, .int 0, .int 0])), (o7, .inr (8, [.int 0, .int 0, .int 0, .int 0]))] H := hP
      have hD : va_D A [(o0, .inr (8, [.int 0, .int 0, .int 0, .int 0])), (o1, .inr (8, [.int 0, .int 0, .int 0, .int 0])), (o2, .inr (8, [.int 0, .int 0, .int 0, .int 0])), (o3, .inr (8, [.int 0, .int 0, .int 0, .int 0])), (o4, .inr (8, [.int 0, .int 0, .int 0, .int 0])), (o5, .inr (8, [.int 0, .int a2, .int 0, .int 0])), (o6, .inr (8, [.int 0, .int 0, .int 0, .int 0])), (o7, .inr (8, [.int 0, .int 0, .int 0, .int 0]))] := hD
      refine lv_iload hx hb dX9_setAbsent_17 (lv_at hl 0 rfl) ?_
      have hP9 := hP.sub (ws' := []) [] rfl
      have hD9 := hD.sub (ws' := []) [] (by decide) rfl
      have hK9 := hK.sub (tys' := []) [] rfl
      exact vx_ret (end_z hx hb hr hlocks (by decide) hP9 hD9 hK9 hS () rfl rfl ⟨h_5, rfl⟩ (Nat.le_of_ble_eq_true rfl) (Nat.le_of_ble_eq_true rfl) dX9_setAbsent_19)
    · refine W.eq (g2 := F0 m 5 ls [.ref o6]) rfl ?_
      refine lv_astore_n (lv' := [(3, .ref o6), (0, .ref x), (1, .int a1), (2, .int a2)]) hx hb dX9_setAbsent_5 rfl hl (by decide) rfl (fun ls hl => ?_)
      refine lv_aload_n hx hb dX9_setAbsent_6 rfl (lv_at hl 0 rfl) ?_
      refine va_get (D := D) (ci := 8) (v := .int 0) (C := RX4) (T := TX4) (N := 4) hx hb hts (fun w h => List.mem_cons_of_mem _ (List.mem_append_left _ (List.mem_append_left _ (List.mem_append_right _ h)))) hown hK hP 6 rfl rfl 1 (by decide) (hts (.fieldLink RX9 345 "Lastroom$Operator" "isAbsent" "Z") (List.mem_of_getElem? (i := 1) rfl)) (fun _ h9 => h9) rfl dX9_setAbsent_7 ?_
      refine lv_istore (lv' := [(4, .int 0), (3, .ref o6), (0, .ref x), (1, .int a1), (2, .int a2)]) hx hb dX9_setAbsent_10 hl (by decide) rfl (fun ls hl => ?_)
      refine lv_aload_n hx hb dX9_setAbsent_12 rfl (lv_at hl 1 rfl) ?_
      refine lv_iload_n hx hb dX9_setAbsent_13 rfl (lv_at hl 4 rfl) ?_
      refine va_put (D := D) (ci := 8) (v := .int a2) (ty := .boolean) (C := RX4) (T := TX4) (N := 4) hx hb hts (fun w h => List.mem_cons_of_mem _ (List.mem_append_left _ (List.mem_append_left _ (List.mem_append_right _ h)))) tyX4 tyX4_ok nmX4 hown hK hP hD hS 6 rfl rfl 1 (by decide) (hts (.fieldLink RX9 345 "Lastroom$Operator" "isAbsent" "Z") (List.mem_of_getElem? (i := 1) rfl)) (fun _ h9 => h9) rfl (by decide +kernel) (by rcases ha2 with rfl | rfl <;> rfl) (by rcases ha2 with rfl | rfl <;> rfl) (Nat.le_of_ble_eq_true rfl) dX9_setAbsent_14 (fun H locs hP hD hS => ?_)
      have hP : va_P D vwCl [(o0, .inr (8, [.int 0, .int 0, .int 0, .int 0])), (o1, .inr (8, [.int 0, .int 0, .int 0, .int 0])), (o2, .inr (8, [.int 0, .int 0, .int 0, .int 0])), (o3, .inr (8, [.int 0, .int 0, .int 0, .int 0])), (o4, .inr (8, [.int 0, .int 0, .int 0, .int 0])), (o5, .inr (8, [.int 0, .int 0, .int 0, .int 0])), (o6, .inr (8, [.int 0, .int a2, .int 0, .int 0])), (o7, .inr (8, [.int 0, .int 0, .int 0, .int 0]))] H := hP
      have hD : va_D A [(o0, .inr (8, [.int 0, .int 0, .int 0, .int 0])), (o1, .inr (8, [.int 0, .int 0, .int 0, .int 0])), (o2, .inr (8, [.int 0, .int 0, .int 0, .int 0])), (o3, .inr (8, [.int 0, .int 0, .int 0, .int 0])), (o4, .inr (8, [.int 0, .int 0, .int 0, .int 0])), (o5, .inr (8, [.int 0, .int 0, .int 0, .int 0])), (o6, .inr (8, [.int 0, .int a2, .int 0, .int 0])), (o7, .inr (8, [.int 0, .int 0, .int 0, .int 0]))] := hD
      refine lv_iload hx hb dX9_setAbsent_17 (lv_at hl 0 rfl) ?_
      have hP9 := hP.sub (ws' := []) [] rfl
      have hD9 := hD.sub (ws' := []) [] (by decide) rfl
      have hK9 := hK.sub (tys' := []) [] rfl
      exact vx_ret (end_z hx hb hr hlocks (by decide) hP9 hD9 hK9 hS () rfl rfl ⟨h_5, rfl⟩ (Nat.le_of_ble_eq_true rfl) (Nat.le_of_ble_eq_true rfl) dX9_setAbsent_19)
    · refine W.eq (g2 := F0 m 5 ls [.ref o7]) rfl ?_
      refine lv_astore_n (lv' := [(3, .ref o7), (0, .ref x), (1, .int a1), (2, .int a2)]) hx hb dX9_setAbsent_5 rfl hl (by decide) rfl (fun ls hl => ?_)
      refine lv_aload_n hx hb dX9_setAbsent_6 rfl (lv_at hl 0 rfl) ?_
      refine va_get (D := D) (ci := 8) (v := .int 0) (C := RX4) (T := TX4) (N := 4) hx hb hts (fun w h => List.mem_cons_of_mem _ (List.mem_append_left _ (List.mem_append_left _ (List.mem_append_right _ h)))) hown hK hP 7 rfl rfl 1 (by decide) (hts (.fieldLink RX9 345 "Lastroom$Operator" "isAbsent" "Z") (List.mem_of_getElem? (i := 1) rfl)) (fun _ h9 => h9) rfl dX9_setAbsent_7 ?_
      refine lv_istore (lv' := [(4, .int 0), (3, .ref o7), (0, .ref x), (1, .int a1), (2, .int a2)]) hx hb dX9_setAbsent_10 hl (by decide) rfl (fun ls hl => ?_)
      refine lv_aload_n hx hb dX9_setAbsent_12 rfl (lv_at hl 1 rfl) ?_
      refine lv_iload_n hx hb dX9_setAbsent_13 rfl (lv_at hl 4 rfl) ?_
      refine va_put (D := D) (ci := 8) (v := .int a2) (ty := .boolean) (C := RX4) (T := TX4) (N := 4) hx hb hts (fun w h => List.mem_cons_of_mem _ (List.mem_append_left _ (List.mem_append_left _ (List.mem_append_right _ h)))) tyX4 tyX4_ok nmX4 hown hK hP hD hS 7 rfl rfl 1 (by decide) (hts (.fieldLink RX9 345 "Lastroom$Operator" "isAbsent" "Z") (List.mem_of_getElem? (i := 1) rfl)) (fun _ h9 => h9) rfl (by decide +kernel) (by rcases ha2 with rfl | rfl <;> rfl) (by rcases ha2 with rfl | rfl <;> rfl) (Nat.le_of_ble_eq_true rfl) dX9_setAbsent_14 (fun H locs hP hD hS => ?_)
      have hP : va_P D vwCl [(o0, .inr (8, [.int 0, .int 0, .int 0, .int 0])), (o1, .inr (8, [.int 0, .int 0, .int 0, .int 0])), (o2, .inr (8, [.int 0, .int 0, .int 0, .int 0])), (o3, .inr (8, [.int 0, .int 0, .int 0, .int 0])), (o4, .inr (8, [.int 0, .int 0, .int 0, .int 0])), (o5, .inr (8, [.int 0, .int 0, .int 0, .int 0])), (o6, .inr (8, [.int 0, .int 0, .int 0, .int 0])), (o7, .inr (8, [.int 0, .int a2, .int 0, .int 0]))] H := hP
      have hD : va_D A [(o0, .inr (8, [.int 0, .int 0, .int 0, .int 0])), (o1, .inr (8, [.int 0, .int 0, .int 0, .int 0])), (o2, .inr (8, [.int 0, .int 0, .int 0, .int 0])), (o3, .inr (8, [.int 0, .int 0, .int 0, .int 0])), (o4, .inr (8, [.int 0, .int 0, .int 0, .int 0])), (o5, .inr (8, [.int 0, .int 0, .int 0, .int 0])), (o6, .inr (8, [.int 0, .int 0, .int 0, .int 0])), (o7, .inr (8, [.int 0, .int a2, .int 0, .int 0]))] := hD
      refine lv_iload hx hb dX9_setAbsent_17 (lv_at hl 0 rfl) ?_
      have hP9 := hP.sub (ws' := []) [] rfl
      have hD9 := hD.sub (ws' := []) [] (by decide) rfl
      have hK9 := hK.sub (tys' := []) [] rfl
      exact vx_ret (end_z hx hb hr hlocks (by decide) hP9 hD9 hK9 hS () rfl rfl ⟨h_5, rfl⟩ (Nat.le_of_ble_eq_true rfl) (Nat.le_of_ble_eq_true rfl) dX9_setAbsent_19)
set_option maxHeartbeats 4000000 in
set_option maxRecDepth 100000 in
/-- setSkill on a fresh object -/
theorem c_setSkill (l : Launch) (hlt : l.stackTraces = false) (D : va_G) (tC tE sz : Nat) (x q0 q1 q2 q3 q4 q5 q6 : Nat) (o0 o1 o2 o3 o4 o5 o6 o7 : Nat) (k5 : ClassId) (a1 a2 a3 : Int32) : vx_Met l yX9_setSkill wsX9_setSkill ({ frames := 7, cells := 2, slots := 12, locals := 104 }) (Pg D tC tE sz [(x, .inr (13, [.ref q0, .ref q1, .ref q2, .ref q3, .ref q4, .ref q5, .ref q6, .int 0, .int 0, .int 0, .int 0, .int 0, .int 0, .int 0])), (q5, .inl (k5, 8, .inr (.inr (.inr (.inr (fop o0 o1 o2 o3 o4 o5 o6 o7)))))), (o0, .inr (8, [.int 0, .int 0, .int 0, .int 0])), (o1, .inr (8, [.int 0, .int 0, .int 0, .int 0])), (o2, .inr (8, [.int 0, .int 0, .int 0, .int 0])), (o3, .inr (8, [.int 0, .int 0, .int 0, .int 0])), (o4, .inr (8, [.int 0, .int 0, .int 0, .int 0])), (o5, .inr (8, [.int 0, .int 0, .int 0, .int 0])), (o6, .inr (8, [.int 0, .int 0, .int 0, .int 0])), (o7, .inr (8, [.int 0, .int 0, .int 0, .int 0]))] [(k5, .object "Lastroom$Operator")] [.ref x, .int a1, .int a2, .int a3]) (Qgi (S := Unit) D (fun u => []) (fun u => []) (fun r _ => rg a1 0 7 = true ∧ rg a2 0 3 = true ∧ r = 0) (va_A [(x, .inr (13, [.ref q0, .ref q1, .ref q2, .ref q3, .ref q4, .ref q5, .ref q6, .int 0, .int 0, .int 0, .int 0, .int 0, .int 0, .int 0])), (q5, .inl (k5, 8, .inr (.inr (.inr (.inr (fop o0 o1 o2 o3 o4 o5 o6 o7)))))), (o0, .inr (8, [.int 0, .int 0, .int 0, .int 0])), (o1, .inr (8, [.int 0, .int 0, .int 0, .int 0])), (o2, .inr (8, [.int 0, .int 0, .int 0, .int 0])), (o3, .inr (8, [.int 0, .int 0, .int 0, .int 0])), (o4, .inr (8, [.int 0, .int 0, .int 0, .int 0])), (o5, .inr (8, [.int 0, .int 0, .int 0, .int 0])), (o6, .inr (8, [.int 0, .int 0, .int 0, .int 0])), (o7, .inr (8, [.int 0, .int 0, .int 0, .int 0]))] sz)) (XX (fun E => (E = gx_ioo ∧ rg a1 0 7 = false) ∨ (E = gx_iae ∧ rg a1 0 7 = true ∧ rg a2 0 3 = false)) (va_A [(x, .inr (13, [.ref q0, .ref q1, .ref q2, .ref q3, .ref q4, .ref q5, .ref q6, .int 0, .int 0, .int 0, .int 0, .int 0, .int 0, .int 0])), (q5, .inl (k5, 8, .inr (.inr (.inr (.inr (fop o0 o1 o2 o3 o4 o5 o6 o7)))))), (o0, .inr (8, [.int 0, .int 0, .int 0, .int 0])), (o1, .inr (8, [.int 0, .int 0, .int 0, .int 0])), (o2, .inr (8, [.int 0, .int 0, .int 0, .int 0])), (o3, .inr (8, [.int 0, .int 0, .int 0, .int 0])), (o4, .inr (8, [.int 0, .int 0, .int 0, .int 0])), (o5, .inr (8, [.int 0, .int 0, .int 0, .int 0])), (o6, .inr (8, [.int 0, .int 0, .int 0, .int 0])), (o7, .inr (8, [.int 0, .int 0, .int 0, .int 0]))] sz)) 2 12 (va_A [(x, .inr (13, [.ref q0, .ref q1, .ref q2, .ref q3, .ref q4, .ref q5, .ref q6, .int 0, .int 0, .int 0, .int 0, .int 0, .int 0, .int 0])), (q5, .inl (k5, 8, .inr (.inr (.inr (.inr (fop o0 o1 o2 o3 o4 o5 o6 o7)))))), (o0, .inr (8, [.int 0, .int 0, .int 0, .int 0])), (o1, .inr (8, [.int 0, .int 0, .int 0, .int 0])), (o2, .inr (8, [.int 0, .int 0, .int 0, .int 0])), (o3, .inr (8, [.int 0, .int 0, .int 0, .int 0])), (o4, .inr (8, [.int 0, .int 0, .int 0, .int 0])), (o5, .inr (8, [.int 0, .int 0, .int 0, .int 0])), (o6, .inr (8, [.int 0, .int 0, .int 0, .int 0])), (o7, .inr (8, [.int 0, .int 0, .int 0, .int 0]))] sz) := by
  refine og_x (cc := cX9_setSkill) (maxL := 6) (ret := (some .boolean)) (Qc := Qgi (S := Unit) D (fun u => []) (fun u => []) (fun r _ => rg a1 0 7 = true ∧ rg a2 0 3 = true ∧ r = 0)) (XC := XX (fun E => (E = gx_ioo ∧ rg a1 0 7 = false) ∨ (E = gx_iae ∧ rg a1 0 7 = true ∧ rg a2 0 3 = false))) (by decide) rfl (Nat.le_of_ble_eq_true rfl) ?_
  intro p e s m below meth c A hx hb hr hml hts hown hlocks hin htab hP hD hK hG hA hS ls hl
  have hl : lv_has ls 6 [(0, .ref x), (1, .int a1), (2, .int a2), (3, .int a3)] := hl
  refine lv_aload_n hx hb dX9_setSkill_0 rfl (lv_at hl 0 rfl) ?_
  refine lv_iload_n hx hb dX9_setSkill_1 rfl (lv_at hl 1 rfl) ?_
  have hFc := va_free (wc := [(x, .inr (13, [.ref q0, .ref q1, .ref q2, .ref q3, .ref q4, .ref q5, .ref q6, .int 0, .int 0, .int 0, .int 0, .int 0, .int 0, .int 0])), (q5, .inl (k5, 8, .inr (.inr (.inr (.inr (fop o0 o1 o2 o3 o4 o5 o6 o7))))))]) hD hS hA [0, 1] rfl
  refine vx_callr (vx_runV (As := [.int a1]) (rest := []) ⟨hx, hb, hml, hown, hts⟩ (c_findOperator l hlt D tC tE s.heap.size x q0 q1 q2 q3 q4 q5 q6 o0 o1 o2 o3 o4 o5 o6 o7 k5 a1) (cwV 1 hts gX9_setSkill_X9_findOperator rfl rfl rfl (by decide +kernel) ⟨(Nat.le_of_ble_eq_true rfl), (Nat.le_of_ble_eq_true rfl)⟩) ⟨pg_blind, (va_recv hK hP (ci := 13) (q0 := 0) rfl rfl), (pg_pre hP hD hK hG hS hFc [0, 1] rfl (by decide) [0] rfl _)⟩ rfl rfl hl.1 rfl (lv_room (Nat.le_of_ble_eq_true rfl)) dX9_setSkill_2 ⟨(Nat.le_of_ble_eq_true rfl), (Nat.le_of_ble_eq_true rfl)⟩) hS (fun q _ h => hFc q h) hFc (fun q _ h => hFc q h) (fun E ce q9 u t H1 locs1 ht hvm hw hB hz1 hk1 hS hce hcv hcl => ?_) (fun u_2 r_1 t H locs ht hvm hw hB hz1 hk1 hS => ?_)
  · obtain ⟨hE, hf⟩ := hB
    subst hE
    exact vx_widen (k := 1) (n := 6) (Nat.le_of_ble_eq_true rfl) (Nat.le_of_ble_eq_true rfl) (vx_out (fun x hx => (htab x hx).elim) hlocks hce hcv hcl (xx_out hS (Or.inl ⟨rfl, hf⟩)) hS.2.2 (Nat.le_of_ble_eq_true rfl) (Nat.le_of_ble_eq_true rfl))
  · obtain ⟨h_3, h_4, h_5⟩ := hw
    obtain ⟨hra, hB⟩ := hB
    have hra := hra.symm
    subst hra
    obtain ⟨hP, hD, hK⟩ := jn (wr := [(o0, .inr (8, [.int 0, .int 0, .int 0, .int 0])), (o1, .inr (8, [.int 0, .int 0, .int 0, .int 0])), (o2, .inr (8, [.int 0, .int 0, .int 0, .int 0])), (o3, .inr (8, [.int 0, .int 0, .int 0, .int 0])), (o4, .inr (8, [.int 0, .int 0, .int 0, .int 0])), (o5, .inr (8, [.int 0, .int 0, .int 0, .int 0])), (o6, .inr (8, [.int 0, .int 0, .int 0, .int 0])), (o7, .inr (8, [.int 0, .int 0, .int 0, .int 0]))]) (w1 := []) (t1 := []) (tr := [(k5, .object "Lastroom$Operator")]) hP hD hK [0, 1] [2, 3, 4, 5, 6, 7, 8, 9] rfl rfl (by decide) (by decide) [0] rfl hk1 hFc hB rfl rfl ht hvm
    have hP : va_P D vwCl [(o0, .inr (8, [.int 0, .int 0, .int 0, .int 0])), (o1, .inr (8, [.int 0, .int 0, .int 0, .int 0])), (o2, .inr (8, [.int 0, .int 0, .int 0, .int 0])), (o3, .inr (8, [.int 0, .int 0, .int 0, .int 0])), (o4, .inr (8, [.int 0, .int 0, .int 0, .int 0])), (o5, .inr (8, [.int 0, .int 0, .int 0, .int 0])), (o6, .inr (8, [.int 0, .int 0, .int 0, .int 0])), (o7, .inr (8, [.int 0, .int 0, .int 0, .int 0]))] H := hP
    have hD : va_D A [(o0, .inr (8, [.int 0, .int 0, .int 0, .int 0])), (o1, .inr (8, [.int 0, .int 0, .int 0, .int 0])), (o2, .inr (8, [.int 0, .int 0, .int 0, .int 0])), (o3, .inr (8, [.int 0, .int 0, .int 0, .int 0])), (o4, .inr (8, [.int 0, .int 0, .int 0, .int 0])), (o5, .inr (8, [.int 0, .int 0, .int 0, .int 0])), (o6, .inr (8, [.int 0, .int 0, .int 0, .int 0])), (o7, .inr (8, [.int 0, .int 0, .int 0, .int 0]))] := hD
    have hK : va_K D vwCl [(k5, .object "Lastroom$Operator")] s := hK
    refine W.widen (k := 1) (n := 6) (Nat.le_of_ble_eq_true rfl) (Nat.le_of_ble_eq_true rfl) ?_
    rcases (show u_2 = 0 ∨ u_2 = 1 ∨ u_2 = 2 ∨ u_2 = 3 ∨ u_2 = 4 ∨ u_2 = 5 ∨ u_2 = 6 ∨ u_2 = 7 by omega) with rfl | rfl | rfl | rfl | rfl | rfl | rfl | rfl
    · refine W.eq (g2 := F0 m 5 ls [.ref o0]) rfl ?_
      refine lv_astore (lv' := [(4, .ref o0), (0, .ref x), (1, .int a1), (2, .int a2), (3, .int a3)]) hx hb dX9_setSkill_5 hl (by decide) rfl (fun ls hl => ?_)
      refine lv_iload_n hx hb dX9_setSkill_7 rfl (lv_at hl 3 rfl) ?_
      refine lv_iconst (v := 0) hx hb dX9_setSkill_8 (by decide) ?_
      refine lv_iconst (v := 3) hx hb dX9_setSkill_9 (by decide) ?_
      have hFc := va_free (wc := []) hD hS hA [] rfl
      refine vx_callv (vx_runS (As := [.int a2, .int 0, .int 3]) (rest := []) ⟨hx, hb, hml, hown, hts⟩ (c_demandRange l hlt D tC tE H.size a2 0 3) (va_cwS 3 hts gX9_setSkill_X9_demandRange rfl rfl rfl (by decide +kernel) ⟨(Nat.le_of_ble_eq_true rfl), (Nat.le_of_ble_eq_true rfl)⟩) ⟨pg_blind, (pg_pre hP hD hK hG hS hFc [] rfl (by decide) [] rfl _)⟩ rfl rfl hl.1 rfl (lv_room (Nat.le_of_ble_eq_true rfl)) dX9_setSkill_10 ⟨(Nat.le_of_ble_eq_true rfl), (Nat.le_of_ble_eq_true rfl)⟩) hS (fun q _ h => hFc q h) hFc (fun q _ h => hFc q h) (fun E ce q9 u t H1 locs1 ht hvm hw hB hz1 hk1 hS hce hcv hcl => ?_) (fun u_6 t H locs ht hvm hw hB hz1 hk1 hS => ?_)
      · obtain ⟨hE, hf⟩ := hB
        subst hE
        exact vx_widen (k := 2) (n := 12) (Nat.le_of_ble_eq_true rfl) (Nat.le_of_ble_eq_true rfl) (vx_out (fun x hx => (htab x hx).elim) hlocks hce hcv hcl (xx_out hS (Or.inr ⟨rfl, h_5, hf⟩)) hS.2.2 (Nat.le_of_ble_eq_true rfl) (Nat.le_of_ble_eq_true rfl))
      · have h_7 := hw
        obtain ⟨hP, hD, hK⟩ := jn (wr := [(o0, .inr (8, [.int 0, .int 0, .int 0, .int 0])), (o1, .inr (8, [.int 0, .int 0, .int 0, .int 0])), (o2, .inr (8, [.int 0, .int 0, .int 0, .int 0])), (o3, .inr (8, [.int 0, .int 0, .int 0, .int 0])), (o4, .inr (8, [.int 0, .int 0, .int 0, .int 0])), (o5, .inr (8, [.int 0, .int 0, .int 0, .int 0])), (o6, .inr (8, [.int 0, .int 0, .int 0, .int 0])), (o7, .inr (8, [.int 0, .int 0, .int 0, .int 0]))]) (w1 := []) (t1 := []) (tr := [(k5, .object "Lastroom$Operator")]) hP hD hK [] [0, 1, 2, 3, 4, 5, 6, 7] rfl rfl (by decide) (by decide) [0] rfl hk1 hFc hB rfl rfl ht hvm
        have hP : va_P D vwCl [(o0, .inr (8, [.int 0, .int 0, .int 0, .int 0])), (o1, .inr (8, [.int 0, .int 0, .int 0, .int 0])), (o2, .inr (8, [.int 0, .int 0, .int 0, .int 0])), (o3, .inr (8, [.int 0, .int 0, .int 0, .int 0])), (o4, .inr (8, [.int 0, .int 0, .int 0, .int 0])), (o5, .inr (8, [.int 0, .int 0, .int 0, .int 0])), (o6, .inr (8, [.int 0, .int 0, .int 0, .int 0])), (o7, .inr (8, [.int 0, .int 0, .int 0, .int 0]))] H := hP
        have hD : va_D A [(o0, .inr (8, [.int 0, .int 0, .int 0, .int 0])), (o1, .inr (8, [.int 0, .int 0, .int 0, .int 0])), (o2, .inr (8, [.int 0, .int 0, .int 0, .int 0])), (o3, .inr (8, [.int 0, .int 0, .int 0, .int 0])), (o4, .inr (8, [.int 0, .int 0, .int 0, .int 0])), (o5, .inr (8, [.int 0, .int 0, .int 0, .int 0])), (o6, .inr (8, [.int 0, .int 0, .int 0, .int 0])), (o7, .inr (8, [.int 0, .int 0, .int 0, .int 0]))] := hD
        have hK : va_K D vwCl [(k5, .object "Lastroom$Operator")] s := hK
        refine W.widen (k := 2) (n := 12) (Nat.le_of_ble_eq_true rfl) (Nat.le_of_ble_eq_true rfl) ?_
        refine lv_aload hx hb dX9_setSkill_13 (lv_at hl 0 rfl) ?_
        refine lv_iload_n hx hb dX9_setSkill_15 rfl (lv_at hl 3 rfl) ?_
        have hFc := va_free (wc := [(o0, .inr (8, [.int 0, .int 0, .int 0, .int 0]))]) hD hS hA [0] rfl
        refine va_calli (va_runV (As := [.int a2]) (rest := []) ⟨hx, hb, hml, hown, hts⟩ (c_hasSkill l D tC tE H.size o0 a2) (cwV 1 hts gX9_setSkill_X4_hasSkill rfl rfl rfl (by decide +kernel) ⟨(Nat.le_of_ble_eq_true rfl), (Nat.le_of_ble_eq_true rfl)⟩) ⟨pg_blind, (va_recv hK hP (ci := 8) (q0 := 0) rfl rfl), (pg_pre hP hD hK hG hS hFc [0] rfl (by decide) [] rfl _)⟩ rfl rfl hl.1 rfl (lv_room (Nat.le_of_ble_eq_true rfl)) dX9_setSkill_16 ⟨(Nat.le_of_ble_eq_true rfl), (Nat.le_of_ble_eq_true rfl)⟩) hS (fun q _ h => hFc q h) hFc (fun r_8 u_9 t H locs ht hvm hw hB hz1 hk1 hS => ?_)
        subst hw
        obtain ⟨hP, hD, hK⟩ := jn (wr := [(o1, .inr (8, [.int 0, .int 0, .int 0, .int 0])), (o2, .inr (8, [.int 0, .int 0, .int 0, .int 0])), (o3, .inr (8, [.int 0, .int 0, .int 0, .int 0])), (o4, .inr (8, [.int 0, .int 0, .int 0, .int 0])), (o5, .inr (8, [.int 0, .int 0, .int 0, .int 0])), (o6, .inr (8, [.int 0, .int 0, .int 0, .int 0])), (o7, .inr (8, [.int 0, .int 0, .int 0, .int 0]))]) (w1 := [(o0, .inr (8, [.int 0, .int 0, .int 0, .int 0]))]) (t1 := []) (tr := [(k5, .object "Lastroom$Operator")]) hP hD hK [0] [1, 2, 3, 4, 5, 6, 7] rfl rfl (by decide) (by decide) [0] rfl hk1 hFc hB rfl rfl ht hvm
        have hP : va_P D vwCl [(o1, .inr (8, [.int 0, .int 0, .int 0, .int 0])), (o2, .inr (8, [.int 0, .int 0, .int 0, .int 0])), (o3, .inr (8, [.int 0, .int 0, .int 0, .int 0])), (o4, .inr (8, [.int 0, .int 0, .int 0, .int 0])), (o5, .inr (8, [.int 0, .int 0, .int 0, .int 0])), (o6, .inr (8, [.int 0, .int 0, .int 0, .int 0])), (o7, .inr (8, [.int 0, .int 0, .int 0, .int 0])), (o0, .inr (8, [.int 0, .int 0, .int 0, .int 0]))] H := hP
        have hD : va_D A [(o1, .inr (8, [.int 0, .int 0, .int 0, .int 0])), (o2, .inr (8, [.int 0, .int 0, .int 0, .int 0])), (o3, .inr (8, [.int 0, .int 0, .int 0, .int 0])), (o4, .inr (8, [.int 0, .int 0, .int 0, .int 0])), (o5, .inr (8, [.int 0, .int 0, .int 0, .int 0])), (o6, .inr (8, [.int 0, .int 0, .int 0, .int 0])), (o7, .inr (8, [.int 0, .int 0, .int 0, .int 0])), (o0, .inr (8, [.int 0, .int 0, .int 0, .int 0]))] := hD
        have hK : va_K D vwCl [(k5, .object "Lastroom$Operator")] s := hK
        refine W.widen (k := 2) (n := 12) (Nat.le_of_ble_eq_true rfl) (Nat.le_of_ble_eq_true rfl) ?_
        refine lv_istore (lv' := [(5, .int 0), (4, .ref o0), (0, .ref x), (1, .int a1), (2, .int a2), (3, .int a3)]) hx hb dX9_setSkill_19 hl (by decide) rfl (fun ls hl => ?_)
        refine lv_aload hx hb dX9_setSkill_21 (lv_at hl 1 rfl) ?_
        refine lv_iload_n hx hb dX9_setSkill_23 rfl (lv_at hl 5 rfl) ?_
        refine lv_if_eq (tgt := 39) hx hb dX9_setSkill_24 (by decide) (fun c_10 => ?_) (fun c_10 => ?_)
        · refine lv_aload hx hb dX9_setSkill_39 (lv_at hl 1 rfl) ?_
          refine va_get (D := D) (ci := 8) (v := .int 0) (C := RX4) (T := TX4) (N := 4) hx hb hts (fun w h => List.mem_cons_of_mem _ (List.mem_append_left _ (List.mem_append_left _ (List.mem_append_left _ (List.mem_append_right _ h))))) hown hK hP 7 rfl rfl 0 (by decide) (hts (.fieldLink RX9 342 "Lastroom$Operator" "skills" "I") (List.mem_of_getElem? (i := 1) rfl)) (fun _ h9 => h9) rfl dX9_setSkill_41 ?_
          refine lv_iconst (v := 1) hx hb dX9_setSkill_44 (by decide) ?_
          refine lv_iload_n hx hb dX9_setSkill_45 rfl (lv_at hl 4 rfl) ?_
          refine lv_ishl hx hb dX9_setSkill_46 ?_
          refine lv_iconst (v := (-1)) hx hb dX9_setSkill_47 (by decide) ?_
          refine lv_ixor hx hb dX9_setSkill_48 ?_
          refine lv_iand hx hb dX9_setSkill_49 ?_
          refine va_put (D := D) (ci := 8) (v := .int ((0 : Int32) &&& (((1 : Int32) <<< (a2 &&& 31)) ^^^ ((-1) : Int32)))) (ty := .int) (C := RX4) (T := TX4) (N := 4) hx hb hts (fun w h => List.mem_cons_of_mem _ (List.mem_append_left _ (List.mem_append_left _ (List.mem_append_left _ (List.mem_append_right _ h))))) tyX4 tyX4_ok nmX4 hown hK hP hD hS 7 rfl rfl 0 (by decide) (hts (.fieldLink RX9 342 "Lastroom$Operator" "skills" "I") (List.mem_of_getElem? (i := 1) rfl)) (fun _ h9 => h9) rfl (by decide +kernel) rfl rfl (Nat.le_of_ble_eq_true rfl) dX9_setSkill_50 (fun H locs hP hD hS => ?_)
          have hP : va_P D vwCl [(o1, .inr (8, [.int 0, .int 0, .int 0, .int 0])), (o2, .inr (8, [.int 0, .int 0, .int 0, .int 0])), (o3, .inr (8, [.int 0, .int 0, .int 0, .int 0])), (o4, .inr (8, [.int 0, .int 0, .int 0, .int 0])), (o5, .inr (8, [.int 0, .int 0, .int 0, .int 0])), (o6, .inr (8, [.int 0, .int 0, .int 0, .int 0])), (o7, .inr (8, [.int 0, .int 0, .int 0, .int 0])), (o0, .inr (8, [.int ((0 : Int32) &&& (((1 : Int32) <<< (a2 &&& 31)) ^^^ ((-1) : Int32))), .int 0, .int 0, .int 0]))] H := hP
          have hD : va_D A [(o1, .inr (8, [.int 0, .int 0, .int 0, .int 0])), (o2, .inr (8, [.int 0, .int 0, .int 0, .int 0])), (o3, .inr (8, [.int 0, .int 0, .int 0, .int 0])), (o4, .inr (8, [.int 0, .int 0, .int 0, .int 0])), (o5, .inr (8, [.int 0, .int 0, .int 0, .int 0])), (o6, .inr (8, [.int 0, .int 0, .int 0, .int 0])), (o7, .inr (8, [.int 0, .int 0, .int 0, .int 0])), (o0, .inr (8, [.int ((0 : Int32) &&& (((1 : Int32) <<< (a2 &&& 31)) ^^^ ((-1) : Int32))), .int 0, .int 0, .int 0]))] := hD
          refine lv_iload hx hb dX9_setSkill_53 (lv_at hl 0 rfl) ?_
          have hP9 := hP.sub (ws' := []) [] rfl
          have hD9 := hD.sub (ws' := []) [] (by decide) rfl
          have hK9 := hK.sub (tys' := []) [] rfl
          exact vx_ret (end_z hx hb hr hlocks (by decide) hP9 hD9 hK9 hS () rfl rfl ⟨h_5, h_7, rfl⟩ (Nat.le_of_ble_eq_true rfl) (Nat.le_of_ble_eq_true rfl) dX9_setSkill_55)
        · refine lv_aload hx hb dX9_setSkill_27 (lv_at hl 1 rfl) ?_
          refine va_get (D := D) (ci := 8) (v := .int 0) (C := RX4) (T := TX4) (N := 4) hx hb hts (fun w h => List.mem_cons_of_mem _ (List.mem_append_left _ (List.mem_append_left _ (List.mem_append_left _ (List.mem_append_right _ h))))) hown hK hP 7 rfl rfl 0 (by decide) (hts (.fieldLink RX9 342 "Lastroom$Operator" "skills" "I") (List.mem_of_getElem? (i := 1) rfl)) (fun _ h9 => h9) rfl dX9_setSkill_29 ?_
          refine lv_iconst (v := 1) hx hb dX9_setSkill_32 (by decide) ?_
          refine lv_iload_n hx hb dX9_setSkill_33 rfl (lv_at hl 4 rfl) ?_
          refine lv_ishl hx hb dX9_setSkill_34 ?_
          refine lv_ior hx hb dX9_setSkill_35 ?_
          refine lv_goto (tgt := 50) hx hb dX9_setSkill_36 (by decide) ?_
          refine va_put (D := D) (ci := 8) (v := .int ((0 : Int32) ||| ((1 : Int32) <<< (a2 &&& 31)))) (ty := .int) (C := RX4) (T := TX4) (N := 4) hx hb hts (fun w h => List.mem_cons_of_mem _ (List.mem_append_left _ (List.mem_append_left _ (List.mem_append_left _ (List.mem_append_right _ h))))) tyX4 tyX4_ok nmX4 hown hK hP hD hS 7 rfl rfl 0 (by decide) (hts (.fieldLink RX9 342 "Lastroom$Operator" "skills" "I") (List.mem_of_getElem? (i := 1) rfl)) (fun _ h9 => h9) rfl (by decide +kernel) rfl rfl (Nat.le_of_ble_eq_true rfl) dX9_setSkill_50 (fun H locs hP hD hS => ?_)
          have hP : va_P D vwCl [(o1, .inr (8, [.int 0, .int 0, .int 0, .int 0])), (o2, .inr (8, [.int 0, .int 0, .int 0, .int 0])), (o3, .inr (8, [.int 0, .int 0, .int 0, .int 0])), (o4, .inr (8, [.int 0, .int 0, .int 0, .int 0])), (o5, .inr (8, [.int 0, .int 0, .int 0, .int 0])), (o6, .inr (8, [.int 0, .int 0, .int 0, .int 0])), (o7, .inr (8, [.int 0, .int 0, .int 0, .int 0])), (o0, .inr (8, [.int ((0 : Int32) ||| ((1 : Int32) <<< (a2 &&& 31))), .int 0, .int 0, .int 0]))] H := hP
          have hD : va_D A [(o1, .inr (8, [.int 0, .int 0, .int 0, .int 0])), (o2, .inr (8, [.int 0, .int 0, .int 0, .int 0])), (o3, .inr (8, [.int 0, .int 0, .int 0, .int 0])), (o4, .inr (8, [.int 0, .int 0, .int 0, .int 0])), (o5, .inr (8, [.int 0, .int 0, .int 0, .int 0])), (o6, .inr (8, [.int 0, .int 0, .int 0, .int 0])), (o7, .inr (8, [.int 0, .int 0, .int 0, .int 0])), (o0, .inr (8, [.int ((0 : Int32) ||| ((1 : Int32) <<< (a2 &&& 31))), .int 0, .int 0, .int 0]))] := hD
          refine lv_iload hx hb dX9_setSkill_53 (lv_at hl 0 rfl) ?_
          have hP9 := hP.sub (ws' := []) [] rfl
          have hD9 := hD.sub (ws' := []) [] (by decide) rfl
          have hK9 := hK.sub (tys' := []) [] rfl
          exact vx_ret (end_z hx hb hr hlocks (by decide) hP9 hD9 hK9 hS () rfl rfl ⟨h_5, h_7, rfl⟩ (Nat.le_of_ble_eq_true rfl) (Nat.le_of_ble_eq_true rfl) dX9_setSkill_55)
    · refine W.eq (g2 := F0 m 5 ls [.ref o1]) rfl ?_
      refine lv_astore (lv' := [(4, .ref o1), (0, .ref x), (1, .int a1), (2, .int a2), (3, .int a3)]) hx hb dX9_setSkill_5 hl (by decide) rfl (fun ls hl => ?_)
      refine lv_iload_n hx hb dX9_setSkill_7 rfl (lv_at hl 3 rfl) ?_
      refine lv_iconst (v := 0) hx hb dX9_setSkill_8 (by decide) ?_
      refine lv_iconst (v := 3) hx hb dX9_setSkill_9 (by decide) ?_
      have hFc := va_free (wc := []) hD hS hA [] rfl
      refine vx_callv (vx_runS (As := [.int a2, .int 0, .int 3]) (rest := []) ⟨hx, hb, hml, hown, hts⟩ (c_demandRange l hlt D tC tE H.size a2 0 3) (va_cwS 3 hts gX9_setSkill_X9_demandRange rfl rfl rfl (by decide +kernel) ⟨(Nat.le_of_ble_eq_true rfl), (Nat.le_of_ble_eq_true rfl)⟩) ⟨pg_blind, (pg_pre hP hD hK hG hS hFc [] rfl (by decide) [] rfl _)⟩ rfl rfl hl.1 rfl (lv_room (Nat.le_of_ble_eq_true rfl)) dX9_setSkill_10 ⟨(Nat.le_of_ble_eq_true rfl), (Nat.le_of_ble_eq_true rfl)⟩) hS (fun q _ h => hFc q h) hFc (fun q _ h => hFc q h) (fun E ce q9 u t H1 locs1 ht hvm hw hB hz1 hk1 hS hce hcv hcl => ?_) (fun u_11 t H locs ht hvm hw hB hz1 hk1 hS => ?_)
      · obtain ⟨hE, hf⟩ := hB
        subst hE
        exact vx_widen (k := 2) (n := 12) (Nat.le_of_ble_eq_true rfl) (Nat.le_of_ble_eq_true rfl) (vx_out (fun x hx => (htab x hx).elim) hlocks hce hcv hcl (xx_out hS (Or.inr ⟨rfl, h_5, hf⟩)) hS.2.2 (Nat.le_of_ble_eq_true rfl) (Nat.le_of_ble_eq_true rfl))
      · have h_12 := hw
        obtain ⟨hP, hD, hK⟩ := jn (wr := [(o0, .inr (8, [.int 0, .int 0, .int 0, .int 0])), (o1, .inr (8, [.int 0, .int 0, .int 0, .int 0])), (o2, .inr (8, [.int 0, .int 0, .int 0, .int 0])), (o3, .inr (8, [.int 0, .int 0, .int 0, .int 0])), (o4, .inr (8, [.int 0, .int 0, .int 0, .int 0])), (o5, .inr (8, [.int 0, .int 0, .int 0, .int 0])), (o6, .inr (8, [.int 0, .int 0, .int 0, .int 0])), (o7, .inr (8, [.int 0, .int 0, .int 0, .int 0]))]) (w1 := []) (t1 := []) (tr := [(k5, .object "Lastroom$Operator")]) hP hD hK [] [0, 1, 2, 3, 4, 5, 6, 7] rfl rfl (by decide) (by decide) [0] rfl hk1 hFc hB rfl rfl ht hvm
        have hP : va_P D vwCl [(o0, .inr (8, [.int 0, .int 0, .int 0, .int 0])), (o1, .inr (8, [.int 0, .int 0, .int 0, .int 0])), (o2, .inr (8, [.int 0, .int 0, .int 0, .int 0])), (o3, .inr (8, [.int 0, .int 0, .int 0, .int 0])), (o4, .inr (8, [.int 0, .int 0, .int 0, .int 0])), (o5, .inr (8, [.int 0, .int 0, .int 0, .int 0])), (o6, .inr (8, [.int 0, .int 0, .int 0, .int 0])), (o7, .inr (8, [.int 0, .int 0, .int 0, .int 0]))] H := hP
        have hD : va_D A [(o0, .inr (8, [.int 0, .int 0, .int 0, .int 0])), (o1, .inr (8, [.int 0, .int 0, .int 0, .int 0])), (o2, .inr (8, [.int 0, .int 0, .int 0, .int 0])), (o3, .inr (8, [.int 0, .int 0, .int 0, .int 0])), (o4, .inr (8, [.int 0, .int 0, .int 0, .int 0])), (o5, .inr (8, [.int 0, .int 0, .int 0, .int 0])), (o6, .inr (8, [.int 0, .int 0, .int 0, .int 0])), (o7, .inr (8, [.int 0, .int 0, .int 0, .int 0]))] := hD
        have hK : va_K D vwCl [(k5, .object "Lastroom$Operator")] s := hK
        refine W.widen (k := 2) (n := 12) (Nat.le_of_ble_eq_true rfl) (Nat.le_of_ble_eq_true rfl) ?_
        refine lv_aload hx hb dX9_setSkill_13 (lv_at hl 0 rfl) ?_
        refine lv_iload_n hx hb dX9_setSkill_15 rfl (lv_at hl 3 rfl) ?_
        have hFc := va_free (wc := [(o1, .inr (8, [.int 0, .int 0, .int 0, .int 0]))]) hD hS hA [1] rfl
        refine va_calli (va_runV (As := [.int a2]) (rest := []) ⟨hx, hb, hml, hown, hts⟩ (c_hasSkill l D tC tE H.size o1 a2) (cwV 1 hts gX9_setSkill_X4_hasSkill rfl rfl rfl (by decide +kernel) ⟨(Nat.le_of_ble_eq_true rfl), (Nat.le_of_ble_eq_true rfl)⟩) ⟨pg_blind, (va_recv hK hP (ci := 8) (q0 := 1) rfl rfl), (pg_pre hP hD hK hG hS hFc [1] rfl (by decide) [] rfl _)⟩ rfl rfl hl.1 rfl (lv_room (Nat.le_of_ble_eq_true rfl)) dX9_setSkill_16 ⟨(Nat.le_of_ble_eq_true rfl), (Nat.le_of_ble_eq_true rfl)⟩) hS (fun q _ h => hFc q h) hFc (fun r_13 u_14 t H locs ht hvm hw hB hz1 hk1 hS => ?_)
        subst hw
        obtain ⟨hP, hD, hK⟩ := jn (wr := [(o0, .inr (8, [.int 0, .int 0, .int 0, .int 0])), (o2, .inr (8, [.int 0, .int 0, .int 0, .int 0])), (o3, .inr (8, [.int 0, .int 0, .int 0, .int 0])), (o4, .inr (8, [.int 0, .int 0, .int 0, .int 0])), (o5, .inr (8, [.int 0, .int 0, .int 0, .int 0])), (o6, .inr (8, [.int 0, .int 0, .int 0, .int 0])), (o7, .inr (8, [.int 0, .int 0, .int 0, .int 0]))]) (w1 := [(o1, .inr (8, [.int 0, .int 0, .int 0, .int 0]))]) (t1 := []) (tr := [(k5, .object "Lastroom$Operator")]) hP hD hK [1] [0, 2, 3, 4, 5, 6, 7] rfl rfl (by decide) (by decide) [0] rfl hk1 hFc hB rfl rfl ht hvm
        have hP : va_P D vwCl [(o0, .inr (8, [.int 0, .int 0, .int 0, .int 0])), (o2, .inr (8, [.int 0, .int 0, .int 0, .int 0])), (o3, .inr (8, [.int 0, .int 0, .int 0, .int 0])), (o4, .inr (8, [.int 0, .int 0, .int 0, .int 0])), (o5, .inr (8, [.int 0, .int 0, .int 0, .int 0])), (o6, .inr (8, [.int 0, .int 0, .int 0, .int 0])), (o7, .inr (8, [.int 0, .int 0, .int 0, .int 0])), (o1, .inr (8, [.int 0, .int 0, .int 0, .int 0]))] H := hP
        have hD : va_D A [(o0, .inr (8, [.int 0, .int 0, .int 0, .int 0])), (o2, .inr (8, [.int 0, .int 0, .int 0, .int 0])), (o3, .inr (8, [.int 0, .int 0, .int 0, .int 0])), (o4, .inr (8, [.int 0, .int 0, .int 0, .int 0])), (o5, .inr (8, [.int 0, .int 0, .int 0, .int 0])), (o6, .inr (8, [.int 0, .int 0, .int 0, .int 0])), (o7, .inr (8, [.int 0, .int 0, .int 0, .int 0])), (o1, .inr (8, [.int 0, .int 0, .int 0, .int 0]))] := hD
        have hK : va_K D vwCl [(k5, .object "Lastroom$Operator")] s := hK
        refine W.widen (k := 2) (n := 12) (Nat.le_of_ble_eq_true rfl) (Nat.le_of_ble_eq_true rfl) ?_
        refine lv_istore (lv' := [(5, .int 0), (4, .ref o1), (0, .ref x), (1, .int a1), (2, .int a2), (3, .int a3)]) hx hb dX9_setSkill_19 hl (by decide) rfl (fun ls hl => ?_)
        refine lv_aload hx hb dX9_setSkill_21 (lv_at hl 1 rfl) ?_
        refine lv_iload_n hx hb dX9_setSkill_23 rfl (lv_at hl 5 rfl) ?_
        refine lv_if_eq (tgt := 39) hx hb dX9_setSkill_24 (by decide) (fun c_15 => ?_) (fun c_15 => ?_)
        · refine lv_aload hx hb dX9_setSkill_39 (lv_at hl 1 rfl) ?_
          refine va_get (D := D) (ci := 8) (v := .int 0) (C := RX4) (T := TX4) (N := 4) hx hb hts (fun w h => List.mem_cons_of_mem _ (List.mem_append_left _ (List.mem_append_left _ (List.mem_append_left _ (List.mem_append_right _ h))))) hown hK hP 7 rfl rfl 0 (by decide) (hts (.fieldLink RX9 342 "Lastroom$Operator" "skills" "I") (List.mem_of_getElem? (i := 1) rfl)) (fun _ h9 => h9) rfl dX9_setSkill_41 ?_
          refine lv_iconst (v := 1) hx hb dX9_setSkill_44 (by decide) ?_
          refine lv_iload_n hx hb dX9_setSkill_45 rfl (lv_at hl 4 rfl) ?_
          refine lv_ishl hx hb dX9_setSkill_46 ?_
          refine lv_iconst (v := (-1)) hx hb dX9_setSkill_47 (by decide) ?_
          refine lv_ixor hx hb dX9_setSkill_48 ?_
          refine lv_iand hx hb dX9_setSkill_49 ?_
          refine va_put (D := D) (ci := 8) (v := .int ((0 : Int32) &&& (((1 : Int32) <<< (a2 &&& 31)) ^^^ ((-1) : Int32)))) (ty := .int) (C := RX4) (T := TX4) (N := 4) hx hb hts (fun w h => List.mem_cons_of_mem _ (List.mem_append_left _ (List.mem_append_left _ (List.mem_append_left _ (List.mem_append_right _ h))))) tyX4 tyX4_ok nmX4 hown hK hP hD hS 7 rfl rfl 0 (by decide) (hts (.fieldLink RX9 342 "Lastroom$Operator" "skills" "I") (List.mem_of_getElem? (i := 1) rfl)) (fun _ h9 => h9) rfl (by decide +kernel) rfl rfl (Nat.le_of_ble_eq_true rfl) dX9_setSkill_50 (fun H locs hP hD hS => ?_)
          have hP : va_P D vwCl [(o0, .inr (8, [.int 0, .int 0, .int 0, .int 0])), (o2, .inr (8, [.int 0, .int 0, .int 0, .int 0])), (o3, .inr (8, [.int 0, .int 0, .int 0, .int 0])), (o4, .inr (8, [.int 0, .int 0, .int 0, .int 0])), (o5, .inr (8, [.int 0, .int 0, .int 0, .int 0])), (o6, .inr (8, [.int 0, .int 0, .int 0, .int 0])), (o7, .inr (8, [.int 0, .int 0, .int 0, .int 0])), (o1, .inr (8, [.int ((0 : Int32) &&& (((1 : Int32) <<< (a2 &&& 31)) ^^^ ((-1) : Int32))), .int 0, .int 0, .int 0]))] H := hP
          have hD : va_D A [(o0, .inr (8, [.int 0, .int 0, .int 0, .int 0])), (o2, .inr (8, [.int 0, .int 0, .int 0, .int 0])), (o3, .inr (8, [.int 0, .int 0, .int 0, .int 0])), (o4, .inr (8, [.int 0, .int 0, .int 0, .int 0])), (o5, .inr (8, [.int 0, .int 0, .int 0, .int 0])), (o6, .inr (8, [.int 0, .int 0, .int 0, .int 0])), (o7, .inr (8, [.int 0, .int 0, .int 0, .int 0])), (o1, .inr (8, [.int ((0 : Int32) &&& (((1 : Int32) <<< (a2 &&& 31)) ^^^ ((-1) : Int32))), .int 0, .int 0, .int 0]))] := hD
          refine lv_iload hx hb dX9_setSkill_53 (lv_at hl 0 rfl) ?_
          have hP9 := hP.sub (ws' := []) [] rfl
          have hD9 := hD.sub (ws' := []) [] (by decide) rfl
          have hK9 := hK.sub (tys' := []) [] rfl
          exact vx_ret (end_z hx hb hr hlocks (by decide) hP9 hD9 hK9 hS () rfl rfl ⟨h_5, h_12, rfl⟩ (Nat.le_of_ble_eq_true rfl) (Nat.le_of_ble_eq_true rfl) dX9_setSkill_55)
        · refine lv_aload hx hb dX9_setSkill_27 (lv_at hl 1 rfl) ?_
          refine va_get (D := D) (ci := 8) (v := .int 0) (C := RX4) (T := TX4) (N := 4) hx hb hts (fun w h => List.mem_cons_of_mem _ (List.mem_append_left _ (List.mem_append_left _ (List.mem_append_left _ (List.mem_append_right _ h))))) hown hK hP 7 rfl rfl 0 (by decide) (hts (.fieldLink RX9 342 "Lastroom$Operator" "skills" "I") (List.mem_of_getElem? (i := 1) rfl)) (fun _ h9 => h9) rfl dX9_setSkill_29 ?_
          refine lv_iconst (v := 1) hx hb dX9_setSkill_32 (by decide) ?_
          refine lv_iload_n hx hb dX9_setSkill_33 rfl (lv_at hl 4 rfl) ?_
          refine lv_ishl hx hb dX9_setSkill_34 ?_
          refine lv_ior hx hb dX9_setSkill_35 ?_
          refine lv_goto (tgt := 50) hx hb dX9_setSkill_36 (by decide) ?_
          refine va_put (D := D) (ci := 8) (v := .int ((0 : Int32) ||| ((1 : Int32) <<< (a2 &&& 31)))) (ty := .int) (C := RX4) (T := TX4) (N := 4) hx hb hts (fun w h => List.mem_cons_of_mem _ (List.mem_append_left _ (List.mem_append_left _ (List.mem_append_left _ (List.mem_append_right _ h))))) tyX4 tyX4_ok nmX4 hown hK hP hD hS 7 rfl rfl 0 (by decide) (hts (.fieldLink RX9 342 "Lastroom$Operator" "skills" "I") (List.mem_of_getElem? (i := 1) rfl)) (fun _ h9 => h9) rfl (by decide +kernel) rfl rfl (Nat.le_of_ble_eq_true rfl) dX9_setSkill_50 (fun H locs hP hD hS => ?_)
          have hP : va_P D vwCl [(o0, .inr (8, [.int 0, .int 0, .int 0, .int 0])), (o2, .inr (8, [.int 0, .int 0, .int 0, .int 0])), (o3, .inr (8, [.int 0, .int 0, .int 0, .int 0])), (o4, .inr (8, [.int 0, .int 0, .int 0, .int 0])), (o5, .inr (8, [.int 0, .int 0, .int 0, .int 0])), (o6, .inr (8, [.int 0, .int 0, .int 0, .int 0])), (o7, .inr (8, [.int 0, .int 0, .int 0, .int 0])), (o1, .inr (8, [.int ((0 : Int32) ||| ((1 : Int32) <<< (a2 &&& 31))), .int 0, .int 0, .int 0]))] H := hP
          have hD : va_D A [(o0, .inr (8, [.int 0, .int 0, .int 0, .int 0])), (o2, .inr (8, [.int 0, .int 0, .int 0, .int 0])), (o3, .inr (8, [.int 0, .int 0, .int 0, .int 0])), (o4, .inr (8, [.int 0, .int 0, .int 0, .int 0])), (o5, .inr (8, [.int 0, .int 0, .int 0, .int 0])), (o6, .inr (8, [.int 0, .int 0, .int 0, .int 0])), (o7, .inr (8, [.int 0, .int 0, .int 0, .int 0])), (o1, .inr (8, [.int ((0 : Int32) ||| ((1 : Int32) <<< (a2 &&& 31))), .int 0, .int 0, .int 0]))] := hD
          refine lv_iload hx hb dX9_setSkill_53 (lv_at hl 0 rfl) ?_
          have hP9 := hP.sub (ws' := []) [] rfl
          have hD9 := hD.sub (ws' := []) [] (by decide) rfl
          have hK9 := hK.sub (tys' := []) [] rfl
          exact vx_ret (end_z hx hb hr hlocks (by decide) hP9 hD9 hK9 hS () rfl rfl ⟨h_5, h_12, rfl⟩ (Nat.le_of_ble_eq_true rfl) (Nat.le_of_ble_eq_true rfl) dX9_setSkill_55)
    · refine W.eq (g2 := F0 m 5 ls [.ref o2]) rfl ?_
      refine lv_astore (lv' := [(4, .ref o2), (0, .ref x), (1, .int a1), (2, .int a2), (3, .int a3)]) hx hb dX9_setSkill_5 hl (by decide) rfl (fun ls hl => ?_)
      refine lv_iload_n hx hb dX9_setSkill_7 rfl (lv_at hl 3 rfl) ?_
      refine lv_iconst (v := 0) hx hb dX9_setSkill_8 (by decide) ?_
      refine lv_iconst (v := 3) hx hb dX9_setSkill_9 (by decide) ?_
      have hFc := va_free (wc := []) hD hS hA [] rfl
      refine vx_callv (vx_runS (As := [.int a2, .int 0, .int 3]) (rest := []) ⟨hx, hb, hml, hown, hts⟩ (c_demandRange l hlt D tC tE H.size a2 0 3) (va_cwS 3 hts gX9_setSkill_X9_demandRange rfl rfl rfl (by decide +kernel) ⟨(Nat.le_of_ble_eq_true rfl), (Nat.le_of_ble_eq_true rfl)⟩) ⟨pg_blind, (pg_pre hP hD hK hG hS hFc [] rfl (by decide) [] rfl _)⟩ rfl rfl hl.1 rfl (lv_room (Nat.le_of_ble_eq_true rfl)) dX9_setSkill_10 ⟨(Nat.le_of_ble_eq_true rfl), (Nat.le_of_ble_eq_true rfl)⟩) hS (fun q _ h => hFc q h) hFc (fun q _ h => hFc q h) (fun E ce q9 u t H1 locs1 ht hvm hw hB hz1 hk1 hS hce hcv hcl => ?_) (fun u_16 t H locs ht hvm hw hB hz1 hk1 hS => ?_)
      · obtain ⟨hE, hf⟩ := hB
        subst hE
        exact vx_widen (k := 2) (n := 12) (Nat.le_of_ble_eq_true rfl) (Nat.le_of_ble_eq_true rfl) (vx_out (fun x hx => (htab x hx).elim) hlocks hce hcv hcl (xx_out hS (Or.inr ⟨rfl, h_5, hf⟩)) hS.2.2 (Nat.le_of_ble_eq_true rfl) (Nat.le_of_ble_eq_true rfl))
      · have h_17 := hw
        obtain ⟨hP, hD, hK⟩ := jn (wr := [(o0, .inr (8, [.int 0, .int 0, .int 0, .int 0])), (o1, .inr (8, [.int 0, .int 0, .int 0, .int 0])), (o2, .inr (8, [.int 0, .int 0, .int 0, .int 0])), (o3, .inr (8, [.int 0, .int 0, .int 0, .int 0])), (o4, .inr (8, [.int 0, .int 0, .int 0, .int 0])), (o5, .inr (8, [.int 0, .int 0, .int 0, .int 0])), (o6, .inr (8, [.int 0, .int 0, .int 0, .int 0])), (o7, .inr (8, [.int 0, .int 0, .int 0, .int 0]))]) (w1 := []) (t1 := []) (tr := [(k5, .object "Lastroom$Operator")]) hP hD hK [] [0, 1, 2, 3, 4, 5, 6, 7] rfl rfl (by decide) (by decide) [0] rfl hk1 hFc hB rfl rfl ht hvm
        have hP : va_P D vwCl [(o0, .inr (8, [.int 0, .int 0, .int 0, .int 0])), (o1, .inr (8, [.int 0, .int 0, .int 0, .int 0])), (o2, .inr (8, [.int 0, .int 0, .int 0, .int 0])), (o3, .inr (8, [.int 0, .int 0, .int 0, .int 0])), (o4, .inr (8, [.int 0, .int 0, .int 0, .int 0])), (o5, .inr (8, [.int 0, .int 0, .int 0, .int 0])), (o6, .inr (8, [.int 0, .int 0, .int 0, .int 0])), (o7, .inr (8, [.int 0, .int 0, .int 0, .int 0]))] H := hP
        have hD : va_D A [(o0, .inr (8, [.int 0, .int 0, .int 0, .int 0])), (o1, .inr (8, [.int 0, .int 0, .int 0, .int 0])), (o2, .inr (8, [.int 0, .int 0, .int 0, .int 0])), (o3, .inr (8, [.int 0, .int 0, .int 0, .int 0])), (o4, .inr (8, [.int 0, .int 0, .int 0, .int 0])), (o5, .inr (8, [.int 0, .int 0, .int 0, .int 0])), (o6, .inr (8, [.int 0, .int 0, .int 0, .int 0])), (o7, .inr (8, [.int 0, .int 0, .int 0, .int 0]))] := hD
        have hK : va_K D vwCl [(k5, .object "Lastroom$Operator")] s := hK
        refine W.widen (k := 2) (n := 12) (Nat.le_of_ble_eq_true rfl) (Nat.le_of_ble_eq_true rfl) ?_
        refine lv_aload hx hb dX9_setSkill_13 (lv_at hl 0 rfl) ?_
        refine lv_iload_n hx hb dX9_setSkill_15 rfl (lv_at hl 3 rfl) ?_
        have hFc := va_free (wc := [(o2, .inr (8, [.int 0, .int 0, .int 0, .int 0]))]) hD hS hA [2] rfl
        refine va_calli (va_runV (As := [.int a2]) (rest := []) ⟨hx, hb, hml, hown, hts⟩ (c_hasSkill l D tC tE H.size o2 a2) (cwV 1 hts gX9_setSkill_X4_hasSkill rfl rfl rfl (by decide +kernel) ⟨(Nat.le_of_ble_eq_true rfl), (Nat.le_of_ble_eq_true rfl)⟩) ⟨pg_blind, (va_recv hK hP (ci := 8) (q0 := 2) rfl rfl), (pg_pre hP hD hK hG hS hFc [2] rfl (by decide) [] rfl _)⟩ rfl rfl hl.1 rfl (lv_room (Nat.le_of_ble_eq_true rfl)) dX9_setSkill_16 ⟨(Nat.le_of_ble_eq_true rfl), (Nat.le_of_ble_eq_true rfl)⟩) hS (fun q _ h => hFc q h) hFc (fun r_18 u_19 t H locs ht hvm hw hB hz1 hk1 hS => ?_)
        subst hw
        obtain ⟨hP, hD, hK⟩ := jn (wr := [(o0, .inr (8, [.int 0, .int 0, .int 0, .int 0])), (o1, .inr (8, [.int 0, .int 0, .int 0, .int 0])), (o3, .inr (8, [.int 0, .int 0, .int 0, .int 0])), (o4, .inr (8, [.int 0, .int 0, .int 0, .int 0])), (o5, .inr (8, [.int 0, .int 0, .int 0, .int 0])), (o6, .inr (8, [.int 0, .int 0, .int 0, .int 0])), (o7, .inr (8, [.int 0, .int 0, .int 0, .int 0]))]) (w1 := [(o2, .inr (8, [.int 0, .int 0, .int 0, .int 0]))]) (t1 := []) (tr := [(k5, .object "Lastroom$Operator")]) hP hD hK [2] [0, 1, 3, 4, 5, 6, 7] rfl rfl (by decide) (by decide) [0] rfl hk1 hFc hB rfl rfl ht hvm
        have hP : va_P D vwCl [(o0, .inr (8, [.int 0, .int 0, .int 0, .int 0])), (o1, .inr (8, [.int 0, .int 0, .int 0, .int 0])), (o3, .inr (8, [.int 0, .int 0, .int 0, .int 0])), (o4, .inr (8, [.int 0, .int 0, .int 0, .int 0])), (o5, .inr (8, [.int 0, .int 0, .int 0, .int 0])), (o6, .inr (8, [.int 0, .int 0, .int 0, .int 0])), (o7, .inr (8, [.int 0, .int 0, .int 0, .int 0])), (o2, .inr (8, [.int 0, .int 0, .int 0, .int 0]))] H := hP
        have hD : va_D A [(o0, .inr (8, [.int 0, .int 0, .int 0, .int 0])), (o1, .inr (8, [.int 0, .int 0, .int 0, .int 0])), (o3, .inr (8, [.int 0, .int 0, .int 0, .int 0])), (o4, .inr (8, [.int 0, .int 0, .int 0, .int 0])), (o5, .inr (8, [.int 0, .int 0, .int 0, .int 0])), (o6, .inr (8, [.int 0, .int 0, .int 0, .int 0])), (o7, .inr (8, [.int 0, .int 0, .int 0, .int 0])), (o2, .inr (8, [.int 0, .int 0, .int 0, .int 0]))] := hD
        have hK : va_K D vwCl [(k5, .object "Lastroom$Operator")] s := hK
        refine W.widen (k := 2) (n := 12) (Nat.le_of_ble_eq_true rfl) (Nat.le_of_ble_eq_true rfl) ?_
        refine lv_istore (lv' := [(5, .int 0), (4, .ref o2), (0, .ref x), (1, .int a1), (2, .int a2), (3, .int a3)]) hx hb dX9_setSkill_19 hl (by decide) rfl (fun ls hl => ?_)
        refine lv_aload hx hb dX9_setSkill_21 (lv_at hl 1 rfl) ?_
        refine lv_iload_n hx hb dX9_setSkill_23 rfl (lv_at hl 5 rfl) ?_
        refine lv_if_eq (tgt := 39) hx hb dX9_setSkill_24 (by decide) (fun c_20 => ?_) (fun c_20 => ?_)
        · refine lv_aload hx hb dX9_setSkill_39 (lv_at hl 1 rfl) ?_
          refine va_get (D := D) (ci := 8) (v := .int 0) (C := RX4) (T := TX4) (N := 4) hx hb hts (fun w h => List.mem_cons_of_mem _ (List.mem_append_left _ (List.mem_append_left _ (List.mem_append_left _ (List.mem_append_right _ h))))) hown hK hP 7 rfl rfl 0 (by decide) (hts (.fieldLink RX9 342 "Lastroom$Operator" "skills" "I") (List.mem_of_getElem? (i := 1) rfl)) (fun _ h9 => h9) rfl dX9_setSkill_41 ?_
          refine lv_iconst (v := 1) hx hb dX9_setSkill_44 (by decide) ?_
          refine lv_iload_n hx hb dX9_setSkill_45 rfl (lv_at hl 4 rfl) ?_
          refine lv_ishl hx hb dX9_setSkill_46 ?_
          refine lv_iconst (v := (-1)) hx hb dX9_setSkill_47 (by decide) ?_
          refine lv_ixor hx hb dX9_setSkill_48 ?_
          refine lv_iand hx hb dX9_setSkill_49 ?_
          refine va_put (D := D) (ci := 8) (v := .int ((0 : Int32) &&& (((1 : Int32) <<< (a2 &&& 31)) ^^^ ((-1) : Int32)))) (ty := .int) (C := RX4) (T := TX4) (N := 4) hx hb hts (fun w h => List.mem_cons_of_mem _ (List.mem_append_left _ (List.mem_append_left _ (List.mem_append_left _ (List.mem_append_right _ h))))) tyX4 tyX4_ok nmX4 hown hK hP hD hS 7 rfl rfl 0 (by decide) (hts (.fieldLink RX9 342 "Lastroom$Operator" "skills" "I") (List.mem_of_getElem? (i := 1) rfl)) (fun _ h9 => h9) rfl (by decide +kernel) rfl rfl (Nat.le_of_ble_eq_true rfl) dX9_setSkill_50 (fun H locs hP hD hS => ?_)
          have hP : va_P D vwCl [(o0, .inr (8, [.int 0, .int 0, .int 0, .int 0])), (o1, .inr (8, [.int 0, .int 0, .int 0, .int 0])), (o3, .inr (8, [.int 0, .int 0, .int 0, .int 0])), (o4, .inr (8, [.int 0, .int 0, .int 0, .int 0])), (o5, .inr (8, [.int 0, .int 0, .int 0, .int 0])), (o6, .inr (8, [.int 0, .int 0, .int 0, .int 0])), (o7, .inr (8, [.int 0, .int 0, .int 0, .int 0])), (o2, .inr (8, [.int ((0 : Int32) &&& (((1 : Int32) <<< (a2 &&& 31)) ^^^ ((-1) : Int32))), .int 0, .int 0, .int 0]))] H := hP
          have hD : va_D A [(o0, .inr (8, [.int 0, .int 0, .int 0, .int 0])), (o1, .inr (8, [.int 0, .int 0, .int 0, .int 0])), (o3, .inr (8, [.int 0, .int 0, .int 0, .int 0])), (o4, .inr (8, [.int 0, .int 0, .int 0, .int 0])), (o5, .inr (8, [.int 0, .int 0, .int 0, .int 0])), (o6, .inr (8, [.int 0, .int 0, .int 0, .int 0])), (o7, .inr (8, [.int 0, .int 0, .int 0, .int 0])), (o2, .inr (8, [.int ((0 : Int32) &&& (((1 : Int32) <<< (a2 &&& 31)) ^^^ ((-1) : Int32))), .int 0, .int 0, .int 0]))] := hD
          refine lv_iload hx hb dX9_setSkill_53 (lv_at hl 0 rfl) ?_
          have hP9 := hP.sub (ws' := []) [] rfl
          have hD9 := hD.sub (ws' := []) [] (by decide) rfl
          have hK9 := hK.sub (tys' := []) [] rfl
          exact vx_ret (end_z hx hb hr hlocks (by decide) hP9 hD9 hK9 hS () rfl rfl ⟨h_5, h_17, rfl⟩ (Nat.le_of_ble_eq_true rfl) (Nat.le_of_ble_eq_true rfl) dX9_setSkill_55)
        · refine lv_aload hx hb dX9_setSkill_27 (lv_at hl 1 rfl) ?_
          refine va_get (D := D) (ci := 8) (v := .int 0) (C := RX4) (T := TX4) (N := 4) hx hb hts (fun w h => List.mem_cons_of_mem _ (List.mem_append_left _ (List.mem_append_left _ (List.mem_append_left _ (List.mem_append_right _ h))))) hown hK hP 7 rfl rfl 0 (by decide) (hts (.fieldLink RX9 342 "Lastroom$Operator" "skills" "I") (List.mem_of_getElem? (i := 1) rfl)) (fun _ h9 => h9) rfl dX9_setSkill_29 ?_
          refine lv_iconst (v := 1) hx hb dX9_setSkill_32 (by decide) ?_
          refine lv_iload_n hx hb dX9_setSkill_33 rfl (lv_at hl 4 rfl) ?_
          refine lv_ishl hx hb dX9_setSkill_34 ?_
          refine lv_ior hx hb dX9_setSkill_35 ?_
          refine lv_goto (tgt := 50) hx hb dX9_setSkill_36 (by decide) ?_
          refine va_put (D := D) (ci := 8) (v := .int ((0 : Int32) ||| ((1 : Int32) <<< (a2 &&& 31)))) (ty := .int) (C := RX4) (T := TX4) (N := 4) hx hb hts (fun w h => List.mem_cons_of_mem _ (List.mem_append_left _ (List.mem_append_left _ (List.mem_append_left _ (List.mem_append_right _ h))))) tyX4 tyX4_ok nmX4 hown hK hP hD hS 7 rfl rfl 0 (by decide) (hts (.fieldLink RX9 342 "Lastroom$Operator" "skills" "I") (List.mem_of_getElem? (i := 1) rfl)) (fun _ h9 => h9) rfl (by decide +kernel) rfl rfl (Nat.le_of_ble_eq_true rfl) dX9_setSkill_50 (fun H locs hP hD hS => ?_)
          have hP : va_P D vwCl [(o0, .inr (8, [.int 0, .int 0, .int 0, .int 0])), (o1, .inr (8, [.int 0, .int 0, .int 0, .int 0])), (o3, .inr (8, [.int 0, .int 0, .int 0, .int 0])), (o4, .inr (8, [.int 0, .int 0, .int 0, .int 0])), (o5, .inr (8, [.int 0, .int 0, .int 0, .int 0])), (o6, .inr (8, [.int 0, .int 0, .int 0, .int 0])), (o7, .inr (8, [.int 0, .int 0, .int 0, .int 0])), (o2, .inr (8, [.int ((0 : Int32) ||| ((1 : Int32) <<< (a2 &&& 31))), .int 0, .int 0, .int 0]))] H := hP
          have hD : va_D A [(o0, .inr (8, [.int 0, .int 0, .int 0, .int 0])), (o1, .inr (8, [.int 0, .int 0, .int 0, .int 0])), (o3, .inr (8, [.int 0, .int 0, .int 0, .int 0])), (o4, .inr (8, [.int 0, .int 0, .int 0, .int 0])), (o5, .inr (8, [.int 0, .int 0, .int 0, .int 0])), (o6, .inr (8, [.int 0, .int 0, .int 0, .int 0])), (o7, .inr (8, [.int 0, .int 0, .int 0, .int 0])), (o2, .inr (8, [.int ((0 : Int32) ||| ((1 : Int32) <<< (a2 &&& 31))), .int 0, .int 0, .int 0]))] := hD
          refine lv_iload hx hb dX9_setSkill_53 (lv_at hl 0 rfl) ?_
          have hP9 := hP.sub (ws' := []) [] rfl
          have hD9 := hD.sub (ws' := []) [] (by decide) rfl
          have hK9 := hK.sub (tys' := []) [] rfl
          exact vx_ret (end_z hx hb hr hlocks (by decide) hP9 hD9 hK9 hS () rfl rfl ⟨h_5, h_17, rfl⟩ (Nat.le_of_ble_eq_true rfl) (Nat.le_of_ble_eq_true rfl) dX9_setSkill_55)
    · refine W.eq (g2 := F0 m 5 ls [.ref o3]) rfl ?_
      refine lv_astore (lv' := [(4, .ref o3), (0, .ref x), (1, .int a1), (2, .int a2), (3, .int a3)]) hx hb dX9_setSkill_5 hl (by decide) rfl (fun ls hl => ?_)
      refine lv_iload_n hx hb dX9_setSkill_7 rfl (lv_at hl 3 rfl) ?_
      refine lv_iconst (v := 0) hx hb dX9_setSkill_8 (by decide) ?_
      refine lv_iconst (v := 3) hx hb dX9_setSkill_9 (by decide) ?_
      have hFc := va_free (wc := []) hD hS hA [] rfl
      refine vx_callv (vx_runS (As := [.int a2, .int 0, .int 3]) (rest := []) ⟨hx, hb, hml, hown, hts⟩ (c_demandRange l hlt D tC tE H.size a2 0 3) (va_cwS 3 hts gX9_setSkill_X9_demandRange rfl rfl rfl (by decide +kernel) ⟨(Nat.le_of_ble_eq_true rfl), (Nat.le_of_ble_eq_true rfl)⟩) ⟨pg_blind, (pg_pre hP hD hK hG hS hFc [] rfl (by decide) [] rfl _)⟩ rfl rfl hl.1 rfl (lv_room (Nat.le_of_ble_eq_true rfl)) dX9_setSkill_10 ⟨(Nat.le_of_ble_eq_true rfl), (Nat.le_of_ble_eq_true rfl)⟩) hS (fun q _ h => hFc q h) hFc (fun q _ h => hFc q h) (fun E ce q9 u t H1 locs1 ht hvm hw hB hz1 hk1 hS hce hcv hcl => ?_) (fun u_21 t H locs ht hvm hw hB hz1 hk1 hS => ?_)
      · obtain ⟨hE, hf⟩ := hB
        subst hE
        exact vx_widen (k := 2) (n := 12) (Nat.le_of_ble_eq_true rfl) (Nat.le_of_ble_eq_true rfl) (vx_out (fun x hx => (htab x hx).elim) hlocks hce hcv hcl (xx_out hS (Or.inr ⟨rfl, h_5, hf⟩)) hS.2.2 (Nat.le_of_ble_eq_true rfl) (Nat.le_of_ble_eq_true rfl))
      · have h_22 := hw
        obtain ⟨hP, hD, hK⟩ := jn (wr := [(o0, .inr (8, [.int 0, .int 0, .int 0, .int 0])), (o1, .inr (8, [.int 0, .int 0, .int 0, .int 0])), (o2, .inr (8, [.int 0, .int 0, .int 0, .int 0])), (o3, .inr (8, [.int 0, .int 0, .int 0, .int 0])), (o4, .inr (8, [.int 0, .int 0, .int 0, .int 0])), (o5, .inr (8, [.int 0, .int 0, .int 0, .int 0])), (o6, .inr (8, [.int 0, .int 0, .int 0, .int 0])), (o7, .inr (8, [.int 0, .int 0, .int 0, .int 0]))]) (w1 := []) (t1 := []) (tr := [(k5, .object "Lastroom$Operator")]) hP hD hK [] [0, 1, 2, 3, 4, 5, 6, 7] rfl rfl (by decide) (by decide) [0] rfl hk1 hFc hB rfl rfl ht hvm
        have hP : va_P D vwCl [(o0, .inr (8, [.int 0, .int 0, .int 0, .int 0])), (o1, .inr (8, [.int 0, .int 0, .int 0, .int 0])), (o2, .inr (8, [.int 0, .int 0, .int 0, .int 0])), (o3, .inr (8, [.int 0, .int 0, .int 0, .int 0])), (o4, .inr (8, [.int 0, .int 0, .int 0, .int 0])), (o5, .inr (8, [.int 0, .int 0, .int 0, .int 0])), (o6, .inr (8, [.int 0, .int 0, .int 0, .int 0])), (o7, .inr (8, [.int 0, .int 0, .int 0, .int 0]))] H := hP
        have hD : va_D A [(o0, .inr (8, [.int 0, .int 0, .int 0, .int 0])), (o1, .inr (8, [.int 0, .int 0, .int 0, .int 0])), (o2, .inr (8, [.int 0, .int 0, .int 0, .int 0])), (o3, .inr (8, [.int 0, .int 0, .int 0, .int 0])), (o4, .inr (8, [.int 0, .int 0, .int 0, .int 0])), (o5, .inr (8, [.int 0, .int 0, .int 0, .int 0])), (o6, .inr (8, [.int 0, .int 0, .int 0, .int 0])), (o7, .inr (8, [.int 0, .int 0, .int 0, .int 0]))] := hD
        have hK : va_K D vwCl [(k5, .object "Lastroom$Operator")] s := hK
        refine W.widen (k := 2) (n := 12) (Nat.le_of_ble_eq_true rfl) (Nat.le_of_ble_eq_true rfl) ?_
        refine lv_aload hx hb dX9_setSkill_13 (lv_at hl 0 rfl) ?_
        refine lv_iload_n hx hb dX9_setSkill_15 rfl (lv_at hl 3 rfl) ?_
        have hFc := va_free (wc := [(o3, .inr (8, [.int 0, .int 0, .int 0, .int 0]))]) hD hS hA [3] rfl
        refine va_calli (va_runV (As := [.int a2]) (rest := []) ⟨hx, hb, hml, hown, hts⟩ (c_hasSkill l D tC tE H.size o3 a2) (cwV 1 hts gX9_setSkill_X4_hasSkill rfl rfl rfl (by decide +kernel) ⟨(Nat.le_of_ble_eq_true rfl), (Nat.le_of_ble_eq_true rfl)⟩) ⟨pg_blind, (va_recv hK hP (ci := 8) (q0 := 3) rfl rfl), (pg_pre hP hD hK hG hS hFc [3] rfl (by decide) [] rfl _)⟩ rfl rfl hl.1 rfl (lv_room (Nat.le_of_ble_eq_true rfl)) dX9_setSkill_16 ⟨(Nat.le_of_ble_eq_true rfl), (Nat.le_of_ble_eq_true rfl)⟩) hS (fun q _ h => hFc q h) hFc (fun r_23 u_24 t H locs ht hvm hw hB hz1 hk1 hS => ?_)
        subst hw
        obtain ⟨hP, hD, hK⟩ := jn (wr := [(o0, .inr (8, [.int 0, .int 0, .int 0, .int 0])), (o1, .inr (8, [.int 0, .int 0, .int 0, .int 0])), (o2, .inr (8, [.int 0, .int 0, .int 0, .int 0])), (o4, .inr (8, [.int 0, .int 0, .int 0, .int 0])), (o5, .inr (8, [.int 0, .int 0, .int 0, .int 0])), (o6, .inr (8, [.int 0, .int 0, .int 0, .int 0])), (o7, .inr (8, [.int 0, .int 0, .int 0, .int 0]))]) (w1 := [(o3, .inr (8, [.int 0, .int 0, .int 0, .int 0]))]) (t1 := []) (tr := [(k5, .object "Lastroom$Operator")]) hP hD hK [3] [0, 1, 2, 4, 5, 6, 7] rfl rfl (by decide) (by decide) [0] rfl hk1 hFc hB rfl rfl ht hvm
        have hP : va_P D vwCl [(o0, .inr (8, [.int 0, .int 0, .int 0, .int 0])), (o1, .inr (8, [.int 0, .int 0, .int 0, .int 0])), (o2, .inr (8, [.int 0, .int 0, .int 0, .int 0])), (o4, .inr (8, [.int 0, .int 0, .int 0, .int 0])), (o5, .inr (8, [.int 0, .int 0, .int 0, .int 0])), (o6, .inr (8, [.int 0, .int 0, .int 0, .int 0])), (o7, .inr (8, [.int 0, .int 0, .int 0, .int 0])), (o3, .inr (8, [.int 0, .int 0, .int 0, .int 0]))] H := hP
        have hD : va_D A [(o0, .inr (8, [.int 0, .int 0, .int 0, .int 0])), (o1, .inr (8, [.int 0, .int 0, .int 0, .int 0])), (o2, .inr (8, [.int 0, .int 0, .int 0, .int 0])), (o4, .inr (8, [.int 0, .int 0, .int 0, .int 0])), (o5, .inr (8, [.int 0, .int 0, .int 0, .int 0])), (o6, .inr (8, [.int 0, .int 0, .int 0, .int 0])), (o7, .inr (8, [.int 0, .int 0, .int 0, .int 0])), (o3, .inr (8, [.int 0, .int 0, .int 0, .int 0]))] := hD
        have hK : va_K D vwCl [(k5, .object "Lastroom$Operator")] s := hK
        refine W.widen (k := 2) (n := 12) (Nat.le_of_ble_eq_true rfl) (Nat.le_of_ble_eq_true rfl) ?_
        refine lv_istore (lv' := [(5, .int 0), (4, .ref o3), (0, .ref x), (1, .int a1), (2, .int a2), (3, .int a3)]) hx hb dX9_setSkill_19 hl (by decide) rfl (fun ls hl => ?_)
        refine lv_aload hx hb dX9_setSkill_21 (lv_at hl 1 rfl) ?_
        refine lv_iload_n hx hb dX9_setSkill_23 rfl (lv_at hl 5 rfl) ?_
        refine lv_if_eq (tgt := 39) hx hb dX9_setSkill_24 (by decide) (fun c_25 => ?_) (fun c_25 => ?_)
        · refine lv_aload hx hb dX9_setSkill_39 (lv_at hl 1 rfl) ?_
          refine va_get (D := D) (ci := 8) (v := .int 0) (C := RX4) (T := TX4) (N := 4) hx hb hts (fun w h => List.mem_cons_of_mem _ (List.mem_append_left _ (List.mem_append_left _ (List.mem_append_left _ (List.mem_append_right _ h))))) hown hK hP 7 rfl rfl 0 (by decide) (hts (.fieldLink RX9 342 "Lastroom$Operator" "skills" "I") (List.mem_of_getElem? (i := 1) rfl)) (fun _ h9 => h9) rfl dX9_setSkill_41 ?_
          refine lv_iconst (v := 1) hx hb dX9_setSkill_44 (by decide) ?_
          refine lv_iload_n hx hb dX9_setSkill_45 rfl (lv_at hl 4 rfl) ?_
          refine lv_ishl hx hb dX9_setSkill_46 ?_
          refine lv_iconst (v := (-1)) hx hb dX9_setSkill_47 (by decide) ?_
          refine lv_ixor hx hb dX9_setSkill_48 ?_
          refine lv_iand hx hb dX9_setSkill_49 ?_
          refine va_put (D := D) (ci := 8) (v := .int ((0 : Int32) &&& (((1 : Int32) <<< (a2 &&& 31)) ^^^ ((-1) : Int32)))) (ty := .int) (C := RX4) (T := TX4) (N := 4) hx hb hts (fun w h => List.mem_cons_of_mem _ (List.mem_append_left _ (List.mem_append_left _ (List.mem_append_left _ (List.mem_append_right _ h))))) tyX4 tyX4_ok nmX4 hown hK hP hD hS 7 rfl rfl 0 (by decide) (hts (.fieldLink RX9 342 "Lastroom$Operator" "skills" "I") (List.mem_of_getElem? (i := 1) rfl)) (fun _ h9 => h9) rfl (by decide +kernel) rfl rfl (Nat.le_of_ble_eq_true rfl) dX9_setSkill_50 (fun H locs hP hD hS => ?_)
          have hP : va_P D vwCl [(o0, .inr (8, [.int 0, .int 0, .int 0, .int 0])), (o1, .inr (8, [.int 0, .int 0, .int 0, .int 0])), (o2, .inr (8, [.int 0, .int 0, .int 0, .int 0])), (o4, .inr (8, [.int 0, .int 0, .int 0, .int 0])), (o5, .inr (8, [.int 0, .int 0, .int 0, .int 0])), (o6, .inr (8, [.int 0, .int 0, .int 0, .int 0])), (o7, .inr (8, [.int 0, .int 0, .int 0, .int 0])), (o3, .inr (8, [.int ((0 : Int32) &&& (((1 : Int32) <<< (a2 &&& 31)) ^^^ ((-1) : Int32))), .int 0, .int 0, .int 0]))] H := hP
          have hD : va_D A [(o0, .inr (8, [.int 0, .int 0, .int 0, .int 0])), (o1, .inr (8, [.int 0, .int 0, .int 0, .int 0])), (o2, .inr (8, [.int 0, .int 0, .int 0, .int 0])), (o4, .inr (8, [.int 0, .int 0, .int 0, .int 0])), (o5, .inr (8, [.int 0, .int 0, .int 0, .int 0])), (o6, .inr (8, [.int 0, .int 0, .int 0, .int 0])), (o7, .inr (8, [.int 0, .int 0, .int 0, .int 0])), (o3, .inr (8, [.int ((0 : Int32) &&& (((1 : Int32) <<< (a2 &&& 31)) ^^^ ((-1) : Int32))), .int 0, .int 0, .int 0]))] := hD
          refine lv_iload hx hb dX9_setSkill_53 (lv_at hl 0 rfl) ?_
          have hP9 := hP.sub (ws' := []) [] rfl
          have hD9 := hD.sub (ws' := []) [] (by decide) rfl
          have hK9 := hK.sub (tys' := []) [] rfl
          exact vx_ret (end_z hx hb hr hlocks (by decide) hP9 hD9 hK9 hS () rfl rfl ⟨h_5, h_22, rfl⟩ (Nat.le_of_ble_eq_true rfl) (Nat.le_of_ble_eq_true rfl) dX9_setSkill_55)
        · refine lv_aload hx hb dX9_setSkill_27 (lv_at hl 1 rfl) ?_
          refine va_get (D := D) (ci := 8) (v := .int 0) (C := RX4) (T := TX4) (N := 4) hx hb hts (fun w h => List.mem_cons_of_mem _ (List.mem_append_left _ (List.mem_append_left _ (List.mem_append_left _ (List.mem_append_right _ h))))) hown hK hP 7 rfl rfl 0 (by decide) (hts (.fieldLink RX9 342 "Lastroom$Operator" "skills" "I") (List.mem_of_getElem? (i := 1) rfl)) (fun _ h9 => h9) rfl dX9_setSkill_29 ?_
          refine lv_iconst (v := 1) hx hb dX9_setSkill_32 (by decide) ?_
          refine lv_iload_n hx hb dX9_setSkill_33 rfl (lv_at hl 4 rfl) ?_
          refine lv_ishl hx hb dX9_setSkill_34 ?_
          refine lv_ior hx hb dX9_setSkill_35 ?_
          refine lv_goto (tgt := 50) hx hb dX9_setSkill_36 (by decide) ?_
          refine va_put (D := D) (ci := 8) (v := .int ((0 : Int32) ||| ((1 : Int32) <<< (a2 &&& 31)))) (ty := .int) (C := RX4) (T := TX4) (N := 4) hx hb hts (fun w h => List.mem_cons_of_mem _ (List.mem_append_left _ (List.mem_append_left _ (List.mem_append_left _ (List.mem_append_right _ h))))) tyX4 tyX4_ok nmX4 hown hK hP hD hS 7 rfl rfl 0 (by decide) (hts (.fieldLink RX9 342 "Lastroom$Operator" "skills" "I") (List.mem_of_getElem? (i := 1) rfl)) (fun _ h9 => h9) rfl (by decide +kernel) rfl rfl (Nat.le_of_ble_eq_true rfl) dX9_setSkill_50 (fun H locs hP hD hS => ?_)
          have hP : va_P D vwCl [(o0, .inr (8, [.int 0, .int 0, .int 0, .int 0])), (o1, .inr (8, [.int 0, .int 0, .int 0, .int 0])), (o2, .inr (8, [.int 0, .int 0, .int 0, .int 0])), (o4, .inr (8, [.int 0, .int 0, .int 0, .int 0])), (o5, .inr (8, [.int 0, .int 0, .int 0, .int 0])), (o6, .inr (8, [.int 0, .int 0, .int 0, .int 0])), (o7, .inr (8, [.int 0, .int 0, .int 0, .int 0])), (o3, .inr (8, [.int ((0 : Int32) ||| ((1 : Int32) <<< (a2 &&& 31))), .int 0, .int 0, .int 0]))] H := hP
          have hD : va_D A [(o0, .inr (8, [.int 0, .int 0, .int 0, .int 0])), (o1, .inr (8, [.int 0, .int 0, .int 0, .int 0])), (o2, .inr (8, [.int 0, .int 0, .int 0, .int 0])), (o4, .inr (8, [.int 0, .int 0, .int 0, .int 0])), (o5, .inr (8, [.int 0, .int 0, .int 0, .int 0])), (o6, .inr (8, [.int 0, .int 0, .int 0, .int 0])), (o7, .inr (8, [.int 0, .int 0, .int 0, .int 0])), (o3, .inr (8, [.int ((0 : Int32) ||| ((1 : Int32) <<< (a2 &&& 31))), .int 0, .int 0, .int 0]))] := hD
          refine lv_iload hx hb dX9_setSkill_53 (lv_at hl 0 rfl) ?_
          have hP9 := hP.sub (ws' := []) [] rfl
          have hD9 := hD.sub (ws' := []) [] (by decide) rfl
          have hK9 := hK.sub (tys' := []) [] rfl
          exact vx_ret (end_z hx hb hr hlocks (by decide) hP9 hD9 hK9 hS () rfl rfl ⟨h_5, h_22, rfl⟩ (Nat.le_of_ble_eq_true rfl) (Nat.le_of_ble_eq_true rfl) dX9_setSkill_55)
    · refine W.eq (g2 := F0 m 5 ls [.ref o4]) rfl ?_
      refine lv_astore (lv' := [(4, .ref o4), (0, .ref x), (1, .int a1), (2, .int a2), (3, .int a3)]) hx hb dX9_setSkill_5 hl (by decide) rfl (fun ls hl => ?_)
      refine lv_iload_n hx hb dX9_setSkill_7 rfl (lv_at hl 3 rfl) ?_
      refine lv_iconst (v := 0) hx hb dX9_setSkill_8 (by decide) ?_
      refine lv_iconst (v := 3) hx hb dX9_setSkill_9 (by decide) ?_
      have hFc := va_free (wc := []) hD hS hA [] rfl
      refine vx_callv (vx_runS (As := [.int a2, .int 0, .int 3]) (rest := []) ⟨hx, hb, hml, hown, hts⟩ (c_demandRange l hlt D tC tE H.size a2 0 3) (va_cwS 3 hts gX9_setSkill_X9_demandRange rfl rfl rfl (by decide +kernel) ⟨(Nat.le_of_ble_eq_true rfl), (Nat.le_of_ble_eq_true rfl)⟩) ⟨pg_blind, (pg_pre hP hD hK hG hS hFc [] rfl (by decide) [] rfl _)⟩ rfl rfl hl.1 rfl (lv_room (Nat.le_of_ble_eq_true rfl)) dX9_setSkill_10 ⟨(Nat.le_of_ble_eq_true rfl), (Nat.le_of_ble_eq_true rfl)⟩) hS (fun q _ h => hFc q h) hFc (fun q _ h => hFc q h) (fun E ce q9 u t H1 locs1 ht hvm hw hB hz1 hk1 hS hce hcv hcl => ?_) (fun u_26 t H locs ht hvm hw hB hz1 hk1 hS => ?_)
      · obtain ⟨hE, hf⟩ := hB
        subst hE
        exact vx_widen (k := 2) (n := 12) (Nat.le_of_ble_eq_true rfl) (Nat.le_of_ble_eq_true rfl) (vx_out (fun x hx => (htab x hx).elim) hlocks hce hcv hcl (xx_out hS (Or.inr ⟨rfl, h_5, hf⟩)) hS.2.2 (Nat.le_of_ble_eq_true rfl) (Nat.le_of_ble_eq_true rfl))
      · have h_27 := hw
        obtain ⟨hP, hD, hK⟩ := jn (wr := [(o0, .inr (8, [.int 0, .int 0, .int 0, .int 0])), (o1, .inr (8, [.int 0, .int 0, .int 0, .int 0])), (o2, .inr (8, [.int 0, .int 0, .int 0, .int 0])), (o3, .inr (8, [.int 0, .int 0, .int 0, .int 0])), (o4, .inr (8, [.int 0, .int 0, .int 0, .int 0])), (o5, .inr (8, [.int 0, .int 0, .int 0, .int 0])), (o6, .inr (8, [.int 0, .int 0, .int 0, .int 0])), (o7, .inr (8, [.int 0, .int 0, .int 0, .int 0]))]) (w1 := []) (t1 := []) (tr := [(k5, .object "Lastroom$Operator")]) hP hD hK [] [0, 1, 2, 3, 4, 5, 6, 7] rfl rfl (by decide) (by decide) [0] rfl hk1 hFc hB rfl rfl ht hvm
        have hP : va_P D vwCl [(o0, .inr (8, [.int 0, .int 0, .int 0, .int 0])), (o1, .inr (8, [.int 0, .int 0, .int 0, .int 0])), (o2, .inr (8, [.int 0, .int 0, .int 0, .int 0])), (o3, .inr (8, [.int 0, .int 0, .int 0, .int 0])), (o4, .inr (8, [.int 0, .int 0, .int 0, .int 0])), (o5, .inr (8, [.int 0, .int 0, .int 0, .int 0])), (o6, .inr (8, [.int 0, .int 0, .int 0, .int 0])), (o7, .inr (8, [.int 0, .int 0, .int 0, .int 0]))] H := hP
        have hD : va_D A [(o0, .inr (8, [.int 0, .int 0, .int 0, .int 0])), (o1, .inr (8, [.int 0, .int 0, .int 0, .int 0])), (o2, .inr (8, [.int 0, .int 0, .int 0, .int 0])), (o3, .inr (8, [.int 0, .int 0, .int 0, .int 0])), (o4, .inr (8, [.int 0, .int 0, .int 0, .int 0])), (o5, .inr (8, [.int 0, .int 0, .int 0, .int 0])), (o6, .inr (8, [.int 0, .int 0, .int 0, .int 0])), (o7, .inr (8, [.int 0, .int 0, .int 0, .int 0]))] := hD
        have hK : va_K D vwCl [(k5, .object "Lastroom$Operator")] s := hK
        refine W.widen (k := 2) (n := 12) (Nat.le_of_ble_eq_true rfl) (Nat.le_of_ble_eq_true rfl) ?_
        refine lv_aload hx hb dX9_setSkill_13 (lv_at hl 0 rfl) ?_
        refine lv_iload_n hx hb dX9_setSkill_15 rfl (lv_at hl 3 rfl) ?_
        have hFc := va_free (wc := [(o4, .inr (8, [.int 0, .int 0, .int 0, .int 0]))]) hD hS hA [4] rfl
        refine va_calli (va_runV (As := [.int a2]) (rest := []) ⟨hx, hb, hml, hown, hts⟩ (c_hasSkill l D tC tE H.size o4 a2) (cwV 1 hts gX9_setSkill_X4_hasSkill rfl rfl rfl (by decide +kernel) ⟨(Nat.le_of_ble_eq_true rfl), (Nat.le_of_ble_eq_true rfl)⟩) ⟨pg_blind, (va_recv hK hP (ci := 8) (q0 := 4) rfl rfl), (pg_pre hP hD hK hG hS hFc [4] rfl (by decide) [] rfl _)⟩ rfl rfl hl.1 rfl (lv_room (Nat.le_of_ble_eq_true rfl)) dX9_setSkill_16 ⟨(Nat.le_of_ble_eq_true rfl), (Nat.le_of_ble_eq_true rfl)⟩) hS (fun q _ h => hFc q h) hFc (fun r_28 u_29 t H locs ht hvm hw hB hz1 hk1 hS => ?_)
        subst hw
        obtain ⟨hP, hD, hK⟩ := jn (wr := [(o0, .inr (8, [.int 0, .int 0, .int 0, .int 0])), (o1, .inr (8, [.int 0, .int 0, .int 0, .int 0])), (o2, .inr (8, [.int 0, .int 0, .int 0, .int 0])), (o3, .inr (8, [.int 0, .int 0, .int 0, .int 0])), (o5, .inr (8, [.int 0, .int 0, .int 0, .int 0])), (o6, .inr (8, [.int 0, .int 0, .int 0, .int 0])), (o7, .inr (8, [.int 0, .int 0, .int 0, .int 0]))]) (w1 := [(o4, .inr (8, [.int 0, .int 0, .int 0, .int 0]))]) (t1 := []) (tr := [(k5, .object "Lastroom$Operator")]) hP hD hK [4] [0, 1, 2, 3, 5, 6, 7] rfl rfl (by decide) (by decide) [0] rfl hk1 hFc hB rfl rfl ht hvm
        have hP : va_P D vwCl [(o0, .inr (8, [.int 0, .int 0, .int 0, .int 0])), (o1, .inr (8, [.int 0, .int 0, .int 0, .int 0])), (o2, .inr (8, [.int 0, .int 0, .int 0, .int 0])), (o3, .inr (8, [.int 0, .int 0, .int 0, .int 0])), (o5, .inr (8, [.int 0, .int 0, .int 0, .int 0])), (o6, .inr (8, [.int 0, .int 0, .int 0, .int 0])), (o7, .inr (8, [.int 0, .int 0, .int 0, .int 0])), (o4, .inr (8, [.int 0, .int 0, .int 0, .int 0]))] H := hP
        have hD : va_D A [(o0, .inr (8, [.int 0, .int 0, .int 0, .int 0])), (o1, .inr (8, [.int 0, .int 0, .int 0, .int 0])), (o2, .inr (8, [.int 0, .int 0, .int 0, .int 0])), (o3, .inr (8, [.int 0, .int 0, .int 0, .int 0])), (o5, .inr (8, [.int 0, .int 0, .int 0, .int 0])), (o6, .inr (8, [.int 0, .int 0, .int 0, .int 0])), (o7, .inr (8, [.int 0, .int 0, .int 0, .int 0])), (o4, .inr (8, [.int 0, .int 0, .int 0, .int 0]))] := hD
        have hK : va_K D vwCl [(k5, .object "Lastroom$Operator")] s := hK
        refine W.widen (k := 2) (n := 12) (Nat.le_of_ble_eq_true rfl) (Nat.le_of_ble_eq_true rfl) ?_
        refine lv_istore (lv' := [(5, .int 0), (4, .ref o4), (0, .ref x), (1, .int a1), (2, .int a2), (3, .int a3)]) hx hb dX9_setSkill_19 hl (by decide) rfl (fun ls hl => ?_)
        refine lv_aload hx hb dX9_setSkill_21 (lv_at hl 1 rfl) ?_
        refine lv_iload_n hx hb dX9_setSkill_23 rfl (lv_at hl 5 rfl) ?_
        refine lv_if_eq (tgt := 39) hx hb dX9_setSkill_24 (by decide) (fun c_30 => ?_) (fun c_30 => ?_)
        · refine lv_aload hx hb dX9_setSkill_39 (lv_at hl 1 rfl) ?_
          refine va_get (D := D) (ci := 8) (v := .int 0) (C := RX4) (T := TX4) (N := 4) hx hb hts (fun w h => List.mem_cons_of_mem _ (List.mem_append_left _ (List.mem_append_left _ (List.mem_append_left _ (List.mem_append_right _ h))))) hown hK hP 7 rfl rfl 0 (by decide) (hts (.fieldLink RX9 342 "Lastroom$Operator" "skills" "I") (List.mem_of_getElem? (i := 1) rfl)) (fun _ h9 => h9) rfl dX9_setSkill_41 ?_
          refine lv_iconst (v := 1) hx hb dX9_setSkill_44 (by decide) ?_
          refine lv_iload_n hx hb dX9_setSkill_45 rfl (lv_at hl 4 rfl) ?_
          refine lv_ishl hx hb dX9_setSkill_46 ?_
          refine lv_iconst (v := (-1)) hx hb dX9_setSkill_47 (by decide) ?_
          refine lv_ixor hx hb dX9_setSkill_48 ?_
          refine lv_iand hx hb dX9_setSkill_49 ?_
          refine va_put (D := D) (ci := 8) (v := .int ((0 : Int32) &&& (((1 : Int32) <<< (a2 &&& 31)) ^^^ ((-1) : Int32)))) (ty := .int) (C := RX4) (T := TX4) (N := 4) hx hb hts (fun w h => List.mem_cons_of_mem _ (List.mem_append_left _ (List.mem_append_left _ (List.mem_append_left _ (List.mem_append_right _ h))))) tyX4 tyX4_ok nmX4 hown hK hP hD hS 7 rfl rfl 0 (by decide) (hts (.fieldLink RX9 342 "Lastroom$Operator" "skills" "I") (List.mem_of_getElem? (i := 1) rfl)) (fun _ h9 => h9) rfl (by decide +kernel) rfl rfl (Nat.le_of_ble_eq_true rfl) dX9_setSkill_50 (fun H locs hP hD hS => ?_)
          have hP : va_P D vwCl [(o0, .inr (8, [.int 0, .int 0, .int 0, .int 0])), (o1, .inr (8, [.int 0, .int 0, .int 0, .int 0])), (o2, .inr (8, [.int 0, .int 0, .int 0, .int 0])), (o3, .inr (8, [.int 0, .int 0, .int 0, .int 0])), (o5, .inr (8, [.int 0, .int 0, .int 0, .int 0])), (o6, .inr (8, [.int 0, .int 0, .int 0, .int 0])), (o7, .inr (8, [.int 0, .int 0, .int 0, .int 0])), (o4, .inr (8, [.int ((0 : Int32) &&& (((1 : Int32) <<< (a2 &&& 31)) ^^^ ((-1) : Int32))), .int 0, .int 0, .int 0]))] H := hP
          have hD : va_D A [(o0, .inr (8, [.int 0, .int 0, .int 0, .int 0])), (o1, .inr (8, [.int 0, .int 0, .int 0, .int 0])), (o2, .inr (8, [.int 0, .int 0, .int 0, .int 0])), (o3, .inr (8, [.int 0, .int 0, .int 0, .int 0])), (o5, .inr (8, [.int 0, .int 0, .int 0, .int 0])), (o6, .inr (8, [.int 0, .int 0, .int 0, .int 0])), (o7, .inr (8, [.int 0, .int 0, .int 0, .int 0])), (o4, .inr (8, [.int ((0 : Int32) &&& (((1 : Int32) <<< (a2 &&& 31)) ^^^ ((-1) : Int32))), .int 0, .int 0, .int 0]))] := hD
          refine lv_iload hx hb dX9_setSkill_53 (lv_at hl 0 rfl) ?_
          have hP9 := hP.sub (ws' := []) [] rfl
          have hD9 := hD.sub (ws' := []) [] (by decide) rfl
          have hK9 := hK.sub (tys' := []) [] rfl
          exact vx_ret (end_z hx hb hr hlocks (by decide) hP9 hD9 hK9 hS () rfl rfl ⟨h_5, h_27, rfl⟩ (Nat.le_of_ble_eq_true rfl) (Nat.le_of_ble_eq_true rfl) dX9_setSkill_55)
        · refine lv_aload hx hb dX9_setSkill_27 (lv_at hl 1 rfl) ?_
          refine va_get (D := D) (ci := 8) (v := .int 0) (C := RX4) (T := TX4) (N := 4) hx hb hts (fun w h => List.mem_cons_of_mem _ (List.mem_append_left _ (List.mem_append_left _ (List.mem_append_left _ (List.mem_append_right _ h))))) hown hK hP 7 rfl rfl 0 (by decide) (hts (.fieldLink RX9 342 "Lastroom$Operator" "skills" "I") (List.mem_of_getElem? (i := 1) rfl)) (fun _ h9 => h9) rfl dX9_setSkill_29 ?_
          refine lv_iconst (v := 1) hx hb dX9_setSkill_32 (by decide) ?_
          refine lv_iload_n hx hb dX9_setSkill_33 rfl (lv_at hl 4 rfl) ?_
          refine lv_ishl hx hb dX9_setSkill_34 ?_
          refine lv_ior hx hb dX9_setSkill_35 ?_
          refine lv_goto (tgt := 50) hx hb dX9_setSkill_36 (by decide) ?_
          refine va_put (D := D) (ci := 8) (v := .int ((0 : Int32) ||| ((1 : Int32) <<< (a2 &&& 31)))) (ty := .int) (C := RX4) (T := TX4) (N := 4) hx hb hts (fun w h => List.mem_cons_of_mem _ (List.mem_append_left _ (List.mem_append_left _ (List.mem_append_left _ (List.mem_append_right _ h))))) tyX4 tyX4_ok nmX4 hown hK hP hD hS 7 rfl rfl 0 (by decide) (hts (.fieldLink RX9 342 "Lastroom$Operator" "skills" "I") (List.mem_of_getElem? (i := 1) rfl)) (fun _ h9 => h9) rfl (by decide +kernel) rfl rfl (Nat.le_of_ble_eq_true rfl) dX9_setSkill_50 (fun H locs hP hD hS => ?_)
          have hP : va_P D vwCl [(o0, .inr (8, [.int 0, .int 0, .int 0, .int 0])), (o1, .inr (8, [.int 0, .int 0, .int 0, .int 0])), (o2, .inr (8, [.int 0, .int 0, .int 0, .int 0])), (o3, .inr (8, [.int 0, .int 0, .int 0, .int 0])), (o5, .inr (8, [.int 0, .int 0, .int 0, .int 0])), (o6, .inr (8, [.int 0, .int 0, .int 0, .int 0])), (o7, .inr (8, [.int 0, .int 0, .int 0, .int 0])), (o4, .inr (8, [.int ((0 : Int32) ||| ((1 : Int32) <<< (a2 &&& 31))), .int 0, .int 0, .int 0]))] H := hP
          have hD : va_D A [(o0, .inr (8, [.int 0, .int 0, .int 0, .int 0])), (o1, .inr (8, [.int 0, .int 0, .int 0, .int 0])), (o2, .inr (8, [.int 0, .int 0, .int 0, .int 0])), (o3, .inr (8, [.int 0, .int 0, .int 0, .int 0])), (o5, .inr (8, [.int 0, .int 0, .int 0, .int 0])), (o6, .inr (8, [.int 0, .int 0, .int 0, .int 0])), (o7, .inr (8, [.int 0, .int 0, .int 0, .int 0])), (o4, .inr (8, [.int ((0 : Int32) ||| ((1 : Int32) <<< (a2 &&& 31))), .int 0, .int 0, .int 0]))] := hD
          refine lv_iload hx hb dX9_setSkill_53 (lv_at hl 0 rfl) ?_
          have hP9 := hP.sub (ws' := []) [] rfl
          have hD9 := hD.sub (ws' := []) [] (by decide) rfl
          have hK9 := hK.sub (tys' := []) [] rfl
          exact vx_ret (end_z hx hb hr hlocks (by decide) hP9 hD9 hK9 hS () rfl rfl ⟨h_5, h_27, rfl⟩ (Nat.le_of_ble_eq_true rfl) (Nat.le_of_ble_eq_true rfl) dX9_setSkill_55)
    · refine W.eq (g2 := F0 m 5 ls [.ref o5]) rfl ?_
      refine lv_astore (lv' := [(4, .ref o5), (0, .ref x), (1, .int a1), (2, .int a2), (3, .int a3)]) hx hb dX9_setSkill_5 hl (by decide) rfl (fun ls hl => ?_)
      refine lv_iload_n hx hb dX9_setSkill_7 rfl (lv_at hl 3 rfl) ?_
      refine lv_iconst (v := 0) hx hb dX9_setSkill_8 (by decide) ?_
      refine lv_iconst (v := 3) hx hb dX9_setSkill_9 (by decide) ?_
      have hFc := va_free (wc := []) hD hS hA [] rfl
      refine vx_callv (vx_runS (As := [.int a2, .int 0, .int 3]) (rest := []) ⟨hx, hb, hml, hown, hts⟩ (c_demandRange l hlt D tC tE H.size a2 0 3) (va_cwS 3 hts gX9_setSkill_X9_demandRange rfl rfl rfl (by decide +kernel) ⟨(Nat.le_of_ble_eq_true rfl), (Nat.le_of_ble_eq_true rfl)⟩) ⟨pg_blind, (pg_pre hP hD hK hG hS hFc [] rfl (by decide) [] rfl _)⟩ rfl rfl hl.1 rfl (lv_room (Nat.le_of_ble_eq_true rfl)) dX9_setSkill_10 ⟨(Nat.le_of_ble_eq_true rfl), (Nat.le_of_ble_eq_true rfl)⟩) hS (fun q _ h => hFc q h) hFc (fun q _ h => hFc q h) (fun E ce q9 u t H1 locs1 ht hvm hw hB hz1 hk1 hS hce hcv hcl => ?_) (fun u_31 t H locs ht hvm hw hB hz1 hk1 hS => ?_)
      · obtain ⟨hE, hf⟩ := hB
        subst hE
        exact vx_widen (k := 2) (n := 12) (Nat.le_of_ble_eq_true rfl) (Nat.le_of_ble_eq_true rfl) (vx_out (fun x hx => (htab x hx).elim) hlocks hce hcv hcl (xx_out hS (Or.inr ⟨rfl, h_5, hf⟩)) hS.2.2 (Nat.le_of_ble_eq_true rfl) (Nat.le_of_ble_eq_true rfl))
      · have h_32 := hw
        obtain ⟨hP, hD, hK⟩ := jn (wr := [(o0, .inr (8, [.int 0, .int 0, .int 0, .int 0])), (o1, .inr (8, [.int 0, .int 0, .int 0, .int 0])), (o2, .inr (8, [.int 0, .int 0, .int 0, .int 0])), (o3, .inr (8, [.int 0, .int 0, .int 0, .int 0])), (o4, .inr (8, [.int 0, .int 0, .int 0, .int 0])), (o5, .inr (8, [.int 0, .int 0, .int 0, .int 0])), (o6, .inr (8, [.int 0, .int 0, .int 0, .int 0])), (o7, .inr (8, [.int 0, .int 0, .int 0, .int 0]))]) (w1 := []) (t1 := []) (tr := [(k5, .object "Lastroom$Operator")]) hP hD hK [] [0, 1, 2, 3, 4, 5, 6, 7] rfl rfl (by decide) (by decide) [0] rfl hk1 hFc hB rfl rfl ht hvm
        have hP : va_P D vwCl [(o0, .inr (8, [.int 0, .int 0, .int 0, .int 0])), (o1, .inr (8, [.int 0, .int 0, .int 0, .int 0])), (o2, .inr (8, [.int 0, .int 0, .int 0, .int 0])), (o3, .inr (8, [.int 0, .int 0, .int 0, .int 0])), (o4, .inr (8, [.int 0, .int 0, .int 0, .int 0])), (o5, .inr (8, [.int 0, .int 0, .int 0, .int 0])), (o6, .inr (8, [.int 0, .int 0, .int 0, .int 0])), (o7, .inr (8, [.int 0, .int 0, .int 0, .int 0]))] H := hP
        have hD : va_D A [(o0, .inr (8, [.int 0, .int 0, .int 0, .int 0])), (o1, .inr (8, [.int 0, .int 0, .int 0, .int 0])), (o2, .inr (8, [.int 0, .int 0, .int 0, .int 0])), (o3, .inr (8, [.int 0, .int 0, .int 0, .int 0])), (o4, .inr (8, [.int 0, .int 0, .int 0, .int 0])), (o5, .inr (8, [.int 0, .int 0, .int 0, .int 0])), (o6, .inr (8, [.int 0, .int 0, .int 0, .int 0])), (o7, .inr (8, [.int 0, .int 0, .int 0, .int 0]))] := hD
        have hK : va_K D vwCl [(k5, .object "Lastroom$Operator")] s := hK
        refine W.widen (k := 2) (n := 12) (Nat.le_of_ble_eq_true rfl) (Nat.le_of_ble_eq_true rfl) ?_
        refine lv_aload hx hb dX9_setSkill_13 (lv_at hl 0 rfl) ?_
        refine lv_iload_n hx hb dX9_setSkill_15 rfl (lv_at hl 3 rfl) ?_
        have hFc := va_free (wc := [(o5, .inr (8, [.int 0, .int 0, .int 0, .int 0]))]) hD hS hA [5] rfl
        refine va_calli (va_runV (As := [.int a2]) (rest := []) ⟨hx, hb, hml, hown, hts⟩ (c_hasSkill l D tC tE H.size o5 a2) (cwV 1 hts gX9_setSkill_X4_hasSkill rfl rfl rfl (by decide +kernel) ⟨(Nat.le_of_ble_eq_true rfl), (Nat.le_of_ble_eq_true rfl)⟩) ⟨pg_blind, (va_recv hK hP (ci := 8) (q0 := 5) rfl rfl), (pg_pre hP hD hK hG hS hFc [5] rfl (by decide) [] rfl _)⟩ rfl rfl hl.1 rfl (lv_room (Nat.le_of_ble_eq_true rfl)) dX9_setSkill_16 ⟨(Nat.le_of_ble_eq_true rfl), (Nat.le_of_ble_eq_true rfl)⟩) hS (fun q _ h => hFc q h) hFc (fun r_33 u_34 t H locs ht hvm hw hB hz1 hk1 hS => ?_)
        subst hw
        obtain ⟨hP, hD, hK⟩ := jn (wr := [(o0, .inr (8, [.int 0, .int 0, .int 0, .int 0])), (o1, .inr (8, [.int 0, .int 0, .int 0, .int 0])), (o2, .inr (8, [.int 0, .int 0, .int 0, .int 0])), (o3, .inr (8, [.int 0, .int 0, .int 0, .int 0])), (o4, .inr (8, [.int 0, .int 0, .int 0, .int 0])), (o6, .inr (8, [.int 0, .int 0, .int 0, .int 0])), (o7, .inr (8, [.int 0, .int 0, .int 0, .int 0]))]) (w1 := [(o5, .inr (8, [.int 0, .int 0, .int 0, .int 0]))]) (t1 := []) (tr := [(k5, .object "Lastroom$Operator")]) hP hD hK [5] [0, 1, 2, 3, 4, 6, 7] rfl rfl (by decide) (by decide) [0] rfl hk1 hFc hB rfl rfl ht hvm
        have hP : va_P D vwCl [(o0, .inr (8, [.int 0, .int 0, .int 0, .int 0])), (o1, .inr (8, [.int 0, .int 0, .int 0, .int 0])), (o2, .inr (8, [.int 0, .int 0, .int 0, .int 0])), (o3, .inr (8, [.int 0, .int 0, .int 0, .int 0])), (o4, .inr (8, [.int 0, .int 0, .int 0, .int 0])), (o6, .inr (8, [.int 0, .int 0, .int 0, .int 0])), (o7, .inr (8, [.int 0, .int 0, .int 0, .int 0])), (o5, .inr (8, [.int 0, .int 0, .int 0, .int 0]))] H := hP
        have hD : va_D A [(o0, .inr (8, [.int 0, .int 0, .int 0, .int 0])), (o1, .inr (8, [.int 0, .int 0, .int 0, .int 0])), (o2, .inr (8, [.int 0, .int 0, .int 0, .int 0])), (o3, .inr (8, [.int 0, .int 0, .int 0, .int 0])), (o4, .inr (8, [.int 0, .int 0, .int 0, .int 0])), (o6, .inr (8, [.int 0, .int 0, .int 0, .int 0])), (o7, .inr (8, [.int 0, .int 0, .int 0, .int 0])), (o5, .inr (8, [.int 0, .int 0, .int 0, .int 0]))] := hD
        have hK : va_K D vwCl [(k5, .object "Lastroom$Operator")] s := hK
        refine W.widen (k := 2) (n := 12) (Nat.le_of_ble_eq_true rfl) (Nat.le_of_ble_eq_true rfl) ?_
        refine lv_istore (lv' := [(5, .int 0), (4, .ref o5), (0, .ref x), (1, .int a1), (2, .int a2), (3, .int a3)]) hx hb dX9_setSkill_19 hl (by decide) rfl (fun ls hl => ?_)
        refine lv_aload hx hb dX9_setSkill_21 (lv_at hl 1 rfl) ?_
        refine lv_iload_n hx hb dX9_setSkill_23 rfl (lv_at hl 5 rfl) ?_
        refine lv_if_eq (tgt := 39) hx hb dX9_setSkill_24 (by decide) (fun c_35 => ?_) (fun c_35 => ?_)
        · refine lv_aload hx hb dX9_setSkill_39 (lv_at hl 1 rfl) ?_
          refine va_get (D := D) (ci := 8) (v := .int 0) (C := RX4) (T := TX4) (N := 4) hx hb hts (fun w h => List.mem_cons_of_mem _ (List.mem_append_left _ (List.mem_append_left _ (List.mem_append_left _ (List.mem_append_right _ h))))) hown hK hP 7 rfl rfl 0 (by decide) (hts (.fieldLink RX9 342 "Lastroom$Operator" "skills" "I") (List.mem_of_getElem? (i := 1) rfl)) (fun _ h9 => h9) rfl dX9_setSkill_41 ?_
          refine lv_iconst (v := 1) hx hb dX9_setSkill_44 (by decide) ?_
          refine lv_iload_n hx hb dX9_setSkill_45 rfl (lv_at hl 4 rfl) ?_
          refine lv_ishl hx hb dX9_setSkill_46 ?_
          refine lv_iconst (v := (-1)) hx hb dX9_setSkill_47 (by decide) ?_
          refine lv_ixor hx hb dX9_setSkill_48 ?_
          refine lv_iand hx hb dX9_setSkill_49 ?_
          refine va_put (D := D) (ci := 8) (v := .int ((0 : Int32) &&& (((1 : Int32) <<< (a2 &&& 31)) ^^^ ((-1) : Int32)))) (ty := .int) (C := RX4) (T := TX4) (N := 4) hx hb hts (fun w h => List.mem_cons_of_mem _ (List.mem_append_left _ (List.mem_append_left _ (List.mem_append_left _ (List.mem_append_right _ h))))) tyX4 tyX4_ok nmX4 hown hK hP hD hS 7 rfl rfl 0 (by decide) (hts (.fieldLink RX9 342 "Lastroom$Operator" "skills" "I") (List.mem_of_getElem? (i := 1) rfl)) (fun _ h9 => h9) rfl (by decide +kernel) rfl rfl (Nat.le_of_ble_eq_true rfl) dX9_setSkill_50 (fun H locs hP hD hS => ?_)
          have hP : va_P D vwCl [(o0, .inr (8, [.int 0, .int 0, .int 0, .int 0])), (o1, .inr (8, [.int 0, .int 0, .int 0, .int 0])), (o2, .inr (8, [.int 0, .int 0, .int 0, .int 0])), (o3, .inr (8, [.int 0, .int 0, .int 0, .int 0])), (o4, .inr (8, [.int 0, .int 0, .int 0, .int 0])), (o6, .inr (8, [.int 0, .int 0, .int 0, .int 0])), (o7, .inr (8, [.int 0, .int 0, .int 0, .int 0])), (o5, .inr (8, [.int ((0 : Int32) &&& (((1 : Int32) <<< (a2 &&& 31)) ^^^ ((-1) : Int32))), .int 0, .int 0, .int 0]))] H := hP
          have hD : va_D A [(o0, .inr (8, [.int 0, .int 0, .int 0, .int 0])), (o1, .inr (8, [.int 0, .int 0, .int 0, .int 0])), (o2, .inr (8, [.int 0, .int 0, .int 0, .int 0])), (o3, .inr (8, [.int 0, .int 0, .int 0, .int 0])), (o4, .inr (8, [.int 0, .int 0, .int 0, .int 0])), (o6, .inr (8, [.int 0, .int 0, .int 0, .int 0])), (o7, .inr (8, [.int 0, .int 0, .int 0, .int 0])), (o5, .inr (8, [.int ((0 : Int32) &&& (((1 : Int32) <<< (a2 &&& 31)) ^^^ ((-1) : Int32))), .int 0, .int 0, .int 0]))] := hD
          refine lv_iload hx hb dX9_setSkill_53 (lv_at hl 0 rfl) ?_
          have hP9 := hP.sub (ws' := []) [] rfl
          have hD9 := hD.sub (ws' := []) [] (by decide) rfl
          have hK9 := hK.sub (tys' := []) [] rfl
          exact vx_ret (end_z hx hb hr hlocks (by decide) hP9 hD9 hK9 hS () rfl rfl ⟨h_5, h_32, rfl⟩ (Nat.le_of_ble_eq_true rfl) (Nat.le_of_ble_eq_true rfl) dX9_setSkill_55)
        · refine lv_aload hx hb dX9_setSkill_27 (lv_at hl 1 rfl) ?_
          refine va_get (D := D) (ci := 8) (v := .int 0) (C := RX4) (T := TX4) (N := 4) hx hb hts (fun w h => List.mem_cons_of_mem _ (List.mem_append_left _ (List.mem_append_left _ (List.mem_append_left _ (List.mem_append_right _ h))))) hown hK hP 7 rfl rfl 0 (by decide) (hts (.fieldLink RX9 342 "Lastroom$Operator" "skills" "I") (List.mem_of_getElem? (i := 1) rfl)) (fun _ h9 => h9) rfl dX9_setSkill_29 ?_
          refine lv_iconst (v := 1) hx hb dX9_setSkill_32 (by decide) ?_
          refine lv_iload_n hx hb dX9_setSkill_33 rfl (lv_at hl 4 rfl) ?_
          refine lv_ishl hx hb dX9_setSkill_34 ?_
          refine lv_ior hx hb dX9_setSkill_35 ?_
          refine lv_goto (tgt := 50) hx hb dX9_setSkill_36 (by decide) ?_
          refine va_put (D := D) (ci := 8) (v := .int ((0 : Int32) ||| ((1 : Int32) <<< (a2 &&& 31)))) (ty := .int) (C := RX4) (T := TX4) (N := 4) hx hb hts (fun w h => List.mem_cons_of_mem _ (List.mem_append_left _ (List.mem_append_left _ (List.mem_append_left _ (List.mem_append_right _ h))))) tyX4 tyX4_ok nmX4 hown hK hP hD hS 7 rfl rfl 0 (by decide) (hts (.fieldLink RX9 342 "Lastroom$Operator" "skills" "I") (List.mem_of_getElem? (i := 1) rfl)) (fun _ h9 => h9) rfl (by decide +kernel) rfl rfl (Nat.le_of_ble_eq_true rfl) dX9_setSkill_50 (fun H locs hP hD hS => ?_)
          have hP : va_P D vwCl [(o0, .inr (8, [.int 0, .int 0, .int 0, .int 0])), (o1, .inr (8, [.int 0, .int 0, .int 0, .int 0])), (o2, .inr (8, [.int 0, .int 0, .int 0, .int 0])), (o3, .inr (8, [.int 0, .int 0, .int 0, .int 0])), (o4, .inr (8, [.int 0, .int 0, .int 0, .int 0])), (o6, .inr (8, [.int 0, .int 0, .int 0, .int 0])), (o7, .inr (8, [.int 0, .int 0, .int 0, .int 0])), (o5, .inr (8, [.int ((0 : Int32) ||| ((1 : Int32) <<< (a2 &&& 31))), .int 0, .int 0, .int 0]))] H := hP
          have hD : va_D A [(o0, .inr (8, [.int 0, .int 0, .int 0, .int 0])), (o1, .inr (8, [.int 0, .int 0, .int 0, .int 0])), (o2, .inr (8, [.int 0, .int 0, .int 0, .int 0])), (o3, .inr (8, [.int 0, .int 0, .int 0, .int 0])), (o4, .inr (8, [.int 0, .int 0, .int 0, .int 0])), (o6, .inr (8, [.int 0, .int 0, .int 0, .int 0])), (o7, .inr (8, [.int 0, .int 0, .int 0, .int 0])), (o5, .inr (8, [.int ((0 : Int32) ||| ((1 : Int32) <<< (a2 &&& 31))), .int 0, .int 0, .int 0]))] := hD
          refine lv_iload hx hb dX9_setSkill_53 (lv_at hl 0 rfl) ?_
          have hP9 := hP.sub (ws' := []) [] rfl
          have hD9 := hD.sub (ws' := []) [] (by decide) rfl
          have hK9 := hK.sub (tys' := []) [] rfl
          exact vx_ret (end_z hx hb hr hlocks (by decide) hP9 hD9 hK9 hS () rfl rfl ⟨h_5, h_32, rfl⟩ (Nat.le_of_ble_eq_true rfl) (Nat.le_of_ble_eq_true rfl) dX9_setSkill_55)
    · refine W.eq (g2 := F0 m 5 ls [.ref o6]) rfl ?_
      refine lv_astore (lv' := [(4, .ref o6), (0, .ref x), (1, .int a1), (2, .int a2), (3, .int a3)]) hx hb dX9_setSkill_5 hl (by decide) rfl (fun ls hl => ?_)
      refine lv_iload_n hx hb dX9_setSkill_7 rfl (lv_at hl 3 rfl) ?_
      refine lv_iconst (v := 0) hx hb dX9_setSkill_8 (by decide) ?_
      refine lv_iconst (v := 3) hx hb dX9_setSkill_9 (by decide) ?_
      have hFc := va_free (wc := []) hD hS hA [] rfl
      refine vx_callv (vx_runS (As := [.int a2, .int 0, .int 3]) (rest := []) ⟨hx, hb, hml, hown, hts⟩ (c_demandRange l hlt D tC tE H.size a2 0 3) (va_cwS 3 hts gX9_setSkill_X9_demandRange rfl rfl rfl (by decide +kernel) ⟨(Nat.le_of_ble_eq_true rfl), (Nat.le_of_ble_eq_true rfl)⟩) ⟨pg_blind, (pg_pre hP hD hK hG hS hFc [] rfl (by decide) [] rfl _)⟩ rfl rfl hl.1 rfl (lv_room (Nat.le_of_ble_eq_true rfl)) dX9_setSkill_10 ⟨(Nat.le_of_ble_eq_true rfl), (Nat.le_of_ble_eq_true rfl)⟩) hS (fun q _ h => hFc q h) hFc (fun q _ h => hFc q h) (fun E ce q9 u t H1 locs1 ht hvm hw hB hz1 hk1 hS hce hcv hcl => ?_) (fun u_36 t H locs ht hvm hw hB hz1 hk1 hS => ?_)
      · obtain ⟨hE, hf⟩ := hB
        subst hE
        exact vx_widen (k := 2) (n := 12) (Nat.le_of_ble_eq_true rfl) (Nat.le_of_ble_eq_true rfl) (vx_out (fun x hx => (htab x hx).elim) hlocks hce hcv hcl (xx_out hS (Or.inr ⟨rfl, h_5, hf⟩)) hS.2.2 (Nat.le_of_ble_eq_true rfl) (Nat.le_of_ble_eq_true rfl))
      · have h_37 := hw
        obtain ⟨hP, hD, hK⟩ := jn (wr := [(o0, .inr (8, [.int 0, .int 0, .int 0, .int 0])), (o1, .inr (8, [.int 0, .int 0, .int 0, .int 0])), (o2, .inr (8, [.int 0, .int 0, .int 0, .int 0])), (o3, .inr (8, [.int 0, .int 0, .int 0, .int 0])), (o4, .inr (8, [.int 0, .int 0, .int 0, .int 0])), (o5, .inr (8, [.int 0, .int 0, .int 0, .int 0])), (o6, .inr (8, [.int 0, .int 0, .int 0, .int 0])), (o7, .inr (8, [.int 0, .int 0, .int 0, .int 0]))]) (w1 := []) (t1 := []) (tr := [(k5, .object "Lastroom$Operator")]) hP hD hK [] [0, 1, 2, 3, 4, 5, 6, 7] rfl rfl (by decide) (by decide) [0] rfl hk1 hFc hB rfl rfl ht hvm
        have hP : va_P D vwCl [(o0, .inr (8, [.int 0, .int 0, .int 0, .int 0])), (o1, .inr (8, [.int 0, .int 0, .int 0, .int 0])), (o2, .inr (8, [.int 0, .int 0, .int 0, .int 0])), (o3, .inr (8, [.int 0, .int 0, .int 0, .int 0])), (o4, .inr (8, [.int 0, .int 0, .int 0, .int 0])), (o5, .inr (8, [.int 0, .int 0, .int 0, .int 0])), (o6, .inr (8, [.int 0, .int 0, .int 0, .int 0])), (o7, .inr (8, [.int 0, .int 0, .int 0, .int 0]))] H := hP
        have hD : va_D A [(o0, .inr (8, [.int 0, .int 0, .int 0, .int 0])), (o1, .inr (8, [.int 0, .int 0, .int 0, .int 0])), (o2, .inr (8, [.int 0, .int 0, .int 0, .int 0])), (o3, .inr (8, [.int 0, .int 0, .int 0, .int 0])), (o4, .inr (8, [.int 0, .int 0, .int 0, .int 0])), (o5, .inr (8, [.int 0, .int 0, .int 0, .int 0])), (o6, .inr (8, [.int 0, .int 0, .int 0, .int 0])), (o7, .inr (8, [.int 0, .int 0, .int 0, .int 0]))] := hD
        have hK : va_K D vwCl [(k5, .object "Lastroom$Operator")] s := hK
        refine W.widen (k := 2) (n := 12) (Nat.le_of_ble_eq_true rfl) (Nat.le_of_ble_eq_true rfl) ?_
        refine lv_aload hx hb dX9_setSkill_13 (lv_at hl 0 rfl) ?_
        refine lv_iload_n hx hb dX9_setSkill_15 rfl (lv_at hl 3 rfl) ?_
        have hFc := va_free (wc := [(o6, .inr (8, [.int 0, .int 0, .int 0, .int 0]))]) hD hS hA [6] rfl
        refine va_calli (va_runV (As := [.int a2]) (rest := []) ⟨hx, hb, hml, hown, hts⟩ (c_hasSkill l D tC tE H.size o6 a2) (cwV 1 hts gX9_setSkill_X4_hasSkill rfl rfl rfl (by decide +kernel) ⟨(Nat.le_of_ble_eq_true rfl), (Nat.le_of_ble_eq_true rfl)⟩) ⟨pg_blind, (va_recv hK hP (ci := 8) (q0 := 6) rfl rfl), (pg_pre hP hD hK hG hS hFc [6] rfl (by decide) [] rfl _)⟩ rfl rfl hl.1 rfl (lv_room (Nat.le_of_ble_eq_true rfl)) dX9_setSkill_16 ⟨(Nat.le_of_ble_eq_true rfl), (Nat.le_of_ble_eq_true rfl)⟩) hS (fun q _ h => hFc q h) hFc (fun r_38 u_39 t H locs ht hvm hw hB hz1 hk1 hS => ?_)
        subst hw
        obtain ⟨hP, hD, hK⟩ := jn (wr := [(o0, .inr (8, [.int 0, .int 0, .int 0, .int 0])), (o1, .inr (8, [.int 0, .int 0, .int 0, .int 0])), (o2, .inr (8, [.int 0, .int 0, .int 0, .int 0])), (o3, .inr (8, [.int 0, .int 0, .int 0, .int 0])), (o4, .inr (8, [.int 0, .int 0, .int 0, .int 0])), (o5, .inr (8, [.int 0, .int 0, .int 0, .int 0])), (o7, .inr (8, [.int 0, .int 0, .int 0, .int 0]))]) (w1 := [(o6, .inr (8, [.int 0, .int 0, .int 0, .int 0]))]) (t1 := []) (tr := [(k5, .object "Lastroom$Operator")]) hP hD hK [6] [0, 1, 2, 3, 4, 5, 7] rfl rfl (by decide) (by decide) [0] rfl hk1 hFc hB rfl rfl ht hvm
        have hP : va_P D vwCl [(o0, .inr (8, [.int 0, .int 0, .int 0, .int 0])), (o1, .inr (8, [.int 0, .int 0, .int 0, .int 0])), (o2, .inr (8, [.int 0, .int 0, .int 0, .int 0])), (o3, .inr (8, [.int 0, .int 0, .int 0, .int 0])), (o4, .inr (8, [.int 0, .int 0, .int 0, .int 0])), (o5, .inr (8, [.int 0, .int 0, .int 0, .int 0])), (o7, .inr (8, [.int 0, .int 0, .int 0, .int 0])), (o6, .inr (8, [.int 0, .int 0, .int 0, .int 0]))] H := hP
        have hD : va_D A [(o0, .inr (8, [.int 0, .int 0, .int 0, .int 0])), (o1, .inr (8, [.int 0, .int 0, .int 0, .int 0])), (o2, .inr (8, [.int 0, .int 0, .int 0, .int 0])), (o3, .inr (8, [.int 0, .int 0, .int 0, .int 0])), (o4, .inr (8, [.int 0, .int 0, .int 0, .int 0])), (o5, .inr (8, [.int 0, .int 0, .int 0, .int 0])), (o7, .inr (8, [.int 0, .int 0, .int 0, .int 0])), (o6, .inr (8, [.int 0, .int 0, .int 0, .int 0]))] := hD
        have hK : va_K D vwCl [(k5, .object "Lastroom$Operator")] s := hK
        refine W.widen (k := 2) (n := 12) (Nat.le_of_ble_eq_true rfl) (Nat.le_of_ble_eq_true rfl) ?_
        refine lv_istore (lv' := [(5, .int 0), (4, .ref o6), (0, .ref x), (1, .int a1), (2, .int a2), (3, .int a3)]) hx hb dX9_setSkill_19 hl (by decide) rfl (fun ls hl => ?_)
        refine lv_aload hx hb dX9_setSkill_21 (lv_at hl 1 rfl) ?_
        refine lv_iload_n hx hb dX9_setSkill_23 rfl (lv_at hl 5 rfl) ?_
        refine lv_if_eq (tgt := 39) hx hb dX9_setSkill_24 (by decide) (fun c_40 => ?_) (fun c_40 => ?_)
        · refine lv_aload hx hb dX9_setSkill_39 (lv_at hl 1 rfl) ?_
          refine va_get (D := D) (ci := 8) (v := .int 0) (C := RX4) (T := TX4) (N := 4) hx hb hts (fun w h => List.mem_cons_of_mem _ (List.mem_append_left _ (List.mem_append_left _ (List.mem_append_left _ (List.mem_append_right _ h))))) hown hK hP 7 rfl rfl 0 (by decide) (hts (.fieldLink RX9 342 "Lastroom$Operator" "skills" "I") (List.mem_of_getElem? (i := 1) rfl)) (fun _ h9 => h9) rfl dX9_setSkill_41 ?_
          refine lv_iconst (v := 1) hx hb dX9_setSkill_44 (by decide) ?_
          refine lv_iload_n hx hb dX9_setSkill_45 rfl (lv_at hl 4 rfl) ?_
          refine lv_ishl hx hb dX9_setSkill_46 ?_
          refine lv_iconst (v := (-1)) hx hb dX9_setSkill_47 (by decide) ?_
          refine lv_ixor hx hb dX9_setSkill_48 ?_
          refine lv_iand hx hb dX9_setSkill_49 ?_
          refine va_put (D := D) (ci := 8) (v := .int ((0 : Int32) &&& (((1 : Int32) <<< (a2 &&& 31)) ^^^ ((-1) : Int32)))) (ty := .int) (C := RX4) (T := TX4) (N := 4) hx hb hts (fun w h => List.mem_cons_of_mem _ (List.mem_append_left _ (List.mem_append_left _ (List.mem_append_left _ (List.mem_append_right _ h))))) tyX4 tyX4_ok nmX4 hown hK hP hD hS 7 rfl rfl 0 (by decide) (hts (.fieldLink RX9 342 "Lastroom$Operator" "skills" "I") (List.mem_of_getElem? (i := 1) rfl)) (fun _ h9 => h9) rfl (by decide +kernel) rfl rfl (Nat.le_of_ble_eq_true rfl) dX9_setSkill_50 (fun H locs hP hD hS => ?_)
          have hP : va_P D vwCl [(o0, .inr (8, [.int 0, .int 0, .int 0, .int 0])), (o1, .inr (8, [.int 0, .int 0, .int 0, .int 0])), (o2, .inr (8, [.int 0, .int 0, .int 0, .int 0])), (o3, .inr (8, [.int 0, .int 0, .int 0, .int 0])), (o4, .inr (8, [.int 0, .int 0, .int 0, .int 0])), (o5, .inr (8, [.int 0, .int 0, .int 0, .int 0])), (o7, .inr (8, [.int 0, .int 0, .int 0, .int 0])), (o6, .inr (8, [.int ((0 : Int32) &&& (((1 : Int32) <<< (a2 &&& 31)) ^^^ ((-1) : Int32))), .int 0, .int 0, .int 0]))] H := hP
          have hD : va_D A [(o0, .inr (8, [.int 0, .int 0, .int 0, .int 0])), (o1, .inr (8, [.int 0, .int 0, .int 0, .int 0])), (o2, .inr (8, [.int 0, .int 0, .int 0, .int 0])), (o3, .inr (8, [.int 0, .int 0, .int 0, .int 0])), (o4, .inr (8, [.int 0, .int 0, .int 0, .int 0])), (o5, .inr (8, [.int 0, .int 0, .int 0, .int 0])), (o7, .inr (8, [.int 0, .int 0, .int 0, .int 0])), (o6, .inr (8, [.int ((0 : Int32) &&& (((1 : Int32) <<< (a2 &&& 31)) ^^^ ((-1) : Int32))), .int 0, .int 0, .int 0]))] := hD
          refine lv_iload hx hb dX9_setSkill_53 (lv_at hl 0 rfl) ?_
          have hP9 := hP.sub (ws' := []) [] rfl
          have hD9 := hD.sub (ws' := []) [] (by decide) rfl
          have hK9 := hK.sub (tys' := []) [] rfl
          exact vx_ret (end_z hx hb hr hlocks (by decide) hP9 hD9 hK9 hS () rfl rfl ⟨h_5, h_37, rfl⟩ (Nat.le_of_ble_eq_true rfl) (Nat.le_of_ble_eq_true rfl) dX9_setSkill_55)
        · refine lv_aload hx hb dX9_setSkill_27 (lv_at hl 1 rfl) ?_
          refine va_get (D := D) (ci := 8) (v := .int 0) (C := RX4) (T := TX4) (N := 4) hx hb hts (fun w h => List.mem_cons_of_mem _ (List.mem_append_left _ (List.mem_append_left _ (List.mem_append_left _ (List.mem_append_right _ h))))) hown hK hP 7 rfl rfl 0 (by decide) (hts (.fieldLink RX9 342 "Lastroom$Operator" "skills" "I") (List.mem_of_getElem? (i := 1) rfl)) (fun _ h9 => h9) rfl dX9_setSkill_29 ?_
          refine lv_iconst (v := 1) hx hb dX9_setSkill_32 (by decide) ?_
          refine lv_iload_n hx hb dX9_setSkill_33 rfl (lv_at hl 4 rfl) ?_
          refine lv_ishl hx hb dX9_setSkill_34 ?_
          refine lv_ior hx hb dX9_setSkill_35 ?_
          refine lv_goto (tgt := 50) hx hb dX9_setSkill_36 (by decide) ?_
          refine va_put (D := D) (ci := 8) (v := .int ((0 : Int32) ||| ((1 : Int32) <<< (a2 &&& 31)))) (ty := .int) (C := RX4) (T := TX4) (N := 4) hx hb hts (fun w h => List.mem_cons_of_mem _ (List.mem_append_left _ (List.mem_append_left _ (List.mem_append_left _ (List.mem_append_right _ h))))) tyX4 tyX4_ok nmX4 hown hK hP hD hS 7 rfl rfl 0 (by decide) (hts (.fieldLink RX9 342 "Lastroom$Operator" "skills" "I") (List.mem_of_getElem? (i := 1) rfl)) (fun _ h9 => h9) rfl (by decide +kernel) rfl rfl (Nat.le_of_ble_eq_true rfl) dX9_setSkill_50 (fun H locs hP hD hS => ?_)
          have hP : va_P D vwCl [(o0, .inr (8, [.int 0, .int 0, .int 0, .int 0])), (o1, .inr (8, [.int 0, .int 0, .int 0, .int 0])), (o2, .inr (8, [.int 0, .int 0, .int 0, .int 0])), (o3, .inr (8, [.int 0, .int 0, .int 0, .int 0])), (o4, .inr (8, [.int 0, .int 0, .int 0, .int 0])), (o5, .inr (8, [.int 0, .int 0, .int 0, .int 0])), (o7, .inr (8, [.int 0, .int 0, .int 0, .int 0])), (o6, .inr (8, [.int ((0 : Int32) ||| ((1 : Int32) <<< (a2 &&& 31))), .int 0, .int 0, .int 0]))] H := hP
          have hD : va_D A [(o0, .inr (8, [.int 0, .int 0, .int 0, .int 0])), (o1, .inr (8, [.int 0, .int 0, .int 0, .int 0])), (o2, .inr (8, [.int 0, .int 0, .int 0, .int 0])), (o3, .inr (8, [.int 0, .int 0, .int 0, .int 0])), (o4, .inr (8, [.int 0, .int 0, .int 0, .int 0])), (o5, .inr (8, [.int 0, .int 0, .int 0, .int 0])), (o7, .inr (8, [.int 0, .int 0, .int 0, .int 0])), (o6, .inr (8, [.int ((0 : Int32) ||| ((1 : Int32) <<< (a2 &&& 31))), .int 0, .int 0, .int 0]))] := hD
          refine lv_iload hx hb dX9_setSkill_53 (lv_at hl 0 rfl) ?_
          have hP9 := hP.sub (ws' := []) [] rfl
          have hD9 := hD.sub (ws' := []) [] (by decide) rfl
          have hK9 := hK.sub (tys' := []) [] rfl
          exact vx_ret (end_z hx hb hr hlocks (by decide) hP9 hD9 hK9 hS () rfl rfl ⟨h_5, h_37, rfl⟩ (Nat.le_of_ble_eq_true rfl) (Nat.le_of_ble_eq_true rfl) dX9_setSkill_55)
    · refine W.eq (g2 := F0 m 5 ls [.ref o7]) rfl ?_
      refine lv_astore (lv' := [(4, .ref o7), (0, .ref x), (1, .int a1), (2, .int a2), (3, .int a3)]) hx hb dX9_setSkill_5 hl (by decide) rfl (fun ls hl => ?_)
      refine lv_iload_n hx hb dX9_setSkill_7 rfl (lv_at hl 3 rfl) ?_
      refine lv_iconst (v := 0) hx hb dX9_setSkill_8 (by decide) ?_
      refine lv_iconst (v := 3) hx hb dX9_setSkill_9 (by decide) ?_
      have hFc := va_free (wc := []) hD hS hA [] rfl
      refine vx_callv (vx_runS (As := [.int a2, .int 0, .int 3]) (rest := []) ⟨hx, hb, hml, hown, hts⟩ (c_demandRange l hlt D tC tE H.size a2 0 3) (va_cwS 3 hts gX9_setSkill_X9_demandRange rfl rfl rfl (by decide +kernel) ⟨(Nat.le_of_ble_eq_true rfl), (Nat.le_of_ble_eq_true rfl)⟩) ⟨pg_blind, (pg_pre hP hD hK hG hS hFc [] rfl (by decide) [] rfl _)⟩ rfl rfl hl.1 rfl (lv_room (Nat.le_of_ble_eq_true rfl)) dX9_setSkill_10 ⟨(Nat.le_of_ble_eq_true rfl), (Nat.le_of_ble_eq_true rfl)⟩) hS (fun q _ h => hFc q h) hFc (fun q _ h => hFc q h) (fun E ce q9 u t H1 locs1 ht hvm hw hB hz1 hk1 hS hce hcv hcl => ?_) (fun u_41 t H locs ht hvm hw hB hz1 hk1 hS => ?_)
      · obtain ⟨hE, hf⟩ := hB
        subst hE
        exact vx_widen (k := 2) (n := 12) (Nat.le_of_ble_eq_true rfl) (Nat.le_of_ble_eq_true rfl) (vx_out (fun x hx => (htab x hx).elim) hlocks hce hcv hcl (xx_out hS (Or.inr ⟨rfl, h_5, hf⟩)) hS.2.2 (Nat.le_of_ble_eq_true rfl) (Nat.le_of_ble_eq_true rfl))
      · have h_42 := hw
        obtain ⟨hP, hD, hK⟩ := jn (wr := [(o0, .inr (8, [.int 0, .int 0, .int 0, .int 0])), (o1, .inr (8, [.int 0, .int 0, .int 0, .int 0])), (o2, .inr (8, [.int 0, .int 0, .int 0, .int 0])), (o3, .inr (8, [.int 0, .int 0, .int 0, .int 0])), (o4, .inr (8, [.int 0, .int 0, .int 0, .int 0])), (o5, .inr (8, [.int 0, .int 0, .int 0, .int 0])), (o6, .inr (8, [.int 0, .int 0, .int 0, .int 0])), (o7, .inr (8, [.int 0, .int 0, .int 0, .int 0]))]) (w1 := []) (t1 := []) (tr := [(k5, .object "Lastroom$Operator")]) hP hD hK [] [0, 1, 2, 3, 4, 5, 6, 7] rfl rfl (by decide) (by decide) [0] rfl hk1 hFc hB rfl rfl ht hvm
        have hP : va_P D vwCl [(o0, .inr (8, [.int 0, .int 0, .int 0, .int 0])), (o1, .inr (8, [.int 0, .int 0, .int 0, .int 0])), (o2, .inr (8, [.int 0, .int 0, .int 0, .int 0])), (o3, .inr (8, [.int 0, .int 0, .int 0, .int 0])), (o4, .inr (8, [.int 0, .int 0, .int 0, .int 0])), (o5, .inr (8, [.int 0, .int 0, .int 0, .int 0])), (o6, .inr (8, [.int 0, .int 0, .int 0, .int 0])), (o7, .inr (8, [.int 0, .int 0, .int 0, .int 0]))] H := hP
        have hD : va_D A [(o0, .inr (8, [.int 0, .int 0, .int 0, .int 0])), (o1, .inr (8, [.int 0, .int 0, .int 0, .int 0])), (o2, .inr (8, [.int 0, .int 0, .int 0, .int 0])), (o3, .inr (8, [.int 0, .int 0, .int 0, .int 0])), (o4, .inr (8, [.int 0, .int 0, .int 0, .int 0])), (o5, .inr (8, [.int 0, .int 0, .int 0, .int 0])), (o6, .inr (8, [.int 0, .int 0, .int 0, .int 0])), (o7, .inr (8, [.int 0, .int 0, .int 0, .int 0]))] := hD
        have hK : va_K D vwCl [(k5, .object "Lastroom$Operator")] s := hK
        refine W.widen (k := 2) (n := 12) (Nat.le_of_ble_eq_true rfl) (Nat.le_of_ble_eq_true rfl) ?_
        refine lv_aload hx hb dX9_setSkill_13 (lv_at hl 0 rfl) ?_
        refine lv_iload_n hx hb dX9_setSkill_15 rfl (lv_at hl 3 rfl) ?_
        have hFc := va_free (wc := [(o7, .inr (8, [.int 0, .int 0, .int 0, .int 0]))]) hD hS hA [7] rfl
        refine va_calli (va_runV (As := [.int a2]) (rest := []) ⟨hx, hb, hml, hown, hts⟩ (c_hasSkill l D tC tE H.size o7 a2) (cwV 1 hts gX9_setSkill_X4_hasSkill rfl rfl rfl (by decide +kernel) ⟨(Nat.le_of_ble_eq_true rfl), (Nat.le_of_ble_eq_true rfl)⟩) ⟨pg_blind, (va_recv hK hP (ci := 8) (q0 := 7) rfl rfl), (pg_pre hP hD hK hG hS hFc [7] rfl (by decide) [] rfl _)⟩ rfl rfl hl.1 rfl (lv_room (Nat.le_of_ble_eq_true rfl)) dX9_setSkill_16 ⟨(Nat.le_of_ble_eq_true rfl), (Nat.le_of_ble_eq_true rfl)⟩) hS (fun q _ h => hFc q h) hFc (fun r_43 u_44 t H locs ht hvm hw hB hz1 hk1 hS => ?_)
        subst hw
        obtain ⟨hP, hD, hK⟩ := jn (wr := [(o0, .inr (8, [.int 0, .int 0, .int 0, .int 0])), (o1, .inr (8, [.int 0, .int 0, .int 0, .int 0])), (o2, .inr (8, [.int 0, .int 0, .int 0, .int 0])), (o3, .inr (8, [.int 0, .int 0, .int 0, .int 0])), (o4, .inr (8, [.int 0, .int 0, .int 0, .int 0])), (o5, .inr (8, [.int 0, .int 0, .int 0, .int 0])), (o6, .inr (8, [.int 0, .int 0, .int 0, .int 0]))]) (w1 := [(o7, .inr (8, [.int 0, .int 0, .int 0, .int 0]))]) (t1 := []) (tr := [(k5, .object "Lastroom$Operator")]) hP hD hK [7] [0, 1, 2, 3, 4, 5, 6] rfl rfl (by decide) (by decide) [0] rfl hk1 hFc hB rfl rfl ht hvm
        have hP : va_P D vwCl [(o0, .inr (8, [.int 0, .int 0, .int 0, .int 0])), (o1, .inr (8, [.int 0, .int 0, .int 0, .int 0])), (o2, .inr (8, [.int 0, .int 0, .int 0, .int 0])), (o3, .inr (8, [.int 0, .int 0, .int 0, .int 0])), (o4, .inr (8, [.int 0, .int 0, .int 0, .int 0])), (o5, .inr (8, [.int 0, .int 0, .int 0, .int 0])), (o6, .inr (8, [.int 0, .int 0, .int 0, .int 0])), (o7, .inr (8, [.int 0, .int 0, .int 0, .int 0]))] H := hP
        have hD : va_D A [(o0, .inr (8, [.int 0, .int 0, .int 0, .int 0])), (o1, .inr (8, [.int 0, .int 0, .int 0, .int 0])), (o2, .inr (8, [.int 0, .int 0, .int 0, .int 0])), (o3, .inr (8, [.int 0, .int 0, .int 0, .int 0])), (o4, .inr (8, [.int 0, .int 0, .int 0, .int 0])), (o5, .inr (8, [.int 0, .int 0, .int 0, .int 0])), (o6, .inr (8, [.int 0, .int 0, .int 0, .int 0])), (o7, .inr (8, [.int 0, .int 0, .int 0, .int 0]))] := hD
        have hK : va_K D vwCl [(k5, .object "Lastroom$Operator")] s := hK
        refine W.widen (k := 2) (n := 12) (Nat.le_of_ble_eq_true rfl) (Nat.le_of_ble_eq_true rfl) ?_
        refine lv_istore (lv' := [(5, .int 0), (4, .ref o7), (0, .ref x), (1, .int a1), (2, .int a2), (3, .int a3)]) hx hb dX9_setSkill_19 hl (by decide) rfl (fun ls hl => ?_)
        refine lv_aload hx hb dX9_setSkill_21 (lv_at hl 1 rfl) ?_
        refine lv_iload_n hx hb dX9_setSkill_23 rfl (lv_at hl 5 rfl) ?_
        refine lv_if_eq (tgt := 39) hx hb dX9_setSkill_24 (by decide) (fun c_45 => ?_) (fun c_45 => ?_)
        · refine lv_aload hx hb dX9_setSkill_39 (lv_at hl 1 rfl) ?_
          refine va_get (D := D) (ci := 8) (v := .int 0) (C := RX4) (T := TX4) (N := 4) hx hb hts (fun w h => List.mem_cons_of_mem _ (List.mem_append_left _ (List.mem_append_left _ (List.mem_append_left _ (List.mem_append_right _ h))))) hown hK hP 7 rfl rfl 0 (by decide) (hts (.fieldLink RX9 342 "Lastroom$Operator" "skills" "I") (List.mem_of_getElem? (i := 1) rfl)) (fun _ h9 => h9) rfl dX9_setSkill_41 ?_
          refine lv_iconst (v := 1) hx hb dX9_setSkill_44 (by decide) ?_
          refine lv_iload_n hx hb dX9_setSkill_45 rfl (lv_at hl 4 rfl) ?_
          refine lv_ishl hx hb dX9_setSkill_46 ?_
          refine lv_iconst (v := (-1)) hx hb dX9_setSkill_47 (by decide) ?_
          refine lv_ixor hx hb dX9_setSkill_48 ?_
          refine lv_iand hx hb dX9_setSkill_49 ?_
          refine va_put (D := D) (ci := 8) (v := .int ((0 : Int32) &&& (((1 : Int32) <<< (a2 &&& 31)) ^^^ ((-1) : Int32)))) (ty := .int) (C := RX4) (T := TX4) (N := 4) hx hb hts (fun w h => List.mem_cons_of_mem _ (List.mem_append_left _ (List.mem_append_left _ (List.mem_append_left _ (List.mem_append_right _ h))))) tyX4 tyX4_ok nmX4 hown hK hP hD hS 7 rfl rfl 0 (by decide) (hts (.fieldLink RX9 342 "Lastroom$Operator" "skills" "I") (List.mem_of_getElem? (i := 1) rfl)) (fun _ h9 => h9) rfl (by decide +kernel) rfl rfl (Nat.le_of_ble_eq_true rfl) dX9_setSkill_50 (fun H locs hP hD hS => ?_)
          have hP : va_P D vwCl [(o0, .inr (8, [.int 0, .int 0, .int 0, .int 0])), (o1, .inr (8, [.int 0, .int 0, .int 0, .int 0])), (o2, .inr (8, [.int 0, .int 0, .int 0, .int 0])), (o3, .inr (8, [.int 0, .int 0, .int 0, .int 0])), (o4, .inr (8, [.int 0, .int 0, .int 0, .int 0])), (o5, .inr (8, [.int 0, .int 0, .int 0, .int 0])), (o6, .inr (8, [.int 0, .int 0, .int 0, .int 0])), (o7, .inr (8, [.int ((0 : Int32) &&& (((1 : Int32) <<< (a2 &&& 31)) ^^^ ((-1) : Int32))), .int 0, .int 0, .int 0]))] H := hP
          have hD : va_D A [(o0, .inr (8, [.int 0, .int 0, .int 0, .int 0])), (o1, .inr (8, [.int 0, .int 0, .int 0, .int 0])), (o2, .inr (8, [.int 0, .int 0, .int 0, .int 0])), (o3, .inr (8, [.int 0, .int 0, .int 0, .int 0])), (o4, .inr (8, [.int 0, .int 0, .int 0, .int 0])), (o5, .inr (8, [.int 0, .int 0, .int 0, .int 0])), (o6, .inr (8, [.int 0, .int 0, .int 0, .int 0])), (o7, .inr (8, [.int ((0 : Int32) &&& (((1 : Int32) <<< (a2 &&& 31)) ^^^ ((-1) : Int32))), .int 0, .int 0, .int 0]))] := hD
          refine lv_iload hx hb dX9_setSkill_53 (lv_at hl 0 rfl) ?_
          have hP9 := hP.sub (ws' := []) [] rfl
          have hD9 := hD.sub (ws' := []) [] (by decide) rfl
          have hK9 := hK.sub (tys' := []) [] rfl
          exact vx_ret (end_z hx hb hr hlocks (by decide) hP9 hD9 hK9 hS () rfl rfl ⟨h_5, h_42, rfl⟩ (Nat.le_of_ble_eq_true rfl) (Nat.le_of_ble_eq_true rfl) dX9_setSkill_55)
        · refine lv_aload hx hb dX9_setSkill_27 (lv_at hl 1 rfl) ?_
          refine va_get (D := D) (ci := 8) (v := .int 0) (C := RX4) (T := TX4) (N := 4) hx hb hts (fun w h => List.mem_cons_of_mem _ (List.mem_append_left _ (List.mem_append_left _ (List.mem_append_left _ (List.mem_append_right _ h))))) hown hK hP 7 rfl rfl 0 (by decide) (hts (.fieldLink RX9 342 "Lastroom$Operator" "skills" "I") (List.mem_of_getElem? (i := 1) rfl)) (fun _ h9 => h9) rfl dX9_setSkill_29 ?_
          refine lv_iconst (v := 1) hx hb dX9_setSkill_32 (by decide) ?_
          refine lv_iload_n hx hb dX9_setSkill_33 rfl (lv_at hl 4 rfl) ?_
          refine lv_ishl hx hb dX9_setSkill_34 ?_
          refine lv_ior hx hb dX9_setSkill_35 ?_
          refine lv_goto (tgt := 50) hx hb dX9_setSkill_36 (by decide) ?_
          refine va_put (D := D) (ci := 8) (v := .int ((0 : Int32) ||| ((1 : Int32) <<< (a2 &&& 31)))) (ty := .int) (C := RX4) (T := TX4) (N := 4) hx hb hts (fun w h => List.mem_cons_of_mem _ (List.mem_append_left _ (List.mem_append_left _ (List.mem_append_left _ (List.mem_append_right _ h))))) tyX4 tyX4_ok nmX4 hown hK hP hD hS 7 rfl rfl 0 (by decide) (hts (.fieldLink RX9 342 "Lastroom$Operator" "skills" "I") (List.mem_of_getElem? (i := 1) rfl)) (fun _ h9 => h9) rfl (by decide +kernel) rfl rfl (Nat.le_of_ble_eq_true rfl) dX9_setSkill_50 (fun H locs hP hD hS => ?_)
          have hP : va_P D vwCl [(o0, .inr (8, [.int 0, .int 0, .int 0, .int 0])), (o1, .inr (8, [.int 0, .int 0, .int 0, .int 0])), (o2, .inr (8, [.int 0, .int 0, .int 0, .int 0])), (o3, .inr (8, [.int 0, .int 0, .int 0, .int 0])), (o4, .inr (8, [.int 0, .int 0, .int 0, .int 0])), (o5, .inr (8, [.int 0, .int 0, .int 0, .int 0])), (o6, .inr (8, [.int 0, .int 0, .int 0, .int 0])), (o7, .inr (8, [.int ((0 : Int32) ||| ((1 : Int32) <<< (a2 &&& 31))), .int 0, .int 0, .int 0]))] H := hP
          have hD : va_D A [(o0, .inr (8, [.int 0, .int 0, .int 0, .int 0])), (o1, .inr (8, [.int 0, .int 0, .int 0, .int 0])), (o2, .inr (8, [.int 0, .int 0, .int 0, .int 0])), (o3, .inr (8, [.int 0, .int 0, .int 0, .int 0])), (o4, .inr (8, [.int 0, .int 0, .int 0, .int 0])), (o5, .inr (8, [.int 0, .int 0, .int 0, .int 0])), (o6, .inr (8, [.int 0, .int 0, .int 0, .int 0])), (o7, .inr (8, [.int ((0 : Int32) ||| ((1 : Int32) <<< (a2 &&& 31))), .int 0, .int 0, .int 0]))] := hD
          refine lv_iload hx hb dX9_setSkill_53 (lv_at hl 0 rfl) ?_
          have hP9 := hP.sub (ws' := []) [] rfl
          have hD9 := hD.sub (ws' := []) [] (by decide) rfl
          have hK9 := hK.sub (tys' := []) [] rfl
          exact vx_ret (end_z hx hb hr hlocks (by decide) hP9 hD9 hK9 hS () rfl rfl ⟨h_5, h_42, rfl⟩ (Nat.le_of_ble_eq_true rfl) (Nat.le_of_ble_eq_true rfl) dX9_setSkill_55)
set_option maxHeartbeats 4000000 in
set_option maxRecDepth 100000 in
/-- countMinutes on a fresh object -/
theorem c_countMinutes (l : Launch) (D : va_G) (tC tE sz : Nat) (x q0 q1 q2 q3 q4 q5 q6 : Nat) (k3 : ClassId) (a1 : Int32) : Met l yX9_countMinutes wsX9_countMinutes ({ frames := 0, cells := 0, slots := 0, locals := 0 }) (Pg D tC tE sz [(x, .inr (13, [.ref q0, .ref q1, .ref q2, .ref q3, .ref q4, .ref q5, .ref q6, .int 0, .int 0, .int 0, .int 0, .int 0, .int 0, .int 0])), (q3, .inl (k3, 16, .inr (.inr (.inr (.inr (fun _ => none))))))] [(k3, .object "Lastroom$Ticket")] [.ref x, .int a1]) (Qgi (S := Unit) D (fun u => [(x, .inr (13, [.ref q0, .ref q1, .ref q2, .ref q3, .ref q4, .ref q5, .ref q6, .int 0, .int 0, .int 0, .int 0, .int 0, .int 0, .int 0])), (q3, .inl (k3, 16, .inr (.inr (.inr (.inr (fun _ => none))))))]) (fun u => []) (fun r _ => r = 0) (va_A [(x, .inr (13, [.ref q0, .ref q1, .ref q2, .ref q3, .ref q4, .ref q5, .ref q6, .int 0, .int 0, .int 0, .int 0, .int 0, .int 0, .int 0])), (q3, .inl (k3, 16, .inr (.inr (.inr (.inr (fun _ => none))))))] sz)) 0 0 (va_A [(x, .inr (13, [.ref q0, .ref q1, .ref q2, .ref q3, .ref q4, .ref q5, .ref q6, .int 0, .int 0, .int 0, .int 0, .int 0, .int 0, .int 0])), (q3, .inl (k3, 16, .inr (.inr (.inr (.inr (fun _ => none))))))] sz) := by
  refine og_m (cc := cX9_countMinutes) (maxL := 7) (ret := (some .int)) (Qc := Qgi (S := Unit) D (fun u => [(x, .inr (13, [.ref q0, .ref q1, .ref q2, .ref q3, .ref q4, .ref q5, .ref q6, .int 0, .int 0, .int 0, .int 0, .int 0, .int 0, .int 0])), (q3, .inl (k3, 16, .inr (.inr (.inr (.inr (fun _ => none))))))]) (fun u => []) (fun r _ => r = 0)) (by decide) rfl (Nat.le_of_ble_eq_true rfl) ?_
  intro p e s m below meth c A hx hb hr hml hts hown hlocks hin hP hD hK hG hA hS ls hl
  have hl : lv_has ls 7 [(0, .ref x), (1, .int a1)] := hl
  refine lv_iconst (v := 0) hx hb dX9_countMinutes_0 (by decide) ?_
  refine lv_istore_n (lv' := [(2, .int 0), (0, .ref x), (1, .int a1)]) hx hb dX9_countMinutes_1 rfl hl (by decide) rfl (fun ls hl => ?_)
  refine lv_aload_n hx hb dX9_countMinutes_2 rfl (lv_at hl 1 rfl) ?_
  refine va_get (D := D) (ci := 13) (v := .ref q3) (C := RX9) (T := TX9) (N := 14) hx hb hts (fun w h => List.mem_cons_of_mem _ (List.mem_append_left _ (List.mem_append_left _ (List.mem_append_left _ (List.mem_append_left _ (List.mem_append_left _ (List.mem_append_right _ h))))))) hown hK hP 0 rfl rfl 3 (by decide) (hts (.fieldLink RX9 29 "Lastroom" "tickets" "[LLastroom$Ticket;") (List.mem_of_getElem? (i := 1) rfl)) (fun _ h9 => h9) rfl dX9_countMinutes_3 ?_
  refine lv_astore_n (lv' := [(3, .ref q3), (2, .int 0), (0, .ref x), (1, .int a1)]) hx hb dX9_countMinutes_6 rfl hl (by decide) rfl (fun ls hl => ?_)
  refine lv_aload_n hx hb dX9_countMinutes_7 rfl (lv_at hl 0 rfl) ?_
  refine va_alen hx hb hK hP 1 0 rfl rfl (v := 16) rfl dX9_countMinutes_8 ?_
  refine lv_istore (lv' := [(4, .int 16), (3, .ref q3), (2, .int 0), (0, .ref x), (1, .int a1)]) hx hb dX9_countMinutes_9 hl (by decide) rfl (fun ls hl => ?_)
  refine lv_iconst (v := 0) hx hb dX9_countMinutes_11 (by decide) ?_
  refine lv_istore (lv' := [(5, .int 0), (4, .int 16), (3, .ref q3), (2, .int 0), (0, .ref x), (1, .int a1)]) hx hb dX9_countMinutes_12 hl (by decide) rfl (fun ls hl => ?_)
  refine lv_iload hx hb dX9_countMinutes_14 (lv_at hl 0 rfl) ?_
  refine lv_iload hx hb dX9_countMinutes_16 (lv_at hl 1 rfl) ?_
  refine lv_icmp_ge (tgt := 47) hx hb dX9_countMinutes_18 (by decide) (fun c_1 => absurd c_1 (show ¬ (16 : Int32) ≤ (0 : Int32) from (by decide))) (fun c_1 => ?_)
  refine lv_aload_n hx hb dX9_countMinutes_21 rfl (lv_at hl 2 rfl) ?_
  refine lv_iload hx hb dX9_countMinutes_22 (lv_at hl 0 rfl) ?_
  refine va_aldq hx hb hK hP 1 0 rfl rfl (vp_in_iff.mpr (by decide)) dX9_countMinutes_24 ?_
  refine lv_astoreN (lv' := [(6, .null), (5, .int 0), (4, .int 16), (3, .ref q3), (2, .int 0), (0, .ref x), (1, .int a1)]) hx hb dX9_countMinutes_25 hl (by decide) rfl (fun ls hl => ?_)
  refine lv_aloadN hx hb dX9_countMinutes_27 (lv_at hl 0 rfl) ?_
  refine lv_ifnullN (tgt := 41) hx hb dX9_countMinutes_29 (by decide) ?_
  refine lv_iinc (v := 1) (lv' := [(5, .int 1), (6, .null), (4, .int 16), (3, .ref q3), (2, .int 0), (0, .ref x), (1, .int a1)]) hx hb dX9_countMinutes_41 hl (k := 1) rfl (by decide) (by decide) rfl (fun ls hl => ?_)
  refine lv_goto (tgt := 14) hx hb dX9_countMinutes_44 (by decide) ?_
  refine lv_iload hx hb dX9_countMinutes_14 (lv_at hl 0 rfl) ?_
  refine lv_iload hx hb dX9_countMinutes_16 (lv_at hl 2 rfl) ?_
  refine lv_icmp_ge (tgt := 47) hx hb dX9_countMinutes_18 (by decide) (fun c_2 => absurd c_2 (show ¬ (16 : Int32) ≤ (1 : Int32) from (by decide))) (fun c_2 => ?_)
  refine lv_aload_n hx hb dX9_countMinutes_21 rfl (lv_at hl 3 rfl) ?_
  refine lv_iload hx hb dX9_countMinutes_22 (lv_at hl 0 rfl) ?_
  refine va_aldq hx hb hK hP 1 0 rfl rfl (vp_in_iff.mpr (by decide)) dX9_countMinutes_24 ?_
  refine lv_astoreN (lv' := [(6, .null), (5, .int 1), (4, .int 16), (3, .ref q3), (2, .int 0), (0, .ref x), (1, .int a1)]) hx hb dX9_countMinutes_25 hl (by decide) rfl (fun ls hl => ?_)
  refine lv_aloadN hx hb dX9_countMinutes_27 (lv_at hl 0 rfl) ?_
  refine lv_ifnullN (tgt := 41) hx hb dX9_countMinutes_29 (by decide) ?_
  refine lv_iinc (v := 2) (lv' := [(5, .int 2), (6, .null), (4, .int 16), (3, .ref q3), (2, .int 0), (0, .ref x), (1, .int a1)]) hx hb dX9_countMinutes_41 hl (k := 1) rfl (by decide) (by decide) rfl (fun ls hl => ?_)
  refine lv_goto (tgt := 14) hx hb dX9_countMinutes_44 (by decide) ?_
  refine lv_iload hx hb dX9_countMinutes_14 (lv_at hl 0 rfl) ?_
  refine lv_iload hx hb dX9_countMinutes_16 (lv_at hl 2 rfl) ?_
  refine lv_icmp_ge (tgt := 47) hx hb dX9_countMinutes_18 (by decide) (fun c_3 => absurd c_3 (show ¬ (16 : Int32) ≤ (2 : Int32) from (by decide))) (fun c_3 => ?_)
  refine lv_aload_n hx hb dX9_countMinutes_21 rfl (lv_at hl 3 rfl) ?_
  refine lv_iload hx hb dX9_countMinutes_22 (lv_at hl 0 rfl) ?_
  refine va_aldq hx hb hK hP 1 0 rfl rfl (vp_in_iff.mpr (by decide)) dX9_countMinutes_24 ?_
  refine lv_astoreN (lv' := [(6, .null), (5, .int 2), (4, .int 16), (3, .ref q3), (2, .int 0), (0, .ref x), (1, .int a1)]) hx hb dX9_countMinutes_25 hl (by decide) rfl (fun ls hl => ?_)
  refine lv_aloadN hx hb dX9_countMinutes_27 (lv_at hl 0 rfl) ?_
  refine lv_ifnullN (tgt := 41) hx hb dX9_countMinutes_29 (by decide) ?_
  refine lv_iinc (v := 3) (lv' := [(5, .int 3), (6, .null), (4, .int 16), (3, .ref q3), (2, .int 0), (0, .ref x), (1, .int a1)]) hx hb dX9_countMinutes_41 hl (k := 1) rfl (by decide) (by decide) rfl (fun ls hl => ?_)
  refine lv_goto (tgt := 14) hx hb dX9_countMinutes_44 (by decide) ?_
  refine lv_iload hx hb dX9_countMinutes_14 (lv_at hl 0 rfl) ?_
  refine lv_iload hx hb dX9_countMinutes_16 (lv_at hl 2 rfl) ?_
  refine lv_icmp_ge (tgt := 47) hx hb dX9_countMinutes_18 (by decide) (fun c_4 => absurd c_4 (show ¬ (16 : Int32) ≤ (3 : Int32) from (by decide))) (fun c_4 => ?_)
  refine lv_aload_n hx hb dX9_countMinutes_21 rfl (lv_at hl 3 rfl) ?_
  refine lv_iload hx hb dX9_countMinutes_22 (lv_at hl 0 rfl) ?_
  refine va_aldq hx hb hK hP 1 0 rfl rfl (vp_in_iff.mpr (by decide)) dX9_countMinutes_24 ?_
  refine lv_astoreN (lv' := [(6, .null), (5, .int 3), (4, .int 16), (3, .ref q3), (2, .int 0), (0, .ref x), (1, .int a1)]) hx hb dX9_countMinutes_25 hl (by decide) rfl (fun ls hl => ?_)
  refine lv_aloadN hx hb dX9_countMinutes_27 (lv_at hl 0 rfl) ?_
  refine lv_ifnullN (tgt := 41) hx hb dX9_countMinutes_29 (by decide) ?_
  refine lv_iinc (v := 4) (lv' := [(5, .int 4), (6, .null), (4, .int 16), (3, .ref q3), (2, .int 0), (0, .ref x), (1, .int a1)]) hx hb dX9_countMinutes_41 hl (k := 1) rfl (by decide) (by decide) rfl (fun ls hl => ?_)
  refine lv_goto (tgt := 14) hx hb dX9_countMinutes_44 (by decide) ?_
  refine lv_iload hx hb dX9_countMinutes_14 (lv_at hl 0 rfl) ?_
  refine lv_iload hx hb dX9_countMinutes_16 (lv_at hl 2 rfl) ?_
  refine lv_icmp_ge (tgt := 47) hx hb dX9_countMinutes_18 (by decide) (fun c_5 => absurd c_5 (show ¬ (16 : Int32) ≤ (4 : Int32) from (by decide))) (fun c_5 => ?_)
  refine lv_aload_n hx hb dX9_countMinutes_21 rfl (lv_at hl 3 rfl) ?_
  refine lv_iload hx hb dX9_countMinutes_22 (lv_at hl 0 rfl) ?_
  refine va_aldq hx hb hK hP 1 0 rfl rfl (vp_in_iff.mpr (by decide)) dX9_countMinutes_24 ?_
  refine lv_astoreN (lv' := [(6, .null), (5, .int 4), (4, .int 16), (3, .ref q3), (2, .int 0), (0, .ref x), (1, .int a1)]) hx hb dX9_countMinutes_25 hl (by decide) rfl (fun ls hl => ?_)
  refine lv_aloadN hx hb dX9_countMinutes_27 (lv_at hl 0 rfl) ?_
  refine lv_ifnullN (tgt := 41) hx hb dX9_countMinutes_29 (by decide) ?_
  refine lv_iinc (v := 5) (lv' := [(5, .int 5), (6, .null), (4, .int 16), (3, .ref q3), (2, .int 0), (0, .ref x), (1, .int a1)]) hx hb dX9_countMinutes_41 hl (k := 1) rfl (by decide) (by decide) rfl (fun ls hl => ?_)
  refine lv_goto (tgt := 14) hx hb dX9_countMinutes_44 (by decide) ?_
  refine lv_iload hx hb dX9_countMinutes_14 (lv_at hl 0 rfl) ?_
  refine lv_iload hx hb dX9_countMinutes_16 (lv_at hl 2 rfl) ?_
  refine lv_icmp_ge (tgt := 47) hx hb dX9_countMinutes_18 (by decide) (fun c_6 => absurd c_6 (show ¬ (16 : Int32) ≤ (5 : Int32) from (by decide))) (fun c_6 => ?_)
  refine lv_aload_n hx hb dX9_countMinutes_21 rfl (lv_at hl 3 rfl) ?_
  refine lv_iload hx hb dX9_countMinutes_22 (lv_at hl 0 rfl) ?_
  refine va_aldq hx hb hK hP 1 0 rfl rfl (vp_in_iff.mpr (by decide)) dX9_countMinutes_24 ?_
  refine lv_astoreN (lv' := [(6, .null), (5, .int 5), (4, .int 16), (3, .ref q3), (2, .int 0), (0, .ref x), (1, .int a1)]) hx hb dX9_countMinutes_25 hl (by decide) rfl (fun ls hl => ?_)
  refine lv_aloadN hx hb dX9_countMinutes_27 (lv_at hl 0 rfl) ?_
  refine lv_ifnullN (tgt := 41) hx hb dX9_countMinutes_29 (by decide) ?_
  refine lv_iinc (v := 6) (lv' := [(5, .int 6), (6, .null), (4, .int 16), (3, .ref q3), (2, .int 0), (0, .ref x), (1, .int a1)]) hx hb dX9_countMinutes_41 hl (k := 1) rfl (by decide) (by decide) rfl (fun ls hl => ?_)
  refine lv_goto (tgt := 14) hx hb dX9_countMinutes_44 (by decide) ?_
  refine lv_iload hx hb dX9_countMinutes_14 (lv_at hl 0 rfl) ?_
  refine lv_iload hx hb dX9_countMinutes_16 (lv_at hl 2 rfl) ?_
  refine lv_icmp_ge (tgt := 47) hx hb dX9_countMinutes_18 (by decide) (fun c_7 => absurd c_7 (show ¬ (16 : Int32) ≤ (6 : Int32) from (by decide))) (fun c_7 => ?_)
  refine lv_aload_n hx hb dX9_countMinutes_21 rfl (lv_at hl 3 rfl) ?_
  refine lv_iload hx hb dX9_countMinutes_22 (lv_at hl 0 rfl) ?_
  refine va_aldq hx hb hK hP 1 0 rfl rfl (vp_in_iff.mpr (by decide)) dX9_countMinutes_24 ?_
  refine lv_astoreN (lv' := [(6, .null), (5, .int 6), (4, .int 16), (3, .ref q3), (2, .int 0), (0, .ref x), (1, .int a1)]) hx hb dX9_countMinutes_25 hl (by decide) rfl (fun ls hl => ?_)
  refine lv_aloadN hx hb dX9_countMinutes_27 (lv_at hl 0 rfl) ?_
  refine lv_ifnullN (tgt := 41) hx hb dX9_countMinutes_29 (by decide) ?_
  refine lv_iinc (v := 7) (lv' := [(5, .int 7), (6, .null), (4, .int 16), (3, .ref q3), (2, .int 0), (0, .ref x), (1, .int a1)]) hx hb dX9_countMinutes_41 hl (k := 1) rfl (by decide) (by decide) rfl (fun ls hl => ?_)
  refine lv_goto (tgt := 14) hx hb dX9_countMinutes_44 (by decide) ?_
  refine lv_iload hx hb dX9_countMinutes_14 (lv_at hl 0 rfl) ?_
  refine lv_iload hx hb dX9_countMinutes_16 (lv_at hl 2 rfl) ?_
  refine lv_icmp_ge (tgt := 47) hx hb dX9_countMinutes_18 (by decide) (fun c_8 => absurd c_8 (show ¬ (16 : Int32) ≤ (7 : Int32) from (by decide))) (fun c_8 => ?_)
  refine lv_aload_n hx hb dX9_countMinutes_21 rfl (lv_at hl 3 rfl) ?_
  refine lv_iload hx hb dX9_countMinutes_22 (lv_at hl 0 rfl) ?_
  refine va_aldq hx hb hK hP 1 0 rfl rfl (vp_in_iff.mpr (by decide)) dX9_countMinutes_24 ?_
  refine lv_astoreN (lv' := [(6, .null), (5, .int 7), (4, .int 16), (3, .ref q3), (2, .int 0), (0, .ref x), (1, .int a1)]) hx hb dX9_countMinutes_25 hl (by decide) rfl (fun ls hl => ?_)
  refine lv_aloadN hx hb dX9_countMinutes_27 (lv_at hl 0 rfl) ?_
  refine lv_ifnullN (tgt := 41) hx hb dX9_countMinutes_29 (by decide) ?_
  refine lv_iinc (v := 8) (lv' := [(5, .int 8), (6, .null), (4, .int 16), (3, .ref q3), (2, .int 0), (0, .ref x), (1, .int a1)]) hx hb dX9_countMinutes_41 hl (k := 1) rfl (by decide) (by decide) rfl (fun ls hl => ?_)
  refine lv_goto (tgt := 14) hx hb dX9_countMinutes_44 (by decide) ?_
  refine lv_iload hx hb dX9_countMinutes_14 (lv_at hl 0 rfl) ?_
  refine lv_iload hx hb dX9_countMinutes_16 (lv_at hl 2 rfl) ?_
  refine lv_icmp_ge (tgt := 47) hx hb dX9_countMinutes_18 (by decide) (fun c_9 => absurd c_9 (show ¬ (16 : Int32) ≤ (8 : Int32) from (by decide))) (fun c_9 => ?_)
  refine lv_aload_n hx hb dX9_countMinutes_21 rfl (lv_at hl 3 rfl) ?_
  refine lv_iload hx hb dX9_countMinutes_22 (lv_at hl 0 rfl) ?_
  refine va_aldq hx hb hK hP 1 0 rfl rfl (vp_in_iff.mpr (by decide)) dX9_countMinutes_24 ?_
  refine lv_astoreN (lv' := [(6, .null), (5, .int 8), (4, .int 16), (3, .ref q3), (2, .int 0), (0, .ref x), (1, .int a1)]) hx hb dX9_countMinutes_25 hl (by decide) rfl (fun ls hl => ?_)
  refine lv_aloadN hx hb dX9_countMinutes_27 (lv_at hl 0 rfl) ?_
  refine lv_ifnullN (tgt := 41) hx hb dX9_countMinutes_29 (by decide) ?_
  refine lv_iinc (v := 9) (lv' := [(5, .int 9), (6, .null), (4, .int 16), (3, .ref q3), (2, .int 0), (0, .ref x), (1, .int a1)]) hx hb dX9_countMinutes_41 hl (k := 1) rfl (by decide) (by decide) rfl (fun ls hl => ?_)
  refine lv_goto (tgt := 14) hx hb dX9_countMinutes_44 (by decide) ?_
  refine lv_iload hx hb dX9_countMinutes_14 (lv_at hl 0 rfl) ?_
  refine lv_iload hx hb dX9_countMinutes_16 (lv_at hl 2 rfl) ?_
  refine lv_icmp_ge (tgt := 47) hx hb dX9_countMinutes_18 (by decide) (fun c_10 => absurd c_10 (show ¬ (16 : Int32) ≤ (9 : Int32) from (by decide))) (fun c_10 => ?_)
  refine lv_aload_n hx hb dX9_countMinutes_21 rfl (lv_at hl 3 rfl) ?_
  refine lv_iload hx hb dX9_countMinutes_22 (lv_at hl 0 rfl) ?_
  refine va_aldq hx hb hK hP 1 0 rfl rfl (vp_in_iff.mpr (by decide)) dX9_countMinutes_24 ?_
  refine lv_astoreN (lv' := [(6, .null), (5, .int 9), (4, .int 16), (3, .ref q3), (2, .int 0), (0, .ref x), (1, .int a1)]) hx hb dX9_countMinutes_25 hl (by decide) rfl (fun ls hl => ?_)
  refine lv_aloadN hx hb dX9_countMinutes_27 (lv_at hl 0 rfl) ?_
  refine lv_ifnullN (tgt := 41) hx hb dX9_countMinutes_29 (by decide) ?_
  refine lv_iinc (v := 10) (lv' := [(5, .int 10), (6, .null), (4, .int 16), (3, .ref q3), (2, .int 0), (0, .ref x), (1, .int a1)]) hx hb dX9_countMinutes_41 hl (k := 1) rfl (by decide) (by decide) rfl (fun ls hl => ?_)
  refine lv_goto (tgt := 14) hx hb dX9_countMinutes_44 (by decide) ?_
  refine lv_iload hx hb dX9_countMinutes_14 (lv_at hl 0 rfl) ?_
  refine lv_iload hx hb dX9_countMinutes_16 (lv_at hl 2 rfl) ?_
  refine lv_icmp_ge (tgt := 47) hx hb dX9_countMinutes_18 (by decide) (fun c_11 => absurd c_11 (show ¬ (16 : Int32) ≤ (10 : Int32) from (by decide))) (fun c_11 => ?_)
  refine lv_aload_n hx hb dX9_countMinutes_21 rfl (lv_at hl 3 rfl) ?_
  refine lv_iload hx hb dX9_countMinutes_22 (lv_at hl 0 rfl) ?_
  refine va_aldq hx hb hK hP 1 0 rfl rfl (vp_in_iff.mpr (by decide)) dX9_countMinutes_24 ?_
  refine lv_astoreN (lv' := [(6, .null), (5, .int 10), (4, .int 16), (3, .ref q3), (2, .int 0), (0, .ref x), (1, .int a1)]) hx hb dX9_countMinutes_25 hl (by decide) rfl (fun ls hl => ?_)
  refine lv_aloadN hx hb dX9_countMinutes_27 (lv_at hl 0 rfl) ?_
  refine lv_ifnullN (tgt := 41) hx hb dX9_countMinutes_29 (by decide) ?_
  refine lv_iinc (v := 11) (lv' := [(5, .int 11), (6, .null), (4, .int 16), (3, .ref q3), (2, .int 0), (0, .ref x), (1, .int a1)]) hx hb dX9_countMinutes_41 hl (k := 1) rfl (by decide) (by decide) rfl (fun ls hl => ?_)
  refine lv_goto (tgt := 14) hx hb dX9_countMinutes_44 (by decide) ?_
  refine lv_iload hx hb dX9_countMinutes_14 (lv_at hl 0 rfl) ?_
  refine lv_iload hx hb dX9_countMinutes_16 (lv_at hl 2 rfl) ?_
  refine lv_icmp_ge (tgt := 47) hx hb dX9_countMinutes_18 (by decide) (fun c_12 => absurd c_12 (show ¬ (16 : Int32) ≤ (11 : Int32) from (by decide))) (fun c_12 => ?_)
  refine lv_aload_n hx hb dX9_countMinutes_21 rfl (lv_at hl 3 rfl) ?_
  refine lv_iload hx hb dX9_countMinutes_22 (lv_at hl 0 rfl) ?_
  refine va_aldq hx hb hK hP 1 0 rfl rfl (vp_in_iff.mpr (by decide)) dX9_countMinutes_24 ?_
  refine lv_astoreN (lv' := [(6, .null), (5, .int 11), (4, .int 16), (3, .ref q3), (2, .int 0), (0, .ref x), (1, .int a1)]) hx hb dX9_countMinutes_25 hl (by decide) rfl (fun ls hl => ?_)
  refine lv_aloadN hx hb dX9_countMinutes_27 (lv_at hl 0 rfl) ?_
  refine lv_ifnullN (tgt := 41) hx hb dX9_countMinutes_29 (by decide) ?_
  refine lv_iinc (v := 12) (lv' := [(5, .int 12), (6, .null), (4, .int 16), (3, .ref q3), (2, .int 0), (0, .ref x), (1, .int a1)]) hx hb dX9_countMinutes_41 hl (k := 1) rfl (by decide) (by decide) rfl (fun ls hl => ?_)
  refine lv_goto (tgt := 14) hx hb dX9_countMinutes_44 (by decide) ?_
  refine lv_iload hx hb dX9_countMinutes_14 (lv_at hl 0 rfl) ?_
  refine lv_iload hx hb dX9_countMinutes_16 (lv_at hl 2 rfl) ?_
  refine lv_icmp_ge (tgt := 47) hx hb dX9_countMinutes_18 (by decide) (fun c_13 => absurd c_13 (show ¬ (16 : Int32) ≤ (12 : Int32) from (by decide))) (fun c_13 => ?_)
  refine lv_aload_n hx hb dX9_countMinutes_21 rfl (lv_at hl 3 rfl) ?_
  refine lv_iload hx hb dX9_countMinutes_22 (lv_at hl 0 rfl) ?_
  refine va_aldq hx hb hK hP 1 0 rfl rfl (vp_in_iff.mpr (by decide)) dX9_countMinutes_24 ?_
  refine lv_astoreN (lv' := [(6, .null), (5, .int 12), (4, .int 16), (3, .ref q3), (2, .int 0), (0, .ref x), (1, .int a1)]) hx hb dX9_countMinutes_25 hl (by decide) rfl (fun ls hl => ?_)
  refine lv_aloadN hx hb dX9_countMinutes_27 (lv_at hl 0 rfl) ?_
  refine lv_ifnullN (tgt := 41) hx hb dX9_countMinutes_29 (by decide) ?_
  refine lv_iinc (v := 13) (lv' := [(5, .int 13), (6, .null), (4, .int 16), (3, .ref q3), (2, .int 0), (0, .ref x), (1, .int a1)]) hx hb dX9_countMinutes_41 hl (k := 1) rfl (by decide) (by decide) rfl (fun ls hl => ?_)
  refine lv_goto (tgt := 14) hx hb dX9_countMinutes_44 (by decide) ?_
  refine lv_iload hx hb dX9_countMinutes_14 (lv_at hl 0 rfl) ?_
  refine lv_iload hx hb dX9_countMinutes_16 (lv_at hl 2 rfl) ?_
  refine lv_icmp_ge (tgt := 47) hx hb dX9_countMinutes_18 (by decide) (fun c_14 => absurd c_14 (show ¬ (16 : Int32) ≤ (13 : Int32) from (by decide))) (fun c_14 => ?_)
  refine lv_aload_n hx hb dX9_countMinutes_21 rfl (lv_at hl 3 rfl) ?_
  refine lv_iload hx hb dX9_countMinutes_22 (lv_at hl 0 rfl) ?_
  refine va_aldq hx hb hK hP 1 0 rfl rfl (vp_in_iff.mpr (by decide)) dX9_countMinutes_24 ?_
  refine lv_astoreN (lv' := [(6, .null), (5, .int 13), (4, .int 16), (3, .ref q3), (2, .int 0), (0, .ref x), (1, .int a1)]) hx hb dX9_countMinutes_25 hl (by decide) rfl (fun ls hl => ?_)
  refine lv_aloadN hx hb dX9_countMinutes_27 (lv_at hl 0 rfl) ?_
  refine lv_ifnullN (tgt := 41) hx hb dX9_countMinutes_29 (by decide) ?_
  refine lv_iinc (v := 14) (lv' := [(5, .int 14), (6, .null), (4, .int 16), (3, .ref q3), (2, .int 0), (0, .ref x), (1, .int a1)]) hx hb dX9_countMinutes_41 hl (k := 1) rfl (by decide) (by decide) rfl (fun ls hl => ?_)
  refine lv_goto (tgt := 14) hx hb dX9_countMinutes_44 (by decide) ?_
  refine lv_iload hx hb dX9_countMinutes_14 (lv_at hl 0 rfl) ?_
  refine lv_iload hx hb dX9_countMinutes_16 (lv_at hl 2 rfl) ?_
  refine lv_icmp_ge (tgt := 47) hx hb dX9_countMinutes_18 (by decide) (fun c_15 => absurd c_15 (show ¬ (16 : Int32) ≤ (14 : Int32) from (by decide))) (fun c_15 => ?_)
  refine lv_aload_n hx hb dX9_countMinutes_21 rfl (lv_at hl 3 rfl) ?_
  refine lv_iload hx hb dX9_countMinutes_22 (lv_at hl 0 rfl) ?_
  refine va_aldq hx hb hK hP 1 0 rfl rfl (vp_in_iff.mpr (by decide)) dX9_countMinutes_24 ?_
  refine lv_astoreN (lv' := [(6, .null), (5, .int 14), (4, .int 16), (3, .ref q3), (2, .int 0), (0, .ref x), (1, .int a1)]) hx hb dX9_countMinutes_25 hl (by decide) rfl (fun ls hl => ?_)
  refine lv_aloadN hx hb dX9_countMinutes_27 (lv_at hl 0 rfl) ?_
  refine lv_ifnullN (tgt := 41) hx hb dX9_countMinutes_29 (by decide) ?_
  refine lv_iinc (v := 15) (lv' := [(5, .int 15), (6, .null), (4, .int 16), (3, .ref q3), (2, .int 0), (0, .ref x), (1, .int a1)]) hx hb dX9_countMinutes_41 hl (k := 1) rfl (by decide) (by decide) rfl (fun ls hl => ?_)
  refine lv_goto (tgt := 14) hx hb dX9_countMinutes_44 (by decide) ?_
  refine lv_iload hx hb dX9_countMinutes_14 (lv_at hl 0 rfl) ?_
  refine lv_iload hx hb dX9_countMinutes_16 (lv_at hl 2 rfl) ?_
  refine lv_icmp_ge (tgt := 47) hx hb dX9_countMinutes_18 (by decide) (fun c_16 => absurd c_16 (show ¬ (16 : Int32) ≤ (15 : Int32) from (by decide))) (fun c_16 => ?_)
  refine lv_aload_n hx hb dX9_countMinutes_21 rfl (lv_at hl 3 rfl) ?_
  refine lv_iload hx hb dX9_countMinutes_22 (lv_at hl 0 rfl) ?_
  refine va_aldq hx hb hK hP 1 0 rfl rfl (vp_in_iff.mpr (by decide)) dX9_countMinutes_24 ?_
  refine lv_astoreN (lv' := [(6, .null), (5, .int 15), (4, .int 16), (3, .ref q3), (2, .int 0), (0, .ref x), (1, .int a1)]) hx hb dX9_countMinutes_25 hl (by decide) rfl (fun ls hl => ?_)
  refine lv_aloadN hx hb dX9_countMinutes_27 (lv_at hl 0 rfl) ?_
  refine lv_ifnullN (tgt := 41) hx hb dX9_countMinutes_29 (by decide) ?_
  refine lv_iinc (v := 16) (lv' := [(5, .int 16), (6, .null), (4, .int 16), (3, .ref q3), (2, .int 0), (0, .ref x), (1, .int a1)]) hx hb dX9_countMinutes_41 hl (k := 1) rfl (by decide) (by decide) rfl (fun ls hl => ?_)
  refine lv_goto (tgt := 14) hx hb dX9_countMinutes_44 (by decide) ?_
  refine lv_iload hx hb dX9_countMinutes_14 (lv_at hl 0 rfl) ?_
  refine lv_iload hx hb dX9_countMinutes_16 (lv_at hl 2 rfl) ?_
  refine lv_icmp_ge (tgt := 47) hx hb dX9_countMinutes_18 (by decide) (fun c_17 => ?_) (fun c_17 => absurd (show (16 : Int32) ≤ (16 : Int32) from (by decide)) c_17)
  refine lv_iload_n hx hb dX9_countMinutes_47 rfl (lv_at hl 4 rfl) ?_
  have hP9 := hP.sub (ws' := [(x, .inr (13, [.ref q0, .ref q1, .ref q2, .ref q3, .ref q4, .ref q5, .ref q6, .int 0, .int 0, .int 0, .int 0, .int 0, .int 0, .int 0])), (q3, .inl (k3, 16, .inr (.inr (.inr (.inr (fun _ => none))))))]) [0, 1] rfl
  have hD9 := hD.sub (ws' := [(x, .inr (13, [.ref q0, .ref q1, .ref q2, .ref q3, .ref q4, .ref q5, .ref q6, .int 0, .int 0, .int 0, .int 0, .int 0, .int 0, .int 0])), (q3, .inl (k3, 16, .inr (.inr (.inr (.inr (fun _ => none))))))]) [0, 1] (by decide) rfl
  have hK9 := hK.sub (tys' := []) [] rfl
  exact end_i hx hb hr hlocks hP9 hD9 hK9 hS () rfl rfl rfl (Nat.le_of_ble_eq_true rfl) (Nat.le_of_ble_eq_true rfl) dX9_countMinutes_48
set_option maxHeartbeats 4000000 in
set_option maxRecDepth 100000 in
/-- countHands on a fresh object -/
theorem c_countHands (l : Launch) (D : va_G) (tC tE sz : Nat) (x q0 q1 q2 q3 q4 q5 q6 : Nat) (o0 o1 o2 o3 o4 o5 o6 o7 : Nat) (k5 : ClassId) (a1 : Int32) : Met l yX9_countHands wsX9_countHands ({ frames := 1, cells := 0, slots := 0, locals := 21 }) (Pg D tC tE sz [(x, .inr (13, [.ref q0, .ref q1, .ref q2, .ref q3, .ref q4, .ref q5, .ref q6, .int 0, .int 0, .int 0, .int 0, .int 0, .int 0, .int 0])), (q5, .inl (k5, 8, .inr (.inr (.inr (.inr (fop o0 o1 o2 o3 o4 o5 o6 o7)))))), (o0, .inr (8, [.int 0, .int 0, .int 0, .int 0])), (o1, .inr (8, [.int 0, .int 0, .int 0, .int 0])), (o2, .inr (8, [.int 0, .int 0, .int 0, .int 0])), (o3, .inr (8, [.int 0, .int 0, .int 0, .int 0])), (o4, .inr (8, [.int 0, .int 0, .int 0, .int 0])), (o5, .inr (8, [.int 0, .int 0, .int 0, .int 0])), (o6, .inr (8, [.int 0, .int 0, .int 0, .int 0])), (o7, .inr (8, [.int 0, .int 0, .int 0, .int 0]))] [(k5, .object "Lastroom$Operator")] [.ref x, .int a1]) (Qgi (S := Unit) D (fun u => [(x, .inr (13, [.ref q0, .ref q1, .ref q2, .ref q3, .ref q4, .ref q5, .ref q6, .int 0, .int 0, .int 0, .int 0, .int 0, .int 0, .int 0])), (q5, .inl (k5, 8, .inr (.inr (.inr (.inr (fop o0 o1 o2 o3 o4 o5 o6 o7)))))), (o0, .inr (8, [.int 0, .int 0, .int 0, .int 0])), (o1, .inr (8, [.int 0, .int 0, .int 0, .int 0])), (o2, .inr (8, [.int 0, .int 0, .int 0, .int 0])), (o3, .inr (8, [.int 0, .int 0, .int 0, .int 0])), (o4, .inr (8, [.int 0, .int 0, .int 0, .int 0])), (o5, .inr (8, [.int 0, .int 0, .int 0, .int 0])), (o6, .inr (8, [.int 0, .int 0, .int 0, .int 0])), (o7, .inr (8, [.int 0, .int 0, .int 0, .int 0]))]) (fun u => []) (fun r _ => r = 0) (va_A [(x, .inr (13, [.ref q0, .ref q1, .ref q2, .ref q3, .ref q4, .ref q5, .ref q6, .int 0, .int 0, .int 0, .int 0, .int 0, .int 0, .int 0])), (q5, .inl (k5, 8, .inr (.inr (.inr (.inr (fop o0 o1 o2 o3 o4 o5 o6 o7)))))), (o0, .inr (8, [.int 0, .int 0, .int 0, .int 0])), (o1, .inr (8, [.int 0, .int 0, .int 0, .int 0])), (o2, .inr (8, [.int 0, .int 0, .int 0, .int 0])), (o3, .inr (8, [.int 0, .int 0, .int 0, .int 0])), (o4, .inr (8, [.int 0, .int 0, .int 0, .int 0])), (o5, .inr (8, [.int 0, .int 0, .int 0, .int 0])), (o6, .inr (8, [.int 0, .int 0, .int 0, .int 0])), (o7, .inr (8, [.int 0, .int 0, .int 0, .int 0]))] sz)) 0 0 (va_A [(x, .inr (13, [.ref q0, .ref q1, .ref q2, .ref q3, .ref q4, .ref q5, .ref q6, .int 0, .int 0, .int 0, .int 0, .int 0, .int 0, .int 0])), (q5, .inl (k5, 8, .inr (.inr (.inr (.inr (fop o0 o1 o2 o3 o4 o5 o6 o7)))))), (o0, .inr (8, [.int 0, .int 0, .int 0, .int 0])), (o1, .inr (8, [.int 0, .int 0, .int 0, .int 0])), (o2, .inr (8, [.int 0, .int 0, .int 0, .int 0])), (o3, .inr (8, [.int 0, .int 0, .int 0, .int 0])), (o4, .inr (8, [.int 0, .int 0, .int 0, .int 0])), (o5, .inr (8, [.int 0, .int 0, .int 0, .int 0])), (o6, .inr (8, [.int 0, .int 0, .int 0, .int 0])), (o7, .inr (8, [.int 0, .int 0, .int 0, .int 0]))] sz) := by
  refine og_m (cc := cX9_countHands) (maxL := 7) (ret := (some .int)) (Qc := Qgi (S := Unit) D (fun u => [(x, .inr (13, [.ref q0, .ref q1, .ref q2, .ref q3, .ref q4, .ref q5, .ref q6, .int 0, .int 0, .int 0, .int 0, .int 0, .int 0, .int 0])), (q5, .inl (k5, 8, .inr (.inr (.inr (.inr (fop o0 o1 o2 o3 o4 o5 o6 o7)))))), (o0, .inr (8, [.int 0, .int 0, .int 0, .int 0])), (o1, .inr (8, [.int 0, .int 0, .int 0, .int 0])), (o2, .inr (8, [.int 0, .int 0, .int 0, .int 0])), (o3, .inr (8, [.int 0, .int 0, .int 0, .int 0])), (o4, .inr (8, [.int 0, .int 0, .int 0, .int 0])), (o5, .inr (8, [.int 0, .int 0, .int 0, .int 0])), (o6, .inr (8, [.int 0, .int 0, .int 0, .int 0])), (o7, .inr (8, [.int 0, .int 0, .int 0, .int 0]))]) (fun u => []) (fun r _ => r = 0)) (by decide) rfl (Nat.le_of_ble_eq_true rfl) ?_
  intro p e s m below meth c A hx hb hr hml hts hown hlocks hin hP hD hK hG hA hS ls hl
  have hl : lv_has ls 7 [(0, .ref x), (1, .int a1)] := hl
  refine lv_iconst (v := 0) hx hb dX9_countHands_0 (by decide) ?_
  refine lv_istore_n (lv' := [(2, .int 0), (0, .ref x), (1, .int a1)]) hx hb dX9_countHands_1 rfl hl (by decide) rfl (fun ls hl => ?_)
  refine lv_aload_n hx hb dX9_countHands_2 rfl (lv_at hl 1 rfl) ?_
  refine va_get (D := D) (ci := 13) (v := .ref q5) (C := RX9) (T := TX9) (N := 14) hx hb hts (fun w h => List.mem_cons_of_mem _ (List.mem_append_left _ (List.mem_append_right _ h))) hown hK hP 0 rfl rfl 5 (by decide) (hts (.fieldLink RX9 41 "Lastroom" "operators" "[LLastroom$Operator;") (List.mem_of_getElem? (i := 1) rfl)) (fun _ h9 => h9) rfl dX9_countHands_3 ?_
  refine lv_astore_n (lv' := [(3, .ref q5), (2, .int 0), (0, .ref x), (1, .int a1)]) hx hb dX9_countHands_6 rfl hl (by decide) rfl (fun ls hl => ?_)
  refine lv_aload_n hx hb dX9_countHands_7 rfl (lv_at hl 0 rfl) ?_
  refine va_alen hx hb hK hP 1 0 rfl rfl (v := 8) rfl dX9_countHands_8 ?_
  refine lv_istore (lv' := [(4, .int 8), (3, .ref q5), (2, .int 0), (0, .ref x), (1, .int a1)]) hx hb dX9_countHands_9 hl (by decide) rfl (fun ls hl => ?_)
  refine lv_iconst (v := 0) hx hb dX9_countHands_11 (by decide) ?_
  refine lv_istore (lv' := [(5, .int 0), (4, .int 8), (3, .ref q5), (2, .int 0), (0, .ref x), (1, .int a1)]) hx hb dX9_countHands_12 hl (by decide) rfl (fun ls hl => ?_)
  refine lv_iload hx hb dX9_countHands_14 (lv_at hl 0 rfl) ?_
  refine lv_iload hx hb dX9_countHands_16 (lv_at hl 1 rfl) ?_
  refine lv_icmp_ge (tgt := 58) hx hb dX9_countHands_18 (by decide) (fun c_1 => absurd c_1 (show ¬ (8 : Int32) ≤ (0 : Int32) from (by decide))) (fun c_1 => ?_)
  refine lv_aload_n hx hb dX9_countHands_21 rfl (lv_at hl 2 rfl) ?_
  refine lv_iload hx hb dX9_countHands_22 (lv_at hl 0 rfl) ?_
  refine va_aldq hx hb hK hP 1 0 rfl rfl (vp_in_iff.mpr (by decide)) dX9_countHands_24 ?_
  refine W.eq (g2 := F0 m 25 ls [.ref o0]) rfl ?_
  refine lv_astore (lv' := [(6, .ref o0), (5, .int 0), (4, .int 8), (3, .ref q5), (2, .int 0), (0, .ref x), (1, .int a1)]) hx hb dX9_countHands_25 hl (by decide) rfl (fun ls hl => ?_)
  refine lv_aload hx hb dX9_countHands_27 (lv_at hl 0 rfl) ?_
  refine lv_ifnull hx hb dX9_countHands_29 ?_
  refine lv_aload hx hb dX9_countHands_32 (lv_at hl 0 rfl) ?_
  refine va_get (D := D) (ci := 8) (v := .int 0) (C := RX4) (T := TX4) (N := 4) hx hb hts (fun w h => List.mem_cons_of_mem _ (List.mem_append_right _ h)) hown hK hP 2 rfl rfl 1 (by decide) (hts (.fieldLink RX9 345 "Lastroom$Operator" "isAbsent" "Z") (List.mem_of_getElem? (i := 2) rfl)) (fun _ h9 => h9) rfl dX9_countHands_34 ?_
  refine lv_if_ne (tgt := 52) hx hb dX9_countHands_37 (by decide) (fun c_2 => absurd (by decide) c_2) (fun c_2 => ?_)
  refine lv_aload hx hb dX9_countHands_40 (lv_at hl 0 rfl) ?_
  refine lv_iload_n hx hb dX9_countHands_42 rfl (lv_at hl 6 rfl) ?_
  have hFc := va_free (wc := [(o0, .inr (8, [.int 0, .int 0, .int 0, .int 0]))]) hD hS hA [2] rfl
  refine va_calli (va_runV (As := [.int a1]) (rest := []) ⟨hx, hb, hml, hown, hts⟩ (c_hasSkill l D tC tE s.heap.size o0 a1) (cwV 1 hts gX9_countHands_X4_hasSkill rfl rfl rfl (by decide +kernel) ⟨(Nat.le_of_ble_eq_true rfl), (Nat.le_of_ble_eq_true rfl)⟩) ⟨pg_blind, (va_recv hK hP (ci := 8) (q0 := 2) rfl rfl), (pg_pre hP hD hK hG hS hFc [2] rfl (by decide) [] rfl _)⟩ rfl rfl hl.1 rfl (lv_room (Nat.le_of_ble_eq_true rfl)) dX9_countHands_43 ⟨(Nat.le_of_ble_eq_true rfl), (Nat.le_of_ble_eq_true rfl)⟩) hS (fun q _ h => hFc q h) hFc (fun r_3 u_4 t H locs ht hvm hw hB hz1 hk1 hS => ?_)
  subst hw
  obtain ⟨hP, hD, hK⟩ := jn (wr := [(x, .inr (13, [.ref q0, .ref q1, .ref q2, .ref q3, .ref q4, .ref q5, .ref q6, .int 0, .int 0, .int 0, .int 0, .int 0, .int 0, .int 0])), (q5, .inl (k5, 8, .inr (.inr (.inr (.inr (fop o0 o1 o2 o3 o4 o5 o6 o7)))))), (o1, .inr (8, [.int 0, .int 0, .int 0, .int 0])), (o2, .inr (8, [.int 0, .int 0, .int 0, .int 0])), (o3, .inr (8, [.int 0, .int 0, .int 0, .int 0])), (o4, .inr (8, [.int 0, .int 0, .int 0, .int 0])), (o5, .inr (8, [.int 0, .int 0, .int 0, .int 0])), (o6, .inr (8, [.int 0, .int 0, .int 0, .int 0])), (o7, .inr (8, [.int 0, .int 0, .int 0, .int 0]))]) (w1 := [(o0, .inr (8, [.int 0, .int 0, .int 0, .int 0]))]) (t1 := []) (tr := [(k5, .object "Lastroom$Operator")]) hP hD hK [2] [0, 1, 3, 4, 5, 6, 7, 8, 9] rfl rfl (by decide) (by decide) [0] rfl hk1 hFc hB rfl rfl ht hvm
  have hP : va_P D vwCl [(x, .inr (13, [.ref q0, .ref q1, .ref q2, .ref q3, .ref q4, .ref q5, .ref q6, .int 0, .int 0, .int 0, .int 0, .int 0, .int 0, .int 0])), (q5, .inl (k5, 8, .inr (.inr (.inr (.inr (fop o0 o1 o2 o3 o4 o5 o6 o7)))))), (o1, .inr (8, [.int 0, .int 0, .int 0, .int 0])), (o2, .inr (8, [.int 0, .int 0, .int 0, .int 0])), (o3, .inr (8, [.int 0, .int 0, .int 0, .int 0])), (o4, .inr (8, [.int 0, .int 0, .int 0, .int 0])), (o5, .inr (8, [.int 0, .int 0, .int 0, .int 0])), (o6, .inr (8, [.int 0, .int 0, .int 0, .int 0])), (o7, .inr (8, [.int 0, .int 0, .int 0, .int 0])), (o0, .inr (8, [.int 0, .int 0, .int 0, .int 0]))] H := hP
  have hD : va_D A [(x, .inr (13, [.ref q0, .ref q1, .ref q2, .ref q3, .ref q4, .ref q5, .ref q6, .int 0, .int 0, .int 0, .int 0, .int 0, .int 0, .int 0])), (q5, .inl (k5, 8, .inr (.inr (.inr (.inr (fop o0 o1 o2 o3 o4 o5 o6 o7)))))), (o1, .inr (8, [.int 0, .int 0, .int 0, .int 0])), (o2, .inr (8, [.int 0, .int 0, .int 0, .int 0])), (o3, .inr (8, [.int 0, .int 0, .int 0, .int 0])), (o4, .inr (8, [.int 0, .int 0, .int 0, .int 0])), (o5, .inr (8, [.int 0, .int 0, .int 0, .int 0])), (o6, .inr (8, [.int 0, .int 0, .int 0, .int 0])), (o7, .inr (8, [.int 0, .int 0, .int 0, .int 0])), (o0, .inr (8, [.int 0, .int 0, .int 0, .int 0]))] := hD
  have hK : va_K D vwCl [(k5, .object "Lastroom$Operator")] s := hK
  refine W.widen (k := 0) (n := 0) (Nat.le_of_ble_eq_true rfl) (Nat.le_of_ble_eq_true rfl) ?_
  refine lv_if_eq (tgt := 52) hx hb dX9_countHands_46 (by decide) (fun c_5 => ?_) (fun c_5 => absurd (show (0 : Int32) = 0 from (by decide)) c_5)
  refine lv_iinc (v := 1) (lv' := [(5, .int 1), (6, .ref o0), (4, .int 8), (3, .ref q5), (2, .int 0), (0, .ref x), (1, .int a1)]) hx hb dX9_countHands_52 hl (k := 1) rfl (by decide) (by decide) rfl (fun ls hl => ?_)
  refine lv_goto (tgt := 14) hx hb dX9_countHands_55 (by decide) ?_
  refine lv_iload hx hb dX9_countHands_14 (lv_at hl 0 rfl) ?_
  refine lv_iload hx hb dX9_countHands_16 (lv_at hl 2 rfl) ?_
  refine lv_icmp_ge (tgt := 58) hx hb dX9_countHands_18 (by decide) (fun c_6 => absurd c_6 (show ¬ (8 : Int32) ≤ (1 : Int32) from (by decide))) (fun c_6 => ?_)
  refine lv_aload_n hx hb dX9_countHands_21 rfl (lv_at hl 3 rfl) ?_
  refine lv_iload hx hb dX9_countHands_22 (lv_at hl 0 rfl) ?_
  refine va_aldq hx hb hK hP 1 0 rfl rfl (vp_in_iff.mpr (by decide)) dX9_countHands_24 ?_
  refine W.eq (g2 := F0 m 25 ls [.ref o1]) rfl ?_
  refine lv_astore (lv' := [(6, .ref o1), (5, .int 1), (4, .int 8), (3, .ref q5), (2, .int 0), (0, .ref x), (1, .int a1)]) hx hb dX9_countHands_25 hl (by decide) rfl (fun ls hl => ?_)
  refine lv_aload hx hb dX9_countHands_27 (lv_at hl 0 rfl) ?_
  refine lv_ifnull hx hb dX9_countHands_29 ?_
  refine lv_aload hx hb dX9_countHands_32 (lv_at hl 0 rfl) ?_
  refine va_get (D := D) (ci := 8) (v := .int 0) (C := RX4) (T := TX4) (N := 4) hx hb hts (fun w h => List.mem_cons_of_mem _ (List.mem_append_right _ h)) hown hK hP 2 rfl rfl 1 (by decide) (hts (.fieldLink RX9 345 "Lastroom$Operator" "isAbsent" "Z") (List.mem_of_getElem? (i := 2) rfl)) (fun _ h9 => h9) rfl dX9_countHands_34 ?_
  refine lv_if_ne (tgt := 52) hx hb dX9_countHands_37 (by decide) (fun c_7 => absurd (by decide) c_7) (fun c_7 => ?_)
  refine lv_aload hx hb dX9_countHands_40 (lv_at hl 0 rfl) ?_
  refine lv_iload_n hx hb dX9_countHands_42 rfl (lv_at hl 6 rfl) ?_
  have hFc := va_free (wc := [(o1, .inr (8, [.int 0, .int 0, .int 0, .int 0]))]) hD hS hA [2] rfl
  refine va_calli (va_runV (As := [.int a1]) (rest := []) ⟨hx, hb, hml, hown, hts⟩ (c_hasSkill l D tC tE H.size o1 a1) (cwV 1 hts gX9_countHands_X4_hasSkill rfl rfl rfl (by decide +kernel) ⟨(Nat.le_of_ble_eq_true rfl), (Nat.le_of_ble_eq_true rfl)⟩) ⟨pg_blind, (va_recv hK hP (ci := 8) (q0 := 2) rfl rfl), (pg_pre hP hD hK hG hS hFc [2] rfl (by decide) [] rfl _)⟩ rfl rfl hl.1 rfl (lv_room (Nat.le_of_ble_eq_true rfl)) dX9_countHands_43 ⟨(Nat.le_of_ble_eq_true rfl), (Nat.le_of_ble_eq_true rfl)⟩) hS (fun q _ h => hFc q h) hFc (fun r_8 u_9 t H locs ht hvm hw hB hz1 hk1 hS => ?_)
  subst hw
  obtain ⟨hP, hD, hK⟩ := jn (wr := [(x, .inr (13, [.ref q0, .ref q1, .ref q2, .ref q3, .ref q4, .ref q5, .ref q6, .int 0, .int 0, .int 0, .int 0, .int 0, .int 0, .int 0])), (q5, .inl (k5, 8, .inr (.inr (.inr (.inr (fop o0 o1 o2 o3 o4 o5 o6 o7)))))), (o2, .inr (8, [.int 0, .int 0, .int 0, .int 0])), (o3, .inr (8, [.int 0, .int 0, .int 0, .int 0])), (o4, .inr (8, [.int 0, .int 0, .int 0, .int 0])), (o5, .inr (8, [.int 0, .int 0, .int 0, .int 0])), (o6, .inr (8, [.int 0, .int 0, .int 0, .int 0])), (o7, .inr (8, [.int 0, .int 0, .int 0, .int 0])), (o0, .inr (8, [.int 0, .int 0, .int 0, .int 0]))]) (w1 := [(o1, .inr (8, [.int 0, .int 0, .int 0, .int 0]))]) (t1 := []) (tr := [(k5, .object "Lastroom$Operator")]) hP hD hK [2] [0, 1, 3, 4, 5, 6, 7, 8, 9] rfl rfl (by decide) (by decide) [0] rfl hk1 hFc hB rfl rfl ht hvm
  have hP : va_P D vwCl [(x, .inr (13, [.ref q0, .ref q1, .ref q2, .ref q3, .ref q4, .ref q5, .ref q6, .int 0, .int 0, .int 0, .int 0, .int 0, .int 0, .int 0])), (q5, .inl (k5, 8, .inr (.inr (.inr (.inr (fop o0 o1 o2 o3 o4 o5 o6 o7)))))), (o2, .inr (8, [.int 0, .int 0, .int 0, .int 0])), (o3, .inr (8, [.int 0, .int 0, .int 0, .int 0])), (o4, .inr (8, [.int 0, .int 0, .int 0, .int 0])), (o5, .inr (8, [.int 0, .int 0, .int 0, .int 0])), (o6, .inr (8, [.int 0, .int 0, .int 0, .int 0])), (o7, .inr (8, [.int 0, .int 0, .int 0, .int 0])), (o0, .inr (8, [.int 0, .int 0, .int 0, .int 0])), (o1, .inr (8, [.int 0, .int 0, .int 0, .int 0]))] H := hP
  have hD : va_D A [(x, .inr (13, [.ref q0, .ref q1, .ref q2, .ref q3, .ref q4, .ref q5, .ref q6, .int 0, .int 0, .int 0, .int 0, .int 0, .int 0, .int 0])), (q5, .inl (k5, 8, .inr (.inr (.inr (.inr (fop o0 o1 o2 o3 o4 o5 o6 o7)))))), (o2, .inr (8, [.int 0, .int 0, .int 0, .int 0])), (o3, .inr (8, [.int 0, .int 0, .int 0, .int 0])), (o4, .inr (8, [.int 0, .int 0, .int 0, .int 0])), (o5, .inr (8, [.int 0, .int 0, .int 0, .int 0])), (o6, .inr (8, [.int 0, .int 0, .int 0, .int 0])), (o7, .inr (8, [.int 0, .int 0, .int 0, .int 0])), (o0, .inr (8, [.int 0, .int 0, .int 0, .int 0])), (o1, .inr (8, [.int 0, .int 0, .int 0, .int 0]))] := hD
  have hK : va_K D vwCl [(k5, .object "Lastroom$Operator")] s := hK
  refine W.widen (k := 0) (n := 0) (Nat.le_of_ble_eq_true rfl) (Nat.le_of_ble_eq_true rfl) ?_
  refine lv_if_eq (tgt := 52) hx hb dX9_countHands_46 (by decide) (fun c_10 => ?_) (fun c_10 => absurd (show (0 : Int32) = 0 from (by decide)) c_10)
  refine lv_iinc (v := 2) (lv' := [(5, .int 2), (6, .ref o1), (4, .int 8), (3, .ref q5), (2, .int 0), (0, .ref x), (1, .int a1)]) hx hb dX9_countHands_52 hl (k := 1) rfl (by decide) (by decide) rfl (fun ls hl => ?_)
  refine lv_goto (tgt := 14) hx hb dX9_countHands_55 (by decide) ?_
  refine lv_iload hx hb dX9_countHands_14 (lv_at hl 0 rfl) ?_
  refine lv_iload hx hb dX9_countHands_16 (lv_at hl 2 rfl) ?_
  refine lv_icmp_ge (tgt := 58) hx hb dX9_countHands_18 (by decide) (fun c_11 => absurd c_11 (show ¬ (8 : Int32) ≤ (2 : Int32) from (by decide))) (fun c_11 => ?_)
  refine lv_aload_n hx hb dX9_countHands_21 rfl (lv_at hl 3 rfl) ?_
  refine lv_iload hx hb dX9_countHands_22 (lv_at hl 0 rfl) ?_
  refine va_aldq hx hb hK hP 1 0 rfl rfl (vp_in_iff.mpr (by decide)) dX9_countHands_24 ?_
  refine W.eq (g2 := F0 m 25 ls [.ref o2]) rfl ?_
  refine lv_astore (lv' := [(6, .ref o2), (5, .int 2), (4, .int 8), (3, .ref q5), (2, .int 0), (0, .ref x), (1, .int a1)]) hx hb dX9_countHands_25 hl (by decide) rfl (fun ls hl => ?_)
  refine lv_aload hx hb dX9_countHands_27 (lv_at hl 0 rfl) ?_
  refine lv_ifnull hx hb dX9_countHands_29 ?_
  refine lv_aload hx hb dX9_countHands_32 (lv_at hl 0 rfl) ?_
  refine va_get (D := D) (ci := 8) (v := .int 0) (C := RX4) (T := TX4) (N := 4) hx hb hts (fun w h => List.mem_cons_of_mem _ (List.mem_append_right _ h)) hown hK hP 2 rfl rfl 1 (by decide) (hts (.fieldLink RX9 345 "Lastroom$Operator" "isAbsent" "Z") (List.mem_of_getElem? (i := 2) rfl)) (fun _ h9 => h9) rfl dX9_countHands_34 ?_
  refine lv_if_ne (tgt := 52) hx hb dX9_countHands_37 (by decide) (fun c_12 => absurd (by decide) c_12) (fun c_12 => ?_)
  refine lv_aload hx hb dX9_countHands_40 (lv_at hl 0 rfl) ?_
  refine lv_iload_n hx hb dX9_countHands_42 rfl (lv_at hl 6 rfl) ?_
  have hFc := va_free (wc := [(o2, .inr (8, [.int 0, .int 0, .int 0, .int 0]))]) hD hS hA [2] rfl
  refine va_calli (va_runV (As := [.int a1]) (rest := []) ⟨hx, hb, hml, hown, hts⟩ (c_hasSkill l D tC tE H.size o2 a1) (cwV 1 hts gX9_countHands_X4_hasSkill rfl rfl rfl (by decide +kernel) ⟨(Nat.le_of_ble_eq_true rfl), (Nat.le_of_ble_eq_true rfl)⟩) ⟨pg_blind, (va_recv hK hP (ci := 8) (q0 := 2) rfl rfl), (pg_pre hP hD hK hG hS hFc [2] rfl (by decide) [] rfl _)⟩ rfl rfl hl.1 rfl (lv_room (Nat.le_of_ble_eq_true rfl)) dX9_countHands_43 ⟨(Nat.le_of_ble_eq_true rfl), (Nat.le_of_ble_eq_true rfl)⟩) hS (fun q _ h => hFc q h) hFc (fun r_13 u_14 t H locs ht hvm hw hB hz1 hk1 hS => ?_)
  subst hw
  obtain ⟨hP, hD, hK⟩ := jn (wr := [(x, .inr (13, [.ref q0, .ref q1, .ref q2, .ref q3, .ref q4, .ref q5, .ref q6, .int 0, .int 0, .int 0, .int 0, .int 0, .int 0, .int 0])), (q5, .inl (k5, 8, .inr (.inr (.inr (.inr (fop o0 o1 o2 o3 o4 o5 o6 o7)))))), (o3, .inr (8, [.int 0, .int 0, .int 0, .int 0])), (o4, .inr (8, [.int 0, .int 0, .int 0, .int 0])), (o5, .inr (8, [.int 0, .int 0, .int 0, .int 0])), (o6, .inr (8, [.int 0, .int 0, .int 0, .int 0])), (o7, .inr (8, [.int 0, .int 0, .int 0, .int 0])), (o0, .inr (8, [.int 0, .int 0, .int 0, .int 0])), (o1, .inr (8, [.int 0, .int 0, .int 0, .int 0]))]) (w1 := [(o2, .inr (8, [.int 0, .int 0, .int 0, .int 0]))]) (t1 := []) (tr := [(k5, .object "Lastroom$Operator")]) hP hD hK [2] [0, 1, 3, 4, 5, 6, 7, 8, 9] rfl rfl (by decide) (by decide) [0] rfl hk1 hFc hB rfl rfl ht hvm
  have hP : va_P D vwCl [(x, .inr (13, [.ref q0, .ref q1, .ref q2, .ref q3, .ref q4, .ref q5, .ref q6, .int 0, .int 0, .int 0, .int 0, .int 0, .int 0, .int 0])), (q5, .inl (k5, 8, .inr (.inr (.inr (.inr (fop o0 o1 o2 o3 o4 o5 o6 o7)))))), (o3, .inr (8, [.int 0, .int 0, .int 0, .int 0])), (o4, .inr (8, [.int 0, .int 0, .int 0, .int 0])), (o5, .inr (8, [.int 0, .int 0, .int 0, .int 0])), (o6, .inr (8, [.int 0, .int 0, .int 0, .int 0])), (o7, .inr (8, [.int 0, .int 0, .int 0, .int 0])), (o0, .inr (8, [.int 0, .int 0, .int 0, .int 0])), (o1, .inr (8, [.int 0, .int 0, .int 0, .int 0])), (o2, .inr (8, [.int 0, .int 0, .int 0, .int 0]))] H := hP
  have hD : va_D A [(x, .inr (13, [.ref q0, .ref q1, .ref q2, .ref q3, .ref q4, .ref q5, .ref q6, .int 0, .int 0, .int 0, .int 0, .int 0, .int 0, .int 0])), (q5, .inl (k5, 8, .inr (.inr (.inr (.inr (fop o0 o1 o2 o3 o4 o5 o6 o7)))))), (o3, .inr (8, [.int 0, .int 0, .int 0, .int 0])), (o4, .inr (8, [.int 0, .int 0, .int 0, .int 0])), (o5, .inr (8, [.int 0, .int 0, .int 0, .int 0])), (o6, .inr (8, [.int 0, .int 0, .int 0, .int 0])), (o7, .inr (8, [.int 0, .int 0, .int 0, .int 0])), (o0, .inr (8, [.int 0, .int 0, .int 0, .int 0])), (o1, .inr (8, [.int 0, .int 0, .int 0, .int 0])), (o2, .inr (8, [.int 0, .int 0, .int 0, .int 0]))] := hD
  have hK : va_K D vwCl [(k5, .object "Lastroom$Operator")] s := hK
  refine W.widen (k := 0) (n := 0) (Nat.le_of_ble_eq_true rfl) (Nat.le_of_ble_eq_true rfl) ?_
  refine lv_if_eq (tgt := 52) hx hb dX9_countHands_46 (by decide) (fun c_15 => ?_) (fun c_15 => absurd (show (0 : Int32) = 0 from (by decide)) c_15)
  refine lv_iinc (v := 3) (lv' := [(5, .int 3), (6, .ref o2), (4, .int 8), (3, .ref q5), (2, .int 0), (0, .ref x), (1, .int a1)]) hx hb dX9_countHands_52 hl (k := 1) rfl (by decide) (by decide) rfl (fun ls hl => ?_)
  refine lv_goto (tgt := 14) hx hb dX9_countHands_55 (by decide) ?_
  refine lv_iload hx hb dX9_countHands_14 (lv_at hl 0 rfl) ?_
  refine lv_iload hx hb dX9_countHands_16 (lv_at hl 2 rfl) ?_
  refine lv_icmp_ge (tgt := 58) hx hb dX9_countHands_18 (by decide) (fun c_16 => absurd c_16 (show ¬ (8 : Int32) ≤ (3 : Int32) from (by decide))) (fun c_16 => ?_)
  refine lv_aload_n hx hb dX9_countHands_21 rfl (lv_at hl 3 rfl) ?_
  refine lv_iload hx hb dX9_countHands_22 (lv_at hl 0 rfl) ?_
  refine va_aldq hx hb hK hP 1 0 rfl rfl (vp_in_iff.mpr (by decide)) dX9_countHands_24 ?_
  refine W.eq (g2 := F0 m 25 ls [.ref o3]) rfl ?_
  refine lv_astore (lv' := [(6, .ref o3), (5, .int 3), (4, .int 8), (3, .ref q5), (2, .int 0), (0, .ref x), (1, .int a1)]) hx hb dX9_countHands_25 hl (by decide) rfl (fun ls hl => ?_)
  refine lv_aload hx hb dX9_countHands_27 (lv_at hl 0 rfl) ?_
  refine lv_ifnull hx hb dX9_countHands_29 ?_
  refine lv_aload hx hb dX9_countHands_32 (lv_at hl 0 rfl) ?_
  refine va_get (D := D) (ci := 8) (v := .int 0) (C := RX4) (T := TX4) (N := 4) hx hb hts (fun w h => List.mem_cons_of_mem _ (List.mem_append_right _ h)) hown hK hP 2 rfl rfl 1 (by decide) (hts (.fieldLink RX9 345 "Lastroom$Operator" "isAbsent" "Z") (List.mem_of_getElem? (i := 2) rfl)) (fun _ h9 => h9) rfl dX9_countHands_34 ?_
  refine lv_if_ne (tgt := 52) hx hb dX9_countHands_37 (by decide) (fun c_17 => absurd (by decide) c_17) (fun c_17 => ?_)
  refine lv_aload hx hb dX9_countHands_40 (lv_at hl 0 rfl) ?_
  refine lv_iload_n hx hb dX9_countHands_42 rfl (lv_at hl 6 rfl) ?_
  have hFc := va_free (wc := [(o3, .inr (8, [.int 0, .int 0, .int 0, .int 0]))]) hD hS hA [2] rfl
  refine va_calli (va_runV (As := [.int a1]) (rest := []) ⟨hx, hb, hml, hown, hts⟩ (c_hasSkill l D tC tE H.size o3 a1) (cwV 1 hts gX9_countHands_X4_hasSkill rfl rfl rfl (by decide +kernel) ⟨(Nat.le_of_ble_eq_true rfl), (Nat.le_of_ble_eq_true rfl)⟩) ⟨pg_blind, (va_recv hK hP (ci := 8) (q0 := 2) rfl rfl), (pg_pre hP hD hK hG hS hFc [2] rfl (by decide) [] rfl _)⟩ rfl rfl hl.1 rfl (lv_room (Nat.le_of_ble_eq_true rfl)) dX9_countHands_43 ⟨(Nat.le_of_ble_eq_true rfl), (Nat.le_of_ble_eq_true rfl)⟩) hS (fun q _ h => hFc q h) hFc (fun r_18 u_19 t H locs ht hvm hw hB hz1 hk1 hS => ?_)
  subst hw
  obtain ⟨hP, hD, hK⟩ := jn (wr := [(x, .inr (13, [.ref q0, .ref q1, .ref q2, .ref q3, .ref q4, .ref q5, .ref q6, .int 0, .int 0, .int 0, .int 0, .int 0, .int 0, .int 0])), (q5, .inl (k5, 8, .inr (.inr (.inr (.inr (fop o0 o1 o2 o3 o4 o5 o6 o7)))))), (o4, .inr (8, [.int 0, .int 0, .int 0, .int 0])), (o5, .inr (8, [.int 0, .int 0, .int 0, .int 0])), (o6, .inr (8, [.int 0, .int 0, .int 0, .int 0])), (o7, .inr (8, [.int 0, .int 0, .int 0, .int 0])), (o0, .inr (8, [.int 0, .int 0, .int 0, .int 0])), (o1, .inr (8, [.int 0, .int 0, .int 0, .int 0])), (o2, .inr (8, [.int 0, .int 0, .int 0, .int 0]))]) (w1 := [(o3, .inr (8, [.int 0, .int 0, .int 0, .int 0]))]) (t1 := []) (tr := [(k5, .object "Lastroom$Operator")]) hP hD hK [2] [0, 1, 3, 4, 5, 6, 7, 8, 9] rfl rfl (by decide) (by decide) [0] rfl hk1 hFc hB rfl rfl ht hvm
  have hP : va_P D vwCl [(x, .inr (13, [.ref q0, .ref q1, .ref q2, .ref q3, .ref q4, .ref q5, .ref q6, .int 0, .int 0, .int 0, .int 0, .int 0, .int 0, .int 0])), (q5, .inl (k5, 8, .inr (.inr (.inr (.inr (fop o0 o1 o2 o3 o4 o5 o6 o7)))))), (o4, .inr (8, [.int 0, .int 0, .int 0, .int 0])), (o5, .inr (8, [.int 0, .int 0, .int 0, .int 0])), (o6, .inr (8, [.int 0, .int 0, .int 0, .int 0])), (o7, .inr (8, [.int 0, .int 0, .int 0, .int 0])), (o0, .inr (8, [.int 0, .int 0, .int 0, .int 0])), (o1, .inr (8, [.int 0, .int 0, .int 0, .int 0])), (o2, .inr (8, [.int 0, .int 0, .int 0, .int 0])), (o3, .inr (8, [.int 0, .int 0, .int 0, .int 0]))] H := hP
  have hD : va_D A [(x, .inr (13, [.ref q0, .ref q1, .ref q2, .ref q3, .ref q4, .ref q5, .ref q6, .int 0, .int 0, .int 0, .int 0, .int 0, .int 0, .int 0])), (q5, .inl (k5, 8, .inr (.inr (.inr (.inr (fop o0 o1 o2 o3 o4 o5 o6 o7)))))), (o4, .inr (8, [.int 0, .int 0, .int 0, .int 0])), (o5, .inr (8, [.int 0, .int 0, .int 0, .int 0])), (o6, .inr (8, [.int 0, .int 0, .int 0, .int 0])), (o7, .inr (8, [.int 0, .int 0, .int 0, .int 0])), (o0, .inr (8, [.int 0, .int 0, .int 0, .int 0])), (o1, .inr (8, [.int 0, .int 0, .int 0, .int 0])), (o2, .inr (8, [.int 0, .int 0, .int 0, .int 0])), (o3, .inr (8, [.int 0, .int 0, .int 0, .int 0]))] := hD
  have hK : va_K D vwCl [(k5, .object "Lastroom$Operator")] s := hK
  refine W.widen (k := 0) (n := 0) (Nat.le_of_ble_eq_true rfl) (Nat.le_of_ble_eq_true rfl) ?_
  refine lv_if_eq (tgt := 52) hx hb dX9_countHands_46 (by decide) (fun c_20 => ?_) (fun c_20 => absurd (show (0 : Int32) = 0 from (by decide)) c_20)
  refine lv_iinc (v := 4) (lv' := [(5, .int 4), (6, .ref o3), (4, .int 8), (3, .ref q5), (2, .int 0), (0, .ref x), (1, .int a1)]) hx hb dX9_countHands_52 hl (k := 1) rfl (by decide) (by decide) rfl (fun ls hl => ?_)
  refine lv_goto (tgt := 14) hx hb dX9_countHands_55 (by decide) ?_
  refine lv_iload hx hb dX9_countHands_14 (lv_at hl 0 rfl) ?_
  refine lv_iload hx hb dX9_countHands_16 (lv_at hl 2 rfl) ?_
  refine lv_icmp_ge (tgt := 58) hx hb dX9_countHands_18 (by decide) (fun c_21 => absurd c_21 (show ¬ (8 : Int32) ≤ (4 : Int32) from (by decide))) (fun c_21 => ?_)
  refine lv_aload_n hx hb dX9_countHands_21 rfl (lv_at hl 3 rfl) ?_
  refine lv_iload hx hb dX9_countHands_22 (lv_at hl 0 rfl) ?_
  refine va_aldq hx hb hK hP 1 0 rfl rfl (vp_in_iff.mpr (by decide)) dX9_countHands_24 ?_
  refine W.eq (g2 := F0 m 25 ls [.ref o4]) rfl ?_
  refine lv_astore (lv' := [(6, .ref o4), (5, .int 4), (4, .int 8), (3, .ref q5), (2, .int 0), (0, .ref x), (1, .int a1)]) hx hb dX9_countHands_25 hl (by decide) rfl (fun ls hl => ?_)
  refine lv_aload hx hb dX9_countHands_27 (lv_at hl 0 rfl) ?_
  refine lv_ifnull hx hb dX9_countHands_29 ?_
  refine lv_aload hx hb dX9_countHands_32 (lv_at hl 0 rfl) ?_
  refine va_get (D := D) (ci := 8) (v := .int 0) (C := RX4) (T := TX4) (N := 4) hx hb hts (fun w h => List.mem_cons_of_mem _ (List.mem_append_right _ h)) hown hK hP 2 rfl rfl 1 (by decide) (hts (.fieldLink RX9 345 "Lastroom$Operator" "isAbsent" "Z") (List.mem_of_getElem? (i := 2) rfl)) (fun _ h9 => h9) rfl dX9_countHands_34 ?_
  refine lv_if_ne (tgt := 52) hx hb dX9_countHands_37 (by decide) (fun c_22 => absurd (by decide) c_22) (fun c_22 => ?_)
  refine lv_aload hx hb dX9_countHands_40 (lv_at hl 0 rfl) ?_
  refine lv_iload_n hx hb dX9_countHands_42 rfl (lv_at hl 6 rfl) ?_
  have hFc := va_free (wc := [(o4, .inr (8, [.int 0, .int 0, .int 0, .int 0]))]) hD hS hA [2] rfl
  refine va_calli (va_runV (As := [.int a1]) (rest := []) ⟨hx, hb, hml, hown, hts⟩ (c_hasSkill l D tC tE H.size o4 a1) (cwV 1 hts gX9_countHands_X4_hasSkill rfl rfl rfl (by decide +kernel) ⟨(Nat.le_of_ble_eq_true rfl), (Nat.le_of_ble_eq_true rfl)⟩) ⟨pg_blind, (va_recv hK hP (ci := 8) (q0 := 2) rfl rfl), (pg_pre hP hD hK hG hS hFc [2] rfl (by decide) [] rfl _)⟩ rfl rfl hl.1 rfl (lv_room (Nat.le_of_ble_eq_true rfl)) dX9_countHands_43 ⟨(Nat.le_of_ble_eq_true rfl), (Nat.le_of_ble_eq_true rfl)⟩) hS (fun q _ h => hFc q h) hFc (fun r_23 u_24 t H locs ht hvm hw hB hz1 hk1 hS => ?_)
  subst hw
  obtain ⟨hP, hD, hK⟩ := jn (wr := [(x, .inr (13, [.ref q0, .ref q1, .ref q2, .ref q3, .ref q4, .ref q5, .ref q6, .int 0, .int 0, .int 0, .int 0, .int 0, .int 0, .int 0])), (q5, .inl (k5, 8, .inr (.inr (.inr (.inr (fop o0 o1 o2 o3 o4 o5 o6 o7)))))), (o5, .inr (8, [.int 0, .int 0, .int 0, .int 0])), (o6, .inr (8, [.int 0, .int 0, .int 0, .int 0])), (o7, .inr (8, [.int 0, .int 0, .int 0, .int 0])), (o0, .inr (8, [.int 0, .int 0, .int 0, .int 0])), (o1, .inr (8, [.int 0, .int 0, .int 0, .int 0])), (o2, .inr (8, [.int 0, .int 0, .int 0, .int 0])), (o3, .inr (8, [.int 0, .int 0, .int 0, .int 0]))]) (w1 := [(o4, .inr (8, [.int 0, .int 0, .int 0, .int 0]))]) (t1 := []) (tr := [(k5, .object "Lastroom$Operator")]) hP hD hK [2] [0, 1, 3, 4, 5, 6, 7, 8, 9] rfl rfl (by decide) (by decide) [0] rfl hk1 hFc hB rfl rfl ht hvm
  have hP : va_P D vwCl [(x, .inr (13, [.ref q0, .ref q1, .ref q2, .ref q3, .ref q4, .ref q5, .ref q6, .int 0, .int 0, .int 0, .int 0, .int 0, .int 0, .int 0])), (q5, .inl (k5, 8, .inr (.inr (.inr (.inr (fop o0 o1 o2 o3 o4 o5 o6 o7)))))), (o5, .inr (8, [.int 0, .int 0, .int 0, .int 0])), (o6, .inr (8, [.int 0, .int 0, .int 0, .int 0])), (o7, .inr (8, [.int 0, .int 0, .int 0, .int 0])), (o0, .inr (8, [.int 0, .int 0, .int 0, .int 0])), (o1, .inr (8, [.int 0, .int 0, .int 0, .int 0])), (o2, .inr (8, [.int 0, .int 0, .int 0, .int 0])), (o3, .inr (8, [.int 0, .int 0, .int 0, .int 0])), (o4, .inr (8, [.int 0, .int 0, .int 0, .int 0]))] H := hP
  have hD : va_D A [(x, .inr (13, [.ref q0, .ref q1, .ref q2, .ref q3, .ref q4, .ref q5, .ref q6, .int 0, .int 0, .int 0, .int 0, .int 0, .int 0, .int 0])), (q5, .inl (k5, 8, .inr (.inr (.inr (.inr (fop o0 o1 o2 o3 o4 o5 o6 o7)))))), (o5, .inr (8, [.int 0, .int 0, .int 0, .int 0])), (o6, .inr (8, [.int 0, .int 0, .int 0, .int 0])), (o7, .inr (8, [.int 0, .int 0, .int 0, .int 0])), (o0, .inr (8, [.int 0, .int 0, .int 0, .int 0])), (o1, .inr (8, [.int 0, .int 0, .int 0, .int 0])), (o2, .inr (8, [.int 0, .int 0, .int 0, .int 0])), (o3, .inr (8, [.int 0, .int 0, .int 0, .int 0])), (o4, .inr (8, [.int 0, .int 0, .int 0, .int 0]))] := hD
  have hK : va_K D vwCl [(k5, .object "Lastroom$Operator")] s := hK
  refine W.widen (k := 0) (n := 0) (Nat.le_of_ble_eq_true rfl) (Nat.le_of_ble_eq_true rfl) ?_
  refine lv_if_eq (tgt := 52) hx hb dX9_countHands_46 (by decide) (fun c_25 => ?_) (fun c_25 => absurd (show (0 : Int32) = 0 from (by decide)) c_25)
  refine lv_iinc (v := 5) (lv' := [(5, .int 5), (6, .ref o4), (4, .int 8), (3, .ref q5), (2, .int 0), (0, .ref x), (1, .int a1)]) hx hb dX9_countHands_52 hl (k := 1) rfl (by decide) (by decide) rfl (fun ls hl => ?_)
  refine lv_goto (tgt := 14) hx hb dX9_countHands_55 (by decide) ?_
  refine lv_iload hx hb dX9_countHands_14 (lv_at hl 0 rfl) ?_
  refine lv_iload hx hb dX9_countHands_16 (lv_at hl 2 rfl) ?_
  refine lv_icmp_ge (tgt := 58) hx hb dX9_countHands_18 (by decide) (fun c_26 => absurd c_26 (show ¬ (8 : Int32) ≤ (5 : Int32) from (by decide))) (fun c_26 => ?_)
  refine lv_aload_n hx hb dX9_countHands_21 rfl (lv_at hl 3 rfl) ?_
  refine lv_iload hx hb dX9_countHands_22 (lv_at hl 0 rfl) ?_
  refine va_aldq hx hb hK hP 1 0 rfl rfl (vp_in_iff.mpr (by decide)) dX9_countHands_24 ?_
  refine W.eq (g2 := F0 m 25 ls [.ref o5]) rfl ?_
  refine lv_astore (lv' := [(6, .ref o5), (5, .int 5), (4, .int 8), (3, .ref q5), (2, .int 0), (0, .ref x), (1, .int a1)]) hx hb dX9_countHands_25 hl (by decide) rfl (fun ls hl => ?_)
  refine lv_aload hx hb dX9_countHands_27 (lv_at hl 0 rfl) ?_
  refine lv_ifnull hx hb dX9_countHands_29 ?_
  refine lv_aload hx hb dX9_countHands_32 (lv_at hl 0 rfl) ?_
  refine va_get (D := D) (ci := 8) (v := .int 0) (C := RX4) (T := TX4) (N := 4) hx hb hts (fun w h => List.mem_cons_of_mem _ (List.mem_append_right _ h)) hown hK hP 2 rfl rfl 1 (by decide) (hts (.fieldLink RX9 345 "Lastroom$Operator" "isAbsent" "Z") (List.mem_of_getElem? (i := 2) rfl)) (fun _ h9 => h9) rfl dX9_countHands_34 ?_
  refine lv_if_ne (tgt := 52) hx hb dX9_countHands_37 (by decide) (fun c_27 => absurd (by decide) c_27) (fun c_27 => ?_)
  refine lv_aload hx hb dX9_countHands_40 (lv_at hl 0 rfl) ?_
  refine lv_iload_n hx hb dX9_countHands_42 rfl (lv_at hl 6 rfl) ?_
  have hFc := va_free (wc := [(o5, .inr (8, [.int 0, .int 0, .int 0, .int 0]))]) hD hS hA [2] rfl
  refine va_calli (va_runV (As := [.int a1]) (rest := []) ⟨hx, hb, hml, hown, hts⟩ (c_hasSkill l D tC tE H.size o5 a1) (cwV 1 hts gX9_countHands_X4_hasSkill rfl rfl rfl (by decide +kernel) ⟨(Nat.le_of_ble_eq_true rfl), (Nat.le_of_ble_eq_true rfl)⟩) ⟨pg_blind, (va_recv hK hP (ci := 8) (q0 := 2) rfl rfl), (pg_pre hP hD hK hG hS hFc [2] rfl (by decide) [] rfl _)⟩ rfl rfl hl.1 rfl (lv_room (Nat.le_of_ble_eq_true rfl)) dX9_countHands_43 ⟨(Nat.le_of_ble_eq_true rfl), (Nat.le_of_ble_eq_true rfl)⟩) hS (fun q _ h => hFc q h) hFc (fun r_28 u_29 t H locs ht hvm hw hB hz1 hk1 hS => ?_)
  subst hw
  obtain ⟨hP, hD, hK⟩ := jn (wr := [(x, .inr (13, [.ref q0, .ref q1, .ref q2, .ref q3, .ref q4, .ref q5, .ref q6, .int 0, .int 0, .int 0, .int 0, .int 0, .int 0, .int 0])), (q5, .inl (k5, 8, .inr (.inr (.inr (.inr (fop o0 o1 o2 o3 o4 o5 o6 o7)))))), (o6, .inr (8, [.int 0, .int 0, .int 0, .int 0])), (o7, .inr (8, [.int 0, .int 0, .int 0, .int 0])), (o0, .inr (8, [.int 0, .int 0, .int 0, .int 0])), (o1, .inr (8, [.int 0, .int 0, .int 0, .int 0])), (o2, .inr (8, [.int 0, .int 0, .int 0, .int 0])), (o3, .inr (8, [.int 0, .int 0, .int 0, .int 0])), (o4, .inr (8, [.int 0, .int 0, .int 0, .int 0]))]) (w1 := [(o5, .inr (8, [.int 0, .int 0, .int 0, .int 0]))]) (t1 := []) (tr := [(k5, .object "Lastroom$Operator")]) hP hD hK [2] [0, 1, 3, 4, 5, 6, 7, 8, 9] rfl rfl (by decide) (by decide) [0] rfl hk1 hFc hB rfl rfl ht hvm
  have hP : va_P D vwCl [(x, .inr (13, [.ref q0, .ref q1, .ref q2, .ref q3, .ref q4, .ref q5, .ref q6, .int 0, .int 0, .int 0, .int 0, .int 0, .int 0, .int 0])), (q5, .inl (k5, 8, .inr (.inr (.inr (.inr (fop o0 o1 o2 o3 o4 o5 o6 o7)))))), (o6, .inr (8, [.int 0, .int 0, .int 0, .int 0])), (o7, .inr (8, [.int 0, .int 0, .int 0, .int 0])), (o0, .inr (8, [.int 0, .int 0, .int 0, .int 0])), (o1, .inr (8, [.int 0, .int 0, .int 0, .int 0])), (o2, .inr (8, [.int 0, .int 0, .int 0, .int 0])), (o3, .inr (8, [.int 0, .int 0, .int 0, .int 0])), (o4, .inr (8, [.int 0, .int 0, .int 0, .int 0])), (o5, .inr (8, [.int 0, .int 0, .int 0, .int 0]))] H := hP
  have hD : va_D A [(x, .inr (13, [.ref q0, .ref q1, .ref q2, .ref q3, .ref q4, .ref q5, .ref q6, .int 0, .int 0, .int 0, .int 0, .int 0, .int 0, .int 0])), (q5, .inl (k5, 8, .inr (.inr (.inr (.inr (fop o0 o1 o2 o3 o4 o5 o6 o7)))))), (o6, .inr (8, [.int 0, .int 0, .int 0, .int 0])), (o7, .inr (8, [.int 0, .int 0, .int 0, .int 0])), (o0, .inr (8, [.int 0, .int 0, .int 0, .int 0])), (o1, .inr (8, [.int 0, .int 0, .int 0, .int 0])), (o2, .inr (8, [.int 0, .int 0, .int 0, .int 0])), (o3, .inr (8, [.int 0, .int 0, .int 0, .int 0])), (o4, .inr (8, [.int 0, .int 0, .int 0, .int 0])), (o5, .inr (8, [.int 0, .int 0, .int 0, .int 0]))] := hD
  have hK : va_K D vwCl [(k5, .object "Lastroom$Operator")] s := hK
  refine W.widen (k := 0) (n := 0) (Nat.le_of_ble_eq_true rfl) (Nat.le_of_ble_eq_true rfl) ?_
  refine lv_if_eq (tgt := 52) hx hb dX9_countHands_46 (by decide) (fun c_30 => ?_) (fun c_30 => absurd (show (0 : Int32) = 0 from (by decide)) c_30)
  refine lv_iinc (v := 6) (lv' := [(5, .int 6), (6, .ref o5), (4, .int 8), (3, .ref q5), (2, .int 0), (0, .ref x), (1, .int a1)]) hx hb dX9_countHands_52 hl (k := 1) rfl (by decide) (by decide) rfl (fun ls hl => ?_)
  refine lv_goto (tgt := 14) hx hb dX9_countHands_55 (by decide) ?_
  refine lv_iload hx hb dX9_countHands_14 (lv_at hl 0 rfl) ?_
  refine lv_iload hx hb dX9_countHands_16 (lv_at hl 2 rfl) ?_
  refine lv_icmp_ge (tgt := 58) hx hb dX9_countHands_18 (by decide) (fun c_31 => absurd c_31 (show ¬ (8 : Int32) ≤ (6 : Int32) from (by decide))) (fun c_31 => ?_)
  refine lv_aload_n hx hb dX9_countHands_21 rfl (lv_at hl 3 rfl) ?_
  refine lv_iload hx hb dX9_countHands_22 (lv_at hl 0 rfl) ?_
  refine va_aldq hx hb hK hP 1 0 rfl rfl (vp_in_iff.mpr (by decide)) dX9_countHands_24 ?_
  refine W.eq (g2 := F0 m 25 ls [.ref o6]) rfl ?_
  refine lv_astore (lv' := [(6, .ref o6), (5, .int 6), (4, .int 8), (3, .ref q5), (2, .int 0), (0, .ref x), (1, .int a1)]) hx hb dX9_countHands_25 hl (by decide) rfl (fun ls hl => ?_)
  refine lv_aload hx hb dX9_countHands_27 (lv_at hl 0 rfl) ?_
  refine lv_ifnull hx hb dX9_countHands_29 ?_
  refine lv_aload hx hb dX9_countHands_32 (lv_at hl 0 rfl) ?_
  refine va_get (D := D) (ci := 8) (v := .int 0) (C := RX4) (T := TX4) (N := 4) hx hb hts (fun w h => List.mem_cons_of_mem _ (List.mem_append_right _ h)) hown hK hP 2 rfl rfl 1 (by decide) (hts (.fieldLink RX9 345 "Lastroom$Operator" "isAbsent" "Z") (List.mem_of_getElem? (i := 2) rfl)) (fun _ h9 => h9) rfl dX9_countHands_34 ?_
  refine lv_if_ne (tgt := 52) hx hb dX9_countHands_37 (by decide) (fun c_32 => absurd (by decide) c_32) (fun c_32 => ?_)
  refine lv_aload hx hb dX9_countHands_40 (lv_at hl 0 rfl) ?_
  refine lv_iload_n hx hb dX9_countHands_42 rfl (lv_at hl 6 rfl) ?_
  have hFc := va_free (wc := [(o6, .inr (8, [.int 0, .int 0, .int 0, .int 0]))]) hD hS hA [2] rfl
  refine va_calli (va_runV (As := [.int a1]) (rest := []) ⟨hx, hb, hml, hown, hts⟩ (c_hasSkill l D tC tE H.size o6 a1) (cwV 1 hts gX9_countHands_X4_hasSkill rfl rfl rfl (by decide +kernel) ⟨(Nat.le_of_ble_eq_true rfl), (Nat.le_of_ble_eq_true rfl)⟩) ⟨pg_blind, (va_recv hK hP (ci := 8) (q0 := 2) rfl rfl), (pg_pre hP hD hK hG hS hFc [2] rfl (by decide) [] rfl _)⟩ rfl rfl hl.1 rfl (lv_room (Nat.le_of_ble_eq_true rfl)) dX9_countHands_43 ⟨(Nat.le_of_ble_eq_true rfl), (Nat.le_of_ble_eq_true rfl)⟩) hS (fun q _ h => hFc q h) hFc (fun r_33 u_34 t H locs ht hvm hw hB hz1 hk1 hS => ?_)
  subst hw
  obtain ⟨hP, hD, hK⟩ := jn (wr := [(x, .inr (13, [.ref q0, .ref q1, .ref q2, .ref q3, .ref q4, .ref q5, .ref q6, .int 0, .int 0, .int 0, .int 0, .int 0, .int 0, .int 0])), (q5, .inl (k5, 8, .inr (.inr (.inr (.inr (fop o0 o1 o2 o3 o4 o5 o6 o7)))))), (o7, .inr (8, [.int 0, .int 0, .int 0, .int 0])), (o0, .inr (8, [.int 0, .int 0, .int 0, .int 0])), (o1, .inr (8, [.int 0, .int 0, .int 0, .int 0])), (o2, .inr (8, [.int 0, .int 0, .int 0, .int 0])), (o3, .inr (8, [.int 0, .int 0, .int 0, .int 0])), (o4, .inr (8, [.int 0, .int 0, .int 0, .int 0])), (o5, .inr (8, [.int 0, .int 0, .int 0, .int 0]))]) (w1 := [(o6, .inr (8, [.int 0, .int 0, .int 0, .int 0]))]) (t1 := []) (tr := [(k5, .object "Lastroom$Operator")]) hP hD hK [2] [0, 1, 3, 4, 5, 6, 7, 8, 9] rfl rfl (by decide) (by decide) [0] rfl hk1 hFc hB rfl rfl ht hvm
  have hP : va_P D vwCl [(x, .inr (13, [.ref q0, .ref q1, .ref q2, .ref q3, .ref q4, .ref q5, .ref q6, .int 0, .int 0, .int 0, .int 0, .int 0, .int 0, .int 0])), (q5, .inl (k5, 8, .inr (.inr (.inr (.inr (fop o0 o1 o2 o3 o4 o5 o6 o7)))))), (o7, .inr (8, [.int 0, .int 0, .int 0, .int 0])), (o0, .inr (8, [.int 0, .int 0, .int 0, .int 0])), (o1, .inr (8, [.int 0, .int 0, .int 0, .int 0])), (o2, .inr (8, [.int 0, .int 0, .int 0, .int 0])), (o3, .inr (8, [.int 0, .int 0, .int 0, .int 0])), (o4, .inr (8, [.int 0, .int 0, .int 0, .int 0])), (o5, .inr (8, [.int 0, .int 0, .int 0, .int 0])), (o6, .inr (8, [.int 0, .int 0, .int 0, .int 0]))] H := hP
  have hD : va_D A [(x, .inr (13, [.ref q0, .ref q1, .ref q2, .ref q3, .ref q4, .ref q5, .ref q6, .int 0, .int 0, .int 0, .int 0, .int 0, .int 0, .int 0])), (q5, .inl (k5, 8, .inr (.inr (.inr (.inr (fop o0 o1 o2 o3 o4 o5 o6 o7)))))), (o7, .inr (8, [.int 0, .int 0, .int 0, .int 0])), (o0, .inr (8, [.int 0, .int 0, .int 0, .int 0])), (o1, .inr (8, [.int 0, .int 0, .int 0, .int 0])), (o2, .inr (8, [.int 0, .int 0, .int 0, .int 0])), (o3, .inr (8, [.int 0, .int 0, .int 0, .int 0])), (o4, .inr (8, [.int 0, .int 0, .int 0, .int 0])), (o5, .inr (8, [.int 0, .int 0, .int 0, .int 0])), (o6, .inr (8, [.int 0, .int 0, .int 0, .int 0]))] := hD
  have hK : va_K D vwCl [(k5, .object "Lastroom$Operator")] s := hK
  refine W.widen (k := 0) (n := 0) (Nat.le_of_ble_eq_true rfl) (Nat.le_of_ble_eq_true rfl) ?_
  refine lv_if_eq (tgt := 52) hx hb dX9_countHands_46 (by decide) (fun c_35 => ?_) (fun c_35 => absurd (show (0 : Int32) = 0 from (by decide)) c_35)
  refine lv_iinc (v := 7) (lv' := [(5, .int 7), (6, .ref o6), (4, .int 8), (3, .ref q5), (2, .int 0), (0, .ref x), (1, .int a1)]) hx hb dX9_countHands_52 hl (k := 1) rfl (by decide) (by decide) rfl (fun ls hl => ?_)
  refine lv_goto (tgt := 14) hx hb dX9_countHands_55 (by decide) ?_
  refine lv_iload hx hb dX9_countHands_14 (lv_at hl 0 rfl) ?_
  refine lv_iload hx hb dX9_countHands_16 (lv_at hl 2 rfl) ?_
  refine lv_icmp_ge (tgt := 58) hx hb dX9_countHands_18 (by decide) (fun c_36 => absurd c_36 (show ¬ (8 : Int32) ≤ (7 : Int32) from (by decide))) (fun c_36 => ?_)
  refine lv_aload_n hx hb dX9_countHands_21 rfl (lv_at hl 3 rfl) ?_
  refine lv_iload hx hb dX9_countHands_22 (lv_at hl 0 rfl) ?_
  refine va_aldq hx hb hK hP 1 0 rfl rfl (vp_in_iff.mpr (by decide)) dX9_countHands_24 ?_
  refine W.eq (g2 := F0 m 25 ls [.ref o7]) rfl ?_
  refine lv_astore (lv' := [(6, .ref o7), (5, .int 7), (4, .int 8), (3, .ref q5), (2, .int 0), (0, .ref x), (1, .int a1)]) hx hb dX9_countHands_25 hl (by decide) rfl (fun ls hl => ?_)
  refine lv_aload hx hb dX9_countHands_27 (lv_at hl 0 rfl) ?_
  refine lv_ifnull hx hb dX9_countHands_29 ?_
  refine lv_aload hx hb dX9_countHands_32 (lv_at hl 0 rfl) ?_
  refine va_get (D := D) (ci := 8) (v := .int 0) (C := RX4) (T := TX4) (N := 4) hx hb hts (fun w h => List.mem_cons_of_mem _ (List.mem_append_right _ h)) hown hK hP 2 rfl rfl 1 (by decide) (hts (.fieldLink RX9 345 "Lastroom$Operator" "isAbsent" "Z") (List.mem_of_getElem? (i := 2) rfl)) (fun _ h9 => h9) rfl dX9_countHands_34 ?_
  refine lv_if_ne (tgt := 52) hx hb dX9_countHands_37 (by decide) (fun c_37 => absurd (by decide) c_37) (fun c_37 => ?_)
  refine lv_aload hx hb dX9_countHands_40 (lv_at hl 0 rfl) ?_
  refine lv_iload_n hx hb dX9_countHands_42 rfl (lv_at hl 6 rfl) ?_
  have hFc := va_free (wc := [(o7, .inr (8, [.int 0, .int 0, .int 0, .int 0]))]) hD hS hA [2] rfl
  refine va_calli (va_runV (As := [.int a1]) (rest := []) ⟨hx, hb, hml, hown, hts⟩ (c_hasSkill l D tC tE H.size o7 a1) (cwV 1 hts gX9_countHands_X4_hasSkill rfl rfl rfl (by decide +kernel) ⟨(Nat.le_of_ble_eq_true rfl), (Nat.le_of_ble_eq_true rfl)⟩) ⟨pg_blind, (va_recv hK hP (ci := 8) (q0 := 2) rfl rfl), (pg_pre hP hD hK hG hS hFc [2] rfl (by decide) [] rfl _)⟩ rfl rfl hl.1 rfl (lv_room (Nat.le_of_ble_eq_true rfl)) dX9_countHands_43 ⟨(Nat.le_of_ble_eq_true rfl), (Nat.le_of_ble_eq_true rfl)⟩) hS (fun q _ h => hFc q h) hFc (fun r_38 u_39 t H locs ht hvm hw hB hz1 hk1 hS => ?_)
  subst hw
  obtain ⟨hP, hD, hK⟩ := jn (wr := [(x, .inr (13, [.ref q0, .ref q1, .ref q2, .ref q3, .ref q4, .ref q5, .ref q6, .int 0, .int 0, .int 0, .int 0, .int 0, .int 0, .int 0])), (q5, .inl (k5, 8, .inr (.inr (.inr (.inr (fop o0 o1 o2 o3 o4 o5 o6 o7)))))), (o0, .inr (8, [.int 0, .int 0, .int 0, .int 0])), (o1, .inr (8, [.int 0, .int 0, .int 0, .int 0])), (o2, .inr (8, [.int 0, .int 0, .int 0, .int 0])), (o3, .inr (8, [.int 0, .int 0, .int 0, .int 0])), (o4, .inr (8, [.int 0, .int 0, .int 0, .int 0])), (o5, .inr (8, [.int 0, .int 0, .int 0, .int 0])), (o6, .inr (8, [.int 0, .int 0, .int 0, .int 0]))]) (w1 := [(o7, .inr (8, [.int 0, .int 0, .int 0, .int 0]))]) (t1 := []) (tr := [(k5, .object "Lastroom$Operator")]) hP hD hK [2] [0, 1, 3, 4, 5, 6, 7, 8, 9] rfl rfl (by decide) (by decide) [0] rfl hk1 hFc hB rfl rfl ht hvm
  have hP : va_P D vwCl [(x, .inr (13, [.ref q0, .ref q1, .ref q2, .ref q3, .ref q4, .ref q5, .ref q6, .int 0, .int 0, .int 0, .int 0, .int 0, .int 0, .int 0])), (q5, .inl (k5, 8, .inr (.inr (.inr (.inr (fop o0 o1 o2 o3 o4 o5 o6 o7)))))), (o0, .inr (8, [.int 0, .int 0, .int 0, .int 0])), (o1, .inr (8, [.int 0, .int 0, .int 0, .int 0])), (o2, .inr (8, [.int 0, .int 0, .int 0, .int 0])), (o3, .inr (8, [.int 0, .int 0, .int 0, .int 0])), (o4, .inr (8, [.int 0, .int 0, .int 0, .int 0])), (o5, .inr (8, [.int 0, .int 0, .int 0, .int 0])), (o6, .inr (8, [.int 0, .int 0, .int 0, .int 0])), (o7, .inr (8, [.int 0, .int 0, .int 0, .int 0]))] H := hP
  have hD : va_D A [(x, .inr (13, [.ref q0, .ref q1, .ref q2, .ref q3, .ref q4, .ref q5, .ref q6, .int 0, .int 0, .int 0, .int 0, .int 0, .int 0, .int 0])), (q5, .inl (k5, 8, .inr (.inr (.inr (.inr (fop o0 o1 o2 o3 o4 o5 o6 o7)))))), (o0, .inr (8, [.int 0, .int 0, .int 0, .int 0])), (o1, .inr (8, [.int 0, .int 0, .int 0, .int 0])), (o2, .inr (8, [.int 0, .int 0, .int 0, .int 0])), (o3, .inr (8, [.int 0, .int 0, .int 0, .int 0])), (o4, .inr (8, [.int 0, .int 0, .int 0, .int 0])), (o5, .inr (8, [.int 0, .int 0, .int 0, .int 0])), (o6, .inr (8, [.int 0, .int 0, .int 0, .int 0])), (o7, .inr (8, [.int 0, .int 0, .int 0, .int 0]))] := hD
  have hK : va_K D vwCl [(k5, .object "Lastroom$Operator")] s := hK
  refine W.widen (k := 0) (n := 0) (Nat.le_of_ble_eq_true rfl) (Nat.le_of_ble_eq_true rfl) ?_
  refine lv_if_eq (tgt := 52) hx hb dX9_countHands_46 (by decide) (fun c_40 => ?_) (fun c_40 => absurd (show (0 : Int32) = 0 from (by decide)) c_40)
  refine lv_iinc (v := 8) (lv' := [(5, .int 8), (6, .ref o7), (4, .int 8), (3, .ref q5), (2, .int 0), (0, .ref x), (1, .int a1)]) hx hb dX9_countHands_52 hl (k := 1) rfl (by decide) (by decide) rfl (fun ls hl => ?_)
  refine lv_goto (tgt := 14) hx hb dX9_countHands_55 (by decide) ?_
  refine lv_iload hx hb dX9_countHands_14 (lv_at hl 0 rfl) ?_
  refine lv_iload hx hb dX9_countHands_16 (lv_at hl 2 rfl) ?_
  refine lv_icmp_ge (tgt := 58) hx hb dX9_countHands_18 (by decide) (fun c_41 => ?_) (fun c_41 => absurd (show (8 : Int32) ≤ (8 : Int32) from (by decide)) c_41)
  refine lv_iload_n hx hb dX9_countHands_58 rfl (lv_at hl 4 rfl) ?_
  have hP9 := hP.sub (ws' := [(x, .inr (13, [.ref q0, .ref q1, .ref q2, .ref q3, .ref q4, .ref q5, .ref q6, .int 0, .int 0, .int 0, .int 0, .int 0, .int 0, .int 0])), (q5, .inl (k5, 8, .inr (.inr (.inr (.inr (fop o0 o1 o2 o3 o4 o5 o6 o7)))))), (o0, .inr (8, [.int 0, .int 0, .int 0, .int 0])), (o1, .inr (8, [.int 0, .int 0, .int 0, .int 0])), (o2, .inr (8, [.int 0, .int 0, .int 0, .int 0])), (o3, .inr (8, [.int 0, .int 0, .int 0, .int 0])), (o4, .inr (8, [.int 0, .int 0, .int 0, .int 0])), (o5, .inr (8, [.int 0, .int 0, .int 0, .int 0])), (o6, .inr (8, [.int 0, .int 0, .int 0, .int 0])), (o7, .inr (8, [.int 0, .int 0, .int 0, .int 0]))]) [0, 1, 2, 3, 4, 5, 6, 7, 8, 9] rfl
  have hD9 := hD.sub (ws' := [(x, .inr (13, [.ref q0, .ref q1, .ref q2, .ref q3, .ref q4, .ref q5, .ref q6, .int 0, .int 0, .int 0, .int 0, .int 0, .int 0, .int 0])), (q5, .inl (k5, 8, .inr (.inr (.inr (.inr (fop o0 o1 o2 o3 o4 o5 o6 o7)))))), (o0, .inr (8, [.int 0, .int 0, .int 0, .int 0])), (o1, .inr (8, [.int 0, .int 0, .int 0, .int 0])), (o2, .inr (8, [.int 0, .int 0, .int 0, .int 0])), (o3, .inr (8, [.int 0, .int 0, .int 0, .int 0])), (o4, .inr (8, [.int 0, .int 0, .int 0, .int 0])), (o5, .inr (8, [.int 0, .int 0, .int 0, .int 0])), (o6, .inr (8, [.int 0, .int 0, .int 0, .int 0])), (o7, .inr (8, [.int 0, .int 0, .int 0, .int 0]))]) [0, 1, 2, 3, 4, 5, 6, 7, 8, 9] (by decide) rfl
  have hK9 := hK.sub (tys' := []) [] rfl
  exact end_i hx hb hr hlocks hP9 hD9 hK9 hS () rfl rfl rfl (Nat.le_of_ble_eq_true rfl) (Nat.le_of_ble_eq_true rfl) dX9_countHands_59
set_option maxHeartbeats 4000000 in
set_option maxRecDepth 100000 in
/-- bottleneck on a fresh object -/
theorem c_bottleneck (l : Launch) (hlt : l.stackTraces = false) (D : va_G) (tC tE sz : Nat) (x q0 q1 q2 q3 q4 q5 q6 : Nat) (k3 : ClassId) (o0 o1 o2 o3 o4 o5 o6 o7 : Nat) (k5 : ClassId) : vx_Met l yX9_bottleneck wsX9_bottleneck ({ frames := 6, cells := 1, slots := 6, locals := 82 }) (Pg D tC tE sz [(x, .inr (13, [.ref q0, .ref q1, .ref q2, .ref q3, .ref q4, .ref q5, .ref q6, .int 0, .int 0, .int 0, .int 0, .int 0, .int 0, .int 0])), (q3, .inl (k3, 16, .inr (.inr (.inr (.inr (fun _ => none)))))), (q5, .inl (k5, 8, .inr (.inr (.inr (.inr (fop o0 o1 o2 o3 o4 o5 o6 o7)))))), (o0, .inr (8, [.int 0, .int 0, .int 0, .int 0])), (o1, .inr (8, [.int 0, .int 0, .int 0, .int 0])), (o2, .inr (8, [.int 0, .int 0, .int 0, .int 0])), (o3, .inr (8, [.int 0, .int 0, .int 0, .int 0])), (o4, .inr (8, [.int 0, .int 0, .int 0, .int 0])), (o5, .inr (8, [.int 0, .int 0, .int 0, .int 0])), (o6, .inr (8, [.int 0, .int 0, .int 0, .int 0])), (o7, .inr (8, [.int 0, .int 0, .int 0, .int 0]))] [(k3, .object "Lastroom$Ticket"), (k5, .object "Lastroom$Operator")] [.ref x]) (Qgi (S := Unit) D (fun u => []) (fun u => []) (fun _ _ => False) (va_A [(x, .inr (13, [.ref q0, .ref q1, .ref q2, .ref q3, .ref q4, .ref q5, .ref q6, .int 0, .int 0, .int 0, .int 0, .int 0, .int 0, .int 0])), (q3, .inl (k3, 16, .inr (.inr (.inr (.inr (fun _ => none)))))), (q5, .inl (k5, 8, .inr (.inr (.inr (.inr (fop o0 o1 o2 o3 o4 o5 o6 o7)))))), (o0, .inr (8, [.int 0, .int 0, .int 0, .int 0])), (o1, .inr (8, [.int 0, .int 0, .int 0, .int 0])), (o2, .inr (8, [.int 0, .int 0, .int 0, .int 0])), (o3, .inr (8, [.int 0, .int 0, .int 0, .int 0])), (o4, .inr (8, [.int 0, .int 0, .int 0, .int 0])), (o5, .inr (8, [.int 0, .int 0, .int 0, .int 0])), (o6, .inr (8, [.int 0, .int 0, .int 0, .int 0])), (o7, .inr (8, [.int 0, .int 0, .int 0, .int 0]))] sz)) (XX (fun E => E = gx_nse) (va_A [(x, .inr (13, [.ref q0, .ref q1, .ref q2, .ref q3, .ref q4, .ref q5, .ref q6, .int 0, .int 0, .int 0, .int 0, .int 0, .int 0, .int 0])), (q3, .inl (k3, 16, .inr (.inr (.inr (.inr (fun _ => none)))))), (q5, .inl (k5, 8, .inr (.inr (.inr (.inr (fop o0 o1 o2 o3 o4 o5 o6 o7)))))), (o0, .inr (8, [.int 0, .int 0, .int 0, .int 0])), (o1, .inr (8, [.int 0, .int 0, .int 0, .int 0])), (o2, .inr (8, [.int 0, .int 0, .int 0, .int 0])), (o3, .inr (8, [.int 0, .int 0, .int 0, .int 0])), (o4, .inr (8, [.int 0, .int 0, .int 0, .int 0])), (o5, .inr (8, [.int 0, .int 0, .int 0, .int 0])), (o6, .inr (8, [.int 0, .int 0, .int 0, .int 0])), (o7, .inr (8, [.int 0, .int 0, .int 0, .int 0]))] sz)) 1 6 (va_A [(x, .inr (13, [.ref q0, .ref q1, .ref q2, .ref q3, .ref q4, .ref q5, .ref q6, .int 0, .int 0, .int 0, .int 0, .int 0, .int 0, .int 0])), (q3, .inl (k3, 16, .inr (.inr (.inr (.inr (fun _ => none)))))), (q5, .inl (k5, 8, .inr (.inr (.inr (.inr (fop o0 o1 o2 o3 o4 o5 o6 o7)))))), (o0, .inr (8, [.int 0, .int 0, .int 0, .int 0])), (o1, .inr (8, [.int 0, .int 0, .int 0, .int 0])), (o2, .inr (8, [.int 0, .int 0, .int 0, .int 0])), (o3, .inr (8, [.int 0, .int 0, .int 0, .int 0])), (o4, .inr (8, [.int 0, .int 0, .int 0, .int 0])), (o5, .inr (8, [.int 0, .int 0, .int 0, .int 0])), (o6, .inr (8, [.int 0, .int 0, .int 0, .int 0])), (o7, .inr (8, [.int 0, .int 0, .int 0, .int 0]))] sz) := by
  refine og_x (cc := cX9_bottleneck) (maxL := 7) (ret := (some .int)) (Qc := Qgi (S := Unit) D (fun u => []) (fun u => []) (fun _ _ => False)) (XC := XX (fun E => E = gx_nse)) (by decide) rfl (Nat.le_of_ble_eq_true rfl) ?_
  intro p e s m below meth c A hx hb hr hml hts hown hlocks hin htab hP hD hK hG hA hS ls hl
  have hl : lv_has ls 7 [(0, .ref x)] := hl
  refine lv_iconst (v := (-1)) hx hb dX9_bottleneck_0 (by decide) ?_
  refine lv_istore_n (lv' := [(1, .int (-1)), (0, .ref x)]) hx hb dX9_bottleneck_1 rfl hl (by decide) rfl (fun ls hl => ?_)
  refine lv_iconst (v := (-1)) hx hb dX9_bottleneck_2 (by decide) ?_
  refine lv_istore_n (lv' := [(2, .int (-1)), (1, .int (-1)), (0, .ref x)]) hx hb dX9_bottleneck_3 rfl hl (by decide) rfl (fun ls hl => ?_)
  refine lv_iconst (v := 0) hx hb dX9_bottleneck_4 (by decide) ?_
  refine lv_istore_n (lv' := [(3, .int 0), (2, .int (-1)), (1, .int (-1)), (0, .ref x)]) hx hb dX9_bottleneck_5 rfl hl (by decide) rfl (fun ls hl => ?_)
  refine lv_iload_n hx hb dX9_bottleneck_6 rfl (lv_at hl 0 rfl) ?_
  refine lv_iconst (v := 4) hx hb dX9_bottleneck_7 (by decide) ?_
  refine lv_icmp_ge (tgt := 66) hx hb dX9_bottleneck_8 (by decide) (fun c_1 => absurd c_1 (show ¬ (4 : Int32) ≤ (0 : Int32) from (by decide))) (fun c_1 => ?_)
  refine lv_aload_n hx hb dX9_bottleneck_11 rfl (lv_at hl 3 rfl) ?_
  refine lv_iload_n hx hb dX9_bottleneck_12 rfl (lv_at hl 0 rfl) ?_
  have hFc := va_free (wc := [(x, .inr (13, [.ref q0, .ref q1, .ref q2, .ref q3, .ref q4, .ref q5, .ref q6, .int 0, .int 0, .int 0, .int 0, .int 0, .int 0, .int 0])), (q3, .inl (k3, 16, .inr (.inr (.inr (.inr (fun _ => none))))))]) hD hS hA [0, 1] rfl
  refine va_calli (va_runV (As := [.int 0]) (rest := []) ⟨hx, hb, hml, hown, hts⟩ (c_countMinutes l D tC tE s.heap.size x q0 q1 q2 q3 q4 q5 q6 k3 0) (cwV 1 hts gX9_bottleneck_X9_countMinutes rfl rfl rfl (by decide +kernel) ⟨(Nat.le_of_ble_eq_true rfl), (Nat.le_of_ble_eq_true rfl)⟩) ⟨pg_blind, (va_recv hK hP (ci := 13) (q0 := 0) rfl rfl), (pg_pre hP hD hK hG hS hFc [0, 1] rfl (by decide) [0] rfl _)⟩ rfl rfl hl.1 rfl (lv_room (Nat.le_of_ble_eq_true rfl)) dX9_bottleneck_13 ⟨(Nat.le_of_ble_eq_true rfl), (Nat.le_of_ble_eq_true rfl)⟩) hS (fun q _ h => hFc q h) hFc (fun r_2 u_3 t H locs ht hvm hw hB hz1 hk1 hS => ?_)
  subst hw
  obtain ⟨hP, hD, hK⟩ := jn (wr := [(q5, .inl (k5, 8, .inr (.inr (.inr (.inr (fop o0 o1 o2 o3 o4 o5 o6 o7)))))), (o0, .inr (8, [.int 0, .int 0, .int 0, .int 0])), (o1, .inr (8, [.int 0, .int 0, .int 0, .int 0])), (o2, .inr (8, [.int 0, .int 0, .int 0, .int 0])), (o3, .inr (8, [.int 0, .int 0, .int 0, .int 0])), (o4, .inr (8, [.int 0, .int 0, .int 0, .int 0])), (o5, .inr (8, [.int 0, .int 0, .int 0, .int 0])), (o6, .inr (8, [.int 0, .int 0, .int 0, .int 0])), (o7, .inr (8, [.int 0, .int 0, .int 0, .int 0]))]) (w1 := [(x, .inr (13, [.ref q0, .ref q1, .ref q2, .ref q3, .ref q4, .ref q5, .ref q6, .int 0, .int 0, .int 0, .int 0, .int 0, .int 0, .int 0])), (q3, .inl (k3, 16, .inr (.inr (.inr (.inr (fun _ => none))))))]) (t1 := []) (tr := [(k3, .object "Lastroom$Ticket"), (k5, .object "Lastroom$Operator")]) hP hD hK [0, 1] [2, 3, 4, 5, 6, 7, 8, 9, 10] rfl rfl (by decide) (by decide) [0, 1] rfl hk1 hFc hB rfl rfl ht hvm
  have hP : va_P D vwCl [(q5, .inl (k5, 8, .inr (.inr (.inr (.inr (fop o0 o1 o2 o3 o4 o5 o6 o7)))))), (o0, .inr (8, [.int 0, .int 0, .int 0, .int 0])), (o1, .inr (8, [.int 0, .int 0, .int 0, .int 0])), (o2, .inr (8, [.int 0, .int 0, .int 0, .int 0])), (o3, .inr (8, [.int 0, .int 0, .int 0, .int 0])), (o4, .inr (8, [.int 0, .int 0, .int 0, .int 0])), (o5, .inr (8, [.int 0, .int 0, .int 0, .int 0])), (o6, .inr (8, [.int 0, .int 0, .int 0, .int 0])), (o7, .inr (8, [.int 0, .int 0, .int 0, .int 0])), (x, .inr (13, [.ref q0, .ref q1, .ref q2, .ref q3, .ref q4, .ref q5, .ref q6, .int 0, .int 0, .int 0, .int 0, .int 0, .int 0, .int 0])), (q3, .inl (k3, 16, .inr (.inr (.inr (.inr (fun _ => none))))))] H := hP
  have hD : va_D A [(q5, .inl (k5, 8, .inr (.inr (.inr (.inr (fop o0 o1 o2 o3 o4 o5 o6 o7)))))), (o0, .inr (8, [.int 0, .int 0, .int 0, .int 0])), (o1, .inr (8, [.int 0, .int 0, .int 0, .int 0])), (o2, .inr (8, [.int 0, .int 0, .int 0, .int 0])), (o3, .inr (8, [.int 0, .int 0, .int 0, .int 0])), (o4, .inr (8, [.int 0, .int 0, .int 0, .int 0])), (o5, .inr (8, [.int 0, .int 0, .int 0, .int 0])), (o6, .inr (8, [.int 0, .int 0, .int 0, .int 0])), (o7, .inr (8, [.int 0, .int 0, .int 0, .int 0])), (x, .inr (13, [.ref q0, .ref q1, .ref q2, .ref q3, .ref q4, .ref q5, .ref q6, .int 0, .int 0, .int 0, .int 0, .int 0, .int 0, .int 0])), (q3, .inl (k3, 16, .inr (.inr (.inr (.inr (fun _ => none))))))] := hD
  have hK : va_K D vwCl [(k3, .object "Lastroom$Ticket"), (k5, .object "Lastroom$Operator")] s := hK
  refine W.widen (k := 0) (n := 0) (Nat.le_of_ble_eq_true rfl) (Nat.le_of_ble_eq_true rfl) ?_
  refine lv_istore (lv' := [(4, .int 0), (3, .int 0), (2, .int (-1)), (1, .int (-1)), (0, .ref x)]) hx hb dX9_bottleneck_16 hl (by decide) rfl (fun ls hl => ?_)
  refine lv_aload_n hx hb dX9_bottleneck_18 rfl (lv_at hl 4 rfl) ?_
  refine lv_iload_n hx hb dX9_bottleneck_19 rfl (lv_at hl 1 rfl) ?_
  have hFc := va_free (wc := [(x, .inr (13, [.ref q0, .ref q1, .ref q2, .ref q3, .ref q4, .ref q5, .ref q6, .int 0, .int 0, .int 0, .int 0, .int 0, .int 0, .int 0])), (q5, .inl (k5, 8, .inr (.inr (.inr (.inr (fop o0 o1 o2 o3 o4 o5 o6 o7)))))), (o0, .inr (8, [.int 0, .int 0, .int 0, .int 0])), (o1, .inr (8, [.int 0, .int 0, .int 0, .int 0])), (o2, .inr (8, [.int 0, .int 0, .int 0, .int 0])), (o3, .inr (8, [.int 0, .int 0, .int 0, .int 0])), (o4, .inr (8, [.int 0, .int 0, .int 0, .int 0])), (o5, .inr (8, [.int 0, .int 0, .int 0, .int 0])), (o6, .inr (8, [.int 0, .int 0, .int 0, .int 0])), (o7, .inr (8, [.int 0, .int 0, .int 0, .int 0]))]) hD hS hA [9, 0, 1, 2, 3, 4, 5, 6, 7, 8] rfl
  refine va_calli (va_runV (As := [.int 0]) (rest := []) ⟨hx, hb, hml, hown, hts⟩ (c_countHands l D tC tE H.size x q0 q1 q2 q3 q4 q5 q6 o0 o1 o2 o3 o4 o5 o6 o7 k5 0) (cwV 1 hts gX9_bottleneck_X9_countHands rfl rfl rfl (by decide +kernel) ⟨(Nat.le_of_ble_eq_true rfl), (Nat.le_of_ble_eq_true rfl)⟩) ⟨pg_blind, (va_recv hK hP (ci := 13) (q0 := 9) rfl rfl), (pg_pre hP hD hK hG hS hFc [9, 0, 1, 2, 3, 4, 5, 6, 7, 8] rfl (by decide) [1] rfl _)⟩ rfl rfl hl.1 rfl (lv_room (Nat.le_of_ble_eq_true rfl)) dX9_bottleneck_20 ⟨(Nat.le_of_ble_eq_true rfl), (Nat.le_of_ble_eq_true rfl)⟩) hS (fun q _ h => hFc q h) hFc (fun r_4 u_5 t H locs ht hvm hw hB hz1 hk1 hS => ?_)
  subst hw
  obtain ⟨hP, hD, hK⟩ := jn (wr := [(q3, .inl (k3, 16, .inr (.inr (.inr (.inr (fun _ => none))))))]) (w1 := [(x, .inr (13, [.ref q0, .ref q1, .ref q2, .ref q3, .ref q4, .ref q5, .ref q6, .int 0, .int 0, .int 0, .int 0, .int 0, .int 0, .int 0])), (q5, .inl (k5, 8, .inr (.inr (.inr (.inr (fop o0 o1 o2 o3 o4 o5 o6 o7)))))), (o0, .inr (8, [.int 0, .int 0, .int 0, .int 0])), (o1, .inr (8, [.int 0, .int 0, .int 0, .int 0])), (o2, .inr (8, [.int 0, .int 0, .int 0, .int 0])), (o3, .inr (8, [.int 0, .int 0, .int 0, .int 0])), (o4, .inr (8, [.int 0, .int 0, .int 0, .int 0])), (o5, .inr (8, [.int 0, .int 0, .int 0, .int 0])), (o6, .inr (8, [.int 0, .int 0, .int 0, .int 0])), (o7, .inr (8, [.int 0, .int 0, .int 0, .int 0]))]) (t1 := []) (tr := [(k3, .object "Lastroom$Ticket"), (k5, .object "Lastroom$Operator")]) hP hD hK [9, 0, 1, 2, 3, 4, 5, 6, 7, 8] [10] rfl rfl (by decide) (by decide) [0, 1] rfl hk1 hFc hB rfl rfl ht hvm
  have hP : va_P D vwCl [(q3, .inl (k3, 16, .inr (.inr (.inr (.inr (fun _ => none)))))), (x, .inr (13, [.ref q0, .ref q1, .ref q2, .ref q3, .ref q4, .ref q5, .ref q6, .int 0, .int 0, .int 0, .int 0, .int 0, .int 0, .int 0])), (q5, .inl (k5, 8, .inr (.inr (.inr (.inr (fop o0 o1 o2 o3 o4 o5 o6 o7)))))), (o0, .inr (8, [.int 0, .int 0, .int 0, .int 0])), (o1, .inr (8, [.int 0, .int 0, .int 0, .int 0])), (o2, .inr (8, [.int 0, .int 0, .int 0, .int 0])), (o3, .inr (8, [.int 0, .int 0, .int 0, .int 0])), (o4, .inr (8, [.int 0, .int 0, .int 0, .int 0])), (o5, .inr (8, [.int 0, .int 0, .int 0, .int 0])), (o6, .inr (8, [.int 0, .int 0, .int 0, .int 0])), (o7, .inr (8, [.int 0, .int 0, .int 0, .int 0]))] H := hP
  have hD : va_D A [(q3, .inl (k3, 16, .inr (.inr (.inr (.inr (fun _ => none)))))), (x, .inr (13, [.ref q0, .ref q1, .ref q2, .ref q3, .ref q4, .ref q5, .ref q6, .int 0, .int 0, .int 0, .int 0, .int 0, .int 0, .int 0])), (q5, .inl (k5, 8, .inr (.inr (.inr (.inr (fop o0 o1 o2 o3 o4 o5 o6 o7)))))), (o0, .inr (8, [.int 0, .int 0, .int 0, .int 0])), (o1, .inr (8, [.int 0, .int 0, .int 0, .int 0])), (o2, .inr (8, [.int 0, .int 0, .int 0, .int 0])), (o3, .inr (8, [.int 0, .int 0, .int 0, .int 0])), (o4, .inr (8, [.int 0, .int 0, .int 0, .int 0])), (o5, .inr (8, [.int 0, .int 0, .int 0, .int 0])), (o6, .inr (8, [.int 0, .int 0, .int 0, .int 0])), (o7, .inr (8, [.int 0, .int 0, .int 0, .int 0]))] := hD
  have hK : va_K D vwCl [(k3, .object "Lastroom$Ticket"), (k5, .object "Lastroom$Operator")] s := hK
  refine W.widen (k := 0) (n := 0) (Nat.le_of_ble_eq_true rfl) (Nat.le_of_ble_eq_true rfl) ?_
  refine lv_istore (lv' := [(5, .int 0), (4, .int 0), (3, .int 0), (2, .int (-1)), (1, .int (-1)), (0, .ref x)]) hx hb dX9_bottleneck_23 hl (by decide) rfl (fun ls hl => ?_)
  refine lv_iload hx hb dX9_bottleneck_25 (lv_at hl 0 rfl) ?_
  refine lv_if_ne (tgt := 35) hx hb dX9_bottleneck_27 (by decide) (fun c_6 => absurd (by decide) c_6) (fun c_6 => ?_)
  refine lv_ldc (v := 2147483647) hx hb hown (hts (.constant RX9 143 (2147483647)) (List.mem_of_getElem? (i := 3) rfl)) dX9_bottleneck_30 ?_
  refine lv_goto (tgt := 42) hx hb dX9_bottleneck_32 (by decide) ?_
  refine lv_istore (lv' := [(6, .int 2147483647), (5, .int 0), (4, .int 0), (3, .int 0), (2, .int (-1)), (1, .int (-1)), (0, .ref x)]) hx hb dX9_bottleneck_42 hl (by decide) rfl (fun ls hl => ?_)
  refine lv_iload hx hb dX9_bottleneck_44 (lv_at hl 2 rfl) ?_
  refine lv_if_le (tgt := 60) hx hb dX9_bottleneck_46 (by decide) (fun c_7 => ?_) (fun c_7 => absurd (show (0 : Int32) ≤ 0 from (by decide)) c_7)
  refine lv_iinc (v := 1) (lv' := [(3, .int 1), (6, .int 2147483647), (5, .int 0), (4, .int 0), (2, .int (-1)), (1, .int (-1)), (0, .ref x)]) hx hb dX9_bottleneck_60 hl (k := 3) rfl (by decide) (by decide) rfl (fun ls hl => ?_)
  refine lv_goto (tgt := 6) hx hb dX9_bottleneck_63 (by decide) ?_
  refine lv_iload_n hx hb dX9_bottleneck_6 rfl (lv_at hl 0 rfl) ?_
  refine lv_iconst (v := 4) hx hb dX9_bottleneck_7 (by decide) ?_
  refine lv_icmp_ge (tgt := 66) hx hb dX9_bottleneck_8 (by decide) (fun c_8 => absurd c_8 (show ¬ (4 : Int32) ≤ (1 : Int32) from (by decide))) (fun c_8 => ?_)
  refine lv_aload_n hx hb dX9_bottleneck_11 rfl (lv_at hl 6 rfl) ?_
  refine lv_iload_n hx hb dX9_bottleneck_12 rfl (lv_at hl 0 rfl) ?_
  have hFc := va_free (wc := [(x, .inr (13, [.ref q0, .ref q1, .ref q2, .ref q3, .ref q4, .ref q5, .ref q6, .int 0, .int 0, .int 0, .int 0, .int 0, .int 0, .int 0])), (q3, .inl (k3, 16, .inr (.inr (.inr (.inr (fun _ => none))))))]) hD hS hA [1, 0] rfl
  refine va_calli (va_runV (As := [.int 1]) (rest := []) ⟨hx, hb, hml, hown, hts⟩ (c_countMinutes l D tC tE H.size x q0 q1 q2 q3 q4 q5 q6 k3 1) (cwV 1 hts gX9_bottleneck_X9_countMinutes rfl rfl rfl (by decide +kernel) ⟨(Nat.le_of_ble_eq_true rfl), (Nat.le_of_ble_eq_true rfl)⟩) ⟨pg_blind, (va_recv hK hP (ci := 13) (q0 := 1) rfl rfl), (pg_pre hP hD hK hG hS hFc [1, 0] rfl (by decide) [0] rfl _)⟩ rfl rfl hl.1 rfl (lv_room (Nat.le_of_ble_eq_true rfl)) dX9_bottleneck_13 ⟨(Nat.le_of_ble_eq_true rfl), (Nat.le_of_ble_eq_true rfl)⟩) hS (fun q _ h => hFc q h) hFc (fun r_9 u_10 t H locs ht hvm hw hB hz1 hk1 hS => ?_)
  subst hw
  obtain ⟨hP, hD, hK⟩ := jn (wr := [(q5, .inl (k5, 8, .inr (.inr (.inr (.inr (fop o0 o1 o2 o3 o4 o5 o6 o7)))))), (o0, .inr (8, [.int 0, .int 0, .int 0, .int 0])), (o1, .inr (8, [.int 0, .int 0, .int 0, .int 0])), (o2, .inr (8, [.int 0, .int 0, .int 0, .int 0])), (o3, .inr (8, [.int 0, .int 0, .int 0, .int 0])), (o4, .inr (8, [.int 0, .int 0, .int 0, .int 0])), (o5, .inr (8, [.int 0, .int 0, .int 0, .int 0])), (o6, .inr (8, [.int 0, .int 0, .int 0, .int 0])), (o7, .inr (8, [.int 0, .int 0, .int 0, .int 0]))]) (w1 := [(x, .inr (13, [.ref q0, .ref q1, .ref q2, .ref q3, .ref q4, .ref q5, .ref q6, .int 0, .int 0, .int 0, .int 0, .int 0, .int 0, .int 0])), (q3, .inl (k3, 16, .inr (.inr (.inr (.inr (fun _ => none))))))]) (t1 := []) (tr := [(k3, .object "Lastroom$Ticket"), (k5, .object "Lastroom$Operator")]) hP hD hK [1, 0] [2, 3, 4, 5, 6, 7, 8, 9, 10] rfl rfl (by decide) (by decide) [0, 1] rfl hk1 hFc hB rfl rfl ht hvm
  have hP : va_P D vwCl [(q5, .inl (k5, 8, .inr (.inr (.inr (.inr (fop o0 o1 o2 o3 o4 o5 o6 o7)))))), (o0, .inr (8, [.int 0, .int 0, .int 0, .int 0])), (o1, .inr (8, [.int 0, .int 0, .int 0, .int 0])), (o2, .inr (8, [.int 0, .int 0, .int 0, .int 0])), (o3, .inr (8, [.int 0, .int 0, .int 0, .int 0])), (o4, .inr (8, [.int 0, .int 0, .int 0, .int 0])), (o5, .inr (8, [.int 0, .int 0, .int 0, .int 0])), (o6, .inr (8, [.int 0, .int 0, .int 0, .int 0])), (o7, .inr (8, [.int 0, .int 0, .int 0, .int 0])), (x, .inr (13, [.ref q0, .ref q1, .ref q2, .ref q3, .ref q4, .ref q5, .ref q6, .int 0, .int 0, .int 0, .int 0, .int 0, .int 0, .int 0])), (q3, .inl (k3, 16, .inr (.inr (.inr (.inr (fun _ => none))))))] H := hP
  have hD : va_D A [(q5, .inl (k5, 8, .inr (.inr (.inr (.inr (fop o0 o1 o2 o3 o4 o5 o6 o7)))))), (o0, .inr (8, [.int 0, .int 0, .int 0, .int 0])), (o1, .inr (8, [.int 0, .int 0, .int 0, .int 0])), (o2, .inr (8, [.int 0, .int 0, .int 0, .int 0])), (o3, .inr (8, [.int 0, .int 0, .int 0, .int 0])), (o4, .inr (8, [.int 0, .int 0, .int 0, .int 0])), (o5, .inr (8, [.int 0, .int 0, .int 0, .int 0])), (o6, .inr (8, [.int 0, .int 0, .int 0, .int 0])), (o7, .inr (8, [.int 0, .int 0, .int 0, .int 0])), (x, .inr (13, [.ref q0, .ref q1, .ref q2, .ref q3, .ref q4, .ref q5, .ref q6, .int 0, .int 0, .int 0, .int 0, .int 0, .int 0, .int 0])), (q3, .inl (k3, 16, .inr (.inr (.inr (.inr (fun _ => none))))))] := hD
  have hK : va_K D vwCl [(k3, .object "Lastroom$Ticket"), (k5, .object "Lastroom$Operator")] s := hK
  refine W.widen (k := 0) (n := 0) (Nat.le_of_ble_eq_true rfl) (Nat.le_of_ble_eq_true rfl) ?_
  refine lv_istore (lv' := [(4, .int 0), (3, .int 1), (6, .int 2147483647), (5, .int 0), (2, .int (-1)), (1, .int (-1)), (0, .ref x)]) hx hb dX9_bottleneck_16 hl (by decide) rfl (fun ls hl => ?_)
  refine lv_aload_n hx hb dX9_bottleneck_18 rfl (lv_at hl 6 rfl) ?_
  refine lv_iload_n hx hb dX9_bottleneck_19 rfl (lv_at hl 1 rfl) ?_
  have hFc := va_free (wc := [(x, .inr (13, [.ref q0, .ref q1, .ref q2, .ref q3, .ref q4, .ref q5, .ref q6, .int 0, .int 0, .int 0, .int 0, .int 0, .int 0, .int 0])), (q5, .inl (k5, 8, .inr (.inr (.inr (.inr (fop o0 o1 o2 o3 o4 o5 o6 o7)))))), (o0, .inr (8, [.int 0, .int 0, .int 0, .int 0])), (o1, .inr (8, [.int 0, .int 0, .int 0, .int 0])), (o2, .inr (8, [.int 0, .int 0, .int 0, .int 0])), (o3, .inr (8, [.int 0, .int 0, .int 0, .int 0])), (o4, .inr (8, [.int 0, .int 0, .int 0, .int 0])), (o5, .inr (8, [.int 0, .int 0, .int 0, .int 0])), (o6, .inr (8, [.int 0, .int 0, .int 0, .int 0])), (o7, .inr (8, [.int 0, .int 0, .int 0, .int 0]))]) hD hS hA [9, 0, 1, 2, 3, 4, 5, 6, 7, 8] rfl
  refine va_calli (va_runV (As := [.int 1]) (rest := []) ⟨hx, hb, hml, hown, hts⟩ (c_countHands l D tC tE H.size x q0 q1 q2 q3 q4 q5 q6 o0 o1 o2 o3 o4 o5 o6 o7 k5 1) (cwV 1 hts gX9_bottleneck_X9_countHands rfl rfl rfl (by decide +kernel) ⟨(Nat.le_of_ble_eq_true rfl), (Nat.le_of_ble_eq_true rfl)⟩) ⟨pg_blind, (va_recv hK hP (ci := 13) (q0 := 9) rfl rfl), (pg_pre hP hD hK hG hS hFc [9, 0, 1, 2, 3, 4, 5, 6, 7, 8] rfl (by decide) [1] rfl _)⟩ rfl rfl hl.1 rfl (lv_room (Nat.le_of_ble_eq_true rfl)) dX9_bottleneck_20 ⟨(Nat.le_of_ble_eq_true rfl), (Nat.le_of_ble_eq_true rfl)⟩) hS (fun q _ h => hFc q h) hFc (fun r_11 u_12 t H locs ht hvm hw hB hz1 hk1 hS => ?_)
  subst hw
  obtain ⟨hP, hD, hK⟩ := jn (wr := [(q3, .inl (k3, 16, .inr (.inr (.inr (.inr (fun _ => none))))))]) (w1 := [(x, .inr (13, [.ref q0, .ref q1, .ref q2, .ref q3, .ref q4, .ref q5, .ref q6, .int 0, .int 0, .int 0, .int 0, .int 0, .int 0, .int 0])), (q5, .inl (k5, 8, .inr (.inr (.inr (.inr (fop o0 o1 o2 o3 o4 o5 o6 o7)))))), (o0, .inr (8, [.int 0, .int 0, .int 0, .int 0])), (o1, .inr (8, [.int 0, .int 0, .int 0, .int 0])), (o2, .inr (8, [.int 0, .int 0, .int 0, .int 0])), (o3, .inr (8, [.int 0, .int 0, .int 0, .int 0])), (o4, .inr (8, [.int 0, .int 0, .int 0, .int 0])), (o5, .inr (8, [.int 0, .int 0, .int 0, .int 0])), (o6, .inr (8, [.int 0, .int 0, .int 0, .int 0])), (o7, .inr (8, [.int 0, .int 0, .int 0, .int 0]))]) (t1 := []) (tr := [(k3, .object "Lastroom$Ticket"), (k5, .object "Lastroom$Operator")]) hP hD hK [9, 0, 1, 2, 3, 4, 5, 6, 7, 8] [10] rfl rfl (by decide) (by decide) [0, 1] rfl hk1 hFc hB rfl rfl ht hvm
  have hP : va_P D vwCl [(q3, .inl (k3, 16, .inr (.inr (.inr (.inr (fun _ => none)))))), (x, .inr (13, [.ref q0, .ref q1, .ref q2, .ref q3, .ref q4, .ref q5, .ref q6, .int 0, .int 0, .int 0, .int 0, .int 0, .int 0, .int 0])), (q5, .inl (k5, 8, .inr (.inr (.inr (.inr (fop o0 o1 o2 o3 o4 o5 o6 o7)))))), (o0, .inr (8, [.int 0, .int 0, .int 0, .int 0])), (o1, .inr (8, [.int 0, .int 0, .int 0, .int 0])), (o2, .inr (8, [.int 0, .int 0, .int 0, .int 0])), (o3, .inr (8, [.int 0, .int 0, .int 0, .int 0])), (o4, .inr (8, [.int 0, .int 0, .int 0, .int 0])), (o5, .inr (8, [.int 0, .int 0, .int 0, .int 0])), (o6, .inr (8, [.int 0, .int 0, .int 0, .int 0])), (o7, .inr (8, [.int 0, .int 0, .int 0, .int 0]))] H := hP
  have hD : va_D A [(q3, .inl (k3, 16, .inr (.inr (.inr (.inr (fun _ => none)))))), (x, .inr (13, [.ref q0, .ref q1, .ref q2, .ref q3, .ref q4, .ref q5, .ref q6, .int 0, .int 0, .int 0, .int 0, .int 0, .int 0, .int 0])), (q5, .inl (k5, 8, .inr (.inr (.inr (.inr (fop o0 o1 o2 o3 o4 o5 o6 o7)))))), (o0, .inr (8, [.int 0, .int 0, .int 0, .int 0])), (o1, .inr (8, [.int 0, .int 0, .int 0, .int 0])), (o2, .inr (8, [.int 0, .int 0, .int 0, .int 0])), (o3, .inr (8, [.int 0, .int 0, .int 0, .int 0])), (o4, .inr (8, [.int 0, .int 0, .int 0, .int 0])), (o5, .inr (8, [.int 0, .int 0, .int 0, .int 0])), (o6, .inr (8, [.int 0, .int 0, .int 0, .int 0])), (o7, .inr (8, [.int 0, .int 0, .int 0, .int 0]))] := hD
  have hK : va_K D vwCl [(k3, .object "Lastroom$Ticket"), (k5, .object "Lastroom$Operator")] s := hK
  refine W.widen (k := 0) (n := 0) (Nat.le_of_ble_eq_true rfl) (Nat.le_of_ble_eq_true rfl) ?_
  refine lv_istore (lv' := [(5, .int 0), (4, .int 0), (3, .int 1), (6, .int 2147483647), (2, .int (-1)), (1, .int (-1)), (0, .ref x)]) hx hb dX9_bottleneck_23 hl (by decide) rfl (fun ls hl => ?_)
  refine lv_iload hx hb dX9_bottleneck_25 (lv_at hl 0 rfl) ?_
  refine lv_if_ne (tgt := 35) hx hb dX9_bottleneck_27 (by decide) (fun c_13 => absurd (by decide) c_13) (fun c_13 => ?_)
  refine lv_ldc (v := 2147483647) hx hb hown (hts (.constant RX9 143 (2147483647)) (List.mem_of_getElem? (i := 3) rfl)) dX9_bottleneck_30 ?_
  refine lv_goto (tgt := 42) hx hb dX9_bottleneck_32 (by decide) ?_
  refine lv_istore (lv' := [(6, .int 2147483647), (5, .int 0), (4, .int 0), (3, .int 1), (2, .int (-1)), (1, .int (-1)), (0, .ref x)]) hx hb dX9_bottleneck_42 hl (by decide) rfl (fun ls hl => ?_)
  refine lv_iload hx hb dX9_bottleneck_44 (lv_at hl 2 rfl) ?_
  refine lv_if_le (tgt := 60) hx hb dX9_bottleneck_46 (by decide) (fun c_14 => ?_) (fun c_14 => absurd (show (0 : Int32) ≤ 0 from (by decide)) c_14)
  refine lv_iinc (v := 2) (lv' := [(3, .int 2), (6, .int 2147483647), (5, .int 0), (4, .int 0), (2, .int (-1)), (1, .int (-1)), (0, .ref x)]) hx hb dX9_bottleneck_60 hl (k := 3) rfl (by decide) (by decide) rfl (fun ls hl => ?_)
  refine lv_goto (tgt := 6) hx hb dX9_bottleneck_63 (by decide) ?_
  refine lv_iload_n hx hb dX9_bottleneck_6 rfl (lv_at hl 0 rfl) ?_
  refine lv_iconst (v := 4) hx hb dX9_bottleneck_7 (by decide) ?_
  refine lv_icmp_ge (tgt := 66) hx hb dX9_bottleneck_8 (by decide) (fun c_15 => absurd c_15 (show ¬ (4 : Int32) ≤ (2 : Int32) from (by decide))) (fun c_15 => ?_)
  refine lv_aload_n hx hb dX9_bottleneck_11 rfl (lv_at hl 6 rfl) ?_
  refine lv_iload_n hx hb dX9_bottleneck_12 rfl (lv_at hl 0 rfl) ?_
  have hFc := va_free (wc := [(x, .inr (13, [.ref q0, .ref q1, .ref q2, .ref q3, .ref q4, .ref q5, .ref q6, .int 0, .int 0, .int 0, .int 0, .int 0, .int 0, .int 0])), (q3, .inl (k3, 16, .inr (.inr (.inr (.inr (fun _ => none))))))]) hD hS hA [1, 0] rfl
  refine va_calli (va_runV (As := [.int 2]) (rest := []) ⟨hx, hb, hml, hown, hts⟩ (c_countMinutes l D tC tE H.size x q0 q1 q2 q3 q4 q5 q6 k3 2) (cwV 1 hts gX9_bottleneck_X9_countMinutes rfl rfl rfl (by decide +kernel) ⟨(Nat.le_of_ble_eq_true rfl), (Nat.le_of_ble_eq_true rfl)⟩) ⟨pg_blind, (va_recv hK hP (ci := 13) (q0 := 1) rfl rfl), (pg_pre hP hD hK hG hS hFc [1, 0] rfl (by decide) [0] rfl _)⟩ rfl rfl hl.1 rfl (lv_room (Nat.le_of_ble_eq_true rfl)) dX9_bottleneck_13 ⟨(Nat.le_of_ble_eq_true rfl), (Nat.le_of_ble_eq_true rfl)⟩) hS (fun q _ h => hFc q h) hFc (fun r_16 u_17 t H locs ht hvm hw hB hz1 hk1 hS => ?_)
  subst hw
  obtain ⟨hP, hD, hK⟩ := jn (wr := [(q5, .inl (k5, 8, .inr (.inr (.inr (.inr (fop o0 o1 o2 o3 o4 o5 o6 o7)))))), (o0, .inr (8, [.int 0, .int 0, .int 0, .int 0])), (o1, .inr (8, [.int 0, .int 0, .int 0, .int 0])), (o2, .inr (8, [.int 0, .int 0, .int 0, .int 0])), (o3, .inr (8, [.int 0, .int 0, .int 0, .int 0])), (o4, .inr (8, [.int 0, .int 0, .int 0, .int 0])), (o5, .inr (8, [.int 0, .int 0, .int 0, .int 0])), (o6, .inr (8, [.int 0, .int 0, .int 0, .int 0])), (o7, .inr (8, [.int 0, .int 0, .int 0, .int 0]))]) (w1 := [(x, .inr (13, [.ref q0, .ref q1, .ref q2, .ref q3, .ref q4, .ref q5, .ref q6, .int 0, .int 0, .int 0, .int 0, .int 0, .int 0, .int 0])), (q3, .inl (k3, 16, .inr (.inr (.inr (.inr (fun _ => none))))))]) (t1 := []) (tr := [(k3, .object "Lastroom$Ticket"), (k5, .object "Lastroom$Operator")]) hP hD hK [1, 0] [2, 3, 4, 5, 6, 7, 8, 9, 10] rfl rfl (by decide) (by decide) [0, 1] rfl hk1 hFc hB rfl rfl ht hvm
  have hP : va_P D vwCl [(q5, .inl (k5, 8, .inr (.inr (.inr (.inr (fop o0 o1 o2 o3 o4 o5 o6 o7)))))), (o0, .inr (8, [.int 0, .int 0, .int 0, .int 0])), (o1, .inr (8, [.int 0, .int 0, .int 0, .int 0])), (o2, .inr (8, [.int 0, .int 0, .int 0, .int 0])), (o3, .inr (8, [.int 0, .int 0, .int 0, .int 0])), (o4, .inr (8, [.int 0, .int 0, .int 0, .int 0])), (o5, .inr (8, [.int 0, .int 0, .int 0, .int 0])), (o6, .inr (8, [.int 0, .int 0, .int 0, .int 0])), (o7, .inr (8, [.int 0, .int 0, .int 0, .int 0])), (x, .inr (13, [.ref q0, .ref q1, .ref q2, .ref q3, .ref q4, .ref q5, .ref q6, .int 0, .int 0, .int 0, .int 0, .int 0, .int 0, .int 0])), (q3, .inl (k3, 16, .inr (.inr (.inr (.inr (fun _ => none))))))] H := hP
  have hD : va_D A [(q5, .inl (k5, 8, .inr (.inr (.inr (.inr (fop o0 o1 o2 o3 o4 o5 o6 o7)))))), (o0, .inr (8, [.int 0, .int 0, .int 0, .int 0])), (o1, .inr (8, [.int 0, .int 0, .int 0, .int 0])), (o2, .inr (8, [.int 0, .int 0, .int 0, .int 0])), (o3, .inr (8, [.int 0, .int 0, .int 0, .int 0])), (o4, .inr (8, [.int 0, .int 0, .int 0, .int 0])), (o5, .inr (8, [.int 0, .int 0, .int 0, .int 0])), (o6, .inr (8, [.int 0, .int 0, .int 0, .int 0])), (o7, .inr (8, [.int 0, .int 0, .int 0, .int 0])), (x, .inr (13, [.ref q0, .ref q1, .ref q2, .ref q3, .ref q4, .ref q5, .ref q6, .int 0, .int 0, .int 0, .int 0, .int 0, .int 0, .int 0])), (q3, .inl (k3, 16, .inr (.inr (.inr (.inr (fun _ => none))))))] := hD
  have hK : va_K D vwCl [(k3, .object "Lastroom$Ticket"), (k5, .object "Lastroom$Operator")] s := hK
  refine W.widen (k := 0) (n := 0) (Nat.le_of_ble_eq_true rfl) (Nat.le_of_ble_eq_true rfl) ?_
  refine lv_istore (lv' := [(4, .int 0), (3, .int 2), (6, .int 2147483647), (5, .int 0), (2, .int (-1)), (1, .int (-1)), (0, .ref x)]) hx hb dX9_bottleneck_16 hl (by decide) rfl (fun ls hl => ?_)
  refine lv_aload_n hx hb dX9_bottleneck_18 rfl (lv_at hl 6 rfl) ?_
  refine lv_iload_n hx hb dX9_bottleneck_19 rfl (lv_at hl 1 rfl) ?_
  have hFc := va_free (wc := [(x, .inr (13, [.ref q0, .ref q1, .ref q2, .ref q3, .ref q4, .ref q5, .ref q6, .int 0, .int 0, .int 0, .int 0, .int 0, .int 0, .int 0])), (q5, .inl (k5, 8, .inr (.inr (.inr (.inr (fop o0 o1 o2 o3 o4 o5 o6 o7)))))), (o0, .inr (8, [.int 0, .int 0, .int 0, .int 0])), (o1, .inr (8, [.int 0, .int 0, .int 0, .int 0])), (o2, .inr (8, [.int 0, .int 0, .int 0, .int 0])), (o3, .inr (8, [.int 0, .int 0, .int 0, .int 0])), (o4, .inr (8, [.int 0, .int 0, .int 0, .int 0])), (o5, .inr (8, [.int 0, .int 0, .int 0, .int 0])), (o6, .inr (8, [.int 0, .int 0, .int 0, .int 0])), (o7, .inr (8, [.int 0, .int 0, .int 0, .int 0]))]) hD hS hA [9, 0, 1, 2, 3, 4, 5, 6, 7, 8] rfl
  refine va_calli (va_runV (As := [.int 2]) (rest := []) ⟨hx, hb, hml, hown, hts⟩ (c_countHands l D tC tE H.size x q0 q1 q2 q3 q4 q5 q6 o0 o1 o2 o3 o4 o5 o6 o7 k5 2) (cwV 1 hts gX9_bottleneck_X9_countHands rfl rfl rfl (by decide +kernel) ⟨(Nat.le_of_ble_eq_true rfl), (Nat.le_of_ble_eq_true rfl)⟩) ⟨pg_blind, (va_recv hK hP (ci := 13) (q0 := 9) rfl rfl), (pg_pre hP hD hK hG hS hFc [9, 0, 1, 2, 3, 4, 5, 6, 7, 8] rfl (by decide) [1] rfl _)⟩ rfl rfl hl.1 rfl (lv_room (Nat.le_of_ble_eq_true rfl)) dX9_bottleneck_20 ⟨(Nat.le_of_ble_eq_true rfl), (Nat.le_of_ble_eq_true rfl)⟩) hS (fun q _ h => hFc q h) hFc (fun r_18 u_19 t H locs ht hvm hw hB hz1 hk1 hS => ?_)
  subst hw
  obtain ⟨hP, hD, hK⟩ := jn (wr := [(q3, .inl (k3, 16, .inr (.inr (.inr (.inr (fun _ => none))))))]) (w1 := [(x, .inr (13, [.ref q0, .ref q1, .ref q2, .ref q3, .ref q4, .ref q5, .ref q6, .int 0, .int 0, .int 0, .int 0, .int 0, .int 0, .int 0])), (q5, .inl (k5, 8, .inr (.inr (.inr (.inr (fop o0 o1 o2 o3 o4 o5 o6 o7)))))), (o0, .inr (8, [.int 0, .int 0, .int 0, .int 0])), (o1, .inr (8, [.int 0, .int 0, .int 0, .int 0])), (o2, .inr (8, [.int 0, .int 0, .int 0, .int 0])), (o3, .inr (8, [.int 0, .int 0, .int 0, .int 0])), (o4, .inr (8, [.int 0, .int 0, .int 0, .int 0])), (o5, .inr (8, [.int 0, .int 0, .int 0, .int 0])), (o6, .inr (8, [.int 0, .int 0, .int 0, .int 0])), (o7, .inr (8, [.int 0, .int 0, .int 0, .int 0]))]) (t1 := []) (tr := [(k3, .object "Lastroom$Ticket"), (k5, .object "Lastroom$Operator")]) hP hD hK [9, 0, 1, 2, 3, 4, 5, 6, 7, 8] [10] rfl rfl (by decide) (by decide) [0, 1] rfl hk1 hFc hB rfl rfl ht hvm
  have hP : va_P D vwCl [(q3, .inl (k3, 16, .inr (.inr (.inr (.inr (fun _ => none)))))), (x, .inr (13, [.ref q0, .ref q1, .ref q2, .ref q3, .ref q4, .ref q5, .ref q6, .int 0, .int 0, .int 0, .int 0, .int 0, .int 0, .int 0])), (q5, .inl (k5, 8, .inr (.inr (.inr (.inr (fop o0 o1 o2 o3 o4 o5 o6 o7)))))), (o0, .inr (8, [.int 0, .int 0, .int 0, .int 0])), (o1, .inr (8, [.int 0, .int 0, .int 0, .int 0])), (o2, .inr (8, [.int 0, .int 0, .int 0, .int 0])), (o3, .inr (8, [.int 0, .int 0, .int 0, .int 0])), (o4, .inr (8, [.int 0, .int 0, .int 0, .int 0])), (o5, .inr (8, [.int 0, .int 0, .int 0, .int 0])), (o6, .inr (8, [.int 0, .int 0, .int 0, .int 0])), (o7, .inr (8, [.int 0, .int 0, .int 0, .int 0]))] H := hP
  have hD : va_D A [(q3, .inl (k3, 16, .inr (.inr (.inr (.inr (fun _ => none)))))), (x, .inr (13, [.ref q0, .ref q1, .ref q2, .ref q3, .ref q4, .ref q5, .ref q6, .int 0, .int 0, .int 0, .int 0, .int 0, .int 0, .int 0])), (q5, .inl (k5, 8, .inr (.inr (.inr (.inr (fop o0 o1 o2 o3 o4 o5 o6 o7)))))), (o0, .inr (8, [.int 0, .int 0, .int 0, .int 0])), (o1, .inr (8, [.int 0, .int 0, .int 0, .int 0])), (o2, .inr (8, [.int 0, .int 0, .int 0, .int 0])), (o3, .inr (8, [.int 0, .int 0, .int 0, .int 0])), (o4, .inr (8, [.int 0, .int 0, .int 0, .int 0])), (o5, .inr (8, [.int 0, .int 0, .int 0, .int 0])), (o6, .inr (8, [.int 0, .int 0, .int 0, .int 0])), (o7, .inr (8, [.int 0, .int 0, .int 0, .int 0]))] := hD
  have hK : va_K D vwCl [(k3, .object "Lastroom$Ticket"), (k5, .object "Lastroom$Operator")] s := hK
  refine W.widen (k := 0) (n := 0) (Nat.le_of_ble_eq_true rfl) (Nat.le_of_ble_eq_true rfl) ?_
  refine lv_istore (lv' := [(5, .int 0), (4, .int 0), (3, .int 2), (6, .int 2147483647), (2, .int (-1)), (1, .int (-1)), (0, .ref x)]) hx hb dX9_bottleneck_23 hl (by decide) rfl (fun ls hl => ?_)
  refine lv_iload hx hb dX9_bottleneck_25 (lv_at hl 0 rfl) ?_
  refine lv_if_ne (tgt := 35) hx hb dX9_bottleneck_27 (by decide) (fun c_20 => absurd (by decide) c_20) (fun c_20 => ?_)
  refine lv_ldc (v := 2147483647) hx hb hown (hts (.constant RX9 143 (2147483647)) (List.mem_of_getElem? (i := 3) rfl)) dX9_bottleneck_30 ?_
  refine lv_goto (tgt := 42) hx hb dX9_bottleneck_32 (by decide) ?_
  refine lv_istore (lv' := [(6, .int 2147483647), (5, .int 0), (4, .int 0), (3, .int 2), (2, .int (-1)), (1, .int (-1)), (0, .ref x)]) hx hb dX9_bottleneck_42 hl (by decide) rfl (fun ls hl => ?_)
  refine lv_iload hx hb dX9_bottleneck_44 (lv_at hl 2 rfl) ?_
  refine lv_if_le (tgt := 60) hx hb dX9_bottleneck_46 (by decide) (fun c_21 => ?_) (fun c_21 => absurd (show (0 : Int32) ≤ 0 from (by decide)) c_21)
  refine lv_iinc (v := 3) (lv' := [(3, .int 3), (6, .int 2147483647), (5, .int 0), (4, .int 0), (2, .int (-1)), (1, .int (-1)), (0, .ref x)]) hx hb dX9_bottleneck_60 hl (k := 3) rfl (by decide) (by decide) rfl (fun ls hl => ?_)
  refine lv_goto (tgt := 6) hx hb dX9_bottleneck_63 (by decide) ?_
  refine lv_iload_n hx hb dX9_bottleneck_6 rfl (lv_at hl 0 rfl) ?_
  refine lv_iconst (v := 4) hx hb dX9_bottleneck_7 (by decide) ?_
  refine lv_icmp_ge (tgt := 66) hx hb dX9_bottleneck_8 (by decide) (fun c_22 => absurd c_22 (show ¬ (4 : Int32) ≤ (3 : Int32) from (by decide))) (fun c_22 => ?_)
  refine lv_aload_n hx hb dX9_bottleneck_11 rfl (lv_at hl 6 rfl) ?_
  refine lv_iload_n hx hb dX9_bottleneck_12 rfl (lv_at hl 0 rfl) ?_
  have hFc := va_free (wc := [(x, .inr (13, [.ref q0, .ref q1, .ref q2, .ref q3, .ref q4, .ref q5, .ref q6, .int 0, .int 0, .int 0, .int 0, .int 0, .int 0, .int 0])), (q3, .inl (k3, 16, .inr (.inr (.inr (.inr (fun _ => none))))))]) hD hS hA [1, 0] rfl
  refine va_calli (va_runV (As := [.int 3]) (rest := []) ⟨hx, hb, hml, hown, hts⟩ (c_countMinutes l D tC tE H.size x q0 q1 q2 q3 q4 q5 q6 k3 3) (cwV 1 hts gX9_bottleneck_X9_countMinutes rfl rfl rfl (by decide +kernel) ⟨(Nat.le_of_ble_eq_true rfl), (Nat.le_of_ble_eq_true rfl)⟩) ⟨pg_blind, (va_recv hK hP (ci := 13) (q0 := 1) rfl rfl), (pg_pre hP hD hK hG hS hFc [1, 0] rfl (by decide) [0] rfl _)⟩ rfl rfl hl.1 rfl (lv_room (Nat.le_of_ble_eq_true rfl)) dX9_bottleneck_13 ⟨(Nat.le_of_ble_eq_true rfl), (Nat.le_of_ble_eq_true rfl)⟩) hS (fun q _ h => hFc q h) hFc (fun r_23 u_24 t H locs ht hvm hw hB hz1 hk1 hS => ?_)
  subst hw
  obtain ⟨hP, hD, hK⟩ := jn (wr := [(q5, .inl (k5, 8, .inr (.inr (.inr (.inr (fop o0 o1 o2 o3 o4 o5 o6 o7)))))), (o0, .inr (8, [.int 0, .int 0, .int 0, .int 0])), (o1, .inr (8, [.int 0, .int 0, .int 0, .int 0])), (o2, .inr (8, [.int 0, .int 0, .int 0, .int 0])), (o3, .inr (8, [.int 0, .int 0, .int 0, .int 0])), (o4, .inr (8, [.int 0, .int 0, .int 0, .int 0])), (o5, .inr (8, [.int 0, .int 0, .int 0, .int 0])), (o6, .inr (8, [.int 0, .int 0, .int 0, .int 0])), (o7, .inr (8, [.int 0, .int 0, .int 0, .int 0]))]) (w1 := [(x, .inr (13, [.ref q0, .ref q1, .ref q2, .ref q3, .ref q4, .ref q5, .ref q6, .int 0, .int 0, .int 0, .int 0, .int 0, .int 0, .int 0])), (q3, .inl (k3, 16, .inr (.inr (.inr (.inr (fun _ => none))))))]) (t1 := []) (tr := [(k3, .object "Lastroom$Ticket"), (k5, .object "Lastroom$Operator")]) hP hD hK [1, 0] [2, 3, 4, 5, 6, 7, 8, 9, 10] rfl rfl (by decide) (by decide) [0, 1] rfl hk1 hFc hB rfl rfl ht hvm
  have hP : va_P D vwCl [(q5, .inl (k5, 8, .inr (.inr (.inr (.inr (fop o0 o1 o2 o3 o4 o5 o6 o7)))))), (o0, .inr (8, [.int 0, .int 0, .int 0, .int 0])), (o1, .inr (8, [.int 0, .int 0, .int 0, .int 0])), (o2, .inr (8, [.int 0, .int 0, .int 0, .int 0])), (o3, .inr (8, [.int 0, .int 0, .int 0, .int 0])), (o4, .inr (8, [.int 0, .int 0, .int 0, .int 0])), (o5, .inr (8, [.int 0, .int 0, .int 0, .int 0])), (o6, .inr (8, [.int 0, .int 0, .int 0, .int 0])), (o7, .inr (8, [.int 0, .int 0, .int 0, .int 0])), (x, .inr (13, [.ref q0, .ref q1, .ref q2, .ref q3, .ref q4, .ref q5, .ref q6, .int 0, .int 0, .int 0, .int 0, .int 0, .int 0, .int 0])), (q3, .inl (k3, 16, .inr (.inr (.inr (.inr (fun _ => none))))))] H := hP
  have hD : va_D A [(q5, .inl (k5, 8, .inr (.inr (.inr (.inr (fop o0 o1 o2 o3 o4 o5 o6 o7)))))), (o0, .inr (8, [.int 0, .int 0, .int 0, .int 0])), (o1, .inr (8, [.int 0, .int 0, .int 0, .int 0])), (o2, .inr (8, [.int 0, .int 0, .int 0, .int 0])), (o3, .inr (8, [.int 0, .int 0, .int 0, .int 0])), (o4, .inr (8, [.int 0, .int 0, .int 0, .int 0])), (o5, .inr (8, [.int 0, .int 0, .int 0, .int 0])), (o6, .inr (8, [.int 0, .int 0, .int 0, .int 0])), (o7, .inr (8, [.int 0, .int 0, .int 0, .int 0])), (x, .inr (13, [.ref q0, .ref q1, .ref q2, .ref q3, .ref q4, .ref q5, .ref q6, .int 0, .int 0, .int 0, .int 0, .int 0, .int 0, .int 0])), (q3, .inl (k3, 16, .inr (.inr (.inr (.inr (fun _ => none))))))] := hD
  have hK : va_K D vwCl [(k3, .object "Lastroom$Ticket"), (k5, .object "Lastroom$Operator")] s := hK
  refine W.widen (k := 0) (n := 0) (Nat.le_of_ble_eq_true rfl) (Nat.le_of_ble_eq_true rfl) ?_
  refine lv_istore (lv' := [(4, .int 0), (3, .int 3), (6, .int 2147483647), (5, .int 0), (2, .int (-1)), (1, .int (-1)), (0, .ref x)]) hx hb dX9_bottleneck_16 hl (by decide) rfl (fun ls hl => ?_)
  refine lv_aload_n hx hb dX9_bottleneck_18 rfl (lv_at hl 6 rfl) ?_
  refine lv_iload_n hx hb dX9_bottleneck_19 rfl (lv_at hl 1 rfl) ?_
  have hFc := va_free (wc := [(x, .inr (13, [.ref q0, .ref q1, .ref q2, .ref q3, .ref q4, .ref q5, .ref q6, .int 0, .int 0, .int 0, .int 0, .int 0, .int 0, .int 0])), (q5, .inl (k5, 8, .inr (.inr (.inr (.inr (fop o0 o1 o2 o3 o4 o5 o6 o7)))))), (o0, .inr (8, [.int 0, .int 0, .int 0, .int 0])), (o1, .inr (8, [.int 0, .int 0, .int 0, .int 0])), (o2, .inr (8, [.int 0, .int 0, .int 0, .int 0])), (o3, .inr (8, [.int 0, .int 0, .int 0, .int 0])), (o4, .inr (8, [.int 0, .int 0, .int 0, .int 0])), (o5, .inr (8, [.int 0, .int 0, .int 0, .int 0])), (o6, .inr (8, [.int 0, .int 0, .int 0, .int 0])), (o7, .inr (8, [.int 0, .int 0, .int 0, .int 0]))]) hD hS hA [9, 0, 1, 2, 3, 4, 5, 6, 7, 8] rfl
  refine va_calli (va_runV (As := [.int 3]) (rest := []) ⟨hx, hb, hml, hown, hts⟩ (c_countHands l D tC tE H.size x q0 q1 q2 q3 q4 q5 q6 o0 o1 o2 o3 o4 o5 o6 o7 k5 3) (cwV 1 hts gX9_bottleneck_X9_countHands rfl rfl rfl (by decide +kernel) ⟨(Nat.le_of_ble_eq_true rfl), (Nat.le_of_ble_eq_true rfl)⟩) ⟨pg_blind, (va_recv hK hP (ci := 13) (q0 := 9) rfl rfl), (pg_pre hP hD hK hG hS hFc [9, 0, 1, 2, 3, 4, 5, 6, 7, 8] rfl (by decide) [1] rfl _)⟩ rfl rfl hl.1 rfl (lv_room (Nat.le_of_ble_eq_true rfl)) dX9_bottleneck_20 ⟨(Nat.le_of_ble_eq_true rfl), (Nat.le_of_ble_eq_true rfl)⟩) hS (fun q _ h => hFc q h) hFc (fun r_25 u_26 t H locs ht hvm hw hB hz1 hk1 hS => ?_)
  subst hw
  obtain ⟨hP, hD, hK⟩ := jn (wr := [(q3, .inl (k3, 16, .inr (.inr (.inr (.inr (fun _ => none))))))]) (w1 := [(x, .inr (13, [.ref q0, .ref q1, .ref q2, .ref q3, .ref q4, .ref q5, .ref q6, .int 0, .int 0, .int 0, .int 0, .int 0, .int 0, .int 0])), (q5, .inl (k5, 8, .inr (.inr (.inr (.inr (fop o0 o1 o2 o3 o4 o5 o6 o7)))))), (o0, .inr (8, [.int 0, .int 0, .int 0, .int 0])), (o1, .inr (8, [.int 0, .int 0, .int 0, .int 0])), (o2, .inr (8, [.int 0, .int 0, .int 0, .int 0])), (o3, .inr (8, [.int 0, .int 0, .int 0, .int 0])), (o4, .inr (8, [.int 0, .int 0, .int 0, .int 0])), (o5, .inr (8, [.int 0, .int 0, .int 0, .int 0])), (o6, .inr (8, [.int 0, .int 0, .int 0, .int 0])), (o7, .inr (8, [.int 0, .int 0, .int 0, .int 0]))]) (t1 := []) (tr := [(k3, .object "Lastroom$Ticket"), (k5, .object "Lastroom$Operator")]) hP hD hK [9, 0, 1, 2, 3, 4, 5, 6, 7, 8] [10] rfl rfl (by decide) (by decide) [0, 1] rfl hk1 hFc hB rfl rfl ht hvm
  have hP : va_P D vwCl [(q3, .inl (k3, 16, .inr (.inr (.inr (.inr (fun _ => none)))))), (x, .inr (13, [.ref q0, .ref q1, .ref q2, .ref q3, .ref q4, .ref q5, .ref q6, .int 0, .int 0, .int 0, .int 0, .int 0, .int 0, .int 0])), (q5, .inl (k5, 8, .inr (.inr (.inr (.inr (fop o0 o1 o2 o3 o4 o5 o6 o7)))))), (o0, .inr (8, [.int 0, .int 0, .int 0, .int 0])), (o1, .inr (8, [.int 0, .int 0, .int 0, .int 0])), (o2, .inr (8, [.int 0, .int 0, .int 0, .int 0])), (o3, .inr (8, [.int 0, .int 0, .int 0, .int 0])), (o4, .inr (8, [.int 0, .int 0, .int 0, .int 0])), (o5, .inr (8, [.int 0, .int 0, .int 0, .int 0])), (o6, .inr (8, [.int 0, .int 0, .int 0, .int 0])), (o7, .inr (8, [.int 0, .int 0, .int 0, .int 0]))] H := hP
  have hD : va_D A [(q3, .inl (k3, 16, .inr (.inr (.inr (.inr (fun _ => none)))))), (x, .inr (13, [.ref q0, .ref q1, .ref q2, .ref q3, .ref q4, .ref q5, .ref q6, .int 0, .int 0, .int 0, .int 0, .int 0, .int 0, .int 0])), (q5, .inl (k5, 8, .inr (.inr (.inr (.inr (fop o0 o1 o2 o3 o4 o5 o6 o7)))))), (o0, .inr (8, [.int 0, .int 0, .int 0, .int 0])), (o1, .inr (8, [.int 0, .int 0, .int 0, .int 0])), (o2, .inr (8, [.int 0, .int 0, .int 0, .int 0])), (o3, .inr (8, [.int 0, .int 0, .int 0, .int 0])), (o4, .inr (8, [.int 0, .int 0, .int 0, .int 0])), (o5, .inr (8, [.int 0, .int 0, .int 0, .int 0])), (o6, .inr (8, [.int 0, .int 0, .int 0, .int 0])), (o7, .inr (8, [.int 0, .int 0, .int 0, .int 0]))] := hD
  have hK : va_K D vwCl [(k3, .object "Lastroom$Ticket"), (k5, .object "Lastroom$Operator")] s := hK
  refine W.widen (k := 0) (n := 0) (Nat.le_of_ble_eq_true rfl) (Nat.le_of_ble_eq_true rfl) ?_
  refine lv_istore (lv' := [(5, .int 0), (4, .int 0), (3, .int 3), (6, .int 2147483647), (2, .int (-1)), (1, .int (-1)), (0, .ref x)]) hx hb dX9_bottleneck_23 hl (by decide) rfl (fun ls hl => ?_)
  refine lv_iload hx hb dX9_bottleneck_25 (lv_at hl 0 rfl) ?_
  refine lv_if_ne (tgt := 35) hx hb dX9_bottleneck_27 (by decide) (fun c_27 => absurd (by decide) c_27) (fun c_27 => ?_)
  refine lv_ldc (v := 2147483647) hx hb hown (hts (.constant RX9 143 (2147483647)) (List.mem_of_getElem? (i := 3) rfl)) dX9_bottleneck_30 ?_
  refine lv_goto (tgt := 42) hx hb dX9_bottleneck_32 (by decide) ?_
  refine lv_istore (lv' := [(6, .int 2147483647), (5, .int 0), (4, .int 0), (3, .int 3), (2, .int (-1)), (1, .int (-1)), (0, .ref x)]) hx hb dX9_bottleneck_42 hl (by decide) rfl (fun ls hl => ?_)
  refine lv_iload hx hb dX9_bottleneck_44 (lv_at hl 2 rfl) ?_
  refine lv_if_le (tgt := 60) hx hb dX9_bottleneck_46 (by decide) (fun c_28 => ?_) (fun c_28 => absurd (show (0 : Int32) ≤ 0 from (by decide)) c_28)
  refine lv_iinc (v := 4) (lv' := [(3, .int 4), (6, .int 2147483647), (5, .int 0), (4, .int 0), (2, .int (-1)), (1, .int (-1)), (0, .ref x)]) hx hb dX9_bottleneck_60 hl (k := 3) rfl (by decide) (by decide) rfl (fun ls hl => ?_)
  refine lv_goto (tgt := 6) hx hb dX9_bottleneck_63 (by decide) ?_
  refine lv_iload_n hx hb dX9_bottleneck_6 rfl (lv_at hl 0 rfl) ?_
  refine lv_iconst (v := 4) hx hb dX9_bottleneck_7 (by decide) ?_
  refine lv_icmp_ge (tgt := 66) hx hb dX9_bottleneck_8 (by decide) (fun c_29 => ?_) (fun c_29 => absurd (show (4 : Int32) ≤ (4 : Int32) from (by decide)) c_29)
  refine lv_iload_n hx hb dX9_bottleneck_66 rfl (lv_at hl 5 rfl) ?_
  refine lv_iconst (v := (-1)) hx hb dX9_bottleneck_67 (by decide) ?_
  refine lv_icmp_ne (tgt := 82) hx hb dX9_bottleneck_68 (by decide) (fun c_30 => absurd (by decide) c_30) (fun c_30 => ?_)
  exact tn_w (i := 2)  hx hb hlt hown (hts (.classLink RX9 148 "java/util/NoSuchElementException") (List.mem_of_getElem? (i := 1) rfl)) (hts (.initialized "java/util/NoSuchElementException") (List.mem_of_getElem? (i := 2) rfl)) (fun w h => hts w (List.mem_cons_of_mem _ (List.mem_append_left _ (List.mem_append_left _ (List.mem_append_right _ h))))) rfl hG hS (hl.1.trans hml.symm) htab hlocks dX9_bottleneck_71 dX9_bottleneck_74 dX9_bottleneck_75 dX9_bottleneck_78 dX9_bottleneck_81 rfl (Nat.le_of_ble_eq_true rfl) (Nat.le_of_ble_eq_true rfl) (Nat.le_of_ble_eq_true rfl) (Nat.le_of_ble_eq_true rfl) (Nat.le_of_ble_eq_true rfl) (Nat.le_of_ble_eq_true rfl)

-- ===== printed names =====
def wsX9_isSystem : List Cond := .code yX9_isSystem cX9_isSystem 1 (some .boolean) :: ([])
def wsX9_lowestSize : List Cond := .code yX9_lowestSize cX9_lowestSize 1 (some .int) :: ([])
def wsX9_highestSize : List Cond := .code yX9_highestSize cX9_highestSize 1 (some .int) :: ([])
def wsX9_demandRange : List Cond := .code yX9_demandRange cX9_demandRange 3 none :: ([.classLink RX9 62 "java/lang/IllegalArgumentException", .initialized "java/lang/IllegalArgumentException"] ++ (vx_atS RX9 66 "java/lang/IllegalArgumentException" ["java/lang/RuntimeException", "java/lang/Exception"]).filter goodWord)
def wsX9_demandSize : List Cond := .code yX9_demandSize cX9_demandSize 2 none :: ([.classLink RX9 62 "java/lang/IllegalArgumentException", .initialized "java/lang/IllegalArgumentException", .methodLink RX9 58 yX9_isSystem, .static yX9_isSystem, .initialized RX9, .code yX9_isSystem cX9_isSystem 1 (some .boolean), .methodLink RX9 69 yX9_lowestSize, .static yX9_lowestSize, .code yX9_lowestSize cX9_lowestSize 1 (some .int), .methodLink RX9 73 yX9_highestSize, .static yX9_highestSize, .code yX9_highestSize cX9_highestSize 1 (some .int), .methodLink RX9 82 yX9_demandRange, .static yX9_demandRange, .code yX9_demandRange cX9_demandRange 3 none] ++ (vx_atS RX9 66 "java/lang/IllegalArgumentException" ["java/lang/RuntimeException", "java/lang/Exception"]).filter goodWord)
def wsX9_lengthOf : List Cond := .code yX9_lengthOf cX9_lengthOf 2 (some .int) :: ([])
def wsX9_findModel : List Cond := .code yX9_findModel cX9_findModel 3 (some (.object "Lastroom$Model")) :: ([.classLink RX9 517 "java/lang/IndexOutOfBoundsException", .initialized "java/lang/IndexOutOfBoundsException", .fieldLink RX9 11 "Lastroom" "models" "[LLastroom$Model;"] ++ wsX90 ++ (vx_atS RX9 521 "java/lang/IndexOutOfBoundsException" ["java/lang/RuntimeException", "java/lang/Exception"]).filter goodWord)
def wsX9_demandLastSize : List Cond := .code yX9_demandLastSize cX9_demandLastSize 1 none :: ([.methodLink RX9 82 yX9_demandRange, .static yX9_demandRange, .initialized RX9, .code yX9_demandRange cX9_demandRange 3 none, .classLink RX9 62 "java/lang/IllegalArgumentException", .initialized "java/lang/IllegalArgumentException"] ++ (vx_atS RX9 66 "java/lang/IllegalArgumentException" ["java/lang/RuntimeException", "java/lang/Exception"]).filter goodWord)
def wsX9_demandFoot : List Cond := .code yX9_demandFoot cX9_demandFoot 2 none :: ([.methodLink RX9 82 yX9_demandRange, .static yX9_demandRange, .initialized RX9, .code yX9_demandRange cX9_demandRange 3 none, .classLink RX9 62 "java/lang/IllegalArgumentException", .initialized "java/lang/IllegalArgumentException"] ++ (vx_atS RX9 66 "java/lang/IllegalArgumentException" ["java/lang/RuntimeException", "java/lang/Exception"]).filter goodWord)
def wsX9_findStyle : List Cond := .code yX9_findStyle cX9_findStyle 3 (some (.object "Lastroom$Style")) :: ([.classLink RX9 517 "java/lang/IndexOutOfBoundsException", .initialized "java/lang/IndexOutOfBoundsException", .fieldLink RX9 17 "Lastroom" "styles" "[LLastroom$Style;"] ++ wsX90 ++ (vx_atS RX9 521 "java/lang/IndexOutOfBoundsException" ["java/lang/RuntimeException", "java/lang/Exception"]).filter goodWord)
def wsX9_findHide : List Cond := .code yX9_findHide cX9_findHide 3 (some (.object "Lastroom$Hide")) :: ([.classLink RX9 517 "java/lang/IndexOutOfBoundsException", .initialized "java/lang/IndexOutOfBoundsException", .fieldLink RX9 23 "Lastroom" "hides" "[LLastroom$Hide;"] ++ wsX90 ++ (vx_atS RX9 521 "java/lang/IndexOutOfBoundsException" ["java/lang/RuntimeException", "java/lang/Exception"]).filter goodWord)
def wsX9_findTicket : List Cond := .code yX9_findTicket cX9_findTicket 3 (some (.object "Lastroom$Ticket")) :: ([.classLink RX9 517 "java/lang/IndexOutOfBoundsException", .initialized "java/lang/IndexOutOfBoundsException", .fieldLink RX9 29 "Lastroom" "tickets" "[LLastroom$Ticket;"] ++ wsX90 ++ (vx_atS RX9 521 "java/lang/IndexOutOfBoundsException" ["java/lang/RuntimeException", "java/lang/Exception"]).filter goodWord)
theorem dX9_demandRange_0 : decode cX9_demandRange 0 = .ok (.iload_n 0, 1) := by decide +kernel
theorem dX9_demandRange_1 : decode cX9_demandRange 1 = .ok (.iload_n 1, 1) := by decide +kernel
theorem dX9_demandRange_2 : decode cX9_demandRange 2 = .ok (.if_icmp .lt 8, 3) := by decide +kernel
theorem dX9_demandRange_5 : decode cX9_demandRange 5 = .ok (.iload_n 0, 1) := by decide +kernel
theorem dX9_demandRange_6 : decode cX9_demandRange 6 = .ok (.iload_n 2, 1) := by decide +kernel
theorem dX9_demandRange_7 : decode cX9_demandRange 7 = .ok (.if_icmp .le 14, 3) := by decide +kernel
theorem dX9_demandRange_10 : decode cX9_demandRange 10 = .ok (.new 62, 3) := by decide +kernel
theorem dX9_demandRange_13 : decode cX9_demandRange 13 = .ok (.dup, 1) := by decide +kernel
theorem dX9_demandRange_14 : decode cX9_demandRange 14 = .ok (.ldc_w 515, 3) := by decide +kernel
theorem dX9_demandRange_17 : decode cX9_demandRange 17 = .ok (.invokespecial 66, 3) := by decide +kernel
theorem dX9_demandRange_20 : decode cX9_demandRange 20 = .ok (.athrow, 1) := by decide +kernel
theorem dX9_demandRange_21 : decode cX9_demandRange 21 = .ok (.return_, 1) := by decide +kernel
set_option maxRecDepth 20000 in
theorem ggX9_demandLastSize_X9_demandRange : GoodIn wsX9_demandLastSize wsX9_demandRange := goodIn_ca (goodIn_r _ [4, 5, 6] (by decide +kernel) (by decide +kernel)) (goodIn_sub (fun _ h => List.mem_cons_of_mem _ (List.mem_append_right _ h)) (by decide +kernel))
set_option maxRecDepth 20000 in
theorem gX9_demandLastSize_X9_demandRange : GoodIn wsX9_demandLastSize (va_wsS RX9 82 yX9_demandRange wsX9_demandRange) := goodIn_app (goodIn_of _ (by decide +kernel)) ggX9_demandLastSize_X9_demandRange
theorem dX9_demandLastSize_0 : decode cX9_demandLastSize 0 = .ok (.iload_n 0, 1) := by decide +kernel
theorem dX9_demandLastSize_1 : decode cX9_demandLastSize 1 = .ok (.bipush 15, 2) := by decide +kernel
theorem dX9_demandLastSize_3 : decode cX9_demandLastSize 3 = .ok (.bipush 50, 2) := by decide +kernel
theorem dX9_demandLastSize_5 : decode cX9_demandLastSize 5 = .ok (.invokestatic 82, 3) := by decide +kernel
theorem dX9_demandLastSize_8 : decode cX9_demandLastSize 8 = .ok (.return_, 1) := by decide +kernel
set_option maxRecDepth 20000 in
theorem ggX9_demandSize_X9_isSystem : GoodIn wsX9_demandSize wsX9_isSystem := goodIn_r _ [6] (by decide +kernel) (by decide +kernel)
set_option maxRecDepth 20000 in
theorem gX9_demandSize_X9_isSystem : GoodIn wsX9_demandSize (va_wsS RX9 58 yX9_isSystem wsX9_isSystem) := goodIn_app (goodIn_of _ (by decide +kernel)) ggX9_demandSize_X9_isSystem
set_option maxRecDepth 20000 in
theorem ggX9_demandSize_X9_lowestSize : GoodIn wsX9_demandSize wsX9_lowestSize := goodIn_r _ [9] (by decide +kernel) (by decide +kernel)
set_option maxRecDepth 20000 in
theorem gX9_demandSize_X9_lowestSize : GoodIn wsX9_demandSize (va_wsS RX9 69 yX9_lowestSize wsX9_lowestSize) := goodIn_app (goodIn_of _ (by decide +kernel)) ggX9_demandSize_X9_lowestSize
set_option maxRecDepth 20000 in
theorem ggX9_demandSize_X9_highestSize : GoodIn wsX9_demandSize wsX9_highestSize := goodIn_r _ [12] (by decide +kernel) (by decide +kernel)
set_option maxRecDepth 20000 in
theorem gX9_demandSize_X9_highestSize : GoodIn wsX9_demandSize (va_wsS RX9 73 yX9_highestSize wsX9_highestSize) := goodIn_app (goodIn_of _ (by decide +kernel)) ggX9_demandSize_X9_highestSize
set_option maxRecDepth 20000 in
theorem ggX9_demandSize_X9_demandRange : GoodIn wsX9_demandSize wsX9_demandRange := goodIn_ca (goodIn_r _ [15, 1, 2] (by decide +kernel) (by decide +kernel)) (goodIn_sub (fun _ h => List.mem_cons_of_mem _ (List.mem_append_right _ h)) (by decide +kernel))
set_option maxRecDepth 20000 in
theorem gX9_demandSize_X9_demandRange : GoodIn wsX9_demandSize (va_wsS RX9 82 yX9_demandRange wsX9_demandRange) := goodIn_app (goodIn_of _ (by decide +kernel)) ggX9_demandSize_X9_demandRange
theorem dX9_demandSize_0 : decode cX9_demandSize 0 = .ok (.iload_n 0, 1) := by decide +kernel
theorem dX9_demandSize_1 : decode cX9_demandSize 1 = .ok (.invokestatic 58, 3) := by decide +kernel
theorem dX9_demandSize_4 : decode cX9_demandSize 4 = .ok (.ifCond .ne 13, 3) := by decide +kernel
theorem dX9_demandSize_7 : decode cX9_demandSize 7 = .ok (.new 62, 3) := by decide +kernel
theorem dX9_demandSize_10 : decode cX9_demandSize 10 = .ok (.dup, 1) := by decide +kernel
theorem dX9_demandSize_11 : decode cX9_demandSize 11 = .ok (.ldc 64, 2) := by decide +kernel
theorem dX9_demandSize_13 : decode cX9_demandSize 13 = .ok (.invokespecial 66, 3) := by decide +kernel
theorem dX9_demandSize_16 : decode cX9_demandSize 16 = .ok (.athrow, 1) := by decide +kernel
theorem dX9_demandSize_17 : decode cX9_demandSize 17 = .ok (.iload_n 1, 1) := by decide +kernel
theorem dX9_demandSize_18 : decode cX9_demandSize 18 = .ok (.iload_n 0, 1) := by decide +kernel
theorem dX9_demandSize_19 : decode cX9_demandSize 19 = .ok (.invokestatic 69, 3) := by decide +kernel
theorem dX9_demandSize_22 : decode cX9_demandSize 22 = .ok (.iload_n 0, 1) := by decide +kernel
theorem dX9_demandSize_23 : decode cX9_demandSize 23 = .ok (.invokestatic 73, 3) := by decide +kernel
theorem dX9_demandSize_26 : decode cX9_demandSize 26 = .ok (.invokestatic 82, 3) := by decide +kernel
theorem dX9_demandSize_29 : decode cX9_demandSize 29 = .ok (.return_, 1) := by decide +kernel
set_option maxRecDepth 20000 in
theorem ggX9_demandFoot_X9_demandRange : GoodIn wsX9_demandFoot wsX9_demandRange := goodIn_ca (goodIn_r _ [4, 5, 6] (by decide +kernel) (by decide +kernel)) (goodIn_sub (fun _ h => List.mem_cons_of_mem _ (List.mem_append_right _ h)) (by decide +kernel))
set_option maxRecDepth 20000 in
theorem gX9_demandFoot_X9_demandRange : GoodIn wsX9_demandFoot (va_wsS RX9 82 yX9_demandRange wsX9_demandRange) := goodIn_app (goodIn_of _ (by decide +kernel)) ggX9_demandFoot_X9_demandRange
theorem dX9_demandFoot_0 : decode cX9_demandFoot 0 = .ok (.iload_n 0, 1) := by decide +kernel
theorem dX9_demandFoot_1 : decode cX9_demandFoot 1 = .ok (.sipush 1000, 3) := by decide +kernel
theorem dX9_demandFoot_4 : decode cX9_demandFoot 4 = .ok (.sipush 3500, 3) := by decide +kernel
theorem dX9_demandFoot_7 : decode cX9_demandFoot 7 = .ok (.invokestatic 82, 3) := by decide +kernel
theorem dX9_demandFoot_10 : decode cX9_demandFoot 10 = .ok (.iload_n 1, 1) := by decide +kernel
theorem dX9_demandFoot_11 : decode cX9_demandFoot 11 = .ok (.sipush 1000, 3) := by decide +kernel
theorem dX9_demandFoot_14 : decode cX9_demandFoot 14 = .ok (.sipush 4500, 3) := by decide +kernel
theorem dX9_demandFoot_17 : decode cX9_demandFoot 17 = .ok (.invokestatic 82, 3) := by decide +kernel
theorem dX9_demandFoot_20 : decode cX9_demandFoot 20 = .ok (.return_, 1) := by decide +kernel
theorem dX9_findModel_0 : decode cX9_findModel 0 = .ok (.iload_n 1, 1) := by decide +kernel
theorem dX9_findModel_1 : decode cX9_findModel 1 = .ok (.ifCond .lt 21, 3) := by decide +kernel
theorem dX9_findModel_4 : decode cX9_findModel 4 = .ok (.iload_n 1, 1) := by decide +kernel
theorem dX9_findModel_5 : decode cX9_findModel 5 = .ok (.aload_n 0, 1) := by decide +kernel
theorem dX9_findModel_6 : decode cX9_findModel 6 = .ok (.getfield 11, 3) := by decide +kernel
theorem dX9_findModel_9 : decode cX9_findModel 9 = .ok (.arraylength, 1) := by decide +kernel
theorem dX9_findModel_10 : decode cX9_findModel 10 = .ok (.if_icmp .ge 12, 3) := by decide +kernel
theorem dX9_findModel_13 : decode cX9_findModel 13 = .ok (.aload_n 0, 1) := by decide +kernel
theorem dX9_findModel_14 : decode cX9_findModel 14 = .ok (.getfield 11, 3) := by decide +kernel
theorem dX9_findModel_17 : decode cX9_findModel 17 = .ok (.iload_n 1, 1) := by decide +kernel
theorem dX9_findModel_18 : decode cX9_findModel 18 = .ok (.aaload, 1) := by decide +kernel
theorem dX9_findModel_19 : decode cX9_findModel 19 = .ok (.goto 4, 3) := by decide +kernel
theorem dX9_findModel_22 : decode cX9_findModel 22 = .ok (.aconst_null, 1) := by decide +kernel
theorem dX9_findModel_23 : decode cX9_findModel 23 = .ok (.astore_n 2, 1) := by decide +kernel
theorem dX9_findModel_24 : decode cX9_findModel 24 = .ok (.aload_n 2, 1) := by decide +kernel
theorem dX9_findModel_25 : decode cX9_findModel 25 = .ok (.ifnonnull 14, 3) := by decide +kernel
theorem dX9_findModel_28 : decode cX9_findModel 28 = .ok (.new 517, 3) := by decide +kernel
theorem dX9_findModel_31 : decode cX9_findModel 31 = .ok (.dup, 1) := by decide +kernel
theorem dX9_findModel_32 : decode cX9_findModel 32 = .ok (.ldc_w 519, 3) := by decide +kernel
theorem dX9_findModel_35 : decode cX9_findModel 35 = .ok (.invokespecial 521, 3) := by decide +kernel
theorem dX9_findModel_38 : decode cX9_findModel 38 = .ok (.athrow, 1) := by decide +kernel
theorem dX9_findStyle_0 : decode cX9_findStyle 0 = .ok (.iload_n 1, 1) := by decide +kernel
theorem dX9_findStyle_1 : decode cX9_findStyle 1 = .ok (.ifCond .lt 21, 3) := by decide +kernel
theorem dX9_findStyle_4 : decode cX9_findStyle 4 = .ok (.iload_n 1, 1) := by decide +kernel
theorem dX9_findStyle_5 : decode cX9_findStyle 5 = .ok (.aload_n 0, 1) := by decide +kernel
theorem dX9_findStyle_6 : decode cX9_findStyle 6 = .ok (.getfield 17, 3) := by decide +kernel
theorem dX9_findStyle_9 : decode cX9_findStyle 9 = .ok (.arraylength, 1) := by decide +kernel
theorem dX9_findStyle_10 : decode cX9_findStyle 10 = .ok (.if_icmp .ge 12, 3) := by decide +kernel
theorem dX9_findStyle_13 : decode cX9_findStyle 13 = .ok (.aload_n 0, 1) := by decide +kernel
theorem dX9_findStyle_14 : decode cX9_findStyle 14 = .ok (.getfield 17, 3) := by decide +kernel
theorem dX9_findStyle_17 : decode cX9_findStyle 17 = .ok (.iload_n 1, 1) := by decide +kernel
theorem dX9_findStyle_18 : decode cX9_findStyle 18 = .ok (.aaload, 1) := by decide +kernel
theorem dX9_findStyle_19 : decode cX9_findStyle 19 = .ok (.goto 4, 3) := by decide +kernel
theorem dX9_findStyle_22 : decode cX9_findStyle 22 = .ok (.aconst_null, 1) := by decide +kernel
theorem dX9_findStyle_23 : decode cX9_findStyle 23 = .ok (.astore_n 2, 1) := by decide +kernel
theorem dX9_findStyle_24 : decode cX9_findStyle 24 = .ok (.aload_n 2, 1) := by decide +kernel
theorem dX9_findStyle_25 : decode cX9_findStyle 25 = .ok (.ifnonnull 14, 3) := by decide +kernel
theorem dX9_findStyle_28 : decode cX9_findStyle 28 = .ok (.new 517, 3) := by decide +kernel
theorem dX9_findStyle_31 : decode cX9_findStyle 31 = .ok (.dup, 1) := by decide +kernel
theorem dX9_findStyle_32 : decode cX9_findStyle 32 = .ok (.ldc_w 522, 3) := by decide +kernel
theorem dX9_findStyle_35 : decode cX9_findStyle 35 = .ok (.invokespecial 521, 3) := by decide +kernel
theorem dX9_findStyle_38 : decode cX9_findStyle 38 = .ok (.athrow, 1) := by decide +kernel
theorem dX9_findHide_0 : decode cX9_findHide 0 = .ok (.iload_n 1, 1) := by decide +kernel
theorem dX9_findHide_1 : decode cX9_findHide 1 = .ok (.ifCond .lt 21, 3) := by decide +kernel
theorem dX9_findHide_4 : decode cX9_findHide 4 = .ok (.iload_n 1, 1) := by decide +kernel
theorem dX9_findHide_5 : decode cX9_findHide 5 = .ok (.aload_n 0, 1) := by decide +kernel
theorem dX9_findHide_6 : decode cX9_findHide 6 = .ok (.getfield 23, 3) := by decide +kernel
theorem dX9_findHide_9 : decode cX9_findHide 9 = .ok (.arraylength, 1) := by decide +kernel
theorem dX9_findHide_10 : decode cX9_findHide 10 = .ok (.if_icmp .ge 12, 3) := by decide +kernel
theorem dX9_findHide_13 : decode cX9_findHide 13 = .ok (.aload_n 0, 1) := by decide +kernel
theorem dX9_findHide_14 : decode cX9_findHide 14 = .ok (.getfield 23, 3) := by decide +kernel
theorem dX9_findHide_17 : decode cX9_findHide 17 = .ok (.iload_n 1, 1) := by decide +kernel
theorem dX9_findHide_18 : decode cX9_findHide 18 = .ok (.aaload, 1) := by decide +kernel
theorem dX9_findHide_19 : decode cX9_findHide 19 = .ok (.goto 4, 3) := by decide +kernel
theorem dX9_findHide_22 : decode cX9_findHide 22 = .ok (.aconst_null, 1) := by decide +kernel
theorem dX9_findHide_23 : decode cX9_findHide 23 = .ok (.astore_n 2, 1) := by decide +kernel
theorem dX9_findHide_24 : decode cX9_findHide 24 = .ok (.aload_n 2, 1) := by decide +kernel
theorem dX9_findHide_25 : decode cX9_findHide 25 = .ok (.ifnonnull 14, 3) := by decide +kernel
theorem dX9_findHide_28 : decode cX9_findHide 28 = .ok (.new 517, 3) := by decide +kernel
theorem dX9_findHide_31 : decode cX9_findHide 31 = .ok (.dup, 1) := by decide +kernel
theorem dX9_findHide_32 : decode cX9_findHide 32 = .ok (.ldc_w 536, 3) := by decide +kernel
theorem dX9_findHide_35 : decode cX9_findHide 35 = .ok (.invokespecial 521, 3) := by decide +kernel
theorem dX9_findHide_38 : decode cX9_findHide 38 = .ok (.athrow, 1) := by decide +kernel
theorem dX9_findTicket_0 : decode cX9_findTicket 0 = .ok (.iload_n 1, 1) := by decide +kernel
theorem dX9_findTicket_1 : decode cX9_findTicket 1 = .ok (.ifCond .lt 21, 3) := by decide +kernel
theorem dX9_findTicket_4 : decode cX9_findTicket 4 = .ok (.iload_n 1, 1) := by decide +kernel
theorem dX9_findTicket_5 : decode cX9_findTicket 5 = .ok (.aload_n 0, 1) := by decide +kernel
theorem dX9_findTicket_6 : decode cX9_findTicket 6 = .ok (.getfield 29, 3) := by decide +kernel
theorem dX9_findTicket_9 : decode cX9_findTicket 9 = .ok (.arraylength, 1) := by decide +kernel
theorem dX9_findTicket_10 : decode cX9_findTicket 10 = .ok (.if_icmp .ge 12, 3) := by decide +kernel
theorem dX9_findTicket_13 : decode cX9_findTicket 13 = .ok (.aload_n 0, 1) := by decide +kernel
theorem dX9_findTicket_14 : decode cX9_findTicket 14 = .ok (.getfield 29, 3) := by decide +kernel
theorem dX9_findTicket_17 : decode cX9_findTicket 17 = .ok (.iload_n 1, 1) := by decide +kernel
theorem dX9_findTicket_18 : decode cX9_findTicket 18 = .ok (.aaload, 1) := by decide +kernel
theorem dX9_findTicket_19 : decode cX9_findTicket 19 = .ok (.goto 4, 3) := by decide +kernel
theorem dX9_findTicket_22 : decode cX9_findTicket 22 = .ok (.aconst_null, 1) := by decide +kernel
theorem dX9_findTicket_23 : decode cX9_findTicket 23 = .ok (.astore_n 2, 1) := by decide +kernel
theorem dX9_findTicket_24 : decode cX9_findTicket 24 = .ok (.aload_n 2, 1) := by decide +kernel
theorem dX9_findTicket_25 : decode cX9_findTicket 25 = .ok (.ifnonnull 14, 3) := by decide +kernel
theorem dX9_findTicket_28 : decode cX9_findTicket 28 = .ok (.new 517, 3) := by decide +kernel
theorem dX9_findTicket_31 : decode cX9_findTicket 31 = .ok (.dup, 1) := by decide +kernel
theorem dX9_findTicket_32 : decode cX9_findTicket 32 = .ok (.ldc_w 540, 3) := by decide +kernel
theorem dX9_findTicket_35 : decode cX9_findTicket 35 = .ok (.invokespecial 521, 3) := by decide +kernel
theorem dX9_findTicket_38 : decode cX9_findTicket 38 = .ok (.athrow, 1) := by decide +kernel
theorem dX9_isSystem_0 : decode cX9_isSystem 0 = .ok (.iload_n 0, 1) := by decide +kernel
theorem dX9_isSystem_1 : decode cX9_isSystem 1 = .ok (.bipush 102, 2) := by decide +kernel
theorem dX9_isSystem_3 : decode cX9_isSystem 3 = .ok (.if_icmp .eq 21, 3) := by decide +kernel
theorem dX9_isSystem_6 : decode cX9_isSystem 6 = .ok (.iload_n 0, 1) := by decide +kernel
theorem dX9_isSystem_7 : decode cX9_isSystem 7 = .ok (.bipush 117, 2) := by decide +kernel
theorem dX9_isSystem_9 : decode cX9_isSystem 9 = .ok (.if_icmp .eq 15, 3) := by decide +kernel
theorem dX9_isSystem_12 : decode cX9_isSystem 12 = .ok (.iload_n 0, 1) := by decide +kernel
theorem dX9_isSystem_13 : decode cX9_isSystem 13 = .ok (.bipush 97, 2) := by decide +kernel
theorem dX9_isSystem_15 : decode cX9_isSystem 15 = .ok (.if_icmp .eq 9, 3) := by decide +kernel
theorem dX9_isSystem_18 : decode cX9_isSystem 18 = .ok (.iload_n 0, 1) := by decide +kernel
theorem dX9_isSystem_19 : decode cX9_isSystem 19 = .ok (.bipush 109, 2) := by decide +kernel
theorem dX9_isSystem_21 : decode cX9_isSystem 21 = .ok (.if_icmp .ne 7, 3) := by decide +kernel
theorem dX9_isSystem_24 : decode cX9_isSystem 24 = .ok (.iconst 1, 1) := by decide +kernel
theorem dX9_isSystem_25 : decode cX9_isSystem 25 = .ok (.goto 4, 3) := by decide +kernel
theorem dX9_isSystem_28 : decode cX9_isSystem 28 = .ok (.iconst 0, 1) := by decide +kernel
theorem dX9_isSystem_29 : decode cX9_isSystem 29 = .ok (.ireturn, 1) := by decide +kernel
theorem dX9_lowestSize_0 : decode cX9_lowestSize 0 = .ok (.iload_n 0, 1) := by decide +kernel
theorem dX9_lowestSize_1 : decode cX9_lowestSize 1 = .ok (.lookupswitch 42 #[(97, 40), (102, 35), (117, 38)], 35) := by decide +kernel
theorem dX9_lowestSize_36 : decode cX9_lowestSize 36 = .ok (.bipush 15, 2) := by decide +kernel
theorem dX9_lowestSize_38 : decode cX9_lowestSize 38 = .ok (.ireturn, 1) := by decide +kernel
theorem dX9_lowestSize_39 : decode cX9_lowestSize 39 = .ok (.iconst 0, 1) := by decide +kernel
theorem dX9_lowestSize_40 : decode cX9_lowestSize 40 = .ok (.ireturn, 1) := by decide +kernel
theorem dX9_lowestSize_41 : decode cX9_lowestSize 41 = .ok (.iconst 1, 1) := by decide +kernel
theorem dX9_lowestSize_42 : decode cX9_lowestSize 42 = .ok (.ireturn, 1) := by decide +kernel
theorem dX9_lowestSize_43 : decode cX9_lowestSize 43 = .ok (.sipush 150, 3) := by decide +kernel
theorem dX9_lowestSize_46 : decode cX9_lowestSize 46 = .ok (.ireturn, 1) := by decide +kernel
theorem dX9_highestSize_0 : decode cX9_highestSize 0 = .ok (.iload_n 0, 1) := by decide +kernel
theorem dX9_highestSize_1 : decode cX9_highestSize 1 = .ok (.lookupswitch 44 #[(97, 41), (102, 35), (117, 38)], 35) := by decide +kernel
theorem dX9_highestSize_36 : decode cX9_highestSize 36 = .ok (.bipush 50, 2) := by decide +kernel
theorem dX9_highestSize_38 : decode cX9_highestSize 38 = .ok (.ireturn, 1) := by decide +kernel
theorem dX9_highestSize_39 : decode cX9_highestSize 39 = .ok (.bipush 15, 2) := by decide +kernel
theorem dX9_highestSize_41 : decode cX9_highestSize 41 = .ok (.ireturn, 1) := by decide +kernel
theorem dX9_highestSize_42 : decode cX9_highestSize 42 = .ok (.bipush 16, 2) := by decide +kernel
theorem dX9_highestSize_44 : decode cX9_highestSize 44 = .ok (.ireturn, 1) := by decide +kernel
theorem dX9_highestSize_45 : decode cX9_highestSize 45 = .ok (.sipush 330, 3) := by decide +kernel
theorem dX9_highestSize_48 : decode cX9_highestSize 48 = .ok (.ireturn, 1) := by decide +kernel
theorem dX9_lengthOf_0 : decode cX9_lengthOf 0 = .ok (.iload_n 0, 1) := by decide +kernel
theorem dX9_lengthOf_1 : decode cX9_lengthOf 1 = .ok (.lookupswitch 65 #[(97, 54), (102, 35), (117, 43)], 35) := by decide +kernel
theorem dX9_lengthOf_36 : decode cX9_lengthOf 36 = .ok (.sipush 200, 3) := by decide +kernel
theorem dX9_lengthOf_39 : decode cX9_lengthOf 39 = .ok (.iload_n 1, 1) := by decide +kernel
theorem dX9_lengthOf_40 : decode cX9_lengthOf 40 = .ok (.imul, 1) := by decide +kernel
theorem dX9_lengthOf_41 : decode cX9_lengthOf 41 = .ok (.iconst 3, 1) := by decide +kernel
theorem dX9_lengthOf_42 : decode cX9_lengthOf 42 = .ok (.idiv, 1) := by decide +kernel
theorem dX9_lengthOf_43 : decode cX9_lengthOf 43 = .ok (.ireturn, 1) := by decide +kernel
theorem dX9_lengthOf_44 : decode cX9_lengthOf 44 = .ok (.sipush 254, 3) := by decide +kernel
theorem dX9_lengthOf_47 : decode cX9_lengthOf 47 = .ok (.iload_n 1, 1) := by decide +kernel
theorem dX9_lengthOf_48 : decode cX9_lengthOf 48 = .ok (.bipush 25, 2) := by decide +kernel
theorem dX9_lengthOf_50 : decode cX9_lengthOf 50 = .ok (.iadd, 1) := by decide +kernel
theorem dX9_lengthOf_51 : decode cX9_lengthOf 51 = .ok (.imul, 1) := by decide +kernel
theorem dX9_lengthOf_52 : decode cX9_lengthOf 52 = .ok (.iconst 3, 1) := by decide +kernel
theorem dX9_lengthOf_53 : decode cX9_lengthOf 53 = .ok (.idiv, 1) := by decide +kernel
theorem dX9_lengthOf_54 : decode cX9_lengthOf 54 = .ok (.ireturn, 1) := by decide +kernel
theorem dX9_lengthOf_55 : decode cX9_lengthOf 55 = .ok (.sipush 254, 3) := by decide +kernel
theorem dX9_lengthOf_58 : decode cX9_lengthOf 58 = .ok (.iload_n 1, 1) := by decide +kernel
theorem dX9_lengthOf_59 : decode cX9_lengthOf 59 = .ok (.bipush 24, 2) := by decide +kernel
theorem dX9_lengthOf_61 : decode cX9_lengthOf 61 = .ok (.iadd, 1) := by decide +kernel
theorem dX9_lengthOf_62 : decode cX9_lengthOf 62 = .ok (.imul, 1) := by decide +kernel
theorem dX9_lengthOf_63 : decode cX9_lengthOf 63 = .ok (.iconst 3, 1) := by decide +kernel
theorem dX9_lengthOf_64 : decode cX9_lengthOf 64 = .ok (.idiv, 1) := by decide +kernel
theorem dX9_lengthOf_65 : decode cX9_lengthOf 65 = .ok (.ireturn, 1) := by decide +kernel
theorem dX9_lengthOf_66 : decode cX9_lengthOf 66 = .ok (.bipush 10, 2) := by decide +kernel
theorem dX9_lengthOf_68 : decode cX9_lengthOf 68 = .ok (.iload_n 1, 1) := by decide +kernel
theorem dX9_lengthOf_69 : decode cX9_lengthOf 69 = .ok (.imul, 1) := by decide +kernel
theorem dX9_lengthOf_70 : decode cX9_lengthOf 70 = .ok (.ireturn, 1) := by decide +kernel
-- ===== what the calls answer, in numbers =====
def rg (n lo hi : Int32) : Bool := decide (lo ≤ n) && decide (n ≤ hi)
theorem rg_t {n lo hi : Int32} (h1 : ¬ n < lo) (h2 : n ≤ hi) : rg n lo hi = true := by
  have h3 : lo ≤ n := Int32.not_lt.mp h1
  simp [rg, h3, h2]
theorem rg_t2 {n lo hi : Int32} (h1 : ¬ n < lo) (h2 : ¬ hi < n) : rg n lo hi = true := rg_t h1 (Int32.not_lt.mp h2)
theorem rg_a {n lo hi : Int32} (h1 : n < lo) : rg n lo hi = false := by
  have h3 : ¬ lo ≤ n := Int32.not_le.mpr h1
  simp [rg, h3]
theorem rg_b {n lo hi : Int32} (h1 : ¬ n ≤ hi) : rg n lo hi = false := by
  simp [rg, h1]
theorem rg_b2 {n lo hi : Int32} (h1 : hi < n) : rg n lo hi = false := rg_b (Int32.not_le.mpr h1)
theorem rg_iff {n lo hi : Int32} : rg n lo hi = true ↔ lo ≤ n ∧ n ≤ hi := by simp [rg]
def sysB (c : Int32) : Bool := decide (c = 102) || decide (c = 117) || decide (c = 97) || decide (c = 109)
def lowS (c : Int32) : Int32 := if c = 102 then 15 else if c = 117 then 0 else if c = 97 then 1 else 150
def highS (c : Int32) : Int32 := if c = 102 then 50 else if c = 117 then 15 else if c = 97 then 16 else 330
def szB (c n : Int32) : Bool := sysB c && rg n (lowS c) (highS c)
def lenS (c n : Int32) : Int32 := if c = 102 then 200 * n / 3 else if c = 117 then 254 * (n + 25) / 3 else if c = 97 then 254 * (n + 24) / 3 else 10 * n
def footB (a g : Int32) : Bool := rg a 1000 3500 && rg g 1000 4500
theorem in_ge {n k : Int32} {N : Nat} (hk : k.toInt = N) (h1 : ¬ n < 0) (h2 : ¬ k ≤ n) : vp_in n N := by
  rw [vp_in_iff]
  have a := Int32.not_lt.mp h1
  have b := Int32.not_le.mp h2
  rw [Int32.le_iff_toInt_le] at a
  rw [Int32.lt_iff_toInt_lt] at b
  rw [hk] at b
  exact ⟨a, b⟩
-- ===== the checks of the class =====
set_option maxHeartbeats 4000000 in
set_option maxRecDepth 100000 in
/-- demandRange(n, lo, hi): returns when n is in the range, else throws -/
theorem c_demandRange (l : Launch) (hlt : l.stackTraces = false) (D : va_G) (tC tE sz : Nat) (n lo hi : Int32) : vx_Met l yX9_demandRange wsX9_demandRange ({ frames := 6, cells := 1, slots := 6, locals := 82 }) (Pg D tC tE sz [] [] [.int n, .int lo, .int hi]) (Qgv (S := Unit) D (fun u => []) (fun u => []) (fun _ => rg n lo hi = true) (va_A [] sz)) (XX (fun E => E = gx_iae ∧ rg n lo hi = false) (va_A [] sz)) 1 6 (va_A [] sz) := by
  refine og_x (cc := cX9_demandRange) (maxL := 3) (ret := none) (Qc := Qgv (S := Unit) D (fun u => []) (fun u => []) (fun _ => rg n lo hi = true)) (XC := XX (fun E => E = gx_iae ∧ rg n lo hi = false)) (by decide) rfl (Nat.le_of_ble_eq_true rfl) ?_
  intro p e s m below meth c A hx hb hr hml hts hown hlocks hin htab hP hD hK hG hA hS ls hl
  have hl : lv_has ls 3 [(0, .int n), (1, .int lo), (2, .int hi)] := hl
  refine lv_iload_n hx hb dX9_demandRange_0 rfl (lv_at hl 0 rfl) ?_
  refine lv_iload_n hx hb dX9_demandRange_1 rfl (lv_at hl 1 rfl) ?_
  refine lv_icmp_lt (tgt := 10) hx hb dX9_demandRange_2 (by decide) (fun c_1 => ?_) (fun c_1 => ?_)
  · exact th_w (i := 6) gx_thr_iae hx hb hlt hown (hts (.classLink RX9 62 "java/lang/IllegalArgumentException") (List.mem_of_getElem? (i := 1) rfl)) (hts (.initialized "java/lang/IllegalArgumentException") (List.mem_of_getElem? (i := 2) rfl)) (fun w h => hts w (List.mem_cons_of_mem _ (List.mem_append_right _ h))) rfl hG hS (hl.1.trans hml.symm) htab hlocks dX9_demandRange_10 dX9_demandRange_13 dX9_demandRange_14 dX9_demandRange_17 dX9_demandRange_20 ⟨rfl, rg_a c_1⟩ (Nat.le_of_ble_eq_true rfl) (Nat.le_of_ble_eq_true rfl) (Nat.le_of_ble_eq_true rfl) (Nat.le_of_ble_eq_true rfl) (Nat.le_of_ble_eq_true rfl) (Nat.le_of_ble_eq_true rfl)
  · refine lv_iload_n hx hb dX9_demandRange_5 rfl (lv_at hl 0 rfl) ?_
    refine lv_iload_n hx hb dX9_demandRange_6 rfl (lv_at hl 2 rfl) ?_
    refine lv_icmp_le (tgt := 21) hx hb dX9_demandRange_7 (by decide) (fun c_2 => ?_) (fun c_2 => ?_)
    · have hP9 := hP.sub (ws' := []) [] rfl
      have hD9 := hD.sub (ws' := []) [] (by decide) rfl
      have hK9 := hK.sub (tys' := []) [] rfl
      exact vx_ret (end_v hx hb hr hlocks hP9 hD9 hK9 hS () rfl rfl (rg_t c_1 c_2) (Nat.le_of_ble_eq_true rfl) (Nat.le_of_ble_eq_true rfl) dX9_demandRange_21)
    · exact th_w (i := 6) gx_thr_iae hx hb hlt hown (hts (.classLink RX9 62 "java/lang/IllegalArgumentException") (List.mem_of_getElem? (i := 1) rfl)) (hts (.initialized "java/lang/IllegalArgumentException") (List.mem_of_getElem? (i := 2) rfl)) (fun w h => hts w (List.mem_cons_of_mem _ (List.mem_append_right _ h))) rfl hG hS (hl.1.trans hml.symm) htab hlocks dX9_demandRange_10 dX9_demandRange_13 dX9_demandRange_14 dX9_demandRange_17 dX9_demandRange_20 ⟨rfl, rg_b c_2⟩ (Nat.le_of_ble_eq_true rfl) (Nat.le_of_ble_eq_true rfl) (Nat.le_of_ble_eq_true rfl) (Nat.le_of_ble_eq_true rfl) (Nat.le_of_ble_eq_true rfl) (Nat.le_of_ble_eq_true rfl)
set_option maxHeartbeats 4000000 in
set_option maxRecDepth 100000 in
/-- demandLastSize(n) -/
theorem c_demandLastSize (l : Launch) (hlt : l.stackTraces = false) (D : va_G) (tC tE sz : Nat) (n : Int32) : vx_Met l yX9_demandLastSize wsX9_demandLastSize ({ frames := 7, cells := 1, slots := 6, locals := 104 }) (Pg D tC tE sz [] [] [.int n]) (Qgv (S := Unit) D (fun u => []) (fun u => []) (fun _ => rg n 15 50 = true) (va_A [] sz)) (XX (fun E => E = gx_iae ∧ rg n 15 50 = false) (va_A [] sz)) 1 6 (va_A [] sz) := by
  refine og_x (cc := cX9_demandLastSize) (maxL := 1) (ret := none) (Qc := Qgv (S := Unit) D (fun u => []) (fun u => []) (fun _ => rg n 15 50 = true)) (XC := XX (fun E => E = gx_iae ∧ rg n 15 50 = false)) (by decide) rfl (Nat.le_of_ble_eq_true rfl) ?_
  intro p e s m below meth c A hx hb hr hml hts hown hlocks hin htab hP hD hK hG hA hS ls hl
  have hl : lv_has ls 1 [(0, .int n)] := hl
  refine lv_iload_n hx hb dX9_demandLastSize_0 rfl (lv_at hl 0 rfl) ?_
  refine lv_bipush (v := 15) hx hb dX9_demandLastSize_1 (by decide) ?_
  refine lv_bipush (v := 50) hx hb dX9_demandLastSize_3 (by decide) ?_
  have hFc := va_free (wc := []) hD hS hA [] rfl
  refine vx_callv (vx_runS (As := [.int n, .int 15, .int 50]) (rest := []) ⟨hx, hb, hml, hown, hts⟩ (c_demandRange l hlt D tC tE s.heap.size n 15 50) (va_cwS 3 hts gX9_demandLastSize_X9_demandRange rfl rfl rfl (by decide +kernel) ⟨(Nat.le_of_ble_eq_true rfl), (Nat.le_of_ble_eq_true rfl)⟩) ⟨pg_blind, (pg_pre hP hD hK hG hS hFc [] rfl (by decide) [] rfl _)⟩ rfl rfl hl.1 rfl (lv_room (Nat.le_of_ble_eq_true rfl)) dX9_demandLastSize_5 ⟨(Nat.le_of_ble_eq_true rfl), (Nat.le_of_ble_eq_true rfl)⟩) hS (fun q _ h => hFc q h) hFc (fun q _ h => hFc q h) (fun E ce q9 u t H1 locs1 ht hvm hw hB hz1 hk1 hS hce hcv hcl => ?_) (fun u_1 t H locs ht hvm hw hB hz1 hk1 hS => ?_)
  · obtain ⟨hE, hf⟩ := hB
    subst hE
    exact vx_widen (k := 1) (n := 6) (Nat.le_of_ble_eq_true rfl) (Nat.le_of_ble_eq_true rfl) (vx_out (fun x hx => (htab x hx).elim) hlocks hce hcv hcl (xx_out hS ⟨rfl, by simp [hf]⟩) hS.2.2 (Nat.le_of_ble_eq_true rfl) (Nat.le_of_ble_eq_true rfl))
  · have h_2 := hw
    obtain ⟨hP, hD, hK⟩ := jn (wr := []) (w1 := []) (t1 := []) (tr := []) hP hD hK [] [] rfl rfl (by decide) (by decide) [] rfl hk1 hFc hB rfl rfl ht hvm
    have hP : va_P D vwCl [] H := hP
    have hD : va_D A [] := hD
    have hK : va_K D vwCl [] s := hK
    refine W.widen (k := 1) (n := 6) (Nat.le_of_ble_eq_true rfl) (Nat.le_of_ble_eq_true rfl) ?_
    have hP9 := hP.sub (ws' := []) [] rfl
    have hD9 := hD.sub (ws' := []) [] (by decide) rfl
    have hK9 := hK.sub (tys' := []) [] rfl
    exact vx_ret (end_v hx hb hr hlocks hP9 hD9 hK9 hS () rfl rfl (by simp [h_2]) (Nat.le_of_ble_eq_true rfl) (Nat.le_of_ble_eq_true rfl) dX9_demandLastSize_8)
set_option maxHeartbeats 4000000 in
set_option maxRecDepth 100000 in
/-- demandFoot(length, girth) -/
theorem c_demandFoot (l : Launch) (hlt : l.stackTraces = false) (D : va_G) (tC tE sz : Nat) (a g : Int32) : vx_Met l yX9_demandFoot wsX9_demandFoot ({ frames := 7, cells := 2, slots := 12, locals := 104 }) (Pg D tC tE sz [] [] [.int a, .int g]) (Qgv (S := Unit) D (fun u => []) (fun u => []) (fun _ => footB a g = true) (va_A [] sz)) (XX (fun E => E = gx_iae ∧ footB a g = false) (va_A [] sz)) 2 12 (va_A [] sz) := by
  refine og_x (cc := cX9_demandFoot) (maxL := 2) (ret := none) (Qc := Qgv (S := Unit) D (fun u => []) (fun u => []) (fun _ => footB a g = true)) (XC := XX (fun E => E = gx_iae ∧ footB a g = false)) (by decide) rfl (Nat.le_of_ble_eq_true rfl) ?_
  intro p e s m below meth c A hx hb hr hml hts hown hlocks hin htab hP hD hK hG hA hS ls hl
  have hl : lv_has ls 2 [(0, .int a), (1, .int g)] := hl
  refine lv_iload_n hx hb dX9_demandFoot_0 rfl (lv_at hl 0 rfl) ?_
  refine lv_sipush (v := 1000) hx hb dX9_demandFoot_1 (by decide) ?_
  refine lv_sipush (v := 3500) hx hb dX9_demandFoot_4 (by decide) ?_
  have hFc := va_free (wc := []) hD hS hA [] rfl
  refine vx_callv (vx_runS (As := [.int a, .int 1000, .int 3500]) (rest := []) ⟨hx, hb, hml, hown, hts⟩ (c_demandRange l hlt D tC tE s.heap.size a 1000 3500) (va_cwS 3 hts gX9_demandFoot_X9_demandRange rfl rfl rfl (by decide +kernel) ⟨(Nat.le_of_ble_eq_true rfl), (Nat.le_of_ble_eq_true rfl)⟩) ⟨pg_blind, (pg_pre hP hD hK hG hS hFc [] rfl (by decide) [] rfl _)⟩ rfl rfl hl.1 rfl (lv_room (Nat.le_of_ble_eq_true rfl)) dX9_demandFoot_7 ⟨(Nat.le_of_ble_eq_true rfl), (Nat.le_of_ble_eq_true rfl)⟩) hS (fun q _ h => hFc q h) hFc (fun q _ h => hFc q h) (fun E ce q9 u t H1 locs1 ht hvm hw hB hz1 hk1 hS hce hcv hcl => ?_) (fun u_1 t H locs ht hvm hw hB hz1 hk1 hS => ?_)
  · obtain ⟨hE, hf⟩ := hB
    subst hE
    exact vx_widen (k := 1) (n := 6) (Nat.le_of_ble_eq_true rfl) (Nat.le_of_ble_eq_true rfl) (vx_out (fun x hx => (htab x hx).elim) hlocks hce hcv hcl (xx_out hS ⟨rfl, by simp [footB, hf]⟩) hS.2.2 (Nat.le_of_ble_eq_true rfl) (Nat.le_of_ble_eq_true rfl))
  · have h_2 := hw
    obtain ⟨hP, hD, hK⟩ := jn (wr := []) (w1 := []) (t1 := []) (tr := []) hP hD hK [] [] rfl rfl (by decide) (by decide) [] rfl hk1 hFc hB rfl rfl ht hvm
    have hP : va_P D vwCl [] H := hP
    have hD : va_D A [] := hD
    have hK : va_K D vwCl [] s := hK
    refine W.widen (k := 1) (n := 6) (Nat.le_of_ble_eq_true rfl) (Nat.le_of_ble_eq_true rfl) ?_
    refine lv_iload_n hx hb dX9_demandFoot_10 rfl (lv_at hl 1 rfl) ?_
    refine lv_sipush (v := 1000) hx hb dX9_demandFoot_11 (by decide) ?_
    refine lv_sipush (v := 4500) hx hb dX9_demandFoot_14 (by decide) ?_
    have hFc := va_free (wc := []) hD hS hA [] rfl
    refine vx_callv (vx_runS (As := [.int g, .int 1000, .int 4500]) (rest := []) ⟨hx, hb, hml, hown, hts⟩ (c_demandRange l hlt D tC tE H.size g 1000 4500) (va_cwS 3 hts gX9_demandFoot_X9_demandRange rfl rfl rfl (by decide +kernel) ⟨(Nat.le_of_ble_eq_true rfl), (Nat.le_of_ble_eq_true rfl)⟩) ⟨pg_blind, (pg_pre hP hD hK hG hS hFc [] rfl (by decide) [] rfl _)⟩ rfl rfl hl.1 rfl (lv_room (Nat.le_of_ble_eq_true rfl)) dX9_demandFoot_17 ⟨(Nat.le_of_ble_eq_true rfl), (Nat.le_of_ble_eq_true rfl)⟩) hS (fun q _ h => hFc q h) hFc (fun q _ h => hFc q h) (fun E ce q9 u t H1 locs1 ht hvm hw hB hz1 hk1 hS hce hcv hcl => ?_) (fun u_3 t H locs ht hvm hw hB hz1 hk1 hS => ?_)
    · obtain ⟨hE, hf⟩ := hB
      subst hE
      exact vx_widen (k := 2) (n := 12) (Nat.le_of_ble_eq_true rfl) (Nat.le_of_ble_eq_true rfl) (vx_out (fun x hx => (htab x hx).elim) hlocks hce hcv hcl (xx_out hS ⟨rfl, by simp [footB, h_2, hf]⟩) hS.2.2 (Nat.le_of_ble_eq_true rfl) (Nat.le_of_ble_eq_true rfl))
    · have h_4 := hw
      obtain ⟨hP, hD, hK⟩ := jn (wr := []) (w1 := []) (t1 := []) (tr := []) hP hD hK [] [] rfl rfl (by decide) (by decide) [] rfl hk1 hFc hB rfl rfl ht hvm
      have hP : va_P D vwCl [] H := hP
      have hD : va_D A [] := hD
      have hK : va_K D vwCl [] s := hK
      refine W.widen (k := 2) (n := 12) (Nat.le_of_ble_eq_true rfl) (Nat.le_of_ble_eq_true rfl) ?_
      have hP9 := hP.sub (ws' := []) [] rfl
      have hD9 := hD.sub (ws' := []) [] (by decide) rfl
      have hK9 := hK.sub (tys' := []) [] rfl
      exact vx_ret (end_v hx hb hr hlocks hP9 hD9 hK9 hS () rfl rfl (by simp [footB, h_2, h_4]) (Nat.le_of_ble_eq_true rfl) (Nat.le_of_ble_eq_true rfl) dX9_demandFoot_20)
set_option maxHeartbeats 4000000 in
set_option maxRecDepth 100000 in
/-- isSystem(c) -/
theorem c_isSystem (l : Launch) (D : va_G) (tC tE sz : Nat) (c0 : Int32) : Met l yX9_isSystem wsX9_isSystem ({ frames := 0, cells := 0, slots := 0, locals := 0 }) (Pg D tC tE sz [] [] [.int c0]) (Qgi (S := Unit) D (fun u => []) (fun u => []) (fun r _ => (r = 1 ∧ sysB c0 = true) ∨ (r = 0 ∧ sysB c0 = false)) (va_A [] sz)) 0 0 (va_A [] sz) := by
  refine og_m (cc := cX9_isSystem) (maxL := 1) (ret := (some .boolean)) (Qc := Qgi (S := Unit) D (fun u => []) (fun u => []) (fun r _ => (r = 1 ∧ sysB c0 = true) ∨ (r = 0 ∧ sysB c0 = false))) (by decide) rfl (Nat.le_of_ble_eq_true rfl) ?_
  intro p e s m below meth c A hx hb hr hml hts hown hlocks hin hP hD hK hG hA hS ls hl
  have hl : lv_has ls 1 [(0, .int c0)] := hl
  refine lv_iload_n hx hb dX9_isSystem_0 rfl (lv_at hl 0 rfl) ?_
  refine lv_bipush (v := 102) hx hb dX9_isSystem_1 (by decide) ?_
  refine lv_icmp_eq (tgt := 24) hx hb dX9_isSystem_3 (by decide) (fun c_1 => ?_) (fun c_1 => ?_)
  · refine lv_iconst (v := 1) hx hb dX9_isSystem_24 (by decide) ?_
    refine lv_goto (tgt := 29) hx hb dX9_isSystem_25 (by decide) ?_
    have hP9 := hP.sub (ws' := []) [] rfl
    have hD9 := hD.sub (ws' := []) [] (by decide) rfl
    have hK9 := hK.sub (tys' := []) [] rfl
    exact end_z hx hb hr hlocks (by decide) hP9 hD9 hK9 hS () rfl rfl (Or.inl ⟨rfl, by simp [sysB, c_1]⟩) (Nat.le_of_ble_eq_true rfl) (Nat.le_of_ble_eq_true rfl) dX9_isSystem_29
  · refine lv_iload_n hx hb dX9_isSystem_6 rfl (lv_at hl 0 rfl) ?_
    refine lv_bipush (v := 117) hx hb dX9_isSystem_7 (by decide) ?_
    refine lv_icmp_eq (tgt := 24) hx hb dX9_isSystem_9 (by decide) (fun c_2 => ?_) (fun c_2 => ?_)
    · refine lv_iconst (v := 1) hx hb dX9_isSystem_24 (by decide) ?_
      refine lv_goto (tgt := 29) hx hb dX9_isSystem_25 (by decide) ?_
      have hP9 := hP.sub (ws' := []) [] rfl
      have hD9 := hD.sub (ws' := []) [] (by decide) rfl
      have hK9 := hK.sub (tys' := []) [] rfl
      exact end_z hx hb hr hlocks (by decide) hP9 hD9 hK9 hS () rfl rfl (Or.inl ⟨rfl, by simp [sysB, c_1, c_2]⟩) (Nat.le_of_ble_eq_true rfl) (Nat.le_of_ble_eq_true rfl) dX9_isSystem_29
    · refine lv_iload_n hx hb dX9_isSystem_12 rfl (lv_at hl 0 rfl) ?_
      refine lv_bipush (v := 97) hx hb dX9_isSystem_13 (by decide) ?_
      refine lv_icmp_eq (tgt := 24) hx hb dX9_isSystem_15 (by decide) (fun c_3 => ?_) (fun c_3 => ?_)
      · refine lv_iconst (v := 1) hx hb dX9_isSystem_24 (by decide) ?_
        refine lv_goto (tgt := 29) hx hb dX9_isSystem_25 (by decide) ?_
        have hP9 := hP.sub (ws' := []) [] rfl
        have hD9 := hD.sub (ws' := []) [] (by decide) rfl
        have hK9 := hK.sub (tys' := []) [] rfl
        exact end_z hx hb hr hlocks (by decide) hP9 hD9 hK9 hS () rfl rfl (Or.inl ⟨rfl, by simp [sysB, c_1, c_2, c_3]⟩) (Nat.le_of_ble_eq_true rfl) (Nat.le_of_ble_eq_true rfl) dX9_isSystem_29
      · refine lv_iload_n hx hb dX9_isSystem_18 rfl (lv_at hl 0 rfl) ?_
        refine lv_bipush (v := 109) hx hb dX9_isSystem_19 (by decide) ?_
        refine lv_icmp_ne (tgt := 28) hx hb dX9_isSystem_21 (by decide) (fun c_4 => ?_) (fun c_4 => ?_)
        · refine lv_iconst (v := 0) hx hb dX9_isSystem_28 (by decide) ?_
          have hP9 := hP.sub (ws' := []) [] rfl
          have hD9 := hD.sub (ws' := []) [] (by decide) rfl
          have hK9 := hK.sub (tys' := []) [] rfl
          exact end_z hx hb hr hlocks (by decide) hP9 hD9 hK9 hS () rfl rfl (Or.inr ⟨rfl, by simp [sysB, c_1, c_2, c_3, c_4]⟩) (Nat.le_of_ble_eq_true rfl) (Nat.le_of_ble_eq_true rfl) dX9_isSystem_29
        · refine lv_iconst (v := 1) hx hb dX9_isSystem_24 (by decide) ?_
          refine lv_goto (tgt := 29) hx hb dX9_isSystem_25 (by decide) ?_
          have hP9 := hP.sub (ws' := []) [] rfl
          have hD9 := hD.sub (ws' := []) [] (by decide) rfl
          have hK9 := hK.sub (tys' := []) [] rfl
          exact end_z hx hb hr hlocks (by decide) hP9 hD9 hK9 hS () rfl rfl (Or.inl ⟨rfl, by simp [sysB, c_1, c_2, c_3, c_4]⟩) (Nat.le_of_ble_eq_true rfl) (Nat.le_of_ble_eq_true rfl) dX9_isSystem_29
set_option maxHeartbeats 4000000 in
set_option maxRecDepth 100000 in
/-- lowestSize(c) -/
theorem c_lowestSize (l : Launch) (D : va_G) (tC tE sz : Nat) (c0 : Int32) : Met l yX9_lowestSize wsX9_lowestSize ({ frames := 0, cells := 0, slots := 0, locals := 0 }) (Pg D tC tE sz [] [] [.int c0]) (Qgi (S := Unit) D (fun u => []) (fun u => []) (fun r _ => r = lowS c0) (va_A [] sz)) 0 0 (va_A [] sz) := by
  refine og_m (cc := cX9_lowestSize) (maxL := 1) (ret := (some .int)) (Qc := Qgi (S := Unit) D (fun u => []) (fun u => []) (fun r _ => r = lowS c0)) (by decide) rfl (Nat.le_of_ble_eq_true rfl) ?_
  intro p e s m below meth c A hx hb hr hml hts hown hlocks hin hP hD hK hG hA hS ls hl
  have hl : lv_has ls 1 [(0, .int c0)] := hl
  refine lv_iload_n hx hb dX9_lowestSize_0 rfl (lv_at hl 0 rfl) ?_
  by_cases c_1 : c0 = 97
  · subst c_1
    refine lv_lookup (off := 40) (tgt := 41) hx hb dX9_lowestSize_1 (by decide) (by decide) (by decide) ?_
    refine lv_iconst (v := 1) hx hb dX9_lowestSize_41 (by decide) ?_
    have hP9 := hP.sub (ws' := []) [] rfl
    have hD9 := hD.sub (ws' := []) [] (by decide) rfl
    have hK9 := hK.sub (tys' := []) [] rfl
    exact end_i hx hb hr hlocks hP9 hD9 hK9 hS () rfl rfl (by simp [lowS]) (Nat.le_of_ble_eq_true rfl) (Nat.le_of_ble_eq_true rfl) dX9_lowestSize_42
  · by_cases c_2 : c0 = 102
    · subst c_2
      refine lv_lookup (off := 35) (tgt := 36) hx hb dX9_lowestSize_1 (by decide) (by decide) (by decide) ?_
      refine lv_bipush (v := 15) hx hb dX9_lowestSize_36 (by decide) ?_
      have hP9 := hP.sub (ws' := []) [] rfl
      have hD9 := hD.sub (ws' := []) [] (by decide) rfl
      have hK9 := hK.sub (tys' := []) [] rfl
      exact end_i hx hb hr hlocks hP9 hD9 hK9 hS () rfl rfl (by simp [lowS]) (Nat.le_of_ble_eq_true rfl) (Nat.le_of_ble_eq_true rfl) dX9_lowestSize_38
    · by_cases c_3 : c0 = 117
      · subst c_3
        refine lv_lookup (off := 38) (tgt := 39) hx hb dX9_lowestSize_1 (by decide) (by decide) (by decide) ?_
        refine lv_iconst (v := 0) hx hb dX9_lowestSize_39 (by decide) ?_
        have hP9 := hP.sub (ws' := []) [] rfl
        have hD9 := hD.sub (ws' := []) [] (by decide) rfl
        have hK9 := hK.sub (tys' := []) [] rfl
        exact end_i hx hb hr hlocks hP9 hD9 hK9 hS () rfl rfl (by simp [lowS]) (Nat.le_of_ble_eq_true rfl) (Nat.le_of_ble_eq_true rfl) dX9_lowestSize_40
      · refine lv_lookup (off := 42) (tgt := 43) hx hb dX9_lowestSize_1 (by decide) ((lv_osw c_1 rfl).trans ((lv_osw c_2 rfl).trans ((lv_osw c_3 rfl).trans rfl))) (by decide) ?_
        refine lv_sipush (v := 150) hx hb dX9_lowestSize_43 (by decide) ?_
        have hP9 := hP.sub (ws' := []) [] rfl
        have hD9 := hD.sub (ws' := []) [] (by decide) rfl
        have hK9 := hK.sub (tys' := []) [] rfl
        exact end_i hx hb hr hlocks hP9 hD9 hK9 hS () rfl rfl (by simp [lowS, c_1, c_2, c_3]) (Nat.le_of_ble_eq_true rfl) (Nat.le_of_ble_eq_true rfl) dX9_lowestSize_46
set_option maxHeartbeats 4000000 in
set_option maxRecDepth 100000 in
/-- highestSize(c) -/
theorem c_highestSize (l : Launch) (D : va_G) (tC tE sz : Nat) (c0 : Int32) : Met l yX9_highestSize wsX9_highestSize ({ frames := 0, cells := 0, slots := 0, locals := 0 }) (Pg D tC tE sz [] [] [.int c0]) (Qgi (S := Unit) D (fun u => []) (fun u => []) (fun r _ => r = highS c0) (va_A [] sz)) 0 0 (va_A [] sz) := by
  refine og_m (cc := cX9_highestSize) (maxL := 1) (ret := (some .int)) (Qc := Qgi (S := Unit) D (fun u => []) (fun u => []) (fun r _ => r = highS c0)) (by decide) rfl (Nat.le_of_ble_eq_true rfl) ?_
  intro p e s m below meth c A hx hb hr hml hts hown hlocks hin hP hD hK hG hA hS ls hl
  have hl : lv_has ls 1 [(0, .int c0)] := hl
  refine lv_iload_n hx hb dX9_highestSize_0 rfl (lv_at hl 0 rfl) ?_
  by_cases c_1 : c0 = 97
  · subst c_1
    refine lv_lookup (off := 41) (tgt := 42) hx hb dX9_highestSize_1 (by decide) (by decide) (by decide) ?_
    refine lv_bipush (v := 16) hx hb dX9_highestSize_42 (by decide) ?_
    have hP9 := hP.sub (ws' := []) [] rfl
    have hD9 := hD.sub (ws' := []) [] (by decide) rfl
    have hK9 := hK.sub (tys' := []) [] rfl
    exact end_i hx hb hr hlocks hP9 hD9 hK9 hS () rfl rfl (by simp [highS]) (Nat.le_of_ble_eq_true rfl) (Nat.le_of_ble_eq_true rfl) dX9_highestSize_44
  · by_cases c_2 : c0 = 102
    · subst c_2
      refine lv_lookup (off := 35) (tgt := 36) hx hb dX9_highestSize_1 (by decide) (by decide) (by decide) ?_
      refine lv_bipush (v := 50) hx hb dX9_highestSize_36 (by decide) ?_
      have hP9 := hP.sub (ws' := []) [] rfl
      have hD9 := hD.sub (ws' := []) [] (by decide) rfl
      have hK9 := hK.sub (tys' := []) [] rfl
      exact end_i hx hb hr hlocks hP9 hD9 hK9 hS () rfl rfl (by simp [highS]) (Nat.le_of_ble_eq_true rfl) (Nat.le_of_ble_eq_true rfl) dX9_highestSize_38
    · by_cases c_3 : c0 = 117
      · subst c_3
        refine lv_lookup (off := 38) (tgt := 39) hx hb dX9_highestSize_1 (by decide) (by decide) (by decide) ?_
        refine lv_bipush (v := 15) hx hb dX9_highestSize_39 (by decide) ?_
        have hP9 := hP.sub (ws' := []) [] rfl
        have hD9 := hD.sub (ws' := []) [] (by decide) rfl
        have hK9 := hK.sub (tys' := []) [] rfl
        exact end_i hx hb hr hlocks hP9 hD9 hK9 hS () rfl rfl (by simp [highS]) (Nat.le_of_ble_eq_true rfl) (Nat.le_of_ble_eq_true rfl) dX9_highestSize_41
      · refine lv_lookup (off := 44) (tgt := 45) hx hb dX9_highestSize_1 (by decide) ((lv_osw c_1 rfl).trans ((lv_osw c_2 rfl).trans ((lv_osw c_3 rfl).trans rfl))) (by decide) ?_
        refine lv_sipush (v := 330) hx hb dX9_highestSize_45 (by decide) ?_
        have hP9 := hP.sub (ws' := []) [] rfl
        have hD9 := hD.sub (ws' := []) [] (by decide) rfl
        have hK9 := hK.sub (tys' := []) [] rfl
        exact end_i hx hb hr hlocks hP9 hD9 hK9 hS () rfl rfl (by simp [highS, c_1, c_2, c_3]) (Nat.le_of_ble_eq_true rfl) (Nat.le_of_ble_eq_true rfl) dX9_highestSize_48
set_option maxHeartbeats 4000000 in
set_option maxRecDepth 100000 in
/-- lengthOf(c, n) -/
theorem c_lengthOf (l : Launch) (D : va_G) (tC tE sz : Nat) (c0 n : Int32) : Met l yX9_lengthOf wsX9_lengthOf ({ frames := 0, cells := 0, slots := 0, locals := 0 }) (Pg D tC tE sz [] [] [.int c0, .int n]) (Qgi (S := Unit) D (fun u => []) (fun u => []) (fun r _ => r = lenS c0 n) (va_A [] sz)) 0 0 (va_A [] sz) := by
  refine og_m (cc := cX9_lengthOf) (maxL := 2) (ret := (some .int)) (Qc := Qgi (S := Unit) D (fun u => []) (fun u => []) (fun r _ => r = lenS c0 n)) (by decide) rfl (Nat.le_of_ble_eq_true rfl) ?_
  intro p e s m below meth c A hx hb hr hml hts hown hlocks hin hP hD hK hG hA hS ls hl
  have hl : lv_has ls 2 [(0, .int c0), (1, .int n)] := hl
  refine lv_iload_n hx hb dX9_lengthOf_0 rfl (lv_at hl 0 rfl) ?_
  by_cases c_1 : c0 = 97
  · subst c_1
    refine lv_lookup (off := 54) (tgt := 55) hx hb dX9_lengthOf_1 (by decide) (by decide) (by decide) ?_
    refine lv_sipush (v := 254) hx hb dX9_lengthOf_55 (by decide) ?_
    refine lv_iload_n hx hb dX9_lengthOf_58 rfl (lv_at hl 1 rfl) ?_
    refine lv_bipush (v := 24) hx hb dX9_lengthOf_59 (by decide) ?_
    refine lv_iadd hx hb dX9_lengthOf_61 ?_
    refine lv_imul hx hb dX9_lengthOf_62 ?_
    refine lv_iconst (v := 3) hx hb dX9_lengthOf_63 (by decide) ?_
    refine lv_idiv hx hb dX9_lengthOf_64 (by decide) ?_
    have hP9 := hP.sub (ws' := []) [] rfl
    have hD9 := hD.sub (ws' := []) [] (by decide) rfl
    have hK9 := hK.sub (tys' := []) [] rfl
    exact end_i hx hb hr hlocks hP9 hD9 hK9 hS () rfl rfl (by simp [lenS]) (Nat.le_of_ble_eq_true rfl) (Nat.le_of_ble_eq_true rfl) dX9_lengthOf_65
  · by_cases c_2 : c0 = 102
    · subst c_2
      refine lv_lookup (off := 35) (tgt := 36) hx hb dX9_lengthOf_1 (by decide) (by decide) (by decide) ?_
      refine lv_sipush (v := 200) hx hb dX9_lengthOf_36 (by decide) ?_
      refine lv_iload_n hx hb dX9_lengthOf_39 rfl (lv_at hl 1 rfl) ?_
      refine lv_imul hx hb dX9_lengthOf_40 ?_
      refine lv_iconst (v := 3) hx hb dX9_lengthOf_41 (by decide) ?_
      refine lv_idiv hx hb dX9_lengthOf_42 (by decide) ?_
      have hP9 := hP.sub (ws' := []) [] rfl
      have hD9 := hD.sub (ws' := []) [] (by decide) rfl
      have hK9 := hK.sub (tys' := []) [] rfl
      exact end_i hx hb hr hlocks hP9 hD9 hK9 hS () rfl rfl (by simp [lenS]) (Nat.le_of_ble_eq_true rfl) (Nat.le_of_ble_eq_true rfl) dX9_lengthOf_43
    · by_cases c_3 : c0 = 117
      · subst c_3
        refine lv_lookup (off := 43) (tgt := 44) hx hb dX9_lengthOf_1 (by decide) (by decide) (by decide) ?_
        refine lv_sipush (v := 254) hx hb dX9_lengthOf_44 (by decide) ?_
        refine lv_iload_n hx hb dX9_lengthOf_47 rfl (lv_at hl 1 rfl) ?_
        refine lv_bipush (v := 25) hx hb dX9_lengthOf_48 (by decide) ?_
        refine lv_iadd hx hb dX9_lengthOf_50 ?_
        refine lv_imul hx hb dX9_lengthOf_51 ?_
        refine lv_iconst (v := 3) hx hb dX9_lengthOf_52 (by decide) ?_
        refine lv_idiv hx hb dX9_lengthOf_53 (by decide) ?_
        have hP9 := hP.sub (ws' := []) [] rfl
        have hD9 := hD.sub (ws' := []) [] (by decide) rfl
        have hK9 := hK.sub (tys' := []) [] rfl
        exact end_i hx hb hr hlocks hP9 hD9 hK9 hS () rfl rfl (by simp [lenS]) (Nat.le_of_ble_eq_true rfl) (Nat.le_of_ble_eq_true rfl) dX9_lengthOf_54
      · refine lv_lookup (off := 65) (tgt := 66) hx hb dX9_lengthOf_1 (by decide) ((lv_osw c_1 rfl).trans ((lv_osw c_2 rfl).trans ((lv_osw c_3 rfl).trans rfl))) (by decide) ?_
        refine lv_bipush (v := 10) hx hb dX9_lengthOf_66 (by decide) ?_
        refine lv_iload_n hx hb dX9_lengthOf_68 rfl (lv_at hl 1 rfl) ?_
        refine lv_imul hx hb dX9_lengthOf_69 ?_
        have hP9 := hP.sub (ws' := []) [] rfl
        have hD9 := hD.sub (ws' := []) [] (by decide) rfl
        have hK9 := hK.sub (tys' := []) [] rfl
        exact end_i hx hb hr hlocks hP9 hD9 hK9 hS () rfl rfl (by simp [lenS, c_1, c_2, c_3]) (Nat.le_of_ble_eq_true rfl) (Nat.le_of_ble_eq_true rfl) dX9_lengthOf_70
set_option maxHeartbeats 4000000 in
set_option maxRecDepth 100000 in
/-- demandSize(c, n) -/
theorem c_demandSize (l : Launch) (hlt : l.stackTraces = false) (D : va_G) (tC tE sz : Nat) (c0 n : Int32) : vx_Met l yX9_demandSize wsX9_demandSize ({ frames := 7, cells := 1, slots := 6, locals := 104 }) (Pg D tC tE sz [] [] [.int c0, .int n]) (Qgv (S := Unit) D (fun u => []) (fun u => []) (fun _ => szB c0 n = true) (va_A [] sz)) (XX (fun E => E = gx_iae ∧ szB c0 n = false) (va_A [] sz)) 1 6 (va_A [] sz) := by
  refine og_x (cc := cX9_demandSize) (maxL := 2) (ret := none) (Qc := Qgv (S := Unit) D (fun u => []) (fun u => []) (fun _ => szB c0 n = true)) (XC := XX (fun E => E = gx_iae ∧ szB c0 n = false)) (by decide) rfl (Nat.le_of_ble_eq_true rfl) ?_
  intro p e s m below meth c A hx hb hr hml hts hown hlocks hin htab hP hD hK hG hA hS ls hl
  have hl : lv_has ls 2 [(0, .int c0), (1, .int n)] := hl
  refine lv_iload_n hx hb dX9_demandSize_0 rfl (lv_at hl 0 rfl) ?_
  have hFc := va_free (wc := []) hD hS hA [] rfl
  refine va_calli (va_runS (As := [.int c0]) (rest := []) ⟨hx, hb, hml, hown, hts⟩ (c_isSystem l D tC tE s.heap.size c0) (va_cwS 1 hts gX9_demandSize_X9_isSystem rfl rfl rfl (by decide +kernel) ⟨(Nat.le_of_ble_eq_true rfl), (Nat.le_of_ble_eq_true rfl)⟩) ⟨pg_blind, (pg_pre hP hD hK hG hS hFc [] rfl (by decide) [] rfl _)⟩ rfl rfl hl.1 rfl (lv_room (Nat.le_of_ble_eq_true rfl)) dX9_demandSize_1 ⟨(Nat.le_of_ble_eq_true rfl), (Nat.le_of_ble_eq_true rfl)⟩) hS (fun q _ h => hFc q h) hFc (fun r_1 u_2 t H locs ht hvm hw hB hz1 hk1 hS => ?_)
  obtain ⟨hP, hD, hK⟩ := jn (wr := []) (w1 := []) (t1 := []) (tr := []) hP hD hK [] [] rfl rfl (by decide) (by decide) [] rfl hk1 hFc hB rfl rfl ht hvm
  have hP : va_P D vwCl [] H := hP
  have hD : va_D A [] := hD
  have hK : va_K D vwCl [] s := hK
  refine W.widen (k := 0) (n := 0) (Nat.le_of_ble_eq_true rfl) (Nat.le_of_ble_eq_true rfl) ?_
  rcases hw with ⟨q_4, h_3⟩ | ⟨q_4, h_3⟩
  · subst q_4
    refine lv_if_ne (tgt := 17) hx hb dX9_demandSize_4 (by decide) (fun c_5 => ?_) (fun c_5 => absurd c_5 (by decide))
    refine lv_iload_n hx hb dX9_demandSize_17 rfl (lv_at hl 1 rfl) ?_
    refine lv_iload_n hx hb dX9_demandSize_18 rfl (lv_at hl 0 rfl) ?_
    have hFc := va_free (wc := []) hD hS hA [] rfl
    refine va_calli (va_runS (As := [.int c0]) (rest := [.int n]) ⟨hx, hb, hml, hown, hts⟩ (c_lowestSize l D tC tE H.size c0) (va_cwS 1 hts gX9_demandSize_X9_lowestSize rfl rfl rfl (by decide +kernel) ⟨(Nat.le_of_ble_eq_true rfl), (Nat.le_of_ble_eq_true rfl)⟩) ⟨pg_blind, (pg_pre hP hD hK hG hS hFc [] rfl (by decide) [] rfl _)⟩ rfl rfl hl.1 rfl (lv_room (Nat.le_of_ble_eq_true rfl)) dX9_demandSize_19 ⟨(Nat.le_of_ble_eq_true rfl), (Nat.le_of_ble_eq_true rfl)⟩) hS (fun q _ h => hFc q h) hFc (fun r_6 u_7 t H locs ht hvm hw hB hz1 hk1 hS => ?_)
    subst hw
    obtain ⟨hP, hD, hK⟩ := jn (wr := []) (w1 := []) (t1 := []) (tr := []) hP hD hK [] [] rfl rfl (by decide) (by decide) [] rfl hk1 hFc hB rfl rfl ht hvm
    have hP : va_P D vwCl [] H := hP
    have hD : va_D A [] := hD
    have hK : va_K D vwCl [] s := hK
    refine W.widen (k := 0) (n := 0) (Nat.le_of_ble_eq_true rfl) (Nat.le_of_ble_eq_true rfl) ?_
    refine lv_iload_n hx hb dX9_demandSize_22 rfl (lv_at hl 0 rfl) ?_
    have hFc := va_free (wc := []) hD hS hA [] rfl
    refine va_calli (va_runS (As := [.int c0]) (rest := [.int (lowS c0), .int n]) ⟨hx, hb, hml, hown, hts⟩ (c_highestSize l D tC tE H.size c0) (va_cwS 1 hts gX9_demandSize_X9_highestSize rfl rfl rfl (by decide +kernel) ⟨(Nat.le_of_ble_eq_true rfl), (Nat.le_of_ble_eq_true rfl)⟩) ⟨pg_blind, (pg_pre hP hD hK hG hS hFc [] rfl (by decide) [] rfl _)⟩ rfl rfl hl.1 rfl (lv_room (Nat.le_of_ble_eq_true rfl)) dX9_demandSize_23 ⟨(Nat.le_of_ble_eq_true rfl), (Nat.le_of_ble_eq_true rfl)⟩) hS (fun q _ h => hFc q h) hFc (fun r_8 u_9 t H locs ht hvm hw hB hz1 hk1 hS => ?_)
    subst hw
    obtain ⟨hP, hD, hK⟩ := jn (wr := []) (w1 := []) (t1 := []) (tr := []) hP hD hK [] [] rfl rfl (by decide) (by decide) [] rfl hk1 hFc hB rfl rfl ht hvm
    have hP : va_P D vwCl [] H := hP
    have hD : va_D A [] := hD
    have hK : va_K D vwCl [] s := hK
    refine W.widen (k := 0) (n := 0) (Nat.le_of_ble_eq_true rfl) (Nat.le_of_ble_eq_true rfl) ?_
    have hFc := va_free (wc := []) hD hS hA [] rfl
    refine vx_callv (vx_runS (As := [.int n, .int (lowS c0), .int (highS c0)]) (rest := []) ⟨hx, hb, hml, hown, hts⟩ (c_demandRange l hlt D tC tE H.size n (lowS c0) (highS c0)) (va_cwS 3 hts gX9_demandSize_X9_demandRange rfl rfl rfl (by decide +kernel) ⟨(Nat.le_of_ble_eq_true rfl), (Nat.le_of_ble_eq_true rfl)⟩) ⟨pg_blind, (pg_pre hP hD hK hG hS hFc [] rfl (by decide) [] rfl _)⟩ rfl rfl hl.1 rfl (lv_room (Nat.le_of_ble_eq_true rfl)) dX9_demandSize_26 ⟨(Nat.le_of_ble_eq_true rfl), (Nat.le_of_ble_eq_true rfl)⟩) hS (fun q _ h => hFc q h) hFc (fun q _ h => hFc q h) (fun E ce q9 u t H1 locs1 ht hvm hw hB hz1 hk1 hS hce hcv hcl => ?_) (fun u_10 t H locs ht hvm hw hB hz1 hk1 hS => ?_)
    · obtain ⟨hE, hf⟩ := hB
      subst hE
      exact vx_widen (k := 1) (n := 6) (Nat.le_of_ble_eq_true rfl) (Nat.le_of_ble_eq_true rfl) (vx_out (fun x hx => (htab x hx).elim) hlocks hce hcv hcl (xx_out hS ⟨rfl, by simp [szB, h_3, hf]⟩) hS.2.2 (Nat.le_of_ble_eq_true rfl) (Nat.le_of_ble_eq_true rfl))
    · have h_11 := hw
      obtain ⟨hP, hD, hK⟩ := jn (wr := []) (w1 := []) (t1 := []) (tr := []) hP hD hK [] [] rfl rfl (by decide) (by decide) [] rfl hk1 hFc hB rfl rfl ht hvm
      have hP : va_P D vwCl [] H := hP
      have hD : va_D A [] := hD
      have hK : va_K D vwCl [] s := hK
      refine W.widen (k := 1) (n := 6) (Nat.le_of_ble_eq_true rfl) (Nat.le_of_ble_eq_true rfl) ?_
      have hP9 := hP.sub (ws' := []) [] rfl
      have hD9 := hD.sub (ws' := []) [] (by decide) rfl
      have hK9 := hK.sub (tys' := []) [] rfl
      exact vx_ret (end_v hx hb hr hlocks hP9 hD9 hK9 hS () rfl rfl (by simp [szB, h_3, h_11]) (Nat.le_of_ble_eq_true rfl) (Nat.le_of_ble_eq_true rfl) dX9_demandSize_29)
  · subst q_4
    refine lv_if_ne (tgt := 17) hx hb dX9_demandSize_4 (by decide) (fun c_12 => absurd (by decide) c_12) (fun c_12 => ?_)
    exact th_s (i := 0) gx_thr_iae hx hb hlt hown (hts (.classLink RX9 62 "java/lang/IllegalArgumentException") (List.mem_of_getElem? (i := 1) rfl)) (hts (.initialized "java/lang/IllegalArgumentException") (List.mem_of_getElem? (i := 2) rfl)) (fun w h => hts w (List.mem_cons_of_mem _ (List.mem_append_right _ h))) rfl hG hS (hl.1.trans hml.symm) htab hlocks dX9_demandSize_7 dX9_demandSize_10 dX9_demandSize_11 dX9_demandSize_13 dX9_demandSize_16 ⟨rfl, by simp [szB, h_3]⟩ (Nat.le_of_ble_eq_true rfl) (Nat.le_of_ble_eq_true rfl) (Nat.le_of_ble_eq_true rfl) (Nat.le_of_ble_eq_true rfl) (Nat.le_of_ble_eq_true rfl) (Nat.le_of_ble_eq_true rfl)
set_option maxHeartbeats 4000000 in
set_option maxRecDepth 100000 in
/-- findModel(n) on a fresh object: throws -/
theorem c_findModel (l : Launch) (hlt : l.stackTraces = false) (D : va_G) (tC tE sz : Nat) (x q0 q1 q2 q3 q4 q5 q6 : Nat) (k0 : ClassId) (n : Int32) : vx_Met l yX9_findModel wsX9_findModel ({ frames := 6, cells := 1, slots := 6, locals := 82 }) (Pg D tC tE sz [(x, .inr (13, [.ref q0, .ref q1, .ref q2, .ref q3, .ref q4, .ref q5, .ref q6, .int 0, .int 0, .int 0, .int 0, .int 0, .int 0, .int 0])), (q0, .inl (k0, 5, .inr (.inr (.inr (.inr (fun _ => none))))))] [(k0, .object "Lastroom$Model")] [.ref x, .int n]) (Qgr (S := Unit) D (fun u => []) (fun u => []) (fun _ => 0) (fun _ => False) (va_A [(x, .inr (13, [.ref q0, .ref q1, .ref q2, .ref q3, .ref q4, .ref q5, .ref q6, .int 0, .int 0, .int 0, .int 0, .int 0, .int 0, .int 0])), (q0, .inl (k0, 5, .inr (.inr (.inr (.inr (fun _ => none))))))] sz)) (XX (fun E => E = gx_ioo) (va_A [(x, .inr (13, [.ref q0, .ref q1, .ref q2, .ref q3, .ref q4, .ref q5, .ref q6, .int 0, .int 0, .int 0, .int 0, .int 0, .int 0, .int 0])), (q0, .inl (k0, 5, .inr (.inr (.inr (.inr (fun _ => none))))))] sz)) 1 6 (va_A [(x, .inr (13, [.ref q0, .ref q1, .ref q2, .ref q3, .ref q4, .ref q5, .ref q6, .int 0, .int 0, .int 0, .int 0, .int 0, .int 0, .int 0])), (q0, .inl (k0, 5, .inr (.inr (.inr (.inr (fun _ => none))))))] sz) := by
  refine og_x (cc := cX9_findModel) (maxL := 3) (ret := (some (.object "Lastroom$Model"))) (Qc := Qgr (S := Unit) D (fun u => []) (fun u => []) (fun _ => 0) (fun _ => False)) (XC := XX (fun E => E = gx_ioo)) (by decide) rfl (Nat.le_of_ble_eq_true rfl) ?_
  intro p e s m below meth c A hx hb hr hml hts hown hlocks hin htab hP hD hK hG hA hS ls hl
  have hl : lv_has ls 3 [(0, .ref x), (1, .int n)] := hl
  refine lv_iload_n hx hb dX9_findModel_0 rfl (lv_at hl 1 rfl) ?_
  refine lv_if_lt (tgt := 22) hx hb dX9_findModel_1 (by decide) (fun c_1 => ?_) (fun c_1 => ?_)
  · refine lv_null hx hb dX9_findModel_22 ?_
    refine lv_astore_nN (lv' := [(2, .null), (0, .ref x), (1, .int n)]) hx hb dX9_findModel_23 rfl hl (by decide) rfl (fun ls hl => ?_)
    refine lv_aload_nN hx hb dX9_findModel_24 rfl (lv_at hl 0 rfl) ?_
    refine lv_ifnonnullN hx hb dX9_findModel_25 ?_
    exact th_w (i := 7) gx_thr_ioo hx hb hlt hown (hts (.classLink RX9 517 "java/lang/IndexOutOfBoundsException") (List.mem_of_getElem? (i := 1) rfl)) (hts (.initialized "java/lang/IndexOutOfBoundsException") (List.mem_of_getElem? (i := 2) rfl)) (fun w h => hts w (List.mem_cons_of_mem _ (List.mem_append_right _ h))) rfl hG hS (hl.1.trans hml.symm) htab hlocks dX9_findModel_28 dX9_findModel_31 dX9_findModel_32 dX9_findModel_35 dX9_findModel_38 rfl (Nat.le_of_ble_eq_true rfl) (Nat.le_of_ble_eq_true rfl) (Nat.le_of_ble_eq_true rfl) (Nat.le_of_ble_eq_true rfl) (Nat.le_of_ble_eq_true rfl) (Nat.le_of_ble_eq_true rfl)
  · refine lv_iload_n hx hb dX9_findModel_4 rfl (lv_at hl 1 rfl) ?_
    refine lv_aload_n hx hb dX9_findModel_5 rfl (lv_at hl 0 rfl) ?_
    refine va_get (D := D) (ci := 13) (v := .ref q0) (C := RX9) (T := TX9) (N := 14) hx hb hts (fun w h => List.mem_cons_of_mem _ (List.mem_append_left _ (List.mem_append_right _ h))) hown hK hP 0 rfl rfl 0 (by decide) (hts (.fieldLink RX9 11 "Lastroom" "models" "[LLastroom$Model;") (List.mem_of_getElem? (i := 3) rfl)) (fun _ h9 => h9) rfl dX9_findModel_6 ?_
    refine va_alen hx hb hK hP 1 0 rfl rfl (v := 5) rfl dX9_findModel_9 ?_
    refine lv_icmp_ge (tgt := 22) hx hb dX9_findModel_10 (by decide) (fun c_2 => ?_) (fun c_2 => ?_)
    · refine lv_null hx hb dX9_findModel_22 ?_
      refine lv_astore_nN (lv' := [(2, .null), (0, .ref x), (1, .int n)]) hx hb dX9_findModel_23 rfl hl (by decide) rfl (fun ls hl => ?_)
      refine lv_aload_nN hx hb dX9_findModel_24 rfl (lv_at hl 0 rfl) ?_
      refine lv_ifnonnullN hx hb dX9_findModel_25 ?_
      exact th_w (i := 7) gx_thr_ioo hx hb hlt hown (hts (.classLink RX9 517 "java/lang/IndexOutOfBoundsException") (List.mem_of_getElem? (i := 1) rfl)) (hts (.initialized "java/lang/IndexOutOfBoundsException") (List.mem_of_getElem? (i := 2) rfl)) (fun w h => hts w (List.mem_cons_of_mem _ (List.mem_append_right _ h))) rfl hG hS (hl.1.trans hml.symm) htab hlocks dX9_findModel_28 dX9_findModel_31 dX9_findModel_32 dX9_findModel_35 dX9_findModel_38 rfl (Nat.le_of_ble_eq_true rfl) (Nat.le_of_ble_eq_true rfl) (Nat.le_of_ble_eq_true rfl) (Nat.le_of_ble_eq_true rfl) (Nat.le_of_ble_eq_true rfl) (Nat.le_of_ble_eq_true rfl)
    · refine lv_aload_n hx hb dX9_findModel_13 rfl (lv_at hl 0 rfl) ?_
      refine va_get (D := D) (ci := 13) (v := .ref q0) (C := RX9) (T := TX9) (N := 14) hx hb hts (fun w h => List.mem_cons_of_mem _ (List.mem_append_left _ (List.mem_append_right _ h))) hown hK hP 0 rfl rfl 0 (by decide) (hts (.fieldLink RX9 11 "Lastroom" "models" "[LLastroom$Model;") (List.mem_of_getElem? (i := 3) rfl)) (fun _ h9 => h9) rfl dX9_findModel_14 ?_
      refine lv_iload_n hx hb dX9_findModel_17 rfl (lv_at hl 1 rfl) ?_
      refine va_aldq hx hb hK hP 1 0 rfl rfl (in_ge (k := 5) (by decide) c_1 c_2) dX9_findModel_18 ?_
      refine lv_goto (tgt := 23) hx hb dX9_findModel_19 (by decide) ?_
      refine lv_astore_nN (lv' := [(2, .null), (0, .ref x), (1, .int n)]) hx hb dX9_findModel_23 rfl hl (by decide) rfl (fun ls hl => ?_)
      refine lv_aload_nN hx hb dX9_findModel_24 rfl (lv_at hl 0 rfl) ?_
      refine lv_ifnonnullN hx hb dX9_findModel_25 ?_
      exact th_w (i := 7) gx_thr_ioo hx hb hlt hown (hts (.classLink RX9 517 "java/lang/IndexOutOfBoundsException") (List.mem_of_getElem? (i := 1) rfl)) (hts (.initialized "java/lang/IndexOutOfBoundsException") (List.mem_of_getElem? (i := 2) rfl)) (fun w h => hts w (List.mem_cons_of_mem _ (List.mem_append_right _ h))) rfl hG hS (hl.1.trans hml.symm) htab hlocks dX9_findModel_28 dX9_findModel_31 dX9_findModel_32 dX9_findModel_35 dX9_findModel_38 rfl (Nat.le_of_ble_eq_true rfl) (Nat.le_of_ble_eq_true rfl) (Nat.le_of_ble_eq_true rfl) (Nat.le_of_ble_eq_true rfl) (Nat.le_of_ble_eq_true rfl) (Nat.le_of_ble_eq_true rfl)
set_option maxHeartbeats 4000000 in
set_option maxRecDepth 100000 in
/-- findStyle(n) on a fresh object: throws -/
theorem c_findStyle (l : Launch) (hlt : l.stackTraces = false) (D : va_G) (tC tE sz : Nat) (x q0 q1 q2 q3 q4 q5 q6 : Nat) (k1 : ClassId) (n : Int32) : vx_Met l yX9_findStyle wsX9_findStyle ({ frames := 6, cells := 1, slots := 6, locals := 82 }) (Pg D tC tE sz [(x, .inr (13, [.ref q0, .ref q1, .ref q2, .ref q3, .ref q4, .ref q5, .ref q6, .int 0, .int 0, .int 0, .int 0, .int 0, .int 0, .int 0])), (q1, .inl (k1, 6, .inr (.inr (.inr (.inr (fun _ => none))))))] [(k1, .object "Lastroom$Style")] [.ref x, .int n]) (Qgr (S := Unit) D (fun u => []) (fun u => []) (fun _ => 0) (fun _ => False) (va_A [(x, .inr (13, [.ref q0, .ref q1, .ref q2, .ref q3, .ref q4, .ref q5, .ref q6, .int 0, .int 0, .int 0, .int 0, .int 0, .int 0, .int 0])), (q1, .inl (k1, 6, .inr (.inr (.inr (.inr (fun _ => none))))))] sz)) (XX (fun E => E = gx_ioo) (va_A [(x, .inr (13, [.ref q0, .ref q1, .ref q2, .ref q3, .ref q4, .ref q5, .ref q6, .int 0, .int 0, .int 0, .int 0, .int 0, .int 0, .int 0])), (q1, .inl (k1, 6, .inr (.inr (.inr (.inr (fun _ => none))))))] sz)) 1 6 (va_A [(x, .inr (13, [.ref q0, .ref q1, .ref q2, .ref q3, .ref q4, .ref q5, .ref q6, .int 0, .int 0, .int 0, .int 0, .int 0, .int 0, .int 0])), (q1, .inl (k1, 6, .inr (.inr (.inr (.inr (fun _ => none))))))] sz) := by
  refine og_x (cc := cX9_findStyle) (maxL := 3) (ret := (some (.object "Lastroom$Style"))) (Qc := Qgr (S := Unit) D (fun u => []) (fun u => []) (fun _ => 0) (fun _ => False)) (XC := XX (fun E => E = gx_ioo)) (by decide) rfl (Nat.le_of_ble_eq_true rfl) ?_
  intro p e s m below meth c A hx hb hr hml hts hown hlocks hin htab hP hD hK hG hA hS ls hl
  have hl : lv_has ls 3 [(0, .ref x), (1, .int n)] := hl
  refine lv_iload_n hx hb dX9_findStyle_0 rfl (lv_at hl 1 rfl) ?_
  refine lv_if_lt (tgt := 22) hx hb dX9_findStyle_1 (by decide) (fun c_1 => ?_) (fun c_1 => ?_)
  · refine lv_null hx hb dX9_findStyle_22 ?_
    refine lv_astore_nN (lv' := [(2, .null), (0, .ref x), (1, .int n)]) hx hb dX9_findStyle_23 rfl hl (by decide) rfl (fun ls hl => ?_)
    refine lv_aload_nN hx hb dX9_findStyle_24 rfl (lv_at hl 0 rfl) ?_
    refine lv_ifnonnullN hx hb dX9_findStyle_25 ?_
    exact th_w (i := 8) gx_thr_ioo hx hb hlt hown (hts (.classLink RX9 517 "java/lang/IndexOutOfBoundsException") (List.mem_of_getElem? (i := 1) rfl)) (hts (.initialized "java/lang/IndexOutOfBoundsException") (List.mem_of_getElem? (i := 2) rfl)) (fun w h => hts w (List.mem_cons_of_mem _ (List.mem_append_right _ h))) rfl hG hS (hl.1.trans hml.symm) htab hlocks dX9_findStyle_28 dX9_findStyle_31 dX9_findStyle_32 dX9_findStyle_35 dX9_findStyle_38 rfl (Nat.le_of_ble_eq_true rfl) (Nat.le_of_ble_eq_true rfl) (Nat.le_of_ble_eq_true rfl) (Nat.le_of_ble_eq_true rfl) (Nat.le_of_ble_eq_true rfl) (Nat.le_of_ble_eq_true rfl)
  · refine lv_iload_n hx hb dX9_findStyle_4 rfl (lv_at hl 1 rfl) ?_
    refine lv_aload_n hx hb dX9_findStyle_5 rfl (lv_at hl 0 rfl) ?_
    refine va_get (D := D) (ci := 13) (v := .ref q1) (C := RX9) (T := TX9) (N := 14) hx hb hts (fun w h => List.mem_cons_of_mem _ (List.mem_append_left _ (List.mem_append_right _ h))) hown hK hP 0 rfl rfl 1 (by decide) (hts (.fieldLink RX9 17 "Lastroom" "styles" "[LLastroom$Style;") (List.mem_of_getElem? (i := 3) rfl)) (fun _ h9 => h9) rfl dX9_findStyle_6 ?_
    refine va_alen hx hb hK hP 1 0 rfl rfl (v := 6) rfl dX9_findStyle_9 ?_
    refine lv_icmp_ge (tgt := 22) hx hb dX9_findStyle_10 (by decide) (fun c_2 => ?_) (fun c_2 => ?_)
    · refine lv_null hx hb dX9_findStyle_22 ?_
      refine lv_astore_nN (lv' := [(2, .null), (0, .ref x), (1, .int n)]) hx hb dX9_findStyle_23 rfl hl (by decide) rfl (fun ls hl => ?_)
      refine lv_aload_nN hx hb dX9_findStyle_24 rfl (lv_at hl 0 rfl) ?_
      refine lv_ifnonnullN hx hb dX9_findStyle_25 ?_
      exact th_w (i := 8) gx_thr_ioo hx hb hlt hown (hts (.classLink RX9 517 "java/lang/IndexOutOfBoundsException") (List.mem_of_getElem? (i := 1) rfl)) (hts (.initialized "java/lang/IndexOutOfBoundsException") (List.mem_of_getElem? (i := 2) rfl)) (fun w h => hts w (List.mem_cons_of_mem _ (List.mem_append_right _ h))) rfl hG hS (hl.1.trans hml.symm) htab hlocks dX9_findStyle_28 dX9_findStyle_31 dX9_findStyle_32 dX9_findStyle_35 dX9_findStyle_38 rfl (Nat.le_of_ble_eq_true rfl) (Nat.le_of_ble_eq_true rfl) (Nat.le_of_ble_eq_true rfl) (Nat.le_of_ble_eq_true rfl) (Nat.le_of_ble_eq_true rfl) (Nat.le_of_ble_eq_true rfl)
    · refine lv_aload_n hx hb dX9_findStyle_13 rfl (lv_at hl 0 rfl) ?_
      refine va_get (D := D) (ci := 13) (v := .ref q1) (C := RX9) (T := TX9) (N := 14) hx hb hts (fun w h => List.mem_cons_of_mem _ (List.mem_append_left _ (List.mem_append_right _ h))) hown hK hP 0 rfl rfl 1 (by decide) (hts (.fieldLink RX9 17 "Lastroom" "styles" "[LLastroom$Style;") (List.mem_of_getElem? (i := 3) rfl)) (fun _ h9 => h9) rfl dX9_findStyle_14 ?_
      refine lv_iload_n hx hb dX9_findStyle_17 rfl (lv_at hl 1 rfl) ?_
      refine va_aldq hx hb hK hP 1 0 rfl rfl (in_ge (k := 6) (by decide) c_1 c_2) dX9_findStyle_18 ?_
      refine lv_goto (tgt := 23) hx hb dX9_findStyle_19 (by decide) ?_
      refine lv_astore_nN (lv' := [(2, .null), (0, .ref x), (1, .int n)]) hx hb dX9_findStyle_23 rfl hl (by decide) rfl (fun ls hl => ?_)
      refine lv_aload_nN hx hb dX9_findStyle_24 rfl (lv_at hl 0 rfl) ?_
      refine lv_ifnonnullN hx hb dX9_findStyle_25 ?_
      exact th_w (i := 8) gx_thr_ioo hx hb hlt hown (hts (.classLink RX9 517 "java/lang/IndexOutOfBoundsException") (List.mem_of_getElem? (i := 1) rfl)) (hts (.initialized "java/lang/IndexOutOfBoundsException") (List.mem_of_getElem? (i := 2) rfl)) (fun w h => hts w (List.mem_cons_of_mem _ (List.mem_append_right _ h))) rfl hG hS (hl.1.trans hml.symm) htab hlocks dX9_findStyle_28 dX9_findStyle_31 dX9_findStyle_32 dX9_findStyle_35 dX9_findStyle_38 rfl (Nat.le_of_ble_eq_true rfl) (Nat.le_of_ble_eq_true rfl) (Nat.le_of_ble_eq_true rfl) (Nat.le_of_ble_eq_true rfl) (Nat.le_of_ble_eq_true rfl) (Nat.le_of_ble_eq_true rfl)
set_option maxHeartbeats 4000000 in
set_option maxRecDepth 100000 in
/-- findHide(n) on a fresh object: throws -/
theorem c_findHide (l : Launch) (hlt : l.stackTraces = false) (D : va_G) (tC tE sz : Nat) (x q0 q1 q2 q3 q4 q5 q6 : Nat) (k2 : ClassId) (n : Int32) : vx_Met l yX9_findHide wsX9_findHide ({ frames := 6, cells := 1, slots := 6, locals := 82 }) (Pg D tC tE sz [(x, .inr (13, [.ref q0, .ref q1, .ref q2, .ref q3, .ref q4, .ref q5, .ref q6, .int 0, .int 0, .int 0, .int 0, .int 0, .int 0, .int 0])), (q2, .inl (k2, 6, .inr (.inr (.inr (.inr (fun _ => none))))))] [(k2, .object "Lastroom$Hide")] [.ref x, .int n]) (Qgr (S := Unit) D (fun u => []) (fun u => []) (fun _ => 0) (fun _ => False) (va_A [(x, .inr (13, [.ref q0, .ref q1, .ref q2, .ref q3, .ref q4, .ref q5, .ref q6, .int 0, .int 0, .int 0, .int 0, .int 0, .int 0, .int 0])), (q2, .inl (k2, 6, .inr (.inr (.inr (.inr (fun _ => none))))))] sz)) (XX (fun E => E = gx_ioo) (va_A [(x, .inr (13, [.ref q0, .ref q1, .ref q2, .ref q3, .ref q4, .ref q5, .ref q6, .int 0, .int 0, .int 0, .int 0, .int 0, .int 0, .int 0])), (q2, .inl (k2, 6, .inr (.inr (.inr (.inr (fun _ => none))))))] sz)) 1 6 (va_A [(x, .inr (13, [.ref q0, .ref q1, .ref q2, .ref q3, .ref q4, .ref q5, .ref q6, .int 0, .int 0, .int 0, .int 0, .int 0, .int 0, .int 0])), (q2, .inl (k2, 6, .inr (.inr (.inr (.inr (fun _ => none))))))] sz) := by
  refine og_x (cc := cX9_findHide) (maxL := 3) (ret := (some (.object "Lastroom$Hide"))) (Qc := Qgr (S := Unit) D (fun u => []) (fun u => []) (fun _ => 0) (fun _ => False)) (XC := XX (fun E => E = gx_ioo)) (by decide) rfl (Nat.le_of_ble_eq_true rfl) ?_
  intro p e s m below meth c A hx hb hr hml hts hown hlocks hin htab hP hD hK hG hA hS ls hl
  have hl : lv_has ls 3 [(0, .ref x), (1, .int n)] := hl
  refine lv_iload_n hx hb dX9_findHide_0 rfl (lv_at hl 1 rfl) ?_
  refine lv_if_lt (tgt := 22) hx hb dX9_findHide_1 (by decide) (fun c_1 => ?_) (fun c_1 => ?_)
  · refine lv_null hx hb dX9_findHide_22 ?_
    refine lv_astore_nN (lv' := [(2, .null), (0, .ref x), (1, .int n)]) hx hb dX9_findHide_23 rfl hl (by decide) rfl (fun ls hl => ?_)
    refine lv_aload_nN hx hb dX9_findHide_24 rfl (lv_at hl 0 rfl) ?_
    refine lv_ifnonnullN hx hb dX9_findHide_25 ?_
    exact th_w (i := 9) gx_thr_ioo hx hb hlt hown (hts (.classLink RX9 517 "java/lang/IndexOutOfBoundsException") (List.mem_of_getElem? (i := 1) rfl)) (hts (.initialized "java/lang/IndexOutOfBoundsException") (List.mem_of_getElem? (i := 2) rfl)) (fun w h => hts w (List.mem_cons_of_mem _ (List.mem_append_right _ h))) rfl hG hS (hl.1.trans hml.symm) htab hlocks dX9_findHide_28 dX9_findHide_31 dX9_findHide_32 dX9_findHide_35 dX9_findHide_38 rfl (Nat.le_of_ble_eq_true rfl) (Nat.le_of_ble_eq_true rfl) (Nat.le_of_ble_eq_true rfl) (Nat.le_of_ble_eq_true rfl) (Nat.le_of_ble_eq_true rfl) (Nat.le_of_ble_eq_true rfl)
  · refine lv_iload_n hx hb dX9_findHide_4 rfl (lv_at hl 1 rfl) ?_
    refine lv_aload_n hx hb dX9_findHide_5 rfl (lv_at hl 0 rfl) ?_
    refine va_get (D := D) (ci := 13) (v := .ref q2) (C := RX9) (T := TX9) (N := 14) hx hb hts (fun w h => List.mem_cons_of_mem _ (List.mem_append_left _ (List.mem_append_right _ h))) hown hK hP 0 rfl rfl 2 (by decide) (hts (.fieldLink RX9 23 "Lastroom" "hides" "[LLastroom$Hide;") (List.mem_of_getElem? (i := 3) rfl)) (fun _ h9 => h9) rfl dX9_findHide_6 ?_
    refine va_alen hx hb hK hP 1 0 rfl rfl (v := 6) rfl dX9_findHide_9 ?_
    refine lv_icmp_ge (tgt := 22) hx hb dX9_findHide_10 (by decide) (fun c_2 => ?_) (fun c_2 => ?_)
    · refine lv_null hx hb dX9_findHide_22 ?_
      refine lv_astore_nN (lv' := [(2, .null), (0, .ref x), (1, .int n)]) hx hb dX9_findHide_23 rfl hl (by decide) rfl (fun ls hl => ?_)
      refine lv_aload_nN hx hb dX9_findHide_24 rfl (lv_at hl 0 rfl) ?_
      refine lv_ifnonnullN hx hb dX9_findHide_25 ?_
      exact th_w (i := 9) gx_thr_ioo hx hb hlt hown (hts (.classLink RX9 517 "java/lang/IndexOutOfBoundsException") (List.mem_of_getElem? (i := 1) rfl)) (hts (.initialized "java/lang/IndexOutOfBoundsException") (List.mem_of_getElem? (i := 2) rfl)) (fun w h => hts w (List.mem_cons_of_mem _ (List.mem_append_right _ h))) rfl hG hS (hl.1.trans hml.symm) htab hlocks dX9_findHide_28 dX9_findHide_31 dX9_findHide_32 dX9_findHide_35 dX9_findHide_38 rfl (Nat.le_of_ble_eq_true rfl) (Nat.le_of_ble_eq_true rfl) (Nat.le_of_ble_eq_true rfl) (Nat.le_of_ble_eq_true rfl) (Nat.le_of_ble_eq_true rfl) (Nat.le_of_ble_eq_true rfl)
    · refine lv_aload_n hx hb dX9_findHide_13 rfl (lv_at hl 0 rfl) ?_
      refine va_get (D := D) (ci := 13) (v := .ref q2) (C := RX9) (T := TX9) (N := 14) hx hb hts (fun w h => List.mem_cons_of_mem _ (List.mem_append_left _ (List.mem_append_right _ h))) hown hK hP 0 rfl rfl 2 (by decide) (hts (.fieldLink RX9 23 "Lastroom" "hides" "[LLastroom$Hide;") (List.mem_of_getElem? (i := 3) rfl)) (fun _ h9 => h9) rfl dX9_findHide_14 ?_
      refine lv_iload_n hx hb dX9_findHide_17 rfl (lv_at hl 1 rfl) ?_
      refine va_aldq hx hb hK hP 1 0 rfl rfl (in_ge (k := 6) (by decide) c_1 c_2) dX9_findHide_18 ?_
      refine lv_goto (tgt := 23) hx hb dX9_findHide_19 (by decide) ?_
      refine lv_astore_nN (lv' := [(2, .null), (0, .ref x), (1, .int n)]) hx hb dX9_findHide_23 rfl hl (by decide) rfl (fun ls hl => ?_)
      refine lv_aload_nN hx hb dX9_findHide_24 rfl (lv_at hl 0 rfl) ?_
      refine lv_ifnonnullN hx hb dX9_findHide_25 ?_
      exact th_w (i := 9) gx_thr_ioo hx hb hlt hown (hts (.classLink RX9 517 "java/lang/IndexOutOfBoundsException") (List.mem_of_getElem? (i := 1) rfl)) (hts (.initialized "java/lang/IndexOutOfBoundsException") (List.mem_of_getElem? (i := 2) rfl)) (fun w h => hts w (List.mem_cons_of_mem _ (List.mem_append_right _ h))) rfl hG hS (hl.1.trans hml.symm) htab hlocks dX9_findHide_28 dX9_findHide_31 dX9_findHide_32 dX9_findHide_35 dX9_findHide_38 rfl (Nat.le_of_ble_eq_true rfl) (Nat.le_of_ble_eq_true rfl) (Nat.le_of_ble_eq_true rfl) (Nat.le_of_ble_eq_true rfl) (Nat.le_of_ble_eq_true rfl) (Nat.le_of_ble_eq_true rfl)
set_option maxHeartbeats 4000000 in
set_option maxRecDepth 100000 in
/-- findTicket(n) on a fresh object: throws -/
theorem c_findTicket (l : Launch) (hlt : l.stackTraces = false) (D : va_G) (tC tE sz : Nat) (x q0 q1 q2 q3 q4 q5 q6 : Nat) (k3 : ClassId) (n : Int32) : vx_Met l yX9_findTicket wsX9_findTicket ({ frames := 6, cells := 1, slots := 6, locals := 82 }) (Pg D tC tE sz [(x, .inr (13, [.ref q0, .ref q1, .ref q2, .ref q3, .ref q4, .ref q5, .ref q6, .int 0, .int 0, .int 0, .int 0, .int 0, .int 0, .int 0])), (q3, .inl (k3, 16, .inr (.inr (.inr (.inr (fun _ => none))))))] [(k3, .object "Lastroom$Ticket")] [.ref x, .int n]) (Qgr (S := Unit) D (fun u => []) (fun u => []) (fun _ => 0) (fun _ => False) (va_A [(x, .inr (13, [.ref q0, .ref q1, .ref q2, .ref q3, .ref q4, .ref q5, .ref q6, .int 0, .int 0, .int 0, .int 0, .int 0, .int 0, .int 0])), (q3, .inl (k3, 16, .inr (.inr (.inr (.inr (fun _ => none))))))] sz)) (XX (fun E => E = gx_ioo) (va_A [(x, .inr (13, [.ref q0, .ref q1, .ref q2, .ref q3, .ref q4, .ref q5, .ref q6, .int 0, .int 0, .int 0, .int 0, .int 0, .int 0, .int 0])), (q3, .inl (k3, 16, .inr (.inr (.inr (.inr (fun _ => none))))))] sz)) 1 6 (va_A [(x, .inr (13, [.ref q0, .ref q1, .ref q2, .ref q3, .ref q4, .ref q5, .ref q6, .int 0, .int 0, .int 0, .int 0, .int 0, .int 0, .int 0])), (q3, .inl (k3, 16, .inr (.inr (.inr (.inr (fun _ => none))))))] sz) := by
  refine og_x (cc := cX9_findTicket) (maxL := 3) (ret := (some (.object "Lastroom$Ticket"))) (Qc := Qgr (S := Unit) D (fun u => []) (fun u => []) (fun _ => 0) (fun _ => False)) (XC := XX (fun E => E = gx_ioo)) (by decide) rfl (Nat.le_of_ble_eq_true rfl) ?_
  intro p e s m below meth c A hx hb hr hml hts hown hlocks hin htab hP hD hK hG hA hS ls hl
  have hl : lv_has ls 3 [(0, .ref x), (1, .int n)] := hl
  refine lv_iload_n hx hb dX9_findTicket_0 rfl (lv_at hl 1 rfl) ?_
  refine lv_if_lt (tgt := 22) hx hb dX9_findTicket_1 (by decide) (fun c_1 => ?_) (fun c_1 => ?_)
  · refine lv_null hx hb dX9_findTicket_22 ?_
    refine lv_astore_nN (lv' := [(2, .null), (0, .ref x), (1, .int n)]) hx hb dX9_findTicket_23 rfl hl (by decide) rfl (fun ls hl => ?_)
    refine lv_aload_nN hx hb dX9_findTicket_24 rfl (lv_at hl 0 rfl) ?_
    refine lv_ifnonnullN hx hb dX9_findTicket_25 ?_
    exact th_w (i := 11) gx_thr_ioo hx hb hlt hown (hts (.classLink RX9 517 "java/lang/IndexOutOfBoundsException") (List.mem_of_getElem? (i := 1) rfl)) (hts (.initialized "java/lang/IndexOutOfBoundsException") (List.mem_of_getElem? (i := 2) rfl)) (fun w h => hts w (List.mem_cons_of_mem _ (List.mem_append_right _ h))) rfl hG hS (hl.1.trans hml.symm) htab hlocks dX9_findTicket_28 dX9_findTicket_31 dX9_findTicket_32 dX9_findTicket_35 dX9_findTicket_38 rfl (Nat.le_of_ble_eq_true rfl) (Nat.le_of_ble_eq_true rfl) (Nat.le_of_ble_eq_true rfl) (Nat.le_of_ble_eq_true rfl) (Nat.le_of_ble_eq_true rfl) (Nat.le_of_ble_eq_true rfl)
  · refine lv_iload_n hx hb dX9_findTicket_4 rfl (lv_at hl 1 rfl) ?_
    refine lv_aload_n hx hb dX9_findTicket_5 rfl (lv_at hl 0 rfl) ?_
    refine va_get (D := D) (ci := 13) (v := .ref q3) (C := RX9) (T := TX9) (N := 14) hx hb hts (fun w h => List.mem_cons_of_mem _ (List.mem_append_left _ (List.mem_append_right _ h))) hown hK hP 0 rfl rfl 3 (by decide) (hts (.fieldLink RX9 29 "Lastroom" "tickets" "[LLastroom$Ticket;") (List.mem_of_getElem? (i := 3) rfl)) (fun _ h9 => h9) rfl dX9_findTicket_6 ?_
    refine va_alen hx hb hK hP 1 0 rfl rfl (v := 16) rfl dX9_findTicket_9 ?_
    refine lv_icmp_ge (tgt := 22) hx hb dX9_findTicket_10 (by decide) (fun c_2 => ?_) (fun c_2 => ?_)
    · refine lv_null hx hb dX9_findTicket_22 ?_
      refine lv_astore_nN (lv' := [(2, .null), (0, .ref x), (1, .int n)]) hx hb dX9_findTicket_23 rfl hl (by decide) rfl (fun ls hl => ?_)
      refine lv_aload_nN hx hb dX9_findTicket_24 rfl (lv_at hl 0 rfl) ?_
      refine lv_ifnonnullN hx hb dX9_findTicket_25 ?_
      exact th_w (i := 11) gx_thr_ioo hx hb hlt hown (hts (.classLink RX9 517 "java/lang/IndexOutOfBoundsException") (List.mem_of_getElem? (i := 1) rfl)) (hts (.initialized "java/lang/IndexOutOfBoundsException") (List.mem_of_getElem? (i := 2) rfl)) (fun w h => hts w (List.mem_cons_of_mem _ (List.mem_append_right _ h))) rfl hG hS (hl.1.trans hml.symm) htab hlocks dX9_findTicket_28 dX9_findTicket_31 dX9_findTicket_32 dX9_findTicket_35 dX9_findTicket_38 rfl (Nat.le_of_ble_eq_true rfl) (Nat.le_of_ble_eq_true rfl) (Nat.le_of_ble_eq_true rfl) (Nat.le_of_ble_eq_true rfl) (Nat.le_of_ble_eq_true rfl) (Nat.le_of_ble_eq_true rfl)
    · refine lv_aload_n hx hb dX9_findTicket_13 rfl (lv_at hl 0 rfl) ?_
      refine va_get (D := D) (ci := 13) (v := .ref q3) (C := RX9) (T := TX9) (N := 14) hx hb hts (fun w h => List.mem_cons_of_mem _ (List.mem_append_left _ (List.mem_append_right _ h))) hown hK hP 0 rfl rfl 3 (by decide) (hts (.fieldLink RX9 29 "Lastroom" "tickets" "[LLastroom$Ticket;") (List.mem_of_getElem? (i := 3) rfl)) (fun _ h9 => h9) rfl dX9_findTicket_14 ?_
      refine lv_iload_n hx hb dX9_findTicket_17 rfl (lv_at hl 1 rfl) ?_
      refine va_aldq hx hb hK hP 1 0 rfl rfl (in_ge (k := 16) (by decide) c_1 c_2) dX9_findTicket_18 ?_
      refine lv_goto (tgt := 23) hx hb dX9_findTicket_19 (by decide) ?_
      refine lv_astore_nN (lv' := [(2, .null), (0, .ref x), (1, .int n)]) hx hb dX9_findTicket_23 rfl hl (by decide) rfl (fun ls hl => ?_)
      refine lv_aload_nN hx hb dX9_findTicket_24 rfl (lv_at hl 0 rfl) ?_
      refine lv_ifnonnullN hx hb dX9_findTicket_25 ?_
      exact th_w (i := 11) gx_thr_ioo hx hb hlt hown (hts (.classLink RX9 517 "java/lang/IndexOutOfBoundsException") (List.mem_of_getElem? (i := 1) rfl)) (hts (.initialized "java/lang/IndexOutOfBoundsException") (List.mem_of_getElem? (i := 2) rfl)) (fun w h => hts w (List.mem_cons_of_mem _ (List.mem_append_right _ h))) rfl hG hS (hl.1.trans hml.symm) htab hlocks dX9_findTicket_28 dX9_findTicket_31 dX9_findTicket_32 dX9_findTicket_35 dX9_findTicket_38 rfl (Nat.le_of_ble_eq_true rfl) (Nat.le_of_ble_eq_true rfl) (Nat.le_of_ble_eq_true rfl) (Nat.le_of_ble_eq_true rfl) (Nat.le_of_ble_eq_true rfl) (Nat.le_of_ble_eq_true rfl)

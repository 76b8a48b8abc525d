-- ===== printed names =====
def wsX2_init : List Cond := .code yX2_init cX2_init 3 none :: ([.methodLink RX2 1 objectInit, .instanceMethod objectInit, .code objectInit ⟨#[0xb1]⟩ 1 none, .fieldLink RX2 7 "Lastroom$Lot" "openedAt" "I", .fieldLink RX2 13 "Lastroom$Lot" "minutes" "I"] ++ wsX20)
def wsX3_init : List Cond := .code yX3_init cX3_init 3 none :: ([.methodLink RX3 3 objectInit, .instanceMethod objectInit, .code objectInit ⟨#[0xb1]⟩ 1 none, .arrayClass .int, .fieldLink RX3 9 "Lastroom$Model" "pairs" "[I", .fieldLink RX3 15 "Lastroom$Model" "middleGirth" "I", .fieldLink RX3 19 "Lastroom$Model" "grade" "I"] ++ wsX30)
def wsX4_init : List Cond := .code yX4_init cX4_init 1 none :: ([.methodLink RX4 1 objectInit, .instanceMethod objectInit, .code objectInit ⟨#[0xb1]⟩ 1 none])
theorem dX2_init_0 : decode cX2_init 0 = .ok (.aload_n 0, 1) := by decide +kernel
theorem dX2_init_1 : decode cX2_init 1 = .ok (.invokespecial 1, 3) := by decide +kernel
theorem dX2_init_4 : decode cX2_init 4 = .ok (.aload_n 0, 1) := by decide +kernel
theorem dX2_init_5 : decode cX2_init 5 = .ok (.iload_n 1, 1) := by decide +kernel
theorem dX2_init_6 : decode cX2_init 6 = .ok (.putfield 7, 3) := by decide +kernel
theorem dX2_init_9 : decode cX2_init 9 = .ok (.aload_n 0, 1) := by decide +kernel
theorem dX2_init_10 : decode cX2_init 10 = .ok (.iload_n 2, 1) := by decide +kernel
theorem dX2_init_11 : decode cX2_init 11 = .ok (.putfield 13, 3) := by decide +kernel
theorem dX2_init_14 : decode cX2_init 14 = .ok (.return_, 1) := by decide +kernel
theorem dX3_init_0 : decode cX3_init 0 = .ok (.aload_n 0, 1) := by decide +kernel
theorem dX3_init_1 : decode cX3_init 1 = .ok (.invokespecial 3, 3) := by decide +kernel
theorem dX3_init_4 : decode cX3_init 4 = .ok (.aload_n 0, 1) := by decide +kernel
theorem dX3_init_5 : decode cX3_init 5 = .ok (.bipush 36, 2) := by decide +kernel
theorem dX3_init_7 : decode cX3_init 7 = .ok (.newarray .int, 2) := by decide +kernel
theorem dX3_init_9 : decode cX3_init 9 = .ok (.putfield 9, 3) := by decide +kernel
theorem dX3_init_12 : decode cX3_init 12 = .ok (.aload_n 0, 1) := by decide +kernel
theorem dX3_init_13 : decode cX3_init 13 = .ok (.iload_n 1, 1) := by decide +kernel
theorem dX3_init_14 : decode cX3_init 14 = .ok (.putfield 15, 3) := by decide +kernel
theorem dX3_init_17 : decode cX3_init 17 = .ok (.aload_n 0, 1) := by decide +kernel
theorem dX3_init_18 : decode cX3_init 18 = .ok (.iload_n 2, 1) := by decide +kernel
theorem dX3_init_19 : decode cX3_init 19 = .ok (.putfield 19, 3) := by decide +kernel
theorem dX3_init_22 : decode cX3_init 22 = .ok (.return_, 1) := by decide +kernel
theorem dX4_init_0 : decode cX4_init 0 = .ok (.aload_n 0, 1) := by decide +kernel
theorem dX4_init_1 : decode cX4_init 1 = .ok (.invokespecial 1, 3) := by decide +kernel
theorem dX4_init_4 : decode cX4_init 4 = .ok (.return_, 1) := by decide +kernel
set_option maxRecDepth 20000 in
theorem ggX9_length_X9_demandSize : GoodIn wsX9_length wsX9_demandSize := goodIn_ca (goodIn_r _ [4, 5, 6, 7, 8, 3, 9, 10, 11, 12, 13, 14, 15, 16, 17, 18] (by decide +kernel) (by decide +kernel)) (goodIn_sub (fun _ h => List.mem_cons_of_mem _ (List.mem_append_right _ h)) (by decide +kernel))
set_option maxRecDepth 20000 in
theorem gX9_length_X9_demandSize : GoodIn wsX9_length (va_wsS RX9 50 yX9_demandSize wsX9_demandSize) := goodIn_app (goodIn_of _ (by decide +kernel)) ggX9_length_X9_demandSize
set_option maxRecDepth 20000 in
theorem ggX9_length_X9_lengthOf : GoodIn wsX9_length wsX9_lengthOf := goodIn_r _ [21] (by decide +kernel) (by decide +kernel)
set_option maxRecDepth 20000 in
theorem gX9_length_X9_lengthOf : GoodIn wsX9_length (va_wsS RX9 54 yX9_lengthOf wsX9_lengthOf) := goodIn_app (goodIn_of _ (by decide +kernel)) ggX9_length_X9_lengthOf
theorem dX9_length_0 : decode cX9_length 0 = .ok (.iload_n 1, 1) := by decide +kernel
theorem dX9_length_1 : decode cX9_length 1 = .ok (.iload_n 2, 1) := by decide +kernel
theorem dX9_length_2 : decode cX9_length 2 = .ok (.invokestatic 50, 3) := by decide +kernel
theorem dX9_length_5 : decode cX9_length 5 = .ok (.iload_n 1, 1) := by decide +kernel
theorem dX9_length_6 : decode cX9_length 6 = .ok (.iload_n 2, 1) := by decide +kernel
theorem dX9_length_7 : decode cX9_length 7 = .ok (.invokestatic 54, 3) := by decide +kernel
theorem dX9_length_10 : decode cX9_length 10 = .ok (.ireturn, 1) := by decide +kernel
set_option maxRecDepth 20000 in
theorem ggX9_model_X9_demandRange : GoodIn wsX9_model wsX9_demandRange := goodIn_ca (goodIn_r _ [11, 12, 13] (by decide +kernel) (by decide +kernel)) (goodIn_sub (fun _ h => List.mem_cons_of_mem _ (List.mem_append_right _ h)) (by decide +kernel))
set_option maxRecDepth 20000 in
theorem gX9_model_X9_demandRange : GoodIn wsX9_model (va_wsS RX9 82 yX9_demandRange wsX9_demandRange) := goodIn_app (goodIn_of _ (by decide +kernel)) ggX9_model_X9_demandRange
set_option maxRecDepth 20000 in
theorem ggX9_model_X3_init : GoodIn wsX9_model wsX3_init := goodIn_r _ [16, 17, 18, 19, 20, 21, 22, 23, 38, 39, 40] (by decide +kernel) (by decide +kernel)
set_option maxRecDepth 20000 in
theorem gX9_model_X3_init : GoodIn wsX9_model (wsX3_init) := ggX9_model_X3_init
theorem dX9_model_0 : decode cX9_model 0 = .ok (.iload_n 1, 1) := by decide +kernel
theorem dX9_model_1 : decode cX9_model 1 = .ok (.sipush 1500, 3) := by decide +kernel
theorem dX9_model_4 : decode cX9_model 4 = .ok (.sipush 3500, 3) := by decide +kernel
theorem dX9_model_7 : decode cX9_model 7 = .ok (.invokestatic 82, 3) := by decide +kernel
theorem dX9_model_10 : decode cX9_model 10 = .ok (.iload_n 2, 1) := by decide +kernel
theorem dX9_model_11 : decode cX9_model 11 = .ok (.bipush 10, 2) := by decide +kernel
theorem dX9_model_13 : decode cX9_model 13 = .ok (.bipush 99, 2) := by decide +kernel
theorem dX9_model_15 : decode cX9_model 15 = .ok (.invokestatic 82, 3) := by decide +kernel
theorem dX9_model_18 : decode cX9_model 18 = .ok (.aload_n 0, 1) := by decide +kernel
theorem dX9_model_19 : decode cX9_model 19 = .ok (.getfield 86, 3) := by decide +kernel
theorem dX9_model_22 : decode cX9_model 22 = .ok (.aload_n 0, 1) := by decide +kernel
theorem dX9_model_23 : decode cX9_model 23 = .ok (.getfield 11, 3) := by decide +kernel
theorem dX9_model_26 : decode cX9_model 26 = .ok (.arraylength, 1) := by decide +kernel
theorem dX9_model_27 : decode cX9_model 27 = .ok (.if_icmp .lt 13, 3) := by decide +kernel
theorem dX9_model_40 : decode cX9_model 40 = .ok (.aload_n 0, 1) := by decide +kernel
theorem dX9_model_41 : decode cX9_model 41 = .ok (.getfield 11, 3) := by decide +kernel
theorem dX9_model_44 : decode cX9_model 44 = .ok (.aload_n 0, 1) := by decide +kernel
theorem dX9_model_45 : decode cX9_model 45 = .ok (.getfield 86, 3) := by decide +kernel
theorem dX9_model_48 : decode cX9_model 48 = .ok (.new 9, 3) := by decide +kernel
theorem dX9_model_51 : decode cX9_model 51 = .ok (.dup, 1) := by decide +kernel
theorem dX9_model_52 : decode cX9_model 52 = .ok (.iload_n 1, 1) := by decide +kernel
theorem dX9_model_53 : decode cX9_model 53 = .ok (.iload_n 2, 1) := by decide +kernel
theorem dX9_model_54 : decode cX9_model 54 = .ok (.invokespecial 95, 3) := by decide +kernel
theorem dX9_model_57 : decode cX9_model 57 = .ok (.aastore, 1) := by decide +kernel
theorem dX9_model_58 : decode cX9_model 58 = .ok (.aload_n 0, 1) := by decide +kernel
theorem dX9_model_59 : decode cX9_model 59 = .ok (.dup, 1) := by decide +kernel
theorem dX9_model_60 : decode cX9_model 60 = .ok (.getfield 86, 3) := by decide +kernel
theorem dX9_model_63 : decode cX9_model 63 = .ok (.dup_x1, 1) := by decide +kernel
theorem dX9_model_64 : decode cX9_model 64 = .ok (.iconst 1, 1) := by decide +kernel
theorem dX9_model_65 : decode cX9_model 65 = .ok (.iadd, 1) := by decide +kernel
theorem dX9_model_66 : decode cX9_model 66 = .ok (.putfield 86, 3) := by decide +kernel
theorem dX9_model_69 : decode cX9_model 69 = .ok (.ireturn, 1) := by decide +kernel
set_option maxRecDepth 20000 in
theorem ggX9_girth_X9_findModel : GoodIn wsX9_girth wsX9_findModel := goodIn_ca (goodIn_r _ [5, 6, 7, 8, 24, 25, 26, 27, 28, 29, 30, 31, 32, 33, 34, 35, 36, 37] (by decide +kernel) (by decide +kernel)) (goodIn_sub (fun _ h => List.mem_cons_of_mem _ (List.mem_append_left _ (List.mem_append_right _ h))) (by decide +kernel))
set_option maxRecDepth 20000 in
theorem gX9_girth_X9_findModel : GoodIn wsX9_girth (wsV RX9 98 RX9 yX9_findModel wsX9_findModel) := goodIn_app (goodIn_of _ (by decide +kernel)) ggX9_girth_X9_findModel
theorem dX9_girth_0 : decode cX9_girth 0 = .ok (.aload_n 0, 1) := by decide +kernel
theorem dX9_girth_1 : decode cX9_girth 1 = .ok (.iload_n 1, 1) := by decide +kernel
theorem dX9_girth_2 : decode cX9_girth 2 = .ok (.invokevirtual 98, 3) := by decide +kernel
set_option maxRecDepth 20000 in
theorem ggX9_setLasts_X9_findModel : GoodIn wsX9_setLasts wsX9_findModel := goodIn_ca (goodIn_r _ [7, 8, 9, 10, 43, 44, 45, 46, 47, 48, 49, 50, 51, 52, 53, 54, 55, 56] (by decide +kernel) (by decide +kernel)) (goodIn_sub (fun _ h => List.mem_cons_of_mem _ (List.mem_append_left _ (List.mem_append_left _ (List.mem_append_right _ h)))) (by decide +kernel))
set_option maxRecDepth 20000 in
theorem gX9_setLasts_X9_findModel : GoodIn wsX9_setLasts (wsV RX9 98 RX9 yX9_findModel wsX9_findModel) := goodIn_app (goodIn_of _ (by decide +kernel)) ggX9_setLasts_X9_findModel
theorem dX9_setLasts_0 : decode cX9_setLasts 0 = .ok (.aload_n 0, 1) := by decide +kernel
theorem dX9_setLasts_1 : decode cX9_setLasts 1 = .ok (.iload_n 1, 1) := by decide +kernel
theorem dX9_setLasts_2 : decode cX9_setLasts 2 = .ok (.invokevirtual 98, 3) := by decide +kernel
set_option maxRecDepth 20000 in
theorem ggX9_freeLasts_X9_findModel : GoodIn wsX9_freeLasts wsX9_findModel := goodIn_ca (goodIn_r _ [5, 6, 7, 8, 41, 42, 43, 44, 45, 46, 47, 48, 49, 50, 51, 52, 53, 54] (by decide +kernel) (by decide +kernel)) (goodIn_sub (fun _ h => List.mem_cons_of_mem _ (List.mem_append_left _ (List.mem_append_left _ (List.mem_append_right _ h)))) (by decide +kernel))
set_option maxRecDepth 20000 in
theorem gX9_freeLasts_X9_findModel : GoodIn wsX9_freeLasts (wsV RX9 98 RX9 yX9_findModel wsX9_findModel) := goodIn_app (goodIn_of _ (by decide +kernel)) ggX9_freeLasts_X9_findModel
theorem dX9_freeLasts_0 : decode cX9_freeLasts 0 = .ok (.aload_n 0, 1) := by decide +kernel
theorem dX9_freeLasts_1 : decode cX9_freeLasts 1 = .ok (.iload_n 1, 1) := by decide +kernel
theorem dX9_freeLasts_2 : decode cX9_freeLasts 2 = .ok (.invokevirtual 98, 3) := by decide +kernel
set_option maxRecDepth 20000 in
theorem ggX9_missingLasts_X9_findModel : GoodIn wsX9_missingLasts wsX9_findModel := goodIn_ca (goodIn_r _ [9, 10, 11, 12, 75, 76, 77, 78, 79, 80, 81, 82, 83, 84, 85, 86, 87, 88] (by decide +kernel) (by decide +kernel)) (goodIn_sub (fun _ h => List.mem_cons_of_mem _ (List.mem_append_left _ (List.mem_append_left _ (List.mem_append_right _ h)))) (by decide +kernel))
set_option maxRecDepth 20000 in
theorem gX9_missingLasts_X9_findModel : GoodIn wsX9_missingLasts (wsV RX9 98 RX9 yX9_findModel wsX9_findModel) := goodIn_app (goodIn_of _ (by decide +kernel)) ggX9_missingLasts_X9_findModel
theorem dX9_missingLasts_0 : decode cX9_missingLasts 0 = .ok (.aload_n 0, 1) := by decide +kernel
theorem dX9_missingLasts_1 : decode cX9_missingLasts 1 = .ok (.iload_n 1, 1) := by decide +kernel
theorem dX9_missingLasts_2 : decode cX9_missingLasts 2 = .ok (.invokevirtual 98, 3) := by decide +kernel
set_option maxRecDepth 20000 in
theorem ggX9_misfit_X9_demandFoot : GoodIn wsX9_misfit wsX9_demandFoot := goodIn_ca (goodIn_r _ [4, 5, 6, 3, 7, 8, 9] (by decide +kernel) (by decide +kernel)) (goodIn_sub (fun _ h => List.mem_cons_of_mem _ (List.mem_append_left _ (List.mem_append_right _ h))) (by decide +kernel))
set_option maxRecDepth 20000 in
theorem gX9_misfit_X9_demandFoot : GoodIn wsX9_misfit (va_wsS RX9 134 yX9_demandFoot wsX9_demandFoot) := goodIn_app (goodIn_of _ (by decide +kernel)) ggX9_misfit_X9_demandFoot
set_option maxRecDepth 20000 in
theorem ggX9_misfit_X9_demandLastSize : GoodIn wsX9_misfit wsX9_demandLastSize := goodIn_ca (goodIn_r _ [12, 5, 6, 3, 7, 8, 9] (by decide +kernel) (by decide +kernel)) (goodIn_sub (fun _ h => List.mem_cons_of_mem _ (List.mem_append_left _ (List.mem_append_right _ h))) (by decide +kernel))
set_option maxRecDepth 20000 in
theorem gX9_misfit_X9_demandLastSize : GoodIn wsX9_misfit (va_wsS RX9 102 yX9_demandLastSize wsX9_demandLastSize) := goodIn_app (goodIn_of _ (by decide +kernel)) ggX9_misfit_X9_demandLastSize
set_option maxRecDepth 20000 in
theorem ggX9_misfit_X9_findModel : GoodIn wsX9_misfit wsX9_findModel := goodIn_ca (goodIn_r _ [16, 17, 18, 19, 37, 38, 39, 40, 41, 42, 43, 44, 45, 46, 47, 48, 49, 50] (by decide +kernel) (by decide +kernel)) (goodIn_sub (fun _ h => List.mem_cons_of_mem _ (List.mem_append_right _ h)) (by decide +kernel))
set_option maxRecDepth 20000 in
theorem gX9_misfit_X9_findModel : GoodIn wsX9_misfit (wsV RX9 98 RX9 yX9_findModel wsX9_findModel) := goodIn_app (goodIn_of _ (by decide +kernel)) ggX9_misfit_X9_findModel
theorem dX9_misfit_0 : decode cX9_misfit 0 = .ok (.iload_n 1, 1) := by decide +kernel
theorem dX9_misfit_1 : decode cX9_misfit 1 = .ok (.iload_n 2, 1) := by decide +kernel
theorem dX9_misfit_2 : decode cX9_misfit 2 = .ok (.invokestatic 134, 3) := by decide +kernel
theorem dX9_misfit_5 : decode cX9_misfit 5 = .ok (.iload 4, 2) := by decide +kernel
theorem dX9_misfit_7 : decode cX9_misfit 7 = .ok (.invokestatic 102, 3) := by decide +kernel
theorem dX9_misfit_10 : decode cX9_misfit 10 = .ok (.iload_n 1, 1) := by decide +kernel
theorem dX9_misfit_11 : decode cX9_misfit 11 = .ok (.iload_n 2, 1) := by decide +kernel
theorem dX9_misfit_12 : decode cX9_misfit 12 = .ok (.aload_n 0, 1) := by decide +kernel
theorem dX9_misfit_13 : decode cX9_misfit 13 = .ok (.iload_n 3, 1) := by decide +kernel
theorem dX9_misfit_14 : decode cX9_misfit 14 = .ok (.invokevirtual 98, 3) := by decide +kernel
set_option maxRecDepth 20000 in
theorem ggX9_bestModel_X9_demandFoot : GoodIn wsX9_bestModel wsX9_demandFoot := goodIn_ca (goodIn_r _ [8, 9, 10, 7, 11, 12, 13] (by decide +kernel) (by decide +kernel)) (goodIn_sub (fun _ h => List.mem_cons_of_mem _ (List.mem_append_right _ h)) (by decide +kernel))
set_option maxRecDepth 20000 in
theorem gX9_bestModel_X9_demandFoot : GoodIn wsX9_bestModel (va_wsS RX9 134 yX9_demandFoot wsX9_demandFoot) := goodIn_app (goodIn_of _ (by decide +kernel)) ggX9_bestModel_X9_demandFoot
theorem dX9_bestModel_0 : decode cX9_bestModel 0 = .ok (.iload_n 1, 1) := by decide +kernel
theorem dX9_bestModel_1 : decode cX9_bestModel 1 = .ok (.iload_n 2, 1) := by decide +kernel
theorem dX9_bestModel_2 : decode cX9_bestModel 2 = .ok (.invokestatic 134, 3) := by decide +kernel
theorem dX9_bestModel_5 : decode cX9_bestModel 5 = .ok (.iconst (-1), 1) := by decide +kernel
theorem dX9_bestModel_6 : decode cX9_bestModel 6 = .ok (.istore_n 3, 1) := by decide +kernel
theorem dX9_bestModel_7 : decode cX9_bestModel 7 = .ok (.ldc 143, 2) := by decide +kernel
theorem dX9_bestModel_9 : decode cX9_bestModel 9 = .ok (.istore 4, 2) := by decide +kernel
theorem dX9_bestModel_11 : decode cX9_bestModel 11 = .ok (.iconst 0, 1) := by decide +kernel
theorem dX9_bestModel_12 : decode cX9_bestModel 12 = .ok (.istore 5, 2) := by decide +kernel
theorem dX9_bestModel_14 : decode cX9_bestModel 14 = .ok (.iload 5, 2) := by decide +kernel
theorem dX9_bestModel_16 : decode cX9_bestModel 16 = .ok (.aload_n 0, 1) := by decide +kernel
theorem dX9_bestModel_17 : decode cX9_bestModel 17 = .ok (.getfield 11, 3) := by decide +kernel
theorem dX9_bestModel_20 : decode cX9_bestModel 20 = .ok (.arraylength, 1) := by decide +kernel
theorem dX9_bestModel_21 : decode cX9_bestModel 21 = .ok (.if_icmp .ge 53, 3) := by decide +kernel
theorem dX9_bestModel_24 : decode cX9_bestModel 24 = .ok (.aload_n 0, 1) := by decide +kernel
theorem dX9_bestModel_25 : decode cX9_bestModel 25 = .ok (.getfield 11, 3) := by decide +kernel
theorem dX9_bestModel_28 : decode cX9_bestModel 28 = .ok (.iload 5, 2) := by decide +kernel
theorem dX9_bestModel_30 : decode cX9_bestModel 30 = .ok (.aaload, 1) := by decide +kernel
theorem dX9_bestModel_31 : decode cX9_bestModel 31 = .ok (.astore 6, 2) := by decide +kernel
theorem dX9_bestModel_33 : decode cX9_bestModel 33 = .ok (.aload 6, 2) := by decide +kernel
theorem dX9_bestModel_35 : decode cX9_bestModel 35 = .ok (.ifnull 33, 3) := by decide +kernel
theorem dX9_bestModel_68 : decode cX9_bestModel 68 = .ok (.iinc 5 1, 3) := by decide +kernel
theorem dX9_bestModel_71 : decode cX9_bestModel 71 = .ok (.goto (-57), 3) := by decide +kernel
theorem dX9_bestModel_74 : decode cX9_bestModel 74 = .ok (.iload_n 3, 1) := by decide +kernel
theorem dX9_bestModel_75 : decode cX9_bestModel 75 = .ok (.iconst (-1), 1) := by decide +kernel
theorem dX9_bestModel_76 : decode cX9_bestModel 76 = .ok (.if_icmp .ne 13, 3) := by decide +kernel
theorem dX9_bestModel_79 : decode cX9_bestModel 79 = .ok (.new 148, 3) := by decide +kernel
theorem dX9_bestModel_82 : decode cX9_bestModel 82 = .ok (.dup, 1) := by decide +kernel
theorem dX9_bestModel_83 : decode cX9_bestModel 83 = .ok (.ldc 150, 2) := by decide +kernel
theorem dX9_bestModel_85 : decode cX9_bestModel 85 = .ok (.invokespecial 152, 3) := by decide +kernel
theorem dX9_bestModel_88 : decode cX9_bestModel 88 = .ok (.athrow, 1) := by decide +kernel
set_option maxRecDepth 20000 in
theorem ggX9_bestSize_X9_demandFoot : GoodIn wsX9_bestSize wsX9_demandFoot := goodIn_ca (goodIn_r _ [4, 5, 6, 3, 7, 8, 9] (by decide +kernel) (by decide +kernel)) (goodIn_sub (fun _ h => List.mem_cons_of_mem _ (List.mem_append_left _ (List.mem_append_right _ h))) (by decide +kernel))
set_option maxRecDepth 20000 in
theorem gX9_bestSize_X9_demandFoot : GoodIn wsX9_bestSize (va_wsS RX9 134 yX9_demandFoot wsX9_demandFoot) := goodIn_app (goodIn_of _ (by decide +kernel)) ggX9_bestSize_X9_demandFoot
set_option maxRecDepth 20000 in
theorem ggX9_bestSize_X9_findModel : GoodIn wsX9_bestSize wsX9_findModel := goodIn_ca (goodIn_r _ [13, 14, 15, 16, 38, 39, 40, 41, 42, 43, 44, 45, 46, 47, 48, 49, 50, 51] (by decide +kernel) (by decide +kernel)) (goodIn_sub (fun _ h => List.mem_cons_of_mem _ (List.mem_append_right _ h)) (by decide +kernel))
set_option maxRecDepth 20000 in
theorem gX9_bestSize_X9_findModel : GoodIn wsX9_bestSize (wsV RX9 98 RX9 yX9_findModel wsX9_findModel) := goodIn_app (goodIn_of _ (by decide +kernel)) ggX9_bestSize_X9_findModel
theorem dX9_bestSize_0 : decode cX9_bestSize 0 = .ok (.iload_n 1, 1) := by decide +kernel
theorem dX9_bestSize_1 : decode cX9_bestSize 1 = .ok (.iload_n 2, 1) := by decide +kernel
theorem dX9_bestSize_2 : decode cX9_bestSize 2 = .ok (.invokestatic 134, 3) := by decide +kernel
theorem dX9_bestSize_5 : decode cX9_bestSize 5 = .ok (.iload_n 1, 1) := by decide +kernel
theorem dX9_bestSize_6 : decode cX9_bestSize 6 = .ok (.iload_n 2, 1) := by decide +kernel
theorem dX9_bestSize_7 : decode cX9_bestSize 7 = .ok (.aload_n 0, 1) := by decide +kernel
theorem dX9_bestSize_8 : decode cX9_bestSize 8 = .ok (.iload_n 3, 1) := by decide +kernel
theorem dX9_bestSize_9 : decode cX9_bestSize 9 = .ok (.invokevirtual 98, 3) := by decide +kernel
set_option maxRecDepth 20000 in
theorem ggX9_style_X9_findModel : GoodIn wsX9_style wsX9_findModel := goodIn_ca (goodIn_r _ [16, 17, 18, 19, 43, 44, 45, 46, 47, 48, 49, 50, 51, 52, 53, 54, 55, 56] (by decide +kernel) (by decide +kernel)) (goodIn_sub (fun _ h => List.mem_cons_of_mem _ (List.mem_append_right _ h)) (by decide +kernel))
set_option maxRecDepth 20000 in
theorem gX9_style_X9_findModel : GoodIn wsX9_style (wsV RX9 98 RX9 yX9_findModel wsX9_findModel) := goodIn_app (goodIn_of _ (by decide +kernel)) ggX9_style_X9_findModel
theorem dX9_style_0 : decode cX9_style 0 = .ok (.aload_n 0, 1) := by decide +kernel
theorem dX9_style_1 : decode cX9_style 1 = .ok (.iload_n 1, 1) := by decide +kernel
theorem dX9_style_2 : decode cX9_style 2 = .ok (.invokevirtual 98, 3) := by decide +kernel
set_option maxRecDepth 20000 in
theorem ggX9_piece_X9_findStyle : GoodIn wsX9_piece wsX9_findStyle := goodIn_ca (goodIn_r _ [11, 12, 13, 14, 57, 58, 59, 60, 61, 62, 63, 64, 65, 66, 67, 68, 69, 70] (by decide +kernel) (by decide +kernel)) (goodIn_sub (fun _ h => List.mem_cons_of_mem _ (List.mem_append_left _ (List.mem_append_right _ h))) (by decide +kernel))
set_option maxRecDepth 20000 in
theorem gX9_piece_X9_findStyle : GoodIn wsX9_piece (wsV RX9 172 RX9 yX9_findStyle wsX9_findStyle) := goodIn_app (goodIn_of _ (by decide +kernel)) ggX9_piece_X9_findStyle
theorem dX9_piece_0 : decode cX9_piece 0 = .ok (.aload_n 0, 1) := by decide +kernel
theorem dX9_piece_1 : decode cX9_piece 1 = .ok (.iload_n 1, 1) := by decide +kernel
theorem dX9_piece_2 : decode cX9_piece 2 = .ok (.invokevirtual 172, 3) := by decide +kernel
set_option maxRecDepth 20000 in
theorem ggX9_seam_X9_findStyle : GoodIn wsX9_seam wsX9_findStyle := goodIn_ca (goodIn_r _ [13, 14, 15, 16, 64, 65, 66, 67, 68, 69, 70, 71, 72, 73, 74, 75, 76, 77] (by decide +kernel) (by decide +kernel)) (goodIn_sub (fun _ h => List.mem_cons_of_mem _ (List.mem_append_right _ h)) (by decide +kernel))
set_option maxRecDepth 20000 in
theorem gX9_seam_X9_findStyle : GoodIn wsX9_seam (wsV RX9 172 RX9 yX9_findStyle wsX9_findStyle) := goodIn_app (goodIn_of _ (by decide +kernel)) ggX9_seam_X9_findStyle
theorem dX9_seam_0 : decode cX9_seam 0 = .ok (.aload_n 0, 1) := by decide +kernel
theorem dX9_seam_1 : decode cX9_seam 1 = .ok (.iload_n 1, 1) := by decide +kernel
theorem dX9_seam_2 : decode cX9_seam 2 = .ok (.invokevirtual 172, 3) := by decide +kernel
set_option maxRecDepth 20000 in
theorem ggX9_pieceCells_X9_findStyle : GoodIn wsX9_pieceCells wsX9_findStyle := goodIn_ca (goodIn_r _ [5, 6, 7, 8, 39, 40, 41, 42, 43, 44, 45, 46, 47, 48, 49, 50, 51, 52] (by decide +kernel) (by decide +kernel)) (goodIn_sub (fun _ h => List.mem_cons_of_mem _ (List.mem_append_left _ (List.mem_append_left _ (List.mem_append_right _ h)))) (by decide +kernel))
set_option maxRecDepth 20000 in
theorem gX9_pieceCells_X9_findStyle : GoodIn wsX9_pieceCells (wsV RX9 172 RX9 yX9_findStyle wsX9_findStyle) := goodIn_app (goodIn_of _ (by decide +kernel)) ggX9_pieceCells_X9_findStyle
theorem dX9_pieceCells_0 : decode cX9_pieceCells 0 = .ok (.aload_n 0, 1) := by decide +kernel
theorem dX9_pieceCells_1 : decode cX9_pieceCells 1 = .ok (.iload_n 1, 1) := by decide +kernel
theorem dX9_pieceCells_2 : decode cX9_pieceCells 2 = .ok (.invokevirtual 172, 3) := by decide +kernel
set_option maxRecDepth 20000 in
theorem ggX9_shortest_X9_findStyle : GoodIn wsX9_shortest wsX9_findStyle := goodIn_ca (goodIn_r _ [5, 6, 7, 8, 20, 21, 22, 23, 24, 25, 26, 27, 28, 29, 30, 31, 32, 33] (by decide +kernel) (by decide +kernel)) (goodIn_sub (fun _ h => List.mem_cons_of_mem _ (List.mem_append_right _ h)) (by decide +kernel))
set_option maxRecDepth 20000 in
theorem gX9_shortest_X9_findStyle : GoodIn wsX9_shortest (wsV RX9 172 RX9 yX9_findStyle wsX9_findStyle) := goodIn_app (goodIn_of _ (by decide +kernel)) ggX9_shortest_X9_findStyle
theorem dX9_shortest_0 : decode cX9_shortest 0 = .ok (.aload_n 0, 1) := by decide +kernel
theorem dX9_shortest_1 : decode cX9_shortest 1 = .ok (.iload_n 1, 1) := by decide +kernel
theorem dX9_shortest_2 : decode cX9_shortest 2 = .ok (.invokevirtual 172, 3) := by decide +kernel
set_option maxRecDepth 20000 in
theorem ggX9_bonds_X9_findStyle : GoodIn wsX9_bonds wsX9_findStyle := goodIn_ca (goodIn_r _ [5, 6, 7, 8, 21, 22, 23, 24, 25, 26, 27, 28, 29, 30, 31, 32, 33, 34] (by decide +kernel) (by decide +kernel)) (goodIn_sub (fun _ h => List.mem_cons_of_mem _ (List.mem_append_right _ h)) (by decide +kernel))
set_option maxRecDepth 20000 in
theorem gX9_bonds_X9_findStyle : GoodIn wsX9_bonds (wsV RX9 172 RX9 yX9_findStyle wsX9_findStyle) := goodIn_app (goodIn_of _ (by decide +kernel)) ggX9_bonds_X9_findStyle
theorem dX9_bonds_0 : decode cX9_bonds 0 = .ok (.aload_n 0, 1) := by decide +kernel
theorem dX9_bonds_1 : decode cX9_bonds 1 = .ok (.iload_n 1, 1) := by decide +kernel
theorem dX9_bonds_2 : decode cX9_bonds 2 = .ok (.invokevirtual 172, 3) := by decide +kernel
set_option maxRecDepth 20000 in
theorem ggX9_fault_X9_findHide : GoodIn wsX9_fault wsX9_findHide := goodIn_ca (goodIn_r _ [9, 10, 11, 12, 32, 33, 34, 35, 36, 37, 38, 39, 40, 41, 42, 43, 44, 45] (by decide +kernel) (by decide +kernel)) (goodIn_sub (fun _ h => List.mem_cons_of_mem _ (List.mem_append_left _ (List.mem_append_right _ h))) (by decide +kernel))
set_option maxRecDepth 20000 in
theorem gX9_fault_X9_findHide : GoodIn wsX9_fault (wsV RX9 234 RX9 yX9_findHide wsX9_findHide) := goodIn_app (goodIn_of _ (by decide +kernel)) ggX9_fault_X9_findHide
theorem dX9_fault_0 : decode cX9_fault 0 = .ok (.aload_n 0, 1) := by decide +kernel
theorem dX9_fault_1 : decode cX9_fault 1 = .ok (.iload_n 1, 1) := by decide +kernel
theorem dX9_fault_2 : decode cX9_fault 2 = .ok (.invokevirtual 234, 3) := by decide +kernel
set_option maxRecDepth 20000 in
theorem ggX9_cellOf_X9_findHide : GoodIn wsX9_cellOf wsX9_findHide := goodIn_ca (goodIn_r _ [7, 8, 9, 10, 23, 24, 25, 26, 27, 28, 29, 30, 31, 32, 33, 34, 35, 36] (by decide +kernel) (by decide +kernel)) (goodIn_sub (fun _ h => List.mem_cons_of_mem _ (List.mem_append_left _ (List.mem_append_right _ h))) (by decide +kernel))
set_option maxRecDepth 20000 in
theorem gX9_cellOf_X9_findHide : GoodIn wsX9_cellOf (wsV RX9 234 RX9 yX9_findHide wsX9_findHide) := goodIn_app (goodIn_of _ (by decide +kernel)) ggX9_cellOf_X9_findHide
theorem dX9_cellOf_0 : decode cX9_cellOf 0 = .ok (.aload_n 0, 1) := by decide +kernel
theorem dX9_cellOf_1 : decode cX9_cellOf 1 = .ok (.iload_n 1, 1) := by decide +kernel
theorem dX9_cellOf_2 : decode cX9_cellOf 2 = .ok (.invokevirtual 234, 3) := by decide +kernel
set_option maxRecDepth 20000 in
theorem ggX9_cut_X9_findTicket : GoodIn wsX9_cut wsX9_findTicket := goodIn_ca (goodIn_r _ [19, 20, 21, 22, 135, 136, 137, 138, 139, 140, 141, 142, 143, 144, 145, 146, 147, 148] (by decide +kernel) (by decide +kernel)) (goodIn_sub (fun _ h => List.mem_cons_of_mem _ (List.mem_append_left _ (List.mem_append_left _ (List.mem_append_right _ h)))) (by decide +kernel))
set_option maxRecDepth 20000 in
theorem gX9_cut_X9_findTicket : GoodIn wsX9_cut (wsV RX9 248 RX9 yX9_findTicket wsX9_findTicket) := goodIn_app (goodIn_of _ (by decide +kernel)) ggX9_cut_X9_findTicket
theorem dX9_cut_0 : decode cX9_cut 0 = .ok (.aload_n 0, 1) := by decide +kernel
theorem dX9_cut_1 : decode cX9_cut 1 = .ok (.iload_n 1, 1) := by decide +kernel
theorem dX9_cut_2 : decode cX9_cut 2 = .ok (.invokevirtual 248, 3) := by decide +kernel
set_option maxRecDepth 20000 in
theorem ggX9_firstPlace_X9_findTicket : GoodIn wsX9_firstPlace wsX9_findTicket := goodIn_ca (goodIn_r _ [12, 13, 14, 15, 96, 97, 98, 99, 100, 101, 102, 103, 104, 105, 106, 107, 108, 109] (by decide +kernel) (by decide +kernel)) (goodIn_sub (fun _ h => List.mem_cons_of_mem _ (List.mem_append_left _ (List.mem_append_left _ (List.mem_append_right _ h)))) (by decide +kernel))
set_option maxRecDepth 20000 in
theorem gX9_firstPlace_X9_findTicket : GoodIn wsX9_firstPlace (wsV RX9 248 RX9 yX9_findTicket wsX9_findTicket) := goodIn_app (goodIn_of _ (by decide +kernel)) ggX9_firstPlace_X9_findTicket
theorem dX9_firstPlace_0 : decode cX9_firstPlace 0 = .ok (.aload_n 0, 1) := by decide +kernel
theorem dX9_firstPlace_1 : decode cX9_firstPlace 1 = .ok (.iload_n 1, 1) := by decide +kernel
theorem dX9_firstPlace_2 : decode cX9_firstPlace 2 = .ok (.invokevirtual 248, 3) := by decide +kernel
set_option maxRecDepth 20000 in
theorem ggX9_waste_X9_findHide : GoodIn wsX9_waste wsX9_findHide := goodIn_ca (goodIn_r _ [5, 6, 7, 8, 27, 28, 29, 30, 31, 32, 33, 34, 35, 36, 37, 38, 39, 40] (by decide +kernel) (by decide +kernel)) (goodIn_sub (fun _ h => List.mem_cons_of_mem _ (List.mem_append_left _ (List.mem_append_left _ (List.mem_append_right _ h)))) (by decide +kernel))
set_option maxRecDepth 20000 in
theorem gX9_waste_X9_findHide : GoodIn wsX9_waste (wsV RX9 234 RX9 yX9_findHide wsX9_findHide) := goodIn_app (goodIn_of _ (by decide +kernel)) ggX9_waste_X9_findHide
theorem dX9_waste_0 : decode cX9_waste 0 = .ok (.aload_n 0, 1) := by decide +kernel
theorem dX9_waste_1 : decode cX9_waste 1 = .ok (.iload_n 1, 1) := by decide +kernel
theorem dX9_waste_2 : decode cX9_waste 2 = .ok (.invokevirtual 234, 3) := by decide +kernel
set_option maxRecDepth 20000 in
theorem ggX9_ticket_X9_findStyle : GoodIn wsX9_ticket wsX9_findStyle := goodIn_ca (goodIn_r _ [12, 13, 14, 15, 47, 48, 49, 50, 51, 52, 53, 54, 55, 56, 57, 58, 59, 60] (by decide +kernel) (by decide +kernel)) (goodIn_sub (fun _ h => List.mem_cons_of_mem _ (List.mem_append_left _ (List.mem_append_left _ (List.mem_append_right _ h)))) (by decide +kernel))
set_option maxRecDepth 20000 in
theorem gX9_ticket_X9_findStyle : GoodIn wsX9_ticket (wsV RX9 172 RX9 yX9_findStyle wsX9_findStyle) := goodIn_app (goodIn_of _ (by decide +kernel)) ggX9_ticket_X9_findStyle
theorem dX9_ticket_0 : decode cX9_ticket 0 = .ok (.aload_n 0, 1) := by decide +kernel
theorem dX9_ticket_1 : decode cX9_ticket 1 = .ok (.iload_n 1, 1) := by decide +kernel
theorem dX9_ticket_2 : decode cX9_ticket 2 = .ok (.invokevirtual 172, 3) := by decide +kernel
set_option maxRecDepth 20000 in
theorem ggX9_pass_X9_demandRange : GoodIn wsX9_pass wsX9_demandRange := goodIn_ca (goodIn_r _ [5, 6, 7] (by decide +kernel) (by decide +kernel)) (goodIn_sub (fun _ h => List.mem_cons_of_mem _ (List.mem_append_right _ h)) (by decide +kernel))
set_option maxRecDepth 20000 in
theorem gX9_pass_X9_demandRange : GoodIn wsX9_pass (va_wsS RX9 82 yX9_demandRange wsX9_demandRange) := goodIn_app (goodIn_of _ (by decide +kernel)) ggX9_pass_X9_demandRange
theorem dX9_pass_0 : decode cX9_pass 0 = .ok (.iload_n 1, 1) := by decide +kernel
theorem dX9_pass_1 : decode cX9_pass 1 = .ok (.iconst 1, 1) := by decide +kernel
theorem dX9_pass_2 : decode cX9_pass 2 = .ok (.sipush 240, 3) := by decide +kernel
theorem dX9_pass_5 : decode cX9_pass 5 = .ok (.invokestatic 82, 3) := by decide +kernel
theorem dX9_pass_8 : decode cX9_pass 8 = .ok (.aload_n 0, 1) := by decide +kernel
theorem dX9_pass_9 : decode cX9_pass 9 = .ok (.dup, 1) := by decide +kernel
theorem dX9_pass_10 : decode cX9_pass 10 = .ok (.getfield 271, 3) := by decide +kernel
theorem dX9_pass_13 : decode cX9_pass 13 = .ok (.iload_n 1, 1) := by decide +kernel
theorem dX9_pass_14 : decode cX9_pass 14 = .ok (.iadd, 1) := by decide +kernel
theorem dX9_pass_15 : decode cX9_pass 15 = .ok (.putfield 271, 3) := by decide +kernel
theorem dX9_pass_18 : decode cX9_pass 18 = .ok (.aload_n 0, 1) := by decide +kernel
theorem dX9_pass_19 : decode cX9_pass 19 = .ok (.getfield 271, 3) := by decide +kernel
theorem dX9_pass_22 : decode cX9_pass 22 = .ok (.ireturn, 1) := by decide +kernel
set_option maxRecDepth 20000 in
theorem ggX9_sew_X9_findTicket : GoodIn wsX9_sew wsX9_findTicket := goodIn_ca (goodIn_r _ [16, 17, 18, 19, 102, 103, 104, 105, 106, 107, 108, 109, 110, 111, 112, 113, 114, 115] (by decide +kernel) (by decide +kernel)) (goodIn_sub (fun _ h => List.mem_cons_of_mem _ (List.mem_append_left _ (List.mem_append_right _ h))) (by decide +kernel))
set_option maxRecDepth 20000 in
theorem gX9_sew_X9_findTicket : GoodIn wsX9_sew (wsV RX9 248 RX9 yX9_findTicket wsX9_findTicket) := goodIn_app (goodIn_of _ (by decide +kernel)) ggX9_sew_X9_findTicket
theorem dX9_sew_0 : decode cX9_sew 0 = .ok (.aload_n 0, 1) := by decide +kernel
theorem dX9_sew_1 : decode cX9_sew 1 = .ok (.iload_n 1, 1) := by decide +kernel
theorem dX9_sew_2 : decode cX9_sew 2 = .ok (.invokevirtual 248, 3) := by decide +kernel
set_option maxRecDepth 20000 in
theorem ggX9_room_X9_findTicket : GoodIn wsX9_room wsX9_findTicket := goodIn_ca (goodIn_r _ [6, 7, 8, 9, 37, 38, 39, 40, 41, 42, 43, 44, 45, 46, 47, 48, 49, 50] (by decide +kernel) (by decide +kernel)) (goodIn_sub (fun _ h => List.mem_cons_of_mem _ (List.mem_append_right _ h)) (by decide +kernel))
set_option maxRecDepth 20000 in
theorem gX9_room_X9_findTicket : GoodIn wsX9_room (wsV RX9 248 RX9 yX9_findTicket wsX9_findTicket) := goodIn_app (goodIn_of _ (by decide +kernel)) ggX9_room_X9_findTicket
theorem dX9_room_0 : decode cX9_room 0 = .ok (.aload_n 0, 1) := by decide +kernel
theorem dX9_room_1 : decode cX9_room 1 = .ok (.iload_n 1, 1) := by decide +kernel
theorem dX9_room_2 : decode cX9_room 2 = .ok (.invokevirtual 248, 3) := by decide +kernel
set_option maxRecDepth 20000 in
theorem ggX9_setStand_X9_demandRange : GoodIn wsX9_setStand wsX9_demandRange := goodIn_ca (goodIn_r _ [7, 1, 2] (by decide +kernel) (by decide +kernel)) (goodIn_sub (fun _ h => List.mem_cons_of_mem _ (List.mem_append_left _ (List.mem_append_right _ h))) (by decide +kernel))
set_option maxRecDepth 20000 in
theorem gX9_setStand_X9_demandRange : GoodIn wsX9_setStand (va_wsS RX9 82 yX9_demandRange wsX9_demandRange) := goodIn_app (goodIn_of _ (by decide +kernel)) ggX9_setStand_X9_demandRange
theorem dX9_setStand_0 : decode cX9_setStand 0 = .ok (.iload_n 1, 1) := by decide +kernel
theorem dX9_setStand_1 : decode cX9_setStand 1 = .ok (.ifCond .lt 12, 3) := by decide +kernel
theorem dX9_setStand_4 : decode cX9_setStand 4 = .ok (.iload_n 1, 1) := by decide +kernel
theorem dX9_setStand_5 : decode cX9_setStand 5 = .ok (.aload_n 0, 1) := by decide +kernel
theorem dX9_setStand_6 : decode cX9_setStand 6 = .ok (.getfield 45, 3) := by decide +kernel
theorem dX9_setStand_9 : decode cX9_setStand 9 = .ok (.arraylength, 1) := by decide +kernel
theorem dX9_setStand_10 : decode cX9_setStand 10 = .ok (.if_icmp .lt 14, 3) := by decide +kernel
theorem dX9_setStand_13 : decode cX9_setStand 13 = .ok (.new 62, 3) := by decide +kernel
theorem dX9_setStand_16 : decode cX9_setStand 16 = .ok (.dup, 1) := by decide +kernel
theorem dX9_setStand_17 : decode cX9_setStand 17 = .ok (.ldc_w 408, 3) := by decide +kernel
theorem dX9_setStand_20 : decode cX9_setStand 20 = .ok (.invokespecial 66, 3) := by decide +kernel
theorem dX9_setStand_23 : decode cX9_setStand 23 = .ok (.athrow, 1) := by decide +kernel
theorem dX9_setStand_24 : decode cX9_setStand 24 = .ok (.iload_n 2, 1) := by decide +kernel
theorem dX9_setStand_25 : decode cX9_setStand 25 = .ok (.iconst 1, 1) := by decide +kernel
theorem dX9_setStand_26 : decode cX9_setStand 26 = .ok (.sipush 240, 3) := by decide +kernel
theorem dX9_setStand_29 : decode cX9_setStand 29 = .ok (.invokestatic 82, 3) := by decide +kernel
theorem dX9_setStand_32 : decode cX9_setStand 32 = .ok (.aload_n 0, 1) := by decide +kernel
theorem dX9_setStand_33 : decode cX9_setStand 33 = .ok (.getfield 45, 3) := by decide +kernel
theorem dX9_setStand_36 : decode cX9_setStand 36 = .ok (.iload_n 1, 1) := by decide +kernel
theorem dX9_setStand_37 : decode cX9_setStand 37 = .ok (.iaload, 1) := by decide +kernel
theorem dX9_setStand_38 : decode cX9_setStand 38 = .ok (.istore_n 3, 1) := by decide +kernel
theorem dX9_setStand_39 : decode cX9_setStand 39 = .ok (.aload_n 0, 1) := by decide +kernel
theorem dX9_setStand_40 : decode cX9_setStand 40 = .ok (.getfield 45, 3) := by decide +kernel
theorem dX9_setStand_43 : decode cX9_setStand 43 = .ok (.iload_n 1, 1) := by decide +kernel
theorem dX9_setStand_44 : decode cX9_setStand 44 = .ok (.iload_n 2, 1) := by decide +kernel
theorem dX9_setStand_45 : decode cX9_setStand 45 = .ok (.iastore, 1) := by decide +kernel
theorem dX9_setStand_46 : decode cX9_setStand 46 = .ok (.iload_n 3, 1) := by decide +kernel
theorem dX9_setStand_47 : decode cX9_setStand 47 = .ok (.ireturn, 1) := by decide +kernel
set_option maxRecDepth 20000 in
theorem ggX9_lastOn_X9_findTicket : GoodIn wsX9_lastOn wsX9_findTicket := goodIn_ca (goodIn_r _ [15, 16, 17, 18, 66, 67, 68, 69, 70, 71, 72, 73, 74, 75, 76, 77, 78, 79] (by decide +kernel) (by decide +kernel)) (goodIn_sub (fun _ h => List.mem_cons_of_mem _ (List.mem_append_left _ (List.mem_append_right _ h))) (by decide +kernel))
set_option maxRecDepth 20000 in
theorem gX9_lastOn_X9_findTicket : GoodIn wsX9_lastOn (wsV RX9 248 RX9 yX9_findTicket wsX9_findTicket) := goodIn_app (goodIn_of _ (by decide +kernel)) ggX9_lastOn_X9_findTicket
theorem dX9_lastOn_0 : decode cX9_lastOn 0 = .ok (.aload_n 0, 1) := by decide +kernel
theorem dX9_lastOn_1 : decode cX9_lastOn 1 = .ok (.iload_n 1, 1) := by decide +kernel
theorem dX9_lastOn_2 : decode cX9_lastOn 2 = .ok (.invokevirtual 248, 3) := by decide +kernel
set_option maxRecDepth 20000 in
theorem ggX9_open_X9_demandRange : GoodIn wsX9_open wsX9_demandRange := goodIn_ca (goodIn_r _ [12, 13, 14] (by decide +kernel) (by decide +kernel)) (goodIn_sub (fun _ h => List.mem_cons_of_mem _ (List.mem_append_right _ h)) (by decide +kernel))
set_option maxRecDepth 20000 in
theorem gX9_open_X9_demandRange : GoodIn wsX9_open (va_wsS RX9 82 yX9_demandRange wsX9_demandRange) := goodIn_app (goodIn_of _ (by decide +kernel)) ggX9_open_X9_demandRange
set_option maxRecDepth 20000 in
theorem ggX9_open_X2_init : GoodIn wsX9_open wsX2_init := goodIn_r _ [17, 18, 19, 20, 21, 22, 37, 38] (by decide +kernel) (by decide +kernel)
set_option maxRecDepth 20000 in
theorem gX9_open_X2_init : GoodIn wsX9_open (wsX2_init) := ggX9_open_X2_init
theorem dX9_open_0 : decode cX9_open 0 = .ok (.iload_n 1, 1) := by decide +kernel
theorem dX9_open_1 : decode cX9_open 1 = .ok (.iconst 1, 1) := by decide +kernel
theorem dX9_open_2 : decode cX9_open 2 = .ok (.sipush 240, 3) := by decide +kernel
theorem dX9_open_5 : decode cX9_open 5 = .ok (.invokestatic 82, 3) := by decide +kernel
theorem dX9_open_8 : decode cX9_open 8 = .ok (.aload_n 0, 1) := by decide +kernel
theorem dX9_open_9 : decode cX9_open 9 = .ok (.getfield 425, 3) := by decide +kernel
theorem dX9_open_12 : decode cX9_open 12 = .ok (.aload_n 0, 1) := by decide +kernel
theorem dX9_open_13 : decode cX9_open 13 = .ok (.getfield 35, 3) := by decide +kernel
theorem dX9_open_16 : decode cX9_open 16 = .ok (.arraylength, 1) := by decide +kernel
theorem dX9_open_17 : decode cX9_open 17 = .ok (.if_icmp .lt 14, 3) := by decide +kernel
theorem dX9_open_31 : decode cX9_open 31 = .ok (.aload_n 0, 1) := by decide +kernel
theorem dX9_open_32 : decode cX9_open 32 = .ok (.getfield 35, 3) := by decide +kernel
theorem dX9_open_35 : decode cX9_open 35 = .ok (.aload_n 0, 1) := by decide +kernel
theorem dX9_open_36 : decode cX9_open 36 = .ok (.getfield 425, 3) := by decide +kernel
theorem dX9_open_39 : decode cX9_open 39 = .ok (.new 33, 3) := by decide +kernel
theorem dX9_open_42 : decode cX9_open 42 = .ok (.dup, 1) := by decide +kernel
theorem dX9_open_43 : decode cX9_open 43 = .ok (.aload_n 0, 1) := by decide +kernel
theorem dX9_open_44 : decode cX9_open 44 = .ok (.getfield 271, 3) := by decide +kernel
theorem dX9_open_47 : decode cX9_open 47 = .ok (.iload_n 1, 1) := by decide +kernel
theorem dX9_open_48 : decode cX9_open 48 = .ok (.invokespecial 430, 3) := by decide +kernel
theorem dX9_open_51 : decode cX9_open 51 = .ok (.aastore, 1) := by decide +kernel
theorem dX9_open_52 : decode cX9_open 52 = .ok (.aload_n 0, 1) := by decide +kernel
theorem dX9_open_53 : decode cX9_open 53 = .ok (.dup, 1) := by decide +kernel
theorem dX9_open_54 : decode cX9_open 54 = .ok (.getfield 425, 3) := by decide +kernel
theorem dX9_open_57 : decode cX9_open 57 = .ok (.dup_x1, 1) := by decide +kernel
theorem dX9_open_58 : decode cX9_open 58 = .ok (.iconst 1, 1) := by decide +kernel
theorem dX9_open_59 : decode cX9_open 59 = .ok (.iadd, 1) := by decide +kernel
theorem dX9_open_60 : decode cX9_open 60 = .ok (.putfield 425, 3) := by decide +kernel
theorem dX9_open_63 : decode cX9_open 63 = .ok (.ireturn, 1) := by decide +kernel
set_option maxRecDepth 20000 in
theorem ggX9_sole_X9_findTicket : GoodIn wsX9_sole wsX9_findTicket := goodIn_ca (goodIn_r _ [23, 24, 25, 26, 79, 80, 81, 82, 83, 84, 85, 86, 87, 88, 89, 90, 91, 92] (by decide +kernel) (by decide +kernel)) (goodIn_sub (fun _ h => List.mem_cons_of_mem _ (List.mem_append_left _ (List.mem_append_right _ h))) (by decide +kernel))
set_option maxRecDepth 20000 in
theorem gX9_sole_X9_findTicket : GoodIn wsX9_sole (wsV RX9 248 RX9 yX9_findTicket wsX9_findTicket) := goodIn_app (goodIn_of _ (by decide +kernel)) ggX9_sole_X9_findTicket
theorem dX9_sole_0 : decode cX9_sole 0 = .ok (.aload_n 0, 1) := by decide +kernel
theorem dX9_sole_1 : decode cX9_sole 1 = .ok (.iload_n 1, 1) := by decide +kernel
theorem dX9_sole_2 : decode cX9_sole 2 = .ok (.invokevirtual 248, 3) := by decide +kernel
set_option maxRecDepth 20000 in
theorem ggX9_takeOff_X9_findTicket : GoodIn wsX9_takeOff wsX9_findTicket := goodIn_ca (goodIn_r _ [14, 15, 16, 17, 53, 54, 55, 56, 57, 58, 59, 60, 61, 62, 63, 64, 65, 66] (by decide +kernel) (by decide +kernel)) (goodIn_sub (fun _ h => List.mem_cons_of_mem _ (List.mem_append_left _ (List.mem_append_right _ h))) (by decide +kernel))
set_option maxRecDepth 20000 in
theorem gX9_takeOff_X9_findTicket : GoodIn wsX9_takeOff (wsV RX9 248 RX9 yX9_findTicket wsX9_findTicket) := goodIn_app (goodIn_of _ (by decide +kernel)) ggX9_takeOff_X9_findTicket
theorem dX9_takeOff_0 : decode cX9_takeOff 0 = .ok (.aload_n 0, 1) := by decide +kernel
theorem dX9_takeOff_1 : decode cX9_takeOff 1 = .ok (.iload_n 1, 1) := by decide +kernel
theorem dX9_takeOff_2 : decode cX9_takeOff 2 = .ok (.invokevirtual 248, 3) := by decide +kernel
set_option maxRecDepth 20000 in
theorem ggX9_pack_X9_findTicket : GoodIn wsX9_pack wsX9_findTicket := goodIn_ca (goodIn_r _ [10, 11, 12, 13, 32, 33, 34, 35, 36, 37, 38, 39, 40, 41, 42, 43, 44, 45] (by decide +kernel) (by decide +kernel)) (goodIn_sub (fun _ h => List.mem_cons_of_mem _ (List.mem_append_left _ (List.mem_append_right _ h))) (by decide +kernel))
set_option maxRecDepth 20000 in
theorem gX9_pack_X9_findTicket : GoodIn wsX9_pack (wsV RX9 248 RX9 yX9_findTicket wsX9_findTicket) := goodIn_app (goodIn_of _ (by decide +kernel)) ggX9_pack_X9_findTicket
theorem dX9_pack_0 : decode cX9_pack 0 = .ok (.aload_n 0, 1) := by decide +kernel
theorem dX9_pack_1 : decode cX9_pack 1 = .ok (.iload_n 1, 1) := by decide +kernel
theorem dX9_pack_2 : decode cX9_pack 2 = .ok (.invokevirtual 248, 3) := by decide +kernel
set_option maxRecDepth 20000 in
theorem ggX9_test_X9_findTicket : GoodIn wsX9_test wsX9_findTicket := goodIn_ca (goodIn_r _ [12, 13, 14, 15, 35, 36, 37, 38, 39, 40, 41, 42, 43, 44, 45, 46, 47, 48] (by decide +kernel) (by decide +kernel)) (goodIn_sub (fun _ h => List.mem_cons_of_mem _ (List.mem_append_right _ h)) (by decide +kernel))
set_option maxRecDepth 20000 in
theorem gX9_test_X9_findTicket : GoodIn wsX9_test (wsV RX9 248 RX9 yX9_findTicket wsX9_findTicket) := goodIn_app (goodIn_of _ (by decide +kernel)) ggX9_test_X9_findTicket
theorem dX9_test_0 : decode cX9_test 0 = .ok (.aload_n 0, 1) := by decide +kernel
theorem dX9_test_1 : decode cX9_test 1 = .ok (.iload_n 1, 1) := by decide +kernel
theorem dX9_test_2 : decode cX9_test 2 = .ok (.invokevirtual 248, 3) := by decide +kernel
set_option maxRecDepth 20000 in
theorem ggX9_comeBack_X9_findTicket : GoodIn wsX9_comeBack wsX9_findTicket := goodIn_ca (goodIn_r _ [9, 10, 11, 12, 26, 27, 28, 29, 30, 31, 32, 33, 34, 35, 36, 37, 38, 39] (by decide +kernel) (by decide +kernel)) (goodIn_sub (fun _ h => List.mem_cons_of_mem _ (List.mem_append_right _ h)) (by decide +kernel))
set_option maxRecDepth 20000 in
theorem gX9_comeBack_X9_findTicket : GoodIn wsX9_comeBack (wsV RX9 248 RX9 yX9_findTicket wsX9_findTicket) := goodIn_app (goodIn_of _ (by decide +kernel)) ggX9_comeBack_X9_findTicket
theorem dX9_comeBack_0 : decode cX9_comeBack 0 = .ok (.aload_n 0, 1) := by decide +kernel
theorem dX9_comeBack_1 : decode cX9_comeBack 1 = .ok (.iload_n 1, 1) := by decide +kernel
theorem dX9_comeBack_2 : decode cX9_comeBack 2 = .ok (.invokevirtual 248, 3) := by decide +kernel
set_option maxRecDepth 20000 in
theorem ggX9_hideOf_X9_findTicket : GoodIn wsX9_hideOf wsX9_findTicket := goodIn_ca (goodIn_r _ [8, 9, 10, 11, 40, 41, 42, 43, 44, 45, 46, 47, 48, 49, 50, 51, 52, 53] (by decide +kernel) (by decide +kernel)) (goodIn_sub (fun _ h => List.mem_cons_of_mem _ (List.mem_append_left _ (List.mem_append_right _ h))) (by decide +kernel))
set_option maxRecDepth 20000 in
theorem gX9_hideOf_X9_findTicket : GoodIn wsX9_hideOf (wsV RX9 248 RX9 yX9_findTicket wsX9_findTicket) := goodIn_app (goodIn_of _ (by decide +kernel)) ggX9_hideOf_X9_findTicket
theorem dX9_hideOf_0 : decode cX9_hideOf 0 = .ok (.aload_n 0, 1) := by decide +kernel
theorem dX9_hideOf_1 : decode cX9_hideOf 1 = .ok (.iload_n 1, 1) := by decide +kernel
theorem dX9_hideOf_2 : decode cX9_hideOf 2 = .ok (.invokevirtual 248, 3) := by decide +kernel
set_option maxRecDepth 20000 in
theorem ggX9_sewerOf_X9_findTicket : GoodIn wsX9_sewerOf wsX9_findTicket := goodIn_ca (goodIn_r _ [8, 9, 10, 11, 40, 41, 42, 43, 44, 45, 46, 47, 48, 49, 50, 51, 52, 53] (by decide +kernel) (by decide +kernel)) (goodIn_sub (fun _ h => List.mem_cons_of_mem _ (List.mem_append_left _ (List.mem_append_right _ h))) (by decide +kernel))
set_option maxRecDepth 20000 in
theorem gX9_sewerOf_X9_findTicket : GoodIn wsX9_sewerOf (wsV RX9 248 RX9 yX9_findTicket wsX9_findTicket) := goodIn_app (goodIn_of _ (by decide +kernel)) ggX9_sewerOf_X9_findTicket
theorem dX9_sewerOf_0 : decode cX9_sewerOf 0 = .ok (.aload_n 0, 1) := by decide +kernel
theorem dX9_sewerOf_1 : decode cX9_sewerOf 1 = .ok (.iload_n 1, 1) := by decide +kernel
theorem dX9_sewerOf_2 : decode cX9_sewerOf 2 = .ok (.invokevirtual 248, 3) := by decide +kernel
theorem dX9_checksum_0 : decode cX9_checksum 0 = .ok (.lconst 0, 1) := by decide +kernel
theorem dX9_checksum_1 : decode cX9_checksum 1 = .ok (.lstore_n 1, 1) := by decide +kernel
theorem dX9_checksum_2 : decode cX9_checksum 2 = .ok (.aload_n 0, 1) := by decide +kernel
theorem dX9_checksum_3 : decode cX9_checksum 3 = .ok (.getfield 29, 3) := by decide +kernel
theorem dX9_checksum_6 : decode cX9_checksum 6 = .ok (.astore_n 3, 1) := by decide +kernel
theorem dX9_checksum_7 : decode cX9_checksum 7 = .ok (.aload_n 3, 1) := by decide +kernel
theorem dX9_checksum_8 : decode cX9_checksum 8 = .ok (.arraylength, 1) := by decide +kernel
theorem dX9_checksum_9 : decode cX9_checksum 9 = .ok (.istore 4, 2) := by decide +kernel
theorem dX9_checksum_11 : decode cX9_checksum 11 = .ok (.iconst 0, 1) := by decide +kernel
theorem dX9_checksum_12 : decode cX9_checksum 12 = .ok (.istore 5, 2) := by decide +kernel
theorem dX9_checksum_14 : decode cX9_checksum 14 = .ok (.iload 5, 2) := by decide +kernel
theorem dX9_checksum_16 : decode cX9_checksum 16 = .ok (.iload 4, 2) := by decide +kernel
theorem dX9_checksum_18 : decode cX9_checksum 18 = .ok (.if_icmp .ge 53, 3) := by decide +kernel
theorem dX9_checksum_21 : decode cX9_checksum 21 = .ok (.aload_n 3, 1) := by decide +kernel
theorem dX9_checksum_22 : decode cX9_checksum 22 = .ok (.iload 5, 2) := by decide +kernel
theorem dX9_checksum_24 : decode cX9_checksum 24 = .ok (.aaload, 1) := by decide +kernel
theorem dX9_checksum_25 : decode cX9_checksum 25 = .ok (.astore 6, 2) := by decide +kernel
theorem dX9_checksum_27 : decode cX9_checksum 27 = .ok (.aload 6, 2) := by decide +kernel
theorem dX9_checksum_29 : decode cX9_checksum 29 = .ok (.ifnull 36, 3) := by decide +kernel
theorem dX9_checksum_65 : decode cX9_checksum 65 = .ok (.iinc 5 1, 3) := by decide +kernel
theorem dX9_checksum_68 : decode cX9_checksum 68 = .ok (.goto (-54), 3) := by decide +kernel
theorem dX9_checksum_71 : decode cX9_checksum 71 = .ok (.lload_n 1, 1) := by decide +kernel
theorem dX9_checksum_72 : decode cX9_checksum 72 = .ok (.lreturn, 1) := by decide +kernel
theorem dX9_packedShare_0 : decode cX9_packedShare 0 = .ok (.aload_n 0, 1) := by decide +kernel
theorem dX9_packedShare_1 : decode cX9_packedShare 1 = .ok (.getfield 348, 3) := by decide +kernel
theorem dX9_packedShare_4 : decode cX9_packedShare 4 = .ok (.ifCond .ne 14, 3) := by decide +kernel
theorem dX9_packedShare_7 : decode cX9_packedShare 7 = .ok (.new 505, 3) := by decide +kernel
theorem dX9_packedShare_10 : decode cX9_packedShare 10 = .ok (.dup, 1) := by decide +kernel
theorem dX9_packedShare_11 : decode cX9_packedShare 11 = .ok (.ldc_w 507, 3) := by decide +kernel
theorem dX9_packedShare_14 : decode cX9_packedShare 14 = .ok (.invokespecial 509, 3) := by decide +kernel
theorem dX9_packedShare_17 : decode cX9_packedShare 17 = .ok (.athrow, 1) := by decide +kernel
theorem dX9_meanWaste_0 : decode cX9_meanWaste 0 = .ok (.aload_n 0, 1) := by decide +kernel
theorem dX9_meanWaste_1 : decode cX9_meanWaste 1 = .ok (.getfield 227, 3) := by decide +kernel
theorem dX9_meanWaste_4 : decode cX9_meanWaste 4 = .ok (.ifCond .ne 14, 3) := by decide +kernel
theorem dX9_meanWaste_7 : decode cX9_meanWaste 7 = .ok (.new 505, 3) := by decide +kernel
theorem dX9_meanWaste_10 : decode cX9_meanWaste 10 = .ok (.dup, 1) := by decide +kernel
theorem dX9_meanWaste_11 : decode cX9_meanWaste 11 = .ok (.ldc_w 510, 3) := by decide +kernel
theorem dX9_meanWaste_14 : decode cX9_meanWaste 14 = .ok (.invokespecial 509, 3) := by decide +kernel
theorem dX9_meanWaste_17 : decode cX9_meanWaste 17 = .ok (.athrow, 1) := by decide +kernel
theorem dX9_isSound_0 : decode cX9_isSound 0 = .ok (.aload_n 0, 1) := by decide +kernel
theorem dX9_isSound_1 : decode cX9_isSound 1 = .ok (.getfield 29, 3) := by decide +kernel
theorem dX9_isSound_4 : decode cX9_isSound 4 = .ok (.astore_n 1, 1) := by decide +kernel
theorem dX9_isSound_5 : decode cX9_isSound 5 = .ok (.aload_n 1, 1) := by decide +kernel
theorem dX9_isSound_6 : decode cX9_isSound 6 = .ok (.arraylength, 1) := by decide +kernel
theorem dX9_isSound_7 : decode cX9_isSound 7 = .ok (.istore_n 2, 1) := by decide +kernel
theorem dX9_isSound_8 : decode cX9_isSound 8 = .ok (.iconst 0, 1) := by decide +kernel
theorem dX9_isSound_9 : decode cX9_isSound 9 = .ok (.istore_n 3, 1) := by decide +kernel
theorem dX9_isSound_10 : decode cX9_isSound 10 = .ok (.iload_n 3, 1) := by decide +kernel
theorem dX9_isSound_11 : decode cX9_isSound 11 = .ok (.iload_n 2, 1) := by decide +kernel
theorem dX9_isSound_12 : decode cX9_isSound 12 = .ok (.if_icmp .ge 29, 3) := by decide +kernel
theorem dX9_isSound_15 : decode cX9_isSound 15 = .ok (.aload_n 1, 1) := by decide +kernel
theorem dX9_isSound_16 : decode cX9_isSound 16 = .ok (.iload_n 3, 1) := by decide +kernel
theorem dX9_isSound_17 : decode cX9_isSound 17 = .ok (.aaload, 1) := by decide +kernel
theorem dX9_isSound_18 : decode cX9_isSound 18 = .ok (.astore 4, 2) := by decide +kernel
theorem dX9_isSound_20 : decode cX9_isSound 20 = .ok (.aload 4, 2) := by decide +kernel
theorem dX9_isSound_22 : decode cX9_isSound 22 = .ok (.ifnull 13, 3) := by decide +kernel
theorem dX9_isSound_35 : decode cX9_isSound 35 = .ok (.iinc 3 1, 3) := by decide +kernel
theorem dX9_isSound_38 : decode cX9_isSound 38 = .ok (.goto (-28), 3) := by decide +kernel
theorem dX9_isSound_41 : decode cX9_isSound 41 = .ok (.iconst 1, 1) := by decide +kernel
theorem dX9_isSound_42 : decode cX9_isSound 42 = .ok (.ireturn, 1) := by decide +kernel
def modB (a b : Int32) : Bool := rg a 1500 3500 && rg b 10 99
def standB (a b : Int32) : Bool := rg a 0 4 && rg b 1 240
theorem in_lt {n k : Int32} {N : Nat} (hk : k.toInt = N) (h1 : ¬ n < 0) (h2 : n < k) : vp_in n N := in_ge hk h1 (fun q => absurd h2 (Int32.not_lt.mpr q))
theorem not_le4 {a : Int32} (h : ¬ a < 5) : ¬ a ≤ 4 := by
  rw [Int32.lt_iff_toInt_lt] at h
  rw [Int32.le_iff_toInt_le]
  have e5 : (5 : Int32).toInt = 5 := by decide
  have e4 : (4 : Int32).toInt = 4 := by decide
  omega
theorem le4 {a : Int32} (h : a < 5) : a ≤ 4 := by
  rw [Int32.lt_iff_toInt_lt] at h
  rw [Int32.le_iff_toInt_le]
  have e5 : (5 : Int32).toInt = 5 := by decide
  have e4 : (4 : Int32).toInt = 4 := by decide
  omega
theorem in_cl {i : Int32} {N : Nat} (h : vp_in i N) : i.toNatClampNeg < N := by
  simp only [vp_in, not_or] at h
  omega
def misB (a b c : Int32) : Bool := footB a b && rg c 15 50
-- ===== the calls of the class on a fresh object =====
set_option maxHeartbeats 4000000 in
set_option maxRecDepth 100000 in
/-- Operator() -/
theorem c_Operator (l : Launch) (D : va_G) (tC tE sz : Nat) (h0 : Nat) : Met l yX4_init wsX4_init ({ frames := 1, cells := 0, slots := 0, locals := 12 }) (Pg D tC tE sz [(h0, .inr (8, [.int 0, .int 0, .int 0, .int 0]))] [] [.ref h0]) (Qgv (S := Unit) D (fun u => [(h0, .inr (8, [.int 0, .int 0, .int 0, .int 0]))]) (fun u => []) (fun _ => True) (va_A [(h0, .inr (8, [.int 0, .int 0, .int 0, .int 0]))] sz)) 0 0 (va_A [(h0, .inr (8, [.int 0, .int 0, .int 0, .int 0]))] sz) := by
  refine og_m (cc := cX4_init) (maxL := 1) (ret := none) (Qc := Qgv (S := Unit) D (fun u => [(h0, .inr (8, [.int 0, .int 0, .int 0, .int 0]))]) (fun u => []) (fun _ => True)) (by decide) rfl (Nat.le_of_ble_eq_true rfl) ?_
  intro p e s m below meth c A hx hb hr hml hts hown hlocks hin hP hD hK hG hA hS ls hl
  have hl : lv_has ls 1 [(0, .ref h0)] := hl
  refine lv_aload_n hx hb dX4_init_0 rfl (lv_at hl 0 rfl) ?_
  refine W.objInit hx hb hown (hts (.methodLink RX4 1 objectInit) (List.mem_of_getElem? (i := 1) rfl)) (hts (.instanceMethod objectInit) (List.mem_of_getElem? (i := 2) rfl)) (hts (.code objectInit ⟨#[0xb1]⟩ 1 none) (List.mem_of_getElem? (i := 3) rfl)) rfl (by rw [hml]; exact hl.1) rfl dX4_init_1 (Nat.le_of_ble_eq_true rfl) (Nat.le_of_ble_eq_true rfl) ?_
  refine W.eq (g2 := F0 m 4 ls []) rfl ?_
  have hP9 := hP.sub (ws' := [(h0, .inr (8, [.int 0, .int 0, .int 0, .int 0]))]) [0] rfl
  have hD9 := hD.sub (ws' := [(h0, .inr (8, [.int 0, .int 0, .int 0, .int 0]))]) [0] (by decide) rfl
  have hK9 := hK.sub (tys' := []) [] rfl
  exact end_v hx hb hr hlocks hP9 hD9 hK9 hS () rfl rfl trivial (Nat.le_of_ble_eq_true rfl) (Nat.le_of_ble_eq_true rfl) dX4_init_4
set_option maxHeartbeats 4000000 in
set_option maxRecDepth 100000 in
/-- Model(girth, grade) -/
theorem c_Model (l : Launch) (D : va_G) (tC tE sz : Nat) (h0 : Nat) (g gr : Int32) : Met l yX3_init wsX3_init ({ frames := 1, cells := 1, slots := 36, locals := 12 }) (Pg D tC tE sz [(h0, .inr (7, [.int 0, .int 0, .null]))] [] [.ref h0, .int g, .int gr]) (Qgv (S := Nat) D (fun u => [(h0, .inr (7, [.int g, .int gr, .ref u]))]) (fun u => []) (fun _ => True) (va_A [(h0, .inr (7, [.int 0, .int 0, .null]))] sz)) 1 36 (va_A [(h0, .inr (7, [.int 0, .int 0, .null]))] sz) := by
  refine og_m (cc := cX3_init) (maxL := 3) (ret := none) (Qc := Qgv (S := Nat) D (fun u => [(h0, .inr (7, [.int g, .int gr, .ref u]))]) (fun u => []) (fun _ => True)) (by decide) rfl (Nat.le_of_ble_eq_true rfl) ?_
  intro p e s m below meth c A hx hb hr hml hts hown hlocks hin hP hD hK hG hA hS ls hl
  have hl : lv_has ls 3 [(0, .ref h0), (1, .int g), (2, .int gr)] := hl
  refine lv_aload_n hx hb dX3_init_0 rfl (lv_at hl 0 rfl) ?_
  refine W.objInit hx hb hown (hts (.methodLink RX3 3 objectInit) (List.mem_of_getElem? (i := 1) rfl)) (hts (.instanceMethod objectInit) (List.mem_of_getElem? (i := 2) rfl)) (hts (.code objectInit ⟨#[0xb1]⟩ 1 none) (List.mem_of_getElem? (i := 3) rfl)) rfl (by rw [hml]; exact hl.1) rfl dX3_init_1 (Nat.le_of_ble_eq_true rfl) (Nat.le_of_ble_eq_true rfl) ?_
  refine W.eq (g2 := F0 m 4 ls []) rfl ?_
  refine lv_aload_n hx hb dX3_init_4 rfl (lv_at hl 0 rfl) ?_
  refine lv_bipush (v := 36) hx hb dX3_init_5 (by decide) ?_
  refine va_newa (atype := .int) (ty := .int) (N' := 36) (a0 := (36, .inl (fun _ => 0))) hx hb (hts (.arrayClass .int) (List.mem_of_getElem? (i := 4) rfl)) rfl hK hP hD hS hA (fun _ => rfl) (by decide) (by decide) (by decide) (Nat.le_of_ble_eq_true rfl) (Nat.le_of_ble_eq_true rfl) dX3_init_7 (fun q_1 k_2 H hK hP hD hS => ?_)
  have hP : va_P D vwCl [(h0, .inr (7, [.int 0, .int 0, .null])), (q_1, .inl (k_2, 36, .inl (fun _ => 0)))] H := hP
  have hD : va_D A [(h0, .inr (7, [.int 0, .int 0, .null])), (q_1, .inl (k_2, 36, .inl (fun _ => 0)))] := hD
  have hK : va_K D vwCl [(k_2, .int)] s := hK
  refine W.widen (k := 1) (n := 36) (Nat.le_of_ble_eq_true rfl) (Nat.le_of_ble_eq_true rfl) ?_
  refine va_putF (D := D) (ci := 7) (v := .ref q_1) (ty := .array (.int)) (C := RX3) (T := TX3) (N := 3) hx hb hts (fun w h => List.mem_cons_of_mem _ (List.mem_append_right _ h)) tyX3 tyX3_ok nmX3 hown hK hP hD hS 0 rfl rfl 2 (by decide) (hts (.fieldLink RX3 9 "Lastroom$Model" "pairs" "[I") (List.mem_of_getElem? (i := 5) rfl)) (fun _ h9 => h9) rfl hin rfl (by decide +kernel) rfl rfl (Nat.le_of_ble_eq_true rfl) dX3_init_9 (fun H locs hP hD hS => ?_)
  have hP : va_P D vwCl [(h0, .inr (7, [.int 0, .int 0, .ref q_1])), (q_1, .inl (k_2, 36, .inl (fun _ => 0)))] H := hP
  have hD : va_D A [(h0, .inr (7, [.int 0, .int 0, .ref q_1])), (q_1, .inl (k_2, 36, .inl (fun _ => 0)))] := hD
  refine lv_aload_n hx hb dX3_init_12 rfl (lv_at hl 0 rfl) ?_
  refine lv_iload_n hx hb dX3_init_13 rfl (lv_at hl 1 rfl) ?_
  refine va_putF (D := D) (ci := 7) (v := .int g) (ty := .int) (C := RX3) (T := TX3) (N := 3) hx hb hts (fun w h => List.mem_cons_of_mem _ (List.mem_append_right _ h)) tyX3 tyX3_ok nmX3 hown hK hP hD hS 0 rfl rfl 0 (by decide) (hts (.fieldLink RX3 15 "Lastroom$Model" "middleGirth" "I") (List.mem_of_getElem? (i := 6) rfl)) (fun _ h9 => h9) rfl hin rfl (by decide +kernel) rfl rfl (Nat.le_of_ble_eq_true rfl) dX3_init_14 (fun H locs hP hD hS => ?_)
  have hP : va_P D vwCl [(h0, .inr (7, [.int g, .int 0, .ref q_1])), (q_1, .inl (k_2, 36, .inl (fun _ => 0)))] H := hP
  have hD : va_D A [(h0, .inr (7, [.int g, .int 0, .ref q_1])), (q_1, .inl (k_2, 36, .inl (fun _ => 0)))] := hD
  refine lv_aload_n hx hb dX3_init_17 rfl (lv_at hl 0 rfl) ?_
  refine lv_iload_n hx hb dX3_init_18 rfl (lv_at hl 2 rfl) ?_
  refine va_putF (D := D) (ci := 7) (v := .int gr) (ty := .int) (C := RX3) (T := TX3) (N := 3) hx hb hts (fun w h => List.mem_cons_of_mem _ (List.mem_append_right _ h)) tyX3 tyX3_ok nmX3 hown hK hP hD hS 0 rfl rfl 1 (by decide) (hts (.fieldLink RX3 19 "Lastroom$Model" "grade" "I") (List.mem_of_getElem? (i := 7) rfl)) (fun _ h9 => h9) rfl hin rfl (by decide +kernel) rfl rfl (Nat.le_of_ble_eq_true rfl) dX3_init_19 (fun H locs hP hD hS => ?_)
  have hP : va_P D vwCl [(h0, .inr (7, [.int g, .int gr, .ref q_1])), (q_1, .inl (k_2, 36, .inl (fun _ => 0)))] H := hP
  have hD : va_D A [(h0, .inr (7, [.int g, .int gr, .ref q_1])), (q_1, .inl (k_2, 36, .inl (fun _ => 0)))] := hD
  have hP9 := hP.sub (ws' := [(h0, .inr (7, [.int g, .int gr, .ref q_1]))]) [0] rfl
  have hD9 := hD.sub (ws' := [(h0, .inr (7, [.int g, .int gr, .ref q_1]))]) [0] (by decide) rfl
  have hK9 := hK.sub (tys' := []) [] rfl
  exact end_v hx hb hr hlocks hP9 hD9 hK9 hS q_1 rfl rfl trivial (Nat.le_of_ble_eq_true rfl) (Nat.le_of_ble_eq_true rfl) dX3_init_22
set_option maxHeartbeats 4000000 in
set_option maxRecDepth 100000 in
/-- Lot(openedAt, minutes) -/
theorem c_Lot (l : Launch) (D : va_G) (tC tE sz : Nat) (h0 : Nat) (o n : Int32) : Met l yX2_init wsX2_init ({ frames := 1, cells := 0, slots := 0, locals := 12 }) (Pg D tC tE sz [(h0, .inr (6, [.int 0, .int 0]))] [] [.ref h0, .int o, .int n]) (Qgv (S := Unit) D (fun u => [(h0, .inr (6, [.int o, .int n]))]) (fun u => []) (fun _ => True) (va_A [(h0, .inr (6, [.int 0, .int 0]))] sz)) 0 0 (va_A [(h0, .inr (6, [.int 0, .int 0]))] sz) := by
  refine og_m (cc := cX2_init) (maxL := 3) (ret := none) (Qc := Qgv (S := Unit) D (fun u => [(h0, .inr (6, [.int o, .int n]))]) (fun u => []) (fun _ => True)) (by decide) rfl (Nat.le_of_ble_eq_true rfl) ?_
  intro p e s m below meth c A hx hb hr hml hts hown hlocks hin hP hD hK hG hA hS ls hl
  have hl : lv_has ls 3 [(0, .ref h0), (1, .int o), (2, .int n)] := hl
  refine lv_aload_n hx hb dX2_init_0 rfl (lv_at hl 0 rfl) ?_
  refine W.objInit hx hb hown (hts (.methodLink RX2 1 objectInit) (List.mem_of_getElem? (i := 1) rfl)) (hts (.instanceMethod objectInit) (List.mem_of_getElem? (i := 2) rfl)) (hts (.code objectInit ⟨#[0xb1]⟩ 1 none) (List.mem_of_getElem? (i := 3) rfl)) rfl (by rw [hml]; exact hl.1) rfl dX2_init_1 (Nat.le_of_ble_eq_true rfl) (Nat.le_of_ble_eq_true rfl) ?_
  refine W.eq (g2 := F0 m 4 ls []) rfl ?_
  refine lv_aload_n hx hb dX2_init_4 rfl (lv_at hl 0 rfl) ?_
  refine lv_iload_n hx hb dX2_init_5 rfl (lv_at hl 1 rfl) ?_
  refine va_putF (D := D) (ci := 6) (v := .int o) (ty := .int) (C := RX2) (T := TX2) (N := 2) hx hb hts (fun w h => List.mem_cons_of_mem _ (List.mem_append_right _ h)) tyX2 tyX2_ok nmX2 hown hK hP hD hS 0 rfl rfl 0 (by decide) (hts (.fieldLink RX2 7 "Lastroom$Lot" "openedAt" "I") (List.mem_of_getElem? (i := 4) rfl)) (fun _ h9 => h9) rfl hin rfl (by decide +kernel) rfl rfl (Nat.le_of_ble_eq_true rfl) dX2_init_6 (fun H locs hP hD hS => ?_)
  have hP : va_P D vwCl [(h0, .inr (6, [.int o, .int 0]))] H := hP
  have hD : va_D A [(h0, .inr (6, [.int o, .int 0]))] := hD
  refine lv_aload_n hx hb dX2_init_9 rfl (lv_at hl 0 rfl) ?_
  refine lv_iload_n hx hb dX2_init_10 rfl (lv_at hl 2 rfl) ?_
  refine va_putF (D := D) (ci := 6) (v := .int n) (ty := .int) (C := RX2) (T := TX2) (N := 2) hx hb hts (fun w h => List.mem_cons_of_mem _ (List.mem_append_right _ h)) tyX2 tyX2_ok nmX2 hown hK hP hD hS 0 rfl rfl 1 (by decide) (hts (.fieldLink RX2 13 "Lastroom$Lot" "minutes" "I") (List.mem_of_getElem? (i := 5) rfl)) (fun _ h9 => h9) rfl hin rfl (by decide +kernel) rfl rfl (Nat.le_of_ble_eq_true rfl) dX2_init_11 (fun H locs hP hD hS => ?_)
  have hP : va_P D vwCl [(h0, .inr (6, [.int o, .int n]))] H := hP
  have hD : va_D A [(h0, .inr (6, [.int o, .int n]))] := hD
  have hP9 := hP.sub (ws' := [(h0, .inr (6, [.int o, .int n]))]) [0] rfl
  have hD9 := hD.sub (ws' := [(h0, .inr (6, [.int o, .int n]))]) [0] (by decide) rfl
  have hK9 := hK.sub (tys' := []) [] rfl
  exact end_v hx hb hr hlocks hP9 hD9 hK9 hS () rfl rfl trivial (Nat.le_of_ble_eq_true rfl) (Nat.le_of_ble_eq_true rfl) dX2_init_14
set_option maxHeartbeats 4000000 in
set_option maxRecDepth 100000 in
/-- girth on a fresh object -/
theorem c_girth (l : Launch) (hlt : l.stackTraces = false) (D : va_G) (tC tE sz : Nat) (x q0 q1 q2 q3 q4 q5 q6 : Nat) (k0 : ClassId) (a1 a2 : Int32) : vx_Met l yX9_girth wsX9_girth ({ frames := 7, cells := 1, slots := 6, locals := 104 }) (Pg D tC tE sz [(x, .inr (13, [.ref q0, .ref q1, .ref q2, .ref q3, .ref q4, .ref q5, .ref q6, .int 0, .int 0, .int 0, .int 0, .int 0, .int 0, .int 0])), (q0, .inl (k0, 5, .inr (.inr (.inr (.inr (fun _ => none))))))] [(k0, .object "Lastroom$Model")] [.ref x, .int a1, .int a2]) (Qgi (S := Unit) D (fun u => []) (fun u => []) (fun _ _ => False) (va_A [(x, .inr (13, [.ref q0, .ref q1, .ref q2, .ref q3, .ref q4, .ref q5, .ref q6, .int 0, .int 0, .int 0, .int 0, .int 0, .int 0, .int 0])), (q0, .inl (k0, 5, .inr (.inr (.inr (.inr (fun _ => none))))))] sz)) (XX (fun E => E = gx_ioo) (va_A [(x, .inr (13, [.ref q0, .ref q1, .ref q2, .ref q3, .ref q4, .ref q5, .ref q6, .int 0, .int 0, .int 0, .int 0, .int 0, .int 0, .int 0])), (q0, .inl (k0, 5, .inr (.inr (.inr (.inr (fun _ => none))))))] sz)) 1 6 (va_A [(x, .inr (13, [.ref q0, .ref q1, .ref q2, .ref q3, .ref q4, .ref q5, .ref q6, .int 0, .int 0, .int 0, .int 0, .int 0, .int 0, .int 0])), (q0, .inl (k0, 5, .inr (.inr (.inr (.inr (fun _ => none))))))] sz) := by
  refine og_x (cc := cX9_girth) (maxL := 4) (ret := (some .int)) (Qc := Qgi (S := Unit) D (fun u => []) (fun u => []) (fun _ _ => False)) (XC := XX (fun E => E = gx_ioo)) (by decide) rfl (Nat.le_of_ble_eq_true rfl) ?_
  intro p e s m below meth c A hx hb hr hml hts hown hlocks hin htab hP hD hK hG hA hS ls hl
  have hl : lv_has ls 4 [(0, .ref x), (1, .int a1), (2, .int a2)] := hl
  refine lv_aload_n hx hb dX9_girth_0 rfl (lv_at hl 0 rfl) ?_
  refine lv_iload_n hx hb dX9_girth_1 rfl (lv_at hl 1 rfl) ?_
  have hFc := va_free (wc := [(x, .inr (13, [.ref q0, .ref q1, .ref q2, .ref q3, .ref q4, .ref q5, .ref q6, .int 0, .int 0, .int 0, .int 0, .int 0, .int 0, .int 0])), (q0, .inl (k0, 5, .inr (.inr (.inr (.inr (fun _ => none))))))]) hD hS hA [0, 1] rfl
  refine vx_callr (vx_runV (As := [.int a1]) (rest := []) ⟨hx, hb, hml, hown, hts⟩ (c_findModel l hlt D tC tE s.heap.size x q0 q1 q2 q3 q4 q5 q6 k0 a1) (cwV 1 hts gX9_girth_X9_findModel rfl rfl rfl (by decide +kernel) ⟨(Nat.le_of_ble_eq_true rfl), (Nat.le_of_ble_eq_true rfl)⟩) ⟨pg_blind, (va_recv hK hP (ci := 13) (q0 := 0) rfl rfl), (pg_pre hP hD hK hG hS hFc [0, 1] rfl (by decide) [0] rfl _)⟩ rfl rfl hl.1 rfl (lv_room (Nat.le_of_ble_eq_true rfl)) dX9_girth_2 ⟨(Nat.le_of_ble_eq_true rfl), (Nat.le_of_ble_eq_true rfl)⟩) hS (fun q _ h => hFc q h) hFc (fun q _ h => hFc q h) (fun E ce q9 u t H1 locs1 ht hvm hw hB hz1 hk1 hS hce hcv hcl => ?_) (fun u_2 r_1 t H locs ht hvm hw hB hz1 hk1 hS => ?_)
  · subst hB
    exact vx_widen (k := 1) (n := 6) (Nat.le_of_ble_eq_true rfl) (Nat.le_of_ble_eq_true rfl) (vx_out (fun x hx => (htab x hx).elim) hlocks hce hcv hcl (xx_out hS rfl) hS.2.2 (Nat.le_of_ble_eq_true rfl) (Nat.le_of_ble_eq_true rfl))
  · exact hw.elim
set_option maxHeartbeats 4000000 in
set_option maxRecDepth 100000 in
/-- setLasts on a fresh object -/
theorem c_setLasts (l : Launch) (hlt : l.stackTraces = false) (D : va_G) (tC tE sz : Nat) (x q0 q1 q2 q3 q4 q5 q6 : Nat) (k0 : ClassId) (a1 a2 a3 : Int32) : vx_Met l yX9_setLasts wsX9_setLasts ({ frames := 7, cells := 1, slots := 6, locals := 104 }) (Pg D tC tE sz [(x, .inr (13, [.ref q0, .ref q1, .ref q2, .ref q3, .ref q4, .ref q5, .ref q6, .int 0, .int 0, .int 0, .int 0, .int 0, .int 0, .int 0])), (q0, .inl (k0, 5, .inr (.inr (.inr (.inr (fun _ => none))))))] [(k0, .object "Lastroom$Model")] [.ref x, .int a1, .int a2, .int a3]) (Qgi (S := Unit) D (fun u => []) (fun u => []) (fun _ _ => False) (va_A [(x, .inr (13, [.ref q0, .ref q1, .ref q2, .ref q3, .ref q4, .ref q5, .ref q6, .int 0, .int 0, .int 0, .int 0, .int 0, .int 0, .int 0])), (q0, .inl (k0, 5, .inr (.inr (.inr (.inr (fun _ => none))))))] sz)) (XX (fun E => E = gx_ioo) (va_A [(x, .inr (13, [.ref q0, .ref q1, .ref q2, .ref q3, .ref q4, .ref q5, .ref q6, .int 0, .int 0, .int 0, .int 0, .int 0, .int 0, .int 0])), (q0, .inl (k0, 5, .inr (.inr (.inr (.inr (fun _ => none))))))] sz)) 1 6 (va_A [(x, .inr (13, [.ref q0, .ref q1, .ref q2, .ref q3, .ref q4, .ref q5, .ref q6, .int 0, .int 0, .int 0, .int 0, .int 0, .int 0, .int 0])), (q0, .inl (k0, 5, .inr (.inr (.inr (.inr (fun _ => none))))))] sz) := by
  refine og_x (cc := cX9_setLasts) (maxL := 6) (ret := (some .int)) (Qc := Qgi (S := Unit) D (fun u => []) (fun u => []) (fun _ _ => False)) (XC := XX (fun E => E = gx_ioo)) (by decide) rfl (Nat.le_of_ble_eq_true rfl) ?_
  intro p e s m below meth c A hx hb hr hml hts hown hlocks hin htab hP hD hK hG hA hS ls hl
  have hl : lv_has ls 6 [(0, .ref x), (1, .int a1), (2, .int a2), (3, .int a3)] := hl
  refine lv_aload_n hx hb dX9_setLasts_0 rfl (lv_at hl 0 rfl) ?_
  refine lv_iload_n hx hb dX9_setLasts_1 rfl (lv_at hl 1 rfl) ?_
  have hFc := va_free (wc := [(x, .inr (13, [.ref q0, .ref q1, .ref q2, .ref q3, .ref q4, .ref q5, .ref q6, .int 0, .int 0, .int 0, .int 0, .int 0, .int 0, .int 0])), (q0, .inl (k0, 5, .inr (.inr (.inr (.inr (fun _ => none))))))]) hD hS hA [0, 1] rfl
  refine vx_callr (vx_runV (As := [.int a1]) (rest := []) ⟨hx, hb, hml, hown, hts⟩ (c_findModel l hlt D tC tE s.heap.size x q0 q1 q2 q3 q4 q5 q6 k0 a1) (cwV 1 hts gX9_setLasts_X9_findModel rfl rfl rfl (by decide +kernel) ⟨(Nat.le_of_ble_eq_true rfl), (Nat.le_of_ble_eq_true rfl)⟩) ⟨pg_blind, (va_recv hK hP (ci := 13) (q0 := 0) rfl rfl), (pg_pre hP hD hK hG hS hFc [0, 1] rfl (by decide) [0] rfl _)⟩ rfl rfl hl.1 rfl (lv_room (Nat.le_of_ble_eq_true rfl)) dX9_setLasts_2 ⟨(Nat.le_of_ble_eq_true rfl), (Nat.le_of_ble_eq_true rfl)⟩) hS (fun q _ h => hFc q h) hFc (fun q _ h => hFc q h) (fun E ce q9 u t H1 locs1 ht hvm hw hB hz1 hk1 hS hce hcv hcl => ?_) (fun u_2 r_1 t H locs ht hvm hw hB hz1 hk1 hS => ?_)
  · subst hB
    exact vx_widen (k := 1) (n := 6) (Nat.le_of_ble_eq_true rfl) (Nat.le_of_ble_eq_true rfl) (vx_out (fun x hx => (htab x hx).elim) hlocks hce hcv hcl (xx_out hS rfl) hS.2.2 (Nat.le_of_ble_eq_true rfl) (Nat.le_of_ble_eq_true rfl))
  · exact hw.elim
set_option maxHeartbeats 4000000 in
set_option maxRecDepth 100000 in
/-- freeLasts on a fresh object -/
theorem c_freeLasts (l : Launch) (hlt : l.stackTraces = false) (D : va_G) (tC tE sz : Nat) (x q0 q1 q2 q3 q4 q5 q6 : Nat) (k0 : ClassId) (a1 a2 : Int32) : vx_Met l yX9_freeLasts wsX9_freeLasts ({ frames := 7, cells := 1, slots := 6, locals := 104 }) (Pg D tC tE sz [(x, .inr (13, [.ref q0, .ref q1, .ref q2, .ref q3, .ref q4, .ref q5, .ref q6, .int 0, .int 0, .int 0, .int 0, .int 0, .int 0, .int 0])), (q0, .inl (k0, 5, .inr (.inr (.inr (.inr (fun _ => none))))))] [(k0, .object "Lastroom$Model")] [.ref x, .int a1, .int a2]) (Qgi (S := Unit) D (fun u => []) (fun u => []) (fun _ _ => False) (va_A [(x, .inr (13, [.ref q0, .ref q1, .ref q2, .ref q3, .ref q4, .ref q5, .ref q6, .int 0, .int 0, .int 0, .int 0, .int 0, .int 0, .int 0])), (q0, .inl (k0, 5, .inr (.inr (.inr (.inr (fun _ => none))))))] sz)) (XX (fun E => E = gx_ioo) (va_A [(x, .inr (13, [.ref q0, .ref q1, .ref q2, .ref q3, .ref q4, .ref q5, .ref q6, .int 0, .int 0, .int 0, .int 0, .int 0, .int 0, .int 0])), (q0, .inl (k0, 5, .inr (.inr (.inr (.inr (fun _ => none))))))] sz)) 1 6 (va_A [(x, .inr (13, [.ref q0, .ref q1, .ref q2, .ref q3, .ref q4, .ref q5, .ref q6, .int 0, .int 0, .int 0, .int 0, .int 0, .int 0, .int 0])), (q0, .inl (k0, 5, .inr (.inr (.inr (.inr (fun _ => none))))))] sz) := by
  refine og_x (cc := cX9_freeLasts) (maxL := 4) (ret := (some .int)) (Qc := Qgi (S := Unit) D (fun u => []) (fun u => []) (fun _ _ => False)) (XC := XX (fun E => E = gx_ioo)) (by decide) rfl (Nat.le_of_ble_eq_true rfl) ?_
  intro p e s m below meth c A hx hb hr hml hts hown hlocks hin htab hP hD hK hG hA hS ls hl
  have hl : lv_has ls 4 [(0, .ref x), (1, .int a1), (2, .int a2)] := hl
  refine lv_aload_n hx hb dX9_freeLasts_0 rfl (lv_at hl 0 rfl) ?_
  refine lv_iload_n hx hb dX9_freeLasts_1 rfl (lv_at hl 1 rfl) ?_
  have hFc := va_free (wc := [(x, .inr (13, [.ref q0, .ref q1, .ref q2, .ref q3, .ref q4, .ref q5, .ref q6, .int 0, .int 0, .int 0, .int 0, .int 0, .int 0, .int 0])), (q0, .inl (k0, 5, .inr (.inr (.inr (.inr (fun _ => none))))))]) hD hS hA [0, 1] rfl
  refine vx_callr (vx_runV (As := [.int a1]) (rest := []) ⟨hx, hb, hml, hown, hts⟩ (c_findModel l hlt D tC tE s.heap.size x q0 q1 q2 q3 q4 q5 q6 k0 a1) (cwV 1 hts gX9_freeLasts_X9_findModel rfl rfl rfl (by decide +kernel) ⟨(Nat.le_of_ble_eq_true rfl), (Nat.le_of_ble_eq_true rfl)⟩) ⟨pg_blind, (va_recv hK hP (ci := 13) (q0 := 0) rfl rfl), (pg_pre hP hD hK hG hS hFc [0, 1] rfl (by decide) [0] rfl _)⟩ rfl rfl hl.1 rfl (lv_room (Nat.le_of_ble_eq_true rfl)) dX9_freeLasts_2 ⟨(Nat.le_of_ble_eq_true rfl), (Nat.le_of_ble_eq_true rfl)⟩) hS (fun q _ h => hFc q h) hFc (fun q _ h => hFc q h) (fun E ce q9 u t H1 locs1 ht hvm hw hB hz1 hk1 hS hce hcv hcl => ?_) (fun u_2 r_1 t H locs ht hvm hw hB hz1 hk1 hS => ?_)
  · subst hB
    exact vx_widen (k := 1) (n := 6) (Nat.le_of_ble_eq_true rfl) (Nat.le_of_ble_eq_true rfl) (vx_out (fun x hx => (htab x hx).elim) hlocks hce hcv hcl (xx_out hS rfl) hS.2.2 (Nat.le_of_ble_eq_true rfl) (Nat.le_of_ble_eq_true rfl))
  · exact hw.elim
set_option maxHeartbeats 4000000 in
set_option maxRecDepth 100000 in
/-- missingLasts on a fresh object -/
theorem c_missingLasts (l : Launch) (hlt : l.stackTraces = false) (D : va_G) (tC tE sz : Nat) (x q0 q1 q2 q3 q4 q5 q6 : Nat) (k0 : ClassId) (a1 a2 : Int32) : vx_Met l yX9_missingLasts wsX9_missingLasts ({ frames := 7, cells := 1, slots := 6, locals := 104 }) (Pg D tC tE sz [(x, .inr (13, [.ref q0, .ref q1, .ref q2, .ref q3, .ref q4, .ref q5, .ref q6, .int 0, .int 0, .int 0, .int 0, .int 0, .int 0, .int 0])), (q0, .inl (k0, 5, .inr (.inr (.inr (.inr (fun _ => none))))))] [(k0, .object "Lastroom$Model")] [.ref x, .int a1, .int a2]) (Qgi (S := Unit) D (fun u => []) (fun u => []) (fun _ _ => False) (va_A [(x, .inr (13, [.ref q0, .ref q1, .ref q2, .ref q3, .ref q4, .ref q5, .ref q6, .int 0, .int 0, .int 0, .int 0, .int 0, .int 0, .int 0])), (q0, .inl (k0, 5, .inr (.inr (.inr (.inr (fun _ => none))))))] sz)) (XX (fun E => E = gx_ioo) (va_A [(x, .inr (13, [.ref q0, .ref q1, .ref q2, .ref q3, .ref q4, .ref q5, .ref q6, .int 0, .int 0, .int 0, .int 0, .int 0, .int 0, .int 0])), (q0, .inl (k0, 5, .inr (.inr (.inr (.inr (fun _ => none))))))] sz)) 1 6 (va_A [(x, .inr (13, [.ref q0, .ref q1, .ref q2, .ref q3, .ref q4, .ref q5, .ref q6, .int 0, .int 0, .int 0, .int 0, .int 0, .int 0, .int 0])), (q0, .inl (k0, 5, .inr (.inr (.inr (.inr (fun _ => none))))))] sz) := by
  refine og_x (cc := cX9_missingLasts) (maxL := 4) (ret := (some .int)) (Qc := Qgi (S := Unit) D (fun u => []) (fun u => []) (fun _ _ => False)) (XC := XX (fun E => E = gx_ioo)) (by decide) rfl (Nat.le_of_ble_eq_true rfl) ?_
  intro p e s m below meth c A hx hb hr hml hts hown hlocks hin htab hP hD hK hG hA hS ls hl
  have hl : lv_has ls 4 [(0, .ref x), (1, .int a1), (2, .int a2)] := hl
  refine lv_aload_n hx hb dX9_missingLasts_0 rfl (lv_at hl 0 rfl) ?_
  refine lv_iload_n hx hb dX9_missingLasts_1 rfl (lv_at hl 1 rfl) ?_
  have hFc := va_free (wc := [(x, .inr (13, [.ref q0, .ref q1, .ref q2, .ref q3, .ref q4, .ref q5, .ref q6, .int 0, .int 0, .int 0, .int 0, .int 0, .int 0, .int 0])), (q0, .inl (k0, 5, .inr (.inr (.inr (.inr (fun _ => none))))))]) hD hS hA [0, 1] rfl
  refine vx_callr (vx_runV (As := [.int a1]) (rest := []) ⟨hx, hb, hml, hown, hts⟩ (c_findModel l hlt D tC tE s.heap.size x q0 q1 q2 q3 q4 q5 q6 k0 a1) (cwV 1 hts gX9_missingLasts_X9_findModel rfl rfl rfl (by decide +kernel) ⟨(Nat.le_of_ble_eq_true rfl), (Nat.le_of_ble_eq_true rfl)⟩) ⟨pg_blind, (va_recv hK hP (ci := 13) (q0 := 0) rfl rfl), (pg_pre hP hD hK hG hS hFc [0, 1] rfl (by decide) [0] rfl _)⟩ rfl rfl hl.1 rfl (lv_room (Nat.le_of_ble_eq_true rfl)) dX9_missingLasts_2 ⟨(Nat.le_of_ble_eq_true rfl), (Nat.le_of_ble_eq_true rfl)⟩) hS (fun q _ h => hFc q h) hFc (fun q _ h => hFc q h) (fun E ce q9 u t H1 locs1 ht hvm hw hB hz1 hk1 hS hce hcv hcl => ?_) (fun u_2 r_1 t H locs ht hvm hw hB hz1 hk1 hS => ?_)
  · subst hB
    exact vx_widen (k := 1) (n := 6) (Nat.le_of_ble_eq_true rfl) (Nat.le_of_ble_eq_true rfl) (vx_out (fun x hx => (htab x hx).elim) hlocks hce hcv hcl (xx_out hS rfl) hS.2.2 (Nat.le_of_ble_eq_true rfl) (Nat.le_of_ble_eq_true rfl))
  · exact hw.elim
set_option maxHeartbeats 4000000 in
set_option maxRecDepth 100000 in
/-- style on a fresh object -/
theorem c_style (l : Launch) (hlt : l.stackTraces = false) (D : va_G) (tC tE sz : Nat) (x q0 q1 q2 q3 q4 q5 q6 : Nat) (k0 : ClassId) (a1 a2 a3 a4 : Int32) : vx_Met l yX9_style wsX9_style ({ frames := 7, cells := 1, slots := 6, locals := 104 }) (Pg D tC tE sz [(x, .inr (13, [.ref q0, .ref q1, .ref q2, .ref q3, .ref q4, .ref q5, .ref q6, .int 0, .int 0, .int 0, .int 0, .int 0, .int 0, .int 0])), (q0, .inl (k0, 5, .inr (.inr (.inr (.inr (fun _ => none))))))] [(k0, .object "Lastroom$Model")] [.ref x, .int a1, .int a2, .int a3, .int a4]) (Qgi (S := Unit) D (fun u => []) (fun u => []) (fun _ _ => False) (va_A [(x, .inr (13, [.ref q0, .ref q1, .ref q2, .ref q3, .ref q4, .ref q5, .ref q6, .int 0, .int 0, .int 0, .int 0, .int 0, .int 0, .int 0])), (q0, .inl (k0, 5, .inr (.inr (.inr (.inr (fun _ => none))))))] sz)) (XX (fun E => E = gx_ioo) (va_A [(x, .inr (13, [.ref q0, .ref q1, .ref q2, .ref q3, .ref q4, .ref q5, .ref q6, .int 0, .int 0, .int 0, .int 0, .int 0, .int 0, .int 0])), (q0, .inl (k0, 5, .inr (.inr (.inr (.inr (fun _ => none))))))] sz)) 1 6 (va_A [(x, .inr (13, [.ref q0, .ref q1, .ref q2, .ref q3, .ref q4, .ref q5, .ref q6, .int 0, .int 0, .int 0, .int 0, .int 0, .int 0, .int 0])), (q0, .inl (k0, 5, .inr (.inr (.inr (.inr (fun _ => none))))))] sz) := by
  refine og_x (cc := cX9_style) (maxL := 6) (ret := (some .int)) (Qc := Qgi (S := Unit) D (fun u => []) (fun u => []) (fun _ _ => False)) (XC := XX (fun E => E = gx_ioo)) (by decide) rfl (Nat.le_of_ble_eq_true rfl) ?_
  intro p e s m below meth c A hx hb hr hml hts hown hlocks hin htab hP hD hK hG hA hS ls hl
  have hl : lv_has ls 6 [(0, .ref x), (1, .int a1), (2, .int a2), (3, .int a3), (4, .int a4)] := hl
  refine lv_aload_n hx hb dX9_style_0 rfl (lv_at hl 0 rfl) ?_
  refine lv_iload_n hx hb dX9_style_1 rfl (lv_at hl 1 rfl) ?_
  have hFc := va_free (wc := [(x, .inr (13, [.ref q0, .ref q1, .ref q2, .ref q3, .ref q4, .ref q5, .ref q6, .int 0, .int 0, .int 0, .int 0, .int 0, .int 0, .int 0])), (q0, .inl (k0, 5, .inr (.inr (.inr (.inr (fun _ => none))))))]) hD hS hA [0, 1] rfl
  refine vx_callr (vx_runV (As := [.int a1]) (rest := []) ⟨hx, hb, hml, hown, hts⟩ (c_findModel l hlt D tC tE s.heap.size x q0 q1 q2 q3 q4 q5 q6 k0 a1) (cwV 1 hts gX9_style_X9_findModel rfl rfl rfl (by decide +kernel) ⟨(Nat.le_of_ble_eq_true rfl), (Nat.le_of_ble_eq_true rfl)⟩) ⟨pg_blind, (va_recv hK hP (ci := 13) (q0 := 0) rfl rfl), (pg_pre hP hD hK hG hS hFc [0, 1] rfl (by decide) [0] rfl _)⟩ rfl rfl hl.1 rfl (lv_room (Nat.le_of_ble_eq_true rfl)) dX9_style_2 ⟨(Nat.le_of_ble_eq_true rfl), (Nat.le_of_ble_eq_true rfl)⟩) hS (fun q _ h => hFc q h) hFc (fun q _ h => hFc q h) (fun E ce q9 u t H1 locs1 ht hvm hw hB hz1 hk1 hS hce hcv hcl => ?_) (fun u_2 r_1 t H locs ht hvm hw hB hz1 hk1 hS => ?_)
  · subst hB
    exact vx_widen (k := 1) (n := 6) (Nat.le_of_ble_eq_true rfl) (Nat.le_of_ble_eq_true rfl) (vx_out (fun x hx => (htab x hx).elim) hlocks hce hcv hcl (xx_out hS rfl) hS.2.2 (Nat.le_of_ble_eq_true rfl) (Nat.le_of_ble_eq_true rfl))
  · exact hw.elim
set_option maxHeartbeats 4000000 in
set_option maxRecDepth 100000 in
/-- piece on a fresh object -/
theorem c_piece (l : Launch) (hlt : l.stackTraces = false) (D : va_G) (tC tE sz : Nat) (x q0 q1 q2 q3 q4 q5 q6 : Nat) (k1 : ClassId) (a1 a2 a3 a4 a5 a6 : Int32) : vx_Met l yX9_piece wsX9_piece ({ frames := 7, cells := 1, slots := 6, locals := 104 }) (Pg D tC tE sz [(x, .inr (13, [.ref q0, .ref q1, .ref q2, .ref q3, .ref q4, .ref q5, .ref q6, .int 0, .int 0, .int 0, .int 0, .int 0, .int 0, .int 0])), (q1, .inl (k1, 6, .inr (.inr (.inr (.inr (fun _ => none))))))] [(k1, .object "Lastroom$Style")] [.ref x, .int a1, .int a2, .int a3, .int a4, .int a5, .int a6]) (Qgi (S := Unit) D (fun u => []) (fun u => []) (fun _ _ => False) (va_A [(x, .inr (13, [.ref q0, .ref q1, .ref q2, .ref q3, .ref q4, .ref q5, .ref q6, .int 0, .int 0, .int 0, .int 0, .int 0, .int 0, .int 0])), (q1, .inl (k1, 6, .inr (.inr (.inr (.inr (fun _ => none))))))] sz)) (XX (fun E => E = gx_ioo) (va_A [(x, .inr (13, [.ref q0, .ref q1, .ref q2, .ref q3, .ref q4, .ref q5, .ref q6, .int 0, .int 0, .int 0, .int 0, .int 0, .int 0, .int 0])), (q1, .inl (k1, 6, .inr (.inr (.inr (.inr (fun _ => none))))))] sz)) 1 6 (va_A [(x, .inr (13, [.ref q0, .ref q1, .ref q2, .ref q3, .ref q4, .ref q5, .ref q6, .int 0, .int 0, .int 0, .int 0, .int 0, .int 0, .int 0])), (q1, .inl (k1, 6, .inr (.inr (.inr (.inr (fun _ => none))))))] sz) := by
  refine og_x (cc := cX9_piece) (maxL := 8) (ret := (some .int)) (Qc := Qgi (S := Unit) D (fun u => []) (fun u => []) (fun _ _ => False)) (XC := XX (fun E => E = gx_ioo)) (by decide) rfl (Nat.le_of_ble_eq_true rfl) ?_
  intro p e s m below meth c A hx hb hr hml hts hown hlocks hin htab hP hD hK hG hA hS ls hl
  have hl : lv_has ls 8 [(0, .ref x), (1, .int a1), (2, .int a2), (3, .int a3), (4, .int a4), (5, .int a5), (6, .int a6)] := hl
  refine lv_aload_n hx hb dX9_piece_0 rfl (lv_at hl 0 rfl) ?_
  refine lv_iload_n hx hb dX9_piece_1 rfl (lv_at hl 1 rfl) ?_
  have hFc := va_free (wc := [(x, .inr (13, [.ref q0, .ref q1, .ref q2, .ref q3, .ref q4, .ref q5, .ref q6, .int 0, .int 0, .int 0, .int 0, .int 0, .int 0, .int 0])), (q1, .inl (k1, 6, .inr (.inr (.inr (.inr (fun _ => none))))))]) hD hS hA [0, 1] rfl
  refine vx_callr (vx_runV (As := [.int a1]) (rest := []) ⟨hx, hb, hml, hown, hts⟩ (c_findStyle l hlt D tC tE s.heap.size x q0 q1 q2 q3 q4 q5 q6 k1 a1) (cwV 1 hts gX9_piece_X9_findStyle rfl rfl rfl (by decide +kernel) ⟨(Nat.le_of_ble_eq_true rfl), (Nat.le_of_ble_eq_true rfl)⟩) ⟨pg_blind, (va_recv hK hP (ci := 13) (q0 := 0) rfl rfl), (pg_pre hP hD hK hG hS hFc [0, 1] rfl (by decide) [0] rfl _)⟩ rfl rfl hl.1 rfl (lv_room (Nat.le_of_ble_eq_true rfl)) dX9_piece_2 ⟨(Nat.le_of_ble_eq_true rfl), (Nat.le_of_ble_eq_true rfl)⟩) hS (fun q _ h => hFc q h) hFc (fun q _ h => hFc q h) (fun E ce q9 u t H1 locs1 ht hvm hw hB hz1 hk1 hS hce hcv hcl => ?_) (fun u_2 r_1 t H locs ht hvm hw hB hz1 hk1 hS => ?_)
  · subst hB
    exact vx_widen (k := 1) (n := 6) (Nat.le_of_ble_eq_true rfl) (Nat.le_of_ble_eq_true rfl) (vx_out (fun x hx => (htab x hx).elim) hlocks hce hcv hcl (xx_out hS rfl) hS.2.2 (Nat.le_of_ble_eq_true rfl) (Nat.le_of_ble_eq_true rfl))
  · exact hw.elim
set_option maxHeartbeats 4000000 in
set_option maxRecDepth 100000 in
/-- seam on a fresh object -/
theorem c_seam (l : Launch) (hlt : l.stackTraces = false) (D : va_G) (tC tE sz : Nat) (x q0 q1 q2 q3 q4 q5 q6 : Nat) (k1 : ClassId) (a1 a2 a3 a4 : Int32) : vx_Met l yX9_seam wsX9_seam ({ frames := 7, cells := 1, slots := 6, locals := 104 }) (Pg D tC tE sz [(x, .inr (13, [.ref q0, .ref q1, .ref q2, .ref q3, .ref q4, .ref q5, .ref q6, .int 0, .int 0, .int 0, .int 0, .int 0, .int 0, .int 0])), (q1, .inl (k1, 6, .inr (.inr (.inr (.inr (fun _ => none))))))] [(k1, .object "Lastroom$Style")] [.ref x, .int a1, .int a2, .int a3, .int a4]) (Qgi (S := Unit) D (fun u => []) (fun u => []) (fun _ _ => False) (va_A [(x, .inr (13, [.ref q0, .ref q1, .ref q2, .ref q3, .ref q4, .ref q5, .ref q6, .int 0, .int 0, .int 0, .int 0, .int 0, .int 0, .int 0])), (q1, .inl (k1, 6, .inr (.inr (.inr (.inr (fun _ => none))))))] sz)) (XX (fun E => E = gx_ioo) (va_A [(x, .inr (13, [.ref q0, .ref q1, .ref q2, .ref q3, .ref q4, .ref q5, .ref q6, .int 0, .int 0, .int 0, .int 0, .int 0, .int 0, .int 0])), (q1, .inl (k1, 6, .inr (.inr (.inr (.inr (fun _ => none))))))] sz)) 1 6 (va_A [(x, .inr (13, [.ref q0, .ref q1, .ref q2, .ref q3, .ref q4, .ref q5, .ref q6, .int 0, .int 0, .int 0, .int 0, .int 0, .int 0, .int 0])), (q1, .inl (k1, 6, .inr (.inr (.inr (.inr (fun _ => none))))))] sz) := by
  refine og_x (cc := cX9_seam) (maxL := 6) (ret := (some .int)) (Qc := Qgi (S := Unit) D (fun u => []) (fun u => []) (fun _ _ => False)) (XC := XX (fun E => E = gx_ioo)) (by decide) rfl (Nat.le_of_ble_eq_true rfl) ?_
  intro p e s m below meth c A hx hb hr hml hts hown hlocks hin htab hP hD hK hG hA hS ls hl
  have hl : lv_has ls 6 [(0, .ref x), (1, .int a1), (2, .int a2), (3, .int a3), (4, .int a4)] := hl
  refine lv_aload_n hx hb dX9_seam_0 rfl (lv_at hl 0 rfl) ?_
  refine lv_iload_n hx hb dX9_seam_1 rfl (lv_at hl 1 rfl) ?_
  have hFc := va_free (wc := [(x, .inr (13, [.ref q0, .ref q1, .ref q2, .ref q3, .ref q4, .ref q5, .ref q6, .int 0, .int 0, .int 0, .int 0, .int 0, .int 0, .int 0])), (q1, .inl (k1, 6, .inr (.inr (.inr (.inr (fun _ => none))))))]) hD hS hA [0, 1] rfl
  refine vx_callr (vx_runV (As := [.int a1]) (rest := []) ⟨hx, hb, hml, hown, hts⟩ (c_findStyle l hlt D tC tE s.heap.size x q0 q1 q2 q3 q4 q5 q6 k1 a1) (cwV 1 hts gX9_seam_X9_findStyle rfl rfl rfl (by decide +kernel) ⟨(Nat.le_of_ble_eq_true rfl), (Nat.le_of_ble_eq_true rfl)⟩) ⟨pg_blind, (va_recv hK hP (ci := 13) (q0 := 0) rfl rfl), (pg_pre hP hD hK hG hS hFc [0, 1] rfl (by decide) [0] rfl _)⟩ rfl rfl hl.1 rfl (lv_room (Nat.le_of_ble_eq_true rfl)) dX9_seam_2 ⟨(Nat.le_of_ble_eq_true rfl), (Nat.le_of_ble_eq_true rfl)⟩) hS (fun q _ h => hFc q h) hFc (fun q _ h => hFc q h) (fun E ce q9 u t H1 locs1 ht hvm hw hB hz1 hk1 hS hce hcv hcl => ?_) (fun u_2 r_1 t H locs ht hvm hw hB hz1 hk1 hS => ?_)
  · subst hB
    exact vx_widen (k := 1) (n := 6) (Nat.le_of_ble_eq_true rfl) (Nat.le_of_ble_eq_true rfl) (vx_out (fun x hx => (htab x hx).elim) hlocks hce hcv hcl (xx_out hS rfl) hS.2.2 (Nat.le_of_ble_eq_true rfl) (Nat.le_of_ble_eq_true rfl))
  · exact hw.elim
set_option maxHeartbeats 4000000 in
set_option maxRecDepth 100000 in
/-- pieceCells on a fresh object -/
theorem c_pieceCells (l : Launch) (hlt : l.stackTraces = false) (D : va_G) (tC tE sz : Nat) (x q0 q1 q2 q3 q4 q5 q6 : Nat) (k1 : ClassId) (a1 a2 a3 a4 : Int32) : vx_Met l yX9_pieceCells wsX9_pieceCells ({ frames := 7, cells := 1, slots := 6, locals := 104 }) (Pg D tC tE sz [(x, .inr (13, [.ref q0, .ref q1, .ref q2, .ref q3, .ref q4, .ref q5, .ref q6, .int 0, .int 0, .int 0, .int 0, .int 0, .int 0, .int 0])), (q1, .inl (k1, 6, .inr (.inr (.inr (.inr (fun _ => none))))))] [(k1, .object "Lastroom$Style")] [.ref x, .int a1, .int a2, .int a3, .int a4]) (Qgi (S := Unit) D (fun u => []) (fun u => []) (fun _ _ => False) (va_A [(x, .inr (13, [.ref q0, .ref q1, .ref q2, .ref q3, .ref q4, .ref q5, .ref q6, .int 0, .int 0, .int 0, .int 0, .int 0, .int 0, .int 0])), (q1, .inl (k1, 6, .inr (.inr (.inr (.inr (fun _ => none))))))] sz)) (XX (fun E => E = gx_ioo) (va_A [(x, .inr (13, [.ref q0, .ref q1, .ref q2, .ref q3, .ref q4, .ref q5, .ref q6, .int 0, .int 0, .int 0, .int 0, .int 0, .int 0, .int 0])), (q1, .inl (k1, 6, .inr (.inr (.inr (.inr (fun _ => none))))))] sz)) 1 6 (va_A [(x, .inr (13, [.ref q0, .ref q1, .ref q2, .ref q3, .ref q4, .ref q5, .ref q6, .int 0, .int 0, .int 0, .int 0, .int 0, .int 0, .int 0])), (q1, .inl (k1, 6, .inr (.inr (.inr (.inr (fun _ => none))))))] sz) := by
  refine og_x (cc := cX9_pieceCells) (maxL := 6) (ret := (some .int)) (Qc := Qgi (S := Unit) D (fun u => []) (fun u => []) (fun _ _ => False)) (XC := XX (fun E => E = gx_ioo)) (by decide) rfl (Nat.le_of_ble_eq_true rfl) ?_
  intro p e s m below meth c A hx hb hr hml hts hown hlocks hin htab hP hD hK hG hA hS ls hl
  have hl : lv_has ls 6 [(0, .ref x), (1, .int a1), (2, .int a2), (3, .int a3), (4, .int a4)] := hl
  refine lv_aload_n hx hb dX9_pieceCells_0 rfl (lv_at hl 0 rfl) ?_
  refine lv_iload_n hx hb dX9_pieceCells_1 rfl (lv_at hl 1 rfl) ?_
  have hFc := va_free (wc := [(x, .inr (13, [.ref q0, .ref q1, .ref q2, .ref q3, .ref q4, .ref q5, .ref q6, .int 0, .int 0, .int 0, .int 0, .int 0, .int 0, .int 0])), (q1, .inl (k1, 6, .inr (.inr (.inr (.inr (fun _ => none))))))]) hD hS hA [0, 1] rfl
  refine vx_callr (vx_runV (As := [.int a1]) (rest := []) ⟨hx, hb, hml, hown, hts⟩ (c_findStyle l hlt D tC tE s.heap.size x q0 q1 q2 q3 q4 q5 q6 k1 a1) (cwV 1 hts gX9_pieceCells_X9_findStyle rfl rfl rfl (by decide +kernel) ⟨(Nat.le_of_ble_eq_true rfl), (Nat.le_of_ble_eq_true rfl)⟩) ⟨pg_blind, (va_recv hK hP (ci := 13) (q0 := 0) rfl rfl), (pg_pre hP hD hK hG hS hFc [0, 1] rfl (by decide) [0] rfl _)⟩ rfl rfl hl.1 rfl (lv_room (Nat.le_of_ble_eq_true rfl)) dX9_pieceCells_2 ⟨(Nat.le_of_ble_eq_true rfl), (Nat.le_of_ble_eq_true rfl)⟩) hS (fun q _ h => hFc q h) hFc (fun q _ h => hFc q h) (fun E ce q9 u t H1 locs1 ht hvm hw hB hz1 hk1 hS hce hcv hcl => ?_) (fun u_2 r_1 t H locs ht hvm hw hB hz1 hk1 hS => ?_)
  · subst hB
    exact vx_widen (k := 1) (n := 6) (Nat.le_of_ble_eq_true rfl) (Nat.le_of_ble_eq_true rfl) (vx_out (fun x hx => (htab x hx).elim) hlocks hce hcv hcl (xx_out hS rfl) hS.2.2 (Nat.le_of_ble_eq_true rfl) (Nat.le_of_ble_eq_true rfl))
  · exact hw.elim
set_option maxHeartbeats 4000000 in
set_option maxRecDepth 100000 in
/-- shortest on a fresh object -/
theorem c_shortest (l : Launch) (hlt : l.stackTraces = false) (D : va_G) (tC tE sz : Nat) (x q0 q1 q2 q3 q4 q5 q6 : Nat) (k1 : ClassId) (a1 : Int32) : vx_Met l yX9_shortest wsX9_shortest ({ frames := 7, cells := 1, slots := 6, locals := 104 }) (Pg D tC tE sz [(x, .inr (13, [.ref q0, .ref q1, .ref q2, .ref q3, .ref q4, .ref q5, .ref q6, .int 0, .int 0, .int 0, .int 0, .int 0, .int 0, .int 0])), (q1, .inl (k1, 6, .inr (.inr (.inr (.inr (fun _ => none))))))] [(k1, .object "Lastroom$Style")] [.ref x, .int a1]) (Qgi (S := Unit) D (fun u => []) (fun u => []) (fun _ _ => False) (va_A [(x, .inr (13, [.ref q0, .ref q1, .ref q2, .ref q3, .ref q4, .ref q5, .ref q6, .int 0, .int 0, .int 0, .int 0, .int 0, .int 0, .int 0])), (q1, .inl (k1, 6, .inr (.inr (.inr (.inr (fun _ => none))))))] sz)) (XX (fun E => E = gx_ioo) (va_A [(x, .inr (13, [.ref q0, .ref q1, .ref q2, .ref q3, .ref q4, .ref q5, .ref q6, .int 0, .int 0, .int 0, .int 0, .int 0, .int 0, .int 0])), (q1, .inl (k1, 6, .inr (.inr (.inr (.inr (fun _ => none))))))] sz)) 1 6 (va_A [(x, .inr (13, [.ref q0, .ref q1, .ref q2, .ref q3, .ref q4, .ref q5, .ref q6, .int 0, .int 0, .int 0, .int 0, .int 0, .int 0, .int 0])), (q1, .inl (k1, 6, .inr (.inr (.inr (.inr (fun _ => none))))))] sz) := by
  refine og_x (cc := cX9_shortest) (maxL := 2) (ret := (some .int)) (Qc := Qgi (S := Unit) D (fun u => []) (fun u => []) (fun _ _ => False)) (XC := XX (fun E => E = gx_ioo)) (by decide) rfl (Nat.le_of_ble_eq_true rfl) ?_
  intro p e s m below meth c A hx hb hr hml hts hown hlocks hin htab hP hD hK hG hA hS ls hl
  have hl : lv_has ls 2 [(0, .ref x), (1, .int a1)] := hl
  refine lv_aload_n hx hb dX9_shortest_0 rfl (lv_at hl 0 rfl) ?_
  refine lv_iload_n hx hb dX9_shortest_1 rfl (lv_at hl 1 rfl) ?_
  have hFc := va_free (wc := [(x, .inr (13, [.ref q0, .ref q1, .ref q2, .ref q3, .ref q4, .ref q5, .ref q6, .int 0, .int 0, .int 0, .int 0, .int 0, .int 0, .int 0])), (q1, .inl (k1, 6, .inr (.inr (.inr (.inr (fun _ => none))))))]) hD hS hA [0, 1] rfl
  refine vx_callr (vx_runV (As := [.int a1]) (rest := []) ⟨hx, hb, hml, hown, hts⟩ (c_findStyle l hlt D tC tE s.heap.size x q0 q1 q2 q3 q4 q5 q6 k1 a1) (cwV 1 hts gX9_shortest_X9_findStyle rfl rfl rfl (by decide +kernel) ⟨(Nat.le_of_ble_eq_true rfl), (Nat.le_of_ble_eq_true rfl)⟩) ⟨pg_blind, (va_recv hK hP (ci := 13) (q0 := 0) rfl rfl), (pg_pre hP hD hK hG hS hFc [0, 1] rfl (by decide) [0] rfl _)⟩ rfl rfl hl.1 rfl (lv_room (Nat.le_of_ble_eq_true rfl)) dX9_shortest_2 ⟨(Nat.le_of_ble_eq_true rfl), (Nat.le_of_ble_eq_true rfl)⟩) hS (fun q _ h => hFc q h) hFc (fun q _ h => hFc q h) (fun E ce q9 u t H1 locs1 ht hvm hw hB hz1 hk1 hS hce hcv hcl => ?_) (fun u_2 r_1 t H locs ht hvm hw hB hz1 hk1 hS => ?_)
  · subst hB
    exact vx_widen (k := 1) (n := 6) (Nat.le_of_ble_eq_true rfl) (Nat.le_of_ble_eq_true rfl) (vx_out (fun x hx => (htab x hx).elim) hlocks hce hcv hcl (xx_out hS rfl) hS.2.2 (Nat.le_of_ble_eq_true rfl) (Nat.le_of_ble_eq_true rfl))
  · exact hw.elim
set_option maxHeartbeats 4000000 in
set_option maxRecDepth 100000 in
/-- bonds on a fresh object -/
theorem c_bonds (l : Launch) (hlt : l.stackTraces = false) (D : va_G) (tC tE sz : Nat) (x q0 q1 q2 q3 q4 q5 q6 : Nat) (k1 : ClassId) (a1 : Int32) : vx_Met l yX9_bonds wsX9_bonds ({ frames := 7, cells := 1, slots := 6, locals := 104 }) (Pg D tC tE sz [(x, .inr (13, [.ref q0, .ref q1, .ref q2, .ref q3, .ref q4, .ref q5, .ref q6, .int 0, .int 0, .int 0, .int 0, .int 0, .int 0, .int 0])), (q1, .inl (k1, 6, .inr (.inr (.inr (.inr (fun _ => none))))))] [(k1, .object "Lastroom$Style")] [.ref x, .int a1]) (Qgi (S := Unit) D (fun u => []) (fun u => []) (fun _ _ => False) (va_A [(x, .inr (13, [.ref q0, .ref q1, .ref q2, .ref q3, .ref q4, .ref q5, .ref q6, .int 0, .int 0, .int 0, .int 0, .int 0, .int 0, .int 0])), (q1, .inl (k1, 6, .inr (.inr (.inr (.inr (fun _ => none))))))] sz)) (XX (fun E => E = gx_ioo) (va_A [(x, .inr (13, [.ref q0, .ref q1, .ref q2, .ref q3, .ref q4, .ref q5, .ref q6, .int 0, .int 0, .int 0, .int 0, .int 0, .int 0, .int 0])), (q1, .inl (k1, 6, .inr (.inr (.inr (.inr (fun _ => none))))))] sz)) 1 6 (va_A [(x, .inr (13, [.ref q0, .ref q1, .ref q2, .ref q3, .ref q4, .ref q5, .ref q6, .int 0, .int 0, .int 0, .int 0, .int 0, .int 0, .int 0])), (q1, .inl (k1, 6, .inr (.inr (.inr (.inr (fun _ => none))))))] sz) := by
  refine og_x (cc := cX9_bonds) (maxL := 2) (ret := (some .boolean)) (Qc := Qgi (S := Unit) D (fun u => []) (fun u => []) (fun _ _ => False)) (XC := XX (fun E => E = gx_ioo)) (by decide) rfl (Nat.le_of_ble_eq_true rfl) ?_
  intro p e s m below meth c A hx hb hr hml hts hown hlocks hin htab hP hD hK hG hA hS ls hl
  have hl : lv_has ls 2 [(0, .ref x), (1, .int a1)] := hl
  refine lv_aload_n hx hb dX9_bonds_0 rfl (lv_at hl 0 rfl) ?_
  refine lv_iload_n hx hb dX9_bonds_1 rfl (lv_at hl 1 rfl) ?_
  have hFc := va_free (wc := [(x, .inr (13, [.ref q0, .ref q1, .ref q2, .ref q3, .ref q4, .ref q5, .ref q6, .int 0, .int 0, .int 0, .int 0, .int 0, .int 0, .int 0])), (q1, .inl (k1, 6, .inr (.inr (.inr (.inr (fun _ => none))))))]) hD hS hA [0, 1] rfl
  refine vx_callr (vx_runV (As := [.int a1]) (rest := []) ⟨hx, hb, hml, hown, hts⟩ (c_findStyle l hlt D tC tE s.heap.size x q0 q1 q2 q3 q4 q5 q6 k1 a1) (cwV 1 hts gX9_bonds_X9_findStyle rfl rfl rfl (by decide +kernel) ⟨(Nat.le_of_ble_eq_true rfl), (Nat.le_of_ble_eq_true rfl)⟩) ⟨pg_blind, (va_recv hK hP (ci := 13) (q0 := 0) rfl rfl), (pg_pre hP hD hK hG hS hFc [0, 1] rfl (by decide) [0] rfl _)⟩ rfl rfl hl.1 rfl (lv_room (Nat.le_of_ble_eq_true rfl)) dX9_bonds_2 ⟨(Nat.le_of_ble_eq_true rfl), (Nat.le_of_ble_eq_true rfl)⟩) hS (fun q _ h => hFc q h) hFc (fun q _ h => hFc q h) (fun E ce q9 u t H1 locs1 ht hvm hw hB hz1 hk1 hS hce hcv hcl => ?_) (fun u_2 r_1 t H locs ht hvm hw hB hz1 hk1 hS => ?_)
  · subst hB
    exact vx_widen (k := 1) (n := 6) (Nat.le_of_ble_eq_true rfl) (Nat.le_of_ble_eq_true rfl) (vx_out (fun x hx => (htab x hx).elim) hlocks hce hcv hcl (xx_out hS rfl) hS.2.2 (Nat.le_of_ble_eq_true rfl) (Nat.le_of_ble_eq_true rfl))
  · exact hw.elim
set_option maxHeartbeats 4000000 in
set_option maxRecDepth 100000 in
/-- ticket on a fresh object -/
theorem c_ticket (l : Launch) (hlt : l.stackTraces = false) (D : va_G) (tC tE sz : Nat) (x q0 q1 q2 q3 q4 q5 q6 : Nat) (k1 : ClassId) (a1 a2 : Int32) : vx_Met l yX9_ticket wsX9_ticket ({ frames := 7, cells := 1, slots := 6, locals := 104 }) (Pg D tC tE sz [(x, .inr (13, [.ref q0, .ref q1, .ref q2, .ref q3, .ref q4, .ref q5, .ref q6, .int 0, .int 0, .int 0, .int 0, .int 0, .int 0, .int 0])), (q1, .inl (k1, 6, .inr (.inr (.inr (.inr (fun _ => none))))))] [(k1, .object "Lastroom$Style")] [.ref x, .int a1, .int a2]) (Qgi (S := Unit) D (fun u => []) (fun u => []) (fun _ _ => False) (va_A [(x, .inr (13, [.ref q0, .ref q1, .ref q2, .ref q3, .ref q4, .ref q5, .ref q6, .int 0, .int 0, .int 0, .int 0, .int 0, .int 0, .int 0])), (q1, .inl (k1, 6, .inr (.inr (.inr (.inr (fun _ => none))))))] sz)) (XX (fun E => E = gx_ioo) (va_A [(x, .inr (13, [.ref q0, .ref q1, .ref q2, .ref q3, .ref q4, .ref q5, .ref q6, .int 0, .int 0, .int 0, .int 0, .int 0, .int 0, .int 0])), (q1, .inl (k1, 6, .inr (.inr (.inr (.inr (fun _ => none))))))] sz)) 1 6 (va_A [(x, .inr (13, [.ref q0, .ref q1, .ref q2, .ref q3, .ref q4, .ref q5, .ref q6, .int 0, .int 0, .int 0, .int 0, .int 0, .int 0, .int 0])), (q1, .inl (k1, 6, .inr (.inr (.inr (.inr (fun _ => none))))))] sz) := by
  refine og_x (cc := cX9_ticket) (maxL := 4) (ret := (some .int)) (Qc := Qgi (S := Unit) D (fun u => []) (fun u => []) (fun _ _ => False)) (XC := XX (fun E => E = gx_ioo)) (by decide) rfl (Nat.le_of_ble_eq_true rfl) ?_
  intro p e s m below meth c A hx hb hr hml hts hown hlocks hin htab hP hD hK hG hA hS ls hl
  have hl : lv_has ls 4 [(0, .ref x), (1, .int a1), (2, .int a2)] := hl
  refine lv_aload_n hx hb dX9_ticket_0 rfl (lv_at hl 0 rfl) ?_
  refine lv_iload_n hx hb dX9_ticket_1 rfl (lv_at hl 1 rfl) ?_
  have hFc := va_free (wc := [(x, .inr (13, [.ref q0, .ref q1, .ref q2, .ref q3, .ref q4, .ref q5, .ref q6, .int 0, .int 0, .int 0, .int 0, .int 0, .int 0, .int 0])), (q1, .inl (k1, 6, .inr (.inr (.inr (.inr (fun _ => none))))))]) hD hS hA [0, 1] rfl
  refine vx_callr (vx_runV (As := [.int a1]) (rest := []) ⟨hx, hb, hml, hown, hts⟩ (c_findStyle l hlt D tC tE s.heap.size x q0 q1 q2 q3 q4 q5 q6 k1 a1) (cwV 1 hts gX9_ticket_X9_findStyle rfl rfl rfl (by decide +kernel) ⟨(Nat.le_of_ble_eq_true rfl), (Nat.le_of_ble_eq_true rfl)⟩) ⟨pg_blind, (va_recv hK hP (ci := 13) (q0 := 0) rfl rfl), (pg_pre hP hD hK hG hS hFc [0, 1] rfl (by decide) [0] rfl _)⟩ rfl rfl hl.1 rfl (lv_room (Nat.le_of_ble_eq_true rfl)) dX9_ticket_2 ⟨(Nat.le_of_ble_eq_true rfl), (Nat.le_of_ble_eq_true rfl)⟩) hS (fun q _ h => hFc q h) hFc (fun q _ h => hFc q h) (fun E ce q9 u t H1 locs1 ht hvm hw hB hz1 hk1 hS hce hcv hcl => ?_) (fun u_2 r_1 t H locs ht hvm hw hB hz1 hk1 hS => ?_)
  · subst hB
    exact vx_widen (k := 1) (n := 6) (Nat.le_of_ble_eq_true rfl) (Nat.le_of_ble_eq_true rfl) (vx_out (fun x hx => (htab x hx).elim) hlocks hce hcv hcl (xx_out hS rfl) hS.2.2 (Nat.le_of_ble_eq_true rfl) (Nat.le_of_ble_eq_true rfl))
  · exact hw.elim
set_option maxHeartbeats 4000000 in
set_option maxRecDepth 100000 in
/-- fault on a fresh object -/
theorem c_fault (l : Launch) (hlt : l.stackTraces = false) (D : va_G) (tC tE sz : Nat) (x q0 q1 q2 q3 q4 q5 q6 : Nat) (k2 : ClassId) (a1 a2 a3 a4 : Int32) : vx_Met l yX9_fault wsX9_fault ({ frames := 7, cells := 1, slots := 6, locals := 104 }) (Pg D tC tE sz [(x, .inr (13, [.ref q0, .ref q1, .ref q2, .ref q3, .ref q4, .ref q5, .ref q6, .int 0, .int 0, .int 0, .int 0, .int 0, .int 0, .int 0])), (q2, .inl (k2, 6, .inr (.inr (.inr (.inr (fun _ => none))))))] [(k2, .object "Lastroom$Hide")] [.ref x, .int a1, .int a2, .int a3, .int a4]) (Qgi (S := Unit) D (fun u => []) (fun u => []) (fun _ _ => False) (va_A [(x, .inr (13, [.ref q0, .ref q1, .ref q2, .ref q3, .ref q4, .ref q5, .ref q6, .int 0, .int 0, .int 0, .int 0, .int 0, .int 0, .int 0])), (q2, .inl (k2, 6, .inr (.inr (.inr (.inr (fun _ => none))))))] sz)) (XX (fun E => E = gx_ioo) (va_A [(x, .inr (13, [.ref q0, .ref q1, .ref q2, .ref q3, .ref q4, .ref q5, .ref q6, .int 0, .int 0, .int 0, .int 0, .int 0, .int 0, .int 0])), (q2, .inl (k2, 6, .inr (.inr (.inr (.inr (fun _ => none))))))] sz)) 1 6 (va_A [(x, .inr (13, [.ref q0, .ref q1, .ref q2, .ref q3, .ref q4, .ref q5, .ref q6, .int 0, .int 0, .int 0, .int 0, .int 0, .int 0, .int 0])), (q2, .inl (k2, 6, .inr (.inr (.inr (.inr (fun _ => none))))))] sz) := by
  refine og_x (cc := cX9_fault) (maxL := 7) (ret := (some .int)) (Qc := Qgi (S := Unit) D (fun u => []) (fun u => []) (fun _ _ => False)) (XC := XX (fun E => E = gx_ioo)) (by decide) rfl (Nat.le_of_ble_eq_true rfl) ?_
  intro p e s m below meth c A hx hb hr hml hts hown hlocks hin htab hP hD hK hG hA hS ls hl
  have hl : lv_has ls 7 [(0, .ref x), (1, .int a1), (2, .int a2), (3, .int a3), (4, .int a4)] := hl
  refine lv_aload_n hx hb dX9_fault_0 rfl (lv_at hl 0 rfl) ?_
  refine lv_iload_n hx hb dX9_fault_1 rfl (lv_at hl 1 rfl) ?_
  have hFc := va_free (wc := [(x, .inr (13, [.ref q0, .ref q1, .ref q2, .ref q3, .ref q4, .ref q5, .ref q6, .int 0, .int 0, .int 0, .int 0, .int 0, .int 0, .int 0])), (q2, .inl (k2, 6, .inr (.inr (.inr (.inr (fun _ => none))))))]) hD hS hA [0, 1] rfl
  refine vx_callr (vx_runV (As := [.int a1]) (rest := []) ⟨hx, hb, hml, hown, hts⟩ (c_findHide l hlt D tC tE s.heap.size x q0 q1 q2 q3 q4 q5 q6 k2 a1) (cwV 1 hts gX9_fault_X9_findHide rfl rfl rfl (by decide +kernel) ⟨(Nat.le_of_ble_eq_true rfl), (Nat.le_of_ble_eq_true rfl)⟩) ⟨pg_blind, (va_recv hK hP (ci := 13) (q0 := 0) rfl rfl), (pg_pre hP hD hK hG hS hFc [0, 1] rfl (by decide) [0] rfl _)⟩ rfl rfl hl.1 rfl (lv_room (Nat.le_of_ble_eq_true rfl)) dX9_fault_2 ⟨(Nat.le_of_ble_eq_true rfl), (Nat.le_of_ble_eq_true rfl)⟩) hS (fun q _ h => hFc q h) hFc (fun q _ h => hFc q h) (fun E ce q9 u t H1 locs1 ht hvm hw hB hz1 hk1 hS hce hcv hcl => ?_) (fun u_2 r_1 t H locs ht hvm hw hB hz1 hk1 hS => ?_)
  · subst hB
    exact vx_widen (k := 1) (n := 6) (Nat.le_of_ble_eq_true rfl) (Nat.le_of_ble_eq_true rfl) (vx_out (fun x hx => (htab x hx).elim) hlocks hce hcv hcl (xx_out hS rfl) hS.2.2 (Nat.le_of_ble_eq_true rfl) (Nat.le_of_ble_eq_true rfl))
  · exact hw.elim
set_option maxHeartbeats 4000000 in
set_option maxRecDepth 100000 in
/-- cellOf on a fresh object -/
theorem c_cellOf (l : Launch) (hlt : l.stackTraces = false) (D : va_G) (tC tE sz : Nat) (x q0 q1 q2 q3 q4 q5 q6 : Nat) (k2 : ClassId) (a1 a2 a3 : Int32) : vx_Met l yX9_cellOf wsX9_cellOf ({ frames := 7, cells := 1, slots := 6, locals := 104 }) (Pg D tC tE sz [(x, .inr (13, [.ref q0, .ref q1, .ref q2, .ref q3, .ref q4, .ref q5, .ref q6, .int 0, .int 0, .int 0, .int 0, .int 0, .int 0, .int 0])), (q2, .inl (k2, 6, .inr (.inr (.inr (.inr (fun _ => none))))))] [(k2, .object "Lastroom$Hide")] [.ref x, .int a1, .int a2, .int a3]) (Qgi (S := Unit) D (fun u => []) (fun u => []) (fun _ _ => False) (va_A [(x, .inr (13, [.ref q0, .ref q1, .ref q2, .ref q3, .ref q4, .ref q5, .ref q6, .int 0, .int 0, .int 0, .int 0, .int 0, .int 0, .int 0])), (q2, .inl (k2, 6, .inr (.inr (.inr (.inr (fun _ => none))))))] sz)) (XX (fun E => E = gx_ioo) (va_A [(x, .inr (13, [.ref q0, .ref q1, .ref q2, .ref q3, .ref q4, .ref q5, .ref q6, .int 0, .int 0, .int 0, .int 0, .int 0, .int 0, .int 0])), (q2, .inl (k2, 6, .inr (.inr (.inr (.inr (fun _ => none))))))] sz)) 1 6 (va_A [(x, .inr (13, [.ref q0, .ref q1, .ref q2, .ref q3, .ref q4, .ref q5, .ref q6, .int 0, .int 0, .int 0, .int 0, .int 0, .int 0, .int 0])), (q2, .inl (k2, 6, .inr (.inr (.inr (.inr (fun _ => none))))))] sz) := by
  refine og_x (cc := cX9_cellOf) (maxL := 5) (ret := (some .int)) (Qc := Qgi (S := Unit) D (fun u => []) (fun u => []) (fun _ _ => False)) (XC := XX (fun E => E = gx_ioo)) (by decide) rfl (Nat.le_of_ble_eq_true rfl) ?_
  intro p e s m below meth c A hx hb hr hml hts hown hlocks hin htab hP hD hK hG hA hS ls hl
  have hl : lv_has ls 5 [(0, .ref x), (1, .int a1), (2, .int a2), (3, .int a3)] := hl
  refine lv_aload_n hx hb dX9_cellOf_0 rfl (lv_at hl 0 rfl) ?_
  refine lv_iload_n hx hb dX9_cellOf_1 rfl (lv_at hl 1 rfl) ?_
  have hFc := va_free (wc := [(x, .inr (13, [.ref q0, .ref q1, .ref q2, .ref q3, .ref q4, .ref q5, .ref q6, .int 0, .int 0, .int 0, .int 0, .int 0, .int 0, .int 0])), (q2, .inl (k2, 6, .inr (.inr (.inr (.inr (fun _ => none))))))]) hD hS hA [0, 1] rfl
  refine vx_callr (vx_runV (As := [.int a1]) (rest := []) ⟨hx, hb, hml, hown, hts⟩ (c_findHide l hlt D tC tE s.heap.size x q0 q1 q2 q3 q4 q5 q6 k2 a1) (cwV 1 hts gX9_cellOf_X9_findHide rfl rfl rfl (by decide +kernel) ⟨(Nat.le_of_ble_eq_true rfl), (Nat.le_of_ble_eq_true rfl)⟩) ⟨pg_blind, (va_recv hK hP (ci := 13) (q0 := 0) rfl rfl), (pg_pre hP hD hK hG hS hFc [0, 1] rfl (by decide) [0] rfl _)⟩ rfl rfl hl.1 rfl (lv_room (Nat.le_of_ble_eq_true rfl)) dX9_cellOf_2 ⟨(Nat.le_of_ble_eq_true rfl), (Nat.le_of_ble_eq_true rfl)⟩) hS (fun q _ h => hFc q h) hFc (fun q _ h => hFc q h) (fun E ce q9 u t H1 locs1 ht hvm hw hB hz1 hk1 hS hce hcv hcl => ?_) (fun u_2 r_1 t H locs ht hvm hw hB hz1 hk1 hS => ?_)
  · subst hB
    exact vx_widen (k := 1) (n := 6) (Nat.le_of_ble_eq_true rfl) (Nat.le_of_ble_eq_true rfl) (vx_out (fun x hx => (htab x hx).elim) hlocks hce hcv hcl (xx_out hS rfl) hS.2.2 (Nat.le_of_ble_eq_true rfl) (Nat.le_of_ble_eq_true rfl))
  · exact hw.elim
set_option maxHeartbeats 4000000 in
set_option maxRecDepth 100000 in
/-- waste on a fresh object -/
theorem c_waste (l : Launch) (hlt : l.stackTraces = false) (D : va_G) (tC tE sz : Nat) (x q0 q1 q2 q3 q4 q5 q6 : Nat) (k2 : ClassId) (a1 : Int32) : vx_Met l yX9_waste wsX9_waste ({ frames := 7, cells := 1, slots := 6, locals := 104 }) (Pg D tC tE sz [(x, .inr (13, [.ref q0, .ref q1, .ref q2, .ref q3, .ref q4, .ref q5, .ref q6, .int 0, .int 0, .int 0, .int 0, .int 0, .int 0, .int 0])), (q2, .inl (k2, 6, .inr (.inr (.inr (.inr (fun _ => none))))))] [(k2, .object "Lastroom$Hide")] [.ref x, .int a1]) (Qgi (S := Unit) D (fun u => []) (fun u => []) (fun _ _ => False) (va_A [(x, .inr (13, [.ref q0, .ref q1, .ref q2, .ref q3, .ref q4, .ref q5, .ref q6, .int 0, .int 0, .int 0, .int 0, .int 0, .int 0, .int 0])), (q2, .inl (k2, 6, .inr (.inr (.inr (.inr (fun _ => none))))))] sz)) (XX (fun E => E = gx_ioo) (va_A [(x, .inr (13, [.ref q0, .ref q1, .ref q2, .ref q3, .ref q4, .ref q5, .ref q6, .int 0, .int 0, .int 0, .int 0, .int 0, .int 0, .int 0])), (q2, .inl (k2, 6, .inr (.inr (.inr (.inr (fun _ => none))))))] sz)) 1 6 (va_A [(x, .inr (13, [.ref q0, .ref q1, .ref q2, .ref q3, .ref q4, .ref q5, .ref q6, .int 0, .int 0, .int 0, .int 0, .int 0, .int 0, .int 0])), (q2, .inl (k2, 6, .inr (.inr (.inr (.inr (fun _ => none))))))] sz) := by
  refine og_x (cc := cX9_waste) (maxL := 2) (ret := (some .int)) (Qc := Qgi (S := Unit) D (fun u => []) (fun u => []) (fun _ _ => False)) (XC := XX (fun E => E = gx_ioo)) (by decide) rfl (Nat.le_of_ble_eq_true rfl) ?_
  intro p e s m below meth c A hx hb hr hml hts hown hlocks hin htab hP hD hK hG hA hS ls hl
  have hl : lv_has ls 2 [(0, .ref x), (1, .int a1)] := hl
  refine lv_aload_n hx hb dX9_waste_0 rfl (lv_at hl 0 rfl) ?_
  refine lv_iload_n hx hb dX9_waste_1 rfl (lv_at hl 1 rfl) ?_
  have hFc := va_free (wc := [(x, .inr (13, [.ref q0, .ref q1, .ref q2, .ref q3, .ref q4, .ref q5, .ref q6, .int 0, .int 0, .int 0, .int 0, .int 0, .int 0, .int 0])), (q2, .inl (k2, 6, .inr (.inr (.inr (.inr (fun _ => none))))))]) hD hS hA [0, 1] rfl
  refine vx_callr (vx_runV (As := [.int a1]) (rest := []) ⟨hx, hb, hml, hown, hts⟩ (c_findHide l hlt D tC tE s.heap.size x q0 q1 q2 q3 q4 q5 q6 k2 a1) (cwV 1 hts gX9_waste_X9_findHide rfl rfl rfl (by decide +kernel) ⟨(Nat.le_of_ble_eq_true rfl), (Nat.le_of_ble_eq_true rfl)⟩) ⟨pg_blind, (va_recv hK hP (ci := 13) (q0 := 0) rfl rfl), (pg_pre hP hD hK hG hS hFc [0, 1] rfl (by decide) [0] rfl _)⟩ rfl rfl hl.1 rfl (lv_room (Nat.le_of_ble_eq_true rfl)) dX9_waste_2 ⟨(Nat.le_of_ble_eq_true rfl), (Nat.le_of_ble_eq_true rfl)⟩) hS (fun q _ h => hFc q h) hFc (fun q _ h => hFc q h) (fun E ce q9 u t H1 locs1 ht hvm hw hB hz1 hk1 hS hce hcv hcl => ?_) (fun u_2 r_1 t H locs ht hvm hw hB hz1 hk1 hS => ?_)
  · subst hB
    exact vx_widen (k := 1) (n := 6) (Nat.le_of_ble_eq_true rfl) (Nat.le_of_ble_eq_true rfl) (vx_out (fun x hx => (htab x hx).elim) hlocks hce hcv hcl (xx_out hS rfl) hS.2.2 (Nat.le_of_ble_eq_true rfl) (Nat.le_of_ble_eq_true rfl))
  · exact hw.elim
set_option maxHeartbeats 4000000 in
set_option maxRecDepth 100000 in
/-- cut on a fresh object -/
theorem c_cut (l : Launch) (hlt : l.stackTraces = false) (D : va_G) (tC tE sz : Nat) (x q0 q1 q2 q3 q4 q5 q6 : Nat) (k3 : ClassId) (a1 a2 a3 a4 a5 a6 a7 a8 : Int32) : vx_Met l yX9_cut wsX9_cut ({ frames := 7, cells := 1, slots := 6, locals := 104 }) (Pg D tC tE sz [(x, .inr (13, [.ref q0, .ref q1, .ref q2, .ref q3, .ref q4, .ref q5, .ref q6, .int 0, .int 0, .int 0, .int 0, .int 0, .int 0, .int 0])), (q3, .inl (k3, 16, .inr (.inr (.inr (.inr (fun _ => none))))))] [(k3, .object "Lastroom$Ticket")] [.ref x, .int a1, .int a2, .int a3, .int a4, .int a5, .int a6, .int a7, .int a8]) (Qgi (S := Unit) D (fun u => []) (fun u => []) (fun _ _ => False) (va_A [(x, .inr (13, [.ref q0, .ref q1, .ref q2, .ref q3, .ref q4, .ref q5, .ref q6, .int 0, .int 0, .int 0, .int 0, .int 0, .int 0, .int 0])), (q3, .inl (k3, 16, .inr (.inr (.inr (.inr (fun _ => none))))))] sz)) (XX (fun E => E = gx_ioo) (va_A [(x, .inr (13, [.ref q0, .ref q1, .ref q2, .ref q3, .ref q4, .ref q5, .ref q6, .int 0, .int 0, .int 0, .int 0, .int 0, .int 0, .int 0])), (q3, .inl (k3, 16, .inr (.inr (.inr (.inr (fun _ => none))))))] sz)) 1 6 (va_A [(x, .inr (13, [.ref q0, .ref q1, .ref q2, .ref q3, .ref q4, .ref q5, .ref q6, .int 0, .int 0, .int 0, .int 0, .int 0, .int 0, .int 0])), (q3, .inl (k3, 16, .inr (.inr (.inr (.inr (fun _ => none))))))] sz) := by
  refine og_x (cc := cX9_cut) (maxL := 17) (ret := (some .int)) (Qc := Qgi (S := Unit) D (fun u => []) (fun u => []) (fun _ _ => False)) (XC := XX (fun E => E = gx_ioo)) (by decide) rfl (Nat.le_of_ble_eq_true rfl) ?_
  intro p e s m below meth c A hx hb hr hml hts hown hlocks hin htab hP hD hK hG hA hS ls hl
  have hl : lv_has ls 17 [(0, .ref x), (1, .int a1), (2, .int a2), (3, .int a3), (4, .int a4), (5, .int a5), (6, .int a6), (7, .int a7), (8, .int a8)] := hl
  refine lv_aload_n hx hb dX9_cut_0 rfl (lv_at hl 0 rfl) ?_
  refine lv_iload_n hx hb dX9_cut_1 rfl (lv_at hl 1 rfl) ?_
  have hFc := va_free (wc := [(x, .inr (13, [.ref q0, .ref q1, .ref q2, .ref q3, .ref q4, .ref q5, .ref q6, .int 0, .int 0, .int 0, .int 0, .int 0, .int 0, .int 0])), (q3, .inl (k3, 16, .inr (.inr (.inr (.inr (fun _ => none))))))]) hD hS hA [0, 1] rfl
  refine vx_callr (vx_runV (As := [.int a1]) (rest := []) ⟨hx, hb, hml, hown, hts⟩ (c_findTicket l hlt D tC tE s.heap.size x q0 q1 q2 q3 q4 q5 q6 k3 a1) (cwV 1 hts gX9_cut_X9_findTicket rfl rfl rfl (by decide +kernel) ⟨(Nat.le_of_ble_eq_true rfl), (Nat.le_of_ble_eq_true rfl)⟩) ⟨pg_blind, (va_recv hK hP (ci := 13) (q0 := 0) rfl rfl), (pg_pre hP hD hK hG hS hFc [0, 1] rfl (by decide) [0] rfl _)⟩ rfl rfl hl.1 rfl (lv_room (Nat.le_of_ble_eq_true rfl)) dX9_cut_2 ⟨(Nat.le_of_ble_eq_true rfl), (Nat.le_of_ble_eq_true rfl)⟩) hS (fun q _ h => hFc q h) hFc (fun q _ h => hFc q h) (fun E ce q9 u t H1 locs1 ht hvm hw hB hz1 hk1 hS hce hcv hcl => ?_) (fun u_2 r_1 t H locs ht hvm hw hB hz1 hk1 hS => ?_)
  · subst hB
    exact vx_widen (k := 1) (n := 6) (Nat.le_of_ble_eq_true rfl) (Nat.le_of_ble_eq_true rfl) (vx_out (fun x hx => (htab x hx).elim) hlocks hce hcv hcl (xx_out hS rfl) hS.2.2 (Nat.le_of_ble_eq_true rfl) (Nat.le_of_ble_eq_true rfl))
  · exact hw.elim
set_option maxHeartbeats 4000000 in
set_option maxRecDepth 100000 in
/-- firstPlace on a fresh object -/
theorem c_firstPlace (l : Launch) (hlt : l.stackTraces = false) (D : va_G) (tC tE sz : Nat) (x q0 q1 q2 q3 q4 q5 q6 : Nat) (k3 : ClassId) (a1 a2 a3 : Int32) : vx_Met l yX9_firstPlace wsX9_firstPlace ({ frames := 7, cells := 1, slots := 6, locals := 104 }) (Pg D tC tE sz [(x, .inr (13, [.ref q0, .ref q1, .ref q2, .ref q3, .ref q4, .ref q5, .ref q6, .int 0, .int 0, .int 0, .int 0, .int 0, .int 0, .int 0])), (q3, .inl (k3, 16, .inr (.inr (.inr (.inr (fun _ => none))))))] [(k3, .object "Lastroom$Ticket")] [.ref x, .int a1, .int a2, .int a3]) (Qgi (S := Unit) D (fun u => []) (fun u => []) (fun _ _ => False) (va_A [(x, .inr (13, [.ref q0, .ref q1, .ref q2, .ref q3, .ref q4, .ref q5, .ref q6, .int 0, .int 0, .int 0, .int 0, .int 0, .int 0, .int 0])), (q3, .inl (k3, 16, .inr (.inr (.inr (.inr (fun _ => none))))))] sz)) (XX (fun E => E = gx_ioo) (va_A [(x, .inr (13, [.ref q0, .ref q1, .ref q2, .ref q3, .ref q4, .ref q5, .ref q6, .int 0, .int 0, .int 0, .int 0, .int 0, .int 0, .int 0])), (q3, .inl (k3, 16, .inr (.inr (.inr (.inr (fun _ => none))))))] sz)) 1 6 (va_A [(x, .inr (13, [.ref q0, .ref q1, .ref q2, .ref q3, .ref q4, .ref q5, .ref q6, .int 0, .int 0, .int 0, .int 0, .int 0, .int 0, .int 0])), (q3, .inl (k3, 16, .inr (.inr (.inr (.inr (fun _ => none))))))] sz) := by
  refine og_x (cc := cX9_firstPlace) (maxL := 8) (ret := (some .int)) (Qc := Qgi (S := Unit) D (fun u => []) (fun u => []) (fun _ _ => False)) (XC := XX (fun E => E = gx_ioo)) (by decide) rfl (Nat.le_of_ble_eq_true rfl) ?_
  intro p e s m below meth c A hx hb hr hml hts hown hlocks hin htab hP hD hK hG hA hS ls hl
  have hl : lv_has ls 8 [(0, .ref x), (1, .int a1), (2, .int a2), (3, .int a3)] := hl
  refine lv_aload_n hx hb dX9_firstPlace_0 rfl (lv_at hl 0 rfl) ?_
  refine lv_iload_n hx hb dX9_firstPlace_1 rfl (lv_at hl 1 rfl) ?_
  have hFc := va_free (wc := [(x, .inr (13, [.ref q0, .ref q1, .ref q2, .ref q3, .ref q4, .ref q5, .ref q6, .int 0, .int 0, .int 0, .int 0, .int 0, .int 0, .int 0])), (q3, .inl (k3, 16, .inr (.inr (.inr (.inr (fun _ => none))))))]) hD hS hA [0, 1] rfl
  refine vx_callr (vx_runV (As := [.int a1]) (rest := []) ⟨hx, hb, hml, hown, hts⟩ (c_findTicket l hlt D tC tE s.heap.size x q0 q1 q2 q3 q4 q5 q6 k3 a1) (cwV 1 hts gX9_firstPlace_X9_findTicket rfl rfl rfl (by decide +kernel) ⟨(Nat.le_of_ble_eq_true rfl), (Nat.le_of_ble_eq_true rfl)⟩) ⟨pg_blind, (va_recv hK hP (ci := 13) (q0 := 0) rfl rfl), (pg_pre hP hD hK hG hS hFc [0, 1] rfl (by decide) [0] rfl _)⟩ rfl rfl hl.1 rfl (lv_room (Nat.le_of_ble_eq_true rfl)) dX9_firstPlace_2 ⟨(Nat.le_of_ble_eq_true rfl), (Nat.le_of_ble_eq_true rfl)⟩) hS (fun q _ h => hFc q h) hFc (fun q _ h => hFc q h) (fun E ce q9 u t H1 locs1 ht hvm hw hB hz1 hk1 hS hce hcv hcl => ?_) (fun u_2 r_1 t H locs ht hvm hw hB hz1 hk1 hS => ?_)
  · subst hB
    exact vx_widen (k := 1) (n := 6) (Nat.le_of_ble_eq_true rfl) (Nat.le_of_ble_eq_true rfl) (vx_out (fun x hx => (htab x hx).elim) hlocks hce hcv hcl (xx_out hS rfl) hS.2.2 (Nat.le_of_ble_eq_true rfl) (Nat.le_of_ble_eq_true rfl))
  · exact hw.elim
set_option maxHeartbeats 4000000 in
set_option maxRecDepth 100000 in
/-- sew on a fresh object -/
theorem c_sew (l : Launch) (hlt : l.stackTraces = false) (D : va_G) (tC tE sz : Nat) (x q0 q1 q2 q3 q4 q5 q6 : Nat) (k3 : ClassId) (a1 a2 a3 a4 : Int32) : vx_Met l yX9_sew wsX9_sew ({ frames := 7, cells := 1, slots := 6, locals := 104 }) (Pg D tC tE sz [(x, .inr (13, [.ref q0, .ref q1, .ref q2, .ref q3, .ref q4, .ref q5, .ref q6, .int 0, .int 0, .int 0, .int 0, .int 0, .int 0, .int 0])), (q3, .inl (k3, 16, .inr (.inr (.inr (.inr (fun _ => none))))))] [(k3, .object "Lastroom$Ticket")] [.ref x, .int a1, .int a2, .int a3, .int a4]) (Qgi (S := Unit) D (fun u => []) (fun u => []) (fun _ _ => False) (va_A [(x, .inr (13, [.ref q0, .ref q1, .ref q2, .ref q3, .ref q4, .ref q5, .ref q6, .int 0, .int 0, .int 0, .int 0, .int 0, .int 0, .int 0])), (q3, .inl (k3, 16, .inr (.inr (.inr (.inr (fun _ => none))))))] sz)) (XX (fun E => E = gx_ioo) (va_A [(x, .inr (13, [.ref q0, .ref q1, .ref q2, .ref q3, .ref q4, .ref q5, .ref q6, .int 0, .int 0, .int 0, .int 0, .int 0, .int 0, .int 0])), (q3, .inl (k3, 16, .inr (.inr (.inr (.inr (fun _ => none))))))] sz)) 1 6 (va_A [(x, .inr (13, [.ref q0, .ref q1, .ref q2, .ref q3, .ref q4, .ref q5, .ref q6, .int 0, .int 0, .int 0, .int 0, .int 0, .int 0, .int 0])), (q3, .inl (k3, 16, .inr (.inr (.inr (.inr (fun _ => none))))))] sz) := by
  refine og_x (cc := cX9_sew) (maxL := 10) (ret := (some .int)) (Qc := Qgi (S := Unit) D (fun u => []) (fun u => []) (fun _ _ => False)) (XC := XX (fun E => E = gx_ioo)) (by decide) rfl (Nat.le_of_ble_eq_true rfl) ?_
  intro p e s m below meth c A hx hb hr hml hts hown hlocks hin htab hP hD hK hG hA hS ls hl
  have hl : lv_has ls 10 [(0, .ref x), (1, .int a1), (2, .int a2), (3, .int a3), (4, .int a4)] := hl
  refine lv_aload_n hx hb dX9_sew_0 rfl (lv_at hl 0 rfl) ?_
  refine lv_iload_n hx hb dX9_sew_1 rfl (lv_at hl 1 rfl) ?_
  have hFc := va_free (wc := [(x, .inr (13, [.ref q0, .ref q1, .ref q2, .ref q3, .ref q4, .ref q5, .ref q6, .int 0, .int 0, .int 0, .int 0, .int 0, .int 0, .int 0])), (q3, .inl (k3, 16, .inr (.inr (.inr (.inr (fun _ => none))))))]) hD hS hA [0, 1] rfl
  refine vx_callr (vx_runV (As := [.int a1]) (rest := []) ⟨hx, hb, hml, hown, hts⟩ (c_findTicket l hlt D tC tE s.heap.size x q0 q1 q2 q3 q4 q5 q6 k3 a1) (cwV 1 hts gX9_sew_X9_findTicket rfl rfl rfl (by decide +kernel) ⟨(Nat.le_of_ble_eq_true rfl), (Nat.le_of_ble_eq_true rfl)⟩) ⟨pg_blind, (va_recv hK hP (ci := 13) (q0 := 0) rfl rfl), (pg_pre hP hD hK hG hS hFc [0, 1] rfl (by decide) [0] rfl _)⟩ rfl rfl hl.1 rfl (lv_room (Nat.le_of_ble_eq_true rfl)) dX9_sew_2 ⟨(Nat.le_of_ble_eq_true rfl), (Nat.le_of_ble_eq_true rfl)⟩) hS (fun q _ h => hFc q h) hFc (fun q _ h => hFc q h) (fun E ce q9 u t H1 locs1 ht hvm hw hB hz1 hk1 hS hce hcv hcl => ?_) (fun u_2 r_1 t H locs ht hvm hw hB hz1 hk1 hS => ?_)
  · subst hB
    exact vx_widen (k := 1) (n := 6) (Nat.le_of_ble_eq_true rfl) (Nat.le_of_ble_eq_true rfl) (vx_out (fun x hx => (htab x hx).elim) hlocks hce hcv hcl (xx_out hS rfl) hS.2.2 (Nat.le_of_ble_eq_true rfl) (Nat.le_of_ble_eq_true rfl))
  · exact hw.elim
set_option maxHeartbeats 4000000 in
set_option maxRecDepth 100000 in
/-- room on a fresh object -/
theorem c_room (l : Launch) (hlt : l.stackTraces = false) (D : va_G) (tC tE sz : Nat) (x q0 q1 q2 q3 q4 q5 q6 : Nat) (k3 : ClassId) (a1 : Int32) : vx_Met l yX9_room wsX9_room ({ frames := 7, cells := 1, slots := 6, locals := 104 }) (Pg D tC tE sz [(x, .inr (13, [.ref q0, .ref q1, .ref q2, .ref q3, .ref q4, .ref q5, .ref q6, .int 0, .int 0, .int 0, .int 0, .int 0, .int 0, .int 0])), (q3, .inl (k3, 16, .inr (.inr (.inr (.inr (fun _ => none))))))] [(k3, .object "Lastroom$Ticket")] [.ref x, .int a1]) (Qgi (S := Unit) D (fun u => []) (fun u => []) (fun _ _ => False) (va_A [(x, .inr (13, [.ref q0, .ref q1, .ref q2, .ref q3, .ref q4, .ref q5, .ref q6, .int 0, .int 0, .int 0, .int 0, .int 0, .int 0, .int 0])), (q3, .inl (k3, 16, .inr (.inr (.inr (.inr (fun _ => none))))))] sz)) (XX (fun E => E = gx_ioo) (va_A [(x, .inr (13, [.ref q0, .ref q1, .ref q2, .ref q3, .ref q4, .ref q5, .ref q6, .int 0, .int 0, .int 0, .int 0, .int 0, .int 0, .int 0])), (q3, .inl (k3, 16, .inr (.inr (.inr (.inr (fun _ => none))))))] sz)) 1 6 (va_A [(x, .inr (13, [.ref q0, .ref q1, .ref q2, .ref q3, .ref q4, .ref q5, .ref q6, .int 0, .int 0, .int 0, .int 0, .int 0, .int 0, .int 0])), (q3, .inl (k3, 16, .inr (.inr (.inr (.inr (fun _ => none))))))] sz) := by
  refine og_x (cc := cX9_room) (maxL := 2) (ret := (some .char)) (Qc := Qgi (S := Unit) D (fun u => []) (fun u => []) (fun _ _ => False)) (XC := XX (fun E => E = gx_ioo)) (by decide) rfl (Nat.le_of_ble_eq_true rfl) ?_
  intro p e s m below meth c A hx hb hr hml hts hown hlocks hin htab hP hD hK hG hA hS ls hl
  have hl : lv_has ls 2 [(0, .ref x), (1, .int a1)] := hl
  refine lv_aload_n hx hb dX9_room_0 rfl (lv_at hl 0 rfl) ?_
  refine lv_iload_n hx hb dX9_room_1 rfl (lv_at hl 1 rfl) ?_
  have hFc := va_free (wc := [(x, .inr (13, [.ref q0, .ref q1, .ref q2, .ref q3, .ref q4, .ref q5, .ref q6, .int 0, .int 0, .int 0, .int 0, .int 0, .int 0, .int 0])), (q3, .inl (k3, 16, .inr (.inr (.inr (.inr (fun _ => none))))))]) hD hS hA [0, 1] rfl
  refine vx_callr (vx_runV (As := [.int a1]) (rest := []) ⟨hx, hb, hml, hown, hts⟩ (c_findTicket l hlt D tC tE s.heap.size x q0 q1 q2 q3 q4 q5 q6 k3 a1) (cwV 1 hts gX9_room_X9_findTicket rfl rfl rfl (by decide +kernel) ⟨(Nat.le_of_ble_eq_true rfl), (Nat.le_of_ble_eq_true rfl)⟩) ⟨pg_blind, (va_recv hK hP (ci := 13) (q0 := 0) rfl rfl), (pg_pre hP hD hK hG hS hFc [0, 1] rfl (by decide) [0] rfl _)⟩ rfl rfl hl.1 rfl (lv_room (Nat.le_of_ble_eq_true rfl)) dX9_room_2 ⟨(Nat.le_of_ble_eq_true rfl), (Nat.le_of_ble_eq_true rfl)⟩) hS (fun q _ h => hFc q h) hFc (fun q _ h => hFc q h) (fun E ce q9 u t H1 locs1 ht hvm hw hB hz1 hk1 hS hce hcv hcl => ?_) (fun u_2 r_1 t H locs ht hvm hw hB hz1 hk1 hS => ?_)
  · subst hB
    exact vx_widen (k := 1) (n := 6) (Nat.le_of_ble_eq_true rfl) (Nat.le_of_ble_eq_true rfl) (vx_out (fun x hx => (htab x hx).elim) hlocks hce hcv hcl (xx_out hS rfl) hS.2.2 (Nat.le_of_ble_eq_true rfl) (Nat.le_of_ble_eq_true rfl))
  · exact hw.elim
set_option maxHeartbeats 4000000 in
set_option maxRecDepth 100000 in
/-- lastOn on a fresh object -/
theorem c_lastOn (l : Launch) (hlt : l.stackTraces = false) (D : va_G) (tC tE sz : Nat) (x q0 q1 q2 q3 q4 q5 q6 : Nat) (k3 : ClassId) (a1 : Int32) : vx_Met l yX9_lastOn wsX9_lastOn ({ frames := 7, cells := 1, slots := 6, locals := 104 }) (Pg D tC tE sz [(x, .inr (13, [.ref q0, .ref q1, .ref q2, .ref q3, .ref q4, .ref q5, .ref q6, .int 0, .int 0, .int 0, .int 0, .int 0, .int 0, .int 0])), (q3, .inl (k3, 16, .inr (.inr (.inr (.inr (fun _ => none))))))] [(k3, .object "Lastroom$Ticket")] [.ref x, .int a1]) (Qgi (S := Unit) D (fun u => []) (fun u => []) (fun _ _ => False) (va_A [(x, .inr (13, [.ref q0, .ref q1, .ref q2, .ref q3, .ref q4, .ref q5, .ref q6, .int 0, .int 0, .int 0, .int 0, .int 0, .int 0, .int 0])), (q3, .inl (k3, 16, .inr (.inr (.inr (.inr (fun _ => none))))))] sz)) (XX (fun E => E = gx_ioo) (va_A [(x, .inr (13, [.ref q0, .ref q1, .ref q2, .ref q3, .ref q4, .ref q5, .ref q6, .int 0, .int 0, .int 0, .int 0, .int 0, .int 0, .int 0])), (q3, .inl (k3, 16, .inr (.inr (.inr (.inr (fun _ => none))))))] sz)) 1 6 (va_A [(x, .inr (13, [.ref q0, .ref q1, .ref q2, .ref q3, .ref q4, .ref q5, .ref q6, .int 0, .int 0, .int 0, .int 0, .int 0, .int 0, .int 0])), (q3, .inl (k3, 16, .inr (.inr (.inr (.inr (fun _ => none))))))] sz) := by
  refine og_x (cc := cX9_lastOn) (maxL := 4) (ret := (some .int)) (Qc := Qgi (S := Unit) D (fun u => []) (fun u => []) (fun _ _ => False)) (XC := XX (fun E => E = gx_ioo)) (by decide) rfl (Nat.le_of_ble_eq_true rfl) ?_
  intro p e s m below meth c A hx hb hr hml hts hown hlocks hin htab hP hD hK hG hA hS ls hl
  have hl : lv_has ls 4 [(0, .ref x), (1, .int a1)] := hl
  refine lv_aload_n hx hb dX9_lastOn_0 rfl (lv_at hl 0 rfl) ?_
  refine lv_iload_n hx hb dX9_lastOn_1 rfl (lv_at hl 1 rfl) ?_
  have hFc := va_free (wc := [(x, .inr (13, [.ref q0, .ref q1, .ref q2, .ref q3, .ref q4, .ref q5, .ref q6, .int 0, .int 0, .int 0, .int 0, .int 0, .int 0, .int 0])), (q3, .inl (k3, 16, .inr (.inr (.inr (.inr (fun _ => none))))))]) hD hS hA [0, 1] rfl
  refine vx_callr (vx_runV (As := [.int a1]) (rest := []) ⟨hx, hb, hml, hown, hts⟩ (c_findTicket l hlt D tC tE s.heap.size x q0 q1 q2 q3 q4 q5 q6 k3 a1) (cwV 1 hts gX9_lastOn_X9_findTicket rfl rfl rfl (by decide +kernel) ⟨(Nat.le_of_ble_eq_true rfl), (Nat.le_of_ble_eq_true rfl)⟩) ⟨pg_blind, (va_recv hK hP (ci := 13) (q0 := 0) rfl rfl), (pg_pre hP hD hK hG hS hFc [0, 1] rfl (by decide) [0] rfl _)⟩ rfl rfl hl.1 rfl (lv_room (Nat.le_of_ble_eq_true rfl)) dX9_lastOn_2 ⟨(Nat.le_of_ble_eq_true rfl), (Nat.le_of_ble_eq_true rfl)⟩) hS (fun q _ h => hFc q h) hFc (fun q _ h => hFc q h) (fun E ce q9 u t H1 locs1 ht hvm hw hB hz1 hk1 hS hce hcv hcl => ?_) (fun u_2 r_1 t H locs ht hvm hw hB hz1 hk1 hS => ?_)
  · subst hB
    exact vx_widen (k := 1) (n := 6) (Nat.le_of_ble_eq_true rfl) (Nat.le_of_ble_eq_true rfl) (vx_out (fun x hx => (htab x hx).elim) hlocks hce hcv hcl (xx_out hS rfl) hS.2.2 (Nat.le_of_ble_eq_true rfl) (Nat.le_of_ble_eq_true rfl))
  · exact hw.elim
set_option maxHeartbeats 4000000 in
set_option maxRecDepth 100000 in
/-- sole on a fresh object -/
theorem c_sole (l : Launch) (hlt : l.stackTraces = false) (D : va_G) (tC tE sz : Nat) (x q0 q1 q2 q3 q4 q5 q6 : Nat) (k3 : ClassId) (a1 a2 a3 : Int32) : vx_Met l yX9_sole wsX9_sole ({ frames := 7, cells := 1, slots := 6, locals := 104 }) (Pg D tC tE sz [(x, .inr (13, [.ref q0, .ref q1, .ref q2, .ref q3, .ref q4, .ref q5, .ref q6, .int 0, .int 0, .int 0, .int 0, .int 0, .int 0, .int 0])), (q3, .inl (k3, 16, .inr (.inr (.inr (.inr (fun _ => none))))))] [(k3, .object "Lastroom$Ticket")] [.ref x, .int a1, .int a2, .int a3]) (Qgi (S := Unit) D (fun u => []) (fun u => []) (fun _ _ => False) (va_A [(x, .inr (13, [.ref q0, .ref q1, .ref q2, .ref q3, .ref q4, .ref q5, .ref q6, .int 0, .int 0, .int 0, .int 0, .int 0, .int 0, .int 0])), (q3, .inl (k3, 16, .inr (.inr (.inr (.inr (fun _ => none))))))] sz)) (XX (fun E => E = gx_ioo) (va_A [(x, .inr (13, [.ref q0, .ref q1, .ref q2, .ref q3, .ref q4, .ref q5, .ref q6, .int 0, .int 0, .int 0, .int 0, .int 0, .int 0, .int 0])), (q3, .inl (k3, 16, .inr (.inr (.inr (.inr (fun _ => none))))))] sz)) 1 6 (va_A [(x, .inr (13, [.ref q0, .ref q1, .ref q2, .ref q3, .ref q4, .ref q5, .ref q6, .int 0, .int 0, .int 0, .int 0, .int 0, .int 0, .int 0])), (q3, .inl (k3, 16, .inr (.inr (.inr (.inr (fun _ => none))))))] sz) := by
  refine og_x (cc := cX9_sole) (maxL := 8) (ret := (some .boolean)) (Qc := Qgi (S := Unit) D (fun u => []) (fun u => []) (fun _ _ => False)) (XC := XX (fun E => E = gx_ioo)) (by decide) rfl (Nat.le_of_ble_eq_true rfl) ?_
  intro p e s m below meth c A hx hb hr hml hts hown hlocks hin htab hP hD hK hG hA hS ls hl
  have hl : lv_has ls 8 [(0, .ref x), (1, .int a1), (2, .int a2), (3, .int a3)] := hl
  refine lv_aload_n hx hb dX9_sole_0 rfl (lv_at hl 0 rfl) ?_
  refine lv_iload_n hx hb dX9_sole_1 rfl (lv_at hl 1 rfl) ?_
  have hFc := va_free (wc := [(x, .inr (13, [.ref q0, .ref q1, .ref q2, .ref q3, .ref q4, .ref q5, .ref q6, .int 0, .int 0, .int 0, .int 0, .int 0, .int 0, .int 0])), (q3, .inl (k3, 16, .inr (.inr (.inr (.inr (fun _ => none))))))]) hD hS hA [0, 1] rfl
  refine vx_callr (vx_runV (As := [.int a1]) (rest := []) ⟨hx, hb, hml, hown, hts⟩ (c_findTicket l hlt D tC tE s.heap.size x q0 q1 q2 q3 q4 q5 q6 k3 a1) (cwV 1 hts gX9_sole_X9_findTicket rfl rfl rfl (by decide +kernel) ⟨(Nat.le_of_ble_eq_true rfl), (Nat.le_of_ble_eq_true rfl)⟩) ⟨pg_blind, (va_recv hK hP (ci := 13) (q0 := 0) rfl rfl), (pg_pre hP hD hK hG hS hFc [0, 1] rfl (by decide) [0] rfl _)⟩ rfl rfl hl.1 rfl (lv_room (Nat.le_of_ble_eq_true rfl)) dX9_sole_2 ⟨(Nat.le_of_ble_eq_true rfl), (Nat.le_of_ble_eq_true rfl)⟩) hS (fun q _ h => hFc q h) hFc (fun q _ h => hFc q h) (fun E ce q9 u t H1 locs1 ht hvm hw hB hz1 hk1 hS hce hcv hcl => ?_) (fun u_2 r_1 t H locs ht hvm hw hB hz1 hk1 hS => ?_)
  · subst hB
    exact vx_widen (k := 1) (n := 6) (Nat.le_of_ble_eq_true rfl) (Nat.le_of_ble_eq_true rfl) (vx_out (fun x hx => (htab x hx).elim) hlocks hce hcv hcl (xx_out hS rfl) hS.2.2 (Nat.le_of_ble_eq_true rfl) (Nat.le_of_ble_eq_true rfl))
  · exact hw.elim
set_option maxHeartbeats 4000000 in
set_option maxRecDepth 100000 in
/-- takeOff on a fresh object -/
theorem c_takeOff (l : Launch) (hlt : l.stackTraces = false) (D : va_G) (tC tE sz : Nat) (x q0 q1 q2 q3 q4 q5 q6 : Nat) (k3 : ClassId) (a1 : Int32) : vx_Met l yX9_takeOff wsX9_takeOff ({ frames := 7, cells := 1, slots := 6, locals := 104 }) (Pg D tC tE sz [(x, .inr (13, [.ref q0, .ref q1, .ref q2, .ref q3, .ref q4, .ref q5, .ref q6, .int 0, .int 0, .int 0, .int 0, .int 0, .int 0, .int 0])), (q3, .inl (k3, 16, .inr (.inr (.inr (.inr (fun _ => none))))))] [(k3, .object "Lastroom$Ticket")] [.ref x, .int a1]) (Qgi (S := Unit) D (fun u => []) (fun u => []) (fun _ _ => False) (va_A [(x, .inr (13, [.ref q0, .ref q1, .ref q2, .ref q3, .ref q4, .ref q5, .ref q6, .int 0, .int 0, .int 0, .int 0, .int 0, .int 0, .int 0])), (q3, .inl (k3, 16, .inr (.inr (.inr (.inr (fun _ => none))))))] sz)) (XX (fun E => E = gx_ioo) (va_A [(x, .inr (13, [.ref q0, .ref q1, .ref q2, .ref q3, .ref q4, .ref q5, .ref q6, .int 0, .int 0, .int 0, .int 0, .int 0, .int 0, .int 0])), (q3, .inl (k3, 16, .inr (.inr (.inr (.inr (fun _ => none))))))] sz)) 1 6 (va_A [(x, .inr (13, [.ref q0, .ref q1, .ref q2, .ref q3, .ref q4, .ref q5, .ref q6, .int 0, .int 0, .int 0, .int 0, .int 0, .int 0, .int 0])), (q3, .inl (k3, 16, .inr (.inr (.inr (.inr (fun _ => none))))))] sz) := by
  refine og_x (cc := cX9_takeOff) (maxL := 3) (ret := (some .int)) (Qc := Qgi (S := Unit) D (fun u => []) (fun u => []) (fun _ _ => False)) (XC := XX (fun E => E = gx_ioo)) (by decide) rfl (Nat.le_of_ble_eq_true rfl) ?_
  intro p e s m below meth c A hx hb hr hml hts hown hlocks hin htab hP hD hK hG hA hS ls hl
  have hl : lv_has ls 3 [(0, .ref x), (1, .int a1)] := hl
  refine lv_aload_n hx hb dX9_takeOff_0 rfl (lv_at hl 0 rfl) ?_
  refine lv_iload_n hx hb dX9_takeOff_1 rfl (lv_at hl 1 rfl) ?_
  have hFc := va_free (wc := [(x, .inr (13, [.ref q0, .ref q1, .ref q2, .ref q3, .ref q4, .ref q5, .ref q6, .int 0, .int 0, .int 0, .int 0, .int 0, .int 0, .int 0])), (q3, .inl (k3, 16, .inr (.inr (.inr (.inr (fun _ => none))))))]) hD hS hA [0, 1] rfl
  refine vx_callr (vx_runV (As := [.int a1]) (rest := []) ⟨hx, hb, hml, hown, hts⟩ (c_findTicket l hlt D tC tE s.heap.size x q0 q1 q2 q3 q4 q5 q6 k3 a1) (cwV 1 hts gX9_takeOff_X9_findTicket rfl rfl rfl (by decide +kernel) ⟨(Nat.le_of_ble_eq_true rfl), (Nat.le_of_ble_eq_true rfl)⟩) ⟨pg_blind, (va_recv hK hP (ci := 13) (q0 := 0) rfl rfl), (pg_pre hP hD hK hG hS hFc [0, 1] rfl (by decide) [0] rfl _)⟩ rfl rfl hl.1 rfl (lv_room (Nat.le_of_ble_eq_true rfl)) dX9_takeOff_2 ⟨(Nat.le_of_ble_eq_true rfl), (Nat.le_of_ble_eq_true rfl)⟩) hS (fun q _ h => hFc q h) hFc (fun q _ h => hFc q h) (fun E ce q9 u t H1 locs1 ht hvm hw hB hz1 hk1 hS hce hcv hcl => ?_) (fun u_2 r_1 t H locs ht hvm hw hB hz1 hk1 hS => ?_)
  · subst hB
    exact vx_widen (k := 1) (n := 6) (Nat.le_of_ble_eq_true rfl) (Nat.le_of_ble_eq_true rfl) (vx_out (fun x hx => (htab x hx).elim) hlocks hce hcv hcl (xx_out hS rfl) hS.2.2 (Nat.le_of_ble_eq_true rfl) (Nat.le_of_ble_eq_true rfl))
  · exact hw.elim
set_option maxHeartbeats 4000000 in
set_option maxRecDepth 100000 in
/-- pack on a fresh object -/
theorem c_pack (l : Launch) (hlt : l.stackTraces = false) (D : va_G) (tC tE sz : Nat) (x q0 q1 q2 q3 q4 q5 q6 : Nat) (k3 : ClassId) (a1 a2 a3 : Int32) : vx_Met l yX9_pack wsX9_pack ({ frames := 7, cells := 1, slots := 6, locals := 104 }) (Pg D tC tE sz [(x, .inr (13, [.ref q0, .ref q1, .ref q2, .ref q3, .ref q4, .ref q5, .ref q6, .int 0, .int 0, .int 0, .int 0, .int 0, .int 0, .int 0])), (q3, .inl (k3, 16, .inr (.inr (.inr (.inr (fun _ => none))))))] [(k3, .object "Lastroom$Ticket")] [.ref x, .int a1, .int a2, .int a3]) (Qgi (S := Unit) D (fun u => []) (fun u => []) (fun _ _ => False) (va_A [(x, .inr (13, [.ref q0, .ref q1, .ref q2, .ref q3, .ref q4, .ref q5, .ref q6, .int 0, .int 0, .int 0, .int 0, .int 0, .int 0, .int 0])), (q3, .inl (k3, 16, .inr (.inr (.inr (.inr (fun _ => none))))))] sz)) (XX (fun E => E = gx_ioo) (va_A [(x, .inr (13, [.ref q0, .ref q1, .ref q2, .ref q3, .ref q4, .ref q5, .ref q6, .int 0, .int 0, .int 0, .int 0, .int 0, .int 0, .int 0])), (q3, .inl (k3, 16, .inr (.inr (.inr (.inr (fun _ => none))))))] sz)) 1 6 (va_A [(x, .inr (13, [.ref q0, .ref q1, .ref q2, .ref q3, .ref q4, .ref q5, .ref q6, .int 0, .int 0, .int 0, .int 0, .int 0, .int 0, .int 0])), (q3, .inl (k3, 16, .inr (.inr (.inr (.inr (fun _ => none))))))] sz) := by
  refine og_x (cc := cX9_pack) (maxL := 6) (ret := (some .boolean)) (Qc := Qgi (S := Unit) D (fun u => []) (fun u => []) (fun _ _ => False)) (XC := XX (fun E => E = gx_ioo)) (by decide) rfl (Nat.le_of_ble_eq_true rfl) ?_
  intro p e s m below meth c A hx hb hr hml hts hown hlocks hin htab hP hD hK hG hA hS ls hl
  have hl : lv_has ls 6 [(0, .ref x), (1, .int a1), (2, .int a2), (3, .int a3)] := hl
  refine lv_aload_n hx hb dX9_pack_0 rfl (lv_at hl 0 rfl) ?_
  refine lv_iload_n hx hb dX9_pack_1 rfl (lv_at hl 1 rfl) ?_
  have hFc := va_free (wc := [(x, .inr (13, [.ref q0, .ref q1, .ref q2, .ref q3, .ref q4, .ref q5, .ref q6, .int 0, .int 0, .int 0, .int 0, .int 0, .int 0, .int 0])), (q3, .inl (k3, 16, .inr (.inr (.inr (.inr (fun _ => none))))))]) hD hS hA [0, 1] rfl
  refine vx_callr (vx_runV (As := [.int a1]) (rest := []) ⟨hx, hb, hml, hown, hts⟩ (c_findTicket l hlt D tC tE s.heap.size x q0 q1 q2 q3 q4 q5 q6 k3 a1) (cwV 1 hts gX9_pack_X9_findTicket rfl rfl rfl (by decide +kernel) ⟨(Nat.le_of_ble_eq_true rfl), (Nat.le_of_ble_eq_true rfl)⟩) ⟨pg_blind, (va_recv hK hP (ci := 13) (q0 := 0) rfl rfl), (pg_pre hP hD hK hG hS hFc [0, 1] rfl (by decide) [0] rfl _)⟩ rfl rfl hl.1 rfl (lv_room (Nat.le_of_ble_eq_true rfl)) dX9_pack_2 ⟨(Nat.le_of_ble_eq_true rfl), (Nat.le_of_ble_eq_true rfl)⟩) hS (fun q _ h => hFc q h) hFc (fun q _ h => hFc q h) (fun E ce q9 u t H1 locs1 ht hvm hw hB hz1 hk1 hS hce hcv hcl => ?_) (fun u_2 r_1 t H locs ht hvm hw hB hz1 hk1 hS => ?_)
  · subst hB
    exact vx_widen (k := 1) (n := 6) (Nat.le_of_ble_eq_true rfl) (Nat.le_of_ble_eq_true rfl) (vx_out (fun x hx => (htab x hx).elim) hlocks hce hcv hcl (xx_out hS rfl) hS.2.2 (Nat.le_of_ble_eq_true rfl) (Nat.le_of_ble_eq_true rfl))
  · exact hw.elim
set_option maxHeartbeats 4000000 in
set_option maxRecDepth 100000 in
/-- test on a fresh object -/
theorem c_test (l : Launch) (hlt : l.stackTraces = false) (D : va_G) (tC tE sz : Nat) (x q0 q1 q2 q3 q4 q5 q6 : Nat) (k3 : ClassId) (a1 a2 : Int32) : vx_Met l yX9_test wsX9_test ({ frames := 7, cells := 1, slots := 6, locals := 104 }) (Pg D tC tE sz [(x, .inr (13, [.ref q0, .ref q1, .ref q2, .ref q3, .ref q4, .ref q5, .ref q6, .int 0, .int 0, .int 0, .int 0, .int 0, .int 0, .int 0])), (q3, .inl (k3, 16, .inr (.inr (.inr (.inr (fun _ => none))))))] [(k3, .object "Lastroom$Ticket")] [.ref x, .int a1, .int a2]) (Qgi (S := Unit) D (fun u => []) (fun u => []) (fun _ _ => False) (va_A [(x, .inr (13, [.ref q0, .ref q1, .ref q2, .ref q3, .ref q4, .ref q5, .ref q6, .int 0, .int 0, .int 0, .int 0, .int 0, .int 0, .int 0])), (q3, .inl (k3, 16, .inr (.inr (.inr (.inr (fun _ => none))))))] sz)) (XX (fun E => E = gx_ioo) (va_A [(x, .inr (13, [.ref q0, .ref q1, .ref q2, .ref q3, .ref q4, .ref q5, .ref q6, .int 0, .int 0, .int 0, .int 0, .int 0, .int 0, .int 0])), (q3, .inl (k3, 16, .inr (.inr (.inr (.inr (fun _ => none))))))] sz)) 1 6 (va_A [(x, .inr (13, [.ref q0, .ref q1, .ref q2, .ref q3, .ref q4, .ref q5, .ref q6, .int 0, .int 0, .int 0, .int 0, .int 0, .int 0, .int 0])), (q3, .inl (k3, 16, .inr (.inr (.inr (.inr (fun _ => none))))))] sz) := by
  refine og_x (cc := cX9_test) (maxL := 4) (ret := (some .int)) (Qc := Qgi (S := Unit) D (fun u => []) (fun u => []) (fun _ _ => False)) (XC := XX (fun E => E = gx_ioo)) (by decide) rfl (Nat.le_of_ble_eq_true rfl) ?_
  intro p e s m below meth c A hx hb hr hml hts hown hlocks hin htab hP hD hK hG hA hS ls hl
  have hl : lv_has ls 4 [(0, .ref x), (1, .int a1), (2, .int a2)] := hl
  refine lv_aload_n hx hb dX9_test_0 rfl (lv_at hl 0 rfl) ?_
  refine lv_iload_n hx hb dX9_test_1 rfl (lv_at hl 1 rfl) ?_
  have hFc := va_free (wc := [(x, .inr (13, [.ref q0, .ref q1, .ref q2, .ref q3, .ref q4, .ref q5, .ref q6, .int 0, .int 0, .int 0, .int 0, .int 0, .int 0, .int 0])), (q3, .inl (k3, 16, .inr (.inr (.inr (.inr (fun _ => none))))))]) hD hS hA [0, 1] rfl
  refine vx_callr (vx_runV (As := [.int a1]) (rest := []) ⟨hx, hb, hml, hown, hts⟩ (c_findTicket l hlt D tC tE s.heap.size x q0 q1 q2 q3 q4 q5 q6 k3 a1) (cwV 1 hts gX9_test_X9_findTicket rfl rfl rfl (by decide +kernel) ⟨(Nat.le_of_ble_eq_true rfl), (Nat.le_of_ble_eq_true rfl)⟩) ⟨pg_blind, (va_recv hK hP (ci := 13) (q0 := 0) rfl rfl), (pg_pre hP hD hK hG hS hFc [0, 1] rfl (by decide) [0] rfl _)⟩ rfl rfl hl.1 rfl (lv_room (Nat.le_of_ble_eq_true rfl)) dX9_test_2 ⟨(Nat.le_of_ble_eq_true rfl), (Nat.le_of_ble_eq_true rfl)⟩) hS (fun q _ h => hFc q h) hFc (fun q _ h => hFc q h) (fun E ce q9 u t H1 locs1 ht hvm hw hB hz1 hk1 hS hce hcv hcl => ?_) (fun u_2 r_1 t H locs ht hvm hw hB hz1 hk1 hS => ?_)
  · subst hB
    exact vx_widen (k := 1) (n := 6) (Nat.le_of_ble_eq_true rfl) (Nat.le_of_ble_eq_true rfl) (vx_out (fun x hx => (htab x hx).elim) hlocks hce hcv hcl (xx_out hS rfl) hS.2.2 (Nat.le_of_ble_eq_true rfl) (Nat.le_of_ble_eq_true rfl))
  · exact hw.elim
set_option maxHeartbeats 4000000 in
set_option maxRecDepth 100000 in
/-- comeBack on a fresh object -/
theorem c_comeBack (l : Launch) (hlt : l.stackTraces = false) (D : va_G) (tC tE sz : Nat) (x q0 q1 q2 q3 q4 q5 q6 : Nat) (k3 : ClassId) (a1 : Int32) : vx_Met l yX9_comeBack wsX9_comeBack ({ frames := 7, cells := 1, slots := 6, locals := 104 }) (Pg D tC tE sz [(x, .inr (13, [.ref q0, .ref q1, .ref q2, .ref q3, .ref q4, .ref q5, .ref q6, .int 0, .int 0, .int 0, .int 0, .int 0, .int 0, .int 0])), (q3, .inl (k3, 16, .inr (.inr (.inr (.inr (fun _ => none))))))] [(k3, .object "Lastroom$Ticket")] [.ref x, .int a1]) (Qgi (S := Unit) D (fun u => []) (fun u => []) (fun _ _ => False) (va_A [(x, .inr (13, [.ref q0, .ref q1, .ref q2, .ref q3, .ref q4, .ref q5, .ref q6, .int 0, .int 0, .int 0, .int 0, .int 0, .int 0, .int 0])), (q3, .inl (k3, 16, .inr (.inr (.inr (.inr (fun _ => none))))))] sz)) (XX (fun E => E = gx_ioo) (va_A [(x, .inr (13, [.ref q0, .ref q1, .ref q2, .ref q3, .ref q4, .ref q5, .ref q6, .int 0, .int 0, .int 0, .int 0, .int 0, .int 0, .int 0])), (q3, .inl (k3, 16, .inr (.inr (.inr (.inr (fun _ => none))))))] sz)) 1 6 (va_A [(x, .inr (13, [.ref q0, .ref q1, .ref q2, .ref q3, .ref q4, .ref q5, .ref q6, .int 0, .int 0, .int 0, .int 0, .int 0, .int 0, .int 0])), (q3, .inl (k3, 16, .inr (.inr (.inr (.inr (fun _ => none))))))] sz) := by
  refine og_x (cc := cX9_comeBack) (maxL := 3) (ret := (some .int)) (Qc := Qgi (S := Unit) D (fun u => []) (fun u => []) (fun _ _ => False)) (XC := XX (fun E => E = gx_ioo)) (by decide) rfl (Nat.le_of_ble_eq_true rfl) ?_
  intro p e s m below meth c A hx hb hr hml hts hown hlocks hin htab hP hD hK hG hA hS ls hl
  have hl : lv_has ls 3 [(0, .ref x), (1, .int a1)] := hl
  refine lv_aload_n hx hb dX9_comeBack_0 rfl (lv_at hl 0 rfl) ?_
  refine lv_iload_n hx hb dX9_comeBack_1 rfl (lv_at hl 1 rfl) ?_
  have hFc := va_free (wc := [(x, .inr (13, [.ref q0, .ref q1, .ref q2, .ref q3, .ref q4, .ref q5, .ref q6, .int 0, .int 0, .int 0, .int 0, .int 0, .int 0, .int 0])), (q3, .inl (k3, 16, .inr (.inr (.inr (.inr (fun _ => none))))))]) hD hS hA [0, 1] rfl
  refine vx_callr (vx_runV (As := [.int a1]) (rest := []) ⟨hx, hb, hml, hown, hts⟩ (c_findTicket l hlt D tC tE s.heap.size x q0 q1 q2 q3 q4 q5 q6 k3 a1) (cwV 1 hts gX9_comeBack_X9_findTicket rfl rfl rfl (by decide +kernel) ⟨(Nat.le_of_ble_eq_true rfl), (Nat.le_of_ble_eq_true rfl)⟩) ⟨pg_blind, (va_recv hK hP (ci := 13) (q0 := 0) rfl rfl), (pg_pre hP hD hK hG hS hFc [0, 1] rfl (by decide) [0] rfl _)⟩ rfl rfl hl.1 rfl (lv_room (Nat.le_of_ble_eq_true rfl)) dX9_comeBack_2 ⟨(Nat.le_of_ble_eq_true rfl), (Nat.le_of_ble_eq_true rfl)⟩) hS (fun q _ h => hFc q h) hFc (fun q _ h => hFc q h) (fun E ce q9 u t H1 locs1 ht hvm hw hB hz1 hk1 hS hce hcv hcl => ?_) (fun u_2 r_1 t H locs ht hvm hw hB hz1 hk1 hS => ?_)
  · subst hB
    exact vx_widen (k := 1) (n := 6) (Nat.le_of_ble_eq_true rfl) (Nat.le_of_ble_eq_true rfl) (vx_out (fun x hx => (htab x hx).elim) hlocks hce hcv hcl (xx_out hS rfl) hS.2.2 (Nat.le_of_ble_eq_true rfl) (Nat.le_of_ble_eq_true rfl))
  · exact hw.elim
set_option maxHeartbeats 4000000 in
set_option maxRecDepth 100000 in
/-- hideOf on a fresh object -/
theorem c_hideOf (l : Launch) (hlt : l.stackTraces = false) (D : va_G) (tC tE sz : Nat) (x q0 q1 q2 q3 q4 q5 q6 : Nat) (k3 : ClassId) (a1 a2 a3 : Int32) : vx_Met l yX9_hideOf wsX9_hideOf ({ frames := 7, cells := 1, slots := 6, locals := 104 }) (Pg D tC tE sz [(x, .inr (13, [.ref q0, .ref q1, .ref q2, .ref q3, .ref q4, .ref q5, .ref q6, .int 0, .int 0, .int 0, .int 0, .int 0, .int 0, .int 0])), (q3, .inl (k3, 16, .inr (.inr (.inr (.inr (fun _ => none))))))] [(k3, .object "Lastroom$Ticket")] [.ref x, .int a1, .int a2, .int a3]) (Qgi (S := Unit) D (fun u => []) (fun u => []) (fun _ _ => False) (va_A [(x, .inr (13, [.ref q0, .ref q1, .ref q2, .ref q3, .ref q4, .ref q5, .ref q6, .int 0, .int 0, .int 0, .int 0, .int 0, .int 0, .int 0])), (q3, .inl (k3, 16, .inr (.inr (.inr (.inr (fun _ => none))))))] sz)) (XX (fun E => E = gx_ioo) (va_A [(x, .inr (13, [.ref q0, .ref q1, .ref q2, .ref q3, .ref q4, .ref q5, .ref q6, .int 0, .int 0, .int 0, .int 0, .int 0, .int 0, .int 0])), (q3, .inl (k3, 16, .inr (.inr (.inr (.inr (fun _ => none))))))] sz)) 1 6 (va_A [(x, .inr (13, [.ref q0, .ref q1, .ref q2, .ref q3, .ref q4, .ref q5, .ref q6, .int 0, .int 0, .int 0, .int 0, .int 0, .int 0, .int 0])), (q3, .inl (k3, 16, .inr (.inr (.inr (.inr (fun _ => none))))))] sz) := by
  refine og_x (cc := cX9_hideOf) (maxL := 7) (ret := (some .int)) (Qc := Qgi (S := Unit) D (fun u => []) (fun u => []) (fun _ _ => False)) (XC := XX (fun E => E = gx_ioo)) (by decide) rfl (Nat.le_of_ble_eq_true rfl) ?_
  intro p e s m below meth c A hx hb hr hml hts hown hlocks hin htab hP hD hK hG hA hS ls hl
  have hl : lv_has ls 7 [(0, .ref x), (1, .int a1), (2, .int a2), (3, .int a3)] := hl
  refine lv_aload_n hx hb dX9_hideOf_0 rfl (lv_at hl 0 rfl) ?_
  refine lv_iload_n hx hb dX9_hideOf_1 rfl (lv_at hl 1 rfl) ?_
  have hFc := va_free (wc := [(x, .inr (13, [.ref q0, .ref q1, .ref q2, .ref q3, .ref q4, .ref q5, .ref q6, .int 0, .int 0, .int 0, .int 0, .int 0, .int 0, .int 0])), (q3, .inl (k3, 16, .inr (.inr (.inr (.inr (fun _ => none))))))]) hD hS hA [0, 1] rfl
  refine vx_callr (vx_runV (As := [.int a1]) (rest := []) ⟨hx, hb, hml, hown, hts⟩ (c_findTicket l hlt D tC tE s.heap.size x q0 q1 q2 q3 q4 q5 q6 k3 a1) (cwV 1 hts gX9_hideOf_X9_findTicket rfl rfl rfl (by decide +kernel) ⟨(Nat.le_of_ble_eq_true rfl), (Nat.le_of_ble_eq_true rfl)⟩) ⟨pg_blind, (va_recv hK hP (ci := 13) (q0 := 0) rfl rfl), (pg_pre hP hD hK hG hS hFc [0, 1] rfl (by decide) [0] rfl _)⟩ rfl rfl hl.1 rfl (lv_room (Nat.le_of_ble_eq_true rfl)) dX9_hideOf_2 ⟨(Nat.le_of_ble_eq_true rfl), (Nat.le_of_ble_eq_true rfl)⟩) hS (fun q _ h => hFc q h) hFc (fun q _ h => hFc q h) (fun E ce q9 u t H1 locs1 ht hvm hw hB hz1 hk1 hS hce hcv hcl => ?_) (fun u_2 r_1 t H locs ht hvm hw hB hz1 hk1 hS => ?_)
  · subst hB
    exact vx_widen (k := 1) (n := 6) (Nat.le_of_ble_eq_true rfl) (Nat.le_of_ble_eq_true rfl) (vx_out (fun x hx => (htab x hx).elim) hlocks hce hcv hcl (xx_out hS rfl) hS.2.2 (Nat.le_of_ble_eq_true rfl) (Nat.le_of_ble_eq_true rfl))
  · exact hw.elim
set_option maxHeartbeats 4000000 in
set_option maxRecDepth 100000 in
/-- sewerOf on a fresh object -/
theorem c_sewerOf (l : Launch) (hlt : l.stackTraces = false) (D : va_G) (tC tE sz : Nat) (x q0 q1 q2 q3 q4 q5 q6 : Nat) (k3 : ClassId) (a1 a2 a3 : Int32) : vx_Met l yX9_sewerOf wsX9_sewerOf ({ frames := 7, cells := 1, slots := 6, locals := 104 }) (Pg D tC tE sz [(x, .inr (13, [.ref q0, .ref q1, .ref q2, .ref q3, .ref q4, .ref q5, .ref q6, .int 0, .int 0, .int 0, .int 0, .int 0, .int 0, .int 0])), (q3, .inl (k3, 16, .inr (.inr (.inr (.inr (fun _ => none))))))] [(k3, .object "Lastroom$Ticket")] [.ref x, .int a1, .int a2, .int a3]) (Qgi (S := Unit) D (fun u => []) (fun u => []) (fun _ _ => False) (va_A [(x, .inr (13, [.ref q0, .ref q1, .ref q2, .ref q3, .ref q4, .ref q5, .ref q6, .int 0, .int 0, .int 0, .int 0, .int 0, .int 0, .int 0])), (q3, .inl (k3, 16, .inr (.inr (.inr (.inr (fun _ => none))))))] sz)) (XX (fun E => E = gx_ioo) (va_A [(x, .inr (13, [.ref q0, .ref q1, .ref q2, .ref q3, .ref q4, .ref q5, .ref q6, .int 0, .int 0, .int 0, .int 0, .int 0, .int 0, .int 0])), (q3, .inl (k3, 16, .inr (.inr (.inr (.inr (fun _ => none))))))] sz)) 1 6 (va_A [(x, .inr (13, [.ref q0, .ref q1, .ref q2, .ref q3, .ref q4, .ref q5, .ref q6, .int 0, .int 0, .int 0, .int 0, .int 0, .int 0, .int 0])), (q3, .inl (k3, 16, .inr (.inr (.inr (.inr (fun _ => none))))))] sz) := by
  refine og_x (cc := cX9_sewerOf) (maxL := 7) (ret := (some .int)) (Qc := Qgi (S := Unit) D (fun u => []) (fun u => []) (fun _ _ => False)) (XC := XX (fun E => E = gx_ioo)) (by decide) rfl (Nat.le_of_ble_eq_true rfl) ?_
  intro p e s m below meth c A hx hb hr hml hts hown hlocks hin htab hP hD hK hG hA hS ls hl
  have hl : lv_has ls 7 [(0, .ref x), (1, .int a1), (2, .int a2), (3, .int a3)] := hl
  refine lv_aload_n hx hb dX9_sewerOf_0 rfl (lv_at hl 0 rfl) ?_
  refine lv_iload_n hx hb dX9_sewerOf_1 rfl (lv_at hl 1 rfl) ?_
  have hFc := va_free (wc := [(x, .inr (13, [.ref q0, .ref q1, .ref q2, .ref q3, .ref q4, .ref q5, .ref q6, .int 0, .int 0, .int 0, .int 0, .int 0, .int 0, .int 0])), (q3, .inl (k3, 16, .inr (.inr (.inr (.inr (fun _ => none))))))]) hD hS hA [0, 1] rfl
  refine vx_callr (vx_runV (As := [.int a1]) (rest := []) ⟨hx, hb, hml, hown, hts⟩ (c_findTicket l hlt D tC tE s.heap.size x q0 q1 q2 q3 q4 q5 q6 k3 a1) (cwV 1 hts gX9_sewerOf_X9_findTicket rfl rfl rfl (by decide +kernel) ⟨(Nat.le_of_ble_eq_true rfl), (Nat.le_of_ble_eq_true rfl)⟩) ⟨pg_blind, (va_recv hK hP (ci := 13) (q0 := 0) rfl rfl), (pg_pre hP hD hK hG hS hFc [0, 1] rfl (by decide) [0] rfl _)⟩ rfl rfl hl.1 rfl (lv_room (Nat.le_of_ble_eq_true rfl)) dX9_sewerOf_2 ⟨(Nat.le_of_ble_eq_true rfl), (Nat.le_of_ble_eq_true rfl)⟩) hS (fun q _ h => hFc q h) hFc (fun q _ h => hFc q h) (fun E ce q9 u t H1 locs1 ht hvm hw hB hz1 hk1 hS hce hcv hcl => ?_) (fun u_2 r_1 t H locs ht hvm hw hB hz1 hk1 hS => ?_)
  · subst hB
    exact vx_widen (k := 1) (n := 6) (Nat.le_of_ble_eq_true rfl) (Nat.le_of_ble_eq_true rfl) (vx_out (fun x hx => (htab x hx).elim) hlocks hce hcv hcl (xx_out hS rfl) hS.2.2 (Nat.le_of_ble_eq_true rfl) (Nat.le_of_ble_eq_true rfl))
  · exact hw.elim
set_option maxHeartbeats 4000000 in
set_option maxRecDepth 100000 in
/-- length on a fresh object -/
theorem c_length (l : Launch) (hlt : l.stackTraces = false) (D : va_G) (tC tE sz : Nat) (x q0 q1 q2 q3 q4 q5 q6 : Nat) (a1 a2 : Int32) : vx_Met l yX9_length wsX9_length ({ frames := 8, cells := 1, slots := 6, locals := 125 }) (Pg D tC tE sz [(x, .inr (13, [.ref q0, .ref q1, .ref q2, .ref q3, .ref q4, .ref q5, .ref q6, .int 0, .int 0, .int 0, .int 0, .int 0, .int 0, .int 0]))] [] [.ref x, .int a1, .int a2]) (Qgi (S := Unit) D (fun u => []) (fun u => []) (fun r _ => szB a1 a2 = true ∧ r = lenS a1 a2) (va_A [(x, .inr (13, [.ref q0, .ref q1, .ref q2, .ref q3, .ref q4, .ref q5, .ref q6, .int 0, .int 0, .int 0, .int 0, .int 0, .int 0, .int 0]))] sz)) (XX (fun E => E = gx_iae ∧ szB a1 a2 = false) (va_A [(x, .inr (13, [.ref q0, .ref q1, .ref q2, .ref q3, .ref q4, .ref q5, .ref q6, .int 0, .int 0, .int 0, .int 0, .int 0, .int 0, .int 0]))] sz)) 1 6 (va_A [(x, .inr (13, [.ref q0, .ref q1, .ref q2, .ref q3, .ref q4, .ref q5, .ref q6, .int 0, .int 0, .int 0, .int 0, .int 0, .int 0, .int 0]))] sz) := by
  refine og_x (cc := cX9_length) (maxL := 3) (ret := (some .int)) (Qc := Qgi (S := Unit) D (fun u => []) (fun u => []) (fun r _ => szB a1 a2 = true ∧ r = lenS a1 a2)) (XC := XX (fun E => E = gx_iae ∧ szB a1 a2 = false)) (by decide) rfl (Nat.le_of_ble_eq_true rfl) ?_
  intro p e s m below meth c A hx hb hr hml hts hown hlocks hin htab hP hD hK hG hA hS ls hl
  have hl : lv_has ls 3 [(0, .ref x), (1, .int a1), (2, .int a2)] := hl
  refine lv_iload_n hx hb dX9_length_0 rfl (lv_at hl 1 rfl) ?_
  refine lv_iload_n hx hb dX9_length_1 rfl (lv_at hl 2 rfl) ?_
  have hFc := va_free (wc := []) hD hS hA [] rfl
  refine vx_callv (vx_runS (As := [.int a1, .int a2]) (rest := []) ⟨hx, hb, hml, hown, hts⟩ (c_demandSize l hlt D tC tE s.heap.size a1 a2) (va_cwS 2 hts gX9_length_X9_demandSize rfl rfl rfl (by decide +kernel) ⟨(Nat.le_of_ble_eq_true rfl), (Nat.le_of_ble_eq_true rfl)⟩) ⟨pg_blind, (pg_pre hP hD hK hG hS hFc [] rfl (by decide) [] rfl _)⟩ rfl rfl hl.1 rfl (lv_room (Nat.le_of_ble_eq_true rfl)) dX9_length_2 ⟨(Nat.le_of_ble_eq_true rfl), (Nat.le_of_ble_eq_true rfl)⟩) hS (fun q _ h => hFc q h) hFc (fun q _ h => hFc q h) (fun E ce q9 u t H1 locs1 ht hvm hw hB hz1 hk1 hS hce hcv hcl => ?_) (fun u_1 t H locs ht hvm hw hB hz1 hk1 hS => ?_)
  · obtain ⟨hE, hf⟩ := hB
    subst hE
    exact vx_widen (k := 1) (n := 6) (Nat.le_of_ble_eq_true rfl) (Nat.le_of_ble_eq_true rfl) (vx_out (fun x hx => (htab x hx).elim) hlocks hce hcv hcl (xx_out hS ⟨rfl, by simp [hf]⟩) hS.2.2 (Nat.le_of_ble_eq_true rfl) (Nat.le_of_ble_eq_true rfl))
  · have h_2 := hw
    obtain ⟨hP, hD, hK⟩ := jn (wr := [(x, .inr (13, [.ref q0, .ref q1, .ref q2, .ref q3, .ref q4, .ref q5, .ref q6, .int 0, .int 0, .int 0, .int 0, .int 0, .int 0, .int 0]))]) (w1 := []) (t1 := []) (tr := []) hP hD hK [] [0] rfl rfl (by decide) (by decide) [] rfl hk1 hFc hB rfl rfl ht hvm
    have hP : va_P D vwCl [(x, .inr (13, [.ref q0, .ref q1, .ref q2, .ref q3, .ref q4, .ref q5, .ref q6, .int 0, .int 0, .int 0, .int 0, .int 0, .int 0, .int 0]))] H := hP
    have hD : va_D A [(x, .inr (13, [.ref q0, .ref q1, .ref q2, .ref q3, .ref q4, .ref q5, .ref q6, .int 0, .int 0, .int 0, .int 0, .int 0, .int 0, .int 0]))] := hD
    have hK : va_K D vwCl [] s := hK
    refine W.widen (k := 1) (n := 6) (Nat.le_of_ble_eq_true rfl) (Nat.le_of_ble_eq_true rfl) ?_
    refine lv_iload_n hx hb dX9_length_5 rfl (lv_at hl 1 rfl) ?_
    refine lv_iload_n hx hb dX9_length_6 rfl (lv_at hl 2 rfl) ?_
    have hFc := va_free (wc := []) hD hS hA [] rfl
    refine va_calli (va_runS (As := [.int a1, .int a2]) (rest := []) ⟨hx, hb, hml, hown, hts⟩ (c_lengthOf l D tC tE H.size a1 a2) (va_cwS 2 hts gX9_length_X9_lengthOf rfl rfl rfl (by decide +kernel) ⟨(Nat.le_of_ble_eq_true rfl), (Nat.le_of_ble_eq_true rfl)⟩) ⟨pg_blind, (pg_pre hP hD hK hG hS hFc [] rfl (by decide) [] rfl _)⟩ rfl rfl hl.1 rfl (lv_room (Nat.le_of_ble_eq_true rfl)) dX9_length_7 ⟨(Nat.le_of_ble_eq_true rfl), (Nat.le_of_ble_eq_true rfl)⟩) hS (fun q _ h => hFc q h) hFc (fun r_3 u_4 t H locs ht hvm hw hB hz1 hk1 hS => ?_)
    subst hw
    obtain ⟨hP, hD, hK⟩ := jn (wr := [(x, .inr (13, [.ref q0, .ref q1, .ref q2, .ref q3, .ref q4, .ref q5, .ref q6, .int 0, .int 0, .int 0, .int 0, .int 0, .int 0, .int 0]))]) (w1 := []) (t1 := []) (tr := []) hP hD hK [] [0] rfl rfl (by decide) (by decide) [] rfl hk1 hFc hB rfl rfl ht hvm
    have hP : va_P D vwCl [(x, .inr (13, [.ref q0, .ref q1, .ref q2, .ref q3, .ref q4, .ref q5, .ref q6, .int 0, .int 0, .int 0, .int 0, .int 0, .int 0, .int 0]))] H := hP
    have hD : va_D A [(x, .inr (13, [.ref q0, .ref q1, .ref q2, .ref q3, .ref q4, .ref q5, .ref q6, .int 0, .int 0, .int 0, .int 0, .int 0, .int 0, .int 0]))] := hD
    have hK : va_K D vwCl [] s := hK
    refine W.widen (k := 1) (n := 6) (Nat.le_of_ble_eq_true rfl) (Nat.le_of_ble_eq_true rfl) ?_
    have hP9 := hP.sub (ws' := []) [] rfl
    have hD9 := hD.sub (ws' := []) [] (by decide) rfl
    have hK9 := hK.sub (tys' := []) [] rfl
    exact vx_ret (end_i hx hb hr hlocks hP9 hD9 hK9 hS () rfl rfl (by simp [h_2]) (Nat.le_of_ble_eq_true rfl) (Nat.le_of_ble_eq_true rfl) dX9_length_10)
set_option maxHeartbeats 4000000 in
set_option maxRecDepth 100000 in
/-- pass on a fresh object -/
theorem c_pass (l : Launch) (hlt : l.stackTraces = false) (D : va_G) (tC tE sz : Nat) (x q0 q1 q2 q3 q4 q5 q6 : Nat) (a1 : Int32) : vx_Met l yX9_pass wsX9_pass ({ frames := 7, cells := 1, slots := 6, locals := 104 }) (Pg D tC tE sz [(x, .inr (13, [.ref q0, .ref q1, .ref q2, .ref q3, .ref q4, .ref q5, .ref q6, .int 0, .int 0, .int 0, .int 0, .int 0, .int 0, .int 0]))] [] [.ref x, .int a1]) (Qgi (S := Unit) D (fun u => []) (fun u => []) (fun r _ => rg a1 1 240 = true ∧ r = a1) (va_A [(x, .inr (13, [.ref q0, .ref q1, .ref q2, .ref q3, .ref q4, .ref q5, .ref q6, .int 0, .int 0, .int 0, .int 0, .int 0, .int 0, .int 0]))] sz)) (XX (fun E => E = gx_iae ∧ rg a1 1 240 = false) (va_A [(x, .inr (13, [.ref q0, .ref q1, .ref q2, .ref q3, .ref q4, .ref q5, .ref q6, .int 0, .int 0, .int 0, .int 0, .int 0, .int 0, .int 0]))] sz)) 1 6 (va_A [(x, .inr (13, [.ref q0, .ref q1, .ref q2, .ref q3, .ref q4, .ref q5, .ref q6, .int 0, .int 0, .int 0, .int 0, .int 0, .int 0, .int 0]))] sz) := by
  refine og_x (cc := cX9_pass) (maxL := 2) (ret := (some .int)) (Qc := Qgi (S := Unit) D (fun u => []) (fun u => []) (fun r _ => rg a1 1 240 = true ∧ r = a1)) (XC := XX (fun E => E = gx_iae ∧ rg a1 1 240 = false)) (by decide) rfl (Nat.le_of_ble_eq_true rfl) ?_
  intro p e s m below meth c A hx hb hr hml hts hown hlocks hin htab hP hD hK hG hA hS ls hl
  have hl : lv_has ls 2 [(0, .ref x), (1, .int a1)] := hl
  refine lv_iload_n hx hb dX9_pass_0 rfl (lv_at hl 1 rfl) ?_
  refine lv_iconst (v := 1) hx hb dX9_pass_1 (by decide) ?_
  refine lv_sipush (v := 240) hx hb dX9_pass_2 (by decide) ?_
  have hFc := va_free (wc := []) hD hS hA [] rfl
  refine vx_callv (vx_runS (As := [.int a1, .int 1, .int 240]) (rest := []) ⟨hx, hb, hml, hown, hts⟩ (c_demandRange l hlt D tC tE s.heap.size a1 1 240) (va_cwS 3 hts gX9_pass_X9_demandRange rfl rfl rfl (by decide +kernel) ⟨(Nat.le_of_ble_eq_true rfl), (Nat.le_of_ble_eq_true rfl)⟩) ⟨pg_blind, (pg_pre hP hD hK hG hS hFc [] rfl (by decide) [] rfl _)⟩ rfl rfl hl.1 rfl (lv_room (Nat.le_of_ble_eq_true rfl)) dX9_pass_5 ⟨(Nat.le_of_ble_eq_true rfl), (Nat.le_of_ble_eq_true rfl)⟩) hS (fun q _ h => hFc q h) hFc (fun q _ h => hFc q h) (fun E ce q9 u t H1 locs1 ht hvm hw hB hz1 hk1 hS hce hcv hcl => ?_) (fun u_1 t H locs ht hvm hw hB hz1 hk1 hS => ?_)
  · obtain ⟨hE, hf⟩ := hB
    subst hE
    exact vx_widen (k := 1) (n := 6) (Nat.le_of_ble_eq_true rfl) (Nat.le_of_ble_eq_true rfl) (vx_out (fun x hx => (htab x hx).elim) hlocks hce hcv hcl (xx_out hS ⟨rfl, by simp [hf]⟩) hS.2.2 (Nat.le_of_ble_eq_true rfl) (Nat.le_of_ble_eq_true rfl))
  · have h_2 := hw
    obtain ⟨hP, hD, hK⟩ := jn (wr := [(x, .inr (13, [.ref q0, .ref q1, .ref q2, .ref q3, .ref q4, .ref q5, .ref q6, .int 0, .int 0, .int 0, .int 0, .int 0, .int 0, .int 0]))]) (w1 := []) (t1 := []) (tr := []) hP hD hK [] [0] rfl rfl (by decide) (by decide) [] rfl hk1 hFc hB rfl rfl ht hvm
    have hP : va_P D vwCl [(x, .inr (13, [.ref q0, .ref q1, .ref q2, .ref q3, .ref q4, .ref q5, .ref q6, .int 0, .int 0, .int 0, .int 0, .int 0, .int 0, .int 0]))] H := hP
    have hD : va_D A [(x, .inr (13, [.ref q0, .ref q1, .ref q2, .ref q3, .ref q4, .ref q5, .ref q6, .int 0, .int 0, .int 0, .int 0, .int 0, .int 0, .int 0]))] := hD
    have hK : va_K D vwCl [] s := hK
    refine W.widen (k := 1) (n := 6) (Nat.le_of_ble_eq_true rfl) (Nat.le_of_ble_eq_true rfl) ?_
    refine lv_aload_n hx hb dX9_pass_8 rfl (lv_at hl 0 rfl) ?_
    refine lv_dup hx hb dX9_pass_9 rfl ?_
    refine va_get (D := D) (ci := 13) (v := .int 0) (C := RX9) (T := TX9) (N := 14) hx hb hts (fun w h => List.mem_cons_of_mem _ (List.mem_append_left _ (List.mem_append_right _ h))) hown hK hP 0 rfl rfl 13 (by decide) (hts (.fieldLink RX9 271 "Lastroom" "minute" "I") (List.mem_of_getElem? (i := 1) rfl)) (fun _ h9 => h9) rfl dX9_pass_10 ?_
    refine lv_iload_n hx hb dX9_pass_13 rfl (lv_at hl 1 rfl) ?_
    refine lv_iadd hx hb dX9_pass_14 ?_
    refine va_put (D := D) (ci := 13) (v := .int ((0 : Int32) + a1)) (ty := .int) (C := RX9) (T := TX9) (N := 14) hx hb hts (fun w h => List.mem_cons_of_mem _ (List.mem_append_left _ (List.mem_append_right _ h))) tyX9 tyX9_ok nmX9 hown hK hP hD hS 0 rfl rfl 13 (by decide) (hts (.fieldLink RX9 271 "Lastroom" "minute" "I") (List.mem_of_getElem? (i := 1) rfl)) (fun _ h9 => h9) rfl (by decide +kernel) rfl rfl (Nat.le_of_ble_eq_true rfl) dX9_pass_15 (fun H locs hP hD hS => ?_)
    have hP : va_P D vwCl [(x, .inr (13, [.ref q0, .ref q1, .ref q2, .ref q3, .ref q4, .ref q5, .ref q6, .int 0, .int 0, .int 0, .int 0, .int 0, .int 0, .int ((0 : Int32) + a1)]))] H := hP
    have hD : va_D A [(x, .inr (13, [.ref q0, .ref q1, .ref q2, .ref q3, .ref q4, .ref q5, .ref q6, .int 0, .int 0, .int 0, .int 0, .int 0, .int 0, .int ((0 : Int32) + a1)]))] := hD
    refine lv_aload_n hx hb dX9_pass_18 rfl (lv_at hl 0 rfl) ?_
    refine va_get (D := D) (ci := 13) (v := .int ((0 : Int32) + a1)) (C := RX9) (T := TX9) (N := 14) hx hb hts (fun w h => List.mem_cons_of_mem _ (List.mem_append_left _ (List.mem_append_right _ h))) hown hK hP 0 rfl rfl 13 (by decide) (hts (.fieldLink RX9 271 "Lastroom" "minute" "I") (List.mem_of_getElem? (i := 1) rfl)) (fun _ h9 => h9) rfl dX9_pass_19 ?_
    have hP9 := hP.sub (ws' := []) [] rfl
    have hD9 := hD.sub (ws' := []) [] (by decide) rfl
    have hK9 := hK.sub (tys' := []) [] rfl
    exact vx_ret (end_i hx hb hr hlocks hP9 hD9 hK9 hS () rfl rfl (by simp [h_2]) (Nat.le_of_ble_eq_true rfl) (Nat.le_of_ble_eq_true rfl) dX9_pass_22)
set_option maxHeartbeats 4000000 in
set_option maxRecDepth 100000 in
/-- model on a fresh object -/
theorem c_model (l : Launch) (hlt : l.stackTraces = false) (D : va_G) (tC tE sz : Nat) (x q0 q1 q2 q3 q4 q5 q6 : Nat) (k0 : ClassId) (a1 a2 : Int32) : vx_Met l yX9_model wsX9_model ({ frames := 7, cells := 4, slots := 51, locals := 104 }) (Pg D tC tE sz [(x, .inr (13, [.ref q0, .ref q1, .ref q2, .ref q3, .ref q4, .ref q5, .ref q6, .int 0, .int 0, .int 0, .int 0, .int 0, .int 0, .int 0])), (q0, .inl (k0, 5, .inr (.inr (.inr (.inr (fun _ => none))))))] [(k0, .object "Lastroom$Model")] [.ref x, .int a1, .int a2]) (Qgi (S := Unit) D (fun u => []) (fun u => []) (fun r _ => modB a1 a2 = true ∧ r = 0) (va_A [(x, .inr (13, [.ref q0, .ref q1, .ref q2, .ref q3, .ref q4, .ref q5, .ref q6, .int 0, .int 0, .int 0, .int 0, .int 0, .int 0, .int 0])), (q0, .inl (k0, 5, .inr (.inr (.inr (.inr (fun _ => none))))))] sz)) (XX (fun E => E = gx_iae ∧ modB a1 a2 = false) (va_A [(x, .inr (13, [.ref q0, .ref q1, .ref q2, .ref q3, .ref q4, .ref q5, .ref q6, .int 0, .int 0, .int 0, .int 0, .int 0, .int 0, .int 0])), (q0, .inl (k0, 5, .inr (.inr (.inr (.inr (fun _ => none))))))] sz)) 4 51 (va_A [(x, .inr (13, [.ref q0, .ref q1, .ref q2, .ref q3, .ref q4, .ref q5, .ref q6, .int 0, .int 0, .int 0, .int 0, .int 0, .int 0, .int 0])), (q0, .inl (k0, 5, .inr (.inr (.inr (.inr (fun _ => none))))))] sz) := by
  refine og_x (cc := cX9_model) (maxL := 3) (ret := (some .int)) (Qc := Qgi (S := Unit) D (fun u => []) (fun u => []) (fun r _ => modB a1 a2 = true ∧ r = 0)) (XC := XX (fun E => E = gx_iae ∧ modB a1 a2 = false)) (by decide) rfl (Nat.le_of_ble_eq_true rfl) ?_
  intro p e s m below meth c A hx hb hr hml hts hown hlocks hin htab hP hD hK hG hA hS ls hl
  have hl : lv_has ls 3 [(0, .ref x), (1, .int a1), (2, .int a2)] := hl
  refine lv_iload_n hx hb dX9_model_0 rfl (lv_at hl 1 rfl) ?_
  refine lv_sipush (v := 1500) hx hb dX9_model_1 (by decide) ?_
  refine lv_sipush (v := 3500) hx hb dX9_model_4 (by decide) ?_
  have hFc := va_free (wc := []) hD hS hA [] rfl
  refine vx_callv (vx_runS (As := [.int a1, .int 1500, .int 3500]) (rest := []) ⟨hx, hb, hml, hown, hts⟩ (c_demandRange l hlt D tC tE s.heap.size a1 1500 3500) (va_cwS 3 hts gX9_model_X9_demandRange rfl rfl rfl (by decide +kernel) ⟨(Nat.le_of_ble_eq_true rfl), (Nat.le_of_ble_eq_true rfl)⟩) ⟨pg_blind, (pg_pre hP hD hK hG hS hFc [] rfl (by decide) [] rfl _)⟩ rfl rfl hl.1 rfl (lv_room (Nat.le_of_ble_eq_true rfl)) dX9_model_7 ⟨(Nat.le_of_ble_eq_true rfl), (Nat.le_of_ble_eq_true rfl)⟩) hS (fun q _ h => hFc q h) hFc (fun q _ h => hFc q h) (fun E ce q9 u t H1 locs1 ht hvm hw hB hz1 hk1 hS hce hcv hcl => ?_) (fun u_1 t H locs ht hvm hw hB hz1 hk1 hS => ?_)
  · obtain ⟨hE, hf⟩ := hB
    subst hE
    exact vx_widen (k := 1) (n := 6) (Nat.le_of_ble_eq_true rfl) (Nat.le_of_ble_eq_true rfl) (vx_out (fun x hx => (htab x hx).elim) hlocks hce hcv hcl (xx_out hS ⟨rfl, by simp [modB, hf]⟩) hS.2.2 (Nat.le_of_ble_eq_true rfl) (Nat.le_of_ble_eq_true rfl))
  · have h_2 := hw
    obtain ⟨hP, hD, hK⟩ := jn (wr := [(x, .inr (13, [.ref q0, .ref q1, .ref q2, .ref q3, .ref q4, .ref q5, .ref q6, .int 0, .int 0, .int 0, .int 0, .int 0, .int 0, .int 0])), (q0, .inl (k0, 5, .inr (.inr (.inr (.inr (fun _ => none))))))]) (w1 := []) (t1 := []) (tr := [(k0, .object "Lastroom$Model")]) hP hD hK [] [0, 1] rfl rfl (by decide) (by decide) [0] rfl hk1 hFc hB rfl rfl ht hvm
    have hP : va_P D vwCl [(x, .inr (13, [.ref q0, .ref q1, .ref q2, .ref q3, .ref q4, .ref q5, .ref q6, .int 0, .int 0, .int 0, .int 0, .int 0, .int 0, .int 0])), (q0, .inl (k0, 5, .inr (.inr (.inr (.inr (fun _ => none))))))] H := hP
    have hD : va_D A [(x, .inr (13, [.ref q0, .ref q1, .ref q2, .ref q3, .ref q4, .ref q5, .ref q6, .int 0, .int 0, .int 0, .int 0, .int 0, .int 0, .int 0])), (q0, .inl (k0, 5, .inr (.inr (.inr (.inr (fun _ => none))))))] := hD
    have hK : va_K D vwCl [(k0, .object "Lastroom$Model")] s := hK
    refine W.widen (k := 1) (n := 6) (Nat.le_of_ble_eq_true rfl) (Nat.le_of_ble_eq_true rfl) ?_
    refine lv_iload_n hx hb dX9_model_10 rfl (lv_at hl 2 rfl) ?_
    refine lv_bipush (v := 10) hx hb dX9_model_11 (by decide) ?_
    refine lv_bipush (v := 99) hx hb dX9_model_13 (by decide) ?_
    have hFc := va_free (wc := []) hD hS hA [] rfl
    refine vx_callv (vx_runS (As := [.int a2, .int 10, .int 99]) (rest := []) ⟨hx, hb, hml, hown, hts⟩ (c_demandRange l hlt D tC tE H.size a2 10 99) (va_cwS 3 hts gX9_model_X9_demandRange rfl rfl rfl (by decide +kernel) ⟨(Nat.le_of_ble_eq_true rfl), (Nat.le_of_ble_eq_true rfl)⟩) ⟨pg_blind, (pg_pre hP hD hK hG hS hFc [] rfl (by decide) [] rfl _)⟩ rfl rfl hl.1 rfl (lv_room (Nat.le_of_ble_eq_true rfl)) dX9_model_15 ⟨(Nat.le_of_ble_eq_true rfl), (Nat.le_of_ble_eq_true rfl)⟩) hS (fun q _ h => hFc q h) hFc (fun q _ h => hFc q h) (fun E ce q9 u t H1 locs1 ht hvm hw hB hz1 hk1 hS hce hcv hcl => ?_) (fun u_3 t H locs ht hvm hw hB hz1 hk1 hS => ?_)
    · obtain ⟨hE, hf⟩ := hB
      subst hE
      exact vx_widen (k := 2) (n := 12) (Nat.le_of_ble_eq_true rfl) (Nat.le_of_ble_eq_true rfl) (vx_out (fun x hx => (htab x hx).elim) hlocks hce hcv hcl (xx_out hS ⟨rfl, by simp [modB, h_2, hf]⟩) hS.2.2 (Nat.le_of_ble_eq_true rfl) (Nat.le_of_ble_eq_true rfl))
    · have h_4 := hw
      obtain ⟨hP, hD, hK⟩ := jn (wr := [(x, .inr (13, [.ref q0, .ref q1, .ref q2, .ref q3, .ref q4, .ref q5, .ref q6, .int 0, .int 0, .int 0, .int 0, .int 0, .int 0, .int 0])), (q0, .inl (k0, 5, .inr (.inr (.inr (.inr (fun _ => none))))))]) (w1 := []) (t1 := []) (tr := [(k0, .object "Lastroom$Model")]) hP hD hK [] [0, 1] rfl rfl (by decide) (by decide) [0] rfl hk1 hFc hB rfl rfl ht hvm
      have hP : va_P D vwCl [(x, .inr (13, [.ref q0, .ref q1, .ref q2, .ref q3, .ref q4, .ref q5, .ref q6, .int 0, .int 0, .int 0, .int 0, .int 0, .int 0, .int 0])), (q0, .inl (k0, 5, .inr (.inr (.inr (.inr (fun _ => none))))))] H := hP
      have hD : va_D A [(x, .inr (13, [.ref q0, .ref q1, .ref q2, .ref q3, .ref q4, .ref q5, .ref q6, .int 0, .int 0, .int 0, .int 0, .int 0, .int 0, .int 0])), (q0, .inl (k0, 5, .inr (.inr (.inr (.inr (fun _ => none))))))] := hD
      have hK : va_K D vwCl [(k0, .object "Lastroom$Model")] s := hK
      refine W.widen (k := 2) (n := 12) (Nat.le_of_ble_eq_true rfl) (Nat.le_of_ble_eq_true rfl) ?_
      refine lv_aload_n hx hb dX9_model_18 rfl (lv_at hl 0 rfl) ?_
      refine va_get (D := D) (ci := 13) (v := .int 0) (C := RX9) (T := TX9) (N := 14) hx hb hts (fun w h => List.mem_cons_of_mem _ (List.mem_append_left _ (List.mem_append_left _ (List.mem_append_left _ (List.mem_append_right _ h))))) hown hK hP 0 rfl rfl 7 (by decide) (hts (.fieldLink RX9 86 "Lastroom" "modelCount" "I") (List.mem_of_getElem? (i := 3) rfl)) (fun _ h9 => h9) rfl dX9_model_19 ?_
      refine lv_aload_n hx hb dX9_model_22 rfl (lv_at hl 0 rfl) ?_
      refine va_get (D := D) (ci := 13) (v := .ref q0) (C := RX9) (T := TX9) (N := 14) hx hb hts (fun w h => List.mem_cons_of_mem _ (List.mem_append_left _ (List.mem_append_left _ (List.mem_append_left _ (List.mem_append_right _ h))))) hown hK hP 0 rfl rfl 0 (by decide) (hts (.fieldLink RX9 11 "Lastroom" "models" "[LLastroom$Model;") (List.mem_of_getElem? (i := 4) rfl)) (fun _ h9 => h9) rfl dX9_model_23 ?_
      refine va_alen hx hb hK hP 1 0 rfl rfl (v := 5) rfl dX9_model_26 ?_
      refine lv_icmp_lt (tgt := 40) hx hb dX9_model_27 (by decide) (fun c_5 => ?_) (fun c_5 => absurd (show (0 : Int32) < 5 from (by decide)) c_5)
      refine lv_aload_n hx hb dX9_model_40 rfl (lv_at hl 0 rfl) ?_
      refine va_get (D := D) (ci := 13) (v := .ref q0) (C := RX9) (T := TX9) (N := 14) hx hb hts (fun w h => List.mem_cons_of_mem _ (List.mem_append_left _ (List.mem_append_left _ (List.mem_append_left _ (List.mem_append_right _ h))))) hown hK hP 0 rfl rfl 0 (by decide) (hts (.fieldLink RX9 11 "Lastroom" "models" "[LLastroom$Model;") (List.mem_of_getElem? (i := 4) rfl)) (fun _ h9 => h9) rfl dX9_model_41 ?_
      refine lv_aload_n hx hb dX9_model_44 rfl (lv_at hl 0 rfl) ?_
      refine va_get (D := D) (ci := 13) (v := .int 0) (C := RX9) (T := TX9) (N := 14) hx hb hts (fun w h => List.mem_cons_of_mem _ (List.mem_append_left _ (List.mem_append_left _ (List.mem_append_left _ (List.mem_append_right _ h))))) hown hK hP 0 rfl rfl 7 (by decide) (hts (.fieldLink RX9 86 "Lastroom" "modelCount" "I") (List.mem_of_getElem? (i := 3) rfl)) (fun _ h9 => h9) rfl dX9_model_45 ?_
      refine va_new (ci := 7) (fs := [.int 0, .int 0, .null]) (C := RX3) (T := TX3) (N := 3) hx hb hts (fun w h => List.mem_cons_of_mem _ (List.mem_append_left _ (List.mem_append_left _ (List.mem_append_right _ h)))) tyX3 tyX3_ok hown (hts (.classLink RX9 9 RX3) (List.mem_of_getElem? (i := 5) rfl)) (hts (.instantiable RX3 3) (List.mem_of_getElem? (i := 6) rfl)) (hts (.initialized RX3) (List.mem_of_getElem? (i := 7) rfl)) hK hP hD hS hA rfl (fun j hj => by rcases (show j = 0 ∨ j = 1 ∨ j = 2 by omega) with rfl | rfl | rfl <;> rfl) (Nat.le_of_ble_eq_true rfl) (Nat.le_of_ble_eq_true rfl) dX9_model_48 (fun q_6 H hP hD hS => ?_)
      have hP : va_P D vwCl [(x, .inr (13, [.ref q0, .ref q1, .ref q2, .ref q3, .ref q4, .ref q5, .ref q6, .int 0, .int 0, .int 0, .int 0, .int 0, .int 0, .int 0])), (q0, .inl (k0, 5, .inr (.inr (.inr (.inr (fun _ => none)))))), (q_6, .inr (7, [.int 0, .int 0, .null]))] H := hP
      have hD : va_D A [(x, .inr (13, [.ref q0, .ref q1, .ref q2, .ref q3, .ref q4, .ref q5, .ref q6, .int 0, .int 0, .int 0, .int 0, .int 0, .int 0, .int 0])), (q0, .inl (k0, 5, .inr (.inr (.inr (.inr (fun _ => none)))))), (q_6, .inr (7, [.int 0, .int 0, .null]))] := hD
      refine W.widen (k := 3) (n := 15) (Nat.le_of_ble_eq_true rfl) (Nat.le_of_ble_eq_true rfl) ?_
      refine lv_dup hx hb dX9_model_51 rfl ?_
      refine lv_iload_n hx hb dX9_model_52 rfl (lv_at hl 1 rfl) ?_
      refine lv_iload_n hx hb dX9_model_53 rfl (lv_at hl 2 rfl) ?_
      have hFc := va_free (wc := [(q_6, .inr (7, [.int 0, .int 0, .null]))]) hD hS hA [2] rfl
      refine va_callv (va_runI (As := [.int a1, .int a2]) (rest := [.ref q_6, .int 0, .ref q0]) ⟨hx, hb, hml, hown, hts⟩ (c_Model l D tC tE H.size q_6 a1 a2) (cwI 2 hts gX9_model_X3_init rfl rfl rfl (hts (.initialized RX3) (List.mem_of_getElem? (i := 7) rfl)) (hts (.methodLink RX9 95 yX3_init) (List.mem_of_getElem? (i := 14) rfl)) (hts (.instanceMethod yX3_init) (List.mem_of_getElem? (i := 15) rfl)) rfl (by decide +kernel) ⟨(Nat.le_of_ble_eq_true rfl), (Nat.le_of_ble_eq_true rfl)⟩) ⟨pg_blind, (pg_pre hP hD hK hG hS hFc [2] rfl (by decide) [] rfl _)⟩ rfl rfl hl.1 rfl (lv_room (Nat.le_of_ble_eq_true rfl)) dX9_model_54 ⟨(Nat.le_of_ble_eq_true rfl), (Nat.le_of_ble_eq_true rfl)⟩) hS (fun q _ h => hFc q h) hFc (fun u_7 t H locs ht hvm hw hB hz1 hk1 hS => ?_)
      obtain ⟨hP, hD, hK⟩ := jn (wr := [(x, .inr (13, [.ref q0, .ref q1, .ref q2, .ref q3, .ref q4, .ref q5, .ref q6, .int 0, .int 0, .int 0, .int 0, .int 0, .int 0, .int 0])), (q0, .inl (k0, 5, .inr (.inr (.inr (.inr (fun _ => none))))))]) (w1 := [(q_6, .inr (7, [.int a1, .int a2, .ref u_7]))]) (t1 := []) (tr := [(k0, .object "Lastroom$Model")]) hP hD hK [2] [0, 1] rfl rfl (by decide) (by decide) [0] rfl hk1 hFc hB rfl rfl ht hvm
      have hP : va_P D vwCl [(x, .inr (13, [.ref q0, .ref q1, .ref q2, .ref q3, .ref q4, .ref q5, .ref q6, .int 0, .int 0, .int 0, .int 0, .int 0, .int 0, .int 0])), (q0, .inl (k0, 5, .inr (.inr (.inr (.inr (fun _ => none)))))), (q_6, .inr (7, [.int a1, .int a2, .ref u_7]))] H := hP
      have hD : va_D A [(x, .inr (13, [.ref q0, .ref q1, .ref q2, .ref q3, .ref q4, .ref q5, .ref q6, .int 0, .int 0, .int 0, .int 0, .int 0, .int 0, .int 0])), (q0, .inl (k0, 5, .inr (.inr (.inr (.inr (fun _ => none)))))), (q_6, .inr (7, [.int a1, .int a2, .ref u_7]))] := hD
      have hK : va_K D vwCl [(k0, .object "Lastroom$Model")] s := hK
      refine W.widen (k := 4) (n := 51) (Nat.le_of_ble_eq_true rfl) (Nat.le_of_ble_eq_true rfl) ?_
      refine va_astq (r := (RX3, TX3, 3)) hx hb hK hP hD hS 1 0 2 7 rfl rfl rfl rfl (vp_in_iff.mpr (by decide)) dX9_model_57 (fun H locs hP hD hS => ?_)
      have hP : va_P D vwCl [(x, .inr (13, [.ref q0, .ref q1, .ref q2, .ref q3, .ref q4, .ref q5, .ref q6, .int 0, .int 0, .int 0, .int 0, .int 0, .int 0, .int 0])), (q0, .inl (k0, 5, .inr (.inr (.inr (.inr (va_up (fun _ => none) (0 : Int32).toNatClampNeg (some q_6))))))), (q_6, .inr (7, [.int a1, .int a2, .ref u_7]))] H := hP
      have hD : va_D A [(x, .inr (13, [.ref q0, .ref q1, .ref q2, .ref q3, .ref q4, .ref q5, .ref q6, .int 0, .int 0, .int 0, .int 0, .int 0, .int 0, .int 0])), (q0, .inl (k0, 5, .inr (.inr (.inr (.inr (va_up (fun _ => none) (0 : Int32).toNatClampNeg (some q_6))))))), (q_6, .inr (7, [.int a1, .int a2, .ref u_7]))] := hD
      refine lv_aload_n hx hb dX9_model_58 rfl (lv_at hl 0 rfl) ?_
      refine lv_dup hx hb dX9_model_59 rfl ?_
      refine va_get (D := D) (ci := 13) (v := .int 0) (C := RX9) (T := TX9) (N := 14) hx hb hts (fun w h => List.mem_cons_of_mem _ (List.mem_append_left _ (List.mem_append_left _ (List.mem_append_left _ (List.mem_append_right _ h))))) hown hK hP 0 rfl rfl 7 (by decide) (hts (.fieldLink RX9 86 "Lastroom" "modelCount" "I") (List.mem_of_getElem? (i := 3) rfl)) (fun _ h9 => h9) rfl dX9_model_60 ?_
      refine lv_dup_x1 hx hb dX9_model_63 rfl rfl ?_
      refine lv_iconst (v := 1) hx hb dX9_model_64 (by decide) ?_
      refine lv_iadd hx hb dX9_model_65 ?_
      refine lv_topi (fun y hy => ?_)
      rw [show (0 : Int32) + (1 : Int32) = 1 by decide] at hy
      subst hy
      refine va_put (D := D) (ci := 13) (v := .int 1) (ty := .int) (C := RX9) (T := TX9) (N := 14) hx hb hts (fun w h => List.mem_cons_of_mem _ (List.mem_append_left _ (List.mem_append_left _ (List.mem_append_left _ (List.mem_append_right _ h))))) tyX9 tyX9_ok nmX9 hown hK hP hD hS 0 rfl rfl 7 (by decide) (hts (.fieldLink RX9 86 "Lastroom" "modelCount" "I") (List.mem_of_getElem? (i := 3) rfl)) (fun _ h9 => h9) rfl (by decide +kernel) rfl rfl (Nat.le_of_ble_eq_true rfl) dX9_model_66 (fun H locs hP hD hS => ?_)
      have hP : va_P D vwCl [(x, .inr (13, [.ref q0, .ref q1, .ref q2, .ref q3, .ref q4, .ref q5, .ref q6, .int 1, .int 0, .int 0, .int 0, .int 0, .int 0, .int 0])), (q0, .inl (k0, 5, .inr (.inr (.inr (.inr (va_up (fun _ => none) (0 : Int32).toNatClampNeg (some q_6))))))), (q_6, .inr (7, [.int a1, .int a2, .ref u_7]))] H := hP
      have hD : va_D A [(x, .inr (13, [.ref q0, .ref q1, .ref q2, .ref q3, .ref q4, .ref q5, .ref q6, .int 1, .int 0, .int 0, .int 0, .int 0, .int 0, .int 0])), (q0, .inl (k0, 5, .inr (.inr (.inr (.inr (va_up (fun _ => none) (0 : Int32).toNatClampNeg (some q_6))))))), (q_6, .inr (7, [.int a1, .int a2, .ref u_7]))] := hD
      have hP9 := hP.sub (ws' := []) [] rfl
      have hD9 := hD.sub (ws' := []) [] (by decide) rfl
      have hK9 := hK.sub (tys' := []) [] rfl
      exact vx_ret (end_i hx hb hr hlocks hP9 hD9 hK9 hS () rfl rfl (by simp [modB, h_2, h_4]) (Nat.le_of_ble_eq_true rfl) (Nat.le_of_ble_eq_true rfl) dX9_model_69)
set_option maxHeartbeats 4000000 in
set_option maxRecDepth 100000 in
/-- open on a fresh object -/
theorem c_open (l : Launch) (hlt : l.stackTraces = false) (D : va_G) (tC tE sz : Nat) (x q0 q1 q2 q3 q4 q5 q6 : Nat) (k4 : ClassId) (a1 : Int32) : vx_Met l yX9_open wsX9_open ({ frames := 7, cells := 2, slots := 8, locals := 104 }) (Pg D tC tE sz [(x, .inr (13, [.ref q0, .ref q1, .ref q2, .ref q3, .ref q4, .ref q5, .ref q6, .int 0, .int 0, .int 0, .int 0, .int 0, .int 0, .int 0])), (q4, .inl (k4, 20, .inr (.inr (.inr (.inr (fun _ => none))))))] [(k4, .object "Lastroom$Lot")] [.ref x, .int a1]) (Qgi (S := Unit) D (fun u => []) (fun u => []) (fun r _ => rg a1 1 240 = true ∧ r = 0) (va_A [(x, .inr (13, [.ref q0, .ref q1, .ref q2, .ref q3, .ref q4, .ref q5, .ref q6, .int 0, .int 0, .int 0, .int 0, .int 0, .int 0, .int 0])), (q4, .inl (k4, 20, .inr (.inr (.inr (.inr (fun _ => none))))))] sz)) (XX (fun E => E = gx_iae ∧ rg a1 1 240 = false) (va_A [(x, .inr (13, [.ref q0, .ref q1, .ref q2, .ref q3, .ref q4, .ref q5, .ref q6, .int 0, .int 0, .int 0, .int 0, .int 0, .int 0, .int 0])), (q4, .inl (k4, 20, .inr (.inr (.inr (.inr (fun _ => none))))))] sz)) 2 8 (va_A [(x, .inr (13, [.ref q0, .ref q1, .ref q2, .ref q3, .ref q4, .ref q5, .ref q6, .int 0, .int 0, .int 0, .int 0, .int 0, .int 0, .int 0])), (q4, .inl (k4, 20, .inr (.inr (.inr (.inr (fun _ => none))))))] sz) := by
  refine og_x (cc := cX9_open) (maxL := 2) (ret := (some .int)) (Qc := Qgi (S := Unit) D (fun u => []) (fun u => []) (fun r _ => rg a1 1 240 = true ∧ r = 0)) (XC := XX (fun E => E = gx_iae ∧ rg a1 1 240 = false)) (by decide) rfl (Nat.le_of_ble_eq_true rfl) ?_
  intro p e s m below meth c A hx hb hr hml hts hown hlocks hin htab hP hD hK hG hA hS ls hl
  have hl : lv_has ls 2 [(0, .ref x), (1, .int a1)] := hl
  refine lv_iload_n hx hb dX9_open_0 rfl (lv_at hl 1 rfl) ?_
  refine lv_iconst (v := 1) hx hb dX9_open_1 (by decide) ?_
  refine lv_sipush (v := 240) hx hb dX9_open_2 (by decide) ?_
  have hFc := va_free (wc := []) hD hS hA [] rfl
  refine vx_callv (vx_runS (As := [.int a1, .int 1, .int 240]) (rest := []) ⟨hx, hb, hml, hown, hts⟩ (c_demandRange l hlt D tC tE s.heap.size a1 1 240) (va_cwS 3 hts gX9_open_X9_demandRange rfl rfl rfl (by decide +kernel) ⟨(Nat.le_of_ble_eq_true rfl), (Nat.le_of_ble_eq_true rfl)⟩) ⟨pg_blind, (pg_pre hP hD hK hG hS hFc [] rfl (by decide) [] rfl _)⟩ rfl rfl hl.1 rfl (lv_room (Nat.le_of_ble_eq_true rfl)) dX9_open_5 ⟨(Nat.le_of_ble_eq_true rfl), (Nat.le_of_ble_eq_true rfl)⟩) hS (fun q _ h => hFc q h) hFc (fun q _ h => hFc q h) (fun E ce q9 u t H1 locs1 ht hvm hw hB hz1 hk1 hS hce hcv hcl => ?_) (fun u_1 t H locs ht hvm hw hB hz1 hk1 hS => ?_)
  · obtain ⟨hE, hf⟩ := hB
    subst hE
    exact vx_widen (k := 1) (n := 6) (Nat.le_of_ble_eq_true rfl) (Nat.le_of_ble_eq_true rfl) (vx_out (fun x hx => (htab x hx).elim) hlocks hce hcv hcl (xx_out hS ⟨rfl, by simp [hf]⟩) hS.2.2 (Nat.le_of_ble_eq_true rfl) (Nat.le_of_ble_eq_true rfl))
  · have h_2 := hw
    obtain ⟨hP, hD, hK⟩ := jn (wr := [(x, .inr (13, [.ref q0, .ref q1, .ref q2, .ref q3, .ref q4, .ref q5, .ref q6, .int 0, .int 0, .int 0, .int 0, .int 0, .int 0, .int 0])), (q4, .inl (k4, 20, .inr (.inr (.inr (.inr (fun _ => none))))))]) (w1 := []) (t1 := []) (tr := [(k4, .object "Lastroom$Lot")]) hP hD hK [] [0, 1] rfl rfl (by decide) (by decide) [0] rfl hk1 hFc hB rfl rfl ht hvm
    have hP : va_P D vwCl [(x, .inr (13, [.ref q0, .ref q1, .ref q2, .ref q3, .ref q4, .ref q5, .ref q6, .int 0, .int 0, .int 0, .int 0, .int 0, .int 0, .int 0])), (q4, .inl (k4, 20, .inr (.inr (.inr (.inr (fun _ => none))))))] H := hP
    have hD : va_D A [(x, .inr (13, [.ref q0, .ref q1, .ref q2, .ref q3, .ref q4, .ref q5, .ref q6, .int 0, .int 0, .int 0, .int 0, .int 0, .int 0, .int 0])), (q4, .inl (k4, 20, .inr (.inr (.inr (.inr (fun _ => none))))))] := hD
    have hK : va_K D vwCl [(k4, .object "Lastroom$Lot")] s := hK
    refine W.widen (k := 1) (n := 6) (Nat.le_of_ble_eq_true rfl) (Nat.le_of_ble_eq_true rfl) ?_
    refine lv_aload_n hx hb dX9_open_8 rfl (lv_at hl 0 rfl) ?_
    refine va_get (D := D) (ci := 13) (v := .int 0) (C := RX9) (T := TX9) (N := 14) hx hb hts (fun w h => List.mem_cons_of_mem _ (List.mem_append_left _ (List.mem_append_left _ (List.mem_append_left _ (List.mem_append_right _ h))))) hown hK hP 0 rfl rfl 11 (by decide) (hts (.fieldLink RX9 425 "Lastroom" "lotCount" "I") (List.mem_of_getElem? (i := 3) rfl)) (fun _ h9 => h9) rfl dX9_open_9 ?_
    refine lv_aload_n hx hb dX9_open_12 rfl (lv_at hl 0 rfl) ?_
    refine va_get (D := D) (ci := 13) (v := .ref q4) (C := RX9) (T := TX9) (N := 14) hx hb hts (fun w h => List.mem_cons_of_mem _ (List.mem_append_left _ (List.mem_append_left _ (List.mem_append_left _ (List.mem_append_right _ h))))) hown hK hP 0 rfl rfl 4 (by decide) (hts (.fieldLink RX9 35 "Lastroom" "lots" "[LLastroom$Lot;") (List.mem_of_getElem? (i := 4) rfl)) (fun _ h9 => h9) rfl dX9_open_13 ?_
    refine va_alen hx hb hK hP 1 0 rfl rfl (v := 20) rfl dX9_open_16 ?_
    refine lv_icmp_lt (tgt := 31) hx hb dX9_open_17 (by decide) (fun c_3 => ?_) (fun c_3 => absurd (show (0 : Int32) < 20 from (by decide)) c_3)
    refine lv_aload_n hx hb dX9_open_31 rfl (lv_at hl 0 rfl) ?_
    refine va_get (D := D) (ci := 13) (v := .ref q4) (C := RX9) (T := TX9) (N := 14) hx hb hts (fun w h => List.mem_cons_of_mem _ (List.mem_append_left _ (List.mem_append_left _ (List.mem_append_left _ (List.mem_append_right _ h))))) hown hK hP 0 rfl rfl 4 (by decide) (hts (.fieldLink RX9 35 "Lastroom" "lots" "[LLastroom$Lot;") (List.mem_of_getElem? (i := 4) rfl)) (fun _ h9 => h9) rfl dX9_open_32 ?_
    refine lv_aload_n hx hb dX9_open_35 rfl (lv_at hl 0 rfl) ?_
    refine va_get (D := D) (ci := 13) (v := .int 0) (C := RX9) (T := TX9) (N := 14) hx hb hts (fun w h => List.mem_cons_of_mem _ (List.mem_append_left _ (List.mem_append_left _ (List.mem_append_left _ (List.mem_append_right _ h))))) hown hK hP 0 rfl rfl 11 (by decide) (hts (.fieldLink RX9 425 "Lastroom" "lotCount" "I") (List.mem_of_getElem? (i := 3) rfl)) (fun _ h9 => h9) rfl dX9_open_36 ?_
    refine va_new (ci := 6) (fs := [.int 0, .int 0]) (C := RX2) (T := TX2) (N := 2) hx hb hts (fun w h => List.mem_cons_of_mem _ (List.mem_append_left _ (List.mem_append_left _ (List.mem_append_right _ h)))) tyX2 tyX2_ok hown (hts (.classLink RX9 33 RX2) (List.mem_of_getElem? (i := 5) rfl)) (hts (.instantiable RX2 2) (List.mem_of_getElem? (i := 6) rfl)) (hts (.initialized RX2) (List.mem_of_getElem? (i := 7) rfl)) hK hP hD hS hA rfl (fun j hj => by rcases (show j = 0 ∨ j = 1 by omega) with rfl | rfl <;> rfl) (Nat.le_of_ble_eq_true rfl) (Nat.le_of_ble_eq_true rfl) dX9_open_39 (fun q_4 H hP hD hS => ?_)
    have hP : va_P D vwCl [(x, .inr (13, [.ref q0, .ref q1, .ref q2, .ref q3, .ref q4, .ref q5, .ref q6, .int 0, .int 0, .int 0, .int 0, .int 0, .int 0, .int 0])), (q4, .inl (k4, 20, .inr (.inr (.inr (.inr (fun _ => none)))))), (q_4, .inr (6, [.int 0, .int 0]))] H := hP
    have hD : va_D A [(x, .inr (13, [.ref q0, .ref q1, .ref q2, .ref q3, .ref q4, .ref q5, .ref q6, .int 0, .int 0, .int 0, .int 0, .int 0, .int 0, .int 0])), (q4, .inl (k4, 20, .inr (.inr (.inr (.inr (fun _ => none)))))), (q_4, .inr (6, [.int 0, .int 0]))] := hD
    refine W.widen (k := 2) (n := 8) (Nat.le_of_ble_eq_true rfl) (Nat.le_of_ble_eq_true rfl) ?_
    refine lv_dup hx hb dX9_open_42 rfl ?_
    refine lv_aload_n hx hb dX9_open_43 rfl (lv_at hl 0 rfl) ?_
    refine va_get (D := D) (ci := 13) (v := .int 0) (C := RX9) (T := TX9) (N := 14) hx hb hts (fun w h => List.mem_cons_of_mem _ (List.mem_append_left _ (List.mem_append_left _ (List.mem_append_left _ (List.mem_append_right _ h))))) hown hK hP 0 rfl rfl 13 (by decide) (hts (.fieldLink RX9 271 "Lastroom" "minute" "I") (List.mem_of_getElem? (i := 8) rfl)) (fun _ h9 => h9) rfl dX9_open_44 ?_
    refine lv_iload_n hx hb dX9_open_47 rfl (lv_at hl 1 rfl) ?_
    have hFc := va_free (wc := [(q_4, .inr (6, [.int 0, .int 0]))]) hD hS hA [2] rfl
    refine va_callv (va_runI (As := [.int 0, .int a1]) (rest := [.ref q_4, .int 0, .ref q4]) ⟨hx, hb, hml, hown, hts⟩ (c_Lot l D tC tE H.size q_4 0 a1) (cwI 2 hts gX9_open_X2_init rfl rfl rfl (hts (.initialized RX2) (List.mem_of_getElem? (i := 7) rfl)) (hts (.methodLink RX9 430 yX2_init) (List.mem_of_getElem? (i := 15) rfl)) (hts (.instanceMethod yX2_init) (List.mem_of_getElem? (i := 16) rfl)) rfl (by decide +kernel) ⟨(Nat.le_of_ble_eq_true rfl), (Nat.le_of_ble_eq_true rfl)⟩) ⟨pg_blind, (pg_pre hP hD hK hG hS hFc [2] rfl (by decide) [] rfl _)⟩ rfl rfl hl.1 rfl (lv_room (Nat.le_of_ble_eq_true rfl)) dX9_open_48 ⟨(Nat.le_of_ble_eq_true rfl), (Nat.le_of_ble_eq_true rfl)⟩) hS (fun q _ h => hFc q h) hFc (fun u_5 t H locs ht hvm hw hB hz1 hk1 hS => ?_)
    obtain ⟨hP, hD, hK⟩ := jn (wr := [(x, .inr (13, [.ref q0, .ref q1, .ref q2, .ref q3, .ref q4, .ref q5, .ref q6, .int 0, .int 0, .int 0, .int 0, .int 0, .int 0, .int 0])), (q4, .inl (k4, 20, .inr (.inr (.inr (.inr (fun _ => none))))))]) (w1 := [(q_4, .inr (6, [.int 0, .int a1]))]) (t1 := []) (tr := [(k4, .object "Lastroom$Lot")]) hP hD hK [2] [0, 1] rfl rfl (by decide) (by decide) [0] rfl hk1 hFc hB rfl rfl ht hvm
    have hP : va_P D vwCl [(x, .inr (13, [.ref q0, .ref q1, .ref q2, .ref q3, .ref q4, .ref q5, .ref q6, .int 0, .int 0, .int 0, .int 0, .int 0, .int 0, .int 0])), (q4, .inl (k4, 20, .inr (.inr (.inr (.inr (fun _ => none)))))), (q_4, .inr (6, [.int 0, .int a1]))] H := hP
    have hD : va_D A [(x, .inr (13, [.ref q0, .ref q1, .ref q2, .ref q3, .ref q4, .ref q5, .ref q6, .int 0, .int 0, .int 0, .int 0, .int 0, .int 0, .int 0])), (q4, .inl (k4, 20, .inr (.inr (.inr (.inr (fun _ => none)))))), (q_4, .inr (6, [.int 0, .int a1]))] := hD
    have hK : va_K D vwCl [(k4, .object "Lastroom$Lot")] s := hK
    refine W.widen (k := 2) (n := 8) (Nat.le_of_ble_eq_true rfl) (Nat.le_of_ble_eq_true rfl) ?_
    refine va_astq (r := (RX2, TX2, 2)) hx hb hK hP hD hS 1 0 2 6 rfl rfl rfl rfl (vp_in_iff.mpr (by decide)) dX9_open_51 (fun H locs hP hD hS => ?_)
    have hP : va_P D vwCl [(x, .inr (13, [.ref q0, .ref q1, .ref q2, .ref q3, .ref q4, .ref q5, .ref q6, .int 0, .int 0, .int 0, .int 0, .int 0, .int 0, .int 0])), (q4, .inl (k4, 20, .inr (.inr (.inr (.inr (va_up (fun _ => none) (0 : Int32).toNatClampNeg (some q_4))))))), (q_4, .inr (6, [.int 0, .int a1]))] H := hP
    have hD : va_D A [(x, .inr (13, [.ref q0, .ref q1, .ref q2, .ref q3, .ref q4, .ref q5, .ref q6, .int 0, .int 0, .int 0, .int 0, .int 0, .int 0, .int 0])), (q4, .inl (k4, 20, .inr (.inr (.inr (.inr (va_up (fun _ => none) (0 : Int32).toNatClampNeg (some q_4))))))), (q_4, .inr (6, [.int 0, .int a1]))] := hD
    refine lv_aload_n hx hb dX9_open_52 rfl (lv_at hl 0 rfl) ?_
    refine lv_dup hx hb dX9_open_53 rfl ?_
    refine va_get (D := D) (ci := 13) (v := .int 0) (C := RX9) (T := TX9) (N := 14) hx hb hts (fun w h => List.mem_cons_of_mem _ (List.mem_append_left _ (List.mem_append_left _ (List.mem_append_left _ (List.mem_append_right _ h))))) hown hK hP 0 rfl rfl 11 (by decide) (hts (.fieldLink RX9 425 "Lastroom" "lotCount" "I") (List.mem_of_getElem? (i := 3) rfl)) (fun _ h9 => h9) rfl dX9_open_54 ?_
    refine lv_dup_x1 hx hb dX9_open_57 rfl rfl ?_
    refine lv_iconst (v := 1) hx hb dX9_open_58 (by decide) ?_
    refine lv_iadd hx hb dX9_open_59 ?_
    refine lv_topi (fun y hy => ?_)
    rw [show (0 : Int32) + (1 : Int32) = 1 by decide] at hy
    subst hy
    refine va_put (D := D) (ci := 13) (v := .int 1) (ty := .int) (C := RX9) (T := TX9) (N := 14) hx hb hts (fun w h => List.mem_cons_of_mem _ (List.mem_append_left _ (List.mem_append_left _ (List.mem_append_left _ (List.mem_append_right _ h))))) tyX9 tyX9_ok nmX9 hown hK hP hD hS 0 rfl rfl 11 (by decide) (hts (.fieldLink RX9 425 "Lastroom" "lotCount" "I") (List.mem_of_getElem? (i := 3) rfl)) (fun _ h9 => h9) rfl (by decide +kernel) rfl rfl (Nat.le_of_ble_eq_true rfl) dX9_open_60 (fun H locs hP hD hS => ?_)
    have hP : va_P D vwCl [(x, .inr (13, [.ref q0, .ref q1, .ref q2, .ref q3, .ref q4, .ref q5, .ref q6, .int 0, .int 0, .int 0, .int 0, .int 1, .int 0, .int 0])), (q4, .inl (k4, 20, .inr (.inr (.inr (.inr (va_up (fun _ => none) (0 : Int32).toNatClampNeg (some q_4))))))), (q_4, .inr (6, [.int 0, .int a1]))] H := hP
    have hD : va_D A [(x, .inr (13, [.ref q0, .ref q1, .ref q2, .ref q3, .ref q4, .ref q5, .ref q6, .int 0, .int 0, .int 0, .int 0, .int 1, .int 0, .int 0])), (q4, .inl (k4, 20, .inr (.inr (.inr (.inr (va_up (fun _ => none) (0 : Int32).toNatClampNeg (some q_4))))))), (q_4, .inr (6, [.int 0, .int a1]))] := hD
    have hP9 := hP.sub (ws' := []) [] rfl
    have hD9 := hD.sub (ws' := []) [] (by decide) rfl
    have hK9 := hK.sub (tys' := []) [] rfl
    exact vx_ret (end_i hx hb hr hlocks hP9 hD9 hK9 hS () rfl rfl (by simp [h_2]) (Nat.le_of_ble_eq_true rfl) (Nat.le_of_ble_eq_true rfl) dX9_open_63)
set_option maxHeartbeats 4000000 in
set_option maxRecDepth 100000 in
/-- setStand on a fresh object -/
theorem c_setStand (l : Launch) (hlt : l.stackTraces = false) (D : va_G) (tC tE sz : Nat) (x q0 q1 q2 q3 q4 q5 q6 : Nat) (k6 : ClassId) (f6 : Nat → Int32) (hf6 : ∀ j : Nat, j < 5 → f6 j = 30) (a1 a2 : Int32) : vx_Met l yX9_setStand wsX9_setStand ({ frames := 7, cells := 1, slots := 6, locals := 104 }) (Pg D tC tE sz [(x, .inr (13, [.ref q0, .ref q1, .ref q2, .ref q3, .ref q4, .ref q5, .ref q6, .int 0, .int 0, .int 0, .int 0, .int 0, .int 0, .int 0])), (q6, .inl (k6, 5, .inl f6))] [(k6, .int)] [.ref x, .int a1, .int a2]) (Qgi (S := Unit) D (fun u => []) (fun u => []) (fun r _ => standB a1 a2 = true ∧ r = 30) (va_A [(x, .inr (13, [.ref q0, .ref q1, .ref q2, .ref q3, .ref q4, .ref q5, .ref q6, .int 0, .int 0, .int 0, .int 0, .int 0, .int 0, .int 0])), (q6, .inl (k6, 5, .inl f6))] sz)) (XX (fun E => E = gx_iae ∧ standB a1 a2 = false) (va_A [(x, .inr (13, [.ref q0, .ref q1, .ref q2, .ref q3, .ref q4, .ref q5, .ref q6, .int 0, .int 0, .int 0, .int 0, .int 0, .int 0, .int 0])), (q6, .inl (k6, 5, .inl f6))] sz)) 1 6 (va_A [(x, .inr (13, [.ref q0, .ref q1, .ref q2, .ref q3, .ref q4, .ref q5, .ref q6, .int 0, .int 0, .int 0, .int 0, .int 0, .int 0, .int 0])), (q6, .inl (k6, 5, .inl f6))] sz) := by
  refine og_x (cc := cX9_setStand) (maxL := 4) (ret := (some .int)) (Qc := Qgi (S := Unit) D (fun u => []) (fun u => []) (fun r _ => standB a1 a2 = true ∧ r = 30)) (XC := XX (fun E => E = gx_iae ∧ standB a1 a2 = false)) (by decide) rfl (Nat.le_of_ble_eq_true rfl) ?_
  intro p e s m below meth c A hx hb hr hml hts hown hlocks hin htab hP hD hK hG hA hS ls hl
  have hl : lv_has ls 4 [(0, .ref x), (1, .int a1), (2, .int a2)] := hl
  refine lv_iload_n hx hb dX9_setStand_0 rfl (lv_at hl 1 rfl) ?_
  refine lv_if_lt (tgt := 13) hx hb dX9_setStand_1 (by decide) (fun c_1 => ?_) (fun c_1 => ?_)
  · exact th_w (i := 3) gx_thr_iae hx hb hlt hown (hts (.classLink RX9 62 "java/lang/IllegalArgumentException") (List.mem_of_getElem? (i := 1) rfl)) (hts (.initialized "java/lang/IllegalArgumentException") (List.mem_of_getElem? (i := 2) rfl)) (fun w h => hts w (List.mem_cons_of_mem _ (List.mem_append_left _ (List.mem_append_right _ h)))) rfl hG hS (hl.1.trans hml.symm) htab hlocks dX9_setStand_13 dX9_setStand_16 dX9_setStand_17 dX9_setStand_20 dX9_setStand_23 ⟨rfl, by simp [standB, rg_a c_1]⟩ (Nat.le_of_ble_eq_true rfl) (Nat.le_of_ble_eq_true rfl) (Nat.le_of_ble_eq_true rfl) (Nat.le_of_ble_eq_true rfl) (Nat.le_of_ble_eq_true rfl) (Nat.le_of_ble_eq_true rfl)
  · refine lv_iload_n hx hb dX9_setStand_4 rfl (lv_at hl 1 rfl) ?_
    refine lv_aload_n hx hb dX9_setStand_5 rfl (lv_at hl 0 rfl) ?_
    refine va_get (D := D) (ci := 13) (v := .ref q6) (C := RX9) (T := TX9) (N := 14) hx hb hts (fun w h => List.mem_cons_of_mem _ (List.mem_append_left _ (List.mem_append_left _ (List.mem_append_right _ h)))) hown hK hP 0 rfl rfl 6 (by decide) (hts (.fieldLink RX9 45 "Lastroom" "stands" "[I") (List.mem_of_getElem? (i := 3) rfl)) (fun _ h9 => h9) rfl dX9_setStand_6 ?_
    refine va_alen hx hb hK hP 1 0 rfl rfl (v := 5) rfl dX9_setStand_9 ?_
    refine lv_icmp_lt (tgt := 24) hx hb dX9_setStand_10 (by decide) (fun c_2 => ?_) (fun c_2 => ?_)
    · refine lv_iload_n hx hb dX9_setStand_24 rfl (lv_at hl 2 rfl) ?_
      refine lv_iconst (v := 1) hx hb dX9_setStand_25 (by decide) ?_
      refine lv_sipush (v := 240) hx hb dX9_setStand_26 (by decide) ?_
      have hFc := va_free (wc := []) hD hS hA [] rfl
      refine vx_callv (vx_runS (As := [.int a2, .int 1, .int 240]) (rest := []) ⟨hx, hb, hml, hown, hts⟩ (c_demandRange l hlt D tC tE s.heap.size a2 1 240) (va_cwS 3 hts gX9_setStand_X9_demandRange rfl rfl rfl (by decide +kernel) ⟨(Nat.le_of_ble_eq_true rfl), (Nat.le_of_ble_eq_true rfl)⟩) ⟨pg_blind, (pg_pre hP hD hK hG hS hFc [] rfl (by decide) [] rfl _)⟩ rfl rfl hl.1 rfl (lv_room (Nat.le_of_ble_eq_true rfl)) dX9_setStand_29 ⟨(Nat.le_of_ble_eq_true rfl), (Nat.le_of_ble_eq_true rfl)⟩) hS (fun q _ h => hFc q h) hFc (fun q _ h => hFc q h) (fun E ce q9 u t H1 locs1 ht hvm hw hB hz1 hk1 hS hce hcv hcl => ?_) (fun u_3 t H locs ht hvm hw hB hz1 hk1 hS => ?_)
      · obtain ⟨hE, hf⟩ := hB
        subst hE
        exact vx_widen (k := 1) (n := 6) (Nat.le_of_ble_eq_true rfl) (Nat.le_of_ble_eq_true rfl) (vx_out (fun x hx => (htab x hx).elim) hlocks hce hcv hcl (xx_out hS ⟨rfl, by simp [standB, hf]⟩) hS.2.2 (Nat.le_of_ble_eq_true rfl) (Nat.le_of_ble_eq_true rfl))
      · have h_4 := hw
        obtain ⟨hP, hD, hK⟩ := jn (wr := [(x, .inr (13, [.ref q0, .ref q1, .ref q2, .ref q3, .ref q4, .ref q5, .ref q6, .int 0, .int 0, .int 0, .int 0, .int 0, .int 0, .int 0])), (q6, .inl (k6, 5, .inl f6))]) (w1 := []) (t1 := []) (tr := [(k6, .int)]) hP hD hK [] [0, 1] rfl rfl (by decide) (by decide) [0] rfl hk1 hFc hB rfl rfl ht hvm
        have hP : va_P D vwCl [(x, .inr (13, [.ref q0, .ref q1, .ref q2, .ref q3, .ref q4, .ref q5, .ref q6, .int 0, .int 0, .int 0, .int 0, .int 0, .int 0, .int 0])), (q6, .inl (k6, 5, .inl f6))] H := hP
        have hD : va_D A [(x, .inr (13, [.ref q0, .ref q1, .ref q2, .ref q3, .ref q4, .ref q5, .ref q6, .int 0, .int 0, .int 0, .int 0, .int 0, .int 0, .int 0])), (q6, .inl (k6, 5, .inl f6))] := hD
        have hK : va_K D vwCl [(k6, .int)] s := hK
        refine W.widen (k := 1) (n := 6) (Nat.le_of_ble_eq_true rfl) (Nat.le_of_ble_eq_true rfl) ?_
        refine lv_aload_n hx hb dX9_setStand_32 rfl (lv_at hl 0 rfl) ?_
        refine va_get (D := D) (ci := 13) (v := .ref q6) (C := RX9) (T := TX9) (N := 14) hx hb hts (fun w h => List.mem_cons_of_mem _ (List.mem_append_left _ (List.mem_append_left _ (List.mem_append_right _ h)))) hown hK hP 0 rfl rfl 6 (by decide) (hts (.fieldLink RX9 45 "Lastroom" "stands" "[I") (List.mem_of_getElem? (i := 3) rfl)) (fun _ h9 => h9) rfl dX9_setStand_33 ?_
        refine lv_iload_n hx hb dX9_setStand_36 rfl (lv_at hl 1 rfl) ?_
        have p_5 : vp_in a1 5 := in_lt (k := 5) (by decide) c_1 c_2
        refine va_iald hx hb hK hP 1 0 rfl rfl p_5 dX9_setStand_37 ?_
        refine lv_istore_n (lv' := [(3, .int (f6 a1.toNatClampNeg)), (0, .ref x), (1, .int a1), (2, .int a2)]) hx hb dX9_setStand_38 rfl hl (by decide) rfl (fun ls hl => ?_)
        refine lv_aload_n hx hb dX9_setStand_39 rfl (lv_at hl 1 rfl) ?_
        refine va_get (D := D) (ci := 13) (v := .ref q6) (C := RX9) (T := TX9) (N := 14) hx hb hts (fun w h => List.mem_cons_of_mem _ (List.mem_append_left _ (List.mem_append_left _ (List.mem_append_right _ h)))) hown hK hP 0 rfl rfl 6 (by decide) (hts (.fieldLink RX9 45 "Lastroom" "stands" "[I") (List.mem_of_getElem? (i := 3) rfl)) (fun _ h9 => h9) rfl dX9_setStand_40 ?_
        refine lv_iload_n hx hb dX9_setStand_43 rfl (lv_at hl 2 rfl) ?_
        refine lv_iload_n hx hb dX9_setStand_44 rfl (lv_at hl 3 rfl) ?_
        refine va_iast hx hb hK hP hD hS 1 0 rfl rfl p_5 dX9_setStand_45 (fun H locs hP hD hS => ?_)
        have hP : va_P D vwCl [(x, .inr (13, [.ref q0, .ref q1, .ref q2, .ref q3, .ref q4, .ref q5, .ref q6, .int 0, .int 0, .int 0, .int 0, .int 0, .int 0, .int 0])), (q6, .inl (k6, 5, .inl (upd f6 a1.toNatClampNeg a2)))] H := hP
        have hD : va_D A [(x, .inr (13, [.ref q0, .ref q1, .ref q2, .ref q3, .ref q4, .ref q5, .ref q6, .int 0, .int 0, .int 0, .int 0, .int 0, .int 0, .int 0])), (q6, .inl (k6, 5, .inl (upd f6 a1.toNatClampNeg a2)))] := hD
        refine lv_iload_n hx hb dX9_setStand_46 rfl (lv_at hl 0 rfl) ?_
        have hP9 := hP.sub (ws' := []) [] rfl
        have hD9 := hD.sub (ws' := []) [] (by decide) rfl
        have hK9 := hK.sub (tys' := []) [] rfl
        exact vx_ret (end_i hx hb hr hlocks hP9 hD9 hK9 hS () rfl rfl ⟨by simp [standB, rg_t (n := a1) (lo := 0) (hi := 4) c_1 (le4 c_2), h_4], hf6 _ (in_cl p_5)⟩ (Nat.le_of_ble_eq_true rfl) (Nat.le_of_ble_eq_true rfl) dX9_setStand_47)
    · exact th_w (i := 3) gx_thr_iae hx hb hlt hown (hts (.classLink RX9 62 "java/lang/IllegalArgumentException") (List.mem_of_getElem? (i := 1) rfl)) (hts (.initialized "java/lang/IllegalArgumentException") (List.mem_of_getElem? (i := 2) rfl)) (fun w h => hts w (List.mem_cons_of_mem _ (List.mem_append_left _ (List.mem_append_right _ h)))) rfl hG hS (hl.1.trans hml.symm) htab hlocks dX9_setStand_13 dX9_setStand_16 dX9_setStand_17 dX9_setStand_20 dX9_setStand_23 ⟨rfl, by simp [standB, rg_b (n := a1) (lo := 0) (hi := 4) (not_le4 c_2)]⟩ (Nat.le_of_ble_eq_true rfl) (Nat.le_of_ble_eq_true rfl) (Nat.le_of_ble_eq_true rfl) (Nat.le_of_ble_eq_true rfl) (Nat.le_of_ble_eq_true rfl) (Nat.le_of_ble_eq_true rfl)
set_option maxHeartbeats 4000000 in
set_option maxRecDepth 100000 in
/-- misfit on a fresh object -/
theorem c_misfit (l : Launch) (hlt : l.stackTraces = false) (D : va_G) (tC tE sz : Nat) (x q0 q1 q2 q3 q4 q5 q6 : Nat) (k0 : ClassId) (a1 a2 a3 a4 : Int32) : vx_Met l yX9_misfit wsX9_misfit ({ frames := 8, cells := 4, slots := 24, locals := 125 }) (Pg D tC tE sz [(x, .inr (13, [.ref q0, .ref q1, .ref q2, .ref q3, .ref q4, .ref q5, .ref q6, .int 0, .int 0, .int 0, .int 0, .int 0, .int 0, .int 0])), (q0, .inl (k0, 5, .inr (.inr (.inr (.inr (fun _ => none))))))] [(k0, .object "Lastroom$Model")] [.ref x, .int a1, .int a2, .int a3, .int a4]) (Qgi (S := Unit) D (fun u => []) (fun u => []) (fun _ _ => False) (va_A [(x, .inr (13, [.ref q0, .ref q1, .ref q2, .ref q3, .ref q4, .ref q5, .ref q6, .int 0, .int 0, .int 0, .int 0, .int 0, .int 0, .int 0])), (q0, .inl (k0, 5, .inr (.inr (.inr (.inr (fun _ => none))))))] sz)) (XX (fun E => (E = gx_iae ∧ misB a1 a2 a4 = false) ∨ (E = gx_ioo ∧ misB a1 a2 a4 = true)) (va_A [(x, .inr (13, [.ref q0, .ref q1, .ref q2, .ref q3, .ref q4, .ref q5, .ref q6, .int 0, .int 0, .int 0, .int 0, .int 0, .int 0, .int 0])), (q0, .inl (k0, 5, .inr (.inr (.inr (.inr (fun _ => none))))))] sz)) 4 24 (va_A [(x, .inr (13, [.ref q0, .ref q1, .ref q2, .ref q3, .ref q4, .ref q5, .ref q6, .int 0, .int 0, .int 0, .int 0, .int 0, .int 0, .int 0])), (q0, .inl (k0, 5, .inr (.inr (.inr (.inr (fun _ => none))))))] sz) := by
  refine og_x (cc := cX9_misfit) (maxL := 5) (ret := (some .int)) (Qc := Qgi (S := Unit) D (fun u => []) (fun u => []) (fun _ _ => False)) (XC := XX (fun E => (E = gx_iae ∧ misB a1 a2 a4 = false) ∨ (E = gx_ioo ∧ misB a1 a2 a4 = true))) (by decide) rfl (Nat.le_of_ble_eq_true rfl) ?_
  intro p e s m below meth c A hx hb hr hml hts hown hlocks hin htab hP hD hK hG hA hS ls hl
  have hl : lv_has ls 5 [(0, .ref x), (1, .int a1), (2, .int a2), (3, .int a3), (4, .int a4)] := hl
  refine lv_iload_n hx hb dX9_misfit_0 rfl (lv_at hl 1 rfl) ?_
  refine lv_iload_n hx hb dX9_misfit_1 rfl (lv_at hl 2 rfl) ?_
  have hFc := va_free (wc := []) hD hS hA [] rfl
  refine vx_callv (vx_runS (As := [.int a1, .int a2]) (rest := []) ⟨hx, hb, hml, hown, hts⟩ (c_demandFoot l hlt D tC tE s.heap.size a1 a2) (va_cwS 2 hts gX9_misfit_X9_demandFoot rfl rfl rfl (by decide +kernel) ⟨(Nat.le_of_ble_eq_true rfl), (Nat.le_of_ble_eq_true rfl)⟩) ⟨pg_blind, (pg_pre hP hD hK hG hS hFc [] rfl (by decide) [] rfl _)⟩ rfl rfl hl.1 rfl (lv_room (Nat.le_of_ble_eq_true rfl)) dX9_misfit_2 ⟨(Nat.le_of_ble_eq_true rfl), (Nat.le_of_ble_eq_true rfl)⟩) hS (fun q _ h => hFc q h) hFc (fun q _ h => hFc q h) (fun E ce q9 u t H1 locs1 ht hvm hw hB hz1 hk1 hS hce hcv hcl => ?_) (fun u_1 t H locs ht hvm hw hB hz1 hk1 hS => ?_)
  · obtain ⟨hE, hf⟩ := hB
    subst hE
    exact vx_widen (k := 2) (n := 12) (Nat.le_of_ble_eq_true rfl) (Nat.le_of_ble_eq_true rfl) (vx_out (fun x hx => (htab x hx).elim) hlocks hce hcv hcl (xx_out hS (Or.inl ⟨rfl, by simp [misB, hf]⟩)) hS.2.2 (Nat.le_of_ble_eq_true rfl) (Nat.le_of_ble_eq_true rfl))
  · have h_2 := hw
    obtain ⟨hP, hD, hK⟩ := jn (wr := [(x, .inr (13, [.ref q0, .ref q1, .ref q2, .ref q3, .ref q4, .ref q5, .ref q6, .int 0, .int 0, .int 0, .int 0, .int 0, .int 0, .int 0])), (q0, .inl (k0, 5, .inr (.inr (.inr (.inr (fun _ => none))))))]) (w1 := []) (t1 := []) (tr := [(k0, .object "Lastroom$Model")]) hP hD hK [] [0, 1] rfl rfl (by decide) (by decide) [0] rfl hk1 hFc hB rfl rfl ht hvm
    have hP : va_P D vwCl [(x, .inr (13, [.ref q0, .ref q1, .ref q2, .ref q3, .ref q4, .ref q5, .ref q6, .int 0, .int 0, .int 0, .int 0, .int 0, .int 0, .int 0])), (q0, .inl (k0, 5, .inr (.inr (.inr (.inr (fun _ => none))))))] H := hP
    have hD : va_D A [(x, .inr (13, [.ref q0, .ref q1, .ref q2, .ref q3, .ref q4, .ref q5, .ref q6, .int 0, .int 0, .int 0, .int 0, .int 0, .int 0, .int 0])), (q0, .inl (k0, 5, .inr (.inr (.inr (.inr (fun _ => none))))))] := hD
    have hK : va_K D vwCl [(k0, .object "Lastroom$Model")] s := hK
    refine W.widen (k := 2) (n := 12) (Nat.le_of_ble_eq_true rfl) (Nat.le_of_ble_eq_true rfl) ?_
    refine lv_iload hx hb dX9_misfit_5 (lv_at hl 4 rfl) ?_
    have hFc := va_free (wc := []) hD hS hA [] rfl
    refine vx_callv (vx_runS (As := [.int a4]) (rest := []) ⟨hx, hb, hml, hown, hts⟩ (c_demandLastSize l hlt D tC tE H.size a4) (va_cwS 1 hts gX9_misfit_X9_demandLastSize rfl rfl rfl (by decide +kernel) ⟨(Nat.le_of_ble_eq_true rfl), (Nat.le_of_ble_eq_true rfl)⟩) ⟨pg_blind, (pg_pre hP hD hK hG hS hFc [] rfl (by decide) [] rfl _)⟩ rfl rfl hl.1 rfl (lv_room (Nat.le_of_ble_eq_true rfl)) dX9_misfit_7 ⟨(Nat.le_of_ble_eq_true rfl), (Nat.le_of_ble_eq_true rfl)⟩) hS (fun q _ h => hFc q h) hFc (fun q _ h => hFc q h) (fun E ce q9 u t H1 locs1 ht hvm hw hB hz1 hk1 hS hce hcv hcl => ?_) (fun u_3 t H locs ht hvm hw hB hz1 hk1 hS => ?_)
    · obtain ⟨hE, hf⟩ := hB
      subst hE
      exact vx_widen (k := 3) (n := 18) (Nat.le_of_ble_eq_true rfl) (Nat.le_of_ble_eq_true rfl) (vx_out (fun x hx => (htab x hx).elim) hlocks hce hcv hcl (xx_out hS (Or.inl ⟨rfl, by simp [misB, h_2, hf]⟩)) hS.2.2 (Nat.le_of_ble_eq_true rfl) (Nat.le_of_ble_eq_true rfl))
    · have h_4 := hw
      obtain ⟨hP, hD, hK⟩ := jn (wr := [(x, .inr (13, [.ref q0, .ref q1, .ref q2, .ref q3, .ref q4, .ref q5, .ref q6, .int 0, .int 0, .int 0, .int 0, .int 0, .int 0, .int 0])), (q0, .inl (k0, 5, .inr (.inr (.inr (.inr (fun _ => none))))))]) (w1 := []) (t1 := []) (tr := [(k0, .object "Lastroom$Model")]) hP hD hK [] [0, 1] rfl rfl (by decide) (by decide) [0] rfl hk1 hFc hB rfl rfl ht hvm
      have hP : va_P D vwCl [(x, .inr (13, [.ref q0, .ref q1, .ref q2, .ref q3, .ref q4, .ref q5, .ref q6, .int 0, .int 0, .int 0, .int 0, .int 0, .int 0, .int 0])), (q0, .inl (k0, 5, .inr (.inr (.inr (.inr (fun _ => none))))))] H := hP
      have hD : va_D A [(x, .inr (13, [.ref q0, .ref q1, .ref q2, .ref q3, .ref q4, .ref q5, .ref q6, .int 0, .int 0, .int 0, .int 0, .int 0, .int 0, .int 0])), (q0, .inl (k0, 5, .inr (.inr (.inr (.inr (fun _ => none))))))] := hD
      have hK : va_K D vwCl [(k0, .object "Lastroom$Model")] s := hK
      refine W.widen (k := 3) (n := 18) (Nat.le_of_ble_eq_true rfl) (Nat.le_of_ble_eq_true rfl) ?_
      refine lv_iload_n hx hb dX9_misfit_10 rfl (lv_at hl 1 rfl) ?_
      refine lv_iload_n hx hb dX9_misfit_11 rfl (lv_at hl 2 rfl) ?_
      refine lv_aload_n hx hb dX9_misfit_12 rfl (lv_at hl 0 rfl) ?_
      refine lv_iload_n hx hb dX9_misfit_13 rfl (lv_at hl 3 rfl) ?_
      have hFc := va_free (wc := [(x, .inr (13, [.ref q0, .ref q1, .ref q2, .ref q3, .ref q4, .ref q5, .ref q6, .int 0, .int 0, .int 0, .int 0, .int 0, .int 0, .int 0])), (q0, .inl (k0, 5, .inr (.inr (.inr (.inr (fun _ => none))))))]) hD hS hA [0, 1] rfl
      refine vx_callr (vx_runV (As := [.int a3]) (rest := [.int a2, .int a1]) ⟨hx, hb, hml, hown, hts⟩ (c_findModel l hlt D tC tE H.size x q0 q1 q2 q3 q4 q5 q6 k0 a3) (cwV 1 hts gX9_misfit_X9_findModel rfl rfl rfl (by decide +kernel) ⟨(Nat.le_of_ble_eq_true rfl), (Nat.le_of_ble_eq_true rfl)⟩) ⟨pg_blind, (va_recv hK hP (ci := 13) (q0 := 0) rfl rfl), (pg_pre hP hD hK hG hS hFc [0, 1] rfl (by decide) [0] rfl _)⟩ rfl rfl hl.1 rfl (lv_room (Nat.le_of_ble_eq_true rfl)) dX9_misfit_14 ⟨(Nat.le_of_ble_eq_true rfl), (Nat.le_of_ble_eq_true rfl)⟩) hS (fun q _ h => hFc q h) hFc (fun q _ h => hFc q h) (fun E ce q9 u t H1 locs1 ht hvm hw hB hz1 hk1 hS hce hcv hcl => ?_) (fun u_6 r_5 t H locs ht hvm hw hB hz1 hk1 hS => ?_)
      · subst hB
        exact vx_widen (k := 4) (n := 24) (Nat.le_of_ble_eq_true rfl) (Nat.le_of_ble_eq_true rfl) (vx_out (fun x hx => (htab x hx).elim) hlocks hce hcv hcl (xx_out hS (Or.inr ⟨rfl, by simp [misB, h_2, h_4]⟩)) hS.2.2 (Nat.le_of_ble_eq_true rfl) (Nat.le_of_ble_eq_true rfl))
      · exact hw.elim
set_option maxHeartbeats 4000000 in
set_option maxRecDepth 100000 in
/-- bestSize on a fresh object -/
theorem c_bestSize (l : Launch) (hlt : l.stackTraces = false) (D : va_G) (tC tE sz : Nat) (x q0 q1 q2 q3 q4 q5 q6 : Nat) (k0 : ClassId) (a1 a2 a3 : Int32) : vx_Met l yX9_bestSize wsX9_bestSize ({ frames := 8, cells := 3, slots := 18, locals := 125 }) (Pg D tC tE sz [(x, .inr (13, [.ref q0, .ref q1, .ref q2, .ref q3, .ref q4, .ref q5, .ref q6, .int 0, .int 0, .int 0, .int 0, .int 0, .int 0, .int 0])), (q0, .inl (k0, 5, .inr (.inr (.inr (.inr (fun _ => none))))))] [(k0, .object "Lastroom$Model")] [.ref x, .int a1, .int a2, .int a3]) (Qgi (S := Unit) D (fun u => []) (fun u => []) (fun _ _ => False) (va_A [(x, .inr (13, [.ref q0, .ref q1, .ref q2, .ref q3, .ref q4, .ref q5, .ref q6, .int 0, .int 0, .int 0, .int 0, .int 0, .int 0, .int 0])), (q0, .inl (k0, 5, .inr (.inr (.inr (.inr (fun _ => none))))))] sz)) (XX (fun E => (E = gx_iae ∧ footB a1 a2 = false) ∨ (E = gx_ioo ∧ footB a1 a2 = true)) (va_A [(x, .inr (13, [.ref q0, .ref q1, .ref q2, .ref q3, .ref q4, .ref q5, .ref q6, .int 0, .int 0, .int 0, .int 0, .int 0, .int 0, .int 0])), (q0, .inl (k0, 5, .inr (.inr (.inr (.inr (fun _ => none))))))] sz)) 3 18 (va_A [(x, .inr (13, [.ref q0, .ref q1, .ref q2, .ref q3, .ref q4, .ref q5, .ref q6, .int 0, .int 0, .int 0, .int 0, .int 0, .int 0, .int 0])), (q0, .inl (k0, 5, .inr (.inr (.inr (.inr (fun _ => none))))))] sz) := by
  refine og_x (cc := cX9_bestSize) (maxL := 4) (ret := (some .int)) (Qc := Qgi (S := Unit) D (fun u => []) (fun u => []) (fun _ _ => False)) (XC := XX (fun E => (E = gx_iae ∧ footB a1 a2 = false) ∨ (E = gx_ioo ∧ footB a1 a2 = true))) (by decide) rfl (Nat.le_of_ble_eq_true rfl) ?_
  intro p e s m below meth c A hx hb hr hml hts hown hlocks hin htab hP hD hK hG hA hS ls hl
  have hl : lv_has ls 4 [(0, .ref x), (1, .int a1), (2, .int a2), (3, .int a3)] := hl
  refine lv_iload_n hx hb dX9_bestSize_0 rfl (lv_at hl 1 rfl) ?_
  refine lv_iload_n hx hb dX9_bestSize_1 rfl (lv_at hl 2 rfl) ?_
  have hFc := va_free (wc := []) hD hS hA [] rfl
  refine vx_callv (vx_runS (As := [.int a1, .int a2]) (rest := []) ⟨hx, hb, hml, hown, hts⟩ (c_demandFoot l hlt D tC tE s.heap.size a1 a2) (va_cwS 2 hts gX9_bestSize_X9_demandFoot rfl rfl rfl (by decide +kernel) ⟨(Nat.le_of_ble_eq_true rfl), (Nat.le_of_ble_eq_true rfl)⟩) ⟨pg_blind, (pg_pre hP hD hK hG hS hFc [] rfl (by decide) [] rfl _)⟩ rfl rfl hl.1 rfl (lv_room (Nat.le_of_ble_eq_true rfl)) dX9_bestSize_2 ⟨(Nat.le_of_ble_eq_true rfl), (Nat.le_of_ble_eq_true rfl)⟩) hS (fun q _ h => hFc q h) hFc (fun q _ h => hFc q h) (fun E ce q9 u t H1 locs1 ht hvm hw hB hz1 hk1 hS hce hcv hcl => ?_) (fun u_1 t H locs ht hvm hw hB hz1 hk1 hS => ?_)
  · obtain ⟨hE, hf⟩ := hB
    subst hE
    exact vx_widen (k := 2) (n := 12) (Nat.le_of_ble_eq_true rfl) (Nat.le_of_ble_eq_true rfl) (vx_out (fun x hx => (htab x hx).elim) hlocks hce hcv hcl (xx_out hS (Or.inl ⟨rfl, by simp [hf]⟩)) hS.2.2 (Nat.le_of_ble_eq_true rfl) (Nat.le_of_ble_eq_true rfl))
  · have h_2 := hw
    obtain ⟨hP, hD, hK⟩ := jn (wr := [(x, .inr (13, [.ref q0, .ref q1, .ref q2, .ref q3, .ref q4, .ref q5, .ref q6, .int 0, .int 0, .int 0, .int 0, .int 0, .int 0, .int 0])), (q0, .inl (k0, 5, .inr (.inr (.inr (.inr (fun _ => none))))))]) (w1 := []) (t1 := []) (tr := [(k0, .object "Lastroom$Model")]) hP hD hK [] [0, 1] rfl rfl (by decide) (by decide) [0] rfl hk1 hFc hB rfl rfl ht hvm
    have hP : va_P D vwCl [(x, .inr (13, [.ref q0, .ref q1, .ref q2, .ref q3, .ref q4, .ref q5, .ref q6, .int 0, .int 0, .int 0, .int 0, .int 0, .int 0, .int 0])), (q0, .inl (k0, 5, .inr (.inr (.inr (.inr (fun _ => none))))))] H := hP
    have hD : va_D A [(x, .inr (13, [.ref q0, .ref q1, .ref q2, .ref q3, .ref q4, .ref q5, .ref q6, .int 0, .int 0, .int 0, .int 0, .int 0, .int 0, .int 0])), (q0, .inl (k0, 5, .inr (.inr (.inr (.inr (fun _ => none))))))] := hD
    have hK : va_K D vwCl [(k0, .object "Lastroom$Model")] s := hK
    refine W.widen (k := 2) (n := 12) (Nat.le_of_ble_eq_true rfl) (Nat.le_of_ble_eq_true rfl) ?_
    refine lv_iload_n hx hb dX9_bestSize_5 rfl (lv_at hl 1 rfl) ?_
    refine lv_iload_n hx hb dX9_bestSize_6 rfl (lv_at hl 2 rfl) ?_
    refine lv_aload_n hx hb dX9_bestSize_7 rfl (lv_at hl 0 rfl) ?_
    refine lv_iload_n hx hb dX9_bestSize_8 rfl (lv_at hl 3 rfl) ?_
    have hFc := va_free (wc := [(x, .inr (13, [.ref q0, .ref q1, .ref q2, .ref q3, .ref q4, .ref q5, .ref q6, .int 0, .int 0, .int 0, .int 0, .int 0, .int 0, .int 0])), (q0, .inl (k0, 5, .inr (.inr (.inr (.inr (fun _ => none))))))]) hD hS hA [0, 1] rfl
    refine vx_callr (vx_runV (As := [.int a3]) (rest := [.int a2, .int a1]) ⟨hx, hb, hml, hown, hts⟩ (c_findModel l hlt D tC tE H.size x q0 q1 q2 q3 q4 q5 q6 k0 a3) (cwV 1 hts gX9_bestSize_X9_findModel rfl rfl rfl (by decide +kernel) ⟨(Nat.le_of_ble_eq_true rfl), (Nat.le_of_ble_eq_true rfl)⟩) ⟨pg_blind, (va_recv hK hP (ci := 13) (q0 := 0) rfl rfl), (pg_pre hP hD hK hG hS hFc [0, 1] rfl (by decide) [0] rfl _)⟩ rfl rfl hl.1 rfl (lv_room (Nat.le_of_ble_eq_true rfl)) dX9_bestSize_9 ⟨(Nat.le_of_ble_eq_true rfl), (Nat.le_of_ble_eq_true rfl)⟩) hS (fun q _ h => hFc q h) hFc (fun q _ h => hFc q h) (fun E ce q9 u t H1 locs1 ht hvm hw hB hz1 hk1 hS hce hcv hcl => ?_) (fun u_4 r_3 t H locs ht hvm hw hB hz1 hk1 hS => ?_)
    · subst hB
      exact vx_widen (k := 3) (n := 18) (Nat.le_of_ble_eq_true rfl) (Nat.le_of_ble_eq_true rfl) (vx_out (fun x hx => (htab x hx).elim) hlocks hce hcv hcl (xx_out hS (Or.inr ⟨rfl, by simp [h_2]⟩)) hS.2.2 (Nat.le_of_ble_eq_true rfl) (Nat.le_of_ble_eq_true rfl))
    · exact hw.elim
set_option maxHeartbeats 4000000 in
set_option maxRecDepth 100000 in
/-- bestModel on a fresh object -/
theorem c_bestModel (l : Launch) (hlt : l.stackTraces = false) (D : va_G) (tC tE sz : Nat) (x q0 q1 q2 q3 q4 q5 q6 : Nat) (k0 : ClassId) (a1 a2 : Int32) : vx_Met l yX9_bestModel wsX9_bestModel ({ frames := 8, cells := 3, slots := 18, locals := 125 }) (Pg D tC tE sz [(x, .inr (13, [.ref q0, .ref q1, .ref q2, .ref q3, .ref q4, .ref q5, .ref q6, .int 0, .int 0, .int 0, .int 0, .int 0, .int 0, .int 0])), (q0, .inl (k0, 5, .inr (.inr (.inr (.inr (fun _ => none))))))] [(k0, .object "Lastroom$Model")] [.ref x, .int a1, .int a2]) (Qgi (S := Unit) D (fun u => []) (fun u => []) (fun _ _ => False) (va_A [(x, .inr (13, [.ref q0, .ref q1, .ref q2, .ref q3, .ref q4, .ref q5, .ref q6, .int 0, .int 0, .int 0, .int 0, .int 0, .int 0, .int 0])), (q0, .inl (k0, 5, .inr (.inr (.inr (.inr (fun _ => none))))))] sz)) (XX (fun E => (E = gx_iae ∧ footB a1 a2 = false) ∨ (E = gx_nse ∧ footB a1 a2 = true)) (va_A [(x, .inr (13, [.ref q0, .ref q1, .ref q2, .ref q3, .ref q4, .ref q5, .ref q6, .int 0, .int 0, .int 0, .int 0, .int 0, .int 0, .int 0])), (q0, .inl (k0, 5, .inr (.inr (.inr (.inr (fun _ => none))))))] sz)) 3 18 (va_A [(x, .inr (13, [.ref q0, .ref q1, .ref q2, .ref q3, .ref q4, .ref q5, .ref q6, .int 0, .int 0, .int 0, .int 0, .int 0, .int 0, .int 0])), (q0, .inl (k0, 5, .inr (.inr (.inr (.inr (fun _ => none))))))] sz) := by
  refine og_x (cc := cX9_bestModel) (maxL := 8) (ret := (some .int)) (Qc := Qgi (S := Unit) D (fun u => []) (fun u => []) (fun _ _ => False)) (XC := XX (fun E => (E = gx_iae ∧ footB a1 a2 = false) ∨ (E = gx_nse ∧ footB a1 a2 = true))) (by decide) rfl (Nat.le_of_ble_eq_true rfl) ?_
  intro p e s m below meth c A hx hb hr hml hts hown hlocks hin htab hP hD hK hG hA hS ls hl
  have hl : lv_has ls 8 [(0, .ref x), (1, .int a1), (2, .int a2)] := hl
  refine lv_iload_n hx hb dX9_bestModel_0 rfl (lv_at hl 1 rfl) ?_
  refine lv_iload_n hx hb dX9_bestModel_1 rfl (lv_at hl 2 rfl) ?_
  have hFc := va_free (wc := []) hD hS hA [] rfl
  refine vx_callv (vx_runS (As := [.int a1, .int a2]) (rest := []) ⟨hx, hb, hml, hown, hts⟩ (c_demandFoot l hlt D tC tE s.heap.size a1 a2) (va_cwS 2 hts gX9_bestModel_X9_demandFoot rfl rfl rfl (by decide +kernel) ⟨(Nat.le_of_ble_eq_true rfl), (Nat.le_of_ble_eq_true rfl)⟩) ⟨pg_blind, (pg_pre hP hD hK hG hS hFc [] rfl (by decide) [] rfl _)⟩ rfl rfl hl.1 rfl (lv_room (Nat.le_of_ble_eq_true rfl)) dX9_bestModel_2 ⟨(Nat.le_of_ble_eq_true rfl), (Nat.le_of_ble_eq_true rfl)⟩) hS (fun q _ h => hFc q h) hFc (fun q _ h => hFc q h) (fun E ce q9 u t H1 locs1 ht hvm hw hB hz1 hk1 hS hce hcv hcl => ?_) (fun u_1 t H locs ht hvm hw hB hz1 hk1 hS => ?_)
  · obtain ⟨hE, hf⟩ := hB
    subst hE
    exact vx_widen (k := 2) (n := 12) (Nat.le_of_ble_eq_true rfl) (Nat.le_of_ble_eq_true rfl) (vx_out (fun x hx => (htab x hx).elim) hlocks hce hcv hcl (xx_out hS (Or.inl ⟨rfl, by simp [hf]⟩)) hS.2.2 (Nat.le_of_ble_eq_true rfl) (Nat.le_of_ble_eq_true rfl))
  · have h_2 := hw
    obtain ⟨hP, hD, hK⟩ := jn (wr := [(x, .inr (13, [.ref q0, .ref q1, .ref q2, .ref q3, .ref q4, .ref q5, .ref q6, .int 0, .int 0, .int 0, .int 0, .int 0, .int 0, .int 0])), (q0, .inl (k0, 5, .inr (.inr (.inr (.inr (fun _ => none))))))]) (w1 := []) (t1 := []) (tr := [(k0, .object "Lastroom$Model")]) hP hD hK [] [0, 1] rfl rfl (by decide) (by decide) [0] rfl hk1 hFc hB rfl rfl ht hvm
    have hP : va_P D vwCl [(x, .inr (13, [.ref q0, .ref q1, .ref q2, .ref q3, .ref q4, .ref q5, .ref q6, .int 0, .int 0, .int 0, .int 0, .int 0, .int 0, .int 0])), (q0, .inl (k0, 5, .inr (.inr (.inr (.inr (fun _ => none))))))] H := hP
    have hD : va_D A [(x, .inr (13, [.ref q0, .ref q1, .ref q2, .ref q3, .ref q4, .ref q5, .ref q6, .int 0, .int 0, .int 0, .int 0, .int 0, .int 0, .int 0])), (q0, .inl (k0, 5, .inr (.inr (.inr (.inr (fun _ => none))))))] := hD
    have hK : va_K D vwCl [(k0, .object "Lastroom$Model")] s := hK
    refine W.widen (k := 2) (n := 12) (Nat.le_of_ble_eq_true rfl) (Nat.le_of_ble_eq_true rfl) ?_
    refine lv_iconst (v := (-1)) hx hb dX9_bestModel_5 (by decide) ?_
    refine lv_istore_n (lv' := [(3, .int (-1)), (0, .ref x), (1, .int a1), (2, .int a2)]) hx hb dX9_bestModel_6 rfl hl (by decide) rfl (fun ls hl => ?_)
    refine lv_ldc (v := 2147483647) hx hb hown (hts (.constant RX9 143 (2147483647)) (List.mem_of_getElem? (i := 3) rfl)) dX9_bestModel_7 ?_
    refine lv_istore (lv' := [(4, .int 2147483647), (3, .int (-1)), (0, .ref x), (1, .int a1), (2, .int a2)]) hx hb dX9_bestModel_9 hl (by decide) rfl (fun ls hl => ?_)
    refine lv_iconst (v := 0) hx hb dX9_bestModel_11 (by decide) ?_
    refine lv_istore (lv' := [(5, .int 0), (4, .int 2147483647), (3, .int (-1)), (0, .ref x), (1, .int a1), (2, .int a2)]) hx hb dX9_bestModel_12 hl (by decide) rfl (fun ls hl => ?_)
    refine lv_iload hx hb dX9_bestModel_14 (lv_at hl 0 rfl) ?_
    refine lv_aload_n hx hb dX9_bestModel_16 rfl (lv_at hl 3 rfl) ?_
    refine va_get (D := D) (ci := 13) (v := .ref q0) (C := RX9) (T := TX9) (N := 14) hx hb hts (fun w h => List.mem_cons_of_mem _ (List.mem_append_left _ (List.mem_append_left _ (List.mem_append_left _ (List.mem_append_right _ h))))) hown hK hP 0 rfl rfl 0 (by decide) (hts (.fieldLink RX9 11 "Lastroom" "models" "[LLastroom$Model;") (List.mem_of_getElem? (i := 4) rfl)) (fun _ h9 => h9) rfl dX9_bestModel_17 ?_
    refine va_alen hx hb hK hP 1 0 rfl rfl (v := 5) rfl dX9_bestModel_20 ?_
    refine lv_icmp_ge (tgt := 74) hx hb dX9_bestModel_21 (by decide) (fun c_3 => absurd c_3 (show ¬ (5 : Int32) ≤ (0 : Int32) from (by decide))) (fun c_3 => ?_)
    refine lv_aload_n hx hb dX9_bestModel_24 rfl (lv_at hl 3 rfl) ?_
    refine va_get (D := D) (ci := 13) (v := .ref q0) (C := RX9) (T := TX9) (N := 14) hx hb hts (fun w h => List.mem_cons_of_mem _ (List.mem_append_left _ (List.mem_append_left _ (List.mem_append_left _ (List.mem_append_right _ h))))) hown hK hP 0 rfl rfl 0 (by decide) (hts (.fieldLink RX9 11 "Lastroom" "models" "[LLastroom$Model;") (List.mem_of_getElem? (i := 4) rfl)) (fun _ h9 => h9) rfl dX9_bestModel_25 ?_
    refine lv_iload hx hb dX9_bestModel_28 (lv_at hl 0 rfl) ?_
    refine va_aldq hx hb hK hP 1 0 rfl rfl (vp_in_iff.mpr (by decide)) dX9_bestModel_30 ?_
    refine lv_astoreN (lv' := [(6, .null), (5, .int 0), (4, .int 2147483647), (3, .int (-1)), (0, .ref x), (1, .int a1), (2, .int a2)]) hx hb dX9_bestModel_31 hl (by decide) rfl (fun ls hl => ?_)
    refine lv_aloadN hx hb dX9_bestModel_33 (lv_at hl 0 rfl) ?_
    refine lv_ifnullN (tgt := 68) hx hb dX9_bestModel_35 (by decide) ?_
    refine lv_iinc (v := 1) (lv' := [(5, .int 1), (6, .null), (4, .int 2147483647), (3, .int (-1)), (0, .ref x), (1, .int a1), (2, .int a2)]) hx hb dX9_bestModel_68 hl (k := 1) rfl (by decide) (by decide) rfl (fun ls hl => ?_)
    refine lv_goto (tgt := 14) hx hb dX9_bestModel_71 (by decide) ?_
    refine lv_iload hx hb dX9_bestModel_14 (lv_at hl 0 rfl) ?_
    refine lv_aload_n hx hb dX9_bestModel_16 rfl (lv_at hl 4 rfl) ?_
    refine va_get (D := D) (ci := 13) (v := .ref q0) (C := RX9) (T := TX9) (N := 14) hx hb hts (fun w h => List.mem_cons_of_mem _ (List.mem_append_left _ (List.mem_append_left _ (List.mem_append_left _ (List.mem_append_right _ h))))) hown hK hP 0 rfl rfl 0 (by decide) (hts (.fieldLink RX9 11 "Lastroom" "models" "[LLastroom$Model;") (List.mem_of_getElem? (i := 4) rfl)) (fun _ h9 => h9) rfl dX9_bestModel_17 ?_
    refine va_alen hx hb hK hP 1 0 rfl rfl (v := 5) rfl dX9_bestModel_20 ?_
    refine lv_icmp_ge (tgt := 74) hx hb dX9_bestModel_21 (by decide) (fun c_4 => absurd c_4 (show ¬ (5 : Int32) ≤ (1 : Int32) from (by decide))) (fun c_4 => ?_)
    refine lv_aload_n hx hb dX9_bestModel_24 rfl (lv_at hl 4 rfl) ?_
    refine va_get (D := D) (ci := 13) (v := .ref q0) (C := RX9) (T := TX9) (N := 14) hx hb hts (fun w h => List.mem_cons_of_mem _ (List.mem_append_left _ (List.mem_append_left _ (List.mem_append_left _ (List.mem_append_right _ h))))) hown hK hP 0 rfl rfl 0 (by decide) (hts (.fieldLink RX9 11 "Lastroom" "models" "[LLastroom$Model;") (List.mem_of_getElem? (i := 4) rfl)) (fun _ h9 => h9) rfl dX9_bestModel_25 ?_
    refine lv_iload hx hb dX9_bestModel_28 (lv_at hl 0 rfl) ?_
    refine va_aldq hx hb hK hP 1 0 rfl rfl (vp_in_iff.mpr (by decide)) dX9_bestModel_30 ?_
    refine lv_astoreN (lv' := [(6, .null), (5, .int 1), (4, .int 2147483647), (3, .int (-1)), (0, .ref x), (1, .int a1), (2, .int a2)]) hx hb dX9_bestModel_31 hl (by decide) rfl (fun ls hl => ?_)
    refine lv_aloadN hx hb dX9_bestModel_33 (lv_at hl 0 rfl) ?_
    refine lv_ifnullN (tgt := 68) hx hb dX9_bestModel_35 (by decide) ?_
    refine lv_iinc (v := 2) (lv' := [(5, .int 2), (6, .null), (4, .int 2147483647), (3, .int (-1)), (0, .ref x), (1, .int a1), (2, .int a2)]) hx hb dX9_bestModel_68 hl (k := 1) rfl (by decide) (by decide) rfl (fun ls hl => ?_)
    refine lv_goto (tgt := 14) hx hb dX9_bestModel_71 (by decide) ?_
    refine lv_iload hx hb dX9_bestModel_14 (lv_at hl 0 rfl) ?_
    refine lv_aload_n hx hb dX9_bestModel_16 rfl (lv_at hl 4 rfl) ?_
    refine va_get (D := D) (ci := 13) (v := .ref q0) (C := RX9) (T := TX9) (N := 14) hx hb hts (fun w h => List.mem_cons_of_mem _ (List.mem_append_left _ (List.mem_append_left _ (List.mem_append_left _ (List.mem_append_right _ h))))) hown hK hP 0 rfl rfl 0 (by decide) (hts (.fieldLink RX9 11 "Lastroom" "models" "[LLastroom$Model;") (List.mem_of_getElem? (i := 4) rfl)) (fun _ h9 => h9) rfl dX9_bestModel_17 ?_
    refine va_alen hx hb hK hP 1 0 rfl rfl (v := 5) rfl dX9_bestModel_20 ?_
    refine lv_icmp_ge (tgt := 74) hx hb dX9_bestModel_21 (by decide) (fun c_5 => absurd c_5 (show ¬ (5 : Int32) ≤ (2 : Int32) from (by decide))) (fun c_5 => ?_)
    refine lv_aload_n hx hb dX9_bestModel_24 rfl (lv_at hl 4 rfl) ?_
    refine va_get (D := D) (ci := 13) (v := .ref q0) (C := RX9) (T := TX9) (N := 14) hx hb hts (fun w h => List.mem_cons_of_mem _ (List.mem_append_left _ (List.mem_append_left _ (List.mem_append_left _ (List.mem_append_right _ h))))) hown hK hP 0 rfl rfl 0 (by decide) (hts (.fieldLink RX9 11 "Lastroom" "models" "[LLastroom$Model;") (List.mem_of_getElem? (i := 4) rfl)) (fun _ h9 => h9) rfl dX9_bestModel_25 ?_
    refine lv_iload hx hb dX9_bestModel_28 (lv_at hl 0 rfl) ?_
    refine va_aldq hx hb hK hP 1 0 rfl rfl (vp_in_iff.mpr (by decide)) dX9_bestModel_30 ?_
    refine lv_astoreN (lv' := [(6, .null), (5, .int 2), (4, .int 2147483647), (3, .int (-1)), (0, .ref x), (1, .int a1), (2, .int a2)]) hx hb dX9_bestModel_31 hl (by decide) rfl (fun ls hl => ?_)
    refine lv_aloadN hx hb dX9_bestModel_33 (lv_at hl 0 rfl) ?_
    refine lv_ifnullN (tgt := 68) hx hb dX9_bestModel_35 (by decide) ?_
    refine lv_iinc (v := 3) (lv' := [(5, .int 3), (6, .null), (4, .int 2147483647), (3, .int (-1)), (0, .ref x), (1, .int a1), (2, .int a2)]) hx hb dX9_bestModel_68 hl (k := 1) rfl (by decide) (by decide) rfl (fun ls hl => ?_)
    refine lv_goto (tgt := 14) hx hb dX9_bestModel_71 (by decide) ?_
    refine lv_iload hx hb dX9_bestModel_14 (lv_at hl 0 rfl) ?_
    refine lv_aload_n hx hb dX9_bestModel_16 rfl (lv_at hl 4 rfl) ?_
    refine va_get (D := D) (ci := 13) (v := .ref q0) (C := RX9) (T := TX9) (N := 14) hx hb hts (fun w h => List.mem_cons_of_mem _ (List.mem_append_left _ (List.mem_append_left _ (List.mem_append_left _ (List.mem_append_right _ h))))) hown hK hP 0 rfl rfl 0 (by decide) (hts (.fieldLink RX9 11 "Lastroom" "models" "[LLastroom$Model;") (List.mem_of_getElem? (i := 4) rfl)) (fun _ h9 => h9) rfl dX9_bestModel_17 ?_
    refine va_alen hx hb hK hP 1 0 rfl rfl (v := 5) rfl dX9_bestModel_20 ?_
    refine lv_icmp_ge (tgt := 74) hx hb dX9_bestModel_21 (by decide) (fun c_6 => absurd c_6 (show ¬ (5 : Int32) ≤ (3 : Int32) from (by decide))) (fun c_6 => ?_)
    refine lv_aload_n hx hb dX9_bestModel_24 rfl (lv_at hl 4 rfl) ?_
    refine va_get (D := D) (ci := 13) (v := .ref q0) (C := RX9) (T := TX9) (N := 14) hx hb hts (fun w h => List.mem_cons_of_mem _ (List.mem_append_left _ (List.mem_append_left _ (List.mem_append_left _ (List.mem_append_right _ h))))) hown hK hP 0 rfl rfl 0 (by decide) (hts (.fieldLink RX9 11 "Lastroom" "models" "[LLastroom$Model;") (List.mem_of_getElem? (i := 4) rfl)) (fun _ h9 => h9) rfl dX9_bestModel_25 ?_
    refine lv_iload hx hb dX9_bestModel_28 (lv_at hl 0 rfl) ?_
    refine va_aldq hx hb hK hP 1 0 rfl rfl (vp_in_iff.mpr (by decide)) dX9_bestModel_30 ?_
    refine lv_astoreN (lv' := [(6, .null), (5, .int 3), (4, .int 2147483647), (3, .int (-1)), (0, .ref x), (1, .int a1), (2, .int a2)]) hx hb dX9_bestModel_31 hl (by decide) rfl (fun ls hl => ?_)
    refine lv_aloadN hx hb dX9_bestModel_33 (lv_at hl 0 rfl) ?_
    refine lv_ifnullN (tgt := 68) hx hb dX9_bestModel_35 (by decide) ?_
    refine lv_iinc (v := 4) (lv' := [(5, .int 4), (6, .null), (4, .int 2147483647), (3, .int (-1)), (0, .ref x), (1, .int a1), (2, .int a2)]) hx hb dX9_bestModel_68 hl (k := 1) rfl (by decide) (by decide) rfl (fun ls hl => ?_)
    refine lv_goto (tgt := 14) hx hb dX9_bestModel_71 (by decide) ?_
    refine lv_iload hx hb dX9_bestModel_14 (lv_at hl 0 rfl) ?_
    refine lv_aload_n hx hb dX9_bestModel_16 rfl (lv_at hl 4 rfl) ?_
    refine va_get (D := D) (ci := 13) (v := .ref q0) (C := RX9) (T := TX9) (N := 14) hx hb hts (fun w h => List.mem_cons_of_mem _ (List.mem_append_left _ (List.mem_append_left _ (List.mem_append_left _ (List.mem_append_right _ h))))) hown hK hP 0 rfl rfl 0 (by decide) (hts (.fieldLink RX9 11 "Lastroom" "models" "[LLastroom$Model;") (List.mem_of_getElem? (i := 4) rfl)) (fun _ h9 => h9) rfl dX9_bestModel_17 ?_
    refine va_alen hx hb hK hP 1 0 rfl rfl (v := 5) rfl dX9_bestModel_20 ?_
    refine lv_icmp_ge (tgt := 74) hx hb dX9_bestModel_21 (by decide) (fun c_7 => absurd c_7 (show ¬ (5 : Int32) ≤ (4 : Int32) from (by decide))) (fun c_7 => ?_)
    refine lv_aload_n hx hb dX9_bestModel_24 rfl (lv_at hl 4 rfl) ?_
    refine va_get (D := D) (ci := 13) (v := .ref q0) (C := RX9) (T := TX9) (N := 14) hx hb hts (fun w h => List.mem_cons_of_mem _ (List.mem_append_left _ (List.mem_append_left _ (List.mem_append_left _ (List.mem_append_right _ h))))) hown hK hP 0 rfl rfl 0 (by decide) (hts (.fieldLink RX9 11 "Lastroom" "models" "[LLastroom$Model;") (List.mem_of_getElem? (i := 4) rfl)) (fun _ h9 => h9) rfl dX9_bestModel_25 ?_
    refine lv_iload hx hb dX9_bestModel_28 (lv_at hl 0 rfl) ?_
    refine va_aldq hx hb hK hP 1 0 rfl rfl (vp_in_iff.mpr (by decide)) dX9_bestModel_30 ?_
    refine lv_astoreN (lv' := [(6, .null), (5, .int 4), (4, .int 2147483647), (3, .int (-1)), (0, .ref x), (1, .int a1), (2, .int a2)]) hx hb dX9_bestModel_31 hl (by decide) rfl (fun ls hl => ?_)
    refine lv_aloadN hx hb dX9_bestModel_33 (lv_at hl 0 rfl) ?_
    refine lv_ifnullN (tgt := 68) hx hb dX9_bestModel_35 (by decide) ?_
    refine lv_iinc (v := 5) (lv' := [(5, .int 5), (6, .null), (4, .int 2147483647), (3, .int (-1)), (0, .ref x), (1, .int a1), (2, .int a2)]) hx hb dX9_bestModel_68 hl (k := 1) rfl (by decide) (by decide) rfl (fun ls hl => ?_)
    refine lv_goto (tgt := 14) hx hb dX9_bestModel_71 (by decide) ?_
    refine lv_iload hx hb dX9_bestModel_14 (lv_at hl 0 rfl) ?_
    refine lv_aload_n hx hb dX9_bestModel_16 rfl (lv_at hl 4 rfl) ?_
    refine va_get (D := D) (ci := 13) (v := .ref q0) (C := RX9) (T := TX9) (N := 14) hx hb hts (fun w h => List.mem_cons_of_mem _ (List.mem_append_left _ (List.mem_append_left _ (List.mem_append_left _ (List.mem_append_right _ h))))) hown hK hP 0 rfl rfl 0 (by decide) (hts (.fieldLink RX9 11 "Lastroom" "models" "[LLastroom$Model;") (List.mem_of_getElem? (i := 4) rfl)) (fun _ h9 => h9) rfl dX9_bestModel_17 ?_
    refine va_alen hx hb hK hP 1 0 rfl rfl (v := 5) rfl dX9_bestModel_20 ?_
    refine lv_icmp_ge (tgt := 74) hx hb dX9_bestModel_21 (by decide) (fun c_8 => ?_) (fun c_8 => absurd (show (5 : Int32) ≤ (5 : Int32) from (by decide)) c_8)
    refine lv_iload_n hx hb dX9_bestModel_74 rfl (lv_at hl 3 rfl) ?_
    refine lv_iconst (v := (-1)) hx hb dX9_bestModel_75 (by decide) ?_
    refine lv_icmp_ne (tgt := 89) hx hb dX9_bestModel_76 (by decide) (fun c_9 => absurd (by decide) c_9) (fun c_9 => ?_)
    exact tn_s (i := 1)  hx hb hlt hown (hts (.classLink RX9 148 "java/util/NoSuchElementException") (List.mem_of_getElem? (i := 1) rfl)) (hts (.initialized "java/util/NoSuchElementException") (List.mem_of_getElem? (i := 2) rfl)) (fun w h => hts w (List.mem_cons_of_mem _ (List.mem_append_left _ (List.mem_append_right _ h)))) rfl hG hS (hl.1.trans hml.symm) htab hlocks dX9_bestModel_79 dX9_bestModel_82 dX9_bestModel_83 dX9_bestModel_85 dX9_bestModel_88 (Or.inr ⟨rfl, by simp [h_2]⟩) (Nat.le_of_ble_eq_true rfl) (Nat.le_of_ble_eq_true rfl) (Nat.le_of_ble_eq_true rfl) (Nat.le_of_ble_eq_true rfl) (Nat.le_of_ble_eq_true rfl) (Nat.le_of_ble_eq_true rfl)
set_option maxHeartbeats 4000000 in
set_option maxRecDepth 100000 in
/-- packedShare on a fresh object -/
theorem c_packedShare (l : Launch) (hlt : l.stackTraces = false) (D : va_G) (tC tE sz : Nat) (x q0 q1 q2 q3 q4 q5 q6 : Nat) : vx_Met l yX9_packedShare wsX9_packedShare ({ frames := 6, cells := 1, slots := 6, locals := 82 }) (Pg D tC tE sz [(x, .inr (13, [.ref q0, .ref q1, .ref q2, .ref q3, .ref q4, .ref q5, .ref q6, .int 0, .int 0, .int 0, .int 0, .int 0, .int 0, .int 0]))] [] [.ref x]) (Qgf (S := Unit) D (fun u => []) (fun u => []) (fun _ _ => False) (va_A [(x, .inr (13, [.ref q0, .ref q1, .ref q2, .ref q3, .ref q4, .ref q5, .ref q6, .int 0, .int 0, .int 0, .int 0, .int 0, .int 0, .int 0]))] sz)) (XX (fun E => E = gx_ari) (va_A [(x, .inr (13, [.ref q0, .ref q1, .ref q2, .ref q3, .ref q4, .ref q5, .ref q6, .int 0, .int 0, .int 0, .int 0, .int 0, .int 0, .int 0]))] sz)) 1 6 (va_A [(x, .inr (13, [.ref q0, .ref q1, .ref q2, .ref q3, .ref q4, .ref q5, .ref q6, .int 0, .int 0, .int 0, .int 0, .int 0, .int 0, .int 0]))] sz) := by
  refine og_x (cc := cX9_packedShare) (maxL := 6) (ret := (some .float)) (Qc := Qgf (S := Unit) D (fun u => []) (fun u => []) (fun _ _ => False)) (XC := XX (fun E => E = gx_ari)) (by decide) rfl (Nat.le_of_ble_eq_true rfl) ?_
  intro p e s m below meth c A hx hb hr hml hts hown hlocks hin htab hP hD hK hG hA hS ls hl
  have hl : lv_has ls 6 [(0, .ref x)] := hl
  refine lv_aload_n hx hb dX9_packedShare_0 rfl (lv_at hl 0 rfl) ?_
  refine va_get (D := D) (ci := 13) (v := .int 0) (C := RX9) (T := TX9) (N := 14) hx hb hts (fun w h => List.mem_cons_of_mem _ (List.mem_append_left _ (List.mem_append_left _ (List.mem_append_right _ h)))) hown hK hP 0 rfl rfl 10 (by decide) (hts (.fieldLink RX9 348 "Lastroom" "ticketCount" "I") (List.mem_of_getElem? (i := 3) rfl)) (fun _ h9 => h9) rfl dX9_packedShare_1 ?_
  refine lv_if_ne (tgt := 18) hx hb dX9_packedShare_4 (by decide) (fun c_1 => absurd (by decide) c_1) (fun c_1 => ?_)
  exact th_w (i := 4) gx_thr_ari hx hb hlt hown (hts (.classLink RX9 505 "java/lang/ArithmeticException") (List.mem_of_getElem? (i := 1) rfl)) (hts (.initialized "java/lang/ArithmeticException") (List.mem_of_getElem? (i := 2) rfl)) (fun w h => hts w (List.mem_cons_of_mem _ (List.mem_append_right _ h))) rfl hG hS (hl.1.trans hml.symm) htab hlocks dX9_packedShare_7 dX9_packedShare_10 dX9_packedShare_11 dX9_packedShare_14 dX9_packedShare_17 rfl (Nat.le_of_ble_eq_true rfl) (Nat.le_of_ble_eq_true rfl) (Nat.le_of_ble_eq_true rfl) (Nat.le_of_ble_eq_true rfl) (Nat.le_of_ble_eq_true rfl) (Nat.le_of_ble_eq_true rfl)
set_option maxHeartbeats 4000000 in
set_option maxRecDepth 100000 in
/-- meanWaste on a fresh object -/
theorem c_meanWaste (l : Launch) (hlt : l.stackTraces = false) (D : va_G) (tC tE sz : Nat) (x q0 q1 q2 q3 q4 q5 q6 : Nat) : vx_Met l yX9_meanWaste wsX9_meanWaste ({ frames := 6, cells := 1, slots := 6, locals := 82 }) (Pg D tC tE sz [(x, .inr (13, [.ref q0, .ref q1, .ref q2, .ref q3, .ref q4, .ref q5, .ref q6, .int 0, .int 0, .int 0, .int 0, .int 0, .int 0, .int 0]))] [] [.ref x]) (Qgd (S := Unit) D (fun u => []) (fun u => []) (fun _ _ => False) (va_A [(x, .inr (13, [.ref q0, .ref q1, .ref q2, .ref q3, .ref q4, .ref q5, .ref q6, .int 0, .int 0, .int 0, .int 0, .int 0, .int 0, .int 0]))] sz)) (XX (fun E => E = gx_ari) (va_A [(x, .inr (13, [.ref q0, .ref q1, .ref q2, .ref q3, .ref q4, .ref q5, .ref q6, .int 0, .int 0, .int 0, .int 0, .int 0, .int 0, .int 0]))] sz)) 1 6 (va_A [(x, .inr (13, [.ref q0, .ref q1, .ref q2, .ref q3, .ref q4, .ref q5, .ref q6, .int 0, .int 0, .int 0, .int 0, .int 0, .int 0, .int 0]))] sz) := by
  refine og_x (cc := cX9_meanWaste) (maxL := 6) (ret := (some .double)) (Qc := Qgd (S := Unit) D (fun u => []) (fun u => []) (fun _ _ => False)) (XC := XX (fun E => E = gx_ari)) (by decide) rfl (Nat.le_of_ble_eq_true rfl) ?_
  intro p e s m below meth c A hx hb hr hml hts hown hlocks hin htab hP hD hK hG hA hS ls hl
  have hl : lv_has ls 6 [(0, .ref x)] := hl
  refine lv_aload_n hx hb dX9_meanWaste_0 rfl (lv_at hl 0 rfl) ?_
  refine va_get (D := D) (ci := 13) (v := .int 0) (C := RX9) (T := TX9) (N := 14) hx hb hts (fun w h => List.mem_cons_of_mem _ (List.mem_append_left _ (List.mem_append_left _ (List.mem_append_left _ (List.mem_append_left _ (List.mem_append_right _ h)))))) hown hK hP 0 rfl rfl 9 (by decide) (hts (.fieldLink RX9 227 "Lastroom" "hideCount" "I") (List.mem_of_getElem? (i := 3) rfl)) (fun _ h9 => h9) rfl dX9_meanWaste_1 ?_
  refine lv_if_ne (tgt := 18) hx hb dX9_meanWaste_4 (by decide) (fun c_1 => absurd (by decide) c_1) (fun c_1 => ?_)
  exact th_w (i := 5) gx_thr_ari hx hb hlt hown (hts (.classLink RX9 505 "java/lang/ArithmeticException") (List.mem_of_getElem? (i := 1) rfl)) (hts (.initialized "java/lang/ArithmeticException") (List.mem_of_getElem? (i := 2) rfl)) (fun w h => hts w (List.mem_cons_of_mem _ (List.mem_append_left _ (List.mem_append_left _ (List.mem_append_right _ h))))) rfl hG hS (hl.1.trans hml.symm) htab hlocks dX9_meanWaste_7 dX9_meanWaste_10 dX9_meanWaste_11 dX9_meanWaste_14 dX9_meanWaste_17 rfl (Nat.le_of_ble_eq_true rfl) (Nat.le_of_ble_eq_true rfl) (Nat.le_of_ble_eq_true rfl) (Nat.le_of_ble_eq_true rfl) (Nat.le_of_ble_eq_true rfl) (Nat.le_of_ble_eq_true rfl)
set_option maxHeartbeats 4000000 in
set_option maxRecDepth 100000 in
/-- checksum on a fresh object -/
theorem c_checksum (l : Launch) (D : va_G) (tC tE sz : Nat) (x q0 q1 q2 q3 q4 q5 q6 : Nat) (k3 : ClassId) : Met l yX9_checksum wsX9_checksum ({ frames := 0, cells := 0, slots := 0, locals := 0 }) (Pg D tC tE sz [(x, .inr (13, [.ref q0, .ref q1, .ref q2, .ref q3, .ref q4, .ref q5, .ref q6, .int 0, .int 0, .int 0, .int 0, .int 0, .int 0, .int 0])), (q3, .inl (k3, 16, .inr (.inr (.inr (.inr (fun _ => none))))))] [(k3, .object "Lastroom$Ticket")] [.ref x]) (Qgl (S := Unit) D (fun u => []) (fun u => []) (fun r _ => r = 0) (va_A [(x, .inr (13, [.ref q0, .ref q1, .ref q2, .ref q3, .ref q4, .ref q5, .ref q6, .int 0, .int 0, .int 0, .int 0, .int 0, .int 0, .int 0])), (q3, .inl (k3, 16, .inr (.inr (.inr (.inr (fun _ => none))))))] sz)) 0 0 (va_A [(x, .inr (13, [.ref q0, .ref q1, .ref q2, .ref q3, .ref q4, .ref q5, .ref q6, .int 0, .int 0, .int 0, .int 0, .int 0, .int 0, .int 0])), (q3, .inl (k3, 16, .inr (.inr (.inr (.inr (fun _ => none))))))] sz) := by
  refine og_m (cc := cX9_checksum) (maxL := 7) (ret := (some .long)) (Qc := Qgl (S := Unit) D (fun u => []) (fun u => []) (fun r _ => r = 0)) (by decide) rfl (Nat.le_of_ble_eq_true rfl) ?_
  intro p e s m below meth c A hx hb hr hml hts hown hlocks hin hP hD hK hG hA hS ls hl
  have hl : lv_has ls 7 [(0, .ref x)] := hl
  refine lv_lconst (v := 0) hx hb dX9_checksum_0 (by decide) ?_
  refine lv_lstore_n (lv' := [(1, .long 0), (0, .ref x)]) hx hb dX9_checksum_1 rfl hl (by decide) rfl (fun ls hl => ?_)
  refine lv_aload_n hx hb dX9_checksum_2 rfl (lv_at hl 1 rfl) ?_
  refine va_get (D := D) (ci := 13) (v := .ref q3) (C := RX9) (T := TX9) (N := 14) hx hb hts (fun w h => List.mem_cons_of_mem _ (List.mem_append_left _ (List.mem_append_left _ (List.mem_append_left _ (List.mem_append_right _ h))))) hown hK hP 0 rfl rfl 3 (by decide) (hts (.fieldLink RX9 29 "Lastroom" "tickets" "[LLastroom$Ticket;") (List.mem_of_getElem? (i := 1) rfl)) (fun _ h9 => h9) rfl dX9_checksum_3 ?_
  refine lv_astore_n (lv' := [(3, .ref q3), (1, .long 0), (0, .ref x)]) hx hb dX9_checksum_6 rfl hl (by decide) rfl (fun ls hl => ?_)
  refine lv_aload_n hx hb dX9_checksum_7 rfl (lv_at hl 0 rfl) ?_
  refine va_alen hx hb hK hP 1 0 rfl rfl (v := 16) rfl dX9_checksum_8 ?_
  refine lv_istore (lv' := [(4, .int 16), (3, .ref q3), (1, .long 0), (0, .ref x)]) hx hb dX9_checksum_9 hl (by decide) rfl (fun ls hl => ?_)
  refine lv_iconst (v := 0) hx hb dX9_checksum_11 (by decide) ?_
  refine lv_istore (lv' := [(5, .int 0), (4, .int 16), (3, .ref q3), (1, .long 0), (0, .ref x)]) hx hb dX9_checksum_12 hl (by decide) rfl (fun ls hl => ?_)
  refine lv_iload hx hb dX9_checksum_14 (lv_at hl 0 rfl) ?_
  refine lv_iload hx hb dX9_checksum_16 (lv_at hl 1 rfl) ?_
  refine lv_icmp_ge (tgt := 71) hx hb dX9_checksum_18 (by decide) (fun c_1 => absurd c_1 (show ¬ (16 : Int32) ≤ (0 : Int32) from (by decide))) (fun c_1 => ?_)
  refine lv_aload_n hx hb dX9_checksum_21 rfl (lv_at hl 2 rfl) ?_
  refine lv_iload hx hb dX9_checksum_22 (lv_at hl 0 rfl) ?_
  refine va_aldq hx hb hK hP 1 0 rfl rfl (vp_in_iff.mpr (by decide)) dX9_checksum_24 ?_
  refine lv_astoreN (lv' := [(6, .null), (5, .int 0), (4, .int 16), (3, .ref q3), (1, .long 0), (0, .ref x)]) hx hb dX9_checksum_25 hl (by decide) rfl (fun ls hl => ?_)
  refine lv_aloadN hx hb dX9_checksum_27 (lv_at hl 0 rfl) ?_
  refine lv_ifnullN (tgt := 65) hx hb dX9_checksum_29 (by decide) ?_
  refine lv_iinc (v := 1) (lv' := [(5, .int 1), (6, .null), (4, .int 16), (3, .ref q3), (1, .long 0), (0, .ref x)]) hx hb dX9_checksum_65 hl (k := 1) rfl (by decide) (by decide) rfl (fun ls hl => ?_)
  refine lv_goto (tgt := 14) hx hb dX9_checksum_68 (by decide) ?_
  refine lv_iload hx hb dX9_checksum_14 (lv_at hl 0 rfl) ?_
  refine lv_iload hx hb dX9_checksum_16 (lv_at hl 2 rfl) ?_
  refine lv_icmp_ge (tgt := 71) hx hb dX9_checksum_18 (by decide) (fun c_2 => absurd c_2 (show ¬ (16 : Int32) ≤ (1 : Int32) from (by decide))) (fun c_2 => ?_)
  refine lv_aload_n hx hb dX9_checksum_21 rfl (lv_at hl 3 rfl) ?_
  refine lv_iload hx hb dX9_checksum_22 (lv_at hl 0 rfl) ?_
  refine va_aldq hx hb hK hP 1 0 rfl rfl (vp_in_iff.mpr (by decide)) dX9_checksum_24 ?_
  refine lv_astoreN (lv' := [(6, .null), (5, .int 1), (4, .int 16), (3, .ref q3), (1, .long 0), (0, .ref x)]) hx hb dX9_checksum_25 hl (by decide) rfl (fun ls hl => ?_)
  refine lv_aloadN hx hb dX9_checksum_27 (lv_at hl 0 rfl) ?_
  refine lv_ifnullN (tgt := 65) hx hb dX9_checksum_29 (by decide) ?_
  refine lv_iinc (v := 2) (lv' := [(5, .int 2), (6, .null), (4, .int 16), (3, .ref q3), (1, .long 0), (0, .ref x)]) hx hb dX9_checksum_65 hl (k := 1) rfl (by decide) (by decide) rfl (fun ls hl => ?_)
  refine lv_goto (tgt := 14) hx hb dX9_checksum_68 (by decide) ?_
  refine lv_iload hx hb dX9_checksum_14 (lv_at hl 0 rfl) ?_
  refine lv_iload hx hb dX9_checksum_16 (lv_at hl 2 rfl) ?_
  refine lv_icmp_ge (tgt := 71) hx hb dX9_checksum_18 (by decide) (fun c_3 => absurd c_3 (show ¬ (16 : Int32) ≤ (2 : Int32) from (by decide))) (fun c_3 => ?_)
  refine lv_aload_n hx hb dX9_checksum_21 rfl (lv_at hl 3 rfl) ?_
  refine lv_iload hx hb dX9_checksum_22 (lv_at hl 0 rfl) ?_
  refine va_aldq hx hb hK hP 1 0 rfl rfl (vp_in_iff.mpr (by decide)) dX9_checksum_24 ?_
  refine lv_astoreN (lv' := [(6, .null), (5, .int 2), (4, .int 16), (3, .ref q3), (1, .long 0), (0, .ref x)]) hx hb dX9_checksum_25 hl (by decide) rfl (fun ls hl => ?_)
  refine lv_aloadN hx hb dX9_checksum_27 (lv_at hl 0 rfl) ?_
  refine lv_ifnullN (tgt := 65) hx hb dX9_checksum_29 (by decide) ?_
  refine lv_iinc (v := 3) (lv' := [(5, .int 3), (6, .null), (4, .int 16), (3, .ref q3), (1, .long 0), (0, .ref x)]) hx hb dX9_checksum_65 hl (k := 1) rfl (by decide) (by decide) rfl (fun ls hl => ?_)
  refine lv_goto (tgt := 14) hx hb dX9_checksum_68 (by decide) ?_
  refine lv_iload hx hb dX9_checksum_14 (lv_at hl 0 rfl) ?_
  refine lv_iload hx hb dX9_checksum_16 (lv_at hl 2 rfl) ?_
  refine lv_icmp_ge (tgt := 71) hx hb dX9_checksum_18 (by decide) (fun c_4 => absurd c_4 (show ¬ (16 : Int32) ≤ (3 : Int32) from (by decide))) (fun c_4 => ?_)
  refine lv_aload_n hx hb dX9_checksum_21 rfl (lv_at hl 3 rfl) ?_
  refine lv_iload hx hb dX9_checksum_22 (lv_at hl 0 rfl) ?_
  refine va_aldq hx hb hK hP 1 0 rfl rfl (vp_in_iff.mpr (by decide)) dX9_checksum_24 ?_
  refine lv_astoreN (lv' := [(6, .null), (5, .int 3), (4, .int 16), (3, .ref q3), (1, .long 0), (0, .ref x)]) hx hb dX9_checksum_25 hl (by decide) rfl (fun ls hl => ?_)
  refine lv_aloadN hx hb dX9_checksum_27 (lv_at hl 0 rfl) ?_
  refine lv_ifnullN (tgt := 65) hx hb dX9_checksum_29 (by decide) ?_
  refine lv_iinc (v := 4) (lv' := [(5, .int 4), (6, .null), (4, .int 16), (3, .ref q3), (1, .long 0), (0, .ref x)]) hx hb dX9_checksum_65 hl (k := 1) rfl (by decide) (by decide) rfl (fun ls hl => ?_)
  refine lv_goto (tgt := 14) hx hb dX9_checksum_68 (by decide) ?_
  refine lv_iload hx hb dX9_checksum_14 (lv_at hl 0 rfl) ?_
  refine lv_iload hx hb dX9_checksum_16 (lv_at hl 2 rfl) ?_
  refine lv_icmp_ge (tgt := 71) hx hb dX9_checksum_18 (by decide) (fun c_5 => absurd c_5 (show ¬ (16 : Int32) ≤ (4 : Int32) from (by decide))) (fun c_5 => ?_)
  refine lv_aload_n hx hb dX9_checksum_21 rfl (lv_at hl 3 rfl) ?_
  refine lv_iload hx hb dX9_checksum_22 (lv_at hl 0 rfl) ?_
  refine va_aldq hx hb hK hP 1 0 rfl rfl (vp_in_iff.mpr (by decide)) dX9_checksum_24 ?_
  refine lv_astoreN (lv' := [(6, .null), (5, .int 4), (4, .int 16), (3, .ref q3), (1, .long 0), (0, .ref x)]) hx hb dX9_checksum_25 hl (by decide) rfl (fun ls hl => ?_)
  refine lv_aloadN hx hb dX9_checksum_27 (lv_at hl 0 rfl) ?_
  refine lv_ifnullN (tgt := 65) hx hb dX9_checksum_29 (by decide) ?_
  refine lv_iinc (v := 5) (lv' := [(5, .int 5), (6, .null), (4, .int 16), (3, .ref q3), (1, .long 0), (0, .ref x)]) hx hb dX9_checksum_65 hl (k := 1) rfl (by decide) (by decide) rfl (fun ls hl => ?_)
  refine lv_goto (tgt := 14) hx hb dX9_checksum_68 (by decide) ?_
  refine lv_iload hx hb dX9_checksum_14 (lv_at hl 0 rfl) ?_
  refine lv_iload hx hb dX9_checksum_16 (lv_at hl 2 rfl) ?_
  refine lv_icmp_ge (tgt := 71) hx hb dX9_checksum_18 (by decide) (fun c_6 => absurd c_6 (show ¬ (16 : Int32) ≤ (5 : Int32) from (by decide))) (fun c_6 => ?_)
  refine lv_aload_n hx hb dX9_checksum_21 rfl (lv_at hl 3 rfl) ?_
  refine lv_iload hx hb dX9_checksum_22 (lv_at hl 0 rfl) ?_
  refine va_aldq hx hb hK hP 1 0 rfl rfl (vp_in_iff.mpr (by decide)) dX9_checksum_24 ?_
  refine lv_astoreN (lv' := [(6, .null), (5, .int 5), (4, .int 16), (3, .ref q3), (1, .long 0), (0, .ref x)]) hx hb dX9_checksum_25 hl (by decide) rfl (fun ls hl => ?_)
  refine lv_aloadN hx hb dX9_checksum_27 (lv_at hl 0 rfl) ?_
  refine lv_ifnullN (tgt := 65) hx hb dX9_checksum_29 (by decide) ?_
  refine lv_iinc (v := 6) (lv' := [(5, .int 6), (6, .null), (4, .int 16), (3, .ref q3), (1, .long 0), (0, .ref x)]) hx hb dX9_checksum_65 hl (k := 1) rfl (by decide) (by decide) rfl (fun ls hl => ?_)
  refine lv_goto (tgt := 14) hx hb dX9_checksum_68 (by decide) ?_
  refine lv_iload hx hb dX9_checksum_14 (lv_at hl 0 rfl) ?_
  refine lv_iload hx hb dX9_checksum_16 (lv_at hl 2 rfl) ?_
  refine lv_icmp_ge (tgt := 71) hx hb dX9_checksum_18 (by decide) (fun c_7 => absurd c_7 (show ¬ (16 : Int32) ≤ (6 : Int32) from (by decide))) (fun c_7 => ?_)
  refine lv_aload_n hx hb dX9_checksum_21 rfl (lv_at hl 3 rfl) ?_
  refine lv_iload hx hb dX9_checksum_22 (lv_at hl 0 rfl) ?_
  refine va_aldq hx hb hK hP 1 0 rfl rfl (vp_in_iff.mpr (by decide)) dX9_checksum_24 ?_
  refine lv_astoreN (lv' := [(6, .null), (5, .int 6), (4, .int 16), (3, .ref q3), (1, .long 0), (0, .ref x)]) hx hb dX9_checksum_25 hl (by decide) rfl (fun ls hl => ?_)
  refine lv_aloadN hx hb dX9_checksum_27 (lv_at hl 0 rfl) ?_
  refine lv_ifnullN (tgt := 65) hx hb dX9_checksum_29 (by decide) ?_
  refine lv_iinc (v := 7) (lv' := [(5, .int 7), (6, .null), (4, .int 16), (3, .ref q3), (1, .long 0), (0, .ref x)]) hx hb dX9_checksum_65 hl (k := 1) rfl (by decide) (by decide) rfl (fun ls hl => ?_)
  refine lv_goto (tgt := 14) hx hb dX9_checksum_68 (by decide) ?_
  refine lv_iload hx hb dX9_checksum_14 (lv_at hl 0 rfl) ?_
  refine lv_iload hx hb dX9_checksum_16 (lv_at hl 2 rfl) ?_
  refine lv_icmp_ge (tgt := 71) hx hb dX9_checksum_18 (by decide) (fun c_8 => absurd c_8 (show ¬ (16 : Int32) ≤ (7 : Int32) from (by decide))) (fun c_8 => ?_)
  refine lv_aload_n hx hb dX9_checksum_21 rfl (lv_at hl 3 rfl) ?_
  refine lv_iload hx hb dX9_checksum_22 (lv_at hl 0 rfl) ?_
  refine va_aldq hx hb hK hP 1 0 rfl rfl (vp_in_iff.mpr (by decide)) dX9_checksum_24 ?_
  refine lv_astoreN (lv' := [(6, .null), (5, .int 7), (4, .int 16), (3, .ref q3), (1, .long 0), (0, .ref x)]) hx hb dX9_checksum_25 hl (by decide) rfl (fun ls hl => ?_)
  refine lv_aloadN hx hb dX9_checksum_27 (lv_at hl 0 rfl) ?_
  refine lv_ifnullN (tgt := 65) hx hb dX9_checksum_29 (by decide) ?_
  refine lv_iinc (v := 8) (lv' := [(5, .int 8), (6, .null), (4, .int 16), (3, .ref q3), (1, .long 0), (0, .ref x)]) hx hb dX9_checksum_65 hl (k := 1) rfl (by decide) (by decide) rfl (fun ls hl => ?_)
  refine lv_goto (tgt := 14) hx hb dX9_checksum_68 (by decide) ?_
  refine lv_iload hx hb dX9_checksum_14 (lv_at hl 0 rfl) ?_
  refine lv_iload hx hb dX9_checksum_16 (lv_at hl 2 rfl) ?_
  refine lv_icmp_ge (tgt := 71) hx hb dX9_checksum_18 (by decide) (fun c_9 => absurd c_9 (show ¬ (16 : Int32) ≤ (8 : Int32) from (by decide))) (fun c_9 => ?_)
  refine lv_aload_n hx hb dX9_checksum_21 rfl (lv_at hl 3 rfl) ?_
  refine lv_iload hx hb dX9_checksum_22 (lv_at hl 0 rfl) ?_
  refine va_aldq hx hb hK hP 1 0 rfl rfl (vp_in_iff.mpr (by decide)) dX9_checksum_24 ?_
  refine lv_astoreN (lv' := [(6, .null), (5, .int 8), (4, .int 16), (3, .ref q3), (1, .long 0), (0, .ref x)]) hx hb dX9_checksum_25 hl (by decide) rfl (fun ls hl => ?_)
  refine lv_aloadN hx hb dX9_checksum_27 (lv_at hl 0 rfl) ?_
  refine lv_ifnullN (tgt := 65) hx hb dX9_checksum_29 (by decide) ?_
  refine lv_iinc (v := 9) (lv' := [(5, .int 9), (6, .null), (4, .int 16), (3, .ref q3), (1, .long 0), (0, .ref x)]) hx hb dX9_checksum_65 hl (k := 1) rfl (by decide) (by decide) rfl (fun ls hl => ?_)
  refine lv_goto (tgt := 14) hx hb dX9_checksum_68 (by decide) ?_
  refine lv_iload hx hb dX9_checksum_14 (lv_at hl 0 rfl) ?_
  refine lv_iload hx hb dX9_checksum_16 (lv_at hl 2 rfl) ?_
  refine lv_icmp_ge (tgt := 71) hx hb dX9_checksum_18 (by decide) (fun c_10 => absurd c_10 (show ¬ (16 : Int32) ≤ (9 : Int32) from (by decide))) (fun c_10 => ?_)
  refine lv_aload_n hx hb dX9_checksum_21 rfl (lv_at hl 3 rfl) ?_
  refine lv_iload hx hb dX9_checksum_22 (lv_at hl 0 rfl) ?_
  refine va_aldq hx hb hK hP 1 0 rfl rfl (vp_in_iff.mpr (by decide)) dX9_checksum_24 ?_
  refine lv_astoreN (lv' := [(6, .null), (5, .int 9), (4, .int 16), (3, .ref q3), (1, .long 0), (0, .ref x)]) hx hb dX9_checksum_25 hl (by decide) rfl (fun ls hl => ?_)
  refine lv_aloadN hx hb dX9_checksum_27 (lv_at hl 0 rfl) ?_
  refine lv_ifnullN (tgt := 65) hx hb dX9_checksum_29 (by decide) ?_
  refine lv_iinc (v := 10) (lv' := [(5, .int 10), (6, .null), (4, .int 16), (3, .ref q3), (1, .long 0), (0, .ref x)]) hx hb dX9_checksum_65 hl (k := 1) rfl (by decide) (by decide) rfl (fun ls hl => ?_)
  refine lv_goto (tgt := 14) hx hb dX9_checksum_68 (by decide) ?_
  refine lv_iload hx hb dX9_checksum_14 (lv_at hl 0 rfl) ?_
  refine lv_iload hx hb dX9_checksum_16 (lv_at hl 2 rfl) ?_
  refine lv_icmp_ge (tgt := 71) hx hb dX9_checksum_18 (by decide) (fun c_11 => absurd c_11 (show ¬ (16 : Int32) ≤ (10 : Int32) from (by decide))) (fun c_11 => ?_)
  refine lv_aload_n hx hb dX9_checksum_21 rfl (lv_at hl 3 rfl) ?_
  refine lv_iload hx hb dX9_checksum_22 (lv_at hl 0 rfl) ?_
  refine va_aldq hx hb hK hP 1 0 rfl rfl (vp_in_iff.mpr (by decide)) dX9_checksum_24 ?_
  refine lv_astoreN (lv' := [(6, .null), (5, .int 10), (4, .int 16), (3, .ref q3), (1, .long 0), (0, .ref x)]) hx hb dX9_checksum_25 hl (by decide) rfl (fun ls hl => ?_)
  refine lv_aloadN hx hb dX9_checksum_27 (lv_at hl 0 rfl) ?_
  refine lv_ifnullN (tgt := 65) hx hb dX9_checksum_29 (by decide) ?_
  refine lv_iinc (v := 11) (lv' := [(5, .int 11), (6, .null), (4, .int 16), (3, .ref q3), (1, .long 0), (0, .ref x)]) hx hb dX9_checksum_65 hl (k := 1) rfl (by decide) (by decide) rfl (fun ls hl => ?_)
  refine lv_goto (tgt := 14) hx hb dX9_checksum_68 (by decide) ?_
  refine lv_iload hx hb dX9_checksum_14 (lv_at hl 0 rfl) ?_
  refine lv_iload hx hb dX9_checksum_16 (lv_at hl 2 rfl) ?_
  refine lv_icmp_ge (tgt := 71) hx hb dX9_checksum_18 (by decide) (fun c_12 => absurd c_12 (show ¬ (16 : Int32) ≤ (11 : Int32) from (by decide))) (fun c_12 => ?_)
  refine lv_aload_n hx hb dX9_checksum_21 rfl (lv_at hl 3 rfl) ?_
  refine lv_iload hx hb dX9_checksum_22 (lv_at hl 0 rfl) ?_
  refine va_aldq hx hb hK hP 1 0 rfl rfl (vp_in_iff.mpr (by decide)) dX9_checksum_24 ?_
  refine lv_astoreN (lv' := [(6, .null), (5, .int 11), (4, .int 16), (3, .ref q3), (1, .long 0), (0, .ref x)]) hx hb dX9_checksum_25 hl (by decide) rfl (fun ls hl => ?_)
  refine lv_aloadN hx hb dX9_checksum_27 (lv_at hl 0 rfl) ?_
  refine lv_ifnullN (tgt := 65) hx hb dX9_checksum_29 (by decide) ?_
  refine lv_iinc (v := 12) (lv' := [(5, .int 12), (6, .null), (4, .int 16), (3, .ref q3), (1, .long 0), (0, .ref x)]) hx hb dX9_checksum_65 hl (k := 1) rfl (by decide) (by decide) rfl (fun ls hl => ?_)
  refine lv_goto (tgt := 14) hx hb dX9_checksum_68 (by decide) ?_
  refine lv_iload hx hb dX9_checksum_14 (lv_at hl 0 rfl) ?_
  refine lv_iload hx hb dX9_checksum_16 (lv_at hl 2 rfl) ?_
  refine lv_icmp_ge (tgt := 71) hx hb dX9_checksum_18 (by decide) (fun c_13 => absurd c_13 (show ¬ (16 : Int32) ≤ (12 : Int32) from (by decide))) (fun c_13 => ?_)
  refine lv_aload_n hx hb dX9_checksum_21 rfl (lv_at hl 3 rfl) ?_
  refine lv_iload hx hb dX9_checksum_22 (lv_at hl 0 rfl) ?_
  refine va_aldq hx hb hK hP 1 0 rfl rfl (vp_in_iff.mpr (by decide)) dX9_checksum_24 ?_
  refine lv_astoreN (lv' := [(6, .null), (5, .int 12), (4, .int 16), (3, .ref q3), (1, .long 0), (0, .ref x)]) hx hb dX9_checksum_25 hl (by decide) rfl (fun ls hl => ?_)
  refine lv_aloadN hx hb dX9_checksum_27 (lv_at hl 0 rfl) ?_
  refine lv_ifnullN (tgt := 65) hx hb dX9_checksum_29 (by decide) ?_
  refine lv_iinc (v := 13) (lv' := [(5, .int 13), (6, .null), (4, .int 16), (3, .ref q3), (1, .long 0), (0, .ref x)]) hx hb dX9_checksum_65 hl (k := 1) rfl (by decide) (by decide) rfl (fun ls hl => ?_)
  refine lv_goto (tgt := 14) hx hb dX9_checksum_68 (by decide) ?_
  refine lv_iload hx hb dX9_checksum_14 (lv_at hl 0 rfl) ?_
  refine lv_iload hx hb dX9_checksum_16 (lv_at hl 2 rfl) ?_
  refine lv_icmp_ge (tgt := 71) hx hb dX9_checksum_18 (by decide) (fun c_14 => absurd c_14 (show ¬ (16 : Int32) ≤ (13 : Int32) from (by decide))) (fun c_14 => ?_)
  refine lv_aload_n hx hb dX9_checksum_21 rfl (lv_at hl 3 rfl) ?_
  refine lv_iload hx hb dX9_checksum_22 (lv_at hl 0 rfl) ?_
  refine va_aldq hx hb hK hP 1 0 rfl rfl (vp_in_iff.mpr (by decide)) dX9_checksum_24 ?_
  refine lv_astoreN (lv' := [(6, .null), (5, .int 13), (4, .int 16), (3, .ref q3), (1, .long 0), (0, .ref x)]) hx hb dX9_checksum_25 hl (by decide) rfl (fun ls hl => ?_)
  refine lv_aloadN hx hb dX9_checksum_27 (lv_at hl 0 rfl) ?_
  refine lv_ifnullN (tgt := 65) hx hb dX9_checksum_29 (by decide) ?_
  refine lv_iinc (v := 14) (lv' := [(5, .int 14), (6, .null), (4, .int 16), (3, .ref q3), (1, .long 0), (0, .ref x)]) hx hb dX9_checksum_65 hl (k := 1) rfl (by decide) (by decide) rfl (fun ls hl => ?_)
  refine lv_goto (tgt := 14) hx hb dX9_checksum_68 (by decide) ?_
  refine lv_iload hx hb dX9_checksum_14 (lv_at hl 0 rfl) ?_
  refine lv_iload hx hb dX9_checksum_16 (lv_at hl 2 rfl) ?_
  refine lv_icmp_ge (tgt := 71) hx hb dX9_checksum_18 (by decide) (fun c_15 => absurd c_15 (show ¬ (16 : Int32) ≤ (14 : Int32) from (by decide))) (fun c_15 => ?_)
  refine lv_aload_n hx hb dX9_checksum_21 rfl (lv_at hl 3 rfl) ?_
  refine lv_iload hx hb dX9_checksum_22 (lv_at hl 0 rfl) ?_
  refine va_aldq hx hb hK hP 1 0 rfl rfl (vp_in_iff.mpr (by decide)) dX9_checksum_24 ?_
  refine lv_astoreN (lv' := [(6, .null), (5, .int 14), (4, .int 16), (3, .ref q3), (1, .long 0), (0, .ref x)]) hx hb dX9_checksum_25 hl (by decide) rfl (fun ls hl => ?_)
  refine lv_aloadN hx hb dX9_checksum_27 (lv_at hl 0 rfl) ?_
  refine lv_ifnullN (tgt := 65) hx hb dX9_checksum_29 (by decide) ?_
  refine lv_iinc (v := 15) (lv' := [(5, .int 15), (6, .null), (4, .int 16), (3, .ref q3), (1, .long 0), (0, .ref x)]) hx hb dX9_checksum_65 hl (k := 1) rfl (by decide) (by decide) rfl (fun ls hl => ?_)
  refine lv_goto (tgt := 14) hx hb dX9_checksum_68 (by decide) ?_
  refine lv_iload hx hb dX9_checksum_14 (lv_at hl 0 rfl) ?_
  refine lv_iload hx hb dX9_checksum_16 (lv_at hl 2 rfl) ?_
  refine lv_icmp_ge (tgt := 71) hx hb dX9_checksum_18 (by decide) (fun c_16 => absurd c_16 (show ¬ (16 : Int32) ≤ (15 : Int32) from (by decide))) (fun c_16 => ?_)
  refine lv_aload_n hx hb dX9_checksum_21 rfl (lv_at hl 3 rfl) ?_
  refine lv_iload hx hb dX9_checksum_22 (lv_at hl 0 rfl) ?_
  refine va_aldq hx hb hK hP 1 0 rfl rfl (vp_in_iff.mpr (by decide)) dX9_checksum_24 ?_
  refine lv_astoreN (lv' := [(6, .null), (5, .int 15), (4, .int 16), (3, .ref q3), (1, .long 0), (0, .ref x)]) hx hb dX9_checksum_25 hl (by decide) rfl (fun ls hl => ?_)
  refine lv_aloadN hx hb dX9_checksum_27 (lv_at hl 0 rfl) ?_
  refine lv_ifnullN (tgt := 65) hx hb dX9_checksum_29 (by decide) ?_
  refine lv_iinc (v := 16) (lv' := [(5, .int 16), (6, .null), (4, .int 16), (3, .ref q3), (1, .long 0), (0, .ref x)]) hx hb dX9_checksum_65 hl (k := 1) rfl (by decide) (by decide) rfl (fun ls hl => ?_)
  refine lv_goto (tgt := 14) hx hb dX9_checksum_68 (by decide) ?_
  refine lv_iload hx hb dX9_checksum_14 (lv_at hl 0 rfl) ?_
  refine lv_iload hx hb dX9_checksum_16 (lv_at hl 2 rfl) ?_
  refine lv_icmp_ge (tgt := 71) hx hb dX9_checksum_18 (by decide) (fun c_17 => ?_) (fun c_17 => absurd (show (16 : Int32) ≤ (16 : Int32) from (by decide)) c_17)
  refine lv_lload_n hx hb dX9_checksum_71 rfl (lv_at hl 4 rfl) ?_
  have hP9 := hP.sub (ws' := []) [] rfl
  have hD9 := hD.sub (ws' := []) [] (by decide) rfl
  have hK9 := hK.sub (tys' := []) [] rfl
  exact end_l hx hb hr hlocks hP9 hD9 hK9 hS () rfl rfl rfl (Nat.le_of_ble_eq_true rfl) (Nat.le_of_ble_eq_true rfl) dX9_checksum_72
set_option maxHeartbeats 4000000 in
set_option maxRecDepth 100000 in
/-- isSound on a fresh object -/
theorem c_isSound (l : Launch) (D : va_G) (tC tE sz : Nat) (x q0 q1 q2 q3 q4 q5 q6 : Nat) (k3 : ClassId) : Met l yX9_isSound wsX9_isSound ({ frames := 0, cells := 0, slots := 0, locals := 0 }) (Pg D tC tE sz [(x, .inr (13, [.ref q0, .ref q1, .ref q2, .ref q3, .ref q4, .ref q5, .ref q6, .int 0, .int 0, .int 0, .int 0, .int 0, .int 0, .int 0])), (q3, .inl (k3, 16, .inr (.inr (.inr (.inr (fun _ => none))))))] [(k3, .object "Lastroom$Ticket")] [.ref x]) (Qgi (S := Unit) D (fun u => []) (fun u => []) (fun r _ => r = 1) (va_A [(x, .inr (13, [.ref q0, .ref q1, .ref q2, .ref q3, .ref q4, .ref q5, .ref q6, .int 0, .int 0, .int 0, .int 0, .int 0, .int 0, .int 0])), (q3, .inl (k3, 16, .inr (.inr (.inr (.inr (fun _ => none))))))] sz)) 0 0 (va_A [(x, .inr (13, [.ref q0, .ref q1, .ref q2, .ref q3, .ref q4, .ref q5, .ref q6, .int 0, .int 0, .int 0, .int 0, .int 0, .int 0, .int 0])), (q3, .inl (k3, 16, .inr (.inr (.inr (.inr (fun _ => none))))))] sz) := by
  refine og_m (cc := cX9_isSound) (maxL := 5) (ret := (some .boolean)) (Qc := Qgi (S := Unit) D (fun u => []) (fun u => []) (fun r _ => r = 1)) (by decide) rfl (Nat.le_of_ble_eq_true rfl) ?_
  intro p e s m below meth c A hx hb hr hml hts hown hlocks hin hP hD hK hG hA hS ls hl
  have hl : lv_has ls 5 [(0, .ref x)] := hl
  refine lv_aload_n hx hb dX9_isSound_0 rfl (lv_at hl 0 rfl) ?_
  refine va_get (D := D) (ci := 13) (v := .ref q3) (C := RX9) (T := TX9) (N := 14) hx hb hts (fun w h => List.mem_cons_of_mem _ (List.mem_append_left _ (List.mem_append_left _ (List.mem_append_left _ (List.mem_append_right _ h))))) hown hK hP 0 rfl rfl 3 (by decide) (hts (.fieldLink RX9 29 "Lastroom" "tickets" "[LLastroom$Ticket;") (List.mem_of_getElem? (i := 1) rfl)) (fun _ h9 => h9) rfl dX9_isSound_1 ?_
  refine lv_astore_n (lv' := [(1, .ref q3), (0, .ref x)]) hx hb dX9_isSound_4 rfl hl (by decide) rfl (fun ls hl => ?_)
  refine lv_aload_n hx hb dX9_isSound_5 rfl (lv_at hl 0 rfl) ?_
  refine va_alen hx hb hK hP 1 0 rfl rfl (v := 16) rfl dX9_isSound_6 ?_
  refine lv_istore_n (lv' := [(2, .int 16), (1, .ref q3), (0, .ref x)]) hx hb dX9_isSound_7 rfl hl (by decide) rfl (fun ls hl => ?_)
  refine lv_iconst (v := 0) hx hb dX9_isSound_8 (by decide) ?_
  refine lv_istore_n (lv' := [(3, .int 0), (2, .int 16), (1, .ref q3), (0, .ref x)]) hx hb dX9_isSound_9 rfl hl (by decide) rfl (fun ls hl => ?_)
  refine lv_iload_n hx hb dX9_isSound_10 rfl (lv_at hl 0 rfl) ?_
  refine lv_iload_n hx hb dX9_isSound_11 rfl (lv_at hl 1 rfl) ?_
  refine lv_icmp_ge (tgt := 41) hx hb dX9_isSound_12 (by decide) (fun c_1 => absurd c_1 (show ¬ (16 : Int32) ≤ (0 : Int32) from (by decide))) (fun c_1 => ?_)
  refine lv_aload_n hx hb dX9_isSound_15 rfl (lv_at hl 2 rfl) ?_
  refine lv_iload_n hx hb dX9_isSound_16 rfl (lv_at hl 0 rfl) ?_
  refine va_aldq hx hb hK hP 1 0 rfl rfl (vp_in_iff.mpr (by decide)) dX9_isSound_17 ?_
  refine lv_astoreN (lv' := [(4, .null), (3, .int 0), (2, .int 16), (1, .ref q3), (0, .ref x)]) hx hb dX9_isSound_18 hl (by decide) rfl (fun ls hl => ?_)
  refine lv_aloadN hx hb dX9_isSound_20 (lv_at hl 0 rfl) ?_
  refine lv_ifnullN (tgt := 35) hx hb dX9_isSound_22 (by decide) ?_
  refine lv_iinc (v := 1) (lv' := [(3, .int 1), (4, .null), (2, .int 16), (1, .ref q3), (0, .ref x)]) hx hb dX9_isSound_35 hl (k := 1) rfl (by decide) (by decide) rfl (fun ls hl => ?_)
  refine lv_goto (tgt := 10) hx hb dX9_isSound_38 (by decide) ?_
  refine lv_iload_n hx hb dX9_isSound_10 rfl (lv_at hl 0 rfl) ?_
  refine lv_iload_n hx hb dX9_isSound_11 rfl (lv_at hl 2 rfl) ?_
  refine lv_icmp_ge (tgt := 41) hx hb dX9_isSound_12 (by decide) (fun c_2 => absurd c_2 (show ¬ (16 : Int32) ≤ (1 : Int32) from (by decide))) (fun c_2 => ?_)
  refine lv_aload_n hx hb dX9_isSound_15 rfl (lv_at hl 3 rfl) ?_
  refine lv_iload_n hx hb dX9_isSound_16 rfl (lv_at hl 0 rfl) ?_
  refine va_aldq hx hb hK hP 1 0 rfl rfl (vp_in_iff.mpr (by decide)) dX9_isSound_17 ?_
  refine lv_astoreN (lv' := [(4, .null), (3, .int 1), (2, .int 16), (1, .ref q3), (0, .ref x)]) hx hb dX9_isSound_18 hl (by decide) rfl (fun ls hl => ?_)
  refine lv_aloadN hx hb dX9_isSound_20 (lv_at hl 0 rfl) ?_
  refine lv_ifnullN (tgt := 35) hx hb dX9_isSound_22 (by decide) ?_
  refine lv_iinc (v := 2) (lv' := [(3, .int 2), (4, .null), (2, .int 16), (1, .ref q3), (0, .ref x)]) hx hb dX9_isSound_35 hl (k := 1) rfl (by decide) (by decide) rfl (fun ls hl => ?_)
  refine lv_goto (tgt := 10) hx hb dX9_isSound_38 (by decide) ?_
  refine lv_iload_n hx hb dX9_isSound_10 rfl (lv_at hl 0 rfl) ?_
  refine lv_iload_n hx hb dX9_isSound_11 rfl (lv_at hl 2 rfl) ?_
  refine lv_icmp_ge (tgt := 41) hx hb dX9_isSound_12 (by decide) (fun c_3 => absurd c_3 (show ¬ (16 : Int32) ≤ (2 : Int32) from (by decide))) (fun c_3 => ?_)
  refine lv_aload_n hx hb dX9_isSound_15 rfl (lv_at hl 3 rfl) ?_
  refine lv_iload_n hx hb dX9_isSound_16 rfl (lv_at hl 0 rfl) ?_
  refine va_aldq hx hb hK hP 1 0 rfl rfl (vp_in_iff.mpr (by decide)) dX9_isSound_17 ?_
  refine lv_astoreN (lv' := [(4, .null), (3, .int 2), (2, .int 16), (1, .ref q3), (0, .ref x)]) hx hb dX9_isSound_18 hl (by decide) rfl (fun ls hl => ?_)
  refine lv_aloadN hx hb dX9_isSound_20 (lv_at hl 0 rfl) ?_
  refine lv_ifnullN (tgt := 35) hx hb dX9_isSound_22 (by decide) ?_
  refine lv_iinc (v := 3) (lv' := [(3, .int 3), (4, .null), (2, .int 16), (1, .ref q3), (0, .ref x)]) hx hb dX9_isSound_35 hl (k := 1) rfl (by decide) (by decide) rfl (fun ls hl => ?_)
  refine lv_goto (tgt := 10) hx hb dX9_isSound_38 (by decide) ?_
  refine lv_iload_n hx hb dX9_isSound_10 rfl (lv_at hl 0 rfl) ?_
  refine lv_iload_n hx hb dX9_isSound_11 rfl (lv_at hl 2 rfl) ?_
  refine lv_icmp_ge (tgt := 41) hx hb dX9_isSound_12 (by decide) (fun c_4 => absurd c_4 (show ¬ (16 : Int32) ≤ (3 : Int32) from (by decide))) (fun c_4 => ?_)
  refine lv_aload_n hx hb dX9_isSound_15 rfl (lv_at hl 3 rfl) ?_
  refine lv_iload_n hx hb dX9_isSound_16 rfl (lv_at hl 0 rfl) ?_
  refine va_aldq hx hb hK hP 1 0 rfl rfl (vp_in_iff.mpr (by decide)) dX9_isSound_17 ?_
  refine lv_astoreN (lv' := [(4, .null), (3, .int 3), (2, .int 16), (1, .ref q3), (0, .ref x)]) hx hb dX9_isSound_18 hl (by decide) rfl (fun ls hl => ?_)
  refine lv_aloadN hx hb dX9_isSound_20 (lv_at hl 0 rfl) ?_
  refine lv_ifnullN (tgt := 35) hx hb dX9_isSound_22 (by decide) ?_
  refine lv_iinc (v := 4) (lv' := [(3, .int 4), (4, .null), (2, .int 16), (1, .ref q3), (0, .ref x)]) hx hb dX9_isSound_35 hl (k := 1) rfl (by decide) (by decide) rfl (fun ls hl => ?_)
  refine lv_goto (tgt := 10) hx hb dX9_isSound_38 (by decide) ?_
  refine lv_iload_n hx hb dX9_isSound_10 rfl (lv_at hl 0 rfl) ?_
  refine lv_iload_n hx hb dX9_isSound_11 rfl (lv_at hl 2 rfl) ?_
  refine lv_icmp_ge (tgt := 41) hx hb dX9_isSound_12 (by decide) (fun c_5 => absurd c_5 (show ¬ (16 : Int32) ≤ (4 : Int32) from (by decide))) (fun c_5 => ?_)
  refine lv_aload_n hx hb dX9_isSound_15 rfl (lv_at hl 3 rfl) ?_
  refine lv_iload_n hx hb dX9_isSound_16 rfl (lv_at hl 0 rfl) ?_
  refine va_aldq hx hb hK hP 1 0 rfl rfl (vp_in_iff.mpr (by decide)) dX9_isSound_17 ?_
  refine lv_astoreN (lv' := [(4, .null), (3, .int 4), (2, .int 16), (1, .ref q3), (0, .ref x)]) hx hb dX9_isSound_18 hl (by decide) rfl (fun ls hl => ?_)
  refine lv_aloadN hx hb dX9_isSound_20 (lv_at hl 0 rfl) ?_
  refine lv_ifnullN (tgt := 35) hx hb dX9_isSound_22 (by decide) ?_
  refine lv_iinc (v := 5) (lv' := [(3, .int 5), (4, .null), (2, .int 16), (1, .ref q3), (0, .ref x)]) hx hb dX9_isSound_35 hl (k := 1) rfl (by decide) (by decide) rfl (fun ls hl => ?_)
  refine lv_goto (tgt := 10) hx hb dX9_isSound_38 (by decide) ?_
  refine lv_iload_n hx hb dX9_isSound_10 rfl (lv_at hl 0 rfl) ?_
  refine lv_iload_n hx hb dX9_isSound_11 rfl (lv_at hl 2 rfl) ?_
  refine lv_icmp_ge (tgt := 41) hx hb dX9_isSound_12 (by decide) (fun c_6 => absurd c_6 (show ¬ (16 : Int32) ≤ (5 : Int32) from (by decide))) (fun c_6 => ?_)
  refine lv_aload_n hx hb dX9_isSound_15 rfl (lv_at hl 3 rfl) ?_
  refine lv_iload_n hx hb dX9_isSound_16 rfl (lv_at hl 0 rfl) ?_
  refine va_aldq hx hb hK hP 1 0 rfl rfl (vp_in_iff.mpr (by decide)) dX9_isSound_17 ?_
  refine lv_astoreN (lv' := [(4, .null), (3, .int 5), (2, .int 16), (1, .ref q3), (0, .ref x)]) hx hb dX9_isSound_18 hl (by decide) rfl (fun ls hl => ?_)
  refine lv_aloadN hx hb dX9_isSound_20 (lv_at hl 0 rfl) ?_
  refine lv_ifnullN (tgt := 35) hx hb dX9_isSound_22 (by decide) ?_
  refine lv_iinc (v := 6) (lv' := [(3, .int 6), (4, .null), (2, .int 16), (1, .ref q3), (0, .ref x)]) hx hb dX9_isSound_35 hl (k := 1) rfl (by decide) (by decide) rfl (fun ls hl => ?_)
  refine lv_goto (tgt := 10) hx hb dX9_isSound_38 (by decide) ?_
  refine lv_iload_n hx hb dX9_isSound_10 rfl (lv_at hl 0 rfl) ?_
  refine lv_iload_n hx hb dX9_isSound_11 rfl (lv_at hl 2 rfl) ?_
  refine lv_icmp_ge (tgt := 41) hx hb dX9_isSound_12 (by decide) (fun c_7 => absurd c_7 (show ¬ (16 : Int32) ≤ (6 : Int32) from (by decide))) (fun c_7 => ?_)
  refine lv_aload_n hx hb dX9_isSound_15 rfl (lv_at hl 3 rfl) ?_
  refine lv_iload_n hx hb dX9_isSound_16 rfl (lv_at hl 0 rfl) ?_
  refine va_aldq hx hb hK hP 1 0 rfl rfl (vp_in_iff.mpr (by decide)) dX9_isSound_17 ?_
  refine lv_astoreN (lv' := [(4, .null), (3, .int 6), (2, .int 16), (1, .ref q3), (0, .ref x)]) hx hb dX9_isSound_18 hl (by decide) rfl (fun ls hl => ?_)
  refine lv_aloadN hx hb dX9_isSound_20 (lv_at hl 0 rfl) ?_
  refine lv_ifnullN (tgt := 35) hx hb dX9_isSound_22 (by decide) ?_
  refine lv_iinc (v := 7) (lv' := [(3, .int 7), (4, .null), (2, .int 16), (1, .ref q3), (0, .ref x)]) hx hb dX9_isSound_35 hl (k := 1) rfl (by decide) (by decide) rfl (fun ls hl => ?_)
  refine lv_goto (tgt := 10) hx hb dX9_isSound_38 (by decide) ?_
  refine lv_iload_n hx hb dX9_isSound_10 rfl (lv_at hl 0 rfl) ?_
  refine lv_iload_n hx hb dX9_isSound_11 rfl (lv_at hl 2 rfl) ?_
  refine lv_icmp_ge (tgt := 41) hx hb dX9_isSound_12 (by decide) (fun c_8 => absurd c_8 (show ¬ (16 : Int32) ≤ (7 : Int32) from (by decide))) (fun c_8 => ?_)
  refine lv_aload_n hx hb dX9_isSound_15 rfl (lv_at hl 3 rfl) ?_
  refine lv_iload_n hx hb dX9_isSound_16 rfl (lv_at hl 0 rfl) ?_
  refine va_aldq hx hb hK hP 1 0 rfl rfl (vp_in_iff.mpr (by decide)) dX9_isSound_17 ?_
  refine lv_astoreN (lv' := [(4, .null), (3, .int 7), (2, .int 16), (1, .ref q3), (0, .ref x)]) hx hb dX9_isSound_18 hl (by decide) rfl (fun ls hl => ?_)
  refine lv_aloadN hx hb dX9_isSound_20 (lv_at hl 0 rfl) ?_
  refine lv_ifnullN (tgt := 35) hx hb dX9_isSound_22 (by decide) ?_
  refine lv_iinc (v := 8) (lv' := [(3, .int 8), (4, .null), (2, .int 16), (1, .ref q3), (0, .ref x)]) hx hb dX9_isSound_35 hl (k := 1) rfl (by decide) (by decide) rfl (fun ls hl => ?_)
  refine lv_goto (tgt := 10) hx hb dX9_isSound_38 (by decide) ?_
  refine lv_iload_n hx hb dX9_isSound_10 rfl (lv_at hl 0 rfl) ?_
  refine lv_iload_n hx hb dX9_isSound_11 rfl (lv_at hl 2 rfl) ?_
  refine lv_icmp_ge (tgt := 41) hx hb dX9_isSound_12 (by decide) (fun c_9 => absurd c_9 (show ¬ (16 : Int32) ≤ (8 : Int32) from (by decide))) (fun c_9 => ?_)
  refine lv_aload_n hx hb dX9_isSound_15 rfl (lv_at hl 3 rfl) ?_
  refine lv_iload_n hx hb dX9_isSound_16 rfl (lv_at hl 0 rfl) ?_
  refine va_aldq hx hb hK hP 1 0 rfl rfl (vp_in_iff.mpr (by decide)) dX9_isSound_17 ?_
  refine lv_astoreN (lv' := [(4, .null), (3, .int 8), (2, .int 16), (1, .ref q3), (0, .ref x)]) hx hb dX9_isSound_18 hl (by decide) rfl (fun ls hl => ?_)
  refine lv_aloadN hx hb dX9_isSound_20 (lv_at hl 0 rfl) ?_
  refine lv_ifnullN (tgt := 35) hx hb dX9_isSound_22 (by decide) ?_
  refine lv_iinc (v := 9) (lv' := [(3, .int 9), (4, .null), (2, .int 16), (1, .ref q3), (0, .ref x)]) hx hb dX9_isSound_35 hl (k := 1) rfl (by decide) (by decide) rfl (fun ls hl => ?_)
  refine lv_goto (tgt := 10) hx hb dX9_isSound_38 (by decide) ?_
  refine lv_iload_n hx hb dX9_isSound_10 rfl (lv_at hl 0 rfl) ?_
  refine lv_iload_n hx hb dX9_isSound_11 rfl (lv_at hl 2 rfl) ?_
  refine lv_icmp_ge (tgt := 41) hx hb dX9_isSound_12 (by decide) (fun c_10 => absurd c_10 (show ¬ (16 : Int32) ≤ (9 : Int32) from (by decide))) (fun c_10 => ?_)
  refine lv_aload_n hx hb dX9_isSound_15 rfl (lv_at hl 3 rfl) ?_
  refine lv_iload_n hx hb dX9_isSound_16 rfl (lv_at hl 0 rfl) ?_
  refine va_aldq hx hb hK hP 1 0 rfl rfl (vp_in_iff.mpr (by decide)) dX9_isSound_17 ?_
  refine lv_astoreN (lv' := [(4, .null), (3, .int 9), (2, .int 16), (1, .ref q3), (0, .ref x)]) hx hb dX9_isSound_18 hl (by decide) rfl (fun ls hl => ?_)
  refine lv_aloadN hx hb dX9_isSound_20 (lv_at hl 0 rfl) ?_
  refine lv_ifnullN (tgt := 35) hx hb dX9_isSound_22 (by decide) ?_
  refine lv_iinc (v := 10) (lv' := [(3, .int 10), (4, .null), (2, .int 16), (1, .ref q3), (0, .ref x)]) hx hb dX9_isSound_35 hl (k := 1) rfl (by decide) (by decide) rfl (fun ls hl => ?_)
  refine lv_goto (tgt := 10) hx hb dX9_isSound_38 (by decide) ?_
  refine lv_iload_n hx hb dX9_isSound_10 rfl (lv_at hl 0 rfl) ?_
  refine lv_iload_n hx hb dX9_isSound_11 rfl (lv_at hl 2 rfl) ?_
  refine lv_icmp_ge (tgt := 41) hx hb dX9_isSound_12 (by decide) (fun c_11 => absurd c_11 (show ¬ (16 : Int32) ≤ (10 : Int32) from (by decide))) (fun c_11 => ?_)
  refine lv_aload_n hx hb dX9_isSound_15 rfl (lv_at hl 3 rfl) ?_
  refine lv_iload_n hx hb dX9_isSound_16 rfl (lv_at hl 0 rfl) ?_
  refine va_aldq hx hb hK hP 1 0 rfl rfl (vp_in_iff.mpr (by decide)) dX9_isSound_17 ?_
  refine lv_astoreN (lv' := [(4, .null), (3, .int 10), (2, .int 16), (1, .ref q3), (0, .ref x)]) hx hb dX9_isSound_18 hl (by decide) rfl (fun ls hl => ?_)
  refine lv_aloadN hx hb dX9_isSound_20 (lv_at hl 0 rfl) ?_
  refine lv_ifnullN (tgt := 35) hx hb dX9_isSound_22 (by decide) ?_
  refine lv_iinc (v := 11) (lv' := [(3, .int 11), (4, .null), (2, .int 16), (1, .ref q3), (0, .ref x)]) hx hb dX9_isSound_35 hl (k := 1) rfl (by decide) (by decide) rfl (fun ls hl => ?_)
  refine lv_goto (tgt := 10) hx hb dX9_isSound_38 (by decide) ?_
  refine lv_iload_n hx hb dX9_isSound_10 rfl (lv_at hl 0 rfl) ?_
  refine lv_iload_n hx hb dX9_isSound_11 rfl (lv_at hl 2 rfl) ?_
  refine lv_icmp_ge (tgt := 41) hx hb dX9_isSound_12 (by decide) (fun c_12 => absurd c_12 (show ¬ (16 : Int32) ≤ (11 : Int32) from (by decide))) (fun c_12 => ?_)
  refine lv_aload_n hx hb dX9_isSound_15 rfl (lv_at hl 3 rfl) ?_
  refine lv_iload_n hx hb dX9_isSound_16 rfl (lv_at hl 0 rfl) ?_
  refine va_aldq hx hb hK hP 1 0 rfl rfl (vp_in_iff.mpr (by decide)) dX9_isSound_17 ?_
  refine lv_astoreN (lv' := [(4, .null), (3, .int 11), (2, .int 16), (1, .ref q3), (0, .ref x)]) hx hb dX9_isSound_18 hl (by decide) rfl (fun ls hl => ?_)
  refine lv_aloadN hx hb dX9_isSound_20 (lv_at hl 0 rfl) ?_
  refine lv_ifnullN (tgt := 35) hx hb dX9_isSound_22 (by decide) ?_
  refine lv_iinc (v := 12) (lv' := [(3, .int 12), (4, .null), (2, .int 16), (1, .ref q3), (0, .ref x)]) hx hb dX9_isSound_35 hl (k := 1) rfl (by decide) (by decide) rfl (fun ls hl => ?_)
  refine lv_goto (tgt := 10) hx hb dX9_isSound_38 (by decide) ?_
  refine lv_iload_n hx hb dX9_isSound_10 rfl (lv_at hl 0 rfl) ?_
  refine lv_iload_n hx hb dX9_isSound_11 rfl (lv_at hl 2 rfl) ?_
  refine lv_icmp_ge (tgt := 41) hx hb dX9_isSound_12 (by decide) (fun c_13 => absurd c_13 (show ¬ (16 : Int32) ≤ (12 : Int32) from (by decide))) (fun c_13 => ?_)
  refine lv_aload_n hx hb dX9_isSound_15 rfl (lv_at hl 3 rfl) ?_
  refine lv_iload_n hx hb dX9_isSound_16 rfl (lv_at hl 0 rfl) ?_
  refine va_aldq hx hb hK hP 1 0 rfl rfl (vp_in_iff.mpr (by decide)) dX9_isSound_17 ?_
  refine lv_astoreN (lv' := [(4, .null), (3, .int 12), (2, .int 16), (1, .ref q3), (0, .ref x)]) hx hb dX9_isSound_18 hl (by decide) rfl (fun ls hl => ?_)
  refine lv_aloadN hx hb dX9_isSound_20 (lv_at hl 0 rfl) ?_
  refine lv_ifnullN (tgt := 35) hx hb dX9_isSound_22 (by decide) ?_
  refine lv_iinc (v := 13) (lv' := [(3, .int 13), (4, .null), (2, .int 16), (1, .ref q3), (0, .ref x)]) hx hb dX9_isSound_35 hl (k := 1) rfl (by decide) (by decide) rfl (fun ls hl => ?_)
  refine lv_goto (tgt := 10) hx hb dX9_isSound_38 (by decide) ?_
  refine lv_iload_n hx hb dX9_isSound_10 rfl (lv_at hl 0 rfl) ?_
  refine lv_iload_n hx hb dX9_isSound_11 rfl (lv_at hl 2 rfl) ?_
  refine lv_icmp_ge (tgt := 41) hx hb dX9_isSound_12 (by decide) (fun c_14 => absurd c_14 (show ¬ (16 : Int32) ≤ (13 : Int32) from (by decide))) (fun c_14 => ?_)
  refine lv_aload_n hx hb dX9_isSound_15 rfl (lv_at hl 3 rfl) ?_
  refine lv_iload_n hx hb dX9_isSound_16 rfl (lv_at hl 0 rfl) ?_
  refine va_aldq hx hb hK hP 1 0 rfl rfl (vp_in_iff.mpr (by decide)) dX9_isSound_17 ?_
  refine lv_astoreN (lv' := [(4, .null), (3, .int 13), (2, .int 16), (1, .ref q3), (0, .ref x)]) hx hb dX9_isSound_18 hl (by decide) rfl (fun ls hl => ?_)
  refine lv_aloadN hx hb dX9_isSound_20 (lv_at hl 0 rfl) ?_
  refine lv_ifnullN (tgt := 35) hx hb dX9_isSound_22 (by decide) ?_
  refine lv_iinc (v := 14) (lv' := [(3, .int 14), (4, .null), (2, .int 16), (1, .ref q3), (0, .ref x)]) hx hb dX9_isSound_35 hl (k := 1) rfl (by decide) (by decide) rfl (fun ls hl => ?_)
  refine lv_goto (tgt := 10) hx hb dX9_isSound_38 (by decide) ?_
  refine lv_iload_n hx hb dX9_isSound_10 rfl (lv_at hl 0 rfl) ?_
  refine lv_iload_n hx hb dX9_isSound_11 rfl (lv_at hl 2 rfl) ?_
  refine lv_icmp_ge (tgt := 41) hx hb dX9_isSound_12 (by decide) (fun c_15 => absurd c_15 (show ¬ (16 : Int32) ≤ (14 : Int32) from (by decide))) (fun c_15 => ?_)
  refine lv_aload_n hx hb dX9_isSound_15 rfl (lv_at hl 3 rfl) ?_
  refine lv_iload_n hx hb dX9_isSound_16 rfl (lv_at hl 0 rfl) ?_
  refine va_aldq hx hb hK hP 1 0 rfl rfl (vp_in_iff.mpr (by decide)) dX9_isSound_17 ?_
  refine lv_astoreN (lv' := [(4, .null), (3, .int 14), (2, .int 16), (1, .ref q3), (0, .ref x)]) hx hb dX9_isSound_18 hl (by decide) rfl (fun ls hl => ?_)
  refine lv_aloadN hx hb dX9_isSound_20 (lv_at hl 0 rfl) ?_
  refine lv_ifnullN (tgt := 35) hx hb dX9_isSound_22 (by decide) ?_
  refine lv_iinc (v := 15) (lv' := [(3, .int 15), (4, .null), (2, .int 16), (1, .ref q3), (0, .ref x)]) hx hb dX9_isSound_35 hl (k := 1) rfl (by decide) (by decide) rfl (fun ls hl => ?_)
  refine lv_goto (tgt := 10) hx hb dX9_isSound_38 (by decide) ?_
  refine lv_iload_n hx hb dX9_isSound_10 rfl (lv_at hl 0 rfl) ?_
  refine lv_iload_n hx hb dX9_isSound_11 rfl (lv_at hl 2 rfl) ?_
  refine lv_icmp_ge (tgt := 41) hx hb dX9_isSound_12 (by decide) (fun c_16 => absurd c_16 (show ¬ (16 : Int32) ≤ (15 : Int32) from (by decide))) (fun c_16 => ?_)
  refine lv_aload_n hx hb dX9_isSound_15 rfl (lv_at hl 3 rfl) ?_
  refine lv_iload_n hx hb dX9_isSound_16 rfl (lv_at hl 0 rfl) ?_
  refine va_aldq hx hb hK hP 1 0 rfl rfl (vp_in_iff.mpr (by decide)) dX9_isSound_17 ?_
  refine lv_astoreN (lv' := [(4, .null), (3, .int 15), (2, .int 16), (1, .ref q3), (0, .ref x)]) hx hb dX9_isSound_18 hl (by decide) rfl (fun ls hl => ?_)
  refine lv_aloadN hx hb dX9_isSound_20 (lv_at hl 0 rfl) ?_
  refine lv_ifnullN (tgt := 35) hx hb dX9_isSound_22 (by decide) ?_
  refine lv_iinc (v := 16) (lv' := [(3, .int 16), (4, .null), (2, .int 16), (1, .ref q3), (0, .ref x)]) hx hb dX9_isSound_35 hl (k := 1) rfl (by decide) (by decide) rfl (fun ls hl => ?_)
  refine lv_goto (tgt := 10) hx hb dX9_isSound_38 (by decide) ?_
  refine lv_iload_n hx hb dX9_isSound_10 rfl (lv_at hl 0 rfl) ?_
  refine lv_iload_n hx hb dX9_isSound_11 rfl (lv_at hl 2 rfl) ?_
  refine lv_icmp_ge (tgt := 41) hx hb dX9_isSound_12 (by decide) (fun c_17 => ?_) (fun c_17 => absurd (show (16 : Int32) ≤ (16 : Int32) from (by decide)) c_17)
  refine lv_iconst (v := 1) hx hb dX9_isSound_41 (by decide) ?_
  have hP9 := hP.sub (ws' := []) [] rfl
  have hD9 := hD.sub (ws' := []) [] (by decide) rfl
  have hK9 := hK.sub (tys' := []) [] rfl
  exact end_z hx hb hr hlocks (by decide) hP9 hD9 hK9 hS () rfl rfl rfl (Nat.le_of_ble_eq_true rfl) (Nat.le_of_ble_eq_true rfl) dX9_isSound_42

-- ===== printed names =====
theorem dL_length_0 : decode cL_length 0 = .ok (.aload_n 3, 1) := by decide +kernel
theorem dL_length_1 : decode cL_length 1 = .ok (.iconst 0, 1) := by decide +kernel
theorem dL_length_2 : decode cL_length 2 = .ok (.aload_n 0, 1) := by decide +kernel
theorem dL_length_3 : decode cL_length 3 = .ok (.iload_n 1, 1) := by decide +kernel
theorem dL_length_4 : decode cL_length 4 = .ok (.iload_n 2, 1) := by decide +kernel
theorem dL_length_5 : decode cL_length 5 = .ok (.invokevirtual 7, 3) := by decide +kernel
theorem dL_length_8 : decode cL_length 8 = .ok (.i2l, 1) := by decide +kernel
theorem dL_length_9 : decode cL_length 9 = .ok (.lastore, 1) := by decide +kernel
theorem dL_length_10 : decode cL_length 10 = .ok (.goto 7, 3) := by decide +kernel
theorem dL_length_13 : decode cL_length 13 = .ok (.astore 4, 2) := by decide +kernel
theorem dL_length_15 : decode cL_length 15 = .ok (.iconst 1, 1) := by decide +kernel
theorem dL_length_16 : decode cL_length 16 = .ok (.ireturn, 1) := by decide +kernel
theorem dL_length_17 : decode cL_length 17 = .ok (.iconst 0, 1) := by decide +kernel
theorem dL_length_18 : decode cL_length 18 = .ok (.ireturn, 1) := by decide +kernel
theorem dL_convert_0 : decode cL_convert 0 = .ok (.aload 4, 2) := by decide +kernel
theorem dL_convert_2 : decode cL_convert 2 = .ok (.iconst 0, 1) := by decide +kernel
theorem dL_convert_3 : decode cL_convert 3 = .ok (.aload_n 0, 1) := by decide +kernel
theorem dL_convert_4 : decode cL_convert 4 = .ok (.iload_n 1, 1) := by decide +kernel
theorem dL_convert_5 : decode cL_convert 5 = .ok (.iload_n 2, 1) := by decide +kernel
theorem dL_convert_6 : decode cL_convert 6 = .ok (.iload_n 3, 1) := by decide +kernel
theorem dL_convert_7 : decode cL_convert 7 = .ok (.invokevirtual 15, 3) := by decide +kernel
theorem dL_convert_10 : decode cL_convert 10 = .ok (.i2l, 1) := by decide +kernel
theorem dL_convert_11 : decode cL_convert 11 = .ok (.lastore, 1) := by decide +kernel
theorem dL_convert_12 : decode cL_convert 12 = .ok (.goto 7, 3) := by decide +kernel
theorem dL_convert_15 : decode cL_convert 15 = .ok (.astore 5, 2) := by decide +kernel
theorem dL_convert_17 : decode cL_convert 17 = .ok (.iconst 1, 1) := by decide +kernel
theorem dL_convert_18 : decode cL_convert 18 = .ok (.ireturn, 1) := by decide +kernel
theorem dL_convert_19 : decode cL_convert 19 = .ok (.iconst 0, 1) := by decide +kernel
theorem dL_convert_20 : decode cL_convert 20 = .ok (.ireturn, 1) := by decide +kernel
theorem dL_model_0 : decode cL_model 0 = .ok (.aload_n 3, 1) := by decide +kernel
theorem dL_model_1 : decode cL_model 1 = .ok (.iconst 0, 1) := by decide +kernel
theorem dL_model_2 : decode cL_model 2 = .ok (.aload_n 0, 1) := by decide +kernel
theorem dL_model_3 : decode cL_model 3 = .ok (.iload_n 1, 1) := by decide +kernel
theorem dL_model_4 : decode cL_model 4 = .ok (.iload_n 2, 1) := by decide +kernel
theorem dL_model_5 : decode cL_model 5 = .ok (.invokevirtual 19, 3) := by decide +kernel
theorem dL_model_8 : decode cL_model 8 = .ok (.i2l, 1) := by decide +kernel
theorem dL_model_9 : decode cL_model 9 = .ok (.lastore, 1) := by decide +kernel
theorem dL_model_10 : decode cL_model 10 = .ok (.goto 11, 3) := by decide +kernel
theorem dL_model_13 : decode cL_model 13 = .ok (.astore 4, 2) := by decide +kernel
theorem dL_model_15 : decode cL_model 15 = .ok (.iconst 1, 1) := by decide +kernel
theorem dL_model_16 : decode cL_model 16 = .ok (.ireturn, 1) := by decide +kernel
theorem dL_model_21 : decode cL_model 21 = .ok (.iconst 0, 1) := by decide +kernel
theorem dL_model_22 : decode cL_model 22 = .ok (.ireturn, 1) := by decide +kernel
theorem dL_girth_0 : decode cL_girth 0 = .ok (.aload_n 3, 1) := by decide +kernel
theorem dL_girth_1 : decode cL_girth 1 = .ok (.iconst 0, 1) := by decide +kernel
theorem dL_girth_2 : decode cL_girth 2 = .ok (.aload_n 0, 1) := by decide +kernel
theorem dL_girth_3 : decode cL_girth 3 = .ok (.iload_n 1, 1) := by decide +kernel
theorem dL_girth_4 : decode cL_girth 4 = .ok (.iload_n 2, 1) := by decide +kernel
theorem dL_girth_5 : decode cL_girth 5 = .ok (.invokevirtual 25, 3) := by decide +kernel
theorem dL_girth_13 : decode cL_girth 13 = .ok (.astore 4, 2) := by decide +kernel
theorem dL_girth_15 : decode cL_girth 15 = .ok (.iconst 1, 1) := by decide +kernel
theorem dL_girth_16 : decode cL_girth 16 = .ok (.ireturn, 1) := by decide +kernel
theorem dL_setLasts_0 : decode cL_setLasts 0 = .ok (.aload 4, 2) := by decide +kernel
theorem dL_setLasts_2 : decode cL_setLasts 2 = .ok (.iconst 0, 1) := by decide +kernel
theorem dL_setLasts_3 : decode cL_setLasts 3 = .ok (.aload_n 0, 1) := by decide +kernel
theorem dL_setLasts_4 : decode cL_setLasts 4 = .ok (.iload_n 1, 1) := by decide +kernel
theorem dL_setLasts_5 : decode cL_setLasts 5 = .ok (.iload_n 2, 1) := by decide +kernel
theorem dL_setLasts_6 : decode cL_setLasts 6 = .ok (.iload_n 3, 1) := by decide +kernel
theorem dL_setLasts_7 : decode cL_setLasts 7 = .ok (.invokevirtual 30, 3) := by decide +kernel
theorem dL_setLasts_15 : decode cL_setLasts 15 = .ok (.astore 5, 2) := by decide +kernel
theorem dL_setLasts_17 : decode cL_setLasts 17 = .ok (.iconst 1, 1) := by decide +kernel
theorem dL_setLasts_18 : decode cL_setLasts 18 = .ok (.ireturn, 1) := by decide +kernel
theorem dL_freeLasts_0 : decode cL_freeLasts 0 = .ok (.aload_n 3, 1) := by decide +kernel
theorem dL_freeLasts_1 : decode cL_freeLasts 1 = .ok (.iconst 0, 1) := by decide +kernel
theorem dL_freeLasts_2 : decode cL_freeLasts 2 = .ok (.aload_n 0, 1) := by decide +kernel
theorem dL_freeLasts_3 : decode cL_freeLasts 3 = .ok (.iload_n 1, 1) := by decide +kernel
theorem dL_freeLasts_4 : decode cL_freeLasts 4 = .ok (.iload_n 2, 1) := by decide +kernel
theorem dL_freeLasts_5 : decode cL_freeLasts 5 = .ok (.invokevirtual 36, 3) := by decide +kernel
theorem dL_freeLasts_13 : decode cL_freeLasts 13 = .ok (.astore 4, 2) := by decide +kernel
theorem dL_freeLasts_15 : decode cL_freeLasts 15 = .ok (.iconst 1, 1) := by decide +kernel
theorem dL_freeLasts_16 : decode cL_freeLasts 16 = .ok (.ireturn, 1) := by decide +kernel
theorem dL_missingLasts_0 : decode cL_missingLasts 0 = .ok (.aload_n 3, 1) := by decide +kernel
theorem dL_missingLasts_1 : decode cL_missingLasts 1 = .ok (.iconst 0, 1) := by decide +kernel
theorem dL_missingLasts_2 : decode cL_missingLasts 2 = .ok (.aload_n 0, 1) := by decide +kernel
theorem dL_missingLasts_3 : decode cL_missingLasts 3 = .ok (.iload_n 1, 1) := by decide +kernel
theorem dL_missingLasts_4 : decode cL_missingLasts 4 = .ok (.iload_n 2, 1) := by decide +kernel
theorem dL_missingLasts_5 : decode cL_missingLasts 5 = .ok (.invokevirtual 39, 3) := by decide +kernel
theorem dL_missingLasts_13 : decode cL_missingLasts 13 = .ok (.astore 4, 2) := by decide +kernel
theorem dL_missingLasts_15 : decode cL_missingLasts 15 = .ok (.iconst 1, 1) := by decide +kernel
theorem dL_missingLasts_16 : decode cL_missingLasts 16 = .ok (.ireturn, 1) := by decide +kernel
theorem dL_misfit_0 : decode cL_misfit 0 = .ok (.aload 5, 2) := by decide +kernel
theorem dL_misfit_2 : decode cL_misfit 2 = .ok (.iconst 0, 1) := by decide +kernel
theorem dL_misfit_3 : decode cL_misfit 3 = .ok (.aload_n 0, 1) := by decide +kernel
theorem dL_misfit_4 : decode cL_misfit 4 = .ok (.iload_n 1, 1) := by decide +kernel
theorem dL_misfit_5 : decode cL_misfit 5 = .ok (.iload_n 2, 1) := by decide +kernel
theorem dL_misfit_6 : decode cL_misfit 6 = .ok (.iload_n 3, 1) := by decide +kernel
theorem dL_misfit_7 : decode cL_misfit 7 = .ok (.iload 4, 2) := by decide +kernel
theorem dL_misfit_9 : decode cL_misfit 9 = .ok (.invokevirtual 42, 3) := by decide +kernel
theorem dL_misfit_17 : decode cL_misfit 17 = .ok (.astore 6, 2) := by decide +kernel
theorem dL_misfit_19 : decode cL_misfit 19 = .ok (.iconst 1, 1) := by decide +kernel
theorem dL_misfit_20 : decode cL_misfit 20 = .ok (.ireturn, 1) := by decide +kernel
theorem dL_misfit_21 : decode cL_misfit 21 = .ok (.astore 6, 2) := by decide +kernel
theorem dL_misfit_23 : decode cL_misfit 23 = .ok (.iconst 2, 1) := by decide +kernel
theorem dL_misfit_24 : decode cL_misfit 24 = .ok (.ireturn, 1) := by decide +kernel
theorem dL_bestModel_0 : decode cL_bestModel 0 = .ok (.aload_n 3, 1) := by decide +kernel
theorem dL_bestModel_1 : decode cL_bestModel 1 = .ok (.iconst 0, 1) := by decide +kernel
theorem dL_bestModel_2 : decode cL_bestModel 2 = .ok (.aload_n 0, 1) := by decide +kernel
theorem dL_bestModel_3 : decode cL_bestModel 3 = .ok (.iload_n 1, 1) := by decide +kernel
theorem dL_bestModel_4 : decode cL_bestModel 4 = .ok (.iload_n 2, 1) := by decide +kernel
theorem dL_bestModel_5 : decode cL_bestModel 5 = .ok (.invokevirtual 46, 3) := by decide +kernel
theorem dL_bestModel_13 : decode cL_bestModel 13 = .ok (.astore 4, 2) := by decide +kernel
theorem dL_bestModel_15 : decode cL_bestModel 15 = .ok (.iconst 1, 1) := by decide +kernel
theorem dL_bestModel_16 : decode cL_bestModel 16 = .ok (.ireturn, 1) := by decide +kernel
theorem dL_bestModel_17 : decode cL_bestModel 17 = .ok (.astore 4, 2) := by decide +kernel
theorem dL_bestModel_19 : decode cL_bestModel 19 = .ok (.iconst 2, 1) := by decide +kernel
theorem dL_bestModel_20 : decode cL_bestModel 20 = .ok (.ireturn, 1) := by decide +kernel
theorem dL_bestSize_0 : decode cL_bestSize 0 = .ok (.aload 4, 2) := by decide +kernel
theorem dL_bestSize_2 : decode cL_bestSize 2 = .ok (.iconst 0, 1) := by decide +kernel
theorem dL_bestSize_3 : decode cL_bestSize 3 = .ok (.aload_n 0, 1) := by decide +kernel
theorem dL_bestSize_4 : decode cL_bestSize 4 = .ok (.iload_n 1, 1) := by decide +kernel
theorem dL_bestSize_5 : decode cL_bestSize 5 = .ok (.iload_n 2, 1) := by decide +kernel
theorem dL_bestSize_6 : decode cL_bestSize 6 = .ok (.iload_n 3, 1) := by decide +kernel
theorem dL_bestSize_7 : decode cL_bestSize 7 = .ok (.invokevirtual 51, 3) := by decide +kernel
theorem dL_bestSize_15 : decode cL_bestSize 15 = .ok (.astore 5, 2) := by decide +kernel
theorem dL_bestSize_17 : decode cL_bestSize 17 = .ok (.iconst 1, 1) := by decide +kernel
theorem dL_bestSize_18 : decode cL_bestSize 18 = .ok (.ireturn, 1) := by decide +kernel
theorem dL_bestSize_19 : decode cL_bestSize 19 = .ok (.astore 5, 2) := by decide +kernel
theorem dL_bestSize_21 : decode cL_bestSize 21 = .ok (.iconst 2, 1) := by decide +kernel
theorem dL_bestSize_22 : decode cL_bestSize 22 = .ok (.ireturn, 1) := by decide +kernel
theorem dL_style_0 : decode cL_style 0 = .ok (.aload 5, 2) := by decide +kernel
theorem dL_style_2 : decode cL_style 2 = .ok (.iconst 0, 1) := by decide +kernel
theorem dL_style_3 : decode cL_style 3 = .ok (.aload_n 0, 1) := by decide +kernel
theorem dL_style_4 : decode cL_style 4 = .ok (.iload_n 1, 1) := by decide +kernel
theorem dL_style_5 : decode cL_style 5 = .ok (.iload_n 2, 1) := by decide +kernel
theorem dL_style_6 : decode cL_style 6 = .ok (.iload_n 3, 1) := by decide +kernel
theorem dL_style_7 : decode cL_style 7 = .ok (.iload 4, 2) := by decide +kernel
theorem dL_style_9 : decode cL_style 9 = .ok (.invokevirtual 54, 3) := by decide +kernel
theorem dL_style_17 : decode cL_style 17 = .ok (.astore 6, 2) := by decide +kernel
theorem dL_style_19 : decode cL_style 19 = .ok (.iconst 1, 1) := by decide +kernel
theorem dL_style_20 : decode cL_style 20 = .ok (.ireturn, 1) := by decide +kernel
theorem dL_piece_0 : decode cL_piece 0 = .ok (.aload 7, 2) := by decide +kernel
theorem dL_piece_2 : decode cL_piece 2 = .ok (.iconst 0, 1) := by decide +kernel
theorem dL_piece_3 : decode cL_piece 3 = .ok (.aload_n 0, 1) := by decide +kernel
theorem dL_piece_4 : decode cL_piece 4 = .ok (.iload_n 1, 1) := by decide +kernel
theorem dL_piece_5 : decode cL_piece 5 = .ok (.iload_n 2, 1) := by decide +kernel
theorem dL_piece_6 : decode cL_piece 6 = .ok (.iload_n 3, 1) := by decide +kernel
theorem dL_piece_7 : decode cL_piece 7 = .ok (.iload 4, 2) := by decide +kernel
theorem dL_piece_9 : decode cL_piece 9 = .ok (.iload 5, 2) := by decide +kernel
theorem dL_piece_11 : decode cL_piece 11 = .ok (.iload 6, 2) := by decide +kernel
theorem dL_piece_13 : decode cL_piece 13 = .ok (.invokevirtual 58, 3) := by decide +kernel
theorem dL_piece_21 : decode cL_piece 21 = .ok (.astore 8, 2) := by decide +kernel
theorem dL_piece_23 : decode cL_piece 23 = .ok (.iconst 1, 1) := by decide +kernel
theorem dL_piece_24 : decode cL_piece 24 = .ok (.ireturn, 1) := by decide +kernel
theorem dL_seam_0 : decode cL_seam 0 = .ok (.aload 5, 2) := by decide +kernel
theorem dL_seam_2 : decode cL_seam 2 = .ok (.iconst 0, 1) := by decide +kernel
theorem dL_seam_3 : decode cL_seam 3 = .ok (.aload_n 0, 1) := by decide +kernel
theorem dL_seam_4 : decode cL_seam 4 = .ok (.iload_n 1, 1) := by decide +kernel
theorem dL_seam_5 : decode cL_seam 5 = .ok (.iload_n 2, 1) := by decide +kernel
theorem dL_seam_6 : decode cL_seam 6 = .ok (.iload_n 3, 1) := by decide +kernel
theorem dL_seam_7 : decode cL_seam 7 = .ok (.iload 4, 2) := by decide +kernel
theorem dL_seam_9 : decode cL_seam 9 = .ok (.invokevirtual 62, 3) := by decide +kernel
theorem dL_seam_17 : decode cL_seam 17 = .ok (.astore 6, 2) := by decide +kernel
theorem dL_seam_19 : decode cL_seam 19 = .ok (.iconst 1, 1) := by decide +kernel
theorem dL_seam_20 : decode cL_seam 20 = .ok (.ireturn, 1) := by decide +kernel
theorem dL_pieceCells_0 : decode cL_pieceCells 0 = .ok (.aload 5, 2) := by decide +kernel
theorem dL_pieceCells_2 : decode cL_pieceCells 2 = .ok (.iconst 0, 1) := by decide +kernel
theorem dL_pieceCells_3 : decode cL_pieceCells 3 = .ok (.aload_n 0, 1) := by decide +kernel
theorem dL_pieceCells_4 : decode cL_pieceCells 4 = .ok (.iload_n 1, 1) := by decide +kernel
theorem dL_pieceCells_5 : decode cL_pieceCells 5 = .ok (.iload_n 2, 1) := by decide +kernel
theorem dL_pieceCells_6 : decode cL_pieceCells 6 = .ok (.iload_n 3, 1) := by decide +kernel
theorem dL_pieceCells_7 : decode cL_pieceCells 7 = .ok (.iload 4, 2) := by decide +kernel
theorem dL_pieceCells_9 : decode cL_pieceCells 9 = .ok (.invokevirtual 65, 3) := by decide +kernel
theorem dL_pieceCells_17 : decode cL_pieceCells 17 = .ok (.astore 6, 2) := by decide +kernel
theorem dL_pieceCells_19 : decode cL_pieceCells 19 = .ok (.iconst 1, 1) := by decide +kernel
theorem dL_pieceCells_20 : decode cL_pieceCells 20 = .ok (.ireturn, 1) := by decide +kernel
theorem dL_shortest_0 : decode cL_shortest 0 = .ok (.aload_n 2, 1) := by decide +kernel
theorem dL_shortest_1 : decode cL_shortest 1 = .ok (.iconst 0, 1) := by decide +kernel
theorem dL_shortest_2 : decode cL_shortest 2 = .ok (.aload_n 0, 1) := by decide +kernel
theorem dL_shortest_3 : decode cL_shortest 3 = .ok (.iload_n 1, 1) := by decide +kernel
theorem dL_shortest_4 : decode cL_shortest 4 = .ok (.invokevirtual 69, 3) := by decide +kernel
theorem dL_shortest_12 : decode cL_shortest 12 = .ok (.astore_n 3, 1) := by decide +kernel
theorem dL_shortest_13 : decode cL_shortest 13 = .ok (.iconst 1, 1) := by decide +kernel
theorem dL_shortest_14 : decode cL_shortest 14 = .ok (.ireturn, 1) := by decide +kernel
theorem dL_bonds_0 : decode cL_bonds 0 = .ok (.aload_n 2, 1) := by decide +kernel
theorem dL_bonds_1 : decode cL_bonds 1 = .ok (.iconst 0, 1) := by decide +kernel
theorem dL_bonds_2 : decode cL_bonds 2 = .ok (.aload_n 0, 1) := by decide +kernel
theorem dL_bonds_3 : decode cL_bonds 3 = .ok (.iload_n 1, 1) := by decide +kernel
theorem dL_bonds_4 : decode cL_bonds 4 = .ok (.invokevirtual 73, 3) := by decide +kernel
theorem dL_bonds_19 : decode cL_bonds 19 = .ok (.astore_n 3, 1) := by decide +kernel
theorem dL_bonds_20 : decode cL_bonds 20 = .ok (.iconst 1, 1) := by decide +kernel
theorem dL_bonds_21 : decode cL_bonds 21 = .ok (.ireturn, 1) := by decide +kernel
theorem dL_hide_0 : decode cL_hide 0 = .ok (.aload 4, 2) := by decide +kernel
theorem dL_hide_2 : decode cL_hide 2 = .ok (.iconst 0, 1) := by decide +kernel
theorem dL_hide_3 : decode cL_hide 3 = .ok (.aload_n 0, 1) := by decide +kernel
theorem dL_hide_4 : decode cL_hide 4 = .ok (.iload_n 1, 1) := by decide +kernel
theorem dL_hide_5 : decode cL_hide 5 = .ok (.iload_n 2, 1) := by decide +kernel
theorem dL_hide_6 : decode cL_hide 6 = .ok (.iload_n 3, 1) := by decide +kernel
theorem dL_hide_7 : decode cL_hide 7 = .ok (.invokevirtual 77, 3) := by decide +kernel
theorem dL_hide_10 : decode cL_hide 10 = .ok (.i2l, 1) := by decide +kernel
theorem dL_hide_11 : decode cL_hide 11 = .ok (.lastore, 1) := by decide +kernel
theorem dL_hide_12 : decode cL_hide 12 = .ok (.goto 11, 3) := by decide +kernel
theorem dL_hide_15 : decode cL_hide 15 = .ok (.astore 5, 2) := by decide +kernel
theorem dL_hide_17 : decode cL_hide 17 = .ok (.iconst 1, 1) := by decide +kernel
theorem dL_hide_18 : decode cL_hide 18 = .ok (.ireturn, 1) := by decide +kernel
theorem dL_hide_23 : decode cL_hide 23 = .ok (.iconst 0, 1) := by decide +kernel
theorem dL_hide_24 : decode cL_hide 24 = .ok (.ireturn, 1) := by decide +kernel
theorem dL_fault_0 : decode cL_fault 0 = .ok (.aload 5, 2) := by decide +kernel
theorem dL_fault_2 : decode cL_fault 2 = .ok (.iconst 0, 1) := by decide +kernel
theorem dL_fault_3 : decode cL_fault 3 = .ok (.aload_n 0, 1) := by decide +kernel
theorem dL_fault_4 : decode cL_fault 4 = .ok (.iload_n 1, 1) := by decide +kernel
theorem dL_fault_5 : decode cL_fault 5 = .ok (.iload_n 2, 1) := by decide +kernel
theorem dL_fault_6 : decode cL_fault 6 = .ok (.iload_n 3, 1) := by decide +kernel
theorem dL_fault_7 : decode cL_fault 7 = .ok (.iload 4, 2) := by decide +kernel
theorem dL_fault_9 : decode cL_fault 9 = .ok (.invokevirtual 80, 3) := by decide +kernel
theorem dL_fault_17 : decode cL_fault 17 = .ok (.astore 6, 2) := by decide +kernel
theorem dL_fault_19 : decode cL_fault 19 = .ok (.iconst 1, 1) := by decide +kernel
theorem dL_fault_20 : decode cL_fault 20 = .ok (.ireturn, 1) := by decide +kernel
theorem dL_cellOf_0 : decode cL_cellOf 0 = .ok (.aload 4, 2) := by decide +kernel
theorem dL_cellOf_2 : decode cL_cellOf 2 = .ok (.iconst 0, 1) := by decide +kernel
theorem dL_cellOf_3 : decode cL_cellOf 3 = .ok (.aload_n 0, 1) := by decide +kernel
theorem dL_cellOf_4 : decode cL_cellOf 4 = .ok (.iload_n 1, 1) := by decide +kernel
theorem dL_cellOf_5 : decode cL_cellOf 5 = .ok (.iload_n 2, 1) := by decide +kernel
theorem dL_cellOf_6 : decode cL_cellOf 6 = .ok (.iload_n 3, 1) := by decide +kernel
theorem dL_cellOf_7 : decode cL_cellOf 7 = .ok (.invokevirtual 83, 3) := by decide +kernel
theorem dL_cellOf_15 : decode cL_cellOf 15 = .ok (.astore 5, 2) := by decide +kernel
theorem dL_cellOf_17 : decode cL_cellOf 17 = .ok (.iconst 1, 1) := by decide +kernel
theorem dL_cellOf_18 : decode cL_cellOf 18 = .ok (.ireturn, 1) := by decide +kernel
theorem dL_cut_0 : decode cL_cut 0 = .ok (.aload 9, 2) := by decide +kernel
theorem dL_cut_2 : decode cL_cut 2 = .ok (.iconst 0, 1) := by decide +kernel
theorem dL_cut_3 : decode cL_cut 3 = .ok (.aload_n 0, 1) := by decide +kernel
theorem dL_cut_4 : decode cL_cut 4 = .ok (.iload_n 1, 1) := by decide +kernel
theorem dL_cut_5 : decode cL_cut 5 = .ok (.iload_n 2, 1) := by decide +kernel
theorem dL_cut_6 : decode cL_cut 6 = .ok (.iload_n 3, 1) := by decide +kernel
theorem dL_cut_7 : decode cL_cut 7 = .ok (.iload 4, 2) := by decide +kernel
theorem dL_cut_9 : decode cL_cut 9 = .ok (.iload 5, 2) := by decide +kernel
theorem dL_cut_11 : decode cL_cut 11 = .ok (.iload 6, 2) := by decide +kernel
theorem dL_cut_13 : decode cL_cut 13 = .ok (.iload 7, 2) := by decide +kernel
theorem dL_cut_15 : decode cL_cut 15 = .ok (.iload 8, 2) := by decide +kernel
theorem dL_cut_17 : decode cL_cut 17 = .ok (.invokevirtual 86, 3) := by decide +kernel
theorem dL_cut_25 : decode cL_cut 25 = .ok (.astore 10, 2) := by decide +kernel
theorem dL_cut_27 : decode cL_cut 27 = .ok (.iconst 1, 1) := by decide +kernel
theorem dL_cut_28 : decode cL_cut 28 = .ok (.ireturn, 1) := by decide +kernel
theorem dL_firstPlace_0 : decode cL_firstPlace 0 = .ok (.aload 4, 2) := by decide +kernel
theorem dL_firstPlace_2 : decode cL_firstPlace 2 = .ok (.iconst 0, 1) := by decide +kernel
theorem dL_firstPlace_3 : decode cL_firstPlace 3 = .ok (.aload_n 0, 1) := by decide +kernel
theorem dL_firstPlace_4 : decode cL_firstPlace 4 = .ok (.iload_n 1, 1) := by decide +kernel
theorem dL_firstPlace_5 : decode cL_firstPlace 5 = .ok (.iload_n 2, 1) := by decide +kernel
theorem dL_firstPlace_6 : decode cL_firstPlace 6 = .ok (.iload_n 3, 1) := by decide +kernel
theorem dL_firstPlace_7 : decode cL_firstPlace 7 = .ok (.invokevirtual 90, 3) := by decide +kernel
theorem dL_firstPlace_15 : decode cL_firstPlace 15 = .ok (.astore 5, 2) := by decide +kernel
theorem dL_firstPlace_17 : decode cL_firstPlace 17 = .ok (.iconst 1, 1) := by decide +kernel
theorem dL_firstPlace_18 : decode cL_firstPlace 18 = .ok (.ireturn, 1) := by decide +kernel
theorem dL_waste_0 : decode cL_waste 0 = .ok (.aload_n 2, 1) := by decide +kernel
theorem dL_waste_1 : decode cL_waste 1 = .ok (.iconst 0, 1) := by decide +kernel
theorem dL_waste_2 : decode cL_waste 2 = .ok (.aload_n 0, 1) := by decide +kernel
theorem dL_waste_3 : decode cL_waste 3 = .ok (.iload_n 1, 1) := by decide +kernel
theorem dL_waste_4 : decode cL_waste 4 = .ok (.invokevirtual 93, 3) := by decide +kernel
theorem dL_waste_12 : decode cL_waste 12 = .ok (.astore_n 3, 1) := by decide +kernel
theorem dL_waste_13 : decode cL_waste 13 = .ok (.iconst 1, 1) := by decide +kernel
theorem dL_waste_14 : decode cL_waste 14 = .ok (.ireturn, 1) := by decide +kernel
theorem dL_cutBy_0 : decode cL_cutBy 0 = .ok (.aload_n 2, 1) := by decide +kernel
theorem dL_cutBy_1 : decode cL_cutBy 1 = .ok (.iconst 0, 1) := by decide +kernel
theorem dL_cutBy_2 : decode cL_cutBy 2 = .ok (.aload_n 0, 1) := by decide +kernel
theorem dL_cutBy_3 : decode cL_cutBy 3 = .ok (.iload_n 1, 1) := by decide +kernel
theorem dL_cutBy_4 : decode cL_cutBy 4 = .ok (.invokevirtual 96, 3) := by decide +kernel
theorem dL_cutBy_7 : decode cL_cutBy 7 = .ok (.i2l, 1) := by decide +kernel
theorem dL_cutBy_8 : decode cL_cutBy 8 = .ok (.lastore, 1) := by decide +kernel
theorem dL_cutBy_9 : decode cL_cutBy 9 = .ok (.goto 6, 3) := by decide +kernel
theorem dL_cutBy_12 : decode cL_cutBy 12 = .ok (.astore_n 3, 1) := by decide +kernel
theorem dL_cutBy_13 : decode cL_cutBy 13 = .ok (.iconst 1, 1) := by decide +kernel
theorem dL_cutBy_14 : decode cL_cutBy 14 = .ok (.ireturn, 1) := by decide +kernel
theorem dL_cutBy_15 : decode cL_cutBy 15 = .ok (.iconst 0, 1) := by decide +kernel
theorem dL_cutBy_16 : decode cL_cutBy 16 = .ok (.ireturn, 1) := by decide +kernel
theorem dL_setSkill_0 : decode cL_setSkill 0 = .ok (.aload 4, 2) := by decide +kernel
theorem dL_setSkill_2 : decode cL_setSkill 2 = .ok (.iconst 0, 1) := by decide +kernel
theorem dL_setSkill_3 : decode cL_setSkill 3 = .ok (.aload_n 0, 1) := by decide +kernel
theorem dL_setSkill_4 : decode cL_setSkill 4 = .ok (.iload_n 1, 1) := by decide +kernel
theorem dL_setSkill_5 : decode cL_setSkill 5 = .ok (.iload_n 2, 1) := by decide +kernel
theorem dL_setSkill_6 : decode cL_setSkill 6 = .ok (.iload_n 3, 1) := by decide +kernel
theorem dL_setSkill_7 : decode cL_setSkill 7 = .ok (.invokevirtual 99, 3) := by decide +kernel
theorem dL_setSkill_10 : decode cL_setSkill 10 = .ok (.ifCond .eq 7, 3) := by decide +kernel
theorem dL_setSkill_17 : decode cL_setSkill 17 = .ok (.lconst 0, 1) := by decide +kernel
theorem dL_setSkill_18 : decode cL_setSkill 18 = .ok (.lastore, 1) := by decide +kernel
theorem dL_setSkill_19 : decode cL_setSkill 19 = .ok (.goto 11, 3) := by decide +kernel
theorem dL_setSkill_22 : decode cL_setSkill 22 = .ok (.astore 5, 2) := by decide +kernel
theorem dL_setSkill_24 : decode cL_setSkill 24 = .ok (.iconst 1, 1) := by decide +kernel
theorem dL_setSkill_25 : decode cL_setSkill 25 = .ok (.ireturn, 1) := by decide +kernel
theorem dL_setSkill_26 : decode cL_setSkill 26 = .ok (.astore 5, 2) := by decide +kernel
theorem dL_setSkill_28 : decode cL_setSkill 28 = .ok (.iconst 2, 1) := by decide +kernel
theorem dL_setSkill_29 : decode cL_setSkill 29 = .ok (.ireturn, 1) := by decide +kernel
theorem dL_setSkill_30 : decode cL_setSkill 30 = .ok (.iconst 0, 1) := by decide +kernel
theorem dL_setSkill_31 : decode cL_setSkill 31 = .ok (.ireturn, 1) := by decide +kernel
theorem dL_setAbsent_0 : decode cL_setAbsent 0 = .ok (.aload_n 3, 1) := by decide +kernel
theorem dL_setAbsent_1 : decode cL_setAbsent 1 = .ok (.iconst 0, 1) := by decide +kernel
theorem dL_setAbsent_2 : decode cL_setAbsent 2 = .ok (.aload_n 0, 1) := by decide +kernel
theorem dL_setAbsent_3 : decode cL_setAbsent 3 = .ok (.iload_n 1, 1) := by decide +kernel
theorem dL_setAbsent_4 : decode cL_setAbsent 4 = .ok (.iload_n 2, 1) := by decide +kernel
theorem dL_setAbsent_5 : decode cL_setAbsent 5 = .ok (.invokevirtual 103, 3) := by decide +kernel
theorem dL_setAbsent_8 : decode cL_setAbsent 8 = .ok (.ifCond .eq 7, 3) := by decide +kernel
theorem dL_setAbsent_15 : decode cL_setAbsent 15 = .ok (.lconst 0, 1) := by decide +kernel
theorem dL_setAbsent_16 : decode cL_setAbsent 16 = .ok (.lastore, 1) := by decide +kernel
theorem dL_setAbsent_17 : decode cL_setAbsent 17 = .ok (.goto 7, 3) := by decide +kernel
theorem dL_setAbsent_20 : decode cL_setAbsent 20 = .ok (.astore 4, 2) := by decide +kernel
theorem dL_setAbsent_22 : decode cL_setAbsent 22 = .ok (.iconst 1, 1) := by decide +kernel
theorem dL_setAbsent_23 : decode cL_setAbsent 23 = .ok (.ireturn, 1) := by decide +kernel
theorem dL_setAbsent_24 : decode cL_setAbsent 24 = .ok (.iconst 0, 1) := by decide +kernel
theorem dL_setAbsent_25 : decode cL_setAbsent 25 = .ok (.ireturn, 1) := by decide +kernel
theorem dL_ticket_0 : decode cL_ticket 0 = .ok (.aload_n 3, 1) := by decide +kernel
theorem dL_ticket_1 : decode cL_ticket 1 = .ok (.iconst 0, 1) := by decide +kernel
theorem dL_ticket_2 : decode cL_ticket 2 = .ok (.aload_n 0, 1) := by decide +kernel
theorem dL_ticket_3 : decode cL_ticket 3 = .ok (.iload_n 1, 1) := by decide +kernel
theorem dL_ticket_4 : decode cL_ticket 4 = .ok (.iload_n 2, 1) := by decide +kernel
theorem dL_ticket_5 : decode cL_ticket 5 = .ok (.invokevirtual 107, 3) := by decide +kernel
theorem dL_ticket_13 : decode cL_ticket 13 = .ok (.astore 4, 2) := by decide +kernel
theorem dL_ticket_15 : decode cL_ticket 15 = .ok (.iconst 1, 1) := by decide +kernel
theorem dL_ticket_16 : decode cL_ticket 16 = .ok (.ireturn, 1) := by decide +kernel
theorem dL_pass_0 : decode cL_pass 0 = .ok (.aload_n 2, 1) := by decide +kernel
theorem dL_pass_1 : decode cL_pass 1 = .ok (.iconst 0, 1) := by decide +kernel
theorem dL_pass_2 : decode cL_pass 2 = .ok (.aload_n 0, 1) := by decide +kernel
theorem dL_pass_3 : decode cL_pass 3 = .ok (.iload_n 1, 1) := by decide +kernel
theorem dL_pass_4 : decode cL_pass 4 = .ok (.invokevirtual 110, 3) := by decide +kernel
theorem dL_pass_7 : decode cL_pass 7 = .ok (.i2l, 1) := by decide +kernel
theorem dL_pass_8 : decode cL_pass 8 = .ok (.lastore, 1) := by decide +kernel
theorem dL_pass_9 : decode cL_pass 9 = .ok (.goto 6, 3) := by decide +kernel
theorem dL_pass_12 : decode cL_pass 12 = .ok (.astore_n 3, 1) := by decide +kernel
theorem dL_pass_13 : decode cL_pass 13 = .ok (.iconst 1, 1) := by decide +kernel
theorem dL_pass_14 : decode cL_pass 14 = .ok (.ireturn, 1) := by decide +kernel
theorem dL_pass_15 : decode cL_pass 15 = .ok (.iconst 0, 1) := by decide +kernel
theorem dL_pass_16 : decode cL_pass 16 = .ok (.ireturn, 1) := by decide +kernel
theorem dL_sew_0 : decode cL_sew 0 = .ok (.aload 5, 2) := by decide +kernel
theorem dL_sew_2 : decode cL_sew 2 = .ok (.iconst 0, 1) := by decide +kernel
theorem dL_sew_3 : decode cL_sew 3 = .ok (.aload_n 0, 1) := by decide +kernel
theorem dL_sew_4 : decode cL_sew 4 = .ok (.iload_n 1, 1) := by decide +kernel
theorem dL_sew_5 : decode cL_sew 5 = .ok (.iload_n 2, 1) := by decide +kernel
theorem dL_sew_6 : decode cL_sew 6 = .ok (.iload_n 3, 1) := by decide +kernel
theorem dL_sew_7 : decode cL_sew 7 = .ok (.iload 4, 2) := by decide +kernel
theorem dL_sew_9 : decode cL_sew 9 = .ok (.invokevirtual 113, 3) := by decide +kernel
theorem dL_sew_17 : decode cL_sew 17 = .ok (.astore 6, 2) := by decide +kernel
theorem dL_sew_19 : decode cL_sew 19 = .ok (.iconst 1, 1) := by decide +kernel
theorem dL_sew_20 : decode cL_sew 20 = .ok (.ireturn, 1) := by decide +kernel
theorem dL_room_0 : decode cL_room 0 = .ok (.aload_n 2, 1) := by decide +kernel
theorem dL_room_1 : decode cL_room 1 = .ok (.iconst 0, 1) := by decide +kernel
theorem dL_room_2 : decode cL_room 2 = .ok (.aload_n 0, 1) := by decide +kernel
theorem dL_room_3 : decode cL_room 3 = .ok (.iload_n 1, 1) := by decide +kernel
theorem dL_room_4 : decode cL_room 4 = .ok (.invokevirtual 116, 3) := by decide +kernel
theorem dL_room_12 : decode cL_room 12 = .ok (.astore_n 3, 1) := by decide +kernel
theorem dL_room_13 : decode cL_room 13 = .ok (.iconst 1, 1) := by decide +kernel
theorem dL_room_14 : decode cL_room 14 = .ok (.ireturn, 1) := by decide +kernel
theorem dL_bottleneck_0 : decode cL_bottleneck 0 = .ok (.aload_n 1, 1) := by decide +kernel
theorem dL_bottleneck_1 : decode cL_bottleneck 1 = .ok (.iconst 0, 1) := by decide +kernel
theorem dL_bottleneck_2 : decode cL_bottleneck 2 = .ok (.aload_n 0, 1) := by decide +kernel
theorem dL_bottleneck_3 : decode cL_bottleneck 3 = .ok (.invokevirtual 120, 3) := by decide +kernel
theorem dL_bottleneck_11 : decode cL_bottleneck 11 = .ok (.astore_n 2, 1) := by decide +kernel
theorem dL_bottleneck_12 : decode cL_bottleneck 12 = .ok (.iconst 1, 1) := by decide +kernel
theorem dL_bottleneck_13 : decode cL_bottleneck 13 = .ok (.ireturn, 1) := by decide +kernel
theorem dL_setStand_0 : decode cL_setStand 0 = .ok (.aload_n 3, 1) := by decide +kernel
theorem dL_setStand_1 : decode cL_setStand 1 = .ok (.iconst 0, 1) := by decide +kernel
theorem dL_setStand_2 : decode cL_setStand 2 = .ok (.aload_n 0, 1) := by decide +kernel
theorem dL_setStand_3 : decode cL_setStand 3 = .ok (.iload_n 1, 1) := by decide +kernel
theorem dL_setStand_4 : decode cL_setStand 4 = .ok (.iload_n 2, 1) := by decide +kernel
theorem dL_setStand_5 : decode cL_setStand 5 = .ok (.invokevirtual 124, 3) := by decide +kernel
theorem dL_setStand_8 : decode cL_setStand 8 = .ok (.i2l, 1) := by decide +kernel
theorem dL_setStand_9 : decode cL_setStand 9 = .ok (.lastore, 1) := by decide +kernel
theorem dL_setStand_10 : decode cL_setStand 10 = .ok (.goto 7, 3) := by decide +kernel
theorem dL_setStand_13 : decode cL_setStand 13 = .ok (.astore 4, 2) := by decide +kernel
theorem dL_setStand_15 : decode cL_setStand 15 = .ok (.iconst 1, 1) := by decide +kernel
theorem dL_setStand_16 : decode cL_setStand 16 = .ok (.ireturn, 1) := by decide +kernel
theorem dL_setStand_17 : decode cL_setStand 17 = .ok (.iconst 0, 1) := by decide +kernel
theorem dL_setStand_18 : decode cL_setStand 18 = .ok (.ireturn, 1) := by decide +kernel
theorem dL_lastOn_0 : decode cL_lastOn 0 = .ok (.aload_n 2, 1) := by decide +kernel
theorem dL_lastOn_1 : decode cL_lastOn 1 = .ok (.iconst 0, 1) := by decide +kernel
theorem dL_lastOn_2 : decode cL_lastOn 2 = .ok (.aload_n 0, 1) := by decide +kernel
theorem dL_lastOn_3 : decode cL_lastOn 3 = .ok (.iload_n 1, 1) := by decide +kernel
theorem dL_lastOn_4 : decode cL_lastOn 4 = .ok (.invokevirtual 127, 3) := by decide +kernel
theorem dL_lastOn_12 : decode cL_lastOn 12 = .ok (.astore_n 3, 1) := by decide +kernel
theorem dL_lastOn_13 : decode cL_lastOn 13 = .ok (.iconst 1, 1) := by decide +kernel
theorem dL_lastOn_14 : decode cL_lastOn 14 = .ok (.ireturn, 1) := by decide +kernel
theorem dL_open_0 : decode cL_open 0 = .ok (.aload_n 2, 1) := by decide +kernel
theorem dL_open_1 : decode cL_open 1 = .ok (.iconst 0, 1) := by decide +kernel
theorem dL_open_2 : decode cL_open 2 = .ok (.aload_n 0, 1) := by decide +kernel
theorem dL_open_3 : decode cL_open 3 = .ok (.iload_n 1, 1) := by decide +kernel
theorem dL_open_4 : decode cL_open 4 = .ok (.invokevirtual 130, 3) := by decide +kernel
theorem dL_open_7 : decode cL_open 7 = .ok (.i2l, 1) := by decide +kernel
theorem dL_open_8 : decode cL_open 8 = .ok (.lastore, 1) := by decide +kernel
theorem dL_open_9 : decode cL_open 9 = .ok (.goto 9, 3) := by decide +kernel
theorem dL_open_12 : decode cL_open 12 = .ok (.astore_n 3, 1) := by decide +kernel
theorem dL_open_13 : decode cL_open 13 = .ok (.iconst 1, 1) := by decide +kernel
theorem dL_open_14 : decode cL_open 14 = .ok (.ireturn, 1) := by decide +kernel
theorem dL_open_18 : decode cL_open 18 = .ok (.iconst 0, 1) := by decide +kernel
theorem dL_open_19 : decode cL_open 19 = .ok (.ireturn, 1) := by decide +kernel
theorem dL_sole_0 : decode cL_sole 0 = .ok (.aload 4, 2) := by decide +kernel
theorem dL_sole_2 : decode cL_sole 2 = .ok (.iconst 0, 1) := by decide +kernel
theorem dL_sole_3 : decode cL_sole 3 = .ok (.aload_n 0, 1) := by decide +kernel
theorem dL_sole_4 : decode cL_sole 4 = .ok (.iload_n 1, 1) := by decide +kernel
theorem dL_sole_5 : decode cL_sole 5 = .ok (.iload_n 2, 1) := by decide +kernel
theorem dL_sole_6 : decode cL_sole 6 = .ok (.iload_n 3, 1) := by decide +kernel
theorem dL_sole_7 : decode cL_sole 7 = .ok (.invokevirtual 133, 3) := by decide +kernel
theorem dL_sole_22 : decode cL_sole 22 = .ok (.astore 5, 2) := by decide +kernel
theorem dL_sole_24 : decode cL_sole 24 = .ok (.iconst 1, 1) := by decide +kernel
theorem dL_sole_25 : decode cL_sole 25 = .ok (.ireturn, 1) := by decide +kernel
theorem dL_takeOff_0 : decode cL_takeOff 0 = .ok (.aload_n 2, 1) := by decide +kernel
theorem dL_takeOff_1 : decode cL_takeOff 1 = .ok (.iconst 0, 1) := by decide +kernel
theorem dL_takeOff_2 : decode cL_takeOff 2 = .ok (.aload_n 0, 1) := by decide +kernel
theorem dL_takeOff_3 : decode cL_takeOff 3 = .ok (.iload_n 1, 1) := by decide +kernel
theorem dL_takeOff_4 : decode cL_takeOff 4 = .ok (.invokevirtual 136, 3) := by decide +kernel
theorem dL_takeOff_12 : decode cL_takeOff 12 = .ok (.astore_n 3, 1) := by decide +kernel
theorem dL_takeOff_13 : decode cL_takeOff 13 = .ok (.iconst 1, 1) := by decide +kernel
theorem dL_takeOff_14 : decode cL_takeOff 14 = .ok (.ireturn, 1) := by decide +kernel
theorem dL_pack_0 : decode cL_pack 0 = .ok (.aload 4, 2) := by decide +kernel
theorem dL_pack_2 : decode cL_pack 2 = .ok (.iconst 0, 1) := by decide +kernel
theorem dL_pack_3 : decode cL_pack 3 = .ok (.aload_n 0, 1) := by decide +kernel
theorem dL_pack_4 : decode cL_pack 4 = .ok (.iload_n 1, 1) := by decide +kernel
theorem dL_pack_5 : decode cL_pack 5 = .ok (.iload_n 2, 1) := by decide +kernel
theorem dL_pack_6 : decode cL_pack 6 = .ok (.iload_n 3, 1) := by decide +kernel
theorem dL_pack_7 : decode cL_pack 7 = .ok (.invokevirtual 139, 3) := by decide +kernel
theorem dL_pack_22 : decode cL_pack 22 = .ok (.astore 5, 2) := by decide +kernel
theorem dL_pack_24 : decode cL_pack 24 = .ok (.iconst 1, 1) := by decide +kernel
theorem dL_pack_25 : decode cL_pack 25 = .ok (.ireturn, 1) := by decide +kernel
theorem dL_test_0 : decode cL_test 0 = .ok (.aload_n 3, 1) := by decide +kernel
theorem dL_test_1 : decode cL_test 1 = .ok (.iconst 0, 1) := by decide +kernel
theorem dL_test_2 : decode cL_test 2 = .ok (.aload_n 0, 1) := by decide +kernel
theorem dL_test_3 : decode cL_test 3 = .ok (.iload_n 1, 1) := by decide +kernel
theorem dL_test_4 : decode cL_test 4 = .ok (.iload_n 2, 1) := by decide +kernel
theorem dL_test_5 : decode cL_test 5 = .ok (.invokevirtual 143, 3) := by decide +kernel
theorem dL_test_13 : decode cL_test 13 = .ok (.astore 4, 2) := by decide +kernel
theorem dL_test_15 : decode cL_test 15 = .ok (.iconst 1, 1) := by decide +kernel
theorem dL_test_16 : decode cL_test 16 = .ok (.ireturn, 1) := by decide +kernel
theorem dL_comeBack_0 : decode cL_comeBack 0 = .ok (.aload_n 2, 1) := by decide +kernel
theorem dL_comeBack_1 : decode cL_comeBack 1 = .ok (.iconst 0, 1) := by decide +kernel
theorem dL_comeBack_2 : decode cL_comeBack 2 = .ok (.aload_n 0, 1) := by decide +kernel
theorem dL_comeBack_3 : decode cL_comeBack 3 = .ok (.iload_n 1, 1) := by decide +kernel
theorem dL_comeBack_4 : decode cL_comeBack 4 = .ok (.invokevirtual 147, 3) := by decide +kernel
theorem dL_comeBack_12 : decode cL_comeBack 12 = .ok (.astore_n 3, 1) := by decide +kernel
theorem dL_comeBack_13 : decode cL_comeBack 13 = .ok (.iconst 1, 1) := by decide +kernel
theorem dL_comeBack_14 : decode cL_comeBack 14 = .ok (.ireturn, 1) := by decide +kernel
theorem dL_cause_0 : decode cL_cause 0 = .ok (.aload_n 1, 1) := by decide +kernel
theorem dL_cause_1 : decode cL_cause 1 = .ok (.iconst 0, 1) := by decide +kernel
theorem dL_cause_2 : decode cL_cause 2 = .ok (.aload_n 0, 1) := by decide +kernel
theorem dL_cause_3 : decode cL_cause 3 = .ok (.invokevirtual 150, 3) := by decide +kernel
theorem dL_cause_11 : decode cL_cause 11 = .ok (.astore_n 2, 1) := by decide +kernel
theorem dL_cause_12 : decode cL_cause 12 = .ok (.iconst 1, 1) := by decide +kernel
theorem dL_cause_13 : decode cL_cause 13 = .ok (.ireturn, 1) := by decide +kernel
theorem dL_causeOf_0 : decode cL_causeOf 0 = .ok (.aload_n 1, 1) := by decide +kernel
theorem dL_causeOf_1 : decode cL_causeOf 1 = .ok (.iconst 0, 1) := by decide +kernel
theorem dL_causeOf_2 : decode cL_causeOf 2 = .ok (.aload_n 0, 1) := by decide +kernel
theorem dL_causeOf_3 : decode cL_causeOf 3 = .ok (.invokevirtual 154, 3) := by decide +kernel
theorem dL_causeOf_11 : decode cL_causeOf 11 = .ok (.astore_n 2, 1) := by decide +kernel
theorem dL_causeOf_12 : decode cL_causeOf 12 = .ok (.iconst 1, 1) := by decide +kernel
theorem dL_causeOf_13 : decode cL_causeOf 13 = .ok (.ireturn, 1) := by decide +kernel
theorem dL_hideOf_0 : decode cL_hideOf 0 = .ok (.aload 4, 2) := by decide +kernel
theorem dL_hideOf_2 : decode cL_hideOf 2 = .ok (.iconst 0, 1) := by decide +kernel
theorem dL_hideOf_3 : decode cL_hideOf 3 = .ok (.aload_n 0, 1) := by decide +kernel
theorem dL_hideOf_4 : decode cL_hideOf 4 = .ok (.iload_n 1, 1) := by decide +kernel
theorem dL_hideOf_5 : decode cL_hideOf 5 = .ok (.iload_n 2, 1) := by decide +kernel
theorem dL_hideOf_6 : decode cL_hideOf 6 = .ok (.iload_n 3, 1) := by decide +kernel
theorem dL_hideOf_7 : decode cL_hideOf 7 = .ok (.invokevirtual 157, 3) := by decide +kernel
theorem dL_hideOf_15 : decode cL_hideOf 15 = .ok (.astore 5, 2) := by decide +kernel
theorem dL_hideOf_17 : decode cL_hideOf 17 = .ok (.iconst 1, 1) := by decide +kernel
theorem dL_hideOf_18 : decode cL_hideOf 18 = .ok (.ireturn, 1) := by decide +kernel
theorem dL_sewerOf_0 : decode cL_sewerOf 0 = .ok (.aload 4, 2) := by decide +kernel
theorem dL_sewerOf_2 : decode cL_sewerOf 2 = .ok (.iconst 0, 1) := by decide +kernel
theorem dL_sewerOf_3 : decode cL_sewerOf 3 = .ok (.aload_n 0, 1) := by decide +kernel
theorem dL_sewerOf_4 : decode cL_sewerOf 4 = .ok (.iload_n 1, 1) := by decide +kernel
theorem dL_sewerOf_5 : decode cL_sewerOf 5 = .ok (.iload_n 2, 1) := by decide +kernel
theorem dL_sewerOf_6 : decode cL_sewerOf 6 = .ok (.iload_n 3, 1) := by decide +kernel
theorem dL_sewerOf_7 : decode cL_sewerOf 7 = .ok (.invokevirtual 160, 3) := by decide +kernel
theorem dL_sewerOf_15 : decode cL_sewerOf 15 = .ok (.astore 5, 2) := by decide +kernel
theorem dL_sewerOf_17 : decode cL_sewerOf 17 = .ok (.iconst 1, 1) := by decide +kernel
theorem dL_sewerOf_18 : decode cL_sewerOf 18 = .ok (.ireturn, 1) := by decide +kernel
theorem dL_packedShare_0 : decode cL_packedShare 0 = .ok (.aload_n 1, 1) := by decide +kernel
theorem dL_packedShare_1 : decode cL_packedShare 1 = .ok (.iconst 0, 1) := by decide +kernel
theorem dL_packedShare_2 : decode cL_packedShare 2 = .ok (.aload_n 0, 1) := by decide +kernel
theorem dL_packedShare_3 : decode cL_packedShare 3 = .ok (.invokevirtual 163, 3) := by decide +kernel
theorem dL_packedShare_11 : decode cL_packedShare 11 = .ok (.astore_n 2, 1) := by decide +kernel
theorem dL_packedShare_12 : decode cL_packedShare 12 = .ok (.iconst 1, 1) := by decide +kernel
theorem dL_packedShare_13 : decode cL_packedShare 13 = .ok (.ireturn, 1) := by decide +kernel
theorem dL_meanWaste_0 : decode cL_meanWaste 0 = .ok (.aload_n 1, 1) := by decide +kernel
theorem dL_meanWaste_1 : decode cL_meanWaste 1 = .ok (.iconst 0, 1) := by decide +kernel
theorem dL_meanWaste_2 : decode cL_meanWaste 2 = .ok (.aload_n 0, 1) := by decide +kernel
theorem dL_meanWaste_3 : decode cL_meanWaste 3 = .ok (.invokevirtual 169, 3) := by decide +kernel
theorem dL_meanWaste_10 : decode cL_meanWaste 10 = .ok (.astore_n 2, 1) := by decide +kernel
theorem dL_meanWaste_11 : decode cL_meanWaste 11 = .ok (.iconst 1, 1) := by decide +kernel
theorem dL_meanWaste_12 : decode cL_meanWaste 12 = .ok (.ireturn, 1) := by decide +kernel
theorem jx {A0 : Nat → Prop} {D : va_G} {ws wc wr : va_W} {H H1 : Heap} (hP : va_P D vwCl ws H) (hD : va_D A0 ws) (isC isR : List Nat) (hC : isC.map (fun i => ws[i]?) = wc.map some) (hR : isR.map (fun i => ws[i]?) = wr.map some) (hn : va_nd isR = true) (hdis : ∀ i ∈ isR, i ∉ isC) (hk : ∀ q : Nat, q < H.size → ¬ va_A wc H.size q → H1[q]? = H[q]?) (hF : ∀ q, va_A wc H.size q → A0 q) : va_P D vwCl wr H1 ∧ va_D A0 wr := by
  have h := va_join (w1 := []) hP hD isC isR hC hR hn hdis hk hF (fun k q h => by simp at h) ⟨fun i j p q h => by simp at h, fun k q h => by simp at h⟩
  rw [List.append_nil] at h
  exact h
theorem goodIn_x {big rest : List Cond} (cw e : Cond) (rest' : List Cond) (h1 : GoodIn big (cw :: rest)) (h2 : GoodIn big [e]) (hs : ∀ w ∈ rest', w = e ∨ w ∈ rest) : GoodIn big (cw :: rest') := fun w h => by
  rcases List.mem_cons.mp h with h | h
  · exact h1 w (by rw [h]; exact List.mem_cons_self)
  · rcases hs w h with h | h
    · exact h2 w (by rw [h]; exact List.mem_singleton_self _)
    · exact h1 w (List.mem_cons_of_mem _ h)
theorem goodIn_mono {big big' ws : List Cond} (h : GoodIn big ws) (hs : ∀ w ∈ big, w ∈ big') : GoodIn big' ws := fun w hw => ⟨hs w (h w hw).1, (h w hw).2⟩
theorem upd0 {f : Nat → Int64} {v : Int64} : vp_updL f (0 : Int32).toNatClampNeg v 0 = v := rfl
def wxL_misfit : List Cond := .codeWith yL_misfit cL_misfit 7 (some .int) [(0, 14, 17, 13), (0, 14, 21, 28)] :: ([Cond.classLink RL 28 "java/lang/IndexOutOfBoundsException"] ++ (wsL_misfit_r1 ++ wsL_misfit_r2) ++ wsX90 ++ wsX30 ++ (vx_atM "java/lang/ArrayIndexOutOfBoundsException" ["java/lang/IndexOutOfBoundsException", "java/lang/RuntimeException", "java/lang/Exception"]).filter goodWord ++ (vx_atS RX9 66 "java/lang/IllegalArgumentException" ["java/lang/RuntimeException", "java/lang/Exception"]).filter goodWord ++ (vx_atS RX9 521 "java/lang/IndexOutOfBoundsException" ["java/lang/RuntimeException", "java/lang/Exception"]).filter goodWord)
theorem goL_misfit : GoodIn wsL_law wxL_misfit := goodIn_x _ (Cond.classLink RL 28 "java/lang/IndexOutOfBoundsException") _ ggL_law_L_misfit (goodIn_of _ (by decide +kernel)) (fun w h => by simpa only [List.mem_append, List.mem_singleton, or_assoc] using h)
set_option maxRecDepth 20000 in
theorem gxL_law_L_misfit : GoodIn wsL_law (va_wsS RL 207 yL_misfit wxL_misfit) := goodIn_app (goodIn_of _ (by decide +kernel)) goL_misfit
def wxL_bestModel : List Cond := .codeWith yL_bestModel cL_bestModel 5 (some .int) [(0, 10, 13, 13), (0, 10, 17, 49)] :: ([Cond.classLink RL 49 "java/util/NoSuchElementException"] ++ (wsL_bestModel_r1 ++ wsL_bestModel_r2) ++ wsX90 ++ wsX30 ++ (vx_atM "java/lang/ArrayIndexOutOfBoundsException" ["java/lang/IndexOutOfBoundsException", "java/lang/RuntimeException", "java/lang/Exception"]).filter goodWord ++ nsW ++ (vx_atS RX9 66 "java/lang/IllegalArgumentException" ["java/lang/RuntimeException", "java/lang/Exception"]).filter goodWord)
theorem goL_bestModel : GoodIn wsL_law wxL_bestModel := goodIn_x _ (Cond.classLink RL 49 "java/util/NoSuchElementException") _ ggL_law_L_bestModel (goodIn_of _ (by decide +kernel)) (fun w h => by simpa only [List.mem_append, List.mem_singleton, or_assoc] using h)
set_option maxRecDepth 20000 in
theorem gxL_law_L_bestModel : GoodIn wsL_law (va_wsS RL 211 yL_bestModel wxL_bestModel) := goodIn_app (goodIn_of _ (by decide +kernel)) goL_bestModel
def wxL_bestSize : List Cond := .codeWith yL_bestSize cL_bestSize 6 (some .int) [(0, 12, 15, 13), (0, 12, 19, 28)] :: ([Cond.classLink RL 28 "java/lang/IndexOutOfBoundsException"] ++ (wsL_bestSize_r1 ++ wsL_bestSize_r2) ++ wsX90 ++ wsX30 ++ (vx_atM "java/lang/ArrayIndexOutOfBoundsException" ["java/lang/IndexOutOfBoundsException", "java/lang/RuntimeException", "java/lang/Exception"]).filter goodWord ++ (vx_atS RX9 66 "java/lang/IllegalArgumentException" ["java/lang/RuntimeException", "java/lang/Exception"]).filter goodWord ++ (vx_atS RX9 521 "java/lang/IndexOutOfBoundsException" ["java/lang/RuntimeException", "java/lang/Exception"]).filter goodWord)
theorem goL_bestSize : GoodIn wsL_law wxL_bestSize := goodIn_x _ (Cond.classLink RL 28 "java/lang/IndexOutOfBoundsException") _ ggL_law_L_bestSize (goodIn_of _ (by decide +kernel)) (fun w h => by simpa only [List.mem_append, List.mem_singleton, or_assoc] using h)
set_option maxRecDepth 20000 in
theorem gxL_law_L_bestSize : GoodIn wsL_law (va_wsS RL 214 yL_bestSize wxL_bestSize) := goodIn_app (goodIn_of _ (by decide +kernel)) goL_bestSize
def wxL_setSkill : List Cond := .codeWith yL_setSkill cL_setSkill 6 (some .int) [(0, 19, 22, 28), (0, 19, 26, 13)] :: ([Cond.classLink RL 13 "java/lang/IllegalArgumentException"] ++ (wsL_setSkill_r1 ++ wsL_setSkill_r2) ++ wsX40 ++ wsX90 ++ (vx_atM "java/lang/ArrayIndexOutOfBoundsException" ["java/lang/IndexOutOfBoundsException", "java/lang/RuntimeException", "java/lang/Exception"]).filter goodWord ++ (vx_atS RX9 521 "java/lang/IndexOutOfBoundsException" ["java/lang/RuntimeException", "java/lang/Exception"]).filter goodWord ++ (vx_atS RX9 66 "java/lang/IllegalArgumentException" ["java/lang/RuntimeException", "java/lang/Exception"]).filter goodWord)
theorem goL_setSkill : GoodIn wsL_law wxL_setSkill := goodIn_x _ (Cond.classLink RL 13 "java/lang/IllegalArgumentException") _ ggL_law_L_setSkill (goodIn_of _ (by decide +kernel)) (fun w h => by simpa only [List.mem_append, List.mem_singleton, or_assoc] using h)
set_option maxRecDepth 20000 in
theorem gxL_law_L_setSkill : GoodIn wsL_law (va_wsS RL 261 yL_setSkill wxL_setSkill) := goodIn_app (goodIn_of _ (by decide +kernel)) goL_setSkill
theorem suL_misfit : ∀ w ∈ wsL_misfit, w ∈ wxL_misfit := fun w h => by
  rcases List.mem_cons.mp h with h | h
  · rw [h]; exact List.mem_cons_self
  · refine List.mem_cons_of_mem _ ?_
    simp only [List.mem_append, List.mem_singleton, or_assoc] at h ⊢
    exact Or.inr h
theorem gxL_misfit_X9_misfit : GoodIn wxL_misfit (wsV RL 42 RX9 yX9_misfit wsX9_misfit) := goodIn_mono gL_misfit_X9_misfit suL_misfit
theorem suL_bestModel : ∀ w ∈ wsL_bestModel, w ∈ wxL_bestModel := fun w h => by
  rcases List.mem_cons.mp h with h | h
  · rw [h]; exact List.mem_cons_self
  · refine List.mem_cons_of_mem _ ?_
    simp only [List.mem_append, List.mem_singleton, or_assoc] at h ⊢
    exact Or.inr h
theorem gxL_bestModel_X9_bestModel : GoodIn wxL_bestModel (wsV RL 46 RX9 yX9_bestModel wsX9_bestModel) := goodIn_mono gL_bestModel_X9_bestModel suL_bestModel
theorem suL_bestSize : ∀ w ∈ wsL_bestSize, w ∈ wxL_bestSize := fun w h => by
  rcases List.mem_cons.mp h with h | h
  · rw [h]; exact List.mem_cons_self
  · refine List.mem_cons_of_mem _ ?_
    simp only [List.mem_append, List.mem_singleton, or_assoc] at h ⊢
    exact Or.inr h
theorem gxL_bestSize_X9_bestSize : GoodIn wxL_bestSize (wsV RL 51 RX9 yX9_bestSize wsX9_bestSize) := goodIn_mono gL_bestSize_X9_bestSize suL_bestSize
theorem suL_setSkill : ∀ w ∈ wsL_setSkill, w ∈ wxL_setSkill := fun w h => by
  rcases List.mem_cons.mp h with h | h
  · rw [h]; exact List.mem_cons_self
  · refine List.mem_cons_of_mem _ ?_
    simp only [List.mem_append, List.mem_singleton, or_assoc] at h ⊢
    exact Or.inr h
theorem gxL_setSkill_X9_setSkill : GoodIn wxL_setSkill (wsV RL 99 RX9 yX9_setSkill wsX9_setSkill) := goodIn_mono gL_setSkill_X9_setSkill suL_setSkill
-- ===== rows =====
set_option maxHeartbeats 4000000 in
set_option maxRecDepth 100000 in
/-- the try of girth -/
theorem t_girth (l : Launch) (hlt : l.stackTraces = false) (D : va_G) (tC tE sz : Nat) (x q0 q1 q2 q3 q4 q5 q6 : Nat) (k0 : ClassId) (ot : Nat) (kot : ClassId) (fo : Nat → Int64) (a1 a2 : Int32) : Met l yL_girth wsL_girth ({ frames := 8, cells := 1, slots := 6, locals := 127 }) (Pg D tC tE sz [(x, .inr (13, [.ref q0, .ref q1, .ref q2, .ref q3, .ref q4, .ref q5, .ref q6, .int 0, .int 0, .int 0, .int 0, .int 0, .int 0, .int 0])), (q0, .inl (k0, 5, .inr (.inr (.inr (.inr (fun _ => none)))))), (ot, .inl (kot, 1, .inr (.inl fo)))] [(k0, .object "Lastroom$Model"), (kot, .long)] [.ref x, .int a1, .int a2, .ref ot]) (Qgi (S := Unit) D (fun u => []) (fun u => []) (fun r _ => r = 1) (va_A [(x, .inr (13, [.ref q0, .ref q1, .ref q2, .ref q3, .ref q4, .ref q5, .ref q6, .int 0, .int 0, .int 0, .int 0, .int 0, .int 0, .int 0])), (q0, .inl (k0, 5, .inr (.inr (.inr (.inr (fun _ => none)))))), (ot, .inl (kot, 1, .inr (.inl fo)))] sz)) 1 6 (va_A [(x, .inr (13, [.ref q0, .ref q1, .ref q2, .ref q3, .ref q4, .ref q5, .ref q6, .int 0, .int 0, .int 0, .int 0, .int 0, .int 0, .int 0])), (q0, .inl (k0, 5, .inr (.inr (.inr (.inr (fun _ => none)))))), (ot, .inl (kot, 1, .inr (.inl fo)))] sz) := by
  refine og_h (cc := cL_girth) (maxL := 5) (ret := (some .int)) (hh := [(0, 10, 13, 28), (0, 10, 17, 13)]) (Qc := Qgi (S := Unit) D (fun u => []) (fun u => []) (fun r _ => r = 1)) (by decide) rfl (Nat.le_of_ble_eq_true rfl) ?_
  intro p e s m below meth c A hx hb hr hml hts hown hlocks htab hP hD hK hG hA hS ls hl
  have hl : lv_has ls 5 [(0, .ref x), (1, .int a1), (2, .int a2), (3, .ref ot)] := hl
  refine lv_aload_n hx hb dL_girth_0 rfl (lv_at hl 3 rfl) ?_
  refine lv_iconst (v := 0) hx hb dL_girth_1 (by decide) ?_
  refine lv_aload_n hx hb dL_girth_2 rfl (lv_at hl 0 rfl) ?_
  refine lv_iload_n hx hb dL_girth_3 rfl (lv_at hl 1 rfl) ?_
  refine lv_iload_n hx hb dL_girth_4 rfl (lv_at hl 2 rfl) ?_
  have hFc := va_free (wc := [(x, .inr (13, [.ref q0, .ref q1, .ref q2, .ref q3, .ref q4, .ref q5, .ref q6, .int 0, .int 0, .int 0, .int 0, .int 0, .int 0, .int 0])), (q0, .inl (k0, 5, .inr (.inr (.inr (.inr (fun _ => none))))))]) hD hS hA [0, 1] rfl
  refine vx_calli (vx_runV (As := [.int a1, .int a2]) (rest := [.int 0, .ref ot]) ⟨hx, hb, hml, hown, hts⟩ (c_girth l hlt D tC tE s.heap.size x q0 q1 q2 q3 q4 q5 q6 k0 a1 a2) (cwV 2 hts gL_girth_X9_girth rfl rfl rfl (by decide +kernel) ⟨(Nat.le_of_ble_eq_true rfl), (Nat.le_of_ble_eq_true rfl)⟩) ⟨pg_blind, (va_recv hK hP (ci := 13) (q0 := 0) rfl rfl), (pg_pre hP hD hK hG hS hFc [0, 1] rfl (by decide) [0] rfl _)⟩ rfl rfl hl.1 rfl (lv_room (Nat.le_of_ble_eq_true rfl)) dL_girth_5 ⟨(Nat.le_of_ble_eq_true rfl), (Nat.le_of_ble_eq_true rfl)⟩) hS (fun q _ h => hFc q h) hFc (fun q _ h => hFc q h) (fun E ce q9 u t H1 locs1 ht hvm hw hB hz1 hk1 hS hce hcv hcl => ?_) (fun r_1 u_2 t H locs ht hvm hw hB hz1 hk1 hS => ?_)
  · obtain ⟨hP, hD⟩ := jx (wr := [(ot, .inl (kot, 1, .inr (.inl fo)))]) hP hD [0, 1] [2] rfl rfl (by decide) (by decide) hk1 hFc
    have hP : va_P D vwCl [(ot, .inl (kot, 1, .inr (.inl fo)))] H1 := hP
    have hD : va_D A [(ot, .inl (kot, 1, .inr (.inl fo)))] := hD
    subst hB
    refine vx_widen (k := 1) (n := 6) (Nat.le_of_ble_eq_true rfl) (Nat.le_of_ble_eq_true rfl) (vx_catch (E := gx_ioo) (name := "java/lang/IndexOutOfBoundsException") hown [] ⟨0, 10, 13, 28⟩ [⟨0, 10, 17, 13⟩] (htab.trans rfl) (fun z hz => absurd hz List.not_mem_nil) (by decide) (by decide) (hts (.classLink RL 28 "java/lang/IndexOutOfBoundsException") (List.mem_of_getElem? (i := 1) rfl)) (va_Nw.use rfl (hG.2.2.2.2.2.2.2.2.2.2.1 _ (List.mem_of_getElem? (i := 1) rfl))) hce hcv hcl ?_)
    refine W.eq (g2 := F0 m 13 ls [.ref q9]) rfl ?_
    refine lv_astore (lv' := [(4, .ref q9), (0, .ref x), (1, .int a1), (2, .int a2), (3, .ref ot)]) hx hb dL_girth_13 hl (by decide) rfl (fun ls hl => ?_)
    refine lv_iconst (v := 1) hx hb dL_girth_15 (by decide) ?_
    have hP9 := hP.sub (ws' := []) [] rfl
    have hD9 := hD.sub (ws' := []) [] (by decide) rfl
    have hK9 := hK.sub (tys' := []) [] rfl
    exact end_i hx hb hr hlocks hP9 hD9 hK9 hS () rfl rfl rfl (Nat.le_of_ble_eq_true rfl) (Nat.le_of_ble_eq_true rfl) dL_girth_16
  · exact hw.elim
set_option maxHeartbeats 4000000 in
set_option maxRecDepth 100000 in
/-- the try of setLasts -/
theorem t_setLasts (l : Launch) (hlt : l.stackTraces = false) (D : va_G) (tC tE sz : Nat) (x q0 q1 q2 q3 q4 q5 q6 : Nat) (k0 : ClassId) (ot : Nat) (kot : ClassId) (fo : Nat → Int64) (a1 a2 a3 : Int32) : Met l yL_setLasts wsL_setLasts ({ frames := 8, cells := 1, slots := 6, locals := 129 }) (Pg D tC tE sz [(x, .inr (13, [.ref q0, .ref q1, .ref q2, .ref q3, .ref q4, .ref q5, .ref q6, .int 0, .int 0, .int 0, .int 0, .int 0, .int 0, .int 0])), (q0, .inl (k0, 5, .inr (.inr (.inr (.inr (fun _ => none)))))), (ot, .inl (kot, 1, .inr (.inl fo)))] [(k0, .object "Lastroom$Model"), (kot, .long)] [.ref x, .int a1, .int a2, .int a3, .ref ot]) (Qgi (S := Unit) D (fun u => []) (fun u => []) (fun r _ => r = 1) (va_A [(x, .inr (13, [.ref q0, .ref q1, .ref q2, .ref q3, .ref q4, .ref q5, .ref q6, .int 0, .int 0, .int 0, .int 0, .int 0, .int 0, .int 0])), (q0, .inl (k0, 5, .inr (.inr (.inr (.inr (fun _ => none)))))), (ot, .inl (kot, 1, .inr (.inl fo)))] sz)) 1 6 (va_A [(x, .inr (13, [.ref q0, .ref q1, .ref q2, .ref q3, .ref q4, .ref q5, .ref q6, .int 0, .int 0, .int 0, .int 0, .int 0, .int 0, .int 0])), (q0, .inl (k0, 5, .inr (.inr (.inr (.inr (fun _ => none)))))), (ot, .inl (kot, 1, .inr (.inl fo)))] sz) := by
  refine og_h (cc := cL_setLasts) (maxL := 6) (ret := (some .int)) (hh := [(0, 12, 15, 28), (0, 12, 19, 13), (0, 12, 23, 34)]) (Qc := Qgi (S := Unit) D (fun u => []) (fun u => []) (fun r _ => r = 1)) (by decide) rfl (Nat.le_of_ble_eq_true rfl) ?_
  intro p e s m below meth c A hx hb hr hml hts hown hlocks htab hP hD hK hG hA hS ls hl
  have hl : lv_has ls 6 [(0, .ref x), (1, .int a1), (2, .int a2), (3, .int a3), (4, .ref ot)] := hl
  refine lv_aload hx hb dL_setLasts_0 (lv_at hl 4 rfl) ?_
  refine lv_iconst (v := 0) hx hb dL_setLasts_2 (by decide) ?_
  refine lv_aload_n hx hb dL_setLasts_3 rfl (lv_at hl 0 rfl) ?_
  refine lv_iload_n hx hb dL_setLasts_4 rfl (lv_at hl 1 rfl) ?_
  refine lv_iload_n hx hb dL_setLasts_5 rfl (lv_at hl 2 rfl) ?_
  refine lv_iload_n hx hb dL_setLasts_6 rfl (lv_at hl 3 rfl) ?_
  have hFc := va_free (wc := [(x, .inr (13, [.ref q0, .ref q1, .ref q2, .ref q3, .ref q4, .ref q5, .ref q6, .int 0, .int 0, .int 0, .int 0, .int 0, .int 0, .int 0])), (q0, .inl (k0, 5, .inr (.inr (.inr (.inr (fun _ => none))))))]) hD hS hA [0, 1] rfl
  refine vx_calli (vx_runV (As := [.int a1, .int a2, .int a3]) (rest := [.int 0, .ref ot]) ⟨hx, hb, hml, hown, hts⟩ (c_setLasts l hlt D tC tE s.heap.size x q0 q1 q2 q3 q4 q5 q6 k0 a1 a2 a3) (cwV 3 hts gL_setLasts_X9_setLasts rfl rfl rfl (by decide +kernel) ⟨(Nat.le_of_ble_eq_true rfl), (Nat.le_of_ble_eq_true rfl)⟩) ⟨pg_blind, (va_recv hK hP (ci := 13) (q0 := 0) rfl rfl), (pg_pre hP hD hK hG hS hFc [0, 1] rfl (by decide) [0] rfl _)⟩ rfl rfl hl.1 rfl (lv_room (Nat.le_of_ble_eq_true rfl)) dL_setLasts_7 ⟨(Nat.le_of_ble_eq_true rfl), (Nat.le_of_ble_eq_true rfl)⟩) hS (fun q _ h => hFc q h) hFc (fun q _ h => hFc q h) (fun E ce q9 u t H1 locs1 ht hvm hw hB hz1 hk1 hS hce hcv hcl => ?_) (fun r_1 u_2 t H locs ht hvm hw hB hz1 hk1 hS => ?_)
  · obtain ⟨hP, hD⟩ := jx (wr := [(ot, .inl (kot, 1, .inr (.inl fo)))]) hP hD [0, 1] [2] rfl rfl (by decide) (by decide) hk1 hFc
    have hP : va_P D vwCl [(ot, .inl (kot, 1, .inr (.inl fo)))] H1 := hP
    have hD : va_D A [(ot, .inl (kot, 1, .inr (.inl fo)))] := hD
    subst hB
    refine vx_widen (k := 1) (n := 6) (Nat.le_of_ble_eq_true rfl) (Nat.le_of_ble_eq_true rfl) (vx_catch (E := gx_ioo) (name := "java/lang/IndexOutOfBoundsException") hown [] ⟨0, 12, 15, 28⟩ [⟨0, 12, 19, 13⟩, ⟨0, 12, 23, 34⟩] (htab.trans rfl) (fun z hz => absurd hz List.not_mem_nil) (by decide) (by decide) (hts (.classLink RL 28 "java/lang/IndexOutOfBoundsException") (List.mem_of_getElem? (i := 1) rfl)) (va_Nw.use rfl (hG.2.2.2.2.2.2.2.2.2.2.1 _ (List.mem_of_getElem? (i := 1) rfl))) hce hcv hcl ?_)
    refine W.eq (g2 := F0 m 15 ls [.ref q9]) rfl ?_
    refine lv_astore (lv' := [(5, .ref q9), (0, .ref x), (1, .int a1), (2, .int a2), (3, .int a3), (4, .ref ot)]) hx hb dL_setLasts_15 hl (by decide) rfl (fun ls hl => ?_)
    refine lv_iconst (v := 1) hx hb dL_setLasts_17 (by decide) ?_
    have hP9 := hP.sub (ws' := []) [] rfl
    have hD9 := hD.sub (ws' := []) [] (by decide) rfl
    have hK9 := hK.sub (tys' := []) [] rfl
    exact end_i hx hb hr hlocks hP9 hD9 hK9 hS () rfl rfl rfl (Nat.le_of_ble_eq_true rfl) (Nat.le_of_ble_eq_true rfl) dL_setLasts_18
  · exact hw.elim
set_option maxHeartbeats 4000000 in
set_option maxRecDepth 100000 in
/-- the try of freeLasts -/
theorem t_freeLasts (l : Launch) (hlt : l.stackTraces = false) (D : va_G) (tC tE sz : Nat) (x q0 q1 q2 q3 q4 q5 q6 : Nat) (k0 : ClassId) (ot : Nat) (kot : ClassId) (fo : Nat → Int64) (a1 a2 : Int32) : Met l yL_freeLasts wsL_freeLasts ({ frames := 8, cells := 1, slots := 6, locals := 127 }) (Pg D tC tE sz [(x, .inr (13, [.ref q0, .ref q1, .ref q2, .ref q3, .ref q4, .ref q5, .ref q6, .int 0, .int 0, .int 0, .int 0, .int 0, .int 0, .int 0])), (q0, .inl (k0, 5, .inr (.inr (.inr (.inr (fun _ => none)))))), (ot, .inl (kot, 1, .inr (.inl fo)))] [(k0, .object "Lastroom$Model"), (kot, .long)] [.ref x, .int a1, .int a2, .ref ot]) (Qgi (S := Unit) D (fun u => []) (fun u => []) (fun r _ => r = 1) (va_A [(x, .inr (13, [.ref q0, .ref q1, .ref q2, .ref q3, .ref q4, .ref q5, .ref q6, .int 0, .int 0, .int 0, .int 0, .int 0, .int 0, .int 0])), (q0, .inl (k0, 5, .inr (.inr (.inr (.inr (fun _ => none)))))), (ot, .inl (kot, 1, .inr (.inl fo)))] sz)) 1 6 (va_A [(x, .inr (13, [.ref q0, .ref q1, .ref q2, .ref q3, .ref q4, .ref q5, .ref q6, .int 0, .int 0, .int 0, .int 0, .int 0, .int 0, .int 0])), (q0, .inl (k0, 5, .inr (.inr (.inr (.inr (fun _ => none)))))), (ot, .inl (kot, 1, .inr (.inl fo)))] sz) := by
  refine og_h (cc := cL_freeLasts) (maxL := 5) (ret := (some .int)) (hh := [(0, 10, 13, 28), (0, 10, 17, 13)]) (Qc := Qgi (S := Unit) D (fun u => []) (fun u => []) (fun r _ => r = 1)) (by decide) rfl (Nat.le_of_ble_eq_true rfl) ?_
  intro p e s m below meth c A hx hb hr hml hts hown hlocks htab hP hD hK hG hA hS ls hl
  have hl : lv_has ls 5 [(0, .ref x), (1, .int a1), (2, .int a2), (3, .ref ot)] := hl
  refine lv_aload_n hx hb dL_freeLasts_0 rfl (lv_at hl 3 rfl) ?_
  refine lv_iconst (v := 0) hx hb dL_freeLasts_1 (by decide) ?_
  refine lv_aload_n hx hb dL_freeLasts_2 rfl (lv_at hl 0 rfl) ?_
  refine lv_iload_n hx hb dL_freeLasts_3 rfl (lv_at hl 1 rfl) ?_
  refine lv_iload_n hx hb dL_freeLasts_4 rfl (lv_at hl 2 rfl) ?_
  have hFc := va_free (wc := [(x, .inr (13, [.ref q0, .ref q1, .ref q2, .ref q3, .ref q4, .ref q5, .ref q6, .int 0, .int 0, .int 0, .int 0, .int 0, .int 0, .int 0])), (q0, .inl (k0, 5, .inr (.inr (.inr (.inr (fun _ => none))))))]) hD hS hA [0, 1] rfl
  refine vx_calli (vx_runV (As := [.int a1, .int a2]) (rest := [.int 0, .ref ot]) ⟨hx, hb, hml, hown, hts⟩ (c_freeLasts l hlt D tC tE s.heap.size x q0 q1 q2 q3 q4 q5 q6 k0 a1 a2) (cwV 2 hts gL_freeLasts_X9_freeLasts rfl rfl rfl (by decide +kernel) ⟨(Nat.le_of_ble_eq_true rfl), (Nat.le_of_ble_eq_true rfl)⟩) ⟨pg_blind, (va_recv hK hP (ci := 13) (q0 := 0) rfl rfl), (pg_pre hP hD hK hG hS hFc [0, 1] rfl (by decide) [0] rfl _)⟩ rfl rfl hl.1 rfl (lv_room (Nat.le_of_ble_eq_true rfl)) dL_freeLasts_5 ⟨(Nat.le_of_ble_eq_true rfl), (Nat.le_of_ble_eq_true rfl)⟩) hS (fun q _ h => hFc q h) hFc (fun q _ h => hFc q h) (fun E ce q9 u t H1 locs1 ht hvm hw hB hz1 hk1 hS hce hcv hcl => ?_) (fun r_1 u_2 t H locs ht hvm hw hB hz1 hk1 hS => ?_)
  · obtain ⟨hP, hD⟩ := jx (wr := [(ot, .inl (kot, 1, .inr (.inl fo)))]) hP hD [0, 1] [2] rfl rfl (by decide) (by decide) hk1 hFc
    have hP : va_P D vwCl [(ot, .inl (kot, 1, .inr (.inl fo)))] H1 := hP
    have hD : va_D A [(ot, .inl (kot, 1, .inr (.inl fo)))] := hD
    subst hB
    refine vx_widen (k := 1) (n := 6) (Nat.le_of_ble_eq_true rfl) (Nat.le_of_ble_eq_true rfl) (vx_catch (E := gx_ioo) (name := "java/lang/IndexOutOfBoundsException") hown [] ⟨0, 10, 13, 28⟩ [⟨0, 10, 17, 13⟩] (htab.trans rfl) (fun z hz => absurd hz List.not_mem_nil) (by decide) (by decide) (hts (.classLink RL 28 "java/lang/IndexOutOfBoundsException") (List.mem_of_getElem? (i := 1) rfl)) (va_Nw.use rfl (hG.2.2.2.2.2.2.2.2.2.2.1 _ (List.mem_of_getElem? (i := 1) rfl))) hce hcv hcl ?_)
    refine W.eq (g2 := F0 m 13 ls [.ref q9]) rfl ?_
    refine lv_astore (lv' := [(4, .ref q9), (0, .ref x), (1, .int a1), (2, .int a2), (3, .ref ot)]) hx hb dL_freeLasts_13 hl (by decide) rfl (fun ls hl => ?_)
    refine lv_iconst (v := 1) hx hb dL_freeLasts_15 (by decide) ?_
    have hP9 := hP.sub (ws' := []) [] rfl
    have hD9 := hD.sub (ws' := []) [] (by decide) rfl
    have hK9 := hK.sub (tys' := []) [] rfl
    exact end_i hx hb hr hlocks hP9 hD9 hK9 hS () rfl rfl rfl (Nat.le_of_ble_eq_true rfl) (Nat.le_of_ble_eq_true rfl) dL_freeLasts_16
  · exact hw.elim
set_option maxHeartbeats 4000000 in
set_option maxRecDepth 100000 in
/-- the try of missingLasts -/
theorem t_missingLasts (l : Launch) (hlt : l.stackTraces = false) (D : va_G) (tC tE sz : Nat) (x q0 q1 q2 q3 q4 q5 q6 : Nat) (k0 : ClassId) (ot : Nat) (kot : ClassId) (fo : Nat → Int64) (a1 a2 : Int32) : Met l yL_missingLasts wsL_missingLasts ({ frames := 8, cells := 1, slots := 6, locals := 127 }) (Pg D tC tE sz [(x, .inr (13, [.ref q0, .ref q1, .ref q2, .ref q3, .ref q4, .ref q5, .ref q6, .int 0, .int 0, .int 0, .int 0, .int 0, .int 0, .int 0])), (q0, .inl (k0, 5, .inr (.inr (.inr (.inr (fun _ => none)))))), (ot, .inl (kot, 1, .inr (.inl fo)))] [(k0, .object "Lastroom$Model"), (kot, .long)] [.ref x, .int a1, .int a2, .ref ot]) (Qgi (S := Unit) D (fun u => []) (fun u => []) (fun r _ => r = 1) (va_A [(x, .inr (13, [.ref q0, .ref q1, .ref q2, .ref q3, .ref q4, .ref q5, .ref q6, .int 0, .int 0, .int 0, .int 0, .int 0, .int 0, .int 0])), (q0, .inl (k0, 5, .inr (.inr (.inr (.inr (fun _ => none)))))), (ot, .inl (kot, 1, .inr (.inl fo)))] sz)) 1 6 (va_A [(x, .inr (13, [.ref q0, .ref q1, .ref q2, .ref q3, .ref q4, .ref q5, .ref q6, .int 0, .int 0, .int 0, .int 0, .int 0, .int 0, .int 0])), (q0, .inl (k0, 5, .inr (.inr (.inr (.inr (fun _ => none)))))), (ot, .inl (kot, 1, .inr (.inl fo)))] sz) := by
  refine og_h (cc := cL_missingLasts) (maxL := 5) (ret := (some .int)) (hh := [(0, 10, 13, 28), (0, 10, 17, 13)]) (Qc := Qgi (S := Unit) D (fun u => []) (fun u => []) (fun r _ => r = 1)) (by decide) rfl (Nat.le_of_ble_eq_true rfl) ?_
  intro p e s m below meth c A hx hb hr hml hts hown hlocks htab hP hD hK hG hA hS ls hl
  have hl : lv_has ls 5 [(0, .ref x), (1, .int a1), (2, .int a2), (3, .ref ot)] := hl
  refine lv_aload_n hx hb dL_missingLasts_0 rfl (lv_at hl 3 rfl) ?_
  refine lv_iconst (v := 0) hx hb dL_missingLasts_1 (by decide) ?_
  refine lv_aload_n hx hb dL_missingLasts_2 rfl (lv_at hl 0 rfl) ?_
  refine lv_iload_n hx hb dL_missingLasts_3 rfl (lv_at hl 1 rfl) ?_
  refine lv_iload_n hx hb dL_missingLasts_4 rfl (lv_at hl 2 rfl) ?_
  have hFc := va_free (wc := [(x, .inr (13, [.ref q0, .ref q1, .ref q2, .ref q3, .ref q4, .ref q5, .ref q6, .int 0, .int 0, .int 0, .int 0, .int 0, .int 0, .int 0])), (q0, .inl (k0, 5, .inr (.inr (.inr (.inr (fun _ => none))))))]) hD hS hA [0, 1] rfl
  refine vx_calli (vx_runV (As := [.int a1, .int a2]) (rest := [.int 0, .ref ot]) ⟨hx, hb, hml, hown, hts⟩ (c_missingLasts l hlt D tC tE s.heap.size x q0 q1 q2 q3 q4 q5 q6 k0 a1 a2) (cwV 2 hts gL_missingLasts_X9_missingLasts rfl rfl rfl (by decide +kernel) ⟨(Nat.le_of_ble_eq_true rfl), (Nat.le_of_ble_eq_true rfl)⟩) ⟨pg_blind, (va_recv hK hP (ci := 13) (q0 := 0) rfl rfl), (pg_pre hP hD hK hG hS hFc [0, 1] rfl (by decide) [0] rfl _)⟩ rfl rfl hl.1 rfl (lv_room (Nat.le_of_ble_eq_true rfl)) dL_missingLasts_5 ⟨(Nat.le_of_ble_eq_true rfl), (Nat.le_of_ble_eq_true rfl)⟩) hS (fun q _ h => hFc q h) hFc (fun q _ h => hFc q h) (fun E ce q9 u t H1 locs1 ht hvm hw hB hz1 hk1 hS hce hcv hcl => ?_) (fun r_1 u_2 t H locs ht hvm hw hB hz1 hk1 hS => ?_)
  · obtain ⟨hP, hD⟩ := jx (wr := [(ot, .inl (kot, 1, .inr (.inl fo)))]) hP hD [0, 1] [2] rfl rfl (by decide) (by decide) hk1 hFc
    have hP : va_P D vwCl [(ot, .inl (kot, 1, .inr (.inl fo)))] H1 := hP
    have hD : va_D A [(ot, .inl (kot, 1, .inr (.inl fo)))] := hD
    subst hB
    refine vx_widen (k := 1) (n := 6) (Nat.le_of_ble_eq_true rfl) (Nat.le_of_ble_eq_true rfl) (vx_catch (E := gx_ioo) (name := "java/lang/IndexOutOfBoundsException") hown [] ⟨0, 10, 13, 28⟩ [⟨0, 10, 17, 13⟩] (htab.trans rfl) (fun z hz => absurd hz List.not_mem_nil) (by decide) (by decide) (hts (.classLink RL 28 "java/lang/IndexOutOfBoundsException") (List.mem_of_getElem? (i := 1) rfl)) (va_Nw.use rfl (hG.2.2.2.2.2.2.2.2.2.2.1 _ (List.mem_of_getElem? (i := 1) rfl))) hce hcv hcl ?_)
    refine W.eq (g2 := F0 m 13 ls [.ref q9]) rfl ?_
    refine lv_astore (lv' := [(4, .ref q9), (0, .ref x), (1, .int a1), (2, .int a2), (3, .ref ot)]) hx hb dL_missingLasts_13 hl (by decide) rfl (fun ls hl => ?_)
    refine lv_iconst (v := 1) hx hb dL_missingLasts_15 (by decide) ?_
    have hP9 := hP.sub (ws' := []) [] rfl
    have hD9 := hD.sub (ws' := []) [] (by decide) rfl
    have hK9 := hK.sub (tys' := []) [] rfl
    exact end_i hx hb hr hlocks hP9 hD9 hK9 hS () rfl rfl rfl (Nat.le_of_ble_eq_true rfl) (Nat.le_of_ble_eq_true rfl) dL_missingLasts_16
  · exact hw.elim
set_option maxHeartbeats 4000000 in
set_option maxRecDepth 100000 in
/-- the try of style -/
theorem t_style (l : Launch) (hlt : l.stackTraces = false) (D : va_G) (tC tE sz : Nat) (x q0 q1 q2 q3 q4 q5 q6 : Nat) (k0 : ClassId) (ot : Nat) (kot : ClassId) (fo : Nat → Int64) (a1 a2 a3 a4 : Int32) : Met l yL_style wsL_style ({ frames := 8, cells := 1, slots := 6, locals := 129 }) (Pg D tC tE sz [(x, .inr (13, [.ref q0, .ref q1, .ref q2, .ref q3, .ref q4, .ref q5, .ref q6, .int 0, .int 0, .int 0, .int 0, .int 0, .int 0, .int 0])), (q0, .inl (k0, 5, .inr (.inr (.inr (.inr (fun _ => none)))))), (ot, .inl (kot, 1, .inr (.inl fo)))] [(k0, .object "Lastroom$Model"), (kot, .long)] [.ref x, .int a1, .int a2, .int a3, .int a4, .ref ot]) (Qgi (S := Unit) D (fun u => []) (fun u => []) (fun r _ => r = 1) (va_A [(x, .inr (13, [.ref q0, .ref q1, .ref q2, .ref q3, .ref q4, .ref q5, .ref q6, .int 0, .int 0, .int 0, .int 0, .int 0, .int 0, .int 0])), (q0, .inl (k0, 5, .inr (.inr (.inr (.inr (fun _ => none)))))), (ot, .inl (kot, 1, .inr (.inl fo)))] sz)) 1 6 (va_A [(x, .inr (13, [.ref q0, .ref q1, .ref q2, .ref q3, .ref q4, .ref q5, .ref q6, .int 0, .int 0, .int 0, .int 0, .int 0, .int 0, .int 0])), (q0, .inl (k0, 5, .inr (.inr (.inr (.inr (fun _ => none)))))), (ot, .inl (kot, 1, .inr (.inl fo)))] sz) := by
  refine og_h (cc := cL_style) (maxL := 7) (ret := (some .int)) (hh := [(0, 14, 17, 28), (0, 14, 21, 13), (0, 14, 25, 34), (0, 14, 29, 23)]) (Qc := Qgi (S := Unit) D (fun u => []) (fun u => []) (fun r _ => r = 1)) (by decide) rfl (Nat.le_of_ble_eq_true rfl) ?_
  intro p e s m below meth c A hx hb hr hml hts hown hlocks htab hP hD hK hG hA hS ls hl
  have hl : lv_has ls 7 [(0, .ref x), (1, .int a1), (2, .int a2), (3, .int a3), (4, .int a4), (5, .ref ot)] := hl
  refine lv_aload hx hb dL_style_0 (lv_at hl 5 rfl) ?_
  refine lv_iconst (v := 0) hx hb dL_style_2 (by decide) ?_
  refine lv_aload_n hx hb dL_style_3 rfl (lv_at hl 0 rfl) ?_
  refine lv_iload_n hx hb dL_style_4 rfl (lv_at hl 1 rfl) ?_
  refine lv_iload_n hx hb dL_style_5 rfl (lv_at hl 2 rfl) ?_
  refine lv_iload_n hx hb dL_style_6 rfl (lv_at hl 3 rfl) ?_
  refine lv_iload hx hb dL_style_7 (lv_at hl 4 rfl) ?_
  have hFc := va_free (wc := [(x, .inr (13, [.ref q0, .ref q1, .ref q2, .ref q3, .ref q4, .ref q5, .ref q6, .int 0, .int 0, .int 0, .int 0, .int 0, .int 0, .int 0])), (q0, .inl (k0, 5, .inr (.inr (.inr (.inr (fun _ => none))))))]) hD hS hA [0, 1] rfl
  refine vx_calli (vx_runV (As := [.int a1, .int a2, .int a3, .int a4]) (rest := [.int 0, .ref ot]) ⟨hx, hb, hml, hown, hts⟩ (c_style l hlt D tC tE s.heap.size x q0 q1 q2 q3 q4 q5 q6 k0 a1 a2 a3 a4) (cwV 4 hts gL_style_X9_style rfl rfl rfl (by decide +kernel) ⟨(Nat.le_of_ble_eq_true rfl), (Nat.le_of_ble_eq_true rfl)⟩) ⟨pg_blind, (va_recv hK hP (ci := 13) (q0 := 0) rfl rfl), (pg_pre hP hD hK hG hS hFc [0, 1] rfl (by decide) [0] rfl _)⟩ rfl rfl hl.1 rfl (lv_room (Nat.le_of_ble_eq_true rfl)) dL_style_9 ⟨(Nat.le_of_ble_eq_true rfl), (Nat.le_of_ble_eq_true rfl)⟩) hS (fun q _ h => hFc q h) hFc (fun q _ h => hFc q h) (fun E ce q9 u t H1 locs1 ht hvm hw hB hz1 hk1 hS hce hcv hcl => ?_) (fun r_1 u_2 t H locs ht hvm hw hB hz1 hk1 hS => ?_)
  · obtain ⟨hP, hD⟩ := jx (wr := [(ot, .inl (kot, 1, .inr (.inl fo)))]) hP hD [0, 1] [2] rfl rfl (by decide) (by decide) hk1 hFc
    have hP : va_P D vwCl [(ot, .inl (kot, 1, .inr (.inl fo)))] H1 := hP
    have hD : va_D A [(ot, .inl (kot, 1, .inr (.inl fo)))] := hD
    subst hB
    refine vx_widen (k := 1) (n := 6) (Nat.le_of_ble_eq_true rfl) (Nat.le_of_ble_eq_true rfl) (vx_catch (E := gx_ioo) (name := "java/lang/IndexOutOfBoundsException") hown [] ⟨0, 14, 17, 28⟩ [⟨0, 14, 21, 13⟩, ⟨0, 14, 25, 34⟩, ⟨0, 14, 29, 23⟩] (htab.trans rfl) (fun z hz => absurd hz List.not_mem_nil) (by decide) (by decide) (hts (.classLink RL 28 "java/lang/IndexOutOfBoundsException") (List.mem_of_getElem? (i := 1) rfl)) (va_Nw.use rfl (hG.2.2.2.2.2.2.2.2.2.2.1 _ (List.mem_of_getElem? (i := 1) rfl))) hce hcv hcl ?_)
    refine W.eq (g2 := F0 m 17 ls [.ref q9]) rfl ?_
    refine lv_astore (lv' := [(6, .ref q9), (0, .ref x), (1, .int a1), (2, .int a2), (3, .int a3), (4, .int a4), (5, .ref ot)]) hx hb dL_style_17 hl (by decide) rfl (fun ls hl => ?_)
    refine lv_iconst (v := 1) hx hb dL_style_19 (by decide) ?_
    have hP9 := hP.sub (ws' := []) [] rfl
    have hD9 := hD.sub (ws' := []) [] (by decide) rfl
    have hK9 := hK.sub (tys' := []) [] rfl
    exact end_i hx hb hr hlocks hP9 hD9 hK9 hS () rfl rfl rfl (Nat.le_of_ble_eq_true rfl) (Nat.le_of_ble_eq_true rfl) dL_style_20
  · exact hw.elim
set_option maxHeartbeats 4000000 in
set_option maxRecDepth 100000 in
/-- the try of piece -/
theorem t_piece (l : Launch) (hlt : l.stackTraces = false) (D : va_G) (tC tE sz : Nat) (x q0 q1 q2 q3 q4 q5 q6 : Nat) (k1 : ClassId) (ot : Nat) (kot : ClassId) (fo : Nat → Int64) (a1 a2 a3 a4 a5 a6 : Int32) : Met l yL_piece wsL_piece ({ frames := 8, cells := 1, slots := 6, locals := 131 }) (Pg D tC tE sz [(x, .inr (13, [.ref q0, .ref q1, .ref q2, .ref q3, .ref q4, .ref q5, .ref q6, .int 0, .int 0, .int 0, .int 0, .int 0, .int 0, .int 0])), (q1, .inl (k1, 6, .inr (.inr (.inr (.inr (fun _ => none)))))), (ot, .inl (kot, 1, .inr (.inl fo)))] [(k1, .object "Lastroom$Style"), (kot, .long)] [.ref x, .int a1, .int a2, .int a3, .int a4, .int a5, .int a6, .ref ot]) (Qgi (S := Unit) D (fun u => []) (fun u => []) (fun r _ => r = 1) (va_A [(x, .inr (13, [.ref q0, .ref q1, .ref q2, .ref q3, .ref q4, .ref q5, .ref q6, .int 0, .int 0, .int 0, .int 0, .int 0, .int 0, .int 0])), (q1, .inl (k1, 6, .inr (.inr (.inr (.inr (fun _ => none)))))), (ot, .inl (kot, 1, .inr (.inl fo)))] sz)) 1 6 (va_A [(x, .inr (13, [.ref q0, .ref q1, .ref q2, .ref q3, .ref q4, .ref q5, .ref q6, .int 0, .int 0, .int 0, .int 0, .int 0, .int 0, .int 0])), (q1, .inl (k1, 6, .inr (.inr (.inr (.inr (fun _ => none)))))), (ot, .inl (kot, 1, .inr (.inl fo)))] sz) := by
  refine og_h (cc := cL_piece) (maxL := 9) (ret := (some .int)) (hh := [(0, 18, 21, 28), (0, 18, 25, 13), (0, 18, 29, 23)]) (Qc := Qgi (S := Unit) D (fun u => []) (fun u => []) (fun r _ => r = 1)) (by decide) rfl (Nat.le_of_ble_eq_true rfl) ?_
  intro p e s m below meth c A hx hb hr hml hts hown hlocks htab hP hD hK hG hA hS ls hl
  have hl : lv_has ls 9 [(0, .ref x), (1, .int a1), (2, .int a2), (3, .int a3), (4, .int a4), (5, .int a5), (6, .int a6), (7, .ref ot)] := hl
  refine lv_aload hx hb dL_piece_0 (lv_at hl 7 rfl) ?_
  refine lv_iconst (v := 0) hx hb dL_piece_2 (by decide) ?_
  refine lv_aload_n hx hb dL_piece_3 rfl (lv_at hl 0 rfl) ?_
  refine lv_iload_n hx hb dL_piece_4 rfl (lv_at hl 1 rfl) ?_
  refine lv_iload_n hx hb dL_piece_5 rfl (lv_at hl 2 rfl) ?_
  refine lv_iload_n hx hb dL_piece_6 rfl (lv_at hl 3 rfl) ?_
  refine lv_iload hx hb dL_piece_7 (lv_at hl 4 rfl) ?_
  refine lv_iload hx hb dL_piece_9 (lv_at hl 5 rfl) ?_
  refine lv_iload hx hb dL_piece_11 (lv_at hl 6 rfl) ?_
  have hFc := va_free (wc := [(x, .inr (13, [.ref q0, .ref q1, .ref q2, .ref q3, .ref q4, .ref q5, .ref q6, .int 0, .int 0, .int 0, .int 0, .int 0, .int 0, .int 0])), (q1, .inl (k1, 6, .inr (.inr (.inr (.inr (fun _ => none))))))]) hD hS hA [0, 1] rfl
  refine vx_calli (vx_runV (As := [.int a1, .int a2, .int a3, .int a4, .int a5, .int a6]) (rest := [.int 0, .ref ot]) ⟨hx, hb, hml, hown, hts⟩ (c_piece l hlt D tC tE s.heap.size x q0 q1 q2 q3 q4 q5 q6 k1 a1 a2 a3 a4 a5 a6) (cwV 6 hts gL_piece_X9_piece rfl rfl rfl (by decide +kernel) ⟨(Nat.le_of_ble_eq_true rfl), (Nat.le_of_ble_eq_true rfl)⟩) ⟨pg_blind, (va_recv hK hP (ci := 13) (q0 := 0) rfl rfl), (pg_pre hP hD hK hG hS hFc [0, 1] rfl (by decide) [0] rfl _)⟩ rfl rfl hl.1 rfl (lv_room (Nat.le_of_ble_eq_true rfl)) dL_piece_13 ⟨(Nat.le_of_ble_eq_true rfl), (Nat.le_of_ble_eq_true rfl)⟩) hS (fun q _ h => hFc q h) hFc (fun q _ h => hFc q h) (fun E ce q9 u t H1 locs1 ht hvm hw hB hz1 hk1 hS hce hcv hcl => ?_) (fun r_1 u_2 t H locs ht hvm hw hB hz1 hk1 hS => ?_)
  · obtain ⟨hP, hD⟩ := jx (wr := [(ot, .inl (kot, 1, .inr (.inl fo)))]) hP hD [0, 1] [2] rfl rfl (by decide) (by decide) hk1 hFc
    have hP : va_P D vwCl [(ot, .inl (kot, 1, .inr (.inl fo)))] H1 := hP
    have hD : va_D A [(ot, .inl (kot, 1, .inr (.inl fo)))] := hD
    subst hB
    refine vx_widen (k := 1) (n := 6) (Nat.le_of_ble_eq_true rfl) (Nat.le_of_ble_eq_true rfl) (vx_catch (E := gx_ioo) (name := "java/lang/IndexOutOfBoundsException") hown [] ⟨0, 18, 21, 28⟩ [⟨0, 18, 25, 13⟩, ⟨0, 18, 29, 23⟩] (htab.trans rfl) (fun z hz => absurd hz List.not_mem_nil) (by decide) (by decide) (hts (.classLink RL 28 "java/lang/IndexOutOfBoundsException") (List.mem_of_getElem? (i := 1) rfl)) (va_Nw.use rfl (hG.2.2.2.2.2.2.2.2.2.2.1 _ (List.mem_of_getElem? (i := 1) rfl))) hce hcv hcl ?_)
    refine W.eq (g2 := F0 m 21 ls [.ref q9]) rfl ?_
    refine lv_astore (lv' := [(8, .ref q9), (0, .ref x), (1, .int a1), (2, .int a2), (3, .int a3), (4, .int a4), (5, .int a5), (6, .int a6), (7, .ref ot)]) hx hb dL_piece_21 hl (by decide) rfl (fun ls hl => ?_)
    refine lv_iconst (v := 1) hx hb dL_piece_23 (by decide) ?_
    have hP9 := hP.sub (ws' := []) [] rfl
    have hD9 := hD.sub (ws' := []) [] (by decide) rfl
    have hK9 := hK.sub (tys' := []) [] rfl
    exact end_i hx hb hr hlocks hP9 hD9 hK9 hS () rfl rfl rfl (Nat.le_of_ble_eq_true rfl) (Nat.le_of_ble_eq_true rfl) dL_piece_24
  · exact hw.elim
set_option maxHeartbeats 4000000 in
set_option maxRecDepth 100000 in
/-- the try of seam -/
theorem t_seam (l : Launch) (hlt : l.stackTraces = false) (D : va_G) (tC tE sz : Nat) (x q0 q1 q2 q3 q4 q5 q6 : Nat) (k1 : ClassId) (ot : Nat) (kot : ClassId) (fo : Nat → Int64) (a1 a2 a3 a4 : Int32) : Met l yL_seam wsL_seam ({ frames := 8, cells := 1, slots := 6, locals := 129 }) (Pg D tC tE sz [(x, .inr (13, [.ref q0, .ref q1, .ref q2, .ref q3, .ref q4, .ref q5, .ref q6, .int 0, .int 0, .int 0, .int 0, .int 0, .int 0, .int 0])), (q1, .inl (k1, 6, .inr (.inr (.inr (.inr (fun _ => none)))))), (ot, .inl (kot, 1, .inr (.inl fo)))] [(k1, .object "Lastroom$Style"), (kot, .long)] [.ref x, .int a1, .int a2, .int a3, .int a4, .ref ot]) (Qgi (S := Unit) D (fun u => []) (fun u => []) (fun r _ => r = 1) (va_A [(x, .inr (13, [.ref q0, .ref q1, .ref q2, .ref q3, .ref q4, .ref q5, .ref q6, .int 0, .int 0, .int 0, .int 0, .int 0, .int 0, .int 0])), (q1, .inl (k1, 6, .inr (.inr (.inr (.inr (fun _ => none)))))), (ot, .inl (kot, 1, .inr (.inl fo)))] sz)) 1 6 (va_A [(x, .inr (13, [.ref q0, .ref q1, .ref q2, .ref q3, .ref q4, .ref q5, .ref q6, .int 0, .int 0, .int 0, .int 0, .int 0, .int 0, .int 0])), (q1, .inl (k1, 6, .inr (.inr (.inr (.inr (fun _ => none)))))), (ot, .inl (kot, 1, .inr (.inl fo)))] sz) := by
  refine og_h (cc := cL_seam) (maxL := 7) (ret := (some .int)) (hh := [(0, 14, 17, 28), (0, 14, 21, 13), (0, 14, 25, 23)]) (Qc := Qgi (S := Unit) D (fun u => []) (fun u => []) (fun r _ => r = 1)) (by decide) rfl (Nat.le_of_ble_eq_true rfl) ?_
  intro p e s m below meth c A hx hb hr hml hts hown hlocks htab hP hD hK hG hA hS ls hl
  have hl : lv_has ls 7 [(0, .ref x), (1, .int a1), (2, .int a2), (3, .int a3), (4, .int a4), (5, .ref ot)] := hl
  refine lv_aload hx hb dL_seam_0 (lv_at hl 5 rfl) ?_
  refine lv_iconst (v := 0) hx hb dL_seam_2 (by decide) ?_
  refine lv_aload_n hx hb dL_seam_3 rfl (lv_at hl 0 rfl) ?_
  refine lv_iload_n hx hb dL_seam_4 rfl (lv_at hl 1 rfl) ?_
  refine lv_iload_n hx hb dL_seam_5 rfl (lv_at hl 2 rfl) ?_
  refine lv_iload_n hx hb dL_seam_6 rfl (lv_at hl 3 rfl) ?_
  refine lv_iload hx hb dL_seam_7 (lv_at hl 4 rfl) ?_
  have hFc := va_free (wc := [(x, .inr (13, [.ref q0, .ref q1, .ref q2, .ref q3, .ref q4, .ref q5, .ref q6, .int 0, .int 0, .int 0, .int 0, .int 0, .int 0, .int 0])), (q1, .inl (k1, 6, .inr (.inr (.inr (.inr (fun _ => none))))))]) hD hS hA [0, 1] rfl
  refine vx_calli (vx_runV (As := [.int a1, .int a2, .int a3, .int a4]) (rest := [.int 0, .ref ot]) ⟨hx, hb, hml, hown, hts⟩ (c_seam l hlt D tC tE s.heap.size x q0 q1 q2 q3 q4 q5 q6 k1 a1 a2 a3 a4) (cwV 4 hts gL_seam_X9_seam rfl rfl rfl (by decide +kernel) ⟨(Nat.le_of_ble_eq_true rfl), (Nat.le_of_ble_eq_true rfl)⟩) ⟨pg_blind, (va_recv hK hP (ci := 13) (q0 := 0) rfl rfl), (pg_pre hP hD hK hG hS hFc [0, 1] rfl (by decide) [0] rfl _)⟩ rfl rfl hl.1 rfl (lv_room (Nat.le_of_ble_eq_true rfl)) dL_seam_9 ⟨(Nat.le_of_ble_eq_true rfl), (Nat.le_of_ble_eq_true rfl)⟩) hS (fun q _ h => hFc q h) hFc (fun q _ h => hFc q h) (fun E ce q9 u t H1 locs1 ht hvm hw hB hz1 hk1 hS hce hcv hcl => ?_) (fun r_1 u_2 t H locs ht hvm hw hB hz1 hk1 hS => ?_)
  · obtain ⟨hP, hD⟩ := jx (wr := [(ot, .inl (kot, 1, .inr (.inl fo)))]) hP hD [0, 1] [2] rfl rfl (by decide) (by decide) hk1 hFc
    have hP : va_P D vwCl [(ot, .inl (kot, 1, .inr (.inl fo)))] H1 := hP
    have hD : va_D A [(ot, .inl (kot, 1, .inr (.inl fo)))] := hD
    subst hB
    refine vx_widen (k := 1) (n := 6) (Nat.le_of_ble_eq_true rfl) (Nat.le_of_ble_eq_true rfl) (vx_catch (E := gx_ioo) (name := "java/lang/IndexOutOfBoundsException") hown [] ⟨0, 14, 17, 28⟩ [⟨0, 14, 21, 13⟩, ⟨0, 14, 25, 23⟩] (htab.trans rfl) (fun z hz => absurd hz List.not_mem_nil) (by decide) (by decide) (hts (.classLink RL 28 "java/lang/IndexOutOfBoundsException") (List.mem_of_getElem? (i := 1) rfl)) (va_Nw.use rfl (hG.2.2.2.2.2.2.2.2.2.2.1 _ (List.mem_of_getElem? (i := 1) rfl))) hce hcv hcl ?_)
    refine W.eq (g2 := F0 m 17 ls [.ref q9]) rfl ?_
    refine lv_astore (lv' := [(6, .ref q9), (0, .ref x), (1, .int a1), (2, .int a2), (3, .int a3), (4, .int a4), (5, .ref ot)]) hx hb dL_seam_17 hl (by decide) rfl (fun ls hl => ?_)
    refine lv_iconst (v := 1) hx hb dL_seam_19 (by decide) ?_
    have hP9 := hP.sub (ws' := []) [] rfl
    have hD9 := hD.sub (ws' := []) [] (by decide) rfl
    have hK9 := hK.sub (tys' := []) [] rfl
    exact end_i hx hb hr hlocks hP9 hD9 hK9 hS () rfl rfl rfl (Nat.le_of_ble_eq_true rfl) (Nat.le_of_ble_eq_true rfl) dL_seam_20
  · exact hw.elim
set_option maxHeartbeats 4000000 in
set_option maxRecDepth 100000 in
/-- the try of pieceCells -/
theorem t_pieceCells (l : Launch) (hlt : l.stackTraces = false) (D : va_G) (tC tE sz : Nat) (x q0 q1 q2 q3 q4 q5 q6 : Nat) (k1 : ClassId) (ot : Nat) (kot : ClassId) (fo : Nat → Int64) (a1 a2 a3 a4 : Int32) : Met l yL_pieceCells wsL_pieceCells ({ frames := 8, cells := 1, slots := 6, locals := 129 }) (Pg D tC tE sz [(x, .inr (13, [.ref q0, .ref q1, .ref q2, .ref q3, .ref q4, .ref q5, .ref q6, .int 0, .int 0, .int 0, .int 0, .int 0, .int 0, .int 0])), (q1, .inl (k1, 6, .inr (.inr (.inr (.inr (fun _ => none)))))), (ot, .inl (kot, 1, .inr (.inl fo)))] [(k1, .object "Lastroom$Style"), (kot, .long)] [.ref x, .int a1, .int a2, .int a3, .int a4, .ref ot]) (Qgi (S := Unit) D (fun u => []) (fun u => []) (fun r _ => r = 1) (va_A [(x, .inr (13, [.ref q0, .ref q1, .ref q2, .ref q3, .ref q4, .ref q5, .ref q6, .int 0, .int 0, .int 0, .int 0, .int 0, .int 0, .int 0])), (q1, .inl (k1, 6, .inr (.inr (.inr (.inr (fun _ => none)))))), (ot, .inl (kot, 1, .inr (.inl fo)))] sz)) 1 6 (va_A [(x, .inr (13, [.ref q0, .ref q1, .ref q2, .ref q3, .ref q4, .ref q5, .ref q6, .int 0, .int 0, .int 0, .int 0, .int 0, .int 0, .int 0])), (q1, .inl (k1, 6, .inr (.inr (.inr (.inr (fun _ => none)))))), (ot, .inl (kot, 1, .inr (.inl fo)))] sz) := by
  refine og_h (cc := cL_pieceCells) (maxL := 7) (ret := (some .int)) (hh := [(0, 14, 17, 28), (0, 14, 21, 13)]) (Qc := Qgi (S := Unit) D (fun u => []) (fun u => []) (fun r _ => r = 1)) (by decide) rfl (Nat.le_of_ble_eq_true rfl) ?_
  intro p e s m below meth c A hx hb hr hml hts hown hlocks htab hP hD hK hG hA hS ls hl
  have hl : lv_has ls 7 [(0, .ref x), (1, .int a1), (2, .int a2), (3, .int a3), (4, .int a4), (5, .ref ot)] := hl
  refine lv_aload hx hb dL_pieceCells_0 (lv_at hl 5 rfl) ?_
  refine lv_iconst (v := 0) hx hb dL_pieceCells_2 (by decide) ?_
  refine lv_aload_n hx hb dL_pieceCells_3 rfl (lv_at hl 0 rfl) ?_
  refine lv_iload_n hx hb dL_pieceCells_4 rfl (lv_at hl 1 rfl) ?_
  refine lv_iload_n hx hb dL_pieceCells_5 rfl (lv_at hl 2 rfl) ?_
  refine lv_iload_n hx hb dL_pieceCells_6 rfl (lv_at hl 3 rfl) ?_
  refine lv_iload hx hb dL_pieceCells_7 (lv_at hl 4 rfl) ?_
  have hFc := va_free (wc := [(x, .inr (13, [.ref q0, .ref q1, .ref q2, .ref q3, .ref q4, .ref q5, .ref q6, .int 0, .int 0, .int 0, .int 0, .int 0, .int 0, .int 0])), (q1, .inl (k1, 6, .inr (.inr (.inr (.inr (fun _ => none))))))]) hD hS hA [0, 1] rfl
  refine vx_calli (vx_runV (As := [.int a1, .int a2, .int a3, .int a4]) (rest := [.int 0, .ref ot]) ⟨hx, hb, hml, hown, hts⟩ (c_pieceCells l hlt D tC tE s.heap.size x q0 q1 q2 q3 q4 q5 q6 k1 a1 a2 a3 a4) (cwV 4 hts gL_pieceCells_X9_pieceCells rfl rfl rfl (by decide +kernel) ⟨(Nat.le_of_ble_eq_true rfl), (Nat.le_of_ble_eq_true rfl)⟩) ⟨pg_blind, (va_recv hK hP (ci := 13) (q0 := 0) rfl rfl), (pg_pre hP hD hK hG hS hFc [0, 1] rfl (by decide) [0] rfl _)⟩ rfl rfl hl.1 rfl (lv_room (Nat.le_of_ble_eq_true rfl)) dL_pieceCells_9 ⟨(Nat.le_of_ble_eq_true rfl), (Nat.le_of_ble_eq_true rfl)⟩) hS (fun q _ h => hFc q h) hFc (fun q _ h => hFc q h) (fun E ce q9 u t H1 locs1 ht hvm hw hB hz1 hk1 hS hce hcv hcl => ?_) (fun r_1 u_2 t H locs ht hvm hw hB hz1 hk1 hS => ?_)
  · obtain ⟨hP, hD⟩ := jx (wr := [(ot, .inl (kot, 1, .inr (.inl fo)))]) hP hD [0, 1] [2] rfl rfl (by decide) (by decide) hk1 hFc
    have hP : va_P D vwCl [(ot, .inl (kot, 1, .inr (.inl fo)))] H1 := hP
    have hD : va_D A [(ot, .inl (kot, 1, .inr (.inl fo)))] := hD
    subst hB
    refine vx_widen (k := 1) (n := 6) (Nat.le_of_ble_eq_true rfl) (Nat.le_of_ble_eq_true rfl) (vx_catch (E := gx_ioo) (name := "java/lang/IndexOutOfBoundsException") hown [] ⟨0, 14, 17, 28⟩ [⟨0, 14, 21, 13⟩] (htab.trans rfl) (fun z hz => absurd hz List.not_mem_nil) (by decide) (by decide) (hts (.classLink RL 28 "java/lang/IndexOutOfBoundsException") (List.mem_of_getElem? (i := 1) rfl)) (va_Nw.use rfl (hG.2.2.2.2.2.2.2.2.2.2.1 _ (List.mem_of_getElem? (i := 1) rfl))) hce hcv hcl ?_)
    refine W.eq (g2 := F0 m 17 ls [.ref q9]) rfl ?_
    refine lv_astore (lv' := [(6, .ref q9), (0, .ref x), (1, .int a1), (2, .int a2), (3, .int a3), (4, .int a4), (5, .ref ot)]) hx hb dL_pieceCells_17 hl (by decide) rfl (fun ls hl => ?_)
    refine lv_iconst (v := 1) hx hb dL_pieceCells_19 (by decide) ?_
    have hP9 := hP.sub (ws' := []) [] rfl
    have hD9 := hD.sub (ws' := []) [] (by decide) rfl
    have hK9 := hK.sub (tys' := []) [] rfl
    exact end_i hx hb hr hlocks hP9 hD9 hK9 hS () rfl rfl rfl (Nat.le_of_ble_eq_true rfl) (Nat.le_of_ble_eq_true rfl) dL_pieceCells_20
  · exact hw.elim
set_option maxHeartbeats 4000000 in
set_option maxRecDepth 100000 in
/-- the try of shortest -/
theorem t_shortest (l : Launch) (hlt : l.stackTraces = false) (D : va_G) (tC tE sz : Nat) (x q0 q1 q2 q3 q4 q5 q6 : Nat) (k1 : ClassId) (ot : Nat) (kot : ClassId) (fo : Nat → Int64) (a1 : Int32) : Met l yL_shortest wsL_shortest ({ frames := 8, cells := 1, slots := 6, locals := 125 }) (Pg D tC tE sz [(x, .inr (13, [.ref q0, .ref q1, .ref q2, .ref q3, .ref q4, .ref q5, .ref q6, .int 0, .int 0, .int 0, .int 0, .int 0, .int 0, .int 0])), (q1, .inl (k1, 6, .inr (.inr (.inr (.inr (fun _ => none)))))), (ot, .inl (kot, 1, .inr (.inl fo)))] [(k1, .object "Lastroom$Style"), (kot, .long)] [.ref x, .int a1, .ref ot]) (Qgi (S := Unit) D (fun u => []) (fun u => []) (fun r _ => r = 1) (va_A [(x, .inr (13, [.ref q0, .ref q1, .ref q2, .ref q3, .ref q4, .ref q5, .ref q6, .int 0, .int 0, .int 0, .int 0, .int 0, .int 0, .int 0])), (q1, .inl (k1, 6, .inr (.inr (.inr (.inr (fun _ => none)))))), (ot, .inl (kot, 1, .inr (.inl fo)))] sz)) 1 6 (va_A [(x, .inr (13, [.ref q0, .ref q1, .ref q2, .ref q3, .ref q4, .ref q5, .ref q6, .int 0, .int 0, .int 0, .int 0, .int 0, .int 0, .int 0])), (q1, .inl (k1, 6, .inr (.inr (.inr (.inr (fun _ => none)))))), (ot, .inl (kot, 1, .inr (.inl fo)))] sz) := by
  refine og_h (cc := cL_shortest) (maxL := 4) (ret := (some .int)) (hh := [(0, 9, 12, 28)]) (Qc := Qgi (S := Unit) D (fun u => []) (fun u => []) (fun r _ => r = 1)) (by decide) rfl (Nat.le_of_ble_eq_true rfl) ?_
  intro p e s m below meth c A hx hb hr hml hts hown hlocks htab hP hD hK hG hA hS ls hl
  have hl : lv_has ls 4 [(0, .ref x), (1, .int a1), (2, .ref ot)] := hl
  refine lv_aload_n hx hb dL_shortest_0 rfl (lv_at hl 2 rfl) ?_
  refine lv_iconst (v := 0) hx hb dL_shortest_1 (by decide) ?_
  refine lv_aload_n hx hb dL_shortest_2 rfl (lv_at hl 0 rfl) ?_
  refine lv_iload_n hx hb dL_shortest_3 rfl (lv_at hl 1 rfl) ?_
  have hFc := va_free (wc := [(x, .inr (13, [.ref q0, .ref q1, .ref q2, .ref q3, .ref q4, .ref q5, .ref q6, .int 0, .int 0, .int 0, .int 0, .int 0, .int 0, .int 0])), (q1, .inl (k1, 6, .inr (.inr (.inr (.inr (fun _ => none))))))]) hD hS hA [0, 1] rfl
  refine vx_calli (vx_runV (As := [.int a1]) (rest := [.int 0, .ref ot]) ⟨hx, hb, hml, hown, hts⟩ (c_shortest l hlt D tC tE s.heap.size x q0 q1 q2 q3 q4 q5 q6 k1 a1) (cwV 1 hts gL_shortest_X9_shortest rfl rfl rfl (by decide +kernel) ⟨(Nat.le_of_ble_eq_true rfl), (Nat.le_of_ble_eq_true rfl)⟩) ⟨pg_blind, (va_recv hK hP (ci := 13) (q0 := 0) rfl rfl), (pg_pre hP hD hK hG hS hFc [0, 1] rfl (by decide) [0] rfl _)⟩ rfl rfl hl.1 rfl (lv_room (Nat.le_of_ble_eq_true rfl)) dL_shortest_4 ⟨(Nat.le_of_ble_eq_true rfl), (Nat.le_of_ble_eq_true rfl)⟩) hS (fun q _ h => hFc q h) hFc (fun q _ h => hFc q h) (fun E ce q9 u t H1 locs1 ht hvm hw hB hz1 hk1 hS hce hcv hcl => ?_) (fun r_1 u_2 t H locs ht hvm hw hB hz1 hk1 hS => ?_)
  · obtain ⟨hP, hD⟩ := jx (wr := [(ot, .inl (kot, 1, .inr (.inl fo)))]) hP hD [0, 1] [2] rfl rfl (by decide) (by decide) hk1 hFc
    have hP : va_P D vwCl [(ot, .inl (kot, 1, .inr (.inl fo)))] H1 := hP
    have hD : va_D A [(ot, .inl (kot, 1, .inr (.inl fo)))] := hD
    subst hB
    refine vx_widen (k := 1) (n := 6) (Nat.le_of_ble_eq_true rfl) (Nat.le_of_ble_eq_true rfl) (vx_catch (E := gx_ioo) (name := "java/lang/IndexOutOfBoundsException") hown [] ⟨0, 9, 12, 28⟩ [] (htab.trans rfl) (fun z hz => absurd hz List.not_mem_nil) (by decide) (by decide) (hts (.classLink RL 28 "java/lang/IndexOutOfBoundsException") (List.mem_of_getElem? (i := 1) rfl)) (va_Nw.use rfl (hG.2.2.2.2.2.2.2.2.2.2.1 _ (List.mem_of_getElem? (i := 1) rfl))) hce hcv hcl ?_)
    refine W.eq (g2 := F0 m 12 ls [.ref q9]) rfl ?_
    refine lv_astore_n (lv' := [(3, .ref q9), (0, .ref x), (1, .int a1), (2, .ref ot)]) hx hb dL_shortest_12 rfl hl (by decide) rfl (fun ls hl => ?_)
    refine lv_iconst (v := 1) hx hb dL_shortest_13 (by decide) ?_
    have hP9 := hP.sub (ws' := []) [] rfl
    have hD9 := hD.sub (ws' := []) [] (by decide) rfl
    have hK9 := hK.sub (tys' := []) [] rfl
    exact end_i hx hb hr hlocks hP9 hD9 hK9 hS () rfl rfl rfl (Nat.le_of_ble_eq_true rfl) (Nat.le_of_ble_eq_true rfl) dL_shortest_14
  · exact hw.elim
set_option maxHeartbeats 4000000 in
set_option maxRecDepth 100000 in
/-- the try of bonds -/
theorem t_bonds (l : Launch) (hlt : l.stackTraces = false) (D : va_G) (tC tE sz : Nat) (x q0 q1 q2 q3 q4 q5 q6 : Nat) (k1 : ClassId) (ot : Nat) (kot : ClassId) (fo : Nat → Int64) (a1 : Int32) : Met l yL_bonds wsL_bonds ({ frames := 8, cells := 1, slots := 6, locals := 125 }) (Pg D tC tE sz [(x, .inr (13, [.ref q0, .ref q1, .ref q2, .ref q3, .ref q4, .ref q5, .ref q6, .int 0, .int 0, .int 0, .int 0, .int 0, .int 0, .int 0])), (q1, .inl (k1, 6, .inr (.inr (.inr (.inr (fun _ => none)))))), (ot, .inl (kot, 1, .inr (.inl fo)))] [(k1, .object "Lastroom$Style"), (kot, .long)] [.ref x, .int a1, .ref ot]) (Qgi (S := Unit) D (fun u => []) (fun u => []) (fun r _ => r = 1) (va_A [(x, .inr (13, [.ref q0, .ref q1, .ref q2, .ref q3, .ref q4, .ref q5, .ref q6, .int 0, .int 0, .int 0, .int 0, .int 0, .int 0, .int 0])), (q1, .inl (k1, 6, .inr (.inr (.inr (.inr (fun _ => none)))))), (ot, .inl (kot, 1, .inr (.inl fo)))] sz)) 1 6 (va_A [(x, .inr (13, [.ref q0, .ref q1, .ref q2, .ref q3, .ref q4, .ref q5, .ref q6, .int 0, .int 0, .int 0, .int 0, .int 0, .int 0, .int 0])), (q1, .inl (k1, 6, .inr (.inr (.inr (.inr (fun _ => none)))))), (ot, .inl (kot, 1, .inr (.inl fo)))] sz) := by
  refine og_h (cc := cL_bonds) (maxL := 4) (ret := (some .int)) (hh := [(0, 16, 19, 28)]) (Qc := Qgi (S := Unit) D (fun u => []) (fun u => []) (fun r _ => r = 1)) (by decide) rfl (Nat.le_of_ble_eq_true rfl) ?_
  intro p e s m below meth c A hx hb hr hml hts hown hlocks htab hP hD hK hG hA hS ls hl
  have hl : lv_has ls 4 [(0, .ref x), (1, .int a1), (2, .ref ot)] := hl
  refine lv_aload_n hx hb dL_bonds_0 rfl (lv_at hl 2 rfl) ?_
  refine lv_iconst (v := 0) hx hb dL_bonds_1 (by decide) ?_
  refine lv_aload_n hx hb dL_bonds_2 rfl (lv_at hl 0 rfl) ?_
  refine lv_iload_n hx hb dL_bonds_3 rfl (lv_at hl 1 rfl) ?_
  have hFc := va_free (wc := [(x, .inr (13, [.ref q0, .ref q1, .ref q2, .ref q3, .ref q4, .ref q5, .ref q6, .int 0, .int 0, .int 0, .int 0, .int 0, .int 0, .int 0])), (q1, .inl (k1, 6, .inr (.inr (.inr (.inr (fun _ => none))))))]) hD hS hA [0, 1] rfl
  refine vx_calli (vx_runV (As := [.int a1]) (rest := [.int 0, .ref ot]) ⟨hx, hb, hml, hown, hts⟩ (c_bonds l hlt D tC tE s.heap.size x q0 q1 q2 q3 q4 q5 q6 k1 a1) (cwV 1 hts gL_bonds_X9_bonds rfl rfl rfl (by decide +kernel) ⟨(Nat.le_of_ble_eq_true rfl), (Nat.le_of_ble_eq_true rfl)⟩) ⟨pg_blind, (va_recv hK hP (ci := 13) (q0 := 0) rfl rfl), (pg_pre hP hD hK hG hS hFc [0, 1] rfl (by decide) [0] rfl _)⟩ rfl rfl hl.1 rfl (lv_room (Nat.le_of_ble_eq_true rfl)) dL_bonds_4 ⟨(Nat.le_of_ble_eq_true rfl), (Nat.le_of_ble_eq_true rfl)⟩) hS (fun q _ h => hFc q h) hFc (fun q _ h => hFc q h) (fun E ce q9 u t H1 locs1 ht hvm hw hB hz1 hk1 hS hce hcv hcl => ?_) (fun r_1 u_2 t H locs ht hvm hw hB hz1 hk1 hS => ?_)
  · obtain ⟨hP, hD⟩ := jx (wr := [(ot, .inl (kot, 1, .inr (.inl fo)))]) hP hD [0, 1] [2] rfl rfl (by decide) (by decide) hk1 hFc
    have hP : va_P D vwCl [(ot, .inl (kot, 1, .inr (.inl fo)))] H1 := hP
    have hD : va_D A [(ot, .inl (kot, 1, .inr (.inl fo)))] := hD
    subst hB
    refine vx_widen (k := 1) (n := 6) (Nat.le_of_ble_eq_true rfl) (Nat.le_of_ble_eq_true rfl) (vx_catch (E := gx_ioo) (name := "java/lang/IndexOutOfBoundsException") hown [] ⟨0, 16, 19, 28⟩ [] (htab.trans rfl) (fun z hz => absurd hz List.not_mem_nil) (by decide) (by decide) (hts (.classLink RL 28 "java/lang/IndexOutOfBoundsException") (List.mem_of_getElem? (i := 1) rfl)) (va_Nw.use rfl (hG.2.2.2.2.2.2.2.2.2.2.1 _ (List.mem_of_getElem? (i := 1) rfl))) hce hcv hcl ?_)
    refine W.eq (g2 := F0 m 19 ls [.ref q9]) rfl ?_
    refine lv_astore_n (lv' := [(3, .ref q9), (0, .ref x), (1, .int a1), (2, .ref ot)]) hx hb dL_bonds_19 rfl hl (by decide) rfl (fun ls hl => ?_)
    refine lv_iconst (v := 1) hx hb dL_bonds_20 (by decide) ?_
    have hP9 := hP.sub (ws' := []) [] rfl
    have hD9 := hD.sub (ws' := []) [] (by decide) rfl
    have hK9 := hK.sub (tys' := []) [] rfl
    exact end_i hx hb hr hlocks hP9 hD9 hK9 hS () rfl rfl rfl (Nat.le_of_ble_eq_true rfl) (Nat.le_of_ble_eq_true rfl) dL_bonds_21
  · exact hw.elim
set_option maxHeartbeats 4000000 in
set_option maxRecDepth 100000 in
/-- the try of ticket -/
theorem t_ticket (l : Launch) (hlt : l.stackTraces = false) (D : va_G) (tC tE sz : Nat) (x q0 q1 q2 q3 q4 q5 q6 : Nat) (k1 : ClassId) (ot : Nat) (kot : ClassId) (fo : Nat → Int64) (a1 a2 : Int32) : Met l yL_ticket wsL_ticket ({ frames := 8, cells := 1, slots := 6, locals := 127 }) (Pg D tC tE sz [(x, .inr (13, [.ref q0, .ref q1, .ref q2, .ref q3, .ref q4, .ref q5, .ref q6, .int 0, .int 0, .int 0, .int 0, .int 0, .int 0, .int 0])), (q1, .inl (k1, 6, .inr (.inr (.inr (.inr (fun _ => none)))))), (ot, .inl (kot, 1, .inr (.inl fo)))] [(k1, .object "Lastroom$Style"), (kot, .long)] [.ref x, .int a1, .int a2, .ref ot]) (Qgi (S := Unit) D (fun u => []) (fun u => []) (fun r _ => r = 1) (va_A [(x, .inr (13, [.ref q0, .ref q1, .ref q2, .ref q3, .ref q4, .ref q5, .ref q6, .int 0, .int 0, .int 0, .int 0, .int 0, .int 0, .int 0])), (q1, .inl (k1, 6, .inr (.inr (.inr (.inr (fun _ => none)))))), (ot, .inl (kot, 1, .inr (.inl fo)))] sz)) 1 6 (va_A [(x, .inr (13, [.ref q0, .ref q1, .ref q2, .ref q3, .ref q4, .ref q5, .ref q6, .int 0, .int 0, .int 0, .int 0, .int 0, .int 0, .int 0])), (q1, .inl (k1, 6, .inr (.inr (.inr (.inr (fun _ => none)))))), (ot, .inl (kot, 1, .inr (.inl fo)))] sz) := by
  refine og_h (cc := cL_ticket) (maxL := 5) (ret := (some .int)) (hh := [(0, 10, 13, 28), (0, 10, 17, 13), (0, 10, 21, 23)]) (Qc := Qgi (S := Unit) D (fun u => []) (fun u => []) (fun r _ => r = 1)) (by decide) rfl (Nat.le_of_ble_eq_true rfl) ?_
  intro p e s m below meth c A hx hb hr hml hts hown hlocks htab hP hD hK hG hA hS ls hl
  have hl : lv_has ls 5 [(0, .ref x), (1, .int a1), (2, .int a2), (3, .ref ot)] := hl
  refine lv_aload_n hx hb dL_ticket_0 rfl (lv_at hl 3 rfl) ?_
  refine lv_iconst (v := 0) hx hb dL_ticket_1 (by decide) ?_
  refine lv_aload_n hx hb dL_ticket_2 rfl (lv_at hl 0 rfl) ?_
  refine lv_iload_n hx hb dL_ticket_3 rfl (lv_at hl 1 rfl) ?_
  refine lv_iload_n hx hb dL_ticket_4 rfl (lv_at hl 2 rfl) ?_
  have hFc := va_free (wc := [(x, .inr (13, [.ref q0, .ref q1, .ref q2, .ref q3, .ref q4, .ref q5, .ref q6, .int 0, .int 0, .int 0, .int 0, .int 0, .int 0, .int 0])), (q1, .inl (k1, 6, .inr (.inr (.inr (.inr (fun _ => none))))))]) hD hS hA [0, 1] rfl
  refine vx_calli (vx_runV (As := [.int a1, .int a2]) (rest := [.int 0, .ref ot]) ⟨hx, hb, hml, hown, hts⟩ (c_ticket l hlt D tC tE s.heap.size x q0 q1 q2 q3 q4 q5 q6 k1 a1 a2) (cwV 2 hts gL_ticket_X9_ticket rfl rfl rfl (by decide +kernel) ⟨(Nat.le_of_ble_eq_true rfl), (Nat.le_of_ble_eq_true rfl)⟩) ⟨pg_blind, (va_recv hK hP (ci := 13) (q0 := 0) rfl rfl), (pg_pre hP hD hK hG hS hFc [0, 1] rfl (by decide) [0] rfl _)⟩ rfl rfl hl.1 rfl (lv_room (Nat.le_of_ble_eq_true rfl)) dL_ticket_5 ⟨(Nat.le_of_ble_eq_true rfl), (Nat.le_of_ble_eq_true rfl)⟩) hS (fun q _ h => hFc q h) hFc (fun q _ h => hFc q h) (fun E ce q9 u t H1 locs1 ht hvm hw hB hz1 hk1 hS hce hcv hcl => ?_) (fun r_1 u_2 t H locs ht hvm hw hB hz1 hk1 hS => ?_)
  · obtain ⟨hP, hD⟩ := jx (wr := [(ot, .inl (kot, 1, .inr (.inl fo)))]) hP hD [0, 1] [2] rfl rfl (by decide) (by decide) hk1 hFc
    have hP : va_P D vwCl [(ot, .inl (kot, 1, .inr (.inl fo)))] H1 := hP
    have hD : va_D A [(ot, .inl (kot, 1, .inr (.inl fo)))] := hD
    subst hB
    refine vx_widen (k := 1) (n := 6) (Nat.le_of_ble_eq_true rfl) (Nat.le_of_ble_eq_true rfl) (vx_catch (E := gx_ioo) (name := "java/lang/IndexOutOfBoundsException") hown [] ⟨0, 10, 13, 28⟩ [⟨0, 10, 17, 13⟩, ⟨0, 10, 21, 23⟩] (htab.trans rfl) (fun z hz => absurd hz List.not_mem_nil) (by decide) (by decide) (hts (.classLink RL 28 "java/lang/IndexOutOfBoundsException") (List.mem_of_getElem? (i := 1) rfl)) (va_Nw.use rfl (hG.2.2.2.2.2.2.2.2.2.2.1 _ (List.mem_of_getElem? (i := 1) rfl))) hce hcv hcl ?_)
    refine W.eq (g2 := F0 m 13 ls [.ref q9]) rfl ?_
    refine lv_astore (lv' := [(4, .ref q9), (0, .ref x), (1, .int a1), (2, .int a2), (3, .ref ot)]) hx hb dL_ticket_13 hl (by decide) rfl (fun ls hl => ?_)
    refine lv_iconst (v := 1) hx hb dL_ticket_15 (by decide) ?_
    have hP9 := hP.sub (ws' := []) [] rfl
    have hD9 := hD.sub (ws' := []) [] (by decide) rfl
    have hK9 := hK.sub (tys' := []) [] rfl
    exact end_i hx hb hr hlocks hP9 hD9 hK9 hS () rfl rfl rfl (Nat.le_of_ble_eq_true rfl) (Nat.le_of_ble_eq_true rfl) dL_ticket_16
  · exact hw.elim
set_option maxHeartbeats 4000000 in
set_option maxRecDepth 100000 in
/-- the try of fault -/
theorem t_fault (l : Launch) (hlt : l.stackTraces = false) (D : va_G) (tC tE sz : Nat) (x q0 q1 q2 q3 q4 q5 q6 : Nat) (k2 : ClassId) (ot : Nat) (kot : ClassId) (fo : Nat → Int64) (a1 a2 a3 a4 : Int32) : Met l yL_fault wsL_fault ({ frames := 8, cells := 1, slots := 6, locals := 130 }) (Pg D tC tE sz [(x, .inr (13, [.ref q0, .ref q1, .ref q2, .ref q3, .ref q4, .ref q5, .ref q6, .int 0, .int 0, .int 0, .int 0, .int 0, .int 0, .int 0])), (q2, .inl (k2, 6, .inr (.inr (.inr (.inr (fun _ => none)))))), (ot, .inl (kot, 1, .inr (.inl fo)))] [(k2, .object "Lastroom$Hide"), (kot, .long)] [.ref x, .int a1, .int a2, .int a3, .int a4, .ref ot]) (Qgi (S := Unit) D (fun u => []) (fun u => []) (fun r _ => r = 1) (va_A [(x, .inr (13, [.ref q0, .ref q1, .ref q2, .ref q3, .ref q4, .ref q5, .ref q6, .int 0, .int 0, .int 0, .int 0, .int 0, .int 0, .int 0])), (q2, .inl (k2, 6, .inr (.inr (.inr (.inr (fun _ => none)))))), (ot, .inl (kot, 1, .inr (.inl fo)))] sz)) 1 6 (va_A [(x, .inr (13, [.ref q0, .ref q1, .ref q2, .ref q3, .ref q4, .ref q5, .ref q6, .int 0, .int 0, .int 0, .int 0, .int 0, .int 0, .int 0])), (q2, .inl (k2, 6, .inr (.inr (.inr (.inr (fun _ => none)))))), (ot, .inl (kot, 1, .inr (.inl fo)))] sz) := by
  refine og_h (cc := cL_fault) (maxL := 7) (ret := (some .int)) (hh := [(0, 14, 17, 28), (0, 14, 21, 13), (0, 14, 25, 23)]) (Qc := Qgi (S := Unit) D (fun u => []) (fun u => []) (fun r _ => r = 1)) (by decide) rfl (Nat.le_of_ble_eq_true rfl) ?_
  intro p e s m below meth c A hx hb hr hml hts hown hlocks htab hP hD hK hG hA hS ls hl
  have hl : lv_has ls 7 [(0, .ref x), (1, .int a1), (2, .int a2), (3, .int a3), (4, .int a4), (5, .ref ot)] := hl
  refine lv_aload hx hb dL_fault_0 (lv_at hl 5 rfl) ?_
  refine lv_iconst (v := 0) hx hb dL_fault_2 (by decide) ?_
  refine lv_aload_n hx hb dL_fault_3 rfl (lv_at hl 0 rfl) ?_
  refine lv_iload_n hx hb dL_fault_4 rfl (lv_at hl 1 rfl) ?_
  refine lv_iload_n hx hb dL_fault_5 rfl (lv_at hl 2 rfl) ?_
  refine lv_iload_n hx hb dL_fault_6 rfl (lv_at hl 3 rfl) ?_
  refine lv_iload hx hb dL_fault_7 (lv_at hl 4 rfl) ?_
  have hFc := va_free (wc := [(x, .inr (13, [.ref q0, .ref q1, .ref q2, .ref q3, .ref q4, .ref q5, .ref q6, .int 0, .int 0, .int 0, .int 0, .int 0, .int 0, .int 0])), (q2, .inl (k2, 6, .inr (.inr (.inr (.inr (fun _ => none))))))]) hD hS hA [0, 1] rfl
  refine vx_calli (vx_runV (As := [.int a1, .int a2, .int a3, .int a4]) (rest := [.int 0, .ref ot]) ⟨hx, hb, hml, hown, hts⟩ (c_fault l hlt D tC tE s.heap.size x q0 q1 q2 q3 q4 q5 q6 k2 a1 a2 a3 a4) (cwV 4 hts gL_fault_X9_fault rfl rfl rfl (by decide +kernel) ⟨(Nat.le_of_ble_eq_true rfl), (Nat.le_of_ble_eq_true rfl)⟩) ⟨pg_blind, (va_recv hK hP (ci := 13) (q0 := 0) rfl rfl), (pg_pre hP hD hK hG hS hFc [0, 1] rfl (by decide) [0] rfl _)⟩ rfl rfl hl.1 rfl (lv_room (Nat.le_of_ble_eq_true rfl)) dL_fault_9 ⟨(Nat.le_of_ble_eq_true rfl), (Nat.le_of_ble_eq_true rfl)⟩) hS (fun q _ h => hFc q h) hFc (fun q _ h => hFc q h) (fun E ce q9 u t H1 locs1 ht hvm hw hB hz1 hk1 hS hce hcv hcl => ?_) (fun r_1 u_2 t H locs ht hvm hw hB hz1 hk1 hS => ?_)
  · obtain ⟨hP, hD⟩ := jx (wr := [(ot, .inl (kot, 1, .inr (.inl fo)))]) hP hD [0, 1] [2] rfl rfl (by decide) (by decide) hk1 hFc
    have hP : va_P D vwCl [(ot, .inl (kot, 1, .inr (.inl fo)))] H1 := hP
    have hD : va_D A [(ot, .inl (kot, 1, .inr (.inl fo)))] := hD
    subst hB
    refine vx_widen (k := 1) (n := 6) (Nat.le_of_ble_eq_true rfl) (Nat.le_of_ble_eq_true rfl) (vx_catch (E := gx_ioo) (name := "java/lang/IndexOutOfBoundsException") hown [] ⟨0, 14, 17, 28⟩ [⟨0, 14, 21, 13⟩, ⟨0, 14, 25, 23⟩] (htab.trans rfl) (fun z hz => absurd hz List.not_mem_nil) (by decide) (by decide) (hts (.classLink RL 28 "java/lang/IndexOutOfBoundsException") (List.mem_of_getElem? (i := 1) rfl)) (va_Nw.use rfl (hG.2.2.2.2.2.2.2.2.2.2.1 _ (List.mem_of_getElem? (i := 1) rfl))) hce hcv hcl ?_)
    refine W.eq (g2 := F0 m 17 ls [.ref q9]) rfl ?_
    refine lv_astore (lv' := [(6, .ref q9), (0, .ref x), (1, .int a1), (2, .int a2), (3, .int a3), (4, .int a4), (5, .ref ot)]) hx hb dL_fault_17 hl (by decide) rfl (fun ls hl => ?_)
    refine lv_iconst (v := 1) hx hb dL_fault_19 (by decide) ?_
    have hP9 := hP.sub (ws' := []) [] rfl
    have hD9 := hD.sub (ws' := []) [] (by decide) rfl
    have hK9 := hK.sub (tys' := []) [] rfl
    exact end_i hx hb hr hlocks hP9 hD9 hK9 hS () rfl rfl rfl (Nat.le_of_ble_eq_true rfl) (Nat.le_of_ble_eq_true rfl) dL_fault_20
  · exact hw.elim
set_option maxHeartbeats 4000000 in
set_option maxRecDepth 100000 in
/-- the try of cellOf -/
theorem t_cellOf (l : Launch) (hlt : l.stackTraces = false) (D : va_G) (tC tE sz : Nat) (x q0 q1 q2 q3 q4 q5 q6 : Nat) (k2 : ClassId) (ot : Nat) (kot : ClassId) (fo : Nat → Int64) (a1 a2 a3 : Int32) : Met l yL_cellOf wsL_cellOf ({ frames := 8, cells := 1, slots := 6, locals := 128 }) (Pg D tC tE sz [(x, .inr (13, [.ref q0, .ref q1, .ref q2, .ref q3, .ref q4, .ref q5, .ref q6, .int 0, .int 0, .int 0, .int 0, .int 0, .int 0, .int 0])), (q2, .inl (k2, 6, .inr (.inr (.inr (.inr (fun _ => none)))))), (ot, .inl (kot, 1, .inr (.inl fo)))] [(k2, .object "Lastroom$Hide"), (kot, .long)] [.ref x, .int a1, .int a2, .int a3, .ref ot]) (Qgi (S := Unit) D (fun u => []) (fun u => []) (fun r _ => r = 1) (va_A [(x, .inr (13, [.ref q0, .ref q1, .ref q2, .ref q3, .ref q4, .ref q5, .ref q6, .int 0, .int 0, .int 0, .int 0, .int 0, .int 0, .int 0])), (q2, .inl (k2, 6, .inr (.inr (.inr (.inr (fun _ => none)))))), (ot, .inl (kot, 1, .inr (.inl fo)))] sz)) 1 6 (va_A [(x, .inr (13, [.ref q0, .ref q1, .ref q2, .ref q3, .ref q4, .ref q5, .ref q6, .int 0, .int 0, .int 0, .int 0, .int 0, .int 0, .int 0])), (q2, .inl (k2, 6, .inr (.inr (.inr (.inr (fun _ => none)))))), (ot, .inl (kot, 1, .inr (.inl fo)))] sz) := by
  refine og_h (cc := cL_cellOf) (maxL := 6) (ret := (some .int)) (hh := [(0, 12, 15, 28), (0, 12, 19, 13)]) (Qc := Qgi (S := Unit) D (fun u => []) (fun u => []) (fun r _ => r = 1)) (by decide) rfl (Nat.le_of_ble_eq_true rfl) ?_
  intro p e s m below meth c A hx hb hr hml hts hown hlocks htab hP hD hK hG hA hS ls hl
  have hl : lv_has ls 6 [(0, .ref x), (1, .int a1), (2, .int a2), (3, .int a3), (4, .ref ot)] := hl
  refine lv_aload hx hb dL_cellOf_0 (lv_at hl 4 rfl) ?_
  refine lv_iconst (v := 0) hx hb dL_cellOf_2 (by decide) ?_
  refine lv_aload_n hx hb dL_cellOf_3 rfl (lv_at hl 0 rfl) ?_
  refine lv_iload_n hx hb dL_cellOf_4 rfl (lv_at hl 1 rfl) ?_
  refine lv_iload_n hx hb dL_cellOf_5 rfl (lv_at hl 2 rfl) ?_
  refine lv_iload_n hx hb dL_cellOf_6 rfl (lv_at hl 3 rfl) ?_
  have hFc := va_free (wc := [(x, .inr (13, [.ref q0, .ref q1, .ref q2, .ref q3, .ref q4, .ref q5, .ref q6, .int 0, .int 0, .int 0, .int 0, .int 0, .int 0, .int 0])), (q2, .inl (k2, 6, .inr (.inr (.inr (.inr (fun _ => none))))))]) hD hS hA [0, 1] rfl
  refine vx_calli (vx_runV (As := [.int a1, .int a2, .int a3]) (rest := [.int 0, .ref ot]) ⟨hx, hb, hml, hown, hts⟩ (c_cellOf l hlt D tC tE s.heap.size x q0 q1 q2 q3 q4 q5 q6 k2 a1 a2 a3) (cwV 3 hts gL_cellOf_X9_cellOf rfl rfl rfl (by decide +kernel) ⟨(Nat.le_of_ble_eq_true rfl), (Nat.le_of_ble_eq_true rfl)⟩) ⟨pg_blind, (va_recv hK hP (ci := 13) (q0 := 0) rfl rfl), (pg_pre hP hD hK hG hS hFc [0, 1] rfl (by decide) [0] rfl _)⟩ rfl rfl hl.1 rfl (lv_room (Nat.le_of_ble_eq_true rfl)) dL_cellOf_7 ⟨(Nat.le_of_ble_eq_true rfl), (Nat.le_of_ble_eq_true rfl)⟩) hS (fun q _ h => hFc q h) hFc (fun q _ h => hFc q h) (fun E ce q9 u t H1 locs1 ht hvm hw hB hz1 hk1 hS hce hcv hcl => ?_) (fun r_1 u_2 t H locs ht hvm hw hB hz1 hk1 hS => ?_)
  · obtain ⟨hP, hD⟩ := jx (wr := [(ot, .inl (kot, 1, .inr (.inl fo)))]) hP hD [0, 1] [2] rfl rfl (by decide) (by decide) hk1 hFc
    have hP : va_P D vwCl [(ot, .inl (kot, 1, .inr (.inl fo)))] H1 := hP
    have hD : va_D A [(ot, .inl (kot, 1, .inr (.inl fo)))] := hD
    subst hB
    refine vx_widen (k := 1) (n := 6) (Nat.le_of_ble_eq_true rfl) (Nat.le_of_ble_eq_true rfl) (vx_catch (E := gx_ioo) (name := "java/lang/IndexOutOfBoundsException") hown [] ⟨0, 12, 15, 28⟩ [⟨0, 12, 19, 13⟩] (htab.trans rfl) (fun z hz => absurd hz List.not_mem_nil) (by decide) (by decide) (hts (.classLink RL 28 "java/lang/IndexOutOfBoundsException") (List.mem_of_getElem? (i := 1) rfl)) (va_Nw.use rfl (hG.2.2.2.2.2.2.2.2.2.2.1 _ (List.mem_of_getElem? (i := 1) rfl))) hce hcv hcl ?_)
    refine W.eq (g2 := F0 m 15 ls [.ref q9]) rfl ?_
    refine lv_astore (lv' := [(5, .ref q9), (0, .ref x), (1, .int a1), (2, .int a2), (3, .int a3), (4, .ref ot)]) hx hb dL_cellOf_15 hl (by decide) rfl (fun ls hl => ?_)
    refine lv_iconst (v := 1) hx hb dL_cellOf_17 (by decide) ?_
    have hP9 := hP.sub (ws' := []) [] rfl
    have hD9 := hD.sub (ws' := []) [] (by decide) rfl
    have hK9 := hK.sub (tys' := []) [] rfl
    exact end_i hx hb hr hlocks hP9 hD9 hK9 hS () rfl rfl rfl (Nat.le_of_ble_eq_true rfl) (Nat.le_of_ble_eq_true rfl) dL_cellOf_18
  · exact hw.elim
set_option maxHeartbeats 4000000 in
set_option maxRecDepth 100000 in
/-- the try of waste -/
theorem t_waste (l : Launch) (hlt : l.stackTraces = false) (D : va_G) (tC tE sz : Nat) (x q0 q1 q2 q3 q4 q5 q6 : Nat) (k2 : ClassId) (ot : Nat) (kot : ClassId) (fo : Nat → Int64) (a1 : Int32) : Met l yL_waste wsL_waste ({ frames := 8, cells := 1, slots := 6, locals := 125 }) (Pg D tC tE sz [(x, .inr (13, [.ref q0, .ref q1, .ref q2, .ref q3, .ref q4, .ref q5, .ref q6, .int 0, .int 0, .int 0, .int 0, .int 0, .int 0, .int 0])), (q2, .inl (k2, 6, .inr (.inr (.inr (.inr (fun _ => none)))))), (ot, .inl (kot, 1, .inr (.inl fo)))] [(k2, .object "Lastroom$Hide"), (kot, .long)] [.ref x, .int a1, .ref ot]) (Qgi (S := Unit) D (fun u => []) (fun u => []) (fun r _ => r = 1) (va_A [(x, .inr (13, [.ref q0, .ref q1, .ref q2, .ref q3, .ref q4, .ref q5, .ref q6, .int 0, .int 0, .int 0, .int 0, .int 0, .int 0, .int 0])), (q2, .inl (k2, 6, .inr (.inr (.inr (.inr (fun _ => none)))))), (ot, .inl (kot, 1, .inr (.inl fo)))] sz)) 1 6 (va_A [(x, .inr (13, [.ref q0, .ref q1, .ref q2, .ref q3, .ref q4, .ref q5, .ref q6, .int 0, .int 0, .int 0, .int 0, .int 0, .int 0, .int 0])), (q2, .inl (k2, 6, .inr (.inr (.inr (.inr (fun _ => none)))))), (ot, .inl (kot, 1, .inr (.inl fo)))] sz) := by
  refine og_h (cc := cL_waste) (maxL := 4) (ret := (some .int)) (hh := [(0, 9, 12, 28)]) (Qc := Qgi (S := Unit) D (fun u => []) (fun u => []) (fun r _ => r = 1)) (by decide) rfl (Nat.le_of_ble_eq_true rfl) ?_
  intro p e s m below meth c A hx hb hr hml hts hown hlocks htab hP hD hK hG hA hS ls hl
  have hl : lv_has ls 4 [(0, .ref x), (1, .int a1), (2, .ref ot)] := hl
  refine lv_aload_n hx hb dL_waste_0 rfl (lv_at hl 2 rfl) ?_
  refine lv_iconst (v := 0) hx hb dL_waste_1 (by decide) ?_
  refine lv_aload_n hx hb dL_waste_2 rfl (lv_at hl 0 rfl) ?_
  refine lv_iload_n hx hb dL_waste_3 rfl (lv_at hl 1 rfl) ?_
  have hFc := va_free (wc := [(x, .inr (13, [.ref q0, .ref q1, .ref q2, .ref q3, .ref q4, .ref q5, .ref q6, .int 0, .int 0, .int 0, .int 0, .int 0, .int 0, .int 0])), (q2, .inl (k2, 6, .inr (.inr (.inr (.inr (fun _ => none))))))]) hD hS hA [0, 1] rfl
  refine vx_calli (vx_runV (As := [.int a1]) (rest := [.int 0, .ref ot]) ⟨hx, hb, hml, hown, hts⟩ (c_waste l hlt D tC tE s.heap.size x q0 q1 q2 q3 q4 q5 q6 k2 a1) (cwV 1 hts gL_waste_X9_waste rfl rfl rfl (by decide +kernel) ⟨(Nat.le_of_ble_eq_true rfl), (Nat.le_of_ble_eq_true rfl)⟩) ⟨pg_blind, (va_recv hK hP (ci := 13) (q0 := 0) rfl rfl), (pg_pre hP hD hK hG hS hFc [0, 1] rfl (by decide) [0] rfl _)⟩ rfl rfl hl.1 rfl (lv_room (Nat.le_of_ble_eq_true rfl)) dL_waste_4 ⟨(Nat.le_of_ble_eq_true rfl), (Nat.le_of_ble_eq_true rfl)⟩) hS (fun q _ h => hFc q h) hFc (fun q _ h => hFc q h) (fun E ce q9 u t H1 locs1 ht hvm hw hB hz1 hk1 hS hce hcv hcl => ?_) (fun r_1 u_2 t H locs ht hvm hw hB hz1 hk1 hS => ?_)
  · obtain ⟨hP, hD⟩ := jx (wr := [(ot, .inl (kot, 1, .inr (.inl fo)))]) hP hD [0, 1] [2] rfl rfl (by decide) (by decide) hk1 hFc
    have hP : va_P D vwCl [(ot, .inl (kot, 1, .inr (.inl fo)))] H1 := hP
    have hD : va_D A [(ot, .inl (kot, 1, .inr (.inl fo)))] := hD
    subst hB
    refine vx_widen (k := 1) (n := 6) (Nat.le_of_ble_eq_true rfl) (Nat.le_of_ble_eq_true rfl) (vx_catch (E := gx_ioo) (name := "java/lang/IndexOutOfBoundsException") hown [] ⟨0, 9, 12, 28⟩ [] (htab.trans rfl) (fun z hz => absurd hz List.not_mem_nil) (by decide) (by decide) (hts (.classLink RL 28 "java/lang/IndexOutOfBoundsException") (List.mem_of_getElem? (i := 1) rfl)) (va_Nw.use rfl (hG.2.2.2.2.2.2.2.2.2.2.1 _ (List.mem_of_getElem? (i := 1) rfl))) hce hcv hcl ?_)
    refine W.eq (g2 := F0 m 12 ls [.ref q9]) rfl ?_
    refine lv_astore_n (lv' := [(3, .ref q9), (0, .ref x), (1, .int a1), (2, .ref ot)]) hx hb dL_waste_12 rfl hl (by decide) rfl (fun ls hl => ?_)
    refine lv_iconst (v := 1) hx hb dL_waste_13 (by decide) ?_
    have hP9 := hP.sub (ws' := []) [] rfl
    have hD9 := hD.sub (ws' := []) [] (by decide) rfl
    have hK9 := hK.sub (tys' := []) [] rfl
    exact end_i hx hb hr hlocks hP9 hD9 hK9 hS () rfl rfl rfl (Nat.le_of_ble_eq_true rfl) (Nat.le_of_ble_eq_true rfl) dL_waste_14
  · exact hw.elim
set_option maxHeartbeats 4000000 in
set_option maxRecDepth 100000 in
/-- the try of cut -/
theorem t_cut (l : Launch) (hlt : l.stackTraces = false) (D : va_G) (tC tE sz : Nat) (x q0 q1 q2 q3 q4 q5 q6 : Nat) (k3 : ClassId) (ot : Nat) (kot : ClassId) (fo : Nat → Int64) (a1 a2 a3 a4 a5 a6 a7 a8 : Int32) : Met l yL_cut wsL_cut ({ frames := 8, cells := 1, slots := 6, locals := 140 }) (Pg D tC tE sz [(x, .inr (13, [.ref q0, .ref q1, .ref q2, .ref q3, .ref q4, .ref q5, .ref q6, .int 0, .int 0, .int 0, .int 0, .int 0, .int 0, .int 0])), (q3, .inl (k3, 16, .inr (.inr (.inr (.inr (fun _ => none)))))), (ot, .inl (kot, 1, .inr (.inl fo)))] [(k3, .object "Lastroom$Ticket"), (kot, .long)] [.ref x, .int a1, .int a2, .int a3, .int a4, .int a5, .int a6, .int a7, .int a8, .ref ot]) (Qgi (S := Unit) D (fun u => []) (fun u => []) (fun r _ => r = 1) (va_A [(x, .inr (13, [.ref q0, .ref q1, .ref q2, .ref q3, .ref q4, .ref q5, .ref q6, .int 0, .int 0, .int 0, .int 0, .int 0, .int 0, .int 0])), (q3, .inl (k3, 16, .inr (.inr (.inr (.inr (fun _ => none)))))), (ot, .inl (kot, 1, .inr (.inl fo)))] sz)) 1 6 (va_A [(x, .inr (13, [.ref q0, .ref q1, .ref q2, .ref q3, .ref q4, .ref q5, .ref q6, .int 0, .int 0, .int 0, .int 0, .int 0, .int 0, .int 0])), (q3, .inl (k3, 16, .inr (.inr (.inr (.inr (fun _ => none)))))), (ot, .inl (kot, 1, .inr (.inl fo)))] sz) := by
  refine og_h (cc := cL_cut) (maxL := 11) (ret := (some .int)) (hh := [(0, 22, 25, 28), (0, 22, 29, 23), (0, 22, 33, 34)]) (Qc := Qgi (S := Unit) D (fun u => []) (fun u => []) (fun r _ => r = 1)) (by decide) rfl (Nat.le_of_ble_eq_true rfl) ?_
  intro p e s m below meth c A hx hb hr hml hts hown hlocks htab hP hD hK hG hA hS ls hl
  have hl : lv_has ls 11 [(0, .ref x), (1, .int a1), (2, .int a2), (3, .int a3), (4, .int a4), (5, .int a5), (6, .int a6), (7, .int a7), (8, .int a8), (9, .ref ot)] := hl
  refine lv_aload hx hb dL_cut_0 (lv_at hl 9 rfl) ?_
  refine lv_iconst (v := 0) hx hb dL_cut_2 (by decide) ?_
  refine lv_aload_n hx hb dL_cut_3 rfl (lv_at hl 0 rfl) ?_
  refine lv_iload_n hx hb dL_cut_4 rfl (lv_at hl 1 rfl) ?_
  refine lv_iload_n hx hb dL_cut_5 rfl (lv_at hl 2 rfl) ?_
  refine lv_iload_n hx hb dL_cut_6 rfl (lv_at hl 3 rfl) ?_
  refine lv_iload hx hb dL_cut_7 (lv_at hl 4 rfl) ?_
  refine lv_iload hx hb dL_cut_9 (lv_at hl 5 rfl) ?_
  refine lv_iload hx hb dL_cut_11 (lv_at hl 6 rfl) ?_
  refine lv_iload hx hb dL_cut_13 (lv_at hl 7 rfl) ?_
  refine lv_iload hx hb dL_cut_15 (lv_at hl 8 rfl) ?_
  have hFc := va_free (wc := [(x, .inr (13, [.ref q0, .ref q1, .ref q2, .ref q3, .ref q4, .ref q5, .ref q6, .int 0, .int 0, .int 0, .int 0, .int 0, .int 0, .int 0])), (q3, .inl (k3, 16, .inr (.inr (.inr (.inr (fun _ => none))))))]) hD hS hA [0, 1] rfl
  refine vx_calli (vx_runV (As := [.int a1, .int a2, .int a3, .int a4, .int a5, .int a6, .int a7, .int a8]) (rest := [.int 0, .ref ot]) ⟨hx, hb, hml, hown, hts⟩ (c_cut l hlt D tC tE s.heap.size x q0 q1 q2 q3 q4 q5 q6 k3 a1 a2 a3 a4 a5 a6 a7 a8) (cwV 8 hts gL_cut_X9_cut rfl rfl rfl (by decide +kernel) ⟨(Nat.le_of_ble_eq_true rfl), (Nat.le_of_ble_eq_true rfl)⟩) ⟨pg_blind, (va_recv hK hP (ci := 13) (q0 := 0) rfl rfl), (pg_pre hP hD hK hG hS hFc [0, 1] rfl (by decide) [0] rfl _)⟩ rfl rfl hl.1 rfl (lv_room (Nat.le_of_ble_eq_true rfl)) dL_cut_17 ⟨(Nat.le_of_ble_eq_true rfl), (Nat.le_of_ble_eq_true rfl)⟩) hS (fun q _ h => hFc q h) hFc (fun q _ h => hFc q h) (fun E ce q9 u t H1 locs1 ht hvm hw hB hz1 hk1 hS hce hcv hcl => ?_) (fun r_1 u_2 t H locs ht hvm hw hB hz1 hk1 hS => ?_)
  · obtain ⟨hP, hD⟩ := jx (wr := [(ot, .inl (kot, 1, .inr (.inl fo)))]) hP hD [0, 1] [2] rfl rfl (by decide) (by decide) hk1 hFc
    have hP : va_P D vwCl [(ot, .inl (kot, 1, .inr (.inl fo)))] H1 := hP
    have hD : va_D A [(ot, .inl (kot, 1, .inr (.inl fo)))] := hD
    subst hB
    refine vx_widen (k := 1) (n := 6) (Nat.le_of_ble_eq_true rfl) (Nat.le_of_ble_eq_true rfl) (vx_catch (E := gx_ioo) (name := "java/lang/IndexOutOfBoundsException") hown [] ⟨0, 22, 25, 28⟩ [⟨0, 22, 29, 23⟩, ⟨0, 22, 33, 34⟩] (htab.trans rfl) (fun z hz => absurd hz List.not_mem_nil) (by decide) (by decide) (hts (.classLink RL 28 "java/lang/IndexOutOfBoundsException") (List.mem_of_getElem? (i := 1) rfl)) (va_Nw.use rfl (hG.2.2.2.2.2.2.2.2.2.2.1 _ (List.mem_of_getElem? (i := 1) rfl))) hce hcv hcl ?_)
    refine W.eq (g2 := F0 m 25 ls [.ref q9]) rfl ?_
    refine lv_astore (lv' := [(10, .ref q9), (0, .ref x), (1, .int a1), (2, .int a2), (3, .int a3), (4, .int a4), (5, .int a5), (6, .int a6), (7, .int a7), (8, .int a8), (9, .ref ot)]) hx hb dL_cut_25 hl (by decide) rfl (fun ls hl => ?_)
    refine lv_iconst (v := 1) hx hb dL_cut_27 (by decide) ?_
    have hP9 := hP.sub (ws' := []) [] rfl
    have hD9 := hD.sub (ws' := []) [] (by decide) rfl
    have hK9 := hK.sub (tys' := []) [] rfl
    exact end_i hx hb hr hlocks hP9 hD9 hK9 hS () rfl rfl rfl (Nat.le_of_ble_eq_true rfl) (Nat.le_of_ble_eq_true rfl) dL_cut_28
  · exact hw.elim
set_option maxHeartbeats 4000000 in
set_option maxRecDepth 100000 in
/-- the try of firstPlace -/
theorem t_firstPlace (l : Launch) (hlt : l.stackTraces = false) (D : va_G) (tC tE sz : Nat) (x q0 q1 q2 q3 q4 q5 q6 : Nat) (k3 : ClassId) (ot : Nat) (kot : ClassId) (fo : Nat → Int64) (a1 a2 a3 : Int32) : Met l yL_firstPlace wsL_firstPlace ({ frames := 8, cells := 1, slots := 6, locals := 131 }) (Pg D tC tE sz [(x, .inr (13, [.ref q0, .ref q1, .ref q2, .ref q3, .ref q4, .ref q5, .ref q6, .int 0, .int 0, .int 0, .int 0, .int 0, .int 0, .int 0])), (q3, .inl (k3, 16, .inr (.inr (.inr (.inr (fun _ => none)))))), (ot, .inl (kot, 1, .inr (.inl fo)))] [(k3, .object "Lastroom$Ticket"), (kot, .long)] [.ref x, .int a1, .int a2, .int a3, .ref ot]) (Qgi (S := Unit) D (fun u => []) (fun u => []) (fun r _ => r = 1) (va_A [(x, .inr (13, [.ref q0, .ref q1, .ref q2, .ref q3, .ref q4, .ref q5, .ref q6, .int 0, .int 0, .int 0, .int 0, .int 0, .int 0, .int 0])), (q3, .inl (k3, 16, .inr (.inr (.inr (.inr (fun _ => none)))))), (ot, .inl (kot, 1, .inr (.inl fo)))] sz)) 1 6 (va_A [(x, .inr (13, [.ref q0, .ref q1, .ref q2, .ref q3, .ref q4, .ref q5, .ref q6, .int 0, .int 0, .int 0, .int 0, .int 0, .int 0, .int 0])), (q3, .inl (k3, 16, .inr (.inr (.inr (.inr (fun _ => none)))))), (ot, .inl (kot, 1, .inr (.inl fo)))] sz) := by
  refine og_h (cc := cL_firstPlace) (maxL := 6) (ret := (some .int)) (hh := [(0, 12, 15, 28), (0, 12, 19, 49)]) (Qc := Qgi (S := Unit) D (fun u => []) (fun u => []) (fun r _ => r = 1)) (by decide) rfl (Nat.le_of_ble_eq_true rfl) ?_
  intro p e s m below meth c A hx hb hr hml hts hown hlocks htab hP hD hK hG hA hS ls hl
  have hl : lv_has ls 6 [(0, .ref x), (1, .int a1), (2, .int a2), (3, .int a3), (4, .ref ot)] := hl
  refine lv_aload hx hb dL_firstPlace_0 (lv_at hl 4 rfl) ?_
  refine lv_iconst (v := 0) hx hb dL_firstPlace_2 (by decide) ?_
  refine lv_aload_n hx hb dL_firstPlace_3 rfl (lv_at hl 0 rfl) ?_
  refine lv_iload_n hx hb dL_firstPlace_4 rfl (lv_at hl 1 rfl) ?_
  refine lv_iload_n hx hb dL_firstPlace_5 rfl (lv_at hl 2 rfl) ?_
  refine lv_iload_n hx hb dL_firstPlace_6 rfl (lv_at hl 3 rfl) ?_
  have hFc := va_free (wc := [(x, .inr (13, [.ref q0, .ref q1, .ref q2, .ref q3, .ref q4, .ref q5, .ref q6, .int 0, .int 0, .int 0, .int 0, .int 0, .int 0, .int 0])), (q3, .inl (k3, 16, .inr (.inr (.inr (.inr (fun _ => none))))))]) hD hS hA [0, 1] rfl
  refine vx_calli (vx_runV (As := [.int a1, .int a2, .int a3]) (rest := [.int 0, .ref ot]) ⟨hx, hb, hml, hown, hts⟩ (c_firstPlace l hlt D tC tE s.heap.size x q0 q1 q2 q3 q4 q5 q6 k3 a1 a2 a3) (cwV 3 hts gL_firstPlace_X9_firstPlace rfl rfl rfl (by decide +kernel) ⟨(Nat.le_of_ble_eq_true rfl), (Nat.le_of_ble_eq_true rfl)⟩) ⟨pg_blind, (va_recv hK hP (ci := 13) (q0 := 0) rfl rfl), (pg_pre hP hD hK hG hS hFc [0, 1] rfl (by decide) [0] rfl _)⟩ rfl rfl hl.1 rfl (lv_room (Nat.le_of_ble_eq_true rfl)) dL_firstPlace_7 ⟨(Nat.le_of_ble_eq_true rfl), (Nat.le_of_ble_eq_true rfl)⟩) hS (fun q _ h => hFc q h) hFc (fun q _ h => hFc q h) (fun E ce q9 u t H1 locs1 ht hvm hw hB hz1 hk1 hS hce hcv hcl => ?_) (fun r_1 u_2 t H locs ht hvm hw hB hz1 hk1 hS => ?_)
  · obtain ⟨hP, hD⟩ := jx (wr := [(ot, .inl (kot, 1, .inr (.inl fo)))]) hP hD [0, 1] [2] rfl rfl (by decide) (by decide) hk1 hFc
    have hP : va_P D vwCl [(ot, .inl (kot, 1, .inr (.inl fo)))] H1 := hP
    have hD : va_D A [(ot, .inl (kot, 1, .inr (.inl fo)))] := hD
    subst hB
    refine vx_widen (k := 1) (n := 6) (Nat.le_of_ble_eq_true rfl) (Nat.le_of_ble_eq_true rfl) (vx_catch (E := gx_ioo) (name := "java/lang/IndexOutOfBoundsException") hown [] ⟨0, 12, 15, 28⟩ [⟨0, 12, 19, 49⟩] (htab.trans rfl) (fun z hz => absurd hz List.not_mem_nil) (by decide) (by decide) (hts (.classLink RL 28 "java/lang/IndexOutOfBoundsException") (List.mem_of_getElem? (i := 1) rfl)) (va_Nw.use rfl (hG.2.2.2.2.2.2.2.2.2.2.1 _ (List.mem_of_getElem? (i := 1) rfl))) hce hcv hcl ?_)
    refine W.eq (g2 := F0 m 15 ls [.ref q9]) rfl ?_
    refine lv_astore (lv' := [(5, .ref q9), (0, .ref x), (1, .int a1), (2, .int a2), (3, .int a3), (4, .ref ot)]) hx hb dL_firstPlace_15 hl (by decide) rfl (fun ls hl => ?_)
    refine lv_iconst (v := 1) hx hb dL_firstPlace_17 (by decide) ?_
    have hP9 := hP.sub (ws' := []) [] rfl
    have hD9 := hD.sub (ws' := []) [] (by decide) rfl
    have hK9 := hK.sub (tys' := []) [] rfl
    exact end_i hx hb hr hlocks hP9 hD9 hK9 hS () rfl rfl rfl (Nat.le_of_ble_eq_true rfl) (Nat.le_of_ble_eq_true rfl) dL_firstPlace_18
  · exact hw.elim
set_option maxHeartbeats 4000000 in
set_option maxRecDepth 100000 in
/-- the try of sew -/
theorem t_sew (l : Launch) (hlt : l.stackTraces = false) (D : va_G) (tC tE sz : Nat) (x q0 q1 q2 q3 q4 q5 q6 : Nat) (k3 : ClassId) (ot : Nat) (kot : ClassId) (fo : Nat → Int64) (a1 a2 a3 a4 : Int32) : Met l yL_sew wsL_sew ({ frames := 8, cells := 1, slots := 6, locals := 133 }) (Pg D tC tE sz [(x, .inr (13, [.ref q0, .ref q1, .ref q2, .ref q3, .ref q4, .ref q5, .ref q6, .int 0, .int 0, .int 0, .int 0, .int 0, .int 0, .int 0])), (q3, .inl (k3, 16, .inr (.inr (.inr (.inr (fun _ => none)))))), (ot, .inl (kot, 1, .inr (.inl fo)))] [(k3, .object "Lastroom$Ticket"), (kot, .long)] [.ref x, .int a1, .int a2, .int a3, .int a4, .ref ot]) (Qgi (S := Unit) D (fun u => []) (fun u => []) (fun r _ => r = 1) (va_A [(x, .inr (13, [.ref q0, .ref q1, .ref q2, .ref q3, .ref q4, .ref q5, .ref q6, .int 0, .int 0, .int 0, .int 0, .int 0, .int 0, .int 0])), (q3, .inl (k3, 16, .inr (.inr (.inr (.inr (fun _ => none)))))), (ot, .inl (kot, 1, .inr (.inl fo)))] sz)) 1 6 (va_A [(x, .inr (13, [.ref q0, .ref q1, .ref q2, .ref q3, .ref q4, .ref q5, .ref q6, .int 0, .int 0, .int 0, .int 0, .int 0, .int 0, .int 0])), (q3, .inl (k3, 16, .inr (.inr (.inr (.inr (fun _ => none)))))), (ot, .inl (kot, 1, .inr (.inl fo)))] sz) := by
  refine og_h (cc := cL_sew) (maxL := 7) (ret := (some .int)) (hh := [(0, 14, 17, 28), (0, 14, 21, 23), (0, 14, 25, 34)]) (Qc := Qgi (S := Unit) D (fun u => []) (fun u => []) (fun r _ => r = 1)) (by decide) rfl (Nat.le_of_ble_eq_true rfl) ?_
  intro p e s m below meth c A hx hb hr hml hts hown hlocks htab hP hD hK hG hA hS ls hl
  have hl : lv_has ls 7 [(0, .ref x), (1, .int a1), (2, .int a2), (3, .int a3), (4, .int a4), (5, .ref ot)] := hl
  refine lv_aload hx hb dL_sew_0 (lv_at hl 5 rfl) ?_
  refine lv_iconst (v := 0) hx hb dL_sew_2 (by decide) ?_
  refine lv_aload_n hx hb dL_sew_3 rfl (lv_at hl 0 rfl) ?_
  refine lv_iload_n hx hb dL_sew_4 rfl (lv_at hl 1 rfl) ?_
  refine lv_iload_n hx hb dL_sew_5 rfl (lv_at hl 2 rfl) ?_
  refine lv_iload_n hx hb dL_sew_6 rfl (lv_at hl 3 rfl) ?_
  refine lv_iload hx hb dL_sew_7 (lv_at hl 4 rfl) ?_
  have hFc := va_free (wc := [(x, .inr (13, [.ref q0, .ref q1, .ref q2, .ref q3, .ref q4, .ref q5, .ref q6, .int 0, .int 0, .int 0, .int 0, .int 0, .int 0, .int 0])), (q3, .inl (k3, 16, .inr (.inr (.inr (.inr (fun _ => none))))))]) hD hS hA [0, 1] rfl
  refine vx_calli (vx_runV (As := [.int a1, .int a2, .int a3, .int a4]) (rest := [.int 0, .ref ot]) ⟨hx, hb, hml, hown, hts⟩ (c_sew l hlt D tC tE s.heap.size x q0 q1 q2 q3 q4 q5 q6 k3 a1 a2 a3 a4) (cwV 4 hts gL_sew_X9_sew rfl rfl rfl (by decide +kernel) ⟨(Nat.le_of_ble_eq_true rfl), (Nat.le_of_ble_eq_true rfl)⟩) ⟨pg_blind, (va_recv hK hP (ci := 13) (q0 := 0) rfl rfl), (pg_pre hP hD hK hG hS hFc [0, 1] rfl (by decide) [0] rfl _)⟩ rfl rfl hl.1 rfl (lv_room (Nat.le_of_ble_eq_true rfl)) dL_sew_9 ⟨(Nat.le_of_ble_eq_true rfl), (Nat.le_of_ble_eq_true rfl)⟩) hS (fun q _ h => hFc q h) hFc (fun q _ h => hFc q h) (fun E ce q9 u t H1 locs1 ht hvm hw hB hz1 hk1 hS hce hcv hcl => ?_) (fun r_1 u_2 t H locs ht hvm hw hB hz1 hk1 hS => ?_)
  · obtain ⟨hP, hD⟩ := jx (wr := [(ot, .inl (kot, 1, .inr (.inl fo)))]) hP hD [0, 1] [2] rfl rfl (by decide) (by decide) hk1 hFc
    have hP : va_P D vwCl [(ot, .inl (kot, 1, .inr (.inl fo)))] H1 := hP
    have hD : va_D A [(ot, .inl (kot, 1, .inr (.inl fo)))] := hD
    subst hB
    refine vx_widen (k := 1) (n := 6) (Nat.le_of_ble_eq_true rfl) (Nat.le_of_ble_eq_true rfl) (vx_catch (E := gx_ioo) (name := "java/lang/IndexOutOfBoundsException") hown [] ⟨0, 14, 17, 28⟩ [⟨0, 14, 21, 23⟩, ⟨0, 14, 25, 34⟩] (htab.trans rfl) (fun z hz => absurd hz List.not_mem_nil) (by decide) (by decide) (hts (.classLink RL 28 "java/lang/IndexOutOfBoundsException") (List.mem_of_getElem? (i := 1) rfl)) (va_Nw.use rfl (hG.2.2.2.2.2.2.2.2.2.2.1 _ (List.mem_of_getElem? (i := 1) rfl))) hce hcv hcl ?_)
    refine W.eq (g2 := F0 m 17 ls [.ref q9]) rfl ?_
    refine lv_astore (lv' := [(6, .ref q9), (0, .ref x), (1, .int a1), (2, .int a2), (3, .int a3), (4, .int a4), (5, .ref ot)]) hx hb dL_sew_17 hl (by decide) rfl (fun ls hl => ?_)
    refine lv_iconst (v := 1) hx hb dL_sew_19 (by decide) ?_
    have hP9 := hP.sub (ws' := []) [] rfl
    have hD9 := hD.sub (ws' := []) [] (by decide) rfl
    have hK9 := hK.sub (tys' := []) [] rfl
    exact end_i hx hb hr hlocks hP9 hD9 hK9 hS () rfl rfl rfl (Nat.le_of_ble_eq_true rfl) (Nat.le_of_ble_eq_true rfl) dL_sew_20
  · exact hw.elim
set_option maxHeartbeats 4000000 in
set_option maxRecDepth 100000 in
/-- the try of room -/
theorem t_room (l : Launch) (hlt : l.stackTraces = false) (D : va_G) (tC tE sz : Nat) (x q0 q1 q2 q3 q4 q5 q6 : Nat) (k3 : ClassId) (ot : Nat) (kot : ClassId) (fo : Nat → Int64) (a1 : Int32) : Met l yL_room wsL_room ({ frames := 8, cells := 1, slots := 6, locals := 125 }) (Pg D tC tE sz [(x, .inr (13, [.ref q0, .ref q1, .ref q2, .ref q3, .ref q4, .ref q5, .ref q6, .int 0, .int 0, .int 0, .int 0, .int 0, .int 0, .int 0])), (q3, .inl (k3, 16, .inr (.inr (.inr (.inr (fun _ => none)))))), (ot, .inl (kot, 1, .inr (.inl fo)))] [(k3, .object "Lastroom$Ticket"), (kot, .long)] [.ref x, .int a1, .ref ot]) (Qgi (S := Unit) D (fun u => []) (fun u => []) (fun r _ => r = 1) (va_A [(x, .inr (13, [.ref q0, .ref q1, .ref q2, .ref q3, .ref q4, .ref q5, .ref q6, .int 0, .int 0, .int 0, .int 0, .int 0, .int 0, .int 0])), (q3, .inl (k3, 16, .inr (.inr (.inr (.inr (fun _ => none)))))), (ot, .inl (kot, 1, .inr (.inl fo)))] sz)) 1 6 (va_A [(x, .inr (13, [.ref q0, .ref q1, .ref q2, .ref q3, .ref q4, .ref q5, .ref q6, .int 0, .int 0, .int 0, .int 0, .int 0, .int 0, .int 0])), (q3, .inl (k3, 16, .inr (.inr (.inr (.inr (fun _ => none)))))), (ot, .inl (kot, 1, .inr (.inl fo)))] sz) := by
  refine og_h (cc := cL_room) (maxL := 4) (ret := (some .int)) (hh := [(0, 9, 12, 28)]) (Qc := Qgi (S := Unit) D (fun u => []) (fun u => []) (fun r _ => r = 1)) (by decide) rfl (Nat.le_of_ble_eq_true rfl) ?_
  intro p e s m below meth c A hx hb hr hml hts hown hlocks htab hP hD hK hG hA hS ls hl
  have hl : lv_has ls 4 [(0, .ref x), (1, .int a1), (2, .ref ot)] := hl
  refine lv_aload_n hx hb dL_room_0 rfl (lv_at hl 2 rfl) ?_
  refine lv_iconst (v := 0) hx hb dL_room_1 (by decide) ?_
  refine lv_aload_n hx hb dL_room_2 rfl (lv_at hl 0 rfl) ?_
  refine lv_iload_n hx hb dL_room_3 rfl (lv_at hl 1 rfl) ?_
  have hFc := va_free (wc := [(x, .inr (13, [.ref q0, .ref q1, .ref q2, .ref q3, .ref q4, .ref q5, .ref q6, .int 0, .int 0, .int 0, .int 0, .int 0, .int 0, .int 0])), (q3, .inl (k3, 16, .inr (.inr (.inr (.inr (fun _ => none))))))]) hD hS hA [0, 1] rfl
  refine vx_calli (vx_runV (As := [.int a1]) (rest := [.int 0, .ref ot]) ⟨hx, hb, hml, hown, hts⟩ (c_room l hlt D tC tE s.heap.size x q0 q1 q2 q3 q4 q5 q6 k3 a1) (cwV 1 hts gL_room_X9_room rfl rfl rfl (by decide +kernel) ⟨(Nat.le_of_ble_eq_true rfl), (Nat.le_of_ble_eq_true rfl)⟩) ⟨pg_blind, (va_recv hK hP (ci := 13) (q0 := 0) rfl rfl), (pg_pre hP hD hK hG hS hFc [0, 1] rfl (by decide) [0] rfl _)⟩ rfl rfl hl.1 rfl (lv_room (Nat.le_of_ble_eq_true rfl)) dL_room_4 ⟨(Nat.le_of_ble_eq_true rfl), (Nat.le_of_ble_eq_true rfl)⟩) hS (fun q _ h => hFc q h) hFc (fun q _ h => hFc q h) (fun E ce q9 u t H1 locs1 ht hvm hw hB hz1 hk1 hS hce hcv hcl => ?_) (fun r_1 u_2 t H locs ht hvm hw hB hz1 hk1 hS => ?_)
  · obtain ⟨hP, hD⟩ := jx (wr := [(ot, .inl (kot, 1, .inr (.inl fo)))]) hP hD [0, 1] [2] rfl rfl (by decide) (by decide) hk1 hFc
    have hP : va_P D vwCl [(ot, .inl (kot, 1, .inr (.inl fo)))] H1 := hP
    have hD : va_D A [(ot, .inl (kot, 1, .inr (.inl fo)))] := hD
    subst hB
    refine vx_widen (k := 1) (n := 6) (Nat.le_of_ble_eq_true rfl) (Nat.le_of_ble_eq_true rfl) (vx_catch (E := gx_ioo) (name := "java/lang/IndexOutOfBoundsException") hown [] ⟨0, 9, 12, 28⟩ [] (htab.trans rfl) (fun z hz => absurd hz List.not_mem_nil) (by decide) (by decide) (hts (.classLink RL 28 "java/lang/IndexOutOfBoundsException") (List.mem_of_getElem? (i := 1) rfl)) (va_Nw.use rfl (hG.2.2.2.2.2.2.2.2.2.2.1 _ (List.mem_of_getElem? (i := 1) rfl))) hce hcv hcl ?_)
    refine W.eq (g2 := F0 m 12 ls [.ref q9]) rfl ?_
    refine lv_astore_n (lv' := [(3, .ref q9), (0, .ref x), (1, .int a1), (2, .ref ot)]) hx hb dL_room_12 rfl hl (by decide) rfl (fun ls hl => ?_)
    refine lv_iconst (v := 1) hx hb dL_room_13 (by decide) ?_
    have hP9 := hP.sub (ws' := []) [] rfl
    have hD9 := hD.sub (ws' := []) [] (by decide) rfl
    have hK9 := hK.sub (tys' := []) [] rfl
    exact end_i hx hb hr hlocks hP9 hD9 hK9 hS () rfl rfl rfl (Nat.le_of_ble_eq_true rfl) (Nat.le_of_ble_eq_true rfl) dL_room_14
  · exact hw.elim
set_option maxHeartbeats 4000000 in
set_option maxRecDepth 100000 in
/-- the try of lastOn -/
theorem t_lastOn (l : Launch) (hlt : l.stackTraces = false) (D : va_G) (tC tE sz : Nat) (x q0 q1 q2 q3 q4 q5 q6 : Nat) (k3 : ClassId) (ot : Nat) (kot : ClassId) (fo : Nat → Int64) (a1 : Int32) : Met l yL_lastOn wsL_lastOn ({ frames := 8, cells := 1, slots := 6, locals := 127 }) (Pg D tC tE sz [(x, .inr (13, [.ref q0, .ref q1, .ref q2, .ref q3, .ref q4, .ref q5, .ref q6, .int 0, .int 0, .int 0, .int 0, .int 0, .int 0, .int 0])), (q3, .inl (k3, 16, .inr (.inr (.inr (.inr (fun _ => none)))))), (ot, .inl (kot, 1, .inr (.inl fo)))] [(k3, .object "Lastroom$Ticket"), (kot, .long)] [.ref x, .int a1, .ref ot]) (Qgi (S := Unit) D (fun u => []) (fun u => []) (fun r _ => r = 1) (va_A [(x, .inr (13, [.ref q0, .ref q1, .ref q2, .ref q3, .ref q4, .ref q5, .ref q6, .int 0, .int 0, .int 0, .int 0, .int 0, .int 0, .int 0])), (q3, .inl (k3, 16, .inr (.inr (.inr (.inr (fun _ => none)))))), (ot, .inl (kot, 1, .inr (.inl fo)))] sz)) 1 6 (va_A [(x, .inr (13, [.ref q0, .ref q1, .ref q2, .ref q3, .ref q4, .ref q5, .ref q6, .int 0, .int 0, .int 0, .int 0, .int 0, .int 0, .int 0])), (q3, .inl (k3, 16, .inr (.inr (.inr (.inr (fun _ => none)))))), (ot, .inl (kot, 1, .inr (.inl fo)))] sz) := by
  refine og_h (cc := cL_lastOn) (maxL := 4) (ret := (some .int)) (hh := [(0, 9, 12, 28), (0, 9, 15, 23), (0, 9, 18, 34)]) (Qc := Qgi (S := Unit) D (fun u => []) (fun u => []) (fun r _ => r = 1)) (by decide) rfl (Nat.le_of_ble_eq_true rfl) ?_
  intro p e s m below meth c A hx hb hr hml hts hown hlocks htab hP hD hK hG hA hS ls hl
  have hl : lv_has ls 4 [(0, .ref x), (1, .int a1), (2, .ref ot)] := hl
  refine lv_aload_n hx hb dL_lastOn_0 rfl (lv_at hl 2 rfl) ?_
  refine lv_iconst (v := 0) hx hb dL_lastOn_1 (by decide) ?_
  refine lv_aload_n hx hb dL_lastOn_2 rfl (lv_at hl 0 rfl) ?_
  refine lv_iload_n hx hb dL_lastOn_3 rfl (lv_at hl 1 rfl) ?_
  have hFc := va_free (wc := [(x, .inr (13, [.ref q0, .ref q1, .ref q2, .ref q3, .ref q4, .ref q5, .ref q6, .int 0, .int 0, .int 0, .int 0, .int 0, .int 0, .int 0])), (q3, .inl (k3, 16, .inr (.inr (.inr (.inr (fun _ => none))))))]) hD hS hA [0, 1] rfl
  refine vx_calli (vx_runV (As := [.int a1]) (rest := [.int 0, .ref ot]) ⟨hx, hb, hml, hown, hts⟩ (c_lastOn l hlt D tC tE s.heap.size x q0 q1 q2 q3 q4 q5 q6 k3 a1) (cwV 1 hts gL_lastOn_X9_lastOn rfl rfl rfl (by decide +kernel) ⟨(Nat.le_of_ble_eq_true rfl), (Nat.le_of_ble_eq_true rfl)⟩) ⟨pg_blind, (va_recv hK hP (ci := 13) (q0 := 0) rfl rfl), (pg_pre hP hD hK hG hS hFc [0, 1] rfl (by decide) [0] rfl _)⟩ rfl rfl hl.1 rfl (lv_room (Nat.le_of_ble_eq_true rfl)) dL_lastOn_4 ⟨(Nat.le_of_ble_eq_true rfl), (Nat.le_of_ble_eq_true rfl)⟩) hS (fun q _ h => hFc q h) hFc (fun q _ h => hFc q h) (fun E ce q9 u t H1 locs1 ht hvm hw hB hz1 hk1 hS hce hcv hcl => ?_) (fun r_1 u_2 t H locs ht hvm hw hB hz1 hk1 hS => ?_)
  · obtain ⟨hP, hD⟩ := jx (wr := [(ot, .inl (kot, 1, .inr (.inl fo)))]) hP hD [0, 1] [2] rfl rfl (by decide) (by decide) hk1 hFc
    have hP : va_P D vwCl [(ot, .inl (kot, 1, .inr (.inl fo)))] H1 := hP
    have hD : va_D A [(ot, .inl (kot, 1, .inr (.inl fo)))] := hD
    subst hB
    refine vx_widen (k := 1) (n := 6) (Nat.le_of_ble_eq_true rfl) (Nat.le_of_ble_eq_true rfl) (vx_catch (E := gx_ioo) (name := "java/lang/IndexOutOfBoundsException") hown [] ⟨0, 9, 12, 28⟩ [⟨0, 9, 15, 23⟩, ⟨0, 9, 18, 34⟩] (htab.trans rfl) (fun z hz => absurd hz List.not_mem_nil) (by decide) (by decide) (hts (.classLink RL 28 "java/lang/IndexOutOfBoundsException") (List.mem_of_getElem? (i := 1) rfl)) (va_Nw.use rfl (hG.2.2.2.2.2.2.2.2.2.2.1 _ (List.mem_of_getElem? (i := 1) rfl))) hce hcv hcl ?_)
    refine W.eq (g2 := F0 m 12 ls [.ref q9]) rfl ?_
    refine lv_astore_n (lv' := [(3, .ref q9), (0, .ref x), (1, .int a1), (2, .ref ot)]) hx hb dL_lastOn_12 rfl hl (by decide) rfl (fun ls hl => ?_)
    refine lv_iconst (v := 1) hx hb dL_lastOn_13 (by decide) ?_
    have hP9 := hP.sub (ws' := []) [] rfl
    have hD9 := hD.sub (ws' := []) [] (by decide) rfl
    have hK9 := hK.sub (tys' := []) [] rfl
    exact end_i hx hb hr hlocks hP9 hD9 hK9 hS () rfl rfl rfl (Nat.le_of_ble_eq_true rfl) (Nat.le_of_ble_eq_true rfl) dL_lastOn_14
  · exact hw.elim
set_option maxHeartbeats 4000000 in
set_option maxRecDepth 100000 in
/-- the try of sole -/
theorem t_sole (l : Launch) (hlt : l.stackTraces = false) (D : va_G) (tC tE sz : Nat) (x q0 q1 q2 q3 q4 q5 q6 : Nat) (k3 : ClassId) (ot : Nat) (kot : ClassId) (fo : Nat → Int64) (a1 a2 a3 : Int32) : Met l yL_sole wsL_sole ({ frames := 8, cells := 1, slots := 6, locals := 131 }) (Pg D tC tE sz [(x, .inr (13, [.ref q0, .ref q1, .ref q2, .ref q3, .ref q4, .ref q5, .ref q6, .int 0, .int 0, .int 0, .int 0, .int 0, .int 0, .int 0])), (q3, .inl (k3, 16, .inr (.inr (.inr (.inr (fun _ => none)))))), (ot, .inl (kot, 1, .inr (.inl fo)))] [(k3, .object "Lastroom$Ticket"), (kot, .long)] [.ref x, .int a1, .int a2, .int a3, .ref ot]) (Qgi (S := Unit) D (fun u => []) (fun u => []) (fun r _ => r = 1) (va_A [(x, .inr (13, [.ref q0, .ref q1, .ref q2, .ref q3, .ref q4, .ref q5, .ref q6, .int 0, .int 0, .int 0, .int 0, .int 0, .int 0, .int 0])), (q3, .inl (k3, 16, .inr (.inr (.inr (.inr (fun _ => none)))))), (ot, .inl (kot, 1, .inr (.inl fo)))] sz)) 1 6 (va_A [(x, .inr (13, [.ref q0, .ref q1, .ref q2, .ref q3, .ref q4, .ref q5, .ref q6, .int 0, .int 0, .int 0, .int 0, .int 0, .int 0, .int 0])), (q3, .inl (k3, 16, .inr (.inr (.inr (.inr (fun _ => none)))))), (ot, .inl (kot, 1, .inr (.inl fo)))] sz) := by
  refine og_h (cc := cL_sole) (maxL := 6) (ret := (some .int)) (hh := [(0, 19, 22, 28), (0, 19, 26, 23), (0, 19, 30, 34)]) (Qc := Qgi (S := Unit) D (fun u => []) (fun u => []) (fun r _ => r = 1)) (by decide) rfl (Nat.le_of_ble_eq_true rfl) ?_
  intro p e s m below meth c A hx hb hr hml hts hown hlocks htab hP hD hK hG hA hS ls hl
  have hl : lv_has ls 6 [(0, .ref x), (1, .int a1), (2, .int a2), (3, .int a3), (4, .ref ot)] := hl
  refine lv_aload hx hb dL_sole_0 (lv_at hl 4 rfl) ?_
  refine lv_iconst (v := 0) hx hb dL_sole_2 (by decide) ?_
  refine lv_aload_n hx hb dL_sole_3 rfl (lv_at hl 0 rfl) ?_
  refine lv_iload_n hx hb dL_sole_4 rfl (lv_at hl 1 rfl) ?_
  refine lv_iload_n hx hb dL_sole_5 rfl (lv_at hl 2 rfl) ?_
  refine lv_iload_n hx hb dL_sole_6 rfl (lv_at hl 3 rfl) ?_
  have hFc := va_free (wc := [(x, .inr (13, [.ref q0, .ref q1, .ref q2, .ref q3, .ref q4, .ref q5, .ref q6, .int 0, .int 0, .int 0, .int 0, .int 0, .int 0, .int 0])), (q3, .inl (k3, 16, .inr (.inr (.inr (.inr (fun _ => none))))))]) hD hS hA [0, 1] rfl
  refine vx_calli (vx_runV (As := [.int a1, .int a2, .int a3]) (rest := [.int 0, .ref ot]) ⟨hx, hb, hml, hown, hts⟩ (c_sole l hlt D tC tE s.heap.size x q0 q1 q2 q3 q4 q5 q6 k3 a1 a2 a3) (cwV 3 hts gL_sole_X9_sole rfl rfl rfl (by decide +kernel) ⟨(Nat.le_of_ble_eq_true rfl), (Nat.le_of_ble_eq_true rfl)⟩) ⟨pg_blind, (va_recv hK hP (ci := 13) (q0 := 0) rfl rfl), (pg_pre hP hD hK hG hS hFc [0, 1] rfl (by decide) [0] rfl _)⟩ rfl rfl hl.1 rfl (lv_room (Nat.le_of_ble_eq_true rfl)) dL_sole_7 ⟨(Nat.le_of_ble_eq_true rfl), (Nat.le_of_ble_eq_true rfl)⟩) hS (fun q _ h => hFc q h) hFc (fun q _ h => hFc q h) (fun E ce q9 u t H1 locs1 ht hvm hw hB hz1 hk1 hS hce hcv hcl => ?_) (fun r_1 u_2 t H locs ht hvm hw hB hz1 hk1 hS => ?_)
  · obtain ⟨hP, hD⟩ := jx (wr := [(ot, .inl (kot, 1, .inr (.inl fo)))]) hP hD [0, 1] [2] rfl rfl (by decide) (by decide) hk1 hFc
    have hP : va_P D vwCl [(ot, .inl (kot, 1, .inr (.inl fo)))] H1 := hP
    have hD : va_D A [(ot, .inl (kot, 1, .inr (.inl fo)))] := hD
    subst hB
    refine vx_widen (k := 1) (n := 6) (Nat.le_of_ble_eq_true rfl) (Nat.le_of_ble_eq_true rfl) (vx_catch (E := gx_ioo) (name := "java/lang/IndexOutOfBoundsException") hown [] ⟨0, 19, 22, 28⟩ [⟨0, 19, 26, 23⟩, ⟨0, 19, 30, 34⟩] (htab.trans rfl) (fun z hz => absurd hz List.not_mem_nil) (by decide) (by decide) (hts (.classLink RL 28 "java/lang/IndexOutOfBoundsException") (List.mem_of_getElem? (i := 1) rfl)) (va_Nw.use rfl (hG.2.2.2.2.2.2.2.2.2.2.1 _ (List.mem_of_getElem? (i := 1) rfl))) hce hcv hcl ?_)
    refine W.eq (g2 := F0 m 22 ls [.ref q9]) rfl ?_
    refine lv_astore (lv' := [(5, .ref q9), (0, .ref x), (1, .int a1), (2, .int a2), (3, .int a3), (4, .ref ot)]) hx hb dL_sole_22 hl (by decide) rfl (fun ls hl => ?_)
    refine lv_iconst (v := 1) hx hb dL_sole_24 (by decide) ?_
    have hP9 := hP.sub (ws' := []) [] rfl
    have hD9 := hD.sub (ws' := []) [] (by decide) rfl
    have hK9 := hK.sub (tys' := []) [] rfl
    exact end_i hx hb hr hlocks hP9 hD9 hK9 hS () rfl rfl rfl (Nat.le_of_ble_eq_true rfl) (Nat.le_of_ble_eq_true rfl) dL_sole_25
  · exact hw.elim
set_option maxHeartbeats 4000000 in
set_option maxRecDepth 100000 in
/-- the try of takeOff -/
theorem t_takeOff (l : Launch) (hlt : l.stackTraces = false) (D : va_G) (tC tE sz : Nat) (x q0 q1 q2 q3 q4 q5 q6 : Nat) (k3 : ClassId) (ot : Nat) (kot : ClassId) (fo : Nat → Int64) (a1 : Int32) : Met l yL_takeOff wsL_takeOff ({ frames := 8, cells := 1, slots := 6, locals := 126 }) (Pg D tC tE sz [(x, .inr (13, [.ref q0, .ref q1, .ref q2, .ref q3, .ref q4, .ref q5, .ref q6, .int 0, .int 0, .int 0, .int 0, .int 0, .int 0, .int 0])), (q3, .inl (k3, 16, .inr (.inr (.inr (.inr (fun _ => none)))))), (ot, .inl (kot, 1, .inr (.inl fo)))] [(k3, .object "Lastroom$Ticket"), (kot, .long)] [.ref x, .int a1, .ref ot]) (Qgi (S := Unit) D (fun u => []) (fun u => []) (fun r _ => r = 1) (va_A [(x, .inr (13, [.ref q0, .ref q1, .ref q2, .ref q3, .ref q4, .ref q5, .ref q6, .int 0, .int 0, .int 0, .int 0, .int 0, .int 0, .int 0])), (q3, .inl (k3, 16, .inr (.inr (.inr (.inr (fun _ => none)))))), (ot, .inl (kot, 1, .inr (.inl fo)))] sz)) 1 6 (va_A [(x, .inr (13, [.ref q0, .ref q1, .ref q2, .ref q3, .ref q4, .ref q5, .ref q6, .int 0, .int 0, .int 0, .int 0, .int 0, .int 0, .int 0])), (q3, .inl (k3, 16, .inr (.inr (.inr (.inr (fun _ => none)))))), (ot, .inl (kot, 1, .inr (.inl fo)))] sz) := by
  refine og_h (cc := cL_takeOff) (maxL := 4) (ret := (some .int)) (hh := [(0, 9, 12, 28), (0, 9, 15, 23)]) (Qc := Qgi (S := Unit) D (fun u => []) (fun u => []) (fun r _ => r = 1)) (by decide) rfl (Nat.le_of_ble_eq_true rfl) ?_
  intro p e s m below meth c A hx hb hr hml hts hown hlocks htab hP hD hK hG hA hS ls hl
  have hl : lv_has ls 4 [(0, .ref x), (1, .int a1), (2, .ref ot)] := hl
  refine lv_aload_n hx hb dL_takeOff_0 rfl (lv_at hl 2 rfl) ?_
  refine lv_iconst (v := 0) hx hb dL_takeOff_1 (by decide) ?_
  refine lv_aload_n hx hb dL_takeOff_2 rfl (lv_at hl 0 rfl) ?_
  refine lv_iload_n hx hb dL_takeOff_3 rfl (lv_at hl 1 rfl) ?_
  have hFc := va_free (wc := [(x, .inr (13, [.ref q0, .ref q1, .ref q2, .ref q3, .ref q4, .ref q5, .ref q6, .int 0, .int 0, .int 0, .int 0, .int 0, .int 0, .int 0])), (q3, .inl (k3, 16, .inr (.inr (.inr (.inr (fun _ => none))))))]) hD hS hA [0, 1] rfl
  refine vx_calli (vx_runV (As := [.int a1]) (rest := [.int 0, .ref ot]) ⟨hx, hb, hml, hown, hts⟩ (c_takeOff l hlt D tC tE s.heap.size x q0 q1 q2 q3 q4 q5 q6 k3 a1) (cwV 1 hts gL_takeOff_X9_takeOff rfl rfl rfl (by decide +kernel) ⟨(Nat.le_of_ble_eq_true rfl), (Nat.le_of_ble_eq_true rfl)⟩) ⟨pg_blind, (va_recv hK hP (ci := 13) (q0 := 0) rfl rfl), (pg_pre hP hD hK hG hS hFc [0, 1] rfl (by decide) [0] rfl _)⟩ rfl rfl hl.1 rfl (lv_room (Nat.le_of_ble_eq_true rfl)) dL_takeOff_4 ⟨(Nat.le_of_ble_eq_true rfl), (Nat.le_of_ble_eq_true rfl)⟩) hS (fun q _ h => hFc q h) hFc (fun q _ h => hFc q h) (fun E ce q9 u t H1 locs1 ht hvm hw hB hz1 hk1 hS hce hcv hcl => ?_) (fun r_1 u_2 t H locs ht hvm hw hB hz1 hk1 hS => ?_)
  · obtain ⟨hP, hD⟩ := jx (wr := [(ot, .inl (kot, 1, .inr (.inl fo)))]) hP hD [0, 1] [2] rfl rfl (by decide) (by decide) hk1 hFc
    have hP : va_P D vwCl [(ot, .inl (kot, 1, .inr (.inl fo)))] H1 := hP
    have hD : va_D A [(ot, .inl (kot, 1, .inr (.inl fo)))] := hD
    subst hB
    refine vx_widen (k := 1) (n := 6) (Nat.le_of_ble_eq_true rfl) (Nat.le_of_ble_eq_true rfl) (vx_catch (E := gx_ioo) (name := "java/lang/IndexOutOfBoundsException") hown [] ⟨0, 9, 12, 28⟩ [⟨0, 9, 15, 23⟩] (htab.trans rfl) (fun z hz => absurd hz List.not_mem_nil) (by decide) (by decide) (hts (.classLink RL 28 "java/lang/IndexOutOfBoundsException") (List.mem_of_getElem? (i := 1) rfl)) (va_Nw.use rfl (hG.2.2.2.2.2.2.2.2.2.2.1 _ (List.mem_of_getElem? (i := 1) rfl))) hce hcv hcl ?_)
    refine W.eq (g2 := F0 m 12 ls [.ref q9]) rfl ?_
    refine lv_astore_n (lv' := [(3, .ref q9), (0, .ref x), (1, .int a1), (2, .ref ot)]) hx hb dL_takeOff_12 rfl hl (by decide) rfl (fun ls hl => ?_)
    refine lv_iconst (v := 1) hx hb dL_takeOff_13 (by decide) ?_
    have hP9 := hP.sub (ws' := []) [] rfl
    have hD9 := hD.sub (ws' := []) [] (by decide) rfl
    have hK9 := hK.sub (tys' := []) [] rfl
    exact end_i hx hb hr hlocks hP9 hD9 hK9 hS () rfl rfl rfl (Nat.le_of_ble_eq_true rfl) (Nat.le_of_ble_eq_true rfl) dL_takeOff_14
  · exact hw.elim
set_option maxHeartbeats 4000000 in
set_option maxRecDepth 100000 in
/-- the try of pack -/
theorem t_pack (l : Launch) (hlt : l.stackTraces = false) (D : va_G) (tC tE sz : Nat) (x q0 q1 q2 q3 q4 q5 q6 : Nat) (k3 : ClassId) (ot : Nat) (kot : ClassId) (fo : Nat → Int64) (a1 a2 a3 : Int32) : Met l yL_pack wsL_pack ({ frames := 8, cells := 1, slots := 6, locals := 129 }) (Pg D tC tE sz [(x, .inr (13, [.ref q0, .ref q1, .ref q2, .ref q3, .ref q4, .ref q5, .ref q6, .int 0, .int 0, .int 0, .int 0, .int 0, .int 0, .int 0])), (q3, .inl (k3, 16, .inr (.inr (.inr (.inr (fun _ => none)))))), (ot, .inl (kot, 1, .inr (.inl fo)))] [(k3, .object "Lastroom$Ticket"), (kot, .long)] [.ref x, .int a1, .int a2, .int a3, .ref ot]) (Qgi (S := Unit) D (fun u => []) (fun u => []) (fun r _ => r = 1) (va_A [(x, .inr (13, [.ref q0, .ref q1, .ref q2, .ref q3, .ref q4, .ref q5, .ref q6, .int 0, .int 0, .int 0, .int 0, .int 0, .int 0, .int 0])), (q3, .inl (k3, 16, .inr (.inr (.inr (.inr (fun _ => none)))))), (ot, .inl (kot, 1, .inr (.inl fo)))] sz)) 1 6 (va_A [(x, .inr (13, [.ref q0, .ref q1, .ref q2, .ref q3, .ref q4, .ref q5, .ref q6, .int 0, .int 0, .int 0, .int 0, .int 0, .int 0, .int 0])), (q3, .inl (k3, 16, .inr (.inr (.inr (.inr (fun _ => none)))))), (ot, .inl (kot, 1, .inr (.inl fo)))] sz) := by
  refine og_h (cc := cL_pack) (maxL := 6) (ret := (some .int)) (hh := [(0, 19, 22, 28), (0, 19, 26, 13), (0, 19, 30, 23)]) (Qc := Qgi (S := Unit) D (fun u => []) (fun u => []) (fun r _ => r = 1)) (by decide) rfl (Nat.le_of_ble_eq_true rfl) ?_
  intro p e s m below meth c A hx hb hr hml hts hown hlocks htab hP hD hK hG hA hS ls hl
  have hl : lv_has ls 6 [(0, .ref x), (1, .int a1), (2, .int a2), (3, .int a3), (4, .ref ot)] := hl
  refine lv_aload hx hb dL_pack_0 (lv_at hl 4 rfl) ?_
  refine lv_iconst (v := 0) hx hb dL_pack_2 (by decide) ?_
  refine lv_aload_n hx hb dL_pack_3 rfl (lv_at hl 0 rfl) ?_
  refine lv_iload_n hx hb dL_pack_4 rfl (lv_at hl 1 rfl) ?_
  refine lv_iload_n hx hb dL_pack_5 rfl (lv_at hl 2 rfl) ?_
  refine lv_iload_n hx hb dL_pack_6 rfl (lv_at hl 3 rfl) ?_
  have hFc := va_free (wc := [(x, .inr (13, [.ref q0, .ref q1, .ref q2, .ref q3, .ref q4, .ref q5, .ref q6, .int 0, .int 0, .int 0, .int 0, .int 0, .int 0, .int 0])), (q3, .inl (k3, 16, .inr (.inr (.inr (.inr (fun _ => none))))))]) hD hS hA [0, 1] rfl
  refine vx_calli (vx_runV (As := [.int a1, .int a2, .int a3]) (rest := [.int 0, .ref ot]) ⟨hx, hb, hml, hown, hts⟩ (c_pack l hlt D tC tE s.heap.size x q0 q1 q2 q3 q4 q5 q6 k3 a1 a2 a3) (cwV 3 hts gL_pack_X9_pack rfl rfl rfl (by decide +kernel) ⟨(Nat.le_of_ble_eq_true rfl), (Nat.le_of_ble_eq_true rfl)⟩) ⟨pg_blind, (va_recv hK hP (ci := 13) (q0 := 0) rfl rfl), (pg_pre hP hD hK hG hS hFc [0, 1] rfl (by decide) [0] rfl _)⟩ rfl rfl hl.1 rfl (lv_room (Nat.le_of_ble_eq_true rfl)) dL_pack_7 ⟨(Nat.le_of_ble_eq_true rfl), (Nat.le_of_ble_eq_true rfl)⟩) hS (fun q _ h => hFc q h) hFc (fun q _ h => hFc q h) (fun E ce q9 u t H1 locs1 ht hvm hw hB hz1 hk1 hS hce hcv hcl => ?_) (fun r_1 u_2 t H locs ht hvm hw hB hz1 hk1 hS => ?_)
  · obtain ⟨hP, hD⟩ := jx (wr := [(ot, .inl (kot, 1, .inr (.inl fo)))]) hP hD [0, 1] [2] rfl rfl (by decide) (by decide) hk1 hFc
    have hP : va_P D vwCl [(ot, .inl (kot, 1, .inr (.inl fo)))] H1 := hP
    have hD : va_D A [(ot, .inl (kot, 1, .inr (.inl fo)))] := hD
    subst hB
    refine vx_widen (k := 1) (n := 6) (Nat.le_of_ble_eq_true rfl) (Nat.le_of_ble_eq_true rfl) (vx_catch (E := gx_ioo) (name := "java/lang/IndexOutOfBoundsException") hown [] ⟨0, 19, 22, 28⟩ [⟨0, 19, 26, 13⟩, ⟨0, 19, 30, 23⟩] (htab.trans rfl) (fun z hz => absurd hz List.not_mem_nil) (by decide) (by decide) (hts (.classLink RL 28 "java/lang/IndexOutOfBoundsException") (List.mem_of_getElem? (i := 1) rfl)) (va_Nw.use rfl (hG.2.2.2.2.2.2.2.2.2.2.1 _ (List.mem_of_getElem? (i := 1) rfl))) hce hcv hcl ?_)
    refine W.eq (g2 := F0 m 22 ls [.ref q9]) rfl ?_
    refine lv_astore (lv' := [(5, .ref q9), (0, .ref x), (1, .int a1), (2, .int a2), (3, .int a3), (4, .ref ot)]) hx hb dL_pack_22 hl (by decide) rfl (fun ls hl => ?_)
    refine lv_iconst (v := 1) hx hb dL_pack_24 (by decide) ?_
    have hP9 := hP.sub (ws' := []) [] rfl
    have hD9 := hD.sub (ws' := []) [] (by decide) rfl
    have hK9 := hK.sub (tys' := []) [] rfl
    exact end_i hx hb hr hlocks hP9 hD9 hK9 hS () rfl rfl rfl (Nat.le_of_ble_eq_true rfl) (Nat.le_of_ble_eq_true rfl) dL_pack_25
  · exact hw.elim
set_option maxHeartbeats 4000000 in
set_option maxRecDepth 100000 in
/-- the try of test -/
theorem t_test (l : Launch) (hlt : l.stackTraces = false) (D : va_G) (tC tE sz : Nat) (x q0 q1 q2 q3 q4 q5 q6 : Nat) (k3 : ClassId) (ot : Nat) (kot : ClassId) (fo : Nat → Int64) (a1 a2 : Int32) : Met l yL_test wsL_test ({ frames := 8, cells := 1, slots := 6, locals := 127 }) (Pg D tC tE sz [(x, .inr (13, [.ref q0, .ref q1, .ref q2, .ref q3, .ref q4, .ref q5, .ref q6, .int 0, .int 0, .int 0, .int 0, .int 0, .int 0, .int 0])), (q3, .inl (k3, 16, .inr (.inr (.inr (.inr (fun _ => none)))))), (ot, .inl (kot, 1, .inr (.inl fo)))] [(k3, .object "Lastroom$Ticket"), (kot, .long)] [.ref x, .int a1, .int a2, .ref ot]) (Qgi (S := Unit) D (fun u => []) (fun u => []) (fun r _ => r = 1) (va_A [(x, .inr (13, [.ref q0, .ref q1, .ref q2, .ref q3, .ref q4, .ref q5, .ref q6, .int 0, .int 0, .int 0, .int 0, .int 0, .int 0, .int 0])), (q3, .inl (k3, 16, .inr (.inr (.inr (.inr (fun _ => none)))))), (ot, .inl (kot, 1, .inr (.inl fo)))] sz)) 1 6 (va_A [(x, .inr (13, [.ref q0, .ref q1, .ref q2, .ref q3, .ref q4, .ref q5, .ref q6, .int 0, .int 0, .int 0, .int 0, .int 0, .int 0, .int 0])), (q3, .inl (k3, 16, .inr (.inr (.inr (.inr (fun _ => none)))))), (ot, .inl (kot, 1, .inr (.inl fo)))] sz) := by
  refine og_h (cc := cL_test) (maxL := 5) (ret := (some .int)) (hh := [(0, 10, 13, 28), (0, 10, 17, 13), (0, 10, 21, 23)]) (Qc := Qgi (S := Unit) D (fun u => []) (fun u => []) (fun r _ => r = 1)) (by decide) rfl (Nat.le_of_ble_eq_true rfl) ?_
  intro p e s m below meth c A hx hb hr hml hts hown hlocks htab hP hD hK hG hA hS ls hl
  have hl : lv_has ls 5 [(0, .ref x), (1, .int a1), (2, .int a2), (3, .ref ot)] := hl
  refine lv_aload_n hx hb dL_test_0 rfl (lv_at hl 3 rfl) ?_
  refine lv_iconst (v := 0) hx hb dL_test_1 (by decide) ?_
  refine lv_aload_n hx hb dL_test_2 rfl (lv_at hl 0 rfl) ?_
  refine lv_iload_n hx hb dL_test_3 rfl (lv_at hl 1 rfl) ?_
  refine lv_iload_n hx hb dL_test_4 rfl (lv_at hl 2 rfl) ?_
  have hFc := va_free (wc := [(x, .inr (13, [.ref q0, .ref q1, .ref q2, .ref q3, .ref q4, .ref q5, .ref q6, .int 0, .int 0, .int 0, .int 0, .int 0, .int 0, .int 0])), (q3, .inl (k3, 16, .inr (.inr (.inr (.inr (fun _ => none))))))]) hD hS hA [0, 1] rfl
  refine vx_calli (vx_runV (As := [.int a1, .int a2]) (rest := [.int 0, .ref ot]) ⟨hx, hb, hml, hown, hts⟩ (c_test l hlt D tC tE s.heap.size x q0 q1 q2 q3 q4 q5 q6 k3 a1 a2) (cwV 2 hts gL_test_X9_test rfl rfl rfl (by decide +kernel) ⟨(Nat.le_of_ble_eq_true rfl), (Nat.le_of_ble_eq_true rfl)⟩) ⟨pg_blind, (va_recv hK hP (ci := 13) (q0 := 0) rfl rfl), (pg_pre hP hD hK hG hS hFc [0, 1] rfl (by decide) [0] rfl _)⟩ rfl rfl hl.1 rfl (lv_room (Nat.le_of_ble_eq_true rfl)) dL_test_5 ⟨(Nat.le_of_ble_eq_true rfl), (Nat.le_of_ble_eq_true rfl)⟩) hS (fun q _ h => hFc q h) hFc (fun q _ h => hFc q h) (fun E ce q9 u t H1 locs1 ht hvm hw hB hz1 hk1 hS hce hcv hcl => ?_) (fun r_1 u_2 t H locs ht hvm hw hB hz1 hk1 hS => ?_)
  · obtain ⟨hP, hD⟩ := jx (wr := [(ot, .inl (kot, 1, .inr (.inl fo)))]) hP hD [0, 1] [2] rfl rfl (by decide) (by decide) hk1 hFc
    have hP : va_P D vwCl [(ot, .inl (kot, 1, .inr (.inl fo)))] H1 := hP
    have hD : va_D A [(ot, .inl (kot, 1, .inr (.inl fo)))] := hD
    subst hB
    refine vx_widen (k := 1) (n := 6) (Nat.le_of_ble_eq_true rfl) (Nat.le_of_ble_eq_true rfl) (vx_catch (E := gx_ioo) (name := "java/lang/IndexOutOfBoundsException") hown [] ⟨0, 10, 13, 28⟩ [⟨0, 10, 17, 13⟩, ⟨0, 10, 21, 23⟩] (htab.trans rfl) (fun z hz => absurd hz List.not_mem_nil) (by decide) (by decide) (hts (.classLink RL 28 "java/lang/IndexOutOfBoundsException") (List.mem_of_getElem? (i := 1) rfl)) (va_Nw.use rfl (hG.2.2.2.2.2.2.2.2.2.2.1 _ (List.mem_of_getElem? (i := 1) rfl))) hce hcv hcl ?_)
    refine W.eq (g2 := F0 m 13 ls [.ref q9]) rfl ?_
    refine lv_astore (lv' := [(4, .ref q9), (0, .ref x), (1, .int a1), (2, .int a2), (3, .ref ot)]) hx hb dL_test_13 hl (by decide) rfl (fun ls hl => ?_)
    refine lv_iconst (v := 1) hx hb dL_test_15 (by decide) ?_
    have hP9 := hP.sub (ws' := []) [] rfl
    have hD9 := hD.sub (ws' := []) [] (by decide) rfl
    have hK9 := hK.sub (tys' := []) [] rfl
    exact end_i hx hb hr hlocks hP9 hD9 hK9 hS () rfl rfl rfl (Nat.le_of_ble_eq_true rfl) (Nat.le_of_ble_eq_true rfl) dL_test_16
  · exact hw.elim
set_option maxHeartbeats 4000000 in
set_option maxRecDepth 100000 in
/-- the try of comeBack -/
theorem t_comeBack (l : Launch) (hlt : l.stackTraces = false) (D : va_G) (tC tE sz : Nat) (x q0 q1 q2 q3 q4 q5 q6 : Nat) (k3 : ClassId) (ot : Nat) (kot : ClassId) (fo : Nat → Int64) (a1 : Int32) : Met l yL_comeBack wsL_comeBack ({ frames := 8, cells := 1, slots := 6, locals := 126 }) (Pg D tC tE sz [(x, .inr (13, [.ref q0, .ref q1, .ref q2, .ref q3, .ref q4, .ref q5, .ref q6, .int 0, .int 0, .int 0, .int 0, .int 0, .int 0, .int 0])), (q3, .inl (k3, 16, .inr (.inr (.inr (.inr (fun _ => none)))))), (ot, .inl (kot, 1, .inr (.inl fo)))] [(k3, .object "Lastroom$Ticket"), (kot, .long)] [.ref x, .int a1, .ref ot]) (Qgi (S := Unit) D (fun u => []) (fun u => []) (fun r _ => r = 1) (va_A [(x, .inr (13, [.ref q0, .ref q1, .ref q2, .ref q3, .ref q4, .ref q5, .ref q6, .int 0, .int 0, .int 0, .int 0, .int 0, .int 0, .int 0])), (q3, .inl (k3, 16, .inr (.inr (.inr (.inr (fun _ => none)))))), (ot, .inl (kot, 1, .inr (.inl fo)))] sz)) 1 6 (va_A [(x, .inr (13, [.ref q0, .ref q1, .ref q2, .ref q3, .ref q4, .ref q5, .ref q6, .int 0, .int 0, .int 0, .int 0, .int 0, .int 0, .int 0])), (q3, .inl (k3, 16, .inr (.inr (.inr (.inr (fun _ => none)))))), (ot, .inl (kot, 1, .inr (.inl fo)))] sz) := by
  refine og_h (cc := cL_comeBack) (maxL := 4) (ret := (some .int)) (hh := [(0, 9, 12, 28), (0, 9, 15, 23)]) (Qc := Qgi (S := Unit) D (fun u => []) (fun u => []) (fun r _ => r = 1)) (by decide) rfl (Nat.le_of_ble_eq_true rfl) ?_
  intro p e s m below meth c A hx hb hr hml hts hown hlocks htab hP hD hK hG hA hS ls hl
  have hl : lv_has ls 4 [(0, .ref x), (1, .int a1), (2, .ref ot)] := hl
  refine lv_aload_n hx hb dL_comeBack_0 rfl (lv_at hl 2 rfl) ?_
  refine lv_iconst (v := 0) hx hb dL_comeBack_1 (by decide) ?_
  refine lv_aload_n hx hb dL_comeBack_2 rfl (lv_at hl 0 rfl) ?_
  refine lv_iload_n hx hb dL_comeBack_3 rfl (lv_at hl 1 rfl) ?_
  have hFc := va_free (wc := [(x, .inr (13, [.ref q0, .ref q1, .ref q2, .ref q3, .ref q4, .ref q5, .ref q6, .int 0, .int 0, .int 0, .int 0, .int 0, .int 0, .int 0])), (q3, .inl (k3, 16, .inr (.inr (.inr (.inr (fun _ => none))))))]) hD hS hA [0, 1] rfl
  refine vx_calli (vx_runV (As := [.int a1]) (rest := [.int 0, .ref ot]) ⟨hx, hb, hml, hown, hts⟩ (c_comeBack l hlt D tC tE s.heap.size x q0 q1 q2 q3 q4 q5 q6 k3 a1) (cwV 1 hts gL_comeBack_X9_comeBack rfl rfl rfl (by decide +kernel) ⟨(Nat.le_of_ble_eq_true rfl), (Nat.le_of_ble_eq_true rfl)⟩) ⟨pg_blind, (va_recv hK hP (ci := 13) (q0 := 0) rfl rfl), (pg_pre hP hD hK hG hS hFc [0, 1] rfl (by decide) [0] rfl _)⟩ rfl rfl hl.1 rfl (lv_room (Nat.le_of_ble_eq_true rfl)) dL_comeBack_4 ⟨(Nat.le_of_ble_eq_true rfl), (Nat.le_of_ble_eq_true rfl)⟩) hS (fun q _ h => hFc q h) hFc (fun q _ h => hFc q h) (fun E ce q9 u t H1 locs1 ht hvm hw hB hz1 hk1 hS hce hcv hcl => ?_) (fun r_1 u_2 t H locs ht hvm hw hB hz1 hk1 hS => ?_)
  · obtain ⟨hP, hD⟩ := jx (wr := [(ot, .inl (kot, 1, .inr (.inl fo)))]) hP hD [0, 1] [2] rfl rfl (by decide) (by decide) hk1 hFc
    have hP : va_P D vwCl [(ot, .inl (kot, 1, .inr (.inl fo)))] H1 := hP
    have hD : va_D A [(ot, .inl (kot, 1, .inr (.inl fo)))] := hD
    subst hB
    refine vx_widen (k := 1) (n := 6) (Nat.le_of_ble_eq_true rfl) (Nat.le_of_ble_eq_true rfl) (vx_catch (E := gx_ioo) (name := "java/lang/IndexOutOfBoundsException") hown [] ⟨0, 9, 12, 28⟩ [⟨0, 9, 15, 23⟩] (htab.trans rfl) (fun z hz => absurd hz List.not_mem_nil) (by decide) (by decide) (hts (.classLink RL 28 "java/lang/IndexOutOfBoundsException") (List.mem_of_getElem? (i := 1) rfl)) (va_Nw.use rfl (hG.2.2.2.2.2.2.2.2.2.2.1 _ (List.mem_of_getElem? (i := 1) rfl))) hce hcv hcl ?_)
    refine W.eq (g2 := F0 m 12 ls [.ref q9]) rfl ?_
    refine lv_astore_n (lv' := [(3, .ref q9), (0, .ref x), (1, .int a1), (2, .ref ot)]) hx hb dL_comeBack_12 rfl hl (by decide) rfl (fun ls hl => ?_)
    refine lv_iconst (v := 1) hx hb dL_comeBack_13 (by decide) ?_
    have hP9 := hP.sub (ws' := []) [] rfl
    have hD9 := hD.sub (ws' := []) [] (by decide) rfl
    have hK9 := hK.sub (tys' := []) [] rfl
    exact end_i hx hb hr hlocks hP9 hD9 hK9 hS () rfl rfl rfl (Nat.le_of_ble_eq_true rfl) (Nat.le_of_ble_eq_true rfl) dL_comeBack_14
  · exact hw.elim
set_option maxHeartbeats 4000000 in
set_option maxRecDepth 100000 in
/-- the try of hideOf -/
theorem t_hideOf (l : Launch) (hlt : l.stackTraces = false) (D : va_G) (tC tE sz : Nat) (x q0 q1 q2 q3 q4 q5 q6 : Nat) (k3 : ClassId) (ot : Nat) (kot : ClassId) (fo : Nat → Int64) (a1 a2 a3 : Int32) : Met l yL_hideOf wsL_hideOf ({ frames := 8, cells := 1, slots := 6, locals := 130 }) (Pg D tC tE sz [(x, .inr (13, [.ref q0, .ref q1, .ref q2, .ref q3, .ref q4, .ref q5, .ref q6, .int 0, .int 0, .int 0, .int 0, .int 0, .int 0, .int 0])), (q3, .inl (k3, 16, .inr (.inr (.inr (.inr (fun _ => none)))))), (ot, .inl (kot, 1, .inr (.inl fo)))] [(k3, .object "Lastroom$Ticket"), (kot, .long)] [.ref x, .int a1, .int a2, .int a3, .ref ot]) (Qgi (S := Unit) D (fun u => []) (fun u => []) (fun r _ => r = 1) (va_A [(x, .inr (13, [.ref q0, .ref q1, .ref q2, .ref q3, .ref q4, .ref q5, .ref q6, .int 0, .int 0, .int 0, .int 0, .int 0, .int 0, .int 0])), (q3, .inl (k3, 16, .inr (.inr (.inr (.inr (fun _ => none)))))), (ot, .inl (kot, 1, .inr (.inl fo)))] sz)) 1 6 (va_A [(x, .inr (13, [.ref q0, .ref q1, .ref q2, .ref q3, .ref q4, .ref q5, .ref q6, .int 0, .int 0, .int 0, .int 0, .int 0, .int 0, .int 0])), (q3, .inl (k3, 16, .inr (.inr (.inr (.inr (fun _ => none)))))), (ot, .inl (kot, 1, .inr (.inl fo)))] sz) := by
  refine og_h (cc := cL_hideOf) (maxL := 6) (ret := (some .int)) (hh := [(0, 12, 15, 28), (0, 12, 19, 49)]) (Qc := Qgi (S := Unit) D (fun u => []) (fun u => []) (fun r _ => r = 1)) (by decide) rfl (Nat.le_of_ble_eq_true rfl) ?_
  intro p e s m below meth c A hx hb hr hml hts hown hlocks htab hP hD hK hG hA hS ls hl
  have hl : lv_has ls 6 [(0, .ref x), (1, .int a1), (2, .int a2), (3, .int a3), (4, .ref ot)] := hl
  refine lv_aload hx hb dL_hideOf_0 (lv_at hl 4 rfl) ?_
  refine lv_iconst (v := 0) hx hb dL_hideOf_2 (by decide) ?_
  refine lv_aload_n hx hb dL_hideOf_3 rfl (lv_at hl 0 rfl) ?_
  refine lv_iload_n hx hb dL_hideOf_4 rfl (lv_at hl 1 rfl) ?_
  refine lv_iload_n hx hb dL_hideOf_5 rfl (lv_at hl 2 rfl) ?_
  refine lv_iload_n hx hb dL_hideOf_6 rfl (lv_at hl 3 rfl) ?_
  have hFc := va_free (wc := [(x, .inr (13, [.ref q0, .ref q1, .ref q2, .ref q3, .ref q4, .ref q5, .ref q6, .int 0, .int 0, .int 0, .int 0, .int 0, .int 0, .int 0])), (q3, .inl (k3, 16, .inr (.inr (.inr (.inr (fun _ => none))))))]) hD hS hA [0, 1] rfl
  refine vx_calli (vx_runV (As := [.int a1, .int a2, .int a3]) (rest := [.int 0, .ref ot]) ⟨hx, hb, hml, hown, hts⟩ (c_hideOf l hlt D tC tE s.heap.size x q0 q1 q2 q3 q4 q5 q6 k3 a1 a2 a3) (cwV 3 hts gL_hideOf_X9_hideOf rfl rfl rfl (by decide +kernel) ⟨(Nat.le_of_ble_eq_true rfl), (Nat.le_of_ble_eq_true rfl)⟩) ⟨pg_blind, (va_recv hK hP (ci := 13) (q0 := 0) rfl rfl), (pg_pre hP hD hK hG hS hFc [0, 1] rfl (by decide) [0] rfl _)⟩ rfl rfl hl.1 rfl (lv_room (Nat.le_of_ble_eq_true rfl)) dL_hideOf_7 ⟨(Nat.le_of_ble_eq_true rfl), (Nat.le_of_ble_eq_true rfl)⟩) hS (fun q _ h => hFc q h) hFc (fun q _ h => hFc q h) (fun E ce q9 u t H1 locs1 ht hvm hw hB hz1 hk1 hS hce hcv hcl => ?_) (fun r_1 u_2 t H locs ht hvm hw hB hz1 hk1 hS => ?_)
  · obtain ⟨hP, hD⟩ := jx (wr := [(ot, .inl (kot, 1, .inr (.inl fo)))]) hP hD [0, 1] [2] rfl rfl (by decide) (by decide) hk1 hFc
    have hP : va_P D vwCl [(ot, .inl (kot, 1, .inr (.inl fo)))] H1 := hP
    have hD : va_D A [(ot, .inl (kot, 1, .inr (.inl fo)))] := hD
    subst hB
    refine vx_widen (k := 1) (n := 6) (Nat.le_of_ble_eq_true rfl) (Nat.le_of_ble_eq_true rfl) (vx_catch (E := gx_ioo) (name := "java/lang/IndexOutOfBoundsException") hown [] ⟨0, 12, 15, 28⟩ [⟨0, 12, 19, 49⟩] (htab.trans rfl) (fun z hz => absurd hz List.not_mem_nil) (by decide) (by decide) (hts (.classLink RL 28 "java/lang/IndexOutOfBoundsException") (List.mem_of_getElem? (i := 1) rfl)) (va_Nw.use rfl (hG.2.2.2.2.2.2.2.2.2.2.1 _ (List.mem_of_getElem? (i := 1) rfl))) hce hcv hcl ?_)
    refine W.eq (g2 := F0 m 15 ls [.ref q9]) rfl ?_
    refine lv_astore (lv' := [(5, .ref q9), (0, .ref x), (1, .int a1), (2, .int a2), (3, .int a3), (4, .ref ot)]) hx hb dL_hideOf_15 hl (by decide) rfl (fun ls hl => ?_)
    refine lv_iconst (v := 1) hx hb dL_hideOf_17 (by decide) ?_
    have hP9 := hP.sub (ws' := []) [] rfl
    have hD9 := hD.sub (ws' := []) [] (by decide) rfl
    have hK9 := hK.sub (tys' := []) [] rfl
    exact end_i hx hb hr hlocks hP9 hD9 hK9 hS () rfl rfl rfl (Nat.le_of_ble_eq_true rfl) (Nat.le_of_ble_eq_true rfl) dL_hideOf_18
  · exact hw.elim
set_option maxHeartbeats 4000000 in
set_option maxRecDepth 100000 in
/-- the try of sewerOf -/
theorem t_sewerOf (l : Launch) (hlt : l.stackTraces = false) (D : va_G) (tC tE sz : Nat) (x q0 q1 q2 q3 q4 q5 q6 : Nat) (k3 : ClassId) (ot : Nat) (kot : ClassId) (fo : Nat → Int64) (a1 a2 a3 : Int32) : Met l yL_sewerOf wsL_sewerOf ({ frames := 8, cells := 1, slots := 6, locals := 130 }) (Pg D tC tE sz [(x, .inr (13, [.ref q0, .ref q1, .ref q2, .ref q3, .ref q4, .ref q5, .ref q6, .int 0, .int 0, .int 0, .int 0, .int 0, .int 0, .int 0])), (q3, .inl (k3, 16, .inr (.inr (.inr (.inr (fun _ => none)))))), (ot, .inl (kot, 1, .inr (.inl fo)))] [(k3, .object "Lastroom$Ticket"), (kot, .long)] [.ref x, .int a1, .int a2, .int a3, .ref ot]) (Qgi (S := Unit) D (fun u => []) (fun u => []) (fun r _ => r = 1) (va_A [(x, .inr (13, [.ref q0, .ref q1, .ref q2, .ref q3, .ref q4, .ref q5, .ref q6, .int 0, .int 0, .int 0, .int 0, .int 0, .int 0, .int 0])), (q3, .inl (k3, 16, .inr (.inr (.inr (.inr (fun _ => none)))))), (ot, .inl (kot, 1, .inr (.inl fo)))] sz)) 1 6 (va_A [(x, .inr (13, [.ref q0, .ref q1, .ref q2, .ref q3, .ref q4, .ref q5, .ref q6, .int 0, .int 0, .int 0, .int 0, .int 0, .int 0, .int 0])), (q3, .inl (k3, 16, .inr (.inr (.inr (.inr (fun _ => none)))))), (ot, .inl (kot, 1, .inr (.inl fo)))] sz) := by
  refine og_h (cc := cL_sewerOf) (maxL := 6) (ret := (some .int)) (hh := [(0, 12, 15, 28), (0, 12, 19, 49)]) (Qc := Qgi (S := Unit) D (fun u => []) (fun u => []) (fun r _ => r = 1)) (by decide) rfl (Nat.le_of_ble_eq_true rfl) ?_
  intro p e s m below meth c A hx hb hr hml hts hown hlocks htab hP hD hK hG hA hS ls hl
  have hl : lv_has ls 6 [(0, .ref x), (1, .int a1), (2, .int a2), (3, .int a3), (4, .ref ot)] := hl
  refine lv_aload hx hb dL_sewerOf_0 (lv_at hl 4 rfl) ?_
  refine lv_iconst (v := 0) hx hb dL_sewerOf_2 (by decide) ?_
  refine lv_aload_n hx hb dL_sewerOf_3 rfl (lv_at hl 0 rfl) ?_
  refine lv_iload_n hx hb dL_sewerOf_4 rfl (lv_at hl 1 rfl) ?_
  refine lv_iload_n hx hb dL_sewerOf_5 rfl (lv_at hl 2 rfl) ?_
  refine lv_iload_n hx hb dL_sewerOf_6 rfl (lv_at hl 3 rfl) ?_
  have hFc := va_free (wc := [(x, .inr (13, [.ref q0, .ref q1, .ref q2, .ref q3, .ref q4, .ref q5, .ref q6, .int 0, .int 0, .int 0, .int 0, .int 0, .int 0, .int 0])), (q3, .inl (k3, 16, .inr (.inr (.inr (.inr (fun _ => none))))))]) hD hS hA [0, 1] rfl
  refine vx_calli (vx_runV (As := [.int a1, .int a2, .int a3]) (rest := [.int 0, .ref ot]) ⟨hx, hb, hml, hown, hts⟩ (c_sewerOf l hlt D tC tE s.heap.size x q0 q1 q2 q3 q4 q5 q6 k3 a1 a2 a3) (cwV 3 hts gL_sewerOf_X9_sewerOf rfl rfl rfl (by decide +kernel) ⟨(Nat.le_of_ble_eq_true rfl), (Nat.le_of_ble_eq_true rfl)⟩) ⟨pg_blind, (va_recv hK hP (ci := 13) (q0 := 0) rfl rfl), (pg_pre hP hD hK hG hS hFc [0, 1] rfl (by decide) [0] rfl _)⟩ rfl rfl hl.1 rfl (lv_room (Nat.le_of_ble_eq_true rfl)) dL_sewerOf_7 ⟨(Nat.le_of_ble_eq_true rfl), (Nat.le_of_ble_eq_true rfl)⟩) hS (fun q _ h => hFc q h) hFc (fun q _ h => hFc q h) (fun E ce q9 u t H1 locs1 ht hvm hw hB hz1 hk1 hS hce hcv hcl => ?_) (fun r_1 u_2 t H locs ht hvm hw hB hz1 hk1 hS => ?_)
  · obtain ⟨hP, hD⟩ := jx (wr := [(ot, .inl (kot, 1, .inr (.inl fo)))]) hP hD [0, 1] [2] rfl rfl (by decide) (by decide) hk1 hFc
    have hP : va_P D vwCl [(ot, .inl (kot, 1, .inr (.inl fo)))] H1 := hP
    have hD : va_D A [(ot, .inl (kot, 1, .inr (.inl fo)))] := hD
    subst hB
    refine vx_widen (k := 1) (n := 6) (Nat.le_of_ble_eq_true rfl) (Nat.le_of_ble_eq_true rfl) (vx_catch (E := gx_ioo) (name := "java/lang/IndexOutOfBoundsException") hown [] ⟨0, 12, 15, 28⟩ [⟨0, 12, 19, 49⟩] (htab.trans rfl) (fun z hz => absurd hz List.not_mem_nil) (by decide) (by decide) (hts (.classLink RL 28 "java/lang/IndexOutOfBoundsException") (List.mem_of_getElem? (i := 1) rfl)) (va_Nw.use rfl (hG.2.2.2.2.2.2.2.2.2.2.1 _ (List.mem_of_getElem? (i := 1) rfl))) hce hcv hcl ?_)
    refine W.eq (g2 := F0 m 15 ls [.ref q9]) rfl ?_
    refine lv_astore (lv' := [(5, .ref q9), (0, .ref x), (1, .int a1), (2, .int a2), (3, .int a3), (4, .ref ot)]) hx hb dL_sewerOf_15 hl (by decide) rfl (fun ls hl => ?_)
    refine lv_iconst (v := 1) hx hb dL_sewerOf_17 (by decide) ?_
    have hP9 := hP.sub (ws' := []) [] rfl
    have hD9 := hD.sub (ws' := []) [] (by decide) rfl
    have hK9 := hK.sub (tys' := []) [] rfl
    exact end_i hx hb hr hlocks hP9 hD9 hK9 hS () rfl rfl rfl (Nat.le_of_ble_eq_true rfl) (Nat.le_of_ble_eq_true rfl) dL_sewerOf_18
  · exact hw.elim
set_option maxHeartbeats 4000000 in
set_option maxRecDepth 100000 in
/-- the try of bottleneck -/
theorem t_bottleneck (l : Launch) (hlt : l.stackTraces = false) (D : va_G) (tC tE sz : Nat) (x q0 q1 q2 q3 q4 q5 q6 : Nat) (k3 : ClassId) (o0 o1 o2 o3 o4 o5 o6 o7 : Nat) (k5 : ClassId) (ot : Nat) (kot : ClassId) (fo : Nat → Int64) : Met l yL_bottleneck wsL_bottleneck ({ frames := 7, cells := 1, slots := 6, locals := 108 }) (Pg D tC tE sz [(x, .inr (13, [.ref q0, .ref q1, .ref q2, .ref q3, .ref q4, .ref q5, .ref q6, .int 0, .int 0, .int 0, .int 0, .int 0, .int 0, .int 0])), (q3, .inl (k3, 16, .inr (.inr (.inr (.inr (fun _ => none)))))), (q5, .inl (k5, 8, .inr (.inr (.inr (.inr (fop o0 o1 o2 o3 o4 o5 o6 o7)))))), (o0, .inr (8, [.int 0, .int 0, .int 0, .int 0])), (o1, .inr (8, [.int 0, .int 0, .int 0, .int 0])), (o2, .inr (8, [.int 0, .int 0, .int 0, .int 0])), (o3, .inr (8, [.int 0, .int 0, .int 0, .int 0])), (o4, .inr (8, [.int 0, .int 0, .int 0, .int 0])), (o5, .inr (8, [.int 0, .int 0, .int 0, .int 0])), (o6, .inr (8, [.int 0, .int 0, .int 0, .int 0])), (o7, .inr (8, [.int 0, .int 0, .int 0, .int 0])), (ot, .inl (kot, 1, .inr (.inl fo)))] [(k3, .object "Lastroom$Ticket"), (k5, .object "Lastroom$Operator"), (kot, .long)] [.ref x, .ref ot]) (Qgi (S := Unit) D (fun u => []) (fun u => []) (fun r _ => r = 1) (va_A [(x, .inr (13, [.ref q0, .ref q1, .ref q2, .ref q3, .ref q4, .ref q5, .ref q6, .int 0, .int 0, .int 0, .int 0, .int 0, .int 0, .int 0])), (q3, .inl (k3, 16, .inr (.inr (.inr (.inr (fun _ => none)))))), (q5, .inl (k5, 8, .inr (.inr (.inr (.inr (fop o0 o1 o2 o3 o4 o5 o6 o7)))))), (o0, .inr (8, [.int 0, .int 0, .int 0, .int 0])), (o1, .inr (8, [.int 0, .int 0, .int 0, .int 0])), (o2, .inr (8, [.int 0, .int 0, .int 0, .int 0])), (o3, .inr (8, [.int 0, .int 0, .int 0, .int 0])), (o4, .inr (8, [.int 0, .int 0, .int 0, .int 0])), (o5, .inr (8, [.int 0, .int 0, .int 0, .int 0])), (o6, .inr (8, [.int 0, .int 0, .int 0, .int 0])), (o7, .inr (8, [.int 0, .int 0, .int 0, .int 0])), (ot, .inl (kot, 1, .inr (.inl fo)))] sz)) 1 6 (va_A [(x, .inr (13, [.ref q0, .ref q1, .ref q2, .ref q3, .ref q4, .ref q5, .ref q6, .int 0, .int 0, .int 0, .int 0, .int 0, .int 0, .int 0])), (q3, .inl (k3, 16, .inr (.inr (.inr (.inr (fun _ => none)))))), (q5, .inl (k5, 8, .inr (.inr (.inr (.inr (fop o0 o1 o2 o3 o4 o5 o6 o7)))))), (o0, .inr (8, [.int 0, .int 0, .int 0, .int 0])), (o1, .inr (8, [.int 0, .int 0, .int 0, .int 0])), (o2, .inr (8, [.int 0, .int 0, .int 0, .int 0])), (o3, .inr (8, [.int 0, .int 0, .int 0, .int 0])), (o4, .inr (8, [.int 0, .int 0, .int 0, .int 0])), (o5, .inr (8, [.int 0, .int 0, .int 0, .int 0])), (o6, .inr (8, [.int 0, .int 0, .int 0, .int 0])), (o7, .inr (8, [.int 0, .int 0, .int 0, .int 0])), (ot, .inl (kot, 1, .inr (.inl fo)))] sz) := by
  refine og_h (cc := cL_bottleneck) (maxL := 3) (ret := (some .int)) (hh := [(0, 8, 11, 49)]) (Qc := Qgi (S := Unit) D (fun u => []) (fun u => []) (fun r _ => r = 1)) (by decide) rfl (Nat.le_of_ble_eq_true rfl) ?_
  intro p e s m below meth c A hx hb hr hml hts hown hlocks htab hP hD hK hG hA hS ls hl
  have hl : lv_has ls 3 [(0, .ref x), (1, .ref ot)] := hl
  refine lv_aload_n hx hb dL_bottleneck_0 rfl (lv_at hl 1 rfl) ?_
  refine lv_iconst (v := 0) hx hb dL_bottleneck_1 (by decide) ?_
  refine lv_aload_n hx hb dL_bottleneck_2 rfl (lv_at hl 0 rfl) ?_
  have hFc := va_free (wc := [(x, .inr (13, [.ref q0, .ref q1, .ref q2, .ref q3, .ref q4, .ref q5, .ref q6, .int 0, .int 0, .int 0, .int 0, .int 0, .int 0, .int 0])), (q3, .inl (k3, 16, .inr (.inr (.inr (.inr (fun _ => none)))))), (q5, .inl (k5, 8, .inr (.inr (.inr (.inr (fop o0 o1 o2 o3 o4 o5 o6 o7)))))), (o0, .inr (8, [.int 0, .int 0, .int 0, .int 0])), (o1, .inr (8, [.int 0, .int 0, .int 0, .int 0])), (o2, .inr (8, [.int 0, .int 0, .int 0, .int 0])), (o3, .inr (8, [.int 0, .int 0, .int 0, .int 0])), (o4, .inr (8, [.int 0, .int 0, .int 0, .int 0])), (o5, .inr (8, [.int 0, .int 0, .int 0, .int 0])), (o6, .inr (8, [.int 0, .int 0, .int 0, .int 0])), (o7, .inr (8, [.int 0, .int 0, .int 0, .int 0]))]) hD hS hA [0, 1, 2, 3, 4, 5, 6, 7, 8, 9, 10] rfl
  refine vx_calli (vx_runV (As := []) (rest := [.int 0, .ref ot]) ⟨hx, hb, hml, hown, hts⟩ (c_bottleneck l hlt D tC tE s.heap.size x q0 q1 q2 q3 q4 q5 q6 k3 o0 o1 o2 o3 o4 o5 o6 o7 k5) (cwV 0 hts gL_bottleneck_X9_bottleneck rfl rfl rfl (by decide +kernel) ⟨(Nat.le_of_ble_eq_true rfl), (Nat.le_of_ble_eq_true rfl)⟩) ⟨pg_blind, (va_recv hK hP (ci := 13) (q0 := 0) rfl rfl), (pg_pre hP hD hK hG hS hFc [0, 1, 2, 3, 4, 5, 6, 7, 8, 9, 10] rfl (by decide) [0, 1] rfl _)⟩ rfl rfl hl.1 rfl (lv_room (Nat.le_of_ble_eq_true rfl)) dL_bottleneck_3 ⟨(Nat.le_of_ble_eq_true rfl), (Nat.le_of_ble_eq_true rfl)⟩) hS (fun q _ h => hFc q h) hFc (fun q _ h => hFc q h) (fun E ce q9 u t H1 locs1 ht hvm hw hB hz1 hk1 hS hce hcv hcl => ?_) (fun r_1 u_2 t H locs ht hvm hw hB hz1 hk1 hS => ?_)
  · obtain ⟨hP, hD⟩ := jx (wr := [(ot, .inl (kot, 1, .inr (.inl fo)))]) hP hD [0, 1, 2, 3, 4, 5, 6, 7, 8, 9, 10] [11] rfl rfl (by decide) (by decide) hk1 hFc
    have hP : va_P D vwCl [(ot, .inl (kot, 1, .inr (.inl fo)))] H1 := hP
    have hD : va_D A [(ot, .inl (kot, 1, .inr (.inl fo)))] := hD
    subst hB
    refine vx_widen (k := 1) (n := 6) (Nat.le_of_ble_eq_true rfl) (Nat.le_of_ble_eq_true rfl) (vx_catch (E := gx_nse) (name := "java/util/NoSuchElementException") hown [] ⟨0, 8, 11, 49⟩ [] (htab.trans rfl) (fun z hz => absurd hz List.not_mem_nil) (by decide) (by decide) (hts (.classLink RL 49 "java/util/NoSuchElementException") (List.mem_of_getElem? (i := 1) rfl)) (va_Nw.use rfl (hG.2.2.2.2.2.2.2.2.2.2.1 _ (List.mem_of_getElem? (i := 2) rfl))) hce hcv hcl ?_)
    refine W.eq (g2 := F0 m 11 ls [.ref q9]) rfl ?_
    refine lv_astore_n (lv' := [(2, .ref q9), (0, .ref x), (1, .ref ot)]) hx hb dL_bottleneck_11 rfl hl (by decide) rfl (fun ls hl => ?_)
    refine lv_iconst (v := 1) hx hb dL_bottleneck_12 (by decide) ?_
    have hP9 := hP.sub (ws' := []) [] rfl
    have hD9 := hD.sub (ws' := []) [] (by decide) rfl
    have hK9 := hK.sub (tys' := []) [] rfl
    exact end_i hx hb hr hlocks hP9 hD9 hK9 hS () rfl rfl rfl (Nat.le_of_ble_eq_true rfl) (Nat.le_of_ble_eq_true rfl) dL_bottleneck_13
  · exact hw.elim
set_option maxHeartbeats 4000000 in
set_option maxRecDepth 100000 in
/-- the try of cause -/
theorem t_cause (l : Launch) (hlt : l.stackTraces = false) (D : va_G) (tC tE sz : Nat) (x q0 q1 q2 q3 q4 q5 q6 : Nat) (k3 : ClassId) (ot : Nat) (kot : ClassId) (fo : Nat → Int64) : Met l yL_cause wsL_cause ({ frames := 8, cells := 1, slots := 6, locals := 132 }) (Pg D tC tE sz [(x, .inr (13, [.ref q0, .ref q1, .ref q2, .ref q3, .ref q4, .ref q5, .ref q6, .int 0, .int 0, .int 0, .int 0, .int 0, .int 0, .int 0])), (q3, .inl (k3, 16, .inr (.inr (.inr (.inr (fun _ => none)))))), (ot, .inl (kot, 1, .inr (.inl fo)))] [(k3, .object "Lastroom$Ticket"), (kot, .long)] [.ref x, .ref ot]) (Qgi (S := Unit) D (fun u => []) (fun u => []) (fun r _ => r = 1) (va_A [(x, .inr (13, [.ref q0, .ref q1, .ref q2, .ref q3, .ref q4, .ref q5, .ref q6, .int 0, .int 0, .int 0, .int 0, .int 0, .int 0, .int 0])), (q3, .inl (k3, 16, .inr (.inr (.inr (.inr (fun _ => none)))))), (ot, .inl (kot, 1, .inr (.inl fo)))] sz)) 1 6 (va_A [(x, .inr (13, [.ref q0, .ref q1, .ref q2, .ref q3, .ref q4, .ref q5, .ref q6, .int 0, .int 0, .int 0, .int 0, .int 0, .int 0, .int 0])), (q3, .inl (k3, 16, .inr (.inr (.inr (.inr (fun _ => none)))))), (ot, .inl (kot, 1, .inr (.inl fo)))] sz) := by
  refine og_h (cc := cL_cause) (maxL := 3) (ret := (some .int)) (hh := [(0, 8, 11, 49)]) (Qc := Qgi (S := Unit) D (fun u => []) (fun u => []) (fun r _ => r = 1)) (by decide) rfl (Nat.le_of_ble_eq_true rfl) ?_
  intro p e s m below meth c A hx hb hr hml hts hown hlocks htab hP hD hK hG hA hS ls hl
  have hl : lv_has ls 3 [(0, .ref x), (1, .ref ot)] := hl
  refine lv_aload_n hx hb dL_cause_0 rfl (lv_at hl 1 rfl) ?_
  refine lv_iconst (v := 0) hx hb dL_cause_1 (by decide) ?_
  refine lv_aload_n hx hb dL_cause_2 rfl (lv_at hl 0 rfl) ?_
  have hFc := va_free (wc := [(x, .inr (13, [.ref q0, .ref q1, .ref q2, .ref q3, .ref q4, .ref q5, .ref q6, .int 0, .int 0, .int 0, .int 0, .int 0, .int 0, .int 0])), (q3, .inl (k3, 16, .inr (.inr (.inr (.inr (fun _ => none))))))]) hD hS hA [0, 1] rfl
  refine vx_calli (vx_runV (As := []) (rest := [.int 0, .ref ot]) ⟨hx, hb, hml, hown, hts⟩ (c_cause l hlt D tC tE s.heap.size x q0 q1 q2 q3 q4 q5 q6 k3) (cwV 0 hts gL_cause_X9_cause rfl rfl rfl (by decide +kernel) ⟨(Nat.le_of_ble_eq_true rfl), (Nat.le_of_ble_eq_true rfl)⟩) ⟨pg_blind, (va_recv hK hP (ci := 13) (q0 := 0) rfl rfl), (pg_pre hP hD hK hG hS hFc [0, 1] rfl (by decide) [0] rfl _)⟩ rfl rfl hl.1 rfl (lv_room (Nat.le_of_ble_eq_true rfl)) dL_cause_3 ⟨(Nat.le_of_ble_eq_true rfl), (Nat.le_of_ble_eq_true rfl)⟩) hS (fun q _ h => hFc q h) hFc (fun q _ h => hFc q h) (fun E ce q9 u t H1 locs1 ht hvm hw hB hz1 hk1 hS hce hcv hcl => ?_) (fun r_1 u_2 t H locs ht hvm hw hB hz1 hk1 hS => ?_)
  · obtain ⟨hP, hD⟩ := jx (wr := [(ot, .inl (kot, 1, .inr (.inl fo)))]) hP hD [0, 1] [2] rfl rfl (by decide) (by decide) hk1 hFc
    have hP : va_P D vwCl [(ot, .inl (kot, 1, .inr (.inl fo)))] H1 := hP
    have hD : va_D A [(ot, .inl (kot, 1, .inr (.inl fo)))] := hD
    subst hB
    refine vx_widen (k := 1) (n := 6) (Nat.le_of_ble_eq_true rfl) (Nat.le_of_ble_eq_true rfl) (vx_catch (E := gx_nse) (name := "java/util/NoSuchElementException") hown [] ⟨0, 8, 11, 49⟩ [] (htab.trans rfl) (fun z hz => absurd hz List.not_mem_nil) (by decide) (by decide) (hts (.classLink RL 49 "java/util/NoSuchElementException") (List.mem_of_getElem? (i := 1) rfl)) (va_Nw.use rfl (hG.2.2.2.2.2.2.2.2.2.2.1 _ (List.mem_of_getElem? (i := 2) rfl))) hce hcv hcl ?_)
    refine W.eq (g2 := F0 m 11 ls [.ref q9]) rfl ?_
    refine lv_astore_n (lv' := [(2, .ref q9), (0, .ref x), (1, .ref ot)]) hx hb dL_cause_11 rfl hl (by decide) rfl (fun ls hl => ?_)
    refine lv_iconst (v := 1) hx hb dL_cause_12 (by decide) ?_
    have hP9 := hP.sub (ws' := []) [] rfl
    have hD9 := hD.sub (ws' := []) [] (by decide) rfl
    have hK9 := hK.sub (tys' := []) [] rfl
    exact end_i hx hb hr hlocks hP9 hD9 hK9 hS () rfl rfl rfl (Nat.le_of_ble_eq_true rfl) (Nat.le_of_ble_eq_true rfl) dL_cause_13
  · exact hw.elim
set_option maxHeartbeats 4000000 in
set_option maxRecDepth 100000 in
/-- the try of causeOf -/
theorem t_causeOf (l : Launch) (hlt : l.stackTraces = false) (D : va_G) (tC tE sz : Nat) (x q0 q1 q2 q3 q4 q5 q6 : Nat) (k3 : ClassId) (ot : Nat) (kot : ClassId) (fo : Nat → Int64) : Met l yL_causeOf wsL_causeOf ({ frames := 8, cells := 1, slots := 6, locals := 132 }) (Pg D tC tE sz [(x, .inr (13, [.ref q0, .ref q1, .ref q2, .ref q3, .ref q4, .ref q5, .ref q6, .int 0, .int 0, .int 0, .int 0, .int 0, .int 0, .int 0])), (q3, .inl (k3, 16, .inr (.inr (.inr (.inr (fun _ => none)))))), (ot, .inl (kot, 1, .inr (.inl fo)))] [(k3, .object "Lastroom$Ticket"), (kot, .long)] [.ref x, .ref ot]) (Qgi (S := Unit) D (fun u => []) (fun u => []) (fun r _ => r = 1) (va_A [(x, .inr (13, [.ref q0, .ref q1, .ref q2, .ref q3, .ref q4, .ref q5, .ref q6, .int 0, .int 0, .int 0, .int 0, .int 0, .int 0, .int 0])), (q3, .inl (k3, 16, .inr (.inr (.inr (.inr (fun _ => none)))))), (ot, .inl (kot, 1, .inr (.inl fo)))] sz)) 1 6 (va_A [(x, .inr (13, [.ref q0, .ref q1, .ref q2, .ref q3, .ref q4, .ref q5, .ref q6, .int 0, .int 0, .int 0, .int 0, .int 0, .int 0, .int 0])), (q3, .inl (k3, 16, .inr (.inr (.inr (.inr (fun _ => none)))))), (ot, .inl (kot, 1, .inr (.inl fo)))] sz) := by
  refine og_h (cc := cL_causeOf) (maxL := 3) (ret := (some .int)) (hh := [(0, 8, 11, 49)]) (Qc := Qgi (S := Unit) D (fun u => []) (fun u => []) (fun r _ => r = 1)) (by decide) rfl (Nat.le_of_ble_eq_true rfl) ?_
  intro p e s m below meth c A hx hb hr hml hts hown hlocks htab hP hD hK hG hA hS ls hl
  have hl : lv_has ls 3 [(0, .ref x), (1, .ref ot)] := hl
  refine lv_aload_n hx hb dL_causeOf_0 rfl (lv_at hl 1 rfl) ?_
  refine lv_iconst (v := 0) hx hb dL_causeOf_1 (by decide) ?_
  refine lv_aload_n hx hb dL_causeOf_2 rfl (lv_at hl 0 rfl) ?_
  have hFc := va_free (wc := [(x, .inr (13, [.ref q0, .ref q1, .ref q2, .ref q3, .ref q4, .ref q5, .ref q6, .int 0, .int 0, .int 0, .int 0, .int 0, .int 0, .int 0])), (q3, .inl (k3, 16, .inr (.inr (.inr (.inr (fun _ => none))))))]) hD hS hA [0, 1] rfl
  refine vx_calli (vx_runV (As := []) (rest := [.int 0, .ref ot]) ⟨hx, hb, hml, hown, hts⟩ (c_causeOf l hlt D tC tE s.heap.size x q0 q1 q2 q3 q4 q5 q6 k3) (cwV 0 hts gL_causeOf_X9_causeOf rfl rfl rfl (by decide +kernel) ⟨(Nat.le_of_ble_eq_true rfl), (Nat.le_of_ble_eq_true rfl)⟩) ⟨pg_blind, (va_recv hK hP (ci := 13) (q0 := 0) rfl rfl), (pg_pre hP hD hK hG hS hFc [0, 1] rfl (by decide) [0] rfl _)⟩ rfl rfl hl.1 rfl (lv_room (Nat.le_of_ble_eq_true rfl)) dL_causeOf_3 ⟨(Nat.le_of_ble_eq_true rfl), (Nat.le_of_ble_eq_true rfl)⟩) hS (fun q _ h => hFc q h) hFc (fun q _ h => hFc q h) (fun E ce q9 u t H1 locs1 ht hvm hw hB hz1 hk1 hS hce hcv hcl => ?_) (fun r_1 u_2 t H locs ht hvm hw hB hz1 hk1 hS => ?_)
  · obtain ⟨hP, hD⟩ := jx (wr := [(ot, .inl (kot, 1, .inr (.inl fo)))]) hP hD [0, 1] [2] rfl rfl (by decide) (by decide) hk1 hFc
    have hP : va_P D vwCl [(ot, .inl (kot, 1, .inr (.inl fo)))] H1 := hP
    have hD : va_D A [(ot, .inl (kot, 1, .inr (.inl fo)))] := hD
    subst hB
    refine vx_widen (k := 1) (n := 6) (Nat.le_of_ble_eq_true rfl) (Nat.le_of_ble_eq_true rfl) (vx_catch (E := gx_nse) (name := "java/util/NoSuchElementException") hown [] ⟨0, 8, 11, 49⟩ [] (htab.trans rfl) (fun z hz => absurd hz List.not_mem_nil) (by decide) (by decide) (hts (.classLink RL 49 "java/util/NoSuchElementException") (List.mem_of_getElem? (i := 1) rfl)) (va_Nw.use rfl (hG.2.2.2.2.2.2.2.2.2.2.1 _ (List.mem_of_getElem? (i := 2) rfl))) hce hcv hcl ?_)
    refine W.eq (g2 := F0 m 11 ls [.ref q9]) rfl ?_
    refine lv_astore_n (lv' := [(2, .ref q9), (0, .ref x), (1, .ref ot)]) hx hb dL_causeOf_11 rfl hl (by decide) rfl (fun ls hl => ?_)
    refine lv_iconst (v := 1) hx hb dL_causeOf_12 (by decide) ?_
    have hP9 := hP.sub (ws' := []) [] rfl
    have hD9 := hD.sub (ws' := []) [] (by decide) rfl
    have hK9 := hK.sub (tys' := []) [] rfl
    exact end_i hx hb hr hlocks hP9 hD9 hK9 hS () rfl rfl rfl (Nat.le_of_ble_eq_true rfl) (Nat.le_of_ble_eq_true rfl) dL_causeOf_13
  · exact hw.elim
set_option maxHeartbeats 4000000 in
set_option maxRecDepth 100000 in
/-- the try of packedShare -/
theorem t_packedShare (l : Launch) (hlt : l.stackTraces = false) (D : va_G) (tC tE sz : Nat) (x q0 q1 q2 q3 q4 q5 q6 : Nat) (ot : Nat) (kot : ClassId) (fo : Nat → UInt64) : Met l yL_packedShare wsL_packedShare ({ frames := 7, cells := 1, slots := 6, locals := 107 }) (Pg D tC tE sz [(x, .inr (13, [.ref q0, .ref q1, .ref q2, .ref q3, .ref q4, .ref q5, .ref q6, .int 0, .int 0, .int 0, .int 0, .int 0, .int 0, .int 0])), (ot, .inl (kot, 1, .inr (.inr (.inr (.inl fo)))))] [(kot, .double)] [.ref x, .ref ot]) (Qgi (S := Unit) D (fun u => []) (fun u => []) (fun r _ => r = 1) (va_A [(x, .inr (13, [.ref q0, .ref q1, .ref q2, .ref q3, .ref q4, .ref q5, .ref q6, .int 0, .int 0, .int 0, .int 0, .int 0, .int 0, .int 0])), (ot, .inl (kot, 1, .inr (.inr (.inr (.inl fo)))))] sz)) 1 6 (va_A [(x, .inr (13, [.ref q0, .ref q1, .ref q2, .ref q3, .ref q4, .ref q5, .ref q6, .int 0, .int 0, .int 0, .int 0, .int 0, .int 0, .int 0])), (ot, .inl (kot, 1, .inr (.inr (.inr (.inl fo)))))] sz) := by
  refine og_h (cc := cL_packedShare) (maxL := 3) (ret := (some .int)) (hh := [(0, 8, 11, 167)]) (Qc := Qgi (S := Unit) D (fun u => []) (fun u => []) (fun r _ => r = 1)) (by decide) rfl (Nat.le_of_ble_eq_true rfl) ?_
  intro p e s m below meth c A hx hb hr hml hts hown hlocks htab hP hD hK hG hA hS ls hl
  have hl : lv_has ls 3 [(0, .ref x), (1, .ref ot)] := hl
  refine lv_aload_n hx hb dL_packedShare_0 rfl (lv_at hl 1 rfl) ?_
  refine lv_iconst (v := 0) hx hb dL_packedShare_1 (by decide) ?_
  refine lv_aload_n hx hb dL_packedShare_2 rfl (lv_at hl 0 rfl) ?_
  have hFc := va_free (wc := [(x, .inr (13, [.ref q0, .ref q1, .ref q2, .ref q3, .ref q4, .ref q5, .ref q6, .int 0, .int 0, .int 0, .int 0, .int 0, .int 0, .int 0]))]) hD hS hA [0] rfl
  refine vx_callf (vx_runV (As := []) (rest := [.int 0, .ref ot]) ⟨hx, hb, hml, hown, hts⟩ (c_packedShare l hlt D tC tE s.heap.size x q0 q1 q2 q3 q4 q5 q6) (cwV 0 hts gL_packedShare_X9_packedShare rfl rfl rfl (by decide +kernel) ⟨(Nat.le_of_ble_eq_true rfl), (Nat.le_of_ble_eq_true rfl)⟩) ⟨pg_blind, (va_recv hK hP (ci := 13) (q0 := 0) rfl rfl), (pg_pre hP hD hK hG hS hFc [0] rfl (by decide) [] rfl _)⟩ rfl rfl hl.1 rfl (lv_room (Nat.le_of_ble_eq_true rfl)) dL_packedShare_3 ⟨(Nat.le_of_ble_eq_true rfl), (Nat.le_of_ble_eq_true rfl)⟩) hS (fun q _ h => hFc q h) hFc (fun q _ h => hFc q h) (fun E ce q9 u t H1 locs1 ht hvm hw hB hz1 hk1 hS hce hcv hcl => ?_) (fun r_1 u_2 t H locs ht hvm hw hB hz1 hk1 hS => ?_)
  · obtain ⟨hP, hD⟩ := jx (wr := [(ot, .inl (kot, 1, .inr (.inr (.inr (.inl fo)))))]) hP hD [0] [1] rfl rfl (by decide) (by decide) hk1 hFc
    have hP : va_P D vwCl [(ot, .inl (kot, 1, .inr (.inr (.inr (.inl fo)))))] H1 := hP
    have hD : va_D A [(ot, .inl (kot, 1, .inr (.inr (.inr (.inl fo)))))] := hD
    subst hB
    refine vx_widen (k := 1) (n := 6) (Nat.le_of_ble_eq_true rfl) (Nat.le_of_ble_eq_true rfl) (vx_catch (E := gx_ari) (name := "java/lang/ArithmeticException") hown [] ⟨0, 8, 11, 167⟩ [] (htab.trans rfl) (fun z hz => absurd hz List.not_mem_nil) (by decide) (by decide) (hts (.classLink RL 167 "java/lang/ArithmeticException") (List.mem_of_getElem? (i := 1) rfl)) (va_Nw.use rfl (hG.2.2.2.2.2.2.2.2.2.2.1 _ (List.mem_of_getElem? (i := 3) rfl))) hce hcv hcl ?_)
    refine W.eq (g2 := F0 m 11 ls [.ref q9]) rfl ?_
    refine lv_astore_n (lv' := [(2, .ref q9), (0, .ref x), (1, .ref ot)]) hx hb dL_packedShare_11 rfl hl (by decide) rfl (fun ls hl => ?_)
    refine lv_iconst (v := 1) hx hb dL_packedShare_12 (by decide) ?_
    have hP9 := hP.sub (ws' := []) [] rfl
    have hD9 := hD.sub (ws' := []) [] (by decide) rfl
    have hK9 := hK.sub (tys' := []) [] rfl
    exact end_i hx hb hr hlocks hP9 hD9 hK9 hS () rfl rfl rfl (Nat.le_of_ble_eq_true rfl) (Nat.le_of_ble_eq_true rfl) dL_packedShare_13
  · exact hw.elim
set_option maxHeartbeats 4000000 in
set_option maxRecDepth 100000 in
/-- the try of meanWaste -/
theorem t_meanWaste (l : Launch) (hlt : l.stackTraces = false) (D : va_G) (tC tE sz : Nat) (x q0 q1 q2 q3 q4 q5 q6 : Nat) (ot : Nat) (kot : ClassId) (fo : Nat → UInt64) : Met l yL_meanWaste wsL_meanWaste ({ frames := 7, cells := 1, slots := 6, locals := 107 }) (Pg D tC tE sz [(x, .inr (13, [.ref q0, .ref q1, .ref q2, .ref q3, .ref q4, .ref q5, .ref q6, .int 0, .int 0, .int 0, .int 0, .int 0, .int 0, .int 0])), (ot, .inl (kot, 1, .inr (.inr (.inr (.inl fo)))))] [(kot, .double)] [.ref x, .ref ot]) (Qgi (S := Unit) D (fun u => []) (fun u => []) (fun r _ => r = 1) (va_A [(x, .inr (13, [.ref q0, .ref q1, .ref q2, .ref q3, .ref q4, .ref q5, .ref q6, .int 0, .int 0, .int 0, .int 0, .int 0, .int 0, .int 0])), (ot, .inl (kot, 1, .inr (.inr (.inr (.inl fo)))))] sz)) 1 6 (va_A [(x, .inr (13, [.ref q0, .ref q1, .ref q2, .ref q3, .ref q4, .ref q5, .ref q6, .int 0, .int 0, .int 0, .int 0, .int 0, .int 0, .int 0])), (ot, .inl (kot, 1, .inr (.inr (.inr (.inl fo)))))] sz) := by
  refine og_h (cc := cL_meanWaste) (maxL := 3) (ret := (some .int)) (hh := [(0, 7, 10, 167)]) (Qc := Qgi (S := Unit) D (fun u => []) (fun u => []) (fun r _ => r = 1)) (by decide) rfl (Nat.le_of_ble_eq_true rfl) ?_
  intro p e s m below meth c A hx hb hr hml hts hown hlocks htab hP hD hK hG hA hS ls hl
  have hl : lv_has ls 3 [(0, .ref x), (1, .ref ot)] := hl
  refine lv_aload_n hx hb dL_meanWaste_0 rfl (lv_at hl 1 rfl) ?_
  refine lv_iconst (v := 0) hx hb dL_meanWaste_1 (by decide) ?_
  refine lv_aload_n hx hb dL_meanWaste_2 rfl (lv_at hl 0 rfl) ?_
  have hFc := va_free (wc := [(x, .inr (13, [.ref q0, .ref q1, .ref q2, .ref q3, .ref q4, .ref q5, .ref q6, .int 0, .int 0, .int 0, .int 0, .int 0, .int 0, .int 0]))]) hD hS hA [0] rfl
  refine vx_calld (vx_runV (As := []) (rest := [.int 0, .ref ot]) ⟨hx, hb, hml, hown, hts⟩ (c_meanWaste l hlt D tC tE s.heap.size x q0 q1 q2 q3 q4 q5 q6) (cwV 0 hts gL_meanWaste_X9_meanWaste rfl rfl rfl (by decide +kernel) ⟨(Nat.le_of_ble_eq_true rfl), (Nat.le_of_ble_eq_true rfl)⟩) ⟨pg_blind, (va_recv hK hP (ci := 13) (q0 := 0) rfl rfl), (pg_pre hP hD hK hG hS hFc [0] rfl (by decide) [] rfl _)⟩ rfl rfl hl.1 rfl (lv_room (Nat.le_of_ble_eq_true rfl)) dL_meanWaste_3 ⟨(Nat.le_of_ble_eq_true rfl), (Nat.le_of_ble_eq_true rfl)⟩) hS (fun q _ h => hFc q h) hFc (fun q _ h => hFc q h) (fun E ce q9 u t H1 locs1 ht hvm hw hB hz1 hk1 hS hce hcv hcl => ?_) (fun r_1 u_2 t H locs ht hvm hw hB hz1 hk1 hS => ?_)
  · obtain ⟨hP, hD⟩ := jx (wr := [(ot, .inl (kot, 1, .inr (.inr (.inr (.inl fo)))))]) hP hD [0] [1] rfl rfl (by decide) (by decide) hk1 hFc
    have hP : va_P D vwCl [(ot, .inl (kot, 1, .inr (.inr (.inr (.inl fo)))))] H1 := hP
    have hD : va_D A [(ot, .inl (kot, 1, .inr (.inr (.inr (.inl fo)))))] := hD
    subst hB
    refine vx_widen (k := 1) (n := 6) (Nat.le_of_ble_eq_true rfl) (Nat.le_of_ble_eq_true rfl) (vx_catch (E := gx_ari) (name := "java/lang/ArithmeticException") hown [] ⟨0, 7, 10, 167⟩ [] (htab.trans rfl) (fun z hz => absurd hz List.not_mem_nil) (by decide) (by decide) (hts (.classLink RL 167 "java/lang/ArithmeticException") (List.mem_of_getElem? (i := 1) rfl)) (va_Nw.use rfl (hG.2.2.2.2.2.2.2.2.2.2.1 _ (List.mem_of_getElem? (i := 3) rfl))) hce hcv hcl ?_)
    refine W.eq (g2 := F0 m 10 ls [.ref q9]) rfl ?_
    refine lv_astore_n (lv' := [(2, .ref q9), (0, .ref x), (1, .ref ot)]) hx hb dL_meanWaste_10 rfl hl (by decide) rfl (fun ls hl => ?_)
    refine lv_iconst (v := 1) hx hb dL_meanWaste_11 (by decide) ?_
    have hP9 := hP.sub (ws' := []) [] rfl
    have hD9 := hD.sub (ws' := []) [] (by decide) rfl
    have hK9 := hK.sub (tys' := []) [] rfl
    exact end_i hx hb hr hlocks hP9 hD9 hK9 hS () rfl rfl rfl (Nat.le_of_ble_eq_true rfl) (Nat.le_of_ble_eq_true rfl) dL_meanWaste_12
  · exact hw.elim
set_option maxHeartbeats 4000000 in
set_option maxRecDepth 100000 in
/-- the try of length -/
theorem t_length (l : Launch) (hlt : l.stackTraces = false) (D : va_G) (tC tE sz : Nat) (x q0 q1 q2 q3 q4 q5 q6 : Nat) (ot : Nat) (kot : ClassId) (fo : Nat → Int64) (a1 a2 : Int32) : Met l yL_length wsL_length ({ frames := 9, cells := 1, slots := 6, locals := 147 }) (Pg D tC tE sz [(x, .inr (13, [.ref q0, .ref q1, .ref q2, .ref q3, .ref q4, .ref q5, .ref q6, .int 0, .int 0, .int 0, .int 0, .int 0, .int 0, .int 0])), (ot, .inl (kot, 1, .inr (.inl fo)))] [(kot, .long)] [.ref x, .int a1, .int a2, .ref ot]) (Qgi (S := (Nat → Int64)) D (fun u => [(ot, .inl (kot, 1, .inr (.inl u)))]) (fun u => []) (fun r u => (szB a1 a2 = true ∧ r = 0 ∧ u 0 = (lenS a1 a2).toInt64) ∨ (szB a1 a2 = false ∧ r = 1)) (va_A [(x, .inr (13, [.ref q0, .ref q1, .ref q2, .ref q3, .ref q4, .ref q5, .ref q6, .int 0, .int 0, .int 0, .int 0, .int 0, .int 0, .int 0])), (ot, .inl (kot, 1, .inr (.inl fo)))] sz)) 1 6 (va_A [(x, .inr (13, [.ref q0, .ref q1, .ref q2, .ref q3, .ref q4, .ref q5, .ref q6, .int 0, .int 0, .int 0, .int 0, .int 0, .int 0, .int 0])), (ot, .inl (kot, 1, .inr (.inl fo)))] sz) := by
  refine og_h (cc := cL_length) (maxL := 5) (ret := (some .int)) (hh := [(0, 10, 13, 13)]) (Qc := Qgi (S := (Nat → Int64)) D (fun u => [(ot, .inl (kot, 1, .inr (.inl u)))]) (fun u => []) (fun r u => (szB a1 a2 = true ∧ r = 0 ∧ u 0 = (lenS a1 a2).toInt64) ∨ (szB a1 a2 = false ∧ r = 1))) (by decide) rfl (Nat.le_of_ble_eq_true rfl) ?_
  intro p e s m below meth c A hx hb hr hml hts hown hlocks htab hP hD hK hG hA hS ls hl
  have hl : lv_has ls 5 [(0, .ref x), (1, .int a1), (2, .int a2), (3, .ref ot)] := hl
  refine lv_aload_n hx hb dL_length_0 rfl (lv_at hl 3 rfl) ?_
  refine lv_iconst (v := 0) hx hb dL_length_1 (by decide) ?_
  refine lv_aload_n hx hb dL_length_2 rfl (lv_at hl 0 rfl) ?_
  refine lv_iload_n hx hb dL_length_3 rfl (lv_at hl 1 rfl) ?_
  refine lv_iload_n hx hb dL_length_4 rfl (lv_at hl 2 rfl) ?_
  have hFc := va_free (wc := [(x, .inr (13, [.ref q0, .ref q1, .ref q2, .ref q3, .ref q4, .ref q5, .ref q6, .int 0, .int 0, .int 0, .int 0, .int 0, .int 0, .int 0]))]) hD hS hA [0] rfl
  refine vx_calli (vx_runV (As := [.int a1, .int a2]) (rest := [.int 0, .ref ot]) ⟨hx, hb, hml, hown, hts⟩ (c_length l hlt D tC tE s.heap.size x q0 q1 q2 q3 q4 q5 q6 a1 a2) (cwV 2 hts gL_length_X9_length rfl rfl rfl (by decide +kernel) ⟨(Nat.le_of_ble_eq_true rfl), (Nat.le_of_ble_eq_true rfl)⟩) ⟨pg_blind, (va_recv hK hP (ci := 13) (q0 := 0) rfl rfl), (pg_pre hP hD hK hG hS hFc [0] rfl (by decide) [] rfl _)⟩ rfl rfl hl.1 rfl (lv_room (Nat.le_of_ble_eq_true rfl)) dL_length_5 ⟨(Nat.le_of_ble_eq_true rfl), (Nat.le_of_ble_eq_true rfl)⟩) hS (fun q _ h => hFc q h) hFc (fun q _ h => hFc q h) (fun E ce q9 u t H1 locs1 ht hvm hw hB hz1 hk1 hS hce hcv hcl => ?_) (fun r_1 u_2 t H locs ht hvm hw hB hz1 hk1 hS => ?_)
  · obtain ⟨hP, hD⟩ := jx (wr := [(ot, .inl (kot, 1, .inr (.inl fo)))]) hP hD [0] [1] rfl rfl (by decide) (by decide) hk1 hFc
    have hP : va_P D vwCl [(ot, .inl (kot, 1, .inr (.inl fo)))] H1 := hP
    have hD : va_D A [(ot, .inl (kot, 1, .inr (.inl fo)))] := hD
    obtain ⟨hE, hf⟩ := hB
    subst hE
    refine vx_widen (k := 1) (n := 6) (Nat.le_of_ble_eq_true rfl) (Nat.le_of_ble_eq_true rfl) (vx_catch (E := gx_iae) (name := "java/lang/IllegalArgumentException") hown [] ⟨0, 10, 13, 13⟩ [] (htab.trans rfl) (fun z hz => absurd hz List.not_mem_nil) (by decide) (by decide) (hts (.classLink RL 13 "java/lang/IllegalArgumentException") (List.mem_of_getElem? (i := 1) rfl)) (va_Nw.use rfl (hG.2.2.2.2.2.2.2.2.2.2.1 _ (List.mem_of_getElem? (i := 0) rfl))) hce hcv hcl ?_)
    refine W.eq (g2 := F0 m 13 ls [.ref q9]) rfl ?_
    refine lv_astore (lv' := [(4, .ref q9), (0, .ref x), (1, .int a1), (2, .int a2), (3, .ref ot)]) hx hb dL_length_13 hl (by decide) rfl (fun ls hl => ?_)
    refine lv_iconst (v := 1) hx hb dL_length_15 (by decide) ?_
    have hP9 := hP.sub (ws' := [(ot, .inl (kot, 1, .inr (.inl fo)))]) [0] rfl
    have hD9 := hD.sub (ws' := [(ot, .inl (kot, 1, .inr (.inl fo)))]) [0] (by decide) rfl
    have hK9 := hK.sub (tys' := []) [] rfl
    exact end_i hx hb hr hlocks hP9 hD9 hK9 hS fo rfl rfl (Or.inr ⟨hf, rfl⟩) (Nat.le_of_ble_eq_true rfl) (Nat.le_of_ble_eq_true rfl) dL_length_16
  · obtain ⟨hw1, hw2⟩ := hw
    subst hw2
    obtain ⟨hP, hD, hK⟩ := jn (wr := [(ot, .inl (kot, 1, .inr (.inl fo)))]) (w1 := []) (t1 := []) (tr := [(kot, .long)]) hP hD hK [0] [1] rfl rfl (by decide) (by decide) [0] rfl hk1 hFc hB rfl rfl ht hvm
    have hP : va_P D vwCl [(ot, .inl (kot, 1, .inr (.inl fo)))] H := hP
    have hD : va_D A [(ot, .inl (kot, 1, .inr (.inl fo)))] := hD
    have hK : va_K D vwCl [(kot, .long)] s := hK
    refine W.widen (k := 1) (n := 6) (Nat.le_of_ble_eq_true rfl) (Nat.le_of_ble_eq_true rfl) ?_
    refine lv_i2l hx hb dL_length_8 rfl ?_
    refine va_last hx hb hK hP hD hS 0 0 rfl rfl (vp_in_iff.mpr (by decide)) dL_length_9 (fun H locs hP hD hS => ?_)
    have hP : va_P D vwCl [(ot, .inl (kot, 1, .inr (.inl (vp_updL fo (0 : Int32).toNatClampNeg ((lenS a1 a2).toInt64)))))] H := hP
    have hD : va_D A [(ot, .inl (kot, 1, .inr (.inl (vp_updL fo (0 : Int32).toNatClampNeg ((lenS a1 a2).toInt64)))))] := hD
    refine lv_goto (tgt := 17) hx hb dL_length_10 (by decide) ?_
    refine lv_iconst (v := 0) hx hb dL_length_17 (by decide) ?_
    have hP9 := hP.sub (ws' := [(ot, .inl (kot, 1, .inr (.inl (vp_updL fo (0 : Int32).toNatClampNeg ((lenS a1 a2).toInt64)))))]) [0] rfl
    have hD9 := hD.sub (ws' := [(ot, .inl (kot, 1, .inr (.inl (vp_updL fo (0 : Int32).toNatClampNeg ((lenS a1 a2).toInt64)))))]) [0] (by decide) rfl
    have hK9 := hK.sub (tys' := []) [] rfl
    exact end_i hx hb hr hlocks hP9 hD9 hK9 hS (vp_updL fo (0 : Int32).toNatClampNeg ((lenS a1 a2).toInt64)) rfl rfl (Or.inl ⟨hw1, rfl, upd0⟩) (Nat.le_of_ble_eq_true rfl) (Nat.le_of_ble_eq_true rfl) dL_length_18
set_option maxHeartbeats 4000000 in
set_option maxRecDepth 100000 in
/-- the try of convert -/
theorem t_convert (l : Launch) (hlt : l.stackTraces = false) (D : va_G) (tC tE sz : Nat) (x q0 q1 q2 q3 q4 q5 q6 : Nat) (ot : Nat) (kot : ClassId) (fo : Nat → Int64) (a1 a2 a3 : Int32) : Met l yL_convert wsL_convert ({ frames := 9, cells := 2, slots := 12, locals := 151 }) (Pg D tC tE sz [(x, .inr (13, [.ref q0, .ref q1, .ref q2, .ref q3, .ref q4, .ref q5, .ref q6, .int 0, .int 0, .int 0, .int 0, .int 0, .int 0, .int 0])), (ot, .inl (kot, 1, .inr (.inl fo)))] [(kot, .long)] [.ref x, .int a1, .int a2, .int a3, .ref ot]) (Qgi (S := (Nat → Int64)) D (fun u => [(ot, .inl (kot, 1, .inr (.inl u)))]) (fun u => []) (fun r u => (cvOK a1 a2 a3 = true ∧ r = 0 ∧ u 0 = (cvV a1 a2 a3).toInt64) ∨ (cvOK a1 a2 a3 = false ∧ r = 1)) (va_A [(x, .inr (13, [.ref q0, .ref q1, .ref q2, .ref q3, .ref q4, .ref q5, .ref q6, .int 0, .int 0, .int 0, .int 0, .int 0, .int 0, .int 0])), (ot, .inl (kot, 1, .inr (.inl fo)))] sz)) 2 12 (va_A [(x, .inr (13, [.ref q0, .ref q1, .ref q2, .ref q3, .ref q4, .ref q5, .ref q6, .int 0, .int 0, .int 0, .int 0, .int 0, .int 0, .int 0])), (ot, .inl (kot, 1, .inr (.inl fo)))] sz) := by
  refine og_h (cc := cL_convert) (maxL := 6) (ret := (some .int)) (hh := [(0, 12, 15, 13)]) (Qc := Qgi (S := (Nat → Int64)) D (fun u => [(ot, .inl (kot, 1, .inr (.inl u)))]) (fun u => []) (fun r u => (cvOK a1 a2 a3 = true ∧ r = 0 ∧ u 0 = (cvV a1 a2 a3).toInt64) ∨ (cvOK a1 a2 a3 = false ∧ r = 1))) (by decide) rfl (Nat.le_of_ble_eq_true rfl) ?_
  intro p e s m below meth c A hx hb hr hml hts hown hlocks htab hP hD hK hG hA hS ls hl
  have hl : lv_has ls 6 [(0, .ref x), (1, .int a1), (2, .int a2), (3, .int a3), (4, .ref ot)] := hl
  refine lv_aload hx hb dL_convert_0 (lv_at hl 4 rfl) ?_
  refine lv_iconst (v := 0) hx hb dL_convert_2 (by decide) ?_
  refine lv_aload_n hx hb dL_convert_3 rfl (lv_at hl 0 rfl) ?_
  refine lv_iload_n hx hb dL_convert_4 rfl (lv_at hl 1 rfl) ?_
  refine lv_iload_n hx hb dL_convert_5 rfl (lv_at hl 2 rfl) ?_
  refine lv_iload_n hx hb dL_convert_6 rfl (lv_at hl 3 rfl) ?_
  have hFc := va_free (wc := [(x, .inr (13, [.ref q0, .ref q1, .ref q2, .ref q3, .ref q4, .ref q5, .ref q6, .int 0, .int 0, .int 0, .int 0, .int 0, .int 0, .int 0]))]) hD hS hA [0] rfl
  refine vx_calli (vx_runV (As := [.int a1, .int a2, .int a3]) (rest := [.int 0, .ref ot]) ⟨hx, hb, hml, hown, hts⟩ (c_convert l hlt D tC tE s.heap.size x q0 q1 q2 q3 q4 q5 q6 a1 a2 a3) (cwV 3 hts gL_convert_X9_convert rfl rfl rfl (by decide +kernel) ⟨(Nat.le_of_ble_eq_true rfl), (Nat.le_of_ble_eq_true rfl)⟩) ⟨pg_blind, (va_recv hK hP (ci := 13) (q0 := 0) rfl rfl), (pg_pre hP hD hK hG hS hFc [0] rfl (by decide) [] rfl _)⟩ rfl rfl hl.1 rfl (lv_room (Nat.le_of_ble_eq_true rfl)) dL_convert_7 ⟨(Nat.le_of_ble_eq_true rfl), (Nat.le_of_ble_eq_true rfl)⟩) hS (fun q _ h => hFc q h) hFc (fun q _ h => hFc q h) (fun E ce q9 u t H1 locs1 ht hvm hw hB hz1 hk1 hS hce hcv hcl => ?_) (fun r_1 u_2 t H locs ht hvm hw hB hz1 hk1 hS => ?_)
  · obtain ⟨hP, hD⟩ := jx (wr := [(ot, .inl (kot, 1, .inr (.inl fo)))]) hP hD [0] [1] rfl rfl (by decide) (by decide) hk1 hFc
    have hP : va_P D vwCl [(ot, .inl (kot, 1, .inr (.inl fo)))] H1 := hP
    have hD : va_D A [(ot, .inl (kot, 1, .inr (.inl fo)))] := hD
    obtain ⟨hE, hf⟩ := hB
    subst hE
    refine vx_widen (k := 2) (n := 12) (Nat.le_of_ble_eq_true rfl) (Nat.le_of_ble_eq_true rfl) (vx_catch (E := gx_iae) (name := "java/lang/IllegalArgumentException") hown [] ⟨0, 12, 15, 13⟩ [] (htab.trans rfl) (fun z hz => absurd hz List.not_mem_nil) (by decide) (by decide) (hts (.classLink RL 13 "java/lang/IllegalArgumentException") (List.mem_of_getElem? (i := 1) rfl)) (va_Nw.use rfl (hG.2.2.2.2.2.2.2.2.2.2.1 _ (List.mem_of_getElem? (i := 0) rfl))) hce hcv hcl ?_)
    refine W.eq (g2 := F0 m 15 ls [.ref q9]) rfl ?_
    refine lv_astore (lv' := [(5, .ref q9), (0, .ref x), (1, .int a1), (2, .int a2), (3, .int a3), (4, .ref ot)]) hx hb dL_convert_15 hl (by decide) rfl (fun ls hl => ?_)
    refine lv_iconst (v := 1) hx hb dL_convert_17 (by decide) ?_
    have hP9 := hP.sub (ws' := [(ot, .inl (kot, 1, .inr (.inl fo)))]) [0] rfl
    have hD9 := hD.sub (ws' := [(ot, .inl (kot, 1, .inr (.inl fo)))]) [0] (by decide) rfl
    have hK9 := hK.sub (tys' := []) [] rfl
    exact end_i hx hb hr hlocks hP9 hD9 hK9 hS fo rfl rfl (Or.inr ⟨hf, rfl⟩) (Nat.le_of_ble_eq_true rfl) (Nat.le_of_ble_eq_true rfl) dL_convert_18
  · obtain ⟨hw1, hw2⟩ := hw
    subst hw2
    obtain ⟨hP, hD, hK⟩ := jn (wr := [(ot, .inl (kot, 1, .inr (.inl fo)))]) (w1 := []) (t1 := []) (tr := [(kot, .long)]) hP hD hK [0] [1] rfl rfl (by decide) (by decide) [0] rfl hk1 hFc hB rfl rfl ht hvm
    have hP : va_P D vwCl [(ot, .inl (kot, 1, .inr (.inl fo)))] H := hP
    have hD : va_D A [(ot, .inl (kot, 1, .inr (.inl fo)))] := hD
    have hK : va_K D vwCl [(kot, .long)] s := hK
    refine W.widen (k := 2) (n := 12) (Nat.le_of_ble_eq_true rfl) (Nat.le_of_ble_eq_true rfl) ?_
    refine lv_i2l hx hb dL_convert_10 rfl ?_
    refine va_last hx hb hK hP hD hS 0 0 rfl rfl (vp_in_iff.mpr (by decide)) dL_convert_11 (fun H locs hP hD hS => ?_)
    have hP : va_P D vwCl [(ot, .inl (kot, 1, .inr (.inl (vp_updL fo (0 : Int32).toNatClampNeg ((cvV a1 a2 a3).toInt64)))))] H := hP
    have hD : va_D A [(ot, .inl (kot, 1, .inr (.inl (vp_updL fo (0 : Int32).toNatClampNeg ((cvV a1 a2 a3).toInt64)))))] := hD
    refine lv_goto (tgt := 19) hx hb dL_convert_12 (by decide) ?_
    refine lv_iconst (v := 0) hx hb dL_convert_19 (by decide) ?_
    have hP9 := hP.sub (ws' := [(ot, .inl (kot, 1, .inr (.inl (vp_updL fo (0 : Int32).toNatClampNeg ((cvV a1 a2 a3).toInt64)))))]) [0] rfl
    have hD9 := hD.sub (ws' := [(ot, .inl (kot, 1, .inr (.inl (vp_updL fo (0 : Int32).toNatClampNeg ((cvV a1 a2 a3).toInt64)))))]) [0] (by decide) rfl
    have hK9 := hK.sub (tys' := []) [] rfl
    exact end_i hx hb hr hlocks hP9 hD9 hK9 hS (vp_updL fo (0 : Int32).toNatClampNeg ((cvV a1 a2 a3).toInt64)) rfl rfl (Or.inl ⟨hw1, rfl, upd0⟩) (Nat.le_of_ble_eq_true rfl) (Nat.le_of_ble_eq_true rfl) dL_convert_20
set_option maxHeartbeats 4000000 in
set_option maxRecDepth 100000 in
/-- the try of model -/
theorem t_model (l : Launch) (hlt : l.stackTraces = false) (D : va_G) (tC tE sz : Nat) (x q0 q1 q2 q3 q4 q5 q6 : Nat) (k0 : ClassId) (ot : Nat) (kot : ClassId) (fo : Nat → Int64) (a1 a2 : Int32) : Met l yL_model wsL_model ({ frames := 8, cells := 4, slots := 51, locals := 126 }) (Pg D tC tE sz [(x, .inr (13, [.ref q0, .ref q1, .ref q2, .ref q3, .ref q4, .ref q5, .ref q6, .int 0, .int 0, .int 0, .int 0, .int 0, .int 0, .int 0])), (q0, .inl (k0, 5, .inr (.inr (.inr (.inr (fun _ => none)))))), (ot, .inl (kot, 1, .inr (.inl fo)))] [(k0, .object "Lastroom$Model"), (kot, .long)] [.ref x, .int a1, .int a2, .ref ot]) (Qgi (S := (Nat → Int64)) D (fun u => [(ot, .inl (kot, 1, .inr (.inl u)))]) (fun u => []) (fun r u => (modB a1 a2 = true ∧ r = 0 ∧ u 0 = (0 : Int32).toInt64) ∨ (modB a1 a2 = false ∧ r = 1)) (va_A [(x, .inr (13, [.ref q0, .ref q1, .ref q2, .ref q3, .ref q4, .ref q5, .ref q6, .int 0, .int 0, .int 0, .int 0, .int 0, .int 0, .int 0])), (q0, .inl (k0, 5, .inr (.inr (.inr (.inr (fun _ => none)))))), (ot, .inl (kot, 1, .inr (.inl fo)))] sz)) 4 51 (va_A [(x, .inr (13, [.ref q0, .ref q1, .ref q2, .ref q3, .ref q4, .ref q5, .ref q6, .int 0, .int 0, .int 0, .int 0, .int 0, .int 0, .int 0])), (q0, .inl (k0, 5, .inr (.inr (.inr (.inr (fun _ => none)))))), (ot, .inl (kot, 1, .inr (.inl fo)))] sz) := by
  refine og_h (cc := cL_model) (maxL := 5) (ret := (some .int)) (hh := [(0, 10, 13, 13), (0, 10, 17, 23)]) (Qc := Qgi (S := (Nat → Int64)) D (fun u => [(ot, .inl (kot, 1, .inr (.inl u)))]) (fun u => []) (fun r u => (modB a1 a2 = true ∧ r = 0 ∧ u 0 = (0 : Int32).toInt64) ∨ (modB a1 a2 = false ∧ r = 1))) (by decide) rfl (Nat.le_of_ble_eq_true rfl) ?_
  intro p e s m below meth c A hx hb hr hml hts hown hlocks htab hP hD hK hG hA hS ls hl
  have hl : lv_has ls 5 [(0, .ref x), (1, .int a1), (2, .int a2), (3, .ref ot)] := hl
  refine lv_aload_n hx hb dL_model_0 rfl (lv_at hl 3 rfl) ?_
  refine lv_iconst (v := 0) hx hb dL_model_1 (by decide) ?_
  refine lv_aload_n hx hb dL_model_2 rfl (lv_at hl 0 rfl) ?_
  refine lv_iload_n hx hb dL_model_3 rfl (lv_at hl 1 rfl) ?_
  refine lv_iload_n hx hb dL_model_4 rfl (lv_at hl 2 rfl) ?_
  have hFc := va_free (wc := [(x, .inr (13, [.ref q0, .ref q1, .ref q2, .ref q3, .ref q4, .ref q5, .ref q6, .int 0, .int 0, .int 0, .int 0, .int 0, .int 0, .int 0])), (q0, .inl (k0, 5, .inr (.inr (.inr (.inr (fun _ => none))))))]) hD hS hA [0, 1] rfl
  refine vx_calli (vx_runV (As := [.int a1, .int a2]) (rest := [.int 0, .ref ot]) ⟨hx, hb, hml, hown, hts⟩ (c_model l hlt D tC tE s.heap.size x q0 q1 q2 q3 q4 q5 q6 k0 a1 a2) (cwV 2 hts gL_model_X9_model rfl rfl rfl (by decide +kernel) ⟨(Nat.le_of_ble_eq_true rfl), (Nat.le_of_ble_eq_true rfl)⟩) ⟨pg_blind, (va_recv hK hP (ci := 13) (q0 := 0) rfl rfl), (pg_pre hP hD hK hG hS hFc [0, 1] rfl (by decide) [0] rfl _)⟩ rfl rfl hl.1 rfl (lv_room (Nat.le_of_ble_eq_true rfl)) dL_model_5 ⟨(Nat.le_of_ble_eq_true rfl), (Nat.le_of_ble_eq_true rfl)⟩) hS (fun q _ h => hFc q h) hFc (fun q _ h => hFc q h) (fun E ce q9 u t H1 locs1 ht hvm hw hB hz1 hk1 hS hce hcv hcl => ?_) (fun r_1 u_2 t H locs ht hvm hw hB hz1 hk1 hS => ?_)
  · obtain ⟨hP, hD⟩ := jx (wr := [(ot, .inl (kot, 1, .inr (.inl fo)))]) hP hD [0, 1] [2] rfl rfl (by decide) (by decide) hk1 hFc
    have hP : va_P D vwCl [(ot, .inl (kot, 1, .inr (.inl fo)))] H1 := hP
    have hD : va_D A [(ot, .inl (kot, 1, .inr (.inl fo)))] := hD
    obtain ⟨hE, hf⟩ := hB
    subst hE
    refine vx_widen (k := 4) (n := 51) (Nat.le_of_ble_eq_true rfl) (Nat.le_of_ble_eq_true rfl) (vx_catch (E := gx_iae) (name := "java/lang/IllegalArgumentException") hown [] ⟨0, 10, 13, 13⟩ [⟨0, 10, 17, 23⟩] (htab.trans rfl) (fun z hz => absurd hz List.not_mem_nil) (by decide) (by decide) (hts (.classLink RL 13 "java/lang/IllegalArgumentException") (List.mem_of_getElem? (i := 1) rfl)) (va_Nw.use rfl (hG.2.2.2.2.2.2.2.2.2.2.1 _ (List.mem_of_getElem? (i := 0) rfl))) hce hcv hcl ?_)
    refine W.eq (g2 := F0 m 13 ls [.ref q9]) rfl ?_
    refine lv_astore (lv' := [(4, .ref q9), (0, .ref x), (1, .int a1), (2, .int a2), (3, .ref ot)]) hx hb dL_model_13 hl (by decide) rfl (fun ls hl => ?_)
    refine lv_iconst (v := 1) hx hb dL_model_15 (by decide) ?_
    have hP9 := hP.sub (ws' := [(ot, .inl (kot, 1, .inr (.inl fo)))]) [0] rfl
    have hD9 := hD.sub (ws' := [(ot, .inl (kot, 1, .inr (.inl fo)))]) [0] (by decide) rfl
    have hK9 := hK.sub (tys' := []) [] rfl
    exact end_i hx hb hr hlocks hP9 hD9 hK9 hS fo rfl rfl (Or.inr ⟨hf, rfl⟩) (Nat.le_of_ble_eq_true rfl) (Nat.le_of_ble_eq_true rfl) dL_model_16
  · obtain ⟨hw1, hw2⟩ := hw
    subst hw2
    obtain ⟨hP, hD, hK⟩ := jn (wr := [(ot, .inl (kot, 1, .inr (.inl fo)))]) (w1 := []) (t1 := []) (tr := [(k0, .object "Lastroom$Model"), (kot, .long)]) hP hD hK [0, 1] [2] rfl rfl (by decide) (by decide) [0, 1] rfl hk1 hFc hB rfl rfl ht hvm
    have hP : va_P D vwCl [(ot, .inl (kot, 1, .inr (.inl fo)))] H := hP
    have hD : va_D A [(ot, .inl (kot, 1, .inr (.inl fo)))] := hD
    have hK : va_K D vwCl [(k0, .object "Lastroom$Model"), (kot, .long)] s := hK
    refine W.widen (k := 4) (n := 51) (Nat.le_of_ble_eq_true rfl) (Nat.le_of_ble_eq_true rfl) ?_
    refine lv_i2l hx hb dL_model_8 rfl ?_
    refine va_last hx hb hK hP hD hS 0 1 rfl rfl (vp_in_iff.mpr (by decide)) dL_model_9 (fun H locs hP hD hS => ?_)
    have hP : va_P D vwCl [(ot, .inl (kot, 1, .inr (.inl (vp_updL fo (0 : Int32).toNatClampNeg ((0 : Int32).toInt64)))))] H := hP
    have hD : va_D A [(ot, .inl (kot, 1, .inr (.inl (vp_updL fo (0 : Int32).toNatClampNeg ((0 : Int32).toInt64)))))] := hD
    refine lv_goto (tgt := 21) hx hb dL_model_10 (by decide) ?_
    refine lv_iconst (v := 0) hx hb dL_model_21 (by decide) ?_
    have hP9 := hP.sub (ws' := [(ot, .inl (kot, 1, .inr (.inl (vp_updL fo (0 : Int32).toNatClampNeg ((0 : Int32).toInt64)))))]) [0] rfl
    have hD9 := hD.sub (ws' := [(ot, .inl (kot, 1, .inr (.inl (vp_updL fo (0 : Int32).toNatClampNeg ((0 : Int32).toInt64)))))]) [0] (by decide) rfl
    have hK9 := hK.sub (tys' := []) [] rfl
    exact end_i hx hb hr hlocks hP9 hD9 hK9 hS (vp_updL fo (0 : Int32).toNatClampNeg ((0 : Int32).toInt64)) rfl rfl (Or.inl ⟨hw1, rfl, upd0⟩) (Nat.le_of_ble_eq_true rfl) (Nat.le_of_ble_eq_true rfl) dL_model_22
set_option maxHeartbeats 4000000 in
set_option maxRecDepth 100000 in
/-- the try of hide -/
theorem t_hide (l : Launch) (hlt : l.stackTraces = false) (D : va_G) (tC tE sz : Nat) (x q0 q1 q2 q3 q4 q5 q6 : Nat) (k2 : ClassId) (ot : Nat) (kot : ClassId) (fo : Nat → Int64) (a1 a2 a3 : Int32) : Met l yL_hide wsL_hide ({ frames := 8, cells := 5, slots := 142, locals := 127 }) (Pg D tC tE sz [(x, .inr (13, [.ref q0, .ref q1, .ref q2, .ref q3, .ref q4, .ref q5, .ref q6, .int 0, .int 0, .int 0, .int 0, .int 0, .int 0, .int 0])), (q2, .inl (k2, 6, .inr (.inr (.inr (.inr (fun _ => none)))))), (ot, .inl (kot, 1, .inr (.inl fo)))] [(k2, .object "Lastroom$Hide"), (kot, .long)] [.ref x, .int a1, .int a2, .int a3, .ref ot]) (Qgi (S := (Nat → Int64)) D (fun u => [(ot, .inl (kot, 1, .inr (.inl u)))]) (fun u => []) (fun r u => (hidB a1 a2 a3 = true ∧ r = 0 ∧ u 0 = (0 : Int32).toInt64) ∨ (hidB a1 a2 a3 = false ∧ r = 1)) (va_A [(x, .inr (13, [.ref q0, .ref q1, .ref q2, .ref q3, .ref q4, .ref q5, .ref q6, .int 0, .int 0, .int 0, .int 0, .int 0, .int 0, .int 0])), (q2, .inl (k2, 6, .inr (.inr (.inr (.inr (fun _ => none)))))), (ot, .inl (kot, 1, .inr (.inl fo)))] sz)) 5 142 (va_A [(x, .inr (13, [.ref q0, .ref q1, .ref q2, .ref q3, .ref q4, .ref q5, .ref q6, .int 0, .int 0, .int 0, .int 0, .int 0, .int 0, .int 0])), (q2, .inl (k2, 6, .inr (.inr (.inr (.inr (fun _ => none)))))), (ot, .inl (kot, 1, .inr (.inl fo)))] sz) := by
  refine og_h (cc := cL_hide) (maxL := 6) (ret := (some .int)) (hh := [(0, 12, 15, 13), (0, 12, 19, 23)]) (Qc := Qgi (S := (Nat → Int64)) D (fun u => [(ot, .inl (kot, 1, .inr (.inl u)))]) (fun u => []) (fun r u => (hidB a1 a2 a3 = true ∧ r = 0 ∧ u 0 = (0 : Int32).toInt64) ∨ (hidB a1 a2 a3 = false ∧ r = 1))) (by decide) rfl (Nat.le_of_ble_eq_true rfl) ?_
  intro p e s m below meth c A hx hb hr hml hts hown hlocks htab hP hD hK hG hA hS ls hl
  have hl : lv_has ls 6 [(0, .ref x), (1, .int a1), (2, .int a2), (3, .int a3), (4, .ref ot)] := hl
  refine lv_aload hx hb dL_hide_0 (lv_at hl 4 rfl) ?_
  refine lv_iconst (v := 0) hx hb dL_hide_2 (by decide) ?_
  refine lv_aload_n hx hb dL_hide_3 rfl (lv_at hl 0 rfl) ?_
  refine lv_iload_n hx hb dL_hide_4 rfl (lv_at hl 1 rfl) ?_
  refine lv_iload_n hx hb dL_hide_5 rfl (lv_at hl 2 rfl) ?_
  refine lv_iload_n hx hb dL_hide_6 rfl (lv_at hl 3 rfl) ?_
  have hFc := va_free (wc := [(x, .inr (13, [.ref q0, .ref q1, .ref q2, .ref q3, .ref q4, .ref q5, .ref q6, .int 0, .int 0, .int 0, .int 0, .int 0, .int 0, .int 0])), (q2, .inl (k2, 6, .inr (.inr (.inr (.inr (fun _ => none))))))]) hD hS hA [0, 1] rfl
  refine vx_calli (vx_runV (As := [.int a1, .int a2, .int a3]) (rest := [.int 0, .ref ot]) ⟨hx, hb, hml, hown, hts⟩ (c_hide l hlt D tC tE s.heap.size x q0 q1 q2 q3 q4 q5 q6 k2 a1 a2 a3) (cwV 3 hts gL_hide_X9_hide rfl rfl rfl (by decide +kernel) ⟨(Nat.le_of_ble_eq_true rfl), (Nat.le_of_ble_eq_true rfl)⟩) ⟨pg_blind, (va_recv hK hP (ci := 13) (q0 := 0) rfl rfl), (pg_pre hP hD hK hG hS hFc [0, 1] rfl (by decide) [0] rfl _)⟩ rfl rfl hl.1 rfl (lv_room (Nat.le_of_ble_eq_true rfl)) dL_hide_7 ⟨(Nat.le_of_ble_eq_true rfl), (Nat.le_of_ble_eq_true rfl)⟩) hS (fun q _ h => hFc q h) hFc (fun q _ h => hFc q h) (fun E ce q9 u t H1 locs1 ht hvm hw hB hz1 hk1 hS hce hcv hcl => ?_) (fun r_1 u_2 t H locs ht hvm hw hB hz1 hk1 hS => ?_)
  · obtain ⟨hP, hD⟩ := jx (wr := [(ot, .inl (kot, 1, .inr (.inl fo)))]) hP hD [0, 1] [2] rfl rfl (by decide) (by decide) hk1 hFc
    have hP : va_P D vwCl [(ot, .inl (kot, 1, .inr (.inl fo)))] H1 := hP
    have hD : va_D A [(ot, .inl (kot, 1, .inr (.inl fo)))] := hD
    obtain ⟨hE, hf⟩ := hB
    subst hE
    refine vx_widen (k := 5) (n := 142) (Nat.le_of_ble_eq_true rfl) (Nat.le_of_ble_eq_true rfl) (vx_catch (E := gx_iae) (name := "java/lang/IllegalArgumentException") hown [] ⟨0, 12, 15, 13⟩ [⟨0, 12, 19, 23⟩] (htab.trans rfl) (fun z hz => absurd hz List.not_mem_nil) (by decide) (by decide) (hts (.classLink RL 13 "java/lang/IllegalArgumentException") (List.mem_of_getElem? (i := 1) rfl)) (va_Nw.use rfl (hG.2.2.2.2.2.2.2.2.2.2.1 _ (List.mem_of_getElem? (i := 0) rfl))) hce hcv hcl ?_)
    refine W.eq (g2 := F0 m 15 ls [.ref q9]) rfl ?_
    refine lv_astore (lv' := [(5, .ref q9), (0, .ref x), (1, .int a1), (2, .int a2), (3, .int a3), (4, .ref ot)]) hx hb dL_hide_15 hl (by decide) rfl (fun ls hl => ?_)
    refine lv_iconst (v := 1) hx hb dL_hide_17 (by decide) ?_
    have hP9 := hP.sub (ws' := [(ot, .inl (kot, 1, .inr (.inl fo)))]) [0] rfl
    have hD9 := hD.sub (ws' := [(ot, .inl (kot, 1, .inr (.inl fo)))]) [0] (by decide) rfl
    have hK9 := hK.sub (tys' := []) [] rfl
    exact end_i hx hb hr hlocks hP9 hD9 hK9 hS fo rfl rfl (Or.inr ⟨hf, rfl⟩) (Nat.le_of_ble_eq_true rfl) (Nat.le_of_ble_eq_true rfl) dL_hide_18
  · obtain ⟨hw1, hw2⟩ := hw
    subst hw2
    obtain ⟨hP, hD, hK⟩ := jn (wr := [(ot, .inl (kot, 1, .inr (.inl fo)))]) (w1 := []) (t1 := []) (tr := [(k2, .object "Lastroom$Hide"), (kot, .long)]) hP hD hK [0, 1] [2] rfl rfl (by decide) (by decide) [0, 1] rfl hk1 hFc hB rfl rfl ht hvm
    have hP : va_P D vwCl [(ot, .inl (kot, 1, .inr (.inl fo)))] H := hP
    have hD : va_D A [(ot, .inl (kot, 1, .inr (.inl fo)))] := hD
    have hK : va_K D vwCl [(k2, .object "Lastroom$Hide"), (kot, .long)] s := hK
    refine W.widen (k := 5) (n := 142) (Nat.le_of_ble_eq_true rfl) (Nat.le_of_ble_eq_true rfl) ?_
    refine lv_i2l hx hb dL_hide_10 rfl ?_
    refine va_last hx hb hK hP hD hS 0 1 rfl rfl (vp_in_iff.mpr (by decide)) dL_hide_11 (fun H locs hP hD hS => ?_)
    have hP : va_P D vwCl [(ot, .inl (kot, 1, .inr (.inl (vp_updL fo (0 : Int32).toNatClampNeg ((0 : Int32).toInt64)))))] H := hP
    have hD : va_D A [(ot, .inl (kot, 1, .inr (.inl (vp_updL fo (0 : Int32).toNatClampNeg ((0 : Int32).toInt64)))))] := hD
    refine lv_goto (tgt := 23) hx hb dL_hide_12 (by decide) ?_
    refine lv_iconst (v := 0) hx hb dL_hide_23 (by decide) ?_
    have hP9 := hP.sub (ws' := [(ot, .inl (kot, 1, .inr (.inl (vp_updL fo (0 : Int32).toNatClampNeg ((0 : Int32).toInt64)))))]) [0] rfl
    have hD9 := hD.sub (ws' := [(ot, .inl (kot, 1, .inr (.inl (vp_updL fo (0 : Int32).toNatClampNeg ((0 : Int32).toInt64)))))]) [0] (by decide) rfl
    have hK9 := hK.sub (tys' := []) [] rfl
    exact end_i hx hb hr hlocks hP9 hD9 hK9 hS (vp_updL fo (0 : Int32).toNatClampNeg ((0 : Int32).toInt64)) rfl rfl (Or.inl ⟨hw1, rfl, upd0⟩) (Nat.le_of_ble_eq_true rfl) (Nat.le_of_ble_eq_true rfl) dL_hide_24
set_option maxHeartbeats 4000000 in
set_option maxRecDepth 100000 in
/-- the try of pass -/
theorem t_pass (l : Launch) (hlt : l.stackTraces = false) (D : va_G) (tC tE sz : Nat) (x q0 q1 q2 q3 q4 q5 q6 : Nat) (ot : Nat) (kot : ClassId) (fo : Nat → Int64) (a1 : Int32) : Met l yL_pass wsL_pass ({ frames := 8, cells := 1, slots := 6, locals := 125 }) (Pg D tC tE sz [(x, .inr (13, [.ref q0, .ref q1, .ref q2, .ref q3, .ref q4, .ref q5, .ref q6, .int 0, .int 0, .int 0, .int 0, .int 0, .int 0, .int 0])), (ot, .inl (kot, 1, .inr (.inl fo)))] [(kot, .long)] [.ref x, .int a1, .ref ot]) (Qgi (S := (Nat → Int64)) D (fun u => [(ot, .inl (kot, 1, .inr (.inl u)))]) (fun u => []) (fun r u => (rg a1 1 240 = true ∧ r = 0 ∧ u 0 = a1.toInt64) ∨ (rg a1 1 240 = false ∧ r = 1)) (va_A [(x, .inr (13, [.ref q0, .ref q1, .ref q2, .ref q3, .ref q4, .ref q5, .ref q6, .int 0, .int 0, .int 0, .int 0, .int 0, .int 0, .int 0])), (ot, .inl (kot, 1, .inr (.inl fo)))] sz)) 1 6 (va_A [(x, .inr (13, [.ref q0, .ref q1, .ref q2, .ref q3, .ref q4, .ref q5, .ref q6, .int 0, .int 0, .int 0, .int 0, .int 0, .int 0, .int 0])), (ot, .inl (kot, 1, .inr (.inl fo)))] sz) := by
  refine og_h (cc := cL_pass) (maxL := 4) (ret := (some .int)) (hh := [(0, 9, 12, 13)]) (Qc := Qgi (S := (Nat → Int64)) D (fun u => [(ot, .inl (kot, 1, .inr (.inl u)))]) (fun u => []) (fun r u => (rg a1 1 240 = true ∧ r = 0 ∧ u 0 = a1.toInt64) ∨ (rg a1 1 240 = false ∧ r = 1))) (by decide) rfl (Nat.le_of_ble_eq_true rfl) ?_
  intro p e s m below meth c A hx hb hr hml hts hown hlocks htab hP hD hK hG hA hS ls hl
  have hl : lv_has ls 4 [(0, .ref x), (1, .int a1), (2, .ref ot)] := hl
  refine lv_aload_n hx hb dL_pass_0 rfl (lv_at hl 2 rfl) ?_
  refine lv_iconst (v := 0) hx hb dL_pass_1 (by decide) ?_
  refine lv_aload_n hx hb dL_pass_2 rfl (lv_at hl 0 rfl) ?_
  refine lv_iload_n hx hb dL_pass_3 rfl (lv_at hl 1 rfl) ?_
  have hFc := va_free (wc := [(x, .inr (13, [.ref q0, .ref q1, .ref q2, .ref q3, .ref q4, .ref q5, .ref q6, .int 0, .int 0, .int 0, .int 0, .int 0, .int 0, .int 0]))]) hD hS hA [0] rfl
  refine vx_calli (vx_runV (As := [.int a1]) (rest := [.int 0, .ref ot]) ⟨hx, hb, hml, hown, hts⟩ (c_pass l hlt D tC tE s.heap.size x q0 q1 q2 q3 q4 q5 q6 a1) (cwV 1 hts gL_pass_X9_pass rfl rfl rfl (by decide +kernel) ⟨(Nat.le_of_ble_eq_true rfl), (Nat.le_of_ble_eq_true rfl)⟩) ⟨pg_blind, (va_recv hK hP (ci := 13) (q0 := 0) rfl rfl), (pg_pre hP hD hK hG hS hFc [0] rfl (by decide) [] rfl _)⟩ rfl rfl hl.1 rfl (lv_room (Nat.le_of_ble_eq_true rfl)) dL_pass_4 ⟨(Nat.le_of_ble_eq_true rfl), (Nat.le_of_ble_eq_true rfl)⟩) hS (fun q _ h => hFc q h) hFc (fun q _ h => hFc q h) (fun E ce q9 u t H1 locs1 ht hvm hw hB hz1 hk1 hS hce hcv hcl => ?_) (fun r_1 u_2 t H locs ht hvm hw hB hz1 hk1 hS => ?_)
  · obtain ⟨hP, hD⟩ := jx (wr := [(ot, .inl (kot, 1, .inr (.inl fo)))]) hP hD [0] [1] rfl rfl (by decide) (by decide) hk1 hFc
    have hP : va_P D vwCl [(ot, .inl (kot, 1, .inr (.inl fo)))] H1 := hP
    have hD : va_D A [(ot, .inl (kot, 1, .inr (.inl fo)))] := hD
    obtain ⟨hE, hf⟩ := hB
    subst hE
    refine vx_widen (k := 1) (n := 6) (Nat.le_of_ble_eq_true rfl) (Nat.le_of_ble_eq_true rfl) (vx_catch (E := gx_iae) (name := "java/lang/IllegalArgumentException") hown [] ⟨0, 9, 12, 13⟩ [] (htab.trans rfl) (fun z hz => absurd hz List.not_mem_nil) (by decide) (by decide) (hts (.classLink RL 13 "java/lang/IllegalArgumentException") (List.mem_of_getElem? (i := 1) rfl)) (va_Nw.use rfl (hG.2.2.2.2.2.2.2.2.2.2.1 _ (List.mem_of_getElem? (i := 0) rfl))) hce hcv hcl ?_)
    refine W.eq (g2 := F0 m 12 ls [.ref q9]) rfl ?_
    refine lv_astore_n (lv' := [(3, .ref q9), (0, .ref x), (1, .int a1), (2, .ref ot)]) hx hb dL_pass_12 rfl hl (by decide) rfl (fun ls hl => ?_)
    refine lv_iconst (v := 1) hx hb dL_pass_13 (by decide) ?_
    have hP9 := hP.sub (ws' := [(ot, .inl (kot, 1, .inr (.inl fo)))]) [0] rfl
    have hD9 := hD.sub (ws' := [(ot, .inl (kot, 1, .inr (.inl fo)))]) [0] (by decide) rfl
    have hK9 := hK.sub (tys' := []) [] rfl
    exact end_i hx hb hr hlocks hP9 hD9 hK9 hS fo rfl rfl (Or.inr ⟨hf, rfl⟩) (Nat.le_of_ble_eq_true rfl) (Nat.le_of_ble_eq_true rfl) dL_pass_14
  · obtain ⟨hw1, hw2⟩ := hw
    have hw3 := hw2.symm
    subst hw3
    obtain ⟨hP, hD, hK⟩ := jn (wr := [(ot, .inl (kot, 1, .inr (.inl fo)))]) (w1 := []) (t1 := []) (tr := [(kot, .long)]) hP hD hK [0] [1] rfl rfl (by decide) (by decide) [0] rfl hk1 hFc hB rfl rfl ht hvm
    have hP : va_P D vwCl [(ot, .inl (kot, 1, .inr (.inl fo)))] H := hP
    have hD : va_D A [(ot, .inl (kot, 1, .inr (.inl fo)))] := hD
    have hK : va_K D vwCl [(kot, .long)] s := hK
    refine W.widen (k := 1) (n := 6) (Nat.le_of_ble_eq_true rfl) (Nat.le_of_ble_eq_true rfl) ?_
    refine lv_i2l hx hb dL_pass_7 rfl ?_
    refine va_last hx hb hK hP hD hS 0 0 rfl rfl (vp_in_iff.mpr (by decide)) dL_pass_8 (fun H locs hP hD hS => ?_)
    have hP : va_P D vwCl [(ot, .inl (kot, 1, .inr (.inl (vp_updL fo (0 : Int32).toNatClampNeg a1.toInt64))))] H := hP
    have hD : va_D A [(ot, .inl (kot, 1, .inr (.inl (vp_updL fo (0 : Int32).toNatClampNeg a1.toInt64))))] := hD
    refine lv_goto (tgt := 15) hx hb dL_pass_9 (by decide) ?_
    refine lv_iconst (v := 0) hx hb dL_pass_15 (by decide) ?_
    have hP9 := hP.sub (ws' := [(ot, .inl (kot, 1, .inr (.inl (vp_updL fo (0 : Int32).toNatClampNeg a1.toInt64))))]) [0] rfl
    have hD9 := hD.sub (ws' := [(ot, .inl (kot, 1, .inr (.inl (vp_updL fo (0 : Int32).toNatClampNeg a1.toInt64))))]) [0] (by decide) rfl
    have hK9 := hK.sub (tys' := []) [] rfl
    exact end_i hx hb hr hlocks hP9 hD9 hK9 hS (vp_updL fo (0 : Int32).toNatClampNeg a1.toInt64) rfl rfl (Or.inl ⟨hw1, rfl, upd0⟩) (Nat.le_of_ble_eq_true rfl) (Nat.le_of_ble_eq_true rfl) dL_pass_16
set_option maxHeartbeats 4000000 in
set_option maxRecDepth 100000 in
/-- the try of setStand -/
theorem t_setStand (l : Launch) (hlt : l.stackTraces = false) (D : va_G) (tC tE sz : Nat) (x q0 q1 q2 q3 q4 q5 q6 : Nat) (k6 : ClassId) (f6 : Nat → Int32) (hf6 : ∀ j : Nat, j < 5 → f6 j = 30) (ot : Nat) (kot : ClassId) (fo : Nat → Int64) (a1 a2 : Int32) : Met l yL_setStand wsL_setStand ({ frames := 8, cells := 1, slots := 6, locals := 127 }) (Pg D tC tE sz [(x, .inr (13, [.ref q0, .ref q1, .ref q2, .ref q3, .ref q4, .ref q5, .ref q6, .int 0, .int 0, .int 0, .int 0, .int 0, .int 0, .int 0])), (q6, .inl (k6, 5, .inl f6)), (ot, .inl (kot, 1, .inr (.inl fo)))] [(k6, .int), (kot, .long)] [.ref x, .int a1, .int a2, .ref ot]) (Qgi (S := (Nat → Int64)) D (fun u => [(ot, .inl (kot, 1, .inr (.inl u)))]) (fun u => []) (fun r u => (standB a1 a2 = true ∧ r = 0 ∧ u 0 = (30 : Int32).toInt64) ∨ (standB a1 a2 = false ∧ r = 1)) (va_A [(x, .inr (13, [.ref q0, .ref q1, .ref q2, .ref q3, .ref q4, .ref q5, .ref q6, .int 0, .int 0, .int 0, .int 0, .int 0, .int 0, .int 0])), (q6, .inl (k6, 5, .inl f6)), (ot, .inl (kot, 1, .inr (.inl fo)))] sz)) 1 6 (va_A [(x, .inr (13, [.ref q0, .ref q1, .ref q2, .ref q3, .ref q4, .ref q5, .ref q6, .int 0, .int 0, .int 0, .int 0, .int 0, .int 0, .int 0])), (q6, .inl (k6, 5, .inl f6)), (ot, .inl (kot, 1, .inr (.inl fo)))] sz) := by
  refine og_h (cc := cL_setStand) (maxL := 5) (ret := (some .int)) (hh := [(0, 10, 13, 13)]) (Qc := Qgi (S := (Nat → Int64)) D (fun u => [(ot, .inl (kot, 1, .inr (.inl u)))]) (fun u => []) (fun r u => (standB a1 a2 = true ∧ r = 0 ∧ u 0 = (30 : Int32).toInt64) ∨ (standB a1 a2 = false ∧ r = 1))) (by decide) rfl (Nat.le_of_ble_eq_true rfl) ?_
  intro p e s m below meth c A hx hb hr hml hts hown hlocks htab hP hD hK hG hA hS ls hl
  have hl : lv_has ls 5 [(0, .ref x), (1, .int a1), (2, .int a2), (3, .ref ot)] := hl
  refine lv_aload_n hx hb dL_setStand_0 rfl (lv_at hl 3 rfl) ?_
  refine lv_iconst (v := 0) hx hb dL_setStand_1 (by decide) ?_
  refine lv_aload_n hx hb dL_setStand_2 rfl (lv_at hl 0 rfl) ?_
  refine lv_iload_n hx hb dL_setStand_3 rfl (lv_at hl 1 rfl) ?_
  refine lv_iload_n hx hb dL_setStand_4 rfl (lv_at hl 2 rfl) ?_
  have hFc := va_free (wc := [(x, .inr (13, [.ref q0, .ref q1, .ref q2, .ref q3, .ref q4, .ref q5, .ref q6, .int 0, .int 0, .int 0, .int 0, .int 0, .int 0, .int 0])), (q6, .inl (k6, 5, .inl f6))]) hD hS hA [0, 1] rfl
  refine vx_calli (vx_runV (As := [.int a1, .int a2]) (rest := [.int 0, .ref ot]) ⟨hx, hb, hml, hown, hts⟩ (c_setStand l hlt D tC tE s.heap.size x q0 q1 q2 q3 q4 q5 q6 k6 f6 hf6 a1 a2) (cwV 2 hts gL_setStand_X9_setStand rfl rfl rfl (by decide +kernel) ⟨(Nat.le_of_ble_eq_true rfl), (Nat.le_of_ble_eq_true rfl)⟩) ⟨pg_blind, (va_recv hK hP (ci := 13) (q0 := 0) rfl rfl), (pg_pre hP hD hK hG hS hFc [0, 1] rfl (by decide) [0] rfl _)⟩ rfl rfl hl.1 rfl (lv_room (Nat.le_of_ble_eq_true rfl)) dL_setStand_5 ⟨(Nat.le_of_ble_eq_true rfl), (Nat.le_of_ble_eq_true rfl)⟩) hS (fun q _ h => hFc q h) hFc (fun q _ h => hFc q h) (fun E ce q9 u t H1 locs1 ht hvm hw hB hz1 hk1 hS hce hcv hcl => ?_) (fun r_1 u_2 t H locs ht hvm hw hB hz1 hk1 hS => ?_)
  · obtain ⟨hP, hD⟩ := jx (wr := [(ot, .inl (kot, 1, .inr (.inl fo)))]) hP hD [0, 1] [2] rfl rfl (by decide) (by decide) hk1 hFc
    have hP : va_P D vwCl [(ot, .inl (kot, 1, .inr (.inl fo)))] H1 := hP
    have hD : va_D A [(ot, .inl (kot, 1, .inr (.inl fo)))] := hD
    obtain ⟨hE, hf⟩ := hB
    subst hE
    refine vx_widen (k := 1) (n := 6) (Nat.le_of_ble_eq_true rfl) (Nat.le_of_ble_eq_true rfl) (vx_catch (E := gx_iae) (name := "java/lang/IllegalArgumentException") hown [] ⟨0, 10, 13, 13⟩ [] (htab.trans rfl) (fun z hz => absurd hz List.not_mem_nil) (by decide) (by decide) (hts (.classLink RL 13 "java/lang/IllegalArgumentException") (List.mem_of_getElem? (i := 1) rfl)) (va_Nw.use rfl (hG.2.2.2.2.2.2.2.2.2.2.1 _ (List.mem_of_getElem? (i := 0) rfl))) hce hcv hcl ?_)
    refine W.eq (g2 := F0 m 13 ls [.ref q9]) rfl ?_
    refine lv_astore (lv' := [(4, .ref q9), (0, .ref x), (1, .int a1), (2, .int a2), (3, .ref ot)]) hx hb dL_setStand_13 hl (by decide) rfl (fun ls hl => ?_)
    refine lv_iconst (v := 1) hx hb dL_setStand_15 (by decide) ?_
    have hP9 := hP.sub (ws' := [(ot, .inl (kot, 1, .inr (.inl fo)))]) [0] rfl
    have hD9 := hD.sub (ws' := [(ot, .inl (kot, 1, .inr (.inl fo)))]) [0] (by decide) rfl
    have hK9 := hK.sub (tys' := []) [] rfl
    exact end_i hx hb hr hlocks hP9 hD9 hK9 hS fo rfl rfl (Or.inr ⟨hf, rfl⟩) (Nat.le_of_ble_eq_true rfl) (Nat.le_of_ble_eq_true rfl) dL_setStand_16
  · obtain ⟨hw1, hw2⟩ := hw
    subst hw2
    obtain ⟨hP, hD, hK⟩ := jn (wr := [(ot, .inl (kot, 1, .inr (.inl fo)))]) (w1 := []) (t1 := []) (tr := [(k6, .int), (kot, .long)]) hP hD hK [0, 1] [2] rfl rfl (by decide) (by decide) [0, 1] rfl hk1 hFc hB rfl rfl ht hvm
    have hP : va_P D vwCl [(ot, .inl (kot, 1, .inr (.inl fo)))] H := hP
    have hD : va_D A [(ot, .inl (kot, 1, .inr (.inl fo)))] := hD
    have hK : va_K D vwCl [(k6, .int), (kot, .long)] s := hK
    refine W.widen (k := 1) (n := 6) (Nat.le_of_ble_eq_true rfl) (Nat.le_of_ble_eq_true rfl) ?_
    refine lv_i2l hx hb dL_setStand_8 rfl ?_
    refine va_last hx hb hK hP hD hS 0 1 rfl rfl (vp_in_iff.mpr (by decide)) dL_setStand_9 (fun H locs hP hD hS => ?_)
    have hP : va_P D vwCl [(ot, .inl (kot, 1, .inr (.inl (vp_updL fo (0 : Int32).toNatClampNeg ((30 : Int32).toInt64)))))] H := hP
    have hD : va_D A [(ot, .inl (kot, 1, .inr (.inl (vp_updL fo (0 : Int32).toNatClampNeg ((30 : Int32).toInt64)))))] := hD
    refine lv_goto (tgt := 17) hx hb dL_setStand_10 (by decide) ?_
    refine lv_iconst (v := 0) hx hb dL_setStand_17 (by decide) ?_
    have hP9 := hP.sub (ws' := [(ot, .inl (kot, 1, .inr (.inl (vp_updL fo (0 : Int32).toNatClampNeg ((30 : Int32).toInt64)))))]) [0] rfl
    have hD9 := hD.sub (ws' := [(ot, .inl (kot, 1, .inr (.inl (vp_updL fo (0 : Int32).toNatClampNeg ((30 : Int32).toInt64)))))]) [0] (by decide) rfl
    have hK9 := hK.sub (tys' := []) [] rfl
    exact end_i hx hb hr hlocks hP9 hD9 hK9 hS (vp_updL fo (0 : Int32).toNatClampNeg ((30 : Int32).toInt64)) rfl rfl (Or.inl ⟨hw1, rfl, upd0⟩) (Nat.le_of_ble_eq_true rfl) (Nat.le_of_ble_eq_true rfl) dL_setStand_18
set_option maxHeartbeats 4000000 in
set_option maxRecDepth 100000 in
/-- the try of open -/
theorem t_open (l : Launch) (hlt : l.stackTraces = false) (D : va_G) (tC tE sz : Nat) (x q0 q1 q2 q3 q4 q5 q6 : Nat) (k4 : ClassId) (ot : Nat) (kot : ClassId) (fo : Nat → Int64) (a1 : Int32) : Met l yL_open wsL_open ({ frames := 8, cells := 2, slots := 8, locals := 125 }) (Pg D tC tE sz [(x, .inr (13, [.ref q0, .ref q1, .ref q2, .ref q3, .ref q4, .ref q5, .ref q6, .int 0, .int 0, .int 0, .int 0, .int 0, .int 0, .int 0])), (q4, .inl (k4, 20, .inr (.inr (.inr (.inr (fun _ => none)))))), (ot, .inl (kot, 1, .inr (.inl fo)))] [(k4, .object "Lastroom$Lot"), (kot, .long)] [.ref x, .int a1, .ref ot]) (Qgi (S := (Nat → Int64)) D (fun u => [(ot, .inl (kot, 1, .inr (.inl u)))]) (fun u => []) (fun r u => (rg a1 1 240 = true ∧ r = 0 ∧ u 0 = (0 : Int32).toInt64) ∨ (rg a1 1 240 = false ∧ r = 1)) (va_A [(x, .inr (13, [.ref q0, .ref q1, .ref q2, .ref q3, .ref q4, .ref q5, .ref q6, .int 0, .int 0, .int 0, .int 0, .int 0, .int 0, .int 0])), (q4, .inl (k4, 20, .inr (.inr (.inr (.inr (fun _ => none)))))), (ot, .inl (kot, 1, .inr (.inl fo)))] sz)) 2 8 (va_A [(x, .inr (13, [.ref q0, .ref q1, .ref q2, .ref q3, .ref q4, .ref q5, .ref q6, .int 0, .int 0, .int 0, .int 0, .int 0, .int 0, .int 0])), (q4, .inl (k4, 20, .inr (.inr (.inr (.inr (fun _ => none)))))), (ot, .inl (kot, 1, .inr (.inl fo)))] sz) := by
  refine og_h (cc := cL_open) (maxL := 4) (ret := (some .int)) (hh := [(0, 9, 12, 13), (0, 9, 15, 23)]) (Qc := Qgi (S := (Nat → Int64)) D (fun u => [(ot, .inl (kot, 1, .inr (.inl u)))]) (fun u => []) (fun r u => (rg a1 1 240 = true ∧ r = 0 ∧ u 0 = (0 : Int32).toInt64) ∨ (rg a1 1 240 = false ∧ r = 1))) (by decide) rfl (Nat.le_of_ble_eq_true rfl) ?_
  intro p e s m below meth c A hx hb hr hml hts hown hlocks htab hP hD hK hG hA hS ls hl
  have hl : lv_has ls 4 [(0, .ref x), (1, .int a1), (2, .ref ot)] := hl
  refine lv_aload_n hx hb dL_open_0 rfl (lv_at hl 2 rfl) ?_
  refine lv_iconst (v := 0) hx hb dL_open_1 (by decide) ?_
  refine lv_aload_n hx hb dL_open_2 rfl (lv_at hl 0 rfl) ?_
  refine lv_iload_n hx hb dL_open_3 rfl (lv_at hl 1 rfl) ?_
  have hFc := va_free (wc := [(x, .inr (13, [.ref q0, .ref q1, .ref q2, .ref q3, .ref q4, .ref q5, .ref q6, .int 0, .int 0, .int 0, .int 0, .int 0, .int 0, .int 0])), (q4, .inl (k4, 20, .inr (.inr (.inr (.inr (fun _ => none))))))]) hD hS hA [0, 1] rfl
  refine vx_calli (vx_runV (As := [.int a1]) (rest := [.int 0, .ref ot]) ⟨hx, hb, hml, hown, hts⟩ (c_open l hlt D tC tE s.heap.size x q0 q1 q2 q3 q4 q5 q6 k4 a1) (cwV 1 hts gL_open_X9_open rfl rfl rfl (by decide +kernel) ⟨(Nat.le_of_ble_eq_true rfl), (Nat.le_of_ble_eq_true rfl)⟩) ⟨pg_blind, (va_recv hK hP (ci := 13) (q0 := 0) rfl rfl), (pg_pre hP hD hK hG hS hFc [0, 1] rfl (by decide) [0] rfl _)⟩ rfl rfl hl.1 rfl (lv_room (Nat.le_of_ble_eq_true rfl)) dL_open_4 ⟨(Nat.le_of_ble_eq_true rfl), (Nat.le_of_ble_eq_true rfl)⟩) hS (fun q _ h => hFc q h) hFc (fun q _ h => hFc q h) (fun E ce q9 u t H1 locs1 ht hvm hw hB hz1 hk1 hS hce hcv hcl => ?_) (fun r_1 u_2 t H locs ht hvm hw hB hz1 hk1 hS => ?_)
  · obtain ⟨hP, hD⟩ := jx (wr := [(ot, .inl (kot, 1, .inr (.inl fo)))]) hP hD [0, 1] [2] rfl rfl (by decide) (by decide) hk1 hFc
    have hP : va_P D vwCl [(ot, .inl (kot, 1, .inr (.inl fo)))] H1 := hP
    have hD : va_D A [(ot, .inl (kot, 1, .inr (.inl fo)))] := hD
    obtain ⟨hE, hf⟩ := hB
    subst hE
    refine vx_widen (k := 2) (n := 8) (Nat.le_of_ble_eq_true rfl) (Nat.le_of_ble_eq_true rfl) (vx_catch (E := gx_iae) (name := "java/lang/IllegalArgumentException") hown [] ⟨0, 9, 12, 13⟩ [⟨0, 9, 15, 23⟩] (htab.trans rfl) (fun z hz => absurd hz List.not_mem_nil) (by decide) (by decide) (hts (.classLink RL 13 "java/lang/IllegalArgumentException") (List.mem_of_getElem? (i := 1) rfl)) (va_Nw.use rfl (hG.2.2.2.2.2.2.2.2.2.2.1 _ (List.mem_of_getElem? (i := 0) rfl))) hce hcv hcl ?_)
    refine W.eq (g2 := F0 m 12 ls [.ref q9]) rfl ?_
    refine lv_astore_n (lv' := [(3, .ref q9), (0, .ref x), (1, .int a1), (2, .ref ot)]) hx hb dL_open_12 rfl hl (by decide) rfl (fun ls hl => ?_)
    refine lv_iconst (v := 1) hx hb dL_open_13 (by decide) ?_
    have hP9 := hP.sub (ws' := [(ot, .inl (kot, 1, .inr (.inl fo)))]) [0] rfl
    have hD9 := hD.sub (ws' := [(ot, .inl (kot, 1, .inr (.inl fo)))]) [0] (by decide) rfl
    have hK9 := hK.sub (tys' := []) [] rfl
    exact end_i hx hb hr hlocks hP9 hD9 hK9 hS fo rfl rfl (Or.inr ⟨hf, rfl⟩) (Nat.le_of_ble_eq_true rfl) (Nat.le_of_ble_eq_true rfl) dL_open_14
  · obtain ⟨hw1, hw2⟩ := hw
    subst hw2
    obtain ⟨hP, hD, hK⟩ := jn (wr := [(ot, .inl (kot, 1, .inr (.inl fo)))]) (w1 := []) (t1 := []) (tr := [(k4, .object "Lastroom$Lot"), (kot, .long)]) hP hD hK [0, 1] [2] rfl rfl (by decide) (by decide) [0, 1] rfl hk1 hFc hB rfl rfl ht hvm
    have hP : va_P D vwCl [(ot, .inl (kot, 1, .inr (.inl fo)))] H := hP
    have hD : va_D A [(ot, .inl (kot, 1, .inr (.inl fo)))] := hD
    have hK : va_K D vwCl [(k4, .object "Lastroom$Lot"), (kot, .long)] s := hK
    refine W.widen (k := 2) (n := 8) (Nat.le_of_ble_eq_true rfl) (Nat.le_of_ble_eq_true rfl) ?_
    refine lv_i2l hx hb dL_open_7 rfl ?_
    refine va_last hx hb hK hP hD hS 0 1 rfl rfl (vp_in_iff.mpr (by decide)) dL_open_8 (fun H locs hP hD hS => ?_)
    have hP : va_P D vwCl [(ot, .inl (kot, 1, .inr (.inl (vp_updL fo (0 : Int32).toNatClampNeg ((0 : Int32).toInt64)))))] H := hP
    have hD : va_D A [(ot, .inl (kot, 1, .inr (.inl (vp_updL fo (0 : Int32).toNatClampNeg ((0 : Int32).toInt64)))))] := hD
    refine lv_goto (tgt := 18) hx hb dL_open_9 (by decide) ?_
    refine lv_iconst (v := 0) hx hb dL_open_18 (by decide) ?_
    have hP9 := hP.sub (ws' := [(ot, .inl (kot, 1, .inr (.inl (vp_updL fo (0 : Int32).toNatClampNeg ((0 : Int32).toInt64)))))]) [0] rfl
    have hD9 := hD.sub (ws' := [(ot, .inl (kot, 1, .inr (.inl (vp_updL fo (0 : Int32).toNatClampNeg ((0 : Int32).toInt64)))))]) [0] (by decide) rfl
    have hK9 := hK.sub (tys' := []) [] rfl
    exact end_i hx hb hr hlocks hP9 hD9 hK9 hS (vp_updL fo (0 : Int32).toNatClampNeg ((0 : Int32).toInt64)) rfl rfl (Or.inl ⟨hw1, rfl, upd0⟩) (Nat.le_of_ble_eq_true rfl) (Nat.le_of_ble_eq_true rfl) dL_open_19
set_option maxHeartbeats 4000000 in
set_option maxRecDepth 100000 in
/-- the try of misfit -/
theorem t_misfit (l : Launch) (hlt : l.stackTraces = false) (D : va_G) (tC tE sz : Nat) (x q0 q1 q2 q3 q4 q5 q6 : Nat) (k0 : ClassId) (ot : Nat) (kot : ClassId) (fo : Nat → Int64) (a1 a2 a3 a4 : Int32) : Met l yL_misfit wxL_misfit ({ frames := 9, cells := 4, slots := 24, locals := 149 }) (Pg D tC tE sz [(x, .inr (13, [.ref q0, .ref q1, .ref q2, .ref q3, .ref q4, .ref q5, .ref q6, .int 0, .int 0, .int 0, .int 0, .int 0, .int 0, .int 0])), (q0, .inl (k0, 5, .inr (.inr (.inr (.inr (fun _ => none)))))), (ot, .inl (kot, 1, .inr (.inl fo)))] [(k0, .object "Lastroom$Model"), (kot, .long)] [.ref x, .int a1, .int a2, .int a3, .int a4, .ref ot]) (Qgi (S := Unit) D (fun u => []) (fun u => []) (fun r _ => (misB a1 a2 a4 = false ∧ r = 1) ∨ (misB a1 a2 a4 = true ∧ r = 2)) (va_A [(x, .inr (13, [.ref q0, .ref q1, .ref q2, .ref q3, .ref q4, .ref q5, .ref q6, .int 0, .int 0, .int 0, .int 0, .int 0, .int 0, .int 0])), (q0, .inl (k0, 5, .inr (.inr (.inr (.inr (fun _ => none)))))), (ot, .inl (kot, 1, .inr (.inl fo)))] sz)) 4 24 (va_A [(x, .inr (13, [.ref q0, .ref q1, .ref q2, .ref q3, .ref q4, .ref q5, .ref q6, .int 0, .int 0, .int 0, .int 0, .int 0, .int 0, .int 0])), (q0, .inl (k0, 5, .inr (.inr (.inr (.inr (fun _ => none)))))), (ot, .inl (kot, 1, .inr (.inl fo)))] sz) := by
  refine og_h (cc := cL_misfit) (maxL := 7) (ret := (some .int)) (hh := [(0, 14, 17, 13), (0, 14, 21, 28)]) (Qc := Qgi (S := Unit) D (fun u => []) (fun u => []) (fun r _ => (misB a1 a2 a4 = false ∧ r = 1) ∨ (misB a1 a2 a4 = true ∧ r = 2))) (by decide) rfl (Nat.le_of_ble_eq_true rfl) ?_
  intro p e s m below meth c A hx hb hr hml hts hown hlocks htab hP hD hK hG hA hS ls hl
  have hl : lv_has ls 7 [(0, .ref x), (1, .int a1), (2, .int a2), (3, .int a3), (4, .int a4), (5, .ref ot)] := hl
  refine lv_aload hx hb dL_misfit_0 (lv_at hl 5 rfl) ?_
  refine lv_iconst (v := 0) hx hb dL_misfit_2 (by decide) ?_
  refine lv_aload_n hx hb dL_misfit_3 rfl (lv_at hl 0 rfl) ?_
  refine lv_iload_n hx hb dL_misfit_4 rfl (lv_at hl 1 rfl) ?_
  refine lv_iload_n hx hb dL_misfit_5 rfl (lv_at hl 2 rfl) ?_
  refine lv_iload_n hx hb dL_misfit_6 rfl (lv_at hl 3 rfl) ?_
  refine lv_iload hx hb dL_misfit_7 (lv_at hl 4 rfl) ?_
  have hFc := va_free (wc := [(x, .inr (13, [.ref q0, .ref q1, .ref q2, .ref q3, .ref q4, .ref q5, .ref q6, .int 0, .int 0, .int 0, .int 0, .int 0, .int 0, .int 0])), (q0, .inl (k0, 5, .inr (.inr (.inr (.inr (fun _ => none))))))]) hD hS hA [0, 1] rfl
  refine vx_calli (vx_runV (As := [.int a1, .int a2, .int a3, .int a4]) (rest := [.int 0, .ref ot]) ⟨hx, hb, hml, hown, hts⟩ (c_misfit l hlt D tC tE s.heap.size x q0 q1 q2 q3 q4 q5 q6 k0 a1 a2 a3 a4) (cwV 4 hts gxL_misfit_X9_misfit rfl rfl rfl (by decide +kernel) ⟨(Nat.le_of_ble_eq_true rfl), (Nat.le_of_ble_eq_true rfl)⟩) ⟨pg_blind, (va_recv hK hP (ci := 13) (q0 := 0) rfl rfl), (pg_pre hP hD hK hG hS hFc [0, 1] rfl (by decide) [0] rfl _)⟩ rfl rfl hl.1 rfl (lv_room (Nat.le_of_ble_eq_true rfl)) dL_misfit_9 ⟨(Nat.le_of_ble_eq_true rfl), (Nat.le_of_ble_eq_true rfl)⟩) hS (fun q _ h => hFc q h) hFc (fun q _ h => hFc q h) (fun E ce q9 u t H1 locs1 ht hvm hw hB hz1 hk1 hS hce hcv hcl => ?_) (fun r_1 u_2 t H locs ht hvm hw hB hz1 hk1 hS => ?_)
  · obtain ⟨hP, hD⟩ := jx (wr := [(ot, .inl (kot, 1, .inr (.inl fo)))]) hP hD [0, 1] [2] rfl rfl (by decide) (by decide) hk1 hFc
    have hP : va_P D vwCl [(ot, .inl (kot, 1, .inr (.inl fo)))] H1 := hP
    have hD : va_D A [(ot, .inl (kot, 1, .inr (.inl fo)))] := hD
    rcases hB with ⟨hE, hf⟩ | ⟨hE, hf⟩
    · subst hE
      refine vx_widen (k := 4) (n := 24) (Nat.le_of_ble_eq_true rfl) (Nat.le_of_ble_eq_true rfl) (vx_catch (E := gx_iae) (name := "java/lang/IllegalArgumentException") hown [] ⟨0, 14, 17, 13⟩ [⟨0, 14, 21, 28⟩] (htab.trans rfl) (fun z hz => absurd hz List.not_mem_nil) (by decide) (by decide) (hts (.classLink RL 13 "java/lang/IllegalArgumentException") (List.mem_of_getElem? (i := 2) rfl)) (va_Nw.use rfl (hG.2.2.2.2.2.2.2.2.2.2.1 _ (List.mem_of_getElem? (i := 0) rfl))) hce hcv hcl ?_)
      refine W.eq (g2 := F0 m 17 ls [.ref q9]) rfl ?_
      refine lv_astore (lv' := [(6, .ref q9), (0, .ref x), (1, .int a1), (2, .int a2), (3, .int a3), (4, .int a4), (5, .ref ot)]) hx hb dL_misfit_17 hl (by decide) rfl (fun ls hl => ?_)
      refine lv_iconst (v := 1) hx hb dL_misfit_19 (by decide) ?_
      have hP9 := hP.sub (ws' := []) [] rfl
      have hD9 := hD.sub (ws' := []) [] (by decide) rfl
      have hK9 := hK.sub (tys' := []) [] rfl
      exact end_i hx hb hr hlocks hP9 hD9 hK9 hS () rfl rfl (Or.inl ⟨hf, rfl⟩) (Nat.le_of_ble_eq_true rfl) (Nat.le_of_ble_eq_true rfl) dL_misfit_20
    · subst hE
      refine vx_widen (k := 4) (n := 24) (Nat.le_of_ble_eq_true rfl) (Nat.le_of_ble_eq_true rfl) (vx_catch (E := gx_ioo) (name := "java/lang/IndexOutOfBoundsException") hown [⟨0, 14, 17, 13⟩] ⟨0, 14, 21, 28⟩ [] (htab.trans rfl) (fun z hz => by obtain rfl := List.mem_singleton.mp hz; exact Or.inr ⟨by decide, "java/lang/IllegalArgumentException", (hts (.classLink RL 13 "java/lang/IllegalArgumentException") (List.mem_of_getElem? (i := 2) rfl)), hG.2.2.2.2.2.2.2.2.2.1 _ (List.mem_of_getElem? (i := 0) rfl)⟩) (by decide) (by decide) (hts (.classLink RL 28 "java/lang/IndexOutOfBoundsException") (List.mem_of_getElem? (i := 1) rfl)) (va_Nw.use rfl (hG.2.2.2.2.2.2.2.2.2.2.1 _ (List.mem_of_getElem? (i := 1) rfl))) hce hcv hcl ?_)
      refine W.eq (g2 := F0 m 21 ls [.ref q9]) rfl ?_
      refine lv_astore (lv' := [(6, .ref q9), (0, .ref x), (1, .int a1), (2, .int a2), (3, .int a3), (4, .int a4), (5, .ref ot)]) hx hb dL_misfit_21 hl (by decide) rfl (fun ls hl => ?_)
      refine lv_iconst (v := 2) hx hb dL_misfit_23 (by decide) ?_
      have hP9 := hP.sub (ws' := []) [] rfl
      have hD9 := hD.sub (ws' := []) [] (by decide) rfl
      have hK9 := hK.sub (tys' := []) [] rfl
      exact end_i hx hb hr hlocks hP9 hD9 hK9 hS () rfl rfl (Or.inr ⟨hf, rfl⟩) (Nat.le_of_ble_eq_true rfl) (Nat.le_of_ble_eq_true rfl) dL_misfit_24
  · exact hw.elim
set_option maxHeartbeats 4000000 in
set_option maxRecDepth 100000 in
/-- the try of bestModel -/
theorem t_bestModel (l : Launch) (hlt : l.stackTraces = false) (D : va_G) (tC tE sz : Nat) (x q0 q1 q2 q3 q4 q5 q6 : Nat) (k0 : ClassId) (ot : Nat) (kot : ClassId) (fo : Nat → Int64) (a1 a2 : Int32) : Met l yL_bestModel wxL_bestModel ({ frames := 9, cells := 3, slots := 18, locals := 152 }) (Pg D tC tE sz [(x, .inr (13, [.ref q0, .ref q1, .ref q2, .ref q3, .ref q4, .ref q5, .ref q6, .int 0, .int 0, .int 0, .int 0, .int 0, .int 0, .int 0])), (q0, .inl (k0, 5, .inr (.inr (.inr (.inr (fun _ => none)))))), (ot, .inl (kot, 1, .inr (.inl fo)))] [(k0, .object "Lastroom$Model"), (kot, .long)] [.ref x, .int a1, .int a2, .ref ot]) (Qgi (S := Unit) D (fun u => []) (fun u => []) (fun r _ => (footB a1 a2 = false ∧ r = 1) ∨ (footB a1 a2 = true ∧ r = 2)) (va_A [(x, .inr (13, [.ref q0, .ref q1, .ref q2, .ref q3, .ref q4, .ref q5, .ref q6, .int 0, .int 0, .int 0, .int 0, .int 0, .int 0, .int 0])), (q0, .inl (k0, 5, .inr (.inr (.inr (.inr (fun _ => none)))))), (ot, .inl (kot, 1, .inr (.inl fo)))] sz)) 3 18 (va_A [(x, .inr (13, [.ref q0, .ref q1, .ref q2, .ref q3, .ref q4, .ref q5, .ref q6, .int 0, .int 0, .int 0, .int 0, .int 0, .int 0, .int 0])), (q0, .inl (k0, 5, .inr (.inr (.inr (.inr (fun _ => none)))))), (ot, .inl (kot, 1, .inr (.inl fo)))] sz) := by
  refine og_h (cc := cL_bestModel) (maxL := 5) (ret := (some .int)) (hh := [(0, 10, 13, 13), (0, 10, 17, 49)]) (Qc := Qgi (S := Unit) D (fun u => []) (fun u => []) (fun r _ => (footB a1 a2 = false ∧ r = 1) ∨ (footB a1 a2 = true ∧ r = 2))) (by decide) rfl (Nat.le_of_ble_eq_true rfl) ?_
  intro p e s m below meth c A hx hb hr hml hts hown hlocks htab hP hD hK hG hA hS ls hl
  have hl : lv_has ls 5 [(0, .ref x), (1, .int a1), (2, .int a2), (3, .ref ot)] := hl
  refine lv_aload_n hx hb dL_bestModel_0 rfl (lv_at hl 3 rfl) ?_
  refine lv_iconst (v := 0) hx hb dL_bestModel_1 (by decide) ?_
  refine lv_aload_n hx hb dL_bestModel_2 rfl (lv_at hl 0 rfl) ?_
  refine lv_iload_n hx hb dL_bestModel_3 rfl (lv_at hl 1 rfl) ?_
  refine lv_iload_n hx hb dL_bestModel_4 rfl (lv_at hl 2 rfl) ?_
  have hFc := va_free (wc := [(x, .inr (13, [.ref q0, .ref q1, .ref q2, .ref q3, .ref q4, .ref q5, .ref q6, .int 0, .int 0, .int 0, .int 0, .int 0, .int 0, .int 0])), (q0, .inl (k0, 5, .inr (.inr (.inr (.inr (fun _ => none))))))]) hD hS hA [0, 1] rfl
  refine vx_calli (vx_runV (As := [.int a1, .int a2]) (rest := [.int 0, .ref ot]) ⟨hx, hb, hml, hown, hts⟩ (c_bestModel l hlt D tC tE s.heap.size x q0 q1 q2 q3 q4 q5 q6 k0 a1 a2) (cwV 2 hts gxL_bestModel_X9_bestModel rfl rfl rfl (by decide +kernel) ⟨(Nat.le_of_ble_eq_true rfl), (Nat.le_of_ble_eq_true rfl)⟩) ⟨pg_blind, (va_recv hK hP (ci := 13) (q0 := 0) rfl rfl), (pg_pre hP hD hK hG hS hFc [0, 1] rfl (by decide) [0] rfl _)⟩ rfl rfl hl.1 rfl (lv_room (Nat.le_of_ble_eq_true rfl)) dL_bestModel_5 ⟨(Nat.le_of_ble_eq_true rfl), (Nat.le_of_ble_eq_true rfl)⟩) hS (fun q _ h => hFc q h) hFc (fun q _ h => hFc q h) (fun E ce q9 u t H1 locs1 ht hvm hw hB hz1 hk1 hS hce hcv hcl => ?_) (fun r_1 u_2 t H locs ht hvm hw hB hz1 hk1 hS => ?_)
  · obtain ⟨hP, hD⟩ := jx (wr := [(ot, .inl (kot, 1, .inr (.inl fo)))]) hP hD [0, 1] [2] rfl rfl (by decide) (by decide) hk1 hFc
    have hP : va_P D vwCl [(ot, .inl (kot, 1, .inr (.inl fo)))] H1 := hP
    have hD : va_D A [(ot, .inl (kot, 1, .inr (.inl fo)))] := hD
    rcases hB with ⟨hE, hf⟩ | ⟨hE, hf⟩
    · subst hE
      refine vx_widen (k := 3) (n := 18) (Nat.le_of_ble_eq_true rfl) (Nat.le_of_ble_eq_true rfl) (vx_catch (E := gx_iae) (name := "java/lang/IllegalArgumentException") hown [] ⟨0, 10, 13, 13⟩ [⟨0, 10, 17, 49⟩] (htab.trans rfl) (fun z hz => absurd hz List.not_mem_nil) (by decide) (by decide) (hts (.classLink RL 13 "java/lang/IllegalArgumentException") (List.mem_of_getElem? (i := 2) rfl)) (va_Nw.use rfl (hG.2.2.2.2.2.2.2.2.2.2.1 _ (List.mem_of_getElem? (i := 0) rfl))) hce hcv hcl ?_)
      refine W.eq (g2 := F0 m 13 ls [.ref q9]) rfl ?_
      refine lv_astore (lv' := [(4, .ref q9), (0, .ref x), (1, .int a1), (2, .int a2), (3, .ref ot)]) hx hb dL_bestModel_13 hl (by decide) rfl (fun ls hl => ?_)
      refine lv_iconst (v := 1) hx hb dL_bestModel_15 (by decide) ?_
      have hP9 := hP.sub (ws' := []) [] rfl
      have hD9 := hD.sub (ws' := []) [] (by decide) rfl
      have hK9 := hK.sub (tys' := []) [] rfl
      exact end_i hx hb hr hlocks hP9 hD9 hK9 hS () rfl rfl (Or.inl ⟨hf, rfl⟩) (Nat.le_of_ble_eq_true rfl) (Nat.le_of_ble_eq_true rfl) dL_bestModel_16
    · subst hE
      refine vx_widen (k := 3) (n := 18) (Nat.le_of_ble_eq_true rfl) (Nat.le_of_ble_eq_true rfl) (vx_catch (E := gx_nse) (name := "java/util/NoSuchElementException") hown [⟨0, 10, 13, 13⟩] ⟨0, 10, 17, 49⟩ [] (htab.trans rfl) (fun z hz => by obtain rfl := List.mem_singleton.mp hz; exact Or.inr ⟨by decide, "java/lang/IllegalArgumentException", (hts (.classLink RL 13 "java/lang/IllegalArgumentException") (List.mem_of_getElem? (i := 2) rfl)), hG.2.2.2.2.2.2.2.2.2.1 _ (List.mem_of_getElem? (i := 1) rfl)⟩) (by decide) (by decide) (hts (.classLink RL 49 "java/util/NoSuchElementException") (List.mem_of_getElem? (i := 1) rfl)) (va_Nw.use rfl (hG.2.2.2.2.2.2.2.2.2.2.1 _ (List.mem_of_getElem? (i := 2) rfl))) hce hcv hcl ?_)
      refine W.eq (g2 := F0 m 17 ls [.ref q9]) rfl ?_
      refine lv_astore (lv' := [(4, .ref q9), (0, .ref x), (1, .int a1), (2, .int a2), (3, .ref ot)]) hx hb dL_bestModel_17 hl (by decide) rfl (fun ls hl => ?_)
      refine lv_iconst (v := 2) hx hb dL_bestModel_19 (by decide) ?_
      have hP9 := hP.sub (ws' := []) [] rfl
      have hD9 := hD.sub (ws' := []) [] (by decide) rfl
      have hK9 := hK.sub (tys' := []) [] rfl
      exact end_i hx hb hr hlocks hP9 hD9 hK9 hS () rfl rfl (Or.inr ⟨hf, rfl⟩) (Nat.le_of_ble_eq_true rfl) (Nat.le_of_ble_eq_true rfl) dL_bestModel_20
  · exact hw.elim
set_option maxHeartbeats 4000000 in
set_option maxRecDepth 100000 in
/-- the try of bestSize -/
theorem t_bestSize (l : Launch) (hlt : l.stackTraces = false) (D : va_G) (tC tE sz : Nat) (x q0 q1 q2 q3 q4 q5 q6 : Nat) (k0 : ClassId) (ot : Nat) (kot : ClassId) (fo : Nat → Int64) (a1 a2 a3 : Int32) : Met l yL_bestSize wxL_bestSize ({ frames := 9, cells := 3, slots := 18, locals := 148 }) (Pg D tC tE sz [(x, .inr (13, [.ref q0, .ref q1, .ref q2, .ref q3, .ref q4, .ref q5, .ref q6, .int 0, .int 0, .int 0, .int 0, .int 0, .int 0, .int 0])), (q0, .inl (k0, 5, .inr (.inr (.inr (.inr (fun _ => none)))))), (ot, .inl (kot, 1, .inr (.inl fo)))] [(k0, .object "Lastroom$Model"), (kot, .long)] [.ref x, .int a1, .int a2, .int a3, .ref ot]) (Qgi (S := Unit) D (fun u => []) (fun u => []) (fun r _ => (footB a1 a2 = false ∧ r = 1) ∨ (footB a1 a2 = true ∧ r = 2)) (va_A [(x, .inr (13, [.ref q0, .ref q1, .ref q2, .ref q3, .ref q4, .ref q5, .ref q6, .int 0, .int 0, .int 0, .int 0, .int 0, .int 0, .int 0])), (q0, .inl (k0, 5, .inr (.inr (.inr (.inr (fun _ => none)))))), (ot, .inl (kot, 1, .inr (.inl fo)))] sz)) 3 18 (va_A [(x, .inr (13, [.ref q0, .ref q1, .ref q2, .ref q3, .ref q4, .ref q5, .ref q6, .int 0, .int 0, .int 0, .int 0, .int 0, .int 0, .int 0])), (q0, .inl (k0, 5, .inr (.inr (.inr (.inr (fun _ => none)))))), (ot, .inl (kot, 1, .inr (.inl fo)))] sz) := by
  refine og_h (cc := cL_bestSize) (maxL := 6) (ret := (some .int)) (hh := [(0, 12, 15, 13), (0, 12, 19, 28)]) (Qc := Qgi (S := Unit) D (fun u => []) (fun u => []) (fun r _ => (footB a1 a2 = false ∧ r = 1) ∨ (footB a1 a2 = true ∧ r = 2))) (by decide) rfl (Nat.le_of_ble_eq_true rfl) ?_
  intro p e s m below meth c A hx hb hr hml hts hown hlocks htab hP hD hK hG hA hS ls hl
  have hl : lv_has ls 6 [(0, .ref x), (1, .int a1), (2, .int a2), (3, .int a3), (4, .ref ot)] := hl
  refine lv_aload hx hb dL_bestSize_0 (lv_at hl 4 rfl) ?_
  refine lv_iconst (v := 0) hx hb dL_bestSize_2 (by decide) ?_
  refine lv_aload_n hx hb dL_bestSize_3 rfl (lv_at hl 0 rfl) ?_
  refine lv_iload_n hx hb dL_bestSize_4 rfl (lv_at hl 1 rfl) ?_
  refine lv_iload_n hx hb dL_bestSize_5 rfl (lv_at hl 2 rfl) ?_
  refine lv_iload_n hx hb dL_bestSize_6 rfl (lv_at hl 3 rfl) ?_
  have hFc := va_free (wc := [(x, .inr (13, [.ref q0, .ref q1, .ref q2, .ref q3, .ref q4, .ref q5, .ref q6, .int 0, .int 0, .int 0, .int 0, .int 0, .int 0, .int 0])), (q0, .inl (k0, 5, .inr (.inr (.inr (.inr (fun _ => none))))))]) hD hS hA [0, 1] rfl
  refine vx_calli (vx_runV (As := [.int a1, .int a2, .int a3]) (rest := [.int 0, .ref ot]) ⟨hx, hb, hml, hown, hts⟩ (c_bestSize l hlt D tC tE s.heap.size x q0 q1 q2 q3 q4 q5 q6 k0 a1 a2 a3) (cwV 3 hts gxL_bestSize_X9_bestSize rfl rfl rfl (by decide +kernel) ⟨(Nat.le_of_ble_eq_true rfl), (Nat.le_of_ble_eq_true rfl)⟩) ⟨pg_blind, (va_recv hK hP (ci := 13) (q0 := 0) rfl rfl), (pg_pre hP hD hK hG hS hFc [0, 1] rfl (by decide) [0] rfl _)⟩ rfl rfl hl.1 rfl (lv_room (Nat.le_of_ble_eq_true rfl)) dL_bestSize_7 ⟨(Nat.le_of_ble_eq_true rfl), (Nat.le_of_ble_eq_true rfl)⟩) hS (fun q _ h => hFc q h) hFc (fun q _ h => hFc q h) (fun E ce q9 u t H1 locs1 ht hvm hw hB hz1 hk1 hS hce hcv hcl => ?_) (fun r_1 u_2 t H locs ht hvm hw hB hz1 hk1 hS => ?_)
  · obtain ⟨hP, hD⟩ := jx (wr := [(ot, .inl (kot, 1, .inr (.inl fo)))]) hP hD [0, 1] [2] rfl rfl (by decide) (by decide) hk1 hFc
    have hP : va_P D vwCl [(ot, .inl (kot, 1, .inr (.inl fo)))] H1 := hP
    have hD : va_D A [(ot, .inl (kot, 1, .inr (.inl fo)))] := hD
    rcases hB with ⟨hE, hf⟩ | ⟨hE, hf⟩
    · subst hE
      refine vx_widen (k := 3) (n := 18) (Nat.le_of_ble_eq_true rfl) (Nat.le_of_ble_eq_true rfl) (vx_catch (E := gx_iae) (name := "java/lang/IllegalArgumentException") hown [] ⟨0, 12, 15, 13⟩ [⟨0, 12, 19, 28⟩] (htab.trans rfl) (fun z hz => absurd hz List.not_mem_nil) (by decide) (by decide) (hts (.classLink RL 13 "java/lang/IllegalArgumentException") (List.mem_of_getElem? (i := 2) rfl)) (va_Nw.use rfl (hG.2.2.2.2.2.2.2.2.2.2.1 _ (List.mem_of_getElem? (i := 0) rfl))) hce hcv hcl ?_)
      refine W.eq (g2 := F0 m 15 ls [.ref q9]) rfl ?_
      refine lv_astore (lv' := [(5, .ref q9), (0, .ref x), (1, .int a1), (2, .int a2), (3, .int a3), (4, .ref ot)]) hx hb dL_bestSize_15 hl (by decide) rfl (fun ls hl => ?_)
      refine lv_iconst (v := 1) hx hb dL_bestSize_17 (by decide) ?_
      have hP9 := hP.sub (ws' := []) [] rfl
      have hD9 := hD.sub (ws' := []) [] (by decide) rfl
      have hK9 := hK.sub (tys' := []) [] rfl
      exact end_i hx hb hr hlocks hP9 hD9 hK9 hS () rfl rfl (Or.inl ⟨hf, rfl⟩) (Nat.le_of_ble_eq_true rfl) (Nat.le_of_ble_eq_true rfl) dL_bestSize_18
    · subst hE
      refine vx_widen (k := 3) (n := 18) (Nat.le_of_ble_eq_true rfl) (Nat.le_of_ble_eq_true rfl) (vx_catch (E := gx_ioo) (name := "java/lang/IndexOutOfBoundsException") hown [⟨0, 12, 15, 13⟩] ⟨0, 12, 19, 28⟩ [] (htab.trans rfl) (fun z hz => by obtain rfl := List.mem_singleton.mp hz; exact Or.inr ⟨by decide, "java/lang/IllegalArgumentException", (hts (.classLink RL 13 "java/lang/IllegalArgumentException") (List.mem_of_getElem? (i := 2) rfl)), hG.2.2.2.2.2.2.2.2.2.1 _ (List.mem_of_getElem? (i := 0) rfl)⟩) (by decide) (by decide) (hts (.classLink RL 28 "java/lang/IndexOutOfBoundsException") (List.mem_of_getElem? (i := 1) rfl)) (va_Nw.use rfl (hG.2.2.2.2.2.2.2.2.2.2.1 _ (List.mem_of_getElem? (i := 1) rfl))) hce hcv hcl ?_)
      refine W.eq (g2 := F0 m 19 ls [.ref q9]) rfl ?_
      refine lv_astore (lv' := [(5, .ref q9), (0, .ref x), (1, .int a1), (2, .int a2), (3, .int a3), (4, .ref ot)]) hx hb dL_bestSize_19 hl (by decide) rfl (fun ls hl => ?_)
      refine lv_iconst (v := 2) hx hb dL_bestSize_21 (by decide) ?_
      have hP9 := hP.sub (ws' := []) [] rfl
      have hD9 := hD.sub (ws' := []) [] (by decide) rfl
      have hK9 := hK.sub (tys' := []) [] rfl
      exact end_i hx hb hr hlocks hP9 hD9 hK9 hS () rfl rfl (Or.inr ⟨hf, rfl⟩) (Nat.le_of_ble_eq_true rfl) (Nat.le_of_ble_eq_true rfl) dL_bestSize_22
  · exact hw.elim
set_option maxHeartbeats 4000000 in
set_option maxRecDepth 100000 in
/-- the try of cutBy -/
theorem t_cutBy (l : Launch) (hlt : l.stackTraces = false) (D : va_G) (tC tE sz : Nat) (x q0 q1 q2 q3 q4 q5 q6 : Nat) (o0 o1 o2 o3 o4 o5 o6 o7 : Nat) (k5 : ClassId) (ot : Nat) (kot : ClassId) (fo : Nat → Int64) (a1 : Int32) : Met l yL_cutBy wsL_cutBy ({ frames := 8, cells := 1, slots := 6, locals := 125 }) (Pg D tC tE sz [(x, .inr (13, [.ref q0, .ref q1, .ref q2, .ref q3, .ref q4, .ref q5, .ref q6, .int 0, .int 0, .int 0, .int 0, .int 0, .int 0, .int 0])), (q5, .inl (k5, 8, .inr (.inr (.inr (.inr (fop o0 o1 o2 o3 o4 o5 o6 o7)))))), (o0, .inr (8, [.int 0, .int 0, .int 0, .int 0])), (o1, .inr (8, [.int 0, .int 0, .int 0, .int 0])), (o2, .inr (8, [.int 0, .int 0, .int 0, .int 0])), (o3, .inr (8, [.int 0, .int 0, .int 0, .int 0])), (o4, .inr (8, [.int 0, .int 0, .int 0, .int 0])), (o5, .inr (8, [.int 0, .int 0, .int 0, .int 0])), (o6, .inr (8, [.int 0, .int 0, .int 0, .int 0])), (o7, .inr (8, [.int 0, .int 0, .int 0, .int 0])), (ot, .inl (kot, 1, .inr (.inl fo)))] [(k5, .object "Lastroom$Operator"), (kot, .long)] [.ref x, .int a1, .ref ot]) (Qgi (S := (Nat → Int64)) D (fun u => [(ot, .inl (kot, 1, .inr (.inl u)))]) (fun u => []) (fun r u => (rg a1 0 7 = true ∧ r = 0 ∧ u 0 = 0) ∨ (rg a1 0 7 = false ∧ r = 1)) (va_A [(x, .inr (13, [.ref q0, .ref q1, .ref q2, .ref q3, .ref q4, .ref q5, .ref q6, .int 0, .int 0, .int 0, .int 0, .int 0, .int 0, .int 0])), (q5, .inl (k5, 8, .inr (.inr (.inr (.inr (fop o0 o1 o2 o3 o4 o5 o6 o7)))))), (o0, .inr (8, [.int 0, .int 0, .int 0, .int 0])), (o1, .inr (8, [.int 0, .int 0, .int 0, .int 0])), (o2, .inr (8, [.int 0, .int 0, .int 0, .int 0])), (o3, .inr (8, [.int 0, .int 0, .int 0, .int 0])), (o4, .inr (8, [.int 0, .int 0, .int 0, .int 0])), (o5, .inr (8, [.int 0, .int 0, .int 0, .int 0])), (o6, .inr (8, [.int 0, .int 0, .int 0, .int 0])), (o7, .inr (8, [.int 0, .int 0, .int 0, .int 0])), (ot, .inl (kot, 1, .inr (.inl fo)))] sz)) 1 6 (va_A [(x, .inr (13, [.ref q0, .ref q1, .ref q2, .ref q3, .ref q4, .ref q5, .ref q6, .int 0, .int 0, .int 0, .int 0, .int 0, .int 0, .int 0])), (q5, .inl (k5, 8, .inr (.inr (.inr (.inr (fop o0 o1 o2 o3 o4 o5 o6 o7)))))), (o0, .inr (8, [.int 0, .int 0, .int 0, .int 0])), (o1, .inr (8, [.int 0, .int 0, .int 0, .int 0])), (o2, .inr (8, [.int 0, .int 0, .int 0, .int 0])), (o3, .inr (8, [.int 0, .int 0, .int 0, .int 0])), (o4, .inr (8, [.int 0, .int 0, .int 0, .int 0])), (o5, .inr (8, [.int 0, .int 0, .int 0, .int 0])), (o6, .inr (8, [.int 0, .int 0, .int 0, .int 0])), (o7, .inr (8, [.int 0, .int 0, .int 0, .int 0])), (ot, .inl (kot, 1, .inr (.inl fo)))] sz) := by
  refine og_h (cc := cL_cutBy) (maxL := 4) (ret := (some .int)) (hh := [(0, 9, 12, 28)]) (Qc := Qgi (S := (Nat → Int64)) D (fun u => [(ot, .inl (kot, 1, .inr (.inl u)))]) (fun u => []) (fun r u => (rg a1 0 7 = true ∧ r = 0 ∧ u 0 = 0) ∨ (rg a1 0 7 = false ∧ r = 1))) (by decide) rfl (Nat.le_of_ble_eq_true rfl) ?_
  intro p e s m below meth c A hx hb hr hml hts hown hlocks htab hP hD hK hG hA hS ls hl
  have hl : lv_has ls 4 [(0, .ref x), (1, .int a1), (2, .ref ot)] := hl
  refine lv_aload_n hx hb dL_cutBy_0 rfl (lv_at hl 2 rfl) ?_
  refine lv_iconst (v := 0) hx hb dL_cutBy_1 (by decide) ?_
  refine lv_aload_n hx hb dL_cutBy_2 rfl (lv_at hl 0 rfl) ?_
  refine lv_iload_n hx hb dL_cutBy_3 rfl (lv_at hl 1 rfl) ?_
  have hFc := va_free (wc := [(x, .inr (13, [.ref q0, .ref q1, .ref q2, .ref q3, .ref q4, .ref q5, .ref q6, .int 0, .int 0, .int 0, .int 0, .int 0, .int 0, .int 0])), (q5, .inl (k5, 8, .inr (.inr (.inr (.inr (fop o0 o1 o2 o3 o4 o5 o6 o7)))))), (o0, .inr (8, [.int 0, .int 0, .int 0, .int 0])), (o1, .inr (8, [.int 0, .int 0, .int 0, .int 0])), (o2, .inr (8, [.int 0, .int 0, .int 0, .int 0])), (o3, .inr (8, [.int 0, .int 0, .int 0, .int 0])), (o4, .inr (8, [.int 0, .int 0, .int 0, .int 0])), (o5, .inr (8, [.int 0, .int 0, .int 0, .int 0])), (o6, .inr (8, [.int 0, .int 0, .int 0, .int 0])), (o7, .inr (8, [.int 0, .int 0, .int 0, .int 0]))]) hD hS hA [0, 1, 2, 3, 4, 5, 6, 7, 8, 9] rfl
  refine vx_calli (vx_runV (As := [.int a1]) (rest := [.int 0, .ref ot]) ⟨hx, hb, hml, hown, hts⟩ (c_cutBy l hlt D tC tE s.heap.size x q0 q1 q2 q3 q4 q5 q6 o0 o1 o2 o3 o4 o5 o6 o7 k5 a1) (cwV 1 hts gL_cutBy_X9_cutBy rfl rfl rfl (by decide +kernel) ⟨(Nat.le_of_ble_eq_true rfl), (Nat.le_of_ble_eq_true rfl)⟩) ⟨pg_blind, (va_recv hK hP (ci := 13) (q0 := 0) rfl rfl), (pg_pre hP hD hK hG hS hFc [0, 1, 2, 3, 4, 5, 6, 7, 8, 9] rfl (by decide) [0] rfl _)⟩ rfl rfl hl.1 rfl (lv_room (Nat.le_of_ble_eq_true rfl)) dL_cutBy_4 ⟨(Nat.le_of_ble_eq_true rfl), (Nat.le_of_ble_eq_true rfl)⟩) hS (fun q _ h => hFc q h) hFc (fun q _ h => hFc q h) (fun E ce q9 u t H1 locs1 ht hvm hw hB hz1 hk1 hS hce hcv hcl => ?_) (fun r_1 u_2 t H locs ht hvm hw hB hz1 hk1 hS => ?_)
  · obtain ⟨hP, hD⟩ := jx (wr := [(ot, .inl (kot, 1, .inr (.inl fo)))]) hP hD [0, 1, 2, 3, 4, 5, 6, 7, 8, 9] [10] rfl rfl (by decide) (by decide) hk1 hFc
    have hP : va_P D vwCl [(ot, .inl (kot, 1, .inr (.inl fo)))] H1 := hP
    have hD : va_D A [(ot, .inl (kot, 1, .inr (.inl fo)))] := hD
    obtain ⟨hE, hf⟩ := hB
    subst hE
    refine vx_widen (k := 1) (n := 6) (Nat.le_of_ble_eq_true rfl) (Nat.le_of_ble_eq_true rfl) (vx_catch (E := gx_ioo) (name := "java/lang/IndexOutOfBoundsException") hown [] ⟨0, 9, 12, 28⟩ [] (htab.trans rfl) (fun z hz => absurd hz List.not_mem_nil) (by decide) (by decide) (hts (.classLink RL 28 "java/lang/IndexOutOfBoundsException") (List.mem_of_getElem? (i := 1) rfl)) (va_Nw.use rfl (hG.2.2.2.2.2.2.2.2.2.2.1 _ (List.mem_of_getElem? (i := 1) rfl))) hce hcv hcl ?_)
    refine W.eq (g2 := F0 m 12 ls [.ref q9]) rfl ?_
    refine lv_astore_n (lv' := [(3, .ref q9), (0, .ref x), (1, .int a1), (2, .ref ot)]) hx hb dL_cutBy_12 rfl hl (by decide) rfl (fun ls hl => ?_)
    refine lv_iconst (v := 1) hx hb dL_cutBy_13 (by decide) ?_
    have hP9 := hP.sub (ws' := [(ot, .inl (kot, 1, .inr (.inl fo)))]) [0] rfl
    have hD9 := hD.sub (ws' := [(ot, .inl (kot, 1, .inr (.inl fo)))]) [0] (by decide) rfl
    have hK9 := hK.sub (tys' := []) [] rfl
    exact end_i hx hb hr hlocks hP9 hD9 hK9 hS fo rfl rfl (Or.inr ⟨hf, rfl⟩) (Nat.le_of_ble_eq_true rfl) (Nat.le_of_ble_eq_true rfl) dL_cutBy_14
  · obtain ⟨hw1, hw2⟩ := hw
    subst hw2
    obtain ⟨hP, hD, hK⟩ := jn (wr := [(ot, .inl (kot, 1, .inr (.inl fo)))]) (w1 := []) (t1 := []) (tr := [(k5, .object "Lastroom$Operator"), (kot, .long)]) hP hD hK [0, 1, 2, 3, 4, 5, 6, 7, 8, 9] [10] rfl rfl (by decide) (by decide) [0, 1] rfl hk1 hFc hB rfl rfl ht hvm
    have hP : va_P D vwCl [(ot, .inl (kot, 1, .inr (.inl fo)))] H := hP
    have hD : va_D A [(ot, .inl (kot, 1, .inr (.inl fo)))] := hD
    have hK : va_K D vwCl [(k5, .object "Lastroom$Operator"), (kot, .long)] s := hK
    refine W.widen (k := 1) (n := 6) (Nat.le_of_ble_eq_true rfl) (Nat.le_of_ble_eq_true rfl) ?_
    refine lv_i2l hx hb dL_cutBy_7 rfl ?_
    refine va_last hx hb hK hP hD hS 0 1 rfl rfl (vp_in_iff.mpr (by decide)) dL_cutBy_8 (fun H locs hP hD hS => ?_)
    have hP : va_P D vwCl [(ot, .inl (kot, 1, .inr (.inl (vp_updL fo (0 : Int32).toNatClampNeg ((0 : Int32).toInt64)))))] H := hP
    have hD : va_D A [(ot, .inl (kot, 1, .inr (.inl (vp_updL fo (0 : Int32).toNatClampNeg ((0 : Int32).toInt64)))))] := hD
    refine lv_goto (tgt := 15) hx hb dL_cutBy_9 (by decide) ?_
    refine lv_iconst (v := 0) hx hb dL_cutBy_15 (by decide) ?_
    have hP9 := hP.sub (ws' := [(ot, .inl (kot, 1, .inr (.inl (vp_updL fo (0 : Int32).toNatClampNeg ((0 : Int32).toInt64)))))]) [0] rfl
    have hD9 := hD.sub (ws' := [(ot, .inl (kot, 1, .inr (.inl (vp_updL fo (0 : Int32).toNatClampNeg ((0 : Int32).toInt64)))))]) [0] (by decide) rfl
    have hK9 := hK.sub (tys' := []) [] rfl
    exact end_i hx hb hr hlocks hP9 hD9 hK9 hS (vp_updL fo (0 : Int32).toNatClampNeg ((0 : Int32).toInt64)) rfl rfl (Or.inl ⟨hw1, rfl, upd0⟩) (Nat.le_of_ble_eq_true rfl) (Nat.le_of_ble_eq_true rfl) dL_cutBy_16
set_option maxHeartbeats 4000000 in
set_option maxRecDepth 100000 in
/-- the try of setAbsent -/
theorem t_setAbsent (l : Launch) (hlt : l.stackTraces = false) (D : va_G) (tC tE sz : Nat) (x q0 q1 q2 q3 q4 q5 q6 : Nat) (o0 o1 o2 o3 o4 o5 o6 o7 : Nat) (k5 : ClassId) (ot : Nat) (kot : ClassId) (fo : Nat → Int64) (a1 a2 : Int32) (ha2 : a2 = 0 ∨ a2 = 1) : Met l yL_setAbsent wsL_setAbsent ({ frames := 8, cells := 1, slots := 6, locals := 128 }) (Pg D tC tE sz [(x, .inr (13, [.ref q0, .ref q1, .ref q2, .ref q3, .ref q4, .ref q5, .ref q6, .int 0, .int 0, .int 0, .int 0, .int 0, .int 0, .int 0])), (q5, .inl (k5, 8, .inr (.inr (.inr (.inr (fop o0 o1 o2 o3 o4 o5 o6 o7)))))), (o0, .inr (8, [.int 0, .int 0, .int 0, .int 0])), (o1, .inr (8, [.int 0, .int 0, .int 0, .int 0])), (o2, .inr (8, [.int 0, .int 0, .int 0, .int 0])), (o3, .inr (8, [.int 0, .int 0, .int 0, .int 0])), (o4, .inr (8, [.int 0, .int 0, .int 0, .int 0])), (o5, .inr (8, [.int 0, .int 0, .int 0, .int 0])), (o6, .inr (8, [.int 0, .int 0, .int 0, .int 0])), (o7, .inr (8, [.int 0, .int 0, .int 0, .int 0])), (ot, .inl (kot, 1, .inr (.inl fo)))] [(k5, .object "Lastroom$Operator"), (kot, .long)] [.ref x, .int a1, .int a2, .ref ot]) (Qgi (S := (Nat → Int64)) D (fun u => [(ot, .inl (kot, 1, .inr (.inl u)))]) (fun u => []) (fun r u => (rg a1 0 7 = true ∧ r = 0 ∧ u 0 = 0) ∨ (rg a1 0 7 = false ∧ r = 1)) (va_A [(x, .inr (13, [.ref q0, .ref q1, .ref q2, .ref q3, .ref q4, .ref q5, .ref q6, .int 0, .int 0, .int 0, .int 0, .int 0, .int 0, .int 0])), (q5, .inl (k5, 8, .inr (.inr (.inr (.inr (fop o0 o1 o2 o3 o4 o5 o6 o7)))))), (o0, .inr (8, [.int 0, .int 0, .int 0, .int 0])), (o1, .inr (8, [.int 0, .int 0, .int 0, .int 0])), (o2, .inr (8, [.int 0, .int 0, .int 0, .int 0])), (o3, .inr (8, [.int 0, .int 0, .int 0, .int 0])), (o4, .inr (8, [.int 0, .int 0, .int 0, .int 0])), (o5, .inr (8, [.int 0, .int 0, .int 0, .int 0])), (o6, .inr (8, [.int 0, .int 0, .int 0, .int 0])), (o7, .inr (8, [.int 0, .int 0, .int 0, .int 0])), (ot, .inl (kot, 1, .inr (.inl fo)))] sz)) 1 6 (va_A [(x, .inr (13, [.ref q0, .ref q1, .ref q2, .ref q3, .ref q4, .ref q5, .ref q6, .int 0, .int 0, .int 0, .int 0, .int 0, .int 0, .int 0])), (q5, .inl (k5, 8, .inr (.inr (.inr (.inr (fop o0 o1 o2 o3 o4 o5 o6 o7)))))), (o0, .inr (8, [.int 0, .int 0, .int 0, .int 0])), (o1, .inr (8, [.int 0, .int 0, .int 0, .int 0])), (o2, .inr (8, [.int 0, .int 0, .int 0, .int 0])), (o3, .inr (8, [.int 0, .int 0, .int 0, .int 0])), (o4, .inr (8, [.int 0, .int 0, .int 0, .int 0])), (o5, .inr (8, [.int 0, .int 0, .int 0, .int 0])), (o6, .inr (8, [.int 0, .int 0, .int 0, .int 0])), (o7, .inr (8, [.int 0, .int 0, .int 0, .int 0])), (ot, .inl (kot, 1, .inr (.inl fo)))] sz) := by
  refine og_h (cc := cL_setAbsent) (maxL := 5) (ret := (some .int)) (hh := [(0, 17, 20, 28)]) (Qc := Qgi (S := (Nat → Int64)) D (fun u => [(ot, .inl (kot, 1, .inr (.inl u)))]) (fun u => []) (fun r u => (rg a1 0 7 = true ∧ r = 0 ∧ u 0 = 0) ∨ (rg a1 0 7 = false ∧ r = 1))) (by decide) rfl (Nat.le_of_ble_eq_true rfl) ?_
  intro p e s m below meth c A hx hb hr hml hts hown hlocks htab hP hD hK hG hA hS ls hl
  have hl : lv_has ls 5 [(0, .ref x), (1, .int a1), (2, .int a2), (3, .ref ot)] := hl
  refine lv_aload_n hx hb dL_setAbsent_0 rfl (lv_at hl 3 rfl) ?_
  refine lv_iconst (v := 0) hx hb dL_setAbsent_1 (by decide) ?_
  refine lv_aload_n hx hb dL_setAbsent_2 rfl (lv_at hl 0 rfl) ?_
  refine lv_iload_n hx hb dL_setAbsent_3 rfl (lv_at hl 1 rfl) ?_
  refine lv_iload_n hx hb dL_setAbsent_4 rfl (lv_at hl 2 rfl) ?_
  have hFc := va_free (wc := [(x, .inr (13, [.ref q0, .ref q1, .ref q2, .ref q3, .ref q4, .ref q5, .ref q6, .int 0, .int 0, .int 0, .int 0, .int 0, .int 0, .int 0])), (q5, .inl (k5, 8, .inr (.inr (.inr (.inr (fop o0 o1 o2 o3 o4 o5 o6 o7)))))), (o0, .inr (8, [.int 0, .int 0, .int 0, .int 0])), (o1, .inr (8, [.int 0, .int 0, .int 0, .int 0])), (o2, .inr (8, [.int 0, .int 0, .int 0, .int 0])), (o3, .inr (8, [.int 0, .int 0, .int 0, .int 0])), (o4, .inr (8, [.int 0, .int 0, .int 0, .int 0])), (o5, .inr (8, [.int 0, .int 0, .int 0, .int 0])), (o6, .inr (8, [.int 0, .int 0, .int 0, .int 0])), (o7, .inr (8, [.int 0, .int 0, .int 0, .int 0]))]) hD hS hA [0, 1, 2, 3, 4, 5, 6, 7, 8, 9] rfl
  refine vx_calli (vx_runV (As := [.int a1, .int a2]) (rest := [.int 0, .ref ot]) ⟨hx, hb, hml, hown, hts⟩ (c_setAbsent l hlt D tC tE s.heap.size x q0 q1 q2 q3 q4 q5 q6 o0 o1 o2 o3 o4 o5 o6 o7 k5 a1 a2 ha2) (cwV 2 hts gL_setAbsent_X9_setAbsent rfl rfl rfl (by decide +kernel) ⟨(Nat.le_of_ble_eq_true rfl), (Nat.le_of_ble_eq_true rfl)⟩) ⟨pg_blind, (va_recv hK hP (ci := 13) (q0 := 0) rfl rfl), (pg_pre hP hD hK hG hS hFc [0, 1, 2, 3, 4, 5, 6, 7, 8, 9] rfl (by decide) [0] rfl _)⟩ rfl rfl hl.1 rfl (lv_room (Nat.le_of_ble_eq_true rfl)) dL_setAbsent_5 ⟨(Nat.le_of_ble_eq_true rfl), (Nat.le_of_ble_eq_true rfl)⟩) hS (fun q _ h => hFc q h) hFc (fun q _ h => hFc q h) (fun E ce q9 u t H1 locs1 ht hvm hw hB hz1 hk1 hS hce hcv hcl => ?_) (fun r_1 u_2 t H locs ht hvm hw hB hz1 hk1 hS => ?_)
  · obtain ⟨hP, hD⟩ := jx (wr := [(ot, .inl (kot, 1, .inr (.inl fo)))]) hP hD [0, 1, 2, 3, 4, 5, 6, 7, 8, 9] [10] rfl rfl (by decide) (by decide) hk1 hFc
    have hP : va_P D vwCl [(ot, .inl (kot, 1, .inr (.inl fo)))] H1 := hP
    have hD : va_D A [(ot, .inl (kot, 1, .inr (.inl fo)))] := hD
    obtain ⟨hE, hf⟩ := hB
    subst hE
    refine vx_widen (k := 1) (n := 6) (Nat.le_of_ble_eq_true rfl) (Nat.le_of_ble_eq_true rfl) (vx_catch (E := gx_ioo) (name := "java/lang/IndexOutOfBoundsException") hown [] ⟨0, 17, 20, 28⟩ [] (htab.trans rfl) (fun z hz => absurd hz List.not_mem_nil) (by decide) (by decide) (hts (.classLink RL 28 "java/lang/IndexOutOfBoundsException") (List.mem_of_getElem? (i := 1) rfl)) (va_Nw.use rfl (hG.2.2.2.2.2.2.2.2.2.2.1 _ (List.mem_of_getElem? (i := 1) rfl))) hce hcv hcl ?_)
    refine W.eq (g2 := F0 m 20 ls [.ref q9]) rfl ?_
    refine lv_astore (lv' := [(4, .ref q9), (0, .ref x), (1, .int a1), (2, .int a2), (3, .ref ot)]) hx hb dL_setAbsent_20 hl (by decide) rfl (fun ls hl => ?_)
    refine lv_iconst (v := 1) hx hb dL_setAbsent_22 (by decide) ?_
    have hP9 := hP.sub (ws' := [(ot, .inl (kot, 1, .inr (.inl fo)))]) [0] rfl
    have hD9 := hD.sub (ws' := [(ot, .inl (kot, 1, .inr (.inl fo)))]) [0] (by decide) rfl
    have hK9 := hK.sub (tys' := []) [] rfl
    exact end_i hx hb hr hlocks hP9 hD9 hK9 hS fo rfl rfl (Or.inr ⟨hf, rfl⟩) (Nat.le_of_ble_eq_true rfl) (Nat.le_of_ble_eq_true rfl) dL_setAbsent_23
  · obtain ⟨hw1, hw2⟩ := hw
    subst hw2
    obtain ⟨hP, hD, hK⟩ := jn (wr := [(ot, .inl (kot, 1, .inr (.inl fo)))]) (w1 := []) (t1 := []) (tr := [(k5, .object "Lastroom$Operator"), (kot, .long)]) hP hD hK [0, 1, 2, 3, 4, 5, 6, 7, 8, 9] [10] rfl rfl (by decide) (by decide) [0, 1] rfl hk1 hFc hB rfl rfl ht hvm
    have hP : va_P D vwCl [(ot, .inl (kot, 1, .inr (.inl fo)))] H := hP
    have hD : va_D A [(ot, .inl (kot, 1, .inr (.inl fo)))] := hD
    have hK : va_K D vwCl [(k5, .object "Lastroom$Operator"), (kot, .long)] s := hK
    refine W.widen (k := 1) (n := 6) (Nat.le_of_ble_eq_true rfl) (Nat.le_of_ble_eq_true rfl) ?_
    refine lv_if_eq (tgt := 15) hx hb dL_setAbsent_8 (by decide) (fun c_3 => ?_) (fun c_3 => absurd (show (0 : Int32) = 0 from (by decide)) c_3)
    refine lv_lconst (v := 0) hx hb dL_setAbsent_15 (by decide) ?_
    refine va_last hx hb hK hP hD hS 0 1 rfl rfl (vp_in_iff.mpr (by decide)) dL_setAbsent_16 (fun H locs hP hD hS => ?_)
    have hP : va_P D vwCl [(ot, .inl (kot, 1, .inr (.inl (vp_updL fo (0 : Int32).toNatClampNeg 0))))] H := hP
    have hD : va_D A [(ot, .inl (kot, 1, .inr (.inl (vp_updL fo (0 : Int32).toNatClampNeg 0))))] := hD
    refine lv_goto (tgt := 24) hx hb dL_setAbsent_17 (by decide) ?_
    refine lv_iconst (v := 0) hx hb dL_setAbsent_24 (by decide) ?_
    have hP9 := hP.sub (ws' := [(ot, .inl (kot, 1, .inr (.inl (vp_updL fo (0 : Int32).toNatClampNeg 0))))]) [0] rfl
    have hD9 := hD.sub (ws' := [(ot, .inl (kot, 1, .inr (.inl (vp_updL fo (0 : Int32).toNatClampNeg 0))))]) [0] (by decide) rfl
    have hK9 := hK.sub (tys' := []) [] rfl
    exact end_i hx hb hr hlocks hP9 hD9 hK9 hS (vp_updL fo (0 : Int32).toNatClampNeg 0) rfl rfl (Or.inl ⟨hw1, rfl, upd0⟩) (Nat.le_of_ble_eq_true rfl) (Nat.le_of_ble_eq_true rfl) dL_setAbsent_25
set_option maxHeartbeats 4000000 in
set_option maxRecDepth 100000 in
/-- the try of setSkill -/
theorem t_setSkill (l : Launch) (hlt : l.stackTraces = false) (D : va_G) (tC tE sz : Nat) (x q0 q1 q2 q3 q4 q5 q6 : Nat) (o0 o1 o2 o3 o4 o5 o6 o7 : Nat) (k5 : ClassId) (ot : Nat) (kot : ClassId) (fo : Nat → Int64) (a1 a2 a3 : Int32) : Met l yL_setSkill wxL_setSkill ({ frames := 8, cells := 2, slots := 12, locals := 129 }) (Pg D tC tE sz [(x, .inr (13, [.ref q0, .ref q1, .ref q2, .ref q3, .ref q4, .ref q5, .ref q6, .int 0, .int 0, .int 0, .int 0, .int 0, .int 0, .int 0])), (q5, .inl (k5, 8, .inr (.inr (.inr (.inr (fop o0 o1 o2 o3 o4 o5 o6 o7)))))), (o0, .inr (8, [.int 0, .int 0, .int 0, .int 0])), (o1, .inr (8, [.int 0, .int 0, .int 0, .int 0])), (o2, .inr (8, [.int 0, .int 0, .int 0, .int 0])), (o3, .inr (8, [.int 0, .int 0, .int 0, .int 0])), (o4, .inr (8, [.int 0, .int 0, .int 0, .int 0])), (o5, .inr (8, [.int 0, .int 0, .int 0, .int 0])), (o6, .inr (8, [.int 0, .int 0, .int 0, .int 0])), (o7, .inr (8, [.int 0, .int 0, .int 0, .int 0])), (ot, .inl (kot, 1, .inr (.inl fo)))] [(k5, .object "Lastroom$Operator"), (kot, .long)] [.ref x, .int a1, .int a2, .int a3, .ref ot]) (Qgi (S := (Nat → Int64)) D (fun u => [(ot, .inl (kot, 1, .inr (.inl u)))]) (fun u => []) (fun r u => (rg a1 0 7 = false ∧ r = 1) ∨ (rg a1 0 7 = true ∧ rg a2 0 3 = false ∧ r = 2) ∨ (rg a1 0 7 = true ∧ rg a2 0 3 = true ∧ r = 0 ∧ u 0 = 0)) (va_A [(x, .inr (13, [.ref q0, .ref q1, .ref q2, .ref q3, .ref q4, .ref q5, .ref q6, .int 0, .int 0, .int 0, .int 0, .int 0, .int 0, .int 0])), (q5, .inl (k5, 8, .inr (.inr (.inr (.inr (fop o0 o1 o2 o3 o4 o5 o6 o7)))))), (o0, .inr (8, [.int 0, .int 0, .int 0, .int 0])), (o1, .inr (8, [.int 0, .int 0, .int 0, .int 0])), (o2, .inr (8, [.int 0, .int 0, .int 0, .int 0])), (o3, .inr (8, [.int 0, .int 0, .int 0, .int 0])), (o4, .inr (8, [.int 0, .int 0, .int 0, .int 0])), (o5, .inr (8, [.int 0, .int 0, .int 0, .int 0])), (o6, .inr (8, [.int 0, .int 0, .int 0, .int 0])), (o7, .inr (8, [.int 0, .int 0, .int 0, .int 0])), (ot, .inl (kot, 1, .inr (.inl fo)))] sz)) 2 12 (va_A [(x, .inr (13, [.ref q0, .ref q1, .ref q2, .ref q3, .ref q4, .ref q5, .ref q6, .int 0, .int 0, .int 0, .int 0, .int 0, .int 0, .int 0])), (q5, .inl (k5, 8, .inr (.inr (.inr (.inr (fop o0 o1 o2 o3 o4 o5 o6 o7)))))), (o0, .inr (8, [.int 0, .int 0, .int 0, .int 0])), (o1, .inr (8, [.int 0, .int 0, .int 0, .int 0])), (o2, .inr (8, [.int 0, .int 0, .int 0, .int 0])), (o3, .inr (8, [.int 0, .int 0, .int 0, .int 0])), (o4, .inr (8, [.int 0, .int 0, .int 0, .int 0])), (o5, .inr (8, [.int 0, .int 0, .int 0, .int 0])), (o6, .inr (8, [.int 0, .int 0, .int 0, .int 0])), (o7, .inr (8, [.int 0, .int 0, .int 0, .int 0])), (ot, .inl (kot, 1, .inr (.inl fo)))] sz) := by
  refine og_h (cc := cL_setSkill) (maxL := 6) (ret := (some .int)) (hh := [(0, 19, 22, 28), (0, 19, 26, 13)]) (Qc := Qgi (S := (Nat → Int64)) D (fun u => [(ot, .inl (kot, 1, .inr (.inl u)))]) (fun u => []) (fun r u => (rg a1 0 7 = false ∧ r = 1) ∨ (rg a1 0 7 = true ∧ rg a2 0 3 = false ∧ r = 2) ∨ (rg a1 0 7 = true ∧ rg a2 0 3 = true ∧ r = 0 ∧ u 0 = 0))) (by decide) rfl (Nat.le_of_ble_eq_true rfl) ?_
  intro p e s m below meth c A hx hb hr hml hts hown hlocks htab hP hD hK hG hA hS ls hl
  have hl : lv_has ls 6 [(0, .ref x), (1, .int a1), (2, .int a2), (3, .int a3), (4, .ref ot)] := hl
  refine lv_aload hx hb dL_setSkill_0 (lv_at hl 4 rfl) ?_
  refine lv_iconst (v := 0) hx hb dL_setSkill_2 (by decide) ?_
  refine lv_aload_n hx hb dL_setSkill_3 rfl (lv_at hl 0 rfl) ?_
  refine lv_iload_n hx hb dL_setSkill_4 rfl (lv_at hl 1 rfl) ?_
  refine lv_iload_n hx hb dL_setSkill_5 rfl (lv_at hl 2 rfl) ?_
  refine lv_iload_n hx hb dL_setSkill_6 rfl (lv_at hl 3 rfl) ?_
  have hFc := va_free (wc := [(x, .inr (13, [.ref q0, .ref q1, .ref q2, .ref q3, .ref q4, .ref q5, .ref q6, .int 0, .int 0, .int 0, .int 0, .int 0, .int 0, .int 0])), (q5, .inl (k5, 8, .inr (.inr (.inr (.inr (fop o0 o1 o2 o3 o4 o5 o6 o7)))))), (o0, .inr (8, [.int 0, .int 0, .int 0, .int 0])), (o1, .inr (8, [.int 0, .int 0, .int 0, .int 0])), (o2, .inr (8, [.int 0, .int 0, .int 0, .int 0])), (o3, .inr (8, [.int 0, .int 0, .int 0, .int 0])), (o4, .inr (8, [.int 0, .int 0, .int 0, .int 0])), (o5, .inr (8, [.int 0, .int 0, .int 0, .int 0])), (o6, .inr (8, [.int 0, .int 0, .int 0, .int 0])), (o7, .inr (8, [.int 0, .int 0, .int 0, .int 0]))]) hD hS hA [0, 1, 2, 3, 4, 5, 6, 7, 8, 9] rfl
  refine vx_calli (vx_runV (As := [.int a1, .int a2, .int a3]) (rest := [.int 0, .ref ot]) ⟨hx, hb, hml, hown, hts⟩ (c_setSkill l hlt D tC tE s.heap.size x q0 q1 q2 q3 q4 q5 q6 o0 o1 o2 o3 o4 o5 o6 o7 k5 a1 a2 a3) (cwV 3 hts gxL_setSkill_X9_setSkill rfl rfl rfl (by decide +kernel) ⟨(Nat.le_of_ble_eq_true rfl), (Nat.le_of_ble_eq_true rfl)⟩) ⟨pg_blind, (va_recv hK hP (ci := 13) (q0 := 0) rfl rfl), (pg_pre hP hD hK hG hS hFc [0, 1, 2, 3, 4, 5, 6, 7, 8, 9] rfl (by decide) [0] rfl _)⟩ rfl rfl hl.1 rfl (lv_room (Nat.le_of_ble_eq_true rfl)) dL_setSkill_7 ⟨(Nat.le_of_ble_eq_true rfl), (Nat.le_of_ble_eq_true rfl)⟩) hS (fun q _ h => hFc q h) hFc (fun q _ h => hFc q h) (fun E ce q9 u t H1 locs1 ht hvm hw hB hz1 hk1 hS hce hcv hcl => ?_) (fun r_1 u_2 t H locs ht hvm hw hB hz1 hk1 hS => ?_)
  · obtain ⟨hP, hD⟩ := jx (wr := [(ot, .inl (kot, 1, .inr (.inl fo)))]) hP hD [0, 1, 2, 3, 4, 5, 6, 7, 8, 9] [10] rfl rfl (by decide) (by decide) hk1 hFc
    have hP : va_P D vwCl [(ot, .inl (kot, 1, .inr (.inl fo)))] H1 := hP
    have hD : va_D A [(ot, .inl (kot, 1, .inr (.inl fo)))] := hD
    rcases hB with ⟨hE, hf⟩ | ⟨hE, hf, hf2⟩
    · subst hE
      refine vx_widen (k := 2) (n := 12) (Nat.le_of_ble_eq_true rfl) (Nat.le_of_ble_eq_true rfl) (vx_catch (E := gx_ioo) (name := "java/lang/IndexOutOfBoundsException") hown [] ⟨0, 19, 22, 28⟩ [⟨0, 19, 26, 13⟩] (htab.trans rfl) (fun z hz => absurd hz List.not_mem_nil) (by decide) (by decide) (hts (.classLink RL 28 "java/lang/IndexOutOfBoundsException") (List.mem_of_getElem? (i := 2) rfl)) (va_Nw.use rfl (hG.2.2.2.2.2.2.2.2.2.2.1 _ (List.mem_of_getElem? (i := 1) rfl))) hce hcv hcl ?_)
      refine W.eq (g2 := F0 m 22 ls [.ref q9]) rfl ?_
      refine lv_astore (lv' := [(5, .ref q9), (0, .ref x), (1, .int a1), (2, .int a2), (3, .int a3), (4, .ref ot)]) hx hb dL_setSkill_22 hl (by decide) rfl (fun ls hl => ?_)
      refine lv_iconst (v := 1) hx hb dL_setSkill_24 (by decide) ?_
      have hP9 := hP.sub (ws' := [(ot, .inl (kot, 1, .inr (.inl fo)))]) [0] rfl
      have hD9 := hD.sub (ws' := [(ot, .inl (kot, 1, .inr (.inl fo)))]) [0] (by decide) rfl
      have hK9 := hK.sub (tys' := []) [] rfl
      exact end_i hx hb hr hlocks hP9 hD9 hK9 hS fo rfl rfl (Or.inl ⟨hf, rfl⟩) (Nat.le_of_ble_eq_true rfl) (Nat.le_of_ble_eq_true rfl) dL_setSkill_25
    · subst hE
      refine vx_widen (k := 2) (n := 12) (Nat.le_of_ble_eq_true rfl) (Nat.le_of_ble_eq_true rfl) (vx_catch (E := gx_iae) (name := "java/lang/IllegalArgumentException") hown [⟨0, 19, 22, 28⟩] ⟨0, 19, 26, 13⟩ [] (htab.trans rfl) (fun z hz => by obtain rfl := List.mem_singleton.mp hz; exact Or.inr ⟨by decide, "java/lang/IndexOutOfBoundsException", (hts (.classLink RL 28 "java/lang/IndexOutOfBoundsException") (List.mem_of_getElem? (i := 2) rfl)), hG.2.2.2.2.2.2.2.2.2.1 _ (List.mem_of_getElem? (i := 2) rfl)⟩) (by decide) (by decide) (hts (.classLink RL 13 "java/lang/IllegalArgumentException") (List.mem_of_getElem? (i := 1) rfl)) (va_Nw.use rfl (hG.2.2.2.2.2.2.2.2.2.2.1 _ (List.mem_of_getElem? (i := 0) rfl))) hce hcv hcl ?_)
      refine W.eq (g2 := F0 m 26 ls [.ref q9]) rfl ?_
      refine lv_astore (lv' := [(5, .ref q9), (0, .ref x), (1, .int a1), (2, .int a2), (3, .int a3), (4, .ref ot)]) hx hb dL_setSkill_26 hl (by decide) rfl (fun ls hl => ?_)
      refine lv_iconst (v := 2) hx hb dL_setSkill_28 (by decide) ?_
      have hP9 := hP.sub (ws' := [(ot, .inl (kot, 1, .inr (.inl fo)))]) [0] rfl
      have hD9 := hD.sub (ws' := [(ot, .inl (kot, 1, .inr (.inl fo)))]) [0] (by decide) rfl
      have hK9 := hK.sub (tys' := []) [] rfl
      exact end_i hx hb hr hlocks hP9 hD9 hK9 hS fo rfl rfl (Or.inr (Or.inl ⟨hf, hf2, rfl⟩)) (Nat.le_of_ble_eq_true rfl) (Nat.le_of_ble_eq_true rfl) dL_setSkill_29
  · obtain ⟨hw1, hw2, hw3⟩ := hw
    subst hw3
    obtain ⟨hP, hD, hK⟩ := jn (wr := [(ot, .inl (kot, 1, .inr (.inl fo)))]) (w1 := []) (t1 := []) (tr := [(k5, .object "Lastroom$Operator"), (kot, .long)]) hP hD hK [0, 1, 2, 3, 4, 5, 6, 7, 8, 9] [10] rfl rfl (by decide) (by decide) [0, 1] rfl hk1 hFc hB rfl rfl ht hvm
    have hP : va_P D vwCl [(ot, .inl (kot, 1, .inr (.inl fo)))] H := hP
    have hD : va_D A [(ot, .inl (kot, 1, .inr (.inl fo)))] := hD
    have hK : va_K D vwCl [(k5, .object "Lastroom$Operator"), (kot, .long)] s := hK
    refine W.widen (k := 2) (n := 12) (Nat.le_of_ble_eq_true rfl) (Nat.le_of_ble_eq_true rfl) ?_
    refine lv_if_eq (tgt := 17) hx hb dL_setSkill_10 (by decide) (fun c_3 => ?_) (fun c_3 => absurd (show (0 : Int32) = 0 from (by decide)) c_3)
    refine lv_lconst (v := 0) hx hb dL_setSkill_17 (by decide) ?_
    refine va_last hx hb hK hP hD hS 0 1 rfl rfl (vp_in_iff.mpr (by decide)) dL_setSkill_18 (fun H locs hP hD hS => ?_)
    have hP : va_P D vwCl [(ot, .inl (kot, 1, .inr (.inl (vp_updL fo (0 : Int32).toNatClampNeg 0))))] H := hP
    have hD : va_D A [(ot, .inl (kot, 1, .inr (.inl (vp_updL fo (0 : Int32).toNatClampNeg 0))))] := hD
    refine lv_goto (tgt := 30) hx hb dL_setSkill_19 (by decide) ?_
    refine lv_iconst (v := 0) hx hb dL_setSkill_30 (by decide) ?_
    have hP9 := hP.sub (ws' := [(ot, .inl (kot, 1, .inr (.inl (vp_updL fo (0 : Int32).toNatClampNeg 0))))]) [0] rfl
    have hD9 := hD.sub (ws' := [(ot, .inl (kot, 1, .inr (.inl (vp_updL fo (0 : Int32).toNatClampNeg 0))))]) [0] (by decide) rfl
    have hK9 := hK.sub (tys' := []) [] rfl
    exact end_i hx hb hr hlocks hP9 hD9 hK9 hS (vp_updL fo (0 : Int32).toNatClampNeg 0) rfl rfl (Or.inr (Or.inr ⟨hw1, hw2, rfl, upd0⟩)) (Nat.le_of_ble_eq_true rfl) (Nat.le_of_ble_eq_true rfl) dL_setSkill_31

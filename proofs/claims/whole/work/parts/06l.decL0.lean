theorem dL_addSpool_0 : decode cL_addSpool 0 = .ok (.aload_n 3, 1) := by decide +kernel
theorem dL_addSpool_1 : decode cL_addSpool 1 = .ok (.iconst 0, 1) := by decide +kernel
theorem dL_addSpool_2 : decode cL_addSpool 2 = .ok (.aload_n 0, 1) := by decide +kernel
theorem dL_addSpool_3 : decode cL_addSpool 3 = .ok (.iload_n 1, 1) := by decide +kernel
theorem dL_addSpool_4 : decode cL_addSpool 4 = .ok (.iload_n 2, 1) := by decide +kernel
theorem dL_addSpool_5 : decode cL_addSpool 5 = .ok (.invokevirtual 7, 3) := by decide +kernel
theorem dL_addSpool_8 : decode cL_addSpool 8 = .ok (.i2l, 1) := by decide +kernel
theorem dL_addSpool_9 : decode cL_addSpool 9 = .ok (.lastore, 1) := by decide +kernel
theorem dL_addSpool_10 : decode cL_addSpool 10 = .ok (.goto 11, 3) := by decide +kernel
theorem dL_addSpool_13 : decode cL_addSpool 13 = .ok (.astore 4, 2) := by decide +kernel
theorem dL_addSpool_15 : decode cL_addSpool 15 = .ok (.iconst 1, 1) := by decide +kernel
theorem dL_addSpool_16 : decode cL_addSpool 16 = .ok (.ireturn, 1) := by decide +kernel
theorem dL_addSpool_17 : decode cL_addSpool 17 = .ok (.astore 4, 2) := by decide +kernel
theorem dL_addSpool_19 : decode cL_addSpool 19 = .ok (.iconst 2, 1) := by decide +kernel
theorem dL_addSpool_20 : decode cL_addSpool 20 = .ok (.ireturn, 1) := by decide +kernel
theorem dL_addSpool_21 : decode cL_addSpool 21 = .ok (.iconst 0, 1) := by decide +kernel
theorem dL_addSpool_22 : decode cL_addSpool 22 = .ok (.ireturn, 1) := by decide +kernel
theorem dL_retire_0 : decode cL_retire 0 = .ok (.aload_n 2, 1) := by decide +kernel
theorem dL_retire_1 : decode cL_retire 1 = .ok (.iconst 0, 1) := by decide +kernel
theorem dL_retire_2 : decode cL_retire 2 = .ok (.aload_n 0, 1) := by decide +kernel
theorem dL_retire_3 : decode cL_retire 3 = .ok (.iload_n 1, 1) := by decide +kernel
theorem dL_retire_4 : decode cL_retire 4 = .ok (.invokevirtual 17, 3) := by decide +kernel
theorem dL_retire_7 : decode cL_retire 7 = .ok (.i2l, 1) := by decide +kernel
theorem dL_retire_8 : decode cL_retire 8 = .ok (.lastore, 1) := by decide +kernel
theorem dL_retire_9 : decode cL_retire 9 = .ok (.goto 6, 3) := by decide +kernel
theorem dL_retire_12 : decode cL_retire 12 = .ok (.astore_n 3, 1) := by decide +kernel
theorem dL_retire_13 : decode cL_retire 13 = .ok (.iconst 1, 1) := by decide +kernel
theorem dL_retire_14 : decode cL_retire 14 = .ok (.ireturn, 1) := by decide +kernel
theorem dL_retire_15 : decode cL_retire 15 = .ok (.iconst 0, 1) := by decide +kernel
theorem dL_retire_16 : decode cL_retire 16 = .ok (.ireturn, 1) := by decide +kernel
theorem dL_throwScraps_0 : decode cL_throwScraps 0 = .ok (.aload_n 2, 1) := by decide +kernel
theorem dL_throwScraps_1 : decode cL_throwScraps 1 = .ok (.iconst 0, 1) := by decide +kernel
theorem dL_throwScraps_2 : decode cL_throwScraps 2 = .ok (.aload_n 0, 1) := by decide +kernel
theorem dL_throwScraps_3 : decode cL_throwScraps 3 = .ok (.iload_n 1, 1) := by decide +kernel
theorem dL_throwScraps_4 : decode cL_throwScraps 4 = .ok (.invokevirtual 23, 3) := by decide +kernel
theorem dL_throwScraps_7 : decode cL_throwScraps 7 = .ok (.i2l, 1) := by decide +kernel
theorem dL_throwScraps_8 : decode cL_throwScraps 8 = .ok (.lastore, 1) := by decide +kernel
theorem dL_throwScraps_9 : decode cL_throwScraps 9 = .ok (.goto 6, 3) := by decide +kernel
theorem dL_throwScraps_12 : decode cL_throwScraps 12 = .ok (.astore_n 3, 1) := by decide +kernel
theorem dL_throwScraps_13 : decode cL_throwScraps 13 = .ok (.iconst 1, 1) := by decide +kernel
theorem dL_throwScraps_14 : decode cL_throwScraps 14 = .ok (.ireturn, 1) := by decide +kernel
theorem dL_throwScraps_15 : decode cL_throwScraps 15 = .ok (.iconst 0, 1) := by decide +kernel
theorem dL_throwScraps_16 : decode cL_throwScraps 16 = .ok (.ireturn, 1) := by decide +kernel
theorem dL_addOrder_0 : decode cL_addOrder 0 = .ok (.aload 4, 2) := by decide +kernel
theorem dL_addOrder_2 : decode cL_addOrder 2 = .ok (.iconst 0, 1) := by decide +kernel
theorem dL_addOrder_3 : decode cL_addOrder 3 = .ok (.aload_n 0, 1) := by decide +kernel
theorem dL_addOrder_4 : decode cL_addOrder 4 = .ok (.iload_n 1, 1) := by decide +kernel
theorem dL_addOrder_5 : decode cL_addOrder 5 = .ok (.iload_n 2, 1) := by decide +kernel
theorem dL_addOrder_6 : decode cL_addOrder 6 = .ok (.iload_n 3, 1) := by decide +kernel
theorem dL_addOrder_7 : decode cL_addOrder 7 = .ok (.invokevirtual 27, 3) := by decide +kernel
theorem dL_addOrder_10 : decode cL_addOrder 10 = .ok (.i2l, 1) := by decide +kernel
theorem dL_addOrder_11 : decode cL_addOrder 11 = .ok (.lastore, 1) := by decide +kernel
theorem dL_addOrder_12 : decode cL_addOrder 12 = .ok (.goto 11, 3) := by decide +kernel
theorem dL_addOrder_15 : decode cL_addOrder 15 = .ok (.astore 5, 2) := by decide +kernel
theorem dL_addOrder_17 : decode cL_addOrder 17 = .ok (.iconst 1, 1) := by decide +kernel
theorem dL_addOrder_18 : decode cL_addOrder 18 = .ok (.ireturn, 1) := by decide +kernel
theorem dL_addOrder_19 : decode cL_addOrder 19 = .ok (.astore 5, 2) := by decide +kernel
theorem dL_addOrder_21 : decode cL_addOrder 21 = .ok (.iconst 2, 1) := by decide +kernel
theorem dL_addOrder_22 : decode cL_addOrder 22 = .ok (.ireturn, 1) := by decide +kernel
theorem dL_addOrder_23 : decode cL_addOrder 23 = .ok (.iconst 0, 1) := by decide +kernel
theorem dL_addOrder_24 : decode cL_addOrder 24 = .ok (.ireturn, 1) := by decide +kernel
theorem dL_cancel_0 : decode cL_cancel 0 = .ok (.aload_n 2, 1) := by decide +kernel
theorem dL_cancel_1 : decode cL_cancel 1 = .ok (.iconst 0, 1) := by decide +kernel
theorem dL_cancel_2 : decode cL_cancel 2 = .ok (.aload_n 0, 1) := by decide +kernel
theorem dL_cancel_3 : decode cL_cancel 3 = .ok (.iload_n 1, 1) := by decide +kernel
theorem dL_cancel_4 : decode cL_cancel 4 = .ok (.invokevirtual 31, 3) := by decide +kernel
theorem dL_cancel_7 : decode cL_cancel 7 = .ok (.i2l, 1) := by decide +kernel
theorem dL_cancel_8 : decode cL_cancel 8 = .ok (.lastore, 1) := by decide +kernel
theorem dL_cancel_9 : decode cL_cancel 9 = .ok (.goto 6, 3) := by decide +kernel
theorem dL_cancel_12 : decode cL_cancel 12 = .ok (.astore_n 3, 1) := by decide +kernel
theorem dL_cancel_13 : decode cL_cancel 13 = .ok (.iconst 1, 1) := by decide +kernel
theorem dL_cancel_14 : decode cL_cancel 14 = .ok (.ireturn, 1) := by decide +kernel
theorem dL_cancel_15 : decode cL_cancel 15 = .ok (.iconst 0, 1) := by decide +kernel
theorem dL_cancel_16 : decode cL_cancel 16 = .ok (.ireturn, 1) := by decide +kernel
theorem dL_fill_0 : decode cL_fill 0 = .ok (.aload_n 2, 1) := by decide +kernel
theorem dL_fill_1 : decode cL_fill 1 = .ok (.iconst 0, 1) := by decide +kernel
theorem dL_fill_2 : decode cL_fill 2 = .ok (.aload_n 0, 1) := by decide +kernel
theorem dL_fill_3 : decode cL_fill 3 = .ok (.iload_n 1, 1) := by decide +kernel
theorem dL_fill_4 : decode cL_fill 4 = .ok (.invokevirtual 34, 3) := by decide +kernel
theorem dL_fill_7 : decode cL_fill 7 = .ok (.i2l, 1) := by decide +kernel
theorem dL_fill_8 : decode cL_fill 8 = .ok (.lastore, 1) := by decide +kernel
theorem dL_fill_9 : decode cL_fill 9 = .ok (.goto 9, 3) := by decide +kernel
theorem dL_fill_12 : decode cL_fill 12 = .ok (.astore_n 3, 1) := by decide +kernel
theorem dL_fill_13 : decode cL_fill 13 = .ok (.iconst 1, 1) := by decide +kernel
theorem dL_fill_14 : decode cL_fill 14 = .ok (.ireturn, 1) := by decide +kernel
theorem dL_fill_15 : decode cL_fill 15 = .ok (.astore_n 3, 1) := by decide +kernel
theorem dL_fill_16 : decode cL_fill 16 = .ok (.iconst 2, 1) := by decide +kernel
theorem dL_fill_17 : decode cL_fill 17 = .ok (.ireturn, 1) := by decide +kernel
theorem dL_fill_18 : decode cL_fill 18 = .ok (.iconst 0, 1) := by decide +kernel
theorem dL_fill_19 : decode cL_fill 19 = .ok (.ireturn, 1) := by decide +kernel
theorem dL_fillDue_0 : decode cL_fillDue 0 = .ok (.aload_n 2, 1) := by decide +kernel
theorem dL_fillDue_1 : decode cL_fillDue 1 = .ok (.iconst 0, 1) := by decide +kernel
theorem dL_fillDue_2 : decode cL_fillDue 2 = .ok (.aload_n 0, 1) := by decide +kernel
theorem dL_fillDue_3 : decode cL_fillDue 3 = .ok (.iload_n 1, 1) := by decide +kernel
theorem dL_fillDue_4 : decode cL_fillDue 4 = .ok (.invokevirtual 39, 3) := by decide +kernel
theorem dL_fillDue_7 : decode cL_fillDue 7 = .ok (.i2l, 1) := by decide +kernel
theorem dL_fillDue_8 : decode cL_fillDue 8 = .ok (.lastore, 1) := by decide +kernel
theorem dL_fillDue_9 : decode cL_fillDue 9 = .ok (.goto 6, 3) := by decide +kernel
theorem dL_fillDue_12 : decode cL_fillDue 12 = .ok (.astore_n 3, 1) := by decide +kernel
theorem dL_fillDue_13 : decode cL_fillDue 13 = .ok (.iconst 1, 1) := by decide +kernel
theorem dL_fillDue_14 : decode cL_fillDue 14 = .ok (.ireturn, 1) := by decide +kernel
theorem dL_fillDue_15 : decode cL_fillDue 15 = .ok (.iconst 0, 1) := by decide +kernel
theorem dL_fillDue_16 : decode cL_fillDue 16 = .ok (.ireturn, 1) := by decide +kernel
theorem dL_setKerf_0 : decode cL_setKerf 0 = .ok (.aload_n 2, 1) := by decide +kernel
theorem dL_setKerf_1 : decode cL_setKerf 1 = .ok (.iconst 0, 1) := by decide +kernel
theorem dL_setKerf_2 : decode cL_setKerf 2 = .ok (.aload_n 0, 1) := by decide +kernel
theorem dL_setKerf_3 : decode cL_setKerf 3 = .ok (.iload_n 1, 1) := by decide +kernel
theorem dL_setKerf_4 : decode cL_setKerf 4 = .ok (.invokevirtual 42, 3) := by decide +kernel
theorem dL_setKerf_7 : decode cL_setKerf 7 = .ok (.i2l, 1) := by decide +kernel
theorem dL_setKerf_8 : decode cL_setKerf 8 = .ok (.lastore, 1) := by decide +kernel
theorem dL_setKerf_9 : decode cL_setKerf 9 = .ok (.goto 6, 3) := by decide +kernel
theorem dL_setKerf_12 : decode cL_setKerf 12 = .ok (.astore_n 3, 1) := by decide +kernel
theorem dL_setKerf_13 : decode cL_setKerf 13 = .ok (.iconst 1, 1) := by decide +kernel
theorem dL_setKerf_14 : decode cL_setKerf 14 = .ok (.ireturn, 1) := by decide +kernel
theorem dL_setKerf_15 : decode cL_setKerf 15 = .ok (.iconst 0, 1) := by decide +kernel
theorem dL_setKerf_16 : decode cL_setKerf 16 = .ok (.ireturn, 1) := by decide +kernel
theorem dL_setScrapLimit_0 : decode cL_setScrapLimit 0 = .ok (.aload_n 2, 1) := by decide +kernel
theorem dL_setScrapLimit_1 : decode cL_setScrapLimit 1 = .ok (.iconst 0, 1) := by decide +kernel
theorem dL_setScrapLimit_2 : decode cL_setScrapLimit 2 = .ok (.aload_n 0, 1) := by decide +kernel
theorem dL_setScrapLimit_3 : decode cL_setScrapLimit 3 = .ok (.iload_n 1, 1) := by decide +kernel
theorem dL_setScrapLimit_4 : decode cL_setScrapLimit 4 = .ok (.invokevirtual 45, 3) := by decide +kernel
theorem dL_setScrapLimit_7 : decode cL_setScrapLimit 7 = .ok (.i2l, 1) := by decide +kernel
theorem dL_setScrapLimit_8 : decode cL_setScrapLimit 8 = .ok (.lastore, 1) := by decide +kernel
theorem dL_setScrapLimit_9 : decode cL_setScrapLimit 9 = .ok (.goto 6, 3) := by decide +kernel
theorem dL_setScrapLimit_12 : decode cL_setScrapLimit 12 = .ok (.astore_n 3, 1) := by decide +kernel
theorem dL_setScrapLimit_13 : decode cL_setScrapLimit 13 = .ok (.iconst 1, 1) := by decide +kernel
theorem dL_setScrapLimit_14 : decode cL_setScrapLimit 14 = .ok (.ireturn, 1) := by decide +kernel
theorem dL_setScrapLimit_15 : decode cL_setScrapLimit 15 = .ok (.iconst 0, 1) := by decide +kernel
theorem dL_setScrapLimit_16 : decode cL_setScrapLimit 16 = .ok (.ireturn, 1) := by decide +kernel
theorem dL_setRule_0 : decode cL_setRule 0 = .ok (.aload_n 2, 1) := by decide +kernel
theorem dL_setRule_1 : decode cL_setRule 1 = .ok (.iconst 0, 1) := by decide +kernel
theorem dL_setRule_2 : decode cL_setRule 2 = .ok (.aload_n 0, 1) := by decide +kernel
theorem dL_setRule_3 : decode cL_setRule 3 = .ok (.iload_n 1, 1) := by decide +kernel
theorem dL_setRule_4 : decode cL_setRule 4 = .ok (.invokevirtual 48, 3) := by decide +kernel
theorem dL_setRule_7 : decode cL_setRule 7 = .ok (.i2l, 1) := by decide +kernel
theorem dL_setRule_8 : decode cL_setRule 8 = .ok (.lastore, 1) := by decide +kernel
theorem dL_setRule_9 : decode cL_setRule 9 = .ok (.goto 6, 3) := by decide +kernel
theorem dL_setRule_12 : decode cL_setRule 12 = .ok (.astore_n 3, 1) := by decide +kernel
theorem dL_setRule_13 : decode cL_setRule 13 = .ok (.iconst 1, 1) := by decide +kernel
theorem dL_setRule_14 : decode cL_setRule 14 = .ok (.ireturn, 1) := by decide +kernel
theorem dL_setRule_15 : decode cL_setRule 15 = .ok (.iconst 0, 1) := by decide +kernel
theorem dL_setRule_16 : decode cL_setRule 16 = .ok (.ireturn, 1) := by decide +kernel
theorem dL_material_0 : decode cL_material 0 = .ok (.aload_n 2, 1) := by decide +kernel
theorem dL_material_1 : decode cL_material 1 = .ok (.iconst 0, 1) := by decide +kernel
theorem dL_material_2 : decode cL_material 2 = .ok (.aload_n 0, 1) := by decide +kernel
theorem dL_material_3 : decode cL_material 3 = .ok (.iload_n 1, 1) := by decide +kernel
theorem dL_material_4 : decode cL_material 4 = .ok (.invokevirtual 52, 3) := by decide +kernel
theorem dL_material_7 : decode cL_material 7 = .ok (.i2l, 1) := by decide +kernel
theorem dL_material_8 : decode cL_material 8 = .ok (.lastore, 1) := by decide +kernel
theorem dL_material_9 : decode cL_material 9 = .ok (.goto 6, 3) := by decide +kernel
theorem dL_material_12 : decode cL_material 12 = .ok (.astore_n 3, 1) := by decide +kernel
theorem dL_material_13 : decode cL_material 13 = .ok (.iconst 1, 1) := by decide +kernel
theorem dL_material_14 : decode cL_material 14 = .ok (.ireturn, 1) := by decide +kernel
theorem dL_material_15 : decode cL_material 15 = .ok (.iconst 0, 1) := by decide +kernel
theorem dL_material_16 : decode cL_material 16 = .ok (.ireturn, 1) := by decide +kernel
theorem dL_remaining_0 : decode cL_remaining 0 = .ok (.aload_n 2, 1) := by decide +kernel
theorem dL_remaining_1 : decode cL_remaining 1 = .ok (.iconst 0, 1) := by decide +kernel
theorem dL_remaining_2 : decode cL_remaining 2 = .ok (.aload_n 0, 1) := by decide +kernel
theorem dL_remaining_3 : decode cL_remaining 3 = .ok (.iload_n 1, 1) := by decide +kernel
theorem dL_remaining_4 : decode cL_remaining 4 = .ok (.invokevirtual 56, 3) := by decide +kernel
theorem dL_remaining_7 : decode cL_remaining 7 = .ok (.i2l, 1) := by decide +kernel
theorem dL_remaining_8 : decode cL_remaining 8 = .ok (.lastore, 1) := by decide +kernel
theorem dL_remaining_9 : decode cL_remaining 9 = .ok (.goto 6, 3) := by decide +kernel
theorem dL_remaining_12 : decode cL_remaining 12 = .ok (.astore_n 3, 1) := by decide +kernel
theorem dL_remaining_13 : decode cL_remaining 13 = .ok (.iconst 1, 1) := by decide +kernel
theorem dL_remaining_14 : decode cL_remaining 14 = .ok (.ireturn, 1) := by decide +kernel
theorem dL_remaining_15 : decode cL_remaining 15 = .ok (.iconst 0, 1) := by decide +kernel
theorem dL_remaining_16 : decode cL_remaining 16 = .ok (.ireturn, 1) := by decide +kernel
theorem dL_cuts_0 : decode cL_cuts 0 = .ok (.aload_n 2, 1) := by decide +kernel
theorem dL_cuts_1 : decode cL_cuts 1 = .ok (.iconst 0, 1) := by decide +kernel
theorem dL_cuts_2 : decode cL_cuts 2 = .ok (.aload_n 0, 1) := by decide +kernel
theorem dL_cuts_3 : decode cL_cuts 3 = .ok (.iload_n 1, 1) := by decide +kernel
theorem dL_cuts_4 : decode cL_cuts 4 = .ok (.invokevirtual 59, 3) := by decide +kernel
theorem dL_cuts_7 : decode cL_cuts 7 = .ok (.i2l, 1) := by decide +kernel
theorem dL_cuts_8 : decode cL_cuts 8 = .ok (.lastore, 1) := by decide +kernel
theorem dL_cuts_9 : decode cL_cuts 9 = .ok (.goto 6, 3) := by decide +kernel
theorem dL_cuts_12 : decode cL_cuts 12 = .ok (.astore_n 3, 1) := by decide +kernel
theorem dL_cuts_13 : decode cL_cuts 13 = .ok (.iconst 1, 1) := by decide +kernel
theorem dL_cuts_14 : decode cL_cuts 14 = .ok (.ireturn, 1) := by decide +kernel
theorem dL_cuts_15 : decode cL_cuts 15 = .ok (.iconst 0, 1) := by decide +kernel
theorem dL_cuts_16 : decode cL_cuts 16 = .ok (.ireturn, 1) := by decide +kernel
theorem dL_spoolByLength_0 : decode cL_spoolByLength 0 = .ok (.aload_n 2, 1) := by decide +kernel
theorem dL_spoolByLength_1 : decode cL_spoolByLength 1 = .ok (.iconst 0, 1) := by decide +kernel
theorem dL_spoolByLength_2 : decode cL_spoolByLength 2 = .ok (.aload_n 0, 1) := by decide +kernel
theorem dL_spoolByLength_3 : decode cL_spoolByLength 3 = .ok (.iload_n 1, 1) := by decide +kernel
theorem dL_spoolByLength_4 : decode cL_spoolByLength 4 = .ok (.invokevirtual 62, 3) := by decide +kernel
theorem dL_spoolByLength_7 : decode cL_spoolByLength 7 = .ok (.i2l, 1) := by decide +kernel
theorem dL_spoolByLength_8 : decode cL_spoolByLength 8 = .ok (.lastore, 1) := by decide +kernel
theorem dL_spoolByLength_9 : decode cL_spoolByLength 9 = .ok (.goto 6, 3) := by decide +kernel
theorem dL_spoolByLength_12 : decode cL_spoolByLength 12 = .ok (.astore_n 3, 1) := by decide +kernel
theorem dL_spoolByLength_13 : decode cL_spoolByLength 13 = .ok (.iconst 1, 1) := by decide +kernel
theorem dL_spoolByLength_14 : decode cL_spoolByLength 14 = .ok (.ireturn, 1) := by decide +kernel
theorem dL_spoolByLength_15 : decode cL_spoolByLength 15 = .ok (.iconst 0, 1) := by decide +kernel
theorem dL_spoolByLength_16 : decode cL_spoolByLength 16 = .ok (.ireturn, 1) := by decide +kernel
theorem dL_scraps_0 : decode cL_scraps 0 = .ok (.aload_n 2, 1) := by decide +kernel
theorem dL_scraps_1 : decode cL_scraps 1 = .ok (.iconst 0, 1) := by decide +kernel
theorem dL_scraps_2 : decode cL_scraps 2 = .ok (.aload_n 0, 1) := by decide +kernel
theorem dL_scraps_3 : decode cL_scraps 3 = .ok (.iload_n 1, 1) := by decide +kernel
theorem dL_scraps_4 : decode cL_scraps 4 = .ok (.invokevirtual 65, 3) := by decide +kernel
theorem dL_scraps_7 : decode cL_scraps 7 = .ok (.i2l, 1) := by decide +kernel
theorem dL_scraps_8 : decode cL_scraps 8 = .ok (.lastore, 1) := by decide +kernel
theorem dL_scraps_9 : decode cL_scraps 9 = .ok (.goto 6, 3) := by decide +kernel
theorem dL_scraps_12 : decode cL_scraps 12 = .ok (.astore_n 3, 1) := by decide +kernel
theorem dL_scraps_13 : decode cL_scraps 13 = .ok (.iconst 1, 1) := by decide +kernel
theorem dL_scraps_14 : decode cL_scraps 14 = .ok (.ireturn, 1) := by decide +kernel
theorem dL_scraps_15 : decode cL_scraps 15 = .ok (.iconst 0, 1) := by decide +kernel
theorem dL_scraps_16 : decode cL_scraps 16 = .ok (.ireturn, 1) := by decide +kernel
theorem dL_scrap_0 : decode cL_scrap 0 = .ok (.aload_n 3, 1) := by decide +kernel
theorem dL_scrap_1 : decode cL_scrap 1 = .ok (.iconst 0, 1) := by decide +kernel
theorem dL_scrap_2 : decode cL_scrap 2 = .ok (.aload_n 0, 1) := by decide +kernel
theorem dL_scrap_3 : decode cL_scrap 3 = .ok (.iload_n 1, 1) := by decide +kernel
theorem dL_scrap_4 : decode cL_scrap 4 = .ok (.iload_n 2, 1) := by decide +kernel
theorem dL_scrap_5 : decode cL_scrap 5 = .ok (.invokevirtual 68, 3) := by decide +kernel
theorem dL_scrap_8 : decode cL_scrap 8 = .ok (.i2l, 1) := by decide +kernel
theorem dL_scrap_9 : decode cL_scrap 9 = .ok (.lastore, 1) := by decide +kernel
theorem dL_scrap_10 : decode cL_scrap 10 = .ok (.goto 11, 3) := by decide +kernel
theorem dL_scrap_13 : decode cL_scrap 13 = .ok (.astore 4, 2) := by decide +kernel
theorem dL_scrap_15 : decode cL_scrap 15 = .ok (.iconst 1, 1) := by decide +kernel
theorem dL_scrap_16 : decode cL_scrap 16 = .ok (.ireturn, 1) := by decide +kernel
theorem dL_scrap_17 : decode cL_scrap 17 = .ok (.astore 4, 2) := by decide +kernel
theorem dL_scrap_19 : decode cL_scrap 19 = .ok (.iconst 2, 1) := by decide +kernel
theorem dL_scrap_20 : decode cL_scrap 20 = .ok (.ireturn, 1) := by decide +kernel
theorem dL_scrap_21 : decode cL_scrap 21 = .ok (.iconst 0, 1) := by decide +kernel
theorem dL_scrap_22 : decode cL_scrap 22 = .ok (.ireturn, 1) := by decide +kernel
theorem dL_bestLoad_0 : decode cL_bestLoad 0 = .ok (.aload_n 2, 1) := by decide +kernel
theorem dL_bestLoad_1 : decode cL_bestLoad 1 = .ok (.iconst 0, 1) := by decide +kernel
theorem dL_bestLoad_2 : decode cL_bestLoad 2 = .ok (.aload_n 0, 1) := by decide +kernel
theorem dL_bestLoad_3 : decode cL_bestLoad 3 = .ok (.iload_n 1, 1) := by decide +kernel
theorem dL_bestLoad_4 : decode cL_bestLoad 4 = .ok (.invokevirtual 71, 3) := by decide +kernel
theorem dL_bestLoad_7 : decode cL_bestLoad 7 = .ok (.i2l, 1) := by decide +kernel
theorem dL_bestLoad_8 : decode cL_bestLoad 8 = .ok (.lastore, 1) := by decide +kernel
theorem dL_bestLoad_9 : decode cL_bestLoad 9 = .ok (.goto 6, 3) := by decide +kernel
theorem dL_bestLoad_12 : decode cL_bestLoad 12 = .ok (.astore_n 3, 1) := by decide +kernel
theorem dL_bestLoad_13 : decode cL_bestLoad 13 = .ok (.iconst 1, 1) := by decide +kernel
theorem dL_bestLoad_14 : decode cL_bestLoad 14 = .ok (.ireturn, 1) := by decide +kernel
theorem dL_bestLoad_15 : decode cL_bestLoad 15 = .ok (.iconst 0, 1) := by decide +kernel
theorem dL_bestLoad_16 : decode cL_bestLoad 16 = .ok (.ireturn, 1) := by decide +kernel
theorem dL_bestLoadByRecursion_0 : decode cL_bestLoadByRecursion 0 = .ok (.aload_n 2, 1) := by decide +kernel
theorem dL_bestLoadByRecursion_1 : decode cL_bestLoadByRecursion 1 = .ok (.iconst 0, 1) := by decide +kernel
theorem dL_bestLoadByRecursion_2 : decode cL_bestLoadByRecursion 2 = .ok (.aload_n 0, 1) := by decide +kernel
theorem dL_bestLoadByRecursion_3 : decode cL_bestLoadByRecursion 3 = .ok (.iload_n 1, 1) := by decide +kernel
theorem dL_bestLoadByRecursion_4 : decode cL_bestLoadByRecursion 4 = .ok (.invokevirtual 74, 3) := by decide +kernel
theorem dL_bestLoadByRecursion_7 : decode cL_bestLoadByRecursion 7 = .ok (.i2l, 1) := by decide +kernel
theorem dL_bestLoadByRecursion_8 : decode cL_bestLoadByRecursion 8 = .ok (.lastore, 1) := by decide +kernel
theorem dL_bestLoadByRecursion_9 : decode cL_bestLoadByRecursion 9 = .ok (.goto 6, 3) := by decide +kernel
theorem dL_bestLoadByRecursion_12 : decode cL_bestLoadByRecursion 12 = .ok (.astore_n 3, 1) := by decide +kernel
theorem dL_bestLoadByRecursion_13 : decode cL_bestLoadByRecursion 13 = .ok (.iconst 1, 1) := by decide +kernel
theorem dL_bestLoadByRecursion_14 : decode cL_bestLoadByRecursion 14 = .ok (.ireturn, 1) := by decide +kernel
theorem dL_bestLoadByRecursion_15 : decode cL_bestLoadByRecursion 15 = .ok (.iconst 0, 1) := by decide +kernel
theorem dL_bestLoadByRecursion_16 : decode cL_bestLoadByRecursion 16 = .ok (.ireturn, 1) := by decide +kernel
theorem dL_orderMaterial_0 : decode cL_orderMaterial 0 = .ok (.aload_n 2, 1) := by decide +kernel
theorem dL_orderMaterial_1 : decode cL_orderMaterial 1 = .ok (.iconst 0, 1) := by decide +kernel
theorem dL_orderMaterial_2 : decode cL_orderMaterial 2 = .ok (.aload_n 0, 1) := by decide +kernel
theorem dL_orderMaterial_3 : decode cL_orderMaterial 3 = .ok (.iload_n 1, 1) := by decide +kernel
theorem dL_orderMaterial_4 : decode cL_orderMaterial 4 = .ok (.invokevirtual 77, 3) := by decide +kernel
theorem dL_orderMaterial_7 : decode cL_orderMaterial 7 = .ok (.i2l, 1) := by decide +kernel
theorem dL_orderMaterial_8 : decode cL_orderMaterial 8 = .ok (.lastore, 1) := by decide +kernel
theorem dL_orderMaterial_9 : decode cL_orderMaterial 9 = .ok (.goto 6, 3) := by decide +kernel
theorem dL_orderMaterial_12 : decode cL_orderMaterial 12 = .ok (.astore_n 3, 1) := by decide +kernel
theorem dL_orderMaterial_13 : decode cL_orderMaterial 13 = .ok (.iconst 1, 1) := by decide +kernel
theorem dL_orderMaterial_14 : decode cL_orderMaterial 14 = .ok (.ireturn, 1) := by decide +kernel
theorem dL_orderMaterial_15 : decode cL_orderMaterial 15 = .ok (.iconst 0, 1) := by decide +kernel
theorem dL_orderMaterial_16 : decode cL_orderMaterial 16 = .ok (.ireturn, 1) := by decide +kernel
theorem dL_orderLength_0 : decode cL_orderLength 0 = .ok (.aload_n 2, 1) := by decide +kernel
theorem dL_orderLength_1 : decode cL_orderLength 1 = .ok (.iconst 0, 1) := by decide +kernel
theorem dL_orderLength_2 : decode cL_orderLength 2 = .ok (.aload_n 0, 1) := by decide +kernel
theorem dL_orderLength_3 : decode cL_orderLength 3 = .ok (.iload_n 1, 1) := by decide +kernel
theorem dL_orderLength_4 : decode cL_orderLength 4 = .ok (.invokevirtual 80, 3) := by decide +kernel
theorem dL_orderLength_7 : decode cL_orderLength 7 = .ok (.i2l, 1) := by decide +kernel
theorem dL_orderLength_8 : decode cL_orderLength 8 = .ok (.lastore, 1) := by decide +kernel
theorem dL_orderLength_9 : decode cL_orderLength 9 = .ok (.goto 6, 3) := by decide +kernel
theorem dL_orderLength_12 : decode cL_orderLength 12 = .ok (.astore_n 3, 1) := by decide +kernel
theorem dL_orderLength_13 : decode cL_orderLength 13 = .ok (.iconst 1, 1) := by decide +kernel
theorem dL_orderLength_14 : decode cL_orderLength 14 = .ok (.ireturn, 1) := by decide +kernel
theorem dL_orderLength_15 : decode cL_orderLength 15 = .ok (.iconst 0, 1) := by decide +kernel
theorem dL_orderLength_16 : decode cL_orderLength 16 = .ok (.ireturn, 1) := by decide +kernel
theorem dL_due_0 : decode cL_due 0 = .ok (.aload_n 2, 1) := by decide +kernel
theorem dL_due_1 : decode cL_due 1 = .ok (.iconst 0, 1) := by decide +kernel
theorem dL_due_2 : decode cL_due 2 = .ok (.aload_n 0, 1) := by decide +kernel
theorem dL_due_3 : decode cL_due 3 = .ok (.iload_n 1, 1) := by decide +kernel
theorem dL_due_4 : decode cL_due 4 = .ok (.invokevirtual 83, 3) := by decide +kernel
theorem dL_due_7 : decode cL_due 7 = .ok (.i2l, 1) := by decide +kernel
theorem dL_due_8 : decode cL_due 8 = .ok (.lastore, 1) := by decide +kernel
theorem dL_due_9 : decode cL_due 9 = .ok (.goto 6, 3) := by decide +kernel
theorem dL_due_12 : decode cL_due 12 = .ok (.astore_n 3, 1) := by decide +kernel
theorem dL_due_13 : decode cL_due 13 = .ok (.iconst 1, 1) := by decide +kernel
theorem dL_due_14 : decode cL_due 14 = .ok (.ireturn, 1) := by decide +kernel
theorem dL_due_15 : decode cL_due 15 = .ok (.iconst 0, 1) := by decide +kernel
theorem dL_due_16 : decode cL_due 16 = .ok (.ireturn, 1) := by decide +kernel
theorem dL_orderAt_0 : decode cL_orderAt 0 = .ok (.aload_n 2, 1) := by decide +kernel
theorem dL_orderAt_1 : decode cL_orderAt 1 = .ok (.iconst 0, 1) := by decide +kernel
theorem dL_orderAt_2 : decode cL_orderAt 2 = .ok (.aload_n 0, 1) := by decide +kernel
theorem dL_orderAt_3 : decode cL_orderAt 3 = .ok (.iload_n 1, 1) := by decide +kernel
theorem dL_orderAt_4 : decode cL_orderAt 4 = .ok (.invokevirtual 86, 3) := by decide +kernel
theorem dL_orderAt_7 : decode cL_orderAt 7 = .ok (.i2l, 1) := by decide +kernel
theorem dL_orderAt_8 : decode cL_orderAt 8 = .ok (.lastore, 1) := by decide +kernel
theorem dL_orderAt_9 : decode cL_orderAt 9 = .ok (.goto 6, 3) := by decide +kernel
theorem dL_orderAt_12 : decode cL_orderAt 12 = .ok (.astore_n 3, 1) := by decide +kernel
theorem dL_orderAt_13 : decode cL_orderAt 13 = .ok (.iconst 1, 1) := by decide +kernel
theorem dL_orderAt_14 : decode cL_orderAt 14 = .ok (.ireturn, 1) := by decide +kernel
theorem dL_orderAt_15 : decode cL_orderAt 15 = .ok (.iconst 0, 1) := by decide +kernel
theorem dL_orderAt_16 : decode cL_orderAt 16 = .ok (.ireturn, 1) := by decide +kernel
theorem dL_canFill_0 : decode cL_canFill 0 = .ok (.aload_n 2, 1) := by decide +kernel
theorem dL_canFill_1 : decode cL_canFill 1 = .ok (.iconst 0, 1) := by decide +kernel
theorem dL_canFill_2 : decode cL_canFill 2 = .ok (.aload_n 0, 1) := by decide +kernel
theorem dL_canFill_3 : decode cL_canFill 3 = .ok (.iload_n 1, 1) := by decide +kernel
theorem dL_canFill_4 : decode cL_canFill 4 = .ok (.invokevirtual 89, 3) := by decide +kernel
theorem dL_canFill_7 : decode cL_canFill 7 = .ok (.ifCond .eq 7, 3) := by decide +kernel
theorem dL_canFill_10 : decode cL_canFill 10 = .ok (.lconst 1, 1) := by decide +kernel
theorem dL_canFill_11 : decode cL_canFill 11 = .ok (.goto 4, 3) := by decide +kernel
theorem dL_canFill_14 : decode cL_canFill 14 = .ok (.lconst 0, 1) := by decide +kernel
theorem dL_canFill_15 : decode cL_canFill 15 = .ok (.lastore, 1) := by decide +kernel
theorem dL_canFill_16 : decode cL_canFill 16 = .ok (.goto 6, 3) := by decide +kernel
theorem dL_canFill_19 : decode cL_canFill 19 = .ok (.astore_n 3, 1) := by decide +kernel
theorem dL_canFill_20 : decode cL_canFill 20 = .ok (.iconst 1, 1) := by decide +kernel
theorem dL_canFill_21 : decode cL_canFill 21 = .ok (.ireturn, 1) := by decide +kernel
theorem dL_canFill_22 : decode cL_canFill 22 = .ok (.iconst 0, 1) := by decide +kernel
theorem dL_canFill_23 : decode cL_canFill 23 = .ok (.ireturn, 1) := by decide +kernel
theorem dL_chosenScrap_0 : decode cL_chosenScrap 0 = .ok (.aload_n 2, 1) := by decide +kernel
theorem dL_chosenScrap_1 : decode cL_chosenScrap 1 = .ok (.iconst 0, 1) := by decide +kernel
theorem dL_chosenScrap_2 : decode cL_chosenScrap 2 = .ok (.aload_n 0, 1) := by decide +kernel
theorem dL_chosenScrap_3 : decode cL_chosenScrap 3 = .ok (.iload_n 1, 1) := by decide +kernel
theorem dL_chosenScrap_4 : decode cL_chosenScrap 4 = .ok (.invokevirtual 93, 3) := by decide +kernel
theorem dL_chosenScrap_7 : decode cL_chosenScrap 7 = .ok (.i2l, 1) := by decide +kernel
theorem dL_chosenScrap_8 : decode cL_chosenScrap 8 = .ok (.lastore, 1) := by decide +kernel
theorem dL_chosenScrap_9 : decode cL_chosenScrap 9 = .ok (.goto 6, 3) := by decide +kernel
theorem dL_chosenScrap_12 : decode cL_chosenScrap 12 = .ok (.astore_n 3, 1) := by decide +kernel
theorem dL_chosenScrap_13 : decode cL_chosenScrap 13 = .ok (.iconst 1, 1) := by decide +kernel
theorem dL_chosenScrap_14 : decode cL_chosenScrap 14 = .ok (.ireturn, 1) := by decide +kernel
theorem dL_chosenScrap_15 : decode cL_chosenScrap 15 = .ok (.iconst 0, 1) := by decide +kernel
theorem dL_chosenScrap_16 : decode cL_chosenScrap 16 = .ok (.ireturn, 1) := by decide +kernel
theorem dL_chosenSpool_0 : decode cL_chosenSpool 0 = .ok (.aload_n 2, 1) := by decide +kernel
theorem dL_chosenSpool_1 : decode cL_chosenSpool 1 = .ok (.iconst 0, 1) := by decide +kernel
theorem dL_chosenSpool_2 : decode cL_chosenSpool 2 = .ok (.aload_n 0, 1) := by decide +kernel
theorem dL_chosenSpool_3 : decode cL_chosenSpool 3 = .ok (.iload_n 1, 1) := by decide +kernel
theorem dL_chosenSpool_4 : decode cL_chosenSpool 4 = .ok (.invokevirtual 96, 3) := by decide +kernel
theorem dL_chosenSpool_7 : decode cL_chosenSpool 7 = .ok (.i2l, 1) := by decide +kernel
theorem dL_chosenSpool_8 : decode cL_chosenSpool 8 = .ok (.lastore, 1) := by decide +kernel
theorem dL_chosenSpool_9 : decode cL_chosenSpool 9 = .ok (.goto 6, 3) := by decide +kernel
theorem dL_chosenSpool_12 : decode cL_chosenSpool 12 = .ok (.astore_n 3, 1) := by decide +kernel
theorem dL_chosenSpool_13 : decode cL_chosenSpool 13 = .ok (.iconst 1, 1) := by decide +kernel
theorem dL_chosenSpool_14 : decode cL_chosenSpool 14 = .ok (.ireturn, 1) := by decide +kernel
theorem dL_chosenSpool_15 : decode cL_chosenSpool 15 = .ok (.iconst 0, 1) := by decide +kernel
theorem dL_chosenSpool_16 : decode cL_chosenSpool 16 = .ok (.ireturn, 1) := by decide +kernel
theorem dL_wound_0 : decode cL_wound 0 = .ok (.aload_n 2, 1) := by decide +kernel
theorem dL_wound_1 : decode cL_wound 1 = .ok (.iconst 0, 1) := by decide +kernel
theorem dL_wound_2 : decode cL_wound 2 = .ok (.aload_n 0, 1) := by decide +kernel
theorem dL_wound_3 : decode cL_wound 3 = .ok (.iload_n 1, 1) := by decide +kernel
theorem dL_wound_4 : decode cL_wound 4 = .ok (.invokevirtual 99, 3) := by decide +kernel
theorem dL_wound_7 : decode cL_wound 7 = .ok (.i2l, 1) := by decide +kernel
theorem dL_wound_8 : decode cL_wound 8 = .ok (.lastore, 1) := by decide +kernel
theorem dL_wound_9 : decode cL_wound 9 = .ok (.goto 6, 3) := by decide +kernel
theorem dL_wound_12 : decode cL_wound 12 = .ok (.astore_n 3, 1) := by decide +kernel
theorem dL_wound_13 : decode cL_wound 13 = .ok (.iconst 1, 1) := by decide +kernel
theorem dL_wound_14 : decode cL_wound 14 = .ok (.ireturn, 1) := by decide +kernel
theorem dL_wound_15 : decode cL_wound 15 = .ok (.iconst 0, 1) := by decide +kernel
theorem dL_wound_16 : decode cL_wound 16 = .ok (.ireturn, 1) := by decide +kernel
theorem dL_woundByParts_0 : decode cL_woundByParts 0 = .ok (.aload_n 2, 1) := by decide +kernel
theorem dL_woundByParts_1 : decode cL_woundByParts 1 = .ok (.iconst 0, 1) := by decide +kernel
theorem dL_woundByParts_2 : decode cL_woundByParts 2 = .ok (.aload_n 0, 1) := by decide +kernel
theorem dL_woundByParts_3 : decode cL_woundByParts 3 = .ok (.iload_n 1, 1) := by decide +kernel
theorem dL_woundByParts_4 : decode cL_woundByParts 4 = .ok (.invokevirtual 102, 3) := by decide +kernel
theorem dL_woundByParts_7 : decode cL_woundByParts 7 = .ok (.i2l, 1) := by decide +kernel
theorem dL_woundByParts_8 : decode cL_woundByParts 8 = .ok (.lastore, 1) := by decide +kernel
theorem dL_woundByParts_9 : decode cL_woundByParts 9 = .ok (.goto 6, 3) := by decide +kernel
theorem dL_woundByParts_12 : decode cL_woundByParts 12 = .ok (.astore_n 3, 1) := by decide +kernel
theorem dL_woundByParts_13 : decode cL_woundByParts 13 = .ok (.iconst 1, 1) := by decide +kernel
theorem dL_woundByParts_14 : decode cL_woundByParts 14 = .ok (.ireturn, 1) := by decide +kernel
theorem dL_woundByParts_15 : decode cL_woundByParts 15 = .ok (.iconst 0, 1) := by decide +kernel
theorem dL_woundByParts_16 : decode cL_woundByParts 16 = .ok (.ireturn, 1) := by decide +kernel
theorem dL_delivered_0 : decode cL_delivered 0 = .ok (.aload_n 2, 1) := by decide +kernel
theorem dL_delivered_1 : decode cL_delivered 1 = .ok (.iconst 0, 1) := by decide +kernel
theorem dL_delivered_2 : decode cL_delivered 2 = .ok (.aload_n 0, 1) := by decide +kernel
theorem dL_delivered_3 : decode cL_delivered 3 = .ok (.iload_n 1, 1) := by decide +kernel
theorem dL_delivered_4 : decode cL_delivered 4 = .ok (.invokevirtual 105, 3) := by decide +kernel
theorem dL_delivered_7 : decode cL_delivered 7 = .ok (.i2l, 1) := by decide +kernel
theorem dL_delivered_8 : decode cL_delivered 8 = .ok (.lastore, 1) := by decide +kernel
theorem dL_delivered_9 : decode cL_delivered 9 = .ok (.goto 6, 3) := by decide +kernel
theorem dL_delivered_12 : decode cL_delivered 12 = .ok (.astore_n 3, 1) := by decide +kernel
theorem dL_delivered_13 : decode cL_delivered 13 = .ok (.iconst 1, 1) := by decide +kernel
theorem dL_delivered_14 : decode cL_delivered 14 = .ok (.ireturn, 1) := by decide +kernel
theorem dL_delivered_15 : decode cL_delivered 15 = .ok (.iconst 0, 1) := by decide +kernel
theorem dL_delivered_16 : decode cL_delivered 16 = .ok (.ireturn, 1) := by decide +kernel
theorem dL_losses_0 : decode cL_losses 0 = .ok (.aload_n 2, 1) := by decide +kernel
theorem dL_losses_1 : decode cL_losses 1 = .ok (.iconst 0, 1) := by decide +kernel
theorem dL_losses_2 : decode cL_losses 2 = .ok (.aload_n 0, 1) := by decide +kernel
theorem dL_losses_3 : decode cL_losses 3 = .ok (.iload_n 1, 1) := by decide +kernel
theorem dL_losses_4 : decode cL_losses 4 = .ok (.invokevirtual 108, 3) := by decide +kernel
theorem dL_losses_7 : decode cL_losses 7 = .ok (.i2l, 1) := by decide +kernel
theorem dL_losses_8 : decode cL_losses 8 = .ok (.lastore, 1) := by decide +kernel
theorem dL_losses_9 : decode cL_losses 9 = .ok (.goto 6, 3) := by decide +kernel
theorem dL_losses_12 : decode cL_losses 12 = .ok (.astore_n 3, 1) := by decide +kernel
theorem dL_losses_13 : decode cL_losses 13 = .ok (.iconst 1, 1) := by decide +kernel
theorem dL_losses_14 : decode cL_losses 14 = .ok (.ireturn, 1) := by decide +kernel
theorem dL_losses_15 : decode cL_losses 15 = .ok (.iconst 0, 1) := by decide +kernel
theorem dL_losses_16 : decode cL_losses 16 = .ok (.ireturn, 1) := by decide +kernel
theorem dL_meanRemaining_0 : decode cL_meanRemaining 0 = .ok (.aload_n 1, 1) := by decide +kernel
theorem dL_meanRemaining_1 : decode cL_meanRemaining 1 = .ok (.iconst 0, 1) := by decide +kernel
theorem dL_meanRemaining_2 : decode cL_meanRemaining 2 = .ok (.aload_n 0, 1) := by decide +kernel
theorem dL_meanRemaining_3 : decode cL_meanRemaining 3 = .ok (.invokevirtual 111, 3) := by decide +kernel
theorem dL_meanRemaining_6 : decode cL_meanRemaining 6 = .ok (.dastore, 1) := by decide +kernel
theorem dL_meanRemaining_7 : decode cL_meanRemaining 7 = .ok (.goto 6, 3) := by decide +kernel
theorem dL_meanRemaining_10 : decode cL_meanRemaining 10 = .ok (.astore_n 2, 1) := by decide +kernel
theorem dL_meanRemaining_11 : decode cL_meanRemaining 11 = .ok (.iconst 1, 1) := by decide +kernel
theorem dL_meanRemaining_12 : decode cL_meanRemaining 12 = .ok (.ireturn, 1) := by decide +kernel
theorem dL_meanRemaining_13 : decode cL_meanRemaining 13 = .ok (.iconst 0, 1) := by decide +kernel
theorem dL_meanRemaining_14 : decode cL_meanRemaining 14 = .ok (.ireturn, 1) := by decide +kernel
theorem dL_lossRate_0 : decode cL_lossRate 0 = .ok (.aload_n 1, 1) := by decide +kernel
theorem dL_lossRate_1 : decode cL_lossRate 1 = .ok (.iconst 0, 1) := by decide +kernel
theorem dL_lossRate_2 : decode cL_lossRate 2 = .ok (.aload_n 0, 1) := by decide +kernel
theorem dL_lossRate_3 : decode cL_lossRate 3 = .ok (.invokevirtual 117, 3) := by decide +kernel
theorem dL_lossRate_6 : decode cL_lossRate 6 = .ok (.f2d, 1) := by decide +kernel
theorem dL_lossRate_7 : decode cL_lossRate 7 = .ok (.dastore, 1) := by decide +kernel
theorem dL_lossRate_8 : decode cL_lossRate 8 = .ok (.goto 6, 3) := by decide +kernel
theorem dL_lossRate_11 : decode cL_lossRate 11 = .ok (.astore_n 2, 1) := by decide +kernel
theorem dL_lossRate_12 : decode cL_lossRate 12 = .ok (.iconst 1, 1) := by decide +kernel
theorem dL_lossRate_13 : decode cL_lossRate 13 = .ok (.ireturn, 1) := by decide +kernel
theorem dL_lossRate_14 : decode cL_lossRate 14 = .ok (.iconst 0, 1) := by decide +kernel
theorem dL_lossRate_15 : decode cL_lossRate 15 = .ok (.ireturn, 1) := by decide +kernel
theorem dL_writeSpool_0 : decode cL_writeSpool 0 = .ok (.aload_n 2, 1) := by decide +kernel
theorem dL_writeSpool_1 : decode cL_writeSpool 1 = .ok (.iconst 0, 1) := by decide +kernel
theorem dL_writeSpool_2 : decode cL_writeSpool 2 = .ok (.aload_n 0, 1) := by decide +kernel
theorem dL_writeSpool_3 : decode cL_writeSpool 3 = .ok (.iload_n 1, 1) := by decide +kernel
theorem dL_writeSpool_4 : decode cL_writeSpool 4 = .ok (.invokevirtual 121, 3) := by decide +kernel
theorem dL_writeSpool_7 : decode cL_writeSpool 7 = .ok (.i2l, 1) := by decide +kernel
theorem dL_writeSpool_8 : decode cL_writeSpool 8 = .ok (.lastore, 1) := by decide +kernel
theorem dL_writeSpool_9 : decode cL_writeSpool 9 = .ok (.goto 6, 3) := by decide +kernel
theorem dL_writeSpool_12 : decode cL_writeSpool 12 = .ok (.astore_n 3, 1) := by decide +kernel
theorem dL_writeSpool_13 : decode cL_writeSpool 13 = .ok (.iconst 1, 1) := by decide +kernel
theorem dL_writeSpool_14 : decode cL_writeSpool 14 = .ok (.ireturn, 1) := by decide +kernel
theorem dL_writeSpool_15 : decode cL_writeSpool 15 = .ok (.iconst 0, 1) := by decide +kernel
theorem dL_writeSpool_16 : decode cL_writeSpool 16 = .ok (.ireturn, 1) := by decide +kernel
theorem dL_charAt_0 : decode cL_charAt 0 = .ok (.aload_n 2, 1) := by decide +kernel
theorem dL_charAt_1 : decode cL_charAt 1 = .ok (.iconst 0, 1) := by decide +kernel
theorem dL_charAt_2 : decode cL_charAt 2 = .ok (.aload_n 0, 1) := by decide +kernel
theorem dL_charAt_3 : decode cL_charAt 3 = .ok (.iload_n 1, 1) := by decide +kernel
theorem dL_charAt_4 : decode cL_charAt 4 = .ok (.invokevirtual 124, 3) := by decide +kernel
theorem dL_charAt_7 : decode cL_charAt 7 = .ok (.i2l, 1) := by decide +kernel
theorem dL_charAt_8 : decode cL_charAt 8 = .ok (.lastore, 1) := by decide +kernel
theorem dL_charAt_9 : decode cL_charAt 9 = .ok (.goto 6, 3) := by decide +kernel
theorem dL_charAt_12 : decode cL_charAt 12 = .ok (.astore_n 3, 1) := by decide +kernel
theorem dL_charAt_13 : decode cL_charAt 13 = .ok (.iconst 1, 1) := by decide +kernel
theorem dL_charAt_14 : decode cL_charAt 14 = .ok (.ireturn, 1) := by decide +kernel
theorem dL_charAt_15 : decode cL_charAt 15 = .ok (.iconst 0, 1) := by decide +kernel
theorem dL_charAt_16 : decode cL_charAt 16 = .ok (.ireturn, 1) := by decide +kernel
theorem dL_type_0 : decode cL_type 0 = .ok (.aload_n 2, 1) := by decide +kernel
theorem dL_type_1 : decode cL_type 1 = .ok (.iconst 0, 1) := by decide +kernel
theorem dL_type_2 : decode cL_type 2 = .ok (.aload_n 0, 1) := by decide +kernel
theorem dL_type_3 : decode cL_type 3 = .ok (.iload_n 1, 1) := by decide +kernel
theorem dL_type_4 : decode cL_type 4 = .ok (.invokevirtual 129, 3) := by decide +kernel
theorem dL_type_7 : decode cL_type 7 = .ok (.i2l, 1) := by decide +kernel
theorem dL_type_8 : decode cL_type 8 = .ok (.lastore, 1) := by decide +kernel
theorem dL_type_9 : decode cL_type 9 = .ok (.goto 6, 3) := by decide +kernel
theorem dL_type_12 : decode cL_type 12 = .ok (.astore_n 3, 1) := by decide +kernel
theorem dL_type_13 : decode cL_type 13 = .ok (.iconst 1, 1) := by decide +kernel
theorem dL_type_14 : decode cL_type 14 = .ok (.ireturn, 1) := by decide +kernel
theorem dL_type_15 : decode cL_type 15 = .ok (.iconst 0, 1) := by decide +kernel
theorem dL_type_16 : decode cL_type 16 = .ok (.ireturn, 1) := by decide +kernel
theorem dL_run_0 : decode cL_run 0 = .ok (.aload_n 1, 1) := by decide +kernel
theorem dL_run_1 : decode cL_run 1 = .ok (.iconst 0, 1) := by decide +kernel
theorem dL_run_2 : decode cL_run 2 = .ok (.aload_n 0, 1) := by decide +kernel
theorem dL_run_3 : decode cL_run 3 = .ok (.invokevirtual 132, 3) := by decide +kernel
theorem dL_run_6 : decode cL_run 6 = .ok (.i2l, 1) := by decide +kernel
theorem dL_run_7 : decode cL_run 7 = .ok (.lastore, 1) := by decide +kernel
theorem dL_run_8 : decode cL_run 8 = .ok (.goto 9, 3) := by decide +kernel
theorem dL_run_11 : decode cL_run 11 = .ok (.astore_n 2, 1) := by decide +kernel
theorem dL_run_12 : decode cL_run 12 = .ok (.iconst 1, 1) := by decide +kernel
theorem dL_run_13 : decode cL_run 13 = .ok (.ireturn, 1) := by decide +kernel
theorem dL_run_14 : decode cL_run 14 = .ok (.astore_n 2, 1) := by decide +kernel
theorem dL_run_15 : decode cL_run 15 = .ok (.iconst 2, 1) := by decide +kernel
theorem dL_run_16 : decode cL_run 16 = .ok (.ireturn, 1) := by decide +kernel
theorem dL_run_17 : decode cL_run 17 = .ok (.iconst 0, 1) := by decide +kernel
theorem dL_run_18 : decode cL_run 18 = .ok (.ireturn, 1) := by decide +kernel
theorem dL_errorPosition_0 : decode cL_errorPosition 0 = .ok (.aload_n 1, 1) := by decide +kernel
theorem dL_errorPosition_1 : decode cL_errorPosition 1 = .ok (.iconst 0, 1) := by decide +kernel
theorem dL_errorPosition_2 : decode cL_errorPosition 2 = .ok (.aload_n 0, 1) := by decide +kernel
theorem dL_errorPosition_3 : decode cL_errorPosition 3 = .ok (.invokevirtual 136, 3) := by decide +kernel
theorem dL_errorPosition_6 : decode cL_errorPosition 6 = .ok (.i2l, 1) := by decide +kernel
theorem dL_errorPosition_7 : decode cL_errorPosition 7 = .ok (.lastore, 1) := by decide +kernel
theorem dL_errorPosition_8 : decode cL_errorPosition 8 = .ok (.goto 6, 3) := by decide +kernel
theorem dL_errorPosition_11 : decode cL_errorPosition 11 = .ok (.astore_n 2, 1) := by decide +kernel
theorem dL_errorPosition_12 : decode cL_errorPosition 12 = .ok (.iconst 1, 1) := by decide +kernel
theorem dL_errorPosition_13 : decode cL_errorPosition 13 = .ok (.ireturn, 1) := by decide +kernel
theorem dL_errorPosition_14 : decode cL_errorPosition 14 = .ok (.iconst 0, 1) := by decide +kernel
theorem dL_errorPosition_15 : decode cL_errorPosition 15 = .ok (.ireturn, 1) := by decide +kernel
theorem dL_failedCommand_0 : decode cL_failedCommand 0 = .ok (.aload_n 1, 1) := by decide +kernel
theorem dL_failedCommand_1 : decode cL_failedCommand 1 = .ok (.iconst 0, 1) := by decide +kernel
theorem dL_failedCommand_2 : decode cL_failedCommand 2 = .ok (.aload_n 0, 1) := by decide +kernel
theorem dL_failedCommand_3 : decode cL_failedCommand 3 = .ok (.invokevirtual 139, 3) := by decide +kernel
theorem dL_failedCommand_6 : decode cL_failedCommand 6 = .ok (.i2l, 1) := by decide +kernel
theorem dL_failedCommand_7 : decode cL_failedCommand 7 = .ok (.lastore, 1) := by decide +kernel
theorem dL_failedCommand_8 : decode cL_failedCommand 8 = .ok (.goto 6, 3) := by decide +kernel
theorem dL_failedCommand_11 : decode cL_failedCommand 11 = .ok (.astore_n 2, 1) := by decide +kernel
theorem dL_failedCommand_12 : decode cL_failedCommand 12 = .ok (.iconst 1, 1) := by decide +kernel
theorem dL_failedCommand_13 : decode cL_failedCommand 13 = .ok (.ireturn, 1) := by decide +kernel
theorem dL_failedCommand_14 : decode cL_failedCommand 14 = .ok (.iconst 0, 1) := by decide +kernel
theorem dL_failedCommand_15 : decode cL_failedCommand 15 = .ok (.ireturn, 1) := by decide +kernel
theorem dL_undo_0 : decode cL_undo 0 = .ok (.aload_n 1, 1) := by decide +kernel
theorem dL_undo_1 : decode cL_undo 1 = .ok (.iconst 0, 1) := by decide +kernel
theorem dL_undo_2 : decode cL_undo 2 = .ok (.aload_n 0, 1) := by decide +kernel
theorem dL_undo_3 : decode cL_undo 3 = .ok (.invokevirtual 142, 3) := by decide +kernel
theorem dL_undo_6 : decode cL_undo 6 = .ok (.i2l, 1) := by decide +kernel
theorem dL_undo_7 : decode cL_undo 7 = .ok (.lastore, 1) := by decide +kernel
theorem dL_undo_8 : decode cL_undo 8 = .ok (.goto 6, 3) := by decide +kernel
theorem dL_undo_11 : decode cL_undo 11 = .ok (.astore_n 2, 1) := by decide +kernel
theorem dL_undo_12 : decode cL_undo 12 = .ok (.iconst 1, 1) := by decide +kernel
theorem dL_undo_13 : decode cL_undo 13 = .ok (.ireturn, 1) := by decide +kernel
theorem dL_undo_14 : decode cL_undo 14 = .ok (.iconst 0, 1) := by decide +kernel
theorem dL_undo_15 : decode cL_undo 15 = .ok (.ireturn, 1) := by decide +kernel
theorem dL_restore_0 : decode cL_restore 0 = .ok (.aload_n 1, 1) := by decide +kernel
theorem dL_restore_1 : decode cL_restore 1 = .ok (.iconst 0, 1) := by decide +kernel
theorem dL_restore_2 : decode cL_restore 2 = .ok (.aload_n 0, 1) := by decide +kernel
theorem dL_restore_3 : decode cL_restore 3 = .ok (.invokevirtual 145, 3) := by decide +kernel
theorem dL_restore_6 : decode cL_restore 6 = .ok (.i2l, 1) := by decide +kernel
theorem dL_restore_7 : decode cL_restore 7 = .ok (.lastore, 1) := by decide +kernel
theorem dL_restore_8 : decode cL_restore 8 = .ok (.goto 6, 3) := by decide +kernel
theorem dL_restore_11 : decode cL_restore 11 = .ok (.astore_n 2, 1) := by decide +kernel
theorem dL_restore_12 : decode cL_restore 12 = .ok (.iconst 1, 1) := by decide +kernel
theorem dL_restore_13 : decode cL_restore 13 = .ok (.ireturn, 1) := by decide +kernel
theorem dL_restore_14 : decode cL_restore 14 = .ok (.iconst 0, 1) := by decide +kernel
theorem dL_restore_15 : decode cL_restore 15 = .ok (.ireturn, 1) := by decide +kernel

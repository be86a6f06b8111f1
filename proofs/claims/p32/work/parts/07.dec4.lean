theorem dX7_openOrders_13 : decode cX7_openOrders 13 = .ok (.iload 4, 2) := by decide +kernel
theorem dX7_openOrders_15 : decode cX7_openOrders 15 = .ok (.iload_n 3, 1) := by decide +kernel
theorem dX7_openOrders_16 : decode cX7_openOrders 16 = .ok (.if_icmp .ge 36, 3) := by decide +kernel
theorem dX7_openOrders_19 : decode cX7_openOrders 19 = .ok (.aload_n 2, 1) := by decide +kernel
theorem dX7_openOrders_20 : decode cX7_openOrders 20 = .ok (.iload 4, 2) := by decide +kernel
theorem dX7_openOrders_22 : decode cX7_openOrders 22 = .ok (.aaload, 1) := by decide +kernel
theorem dX7_openOrders_23 : decode cX7_openOrders 23 = .ok (.astore 5, 2) := by decide +kernel
theorem dX7_openOrders_25 : decode cX7_openOrders 25 = .ok (.iload_n 1, 1) := by decide +kernel
theorem dX7_openOrders_26 : decode cX7_openOrders 26 = .ok (.aload 5, 2) := by decide +kernel
theorem dX7_openOrders_28 : decode cX7_openOrders 28 = .ok (.ifnull 15, 3) := by decide +kernel
theorem dX7_openOrders_31 : decode cX7_openOrders 31 = .ok (.aload 5, 2) := by decide +kernel
theorem dX7_openOrders_33 : decode cX7_openOrders 33 = .ok (.getfield 273, 3) := by decide +kernel
theorem dX7_openOrders_36 : decode cX7_openOrders 36 = .ok (.ifCond .ne 7, 3) := by decide +kernel
theorem dX7_openOrders_39 : decode cX7_openOrders 39 = .ok (.iconst 1, 1) := by decide +kernel
theorem dX7_openOrders_40 : decode cX7_openOrders 40 = .ok (.goto 4, 3) := by decide +kernel
theorem dX7_openOrders_43 : decode cX7_openOrders 43 = .ok (.iconst 0, 1) := by decide +kernel
theorem dX7_openOrders_44 : decode cX7_openOrders 44 = .ok (.iadd, 1) := by decide +kernel
theorem dX7_openOrders_45 : decode cX7_openOrders 45 = .ok (.istore_n 1, 1) := by decide +kernel
theorem dX7_openOrders_46 : decode cX7_openOrders 46 = .ok (.iinc 4 1, 3) := by decide +kernel
theorem dX7_openOrders_49 : decode cX7_openOrders 49 = .ok (.goto (-36), 3) := by decide +kernel
theorem dX7_openOrders_52 : decode cX7_openOrders 52 = .ok (.iload_n 1, 1) := by decide +kernel
theorem dX7_openOrders_53 : decode cX7_openOrders 53 = .ok (.ireturn, 1) := by decide +kernel
theorem dX7_heightOf_0 : decode cX7_heightOf 0 = .ok (.iload_n 0, 1) := by decide +kernel
theorem dX7_heightOf_1 : decode cX7_heightOf 1 = .ok (.iconst 2, 1) := by decide +kernel
theorem dX7_heightOf_2 : decode cX7_heightOf 2 = .ok (.if_icmp .ne 7, 3) := by decide +kernel
theorem dX7_heightOf_5 : decode cX7_heightOf 5 = .ok (.iconst 2, 1) := by decide +kernel
theorem dX7_heightOf_6 : decode cX7_heightOf 6 = .ok (.goto 4, 3) := by decide +kernel
theorem dX7_heightOf_9 : decode cX7_heightOf 9 = .ok (.iconst 3, 1) := by decide +kernel
theorem dX7_heightOf_10 : decode cX7_heightOf 10 = .ok (.ireturn, 1) := by decide +kernel
theorem dX7_cellsFrom_0 : decode cX7_cellsFrom 0 = .ok (.iconst 1, 1) := by decide +kernel
theorem dX7_cellsFrom_1 : decode cX7_cellsFrom 1 = .ok (.iload_n 1, 1) := by decide +kernel
theorem dX7_cellsFrom_2 : decode cX7_cellsFrom 2 = .ok (.ishl, 1) := by decide +kernel
theorem dX7_cellsFrom_3 : decode cX7_cellsFrom 3 = .ok (.iconst 1, 1) := by decide +kernel
theorem dX7_cellsFrom_4 : decode cX7_cellsFrom 4 = .ok (.isub, 1) := by decide +kernel
theorem dX7_cellsFrom_5 : decode cX7_cellsFrom 5 = .ok (.iload_n 0, 1) := by decide +kernel
theorem dX7_cellsFrom_6 : decode cX7_cellsFrom 6 = .ok (.ishl, 1) := by decide +kernel
theorem dX7_cellsFrom_7 : decode cX7_cellsFrom 7 = .ok (.ireturn, 1) := by decide +kernel
theorem dX7_takenCells_0 : decode cX7_takenCells 0 = .ok (.iconst 0, 1) := by decide +kernel
theorem dX7_takenCells_1 : decode cX7_takenCells 1 = .ok (.istore_n 2, 1) := by decide +kernel
theorem dX7_takenCells_2 : decode cX7_takenCells 2 = .ok (.aload_n 0, 1) := by decide +kernel
theorem dX7_takenCells_3 : decode cX7_takenCells 3 = .ok (.getfield 23, 3) := by decide +kernel
theorem dX7_takenCells_6 : decode cX7_takenCells 6 = .ok (.astore_n 3, 1) := by decide +kernel
theorem dX7_takenCells_7 : decode cX7_takenCells 7 = .ok (.aload_n 3, 1) := by decide +kernel
theorem dX7_takenCells_8 : decode cX7_takenCells 8 = .ok (.arraylength, 1) := by decide +kernel
theorem dX7_takenCells_9 : decode cX7_takenCells 9 = .ok (.istore 4, 2) := by decide +kernel
theorem dX7_takenCells_11 : decode cX7_takenCells 11 = .ok (.iconst 0, 1) := by decide +kernel
theorem dX7_takenCells_12 : decode cX7_takenCells 12 = .ok (.istore 5, 2) := by decide +kernel
theorem dX7_takenCells_14 : decode cX7_takenCells 14 = .ok (.iload 5, 2) := by decide +kernel
theorem dX7_takenCells_16 : decode cX7_takenCells 16 = .ok (.iload 4, 2) := by decide +kernel
theorem dX7_takenCells_18 : decode cX7_takenCells 18 = .ok (.if_icmp .ge 45, 3) := by decide +kernel
theorem dX7_takenCells_21 : decode cX7_takenCells 21 = .ok (.aload_n 3, 1) := by decide +kernel
theorem dX7_takenCells_22 : decode cX7_takenCells 22 = .ok (.iload 5, 2) := by decide +kernel
theorem dX7_takenCells_24 : decode cX7_takenCells 24 = .ok (.aaload, 1) := by decide +kernel
theorem dX7_takenCells_25 : decode cX7_takenCells 25 = .ok (.astore 6, 2) := by decide +kernel
theorem dX7_takenCells_27 : decode cX7_takenCells 27 = .ok (.aload 6, 2) := by decide +kernel
theorem dX7_takenCells_29 : decode cX7_takenCells 29 = .ok (.ifnull 28, 3) := by decide +kernel
theorem dX7_takenCells_32 : decode cX7_takenCells 32 = .ok (.aload 6, 2) := by decide +kernel
theorem dX7_takenCells_34 : decode cX7_takenCells 34 = .ok (.getfield 188, 3) := by decide +kernel
theorem dX7_takenCells_37 : decode cX7_takenCells 37 = .ok (.iload_n 1, 1) := by decide +kernel
theorem dX7_takenCells_38 : decode cX7_takenCells 38 = .ok (.if_icmp .ne 19, 3) := by decide +kernel
theorem dX7_takenCells_41 : decode cX7_takenCells 41 = .ok (.iload_n 2, 1) := by decide +kernel
theorem dX7_takenCells_42 : decode cX7_takenCells 42 = .ok (.aload 6, 2) := by decide +kernel
theorem dX7_takenCells_44 : decode cX7_takenCells 44 = .ok (.getfield 191, 3) := by decide +kernel
theorem dX7_takenCells_47 : decode cX7_takenCells 47 = .ok (.aload 6, 2) := by decide +kernel
theorem dX7_takenCells_49 : decode cX7_takenCells 49 = .ok (.getfield 179, 3) := by decide +kernel
theorem dX7_takenCells_52 : decode cX7_takenCells 52 = .ok (.invokestatic 182, 3) := by decide +kernel
theorem dX7_takenCells_55 : decode cX7_takenCells 55 = .ok (.ior, 1) := by decide +kernel
theorem dX7_takenCells_56 : decode cX7_takenCells 56 = .ok (.istore_n 2, 1) := by decide +kernel
theorem dX7_takenCells_57 : decode cX7_takenCells 57 = .ok (.iinc 5 1, 3) := by decide +kernel
theorem dX7_takenCells_60 : decode cX7_takenCells 60 = .ok (.goto (-46), 3) := by decide +kernel
theorem dX7_takenCells_63 : decode cX7_takenCells 63 = .ok (.iload_n 2, 1) := by decide +kernel
theorem dX7_takenCells_64 : decode cX7_takenCells 64 = .ok (.ireturn, 1) := by decide +kernel
theorem dX7_freeCells_0 : decode cX7_freeCells 0 = .ok (.bipush 10, 2) := by decide +kernel
theorem dX7_freeCells_2 : decode cX7_freeCells 2 = .ok (.aload_n 0, 1) := by decide +kernel
theorem dX7_freeCells_3 : decode cX7_freeCells 3 = .ok (.iload_n 1, 1) := by decide +kernel
theorem dX7_freeCells_4 : decode cX7_freeCells 4 = .ok (.invokevirtual 176, 3) := by decide +kernel
theorem dX7_freeCells_7 : decode cX7_freeCells 7 = .ok (.invokestatic 440, 3) := by decide +kernel
theorem dX7_freeCells_10 : decode cX7_freeCells 10 = .ok (.isub, 1) := by decide +kernel
theorem dX7_freeCells_11 : decode cX7_freeCells 11 = .ok (.ireturn, 1) := by decide +kernel
theorem dX7_longestFreeRow_0 : decode cX7_longestFreeRow 0 = .ok (.aload_n 0, 1) := by decide +kernel
theorem dX7_longestFreeRow_1 : decode cX7_longestFreeRow 1 = .ok (.iload_n 1, 1) := by decide +kernel
theorem dX7_longestFreeRow_2 : decode cX7_longestFreeRow 2 = .ok (.invokevirtual 176, 3) := by decide +kernel
theorem dX7_longestFreeRow_5 : decode cX7_longestFreeRow 5 = .ok (.istore_n 2, 1) := by decide +kernel
theorem dX7_longestFreeRow_6 : decode cX7_longestFreeRow 6 = .ok (.iconst 0, 1) := by decide +kernel
theorem dX7_longestFreeRow_7 : decode cX7_longestFreeRow 7 = .ok (.istore_n 3, 1) := by decide +kernel
theorem dX7_longestFreeRow_8 : decode cX7_longestFreeRow 8 = .ok (.iconst 0, 1) := by decide +kernel
theorem dX7_longestFreeRow_9 : decode cX7_longestFreeRow 9 = .ok (.istore 4, 2) := by decide +kernel
theorem dX7_longestFreeRow_11 : decode cX7_longestFreeRow 11 = .ok (.iconst 0, 1) := by decide +kernel
theorem dX7_longestFreeRow_12 : decode cX7_longestFreeRow 12 = .ok (.istore 5, 2) := by decide +kernel
theorem dX7_longestFreeRow_14 : decode cX7_longestFreeRow 14 = .ok (.iload 5, 2) := by decide +kernel
theorem dX7_longestFreeRow_16 : decode cX7_longestFreeRow 16 = .ok (.bipush 10, 2) := by decide +kernel
theorem dX7_longestFreeRow_18 : decode cX7_longestFreeRow 18 = .ok (.if_icmp .ge 35, 3) := by decide +kernel
theorem dX7_longestFreeRow_21 : decode cX7_longestFreeRow 21 = .ok (.iload_n 2, 1) := by decide +kernel
theorem dX7_longestFreeRow_22 : decode cX7_longestFreeRow 22 = .ok (.iload 5, 2) := by decide +kernel
theorem dX7_longestFreeRow_24 : decode cX7_longestFreeRow 24 = .ok (.ishr, 1) := by decide +kernel
theorem dX7_longestFreeRow_25 : decode cX7_longestFreeRow 25 = .ok (.iconst 1, 1) := by decide +kernel
theorem dX7_longestFreeRow_26 : decode cX7_longestFreeRow 26 = .ok (.iand, 1) := by decide +kernel
theorem dX7_longestFreeRow_27 : decode cX7_longestFreeRow 27 = .ok (.ifCond .ne 10, 3) := by decide +kernel
theorem dX7_longestFreeRow_30 : decode cX7_longestFreeRow 30 = .ok (.iload 4, 2) := by decide +kernel
theorem dX7_longestFreeRow_32 : decode cX7_longestFreeRow 32 = .ok (.iconst 1, 1) := by decide +kernel
theorem dX7_longestFreeRow_33 : decode cX7_longestFreeRow 33 = .ok (.iadd, 1) := by decide +kernel
theorem dX7_longestFreeRow_34 : decode cX7_longestFreeRow 34 = .ok (.goto 4, 3) := by decide +kernel
theorem dX7_longestFreeRow_37 : decode cX7_longestFreeRow 37 = .ok (.iconst 0, 1) := by decide +kernel
theorem dX7_longestFreeRow_38 : decode cX7_longestFreeRow 38 = .ok (.istore 4, 2) := by decide +kernel
theorem dX7_longestFreeRow_40 : decode cX7_longestFreeRow 40 = .ok (.iload_n 3, 1) := by decide +kernel
theorem dX7_longestFreeRow_41 : decode cX7_longestFreeRow 41 = .ok (.iload 4, 2) := by decide +kernel
theorem dX7_longestFreeRow_43 : decode cX7_longestFreeRow 43 = .ok (.invokestatic 445, 3) := by decide +kernel
theorem dX7_longestFreeRow_46 : decode cX7_longestFreeRow 46 = .ok (.istore_n 3, 1) := by decide +kernel
theorem dX7_longestFreeRow_47 : decode cX7_longestFreeRow 47 = .ok (.iinc 5 1, 3) := by decide +kernel
theorem dX7_longestFreeRow_50 : decode cX7_longestFreeRow 50 = .ok (.goto (-36), 3) := by decide +kernel
theorem dX7_longestFreeRow_53 : decode cX7_longestFreeRow 53 = .ok (.iload_n 3, 1) := by decide +kernel
theorem dX7_longestFreeRow_54 : decode cX7_longestFreeRow 54 = .ok (.ireturn, 1) := by decide +kernel
theorem dX7_sumsOfWidths_0 : decode cX7_sumsOfWidths 0 = .ok (.iconst 1, 1) := by decide +kernel
theorem dX7_sumsOfWidths_1 : decode cX7_sumsOfWidths 1 = .ok (.istore_n 2, 1) := by decide +kernel
theorem dX7_sumsOfWidths_2 : decode cX7_sumsOfWidths 2 = .ok (.aload_n 0, 1) := by decide +kernel
theorem dX7_sumsOfWidths_3 : decode cX7_sumsOfWidths 3 = .ok (.getfield 23, 3) := by decide +kernel
theorem dX7_sumsOfWidths_6 : decode cX7_sumsOfWidths 6 = .ok (.astore_n 3, 1) := by decide +kernel
theorem dX7_sumsOfWidths_7 : decode cX7_sumsOfWidths 7 = .ok (.aload_n 3, 1) := by decide +kernel
theorem dX7_sumsOfWidths_8 : decode cX7_sumsOfWidths 8 = .ok (.arraylength, 1) := by decide +kernel
theorem dX7_sumsOfWidths_9 : decode cX7_sumsOfWidths 9 = .ok (.istore 4, 2) := by decide +kernel
theorem dX7_sumsOfWidths_11 : decode cX7_sumsOfWidths 11 = .ok (.iconst 0, 1) := by decide +kernel
theorem dX7_sumsOfWidths_12 : decode cX7_sumsOfWidths 12 = .ok (.istore 5, 2) := by decide +kernel
theorem dX7_sumsOfWidths_14 : decode cX7_sumsOfWidths 14 = .ok (.iload 5, 2) := by decide +kernel
theorem dX7_sumsOfWidths_16 : decode cX7_sumsOfWidths 16 = .ok (.iload 4, 2) := by decide +kernel
theorem dX7_sumsOfWidths_18 : decode cX7_sumsOfWidths 18 = .ok (.if_icmp .ge 54, 3) := by decide +kernel
theorem dX7_sumsOfWidths_21 : decode cX7_sumsOfWidths 21 = .ok (.aload_n 3, 1) := by decide +kernel
theorem dX7_sumsOfWidths_22 : decode cX7_sumsOfWidths 22 = .ok (.iload 5, 2) := by decide +kernel
theorem dX7_sumsOfWidths_24 : decode cX7_sumsOfWidths 24 = .ok (.aaload, 1) := by decide +kernel
theorem dX7_sumsOfWidths_25 : decode cX7_sumsOfWidths 25 = .ok (.astore 6, 2) := by decide +kernel
theorem dX7_sumsOfWidths_27 : decode cX7_sumsOfWidths 27 = .ok (.aload 6, 2) := by decide +kernel
theorem dX7_sumsOfWidths_29 : decode cX7_sumsOfWidths 29 = .ok (.ifnull 37, 3) := by decide +kernel
theorem dX7_sumsOfWidths_32 : decode cX7_sumsOfWidths 32 = .ok (.aload 6, 2) := by decide +kernel
theorem dX7_sumsOfWidths_34 : decode cX7_sumsOfWidths 34 = .ok (.invokevirtual 450, 3) := by decide +kernel
theorem dX7_sumsOfWidths_37 : decode cX7_sumsOfWidths 37 = .ok (.ifCond .eq 29, 3) := by decide +kernel
theorem dX7_sumsOfWidths_40 : decode cX7_sumsOfWidths 40 = .ok (.aload 6, 2) := by decide +kernel
theorem dX7_sumsOfWidths_42 : decode cX7_sumsOfWidths 42 = .ok (.getfield 168, 3) := by decide +kernel
theorem dX7_sumsOfWidths_45 : decode cX7_sumsOfWidths 45 = .ok (.iload_n 1, 1) := by decide +kernel
theorem dX7_sumsOfWidths_46 : decode cX7_sumsOfWidths 46 = .ok (.if_icmp .gt 20, 3) := by decide +kernel
theorem dX7_sumsOfWidths_49 : decode cX7_sumsOfWidths 49 = .ok (.iload_n 2, 1) := by decide +kernel
theorem dX7_sumsOfWidths_50 : decode cX7_sumsOfWidths 50 = .ok (.iload_n 2, 1) := by decide +kernel
theorem dX7_sumsOfWidths_51 : decode cX7_sumsOfWidths 51 = .ok (.aload 6, 2) := by decide +kernel
theorem dX7_sumsOfWidths_53 : decode cX7_sumsOfWidths 53 = .ok (.getfield 179, 3) := by decide +kernel
theorem dX7_sumsOfWidths_56 : decode cX7_sumsOfWidths 56 = .ok (.ishl, 1) := by decide +kernel
theorem dX7_sumsOfWidths_57 : decode cX7_sumsOfWidths 57 = .ok (.iconst 0, 1) := by decide +kernel
theorem dX7_sumsOfWidths_58 : decode cX7_sumsOfWidths 58 = .ok (.bipush 11, 2) := by decide +kernel
theorem dX7_sumsOfWidths_60 : decode cX7_sumsOfWidths 60 = .ok (.invokestatic 182, 3) := by decide +kernel
theorem dX7_sumsOfWidths_63 : decode cX7_sumsOfWidths 63 = .ok (.iand, 1) := by decide +kernel
theorem dX7_sumsOfWidths_64 : decode cX7_sumsOfWidths 64 = .ok (.ior, 1) := by decide +kernel
theorem dX7_sumsOfWidths_65 : decode cX7_sumsOfWidths 65 = .ok (.istore_n 2, 1) := by decide +kernel
theorem dX7_sumsOfWidths_66 : decode cX7_sumsOfWidths 66 = .ok (.iinc 5 1, 3) := by decide +kernel
theorem dX7_sumsOfWidths_69 : decode cX7_sumsOfWidths 69 = .ok (.goto (-55), 3) := by decide +kernel
theorem dX7_sumsOfWidths_72 : decode cX7_sumsOfWidths 72 = .ok (.iload_n 2, 1) := by decide +kernel
theorem dX7_sumsOfWidths_73 : decode cX7_sumsOfWidths 73 = .ok (.ireturn, 1) := by decide +kernel
theorem dJ6_bitCount_0f7a4_0 : decode cJ6_bitCount_0f7a4 0 = .ok (.iload_n 0, 1) := by decide +kernel
theorem dJ6_bitCount_0f7a4_1 : decode cJ6_bitCount_0f7a4 1 = .ok (.iload_n 0, 1) := by decide +kernel
theorem dJ6_bitCount_0f7a4_2 : decode cJ6_bitCount_0f7a4 2 = .ok (.iconst 1, 1) := by decide +kernel
theorem dJ6_bitCount_0f7a4_3 : decode cJ6_bitCount_0f7a4 3 = .ok (.iushr, 1) := by decide +kernel
theorem dJ6_bitCount_0f7a4_4 : decode cJ6_bitCount_0f7a4 4 = .ok (.ldc_w 265, 3) := by decide +kernel
theorem dJ6_bitCount_0f7a4_7 : decode cJ6_bitCount_0f7a4 7 = .ok (.iand, 1) := by decide +kernel
theorem dJ6_bitCount_0f7a4_8 : decode cJ6_bitCount_0f7a4 8 = .ok (.isub, 1) := by decide +kernel
theorem dJ6_bitCount_0f7a4_9 : decode cJ6_bitCount_0f7a4 9 = .ok (.istore_n 0, 1) := by decide +kernel
theorem dJ6_bitCount_0f7a4_10 : decode cJ6_bitCount_0f7a4 10 = .ok (.iload_n 0, 1) := by decide +kernel
theorem dJ6_bitCount_0f7a4_11 : decode cJ6_bitCount_0f7a4 11 = .ok (.ldc_w 266, 3) := by decide +kernel
theorem dJ6_bitCount_0f7a4_14 : decode cJ6_bitCount_0f7a4 14 = .ok (.iand, 1) := by decide +kernel
theorem dJ6_bitCount_0f7a4_15 : decode cJ6_bitCount_0f7a4 15 = .ok (.iload_n 0, 1) := by decide +kernel
theorem dJ6_bitCount_0f7a4_16 : decode cJ6_bitCount_0f7a4 16 = .ok (.iconst 2, 1) := by decide +kernel
theorem dJ6_bitCount_0f7a4_17 : decode cJ6_bitCount_0f7a4 17 = .ok (.iushr, 1) := by decide +kernel
theorem dJ6_bitCount_0f7a4_18 : decode cJ6_bitCount_0f7a4 18 = .ok (.ldc_w 266, 3) := by decide +kernel
theorem dJ6_bitCount_0f7a4_21 : decode cJ6_bitCount_0f7a4 21 = .ok (.iand, 1) := by decide +kernel
theorem dJ6_bitCount_0f7a4_22 : decode cJ6_bitCount_0f7a4 22 = .ok (.iadd, 1) := by decide +kernel
theorem dJ6_bitCount_0f7a4_23 : decode cJ6_bitCount_0f7a4 23 = .ok (.istore_n 0, 1) := by decide +kernel
theorem dJ6_bitCount_0f7a4_24 : decode cJ6_bitCount_0f7a4 24 = .ok (.iload_n 0, 1) := by decide +kernel
theorem dJ6_bitCount_0f7a4_25 : decode cJ6_bitCount_0f7a4 25 = .ok (.iload_n 0, 1) := by decide +kernel
theorem dJ6_bitCount_0f7a4_26 : decode cJ6_bitCount_0f7a4 26 = .ok (.iconst 4, 1) := by decide +kernel
theorem dJ6_bitCount_0f7a4_27 : decode cJ6_bitCount_0f7a4 27 = .ok (.iushr, 1) := by decide +kernel
theorem dJ6_bitCount_0f7a4_28 : decode cJ6_bitCount_0f7a4 28 = .ok (.iadd, 1) := by decide +kernel
theorem dJ6_bitCount_0f7a4_29 : decode cJ6_bitCount_0f7a4 29 = .ok (.ldc_w 267, 3) := by decide +kernel
theorem dJ6_bitCount_0f7a4_32 : decode cJ6_bitCount_0f7a4 32 = .ok (.iand, 1) := by decide +kernel
theorem dJ6_bitCount_0f7a4_33 : decode cJ6_bitCount_0f7a4 33 = .ok (.istore_n 0, 1) := by decide +kernel
theorem dJ6_bitCount_0f7a4_34 : decode cJ6_bitCount_0f7a4 34 = .ok (.iload_n 0, 1) := by decide +kernel
theorem dJ6_bitCount_0f7a4_35 : decode cJ6_bitCount_0f7a4 35 = .ok (.iload_n 0, 1) := by decide +kernel
theorem dJ6_bitCount_0f7a4_36 : decode cJ6_bitCount_0f7a4 36 = .ok (.bipush 8, 2) := by decide +kernel
theorem dJ6_bitCount_0f7a4_38 : decode cJ6_bitCount_0f7a4 38 = .ok (.iushr, 1) := by decide +kernel
theorem dJ6_bitCount_0f7a4_39 : decode cJ6_bitCount_0f7a4 39 = .ok (.iadd, 1) := by decide +kernel
theorem dJ6_bitCount_0f7a4_40 : decode cJ6_bitCount_0f7a4 40 = .ok (.istore_n 0, 1) := by decide +kernel
theorem dJ6_bitCount_0f7a4_41 : decode cJ6_bitCount_0f7a4 41 = .ok (.iload_n 0, 1) := by decide +kernel
theorem dJ6_bitCount_0f7a4_42 : decode cJ6_bitCount_0f7a4 42 = .ok (.iload_n 0, 1) := by decide +kernel
theorem dJ6_bitCount_0f7a4_43 : decode cJ6_bitCount_0f7a4 43 = .ok (.bipush 16, 2) := by decide +kernel
theorem dJ6_bitCount_0f7a4_45 : decode cJ6_bitCount_0f7a4 45 = .ok (.iushr, 1) := by decide +kernel
theorem dJ6_bitCount_0f7a4_46 : decode cJ6_bitCount_0f7a4 46 = .ok (.iadd, 1) := by decide +kernel
theorem dJ6_bitCount_0f7a4_47 : decode cJ6_bitCount_0f7a4 47 = .ok (.istore_n 0, 1) := by decide +kernel
theorem dJ6_bitCount_0f7a4_48 : decode cJ6_bitCount_0f7a4 48 = .ok (.iload_n 0, 1) := by decide +kernel
theorem dJ6_bitCount_0f7a4_49 : decode cJ6_bitCount_0f7a4 49 = .ok (.bipush 63, 2) := by decide +kernel
theorem dJ6_bitCount_0f7a4_51 : decode cJ6_bitCount_0f7a4 51 = .ok (.iand, 1) := by decide +kernel
theorem dJ6_bitCount_0f7a4_52 : decode cJ6_bitCount_0f7a4 52 = .ok (.ireturn, 1) := by decide +kernel
theorem dJ9_max_7cf53_0 : decode cJ9_max_7cf53 0 = .ok (.iload_n 0, 1) := by decide +kernel
theorem dJ9_max_7cf53_1 : decode cJ9_max_7cf53 1 = .ok (.iload_n 1, 1) := by decide +kernel
theorem dJ9_max_7cf53_2 : decode cJ9_max_7cf53 2 = .ok (.if_icmp .lt 7, 3) := by decide +kernel
theorem dJ9_max_7cf53_5 : decode cJ9_max_7cf53 5 = .ok (.iload_n 0, 1) := by decide +kernel
theorem dJ9_max_7cf53_6 : decode cJ9_max_7cf53 6 = .ok (.goto 4, 3) := by decide +kernel
theorem dJ9_max_7cf53_9 : decode cJ9_max_7cf53 9 = .ok (.iload_n 1, 1) := by decide +kernel
theorem dJ9_max_7cf53_10 : decode cJ9_max_7cf53 10 = .ok (.ireturn, 1) := by decide +kernel
theorem dJ9_min_7cf53_0 : decode cJ9_min_7cf53 0 = .ok (.iload_n 0, 1) := by decide +kernel
theorem dJ9_min_7cf53_1 : decode cJ9_min_7cf53 1 = .ok (.iload_n 1, 1) := by decide +kernel
theorem dJ9_min_7cf53_2 : decode cJ9_min_7cf53 2 = .ok (.if_icmp .gt 7, 3) := by decide +kernel
theorem dJ9_min_7cf53_5 : decode cJ9_min_7cf53 5 = .ok (.iload_n 0, 1) := by decide +kernel
theorem dJ9_min_7cf53_6 : decode cJ9_min_7cf53 6 = .ok (.goto 4, 3) := by decide +kernel
theorem dJ9_min_7cf53_9 : decode cJ9_min_7cf53 9 = .ok (.iload_n 1, 1) := by decide +kernel
theorem dJ9_min_7cf53_10 : decode cJ9_min_7cf53 10 = .ok (.ireturn, 1) := by decide +kernel
theorem dL_below_0 : decode cL_below 0 = .ok (.iload_n 0, 1) := by decide +kernel
theorem dL_below_1 : decode cL_below 1 = .ok (.ldc 7, 2) := by decide +kernel
theorem dL_below_3 : decode cL_below 3 = .ok (.iand, 1) := by decide +kernel
theorem dL_below_4 : decode cL_below 4 = .ok (.iload_n 1, 1) := by decide +kernel
theorem dL_below_5 : decode cL_below 5 = .ok (.irem, 1) := by decide +kernel
theorem dL_below_6 : decode cL_below 6 = .ok (.ireturn, 1) := by decide +kernel
theorem dL_cell_0 : decode cL_cell 0 = .ok (.iload_n 1, 1) := by decide +kernel
theorem dL_cell_1 : decode cL_cell 1 = .ok (.aload_n 0, 1) := by decide +kernel
theorem dL_cell_2 : decode cL_cell 2 = .ok (.arraylength, 1) := by decide +kernel
theorem dL_cell_3 : decode cL_cell 3 = .ok (.if_icmp .ge 9, 3) := by decide +kernel
theorem dL_cell_6 : decode cL_cell 6 = .ok (.aload_n 0, 1) := by decide +kernel
theorem dL_cell_7 : decode cL_cell 7 = .ok (.iload_n 1, 1) := by decide +kernel
theorem dL_cell_8 : decode cL_cell 8 = .ok (.iaload, 1) := by decide +kernel
theorem dL_cell_9 : decode cL_cell 9 = .ok (.goto 9, 3) := by decide +kernel
theorem dL_cell_12 : decode cL_cell 12 = .ok (.ldc 8, 2) := by decide +kernel
theorem dL_cell_14 : decode cL_cell 14 = .ok (.iload_n 1, 1) := by decide +kernel
theorem dL_cell_15 : decode cL_cell 15 = .ok (.iconst 3, 1) := by decide +kernel
theorem dL_cell_16 : decode cL_cell 16 = .ok (.iadd, 1) := by decide +kernel
theorem dL_cell_17 : decode cL_cell 17 = .ok (.imul, 1) := by decide +kernel
theorem dL_cell_18 : decode cL_cell 18 = .ok (.ireturn, 1) := by decide +kernel
theorem dL_law_0 : decode cL_law 0 = .ok (.new 9, 3) := by decide +kernel
theorem dL_law_3 : decode cL_law 3 = .ok (.dup, 1) := by decide +kernel
theorem dL_law_4 : decode cL_law 4 = .ok (.invokespecial 11, 3) := by decide +kernel
theorem dL_law_7 : decode cL_law 7 = .ok (.astore_n 1, 1) := by decide +kernel
theorem dL_law_8 : decode cL_law 8 = .ok (.aload_n 1, 1) := by decide +kernel
theorem dL_law_9 : decode cL_law 9 = .ok (.iconst 1, 1) := by decide +kernel
theorem dL_law_10 : decode cL_law 10 = .ok (.aload_n 0, 1) := by decide +kernel
theorem dL_law_11 : decode cL_law 11 = .ok (.iconst 0, 1) := by decide +kernel
theorem dL_law_12 : decode cL_law 12 = .ok (.invokestatic 12, 3) := by decide +kernel
theorem dL_law_15 : decode cL_law 15 = .ok (.bipush 12, 2) := by decide +kernel
theorem dL_law_17 : decode cL_law 17 = .ok (.invokestatic 18, 3) := by decide +kernel
theorem dL_law_20 : decode cL_law 20 = .ok (.iadd, 1) := by decide +kernel
theorem dL_law_21 : decode cL_law 21 = .ok (.bipush 8, 2) := by decide +kernel
theorem dL_law_23 : decode cL_law 23 = .ok (.aload_n 0, 1) := by decide +kernel
theorem dL_law_24 : decode cL_law 24 = .ok (.iconst 1, 1) := by decide +kernel
theorem dL_law_25 : decode cL_law 25 = .ok (.invokestatic 12, 3) := by decide +kernel
theorem dL_law_28 : decode cL_law 28 = .ok (.bipush 33, 2) := by decide +kernel
theorem dL_law_30 : decode cL_law 30 = .ok (.invokestatic 18, 3) := by decide +kernel
theorem dL_law_33 : decode cL_law 33 = .ok (.iadd, 1) := by decide +kernel
theorem dL_law_34 : decode cL_law 34 = .ok (.invokevirtual 22, 3) := by decide +kernel
theorem dL_law_37 : decode cL_law 37 = .ok (.pop, 1) := by decide +kernel
theorem dL_law_38 : decode cL_law 38 = .ok (.iconst 0, 1) := by decide +kernel
theorem dL_law_39 : decode cL_law 39 = .ok (.istore_n 2, 1) := by decide +kernel
theorem dL_law_40 : decode cL_law 40 = .ok (.iload_n 2, 1) := by decide +kernel
theorem dL_law_41 : decode cL_law 41 = .ok (.iconst 3, 1) := by decide +kernel
theorem dL_law_42 : decode cL_law 42 = .ok (.if_icmp .ge 76, 3) := by decide +kernel
theorem dL_law_45 : decode cL_law 45 = .ok (.aload_n 1, 1) := by decide +kernel
theorem dL_law_46 : decode cL_law 46 = .ok (.iconst 1, 1) := by decide +kernel
theorem dL_law_47 : decode cL_law 47 = .ok (.aload_n 0, 1) := by decide +kernel
theorem dL_law_48 : decode cL_law 48 = .ok (.iload_n 2, 1) := by decide +kernel
theorem dL_law_49 : decode cL_law 49 = .ok (.invokestatic 12, 3) := by decide +kernel
theorem dL_law_52 : decode cL_law 52 = .ok (.bipush 30, 2) := by decide +kernel
theorem dL_law_54 : decode cL_law 54 = .ok (.invokestatic 18, 3) := by decide +kernel
theorem dL_law_57 : decode cL_law 57 = .ok (.iadd, 1) := by decide +kernel
theorem dL_law_58 : decode cL_law 58 = .ok (.aload_n 0, 1) := by decide +kernel
theorem dL_law_59 : decode cL_law 59 = .ok (.iload_n 2, 1) := by decide +kernel
theorem dL_law_60 : decode cL_law 60 = .ok (.iconst 3, 1) := by decide +kernel
theorem dL_law_61 : decode cL_law 61 = .ok (.iadd, 1) := by decide +kernel
theorem dL_law_62 : decode cL_law 62 = .ok (.invokestatic 12, 3) := by decide +kernel
theorem dL_law_65 : decode cL_law 65 = .ok (.bipush 30, 2) := by decide +kernel
theorem dL_law_67 : decode cL_law 67 = .ok (.invokestatic 18, 3) := by decide +kernel
theorem dL_law_70 : decode cL_law 70 = .ok (.aload_n 0, 1) := by decide +kernel
theorem dL_law_71 : decode cL_law 71 = .ok (.iload_n 2, 1) := by decide +kernel
theorem dL_law_72 : decode cL_law 72 = .ok (.bipush 6, 2) := by decide +kernel
theorem dL_law_74 : decode cL_law 74 = .ok (.iadd, 1) := by decide +kernel
theorem dL_law_75 : decode cL_law 75 = .ok (.invokestatic 12, 3) := by decide +kernel
theorem dL_law_78 : decode cL_law 78 = .ok (.bipush 30, 2) := by decide +kernel
theorem dL_law_80 : decode cL_law 80 = .ok (.invokestatic 18, 3) := by decide +kernel
theorem dL_law_83 : decode cL_law 83 = .ok (.aload_n 0, 1) := by decide +kernel
theorem dL_law_84 : decode cL_law 84 = .ok (.iload_n 2, 1) := by decide +kernel
theorem dL_law_85 : decode cL_law 85 = .ok (.bipush 9, 2) := by decide +kernel
theorem dL_law_87 : decode cL_law 87 = .ok (.iadd, 1) := by decide +kernel
theorem dL_law_88 : decode cL_law 88 = .ok (.invokestatic 12, 3) := by decide +kernel
theorem dL_law_91 : decode cL_law 91 = .ok (.bipush 61, 2) := by decide +kernel
theorem dL_law_93 : decode cL_law 93 = .ok (.invokestatic 18, 3) := by decide +kernel
theorem dL_law_96 : decode cL_law 96 = .ok (.aload_n 0, 1) := by decide +kernel
theorem dL_law_97 : decode cL_law 97 = .ok (.iload_n 2, 1) := by decide +kernel
theorem dL_law_98 : decode cL_law 98 = .ok (.iconst 2, 1) := by decide +kernel
theorem dL_law_99 : decode cL_law 99 = .ok (.iadd, 1) := by decide +kernel
theorem dL_law_100 : decode cL_law 100 = .ok (.invokestatic 12, 3) := by decide +kernel
theorem dL_law_103 : decode cL_law 103 = .ok (.bipush 10, 2) := by decide +kernel
theorem dL_law_105 : decode cL_law 105 = .ok (.invokestatic 18, 3) := by decide +kernel
theorem dL_law_108 : decode cL_law 108 = .ok (.invokevirtual 25, 3) := by decide +kernel
theorem dL_law_111 : decode cL_law 111 = .ok (.pop, 1) := by decide +kernel
theorem dL_law_112 : decode cL_law 112 = .ok (.iinc 2 1, 3) := by decide +kernel
theorem dL_law_115 : decode cL_law 115 = .ok (.goto (-75), 3) := by decide +kernel
theorem dL_law_118 : decode cL_law 118 = .ok (.iconst 0, 1) := by decide +kernel
theorem dL_law_119 : decode cL_law 119 = .ok (.istore_n 2, 1) := by decide +kernel
theorem dL_law_120 : decode cL_law 120 = .ok (.iload_n 2, 1) := by decide +kernel
theorem dL_law_121 : decode cL_law 121 = .ok (.bipush 10, 2) := by decide +kernel
theorem dL_law_123 : decode cL_law 123 = .ok (.if_icmp .ge 53, 3) := by decide +kernel
theorem dL_law_126 : decode cL_law 126 = .ok (.aload_n 1, 1) := by decide +kernel
theorem dL_law_127 : decode cL_law 127 = .ok (.iconst 0, 1) := by decide +kernel
theorem dL_law_128 : decode cL_law 128 = .ok (.iconst 1, 1) := by decide +kernel
theorem dL_law_129 : decode cL_law 129 = .ok (.aload_n 0, 1) := by decide +kernel
theorem dL_law_130 : decode cL_law 130 = .ok (.iload_n 2, 1) := by decide +kernel
theorem dL_law_131 : decode cL_law 131 = .ok (.invokestatic 12, 3) := by decide +kernel
theorem dL_law_134 : decode cL_law 134 = .ok (.iconst 4, 1) := by decide +kernel
theorem dL_law_135 : decode cL_law 135 = .ok (.invokestatic 18, 3) := by decide +kernel
theorem dL_law_138 : decode cL_law 138 = .ok (.iadd, 1) := by decide +kernel
theorem dL_law_139 : decode cL_law 139 = .ok (.iconst 1, 1) := by decide +kernel
theorem dL_law_140 : decode cL_law 140 = .ok (.aload_n 0, 1) := by decide +kernel
theorem dL_law_141 : decode cL_law 141 = .ok (.iload_n 2, 1) := by decide +kernel
theorem dL_law_142 : decode cL_law 142 = .ok (.iconst 4, 1) := by decide +kernel
theorem dL_law_143 : decode cL_law 143 = .ok (.iadd, 1) := by decide +kernel
theorem dL_law_144 : decode cL_law 144 = .ok (.invokestatic 12, 3) := by decide +kernel
theorem dL_law_147 : decode cL_law 147 = .ok (.iconst 3, 1) := by decide +kernel
theorem dL_law_148 : decode cL_law 148 = .ok (.invokestatic 18, 3) := by decide +kernel
theorem dL_law_151 : decode cL_law 151 = .ok (.iadd, 1) := by decide +kernel
theorem dL_law_152 : decode cL_law 152 = .ok (.iconst 1, 1) := by decide +kernel
theorem dL_law_153 : decode cL_law 153 = .ok (.aload_n 0, 1) := by decide +kernel
theorem dL_law_154 : decode cL_law 154 = .ok (.iload_n 2, 1) := by decide +kernel
theorem dL_law_155 : decode cL_law 155 = .ok (.bipush 7, 2) := by decide +kernel
theorem dL_law_157 : decode cL_law 157 = .ok (.iadd, 1) := by decide +kernel
theorem dL_law_158 : decode cL_law 158 = .ok (.invokestatic 12, 3) := by decide +kernel
theorem dL_law_161 : decode cL_law 161 = .ok (.iconst 3, 1) := by decide +kernel
theorem dL_law_162 : decode cL_law 162 = .ok (.invokestatic 18, 3) := by decide +kernel
theorem dL_law_165 : decode cL_law 165 = .ok (.ishl, 1) := by decide +kernel
theorem dL_law_166 : decode cL_law 166 = .ok (.invokevirtual 29, 3) := by decide +kernel
theorem dL_law_169 : decode cL_law 169 = .ok (.pop, 1) := by decide +kernel
theorem dL_law_170 : decode cL_law 170 = .ok (.iinc 2 1, 3) := by decide +kernel
theorem dL_law_173 : decode cL_law 173 = .ok (.goto (-53), 3) := by decide +kernel
theorem dL_law_176 : decode cL_law 176 = .ok (.bipush 10, 2) := by decide +kernel
theorem dL_law_178 : decode cL_law 178 = .ok (.newarray .double, 2) := by decide +kernel
theorem dL_law_180 : decode cL_law 180 = .ok (.astore_n 2, 1) := by decide +kernel
theorem dL_law_181 : decode cL_law 181 = .ok (.bipush 10, 2) := by decide +kernel
theorem dL_law_183 : decode cL_law 183 = .ok (.newarray .boolean, 2) := by decide +kernel
theorem dL_law_185 : decode cL_law 185 = .ok (.astore_n 3, 1) := by decide +kernel
theorem dL_law_186 : decode cL_law 186 = .ok (.iconst 0, 1) := by decide +kernel
theorem dL_law_187 : decode cL_law 187 = .ok (.istore 4, 2) := by decide +kernel
theorem dL_law_189 : decode cL_law 189 = .ok (.iload 4, 2) := by decide +kernel
theorem dL_law_191 : decode cL_law 191 = .ok (.bipush 10, 2) := by decide +kernel
theorem dL_law_193 : decode cL_law 193 = .ok (.if_icmp .ge 16, 3) := by decide +kernel
theorem dL_law_196 : decode cL_law 196 = .ok (.aload_n 2, 1) := by decide +kernel
theorem dL_law_197 : decode cL_law 197 = .ok (.iload 4, 2) := by decide +kernel
theorem dL_law_199 : decode cL_law 199 = .ok (.ldc2_w 33, 3) := by decide +kernel
theorem dL_law_202 : decode cL_law 202 = .ok (.dastore, 1) := by decide +kernel
theorem dL_law_203 : decode cL_law 203 = .ok (.iinc 4 1, 3) := by decide +kernel
theorem dL_law_206 : decode cL_law 206 = .ok (.goto (-17), 3) := by decide +kernel
theorem dL_law_209 : decode cL_law 209 = .ok (.iconst 0, 1) := by decide +kernel
theorem dL_law_210 : decode cL_law 210 = .ok (.istore 4, 2) := by decide +kernel
theorem dL_law_212 : decode cL_law 212 = .ok (.iconst 0, 1) := by decide +kernel
theorem dL_law_213 : decode cL_law 213 = .ok (.istore 5, 2) := by decide +kernel
theorem dL_law_215 : decode cL_law 215 = .ok (.iconst 0, 1) := by decide +kernel
theorem dL_law_216 : decode cL_law 216 = .ok (.istore 6, 2) := by decide +kernel
theorem dL_law_218 : decode cL_law 218 = .ok (.iload 6, 2) := by decide +kernel
theorem dL_law_220 : decode cL_law 220 = .ok (.bipush 70, 2) := by decide +kernel
theorem dL_law_222 : decode cL_law 222 = .ok (.if_icmp .ge 571, 3) := by decide +kernel
theorem dL_law_225 : decode cL_law 225 = .ok (.aload_n 0, 1) := by decide +kernel
theorem dL_law_226 : decode cL_law 226 = .ok (.iload 6, 2) := by decide +kernel
theorem dL_law_228 : decode cL_law 228 = .ok (.bipush 16, 2) := by decide +kernel
theorem dL_law_230 : decode cL_law 230 = .ok (.irem, 1) := by decide +kernel
theorem dL_law_231 : decode cL_law 231 = .ok (.invokestatic 12, 3) := by decide +kernel
theorem dL_law_234 : decode cL_law 234 = .ok (.bipush 67, 2) := by decide +kernel
theorem dL_law_236 : decode cL_law 236 = .ok (.iload 6, 2) := by decide +kernel
theorem dL_law_238 : decode cL_law 238 = .ok (.imul, 1) := by decide +kernel
theorem dL_law_239 : decode cL_law 239 = .ok (.iadd, 1) := by decide +kernel
theorem dL_law_240 : decode cL_law 240 = .ok (.istore 7, 2) := by decide +kernel
theorem dL_law_242 : decode cL_law 242 = .ok (.iload 7, 2) := by decide +kernel
theorem dL_law_244 : decode cL_law 244 = .ok (.iconst 3, 1) := by decide +kernel
theorem dL_law_245 : decode cL_law 245 = .ok (.ishr, 1) := by decide +kernel
theorem dL_law_246 : decode cL_law 246 = .ok (.bipush 10, 2) := by decide +kernel
theorem dL_law_248 : decode cL_law 248 = .ok (.invokestatic 18, 3) := by decide +kernel
theorem dL_law_251 : decode cL_law 251 = .ok (.istore 8, 2) := by decide +kernel
theorem dL_law_253 : decode cL_law 253 = .ok (.aload_n 1, 1) := by decide +kernel
theorem dL_law_254 : decode cL_law 254 = .ok (.iconst 2, 1) := by decide +kernel
theorem dL_law_255 : decode cL_law 255 = .ok (.invokevirtual 35, 3) := by decide +kernel
theorem dL_law_258 : decode cL_law 258 = .ok (.ifCond .ne 19, 3) := by decide +kernel
theorem dL_law_261 : decode cL_law 261 = .ok (.aload_n 1, 1) := by decide +kernel
theorem dL_law_262 : decode cL_law 262 = .ok (.iconst 0, 1) := by decide +kernel
theorem dL_law_263 : decode cL_law 263 = .ok (.invokevirtual 39, 3) := by decide +kernel
theorem dL_law_266 : decode cL_law 266 = .ok (.ldc2_w 43, 3) := by decide +kernel
theorem dL_law_269 : decode cL_law 269 = .ok (.dcmp .g, 1) := by decide +kernel
theorem dL_law_270 : decode cL_law 270 = .ok (.ifCond .ge 7, 3) := by decide +kernel
theorem dL_law_273 : decode cL_law 273 = .ok (.iconst 1, 1) := by decide +kernel
theorem dL_law_274 : decode cL_law 274 = .ok (.goto 4, 3) := by decide +kernel
theorem dL_law_277 : decode cL_law 277 = .ok (.iconst 0, 1) := by decide +kernel
theorem dL_law_278 : decode cL_law 278 = .ok (.istore 9, 2) := by decide +kernel
theorem dL_law_280 : decode cL_law 280 = .ok (.iconst 0, 1) := by decide +kernel
theorem dL_law_281 : decode cL_law 281 = .ok (.istore 10, 2) := by decide +kernel
theorem dL_law_283 : decode cL_law 283 = .ok (.iload 7, 2) := by decide +kernel
theorem dL_law_285 : decode cL_law 285 = .ok (.bipush 9, 2) := by decide +kernel
theorem dL_law_287 : decode cL_law 287 = .ok (.invokestatic 18, 3) := by decide +kernel
theorem dL_law_290 : decode cL_law 290 = .ok (.tableswitch 278 0 7 #[46, 88, 114, 114, 141, 201, 225, 249], 46) := by decide +kernel
theorem dL_law_336 : decode cL_law 336 = .ok (.aload_n 1, 1) := by decide +kernel
theorem dL_law_337 : decode cL_law 337 = .ok (.iconst 0, 1) := by decide +kernel
theorem dL_law_338 : decode cL_law 338 = .ok (.invokevirtual 35, 3) := by decide +kernel
theorem dL_law_341 : decode cL_law 341 = .ok (.sipush 190, 3) := by decide +kernel
theorem dL_law_344 : decode cL_law 344 = .ok (.if_icmp .ge 278, 3) := by decide +kernel
theorem dL_law_347 : decode cL_law 347 = .ok (.aload_n 1, 1) := by decide +kernel
theorem dL_law_348 : decode cL_law 348 = .ok (.iconst 1, 1) := by decide +kernel
theorem dL_law_349 : decode cL_law 349 = .ok (.iload 7, 2) := by decide +kernel
theorem dL_law_351 : decode cL_law 351 = .ok (.iconst 4, 1) := by decide +kernel
theorem dL_law_352 : decode cL_law 352 = .ok (.ishr, 1) := by decide +kernel
theorem dL_law_353 : decode cL_law 353 = .ok (.bipush 9, 2) := by decide +kernel
theorem dL_law_355 : decode cL_law 355 = .ok (.invokestatic 18, 3) := by decide +kernel
theorem dL_law_358 : decode cL_law 358 = .ok (.iadd, 1) := by decide +kernel
theorem dL_law_359 : decode cL_law 359 = .ok (.iconst 1, 1) := by decide +kernel
theorem dL_law_360 : decode cL_law 360 = .ok (.iload 7, 2) := by decide +kernel
theorem dL_law_362 : decode cL_law 362 = .ok (.bipush 6, 2) := by decide +kernel
theorem dL_law_364 : decode cL_law 364 = .ok (.ishr, 1) := by decide +kernel
theorem dL_law_365 : decode cL_law 365 = .ok (.bipush 8, 2) := by decide +kernel
theorem dL_law_367 : decode cL_law 367 = .ok (.invokestatic 18, 3) := by decide +kernel
theorem dL_law_370 : decode cL_law 370 = .ok (.iadd, 1) := by decide +kernel
theorem dL_law_371 : decode cL_law 371 = .ok (.invokevirtual 45, 3) := by decide +kernel
theorem dL_law_374 : decode cL_law 374 = .ok (.pop, 1) := by decide +kernel
theorem dL_law_375 : decode cL_law 375 = .ok (.goto 247, 3) := by decide +kernel
theorem dL_law_378 : decode cL_law 378 = .ok (.aload_n 1, 1) := by decide +kernel
theorem dL_law_379 : decode cL_law 379 = .ok (.iload 8, 2) := by decide +kernel
theorem dL_law_381 : decode cL_law 381 = .ok (.iload 7, 2) := by decide +kernel
theorem dL_law_383 : decode cL_law 383 = .ok (.iconst 5, 1) := by decide +kernel
theorem dL_law_384 : decode cL_law 384 = .ok (.ishr, 1) := by decide +kernel
theorem dL_law_385 : decode cL_law 385 = .ok (.iconst 2, 1) := by decide +kernel
theorem dL_law_386 : decode cL_law 386 = .ok (.invokestatic 18, 3) := by decide +kernel
theorem dL_law_389 : decode cL_law 389 = .ok (.ifCond .ne 7, 3) := by decide +kernel
theorem dL_law_392 : decode cL_law 392 = .ok (.iconst 1, 1) := by decide +kernel
theorem dL_law_393 : decode cL_law 393 = .ok (.goto 4, 3) := by decide +kernel
theorem dL_law_396 : decode cL_law 396 = .ok (.iconst 0, 1) := by decide +kernel
theorem dL_law_397 : decode cL_law 397 = .ok (.invokevirtual 48, 3) := by decide +kernel
theorem dL_law_400 : decode cL_law 400 = .ok (.pop, 1) := by decide +kernel
theorem dL_law_401 : decode cL_law 401 = .ok (.goto 221, 3) := by decide +kernel
theorem dL_law_404 : decode cL_law 404 = .ok (.aload_n 1, 1) := by decide +kernel
theorem dL_law_405 : decode cL_law 405 = .ok (.iload 8, 2) := by decide +kernel
theorem dL_law_407 : decode cL_law 407 = .ok (.iload 7, 2) := by decide +kernel
theorem dL_law_409 : decode cL_law 409 = .ok (.iconst 4, 1) := by decide +kernel
theorem dL_law_410 : decode cL_law 410 = .ok (.ishr, 1) := by decide +kernel
theorem dL_law_411 : decode cL_law 411 = .ok (.iconst 3, 1) := by decide +kernel
theorem dL_law_412 : decode cL_law 412 = .ok (.invokestatic 18, 3) := by decide +kernel
theorem dL_law_415 : decode cL_law 415 = .ok (.iload 7, 2) := by decide +kernel
theorem dL_law_417 : decode cL_law 417 = .ok (.bipush 6, 2) := by decide +kernel
theorem dL_law_419 : decode cL_law 419 = .ok (.ishr, 1) := by decide +kernel
theorem dL_law_420 : decode cL_law 420 = .ok (.bipush 10, 2) := by decide +kernel
theorem dL_law_422 : decode cL_law 422 = .ok (.invokestatic 18, 3) := by decide +kernel
theorem dL_law_425 : decode cL_law 425 = .ok (.invokestatic 52, 3) := by decide +kernel
theorem dL_law_428 : decode cL_law 428 = .ok (.goto 194, 3) := by decide +kernel
theorem dL_law_431 : decode cL_law 431 = .ok (.aload_n 1, 1) := by decide +kernel
theorem dL_law_432 : decode cL_law 432 = .ok (.iconst 2, 1) := by decide +kernel
theorem dL_law_433 : decode cL_law 433 = .ok (.invokevirtual 35, 3) := by decide +kernel
theorem dL_law_436 : decode cL_law 436 = .ok (.ifCond .ne 186, 3) := by decide +kernel
theorem dL_law_439 : decode cL_law 439 = .ok (.aload_n 1, 1) := by decide +kernel
theorem dL_law_440 : decode cL_law 440 = .ok (.iconst 5, 1) := by decide +kernel
theorem dL_law_441 : decode cL_law 441 = .ok (.invokevirtual 35, 3) := by decide +kernel
theorem dL_law_444 : decode cL_law 444 = .ok (.iconst 5, 1) := by decide +kernel
theorem dL_law_445 : decode cL_law 445 = .ok (.if_icmp .ge 177, 3) := by decide +kernel
theorem dL_law_448 : decode cL_law 448 = .ok (.aload_n 1, 1) := by decide +kernel
theorem dL_law_449 : decode cL_law 449 = .ok (.bipush 10, 2) := by decide +kernel
theorem dL_law_451 : decode cL_law 451 = .ok (.iload 7, 2) := by decide +kernel
theorem dL_law_453 : decode cL_law 453 = .ok (.iconst 3, 1) := by decide +kernel
theorem dL_law_454 : decode cL_law 454 = .ok (.ishr, 1) := by decide +kernel
theorem dL_law_455 : decode cL_law 455 = .ok (.sipush 191, 3) := by decide +kernel
theorem dL_law_458 : decode cL_law 458 = .ok (.invokestatic 18, 3) := by decide +kernel
theorem dL_law_461 : decode cL_law 461 = .ok (.iadd, 1) := by decide +kernel
theorem dL_law_462 : decode cL_law 462 = .ok (.bipush 100, 2) := by decide +kernel
theorem dL_law_464 : decode cL_law 464 = .ok (.iload 7, 2) := by decide +kernel
theorem dL_law_466 : decode cL_law 466 = .ok (.iconst 5, 1) := by decide +kernel
theorem dL_law_467 : decode cL_law 467 = .ok (.ishr, 1) := by decide +kernel
theorem dL_law_468 : decode cL_law 468 = .ok (.sipush 1301, 3) := by decide +kernel
theorem dL_law_471 : decode cL_law 471 = .ok (.invokestatic 18, 3) := by decide +kernel
theorem dL_law_474 : decode cL_law 474 = .ok (.iadd, 1) := by decide +kernel
theorem dL_law_475 : decode cL_law 475 = .ok (.iload 7, 2) := by decide +kernel
theorem dL_law_477 : decode cL_law 477 = .ok (.bipush 9, 2) := by decide +kernel
theorem dL_law_479 : decode cL_law 479 = .ok (.ishr, 1) := by decide +kernel
theorem dL_law_480 : decode cL_law 480 = .ok (.iconst 5, 1) := by decide +kernel
theorem dL_law_481 : decode cL_law 481 = .ok (.invokestatic 18, 3) := by decide +kernel
theorem dL_law_484 : decode cL_law 484 = .ok (.invokevirtual 56, 3) := by decide +kernel
theorem dL_law_487 : decode cL_law 487 = .ok (.pop, 1) := by decide +kernel
theorem dL_law_488 : decode cL_law 488 = .ok (.goto 134, 3) := by decide +kernel
theorem dL_law_491 : decode cL_law 491 = .ok (.aload_n 1, 1) := by decide +kernel
theorem dL_law_492 : decode cL_law 492 = .ok (.iconst 2, 1) := by decide +kernel
theorem dL_law_493 : decode cL_law 493 = .ok (.invokevirtual 35, 3) := by decide +kernel
theorem dL_law_496 : decode cL_law 496 = .ok (.ifCond .ne 126, 3) := by decide +kernel
theorem dL_law_499 : decode cL_law 499 = .ok (.aload_n 1, 1) := by decide +kernel
theorem dL_law_500 : decode cL_law 500 = .ok (.iconst 5, 1) := by decide +kernel
theorem dL_law_501 : decode cL_law 501 = .ok (.invokevirtual 35, 3) := by decide +kernel
theorem dL_law_504 : decode cL_law 504 = .ok (.ifCond .le 118, 3) := by decide +kernel
theorem dL_law_507 : decode cL_law 507 = .ok (.aload_n 1, 1) := by decide +kernel
theorem dL_law_508 : decode cL_law 508 = .ok (.invokevirtual 60, 3) := by decide +kernel
theorem dL_law_511 : decode cL_law 511 = .ok (.pop, 1) := by decide +kernel
theorem dL_law_512 : decode cL_law 512 = .ok (.goto 110, 3) := by decide +kernel
theorem dL_law_515 : decode cL_law 515 = .ok (.aload_n 1, 1) := by decide +kernel
theorem dL_law_516 : decode cL_law 516 = .ok (.iload 7, 2) := by decide +kernel
theorem dL_law_518 : decode cL_law 518 = .ok (.iconst 4, 1) := by decide +kernel
theorem dL_law_519 : decode cL_law 519 = .ok (.ishr, 1) := by decide +kernel
theorem dL_law_520 : decode cL_law 520 = .ok (.iconst 3, 1) := by decide +kernel
theorem dL_law_521 : decode cL_law 521 = .ok (.invokestatic 18, 3) := by decide +kernel
theorem dL_law_524 : decode cL_law 524 = .ok (.ifCond .ne 7, 3) := by decide +kernel
theorem dL_law_527 : decode cL_law 527 = .ok (.iconst 1, 1) := by decide +kernel
theorem dL_law_528 : decode cL_law 528 = .ok (.goto 4, 3) := by decide +kernel
theorem dL_law_531 : decode cL_law 531 = .ok (.iconst 0, 1) := by decide +kernel
theorem dL_law_532 : decode cL_law 532 = .ok (.invokevirtual 64, 3) := by decide +kernel
theorem dL_law_535 : decode cL_law 535 = .ok (.pop, 1) := by decide +kernel
theorem dL_law_536 : decode cL_law 536 = .ok (.goto 86, 3) := by decide +kernel
theorem dL_law_539 : decode cL_law 539 = .ok (.iload 9, 2) := by decide +kernel
theorem dL_law_541 : decode cL_law 541 = .ok (.ifCond .eq 11, 3) := by decide +kernel
theorem dL_law_544 : decode cL_law 544 = .ok (.aload_n 1, 1) := by decide +kernel
theorem dL_law_545 : decode cL_law 545 = .ok (.invokevirtual 68, 3) := by decide +kernel
theorem dL_law_548 : decode cL_law 548 = .ok (.pop, 1) := by decide +kernel
theorem dL_law_549 : decode cL_law 549 = .ok (.goto 73, 3) := by decide +kernel
theorem dL_law_552 : decode cL_law 552 = .ok (.aload_n 1, 1) := by decide +kernel
theorem dL_law_553 : decode cL_law 553 = .ok (.iload 7, 2) := by decide +kernel
theorem dL_law_555 : decode cL_law 555 = .ok (.iconst 4, 1) := by decide +kernel
theorem dL_law_556 : decode cL_law 556 = .ok (.ishr, 1) := by decide +kernel
theorem dL_law_557 : decode cL_law 557 = .ok (.iconst 5, 1) := by decide +kernel
theorem dL_law_558 : decode cL_law 558 = .ok (.invokestatic 18, 3) := by decide +kernel
theorem dL_law_561 : decode cL_law 561 = .ok (.invokevirtual 71, 3) := by decide +kernel
theorem dL_law_564 : decode cL_law 564 = .ok (.pop, 1) := by decide +kernel
theorem dL_law_565 : decode cL_law 565 = .ok (.goto 57, 3) := by decide +kernel
theorem dL_law_568 : decode cL_law 568 = .ok (.aload_n 1, 1) := by decide +kernel
theorem dL_law_569 : decode cL_law 569 = .ok (.iconst 2, 1) := by decide +kernel
theorem dL_law_570 : decode cL_law 570 = .ok (.invokevirtual 35, 3) := by decide +kernel
theorem dL_law_573 : decode cL_law 573 = .ok (.iconst 1, 1) := by decide +kernel
theorem dL_law_574 : decode cL_law 574 = .ok (.if_icmp .ne 7, 3) := by decide +kernel
theorem dL_law_577 : decode cL_law 577 = .ok (.iconst 1, 1) := by decide +kernel
theorem dL_law_578 : decode cL_law 578 = .ok (.goto 4, 3) := by decide +kernel
theorem dL_law_581 : decode cL_law 581 = .ok (.iconst 0, 1) := by decide +kernel
theorem dL_law_582 : decode cL_law 582 = .ok (.istore 11, 2) := by decide +kernel
theorem dL_law_584 : decode cL_law 584 = .ok (.iconst 1, 1) := by decide +kernel
theorem dL_law_585 : decode cL_law 585 = .ok (.iload 7, 2) := by decide +kernel
theorem dL_law_587 : decode cL_law 587 = .ok (.iconst 5, 1) := by decide +kernel
theorem dL_law_588 : decode cL_law 588 = .ok (.ishr, 1) := by decide +kernel
theorem dL_law_589 : decode cL_law 589 = .ok (.bipush 30, 2) := by decide +kernel
theorem dL_law_591 : decode cL_law 591 = .ok (.invokestatic 18, 3) := by decide +kernel
theorem dL_law_594 : decode cL_law 594 = .ok (.iadd, 1) := by decide +kernel
theorem dL_law_595 : decode cL_law 595 = .ok (.istore 10, 2) := by decide +kernel
theorem dL_law_597 : decode cL_law 597 = .ok (.aload_n 1, 1) := by decide +kernel
theorem dL_law_598 : decode cL_law 598 = .ok (.iload 10, 2) := by decide +kernel
theorem dL_law_600 : decode cL_law 600 = .ok (.invokevirtual 74, 3) := by decide +kernel
theorem dL_law_603 : decode cL_law 603 = .ok (.pop, 1) := by decide +kernel
theorem dL_law_604 : decode cL_law 604 = .ok (.iload 11, 2) := by decide +kernel
theorem dL_law_606 : decode cL_law 606 = .ok (.ifCond .ne 16, 3) := by decide +kernel
theorem dL_law_609 : decode cL_law 609 = .ok (.aload_n 1, 1) := by decide +kernel
theorem dL_law_610 : decode cL_law 610 = .ok (.bipush 10, 2) := by decide +kernel
theorem dL_law_612 : decode cL_law 612 = .ok (.invokevirtual 35, 3) := by decide +kernel
theorem dL_law_615 : decode cL_law 615 = .ok (.iload 4, 2) := by decide +kernel
theorem dL_law_617 : decode cL_law 617 = .ok (.if_icmp .eq 5, 3) := by decide +kernel
theorem dL_law_620 : decode cL_law 620 = .ok (.iconst 0, 1) := by decide +kernel
theorem dL_law_621 : decode cL_law 621 = .ok (.ireturn, 1) := by decide +kernel
theorem dL_law_622 : decode cL_law 622 = .ok (.iload 5, 2) := by decide +kernel
theorem dL_law_624 : decode cL_law 624 = .ok (.iload 10, 2) := by decide +kernel
theorem dL_law_626 : decode cL_law 626 = .ok (.iadd, 1) := by decide +kernel
theorem dL_law_627 : decode cL_law 627 = .ok (.istore 5, 2) := by decide +kernel
theorem dL_law_629 : decode cL_law 629 = .ok (.aload_n 1, 1) := by decide +kernel
theorem dL_law_630 : decode cL_law 630 = .ok (.iconst 1, 1) := by decide +kernel
theorem dL_law_631 : decode cL_law 631 = .ok (.invokevirtual 35, 3) := by decide +kernel
theorem dL_law_634 : decode cL_law 634 = .ok (.iload 5, 2) := by decide +kernel
theorem dL_law_636 : decode cL_law 636 = .ok (.if_icmp .ne 50, 3) := by decide +kernel
theorem dL_law_639 : decode cL_law 639 = .ok (.aload_n 1, 1) := by decide +kernel
theorem dL_law_640 : decode cL_law 640 = .ok (.bipush 10, 2) := by decide +kernel
theorem dL_law_642 : decode cL_law 642 = .ok (.invokevirtual 35, 3) := by decide +kernel
theorem dL_law_645 : decode cL_law 645 = .ok (.iload 4, 2) := by decide +kernel
theorem dL_law_647 : decode cL_law 647 = .ok (.if_icmp .lt 39, 3) := by decide +kernel
theorem dL_law_650 : decode cL_law 650 = .ok (.aload_n 1, 1) := by decide +kernel
theorem dL_law_651 : decode cL_law 651 = .ok (.bipush 10, 2) := by decide +kernel
theorem dL_law_653 : decode cL_law 653 = .ok (.invokevirtual 35, 3) := by decide +kernel
theorem dL_law_656 : decode cL_law 656 = .ok (.iload 4, 2) := by decide +kernel
theorem dL_law_658 : decode cL_law 658 = .ok (.iconst 2, 1) := by decide +kernel
theorem dL_law_659 : decode cL_law 659 = .ok (.iload 10, 2) := by decide +kernel
theorem dL_law_661 : decode cL_law 661 = .ok (.imul, 1) := by decide +kernel
theorem dL_law_662 : decode cL_law 662 = .ok (.iadd, 1) := by decide +kernel
theorem dL_law_663 : decode cL_law 663 = .ok (.if_icmp .gt 23, 3) := by decide +kernel
theorem dL_law_666 : decode cL_law 666 = .ok (.aload_n 1, 1) := by decide +kernel
theorem dL_law_667 : decode cL_law 667 = .ok (.iconst 0, 1) := by decide +kernel
theorem dL_law_668 : decode cL_law 668 = .ok (.invokevirtual 39, 3) := by decide +kernel
theorem dL_law_671 : decode cL_law 671 = .ok (.ldc2_w 78, 3) := by decide +kernel
theorem dL_law_674 : decode cL_law 674 = .ok (.dcmp .g, 1) := by decide +kernel
theorem dL_law_675 : decode cL_law 675 = .ok (.ifCond .lt 11, 3) := by decide +kernel
theorem dL_law_678 : decode cL_law 678 = .ok (.aload_n 1, 1) := by decide +kernel
theorem dL_law_679 : decode cL_law 679 = .ok (.aload_n 0, 1) := by decide +kernel
theorem dL_law_680 : decode cL_law 680 = .ok (.invokestatic 80, 3) := by decide +kernel
theorem dL_law_683 : decode cL_law 683 = .ok (.ifCond .ne 5, 3) := by decide +kernel
theorem dL_law_686 : decode cL_law 686 = .ok (.iconst 0, 1) := by decide +kernel
theorem dL_law_687 : decode cL_law 687 = .ok (.ireturn, 1) := by decide +kernel
theorem dL_law_688 : decode cL_law 688 = .ok (.aload_n 1, 1) := by decide +kernel
theorem dL_law_689 : decode cL_law 689 = .ok (.bipush 10, 2) := by decide +kernel
theorem dL_law_691 : decode cL_law 691 = .ok (.invokevirtual 35, 3) := by decide +kernel
theorem dL_law_694 : decode cL_law 694 = .ok (.istore 4, 2) := by decide +kernel
theorem dL_law_696 : decode cL_law 696 = .ok (.iconst 0, 1) := by decide +kernel
theorem dL_law_697 : decode cL_law 697 = .ok (.istore 11, 2) := by decide +kernel
theorem dL_law_699 : decode cL_law 699 = .ok (.iload 11, 2) := by decide +kernel
theorem dL_law_701 : decode cL_law 701 = .ok (.bipush 10, 2) := by decide +kernel
theorem dL_law_703 : decode cL_law 703 = .ok (.if_icmp .ge 84, 3) := by decide +kernel
theorem dL_law_706 : decode cL_law 706 = .ok (.aload_n 1, 1) := by decide +kernel
theorem dL_law_707 : decode cL_law 707 = .ok (.iload 11, 2) := by decide +kernel
theorem dL_law_709 : decode cL_law 709 = .ok (.invokevirtual 84, 3) := by decide +kernel
theorem dL_law_712 : decode cL_law 712 = .ok (.aload_n 2, 1) := by decide +kernel
theorem dL_law_713 : decode cL_law 713 = .ok (.iload 11, 2) := by decide +kernel
theorem dL_law_715 : decode cL_law 715 = .ok (.daload, 1) := by decide +kernel
theorem dL_law_716 : decode cL_law 716 = .ok (.dcmp .l, 1) := by decide +kernel
theorem dL_law_717 : decode cL_law 717 = .ok (.ifCond .gt 32, 3) := by decide +kernel
theorem dL_law_720 : decode cL_law 720 = .ok (.aload_n 1, 1) := by decide +kernel
theorem dL_law_721 : decode cL_law 721 = .ok (.iload 11, 2) := by decide +kernel
theorem dL_law_723 : decode cL_law 723 = .ok (.invokevirtual 84, 3) := by decide +kernel
theorem dL_law_726 : decode cL_law 726 = .ok (.dconst 0, 1) := by decide +kernel
theorem dL_law_727 : decode cL_law 727 = .ok (.dcmp .g, 1) := by decide +kernel
theorem dL_law_728 : decode cL_law 728 = .ok (.ifCond .lt 21, 3) := by decide +kernel
theorem dL_law_731 : decode cL_law 731 = .ok (.aload_n 3, 1) := by decide +kernel
theorem dL_law_732 : decode cL_law 732 = .ok (.iload 11, 2) := by decide +kernel
theorem dL_law_734 : decode cL_law 734 = .ok (.baload, 1) := by decide +kernel
theorem dL_law_735 : decode cL_law 735 = .ok (.ifCond .eq 16, 3) := by decide +kernel
theorem dL_law_738 : decode cL_law 738 = .ok (.aload_n 1, 1) := by decide +kernel
theorem dL_law_739 : decode cL_law 739 = .ok (.iload 11, 2) := by decide +kernel
theorem dL_law_741 : decode cL_law 741 = .ok (.iconst 0, 1) := by decide +kernel
theorem dL_law_742 : decode cL_law 742 = .ok (.invokevirtual 87, 3) := by decide +kernel
theorem dL_law_745 : decode cL_law 745 = .ok (.iconst 5, 1) := by decide +kernel
theorem dL_law_746 : decode cL_law 746 = .ok (.if_icmp .eq 5, 3) := by decide +kernel
theorem dL_law_749 : decode cL_law 749 = .ok (.iconst 0, 1) := by decide +kernel
theorem dL_law_750 : decode cL_law 750 = .ok (.ireturn, 1) := by decide +kernel
theorem dL_law_751 : decode cL_law 751 = .ok (.aload_n 2, 1) := by decide +kernel
theorem dL_law_752 : decode cL_law 752 = .ok (.iload 11, 2) := by decide +kernel
theorem dL_law_754 : decode cL_law 754 = .ok (.aload_n 1, 1) := by decide +kernel
theorem dL_law_755 : decode cL_law 755 = .ok (.iload 11, 2) := by decide +kernel
theorem dL_law_757 : decode cL_law 757 = .ok (.invokevirtual 84, 3) := by decide +kernel
theorem dL_law_760 : decode cL_law 760 = .ok (.dastore, 1) := by decide +kernel
theorem dL_law_761 : decode cL_law 761 = .ok (.aload_n 3, 1) := by decide +kernel
theorem dL_law_762 : decode cL_law 762 = .ok (.iload 11, 2) := by decide +kernel
theorem dL_law_764 : decode cL_law 764 = .ok (.aload_n 1, 1) := by decide +kernel
theorem dL_law_765 : decode cL_law 765 = .ok (.iload 11, 2) := by decide +kernel
theorem dL_law_767 : decode cL_law 767 = .ok (.iconst 0, 1) := by decide +kernel
theorem dL_law_768 : decode cL_law 768 = .ok (.invokevirtual 87, 3) := by decide +kernel
theorem dL_law_771 : decode cL_law 771 = .ok (.iconst 5, 1) := by decide +kernel
theorem dL_law_772 : decode cL_law 772 = .ok (.if_icmp .ne 7, 3) := by decide +kernel
theorem dL_law_775 : decode cL_law 775 = .ok (.iconst 1, 1) := by decide +kernel
theorem dL_law_776 : decode cL_law 776 = .ok (.goto 4, 3) := by decide +kernel
theorem dL_law_779 : decode cL_law 779 = .ok (.iconst 0, 1) := by decide +kernel
theorem dL_law_780 : decode cL_law 780 = .ok (.bastore, 1) := by decide +kernel
theorem dL_law_781 : decode cL_law 781 = .ok (.iinc 11 1, 3) := by decide +kernel
theorem dL_law_784 : decode cL_law 784 = .ok (.goto (-85), 3) := by decide +kernel
theorem dL_law_787 : decode cL_law 787 = .ok (.iinc 6 1, 3) := by decide +kernel
theorem dL_law_790 : decode cL_law 790 = .ok (.goto (-572), 3) := by decide +kernel
theorem dL_law_793 : decode cL_law 793 = .ok (.aload_n 1, 1) := by decide +kernel
theorem dL_law_794 : decode cL_law 794 = .ok (.invokevirtual 90, 3) := by decide +kernel
theorem dL_law_797 : decode cL_law 797 = .ok (.lstore 6, 2) := by decide +kernel
theorem dL_law_799 : decode cL_law 799 = .ok (.aload_n 1, 1) := by decide +kernel
theorem dL_law_800 : decode cL_law 800 = .ok (.iconst 1, 1) := by decide +kernel
theorem dL_law_801 : decode cL_law 801 = .ok (.bipush 60, 2) := by decide +kernel
theorem dL_law_803 : decode cL_law 803 = .ok (.invokevirtual 94, 3) := by decide +kernel
theorem dL_law_806 : decode cL_law 806 = .ok (.ifCond .lt 37, 3) := by decide +kernel
theorem dL_law_809 : decode cL_law 809 = .ok (.aload_n 1, 1) := by decide +kernel
theorem dL_law_810 : decode cL_law 810 = .ok (.iconst 0, 1) := by decide +kernel
theorem dL_law_811 : decode cL_law 811 = .ok (.invokevirtual 97, 3) := by decide +kernel
theorem dL_law_814 : decode cL_law 814 = .ok (.bipush 10, 2) := by decide +kernel
theorem dL_law_816 : decode cL_law 816 = .ok (.if_icmp .gt 27, 3) := by decide +kernel
theorem dL_law_819 : decode cL_law 819 = .ok (.aload_n 1, 1) := by decide +kernel
theorem dL_law_820 : decode cL_law 820 = .ok (.iconst 0, 1) := by decide +kernel
theorem dL_law_821 : decode cL_law 821 = .ok (.iconst 3, 1) := by decide +kernel
theorem dL_law_822 : decode cL_law 822 = .ok (.invokevirtual 100, 3) := by decide +kernel
theorem dL_law_825 : decode cL_law 825 = .ok (.iconst (-1), 1) := by decide +kernel
theorem dL_law_826 : decode cL_law 826 = .ok (.if_icmp .lt 17, 3) := by decide +kernel
theorem dL_law_829 : decode cL_law 829 = .ok (.aload_n 1, 1) := by decide +kernel
theorem dL_law_830 : decode cL_law 830 = .ok (.invokevirtual 90, 3) := by decide +kernel
theorem dL_law_833 : decode cL_law 833 = .ok (.lload 6, 2) := by decide +kernel
theorem dL_law_835 : decode cL_law 835 = .ok (.lcmp, 1) := by decide +kernel
theorem dL_law_836 : decode cL_law 836 = .ok (.ifCond .ne 7, 3) := by decide +kernel
theorem dL_law_839 : decode cL_law 839 = .ok (.iconst 1, 1) := by decide +kernel
theorem dL_law_840 : decode cL_law 840 = .ok (.goto 4, 3) := by decide +kernel
theorem dL_law_843 : decode cL_law 843 = .ok (.iconst 0, 1) := by decide +kernel
theorem dL_law_844 : decode cL_law 844 = .ok (.ireturn, 1) := by decide +kernel
theorem dL_place_0 : decode cL_place 0 = .ok (.aload_n 0, 1) := by decide +kernel
theorem dL_place_1 : decode cL_place 1 = .ok (.iload_n 1, 1) := by decide +kernel
theorem dL_place_2 : decode cL_place 2 = .ok (.iconst 0, 1) := by decide +kernel
theorem dL_place_3 : decode cL_place 3 = .ok (.invokevirtual 87, 3) := by decide +kernel
theorem dL_place_6 : decode cL_place 6 = .ok (.iconst 2, 1) := by decide +kernel
theorem dL_place_7 : decode cL_place 7 = .ok (.if_icmp .ne 13, 3) := by decide +kernel
theorem dL_place_10 : decode cL_place 10 = .ok (.aload_n 0, 1) := by decide +kernel
theorem dL_place_11 : decode cL_place 11 = .ok (.iload_n 1, 1) := by decide +kernel
theorem dL_place_12 : decode cL_place 12 = .ok (.iload_n 2, 1) := by decide +kernel
theorem dL_place_13 : decode cL_place 13 = .ok (.invokevirtual 103, 3) := by decide +kernel
theorem dL_place_16 : decode cL_place 16 = .ok (.pop, 1) := by decide +kernel
theorem dL_place_17 : decode cL_place 17 = .ok (.goto 11, 3) := by decide +kernel
theorem dL_place_20 : decode cL_place 20 = .ok (.aload_n 0, 1) := by decide +kernel
theorem dL_place_21 : decode cL_place 21 = .ok (.iload_n 1, 1) := by decide +kernel
theorem dL_place_22 : decode cL_place 22 = .ok (.iload_n 2, 1) := by decide +kernel
theorem dL_place_23 : decode cL_place 23 = .ok (.iload_n 3, 1) := by decide +kernel
theorem dL_place_24 : decode cL_place 24 = .ok (.invokevirtual 106, 3) := by decide +kernel
theorem dL_place_27 : decode cL_place 27 = .ok (.pop, 1) := by decide +kernel
theorem dL_place_28 : decode cL_place 28 = .ok (.goto 12, 3) := by decide +kernel
theorem dL_place_31 : decode cL_place 31 = .ok (.astore 4, 2) := by decide +kernel
theorem dL_place_33 : decode cL_place 33 = .ok (.aload_n 0, 1) := by decide +kernel
theorem dL_place_34 : decode cL_place 34 = .ok (.iload_n 1, 1) := by decide +kernel
theorem dL_place_35 : decode cL_place 35 = .ok (.iconst 1, 1) := by decide +kernel
theorem dL_place_36 : decode cL_place 36 = .ok (.invokevirtual 48, 3) := by decide +kernel
theorem dL_place_39 : decode cL_place 39 = .ok (.pop, 1) := by decide +kernel
theorem dL_place_40 : decode cL_place 40 = .ok (.return_, 1) := by decide +kernel
theorem dL_areApart_0 : decode cL_areApart 0 = .ok (.iconst 0, 1) := by decide +kernel
theorem dL_areApart_1 : decode cL_areApart 1 = .ok (.istore_n 2, 1) := by decide +kernel
theorem dL_areApart_2 : decode cL_areApart 2 = .ok (.iload_n 2, 1) := by decide +kernel
theorem dL_areApart_3 : decode cL_areApart 3 = .ok (.iconst 3, 1) := by decide +kernel
theorem dL_areApart_4 : decode cL_areApart 4 = .ok (.if_icmp .ge 86, 3) := by decide +kernel
theorem dL_areApart_7 : decode cL_areApart 7 = .ok (.iconst 0, 1) := by decide +kernel
theorem dL_areApart_8 : decode cL_areApart 8 = .ok (.istore_n 3, 1) := by decide +kernel
theorem dL_areApart_9 : decode cL_areApart 9 = .ok (.iconst 0, 1) := by decide +kernel
theorem dL_areApart_10 : decode cL_areApart 10 = .ok (.istore 4, 2) := by decide +kernel
theorem dL_areApart_12 : decode cL_areApart 12 = .ok (.iload 4, 2) := by decide +kernel
theorem dL_areApart_14 : decode cL_areApart 14 = .ok (.bipush 10, 2) := by decide +kernel
theorem dL_areApart_16 : decode cL_areApart 16 = .ok (.if_icmp .ge 28, 3) := by decide +kernel
theorem dL_areApart_19 : decode cL_areApart 19 = .ok (.iload_n 3, 1) := by decide +kernel
theorem dL_areApart_20 : decode cL_areApart 20 = .ok (.aload_n 0, 1) := by decide +kernel
theorem dL_areApart_21 : decode cL_areApart 21 = .ok (.iload 4, 2) := by decide +kernel
theorem dL_areApart_23 : decode cL_areApart 23 = .ok (.iconst 3, 1) := by decide +kernel
theorem dL_areApart_24 : decode cL_areApart 24 = .ok (.invokevirtual 87, 3) := by decide +kernel
theorem dL_areApart_27 : decode cL_areApart 27 = .ok (.iload_n 2, 1) := by decide +kernel
theorem dL_areApart_28 : decode cL_areApart 28 = .ok (.if_icmp .ne 7, 3) := by decide +kernel
theorem dL_areApart_31 : decode cL_areApart 31 = .ok (.iconst 1, 1) := by decide +kernel
theorem dL_areApart_32 : decode cL_areApart 32 = .ok (.goto 4, 3) := by decide +kernel
theorem dL_areApart_35 : decode cL_areApart 35 = .ok (.iconst 0, 1) := by decide +kernel
theorem dL_areApart_36 : decode cL_areApart 36 = .ok (.iadd, 1) := by decide +kernel
theorem dL_areApart_37 : decode cL_areApart 37 = .ok (.istore_n 3, 1) := by decide +kernel
theorem dL_areApart_38 : decode cL_areApart 38 = .ok (.iinc 4 1, 3) := by decide +kernel
theorem dL_areApart_41 : decode cL_areApart 41 = .ok (.goto (-29), 3) := by decide +kernel
theorem dL_areApart_44 : decode cL_areApart 44 = .ok (.aload_n 0, 1) := by decide +kernel
theorem dL_areApart_45 : decode cL_areApart 45 = .ok (.iload_n 2, 1) := by decide +kernel
theorem dL_areApart_46 : decode cL_areApart 46 = .ok (.iconst 2, 1) := by decide +kernel
theorem dL_areApart_47 : decode cL_areApart 47 = .ok (.invokevirtual 111, 3) := by decide +kernel
theorem dL_areApart_50 : decode cL_areApart 50 = .ok (.iload_n 3, 1) := by decide +kernel
theorem dL_areApart_51 : decode cL_areApart 51 = .ok (.if_icmp .ne 31, 3) := by decide +kernel
theorem dL_areApart_54 : decode cL_areApart 54 = .ok (.aload_n 0, 1) := by decide +kernel
theorem dL_areApart_55 : decode cL_areApart 55 = .ok (.iload_n 2, 1) := by decide +kernel
theorem dL_areApart_56 : decode cL_areApart 56 = .ok (.iconst 1, 1) := by decide +kernel
theorem dL_areApart_57 : decode cL_areApart 57 = .ok (.invokevirtual 111, 3) := by decide +kernel
theorem dL_areApart_60 : decode cL_areApart 60 = .ok (.iload_n 3, 1) := by decide +kernel
theorem dL_areApart_61 : decode cL_areApart 61 = .ok (.iadd, 1) := by decide +kernel
theorem dL_areApart_62 : decode cL_areApart 62 = .ok (.bipush 10, 2) := by decide +kernel
theorem dL_areApart_64 : decode cL_areApart 64 = .ok (.if_icmp .gt 18, 3) := by decide +kernel
theorem dL_areApart_67 : decode cL_areApart 67 = .ok (.aload_n 0, 1) := by decide +kernel
theorem dL_areApart_68 : decode cL_areApart 68 = .ok (.iload_n 2, 1) := by decide +kernel
theorem dL_areApart_69 : decode cL_areApart 69 = .ok (.iconst 3, 1) := by decide +kernel
theorem dL_areApart_70 : decode cL_areApart 70 = .ok (.invokevirtual 111, 3) := by decide +kernel
theorem dL_areApart_73 : decode cL_areApart 73 = .ok (.aload_n 0, 1) := by decide +kernel
theorem dL_areApart_74 : decode cL_areApart 74 = .ok (.iload_n 2, 1) := by decide +kernel
theorem dL_areApart_75 : decode cL_areApart 75 = .ok (.iconst 1, 1) := by decide +kernel
theorem dL_areApart_76 : decode cL_areApart 76 = .ok (.invokevirtual 111, 3) := by decide +kernel
theorem dL_areApart_79 : decode cL_areApart 79 = .ok (.if_icmp .le 5, 3) := by decide +kernel
theorem dL_areApart_82 : decode cL_areApart 82 = .ok (.iconst 0, 1) := by decide +kernel
theorem dL_areApart_83 : decode cL_areApart 83 = .ok (.ireturn, 1) := by decide +kernel
theorem dL_areApart_84 : decode cL_areApart 84 = .ok (.iinc 2 1, 3) := by decide +kernel
theorem dL_areApart_87 : decode cL_areApart 87 = .ok (.goto (-85), 3) := by decide +kernel
theorem dL_areApart_90 : decode cL_areApart 90 = .ok (.iconst 3, 1) := by decide +kernel
theorem dL_areApart_91 : decode cL_areApart 91 = .ok (.newarray .int, 2) := by decide +kernel
theorem dL_areApart_93 : decode cL_areApart 93 = .ok (.astore_n 2, 1) := by decide +kernel
theorem dL_areApart_94 : decode cL_areApart 94 = .ok (.iconst 0, 1) := by decide +kernel
theorem dL_areApart_95 : decode cL_areApart 95 = .ok (.istore_n 3, 1) := by decide +kernel
theorem dL_areApart_96 : decode cL_areApart 96 = .ok (.iload_n 3, 1) := by decide +kernel
theorem dL_areApart_97 : decode cL_areApart 97 = .ok (.bipush 10, 2) := by decide +kernel
theorem dL_areApart_99 : decode cL_areApart 99 = .ok (.if_icmp .ge 80, 3) := by decide +kernel
theorem dL_areApart_102 : decode cL_areApart 102 = .ok (.aload_n 0, 1) := by decide +kernel
theorem dL_areApart_103 : decode cL_areApart 103 = .ok (.iload_n 3, 1) := by decide +kernel
theorem dL_areApart_104 : decode cL_areApart 104 = .ok (.iconst 3, 1) := by decide +kernel
theorem dL_areApart_105 : decode cL_areApart 105 = .ok (.invokevirtual 87, 3) := by decide +kernel
theorem dL_areApart_108 : decode cL_areApart 108 = .ok (.ifCond .ge 6, 3) := by decide +kernel
theorem dL_areApart_111 : decode cL_areApart 111 = .ok (.goto 62, 3) := by decide +kernel
theorem dL_areApart_114 : decode cL_areApart 114 = .ok (.iconst 2, 1) := by decide +kernel
theorem dL_areApart_115 : decode cL_areApart 115 = .ok (.aload_n 1, 1) := by decide +kernel
theorem dL_areApart_116 : decode cL_areApart 116 = .ok (.iload_n 3, 1) := by decide +kernel
theorem dL_areApart_117 : decode cL_areApart 117 = .ok (.invokestatic 12, 3) := by decide +kernel
theorem dL_areApart_120 : decode cL_areApart 120 = .ok (.iconst 4, 1) := by decide +kernel
theorem dL_areApart_121 : decode cL_areApart 121 = .ok (.invokestatic 18, 3) := by decide +kernel
theorem dL_areApart_124 : decode cL_areApart 124 = .ok (.ishl, 1) := by decide +kernel
theorem dL_areApart_125 : decode cL_areApart 125 = .ok (.iconst 1, 1) := by decide +kernel
theorem dL_areApart_126 : decode cL_areApart 126 = .ok (.isub, 1) := by decide +kernel
theorem dL_areApart_127 : decode cL_areApart 127 = .ok (.aload_n 0, 1) := by decide +kernel
theorem dL_areApart_128 : decode cL_areApart 128 = .ok (.iload_n 3, 1) := by decide +kernel
theorem dL_areApart_129 : decode cL_areApart 129 = .ok (.iconst 4, 1) := by decide +kernel
theorem dL_areApart_130 : decode cL_areApart 130 = .ok (.invokevirtual 87, 3) := by decide +kernel
theorem dL_areApart_133 : decode cL_areApart 133 = .ok (.ishl, 1) := by decide +kernel
theorem dL_areApart_134 : decode cL_areApart 134 = .ok (.istore 4, 2) := by decide +kernel
theorem dL_areApart_136 : decode cL_areApart 136 = .ok (.aload_n 2, 1) := by decide +kernel
theorem dL_areApart_137 : decode cL_areApart 137 = .ok (.aload_n 0, 1) := by decide +kernel
theorem dL_areApart_138 : decode cL_areApart 138 = .ok (.iload_n 3, 1) := by decide +kernel
theorem dL_areApart_139 : decode cL_areApart 139 = .ok (.iconst 3, 1) := by decide +kernel
theorem dL_areApart_140 : decode cL_areApart 140 = .ok (.invokevirtual 87, 3) := by decide +kernel
theorem dL_areApart_143 : decode cL_areApart 143 = .ok (.iaload, 1) := by decide +kernel
theorem dL_areApart_144 : decode cL_areApart 144 = .ok (.iload 4, 2) := by decide +kernel
theorem dL_areApart_146 : decode cL_areApart 146 = .ok (.iand, 1) := by decide +kernel
theorem dL_areApart_147 : decode cL_areApart 147 = .ok (.ifCond .ne 11, 3) := by decide +kernel
theorem dL_areApart_150 : decode cL_areApart 150 = .ok (.iload 4, 2) := by decide +kernel
theorem dL_areApart_152 : decode cL_areApart 152 = .ok (.sipush 1023, 3) := by decide +kernel
theorem dL_areApart_155 : decode cL_areApart 155 = .ok (.if_icmp .le 5, 3) := by decide +kernel
theorem dL_areApart_158 : decode cL_areApart 158 = .ok (.iconst 0, 1) := by decide +kernel
theorem dL_areApart_159 : decode cL_areApart 159 = .ok (.ireturn, 1) := by decide +kernel
theorem dL_areApart_160 : decode cL_areApart 160 = .ok (.aload_n 2, 1) := by decide +kernel
theorem dL_areApart_161 : decode cL_areApart 161 = .ok (.aload_n 0, 1) := by decide +kernel
theorem dL_areApart_162 : decode cL_areApart 162 = .ok (.iload_n 3, 1) := by decide +kernel
theorem dL_areApart_163 : decode cL_areApart 163 = .ok (.iconst 3, 1) := by decide +kernel
theorem dL_areApart_164 : decode cL_areApart 164 = .ok (.invokevirtual 87, 3) := by decide +kernel
theorem dL_areApart_167 : decode cL_areApart 167 = .ok (.dup2, 1) := by decide +kernel
theorem dL_areApart_168 : decode cL_areApart 168 = .ok (.iaload, 1) := by decide +kernel
theorem dL_areApart_169 : decode cL_areApart 169 = .ok (.iload 4, 2) := by decide +kernel
theorem dL_areApart_171 : decode cL_areApart 171 = .ok (.ior, 1) := by decide +kernel
theorem dL_areApart_172 : decode cL_areApart 172 = .ok (.iastore, 1) := by decide +kernel
theorem dL_areApart_173 : decode cL_areApart 173 = .ok (.iinc 3 1, 3) := by decide +kernel
theorem dL_areApart_176 : decode cL_areApart 176 = .ok (.goto (-80), 3) := by decide +kernel
theorem dL_areApart_179 : decode cL_areApart 179 = .ok (.iconst 1, 1) := by decide +kernel
theorem dL_areApart_180 : decode cL_areApart 180 = .ok (.ireturn, 1) := by decide +kernel

theorem dX7_init_0 : decode cX7_init 0 = .ok (.aload_n 0, 1) := by decide +kernel
theorem dX7_init_1 : decode cX7_init 1 = .ok (.invokespecial 1, 3) := by decide +kernel
theorem dX7_init_4 : decode cX7_init 4 = .ok (.aload_n 0, 1) := by decide +kernel
theorem dX7_init_5 : decode cX7_init 5 = .ok (.iconst 3, 1) := by decide +kernel
theorem dX7_init_6 : decode cX7_init 6 = .ok (.anewarray 9, 3) := by decide +kernel
theorem dX7_init_9 : decode cX7_init 9 = .ok (.putfield 11, 3) := by decide +kernel
theorem dX7_init_12 : decode cX7_init 12 = .ok (.aload_n 0, 1) := by decide +kernel
theorem dX7_init_13 : decode cX7_init 13 = .ok (.iconst 4, 1) := by decide +kernel
theorem dX7_init_14 : decode cX7_init 14 = .ok (.anewarray 15, 3) := by decide +kernel
theorem dX7_init_17 : decode cX7_init 17 = .ok (.putfield 17, 3) := by decide +kernel
theorem dX7_init_20 : decode cX7_init 20 = .ok (.aload_n 0, 1) := by decide +kernel
theorem dX7_init_21 : decode cX7_init 21 = .ok (.bipush 14, 2) := by decide +kernel
theorem dX7_init_23 : decode cX7_init 23 = .ok (.anewarray 21, 3) := by decide +kernel
theorem dX7_init_26 : decode cX7_init 26 = .ok (.putfield 23, 3) := by decide +kernel
theorem dX7_init_29 : decode cX7_init 29 = .ok (.aload_n 0, 1) := by decide +kernel
theorem dX7_init_30 : decode cX7_init 30 = .ok (.bipush 6, 2) := by decide +kernel
theorem dX7_init_32 : decode cX7_init 32 = .ok (.anewarray 27, 3) := by decide +kernel
theorem dX7_init_35 : decode cX7_init 35 = .ok (.putfield 29, 3) := by decide +kernel
theorem dX7_init_38 : decode cX7_init 38 = .ok (.aload_n 0, 1) := by decide +kernel
theorem dX7_init_39 : decode cX7_init 39 = .ok (.iconst 0, 1) := by decide +kernel
theorem dX7_init_40 : decode cX7_init 40 = .ok (.putfield 33, 3) := by decide +kernel
theorem dX7_init_43 : decode cX7_init 43 = .ok (.aload_n 0, 1) := by decide +kernel
theorem dX7_init_44 : decode cX7_init 44 = .ok (.iconst 0, 1) := by decide +kernel
theorem dX7_init_45 : decode cX7_init 45 = .ok (.putfield 37, 3) := by decide +kernel
theorem dX7_init_48 : decode cX7_init 48 = .ok (.aload_n 0, 1) := by decide +kernel
theorem dX7_init_49 : decode cX7_init 49 = .ok (.iconst 0, 1) := by decide +kernel
theorem dX7_init_50 : decode cX7_init 50 = .ok (.putfield 40, 3) := by decide +kernel
theorem dX7_init_53 : decode cX7_init 53 = .ok (.aload_n 0, 1) := by decide +kernel
theorem dX7_init_54 : decode cX7_init 54 = .ok (.iconst 0, 1) := by decide +kernel
theorem dX7_init_55 : decode cX7_init 55 = .ok (.putfield 43, 3) := by decide +kernel
theorem dX7_init_58 : decode cX7_init 58 = .ok (.aload_n 0, 1) := by decide +kernel
theorem dX7_init_59 : decode cX7_init 59 = .ok (.new 46, 3) := by decide +kernel
theorem dX7_init_62 : decode cX7_init 62 = .ok (.dup, 1) := by decide +kernel
theorem dX7_init_63 : decode cX7_init 63 = .ok (.invokespecial 48, 3) := by decide +kernel
theorem dX7_init_66 : decode cX7_init 66 = .ok (.putfield 49, 3) := by decide +kernel
theorem dX7_init_69 : decode cX7_init 69 = .ok (.aload_n 0, 1) := by decide +kernel
theorem dX7_init_70 : decode cX7_init 70 = .ok (.new 53, 3) := by decide +kernel
theorem dX7_init_73 : decode cX7_init 73 = .ok (.dup, 1) := by decide +kernel
theorem dX7_init_74 : decode cX7_init 74 = .ok (.aload_n 0, 1) := by decide +kernel
theorem dX7_init_75 : decode cX7_init 75 = .ok (.getfield 49, 3) := by decide +kernel
theorem dX7_init_78 : decode cX7_init 78 = .ok (.invokespecial 55, 3) := by decide +kernel
theorem dX7_init_81 : decode cX7_init 81 = .ok (.putfield 58, 3) := by decide +kernel
theorem dX7_init_84 : decode cX7_init 84 = .ok (.aload_n 0, 1) := by decide +kernel
theorem dX7_init_85 : decode cX7_init 85 = .ok (.new 53, 3) := by decide +kernel
theorem dX7_init_88 : decode cX7_init 88 = .ok (.dup, 1) := by decide +kernel
theorem dX7_init_89 : decode cX7_init 89 = .ok (.aload_n 0, 1) := by decide +kernel
theorem dX7_init_90 : decode cX7_init 90 = .ok (.getfield 49, 3) := by decide +kernel
theorem dX7_init_93 : decode cX7_init 93 = .ok (.invokespecial 55, 3) := by decide +kernel
theorem dX7_init_96 : decode cX7_init 96 = .ok (.putfield 62, 3) := by decide +kernel
theorem dX7_init_99 : decode cX7_init 99 = .ok (.aload_n 0, 1) := by decide +kernel
theorem dX7_init_100 : decode cX7_init 100 = .ok (.iconst 0, 1) := by decide +kernel
theorem dX7_init_101 : decode cX7_init 101 = .ok (.putfield 65, 3) := by decide +kernel
theorem dX7_init_104 : decode cX7_init 104 = .ok (.aload_n 0, 1) := by decide +kernel
theorem dX7_init_105 : decode cX7_init 105 = .ok (.iconst 0, 1) := by decide +kernel
theorem dX7_init_106 : decode cX7_init 106 = .ok (.putfield 68, 3) := by decide +kernel
theorem dX7_init_109 : decode cX7_init 109 = .ok (.aload_n 0, 1) := by decide +kernel
theorem dX7_init_110 : decode cX7_init 110 = .ok (.iconst 0, 1) := by decide +kernel
theorem dX7_init_111 : decode cX7_init 111 = .ok (.putfield 71, 3) := by decide +kernel
theorem dX7_init_114 : decode cX7_init 114 = .ok (.return_, 1) := by decide +kernel
theorem dX7_clay_0 : decode cX7_clay 0 = .ok (.iload_n 1, 1) := by decide +kernel
theorem dX7_clay_1 : decode cX7_clay 1 = .ok (.iconst 1, 1) := by decide +kernel
theorem dX7_clay_2 : decode cX7_clay 2 = .ok (.bipush 12, 2) := by decide +kernel
theorem dX7_clay_4 : decode cX7_clay 4 = .ok (.invokestatic 74, 3) := by decide +kernel
theorem dX7_clay_7 : decode cX7_clay 7 = .ok (.ifCond .eq 14, 3) := by decide +kernel
theorem dX7_clay_10 : decode cX7_clay 10 = .ok (.iload_n 2, 1) := by decide +kernel
theorem dX7_clay_11 : decode cX7_clay 11 = .ok (.bipush 8, 2) := by decide +kernel
theorem dX7_clay_13 : decode cX7_clay 13 = .ok (.bipush 40, 2) := by decide +kernel
theorem dX7_clay_15 : decode cX7_clay 15 = .ok (.invokestatic 74, 3) := by decide +kernel
theorem dX7_clay_18 : decode cX7_clay 18 = .ok (.ifCond .ne 13, 3) := by decide +kernel
theorem dX7_clay_21 : decode cX7_clay 21 = .ok (.new 78, 3) := by decide +kernel
theorem dX7_clay_24 : decode cX7_clay 24 = .ok (.dup, 1) := by decide +kernel
theorem dX7_clay_25 : decode cX7_clay 25 = .ok (.ldc 80, 2) := by decide +kernel
theorem dX7_clay_27 : decode cX7_clay 27 = .ok (.invokespecial 82, 3) := by decide +kernel
theorem dX7_clay_30 : decode cX7_clay 30 = .ok (.athrow, 1) := by decide +kernel
theorem dX7_clay_31 : decode cX7_clay 31 = .ok (.aload_n 0, 1) := by decide +kernel
theorem dX7_clay_32 : decode cX7_clay 32 = .ok (.getfield 33, 3) := by decide +kernel
theorem dX7_clay_35 : decode cX7_clay 35 = .ok (.aload_n 0, 1) := by decide +kernel
theorem dX7_clay_36 : decode cX7_clay 36 = .ok (.getfield 11, 3) := by decide +kernel
theorem dX7_clay_39 : decode cX7_clay 39 = .ok (.arraylength, 1) := by decide +kernel
theorem dX7_clay_40 : decode cX7_clay 40 = .ok (.if_icmp .lt 13, 3) := by decide +kernel
theorem dX7_clay_43 : decode cX7_clay 43 = .ok (.new 85, 3) := by decide +kernel
theorem dX7_clay_46 : decode cX7_clay 46 = .ok (.dup, 1) := by decide +kernel
theorem dX7_clay_47 : decode cX7_clay 47 = .ok (.ldc 87, 2) := by decide +kernel
theorem dX7_clay_49 : decode cX7_clay 49 = .ok (.invokespecial 89, 3) := by decide +kernel
theorem dX7_clay_52 : decode cX7_clay 52 = .ok (.athrow, 1) := by decide +kernel
theorem dX7_clay_53 : decode cX7_clay 53 = .ok (.aload_n 0, 1) := by decide +kernel
theorem dX7_clay_54 : decode cX7_clay 54 = .ok (.getfield 11, 3) := by decide +kernel
theorem dX7_clay_57 : decode cX7_clay 57 = .ok (.aload_n 0, 1) := by decide +kernel
theorem dX7_clay_58 : decode cX7_clay 58 = .ok (.getfield 33, 3) := by decide +kernel
theorem dX7_clay_61 : decode cX7_clay 61 = .ok (.new 9, 3) := by decide +kernel
theorem dX7_clay_64 : decode cX7_clay 64 = .ok (.dup, 1) := by decide +kernel
theorem dX7_clay_65 : decode cX7_clay 65 = .ok (.iload_n 1, 1) := by decide +kernel
theorem dX7_clay_66 : decode cX7_clay 66 = .ok (.iload_n 2, 1) := by decide +kernel
theorem dX7_clay_67 : decode cX7_clay 67 = .ok (.invokespecial 90, 3) := by decide +kernel
theorem dX7_clay_70 : decode cX7_clay 70 = .ok (.aastore, 1) := by decide +kernel
theorem dX7_clay_71 : decode cX7_clay 71 = .ok (.aload_n 0, 1) := by decide +kernel
theorem dX7_clay_72 : decode cX7_clay 72 = .ok (.dup, 1) := by decide +kernel
theorem dX7_clay_73 : decode cX7_clay 73 = .ok (.getfield 33, 3) := by decide +kernel
theorem dX7_clay_76 : decode cX7_clay 76 = .ok (.iconst 1, 1) := by decide +kernel
theorem dX7_clay_77 : decode cX7_clay 77 = .ok (.iadd, 1) := by decide +kernel
theorem dX7_clay_78 : decode cX7_clay 78 = .ok (.putfield 33, 3) := by decide +kernel
theorem dX7_clay_81 : decode cX7_clay 81 = .ok (.aload_n 0, 1) := by decide +kernel
theorem dX7_clay_82 : decode cX7_clay 82 = .ok (.getfield 33, 3) := by decide +kernel
theorem dX7_clay_85 : decode cX7_clay 85 = .ok (.iconst 1, 1) := by decide +kernel
theorem dX7_clay_86 : decode cX7_clay 86 = .ok (.isub, 1) := by decide +kernel
theorem dX7_clay_87 : decode cX7_clay 87 = .ok (.ireturn, 1) := by decide +kernel
theorem dX7_glaze_0 : decode cX7_glaze 0 = .ok (.iload_n 1, 1) := by decide +kernel
theorem dX7_glaze_1 : decode cX7_glaze 1 = .ok (.invokestatic 93, 3) := by decide +kernel
theorem dX7_glaze_4 : decode cX7_glaze 4 = .ok (.ifCond .eq 33, 3) := by decide +kernel
theorem dX7_glaze_7 : decode cX7_glaze 7 = .ok (.iload_n 2, 1) := by decide +kernel
theorem dX7_glaze_8 : decode cX7_glaze 8 = .ok (.invokestatic 93, 3) := by decide +kernel
theorem dX7_glaze_11 : decode cX7_glaze 11 = .ok (.ifCond .eq 26, 3) := by decide +kernel
theorem dX7_glaze_14 : decode cX7_glaze 14 = .ok (.iload_n 3, 1) := by decide +kernel
theorem dX7_glaze_15 : decode cX7_glaze 15 = .ok (.invokestatic 93, 3) := by decide +kernel
theorem dX7_glaze_18 : decode cX7_glaze 18 = .ok (.ifCond .eq 19, 3) := by decide +kernel
theorem dX7_glaze_21 : decode cX7_glaze 21 = .ok (.iload 4, 2) := by decide +kernel
theorem dX7_glaze_23 : decode cX7_glaze 23 = .ok (.invokestatic 93, 3) := by decide +kernel
theorem dX7_glaze_26 : decode cX7_glaze 26 = .ok (.ifCond .eq 11, 3) := by decide +kernel
theorem dX7_glaze_29 : decode cX7_glaze 29 = .ok (.iload 5, 2) := by decide +kernel
theorem dX7_glaze_31 : decode cX7_glaze 31 = .ok (.invokestatic 93, 3) := by decide +kernel
theorem dX7_glaze_34 : decode cX7_glaze 34 = .ok (.ifCond .ne 13, 3) := by decide +kernel
theorem dX7_glaze_37 : decode cX7_glaze 37 = .ok (.new 78, 3) := by decide +kernel
theorem dX7_glaze_40 : decode cX7_glaze 40 = .ok (.dup, 1) := by decide +kernel
theorem dX7_glaze_41 : decode cX7_glaze 41 = .ok (.ldc 97, 2) := by decide +kernel
theorem dX7_glaze_43 : decode cX7_glaze 43 = .ok (.invokespecial 82, 3) := by decide +kernel
theorem dX7_glaze_46 : decode cX7_glaze 46 = .ok (.athrow, 1) := by decide +kernel
theorem dX7_glaze_47 : decode cX7_glaze 47 = .ok (.iload_n 1, 1) := by decide +kernel
theorem dX7_glaze_48 : decode cX7_glaze 48 = .ok (.ifCond .ne 17, 3) := by decide +kernel
theorem dX7_glaze_51 : decode cX7_glaze 51 = .ok (.iload_n 2, 1) := by decide +kernel
theorem dX7_glaze_52 : decode cX7_glaze 52 = .ok (.ifCond .ne 13, 3) := by decide +kernel
theorem dX7_glaze_55 : decode cX7_glaze 55 = .ok (.new 78, 3) := by decide +kernel
theorem dX7_glaze_58 : decode cX7_glaze 58 = .ok (.dup, 1) := by decide +kernel
theorem dX7_glaze_59 : decode cX7_glaze 59 = .ok (.ldc 99, 2) := by decide +kernel
theorem dX7_glaze_61 : decode cX7_glaze 61 = .ok (.invokespecial 82, 3) := by decide +kernel
theorem dX7_glaze_64 : decode cX7_glaze 64 = .ok (.athrow, 1) := by decide +kernel
theorem dX7_glaze_65 : decode cX7_glaze 65 = .ok (.aload_n 0, 1) := by decide +kernel
theorem dX7_glaze_66 : decode cX7_glaze 66 = .ok (.getfield 37, 3) := by decide +kernel
theorem dX7_glaze_69 : decode cX7_glaze 69 = .ok (.aload_n 0, 1) := by decide +kernel
theorem dX7_glaze_70 : decode cX7_glaze 70 = .ok (.getfield 17, 3) := by decide +kernel
theorem dX7_glaze_73 : decode cX7_glaze 73 = .ok (.arraylength, 1) := by decide +kernel
theorem dX7_glaze_74 : decode cX7_glaze 74 = .ok (.if_icmp .lt 13, 3) := by decide +kernel
theorem dX7_glaze_77 : decode cX7_glaze 77 = .ok (.new 85, 3) := by decide +kernel
theorem dX7_glaze_80 : decode cX7_glaze 80 = .ok (.dup, 1) := by decide +kernel
theorem dX7_glaze_81 : decode cX7_glaze 81 = .ok (.ldc 101, 2) := by decide +kernel
theorem dX7_glaze_83 : decode cX7_glaze 83 = .ok (.invokespecial 89, 3) := by decide +kernel
theorem dX7_glaze_86 : decode cX7_glaze 86 = .ok (.athrow, 1) := by decide +kernel
theorem dX7_glaze_87 : decode cX7_glaze 87 = .ok (.aload_n 0, 1) := by decide +kernel
theorem dX7_glaze_88 : decode cX7_glaze 88 = .ok (.getfield 17, 3) := by decide +kernel
theorem dX7_glaze_91 : decode cX7_glaze 91 = .ok (.aload_n 0, 1) := by decide +kernel
theorem dX7_glaze_92 : decode cX7_glaze 92 = .ok (.getfield 37, 3) := by decide +kernel
theorem dX7_glaze_95 : decode cX7_glaze 95 = .ok (.new 15, 3) := by decide +kernel
theorem dX7_glaze_98 : decode cX7_glaze 98 = .ok (.dup, 1) := by decide +kernel
theorem dX7_glaze_99 : decode cX7_glaze 99 = .ok (.aload_n 0, 1) := by decide +kernel
theorem dX7_glaze_100 : decode cX7_glaze 100 = .ok (.getfield 37, 3) := by decide +kernel
theorem dX7_glaze_103 : decode cX7_glaze 103 = .ok (.iload_n 1, 1) := by decide +kernel
theorem dX7_glaze_104 : decode cX7_glaze 104 = .ok (.iload_n 2, 1) := by decide +kernel
theorem dX7_glaze_105 : decode cX7_glaze 105 = .ok (.iload_n 3, 1) := by decide +kernel
theorem dX7_glaze_106 : decode cX7_glaze 106 = .ok (.iload 4, 2) := by decide +kernel
theorem dX7_glaze_108 : decode cX7_glaze 108 = .ok (.iload 5, 2) := by decide +kernel
theorem dX7_glaze_110 : decode cX7_glaze 110 = .ok (.invokespecial 103, 3) := by decide +kernel
theorem dX7_glaze_113 : decode cX7_glaze 113 = .ok (.aastore, 1) := by decide +kernel
theorem dX7_glaze_114 : decode cX7_glaze 114 = .ok (.aload_n 0, 1) := by decide +kernel
theorem dX7_glaze_115 : decode cX7_glaze 115 = .ok (.dup, 1) := by decide +kernel
theorem dX7_glaze_116 : decode cX7_glaze 116 = .ok (.getfield 37, 3) := by decide +kernel
theorem dX7_glaze_119 : decode cX7_glaze 119 = .ok (.iconst 1, 1) := by decide +kernel
theorem dX7_glaze_120 : decode cX7_glaze 120 = .ok (.iadd, 1) := by decide +kernel
theorem dX7_glaze_121 : decode cX7_glaze 121 = .ok (.putfield 37, 3) := by decide +kernel
theorem dX7_glaze_124 : decode cX7_glaze 124 = .ok (.aload_n 0, 1) := by decide +kernel
theorem dX7_glaze_125 : decode cX7_glaze 125 = .ok (.getfield 37, 3) := by decide +kernel
theorem dX7_glaze_128 : decode cX7_glaze 128 = .ok (.iconst 1, 1) := by decide +kernel
theorem dX7_glaze_129 : decode cX7_glaze 129 = .ok (.isub, 1) := by decide +kernel
theorem dX7_glaze_130 : decode cX7_glaze 130 = .ok (.ireturn, 1) := by decide +kernel
theorem dX7_pot_0 : decode cX7_pot 0 = .ok (.aload_n 0, 1) := by decide +kernel
theorem dX7_pot_1 : decode cX7_pot 1 = .ok (.iload_n 1, 1) := by decide +kernel
theorem dX7_pot_2 : decode cX7_pot 2 = .ok (.invokevirtual 106, 3) := by decide +kernel
theorem dX7_pot_5 : decode cX7_pot 5 = .ok (.astore 5, 2) := by decide +kernel
theorem dX7_pot_7 : decode cX7_pot 7 = .ok (.iload 4, 2) := by decide +kernel
theorem dX7_pot_9 : decode cX7_pot 9 = .ok (.iconst 1, 1) := by decide +kernel
theorem dX7_pot_10 : decode cX7_pot 10 = .ok (.if_icmp .eq 15, 3) := by decide +kernel
theorem dX7_pot_13 : decode cX7_pot 13 = .ok (.iload 4, 2) := by decide +kernel
theorem dX7_pot_15 : decode cX7_pot 15 = .ok (.iconst 2, 1) := by decide +kernel
theorem dX7_pot_16 : decode cX7_pot 16 = .ok (.if_icmp .eq 9, 3) := by decide +kernel
theorem dX7_pot_19 : decode cX7_pot 19 = .ok (.iload 4, 2) := by decide +kernel
theorem dX7_pot_21 : decode cX7_pot 21 = .ok (.iconst 4, 1) := by decide +kernel
theorem dX7_pot_22 : decode cX7_pot 22 = .ok (.if_icmp .ne 7, 3) := by decide +kernel
theorem dX7_pot_25 : decode cX7_pot 25 = .ok (.iconst 1, 1) := by decide +kernel
theorem dX7_pot_26 : decode cX7_pot 26 = .ok (.goto 4, 3) := by decide +kernel
theorem dX7_pot_29 : decode cX7_pot 29 = .ok (.iconst 0, 1) := by decide +kernel
theorem dX7_pot_30 : decode cX7_pot 30 = .ok (.istore 6, 2) := by decide +kernel
theorem dX7_pot_32 : decode cX7_pot 32 = .ok (.iload_n 2, 1) := by decide +kernel
theorem dX7_pot_33 : decode cX7_pot 33 = .ok (.iconst 1, 1) := by decide +kernel
theorem dX7_pot_34 : decode cX7_pot 34 = .ok (.iconst 5, 1) := by decide +kernel
theorem dX7_pot_35 : decode cX7_pot 35 = .ok (.invokestatic 74, 3) := by decide +kernel
theorem dX7_pot_38 : decode cX7_pot 38 = .ok (.ifCond .eq 17, 3) := by decide +kernel
theorem dX7_pot_41 : decode cX7_pot 41 = .ok (.iload_n 3, 1) := by decide +kernel
theorem dX7_pot_42 : decode cX7_pot 42 = .ok (.iconst 1, 1) := by decide +kernel
theorem dX7_pot_43 : decode cX7_pot 43 = .ok (.iconst 3, 1) := by decide +kernel
theorem dX7_pot_44 : decode cX7_pot 44 = .ok (.invokestatic 74, 3) := by decide +kernel
theorem dX7_pot_47 : decode cX7_pot 47 = .ok (.ifCond .eq 8, 3) := by decide +kernel
theorem dX7_pot_50 : decode cX7_pot 50 = .ok (.iload 6, 2) := by decide +kernel
theorem dX7_pot_52 : decode cX7_pot 52 = .ok (.ifCond .ne 13, 3) := by decide +kernel
theorem dX7_pot_55 : decode cX7_pot 55 = .ok (.new 78, 3) := by decide +kernel
theorem dX7_pot_58 : decode cX7_pot 58 = .ok (.dup, 1) := by decide +kernel
theorem dX7_pot_59 : decode cX7_pot 59 = .ok (.ldc 110, 2) := by decide +kernel
theorem dX7_pot_61 : decode cX7_pot 61 = .ok (.invokespecial 82, 3) := by decide +kernel
theorem dX7_pot_64 : decode cX7_pot 64 = .ok (.athrow, 1) := by decide +kernel
theorem dX7_pot_65 : decode cX7_pot 65 = .ok (.aload_n 0, 1) := by decide +kernel
theorem dX7_pot_66 : decode cX7_pot 66 = .ok (.getfield 40, 3) := by decide +kernel
theorem dX7_pot_69 : decode cX7_pot 69 = .ok (.aload_n 0, 1) := by decide +kernel
theorem dX7_pot_70 : decode cX7_pot 70 = .ok (.getfield 23, 3) := by decide +kernel
theorem dX7_pot_73 : decode cX7_pot 73 = .ok (.arraylength, 1) := by decide +kernel
theorem dX7_pot_74 : decode cX7_pot 74 = .ok (.if_icmp .lt 13, 3) := by decide +kernel
theorem dX7_pot_77 : decode cX7_pot 77 = .ok (.new 85, 3) := by decide +kernel
theorem dX7_pot_80 : decode cX7_pot 80 = .ok (.dup, 1) := by decide +kernel
theorem dX7_pot_81 : decode cX7_pot 81 = .ok (.ldc 112, 2) := by decide +kernel
theorem dX7_pot_83 : decode cX7_pot 83 = .ok (.invokespecial 89, 3) := by decide +kernel
theorem dX7_pot_86 : decode cX7_pot 86 = .ok (.athrow, 1) := by decide +kernel
theorem dX7_pot_87 : decode cX7_pot 87 = .ok (.aload_n 0, 1) := by decide +kernel
theorem dX7_pot_88 : decode cX7_pot 88 = .ok (.getfield 23, 3) := by decide +kernel
theorem dX7_pot_91 : decode cX7_pot 91 = .ok (.aload_n 0, 1) := by decide +kernel
theorem dX7_pot_92 : decode cX7_pot 92 = .ok (.getfield 40, 3) := by decide +kernel
theorem dX7_pot_95 : decode cX7_pot 95 = .ok (.new 21, 3) := by decide +kernel
theorem dX7_pot_98 : decode cX7_pot 98 = .ok (.dup, 1) := by decide +kernel
theorem dX7_pot_99 : decode cX7_pot 99 = .ok (.aload 5, 2) := by decide +kernel
theorem dX7_pot_101 : decode cX7_pot 101 = .ok (.iload_n 2, 1) := by decide +kernel
theorem dX7_pot_102 : decode cX7_pot 102 = .ok (.iload_n 3, 1) := by decide +kernel
theorem dX7_pot_103 : decode cX7_pot 103 = .ok (.iload 4, 2) := by decide +kernel
theorem dX7_pot_105 : decode cX7_pot 105 = .ok (.invokespecial 114, 3) := by decide +kernel
theorem dX7_pot_108 : decode cX7_pot 108 = .ok (.aastore, 1) := by decide +kernel
theorem dX7_pot_109 : decode cX7_pot 109 = .ok (.aload_n 0, 1) := by decide +kernel
theorem dX7_pot_110 : decode cX7_pot 110 = .ok (.dup, 1) := by decide +kernel
theorem dX7_pot_111 : decode cX7_pot 111 = .ok (.getfield 40, 3) := by decide +kernel
theorem dX7_pot_114 : decode cX7_pot 114 = .ok (.iconst 1, 1) := by decide +kernel
theorem dX7_pot_115 : decode cX7_pot 115 = .ok (.iadd, 1) := by decide +kernel
theorem dX7_pot_116 : decode cX7_pot 116 = .ok (.putfield 40, 3) := by decide +kernel
theorem dX7_pot_119 : decode cX7_pot 119 = .ok (.aload_n 0, 1) := by decide +kernel
theorem dX7_pot_120 : decode cX7_pot 120 = .ok (.getfield 40, 3) := by decide +kernel
theorem dX7_pot_123 : decode cX7_pot 123 = .ok (.iconst 1, 1) := by decide +kernel
theorem dX7_pot_124 : decode cX7_pot 124 = .ok (.isub, 1) := by decide +kernel
theorem dX7_pot_125 : decode cX7_pot 125 = .ok (.ireturn, 1) := by decide +kernel
theorem dX7_cover_0 : decode cX7_cover 0 = .ok (.aload_n 0, 1) := by decide +kernel
theorem dX7_cover_1 : decode cX7_cover 1 = .ok (.iload_n 1, 1) := by decide +kernel
theorem dX7_cover_2 : decode cX7_cover 2 = .ok (.invokevirtual 117, 3) := by decide +kernel
theorem dX7_cover_5 : decode cX7_cover 5 = .ok (.astore_n 3, 1) := by decide +kernel
theorem dX7_cover_6 : decode cX7_cover 6 = .ok (.aload_n 3, 1) := by decide +kernel
theorem dX7_cover_7 : decode cX7_cover 7 = .ok (.getfield 121, 3) := by decide +kernel
theorem dX7_cover_10 : decode cX7_cover 10 = .ok (.istore 4, 2) := by decide +kernel
theorem dX7_cover_12 : decode cX7_cover 12 = .ok (.aload_n 3, 1) := by decide +kernel
theorem dX7_cover_13 : decode cX7_cover 13 = .ok (.iload_n 2, 1) := by decide +kernel
theorem dX7_cover_14 : decode cX7_cover 14 = .ok (.putfield 121, 3) := by decide +kernel
theorem dX7_cover_17 : decode cX7_cover 17 = .ok (.iload 4, 2) := by decide +kernel
theorem dX7_cover_19 : decode cX7_cover 19 = .ok (.ireturn, 1) := by decide +kernel
theorem dX7_dry_0 : decode cX7_dry 0 = .ok (.iload_n 1, 1) := by decide +kernel
theorem dX7_dry_1 : decode cX7_dry 1 = .ok (.iconst 1, 1) := by decide +kernel
theorem dX7_dry_2 : decode cX7_dry 2 = .ok (.bipush 20, 2) := by decide +kernel
theorem dX7_dry_4 : decode cX7_dry 4 = .ok (.invokestatic 74, 3) := by decide +kernel
theorem dX7_dry_7 : decode cX7_dry 7 = .ok (.ifCond .eq 13, 3) := by decide +kernel
theorem dX7_dry_10 : decode cX7_dry 10 = .ok (.iload_n 2, 1) := by decide +kernel
theorem dX7_dry_11 : decode cX7_dry 11 = .ok (.iconst 1, 1) := by decide +kernel
theorem dX7_dry_12 : decode cX7_dry 12 = .ok (.bipush 8, 2) := by decide +kernel
theorem dX7_dry_14 : decode cX7_dry 14 = .ok (.invokestatic 74, 3) := by decide +kernel
theorem dX7_dry_17 : decode cX7_dry 17 = .ok (.ifCond .ne 13, 3) := by decide +kernel
theorem dX7_dry_20 : decode cX7_dry 20 = .ok (.new 78, 3) := by decide +kernel
theorem dX7_dry_23 : decode cX7_dry 23 = .ok (.dup, 1) := by decide +kernel
theorem dX7_dry_24 : decode cX7_dry 24 = .ok (.ldc 125, 2) := by decide +kernel
theorem dX7_dry_26 : decode cX7_dry 26 = .ok (.invokespecial 82, 3) := by decide +kernel
theorem dX7_dry_29 : decode cX7_dry 29 = .ok (.athrow, 1) := by decide +kernel
theorem dX7_dry_30 : decode cX7_dry 30 = .ok (.aload_n 0, 1) := by decide +kernel
theorem dX7_dry_31 : decode cX7_dry 31 = .ok (.getfield 65, 3) := by decide +kernel
theorem dX7_dry_34 : decode cX7_dry 34 = .ok (.iload_n 1, 1) := by decide +kernel
theorem dX7_dry_35 : decode cX7_dry 35 = .ok (.iadd, 1) := by decide +kernel
theorem dX7_dry_36 : decode cX7_dry 36 = .ok (.sipush 200, 3) := by decide +kernel
theorem dX7_dry_39 : decode cX7_dry 39 = .ok (.if_icmp .le 13, 3) := by decide +kernel
theorem dX7_dry_42 : decode cX7_dry 42 = .ok (.new 85, 3) := by decide +kernel
theorem dX7_dry_45 : decode cX7_dry 45 = .ok (.dup, 1) := by decide +kernel
theorem dX7_dry_46 : decode cX7_dry 46 = .ok (.ldc 127, 2) := by decide +kernel
theorem dX7_dry_48 : decode cX7_dry 48 = .ok (.invokespecial 89, 3) := by decide +kernel
theorem dX7_dry_51 : decode cX7_dry 51 = .ok (.athrow, 1) := by decide +kernel
theorem dX7_dry_52 : decode cX7_dry 52 = .ok (.iconst 0, 1) := by decide +kernel
theorem dX7_dry_53 : decode cX7_dry 53 = .ok (.istore_n 3, 1) := by decide +kernel
theorem dX7_dry_54 : decode cX7_dry 54 = .ok (.iload_n 3, 1) := by decide +kernel
theorem dX7_dry_55 : decode cX7_dry 55 = .ok (.iload_n 1, 1) := by decide +kernel
theorem dX7_dry_56 : decode cX7_dry 56 = .ok (.if_icmp .ge 14, 3) := by decide +kernel
theorem dX7_dry_59 : decode cX7_dry 59 = .ok (.aload_n 0, 1) := by decide +kernel
theorem dX7_dry_60 : decode cX7_dry 60 = .ok (.iload_n 2, 1) := by decide +kernel
theorem dX7_dry_61 : decode cX7_dry 61 = .ok (.invokevirtual 129, 3) := by decide +kernel
theorem dX7_dry_64 : decode cX7_dry 64 = .ok (.iinc 3 1, 3) := by decide +kernel
theorem dX7_dry_67 : decode cX7_dry 67 = .ok (.goto (-13), 3) := by decide +kernel
theorem dX7_dry_70 : decode cX7_dry 70 = .ok (.aload_n 0, 1) := by decide +kernel
theorem dX7_dry_71 : decode cX7_dry 71 = .ok (.iconst 1, 1) := by decide +kernel
theorem dX7_dry_72 : decode cX7_dry 72 = .ok (.invokevirtual 133, 3) := by decide +kernel
theorem dX7_dry_75 : decode cX7_dry 75 = .ok (.ireturn, 1) := by decide +kernel
theorem dX7_dip_0 : decode cX7_dip 0 = .ok (.aload_n 0, 1) := by decide +kernel
theorem dX7_dip_1 : decode cX7_dip 1 = .ok (.iload_n 1, 1) := by decide +kernel
theorem dX7_dip_2 : decode cX7_dip 2 = .ok (.invokevirtual 117, 3) := by decide +kernel
theorem dX7_dip_5 : decode cX7_dip 5 = .ok (.astore_n 3, 1) := by decide +kernel
theorem dX7_dip_6 : decode cX7_dip 6 = .ok (.aload_n 0, 1) := by decide +kernel
theorem dX7_dip_7 : decode cX7_dip 7 = .ok (.iload_n 2, 1) := by decide +kernel
theorem dX7_dip_8 : decode cX7_dip 8 = .ok (.invokevirtual 137, 3) := by decide +kernel
theorem dX7_dip_11 : decode cX7_dip 11 = .ok (.astore 4, 2) := by decide +kernel
theorem dX7_dip_13 : decode cX7_dip 13 = .ok (.aload_n 3, 1) := by decide +kernel
theorem dX7_dip_14 : decode cX7_dip 14 = .ok (.getfield 141, 3) := by decide +kernel
theorem dX7_dip_17 : decode cX7_dip 17 = .ok (.iconst 2, 1) := by decide +kernel
theorem dX7_dip_18 : decode cX7_dip 18 = .ok (.if_icmp .eq 13, 3) := by decide +kernel
theorem dX7_dip_21 : decode cX7_dip 21 = .ok (.new 85, 3) := by decide +kernel
theorem dX7_dip_24 : decode cX7_dip 24 = .ok (.dup, 1) := by decide +kernel
theorem dX7_dip_25 : decode cX7_dip 25 = .ok (.ldc 144, 2) := by decide +kernel
theorem dX7_dip_27 : decode cX7_dip 27 = .ok (.invokespecial 89, 3) := by decide +kernel
theorem dX7_dip_30 : decode cX7_dip 30 = .ok (.athrow, 1) := by decide +kernel
theorem dX7_dip_31 : decode cX7_dip 31 = .ok (.aload_n 3, 1) := by decide +kernel
theorem dX7_dip_32 : decode cX7_dip 32 = .ok (.aload 4, 2) := by decide +kernel
theorem dX7_dip_34 : decode cX7_dip 34 = .ok (.putfield 146, 3) := by decide +kernel
theorem dX7_dip_37 : decode cX7_dip 37 = .ok (.aload_n 3, 1) := by decide +kernel
theorem dX7_dip_38 : decode cX7_dip 38 = .ok (.iconst 3, 1) := by decide +kernel
theorem dX7_dip_39 : decode cX7_dip 39 = .ok (.putfield 141, 3) := by decide +kernel
theorem dX7_dip_42 : decode cX7_dip 42 = .ok (.aload 4, 2) := by decide +kernel
theorem dX7_dip_44 : decode cX7_dip 44 = .ok (.getfield 150, 3) := by decide +kernel
theorem dX7_dip_47 : decode cX7_dip 47 = .ok (.ireturn, 1) := by decide +kernel
theorem dX7_set_0 : decode cX7_set 0 = .ok (.aload_n 0, 1) := by decide +kernel
theorem dX7_set_1 : decode cX7_set 1 = .ok (.iload_n 1, 1) := by decide +kernel
theorem dX7_set_2 : decode cX7_set 2 = .ok (.invokevirtual 117, 3) := by decide +kernel
theorem dX7_set_5 : decode cX7_set 5 = .ok (.astore 4, 2) := by decide +kernel
theorem dX7_set_7 : decode cX7_set 7 = .ok (.iload_n 2, 1) := by decide +kernel
theorem dX7_set_8 : decode cX7_set 8 = .ok (.invokestatic 153, 3) := by decide +kernel
theorem dX7_set_11 : decode cX7_set 11 = .ok (.iload_n 3, 1) := by decide +kernel
theorem dX7_set_12 : decode cX7_set 12 = .ok (.iconst 0, 1) := by decide +kernel
theorem dX7_set_13 : decode cX7_set 13 = .ok (.bipush 9, 2) := by decide +kernel
theorem dX7_set_15 : decode cX7_set 15 = .ok (.invokestatic 74, 3) := by decide +kernel
theorem dX7_set_18 : decode cX7_set 18 = .ok (.ifCond .ne 13, 3) := by decide +kernel
theorem dX7_set_21 : decode cX7_set 21 = .ok (.new 156, 3) := by decide +kernel
theorem dX7_set_24 : decode cX7_set 24 = .ok (.dup, 1) := by decide +kernel
theorem dX7_set_25 : decode cX7_set 25 = .ok (.ldc 158, 2) := by decide +kernel
theorem dX7_set_27 : decode cX7_set 27 = .ok (.invokespecial 160, 3) := by decide +kernel
theorem dX7_set_30 : decode cX7_set 30 = .ok (.athrow, 1) := by decide +kernel
theorem dX7_set_31 : decode cX7_set 31 = .ok (.aload_n 0, 1) := by decide +kernel
theorem dX7_set_32 : decode cX7_set 32 = .ok (.getfield 58, 3) := by decide +kernel
theorem dX7_set_35 : decode cX7_set 35 = .ok (.invokevirtual 161, 3) := by decide +kernel
theorem dX7_set_38 : decode cX7_set 38 = .ok (.ifCond .eq 23, 3) := by decide +kernel
theorem dX7_set_41 : decode cX7_set 41 = .ok (.aload 4, 2) := by decide +kernel
theorem dX7_set_43 : decode cX7_set 43 = .ok (.invokevirtual 165, 3) := by decide +kernel
theorem dX7_set_46 : decode cX7_set 46 = .ok (.ifCond .eq 15, 3) := by decide +kernel
theorem dX7_set_49 : decode cX7_set 49 = .ok (.aload 4, 2) := by decide +kernel
theorem dX7_set_51 : decode cX7_set 51 = .ok (.getfield 168, 3) := by decide +kernel
theorem dX7_set_54 : decode cX7_set 54 = .ok (.iload_n 2, 1) := by decide +kernel
theorem dX7_set_55 : decode cX7_set 55 = .ok (.invokestatic 171, 3) := by decide +kernel
theorem dX7_set_58 : decode cX7_set 58 = .ok (.if_icmp .le 13, 3) := by decide +kernel
theorem dX7_set_61 : decode cX7_set 61 = .ok (.new 85, 3) := by decide +kernel
theorem dX7_set_64 : decode cX7_set 64 = .ok (.dup, 1) := by decide +kernel
theorem dX7_set_65 : decode cX7_set 65 = .ok (.ldc 174, 2) := by decide +kernel
theorem dX7_set_67 : decode cX7_set 67 = .ok (.invokespecial 89, 3) := by decide +kernel
theorem dX7_set_70 : decode cX7_set 70 = .ok (.athrow, 1) := by decide +kernel
theorem dX7_set_71 : decode cX7_set 71 = .ok (.aload_n 0, 1) := by decide +kernel
theorem dX7_set_72 : decode cX7_set 72 = .ok (.iload_n 2, 1) := by decide +kernel
theorem dX7_set_73 : decode cX7_set 73 = .ok (.invokevirtual 176, 3) := by decide +kernel
theorem dX7_set_76 : decode cX7_set 76 = .ok (.iload_n 3, 1) := by decide +kernel
theorem dX7_set_77 : decode cX7_set 77 = .ok (.aload 4, 2) := by decide +kernel
theorem dX7_set_79 : decode cX7_set 79 = .ok (.getfield 179, 3) := by decide +kernel
theorem dX7_set_82 : decode cX7_set 82 = .ok (.invokestatic 182, 3) := by decide +kernel
theorem dX7_set_85 : decode cX7_set 85 = .ok (.iand, 1) := by decide +kernel
theorem dX7_set_86 : decode cX7_set 86 = .ok (.ifCond .ne 7, 3) := by decide +kernel
theorem dX7_set_89 : decode cX7_set 89 = .ok (.iconst 1, 1) := by decide +kernel
theorem dX7_set_90 : decode cX7_set 90 = .ok (.goto 4, 3) := by decide +kernel
theorem dX7_set_93 : decode cX7_set 93 = .ok (.iconst 0, 1) := by decide +kernel
theorem dX7_set_94 : decode cX7_set 94 = .ok (.istore 5, 2) := by decide +kernel
theorem dX7_set_96 : decode cX7_set 96 = .ok (.iload_n 3, 1) := by decide +kernel
theorem dX7_set_97 : decode cX7_set 97 = .ok (.aload 4, 2) := by decide +kernel
theorem dX7_set_99 : decode cX7_set 99 = .ok (.getfield 179, 3) := by decide +kernel
theorem dX7_set_102 : decode cX7_set 102 = .ok (.iadd, 1) := by decide +kernel
theorem dX7_set_103 : decode cX7_set 103 = .ok (.bipush 10, 2) := by decide +kernel
theorem dX7_set_105 : decode cX7_set 105 = .ok (.if_icmp .gt 8, 3) := by decide +kernel
theorem dX7_set_108 : decode cX7_set 108 = .ok (.iload 5, 2) := by decide +kernel
theorem dX7_set_110 : decode cX7_set 110 = .ok (.ifCond .ne 13, 3) := by decide +kernel
theorem dX7_set_113 : decode cX7_set 113 = .ok (.new 85, 3) := by decide +kernel
theorem dX7_set_116 : decode cX7_set 116 = .ok (.dup, 1) := by decide +kernel
theorem dX7_set_117 : decode cX7_set 117 = .ok (.ldc 186, 2) := by decide +kernel
theorem dX7_set_119 : decode cX7_set 119 = .ok (.invokespecial 89, 3) := by decide +kernel
theorem dX7_set_122 : decode cX7_set 122 = .ok (.athrow, 1) := by decide +kernel
theorem dX7_set_123 : decode cX7_set 123 = .ok (.aload 4, 2) := by decide +kernel
theorem dX7_set_125 : decode cX7_set 125 = .ok (.iload_n 2, 1) := by decide +kernel
theorem dX7_set_126 : decode cX7_set 126 = .ok (.putfield 188, 3) := by decide +kernel
theorem dX7_set_129 : decode cX7_set 129 = .ok (.aload 4, 2) := by decide +kernel
theorem dX7_set_131 : decode cX7_set 131 = .ok (.iload_n 3, 1) := by decide +kernel
theorem dX7_set_132 : decode cX7_set 132 = .ok (.putfield 191, 3) := by decide +kernel
theorem dX7_set_135 : decode cX7_set 135 = .ok (.aload_n 0, 1) := by decide +kernel
theorem dX7_set_136 : decode cX7_set 136 = .ok (.iload_n 2, 1) := by decide +kernel
theorem dX7_set_137 : decode cX7_set 137 = .ok (.invokevirtual 194, 3) := by decide +kernel
theorem dX7_set_140 : decode cX7_set 140 = .ok (.ireturn, 1) := by decide +kernel
theorem dX7_take_0 : decode cX7_take 0 = .ok (.aload_n 0, 1) := by decide +kernel
theorem dX7_take_1 : decode cX7_take 1 = .ok (.iload_n 1, 1) := by decide +kernel
theorem dX7_take_2 : decode cX7_take 2 = .ok (.invokevirtual 117, 3) := by decide +kernel
theorem dX7_take_5 : decode cX7_take 5 = .ok (.astore_n 2, 1) := by decide +kernel
theorem dX7_take_6 : decode cX7_take 6 = .ok (.aload_n 0, 1) := by decide +kernel
theorem dX7_take_7 : decode cX7_take 7 = .ok (.getfield 58, 3) := by decide +kernel
theorem dX7_take_10 : decode cX7_take 10 = .ok (.invokevirtual 161, 3) := by decide +kernel
theorem dX7_take_13 : decode cX7_take 13 = .ok (.ifCond .eq 11, 3) := by decide +kernel
theorem dX7_take_16 : decode cX7_take 16 = .ok (.aload_n 2, 1) := by decide +kernel
theorem dX7_take_17 : decode cX7_take 17 = .ok (.getfield 188, 3) := by decide +kernel
theorem dX7_take_20 : decode cX7_take 20 = .ok (.iconst (-1), 1) := by decide +kernel
theorem dX7_take_21 : decode cX7_take 21 = .ok (.if_icmp .ne 13, 3) := by decide +kernel
theorem dX7_take_24 : decode cX7_take 24 = .ok (.new 85, 3) := by decide +kernel
theorem dX7_take_27 : decode cX7_take 27 = .ok (.dup, 1) := by decide +kernel
theorem dX7_take_28 : decode cX7_take 28 = .ok (.ldc 197, 2) := by decide +kernel
theorem dX7_take_30 : decode cX7_take 30 = .ok (.invokespecial 89, 3) := by decide +kernel
theorem dX7_take_33 : decode cX7_take 33 = .ok (.athrow, 1) := by decide +kernel
theorem dX7_take_34 : decode cX7_take 34 = .ok (.aload_n 2, 1) := by decide +kernel
theorem dX7_take_35 : decode cX7_take 35 = .ok (.getfield 188, 3) := by decide +kernel
theorem dX7_take_38 : decode cX7_take 38 = .ok (.istore_n 3, 1) := by decide +kernel
theorem dX7_take_39 : decode cX7_take 39 = .ok (.aload_n 2, 1) := by decide +kernel
theorem dX7_take_40 : decode cX7_take 40 = .ok (.invokevirtual 199, 3) := by decide +kernel
theorem dX7_take_43 : decode cX7_take 43 = .ok (.iload_n 3, 1) := by decide +kernel
theorem dX7_take_44 : decode cX7_take 44 = .ok (.ireturn, 1) := by decide +kernel
theorem dX7_ramp_0 : decode cX7_ramp 0 = .ok (.iload_n 1, 1) := by decide +kernel
theorem dX7_ramp_1 : decode cX7_ramp 1 = .ok (.bipush 10, 2) := by decide +kernel
theorem dX7_ramp_3 : decode cX7_ramp 3 = .ok (.sipush 200, 3) := by decide +kernel
theorem dX7_ramp_6 : decode cX7_ramp 6 = .ok (.invokestatic 74, 3) := by decide +kernel
theorem dX7_ramp_9 : decode cX7_ramp 9 = .ok (.ifCond .eq 25, 3) := by decide +kernel
theorem dX7_ramp_12 : decode cX7_ramp 12 = .ok (.iload_n 2, 1) := by decide +kernel
theorem dX7_ramp_13 : decode cX7_ramp 13 = .ok (.bipush 100, 2) := by decide +kernel
theorem dX7_ramp_15 : decode cX7_ramp 15 = .ok (.sipush 1400, 3) := by decide +kernel
theorem dX7_ramp_18 : decode cX7_ramp 18 = .ok (.invokestatic 74, 3) := by decide +kernel
theorem dX7_ramp_21 : decode cX7_ramp 21 = .ok (.ifCond .eq 13, 3) := by decide +kernel
theorem dX7_ramp_24 : decode cX7_ramp 24 = .ok (.iload_n 3, 1) := by decide +kernel
theorem dX7_ramp_25 : decode cX7_ramp 25 = .ok (.iconst 0, 1) := by decide +kernel
theorem dX7_ramp_26 : decode cX7_ramp 26 = .ok (.bipush 20, 2) := by decide +kernel
theorem dX7_ramp_28 : decode cX7_ramp 28 = .ok (.invokestatic 74, 3) := by decide +kernel
theorem dX7_ramp_31 : decode cX7_ramp 31 = .ok (.ifCond .ne 13, 3) := by decide +kernel
theorem dX7_ramp_34 : decode cX7_ramp 34 = .ok (.new 78, 3) := by decide +kernel
theorem dX7_ramp_37 : decode cX7_ramp 37 = .ok (.dup, 1) := by decide +kernel
theorem dX7_ramp_38 : decode cX7_ramp 38 = .ok (.ldc 202, 2) := by decide +kernel
theorem dX7_ramp_40 : decode cX7_ramp 40 = .ok (.invokespecial 82, 3) := by decide +kernel
theorem dX7_ramp_43 : decode cX7_ramp 43 = .ok (.athrow, 1) := by decide +kernel
theorem dX7_ramp_44 : decode cX7_ramp 44 = .ok (.aload_n 0, 1) := by decide +kernel
theorem dX7_ramp_45 : decode cX7_ramp 45 = .ok (.getfield 58, 3) := by decide +kernel
theorem dX7_ramp_48 : decode cX7_ramp 48 = .ok (.getfield 204, 3) := by decide +kernel
theorem dX7_ramp_51 : decode cX7_ramp 51 = .ok (.ifCond .ne 21, 3) := by decide +kernel
theorem dX7_ramp_54 : decode cX7_ramp 54 = .ok (.aload_n 0, 1) := by decide +kernel
theorem dX7_ramp_55 : decode cX7_ramp 55 = .ok (.getfield 49, 3) := by decide +kernel
theorem dX7_ramp_58 : decode cX7_ramp 58 = .ok (.getfield 207, 3) := by decide +kernel
theorem dX7_ramp_61 : decode cX7_ramp 61 = .ok (.aload_n 0, 1) := by decide +kernel
theorem dX7_ramp_62 : decode cX7_ramp 62 = .ok (.getfield 49, 3) := by decide +kernel
theorem dX7_ramp_65 : decode cX7_ramp 65 = .ok (.getfield 210, 3) := by decide +kernel
theorem dX7_ramp_68 : decode cX7_ramp 68 = .ok (.arraylength, 1) := by decide +kernel
theorem dX7_ramp_69 : decode cX7_ramp 69 = .ok (.if_icmp .lt 13, 3) := by decide +kernel
theorem dX7_ramp_72 : decode cX7_ramp 72 = .ok (.new 85, 3) := by decide +kernel
theorem dX7_ramp_75 : decode cX7_ramp 75 = .ok (.dup, 1) := by decide +kernel
theorem dX7_ramp_76 : decode cX7_ramp 76 = .ok (.ldc 214, 2) := by decide +kernel
theorem dX7_ramp_78 : decode cX7_ramp 78 = .ok (.invokespecial 89, 3) := by decide +kernel
theorem dX7_ramp_81 : decode cX7_ramp 81 = .ok (.athrow, 1) := by decide +kernel
theorem dX7_ramp_82 : decode cX7_ramp 82 = .ok (.aload_n 0, 1) := by decide +kernel
theorem dX7_ramp_83 : decode cX7_ramp 83 = .ok (.getfield 49, 3) := by decide +kernel
theorem dX7_ramp_86 : decode cX7_ramp 86 = .ok (.getfield 210, 3) := by decide +kernel
theorem dX7_ramp_89 : decode cX7_ramp 89 = .ok (.aload_n 0, 1) := by decide +kernel
theorem dX7_ramp_90 : decode cX7_ramp 90 = .ok (.getfield 49, 3) := by decide +kernel
theorem dX7_ramp_93 : decode cX7_ramp 93 = .ok (.getfield 207, 3) := by decide +kernel
theorem dX7_ramp_96 : decode cX7_ramp 96 = .ok (.new 216, 3) := by decide +kernel
theorem dX7_ramp_99 : decode cX7_ramp 99 = .ok (.dup, 1) := by decide +kernel
theorem dX7_ramp_100 : decode cX7_ramp 100 = .ok (.iload_n 1, 1) := by decide +kernel
theorem dX7_ramp_101 : decode cX7_ramp 101 = .ok (.iload_n 2, 1) := by decide +kernel
theorem dX7_ramp_102 : decode cX7_ramp 102 = .ok (.iload_n 3, 1) := by decide +kernel
theorem dX7_ramp_103 : decode cX7_ramp 103 = .ok (.invokespecial 218, 3) := by decide +kernel
theorem dX7_ramp_106 : decode cX7_ramp 106 = .ok (.aastore, 1) := by decide +kernel
theorem dX7_ramp_107 : decode cX7_ramp 107 = .ok (.aload_n 0, 1) := by decide +kernel
theorem dX7_ramp_108 : decode cX7_ramp 108 = .ok (.getfield 49, 3) := by decide +kernel
theorem dX7_ramp_111 : decode cX7_ramp 111 = .ok (.dup, 1) := by decide +kernel
theorem dX7_ramp_112 : decode cX7_ramp 112 = .ok (.getfield 207, 3) := by decide +kernel
theorem dX7_ramp_115 : decode cX7_ramp 115 = .ok (.iconst 1, 1) := by decide +kernel
theorem dX7_ramp_116 : decode cX7_ramp 116 = .ok (.iadd, 1) := by decide +kernel
theorem dX7_ramp_117 : decode cX7_ramp 117 = .ok (.putfield 207, 3) := by decide +kernel
theorem dX7_ramp_120 : decode cX7_ramp 120 = .ok (.aload_n 0, 1) := by decide +kernel
theorem dX7_ramp_121 : decode cX7_ramp 121 = .ok (.getfield 49, 3) := by decide +kernel
theorem dX7_ramp_124 : decode cX7_ramp 124 = .ok (.getfield 207, 3) := by decide +kernel
theorem dX7_ramp_127 : decode cX7_ramp 127 = .ok (.iconst 1, 1) := by decide +kernel
theorem dX7_ramp_128 : decode cX7_ramp 128 = .ok (.isub, 1) := by decide +kernel
theorem dX7_ramp_129 : decode cX7_ramp 129 = .ok (.ireturn, 1) := by decide +kernel
theorem dX7_forget_0 : decode cX7_forget 0 = .ok (.aload_n 0, 1) := by decide +kernel
theorem dX7_forget_1 : decode cX7_forget 1 = .ok (.getfield 58, 3) := by decide +kernel
theorem dX7_forget_4 : decode cX7_forget 4 = .ok (.getfield 204, 3) := by decide +kernel
theorem dX7_forget_7 : decode cX7_forget 7 = .ok (.ifCond .eq 13, 3) := by decide +kernel
theorem dX7_forget_10 : decode cX7_forget 10 = .ok (.new 85, 3) := by decide +kernel
theorem dX7_forget_13 : decode cX7_forget 13 = .ok (.dup, 1) := by decide +kernel
theorem dX7_forget_14 : decode cX7_forget 14 = .ok (.ldc 221, 2) := by decide +kernel
theorem dX7_forget_16 : decode cX7_forget 16 = .ok (.invokespecial 89, 3) := by decide +kernel
theorem dX7_forget_19 : decode cX7_forget 19 = .ok (.athrow, 1) := by decide +kernel
theorem dX7_forget_20 : decode cX7_forget 20 = .ok (.aload_n 0, 1) := by decide +kernel
theorem dX7_forget_21 : decode cX7_forget 21 = .ok (.getfield 49, 3) := by decide +kernel
theorem dX7_forget_24 : decode cX7_forget 24 = .ok (.getfield 207, 3) := by decide +kernel
theorem dX7_forget_27 : decode cX7_forget 27 = .ok (.istore_n 1, 1) := by decide +kernel
theorem dX7_forget_28 : decode cX7_forget 28 = .ok (.aload_n 0, 1) := by decide +kernel
theorem dX7_forget_29 : decode cX7_forget 29 = .ok (.getfield 49, 3) := by decide +kernel
theorem dX7_forget_32 : decode cX7_forget 32 = .ok (.iconst 0, 1) := by decide +kernel
theorem dX7_forget_33 : decode cX7_forget 33 = .ok (.putfield 207, 3) := by decide +kernel
theorem dX7_forget_36 : decode cX7_forget 36 = .ok (.iload_n 1, 1) := by decide +kernel
theorem dX7_forget_37 : decode cX7_forget 37 = .ok (.ireturn, 1) := by decide +kernel
theorem dX7_light_0 : decode cX7_light 0 = .ok (.aload_n 0, 1) := by decide +kernel
theorem dX7_light_1 : decode cX7_light 1 = .ok (.getfield 58, 3) := by decide +kernel
theorem dX7_light_4 : decode cX7_light 4 = .ok (.getfield 204, 3) := by decide +kernel
theorem dX7_light_7 : decode cX7_light 7 = .ok (.ifCond .ne 13, 3) := by decide +kernel
theorem dX7_light_10 : decode cX7_light 10 = .ok (.aload_n 0, 1) := by decide +kernel
theorem dX7_light_11 : decode cX7_light 11 = .ok (.getfield 49, 3) := by decide +kernel
theorem dX7_light_14 : decode cX7_light 14 = .ok (.getfield 207, 3) := by decide +kernel
theorem dX7_light_17 : decode cX7_light 17 = .ok (.ifCond .ne 13, 3) := by decide +kernel
theorem dX7_light_20 : decode cX7_light 20 = .ok (.new 85, 3) := by decide +kernel
theorem dX7_light_23 : decode cX7_light 23 = .ok (.dup, 1) := by decide +kernel
theorem dX7_light_24 : decode cX7_light 24 = .ok (.ldc 223, 2) := by decide +kernel
theorem dX7_light_26 : decode cX7_light 26 = .ok (.invokespecial 89, 3) := by decide +kernel
theorem dX7_light_29 : decode cX7_light 29 = .ok (.athrow, 1) := by decide +kernel
theorem dX7_light_30 : decode cX7_light 30 = .ok (.aload_n 0, 1) := by decide +kernel
theorem dX7_light_31 : decode cX7_light 31 = .ok (.getfield 58, 3) := by decide +kernel
theorem dX7_light_34 : decode cX7_light 34 = .ok (.invokevirtual 225, 3) := by decide +kernel
theorem dX7_light_37 : decode cX7_light 37 = .ok (.iconst 0, 1) := by decide +kernel
theorem dX7_light_38 : decode cX7_light 38 = .ok (.istore_n 1, 1) := by decide +kernel
theorem dX7_light_39 : decode cX7_light 39 = .ok (.iconst 0, 1) := by decide +kernel
theorem dX7_light_40 : decode cX7_light 40 = .ok (.istore_n 2, 1) := by decide +kernel
theorem dX7_light_41 : decode cX7_light 41 = .ok (.iload_n 2, 1) := by decide +kernel
theorem dX7_light_42 : decode cX7_light 42 = .ok (.iconst 3, 1) := by decide +kernel
theorem dX7_light_43 : decode cX7_light 43 = .ok (.if_icmp .ge 17, 3) := by decide +kernel
theorem dX7_light_46 : decode cX7_light 46 = .ok (.iload_n 1, 1) := by decide +kernel
theorem dX7_light_47 : decode cX7_light 47 = .ok (.aload_n 0, 1) := by decide +kernel
theorem dX7_light_48 : decode cX7_light 48 = .ok (.iload_n 2, 1) := by decide +kernel
theorem dX7_light_49 : decode cX7_light 49 = .ok (.invokevirtual 228, 3) := by decide +kernel
theorem dX7_light_52 : decode cX7_light 52 = .ok (.iadd, 1) := by decide +kernel
theorem dX7_light_53 : decode cX7_light 53 = .ok (.istore_n 1, 1) := by decide +kernel
theorem dX7_light_54 : decode cX7_light 54 = .ok (.iinc 2 1, 3) := by decide +kernel
theorem dX7_light_57 : decode cX7_light 57 = .ok (.goto (-16), 3) := by decide +kernel
theorem dX7_light_60 : decode cX7_light 60 = .ok (.iload_n 1, 1) := by decide +kernel
theorem dX7_light_61 : decode cX7_light 61 = .ok (.ireturn, 1) := by decide +kernel
theorem dX7_burn_0 : decode cX7_burn 0 = .ok (.iload_n 1, 1) := by decide +kernel
theorem dX7_burn_1 : decode cX7_burn 1 = .ok (.invokestatic 231, 3) := by decide +kernel
theorem dX7_burn_4 : decode cX7_burn 4 = .ok (.iconst 0, 1) := by decide +kernel
theorem dX7_burn_5 : decode cX7_burn 5 = .ok (.istore_n 2, 1) := by decide +kernel
theorem dX7_burn_6 : decode cX7_burn 6 = .ok (.iload_n 2, 1) := by decide +kernel
theorem dX7_burn_7 : decode cX7_burn 7 = .ok (.iload_n 1, 1) := by decide +kernel
theorem dX7_burn_8 : decode cX7_burn 8 = .ok (.if_icmp .ge 20, 3) := by decide +kernel
theorem dX7_burn_11 : decode cX7_burn 11 = .ok (.aload_n 0, 1) := by decide +kernel
theorem dX7_burn_12 : decode cX7_burn 12 = .ok (.getfield 58, 3) := by decide +kernel
theorem dX7_burn_15 : decode cX7_burn 15 = .ok (.invokevirtual 234, 3) := by decide +kernel
theorem dX7_burn_18 : decode cX7_burn 18 = .ok (.aload_n 0, 1) := by decide +kernel
theorem dX7_burn_19 : decode cX7_burn 19 = .ok (.invokevirtual 237, 3) := by decide +kernel
theorem dX7_burn_22 : decode cX7_burn 22 = .ok (.iinc 2 1, 3) := by decide +kernel
theorem dX7_burn_25 : decode cX7_burn 25 = .ok (.goto (-19), 3) := by decide +kernel
theorem dX7_burn_28 : decode cX7_burn 28 = .ok (.aload_n 0, 1) := by decide +kernel
theorem dX7_burn_29 : decode cX7_burn 29 = .ok (.getfield 58, 3) := by decide +kernel
theorem dX7_burn_32 : decode cX7_burn 32 = .ok (.getfield 204, 3) := by decide +kernel
theorem dX7_burn_35 : decode cX7_burn 35 = .ok (.ireturn, 1) := by decide +kernel
theorem dX7_damper_0 : decode cX7_damper 0 = .ok (.iload_n 1, 1) := by decide +kernel
theorem dX7_damper_1 : decode cX7_damper 1 = .ok (.iconst 0, 1) := by decide +kernel
theorem dX7_damper_2 : decode cX7_damper 2 = .ok (.iconst 4, 1) := by decide +kernel
theorem dX7_damper_3 : decode cX7_damper 3 = .ok (.invokestatic 74, 3) := by decide +kernel
theorem dX7_damper_6 : decode cX7_damper 6 = .ok (.ifCond .ne 13, 3) := by decide +kernel
theorem dX7_damper_9 : decode cX7_damper 9 = .ok (.new 78, 3) := by decide +kernel
theorem dX7_damper_12 : decode cX7_damper 12 = .ok (.dup, 1) := by decide +kernel
theorem dX7_damper_13 : decode cX7_damper 13 = .ok (.ldc 240, 2) := by decide +kernel
theorem dX7_damper_15 : decode cX7_damper 15 = .ok (.invokespecial 82, 3) := by decide +kernel
theorem dX7_damper_18 : decode cX7_damper 18 = .ok (.athrow, 1) := by decide +kernel
theorem dX7_damper_19 : decode cX7_damper 19 = .ok (.aload_n 0, 1) := by decide +kernel
theorem dX7_damper_20 : decode cX7_damper 20 = .ok (.getfield 58, 3) := by decide +kernel
theorem dX7_damper_23 : decode cX7_damper 23 = .ok (.getfield 242, 3) := by decide +kernel
theorem dX7_damper_26 : decode cX7_damper 26 = .ok (.istore_n 2, 1) := by decide +kernel
theorem dX7_damper_27 : decode cX7_damper 27 = .ok (.aload_n 0, 1) := by decide +kernel
theorem dX7_damper_28 : decode cX7_damper 28 = .ok (.getfield 58, 3) := by decide +kernel
theorem dX7_damper_31 : decode cX7_damper 31 = .ok (.iload_n 1, 1) := by decide +kernel
theorem dX7_damper_32 : decode cX7_damper 32 = .ok (.putfield 242, 3) := by decide +kernel
theorem dX7_damper_35 : decode cX7_damper 35 = .ok (.iload_n 2, 1) := by decide +kernel
theorem dX7_damper_36 : decode cX7_damper 36 = .ok (.ireturn, 1) := by decide +kernel
theorem dX7_door_0 : decode cX7_door 0 = .ok (.aload_n 0, 1) := by decide +kernel
theorem dX7_door_1 : decode cX7_door 1 = .ok (.getfield 58, 3) := by decide +kernel
theorem dX7_door_4 : decode cX7_door 4 = .ok (.getfield 245, 3) := by decide +kernel
theorem dX7_door_7 : decode cX7_door 7 = .ok (.istore_n 2, 1) := by decide +kernel
theorem dX7_door_8 : decode cX7_door 8 = .ok (.aload_n 0, 1) := by decide +kernel
theorem dX7_door_9 : decode cX7_door 9 = .ok (.getfield 58, 3) := by decide +kernel
theorem dX7_door_12 : decode cX7_door 12 = .ok (.iload_n 1, 1) := by decide +kernel
theorem dX7_door_13 : decode cX7_door 13 = .ok (.putfield 245, 3) := by decide +kernel
theorem dX7_door_16 : decode cX7_door 16 = .ok (.iload_n 2, 1) := by decide +kernel
theorem dX7_door_17 : decode cX7_door 17 = .ok (.ireturn, 1) := by decide +kernel
theorem dX7_bell_0 : decode cX7_bell 0 = .ok (.aload_n 0, 1) := by decide +kernel
theorem dX7_bell_1 : decode cX7_bell 1 = .ok (.dup, 1) := by decide +kernel
theorem dX7_bell_2 : decode cX7_bell 2 = .ok (.getfield 71, 3) := by decide +kernel
theorem dX7_bell_5 : decode cX7_bell 5 = .ok (.iconst 1, 1) := by decide +kernel
theorem dX7_bell_6 : decode cX7_bell 6 = .ok (.iadd, 1) := by decide +kernel
theorem dX7_bell_7 : decode cX7_bell 7 = .ok (.putfield 71, 3) := by decide +kernel
theorem dX7_bell_10 : decode cX7_bell 10 = .ok (.aload_n 0, 1) := by decide +kernel
theorem dX7_bell_11 : decode cX7_bell 11 = .ok (.getfield 71, 3) := by decide +kernel
theorem dX7_bell_14 : decode cX7_bell 14 = .ok (.ireturn, 1) := by decide +kernel
theorem dX7_unload_0 : decode cX7_unload 0 = .ok (.aload_n 0, 1) := by decide +kernel
theorem dX7_unload_1 : decode cX7_unload 1 = .ok (.getfield 58, 3) := by decide +kernel
theorem dX7_unload_4 : decode cX7_unload 4 = .ok (.invokevirtual 161, 3) := by decide +kernel
theorem dX7_unload_7 : decode cX7_unload 7 = .ok (.ifCond .ne 13, 3) := by decide +kernel
theorem dX7_unload_10 : decode cX7_unload 10 = .ok (.new 85, 3) := by decide +kernel
theorem dX7_unload_13 : decode cX7_unload 13 = .ok (.dup, 1) := by decide +kernel
theorem dX7_unload_14 : decode cX7_unload 14 = .ok (.ldc 248, 2) := by decide +kernel
theorem dX7_unload_16 : decode cX7_unload 16 = .ok (.invokespecial 89, 3) := by decide +kernel
theorem dX7_unload_19 : decode cX7_unload 19 = .ok (.athrow, 1) := by decide +kernel
theorem dX7_unload_20 : decode cX7_unload 20 = .ok (.iconst 0, 1) := by decide +kernel
theorem dX7_unload_21 : decode cX7_unload 21 = .ok (.istore_n 1, 1) := by decide +kernel
theorem dX7_unload_22 : decode cX7_unload 22 = .ok (.aload_n 0, 1) := by decide +kernel
theorem dX7_unload_23 : decode cX7_unload 23 = .ok (.getfield 23, 3) := by decide +kernel
theorem dX7_unload_26 : decode cX7_unload 26 = .ok (.astore_n 2, 1) := by decide +kernel
theorem dX7_unload_27 : decode cX7_unload 27 = .ok (.aload_n 2, 1) := by decide +kernel
theorem dX7_unload_28 : decode cX7_unload 28 = .ok (.arraylength, 1) := by decide +kernel
theorem dX7_unload_29 : decode cX7_unload 29 = .ok (.istore_n 3, 1) := by decide +kernel
theorem dX7_unload_30 : decode cX7_unload 30 = .ok (.iconst 0, 1) := by decide +kernel
theorem dX7_unload_31 : decode cX7_unload 31 = .ok (.istore 4, 2) := by decide +kernel
theorem dX7_unload_33 : decode cX7_unload 33 = .ok (.iload 4, 2) := by decide +kernel
theorem dX7_unload_35 : decode cX7_unload 35 = .ok (.iload_n 3, 1) := by decide +kernel
theorem dX7_unload_36 : decode cX7_unload 36 = .ok (.if_icmp .ge 68, 3) := by decide +kernel
theorem dX7_unload_39 : decode cX7_unload 39 = .ok (.aload_n 2, 1) := by decide +kernel
theorem dX7_unload_40 : decode cX7_unload 40 = .ok (.iload 4, 2) := by decide +kernel
theorem dX7_unload_42 : decode cX7_unload 42 = .ok (.aaload, 1) := by decide +kernel
theorem dX7_unload_43 : decode cX7_unload 43 = .ok (.astore 5, 2) := by decide +kernel
theorem dX7_unload_45 : decode cX7_unload 45 = .ok (.aload 5, 2) := by decide +kernel
theorem dX7_unload_47 : decode cX7_unload 47 = .ok (.ifnull 51, 3) := by decide +kernel
theorem dX7_unload_50 : decode cX7_unload 50 = .ok (.aload 5, 2) := by decide +kernel
theorem dX7_unload_52 : decode cX7_unload 52 = .ok (.getfield 188, 3) := by decide +kernel
theorem dX7_unload_55 : decode cX7_unload 55 = .ok (.iconst (-1), 1) := by decide +kernel
theorem dX7_unload_56 : decode cX7_unload 56 = .ok (.if_icmp .eq 42, 3) := by decide +kernel
theorem dX7_unload_59 : decode cX7_unload 59 = .ok (.aload 5, 2) := by decide +kernel
theorem dX7_unload_61 : decode cX7_unload 61 = .ok (.aload_n 0, 1) := by decide +kernel
theorem dX7_unload_62 : decode cX7_unload 62 = .ok (.getfield 58, 3) := by decide +kernel
theorem dX7_unload_65 : decode cX7_unload 65 = .ok (.aload 5, 2) := by decide +kernel
theorem dX7_unload_67 : decode cX7_unload 67 = .ok (.getfield 188, 3) := by decide +kernel
theorem dX7_unload_70 : decode cX7_unload 70 = .ok (.invokevirtual 250, 3) := by decide +kernel
theorem dX7_unload_73 : decode cX7_unload 73 = .ok (.invokevirtual 253, 3) := by decide +kernel
theorem dX7_unload_76 : decode cX7_unload 76 = .ok (.aload 5, 2) := by decide +kernel
theorem dX7_unload_78 : decode cX7_unload 78 = .ok (.invokevirtual 199, 3) := by decide +kernel
theorem dX7_unload_81 : decode cX7_unload 81 = .ok (.iload_n 1, 1) := by decide +kernel
theorem dX7_unload_82 : decode cX7_unload 82 = .ok (.aload 5, 2) := by decide +kernel
theorem dX7_unload_84 : decode cX7_unload 84 = .ok (.getfield 141, 3) := by decide +kernel
theorem dX7_unload_87 : decode cX7_unload 87 = .ok (.iconst 5, 1) := by decide +kernel
theorem dX7_unload_88 : decode cX7_unload 88 = .ok (.if_icmp .ne 7, 3) := by decide +kernel
theorem dX7_unload_91 : decode cX7_unload 91 = .ok (.iconst 1, 1) := by decide +kernel
theorem dX7_unload_92 : decode cX7_unload 92 = .ok (.goto 4, 3) := by decide +kernel
theorem dX7_unload_95 : decode cX7_unload 95 = .ok (.iconst 0, 1) := by decide +kernel
theorem dX7_unload_96 : decode cX7_unload 96 = .ok (.iadd, 1) := by decide +kernel
theorem dX7_unload_97 : decode cX7_unload 97 = .ok (.istore_n 1, 1) := by decide +kernel
theorem dX7_unload_98 : decode cX7_unload 98 = .ok (.iinc 4 1, 3) := by decide +kernel
theorem dX7_unload_101 : decode cX7_unload 101 = .ok (.goto (-68), 3) := by decide +kernel
theorem dX7_unload_104 : decode cX7_unload 104 = .ok (.aload_n 0, 1) := by decide +kernel
theorem dX7_unload_105 : decode cX7_unload 105 = .ok (.getfield 58, 3) := by decide +kernel
theorem dX7_unload_108 : decode cX7_unload 108 = .ok (.invokevirtual 256, 3) := by decide +kernel
theorem dX7_unload_111 : decode cX7_unload 111 = .ok (.iload_n 1, 1) := by decide +kernel
theorem dX7_unload_112 : decode cX7_unload 112 = .ok (.ireturn, 1) := by decide +kernel
theorem dX7_order_0 : decode cX7_order 0 = .ok (.aload_n 0, 1) := by decide +kernel
theorem dX7_order_1 : decode cX7_order 1 = .ok (.iload_n 1, 1) := by decide +kernel
theorem dX7_order_2 : decode cX7_order 2 = .ok (.invokevirtual 137, 3) := by decide +kernel
theorem dX7_order_5 : decode cX7_order 5 = .ok (.astore 5, 2) := by decide +kernel
theorem dX7_order_7 : decode cX7_order 7 = .ok (.iload_n 2, 1) := by decide +kernel
theorem dX7_order_8 : decode cX7_order 8 = .ok (.iconst 0, 1) := by decide +kernel
theorem dX7_order_9 : decode cX7_order 9 = .ok (.iconst 2, 1) := by decide +kernel
theorem dX7_order_10 : decode cX7_order 10 = .ok (.invokestatic 74, 3) := by decide +kernel
theorem dX7_order_13 : decode cX7_order 13 = .ok (.ifCond .eq 24, 3) := by decide +kernel
theorem dX7_order_16 : decode cX7_order 16 = .ok (.iload_n 3, 1) := by decide +kernel
theorem dX7_order_17 : decode cX7_order 17 = .ok (.iconst 0, 1) := by decide +kernel
theorem dX7_order_18 : decode cX7_order 18 = .ok (.bipush 60, 2) := by decide +kernel
theorem dX7_order_20 : decode cX7_order 20 = .ok (.invokestatic 74, 3) := by decide +kernel
theorem dX7_order_23 : decode cX7_order 23 = .ok (.ifCond .eq 14, 3) := by decide +kernel
theorem dX7_order_26 : decode cX7_order 26 = .ok (.iload 4, 2) := by decide +kernel
theorem dX7_order_28 : decode cX7_order 28 = .ok (.iconst 1, 1) := by decide +kernel
theorem dX7_order_29 : decode cX7_order 29 = .ok (.bipush 99, 2) := by decide +kernel
theorem dX7_order_31 : decode cX7_order 31 = .ok (.invokestatic 74, 3) := by decide +kernel
theorem dX7_order_34 : decode cX7_order 34 = .ok (.ifCond .ne 14, 3) := by decide +kernel
theorem dX7_order_37 : decode cX7_order 37 = .ok (.new 78, 3) := by decide +kernel
theorem dX7_order_40 : decode cX7_order 40 = .ok (.dup, 1) := by decide +kernel
theorem dX7_order_41 : decode cX7_order 41 = .ok (.ldc_w 259, 3) := by decide +kernel
theorem dX7_order_44 : decode cX7_order 44 = .ok (.invokespecial 82, 3) := by decide +kernel
theorem dX7_order_47 : decode cX7_order 47 = .ok (.athrow, 1) := by decide +kernel
theorem dX7_order_48 : decode cX7_order 48 = .ok (.aload_n 0, 1) := by decide +kernel
theorem dX7_order_49 : decode cX7_order 49 = .ok (.getfield 43, 3) := by decide +kernel
theorem dX7_order_52 : decode cX7_order 52 = .ok (.aload_n 0, 1) := by decide +kernel
theorem dX7_order_53 : decode cX7_order 53 = .ok (.getfield 29, 3) := by decide +kernel
theorem dX7_order_56 : decode cX7_order 56 = .ok (.arraylength, 1) := by decide +kernel
theorem dX7_order_57 : decode cX7_order 57 = .ok (.if_icmp .lt 14, 3) := by decide +kernel
theorem dX7_order_60 : decode cX7_order 60 = .ok (.new 85, 3) := by decide +kernel
theorem dX7_order_63 : decode cX7_order 63 = .ok (.dup, 1) := by decide +kernel
theorem dX7_order_64 : decode cX7_order 64 = .ok (.ldc_w 261, 3) := by decide +kernel
theorem dX7_order_67 : decode cX7_order 67 = .ok (.invokespecial 89, 3) := by decide +kernel
theorem dX7_order_70 : decode cX7_order 70 = .ok (.athrow, 1) := by decide +kernel
theorem dX7_order_71 : decode cX7_order 71 = .ok (.aload_n 0, 1) := by decide +kernel
theorem dX7_order_72 : decode cX7_order 72 = .ok (.getfield 29, 3) := by decide +kernel
theorem dX7_order_75 : decode cX7_order 75 = .ok (.aload_n 0, 1) := by decide +kernel
theorem dX7_order_76 : decode cX7_order 76 = .ok (.getfield 43, 3) := by decide +kernel
theorem dX7_order_79 : decode cX7_order 79 = .ok (.new 27, 3) := by decide +kernel
theorem dX7_order_82 : decode cX7_order 82 = .ok (.dup, 1) := by decide +kernel
theorem dX7_order_83 : decode cX7_order 83 = .ok (.aload 5, 2) := by decide +kernel
theorem dX7_order_85 : decode cX7_order 85 = .ok (.getfield 263, 3) := by decide +kernel
theorem dX7_order_88 : decode cX7_order 88 = .ok (.iload_n 2, 1) := by decide +kernel
theorem dX7_order_89 : decode cX7_order 89 = .ok (.aload_n 0, 1) := by decide +kernel
theorem dX7_order_90 : decode cX7_order 90 = .ok (.getfield 65, 3) := by decide +kernel
theorem dX7_order_93 : decode cX7_order 93 = .ok (.iload_n 3, 1) := by decide +kernel
theorem dX7_order_94 : decode cX7_order 94 = .ok (.iadd, 1) := by decide +kernel
theorem dX7_order_95 : decode cX7_order 95 = .ok (.iload 4, 2) := by decide +kernel
theorem dX7_order_97 : decode cX7_order 97 = .ok (.invokespecial 266, 3) := by decide +kernel
theorem dX7_order_100 : decode cX7_order 100 = .ok (.aastore, 1) := by decide +kernel
theorem dX7_order_101 : decode cX7_order 101 = .ok (.aload_n 0, 1) := by decide +kernel
theorem dX7_order_102 : decode cX7_order 102 = .ok (.dup, 1) := by decide +kernel
theorem dX7_order_103 : decode cX7_order 103 = .ok (.getfield 43, 3) := by decide +kernel
theorem dX7_order_106 : decode cX7_order 106 = .ok (.iconst 1, 1) := by decide +kernel
theorem dX7_order_107 : decode cX7_order 107 = .ok (.iadd, 1) := by decide +kernel
theorem dX7_order_108 : decode cX7_order 108 = .ok (.putfield 43, 3) := by decide +kernel
theorem dX7_order_111 : decode cX7_order 111 = .ok (.aload_n 0, 1) := by decide +kernel
theorem dX7_order_112 : decode cX7_order 112 = .ok (.getfield 43, 3) := by decide +kernel
theorem dX7_order_115 : decode cX7_order 115 = .ok (.iconst 1, 1) := by decide +kernel
theorem dX7_order_116 : decode cX7_order 116 = .ok (.isub, 1) := by decide +kernel
theorem dX7_order_117 : decode cX7_order 117 = .ok (.ireturn, 1) := by decide +kernel
theorem dX7_meet_0 : decode cX7_meet 0 = .ok (.aload_n 0, 1) := by decide +kernel
theorem dX7_meet_1 : decode cX7_meet 1 = .ok (.iload_n 1, 1) := by decide +kernel
theorem dX7_meet_2 : decode cX7_meet 2 = .ok (.invokevirtual 269, 3) := by decide +kernel
theorem dX7_meet_5 : decode cX7_meet 5 = .ok (.astore_n 3, 1) := by decide +kernel
theorem dX7_meet_6 : decode cX7_meet 6 = .ok (.aload_n 0, 1) := by decide +kernel
theorem dX7_meet_7 : decode cX7_meet 7 = .ok (.iload_n 2, 1) := by decide +kernel
theorem dX7_meet_8 : decode cX7_meet 8 = .ok (.invokevirtual 117, 3) := by decide +kernel
theorem dX7_meet_11 : decode cX7_meet 11 = .ok (.astore 4, 2) := by decide +kernel
theorem dX7_meet_13 : decode cX7_meet 13 = .ok (.aload_n 3, 1) := by decide +kernel
theorem dX7_meet_14 : decode cX7_meet 14 = .ok (.getfield 273, 3) := by decide +kernel
theorem dX7_meet_17 : decode cX7_meet 17 = .ok (.ifCond .ne 12, 3) := by decide +kernel
theorem dX7_meet_20 : decode cX7_meet 20 = .ok (.aload 4, 2) := by decide +kernel
theorem dX7_meet_22 : decode cX7_meet 22 = .ok (.getfield 141, 3) := by decide +kernel
theorem dX7_meet_25 : decode cX7_meet 25 = .ok (.iconst 4, 1) := by decide +kernel
theorem dX7_meet_26 : decode cX7_meet 26 = .ok (.if_icmp .eq 14, 3) := by decide +kernel
theorem dX7_meet_29 : decode cX7_meet 29 = .ok (.new 85, 3) := by decide +kernel
theorem dX7_meet_32 : decode cX7_meet 32 = .ok (.dup, 1) := by decide +kernel
theorem dX7_meet_33 : decode cX7_meet 33 = .ok (.ldc_w 276, 3) := by decide +kernel
theorem dX7_meet_36 : decode cX7_meet 36 = .ok (.invokespecial 89, 3) := by decide +kernel
theorem dX7_meet_39 : decode cX7_meet 39 = .ok (.athrow, 1) := by decide +kernel
theorem dX7_meet_40 : decode cX7_meet 40 = .ok (.aload 4, 2) := by decide +kernel
theorem dX7_meet_42 : decode cX7_meet 42 = .ok (.invokevirtual 278, 3) := by decide +kernel
theorem dX7_meet_45 : decode cX7_meet 45 = .ok (.aload_n 3, 1) := by decide +kernel
theorem dX7_meet_46 : decode cX7_meet 46 = .ok (.getfield 282, 3) := by decide +kernel
theorem dX7_meet_49 : decode cX7_meet 49 = .ok (.if_icmp .ne 15, 3) := by decide +kernel
theorem dX7_meet_52 : decode cX7_meet 52 = .ok (.aload 4, 2) := by decide +kernel
theorem dX7_meet_54 : decode cX7_meet 54 = .ok (.invokevirtual 284, 3) := by decide +kernel
theorem dX7_meet_57 : decode cX7_meet 57 = .ok (.aload_n 3, 1) := by decide +kernel
theorem dX7_meet_58 : decode cX7_meet 58 = .ok (.getfield 287, 3) := by decide +kernel
theorem dX7_meet_61 : decode cX7_meet 61 = .ok (.if_icmp .eq 14, 3) := by decide +kernel
theorem dX7_meet_64 : decode cX7_meet 64 = .ok (.new 85, 3) := by decide +kernel
theorem dX7_meet_67 : decode cX7_meet 67 = .ok (.dup, 1) := by decide +kernel
theorem dX7_meet_68 : decode cX7_meet 68 = .ok (.ldc_w 289, 3) := by decide +kernel
theorem dX7_meet_71 : decode cX7_meet 71 = .ok (.invokespecial 89, 3) := by decide +kernel
theorem dX7_meet_74 : decode cX7_meet 74 = .ok (.athrow, 1) := by decide +kernel
theorem dX7_meet_75 : decode cX7_meet 75 = .ok (.aload_n 3, 1) := by decide +kernel
theorem dX7_meet_76 : decode cX7_meet 76 = .ok (.aload 4, 2) := by decide +kernel
theorem dX7_meet_78 : decode cX7_meet 78 = .ok (.aload_n 0, 1) := by decide +kernel
theorem dX7_meet_79 : decode cX7_meet 79 = .ok (.getfield 65, 3) := by decide +kernel
theorem dX7_meet_82 : decode cX7_meet 82 = .ok (.invokevirtual 291, 3) := by decide +kernel
theorem dX7_meet_85 : decode cX7_meet 85 = .ok (.istore 5, 2) := by decide +kernel
theorem dX7_meet_87 : decode cX7_meet 87 = .ok (.aload_n 3, 1) := by decide +kernel
theorem dX7_meet_88 : decode cX7_meet 88 = .ok (.iconst 1, 1) := by decide +kernel
theorem dX7_meet_89 : decode cX7_meet 89 = .ok (.putfield 273, 3) := by decide +kernel
theorem dX7_meet_92 : decode cX7_meet 92 = .ok (.aload 4, 2) := by decide +kernel
theorem dX7_meet_94 : decode cX7_meet 94 = .ok (.bipush 6, 2) := by decide +kernel
theorem dX7_meet_96 : decode cX7_meet 96 = .ok (.putfield 141, 3) := by decide +kernel
theorem dX7_meet_99 : decode cX7_meet 99 = .ok (.aload_n 0, 1) := by decide +kernel
theorem dX7_meet_100 : decode cX7_meet 100 = .ok (.dup, 1) := by decide +kernel
theorem dX7_meet_101 : decode cX7_meet 101 = .ok (.getfield 68, 3) := by decide +kernel
theorem dX7_meet_104 : decode cX7_meet 104 = .ok (.iload 5, 2) := by decide +kernel
theorem dX7_meet_106 : decode cX7_meet 106 = .ok (.iadd, 1) := by decide +kernel
theorem dX7_meet_107 : decode cX7_meet 107 = .ok (.putfield 68, 3) := by decide +kernel
theorem dX7_meet_110 : decode cX7_meet 110 = .ok (.iload 5, 2) := by decide +kernel
theorem dX7_meet_112 : decode cX7_meet 112 = .ok (.ireturn, 1) := by decide +kernel
theorem dX7_ofPot_0 : decode cX7_ofPot 0 = .ok (.aload_n 0, 1) := by decide +kernel
theorem dX7_ofPot_1 : decode cX7_ofPot 1 = .ok (.iload_n 1, 1) := by decide +kernel
theorem dX7_ofPot_2 : decode cX7_ofPot 2 = .ok (.invokevirtual 117, 3) := by decide +kernel
theorem dX7_ofPot_5 : decode cX7_ofPot 5 = .ok (.astore_n 3, 1) := by decide +kernel
theorem dX7_ofPot_6 : decode cX7_ofPot 6 = .ok (.iload_n 2, 1) := by decide +kernel
theorem dX7_ofPot_7 : decode cX7_ofPot 7 = .ok (.tableswitch 93 0 7 #[45, 50, 55, 60, 65, 70, 75, 80], 45) := by decide +kernel
theorem dX7_ofPot_52 : decode cX7_ofPot 52 = .ok (.aload_n 3, 1) := by decide +kernel
theorem dX7_ofPot_53 : decode cX7_ofPot 53 = .ok (.getfield 141, 3) := by decide +kernel
theorem dX7_ofPot_56 : decode cX7_ofPot 56 = .ok (.ireturn, 1) := by decide +kernel
theorem dX7_ofPot_57 : decode cX7_ofPot 57 = .ok (.aload_n 3, 1) := by decide +kernel
theorem dX7_ofPot_58 : decode cX7_ofPot 58 = .ok (.invokevirtual 278, 3) := by decide +kernel
theorem dX7_ofPot_61 : decode cX7_ofPot 61 = .ok (.ireturn, 1) := by decide +kernel
theorem dX7_ofPot_62 : decode cX7_ofPot 62 = .ok (.aload_n 3, 1) := by decide +kernel
theorem dX7_ofPot_63 : decode cX7_ofPot 63 = .ok (.getfield 295, 3) := by decide +kernel
theorem dX7_ofPot_66 : decode cX7_ofPot 66 = .ok (.ireturn, 1) := by decide +kernel
theorem dX7_ofPot_67 : decode cX7_ofPot 67 = .ok (.aload_n 3, 1) := by decide +kernel
theorem dX7_ofPot_68 : decode cX7_ofPot 68 = .ok (.getfield 188, 3) := by decide +kernel
theorem dX7_ofPot_71 : decode cX7_ofPot 71 = .ok (.ireturn, 1) := by decide +kernel
theorem dX7_ofPot_72 : decode cX7_ofPot 72 = .ok (.aload_n 3, 1) := by decide +kernel
theorem dX7_ofPot_73 : decode cX7_ofPot 73 = .ok (.getfield 191, 3) := by decide +kernel
theorem dX7_ofPot_76 : decode cX7_ofPot 76 = .ok (.ireturn, 1) := by decide +kernel
theorem dX7_ofPot_77 : decode cX7_ofPot 77 = .ok (.aload_n 3, 1) := by decide +kernel
theorem dX7_ofPot_78 : decode cX7_ofPot 78 = .ok (.getfield 298, 3) := by decide +kernel
theorem dX7_ofPot_81 : decode cX7_ofPot 81 = .ok (.ireturn, 1) := by decide +kernel
theorem dX7_ofPot_82 : decode cX7_ofPot 82 = .ok (.aload_n 3, 1) := by decide +kernel
theorem dX7_ofPot_83 : decode cX7_ofPot 83 = .ok (.invokevirtual 284, 3) := by decide +kernel
theorem dX7_ofPot_86 : decode cX7_ofPot 86 = .ok (.ireturn, 1) := by decide +kernel
theorem dX7_ofPot_87 : decode cX7_ofPot 87 = .ok (.aload_n 3, 1) := by decide +kernel
theorem dX7_ofPot_88 : decode cX7_ofPot 88 = .ok (.getfield 121, 3) := by decide +kernel
theorem dX7_ofPot_91 : decode cX7_ofPot 91 = .ok (.ifCond .eq 7, 3) := by decide +kernel
theorem dX7_ofPot_94 : decode cX7_ofPot 94 = .ok (.iconst 1, 1) := by decide +kernel
theorem dX7_ofPot_95 : decode cX7_ofPot 95 = .ok (.goto 4, 3) := by decide +kernel
theorem dX7_ofPot_98 : decode cX7_ofPot 98 = .ok (.iconst 0, 1) := by decide +kernel
theorem dX7_ofPot_99 : decode cX7_ofPot 99 = .ok (.ireturn, 1) := by decide +kernel
theorem dX7_ofPot_100 : decode cX7_ofPot 100 = .ok (.new 78, 3) := by decide +kernel
theorem dX7_ofPot_103 : decode cX7_ofPot 103 = .ok (.dup, 1) := by decide +kernel
theorem dX7_ofPot_104 : decode cX7_ofPot 104 = .ok (.ldc_w 301, 3) := by decide +kernel
theorem dX7_ofPot_107 : decode cX7_ofPot 107 = .ok (.invokespecial 82, 3) := by decide +kernel
theorem dX7_ofPot_110 : decode cX7_ofPot 110 = .ok (.athrow, 1) := by decide +kernel
theorem dX7_water_0 : decode cX7_water 0 = .ok (.aload_n 0, 1) := by decide +kernel
theorem dX7_water_1 : decode cX7_water 1 = .ok (.iload_n 1, 1) := by decide +kernel
theorem dX7_water_2 : decode cX7_water 2 = .ok (.invokevirtual 117, 3) := by decide +kernel
theorem dX7_water_5 : decode cX7_water 5 = .ok (.getfield 303, 3) := by decide +kernel
theorem dX7_water_8 : decode cX7_water 8 = .ok (.f2d, 1) := by decide +kernel
theorem dX7_water_9 : decode cX7_water 9 = .ok (.dreturn, 1) := by decide +kernel
theorem dX7_ofGlaze_0 : decode cX7_ofGlaze 0 = .ok (.aload_n 0, 1) := by decide +kernel
theorem dX7_ofGlaze_1 : decode cX7_ofGlaze 1 = .ok (.iload_n 1, 1) := by decide +kernel
theorem dX7_ofGlaze_2 : decode cX7_ofGlaze 2 = .ok (.invokevirtual 137, 3) := by decide +kernel
theorem dX7_ofGlaze_5 : decode cX7_ofGlaze 5 = .ok (.astore_n 3, 1) := by decide +kernel
theorem dX7_ofGlaze_6 : decode cX7_ofGlaze 6 = .ok (.iload_n 2, 1) := by decide +kernel
theorem dX7_ofGlaze_7 : decode cX7_ofGlaze 7 = .ok (.tableswitch 41 0 2 #[25, 30, 35], 25) := by decide +kernel
theorem dX7_ofGlaze_32 : decode cX7_ofGlaze 32 = .ok (.aload_n 3, 1) := by decide +kernel
theorem dX7_ofGlaze_33 : decode cX7_ofGlaze 33 = .ok (.getfield 307, 3) := by decide +kernel
theorem dX7_ofGlaze_36 : decode cX7_ofGlaze 36 = .ok (.dreturn, 1) := by decide +kernel
theorem dX7_ofGlaze_37 : decode cX7_ofGlaze 37 = .ok (.aload_n 3, 1) := by decide +kernel
theorem dX7_ofGlaze_38 : decode cX7_ofGlaze 38 = .ok (.invokevirtual 311, 3) := by decide +kernel
theorem dX7_ofGlaze_41 : decode cX7_ofGlaze 41 = .ok (.dreturn, 1) := by decide +kernel
theorem dX7_ofGlaze_42 : decode cX7_ofGlaze 42 = .ok (.aload_n 3, 1) := by decide +kernel
theorem dX7_ofGlaze_43 : decode cX7_ofGlaze 43 = .ok (.getfield 150, 3) := by decide +kernel
theorem dX7_ofGlaze_46 : decode cX7_ofGlaze 46 = .ok (.i2d, 1) := by decide +kernel
theorem dX7_ofGlaze_47 : decode cX7_ofGlaze 47 = .ok (.dreturn, 1) := by decide +kernel
theorem dX7_ofGlaze_48 : decode cX7_ofGlaze 48 = .ok (.new 78, 3) := by decide +kernel
theorem dX7_ofGlaze_51 : decode cX7_ofGlaze 51 = .ok (.dup, 1) := by decide +kernel
theorem dX7_ofGlaze_52 : decode cX7_ofGlaze 52 = .ok (.ldc_w 315, 3) := by decide +kernel
theorem dX7_ofGlaze_55 : decode cX7_ofGlaze 55 = .ok (.invokespecial 82, 3) := by decide +kernel
theorem dX7_ofGlaze_58 : decode cX7_ofGlaze 58 = .ok (.athrow, 1) := by decide +kernel
theorem dX7_kiln_0 : decode cX7_kiln 0 = .ok (.iload_n 1, 1) := by decide +kernel
theorem dX7_kiln_1 : decode cX7_kiln 1 = .ok (.tableswitch 91 0 5 #[39, 47, 56, 64, 73, 82], 39) := by decide +kernel
theorem dX7_kiln_40 : decode cX7_kiln 40 = .ok (.aload_n 0, 1) := by decide +kernel
theorem dX7_kiln_41 : decode cX7_kiln 41 = .ok (.getfield 58, 3) := by decide +kernel
theorem dX7_kiln_44 : decode cX7_kiln 44 = .ok (.getfield 317, 3) := by decide +kernel
theorem dX7_kiln_47 : decode cX7_kiln 47 = .ok (.dreturn, 1) := by decide +kernel
theorem dX7_kiln_48 : decode cX7_kiln 48 = .ok (.aload_n 0, 1) := by decide +kernel
theorem dX7_kiln_49 : decode cX7_kiln 49 = .ok (.getfield 58, 3) := by decide +kernel
theorem dX7_kiln_52 : decode cX7_kiln 52 = .ok (.getfield 320, 3) := by decide +kernel
theorem dX7_kiln_55 : decode cX7_kiln 55 = .ok (.f2d, 1) := by decide +kernel
theorem dX7_kiln_56 : decode cX7_kiln 56 = .ok (.dreturn, 1) := by decide +kernel
theorem dX7_kiln_57 : decode cX7_kiln 57 = .ok (.aload_n 0, 1) := by decide +kernel
theorem dX7_kiln_58 : decode cX7_kiln 58 = .ok (.getfield 58, 3) := by decide +kernel
theorem dX7_kiln_61 : decode cX7_kiln 61 = .ok (.invokevirtual 323, 3) := by decide +kernel
theorem dX7_kiln_64 : decode cX7_kiln 64 = .ok (.dreturn, 1) := by decide +kernel
theorem dX7_kiln_65 : decode cX7_kiln 65 = .ok (.aload_n 0, 1) := by decide +kernel
theorem dX7_kiln_66 : decode cX7_kiln 66 = .ok (.getfield 58, 3) := by decide +kernel
theorem dX7_kiln_69 : decode cX7_kiln 69 = .ok (.iconst 0, 1) := by decide +kernel
theorem dX7_kiln_70 : decode cX7_kiln 70 = .ok (.invokevirtual 326, 3) := by decide +kernel
theorem dX7_kiln_73 : decode cX7_kiln 73 = .ok (.dreturn, 1) := by decide +kernel
theorem dX7_kiln_74 : decode cX7_kiln 74 = .ok (.aload_n 0, 1) := by decide +kernel
theorem dX7_kiln_75 : decode cX7_kiln 75 = .ok (.getfield 58, 3) := by decide +kernel
theorem dX7_kiln_78 : decode cX7_kiln 78 = .ok (.iconst 1, 1) := by decide +kernel
theorem dX7_kiln_79 : decode cX7_kiln 79 = .ok (.invokevirtual 326, 3) := by decide +kernel
theorem dX7_kiln_82 : decode cX7_kiln 82 = .ok (.dreturn, 1) := by decide +kernel
theorem dX7_kiln_83 : decode cX7_kiln 83 = .ok (.aload_n 0, 1) := by decide +kernel
theorem dX7_kiln_84 : decode cX7_kiln 84 = .ok (.getfield 58, 3) := by decide +kernel
theorem dX7_kiln_87 : decode cX7_kiln 87 = .ok (.iconst 2, 1) := by decide +kernel
theorem dX7_kiln_88 : decode cX7_kiln 88 = .ok (.invokevirtual 326, 3) := by decide +kernel
theorem dX7_kiln_91 : decode cX7_kiln 91 = .ok (.dreturn, 1) := by decide +kernel
theorem dX7_kiln_92 : decode cX7_kiln 92 = .ok (.new 78, 3) := by decide +kernel
theorem dX7_kiln_95 : decode cX7_kiln 95 = .ok (.dup, 1) := by decide +kernel
theorem dX7_kiln_96 : decode cX7_kiln 96 = .ok (.ldc_w 330, 3) := by decide +kernel
theorem dX7_kiln_99 : decode cX7_kiln 99 = .ok (.invokespecial 82, 3) := by decide +kernel
theorem dX7_kiln_102 : decode cX7_kiln 102 = .ok (.athrow, 1) := by decide +kernel
theorem dX7_ofShelf_0 : decode cX7_ofShelf 0 = .ok (.iload_n 1, 1) := by decide +kernel
theorem dX7_ofShelf_1 : decode cX7_ofShelf 1 = .ok (.invokestatic 153, 3) := by decide +kernel
theorem dX7_ofShelf_4 : decode cX7_ofShelf 4 = .ok (.iload_n 2, 1) := by decide +kernel
theorem dX7_ofShelf_5 : decode cX7_ofShelf 5 = .ok (.tableswitch 58 0 3 #[31, 40, 46, 52], 31) := by decide +kernel
theorem dX7_ofShelf_36 : decode cX7_ofShelf 36 = .ok (.aload_n 0, 1) := by decide +kernel
theorem dX7_ofShelf_37 : decode cX7_ofShelf 37 = .ok (.getfield 58, 3) := by decide +kernel
theorem dX7_ofShelf_40 : decode cX7_ofShelf 40 = .ok (.iload_n 1, 1) := by decide +kernel
theorem dX7_ofShelf_41 : decode cX7_ofShelf 41 = .ok (.invokevirtual 250, 3) := by decide +kernel
theorem dX7_ofShelf_44 : decode cX7_ofShelf 44 = .ok (.ireturn, 1) := by decide +kernel
theorem dX7_ofShelf_45 : decode cX7_ofShelf 45 = .ok (.aload_n 0, 1) := by decide +kernel
theorem dX7_ofShelf_46 : decode cX7_ofShelf 46 = .ok (.iload_n 1, 1) := by decide +kernel
theorem dX7_ofShelf_47 : decode cX7_ofShelf 47 = .ok (.invokevirtual 194, 3) := by decide +kernel
theorem dX7_ofShelf_50 : decode cX7_ofShelf 50 = .ok (.ireturn, 1) := by decide +kernel
theorem dX7_ofShelf_51 : decode cX7_ofShelf 51 = .ok (.aload_n 0, 1) := by decide +kernel
theorem dX7_ofShelf_52 : decode cX7_ofShelf 52 = .ok (.iload_n 1, 1) := by decide +kernel
theorem dX7_ofShelf_53 : decode cX7_ofShelf 53 = .ok (.invokevirtual 228, 3) := by decide +kernel
theorem dX7_ofShelf_56 : decode cX7_ofShelf 56 = .ok (.ireturn, 1) := by decide +kernel
theorem dX7_ofShelf_57 : decode cX7_ofShelf 57 = .ok (.aload_n 0, 1) := by decide +kernel
theorem dX7_ofShelf_58 : decode cX7_ofShelf 58 = .ok (.iload_n 1, 1) := by decide +kernel
theorem dX7_ofShelf_59 : decode cX7_ofShelf 59 = .ok (.invokevirtual 332, 3) := by decide +kernel
theorem dX7_ofShelf_62 : decode cX7_ofShelf 62 = .ok (.ireturn, 1) := by decide +kernel
theorem dX7_ofShelf_63 : decode cX7_ofShelf 63 = .ok (.new 78, 3) := by decide +kernel
theorem dX7_ofShelf_66 : decode cX7_ofShelf 66 = .ok (.dup, 1) := by decide +kernel
theorem dX7_ofShelf_67 : decode cX7_ofShelf 67 = .ok (.ldc_w 335, 3) := by decide +kernel
theorem dX7_ofShelf_70 : decode cX7_ofShelf 70 = .ok (.invokespecial 82, 3) := by decide +kernel
theorem dX7_ofShelf_73 : decode cX7_ofShelf 73 = .ok (.athrow, 1) := by decide +kernel
theorem dX7_many_0 : decode cX7_many 0 = .ok (.iload_n 1, 1) := by decide +kernel
theorem dX7_many_1 : decode cX7_many 1 = .ok (.tableswitch 231 0 15 #[79, 84, 92, 108, 130, 152, 160, 165, 171, 177, 184, 192, 200, 205, 210, 215], 79) := by decide +kernel
theorem dX7_many_80 : decode cX7_many 80 = .ok (.aload_n 0, 1) := by decide +kernel
theorem dX7_many_81 : decode cX7_many 81 = .ok (.getfield 65, 3) := by decide +kernel
theorem dX7_many_84 : decode cX7_many 84 = .ok (.ireturn, 1) := by decide +kernel
theorem dX7_many_85 : decode cX7_many 85 = .ok (.aload_n 0, 1) := by decide +kernel
theorem dX7_many_86 : decode cX7_many 86 = .ok (.getfield 58, 3) := by decide +kernel
theorem dX7_many_89 : decode cX7_many 89 = .ok (.getfield 337, 3) := by decide +kernel
theorem dX7_many_92 : decode cX7_many 92 = .ok (.ireturn, 1) := by decide +kernel
theorem dX7_many_93 : decode cX7_many 93 = .ok (.aload_n 0, 1) := by decide +kernel
theorem dX7_many_94 : decode cX7_many 94 = .ok (.getfield 58, 3) := by decide +kernel
theorem dX7_many_97 : decode cX7_many 97 = .ok (.getfield 204, 3) := by decide +kernel
theorem dX7_many_100 : decode cX7_many 100 = .ok (.ifCond .eq 7, 3) := by decide +kernel
theorem dX7_many_103 : decode cX7_many 103 = .ok (.iconst 1, 1) := by decide +kernel
theorem dX7_many_104 : decode cX7_many 104 = .ok (.goto 4, 3) := by decide +kernel
theorem dX7_many_107 : decode cX7_many 107 = .ok (.iconst 0, 1) := by decide +kernel
theorem dX7_many_108 : decode cX7_many 108 = .ok (.ireturn, 1) := by decide +kernel
theorem dX7_many_109 : decode cX7_many 109 = .ok (.aload_n 0, 1) := by decide +kernel
theorem dX7_many_110 : decode cX7_many 110 = .ok (.getfield 58, 3) := by decide +kernel
theorem dX7_many_113 : decode cX7_many 113 = .ok (.getfield 204, 3) := by decide +kernel
theorem dX7_many_116 : decode cX7_many 116 = .ok (.ifCond .eq 13, 3) := by decide +kernel
theorem dX7_many_119 : decode cX7_many 119 = .ok (.aload_n 0, 1) := by decide +kernel
theorem dX7_many_120 : decode cX7_many 120 = .ok (.getfield 58, 3) := by decide +kernel
theorem dX7_many_123 : decode cX7_many 123 = .ok (.getfield 340, 3) := by decide +kernel
theorem dX7_many_126 : decode cX7_many 126 = .ok (.goto 4, 3) := by decide +kernel
theorem dX7_many_129 : decode cX7_many 129 = .ok (.iconst (-1), 1) := by decide +kernel
theorem dX7_many_130 : decode cX7_many 130 = .ok (.ireturn, 1) := by decide +kernel
theorem dX7_many_131 : decode cX7_many 131 = .ok (.aload_n 0, 1) := by decide +kernel
theorem dX7_many_132 : decode cX7_many 132 = .ok (.getfield 58, 3) := by decide +kernel
theorem dX7_many_135 : decode cX7_many 135 = .ok (.getfield 204, 3) := by decide +kernel
theorem dX7_many_138 : decode cX7_many 138 = .ok (.ifCond .eq 13, 3) := by decide +kernel
theorem dX7_many_141 : decode cX7_many 141 = .ok (.aload_n 0, 1) := by decide +kernel
theorem dX7_many_142 : decode cX7_many 142 = .ok (.getfield 58, 3) := by decide +kernel
theorem dX7_many_145 : decode cX7_many 145 = .ok (.getfield 343, 3) := by decide +kernel
theorem dX7_many_148 : decode cX7_many 148 = .ok (.goto 4, 3) := by decide +kernel
theorem dX7_many_151 : decode cX7_many 151 = .ok (.iconst 0, 1) := by decide +kernel
theorem dX7_many_152 : decode cX7_many 152 = .ok (.ireturn, 1) := by decide +kernel
theorem dX7_many_153 : decode cX7_many 153 = .ok (.aload_n 0, 1) := by decide +kernel
theorem dX7_many_154 : decode cX7_many 154 = .ok (.getfield 49, 3) := by decide +kernel
theorem dX7_many_157 : decode cX7_many 157 = .ok (.getfield 207, 3) := by decide +kernel
theorem dX7_many_160 : decode cX7_many 160 = .ok (.ireturn, 1) := by decide +kernel
theorem dX7_many_161 : decode cX7_many 161 = .ok (.aload_n 0, 1) := by decide +kernel
theorem dX7_many_162 : decode cX7_many 162 = .ok (.getfield 40, 3) := by decide +kernel
theorem dX7_many_165 : decode cX7_many 165 = .ok (.ireturn, 1) := by decide +kernel
theorem dX7_many_166 : decode cX7_many 166 = .ok (.aload_n 0, 1) := by decide +kernel
theorem dX7_many_167 : decode cX7_many 167 = .ok (.iconst 4, 1) := by decide +kernel
theorem dX7_many_168 : decode cX7_many 168 = .ok (.invokevirtual 133, 3) := by decide +kernel
theorem dX7_many_171 : decode cX7_many 171 = .ok (.ireturn, 1) := by decide +kernel
theorem dX7_many_172 : decode cX7_many 172 = .ok (.aload_n 0, 1) := by decide +kernel
theorem dX7_many_173 : decode cX7_many 173 = .ok (.iconst 5, 1) := by decide +kernel
theorem dX7_many_174 : decode cX7_many 174 = .ok (.invokevirtual 133, 3) := by decide +kernel
theorem dX7_many_177 : decode cX7_many 177 = .ok (.ireturn, 1) := by decide +kernel
theorem dX7_many_178 : decode cX7_many 178 = .ok (.aload_n 0, 1) := by decide +kernel
theorem dX7_many_179 : decode cX7_many 179 = .ok (.bipush 6, 2) := by decide +kernel
theorem dX7_many_181 : decode cX7_many 181 = .ok (.invokevirtual 133, 3) := by decide +kernel
theorem dX7_many_184 : decode cX7_many 184 = .ok (.ireturn, 1) := by decide +kernel
theorem dX7_many_185 : decode cX7_many 185 = .ok (.aload_n 0, 1) := by decide +kernel
theorem dX7_many_186 : decode cX7_many 186 = .ok (.getfield 58, 3) := by decide +kernel
theorem dX7_many_189 : decode cX7_many 189 = .ok (.getfield 346, 3) := by decide +kernel
theorem dX7_many_192 : decode cX7_many 192 = .ok (.ireturn, 1) := by decide +kernel
theorem dX7_many_193 : decode cX7_many 193 = .ok (.aload_n 0, 1) := by decide +kernel
theorem dX7_many_194 : decode cX7_many 194 = .ok (.getfield 58, 3) := by decide +kernel
theorem dX7_many_197 : decode cX7_many 197 = .ok (.getfield 349, 3) := by decide +kernel
theorem dX7_many_200 : decode cX7_many 200 = .ok (.ireturn, 1) := by decide +kernel
theorem dX7_many_201 : decode cX7_many 201 = .ok (.aload_n 0, 1) := by decide +kernel
theorem dX7_many_202 : decode cX7_many 202 = .ok (.getfield 68, 3) := by decide +kernel
theorem dX7_many_205 : decode cX7_many 205 = .ok (.ireturn, 1) := by decide +kernel
theorem dX7_many_206 : decode cX7_many 206 = .ok (.aload_n 0, 1) := by decide +kernel
theorem dX7_many_207 : decode cX7_many 207 = .ok (.invokevirtual 352, 3) := by decide +kernel
theorem dX7_many_210 : decode cX7_many 210 = .ok (.ireturn, 1) := by decide +kernel
theorem dX7_many_211 : decode cX7_many 211 = .ok (.aload_n 0, 1) := by decide +kernel
theorem dX7_many_212 : decode cX7_many 212 = .ok (.getfield 71, 3) := by decide +kernel
theorem dX7_many_215 : decode cX7_many 215 = .ok (.ireturn, 1) := by decide +kernel
theorem dX7_many_216 : decode cX7_many 216 = .ok (.aload_n 0, 1) := by decide +kernel
theorem dX7_many_217 : decode cX7_many 217 = .ok (.getfield 58, 3) := by decide +kernel
theorem dX7_many_220 : decode cX7_many 220 = .ok (.getfield 245, 3) := by decide +kernel
theorem dX7_many_223 : decode cX7_many 223 = .ok (.ifCond .eq 7, 3) := by decide +kernel
theorem dX7_many_226 : decode cX7_many 226 = .ok (.iconst 1, 1) := by decide +kernel
theorem dX7_many_227 : decode cX7_many 227 = .ok (.goto 4, 3) := by decide +kernel
theorem dX7_many_230 : decode cX7_many 230 = .ok (.iconst 0, 1) := by decide +kernel
theorem dX7_many_231 : decode cX7_many 231 = .ok (.ireturn, 1) := by decide +kernel
theorem dX7_many_232 : decode cX7_many 232 = .ok (.new 78, 3) := by decide +kernel
theorem dX7_many_235 : decode cX7_many 235 = .ok (.dup, 1) := by decide +kernel
theorem dX7_many_236 : decode cX7_many 236 = .ok (.ldc_w 355, 3) := by decide +kernel
theorem dX7_many_239 : decode cX7_many 239 = .ok (.invokespecial 82, 3) := by decide +kernel
theorem dX7_many_242 : decode cX7_many 242 = .ok (.athrow, 1) := by decide +kernel
theorem dX7_wouldCone_0 : decode cX7_wouldCone 0 = .ok (.iload_n 1, 1) := by decide +kernel
theorem dX7_wouldCone_1 : decode cX7_wouldCone 1 = .ok (.invokestatic 153, 3) := by decide +kernel
theorem dX7_wouldCone_4 : decode cX7_wouldCone 4 = .ok (.iload_n 2, 1) := by decide +kernel
theorem dX7_wouldCone_5 : decode cX7_wouldCone 5 = .ok (.invokestatic 231, 3) := by decide +kernel
theorem dX7_wouldCone_8 : decode cX7_wouldCone 8 = .ok (.aload_n 0, 1) := by decide +kernel
theorem dX7_wouldCone_9 : decode cX7_wouldCone 9 = .ok (.getfield 62, 3) := by decide +kernel
theorem dX7_wouldCone_12 : decode cX7_wouldCone 12 = .ok (.aload_n 0, 1) := by decide +kernel
theorem dX7_wouldCone_13 : decode cX7_wouldCone 13 = .ok (.getfield 58, 3) := by decide +kernel
theorem dX7_wouldCone_16 : decode cX7_wouldCone 16 = .ok (.invokevirtual 357, 3) := by decide +kernel
theorem dX7_wouldCone_19 : decode cX7_wouldCone 19 = .ok (.iconst 0, 1) := by decide +kernel
theorem dX7_wouldCone_20 : decode cX7_wouldCone 20 = .ok (.istore_n 3, 1) := by decide +kernel
theorem dX7_wouldCone_21 : decode cX7_wouldCone 21 = .ok (.iload_n 3, 1) := by decide +kernel
theorem dX7_wouldCone_22 : decode cX7_wouldCone 22 = .ok (.iload_n 2, 1) := by decide +kernel
theorem dX7_wouldCone_23 : decode cX7_wouldCone 23 = .ok (.if_icmp .ge 16, 3) := by decide +kernel
theorem dX7_wouldCone_26 : decode cX7_wouldCone 26 = .ok (.aload_n 0, 1) := by decide +kernel
theorem dX7_wouldCone_27 : decode cX7_wouldCone 27 = .ok (.getfield 62, 3) := by decide +kernel
theorem dX7_wouldCone_30 : decode cX7_wouldCone 30 = .ok (.invokevirtual 234, 3) := by decide +kernel
theorem dX7_wouldCone_33 : decode cX7_wouldCone 33 = .ok (.iinc 3 1, 3) := by decide +kernel
theorem dX7_wouldCone_36 : decode cX7_wouldCone 36 = .ok (.goto (-15), 3) := by decide +kernel
theorem dX7_wouldCone_39 : decode cX7_wouldCone 39 = .ok (.aload_n 0, 1) := by decide +kernel
theorem dX7_wouldCone_40 : decode cX7_wouldCone 40 = .ok (.getfield 62, 3) := by decide +kernel
theorem dX7_wouldCone_43 : decode cX7_wouldCone 43 = .ok (.iload_n 1, 1) := by decide +kernel
theorem dX7_wouldCone_44 : decode cX7_wouldCone 44 = .ok (.invokevirtual 250, 3) := by decide +kernel
theorem dX7_wouldCone_47 : decode cX7_wouldCone 47 = .ok (.ireturn, 1) := by decide +kernel
theorem dX7_wouldEnd_0 : decode cX7_wouldEnd 0 = .ok (.aload_n 0, 1) := by decide +kernel
theorem dX7_wouldEnd_1 : decode cX7_wouldEnd 1 = .ok (.getfield 62, 3) := by decide +kernel
theorem dX7_wouldEnd_4 : decode cX7_wouldEnd 4 = .ok (.aload_n 0, 1) := by decide +kernel
theorem dX7_wouldEnd_5 : decode cX7_wouldEnd 5 = .ok (.getfield 58, 3) := by decide +kernel
theorem dX7_wouldEnd_8 : decode cX7_wouldEnd 8 = .ok (.invokevirtual 357, 3) := by decide +kernel
theorem dX7_wouldEnd_11 : decode cX7_wouldEnd 11 = .ok (.iconst 0, 1) := by decide +kernel
theorem dX7_wouldEnd_12 : decode cX7_wouldEnd 12 = .ok (.istore_n 1, 1) := by decide +kernel
theorem dX7_wouldEnd_13 : decode cX7_wouldEnd 13 = .ok (.iload_n 1, 1) := by decide +kernel
theorem dX7_wouldEnd_14 : decode cX7_wouldEnd 14 = .ok (.sipush 300, 3) := by decide +kernel
theorem dX7_wouldEnd_17 : decode cX7_wouldEnd 17 = .ok (.if_icmp .ge 28, 3) := by decide +kernel
theorem dX7_wouldEnd_20 : decode cX7_wouldEnd 20 = .ok (.aload_n 0, 1) := by decide +kernel
theorem dX7_wouldEnd_21 : decode cX7_wouldEnd 21 = .ok (.getfield 62, 3) := by decide +kernel
theorem dX7_wouldEnd_24 : decode cX7_wouldEnd 24 = .ok (.getfield 204, 3) := by decide +kernel
theorem dX7_wouldEnd_27 : decode cX7_wouldEnd 27 = .ok (.ifCond .ne 5, 3) := by decide +kernel
theorem dX7_wouldEnd_30 : decode cX7_wouldEnd 30 = .ok (.iload_n 1, 1) := by decide +kernel
theorem dX7_wouldEnd_31 : decode cX7_wouldEnd 31 = .ok (.ireturn, 1) := by decide +kernel
theorem dX7_wouldEnd_32 : decode cX7_wouldEnd 32 = .ok (.aload_n 0, 1) := by decide +kernel
theorem dX7_wouldEnd_33 : decode cX7_wouldEnd 33 = .ok (.getfield 62, 3) := by decide +kernel
theorem dX7_wouldEnd_36 : decode cX7_wouldEnd 36 = .ok (.invokevirtual 234, 3) := by decide +kernel
theorem dX7_wouldEnd_39 : decode cX7_wouldEnd 39 = .ok (.iinc 1 1, 3) := by decide +kernel
theorem dX7_wouldEnd_42 : decode cX7_wouldEnd 42 = .ok (.goto (-29), 3) := by decide +kernel
theorem dX7_wouldEnd_45 : decode cX7_wouldEnd 45 = .ok (.aload_n 0, 1) := by decide +kernel
theorem dX7_wouldEnd_46 : decode cX7_wouldEnd 46 = .ok (.getfield 62, 3) := by decide +kernel
theorem dX7_wouldEnd_49 : decode cX7_wouldEnd 49 = .ok (.getfield 204, 3) := by decide +kernel
theorem dX7_wouldEnd_52 : decode cX7_wouldEnd 52 = .ok (.ifCond .eq 7, 3) := by decide +kernel
theorem dX7_wouldEnd_55 : decode cX7_wouldEnd 55 = .ok (.iconst (-1), 1) := by decide +kernel
theorem dX7_wouldEnd_56 : decode cX7_wouldEnd 56 = .ok (.goto 6, 3) := by decide +kernel
theorem dX7_wouldEnd_59 : decode cX7_wouldEnd 59 = .ok (.sipush 300, 3) := by decide +kernel
theorem dX7_wouldEnd_62 : decode cX7_wouldEnd 62 = .ok (.ireturn, 1) := by decide +kernel
theorem dX7_best_0 : decode cX7_best 0 = .ok (.aload_n 0, 1) := by decide +kernel
theorem dX7_best_1 : decode cX7_best 1 = .ok (.iload_n 1, 1) := by decide +kernel
theorem dX7_best_2 : decode cX7_best 2 = .ok (.invokevirtual 106, 3) := by decide +kernel
theorem dX7_best_5 : decode cX7_best 5 = .ok (.astore_n 3, 1) := by decide +kernel
theorem dX7_best_6 : decode cX7_best 6 = .ok (.iload_n 2, 1) := by decide +kernel
theorem dX7_best_7 : decode cX7_best 7 = .ok (.iconst 1, 1) := by decide +kernel
theorem dX7_best_8 : decode cX7_best 8 = .ok (.bipush 12, 2) := by decide +kernel
theorem dX7_best_10 : decode cX7_best 10 = .ok (.invokestatic 74, 3) := by decide +kernel
theorem dX7_best_13 : decode cX7_best 13 = .ok (.ifCond .ne 14, 3) := by decide +kernel
theorem dX7_best_16 : decode cX7_best 16 = .ok (.new 78, 3) := by decide +kernel
theorem dX7_best_19 : decode cX7_best 19 = .ok (.dup, 1) := by decide +kernel
theorem dX7_best_20 : decode cX7_best 20 = .ok (.ldc_w 361, 3) := by decide +kernel
theorem dX7_best_23 : decode cX7_best 23 = .ok (.invokespecial 82, 3) := by decide +kernel
theorem dX7_best_26 : decode cX7_best 26 = .ok (.athrow, 1) := by decide +kernel
theorem dX7_best_27 : decode cX7_best 27 = .ok (.aconst_null, 1) := by decide +kernel
theorem dX7_best_28 : decode cX7_best 28 = .ok (.astore 4, 2) := by decide +kernel
theorem dX7_best_30 : decode cX7_best 30 = .ok (.aload_n 0, 1) := by decide +kernel
theorem dX7_best_31 : decode cX7_best 31 = .ok (.getfield 17, 3) := by decide +kernel
theorem dX7_best_34 : decode cX7_best 34 = .ok (.astore 5, 2) := by decide +kernel
theorem dX7_best_36 : decode cX7_best 36 = .ok (.aload 5, 2) := by decide +kernel
theorem dX7_best_38 : decode cX7_best 38 = .ok (.arraylength, 1) := by decide +kernel
theorem dX7_best_39 : decode cX7_best 39 = .ok (.istore 6, 2) := by decide +kernel
theorem dX7_best_41 : decode cX7_best 41 = .ok (.iconst 0, 1) := by decide +kernel
theorem dX7_best_42 : decode cX7_best 42 = .ok (.istore 7, 2) := by decide +kernel
theorem dX7_best_44 : decode cX7_best 44 = .ok (.iload 7, 2) := by decide +kernel
theorem dX7_best_46 : decode cX7_best 46 = .ok (.iload 6, 2) := by decide +kernel
theorem dX7_best_48 : decode cX7_best 48 = .ok (.if_icmp .ge 56, 3) := by decide +kernel
theorem dX7_best_51 : decode cX7_best 51 = .ok (.aload 5, 2) := by decide +kernel
theorem dX7_best_53 : decode cX7_best 53 = .ok (.iload 7, 2) := by decide +kernel
theorem dX7_best_55 : decode cX7_best 55 = .ok (.aaload, 1) := by decide +kernel
theorem dX7_best_56 : decode cX7_best 56 = .ok (.astore 8, 2) := by decide +kernel
theorem dX7_best_58 : decode cX7_best 58 = .ok (.aload 8, 2) := by decide +kernel
theorem dX7_best_60 : decode cX7_best 60 = .ok (.ifnull 38, 3) := by decide +kernel
theorem dX7_best_63 : decode cX7_best 63 = .ok (.aload 8, 2) := by decide +kernel
theorem dX7_best_65 : decode cX7_best 65 = .ok (.aload_n 3, 1) := by decide +kernel
theorem dX7_best_66 : decode cX7_best 66 = .ok (.iload_n 2, 1) := by decide +kernel
theorem dX7_best_67 : decode cX7_best 67 = .ok (.invokevirtual 363, 3) := by decide +kernel
theorem dX7_best_70 : decode cX7_best 70 = .ok (.ifCond .ne 28, 3) := by decide +kernel
theorem dX7_best_73 : decode cX7_best 73 = .ok (.aload 4, 2) := by decide +kernel
theorem dX7_best_75 : decode cX7_best 75 = .ok (.ifnull 19, 3) := by decide +kernel
theorem dX7_best_78 : decode cX7_best 78 = .ok (.aload 8, 2) := by decide +kernel
theorem dX7_best_80 : decode cX7_best 80 = .ok (.aload_n 3, 1) := by decide +kernel
theorem dX7_best_81 : decode cX7_best 81 = .ok (.invokevirtual 367, 3) := by decide +kernel
theorem dX7_best_84 : decode cX7_best 84 = .ok (.aload 4, 2) := by decide +kernel
theorem dX7_best_86 : decode cX7_best 86 = .ok (.aload_n 3, 1) := by decide +kernel
theorem dX7_best_87 : decode cX7_best 87 = .ok (.invokevirtual 367, 3) := by decide +kernel
theorem dX7_best_90 : decode cX7_best 90 = .ok (.dcmp .g, 1) := by decide +kernel
theorem dX7_best_91 : decode cX7_best 91 = .ok (.ifCond .ge 7, 3) := by decide +kernel
theorem dX7_best_94 : decode cX7_best 94 = .ok (.aload 8, 2) := by decide +kernel
theorem dX7_best_96 : decode cX7_best 96 = .ok (.astore 4, 2) := by decide +kernel
theorem dX7_best_98 : decode cX7_best 98 = .ok (.iinc 7 1, 3) := by decide +kernel
theorem dX7_best_101 : decode cX7_best 101 = .ok (.goto (-57), 3) := by decide +kernel
theorem dX7_best_104 : decode cX7_best 104 = .ok (.aload 4, 2) := by decide +kernel
theorem dX7_best_106 : decode cX7_best 106 = .ok (.ifnonnull 7, 3) := by decide +kernel
theorem dX7_best_109 : decode cX7_best 109 = .ok (.iconst (-1), 1) := by decide +kernel
theorem dX7_best_110 : decode cX7_best 110 = .ok (.goto 8, 3) := by decide +kernel
theorem dX7_best_113 : decode cX7_best 113 = .ok (.aload 4, 2) := by decide +kernel
theorem dX7_best_115 : decode cX7_best 115 = .ok (.getfield 263, 3) := by decide +kernel
theorem dX7_best_118 : decode cX7_best 118 = .ok (.ireturn, 1) := by decide +kernel
theorem dX7_wouldHold_0 : decode cX7_wouldHold 0 = .ok (.iload_n 1, 1) := by decide +kernel
theorem dX7_wouldHold_1 : decode cX7_wouldHold 1 = .ok (.invokestatic 153, 3) := by decide +kernel
theorem dX7_wouldHold_4 : decode cX7_wouldHold 4 = .ok (.aload_n 0, 1) := by decide +kernel
theorem dX7_wouldHold_5 : decode cX7_wouldHold 5 = .ok (.iload_n 1, 1) := by decide +kernel
theorem dX7_wouldHold_6 : decode cX7_wouldHold 6 = .ok (.invokestatic 171, 3) := by decide +kernel
theorem dX7_wouldHold_9 : decode cX7_wouldHold 9 = .ok (.invokevirtual 371, 3) := by decide +kernel
theorem dX7_wouldHold_12 : decode cX7_wouldHold 12 = .ok (.istore_n 2, 1) := by decide +kernel
theorem dX7_wouldHold_13 : decode cX7_wouldHold 13 = .ok (.aload_n 0, 1) := by decide +kernel
theorem dX7_wouldHold_14 : decode cX7_wouldHold 14 = .ok (.iload_n 1, 1) := by decide +kernel
theorem dX7_wouldHold_15 : decode cX7_wouldHold 15 = .ok (.invokevirtual 332, 3) := by decide +kernel
theorem dX7_wouldHold_18 : decode cX7_wouldHold 18 = .ok (.istore_n 3, 1) := by decide +kernel
theorem dX7_wouldHold_19 : decode cX7_wouldHold 19 = .ok (.iload_n 3, 1) := by decide +kernel
theorem dX7_wouldHold_20 : decode cX7_wouldHold 20 = .ok (.ifCond .le 19, 3) := by decide +kernel
theorem dX7_wouldHold_23 : decode cX7_wouldHold 23 = .ok (.iload_n 2, 1) := by decide +kernel
theorem dX7_wouldHold_24 : decode cX7_wouldHold 24 = .ok (.iload_n 3, 1) := by decide +kernel
theorem dX7_wouldHold_25 : decode cX7_wouldHold 25 = .ok (.ishr, 1) := by decide +kernel
theorem dX7_wouldHold_26 : decode cX7_wouldHold 26 = .ok (.iconst 1, 1) := by decide +kernel
theorem dX7_wouldHold_27 : decode cX7_wouldHold 27 = .ok (.iand, 1) := by decide +kernel
theorem dX7_wouldHold_28 : decode cX7_wouldHold 28 = .ok (.ifCond .eq 5, 3) := by decide +kernel
theorem dX7_wouldHold_31 : decode cX7_wouldHold 31 = .ok (.iload_n 3, 1) := by decide +kernel
theorem dX7_wouldHold_32 : decode cX7_wouldHold 32 = .ok (.ireturn, 1) := by decide +kernel
theorem dX7_wouldHold_33 : decode cX7_wouldHold 33 = .ok (.iinc 3 (-1), 3) := by decide +kernel
theorem dX7_wouldHold_36 : decode cX7_wouldHold 36 = .ok (.goto (-17), 3) := by decide +kernel
theorem dX7_wouldHold_39 : decode cX7_wouldHold 39 = .ok (.iconst 0, 1) := by decide +kernel
theorem dX7_wouldHold_40 : decode cX7_wouldHold 40 = .ok (.ireturn, 1) := by decide +kernel
theorem dX7_digest_0 : decode cX7_digest 0 = .ok (.ldc2_w 374, 3) := by decide +kernel
theorem dX7_digest_3 : decode cX7_digest 3 = .ok (.lstore_n 1, 1) := by decide +kernel
theorem dX7_digest_4 : decode cX7_digest 4 = .ok (.iconst 0, 1) := by decide +kernel
theorem dX7_digest_5 : decode cX7_digest 5 = .ok (.istore_n 3, 1) := by decide +kernel
theorem dX7_digest_6 : decode cX7_digest 6 = .ok (.iload_n 3, 1) := by decide +kernel
theorem dX7_digest_7 : decode cX7_digest 7 = .ok (.bipush 16, 2) := by decide +kernel
theorem dX7_digest_9 : decode cX7_digest 9 = .ok (.if_icmp .ge 22, 3) := by decide +kernel
theorem dX7_digest_12 : decode cX7_digest 12 = .ok (.lload_n 1, 1) := by decide +kernel
theorem dX7_digest_13 : decode cX7_digest 13 = .ok (.ldc2_w 376, 3) := by decide +kernel
theorem dX7_digest_16 : decode cX7_digest 16 = .ok (.lmul, 1) := by decide +kernel
theorem dX7_digest_17 : decode cX7_digest 17 = .ok (.aload_n 0, 1) := by decide +kernel
theorem dX7_digest_18 : decode cX7_digest 18 = .ok (.iload_n 3, 1) := by decide +kernel
theorem dX7_digest_19 : decode cX7_digest 19 = .ok (.invokevirtual 378, 3) := by decide +kernel
theorem dX7_digest_22 : decode cX7_digest 22 = .ok (.i2l, 1) := by decide +kernel
theorem dX7_digest_23 : decode cX7_digest 23 = .ok (.ladd, 1) := by decide +kernel
theorem dX7_digest_24 : decode cX7_digest 24 = .ok (.lstore_n 1, 1) := by decide +kernel
theorem dX7_digest_25 : decode cX7_digest 25 = .ok (.iinc 3 1, 3) := by decide +kernel
theorem dX7_digest_28 : decode cX7_digest 28 = .ok (.goto (-22), 3) := by decide +kernel
theorem dX7_digest_31 : decode cX7_digest 31 = .ok (.iconst 0, 1) := by decide +kernel
theorem dX7_digest_32 : decode cX7_digest 32 = .ok (.istore_n 3, 1) := by decide +kernel
theorem dX7_digest_33 : decode cX7_digest 33 = .ok (.iload_n 3, 1) := by decide +kernel
theorem dX7_digest_34 : decode cX7_digest 34 = .ok (.aload_n 0, 1) := by decide +kernel
theorem dX7_digest_35 : decode cX7_digest 35 = .ok (.getfield 40, 3) := by decide +kernel
theorem dX7_digest_38 : decode cX7_digest 38 = .ok (.if_icmp .ge 16, 3) := by decide +kernel
theorem dX7_digest_41 : decode cX7_digest 41 = .ok (.aload_n 0, 1) := by decide +kernel
theorem dX7_digest_42 : decode cX7_digest 42 = .ok (.lload_n 1, 1) := by decide +kernel
theorem dX7_digest_43 : decode cX7_digest 43 = .ok (.iload_n 3, 1) := by decide +kernel
theorem dX7_digest_44 : decode cX7_digest 44 = .ok (.invokevirtual 381, 3) := by decide +kernel
theorem dX7_digest_47 : decode cX7_digest 47 = .ok (.lstore_n 1, 1) := by decide +kernel
theorem dX7_digest_48 : decode cX7_digest 48 = .ok (.iinc 3 1, 3) := by decide +kernel
theorem dX7_digest_51 : decode cX7_digest 51 = .ok (.goto (-18), 3) := by decide +kernel
theorem dX7_digest_54 : decode cX7_digest 54 = .ok (.iconst 0, 1) := by decide +kernel
theorem dX7_digest_55 : decode cX7_digest 55 = .ok (.istore_n 3, 1) := by decide +kernel
theorem dX7_digest_56 : decode cX7_digest 56 = .ok (.iload_n 3, 1) := by decide +kernel
theorem dX7_digest_57 : decode cX7_digest 57 = .ok (.aload_n 0, 1) := by decide +kernel
theorem dX7_digest_58 : decode cX7_digest 58 = .ok (.getfield 37, 3) := by decide +kernel
theorem dX7_digest_61 : decode cX7_digest 61 = .ok (.if_icmp .ge 41, 3) := by decide +kernel
theorem dX7_digest_64 : decode cX7_digest 64 = .ok (.lload_n 1, 1) := by decide +kernel
theorem dX7_digest_65 : decode cX7_digest 65 = .ok (.ldc2_w 376, 3) := by decide +kernel
theorem dX7_digest_68 : decode cX7_digest 68 = .ok (.lmul, 1) := by decide +kernel
theorem dX7_digest_69 : decode cX7_digest 69 = .ok (.ldc2_w 385, 3) := by decide +kernel
theorem dX7_digest_72 : decode cX7_digest 72 = .ok (.aload_n 0, 1) := by decide +kernel
theorem dX7_digest_73 : decode cX7_digest 73 = .ok (.iload_n 3, 1) := by decide +kernel
theorem dX7_digest_74 : decode cX7_digest 74 = .ok (.iconst 0, 1) := by decide +kernel
theorem dX7_digest_75 : decode cX7_digest 75 = .ok (.invokevirtual 387, 3) := by decide +kernel
theorem dX7_digest_78 : decode cX7_digest 78 = .ok (.dmul, 1) := by decide +kernel
theorem dX7_digest_79 : decode cX7_digest 79 = .ok (.d2l, 1) := by decide +kernel
theorem dX7_digest_80 : decode cX7_digest 80 = .ok (.ladd, 1) := by decide +kernel
theorem dX7_digest_81 : decode cX7_digest 81 = .ok (.lstore_n 1, 1) := by decide +kernel
theorem dX7_digest_82 : decode cX7_digest 82 = .ok (.lload_n 1, 1) := by decide +kernel
theorem dX7_digest_83 : decode cX7_digest 83 = .ok (.ldc2_w 376, 3) := by decide +kernel
theorem dX7_digest_86 : decode cX7_digest 86 = .ok (.lmul, 1) := by decide +kernel
theorem dX7_digest_87 : decode cX7_digest 87 = .ok (.aload_n 0, 1) := by decide +kernel
theorem dX7_digest_88 : decode cX7_digest 88 = .ok (.iload_n 3, 1) := by decide +kernel
theorem dX7_digest_89 : decode cX7_digest 89 = .ok (.iconst 2, 1) := by decide +kernel
theorem dX7_digest_90 : decode cX7_digest 90 = .ok (.invokevirtual 387, 3) := by decide +kernel
theorem dX7_digest_93 : decode cX7_digest 93 = .ok (.d2l, 1) := by decide +kernel
theorem dX7_digest_94 : decode cX7_digest 94 = .ok (.ladd, 1) := by decide +kernel
theorem dX7_digest_95 : decode cX7_digest 95 = .ok (.lstore_n 1, 1) := by decide +kernel
theorem dX7_digest_96 : decode cX7_digest 96 = .ok (.iinc 3 1, 3) := by decide +kernel
theorem dX7_digest_99 : decode cX7_digest 99 = .ok (.goto (-43), 3) := by decide +kernel
theorem dX7_digest_102 : decode cX7_digest 102 = .ok (.iconst 0, 1) := by decide +kernel
theorem dX7_digest_103 : decode cX7_digest 103 = .ok (.istore_n 3, 1) := by decide +kernel
theorem dX7_digest_104 : decode cX7_digest 104 = .ok (.iload_n 3, 1) := by decide +kernel
theorem dX7_digest_105 : decode cX7_digest 105 = .ok (.iconst 3, 1) := by decide +kernel
theorem dX7_digest_106 : decode cX7_digest 106 = .ok (.if_icmp .ge 16, 3) := by decide +kernel
theorem dX7_digest_109 : decode cX7_digest 109 = .ok (.aload_n 0, 1) := by decide +kernel
theorem dX7_digest_110 : decode cX7_digest 110 = .ok (.lload_n 1, 1) := by decide +kernel
theorem dX7_digest_111 : decode cX7_digest 111 = .ok (.iload_n 3, 1) := by decide +kernel
theorem dX7_digest_112 : decode cX7_digest 112 = .ok (.invokevirtual 391, 3) := by decide +kernel
theorem dX7_digest_115 : decode cX7_digest 115 = .ok (.lstore_n 1, 1) := by decide +kernel
theorem dX7_digest_116 : decode cX7_digest 116 = .ok (.iinc 3 1, 3) := by decide +kernel
theorem dX7_digest_119 : decode cX7_digest 119 = .ok (.goto (-15), 3) := by decide +kernel
theorem dX7_digest_122 : decode cX7_digest 122 = .ok (.lload_n 1, 1) := by decide +kernel
theorem dX7_digest_123 : decode cX7_digest 123 = .ok (.ldc2_w 376, 3) := by decide +kernel
theorem dX7_digest_126 : decode cX7_digest 126 = .ok (.lmul, 1) := by decide +kernel
theorem dX7_digest_127 : decode cX7_digest 127 = .ok (.ldc2_w 385, 3) := by decide +kernel
theorem dX7_digest_130 : decode cX7_digest 130 = .ok (.aload_n 0, 1) := by decide +kernel
theorem dX7_digest_131 : decode cX7_digest 131 = .ok (.iconst 0, 1) := by decide +kernel
theorem dX7_digest_132 : decode cX7_digest 132 = .ok (.invokevirtual 394, 3) := by decide +kernel
theorem dX7_digest_135 : decode cX7_digest 135 = .ok (.dmul, 1) := by decide +kernel
theorem dX7_digest_136 : decode cX7_digest 136 = .ok (.d2l, 1) := by decide +kernel
theorem dX7_digest_137 : decode cX7_digest 137 = .ok (.ladd, 1) := by decide +kernel
theorem dX7_digest_138 : decode cX7_digest 138 = .ok (.lstore_n 1, 1) := by decide +kernel
theorem dX7_digest_139 : decode cX7_digest 139 = .ok (.lload_n 1, 1) := by decide +kernel
theorem dX7_digest_140 : decode cX7_digest 140 = .ok (.ldc2_w 376, 3) := by decide +kernel
theorem dX7_digest_143 : decode cX7_digest 143 = .ok (.lmul, 1) := by decide +kernel
theorem dX7_digest_144 : decode cX7_digest 144 = .ok (.ldc2_w 385, 3) := by decide +kernel
theorem dX7_digest_147 : decode cX7_digest 147 = .ok (.aload_n 0, 1) := by decide +kernel
theorem dX7_digest_148 : decode cX7_digest 148 = .ok (.iconst 1, 1) := by decide +kernel
theorem dX7_digest_149 : decode cX7_digest 149 = .ok (.invokevirtual 394, 3) := by decide +kernel
theorem dX7_digest_152 : decode cX7_digest 152 = .ok (.dmul, 1) := by decide +kernel
theorem dX7_digest_153 : decode cX7_digest 153 = .ok (.d2l, 1) := by decide +kernel
theorem dX7_digest_154 : decode cX7_digest 154 = .ok (.ladd, 1) := by decide +kernel
theorem dX7_digest_155 : decode cX7_digest 155 = .ok (.lstore_n 1, 1) := by decide +kernel
theorem dX7_digest_156 : decode cX7_digest 156 = .ok (.lload_n 1, 1) := by decide +kernel
theorem dX7_digest_157 : decode cX7_digest 157 = .ok (.ldc2_w 376, 3) := by decide +kernel
theorem dX7_digest_160 : decode cX7_digest 160 = .ok (.lmul, 1) := by decide +kernel
theorem dX7_digest_161 : decode cX7_digest 161 = .ok (.aload_n 0, 1) := by decide +kernel
theorem dX7_digest_162 : decode cX7_digest 162 = .ok (.invokevirtual 397, 3) := by decide +kernel
theorem dX7_digest_165 : decode cX7_digest 165 = .ok (.i2l, 1) := by decide +kernel
theorem dX7_digest_166 : decode cX7_digest 166 = .ok (.ladd, 1) := by decide +kernel
theorem dX7_digest_167 : decode cX7_digest 167 = .ok (.lreturn, 1) := by decide +kernel
theorem dX7_withPot_0 : decode cX7_withPot 0 = .ok (.iconst 0, 1) := by decide +kernel
theorem dX7_withPot_1 : decode cX7_withPot 1 = .ok (.istore 4, 2) := by decide +kernel
theorem dX7_withPot_3 : decode cX7_withPot 3 = .ok (.iload 4, 2) := by decide +kernel
theorem dX7_withPot_5 : decode cX7_withPot 5 = .ok (.bipush 8, 2) := by decide +kernel
theorem dX7_withPot_7 : decode cX7_withPot 7 = .ok (.if_icmp .ge 24, 3) := by decide +kernel
theorem dX7_withPot_10 : decode cX7_withPot 10 = .ok (.lload_n 1, 1) := by decide +kernel
theorem dX7_withPot_11 : decode cX7_withPot 11 = .ok (.ldc2_w 376, 3) := by decide +kernel
theorem dX7_withPot_14 : decode cX7_withPot 14 = .ok (.lmul, 1) := by decide +kernel
theorem dX7_withPot_15 : decode cX7_withPot 15 = .ok (.aload_n 0, 1) := by decide +kernel
theorem dX7_withPot_16 : decode cX7_withPot 16 = .ok (.iload_n 3, 1) := by decide +kernel
theorem dX7_withPot_17 : decode cX7_withPot 17 = .ok (.iload 4, 2) := by decide +kernel
theorem dX7_withPot_19 : decode cX7_withPot 19 = .ok (.invokevirtual 400, 3) := by decide +kernel
theorem dX7_withPot_22 : decode cX7_withPot 22 = .ok (.i2l, 1) := by decide +kernel
theorem dX7_withPot_23 : decode cX7_withPot 23 = .ok (.ladd, 1) := by decide +kernel
theorem dX7_withPot_24 : decode cX7_withPot 24 = .ok (.lstore_n 1, 1) := by decide +kernel
theorem dX7_withPot_25 : decode cX7_withPot 25 = .ok (.iinc 4 1, 3) := by decide +kernel
theorem dX7_withPot_28 : decode cX7_withPot 28 = .ok (.goto (-25), 3) := by decide +kernel
theorem dX7_withPot_31 : decode cX7_withPot 31 = .ok (.lload_n 1, 1) := by decide +kernel
theorem dX7_withPot_32 : decode cX7_withPot 32 = .ok (.ldc2_w 376, 3) := by decide +kernel
theorem dX7_withPot_35 : decode cX7_withPot 35 = .ok (.lmul, 1) := by decide +kernel
theorem dX7_withPot_36 : decode cX7_withPot 36 = .ok (.ldc2_w 385, 3) := by decide +kernel
theorem dX7_withPot_39 : decode cX7_withPot 39 = .ok (.aload_n 0, 1) := by decide +kernel
theorem dX7_withPot_40 : decode cX7_withPot 40 = .ok (.iload_n 3, 1) := by decide +kernel
theorem dX7_withPot_41 : decode cX7_withPot 41 = .ok (.invokevirtual 403, 3) := by decide +kernel
theorem dX7_withPot_44 : decode cX7_withPot 44 = .ok (.dmul, 1) := by decide +kernel
theorem dX7_withPot_45 : decode cX7_withPot 45 = .ok (.d2l, 1) := by decide +kernel
theorem dX7_withPot_46 : decode cX7_withPot 46 = .ok (.ladd, 1) := by decide +kernel
theorem dX7_withPot_47 : decode cX7_withPot 47 = .ok (.lreturn, 1) := by decide +kernel
theorem dX7_withShelf_0 : decode cX7_withShelf 0 = .ok (.iconst 0, 1) := by decide +kernel
theorem dX7_withShelf_1 : decode cX7_withShelf 1 = .ok (.istore 4, 2) := by decide +kernel
theorem dX7_withShelf_3 : decode cX7_withShelf 3 = .ok (.iload 4, 2) := by decide +kernel
theorem dX7_withShelf_5 : decode cX7_withShelf 5 = .ok (.iconst 4, 1) := by decide +kernel
theorem dX7_withShelf_6 : decode cX7_withShelf 6 = .ok (.if_icmp .ge 24, 3) := by decide +kernel
theorem dX7_withShelf_9 : decode cX7_withShelf 9 = .ok (.lload_n 1, 1) := by decide +kernel
theorem dX7_withShelf_10 : decode cX7_withShelf 10 = .ok (.ldc2_w 376, 3) := by decide +kernel
theorem dX7_withShelf_13 : decode cX7_withShelf 13 = .ok (.lmul, 1) := by decide +kernel
theorem dX7_withShelf_14 : decode cX7_withShelf 14 = .ok (.aload_n 0, 1) := by decide +kernel
theorem dX7_withShelf_15 : decode cX7_withShelf 15 = .ok (.iload_n 3, 1) := by decide +kernel
theorem dX7_withShelf_16 : decode cX7_withShelf 16 = .ok (.iload 4, 2) := by decide +kernel
theorem dX7_withShelf_18 : decode cX7_withShelf 18 = .ok (.invokevirtual 405, 3) := by decide +kernel
theorem dX7_withShelf_21 : decode cX7_withShelf 21 = .ok (.i2l, 1) := by decide +kernel
theorem dX7_withShelf_22 : decode cX7_withShelf 22 = .ok (.ladd, 1) := by decide +kernel
theorem dX7_withShelf_23 : decode cX7_withShelf 23 = .ok (.lstore_n 1, 1) := by decide +kernel
theorem dX7_withShelf_24 : decode cX7_withShelf 24 = .ok (.iinc 4 1, 3) := by decide +kernel
theorem dX7_withShelf_27 : decode cX7_withShelf 27 = .ok (.goto (-24), 3) := by decide +kernel
theorem dX7_withShelf_30 : decode cX7_withShelf 30 = .ok (.lload_n 1, 1) := by decide +kernel
theorem dX7_withShelf_31 : decode cX7_withShelf 31 = .ok (.ldc2_w 376, 3) := by decide +kernel
theorem dX7_withShelf_34 : decode cX7_withShelf 34 = .ok (.lmul, 1) := by decide +kernel
theorem dX7_withShelf_35 : decode cX7_withShelf 35 = .ok (.aload_n 0, 1) := by decide +kernel
theorem dX7_withShelf_36 : decode cX7_withShelf 36 = .ok (.iload_n 3, 1) := by decide +kernel
theorem dX7_withShelf_37 : decode cX7_withShelf 37 = .ok (.invokevirtual 408, 3) := by decide +kernel
theorem dX7_withShelf_40 : decode cX7_withShelf 40 = .ok (.i2l, 1) := by decide +kernel
theorem dX7_withShelf_41 : decode cX7_withShelf 41 = .ok (.ladd, 1) := by decide +kernel
theorem dX7_withShelf_42 : decode cX7_withShelf 42 = .ok (.lstore_n 1, 1) := by decide +kernel
theorem dX7_withShelf_43 : decode cX7_withShelf 43 = .ok (.lload_n 1, 1) := by decide +kernel
theorem dX7_withShelf_44 : decode cX7_withShelf 44 = .ok (.ldc2_w 376, 3) := by decide +kernel
theorem dX7_withShelf_47 : decode cX7_withShelf 47 = .ok (.lmul, 1) := by decide +kernel
theorem dX7_withShelf_48 : decode cX7_withShelf 48 = .ok (.aload_n 0, 1) := by decide +kernel
theorem dX7_withShelf_49 : decode cX7_withShelf 49 = .ok (.iload_n 3, 1) := by decide +kernel
theorem dX7_withShelf_50 : decode cX7_withShelf 50 = .ok (.bipush 20, 2) := by decide +kernel
theorem dX7_withShelf_52 : decode cX7_withShelf 52 = .ok (.invokevirtual 411, 3) := by decide +kernel
theorem dX7_withShelf_55 : decode cX7_withShelf 55 = .ok (.i2l, 1) := by decide +kernel
theorem dX7_withShelf_56 : decode cX7_withShelf 56 = .ok (.ladd, 1) := by decide +kernel
theorem dX7_withShelf_57 : decode cX7_withShelf 57 = .ok (.lreturn, 1) := by decide +kernel
theorem dX7_isWithin_0 : decode cX7_isWithin 0 = .ok (.iload_n 0, 1) := by decide +kernel
theorem dX7_isWithin_1 : decode cX7_isWithin 1 = .ok (.iload_n 1, 1) := by decide +kernel
theorem dX7_isWithin_2 : decode cX7_isWithin 2 = .ok (.if_icmp .lt 12, 3) := by decide +kernel
theorem dX7_isWithin_5 : decode cX7_isWithin 5 = .ok (.iload_n 0, 1) := by decide +kernel
theorem dX7_isWithin_6 : decode cX7_isWithin 6 = .ok (.iload_n 2, 1) := by decide +kernel
theorem dX7_isWithin_7 : decode cX7_isWithin 7 = .ok (.if_icmp .gt 7, 3) := by decide +kernel
theorem dX7_isWithin_10 : decode cX7_isWithin 10 = .ok (.iconst 1, 1) := by decide +kernel
theorem dX7_isWithin_11 : decode cX7_isWithin 11 = .ok (.goto 4, 3) := by decide +kernel
theorem dX7_isWithin_14 : decode cX7_isWithin 14 = .ok (.iconst 0, 1) := by decide +kernel
theorem dX7_isWithin_15 : decode cX7_isWithin 15 = .ok (.ireturn, 1) := by decide +kernel
theorem dX7_isPart_0 : decode cX7_isPart 0 = .ok (.iload_n 0, 1) := by decide +kernel
theorem dX7_isPart_1 : decode cX7_isPart 1 = .ok (.iconst 0, 1) := by decide +kernel
theorem dX7_isPart_2 : decode cX7_isPart 2 = .ok (.bipush 60, 2) := by decide +kernel
theorem dX7_isPart_4 : decode cX7_isPart 4 = .ok (.invokestatic 74, 3) := by decide +kernel
theorem dX7_isPart_7 : decode cX7_isPart 7 = .ok (.ireturn, 1) := by decide +kernel
theorem dX7_testShelf_0 : decode cX7_testShelf 0 = .ok (.iload_n 0, 1) := by decide +kernel
theorem dX7_testShelf_1 : decode cX7_testShelf 1 = .ok (.iconst 0, 1) := by decide +kernel
theorem dX7_testShelf_2 : decode cX7_testShelf 2 = .ok (.iconst 2, 1) := by decide +kernel
theorem dX7_testShelf_3 : decode cX7_testShelf 3 = .ok (.invokestatic 74, 3) := by decide +kernel
theorem dX7_testShelf_6 : decode cX7_testShelf 6 = .ok (.ifCond .ne 14, 3) := by decide +kernel
theorem dX7_testShelf_9 : decode cX7_testShelf 9 = .ok (.new 156, 3) := by decide +kernel
theorem dX7_testShelf_12 : decode cX7_testShelf 12 = .ok (.dup, 1) := by decide +kernel
theorem dX7_testShelf_13 : decode cX7_testShelf 13 = .ok (.ldc_w 414, 3) := by decide +kernel
theorem dX7_testShelf_16 : decode cX7_testShelf 16 = .ok (.invokespecial 160, 3) := by decide +kernel
theorem dX7_testShelf_19 : decode cX7_testShelf 19 = .ok (.athrow, 1) := by decide +kernel
theorem dX7_testShelf_20 : decode cX7_testShelf 20 = .ok (.return_, 1) := by decide +kernel
theorem dX7_testSteps_0 : decode cX7_testSteps 0 = .ok (.iload_n 0, 1) := by decide +kernel
theorem dX7_testSteps_1 : decode cX7_testSteps 1 = .ok (.iconst 1, 1) := by decide +kernel
theorem dX7_testSteps_2 : decode cX7_testSteps 2 = .ok (.bipush 60, 2) := by decide +kernel
theorem dX7_testSteps_4 : decode cX7_testSteps 4 = .ok (.invokestatic 74, 3) := by decide +kernel
theorem dX7_testSteps_7 : decode cX7_testSteps 7 = .ok (.ifCond .ne 14, 3) := by decide +kernel
theorem dX7_testSteps_10 : decode cX7_testSteps 10 = .ok (.new 78, 3) := by decide +kernel
theorem dX7_testSteps_13 : decode cX7_testSteps 13 = .ok (.dup, 1) := by decide +kernel
theorem dX7_testSteps_14 : decode cX7_testSteps 14 = .ok (.ldc_w 416, 3) := by decide +kernel
theorem dX7_testSteps_17 : decode cX7_testSteps 17 = .ok (.invokespecial 82, 3) := by decide +kernel
theorem dX7_testSteps_20 : decode cX7_testSteps 20 = .ok (.athrow, 1) := by decide +kernel
theorem dX7_testSteps_21 : decode cX7_testSteps 21 = .ok (.return_, 1) := by decide +kernel
theorem dX7_clayAt_0 : decode cX7_clayAt 0 = .ok (.iload_n 1, 1) := by decide +kernel
theorem dX7_clayAt_1 : decode cX7_clayAt 1 = .ok (.ifCond .lt 21, 3) := by decide +kernel
theorem dX7_clayAt_4 : decode cX7_clayAt 4 = .ok (.iload_n 1, 1) := by decide +kernel
theorem dX7_clayAt_5 : decode cX7_clayAt 5 = .ok (.aload_n 0, 1) := by decide +kernel
theorem dX7_clayAt_6 : decode cX7_clayAt 6 = .ok (.getfield 11, 3) := by decide +kernel
theorem dX7_clayAt_9 : decode cX7_clayAt 9 = .ok (.arraylength, 1) := by decide +kernel
theorem dX7_clayAt_10 : decode cX7_clayAt 10 = .ok (.if_icmp .ge 12, 3) := by decide +kernel
theorem dX7_clayAt_13 : decode cX7_clayAt 13 = .ok (.aload_n 0, 1) := by decide +kernel
theorem dX7_clayAt_14 : decode cX7_clayAt 14 = .ok (.getfield 11, 3) := by decide +kernel
theorem dX7_clayAt_17 : decode cX7_clayAt 17 = .ok (.iload_n 1, 1) := by decide +kernel
theorem dX7_clayAt_18 : decode cX7_clayAt 18 = .ok (.aaload, 1) := by decide +kernel
theorem dX7_clayAt_19 : decode cX7_clayAt 19 = .ok (.goto 4, 3) := by decide +kernel
theorem dX7_clayAt_22 : decode cX7_clayAt 22 = .ok (.aconst_null, 1) := by decide +kernel
theorem dX7_clayAt_23 : decode cX7_clayAt 23 = .ok (.astore_n 2, 1) := by decide +kernel
theorem dX7_clayAt_24 : decode cX7_clayAt 24 = .ok (.aload_n 2, 1) := by decide +kernel
theorem dX7_clayAt_25 : decode cX7_clayAt 25 = .ok (.ifnonnull 14, 3) := by decide +kernel
theorem dX7_clayAt_28 : decode cX7_clayAt 28 = .ok (.new 156, 3) := by decide +kernel
theorem dX7_clayAt_31 : decode cX7_clayAt 31 = .ok (.dup, 1) := by decide +kernel
theorem dX7_clayAt_32 : decode cX7_clayAt 32 = .ok (.ldc_w 418, 3) := by decide +kernel
theorem dX7_clayAt_35 : decode cX7_clayAt 35 = .ok (.invokespecial 160, 3) := by decide +kernel
theorem dX7_clayAt_38 : decode cX7_clayAt 38 = .ok (.athrow, 1) := by decide +kernel
theorem dX7_clayAt_39 : decode cX7_clayAt 39 = .ok (.aload_n 2, 1) := by decide +kernel
theorem dX7_clayAt_40 : decode cX7_clayAt 40 = .ok (.areturn, 1) := by decide +kernel
theorem dX7_glazeAt_0 : decode cX7_glazeAt 0 = .ok (.iload_n 1, 1) := by decide +kernel
theorem dX7_glazeAt_1 : decode cX7_glazeAt 1 = .ok (.ifCond .lt 21, 3) := by decide +kernel
theorem dX7_glazeAt_4 : decode cX7_glazeAt 4 = .ok (.iload_n 1, 1) := by decide +kernel
theorem dX7_glazeAt_5 : decode cX7_glazeAt 5 = .ok (.aload_n 0, 1) := by decide +kernel
theorem dX7_glazeAt_6 : decode cX7_glazeAt 6 = .ok (.getfield 17, 3) := by decide +kernel
theorem dX7_glazeAt_9 : decode cX7_glazeAt 9 = .ok (.arraylength, 1) := by decide +kernel
theorem dX7_glazeAt_10 : decode cX7_glazeAt 10 = .ok (.if_icmp .ge 12, 3) := by decide +kernel
theorem dX7_glazeAt_13 : decode cX7_glazeAt 13 = .ok (.aload_n 0, 1) := by decide +kernel
theorem dX7_glazeAt_14 : decode cX7_glazeAt 14 = .ok (.getfield 17, 3) := by decide +kernel
theorem dX7_glazeAt_17 : decode cX7_glazeAt 17 = .ok (.iload_n 1, 1) := by decide +kernel
theorem dX7_glazeAt_18 : decode cX7_glazeAt 18 = .ok (.aaload, 1) := by decide +kernel
theorem dX7_glazeAt_19 : decode cX7_glazeAt 19 = .ok (.goto 4, 3) := by decide +kernel
theorem dX7_glazeAt_22 : decode cX7_glazeAt 22 = .ok (.aconst_null, 1) := by decide +kernel
theorem dX7_glazeAt_23 : decode cX7_glazeAt 23 = .ok (.astore_n 2, 1) := by decide +kernel
theorem dX7_glazeAt_24 : decode cX7_glazeAt 24 = .ok (.aload_n 2, 1) := by decide +kernel
theorem dX7_glazeAt_25 : decode cX7_glazeAt 25 = .ok (.ifnonnull 14, 3) := by decide +kernel
theorem dX7_glazeAt_28 : decode cX7_glazeAt 28 = .ok (.new 156, 3) := by decide +kernel
theorem dX7_glazeAt_31 : decode cX7_glazeAt 31 = .ok (.dup, 1) := by decide +kernel
theorem dX7_glazeAt_32 : decode cX7_glazeAt 32 = .ok (.ldc_w 420, 3) := by decide +kernel
theorem dX7_glazeAt_35 : decode cX7_glazeAt 35 = .ok (.invokespecial 160, 3) := by decide +kernel
theorem dX7_glazeAt_38 : decode cX7_glazeAt 38 = .ok (.athrow, 1) := by decide +kernel
theorem dX7_glazeAt_39 : decode cX7_glazeAt 39 = .ok (.aload_n 2, 1) := by decide +kernel
theorem dX7_glazeAt_40 : decode cX7_glazeAt 40 = .ok (.areturn, 1) := by decide +kernel
theorem dX7_potAt_0 : decode cX7_potAt 0 = .ok (.iload_n 1, 1) := by decide +kernel
theorem dX7_potAt_1 : decode cX7_potAt 1 = .ok (.ifCond .lt 21, 3) := by decide +kernel
theorem dX7_potAt_4 : decode cX7_potAt 4 = .ok (.iload_n 1, 1) := by decide +kernel
theorem dX7_potAt_5 : decode cX7_potAt 5 = .ok (.aload_n 0, 1) := by decide +kernel
theorem dX7_potAt_6 : decode cX7_potAt 6 = .ok (.getfield 23, 3) := by decide +kernel
theorem dX7_potAt_9 : decode cX7_potAt 9 = .ok (.arraylength, 1) := by decide +kernel
theorem dX7_potAt_10 : decode cX7_potAt 10 = .ok (.if_icmp .ge 12, 3) := by decide +kernel
theorem dX7_potAt_13 : decode cX7_potAt 13 = .ok (.aload_n 0, 1) := by decide +kernel
theorem dX7_potAt_14 : decode cX7_potAt 14 = .ok (.getfield 23, 3) := by decide +kernel
theorem dX7_potAt_17 : decode cX7_potAt 17 = .ok (.iload_n 1, 1) := by decide +kernel
theorem dX7_potAt_18 : decode cX7_potAt 18 = .ok (.aaload, 1) := by decide +kernel
theorem dX7_potAt_19 : decode cX7_potAt 19 = .ok (.goto 4, 3) := by decide +kernel
theorem dX7_potAt_22 : decode cX7_potAt 22 = .ok (.aconst_null, 1) := by decide +kernel
theorem dX7_potAt_23 : decode cX7_potAt 23 = .ok (.astore_n 2, 1) := by decide +kernel
theorem dX7_potAt_24 : decode cX7_potAt 24 = .ok (.aload_n 2, 1) := by decide +kernel
theorem dX7_potAt_25 : decode cX7_potAt 25 = .ok (.ifnonnull 14, 3) := by decide +kernel
theorem dX7_potAt_28 : decode cX7_potAt 28 = .ok (.new 156, 3) := by decide +kernel
theorem dX7_potAt_31 : decode cX7_potAt 31 = .ok (.dup, 1) := by decide +kernel
theorem dX7_potAt_32 : decode cX7_potAt 32 = .ok (.ldc_w 422, 3) := by decide +kernel
theorem dX7_potAt_35 : decode cX7_potAt 35 = .ok (.invokespecial 160, 3) := by decide +kernel
theorem dX7_potAt_38 : decode cX7_potAt 38 = .ok (.athrow, 1) := by decide +kernel
theorem dX7_potAt_39 : decode cX7_potAt 39 = .ok (.aload_n 2, 1) := by decide +kernel
theorem dX7_potAt_40 : decode cX7_potAt 40 = .ok (.areturn, 1) := by decide +kernel
theorem dX7_orderAt_0 : decode cX7_orderAt 0 = .ok (.iload_n 1, 1) := by decide +kernel
theorem dX7_orderAt_1 : decode cX7_orderAt 1 = .ok (.ifCond .lt 21, 3) := by decide +kernel
theorem dX7_orderAt_4 : decode cX7_orderAt 4 = .ok (.iload_n 1, 1) := by decide +kernel
theorem dX7_orderAt_5 : decode cX7_orderAt 5 = .ok (.aload_n 0, 1) := by decide +kernel
theorem dX7_orderAt_6 : decode cX7_orderAt 6 = .ok (.getfield 29, 3) := by decide +kernel
theorem dX7_orderAt_9 : decode cX7_orderAt 9 = .ok (.arraylength, 1) := by decide +kernel
theorem dX7_orderAt_10 : decode cX7_orderAt 10 = .ok (.if_icmp .ge 12, 3) := by decide +kernel
theorem dX7_orderAt_13 : decode cX7_orderAt 13 = .ok (.aload_n 0, 1) := by decide +kernel
theorem dX7_orderAt_14 : decode cX7_orderAt 14 = .ok (.getfield 29, 3) := by decide +kernel
theorem dX7_orderAt_17 : decode cX7_orderAt 17 = .ok (.iload_n 1, 1) := by decide +kernel
theorem dX7_orderAt_18 : decode cX7_orderAt 18 = .ok (.aaload, 1) := by decide +kernel
theorem dX7_orderAt_19 : decode cX7_orderAt 19 = .ok (.goto 4, 3) := by decide +kernel
theorem dX7_orderAt_22 : decode cX7_orderAt 22 = .ok (.aconst_null, 1) := by decide +kernel
theorem dX7_orderAt_23 : decode cX7_orderAt 23 = .ok (.astore_n 2, 1) := by decide +kernel
theorem dX7_orderAt_24 : decode cX7_orderAt 24 = .ok (.aload_n 2, 1) := by decide +kernel
theorem dX7_orderAt_25 : decode cX7_orderAt 25 = .ok (.ifnonnull 14, 3) := by decide +kernel
theorem dX7_orderAt_28 : decode cX7_orderAt 28 = .ok (.new 156, 3) := by decide +kernel
theorem dX7_orderAt_31 : decode cX7_orderAt 31 = .ok (.dup, 1) := by decide +kernel
theorem dX7_orderAt_32 : decode cX7_orderAt 32 = .ok (.ldc_w 424, 3) := by decide +kernel
theorem dX7_orderAt_35 : decode cX7_orderAt 35 = .ok (.invokespecial 160, 3) := by decide +kernel
theorem dX7_orderAt_38 : decode cX7_orderAt 38 = .ok (.athrow, 1) := by decide +kernel
theorem dX7_orderAt_39 : decode cX7_orderAt 39 = .ok (.aload_n 2, 1) := by decide +kernel
theorem dX7_orderAt_40 : decode cX7_orderAt 40 = .ok (.areturn, 1) := by decide +kernel
theorem dX7_dryOneDay_0 : decode cX7_dryOneDay 0 = .ok (.aload_n 0, 1) := by decide +kernel
theorem dX7_dryOneDay_1 : decode cX7_dryOneDay 1 = .ok (.dup, 1) := by decide +kernel
theorem dX7_dryOneDay_2 : decode cX7_dryOneDay 2 = .ok (.getfield 65, 3) := by decide +kernel
theorem dX7_dryOneDay_5 : decode cX7_dryOneDay 5 = .ok (.iconst 1, 1) := by decide +kernel
theorem dX7_dryOneDay_6 : decode cX7_dryOneDay 6 = .ok (.iadd, 1) := by decide +kernel
theorem dX7_dryOneDay_7 : decode cX7_dryOneDay 7 = .ok (.putfield 65, 3) := by decide +kernel
theorem dX7_dryOneDay_10 : decode cX7_dryOneDay 10 = .ok (.aload_n 0, 1) := by decide +kernel
theorem dX7_dryOneDay_11 : decode cX7_dryOneDay 11 = .ok (.getfield 23, 3) := by decide +kernel
theorem dX7_dryOneDay_14 : decode cX7_dryOneDay 14 = .ok (.astore_n 2, 1) := by decide +kernel
theorem dX7_dryOneDay_15 : decode cX7_dryOneDay 15 = .ok (.aload_n 2, 1) := by decide +kernel
theorem dX7_dryOneDay_16 : decode cX7_dryOneDay 16 = .ok (.arraylength, 1) := by decide +kernel
theorem dX7_dryOneDay_17 : decode cX7_dryOneDay 17 = .ok (.istore_n 3, 1) := by decide +kernel
theorem dX7_dryOneDay_18 : decode cX7_dryOneDay 18 = .ok (.iconst 0, 1) := by decide +kernel
theorem dX7_dryOneDay_19 : decode cX7_dryOneDay 19 = .ok (.istore 4, 2) := by decide +kernel
theorem dX7_dryOneDay_21 : decode cX7_dryOneDay 21 = .ok (.iload 4, 2) := by decide +kernel
theorem dX7_dryOneDay_23 : decode cX7_dryOneDay 23 = .ok (.iload_n 3, 1) := by decide +kernel
theorem dX7_dryOneDay_24 : decode cX7_dryOneDay 24 = .ok (.if_icmp .ge 26, 3) := by decide +kernel
theorem dX7_dryOneDay_27 : decode cX7_dryOneDay 27 = .ok (.aload_n 2, 1) := by decide +kernel
theorem dX7_dryOneDay_28 : decode cX7_dryOneDay 28 = .ok (.iload 4, 2) := by decide +kernel
theorem dX7_dryOneDay_30 : decode cX7_dryOneDay 30 = .ok (.aaload, 1) := by decide +kernel
theorem dX7_dryOneDay_31 : decode cX7_dryOneDay 31 = .ok (.astore 5, 2) := by decide +kernel
theorem dX7_dryOneDay_33 : decode cX7_dryOneDay 33 = .ok (.aload 5, 2) := by decide +kernel
theorem dX7_dryOneDay_35 : decode cX7_dryOneDay 35 = .ok (.ifnull 9, 3) := by decide +kernel
theorem dX7_dryOneDay_38 : decode cX7_dryOneDay 38 = .ok (.aload 5, 2) := by decide +kernel
theorem dX7_dryOneDay_40 : decode cX7_dryOneDay 40 = .ok (.iload_n 1, 1) := by decide +kernel
theorem dX7_dryOneDay_41 : decode cX7_dryOneDay 41 = .ok (.invokevirtual 426, 3) := by decide +kernel
theorem dX7_dryOneDay_44 : decode cX7_dryOneDay 44 = .ok (.iinc 4 1, 3) := by decide +kernel
theorem dX7_dryOneDay_47 : decode cX7_dryOneDay 47 = .ok (.goto (-26), 3) := by decide +kernel
theorem dX7_dryOneDay_50 : decode cX7_dryOneDay 50 = .ok (.return_, 1) := by decide +kernel
theorem dX7_heatPots_0 : decode cX7_heatPots 0 = .ok (.aload_n 0, 1) := by decide +kernel
theorem dX7_heatPots_1 : decode cX7_heatPots 1 = .ok (.getfield 58, 3) := by decide +kernel
theorem dX7_heatPots_4 : decode cX7_heatPots 4 = .ok (.getfield 242, 3) := by decide +kernel
theorem dX7_heatPots_7 : decode cX7_heatPots 7 = .ok (.iconst 3, 1) := by decide +kernel
theorem dX7_heatPots_8 : decode cX7_heatPots 8 = .ok (.if_icmp .lt 7, 3) := by decide +kernel
theorem dX7_heatPots_11 : decode cX7_heatPots 11 = .ok (.iconst 1, 1) := by decide +kernel
theorem dX7_heatPots_12 : decode cX7_heatPots 12 = .ok (.goto 4, 3) := by decide +kernel
theorem dX7_heatPots_15 : decode cX7_heatPots 15 = .ok (.iconst 0, 1) := by decide +kernel
theorem dX7_heatPots_16 : decode cX7_heatPots 16 = .ok (.istore_n 1, 1) := by decide +kernel
theorem dX7_heatPots_17 : decode cX7_heatPots 17 = .ok (.aload_n 0, 1) := by decide +kernel
theorem dX7_heatPots_18 : decode cX7_heatPots 18 = .ok (.getfield 23, 3) := by decide +kernel
theorem dX7_heatPots_21 : decode cX7_heatPots 21 = .ok (.astore_n 2, 1) := by decide +kernel
theorem dX7_heatPots_22 : decode cX7_heatPots 22 = .ok (.aload_n 2, 1) := by decide +kernel
theorem dX7_heatPots_23 : decode cX7_heatPots 23 = .ok (.arraylength, 1) := by decide +kernel
theorem dX7_heatPots_24 : decode cX7_heatPots 24 = .ok (.istore_n 3, 1) := by decide +kernel
theorem dX7_heatPots_25 : decode cX7_heatPots 25 = .ok (.iconst 0, 1) := by decide +kernel
theorem dX7_heatPots_26 : decode cX7_heatPots 26 = .ok (.istore 4, 2) := by decide +kernel
theorem dX7_heatPots_28 : decode cX7_heatPots 28 = .ok (.iload 4, 2) := by decide +kernel
theorem dX7_heatPots_30 : decode cX7_heatPots 30 = .ok (.iload_n 3, 1) := by decide +kernel
theorem dX7_heatPots_31 : decode cX7_heatPots 31 = .ok (.if_icmp .ge 73, 3) := by decide +kernel
theorem dX7_heatPots_34 : decode cX7_heatPots 34 = .ok (.aload_n 2, 1) := by decide +kernel
theorem dX7_heatPots_35 : decode cX7_heatPots 35 = .ok (.iload 4, 2) := by decide +kernel
theorem dX7_heatPots_37 : decode cX7_heatPots 37 = .ok (.aaload, 1) := by decide +kernel
theorem dX7_heatPots_38 : decode cX7_heatPots 38 = .ok (.astore 5, 2) := by decide +kernel
theorem dX7_heatPots_40 : decode cX7_heatPots 40 = .ok (.aload 5, 2) := by decide +kernel
theorem dX7_heatPots_42 : decode cX7_heatPots 42 = .ok (.ifnull 56, 3) := by decide +kernel
theorem dX7_heatPots_45 : decode cX7_heatPots 45 = .ok (.aload 5, 2) := by decide +kernel
theorem dX7_heatPots_47 : decode cX7_heatPots 47 = .ok (.getfield 188, 3) := by decide +kernel
theorem dX7_heatPots_50 : decode cX7_heatPots 50 = .ok (.iconst (-1), 1) := by decide +kernel
theorem dX7_heatPots_51 : decode cX7_heatPots 51 = .ok (.if_icmp .eq 47, 3) := by decide +kernel
theorem dX7_heatPots_54 : decode cX7_heatPots 54 = .ok (.aload 5, 2) := by decide +kernel
theorem dX7_heatPots_56 : decode cX7_heatPots 56 = .ok (.getfield 188, 3) := by decide +kernel
theorem dX7_heatPots_59 : decode cX7_heatPots 59 = .ok (.aload_n 0, 1) := by decide +kernel
theorem dX7_heatPots_60 : decode cX7_heatPots 60 = .ok (.getfield 58, 3) := by decide +kernel
theorem dX7_heatPots_63 : decode cX7_heatPots 63 = .ok (.getfield 429, 3) := by decide +kernel
theorem dX7_heatPots_66 : decode cX7_heatPots 66 = .ok (.invokestatic 432, 3) := by decide +kernel
theorem dX7_heatPots_69 : decode cX7_heatPots 69 = .ok (.dstore 6, 2) := by decide +kernel
theorem dX7_heatPots_71 : decode cX7_heatPots 71 = .ok (.aload 5, 2) := by decide +kernel
theorem dX7_heatPots_73 : decode cX7_heatPots 73 = .ok (.getfield 188, 3) := by decide +kernel
theorem dX7_heatPots_76 : decode cX7_heatPots 76 = .ok (.aload_n 0, 1) := by decide +kernel
theorem dX7_heatPots_77 : decode cX7_heatPots 77 = .ok (.getfield 58, 3) := by decide +kernel
theorem dX7_heatPots_80 : decode cX7_heatPots 80 = .ok (.getfield 317, 3) := by decide +kernel
theorem dX7_heatPots_83 : decode cX7_heatPots 83 = .ok (.invokestatic 432, 3) := by decide +kernel
theorem dX7_heatPots_86 : decode cX7_heatPots 86 = .ok (.dstore 8, 2) := by decide +kernel
theorem dX7_heatPots_88 : decode cX7_heatPots 88 = .ok (.aload 5, 2) := by decide +kernel
theorem dX7_heatPots_90 : decode cX7_heatPots 90 = .ok (.dload 6, 2) := by decide +kernel
theorem dX7_heatPots_92 : decode cX7_heatPots 92 = .ok (.dload 8, 2) := by decide +kernel
theorem dX7_heatPots_94 : decode cX7_heatPots 94 = .ok (.iload_n 1, 1) := by decide +kernel
theorem dX7_heatPots_95 : decode cX7_heatPots 95 = .ok (.invokevirtual 436, 3) := by decide +kernel
theorem dX7_heatPots_98 : decode cX7_heatPots 98 = .ok (.iinc 4 1, 3) := by decide +kernel
theorem dX7_heatPots_101 : decode cX7_heatPots 101 = .ok (.goto (-73), 3) := by decide +kernel
theorem dX7_heatPots_104 : decode cX7_heatPots 104 = .ok (.return_, 1) := by decide +kernel
theorem dX7_potsInState_0 : decode cX7_potsInState 0 = .ok (.iconst 0, 1) := by decide +kernel
theorem dX7_potsInState_1 : decode cX7_potsInState 1 = .ok (.istore_n 2, 1) := by decide +kernel
theorem dX7_potsInState_2 : decode cX7_potsInState 2 = .ok (.aload_n 0, 1) := by decide +kernel
theorem dX7_potsInState_3 : decode cX7_potsInState 3 = .ok (.getfield 23, 3) := by decide +kernel
theorem dX7_potsInState_6 : decode cX7_potsInState 6 = .ok (.astore_n 3, 1) := by decide +kernel
theorem dX7_potsInState_7 : decode cX7_potsInState 7 = .ok (.aload_n 3, 1) := by decide +kernel
theorem dX7_potsInState_8 : decode cX7_potsInState 8 = .ok (.arraylength, 1) := by decide +kernel
theorem dX7_potsInState_9 : decode cX7_potsInState 9 = .ok (.istore 4, 2) := by decide +kernel
theorem dX7_potsInState_11 : decode cX7_potsInState 11 = .ok (.iconst 0, 1) := by decide +kernel
theorem dX7_potsInState_12 : decode cX7_potsInState 12 = .ok (.istore 5, 2) := by decide +kernel
theorem dX7_potsInState_14 : decode cX7_potsInState 14 = .ok (.iload 5, 2) := by decide +kernel
theorem dX7_potsInState_16 : decode cX7_potsInState 16 = .ok (.iload 4, 2) := by decide +kernel
theorem dX7_potsInState_18 : decode cX7_potsInState 18 = .ok (.if_icmp .ge 37, 3) := by decide +kernel
theorem dX7_potsInState_21 : decode cX7_potsInState 21 = .ok (.aload_n 3, 1) := by decide +kernel
theorem dX7_potsInState_22 : decode cX7_potsInState 22 = .ok (.iload 5, 2) := by decide +kernel
theorem dX7_potsInState_24 : decode cX7_potsInState 24 = .ok (.aaload, 1) := by decide +kernel
theorem dX7_potsInState_25 : decode cX7_potsInState 25 = .ok (.astore 6, 2) := by decide +kernel
theorem dX7_potsInState_27 : decode cX7_potsInState 27 = .ok (.iload_n 2, 1) := by decide +kernel
theorem dX7_potsInState_28 : decode cX7_potsInState 28 = .ok (.aload 6, 2) := by decide +kernel
theorem dX7_potsInState_30 : decode cX7_potsInState 30 = .ok (.ifnull 16, 3) := by decide +kernel
theorem dX7_potsInState_33 : decode cX7_potsInState 33 = .ok (.aload 6, 2) := by decide +kernel
theorem dX7_potsInState_35 : decode cX7_potsInState 35 = .ok (.getfield 141, 3) := by decide +kernel
theorem dX7_potsInState_38 : decode cX7_potsInState 38 = .ok (.iload_n 1, 1) := by decide +kernel
theorem dX7_potsInState_39 : decode cX7_potsInState 39 = .ok (.if_icmp .ne 7, 3) := by decide +kernel
theorem dX7_potsInState_42 : decode cX7_potsInState 42 = .ok (.iconst 1, 1) := by decide +kernel
theorem dX7_potsInState_43 : decode cX7_potsInState 43 = .ok (.goto 4, 3) := by decide +kernel
theorem dX7_potsInState_46 : decode cX7_potsInState 46 = .ok (.iconst 0, 1) := by decide +kernel
theorem dX7_potsInState_47 : decode cX7_potsInState 47 = .ok (.iadd, 1) := by decide +kernel
theorem dX7_potsInState_48 : decode cX7_potsInState 48 = .ok (.istore_n 2, 1) := by decide +kernel
theorem dX7_potsInState_49 : decode cX7_potsInState 49 = .ok (.iinc 5 1, 3) := by decide +kernel
theorem dX7_potsInState_52 : decode cX7_potsInState 52 = .ok (.goto (-38), 3) := by decide +kernel
theorem dX7_potsInState_55 : decode cX7_potsInState 55 = .ok (.iload_n 2, 1) := by decide +kernel
theorem dX7_potsInState_56 : decode cX7_potsInState 56 = .ok (.ireturn, 1) := by decide +kernel
theorem dX7_potsOn_0 : decode cX7_potsOn 0 = .ok (.iconst 0, 1) := by decide +kernel
theorem dX7_potsOn_1 : decode cX7_potsOn 1 = .ok (.istore_n 2, 1) := by decide +kernel
theorem dX7_potsOn_2 : decode cX7_potsOn 2 = .ok (.aload_n 0, 1) := by decide +kernel
theorem dX7_potsOn_3 : decode cX7_potsOn 3 = .ok (.getfield 23, 3) := by decide +kernel
theorem dX7_potsOn_6 : decode cX7_potsOn 6 = .ok (.astore_n 3, 1) := by decide +kernel
theorem dX7_potsOn_7 : decode cX7_potsOn 7 = .ok (.aload_n 3, 1) := by decide +kernel
theorem dX7_potsOn_8 : decode cX7_potsOn 8 = .ok (.arraylength, 1) := by decide +kernel
theorem dX7_potsOn_9 : decode cX7_potsOn 9 = .ok (.istore 4, 2) := by decide +kernel
theorem dX7_potsOn_11 : decode cX7_potsOn 11 = .ok (.iconst 0, 1) := by decide +kernel
theorem dX7_potsOn_12 : decode cX7_potsOn 12 = .ok (.istore 5, 2) := by decide +kernel
theorem dX7_potsOn_14 : decode cX7_potsOn 14 = .ok (.iload 5, 2) := by decide +kernel
theorem dX7_potsOn_16 : decode cX7_potsOn 16 = .ok (.iload 4, 2) := by decide +kernel
theorem dX7_potsOn_18 : decode cX7_potsOn 18 = .ok (.if_icmp .ge 37, 3) := by decide +kernel
theorem dX7_potsOn_21 : decode cX7_potsOn 21 = .ok (.aload_n 3, 1) := by decide +kernel
theorem dX7_potsOn_22 : decode cX7_potsOn 22 = .ok (.iload 5, 2) := by decide +kernel
theorem dX7_potsOn_24 : decode cX7_potsOn 24 = .ok (.aaload, 1) := by decide +kernel
theorem dX7_potsOn_25 : decode cX7_potsOn 25 = .ok (.astore 6, 2) := by decide +kernel
theorem dX7_potsOn_27 : decode cX7_potsOn 27 = .ok (.iload_n 2, 1) := by decide +kernel
theorem dX7_potsOn_28 : decode cX7_potsOn 28 = .ok (.aload 6, 2) := by decide +kernel
theorem dX7_potsOn_30 : decode cX7_potsOn 30 = .ok (.ifnull 16, 3) := by decide +kernel
theorem dX7_potsOn_33 : decode cX7_potsOn 33 = .ok (.aload 6, 2) := by decide +kernel
theorem dX7_potsOn_35 : decode cX7_potsOn 35 = .ok (.getfield 188, 3) := by decide +kernel
theorem dX7_potsOn_38 : decode cX7_potsOn 38 = .ok (.iload_n 1, 1) := by decide +kernel
theorem dX7_potsOn_39 : decode cX7_potsOn 39 = .ok (.if_icmp .ne 7, 3) := by decide +kernel
theorem dX7_potsOn_42 : decode cX7_potsOn 42 = .ok (.iconst 1, 1) := by decide +kernel
theorem dX7_potsOn_43 : decode cX7_potsOn 43 = .ok (.goto 4, 3) := by decide +kernel
theorem dX7_potsOn_46 : decode cX7_potsOn 46 = .ok (.iconst 0, 1) := by decide +kernel
theorem dX7_potsOn_47 : decode cX7_potsOn 47 = .ok (.iadd, 1) := by decide +kernel
theorem dX7_potsOn_48 : decode cX7_potsOn 48 = .ok (.istore_n 2, 1) := by decide +kernel
theorem dX7_potsOn_49 : decode cX7_potsOn 49 = .ok (.iinc 5 1, 3) := by decide +kernel
theorem dX7_potsOn_52 : decode cX7_potsOn 52 = .ok (.goto (-38), 3) := by decide +kernel
theorem dX7_potsOn_55 : decode cX7_potsOn 55 = .ok (.iload_n 2, 1) := by decide +kernel
theorem dX7_potsOn_56 : decode cX7_potsOn 56 = .ok (.ireturn, 1) := by decide +kernel
theorem dX7_openOrders_0 : decode cX7_openOrders 0 = .ok (.iconst 0, 1) := by decide +kernel
theorem dX7_openOrders_1 : decode cX7_openOrders 1 = .ok (.istore_n 1, 1) := by decide +kernel
theorem dX7_openOrders_2 : decode cX7_openOrders 2 = .ok (.aload_n 0, 1) := by decide +kernel
theorem dX7_openOrders_3 : decode cX7_openOrders 3 = .ok (.getfield 29, 3) := by decide +kernel
theorem dX7_openOrders_6 : decode cX7_openOrders 6 = .ok (.astore_n 2, 1) := by decide +kernel
theorem dX7_openOrders_7 : decode cX7_openOrders 7 = .ok (.aload_n 2, 1) := by decide +kernel
theorem dX7_openOrders_8 : decode cX7_openOrders 8 = .ok (.arraylength, 1) := by decide +kernel
theorem dX7_openOrders_9 : decode cX7_openOrders 9 = .ok (.istore_n 3, 1) := by decide +kernel
theorem dX7_openOrders_10 : decode cX7_openOrders 10 = .ok (.iconst 0, 1) := by decide +kernel
theorem dX7_openOrders_11 : decode cX7_openOrders 11 = .ok (.istore 4, 2) := by decide +kernel
theorem dX7_openOrders_13 : decode cX7_openOrders 13 = .ok (.iload 4, 2) := by decide +kernel
theorem dX7_openOrders_15 : decode cX7_openOrders 15 = .ok (.iload_n 3, 1) := by decide +kernel
theorem dX7_openOrders_16 : decode cX7_openOrders 16 = .ok (.if_icmp .ge 36, 3) := by decide +kernel
theorem dX7_openOrders_19 : decode cX7_openOrders 19 = .ok (.aload_n 2, 1) := by decide +kernel
theorem dX7_openOrders_20 : decode cX7_openOrders 20 = .ok (.iload 4, 2) := by decide +kernel
theorem dX7_openOrders_22 : decode cX7_openOrders 22 = .ok (.aaload, 1) := by decide +kernel
theorem dX7_openOrders_23 : decode cX7_openOrders 23 = .ok (.astore 5, 2) := by decide +kernel
theorem dX7_openOrders_25 : decode cX7_openOrders 25 = .ok (.iload_n 1, 1) := by decide +kernel
theorem dX7_openOrders_26 : decode cX7_openOrders 26 = .ok (.aload 5, 2) := by decide +kernel
theorem dX7_openOrders_28 : decode cX7_openOrders 28 = .ok (.ifnull 15, 3) := by decide +kernel
theorem dX7_openOrders_31 : decode cX7_openOrders 31 = .ok (.aload 5, 2) := by decide +kernel
theorem dX7_openOrders_33 : decode cX7_openOrders 33 = .ok (.getfield 273, 3) := by decide +kernel
theorem dX7_openOrders_36 : decode cX7_openOrders 36 = .ok (.ifCond .ne 7, 3) := by decide +kernel
theorem dX7_openOrders_39 : decode cX7_openOrders 39 = .ok (.iconst 1, 1) := by decide +kernel
theorem dX7_openOrders_40 : decode cX7_openOrders 40 = .ok (.goto 4, 3) := by decide +kernel
theorem dX7_openOrders_43 : decode cX7_openOrders 43 = .ok (.iconst 0, 1) := by decide +kernel
theorem dX7_openOrders_44 : decode cX7_openOrders 44 = .ok (.iadd, 1) := by decide +kernel
theorem dX7_openOrders_45 : decode cX7_openOrders 45 = .ok (.istore_n 1, 1) := by decide +kernel
theorem dX7_openOrders_46 : decode cX7_openOrders 46 = .ok (.iinc 4 1, 3) := by decide +kernel
theorem dX7_openOrders_49 : decode cX7_openOrders 49 = .ok (.goto (-36), 3) := by decide +kernel
theorem dX7_openOrders_52 : decode cX7_openOrders 52 = .ok (.iload_n 1, 1) := by decide +kernel
theorem dX7_openOrders_53 : decode cX7_openOrders 53 = .ok (.ireturn, 1) := by decide +kernel
theorem dX7_heightOf_0 : decode cX7_heightOf 0 = .ok (.iload_n 0, 1) := by decide +kernel
theorem dX7_heightOf_1 : decode cX7_heightOf 1 = .ok (.iconst 2, 1) := by decide +kernel
theorem dX7_heightOf_2 : decode cX7_heightOf 2 = .ok (.if_icmp .ne 7, 3) := by decide +kernel
theorem dX7_heightOf_5 : decode cX7_heightOf 5 = .ok (.iconst 2, 1) := by decide +kernel
theorem dX7_heightOf_6 : decode cX7_heightOf 6 = .ok (.goto 4, 3) := by decide +kernel
theorem dX7_heightOf_9 : decode cX7_heightOf 9 = .ok (.iconst 3, 1) := by decide +kernel
theorem dX7_heightOf_10 : decode cX7_heightOf 10 = .ok (.ireturn, 1) := by decide +kernel
theorem dX7_cellsFrom_0 : decode cX7_cellsFrom 0 = .ok (.iconst 1, 1) := by decide +kernel
theorem dX7_cellsFrom_1 : decode cX7_cellsFrom 1 = .ok (.iload_n 1, 1) := by decide +kernel
theorem dX7_cellsFrom_2 : decode cX7_cellsFrom 2 = .ok (.ishl, 1) := by decide +kernel
theorem dX7_cellsFrom_3 : decode cX7_cellsFrom 3 = .ok (.iconst 1, 1) := by decide +kernel
theorem dX7_cellsFrom_4 : decode cX7_cellsFrom 4 = .ok (.isub, 1) := by decide +kernel
theorem dX7_cellsFrom_5 : decode cX7_cellsFrom 5 = .ok (.iload_n 0, 1) := by decide +kernel
theorem dX7_cellsFrom_6 : decode cX7_cellsFrom 6 = .ok (.ishl, 1) := by decide +kernel
theorem dX7_cellsFrom_7 : decode cX7_cellsFrom 7 = .ok (.ireturn, 1) := by decide +kernel
theorem dX7_takenCells_0 : decode cX7_takenCells 0 = .ok (.iconst 0, 1) := by decide +kernel
theorem dX7_takenCells_1 : decode cX7_takenCells 1 = .ok (.istore_n 2, 1) := by decide +kernel
theorem dX7_takenCells_2 : decode cX7_takenCells 2 = .ok (.aload_n 0, 1) := by decide +kernel
theorem dX7_takenCells_3 : decode cX7_takenCells 3 = .ok (.getfield 23, 3) := by decide +kernel
theorem dX7_takenCells_6 : decode cX7_takenCells 6 = .ok (.astore_n 3, 1) := by decide +kernel
theorem dX7_takenCells_7 : decode cX7_takenCells 7 = .ok (.aload_n 3, 1) := by decide +kernel
theorem dX7_takenCells_8 : decode cX7_takenCells 8 = .ok (.arraylength, 1) := by decide +kernel
theorem dX7_takenCells_9 : decode cX7_takenCells 9 = .ok (.istore 4, 2) := by decide +kernel
theorem dX7_takenCells_11 : decode cX7_takenCells 11 = .ok (.iconst 0, 1) := by decide +kernel
theorem dX7_takenCells_12 : decode cX7_takenCells 12 = .ok (.istore 5, 2) := by decide +kernel
theorem dX7_takenCells_14 : decode cX7_takenCells 14 = .ok (.iload 5, 2) := by decide +kernel
theorem dX7_takenCells_16 : decode cX7_takenCells 16 = .ok (.iload 4, 2) := by decide +kernel
theorem dX7_takenCells_18 : decode cX7_takenCells 18 = .ok (.if_icmp .ge 45, 3) := by decide +kernel
theorem dX7_takenCells_21 : decode cX7_takenCells 21 = .ok (.aload_n 3, 1) := by decide +kernel
theorem dX7_takenCells_22 : decode cX7_takenCells 22 = .ok (.iload 5, 2) := by decide +kernel
theorem dX7_takenCells_24 : decode cX7_takenCells 24 = .ok (.aaload, 1) := by decide +kernel
theorem dX7_takenCells_25 : decode cX7_takenCells 25 = .ok (.astore 6, 2) := by decide +kernel
theorem dX7_takenCells_27 : decode cX7_takenCells 27 = .ok (.aload 6, 2) := by decide +kernel
theorem dX7_takenCells_29 : decode cX7_takenCells 29 = .ok (.ifnull 28, 3) := by decide +kernel
theorem dX7_takenCells_32 : decode cX7_takenCells 32 = .ok (.aload 6, 2) := by decide +kernel
theorem dX7_takenCells_34 : decode cX7_takenCells 34 = .ok (.getfield 188, 3) := by decide +kernel
theorem dX7_takenCells_37 : decode cX7_takenCells 37 = .ok (.iload_n 1, 1) := by decide +kernel
theorem dX7_takenCells_38 : decode cX7_takenCells 38 = .ok (.if_icmp .ne 19, 3) := by decide +kernel
theorem dX7_takenCells_41 : decode cX7_takenCells 41 = .ok (.iload_n 2, 1) := by decide +kernel
theorem dX7_takenCells_42 : decode cX7_takenCells 42 = .ok (.aload 6, 2) := by decide +kernel
theorem dX7_takenCells_44 : decode cX7_takenCells 44 = .ok (.getfield 191, 3) := by decide +kernel
theorem dX7_takenCells_47 : decode cX7_takenCells 47 = .ok (.aload 6, 2) := by decide +kernel
theorem dX7_takenCells_49 : decode cX7_takenCells 49 = .ok (.getfield 179, 3) := by decide +kernel
theorem dX7_takenCells_52 : decode cX7_takenCells 52 = .ok (.invokestatic 182, 3) := by decide +kernel
theorem dX7_takenCells_55 : decode cX7_takenCells 55 = .ok (.ior, 1) := by decide +kernel
theorem dX7_takenCells_56 : decode cX7_takenCells 56 = .ok (.istore_n 2, 1) := by decide +kernel
theorem dX7_takenCells_57 : decode cX7_takenCells 57 = .ok (.iinc 5 1, 3) := by decide +kernel
theorem dX7_takenCells_60 : decode cX7_takenCells 60 = .ok (.goto (-46), 3) := by decide +kernel
theorem dX7_takenCells_63 : decode cX7_takenCells 63 = .ok (.iload_n 2, 1) := by decide +kernel
theorem dX7_takenCells_64 : decode cX7_takenCells 64 = .ok (.ireturn, 1) := by decide +kernel
theorem dX7_freeCells_0 : decode cX7_freeCells 0 = .ok (.bipush 10, 2) := by decide +kernel
theorem dX7_freeCells_2 : decode cX7_freeCells 2 = .ok (.aload_n 0, 1) := by decide +kernel
theorem dX7_freeCells_3 : decode cX7_freeCells 3 = .ok (.iload_n 1, 1) := by decide +kernel
theorem dX7_freeCells_4 : decode cX7_freeCells 4 = .ok (.invokevirtual 176, 3) := by decide +kernel
theorem dX7_freeCells_7 : decode cX7_freeCells 7 = .ok (.invokestatic 440, 3) := by decide +kernel
theorem dX7_freeCells_10 : decode cX7_freeCells 10 = .ok (.isub, 1) := by decide +kernel
theorem dX7_freeCells_11 : decode cX7_freeCells 11 = .ok (.ireturn, 1) := by decide +kernel
theorem dX7_longestFreeRow_0 : decode cX7_longestFreeRow 0 = .ok (.aload_n 0, 1) := by decide +kernel
theorem dX7_longestFreeRow_1 : decode cX7_longestFreeRow 1 = .ok (.iload_n 1, 1) := by decide +kernel
theorem dX7_longestFreeRow_2 : decode cX7_longestFreeRow 2 = .ok (.invokevirtual 176, 3) := by decide +kernel
theorem dX7_longestFreeRow_5 : decode cX7_longestFreeRow 5 = .ok (.istore_n 2, 1) := by decide +kernel
theorem dX7_longestFreeRow_6 : decode cX7_longestFreeRow 6 = .ok (.iconst 0, 1) := by decide +kernel
theorem dX7_longestFreeRow_7 : decode cX7_longestFreeRow 7 = .ok (.istore_n 3, 1) := by decide +kernel
theorem dX7_longestFreeRow_8 : decode cX7_longestFreeRow 8 = .ok (.iconst 0, 1) := by decide +kernel
theorem dX7_longestFreeRow_9 : decode cX7_longestFreeRow 9 = .ok (.istore 4, 2) := by decide +kernel
theorem dX7_longestFreeRow_11 : decode cX7_longestFreeRow 11 = .ok (.iconst 0, 1) := by decide +kernel
theorem dX7_longestFreeRow_12 : decode cX7_longestFreeRow 12 = .ok (.istore 5, 2) := by decide +kernel
theorem dX7_longestFreeRow_14 : decode cX7_longestFreeRow 14 = .ok (.iload 5, 2) := by decide +kernel
theorem dX7_longestFreeRow_16 : decode cX7_longestFreeRow 16 = .ok (.bipush 10, 2) := by decide +kernel
theorem dX7_longestFreeRow_18 : decode cX7_longestFreeRow 18 = .ok (.if_icmp .ge 35, 3) := by decide +kernel
theorem dX7_longestFreeRow_21 : decode cX7_longestFreeRow 21 = .ok (.iload_n 2, 1) := by decide +kernel
theorem dX7_longestFreeRow_22 : decode cX7_longestFreeRow 22 = .ok (.iload 5, 2) := by decide +kernel
theorem dX7_longestFreeRow_24 : decode cX7_longestFreeRow 24 = .ok (.ishr, 1) := by decide +kernel
theorem dX7_longestFreeRow_25 : decode cX7_longestFreeRow 25 = .ok (.iconst 1, 1) := by decide +kernel
theorem dX7_longestFreeRow_26 : decode cX7_longestFreeRow 26 = .ok (.iand, 1) := by decide +kernel
theorem dX7_longestFreeRow_27 : decode cX7_longestFreeRow 27 = .ok (.ifCond .ne 10, 3) := by decide +kernel
theorem dX7_longestFreeRow_30 : decode cX7_longestFreeRow 30 = .ok (.iload 4, 2) := by decide +kernel
theorem dX7_longestFreeRow_32 : decode cX7_longestFreeRow 32 = .ok (.iconst 1, 1) := by decide +kernel
theorem dX7_longestFreeRow_33 : decode cX7_longestFreeRow 33 = .ok (.iadd, 1) := by decide +kernel
theorem dX7_longestFreeRow_34 : decode cX7_longestFreeRow 34 = .ok (.goto 4, 3) := by decide +kernel
theorem dX7_longestFreeRow_37 : decode cX7_longestFreeRow 37 = .ok (.iconst 0, 1) := by decide +kernel
theorem dX7_longestFreeRow_38 : decode cX7_longestFreeRow 38 = .ok (.istore 4, 2) := by decide +kernel
theorem dX7_longestFreeRow_40 : decode cX7_longestFreeRow 40 = .ok (.iload_n 3, 1) := by decide +kernel
theorem dX7_longestFreeRow_41 : decode cX7_longestFreeRow 41 = .ok (.iload 4, 2) := by decide +kernel
theorem dX7_longestFreeRow_43 : decode cX7_longestFreeRow 43 = .ok (.invokestatic 445, 3) := by decide +kernel
theorem dX7_longestFreeRow_46 : decode cX7_longestFreeRow 46 = .ok (.istore_n 3, 1) := by decide +kernel
theorem dX7_longestFreeRow_47 : decode cX7_longestFreeRow 47 = .ok (.iinc 5 1, 3) := by decide +kernel
theorem dX7_longestFreeRow_50 : decode cX7_longestFreeRow 50 = .ok (.goto (-36), 3) := by decide +kernel
theorem dX7_longestFreeRow_53 : decode cX7_longestFreeRow 53 = .ok (.iload_n 3, 1) := by decide +kernel
theorem dX7_longestFreeRow_54 : decode cX7_longestFreeRow 54 = .ok (.ireturn, 1) := by decide +kernel
theorem dX7_sumsOfWidths_0 : decode cX7_sumsOfWidths 0 = .ok (.iconst 1, 1) := by decide +kernel
theorem dX7_sumsOfWidths_1 : decode cX7_sumsOfWidths 1 = .ok (.istore_n 2, 1) := by decide +kernel
theorem dX7_sumsOfWidths_2 : decode cX7_sumsOfWidths 2 = .ok (.aload_n 0, 1) := by decide +kernel
theorem dX7_sumsOfWidths_3 : decode cX7_sumsOfWidths 3 = .ok (.getfield 23, 3) := by decide +kernel
theorem dX7_sumsOfWidths_6 : decode cX7_sumsOfWidths 6 = .ok (.astore_n 3, 1) := by decide +kernel
theorem dX7_sumsOfWidths_7 : decode cX7_sumsOfWidths 7 = .ok (.aload_n 3, 1) := by decide +kernel
theorem dX7_sumsOfWidths_8 : decode cX7_sumsOfWidths 8 = .ok (.arraylength, 1) := by decide +kernel
theorem dX7_sumsOfWidths_9 : decode cX7_sumsOfWidths 9 = .ok (.istore 4, 2) := by decide +kernel
theorem dX7_sumsOfWidths_11 : decode cX7_sumsOfWidths 11 = .ok (.iconst 0, 1) := by decide +kernel
theorem dX7_sumsOfWidths_12 : decode cX7_sumsOfWidths 12 = .ok (.istore 5, 2) := by decide +kernel
theorem dX7_sumsOfWidths_14 : decode cX7_sumsOfWidths 14 = .ok (.iload 5, 2) := by decide +kernel
theorem dX7_sumsOfWidths_16 : decode cX7_sumsOfWidths 16 = .ok (.iload 4, 2) := by decide +kernel
theorem dX7_sumsOfWidths_18 : decode cX7_sumsOfWidths 18 = .ok (.if_icmp .ge 54, 3) := by decide +kernel
theorem dX7_sumsOfWidths_21 : decode cX7_sumsOfWidths 21 = .ok (.aload_n 3, 1) := by decide +kernel
theorem dX7_sumsOfWidths_22 : decode cX7_sumsOfWidths 22 = .ok (.iload 5, 2) := by decide +kernel
theorem dX7_sumsOfWidths_24 : decode cX7_sumsOfWidths 24 = .ok (.aaload, 1) := by decide +kernel
theorem dX7_sumsOfWidths_25 : decode cX7_sumsOfWidths 25 = .ok (.astore 6, 2) := by decide +kernel
theorem dX7_sumsOfWidths_27 : decode cX7_sumsOfWidths 27 = .ok (.aload 6, 2) := by decide +kernel
theorem dX7_sumsOfWidths_29 : decode cX7_sumsOfWidths 29 = .ok (.ifnull 37, 3) := by decide +kernel
theorem dX7_sumsOfWidths_32 : decode cX7_sumsOfWidths 32 = .ok (.aload 6, 2) := by decide +kernel
theorem dX7_sumsOfWidths_34 : decode cX7_sumsOfWidths 34 = .ok (.invokevirtual 450, 3) := by decide +kernel
theorem dX7_sumsOfWidths_37 : decode cX7_sumsOfWidths 37 = .ok (.ifCond .eq 29, 3) := by decide +kernel
theorem dX7_sumsOfWidths_40 : decode cX7_sumsOfWidths 40 = .ok (.aload 6, 2) := by decide +kernel
theorem dX7_sumsOfWidths_42 : decode cX7_sumsOfWidths 42 = .ok (.getfield 168, 3) := by decide +kernel
theorem dX7_sumsOfWidths_45 : decode cX7_sumsOfWidths 45 = .ok (.iload_n 1, 1) := by decide +kernel
theorem dX7_sumsOfWidths_46 : decode cX7_sumsOfWidths 46 = .ok (.if_icmp .gt 20, 3) := by decide +kernel
theorem dX7_sumsOfWidths_49 : decode cX7_sumsOfWidths 49 = .ok (.iload_n 2, 1) := by decide +kernel
theorem dX7_sumsOfWidths_50 : decode cX7_sumsOfWidths 50 = .ok (.iload_n 2, 1) := by decide +kernel
theorem dX7_sumsOfWidths_51 : decode cX7_sumsOfWidths 51 = .ok (.aload 6, 2) := by decide +kernel
theorem dX7_sumsOfWidths_53 : decode cX7_sumsOfWidths 53 = .ok (.getfield 179, 3) := by decide +kernel
theorem dX7_sumsOfWidths_56 : decode cX7_sumsOfWidths 56 = .ok (.ishl, 1) := by decide +kernel
theorem dX7_sumsOfWidths_57 : decode cX7_sumsOfWidths 57 = .ok (.iconst 0, 1) := by decide +kernel
theorem dX7_sumsOfWidths_58 : decode cX7_sumsOfWidths 58 = .ok (.bipush 11, 2) := by decide +kernel
theorem dX7_sumsOfWidths_60 : decode cX7_sumsOfWidths 60 = .ok (.invokestatic 182, 3) := by decide +kernel
theorem dX7_sumsOfWidths_63 : decode cX7_sumsOfWidths 63 = .ok (.iand, 1) := by decide +kernel
theorem dX7_sumsOfWidths_64 : decode cX7_sumsOfWidths 64 = .ok (.ior, 1) := by decide +kernel
theorem dX7_sumsOfWidths_65 : decode cX7_sumsOfWidths 65 = .ok (.istore_n 2, 1) := by decide +kernel
theorem dX7_sumsOfWidths_66 : decode cX7_sumsOfWidths 66 = .ok (.iinc 5 1, 3) := by decide +kernel
theorem dX7_sumsOfWidths_69 : decode cX7_sumsOfWidths 69 = .ok (.goto (-55), 3) := by decide +kernel
theorem dX7_sumsOfWidths_72 : decode cX7_sumsOfWidths 72 = .ok (.iload_n 2, 1) := by decide +kernel
theorem dX7_sumsOfWidths_73 : decode cX7_sumsOfWidths 73 = .ok (.ireturn, 1) := by decide +kernel

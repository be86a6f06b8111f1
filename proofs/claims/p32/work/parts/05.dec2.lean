theorem dX4_loseWater_7 : decode cX4_loseWater 7 = .ok (.aload_n 0, 1) := by decide +kernel
theorem dX4_loseWater_8 : decode cX4_loseWater 8 = .ok (.getfield 34, 3) := by decide +kernel
theorem dX4_loseWater_11 : decode cX4_loseWater 11 = .ok (.iconst (-1), 1) := by decide +kernel
theorem dX4_loseWater_12 : decode cX4_loseWater 12 = .ok (.if_icmp .eq 4, 3) := by decide +kernel
theorem dX4_loseWater_15 : decode cX4_loseWater 15 = .ok (.return_, 1) := by decide +kernel
theorem dX4_loseWater_16 : decode cX4_loseWater 16 = .ok (.iload_n 1, 1) := by decide +kernel
theorem dX4_loseWater_17 : decode cX4_loseWater 17 = .ok (.i2f, 1) := by decide +kernel
theorem dX4_loseWater_18 : decode cX4_loseWater 18 = .ok (.fconst 2, 1) := by decide +kernel
theorem dX4_loseWater_19 : decode cX4_loseWater 19 = .ok (.fdiv, 1) := by decide +kernel
theorem dX4_loseWater_20 : decode cX4_loseWater 20 = .ok (.aload_n 0, 1) := by decide +kernel
theorem dX4_loseWater_21 : decode cX4_loseWater 21 = .ok (.getfield 50, 3) := by decide +kernel
theorem dX4_loseWater_24 : decode cX4_loseWater 24 = .ok (.i2f, 1) := by decide +kernel
theorem dX4_loseWater_25 : decode cX4_loseWater 25 = .ok (.fdiv, 1) := by decide +kernel
theorem dX4_loseWater_26 : decode cX4_loseWater 26 = .ok (.fstore_n 2, 1) := by decide +kernel
theorem dX4_loseWater_27 : decode cX4_loseWater 27 = .ok (.aload_n 0, 1) := by decide +kernel
theorem dX4_loseWater_28 : decode cX4_loseWater 28 = .ok (.getfield 24, 3) := by decide +kernel
theorem dX4_loseWater_31 : decode cX4_loseWater 31 = .ok (.ifCond .eq 7, 3) := by decide +kernel
theorem dX4_loseWater_34 : decode cX4_loseWater 34 = .ok (.fload_n 2, 1) := by decide +kernel
theorem dX4_loseWater_35 : decode cX4_loseWater 35 = .ok (.fconst 2, 1) := by decide +kernel
theorem dX4_loseWater_36 : decode cX4_loseWater 36 = .ok (.fdiv, 1) := by decide +kernel
theorem dX4_loseWater_37 : decode cX4_loseWater 37 = .ok (.fstore_n 2, 1) := by decide +kernel
theorem dX4_loseWater_38 : decode cX4_loseWater 38 = .ok (.fload_n 2, 1) := by decide +kernel
theorem dX4_loseWater_39 : decode cX4_loseWater 39 = .ok (.aload_n 0, 1) := by decide +kernel
theorem dX4_loseWater_40 : decode cX4_loseWater 40 = .ok (.getfield 20, 3) := by decide +kernel
theorem dX4_loseWater_43 : decode cX4_loseWater 43 = .ok (.fcmp .l, 1) := by decide +kernel
theorem dX4_loseWater_44 : decode cX4_loseWater 44 = .ok (.ifCond .le 8, 3) := by decide +kernel
theorem dX4_loseWater_47 : decode cX4_loseWater 47 = .ok (.aload_n 0, 1) := by decide +kernel
theorem dX4_loseWater_48 : decode cX4_loseWater 48 = .ok (.getfield 20, 3) := by decide +kernel
theorem dX4_loseWater_51 : decode cX4_loseWater 51 = .ok (.fstore_n 2, 1) := by decide +kernel
theorem dX4_loseWater_52 : decode cX4_loseWater 52 = .ok (.aload_n 0, 1) := by decide +kernel
theorem dX4_loseWater_53 : decode cX4_loseWater 53 = .ok (.aload_n 0, 1) := by decide +kernel
theorem dX4_loseWater_54 : decode cX4_loseWater 54 = .ok (.getfield 20, 3) := by decide +kernel
theorem dX4_loseWater_57 : decode cX4_loseWater 57 = .ok (.fload_n 2, 1) := by decide +kernel
theorem dX4_loseWater_58 : decode cX4_loseWater 58 = .ok (.fsub, 1) := by decide +kernel
theorem dX4_loseWater_59 : decode cX4_loseWater 59 = .ok (.putfield 20, 3) := by decide +kernel
theorem dX4_loseWater_62 : decode cX4_loseWater 62 = .ok (.fload_n 2, 1) := by decide +kernel
theorem dX4_loseWater_63 : decode cX4_loseWater 63 = .ok (.ldc 65, 2) := by decide +kernel
theorem dX4_loseWater_65 : decode cX4_loseWater 65 = .ok (.fcmp .l, 1) := by decide +kernel
theorem dX4_loseWater_66 : decode cX4_loseWater 66 = .ok (.ifCond .le 13, 3) := by decide +kernel
theorem dX4_loseWater_69 : decode cX4_loseWater 69 = .ok (.aload_n 0, 1) := by decide +kernel
theorem dX4_loseWater_70 : decode cX4_loseWater 70 = .ok (.dup, 1) := by decide +kernel
theorem dX4_loseWater_71 : decode cX4_loseWater 71 = .ok (.getfield 31, 3) := by decide +kernel
theorem dX4_loseWater_74 : decode cX4_loseWater 74 = .ok (.iconst 2, 1) := by decide +kernel
theorem dX4_loseWater_75 : decode cX4_loseWater 75 = .ok (.ior, 1) := by decide +kernel
theorem dX4_loseWater_76 : decode cX4_loseWater 76 = .ok (.putfield 31, 3) := by decide +kernel
theorem dX4_loseWater_79 : decode cX4_loseWater 79 = .ok (.aload_n 0, 1) := by decide +kernel
theorem dX4_loseWater_80 : decode cX4_loseWater 80 = .ok (.getfield 20, 3) := by decide +kernel
theorem dX4_loseWater_83 : decode cX4_loseWater 83 = .ok (.ldc 66, 2) := by decide +kernel
theorem dX4_loseWater_85 : decode cX4_loseWater 85 = .ok (.fcmp .g, 1) := by decide +kernel
theorem dX4_loseWater_86 : decode cX4_loseWater 86 = .ok (.ifCond .gt 8, 3) := by decide +kernel
theorem dX4_loseWater_89 : decode cX4_loseWater 89 = .ok (.aload_n 0, 1) := by decide +kernel
theorem dX4_loseWater_90 : decode cX4_loseWater 90 = .ok (.iconst 1, 1) := by decide +kernel
theorem dX4_loseWater_91 : decode cX4_loseWater 91 = .ok (.putfield 15, 3) := by decide +kernel
theorem dX4_loseWater_94 : decode cX4_loseWater 94 = .ok (.return_, 1) := by decide +kernel
theorem dX4_feel_0 : decode cX4_feel 0 = .ok (.aload_n 0, 1) := by decide +kernel
theorem dX4_feel_1 : decode cX4_feel 1 = .ok (.getfield 15, 3) := by decide +kernel
theorem dX4_feel_4 : decode cX4_feel 4 = .ok (.iconst 5, 1) := by decide +kernel
theorem dX4_feel_5 : decode cX4_feel 5 = .ok (.if_icmp .ne 4, 3) := by decide +kernel
theorem dX4_feel_8 : decode cX4_feel 8 = .ok (.return_, 1) := by decide +kernel
theorem dX4_feel_9 : decode cX4_feel 9 = .ok (.aload_n 0, 1) := by decide +kernel
theorem dX4_feel_10 : decode cX4_feel 10 = .ok (.getfield 15, 3) := by decide +kernel
theorem dX4_feel_13 : decode cX4_feel 13 = .ok (.ifCond .ne 27, 3) := by decide +kernel
theorem dX4_feel_16 : decode cX4_feel 16 = .ok (.dload_n 3, 1) := by decide +kernel
theorem dX4_feel_17 : decode cX4_feel 17 = .ok (.ldc2_w 67, 3) := by decide +kernel
theorem dX4_feel_20 : decode cX4_feel 20 = .ok (.dcmp .l, 1) := by decide +kernel
theorem dX4_feel_21 : decode cX4_feel 21 = .ok (.ifCond .le 19, 3) := by decide +kernel
theorem dX4_feel_24 : decode cX4_feel 24 = .ok (.aload_n 0, 1) := by decide +kernel
theorem dX4_feel_25 : decode cX4_feel 25 = .ok (.dup, 1) := by decide +kernel
theorem dX4_feel_26 : decode cX4_feel 26 = .ok (.getfield 31, 3) := by decide +kernel
theorem dX4_feel_29 : decode cX4_feel 29 = .ok (.iconst 1, 1) := by decide +kernel
theorem dX4_feel_30 : decode cX4_feel 30 = .ok (.ior, 1) := by decide +kernel
theorem dX4_feel_31 : decode cX4_feel 31 = .ok (.putfield 31, 3) := by decide +kernel
theorem dX4_feel_34 : decode cX4_feel 34 = .ok (.aload_n 0, 1) := by decide +kernel
theorem dX4_feel_35 : decode cX4_feel 35 = .ok (.iconst 5, 1) := by decide +kernel
theorem dX4_feel_36 : decode cX4_feel 36 = .ok (.putfield 15, 3) := by decide +kernel
theorem dX4_feel_39 : decode cX4_feel 39 = .ok (.return_, 1) := by decide +kernel
theorem dX4_feel_40 : decode cX4_feel 40 = .ok (.dload_n 3, 1) := by decide +kernel
theorem dX4_feel_41 : decode cX4_feel 41 = .ok (.dload_n 1, 1) := by decide +kernel
theorem dX4_feel_42 : decode cX4_feel 42 = .ok (.dcmp .g, 1) := by decide +kernel
theorem dX4_feel_43 : decode cX4_feel 43 = .ok (.ifCond .ge 9, 3) := by decide +kernel
theorem dX4_feel_46 : decode cX4_feel 46 = .ok (.dload_n 1, 1) := by decide +kernel
theorem dX4_feel_47 : decode cX4_feel 47 = .ok (.dload_n 3, 1) := by decide +kernel
theorem dX4_feel_48 : decode cX4_feel 48 = .ok (.dsub, 1) := by decide +kernel
theorem dX4_feel_49 : decode cX4_feel 49 = .ok (.goto 6, 3) := by decide +kernel
theorem dX4_feel_52 : decode cX4_feel 52 = .ok (.dload_n 3, 1) := by decide +kernel
theorem dX4_feel_53 : decode cX4_feel 53 = .ok (.dload_n 1, 1) := by decide +kernel
theorem dX4_feel_54 : decode cX4_feel 54 = .ok (.dsub, 1) := by decide +kernel
theorem dX4_feel_55 : decode cX4_feel 55 = .ok (.dstore 6, 2) := by decide +kernel
theorem dX4_feel_57 : decode cX4_feel 57 = .ok (.dload_n 1, 1) := by decide +kernel
theorem dX4_feel_58 : decode cX4_feel 58 = .ok (.ldc2_w 69, 3) := by decide +kernel
theorem dX4_feel_61 : decode cX4_feel 61 = .ok (.dcmp .g, 1) := by decide +kernel
theorem dX4_feel_62 : decode cX4_feel 62 = .ok (.ifCond .ge 11, 3) := by decide +kernel
theorem dX4_feel_65 : decode cX4_feel 65 = .ok (.dload_n 3, 1) := by decide +kernel
theorem dX4_feel_66 : decode cX4_feel 66 = .ok (.ldc2_w 69, 3) := by decide +kernel
theorem dX4_feel_69 : decode cX4_feel 69 = .ok (.dcmp .l, 1) := by decide +kernel
theorem dX4_feel_70 : decode cX4_feel 70 = .ok (.ifCond .ge 19, 3) := by decide +kernel
theorem dX4_feel_73 : decode cX4_feel 73 = .ok (.dload_n 1, 1) := by decide +kernel
theorem dX4_feel_74 : decode cX4_feel 74 = .ok (.ldc2_w 69, 3) := by decide +kernel
theorem dX4_feel_77 : decode cX4_feel 77 = .ok (.dcmp .l, 1) := by decide +kernel
theorem dX4_feel_78 : decode cX4_feel 78 = .ok (.ifCond .le 15, 3) := by decide +kernel
theorem dX4_feel_81 : decode cX4_feel 81 = .ok (.dload_n 3, 1) := by decide +kernel
theorem dX4_feel_82 : decode cX4_feel 82 = .ok (.ldc2_w 69, 3) := by decide +kernel
theorem dX4_feel_85 : decode cX4_feel 85 = .ok (.dcmp .g, 1) := by decide +kernel
theorem dX4_feel_86 : decode cX4_feel 86 = .ok (.ifCond .gt 7, 3) := by decide +kernel
theorem dX4_feel_89 : decode cX4_feel 89 = .ok (.iconst 1, 1) := by decide +kernel
theorem dX4_feel_90 : decode cX4_feel 90 = .ok (.goto 4, 3) := by decide +kernel
theorem dX4_feel_93 : decode cX4_feel 93 = .ok (.iconst 0, 1) := by decide +kernel
theorem dX4_feel_94 : decode cX4_feel 94 = .ok (.istore 8, 2) := by decide +kernel
theorem dX4_feel_96 : decode cX4_feel 96 = .ok (.iload 8, 2) := by decide +kernel
theorem dX4_feel_98 : decode cX4_feel 98 = .ok (.ifCond .eq 28, 3) := by decide +kernel
theorem dX4_feel_101 : decode cX4_feel 101 = .ok (.dload 6, 2) := by decide +kernel
theorem dX4_feel_103 : decode cX4_feel 103 = .ok (.ldc2_w 71, 3) := by decide +kernel
theorem dX4_feel_106 : decode cX4_feel 106 = .ok (.aload_n 0, 1) := by decide +kernel
theorem dX4_feel_107 : decode cX4_feel 107 = .ok (.getfield 50, 3) := by decide +kernel
theorem dX4_feel_110 : decode cX4_feel 110 = .ok (.i2d, 1) := by decide +kernel
theorem dX4_feel_111 : decode cX4_feel 111 = .ok (.ddiv, 1) := by decide +kernel
theorem dX4_feel_112 : decode cX4_feel 112 = .ok (.dcmp .l, 1) := by decide +kernel
theorem dX4_feel_113 : decode cX4_feel 113 = .ok (.ifCond .le 13, 3) := by decide +kernel
theorem dX4_feel_116 : decode cX4_feel 116 = .ok (.aload_n 0, 1) := by decide +kernel
theorem dX4_feel_117 : decode cX4_feel 117 = .ok (.dup, 1) := by decide +kernel
theorem dX4_feel_118 : decode cX4_feel 118 = .ok (.getfield 31, 3) := by decide +kernel
theorem dX4_feel_121 : decode cX4_feel 121 = .ok (.iconst 2, 1) := by decide +kernel
theorem dX4_feel_122 : decode cX4_feel 122 = .ok (.ior, 1) := by decide +kernel
theorem dX4_feel_123 : decode cX4_feel 123 = .ok (.putfield 31, 3) := by decide +kernel
theorem dX4_feel_126 : decode cX4_feel 126 = .ok (.iload 5, 2) := by decide +kernel
theorem dX4_feel_128 : decode cX4_feel 128 = .ok (.ifCond .eq 21, 3) := by decide +kernel
theorem dX4_feel_131 : decode cX4_feel 131 = .ok (.dload_n 3, 1) := by decide +kernel
theorem dX4_feel_132 : decode cX4_feel 132 = .ok (.ldc2_w 73, 3) := by decide +kernel
theorem dX4_feel_135 : decode cX4_feel 135 = .ok (.dcmp .l, 1) := by decide +kernel
theorem dX4_feel_136 : decode cX4_feel 136 = .ok (.ifCond .lt 13, 3) := by decide +kernel
theorem dX4_feel_139 : decode cX4_feel 139 = .ok (.aload_n 0, 1) := by decide +kernel
theorem dX4_feel_140 : decode cX4_feel 140 = .ok (.dup, 1) := by decide +kernel
theorem dX4_feel_141 : decode cX4_feel 141 = .ok (.getfield 28, 3) := by decide +kernel
theorem dX4_feel_144 : decode cX4_feel 144 = .ok (.iconst 1, 1) := by decide +kernel
theorem dX4_feel_145 : decode cX4_feel 145 = .ok (.iadd, 1) := by decide +kernel
theorem dX4_feel_146 : decode cX4_feel 146 = .ok (.putfield 28, 3) := by decide +kernel
theorem dX4_feel_149 : decode cX4_feel 149 = .ok (.return_, 1) := by decide +kernel
theorem dX4_fire_0 : decode cX4_fire 0 = .ok (.aload_n 0, 1) := by decide +kernel
theorem dX4_fire_1 : decode cX4_fire 1 = .ok (.getfield 15, 3) := by decide +kernel
theorem dX4_fire_4 : decode cX4_fire 4 = .ok (.iconst 1, 1) := by decide +kernel
theorem dX4_fire_5 : decode cX4_fire 5 = .ok (.if_icmp .ne 8, 3) := by decide +kernel
theorem dX4_fire_8 : decode cX4_fire 8 = .ok (.iload_n 1, 1) := by decide +kernel
theorem dX4_fire_9 : decode cX4_fire 9 = .ok (.iconst 2, 1) := by decide +kernel
theorem dX4_fire_10 : decode cX4_fire 10 = .ok (.if_icmp .ge 16, 3) := by decide +kernel
theorem dX4_fire_13 : decode cX4_fire 13 = .ok (.aload_n 0, 1) := by decide +kernel
theorem dX4_fire_14 : decode cX4_fire 14 = .ok (.getfield 15, 3) := by decide +kernel
theorem dX4_fire_17 : decode cX4_fire 17 = .ok (.iconst 3, 1) := by decide +kernel
theorem dX4_fire_18 : decode cX4_fire 18 = .ok (.if_icmp .ne 12, 3) := by decide +kernel
theorem dX4_fire_21 : decode cX4_fire 21 = .ok (.iload_n 1, 1) := by decide +kernel
theorem dX4_fire_22 : decode cX4_fire 22 = .ok (.iconst 1, 1) := by decide +kernel
theorem dX4_fire_23 : decode cX4_fire 23 = .ok (.if_icmp .lt 7, 3) := by decide +kernel
theorem dX4_fire_26 : decode cX4_fire 26 = .ok (.iconst 1, 1) := by decide +kernel
theorem dX4_fire_27 : decode cX4_fire 27 = .ok (.goto 4, 3) := by decide +kernel
theorem dX4_fire_30 : decode cX4_fire 30 = .ok (.iconst 0, 1) := by decide +kernel
theorem dX4_fire_31 : decode cX4_fire 31 = .ok (.istore_n 2, 1) := by decide +kernel
theorem dX4_fire_32 : decode cX4_fire 32 = .ok (.iload_n 2, 1) := by decide +kernel
theorem dX4_fire_33 : decode cX4_fire 33 = .ok (.ifCond .ne 4, 3) := by decide +kernel
theorem dX4_fire_36 : decode cX4_fire 36 = .ok (.return_, 1) := by decide +kernel
theorem dX4_fire_37 : decode cX4_fire 37 = .ok (.iload_n 1, 1) := by decide +kernel
theorem dX4_fire_38 : decode cX4_fire 38 = .ok (.aload_n 0, 1) := by decide +kernel
theorem dX4_fire_39 : decode cX4_fire 39 = .ok (.getfield 40, 3) := by decide +kernel
theorem dX4_fire_42 : decode cX4_fire 42 = .ok (.getfield 75, 3) := by decide +kernel
theorem dX4_fire_45 : decode cX4_fire 45 = .ok (.if_icmp .le 21, 3) := by decide +kernel
theorem dX4_fire_48 : decode cX4_fire 48 = .ok (.aload_n 0, 1) := by decide +kernel
theorem dX4_fire_49 : decode cX4_fire 49 = .ok (.dup, 1) := by decide +kernel
theorem dX4_fire_50 : decode cX4_fire 50 = .ok (.getfield 31, 3) := by decide +kernel
theorem dX4_fire_53 : decode cX4_fire 53 = .ok (.iconst 4, 1) := by decide +kernel
theorem dX4_fire_54 : decode cX4_fire 54 = .ok (.ior, 1) := by decide +kernel
theorem dX4_fire_55 : decode cX4_fire 55 = .ok (.putfield 31, 3) := by decide +kernel
theorem dX4_fire_58 : decode cX4_fire 58 = .ok (.aload_n 0, 1) := by decide +kernel
theorem dX4_fire_59 : decode cX4_fire 59 = .ok (.iconst 5, 1) := by decide +kernel
theorem dX4_fire_60 : decode cX4_fire 60 = .ok (.putfield 15, 3) := by decide +kernel
theorem dX4_fire_63 : decode cX4_fire 63 = .ok (.goto 44, 3) := by decide +kernel
theorem dX4_fire_66 : decode cX4_fire 66 = .ok (.aload_n 0, 1) := by decide +kernel
theorem dX4_fire_67 : decode cX4_fire 67 = .ok (.getfield 9, 3) := by decide +kernel
theorem dX4_fire_70 : decode cX4_fire 70 = .ok (.ifnonnull 11, 3) := by decide +kernel
theorem dX4_fire_73 : decode cX4_fire 73 = .ok (.aload_n 0, 1) := by decide +kernel
theorem dX4_fire_74 : decode cX4_fire 74 = .ok (.iconst 2, 1) := by decide +kernel
theorem dX4_fire_75 : decode cX4_fire 75 = .ok (.putfield 15, 3) := by decide +kernel
theorem dX4_fire_78 : decode cX4_fire 78 = .ok (.goto 29, 3) := by decide +kernel
theorem dX4_fire_81 : decode cX4_fire 81 = .ok (.aload_n 0, 1) := by decide +kernel
theorem dX4_fire_82 : decode cX4_fire 82 = .ok (.dup, 1) := by decide +kernel
theorem dX4_fire_83 : decode cX4_fire 83 = .ok (.getfield 31, 3) := by decide +kernel
theorem dX4_fire_86 : decode cX4_fire 86 = .ok (.aload_n 0, 1) := by decide +kernel
theorem dX4_fire_87 : decode cX4_fire 87 = .ok (.getfield 9, 3) := by decide +kernel
theorem dX4_fire_90 : decode cX4_fire 90 = .ok (.aload_n 0, 1) := by decide +kernel
theorem dX4_fire_91 : decode cX4_fire 91 = .ok (.getfield 40, 3) := by decide +kernel
theorem dX4_fire_94 : decode cX4_fire 94 = .ok (.iload_n 1, 1) := by decide +kernel
theorem dX4_fire_95 : decode cX4_fire 95 = .ok (.invokevirtual 80, 3) := by decide +kernel
theorem dX4_fire_98 : decode cX4_fire 98 = .ok (.ior, 1) := by decide +kernel
theorem dX4_fire_99 : decode cX4_fire 99 = .ok (.putfield 31, 3) := by decide +kernel
theorem dX4_fire_102 : decode cX4_fire 102 = .ok (.aload_n 0, 1) := by decide +kernel
theorem dX4_fire_103 : decode cX4_fire 103 = .ok (.iconst 4, 1) := by decide +kernel
theorem dX4_fire_104 : decode cX4_fire 104 = .ok (.putfield 15, 3) := by decide +kernel
theorem dX4_fire_107 : decode cX4_fire 107 = .ok (.return_, 1) := by decide +kernel
theorem dX5_init_0 : decode cX5_init 0 = .ok (.aload_n 0, 1) := by decide +kernel
theorem dX5_init_1 : decode cX5_init 1 = .ok (.invokespecial 3, 3) := by decide +kernel
theorem dX5_init_4 : decode cX5_init 4 = .ok (.aload_n 0, 1) := by decide +kernel
theorem dX5_init_5 : decode cX5_init 5 = .ok (.iconst 5, 1) := by decide +kernel
theorem dX5_init_6 : decode cX5_init 6 = .ok (.anewarray 9, 3) := by decide +kernel
theorem dX5_init_9 : decode cX5_init 9 = .ok (.putfield 11, 3) := by decide +kernel
theorem dX5_init_12 : decode cX5_init 12 = .ok (.aload_n 0, 1) := by decide +kernel
theorem dX5_init_13 : decode cX5_init 13 = .ok (.iconst 0, 1) := by decide +kernel
theorem dX5_init_14 : decode cX5_init 14 = .ok (.putfield 17, 3) := by decide +kernel
theorem dX5_init_17 : decode cX5_init 17 = .ok (.return_, 1) := by decide +kernel
theorem dX5_rampAt_0 : decode cX5_rampAt 0 = .ok (.iload_n 1, 1) := by decide +kernel
theorem dX5_rampAt_1 : decode cX5_rampAt 1 = .ok (.ifCond .lt 29, 3) := by decide +kernel
theorem dX5_rampAt_4 : decode cX5_rampAt 4 = .ok (.iload_n 1, 1) := by decide +kernel
theorem dX5_rampAt_5 : decode cX5_rampAt 5 = .ok (.aload_n 0, 1) := by decide +kernel
theorem dX5_rampAt_6 : decode cX5_rampAt 6 = .ok (.getfield 17, 3) := by decide +kernel
theorem dX5_rampAt_9 : decode cX5_rampAt 9 = .ok (.if_icmp .ge 21, 3) := by decide +kernel
theorem dX5_rampAt_12 : decode cX5_rampAt 12 = .ok (.iload_n 1, 1) := by decide +kernel
theorem dX5_rampAt_13 : decode cX5_rampAt 13 = .ok (.aload_n 0, 1) := by decide +kernel
theorem dX5_rampAt_14 : decode cX5_rampAt 14 = .ok (.getfield 11, 3) := by decide +kernel
theorem dX5_rampAt_17 : decode cX5_rampAt 17 = .ok (.arraylength, 1) := by decide +kernel
theorem dX5_rampAt_18 : decode cX5_rampAt 18 = .ok (.if_icmp .ge 12, 3) := by decide +kernel
theorem dX5_rampAt_21 : decode cX5_rampAt 21 = .ok (.aload_n 0, 1) := by decide +kernel
theorem dX5_rampAt_22 : decode cX5_rampAt 22 = .ok (.getfield 11, 3) := by decide +kernel
theorem dX5_rampAt_25 : decode cX5_rampAt 25 = .ok (.iload_n 1, 1) := by decide +kernel
theorem dX5_rampAt_26 : decode cX5_rampAt 26 = .ok (.aaload, 1) := by decide +kernel
theorem dX5_rampAt_27 : decode cX5_rampAt 27 = .ok (.goto 4, 3) := by decide +kernel
theorem dX5_rampAt_30 : decode cX5_rampAt 30 = .ok (.aconst_null, 1) := by decide +kernel
theorem dX5_rampAt_31 : decode cX5_rampAt 31 = .ok (.areturn, 1) := by decide +kernel
theorem dX6_init_0 : decode cX6_init 0 = .ok (.aload_n 0, 1) := by decide +kernel
theorem dX6_init_1 : decode cX6_init 1 = .ok (.invokespecial 1, 3) := by decide +kernel
theorem dX6_init_4 : decode cX6_init 4 = .ok (.aload_n 0, 1) := by decide +kernel
theorem dX6_init_5 : decode cX6_init 5 = .ok (.iload_n 1, 1) := by decide +kernel
theorem dX6_init_6 : decode cX6_init 6 = .ok (.putfield 7, 3) := by decide +kernel
theorem dX6_init_9 : decode cX6_init 9 = .ok (.aload_n 0, 1) := by decide +kernel
theorem dX6_init_10 : decode cX6_init 10 = .ok (.iload_n 2, 1) := by decide +kernel
theorem dX6_init_11 : decode cX6_init 11 = .ok (.putfield 13, 3) := by decide +kernel
theorem dX6_init_14 : decode cX6_init 14 = .ok (.aload_n 0, 1) := by decide +kernel
theorem dX6_init_15 : decode cX6_init 15 = .ok (.iload_n 3, 1) := by decide +kernel
theorem dX6_init_16 : decode cX6_init 16 = .ok (.putfield 16, 3) := by decide +kernel
theorem dX6_init_19 : decode cX6_init 19 = .ok (.return_, 1) := by decide +kernel
theorem dX7_init_0 : decode cX7_init 0 = .ok (.aload_n 0, 1) := by decide +kernel
theorem dX7_init_1 : decode cX7_init 1 = .ok (.invokespecial 1, 3) := by decide +kernel
theorem dX7_init_4 : decode cX7_init 4 = .ok (.aload_n 0, 1) := by decide +kernel
theorem dX7_init_5 : decode cX7_init 5 = .ok (.iconst 3, 1) := by decide +kernel
theorem dX7_init_6 : decode cX7_init 6 = .ok (.anewarray 9, 3) := by decide +kernel
theorem dX7_init_9 : decode cX7_init 9 = .ok (.putfield 11, 3) := by decide +kernel
theorem dX7_init_12 : decode cX7_init 12 = .ok (.aload_n 0, 1) := by decide +kernel
theorem dX7_init_13 : decode cX7_init 13 = .ok (.iconst 4, 1) := by decide +kernel
theorem dX7_init_14 : decode cX7_init 14 = .ok (.anewarray 15, 3) := by decide +kernel
theorem dX7_init_17 : decode cX7_init 17 = .ok (.putfield 17, 3) := by decide +kernel
theorem dX7_init_20 : decode cX7_init 20 = .ok (.aload_n 0, 1) := by decide +kernel
theorem dX7_init_21 : decode cX7_init 21 = .ok (.bipush 14, 2) := by decide +kernel
theorem dX7_init_23 : decode cX7_init 23 = .ok (.anewarray 21, 3) := by decide +kernel
theorem dX7_init_26 : decode cX7_init 26 = .ok (.putfield 23, 3) := by decide +kernel
theorem dX7_init_29 : decode cX7_init 29 = .ok (.aload_n 0, 1) := by decide +kernel
theorem dX7_init_30 : decode cX7_init 30 = .ok (.bipush 6, 2) := by decide +kernel
theorem dX7_init_32 : decode cX7_init 32 = .ok (.anewarray 27, 3) := by decide +kernel
theorem dX7_init_35 : decode cX7_init 35 = .ok (.putfield 29, 3) := by decide +kernel
theorem dX7_init_38 : decode cX7_init 38 = .ok (.aload_n 0, 1) := by decide +kernel
theorem dX7_init_39 : decode cX7_init 39 = .ok (.iconst 0, 1) := by decide +kernel
theorem dX7_init_40 : decode cX7_init 40 = .ok (.putfield 33, 3) := by decide +kernel
theorem dX7_init_43 : decode cX7_init 43 = .ok (.aload_n 0, 1) := by decide +kernel
theorem dX7_init_44 : decode cX7_init 44 = .ok (.iconst 0, 1) := by decide +kernel
theorem dX7_init_45 : decode cX7_init 45 = .ok (.putfield 37, 3) := by decide +kernel
theorem dX7_init_48 : decode cX7_init 48 = .ok (.aload_n 0, 1) := by decide +kernel
theorem dX7_init_49 : decode cX7_init 49 = .ok (.iconst 0, 1) := by decide +kernel
theorem dX7_init_50 : decode cX7_init 50 = .ok (.putfield 40, 3) := by decide +kernel
theorem dX7_init_53 : decode cX7_init 53 = .ok (.aload_n 0, 1) := by decide +kernel
theorem dX7_init_54 : decode cX7_init 54 = .ok (.iconst 0, 1) := by decide +kernel
theorem dX7_init_55 : decode cX7_init 55 = .ok (.putfield 43, 3) := by decide +kernel
theorem dX7_init_58 : decode cX7_init 58 = .ok (.aload_n 0, 1) := by decide +kernel
theorem dX7_init_59 : decode cX7_init 59 = .ok (.new 46, 3) := by decide +kernel
theorem dX7_init_62 : decode cX7_init 62 = .ok (.dup, 1) := by decide +kernel
theorem dX7_init_63 : decode cX7_init 63 = .ok (.invokespecial 48, 3) := by decide +kernel
theorem dX7_init_66 : decode cX7_init 66 = .ok (.putfield 49, 3) := by decide +kernel
theorem dX7_init_69 : decode cX7_init 69 = .ok (.aload_n 0, 1) := by decide +kernel
theorem dX7_init_70 : decode cX7_init 70 = .ok (.new 53, 3) := by decide +kernel
theorem dX7_init_73 : decode cX7_init 73 = .ok (.dup, 1) := by decide +kernel
theorem dX7_init_74 : decode cX7_init 74 = .ok (.aload_n 0, 1) := by decide +kernel
theorem dX7_init_75 : decode cX7_init 75 = .ok (.getfield 49, 3) := by decide +kernel
theorem dX7_init_78 : decode cX7_init 78 = .ok (.invokespecial 55, 3) := by decide +kernel
theorem dX7_init_81 : decode cX7_init 81 = .ok (.putfield 58, 3) := by decide +kernel
theorem dX7_init_84 : decode cX7_init 84 = .ok (.aload_n 0, 1) := by decide +kernel
theorem dX7_init_85 : decode cX7_init 85 = .ok (.new 53, 3) := by decide +kernel
theorem dX7_init_88 : decode cX7_init 88 = .ok (.dup, 1) := by decide +kernel
theorem dX7_init_89 : decode cX7_init 89 = .ok (.aload_n 0, 1) := by decide +kernel
theorem dX7_init_90 : decode cX7_init 90 = .ok (.getfield 49, 3) := by decide +kernel
theorem dX7_init_93 : decode cX7_init 93 = .ok (.invokespecial 55, 3) := by decide +kernel
theorem dX7_init_96 : decode cX7_init 96 = .ok (.putfield 62, 3) := by decide +kernel
theorem dX7_init_99 : decode cX7_init 99 = .ok (.aload_n 0, 1) := by decide +kernel
theorem dX7_init_100 : decode cX7_init 100 = .ok (.iconst 0, 1) := by decide +kernel
theorem dX7_init_101 : decode cX7_init 101 = .ok (.putfield 65, 3) := by decide +kernel
theorem dX7_init_104 : decode cX7_init 104 = .ok (.aload_n 0, 1) := by decide +kernel
theorem dX7_init_105 : decode cX7_init 105 = .ok (.iconst 0, 1) := by decide +kernel
theorem dX7_init_106 : decode cX7_init 106 = .ok (.putfield 68, 3) := by decide +kernel
theorem dX7_init_109 : decode cX7_init 109 = .ok (.aload_n 0, 1) := by decide +kernel
theorem dX7_init_110 : decode cX7_init 110 = .ok (.iconst 0, 1) := by decide +kernel
theorem dX7_init_111 : decode cX7_init 111 = .ok (.putfield 71, 3) := by decide +kernel
theorem dX7_init_114 : decode cX7_init 114 = .ok (.return_, 1) := by decide +kernel
theorem dX7_clay_0 : decode cX7_clay 0 = .ok (.iload_n 1, 1) := by decide +kernel
theorem dX7_clay_1 : decode cX7_clay 1 = .ok (.iconst 1, 1) := by decide +kernel
theorem dX7_clay_2 : decode cX7_clay 2 = .ok (.bipush 12, 2) := by decide +kernel
theorem dX7_clay_4 : decode cX7_clay 4 = .ok (.invokestatic 74, 3) := by decide +kernel
theorem dX7_clay_7 : decode cX7_clay 7 = .ok (.ifCond .eq 14, 3) := by decide +kernel
theorem dX7_clay_10 : decode cX7_clay 10 = .ok (.iload_n 2, 1) := by decide +kernel
theorem dX7_clay_11 : decode cX7_clay 11 = .ok (.bipush 8, 2) := by decide +kernel
theorem dX7_clay_13 : decode cX7_clay 13 = .ok (.bipush 40, 2) := by decide +kernel
theorem dX7_clay_15 : decode cX7_clay 15 = .ok (.invokestatic 74, 3) := by decide +kernel
theorem dX7_clay_18 : decode cX7_clay 18 = .ok (.ifCond .ne 13, 3) := by decide +kernel
theorem dX7_clay_21 : decode cX7_clay 21 = .ok (.new 78, 3) := by decide +kernel
theorem dX7_clay_24 : decode cX7_clay 24 = .ok (.dup, 1) := by decide +kernel
theorem dX7_clay_25 : decode cX7_clay 25 = .ok (.ldc 80, 2) := by decide +kernel
theorem dX7_clay_27 : decode cX7_clay 27 = .ok (.invokespecial 82, 3) := by decide +kernel
theorem dX7_clay_30 : decode cX7_clay 30 = .ok (.athrow, 1) := by decide +kernel
theorem dX7_clay_31 : decode cX7_clay 31 = .ok (.aload_n 0, 1) := by decide +kernel
theorem dX7_clay_32 : decode cX7_clay 32 = .ok (.getfield 33, 3) := by decide +kernel
theorem dX7_clay_35 : decode cX7_clay 35 = .ok (.aload_n 0, 1) := by decide +kernel
theorem dX7_clay_36 : decode cX7_clay 36 = .ok (.getfield 11, 3) := by decide +kernel
theorem dX7_clay_39 : decode cX7_clay 39 = .ok (.arraylength, 1) := by decide +kernel
theorem dX7_clay_40 : decode cX7_clay 40 = .ok (.if_icmp .lt 13, 3) := by decide +kernel
theorem dX7_clay_43 : decode cX7_clay 43 = .ok (.new 85, 3) := by decide +kernel
theorem dX7_clay_46 : decode cX7_clay 46 = .ok (.dup, 1) := by decide +kernel
theorem dX7_clay_47 : decode cX7_clay 47 = .ok (.ldc 87, 2) := by decide +kernel
theorem dX7_clay_49 : decode cX7_clay 49 = .ok (.invokespecial 89, 3) := by decide +kernel
theorem dX7_clay_52 : decode cX7_clay 52 = .ok (.athrow, 1) := by decide +kernel
theorem dX7_clay_53 : decode cX7_clay 53 = .ok (.aload_n 0, 1) := by decide +kernel
theorem dX7_clay_54 : decode cX7_clay 54 = .ok (.getfield 11, 3) := by decide +kernel
theorem dX7_clay_57 : decode cX7_clay 57 = .ok (.aload_n 0, 1) := by decide +kernel
theorem dX7_clay_58 : decode cX7_clay 58 = .ok (.getfield 33, 3) := by decide +kernel
theorem dX7_clay_61 : decode cX7_clay 61 = .ok (.new 9, 3) := by decide +kernel
theorem dX7_clay_64 : decode cX7_clay 64 = .ok (.dup, 1) := by decide +kernel
theorem dX7_clay_65 : decode cX7_clay 65 = .ok (.iload_n 1, 1) := by decide +kernel
theorem dX7_clay_66 : decode cX7_clay 66 = .ok (.iload_n 2, 1) := by decide +kernel
theorem dX7_clay_67 : decode cX7_clay 67 = .ok (.invokespecial 90, 3) := by decide +kernel
theorem dX7_clay_70 : decode cX7_clay 70 = .ok (.aastore, 1) := by decide +kernel
theorem dX7_clay_71 : decode cX7_clay 71 = .ok (.aload_n 0, 1) := by decide +kernel
theorem dX7_clay_72 : decode cX7_clay 72 = .ok (.dup, 1) := by decide +kernel
theorem dX7_clay_73 : decode cX7_clay 73 = .ok (.getfield 33, 3) := by decide +kernel
theorem dX7_clay_76 : decode cX7_clay 76 = .ok (.iconst 1, 1) := by decide +kernel
theorem dX7_clay_77 : decode cX7_clay 77 = .ok (.iadd, 1) := by decide +kernel
theorem dX7_clay_78 : decode cX7_clay 78 = .ok (.putfield 33, 3) := by decide +kernel
theorem dX7_clay_81 : decode cX7_clay 81 = .ok (.aload_n 0, 1) := by decide +kernel
theorem dX7_clay_82 : decode cX7_clay 82 = .ok (.getfield 33, 3) := by decide +kernel
theorem dX7_clay_85 : decode cX7_clay 85 = .ok (.iconst 1, 1) := by decide +kernel
theorem dX7_clay_86 : decode cX7_clay 86 = .ok (.isub, 1) := by decide +kernel
theorem dX7_clay_87 : decode cX7_clay 87 = .ok (.ireturn, 1) := by decide +kernel
theorem dX7_glaze_0 : decode cX7_glaze 0 = .ok (.iload_n 1, 1) := by decide +kernel
theorem dX7_glaze_1 : decode cX7_glaze 1 = .ok (.invokestatic 93, 3) := by decide +kernel
theorem dX7_glaze_4 : decode cX7_glaze 4 = .ok (.ifCond .eq 33, 3) := by decide +kernel
theorem dX7_glaze_7 : decode cX7_glaze 7 = .ok (.iload_n 2, 1) := by decide +kernel
theorem dX7_glaze_8 : decode cX7_glaze 8 = .ok (.invokestatic 93, 3) := by decide +kernel
theorem dX7_glaze_11 : decode cX7_glaze 11 = .ok (.ifCond .eq 26, 3) := by decide +kernel
theorem dX7_glaze_14 : decode cX7_glaze 14 = .ok (.iload_n 3, 1) := by decide +kernel
theorem dX7_glaze_15 : decode cX7_glaze 15 = .ok (.invokestatic 93, 3) := by decide +kernel
theorem dX7_glaze_18 : decode cX7_glaze 18 = .ok (.ifCond .eq 19, 3) := by decide +kernel
theorem dX7_glaze_21 : decode cX7_glaze 21 = .ok (.iload 4, 2) := by decide +kernel
theorem dX7_glaze_23 : decode cX7_glaze 23 = .ok (.invokestatic 93, 3) := by decide +kernel
theorem dX7_glaze_26 : decode cX7_glaze 26 = .ok (.ifCond .eq 11, 3) := by decide +kernel
theorem dX7_glaze_29 : decode cX7_glaze 29 = .ok (.iload 5, 2) := by decide +kernel
theorem dX7_glaze_31 : decode cX7_glaze 31 = .ok (.invokestatic 93, 3) := by decide +kernel
theorem dX7_glaze_34 : decode cX7_glaze 34 = .ok (.ifCond .ne 13, 3) := by decide +kernel
theorem dX7_glaze_37 : decode cX7_glaze 37 = .ok (.new 78, 3) := by decide +kernel
theorem dX7_glaze_40 : decode cX7_glaze 40 = .ok (.dup, 1) := by decide +kernel
theorem dX7_glaze_41 : decode cX7_glaze 41 = .ok (.ldc 97, 2) := by decide +kernel
theorem dX7_glaze_43 : decode cX7_glaze 43 = .ok (.invokespecial 82, 3) := by decide +kernel
theorem dX7_glaze_46 : decode cX7_glaze 46 = .ok (.athrow, 1) := by decide +kernel
theorem dX7_glaze_47 : decode cX7_glaze 47 = .ok (.iload_n 1, 1) := by decide +kernel
theorem dX7_glaze_48 : decode cX7_glaze 48 = .ok (.ifCond .ne 17, 3) := by decide +kernel
theorem dX7_glaze_51 : decode cX7_glaze 51 = .ok (.iload_n 2, 1) := by decide +kernel
theorem dX7_glaze_52 : decode cX7_glaze 52 = .ok (.ifCond .ne 13, 3) := by decide +kernel
theorem dX7_glaze_55 : decode cX7_glaze 55 = .ok (.new 78, 3) := by decide +kernel
theorem dX7_glaze_58 : decode cX7_glaze 58 = .ok (.dup, 1) := by decide +kernel
theorem dX7_glaze_59 : decode cX7_glaze 59 = .ok (.ldc 99, 2) := by decide +kernel
theorem dX7_glaze_61 : decode cX7_glaze 61 = .ok (.invokespecial 82, 3) := by decide +kernel
theorem dX7_glaze_64 : decode cX7_glaze 64 = .ok (.athrow, 1) := by decide +kernel
theorem dX7_glaze_65 : decode cX7_glaze 65 = .ok (.aload_n 0, 1) := by decide +kernel
theorem dX7_glaze_66 : decode cX7_glaze 66 = .ok (.getfield 37, 3) := by decide +kernel
theorem dX7_glaze_69 : decode cX7_glaze 69 = .ok (.aload_n 0, 1) := by decide +kernel
theorem dX7_glaze_70 : decode cX7_glaze 70 = .ok (.getfield 17, 3) := by decide +kernel
theorem dX7_glaze_73 : decode cX7_glaze 73 = .ok (.arraylength, 1) := by decide +kernel
theorem dX7_glaze_74 : decode cX7_glaze 74 = .ok (.if_icmp .lt 13, 3) := by decide +kernel
theorem dX7_glaze_77 : decode cX7_glaze 77 = .ok (.new 85, 3) := by decide +kernel
theorem dX7_glaze_80 : decode cX7_glaze 80 = .ok (.dup, 1) := by decide +kernel
theorem dX7_glaze_81 : decode cX7_glaze 81 = .ok (.ldc 101, 2) := by decide +kernel
theorem dX7_glaze_83 : decode cX7_glaze 83 = .ok (.invokespecial 89, 3) := by decide +kernel
theorem dX7_glaze_86 : decode cX7_glaze 86 = .ok (.athrow, 1) := by decide +kernel
theorem dX7_glaze_87 : decode cX7_glaze 87 = .ok (.aload_n 0, 1) := by decide +kernel
theorem dX7_glaze_88 : decode cX7_glaze 88 = .ok (.getfield 17, 3) := by decide +kernel
theorem dX7_glaze_91 : decode cX7_glaze 91 = .ok (.aload_n 0, 1) := by decide +kernel
theorem dX7_glaze_92 : decode cX7_glaze 92 = .ok (.getfield 37, 3) := by decide +kernel
theorem dX7_glaze_95 : decode cX7_glaze 95 = .ok (.new 15, 3) := by decide +kernel
theorem dX7_glaze_98 : decode cX7_glaze 98 = .ok (.dup, 1) := by decide +kernel
theorem dX7_glaze_99 : decode cX7_glaze 99 = .ok (.aload_n 0, 1) := by decide +kernel
theorem dX7_glaze_100 : decode cX7_glaze 100 = .ok (.getfield 37, 3) := by decide +kernel
theorem dX7_glaze_103 : decode cX7_glaze 103 = .ok (.iload_n 1, 1) := by decide +kernel
theorem dX7_glaze_104 : decode cX7_glaze 104 = .ok (.iload_n 2, 1) := by decide +kernel
theorem dX7_glaze_105 : decode cX7_glaze 105 = .ok (.iload_n 3, 1) := by decide +kernel
theorem dX7_glaze_106 : decode cX7_glaze 106 = .ok (.iload 4, 2) := by decide +kernel
theorem dX7_glaze_108 : decode cX7_glaze 108 = .ok (.iload 5, 2) := by decide +kernel
theorem dX7_glaze_110 : decode cX7_glaze 110 = .ok (.invokespecial 103, 3) := by decide +kernel
theorem dX7_glaze_113 : decode cX7_glaze 113 = .ok (.aastore, 1) := by decide +kernel
theorem dX7_glaze_114 : decode cX7_glaze 114 = .ok (.aload_n 0, 1) := by decide +kernel
theorem dX7_glaze_115 : decode cX7_glaze 115 = .ok (.dup, 1) := by decide +kernel
theorem dX7_glaze_116 : decode cX7_glaze 116 = .ok (.getfield 37, 3) := by decide +kernel
theorem dX7_glaze_119 : decode cX7_glaze 119 = .ok (.iconst 1, 1) := by decide +kernel
theorem dX7_glaze_120 : decode cX7_glaze 120 = .ok (.iadd, 1) := by decide +kernel
theorem dX7_glaze_121 : decode cX7_glaze 121 = .ok (.putfield 37, 3) := by decide +kernel
theorem dX7_glaze_124 : decode cX7_glaze 124 = .ok (.aload_n 0, 1) := by decide +kernel
theorem dX7_glaze_125 : decode cX7_glaze 125 = .ok (.getfield 37, 3) := by decide +kernel
theorem dX7_glaze_128 : decode cX7_glaze 128 = .ok (.iconst 1, 1) := by decide +kernel
theorem dX7_glaze_129 : decode cX7_glaze 129 = .ok (.isub, 1) := by decide +kernel
theorem dX7_glaze_130 : decode cX7_glaze 130 = .ok (.ireturn, 1) := by decide +kernel
theorem dX7_pot_0 : decode cX7_pot 0 = .ok (.aload_n 0, 1) := by decide +kernel
theorem dX7_pot_1 : decode cX7_pot 1 = .ok (.iload_n 1, 1) := by decide +kernel
theorem dX7_pot_2 : decode cX7_pot 2 = .ok (.invokevirtual 106, 3) := by decide +kernel
theorem dX7_pot_5 : decode cX7_pot 5 = .ok (.astore 5, 2) := by decide +kernel
theorem dX7_pot_7 : decode cX7_pot 7 = .ok (.iload 4, 2) := by decide +kernel
theorem dX7_pot_9 : decode cX7_pot 9 = .ok (.iconst 1, 1) := by decide +kernel
theorem dX7_pot_10 : decode cX7_pot 10 = .ok (.if_icmp .eq 15, 3) := by decide +kernel
theorem dX7_pot_13 : decode cX7_pot 13 = .ok (.iload 4, 2) := by decide +kernel
theorem dX7_pot_15 : decode cX7_pot 15 = .ok (.iconst 2, 1) := by decide +kernel
theorem dX7_pot_16 : decode cX7_pot 16 = .ok (.if_icmp .eq 9, 3) := by decide +kernel
theorem dX7_pot_19 : decode cX7_pot 19 = .ok (.iload 4, 2) := by decide +kernel
theorem dX7_pot_21 : decode cX7_pot 21 = .ok (.iconst 4, 1) := by decide +kernel
theorem dX7_pot_22 : decode cX7_pot 22 = .ok (.if_icmp .ne 7, 3) := by decide +kernel
theorem dX7_pot_25 : decode cX7_pot 25 = .ok (.iconst 1, 1) := by decide +kernel
theorem dX7_pot_26 : decode cX7_pot 26 = .ok (.goto 4, 3) := by decide +kernel
theorem dX7_pot_29 : decode cX7_pot 29 = .ok (.iconst 0, 1) := by decide +kernel
theorem dX7_pot_30 : decode cX7_pot 30 = .ok (.istore 6, 2) := by decide +kernel
theorem dX7_pot_32 : decode cX7_pot 32 = .ok (.iload_n 2, 1) := by decide +kernel
theorem dX7_pot_33 : decode cX7_pot 33 = .ok (.iconst 1, 1) := by decide +kernel
theorem dX7_pot_34 : decode cX7_pot 34 = .ok (.iconst 5, 1) := by decide +kernel
theorem dX7_pot_35 : decode cX7_pot 35 = .ok (.invokestatic 74, 3) := by decide +kernel
theorem dX7_pot_38 : decode cX7_pot 38 = .ok (.ifCond .eq 17, 3) := by decide +kernel
theorem dX7_pot_41 : decode cX7_pot 41 = .ok (.iload_n 3, 1) := by decide +kernel
theorem dX7_pot_42 : decode cX7_pot 42 = .ok (.iconst 1, 1) := by decide +kernel
theorem dX7_pot_43 : decode cX7_pot 43 = .ok (.iconst 3, 1) := by decide +kernel
theorem dX7_pot_44 : decode cX7_pot 44 = .ok (.invokestatic 74, 3) := by decide +kernel
theorem dX7_pot_47 : decode cX7_pot 47 = .ok (.ifCond .eq 8, 3) := by decide +kernel
theorem dX7_pot_50 : decode cX7_pot 50 = .ok (.iload 6, 2) := by decide +kernel
theorem dX7_pot_52 : decode cX7_pot 52 = .ok (.ifCond .ne 13, 3) := by decide +kernel
theorem dX7_pot_55 : decode cX7_pot 55 = .ok (.new 78, 3) := by decide +kernel
theorem dX7_pot_58 : decode cX7_pot 58 = .ok (.dup, 1) := by decide +kernel
theorem dX7_pot_59 : decode cX7_pot 59 = .ok (.ldc 110, 2) := by decide +kernel
theorem dX7_pot_61 : decode cX7_pot 61 = .ok (.invokespecial 82, 3) := by decide +kernel
theorem dX7_pot_64 : decode cX7_pot 64 = .ok (.athrow, 1) := by decide +kernel
theorem dX7_pot_65 : decode cX7_pot 65 = .ok (.aload_n 0, 1) := by decide +kernel
theorem dX7_pot_66 : decode cX7_pot 66 = .ok (.getfield 40, 3) := by decide +kernel
theorem dX7_pot_69 : decode cX7_pot 69 = .ok (.aload_n 0, 1) := by decide +kernel
theorem dX7_pot_70 : decode cX7_pot 70 = .ok (.getfield 23, 3) := by decide +kernel
theorem dX7_pot_73 : decode cX7_pot 73 = .ok (.arraylength, 1) := by decide +kernel
theorem dX7_pot_74 : decode cX7_pot 74 = .ok (.if_icmp .lt 13, 3) := by decide +kernel
theorem dX7_pot_77 : decode cX7_pot 77 = .ok (.new 85, 3) := by decide +kernel
theorem dX7_pot_80 : decode cX7_pot 80 = .ok (.dup, 1) := by decide +kernel
theorem dX7_pot_81 : decode cX7_pot 81 = .ok (.ldc 112, 2) := by decide +kernel
theorem dX7_pot_83 : decode cX7_pot 83 = .ok (.invokespecial 89, 3) := by decide +kernel
theorem dX7_pot_86 : decode cX7_pot 86 = .ok (.athrow, 1) := by decide +kernel
theorem dX7_pot_87 : decode cX7_pot 87 = .ok (.aload_n 0, 1) := by decide +kernel
theorem dX7_pot_88 : decode cX7_pot 88 = .ok (.getfield 23, 3) := by decide +kernel
theorem dX7_pot_91 : decode cX7_pot 91 = .ok (.aload_n 0, 1) := by decide +kernel
theorem dX7_pot_92 : decode cX7_pot 92 = .ok (.getfield 40, 3) := by decide +kernel
theorem dX7_pot_95 : decode cX7_pot 95 = .ok (.new 21, 3) := by decide +kernel
theorem dX7_pot_98 : decode cX7_pot 98 = .ok (.dup, 1) := by decide +kernel
theorem dX7_pot_99 : decode cX7_pot 99 = .ok (.aload 5, 2) := by decide +kernel
theorem dX7_pot_101 : decode cX7_pot 101 = .ok (.iload_n 2, 1) := by decide +kernel
theorem dX7_pot_102 : decode cX7_pot 102 = .ok (.iload_n 3, 1) := by decide +kernel
theorem dX7_pot_103 : decode cX7_pot 103 = .ok (.iload 4, 2) := by decide +kernel
theorem dX7_pot_105 : decode cX7_pot 105 = .ok (.invokespecial 114, 3) := by decide +kernel
theorem dX7_pot_108 : decode cX7_pot 108 = .ok (.aastore, 1) := by decide +kernel
theorem dX7_pot_109 : decode cX7_pot 109 = .ok (.aload_n 0, 1) := by decide +kernel
theorem dX7_pot_110 : decode cX7_pot 110 = .ok (.dup, 1) := by decide +kernel
theorem dX7_pot_111 : decode cX7_pot 111 = .ok (.getfield 40, 3) := by decide +kernel
theorem dX7_pot_114 : decode cX7_pot 114 = .ok (.iconst 1, 1) := by decide +kernel
theorem dX7_pot_115 : decode cX7_pot 115 = .ok (.iadd, 1) := by decide +kernel
theorem dX7_pot_116 : decode cX7_pot 116 = .ok (.putfield 40, 3) := by decide +kernel
theorem dX7_pot_119 : decode cX7_pot 119 = .ok (.aload_n 0, 1) := by decide +kernel
theorem dX7_pot_120 : decode cX7_pot 120 = .ok (.getfield 40, 3) := by decide +kernel
theorem dX7_pot_123 : decode cX7_pot 123 = .ok (.iconst 1, 1) := by decide +kernel
theorem dX7_pot_124 : decode cX7_pot 124 = .ok (.isub, 1) := by decide +kernel
theorem dX7_pot_125 : decode cX7_pot 125 = .ok (.ireturn, 1) := by decide +kernel
theorem dX7_cover_0 : decode cX7_cover 0 = .ok (.aload_n 0, 1) := by decide +kernel
theorem dX7_cover_1 : decode cX7_cover 1 = .ok (.iload_n 1, 1) := by decide +kernel
theorem dX7_cover_2 : decode cX7_cover 2 = .ok (.invokevirtual 117, 3) := by decide +kernel
theorem dX7_cover_5 : decode cX7_cover 5 = .ok (.astore_n 3, 1) := by decide +kernel
theorem dX7_cover_6 : decode cX7_cover 6 = .ok (.aload_n 3, 1) := by decide +kernel
theorem dX7_cover_7 : decode cX7_cover 7 = .ok (.getfield 121, 3) := by decide +kernel
theorem dX7_cover_10 : decode cX7_cover 10 = .ok (.istore 4, 2) := by decide +kernel
theorem dX7_cover_12 : decode cX7_cover 12 = .ok (.aload_n 3, 1) := by decide +kernel
theorem dX7_cover_13 : decode cX7_cover 13 = .ok (.iload_n 2, 1) := by decide +kernel
theorem dX7_cover_14 : decode cX7_cover 14 = .ok (.putfield 121, 3) := by decide +kernel
theorem dX7_cover_17 : decode cX7_cover 17 = .ok (.iload 4, 2) := by decide +kernel
theorem dX7_cover_19 : decode cX7_cover 19 = .ok (.ireturn, 1) := by decide +kernel
theorem dX7_dry_0 : decode cX7_dry 0 = .ok (.iload_n 1, 1) := by decide +kernel
theorem dX7_dry_1 : decode cX7_dry 1 = .ok (.iconst 1, 1) := by decide +kernel
theorem dX7_dry_2 : decode cX7_dry 2 = .ok (.bipush 20, 2) := by decide +kernel
theorem dX7_dry_4 : decode cX7_dry 4 = .ok (.invokestatic 74, 3) := by decide +kernel
theorem dX7_dry_7 : decode cX7_dry 7 = .ok (.ifCond .eq 13, 3) := by decide +kernel
theorem dX7_dry_10 : decode cX7_dry 10 = .ok (.iload_n 2, 1) := by decide +kernel
theorem dX7_dry_11 : decode cX7_dry 11 = .ok (.iconst 1, 1) := by decide +kernel
theorem dX7_dry_12 : decode cX7_dry 12 = .ok (.bipush 8, 2) := by decide +kernel
theorem dX7_dry_14 : decode cX7_dry 14 = .ok (.invokestatic 74, 3) := by decide +kernel
theorem dX7_dry_17 : decode cX7_dry 17 = .ok (.ifCond .ne 13, 3) := by decide +kernel
theorem dX7_dry_20 : decode cX7_dry 20 = .ok (.new 78, 3) := by decide +kernel
theorem dX7_dry_23 : decode cX7_dry 23 = .ok (.dup, 1) := by decide +kernel
theorem dX7_dry_24 : decode cX7_dry 24 = .ok (.ldc 125, 2) := by decide +kernel
theorem dX7_dry_26 : decode cX7_dry 26 = .ok (.invokespecial 82, 3) := by decide +kernel
theorem dX7_dry_29 : decode cX7_dry 29 = .ok (.athrow, 1) := by decide +kernel
theorem dX7_dry_30 : decode cX7_dry 30 = .ok (.aload_n 0, 1) := by decide +kernel
theorem dX7_dry_31 : decode cX7_dry 31 = .ok (.getfield 65, 3) := by decide +kernel
theorem dX7_dry_34 : decode cX7_dry 34 = .ok (.iload_n 1, 1) := by decide +kernel
theorem dX7_dry_35 : decode cX7_dry 35 = .ok (.iadd, 1) := by decide +kernel
theorem dX7_dry_36 : decode cX7_dry 36 = .ok (.sipush 200, 3) := by decide +kernel
theorem dX7_dry_39 : decode cX7_dry 39 = .ok (.if_icmp .le 13, 3) := by decide +kernel
theorem dX7_dry_42 : decode cX7_dry 42 = .ok (.new 85, 3) := by decide +kernel
theorem dX7_dry_45 : decode cX7_dry 45 = .ok (.dup, 1) := by decide +kernel
theorem dX7_dry_46 : decode cX7_dry 46 = .ok (.ldc 127, 2) := by decide +kernel
theorem dX7_dry_48 : decode cX7_dry 48 = .ok (.invokespecial 89, 3) := by decide +kernel
theorem dX7_dry_51 : decode cX7_dry 51 = .ok (.athrow, 1) := by decide +kernel
theorem dX7_dry_52 : decode cX7_dry 52 = .ok (.iconst 0, 1) := by decide +kernel
theorem dX7_dry_53 : decode cX7_dry 53 = .ok (.istore_n 3, 1) := by decide +kernel
theorem dX7_dry_54 : decode cX7_dry 54 = .ok (.iload_n 3, 1) := by decide +kernel
theorem dX7_dry_55 : decode cX7_dry 55 = .ok (.iload_n 1, 1) := by decide +kernel
theorem dX7_dry_56 : decode cX7_dry 56 = .ok (.if_icmp .ge 14, 3) := by decide +kernel
theorem dX7_dry_59 : decode cX7_dry 59 = .ok (.aload_n 0, 1) := by decide +kernel
theorem dX7_dry_60 : decode cX7_dry 60 = .ok (.iload_n 2, 1) := by decide +kernel
theorem dX7_dry_61 : decode cX7_dry 61 = .ok (.invokevirtual 129, 3) := by decide +kernel
theorem dX7_dry_64 : decode cX7_dry 64 = .ok (.iinc 3 1, 3) := by decide +kernel
theorem dX7_dry_67 : decode cX7_dry 67 = .ok (.goto (-13), 3) := by decide +kernel
theorem dX7_dry_70 : decode cX7_dry 70 = .ok (.aload_n 0, 1) := by decide +kernel
theorem dX7_dry_71 : decode cX7_dry 71 = .ok (.iconst 1, 1) := by decide +kernel
theorem dX7_dry_72 : decode cX7_dry 72 = .ok (.invokevirtual 133, 3) := by decide +kernel
theorem dX7_dry_75 : decode cX7_dry 75 = .ok (.ireturn, 1) := by decide +kernel
theorem dX7_dip_0 : decode cX7_dip 0 = .ok (.aload_n 0, 1) := by decide +kernel
theorem dX7_dip_1 : decode cX7_dip 1 = .ok (.iload_n 1, 1) := by decide +kernel
theorem dX7_dip_2 : decode cX7_dip 2 = .ok (.invokevirtual 117, 3) := by decide +kernel
theorem dX7_dip_5 : decode cX7_dip 5 = .ok (.astore_n 3, 1) := by decide +kernel
theorem dX7_dip_6 : decode cX7_dip 6 = .ok (.aload_n 0, 1) := by decide +kernel
theorem dX7_dip_7 : decode cX7_dip 7 = .ok (.iload_n 2, 1) := by decide +kernel
theorem dX7_dip_8 : decode cX7_dip 8 = .ok (.invokevirtual 137, 3) := by decide +kernel
theorem dX7_dip_11 : decode cX7_dip 11 = .ok (.astore 4, 2) := by decide +kernel
theorem dX7_dip_13 : decode cX7_dip 13 = .ok (.aload_n 3, 1) := by decide +kernel
theorem dX7_dip_14 : decode cX7_dip 14 = .ok (.getfield 141, 3) := by decide +kernel
theorem dX7_dip_17 : decode cX7_dip 17 = .ok (.iconst 2, 1) := by decide +kernel
theorem dX7_dip_18 : decode cX7_dip 18 = .ok (.if_icmp .eq 13, 3) := by decide +kernel
theorem dX7_dip_21 : decode cX7_dip 21 = .ok (.new 85, 3) := by decide +kernel
theorem dX7_dip_24 : decode cX7_dip 24 = .ok (.dup, 1) := by decide +kernel
theorem dX7_dip_25 : decode cX7_dip 25 = .ok (.ldc 144, 2) := by decide +kernel
theorem dX7_dip_27 : decode cX7_dip 27 = .ok (.invokespecial 89, 3) := by decide +kernel
theorem dX7_dip_30 : decode cX7_dip 30 = .ok (.athrow, 1) := by decide +kernel
theorem dX7_dip_31 : decode cX7_dip 31 = .ok (.aload_n 3, 1) := by decide +kernel
theorem dX7_dip_32 : decode cX7_dip 32 = .ok (.aload 4, 2) := by decide +kernel
theorem dX7_dip_34 : decode cX7_dip 34 = .ok (.putfield 146, 3) := by decide +kernel
theorem dX7_dip_37 : decode cX7_dip 37 = .ok (.aload_n 3, 1) := by decide +kernel
theorem dX7_dip_38 : decode cX7_dip 38 = .ok (.iconst 3, 1) := by decide +kernel
theorem dX7_dip_39 : decode cX7_dip 39 = .ok (.putfield 141, 3) := by decide +kernel
theorem dX7_dip_42 : decode cX7_dip 42 = .ok (.aload 4, 2) := by decide +kernel
theorem dX7_dip_44 : decode cX7_dip 44 = .ok (.getfield 150, 3) := by decide +kernel
theorem dX7_dip_47 : decode cX7_dip 47 = .ok (.ireturn, 1) := by decide +kernel
theorem dX7_set_0 : decode cX7_set 0 = .ok (.aload_n 0, 1) := by decide +kernel
theorem dX7_set_1 : decode cX7_set 1 = .ok (.iload_n 1, 1) := by decide +kernel
theorem dX7_set_2 : decode cX7_set 2 = .ok (.invokevirtual 117, 3) := by decide +kernel
theorem dX7_set_5 : decode cX7_set 5 = .ok (.astore 4, 2) := by decide +kernel
theorem dX7_set_7 : decode cX7_set 7 = .ok (.iload_n 2, 1) := by decide +kernel
theorem dX7_set_8 : decode cX7_set 8 = .ok (.invokestatic 153, 3) := by decide +kernel
theorem dX7_set_11 : decode cX7_set 11 = .ok (.iload_n 3, 1) := by decide +kernel
theorem dX7_set_12 : decode cX7_set 12 = .ok (.iconst 0, 1) := by decide +kernel
theorem dX7_set_13 : decode cX7_set 13 = .ok (.bipush 9, 2) := by decide +kernel
theorem dX7_set_15 : decode cX7_set 15 = .ok (.invokestatic 74, 3) := by decide +kernel
theorem dX7_set_18 : decode cX7_set 18 = .ok (.ifCond .ne 13, 3) := by decide +kernel
theorem dX7_set_21 : decode cX7_set 21 = .ok (.new 156, 3) := by decide +kernel
theorem dX7_set_24 : decode cX7_set 24 = .ok (.dup, 1) := by decide +kernel
theorem dX7_set_25 : decode cX7_set 25 = .ok (.ldc 158, 2) := by decide +kernel
theorem dX7_set_27 : decode cX7_set 27 = .ok (.invokespecial 160, 3) := by decide +kernel
theorem dX7_set_30 : decode cX7_set 30 = .ok (.athrow, 1) := by decide +kernel
theorem dX7_set_31 : decode cX7_set 31 = .ok (.aload_n 0, 1) := by decide +kernel
theorem dX7_set_32 : decode cX7_set 32 = .ok (.getfield 58, 3) := by decide +kernel
theorem dX7_set_35 : decode cX7_set 35 = .ok (.invokevirtual 161, 3) := by decide +kernel
theorem dX7_set_38 : decode cX7_set 38 = .ok (.ifCond .eq 23, 3) := by decide +kernel
theorem dX7_set_41 : decode cX7_set 41 = .ok (.aload 4, 2) := by decide +kernel
theorem dX7_set_43 : decode cX7_set 43 = .ok (.invokevirtual 165, 3) := by decide +kernel
theorem dX7_set_46 : decode cX7_set 46 = .ok (.ifCond .eq 15, 3) := by decide +kernel
theorem dX7_set_49 : decode cX7_set 49 = .ok (.aload 4, 2) := by decide +kernel
theorem dX7_set_51 : decode cX7_set 51 = .ok (.getfield 168, 3) := by decide +kernel
theorem dX7_set_54 : decode cX7_set 54 = .ok (.iload_n 2, 1) := by decide +kernel
theorem dX7_set_55 : decode cX7_set 55 = .ok (.invokestatic 171, 3) := by decide +kernel
theorem dX7_set_58 : decode cX7_set 58 = .ok (.if_icmp .le 13, 3) := by decide +kernel
theorem dX7_set_61 : decode cX7_set 61 = .ok (.new 85, 3) := by decide +kernel
theorem dX7_set_64 : decode cX7_set 64 = .ok (.dup, 1) := by decide +kernel
theorem dX7_set_65 : decode cX7_set 65 = .ok (.ldc 174, 2) := by decide +kernel
theorem dX7_set_67 : decode cX7_set 67 = .ok (.invokespecial 89, 3) := by decide +kernel
theorem dX7_set_70 : decode cX7_set 70 = .ok (.athrow, 1) := by decide +kernel
theorem dX7_set_71 : decode cX7_set 71 = .ok (.aload_n 0, 1) := by decide +kernel
theorem dX7_set_72 : decode cX7_set 72 = .ok (.iload_n 2, 1) := by decide +kernel
theorem dX7_set_73 : decode cX7_set 73 = .ok (.invokevirtual 176, 3) := by decide +kernel
theorem dX7_set_76 : decode cX7_set 76 = .ok (.iload_n 3, 1) := by decide +kernel
theorem dX7_set_77 : decode cX7_set 77 = .ok (.aload 4, 2) := by decide +kernel
theorem dX7_set_79 : decode cX7_set 79 = .ok (.getfield 179, 3) := by decide +kernel
theorem dX7_set_82 : decode cX7_set 82 = .ok (.invokestatic 182, 3) := by decide +kernel
theorem dX7_set_85 : decode cX7_set 85 = .ok (.iand, 1) := by decide +kernel
theorem dX7_set_86 : decode cX7_set 86 = .ok (.ifCond .ne 7, 3) := by decide +kernel
theorem dX7_set_89 : decode cX7_set 89 = .ok (.iconst 1, 1) := by decide +kernel
theorem dX7_set_90 : decode cX7_set 90 = .ok (.goto 4, 3) := by decide +kernel
theorem dX7_set_93 : decode cX7_set 93 = .ok (.iconst 0, 1) := by decide +kernel
theorem dX7_set_94 : decode cX7_set 94 = .ok (.istore 5, 2) := by decide +kernel
theorem dX7_set_96 : decode cX7_set 96 = .ok (.iload_n 3, 1) := by decide +kernel
theorem dX7_set_97 : decode cX7_set 97 = .ok (.aload 4, 2) := by decide +kernel
theorem dX7_set_99 : decode cX7_set 99 = .ok (.getfield 179, 3) := by decide +kernel
theorem dX7_set_102 : decode cX7_set 102 = .ok (.iadd, 1) := by decide +kernel
theorem dX7_set_103 : decode cX7_set 103 = .ok (.bipush 10, 2) := by decide +kernel
theorem dX7_set_105 : decode cX7_set 105 = .ok (.if_icmp .gt 8, 3) := by decide +kernel
theorem dX7_set_108 : decode cX7_set 108 = .ok (.iload 5, 2) := by decide +kernel
theorem dX7_set_110 : decode cX7_set 110 = .ok (.ifCond .ne 13, 3) := by decide +kernel
theorem dX7_set_113 : decode cX7_set 113 = .ok (.new 85, 3) := by decide +kernel
theorem dX7_set_116 : decode cX7_set 116 = .ok (.dup, 1) := by decide +kernel
theorem dX7_set_117 : decode cX7_set 117 = .ok (.ldc 186, 2) := by decide +kernel
theorem dX7_set_119 : decode cX7_set 119 = .ok (.invokespecial 89, 3) := by decide +kernel
theorem dX7_set_122 : decode cX7_set 122 = .ok (.athrow, 1) := by decide +kernel
theorem dX7_set_123 : decode cX7_set 123 = .ok (.aload 4, 2) := by decide +kernel
theorem dX7_set_125 : decode cX7_set 125 = .ok (.iload_n 2, 1) := by decide +kernel
theorem dX7_set_126 : decode cX7_set 126 = .ok (.putfield 188, 3) := by decide +kernel
theorem dX7_set_129 : decode cX7_set 129 = .ok (.aload 4, 2) := by decide +kernel
theorem dX7_set_131 : decode cX7_set 131 = .ok (.iload_n 3, 1) := by decide +kernel
theorem dX7_set_132 : decode cX7_set 132 = .ok (.putfield 191, 3) := by decide +kernel
theorem dX7_set_135 : decode cX7_set 135 = .ok (.aload_n 0, 1) := by decide +kernel
theorem dX7_set_136 : decode cX7_set 136 = .ok (.iload_n 2, 1) := by decide +kernel
theorem dX7_set_137 : decode cX7_set 137 = .ok (.invokevirtual 194, 3) := by decide +kernel
theorem dX7_set_140 : decode cX7_set 140 = .ok (.ireturn, 1) := by decide +kernel
theorem dX7_ramp_0 : decode cX7_ramp 0 = .ok (.iload_n 1, 1) := by decide +kernel
theorem dX7_ramp_1 : decode cX7_ramp 1 = .ok (.bipush 10, 2) := by decide +kernel
theorem dX7_ramp_3 : decode cX7_ramp 3 = .ok (.sipush 200, 3) := by decide +kernel
theorem dX7_ramp_6 : decode cX7_ramp 6 = .ok (.invokestatic 74, 3) := by decide +kernel
theorem dX7_ramp_9 : decode cX7_ramp 9 = .ok (.ifCond .eq 25, 3) := by decide +kernel
theorem dX7_ramp_12 : decode cX7_ramp 12 = .ok (.iload_n 2, 1) := by decide +kernel
theorem dX7_ramp_13 : decode cX7_ramp 13 = .ok (.bipush 100, 2) := by decide +kernel
theorem dX7_ramp_15 : decode cX7_ramp 15 = .ok (.sipush 1400, 3) := by decide +kernel
theorem dX7_ramp_18 : decode cX7_ramp 18 = .ok (.invokestatic 74, 3) := by decide +kernel
theorem dX7_ramp_21 : decode cX7_ramp 21 = .ok (.ifCond .eq 13, 3) := by decide +kernel
theorem dX7_ramp_24 : decode cX7_ramp 24 = .ok (.iload_n 3, 1) := by decide +kernel
theorem dX7_ramp_25 : decode cX7_ramp 25 = .ok (.iconst 0, 1) := by decide +kernel
theorem dX7_ramp_26 : decode cX7_ramp 26 = .ok (.bipush 20, 2) := by decide +kernel
theorem dX7_ramp_28 : decode cX7_ramp 28 = .ok (.invokestatic 74, 3) := by decide +kernel
theorem dX7_ramp_31 : decode cX7_ramp 31 = .ok (.ifCond .ne 13, 3) := by decide +kernel
theorem dX7_ramp_34 : decode cX7_ramp 34 = .ok (.new 78, 3) := by decide +kernel
theorem dX7_ramp_37 : decode cX7_ramp 37 = .ok (.dup, 1) := by decide +kernel
theorem dX7_ramp_38 : decode cX7_ramp 38 = .ok (.ldc 202, 2) := by decide +kernel
theorem dX7_ramp_40 : decode cX7_ramp 40 = .ok (.invokespecial 82, 3) := by decide +kernel
theorem dX7_ramp_43 : decode cX7_ramp 43 = .ok (.athrow, 1) := by decide +kernel
theorem dX7_ramp_44 : decode cX7_ramp 44 = .ok (.aload_n 0, 1) := by decide +kernel
theorem dX7_ramp_45 : decode cX7_ramp 45 = .ok (.getfield 58, 3) := by decide +kernel
theorem dX7_ramp_48 : decode cX7_ramp 48 = .ok (.getfield 204, 3) := by decide +kernel
theorem dX7_ramp_51 : decode cX7_ramp 51 = .ok (.ifCond .ne 21, 3) := by decide +kernel
theorem dX7_ramp_54 : decode cX7_ramp 54 = .ok (.aload_n 0, 1) := by decide +kernel
theorem dX7_ramp_55 : decode cX7_ramp 55 = .ok (.getfield 49, 3) := by decide +kernel
theorem dX7_ramp_58 : decode cX7_ramp 58 = .ok (.getfield 207, 3) := by decide +kernel
theorem dX7_ramp_61 : decode cX7_ramp 61 = .ok (.aload_n 0, 1) := by decide +kernel
theorem dX7_ramp_62 : decode cX7_ramp 62 = .ok (.getfield 49, 3) := by decide +kernel
theorem dX7_ramp_65 : decode cX7_ramp 65 = .ok (.getfield 210, 3) := by decide +kernel
theorem dX7_ramp_68 : decode cX7_ramp 68 = .ok (.arraylength, 1) := by decide +kernel
theorem dX7_ramp_69 : decode cX7_ramp 69 = .ok (.if_icmp .lt 13, 3) := by decide +kernel
theorem dX7_ramp_72 : decode cX7_ramp 72 = .ok (.new 85, 3) := by decide +kernel
theorem dX7_ramp_75 : decode cX7_ramp 75 = .ok (.dup, 1) := by decide +kernel
theorem dX7_ramp_76 : decode cX7_ramp 76 = .ok (.ldc 214, 2) := by decide +kernel
theorem dX7_ramp_78 : decode cX7_ramp 78 = .ok (.invokespecial 89, 3) := by decide +kernel
theorem dX7_ramp_81 : decode cX7_ramp 81 = .ok (.athrow, 1) := by decide +kernel
theorem dX7_ramp_82 : decode cX7_ramp 82 = .ok (.aload_n 0, 1) := by decide +kernel
theorem dX7_ramp_83 : decode cX7_ramp 83 = .ok (.getfield 49, 3) := by decide +kernel
theorem dX7_ramp_86 : decode cX7_ramp 86 = .ok (.getfield 210, 3) := by decide +kernel
theorem dX7_ramp_89 : decode cX7_ramp 89 = .ok (.aload_n 0, 1) := by decide +kernel
theorem dX7_ramp_90 : decode cX7_ramp 90 = .ok (.getfield 49, 3) := by decide +kernel
theorem dX7_ramp_93 : decode cX7_ramp 93 = .ok (.getfield 207, 3) := by decide +kernel
theorem dX7_ramp_96 : decode cX7_ramp 96 = .ok (.new 216, 3) := by decide +kernel
theorem dX7_ramp_99 : decode cX7_ramp 99 = .ok (.dup, 1) := by decide +kernel
theorem dX7_ramp_100 : decode cX7_ramp 100 = .ok (.iload_n 1, 1) := by decide +kernel
theorem dX7_ramp_101 : decode cX7_ramp 101 = .ok (.iload_n 2, 1) := by decide +kernel
theorem dX7_ramp_102 : decode cX7_ramp 102 = .ok (.iload_n 3, 1) := by decide +kernel
theorem dX7_ramp_103 : decode cX7_ramp 103 = .ok (.invokespecial 218, 3) := by decide +kernel
theorem dX7_ramp_106 : decode cX7_ramp 106 = .ok (.aastore, 1) := by decide +kernel
theorem dX7_ramp_107 : decode cX7_ramp 107 = .ok (.aload_n 0, 1) := by decide +kernel
theorem dX7_ramp_108 : decode cX7_ramp 108 = .ok (.getfield 49, 3) := by decide +kernel
theorem dX7_ramp_111 : decode cX7_ramp 111 = .ok (.dup, 1) := by decide +kernel
theorem dX7_ramp_112 : decode cX7_ramp 112 = .ok (.getfield 207, 3) := by decide +kernel
theorem dX7_ramp_115 : decode cX7_ramp 115 = .ok (.iconst 1, 1) := by decide +kernel
theorem dX7_ramp_116 : decode cX7_ramp 116 = .ok (.iadd, 1) := by decide +kernel
theorem dX7_ramp_117 : decode cX7_ramp 117 = .ok (.putfield 207, 3) := by decide +kernel
theorem dX7_ramp_120 : decode cX7_ramp 120 = .ok (.aload_n 0, 1) := by decide +kernel
theorem dX7_ramp_121 : decode cX7_ramp 121 = .ok (.getfield 49, 3) := by decide +kernel
theorem dX7_ramp_124 : decode cX7_ramp 124 = .ok (.getfield 207, 3) := by decide +kernel
theorem dX7_ramp_127 : decode cX7_ramp 127 = .ok (.iconst 1, 1) := by decide +kernel
theorem dX7_ramp_128 : decode cX7_ramp 128 = .ok (.isub, 1) := by decide +kernel
theorem dX7_ramp_129 : decode cX7_ramp 129 = .ok (.ireturn, 1) := by decide +kernel
theorem dX7_light_0 : decode cX7_light 0 = .ok (.aload_n 0, 1) := by decide +kernel
theorem dX7_light_1 : decode cX7_light 1 = .ok (.getfield 58, 3) := by decide +kernel
theorem dX7_light_4 : decode cX7_light 4 = .ok (.getfield 204, 3) := by decide +kernel
theorem dX7_light_7 : decode cX7_light 7 = .ok (.ifCond .ne 13, 3) := by decide +kernel
theorem dX7_light_10 : decode cX7_light 10 = .ok (.aload_n 0, 1) := by decide +kernel
theorem dX7_light_11 : decode cX7_light 11 = .ok (.getfield 49, 3) := by decide +kernel
theorem dX7_light_14 : decode cX7_light 14 = .ok (.getfield 207, 3) := by decide +kernel
theorem dX7_light_17 : decode cX7_light 17 = .ok (.ifCond .ne 13, 3) := by decide +kernel
theorem dX7_light_20 : decode cX7_light 20 = .ok (.new 85, 3) := by decide +kernel
theorem dX7_light_23 : decode cX7_light 23 = .ok (.dup, 1) := by decide +kernel
theorem dX7_light_24 : decode cX7_light 24 = .ok (.ldc 223, 2) := by decide +kernel
theorem dX7_light_26 : decode cX7_light 26 = .ok (.invokespecial 89, 3) := by decide +kernel
theorem dX7_light_29 : decode cX7_light 29 = .ok (.athrow, 1) := by decide +kernel
theorem dX7_light_30 : decode cX7_light 30 = .ok (.aload_n 0, 1) := by decide +kernel
theorem dX7_light_31 : decode cX7_light 31 = .ok (.getfield 58, 3) := by decide +kernel
theorem dX7_light_34 : decode cX7_light 34 = .ok (.invokevirtual 225, 3) := by decide +kernel
theorem dX7_light_37 : decode cX7_light 37 = .ok (.iconst 0, 1) := by decide +kernel
theorem dX7_light_38 : decode cX7_light 38 = .ok (.istore_n 1, 1) := by decide +kernel
theorem dX7_light_39 : decode cX7_light 39 = .ok (.iconst 0, 1) := by decide +kernel
theorem dX7_light_40 : decode cX7_light 40 = .ok (.istore_n 2, 1) := by decide +kernel
theorem dX7_light_41 : decode cX7_light 41 = .ok (.iload_n 2, 1) := by decide +kernel
theorem dX7_light_42 : decode cX7_light 42 = .ok (.iconst 3, 1) := by decide +kernel
theorem dX7_light_43 : decode cX7_light 43 = .ok (.if_icmp .ge 17, 3) := by decide +kernel
theorem dX7_light_46 : decode cX7_light 46 = .ok (.iload_n 1, 1) := by decide +kernel
theorem dX7_light_47 : decode cX7_light 47 = .ok (.aload_n 0, 1) := by decide +kernel
theorem dX7_light_48 : decode cX7_light 48 = .ok (.iload_n 2, 1) := by decide +kernel
theorem dX7_light_49 : decode cX7_light 49 = .ok (.invokevirtual 228, 3) := by decide +kernel
theorem dX7_light_52 : decode cX7_light 52 = .ok (.iadd, 1) := by decide +kernel
theorem dX7_light_53 : decode cX7_light 53 = .ok (.istore_n 1, 1) := by decide +kernel
theorem dX7_light_54 : decode cX7_light 54 = .ok (.iinc 2 1, 3) := by decide +kernel
theorem dX7_light_57 : decode cX7_light 57 = .ok (.goto (-16), 3) := by decide +kernel
theorem dX7_light_60 : decode cX7_light 60 = .ok (.iload_n 1, 1) := by decide +kernel
theorem dX7_light_61 : decode cX7_light 61 = .ok (.ireturn, 1) := by decide +kernel
theorem dX7_burn_0 : decode cX7_burn 0 = .ok (.iload_n 1, 1) := by decide +kernel
theorem dX7_burn_1 : decode cX7_burn 1 = .ok (.invokestatic 231, 3) := by decide +kernel
theorem dX7_burn_4 : decode cX7_burn 4 = .ok (.iconst 0, 1) := by decide +kernel
theorem dX7_burn_5 : decode cX7_burn 5 = .ok (.istore_n 2, 1) := by decide +kernel
theorem dX7_burn_6 : decode cX7_burn 6 = .ok (.iload_n 2, 1) := by decide +kernel
theorem dX7_burn_7 : decode cX7_burn 7 = .ok (.iload_n 1, 1) := by decide +kernel
theorem dX7_burn_8 : decode cX7_burn 8 = .ok (.if_icmp .ge 20, 3) := by decide +kernel
theorem dX7_burn_11 : decode cX7_burn 11 = .ok (.aload_n 0, 1) := by decide +kernel
theorem dX7_burn_12 : decode cX7_burn 12 = .ok (.getfield 58, 3) := by decide +kernel
theorem dX7_burn_15 : decode cX7_burn 15 = .ok (.invokevirtual 234, 3) := by decide +kernel
theorem dX7_burn_18 : decode cX7_burn 18 = .ok (.aload_n 0, 1) := by decide +kernel
theorem dX7_burn_19 : decode cX7_burn 19 = .ok (.invokevirtual 237, 3) := by decide +kernel
theorem dX7_burn_22 : decode cX7_burn 22 = .ok (.iinc 2 1, 3) := by decide +kernel
theorem dX7_burn_25 : decode cX7_burn 25 = .ok (.goto (-19), 3) := by decide +kernel
theorem dX7_burn_28 : decode cX7_burn 28 = .ok (.aload_n 0, 1) := by decide +kernel
theorem dX7_burn_29 : decode cX7_burn 29 = .ok (.getfield 58, 3) := by decide +kernel
theorem dX7_burn_32 : decode cX7_burn 32 = .ok (.getfield 204, 3) := by decide +kernel
theorem dX7_burn_35 : decode cX7_burn 35 = .ok (.ireturn, 1) := by decide +kernel
theorem dX7_damper_0 : decode cX7_damper 0 = .ok (.iload_n 1, 1) := by decide +kernel
theorem dX7_damper_1 : decode cX7_damper 1 = .ok (.iconst 0, 1) := by decide +kernel
theorem dX7_damper_2 : decode cX7_damper 2 = .ok (.iconst 4, 1) := by decide +kernel
theorem dX7_damper_3 : decode cX7_damper 3 = .ok (.invokestatic 74, 3) := by decide +kernel
theorem dX7_damper_6 : decode cX7_damper 6 = .ok (.ifCond .ne 13, 3) := by decide +kernel
theorem dX7_damper_9 : decode cX7_damper 9 = .ok (.new 78, 3) := by decide +kernel
theorem dX7_damper_12 : decode cX7_damper 12 = .ok (.dup, 1) := by decide +kernel
theorem dX7_damper_13 : decode cX7_damper 13 = .ok (.ldc 240, 2) := by decide +kernel
theorem dX7_damper_15 : decode cX7_damper 15 = .ok (.invokespecial 82, 3) := by decide +kernel
theorem dX7_damper_18 : decode cX7_damper 18 = .ok (.athrow, 1) := by decide +kernel
theorem dX7_damper_19 : decode cX7_damper 19 = .ok (.aload_n 0, 1) := by decide +kernel
theorem dX7_damper_20 : decode cX7_damper 20 = .ok (.getfield 58, 3) := by decide +kernel
theorem dX7_damper_23 : decode cX7_damper 23 = .ok (.getfield 242, 3) := by decide +kernel
theorem dX7_damper_26 : decode cX7_damper 26 = .ok (.istore_n 2, 1) := by decide +kernel
theorem dX7_damper_27 : decode cX7_damper 27 = .ok (.aload_n 0, 1) := by decide +kernel
theorem dX7_damper_28 : decode cX7_damper 28 = .ok (.getfield 58, 3) := by decide +kernel
theorem dX7_damper_31 : decode cX7_damper 31 = .ok (.iload_n 1, 1) := by decide +kernel
theorem dX7_damper_32 : decode cX7_damper 32 = .ok (.putfield 242, 3) := by decide +kernel
theorem dX7_damper_35 : decode cX7_damper 35 = .ok (.iload_n 2, 1) := by decide +kernel
theorem dX7_damper_36 : decode cX7_damper 36 = .ok (.ireturn, 1) := by decide +kernel
theorem dX7_door_0 : decode cX7_door 0 = .ok (.aload_n 0, 1) := by decide +kernel
theorem dX7_door_1 : decode cX7_door 1 = .ok (.getfield 58, 3) := by decide +kernel
theorem dX7_door_4 : decode cX7_door 4 = .ok (.getfield 245, 3) := by decide +kernel
theorem dX7_door_7 : decode cX7_door 7 = .ok (.istore_n 2, 1) := by decide +kernel
theorem dX7_door_8 : decode cX7_door 8 = .ok (.aload_n 0, 1) := by decide +kernel
theorem dX7_door_9 : decode cX7_door 9 = .ok (.getfield 58, 3) := by decide +kernel
theorem dX7_door_12 : decode cX7_door 12 = .ok (.iload_n 1, 1) := by decide +kernel
theorem dX7_door_13 : decode cX7_door 13 = .ok (.putfield 245, 3) := by decide +kernel
theorem dX7_door_16 : decode cX7_door 16 = .ok (.iload_n 2, 1) := by decide +kernel
theorem dX7_door_17 : decode cX7_door 17 = .ok (.ireturn, 1) := by decide +kernel
theorem dX7_unload_0 : decode cX7_unload 0 = .ok (.aload_n 0, 1) := by decide +kernel
theorem dX7_unload_1 : decode cX7_unload 1 = .ok (.getfield 58, 3) := by decide +kernel
theorem dX7_unload_4 : decode cX7_unload 4 = .ok (.invokevirtual 161, 3) := by decide +kernel
theorem dX7_unload_7 : decode cX7_unload 7 = .ok (.ifCond .ne 13, 3) := by decide +kernel
theorem dX7_unload_10 : decode cX7_unload 10 = .ok (.new 85, 3) := by decide +kernel
theorem dX7_unload_13 : decode cX7_unload 13 = .ok (.dup, 1) := by decide +kernel
theorem dX7_unload_14 : decode cX7_unload 14 = .ok (.ldc 248, 2) := by decide +kernel
theorem dX7_unload_16 : decode cX7_unload 16 = .ok (.invokespecial 89, 3) := by decide +kernel
theorem dX7_unload_19 : decode cX7_unload 19 = .ok (.athrow, 1) := by decide +kernel
theorem dX7_unload_20 : decode cX7_unload 20 = .ok (.iconst 0, 1) := by decide +kernel
theorem dX7_unload_21 : decode cX7_unload 21 = .ok (.istore_n 1, 1) := by decide +kernel
theorem dX7_unload_22 : decode cX7_unload 22 = .ok (.aload_n 0, 1) := by decide +kernel
theorem dX7_unload_23 : decode cX7_unload 23 = .ok (.getfield 23, 3) := by decide +kernel
theorem dX7_unload_26 : decode cX7_unload 26 = .ok (.astore_n 2, 1) := by decide +kernel
theorem dX7_unload_27 : decode cX7_unload 27 = .ok (.aload_n 2, 1) := by decide +kernel
theorem dX7_unload_28 : decode cX7_unload 28 = .ok (.arraylength, 1) := by decide +kernel
theorem dX7_unload_29 : decode cX7_unload 29 = .ok (.istore_n 3, 1) := by decide +kernel
theorem dX7_unload_30 : decode cX7_unload 30 = .ok (.iconst 0, 1) := by decide +kernel
theorem dX7_unload_31 : decode cX7_unload 31 = .ok (.istore 4, 2) := by decide +kernel
theorem dX7_unload_33 : decode cX7_unload 33 = .ok (.iload 4, 2) := by decide +kernel
theorem dX7_unload_35 : decode cX7_unload 35 = .ok (.iload_n 3, 1) := by decide +kernel
theorem dX7_unload_36 : decode cX7_unload 36 = .ok (.if_icmp .ge 68, 3) := by decide +kernel
theorem dX7_unload_39 : decode cX7_unload 39 = .ok (.aload_n 2, 1) := by decide +kernel
theorem dX7_unload_40 : decode cX7_unload 40 = .ok (.iload 4, 2) := by decide +kernel
theorem dX7_unload_42 : decode cX7_unload 42 = .ok (.aaload, 1) := by decide +kernel
theorem dX7_unload_43 : decode cX7_unload 43 = .ok (.astore 5, 2) := by decide +kernel
theorem dX7_unload_45 : decode cX7_unload 45 = .ok (.aload 5, 2) := by decide +kernel
theorem dX7_unload_47 : decode cX7_unload 47 = .ok (.ifnull 51, 3) := by decide +kernel
theorem dX7_unload_50 : decode cX7_unload 50 = .ok (.aload 5, 2) := by decide +kernel
theorem dX7_unload_52 : decode cX7_unload 52 = .ok (.getfield 188, 3) := by decide +kernel
theorem dX7_unload_55 : decode cX7_unload 55 = .ok (.iconst (-1), 1) := by decide +kernel
theorem dX7_unload_56 : decode cX7_unload 56 = .ok (.if_icmp .eq 42, 3) := by decide +kernel
theorem dX7_unload_59 : decode cX7_unload 59 = .ok (.aload 5, 2) := by decide +kernel
theorem dX7_unload_61 : decode cX7_unload 61 = .ok (.aload_n 0, 1) := by decide +kernel
theorem dX7_unload_62 : decode cX7_unload 62 = .ok (.getfield 58, 3) := by decide +kernel
theorem dX7_unload_65 : decode cX7_unload 65 = .ok (.aload 5, 2) := by decide +kernel

theorem dX0_init_0 : decode cX0_init 0 = .ok (.aload_n 0, 1) := by decide +kernel
theorem dX0_init_1 : decode cX0_init 1 = .ok (.invokespecial 1, 3) := by decide +kernel
theorem dX0_init_4 : decode cX0_init 4 = .ok (.aload_n 0, 1) := by decide +kernel
theorem dX0_init_5 : decode cX0_init 5 = .ok (.iload_n 1, 1) := by decide +kernel
theorem dX0_init_6 : decode cX0_init 6 = .ok (.putfield 7, 3) := by decide +kernel
theorem dX0_init_9 : decode cX0_init 9 = .ok (.aload_n 0, 1) := by decide +kernel
theorem dX0_init_10 : decode cX0_init 10 = .ok (.iload_n 2, 1) := by decide +kernel
theorem dX0_init_11 : decode cX0_init 11 = .ok (.i2d, 1) := by decide +kernel
theorem dX0_init_12 : decode cX0_init 12 = .ok (.ldc2_w 13, 3) := by decide +kernel
theorem dX0_init_15 : decode cX0_init 15 = .ok (.ddiv, 1) := by decide +kernel
theorem dX0_init_16 : decode cX0_init 16 = .ok (.putfield 15, 3) := by decide +kernel
theorem dX0_init_19 : decode cX0_init 19 = .ok (.return_, 1) := by decide +kernel
theorem dX1_init_0 : decode cX1_init 0 = .ok (.aload_n 0, 1) := by decide +kernel
theorem dX1_init_1 : decode cX1_init 1 = .ok (.invokespecial 3, 3) := by decide +kernel
theorem dX1_init_4 : decode cX1_init 4 = .ok (.aload_n 0, 1) := by decide +kernel
theorem dX1_init_5 : decode cX1_init 5 = .ok (.iload_n 1, 1) := by decide +kernel
theorem dX1_init_6 : decode cX1_init 6 = .ok (.putfield 9, 3) := by decide +kernel
theorem dX1_init_9 : decode cX1_init 9 = .ok (.aload_n 0, 1) := by decide +kernel
theorem dX1_init_10 : decode cX1_init 10 = .ok (.iload 4, 2) := by decide +kernel
theorem dX1_init_12 : decode cX1_init 12 = .ok (.putfield 15, 3) := by decide +kernel
theorem dX1_init_15 : decode cX1_init 15 = .ok (.aload_n 0, 1) := by decide +kernel
theorem dX1_init_16 : decode cX1_init 16 = .ok (.iload 5, 2) := by decide +kernel
theorem dX1_init_18 : decode cX1_init 18 = .ok (.putfield 18, 3) := by decide +kernel
theorem dX1_init_21 : decode cX1_init 21 = .ok (.aload_n 0, 1) := by decide +kernel
theorem dX1_init_22 : decode cX1_init 22 = .ok (.iload 6, 2) := by decide +kernel
theorem dX1_init_24 : decode cX1_init 24 = .ok (.putfield 21, 3) := by decide +kernel
theorem dX1_init_27 : decode cX1_init 27 = .ok (.iload_n 2, 1) := by decide +kernel
theorem dX1_init_28 : decode cX1_init 28 = .ok (.iload_n 3, 1) := by decide +kernel
theorem dX1_init_29 : decode cX1_init 29 = .ok (.iadd, 1) := by decide +kernel
theorem dX1_init_30 : decode cX1_init 30 = .ok (.i2d, 1) := by decide +kernel
theorem dX1_init_31 : decode cX1_init 31 = .ok (.dstore 7, 2) := by decide +kernel
theorem dX1_init_33 : decode cX1_init 33 = .ok (.aload_n 0, 1) := by decide +kernel
theorem dX1_init_34 : decode cX1_init 34 = .ok (.bipush 12, 2) := by decide +kernel
theorem dX1_init_36 : decode cX1_init 36 = .ok (.ldc2_w 24, 3) := by decide +kernel
theorem dX1_init_39 : decode cX1_init 39 = .ok (.iload 4, 2) := by decide +kernel
theorem dX1_init_41 : decode cX1_init 41 = .ok (.i2d, 1) := by decide +kernel
theorem dX1_init_42 : decode cX1_init 42 = .ok (.dload 7, 2) := by decide +kernel
theorem dX1_init_44 : decode cX1_init 44 = .ok (.ddiv, 1) := by decide +kernel
theorem dX1_init_45 : decode cX1_init 45 = .ok (.dmul, 1) := by decide +kernel
theorem dX1_init_46 : decode cX1_init 46 = .ok (.ldc2_w 26, 3) := by decide +kernel
theorem dX1_init_49 : decode cX1_init 49 = .ok (.iload 5, 2) := by decide +kernel
theorem dX1_init_51 : decode cX1_init 51 = .ok (.i2d, 1) := by decide +kernel
theorem dX1_init_52 : decode cX1_init 52 = .ok (.dload 7, 2) := by decide +kernel
theorem dX1_init_54 : decode cX1_init 54 = .ok (.ddiv, 1) := by decide +kernel
theorem dX1_init_55 : decode cX1_init 55 = .ok (.dmul, 1) := by decide +kernel
theorem dX1_init_56 : decode cX1_init 56 = .ok (.dadd, 1) := by decide +kernel
theorem dX1_init_57 : decode cX1_init 57 = .ok (.invokestatic 28, 3) := by decide +kernel
theorem dX1_init_60 : decode cX1_init 60 = .ok (.invokestatic 32, 3) := by decide +kernel
theorem dX1_init_63 : decode cX1_init 63 = .ok (.putfield 38, 3) := by decide +kernel
theorem dX1_init_66 : decode cX1_init 66 = .ok (.iload_n 2, 1) := by decide +kernel
theorem dX1_init_67 : decode cX1_init 67 = .ok (.iload_n 3, 1) := by decide +kernel
theorem dX1_init_68 : decode cX1_init 68 = .ok (.iadd, 1) := by decide +kernel
theorem dX1_init_69 : decode cX1_init 69 = .ok (.iload 4, 2) := by decide +kernel
theorem dX1_init_71 : decode cX1_init 71 = .ok (.iadd, 1) := by decide +kernel
theorem dX1_init_72 : decode cX1_init 72 = .ok (.iload 5, 2) := by decide +kernel
theorem dX1_init_74 : decode cX1_init 74 = .ok (.iadd, 1) := by decide +kernel
theorem dX1_init_75 : decode cX1_init 75 = .ok (.i2d, 1) := by decide +kernel
theorem dX1_init_76 : decode cX1_init 76 = .ok (.dstore 9, 2) := by decide +kernel
theorem dX1_init_78 : decode cX1_init 78 = .ok (.aload_n 0, 1) := by decide +kernel
theorem dX1_init_79 : decode cX1_init 79 = .ok (.ldc2_w 41, 3) := by decide +kernel
theorem dX1_init_82 : decode cX1_init 82 = .ok (.iload_n 2, 1) := by decide +kernel
theorem dX1_init_83 : decode cX1_init 83 = .ok (.i2d, 1) := by decide +kernel
theorem dX1_init_84 : decode cX1_init 84 = .ok (.dmul, 1) := by decide +kernel
theorem dX1_init_85 : decode cX1_init 85 = .ok (.ldc2_w 43, 3) := by decide +kernel
theorem dX1_init_88 : decode cX1_init 88 = .ok (.iload_n 3, 1) := by decide +kernel
theorem dX1_init_89 : decode cX1_init 89 = .ok (.i2d, 1) := by decide +kernel
theorem dX1_init_90 : decode cX1_init 90 = .ok (.dmul, 1) := by decide +kernel
theorem dX1_init_91 : decode cX1_init 91 = .ok (.dadd, 1) := by decide +kernel
theorem dX1_init_92 : decode cX1_init 92 = .ok (.ldc2_w 45, 3) := by decide +kernel
theorem dX1_init_95 : decode cX1_init 95 = .ok (.iload 4, 2) := by decide +kernel
theorem dX1_init_97 : decode cX1_init 97 = .ok (.i2d, 1) := by decide +kernel
theorem dX1_init_98 : decode cX1_init 98 = .ok (.dmul, 1) := by decide +kernel
theorem dX1_init_99 : decode cX1_init 99 = .ok (.dadd, 1) := by decide +kernel
theorem dX1_init_100 : decode cX1_init 100 = .ok (.iload 5, 2) := by decide +kernel
theorem dX1_init_102 : decode cX1_init 102 = .ok (.i2d, 1) := by decide +kernel
theorem dX1_init_103 : decode cX1_init 103 = .ok (.dadd, 1) := by decide +kernel
theorem dX1_init_104 : decode cX1_init 104 = .ok (.dload 9, 2) := by decide +kernel
theorem dX1_init_106 : decode cX1_init 106 = .ok (.ddiv, 1) := by decide +kernel
theorem dX1_init_107 : decode cX1_init 107 = .ok (.putfield 47, 3) := by decide +kernel
theorem dX1_init_110 : decode cX1_init 110 = .ok (.return_, 1) := by decide +kernel
theorem dX1_rounded_0 : decode cX1_rounded 0 = .ok (.dload_n 0, 1) := by decide +kernel
theorem dX1_rounded_1 : decode cX1_rounded 1 = .ok (.d2i, 1) := by decide +kernel
theorem dX1_rounded_2 : decode cX1_rounded 2 = .ok (.istore_n 2, 1) := by decide +kernel
theorem dX1_rounded_3 : decode cX1_rounded 3 = .ok (.dload_n 0, 1) := by decide +kernel
theorem dX1_rounded_4 : decode cX1_rounded 4 = .ok (.iload_n 2, 1) := by decide +kernel
theorem dX1_rounded_5 : decode cX1_rounded 5 = .ok (.i2d, 1) := by decide +kernel
theorem dX1_rounded_6 : decode cX1_rounded 6 = .ok (.dsub, 1) := by decide +kernel
theorem dX1_rounded_7 : decode cX1_rounded 7 = .ok (.dstore_n 3, 1) := by decide +kernel
theorem dX1_rounded_8 : decode cX1_rounded 8 = .ok (.dload_n 3, 1) := by decide +kernel
theorem dX1_rounded_9 : decode cX1_rounded 9 = .ok (.ldc2_w 26, 3) := by decide +kernel
theorem dX1_rounded_12 : decode cX1_rounded 12 = .ok (.dcmp .l, 1) := by decide +kernel
theorem dX1_rounded_13 : decode cX1_rounded 13 = .ok (.ifCond .gt 17, 3) := by decide +kernel
theorem dX1_rounded_16 : decode cX1_rounded 16 = .ok (.dload_n 3, 1) := by decide +kernel
theorem dX1_rounded_17 : decode cX1_rounded 17 = .ok (.ldc2_w 26, 3) := by decide +kernel
theorem dX1_rounded_20 : decode cX1_rounded 20 = .ok (.dcmp .l, 1) := by decide +kernel
theorem dX1_rounded_21 : decode cX1_rounded 21 = .ok (.ifCond .ne 13, 3) := by decide +kernel
theorem dX1_rounded_24 : decode cX1_rounded 24 = .ok (.iload_n 2, 1) := by decide +kernel
theorem dX1_rounded_25 : decode cX1_rounded 25 = .ok (.iconst 2, 1) := by decide +kernel
theorem dX1_rounded_26 : decode cX1_rounded 26 = .ok (.irem, 1) := by decide +kernel
theorem dX1_rounded_27 : decode cX1_rounded 27 = .ok (.ifCond .eq 7, 3) := by decide +kernel
theorem dX1_rounded_30 : decode cX1_rounded 30 = .ok (.iconst 1, 1) := by decide +kernel
theorem dX1_rounded_31 : decode cX1_rounded 31 = .ok (.goto 4, 3) := by decide +kernel
theorem dX1_rounded_34 : decode cX1_rounded 34 = .ok (.iconst 0, 1) := by decide +kernel
theorem dX1_rounded_35 : decode cX1_rounded 35 = .ok (.istore 5, 2) := by decide +kernel
theorem dX1_rounded_37 : decode cX1_rounded 37 = .ok (.iload 5, 2) := by decide +kernel
theorem dX1_rounded_39 : decode cX1_rounded 39 = .ok (.ifCond .eq 9, 3) := by decide +kernel
theorem dX1_rounded_42 : decode cX1_rounded 42 = .ok (.iload_n 2, 1) := by decide +kernel
theorem dX1_rounded_43 : decode cX1_rounded 43 = .ok (.iconst 1, 1) := by decide +kernel
theorem dX1_rounded_44 : decode cX1_rounded 44 = .ok (.iadd, 1) := by decide +kernel
theorem dX1_rounded_45 : decode cX1_rounded 45 = .ok (.goto 4, 3) := by decide +kernel
theorem dX1_rounded_48 : decode cX1_rounded 48 = .ok (.iload_n 2, 1) := by decide +kernel
theorem dX1_rounded_49 : decode cX1_rounded 49 = .ok (.ireturn, 1) := by decide +kernel
theorem dX1_silicaToAlumina_0 : decode cX1_silicaToAlumina 0 = .ok (.aload_n 0, 1) := by decide +kernel
theorem dX1_silicaToAlumina_1 : decode cX1_silicaToAlumina 1 = .ok (.getfield 15, 3) := by decide +kernel
theorem dX1_silicaToAlumina_4 : decode cX1_silicaToAlumina 4 = .ok (.ifCond .ne 9, 3) := by decide +kernel
theorem dX1_silicaToAlumina_7 : decode cX1_silicaToAlumina 7 = .ok (.ldc2_w 51, 3) := by decide +kernel
theorem dX1_silicaToAlumina_10 : decode cX1_silicaToAlumina 10 = .ok (.goto 14, 3) := by decide +kernel
theorem dX1_silicaToAlumina_13 : decode cX1_silicaToAlumina 13 = .ok (.aload_n 0, 1) := by decide +kernel
theorem dX1_silicaToAlumina_14 : decode cX1_silicaToAlumina 14 = .ok (.getfield 18, 3) := by decide +kernel
theorem dX1_silicaToAlumina_17 : decode cX1_silicaToAlumina 17 = .ok (.i2d, 1) := by decide +kernel
theorem dX1_silicaToAlumina_18 : decode cX1_silicaToAlumina 18 = .ok (.aload_n 0, 1) := by decide +kernel
theorem dX1_silicaToAlumina_19 : decode cX1_silicaToAlumina 19 = .ok (.getfield 15, 3) := by decide +kernel
theorem dX1_silicaToAlumina_22 : decode cX1_silicaToAlumina 22 = .ok (.i2d, 1) := by decide +kernel
theorem dX1_silicaToAlumina_23 : decode cX1_silicaToAlumina 23 = .ok (.ddiv, 1) := by decide +kernel
theorem dX1_silicaToAlumina_24 : decode cX1_silicaToAlumina 24 = .ok (.dreturn, 1) := by decide +kernel
theorem dX1_marksOn_0 : decode cX1_marksOn 0 = .ok (.iconst 0, 1) := by decide +kernel
theorem dX1_marksOn_1 : decode cX1_marksOn 1 = .ok (.istore_n 3, 1) := by decide +kernel
theorem dX1_marksOn_2 : decode cX1_marksOn 2 = .ok (.iload_n 3, 1) := by decide +kernel
theorem dX1_marksOn_3 : decode cX1_marksOn 3 = .ok (.iload_n 2, 1) := by decide +kernel
theorem dX1_marksOn_4 : decode cX1_marksOn 4 = .ok (.aload_n 0, 1) := by decide +kernel
theorem dX1_marksOn_5 : decode cX1_marksOn 5 = .ok (.getfield 38, 3) := by decide +kernel
theorem dX1_marksOn_8 : decode cX1_marksOn 8 = .ok (.if_icmp .ge 8, 3) := by decide +kernel
theorem dX1_marksOn_11 : decode cX1_marksOn 11 = .ok (.bipush 8, 2) := by decide +kernel
theorem dX1_marksOn_13 : decode cX1_marksOn 13 = .ok (.goto 4, 3) := by decide +kernel
theorem dX1_marksOn_16 : decode cX1_marksOn 16 = .ok (.iconst 0, 1) := by decide +kernel
theorem dX1_marksOn_17 : decode cX1_marksOn 17 = .ok (.ior, 1) := by decide +kernel
theorem dX1_marksOn_18 : decode cX1_marksOn 18 = .ok (.istore_n 3, 1) := by decide +kernel
theorem dX1_marksOn_19 : decode cX1_marksOn 19 = .ok (.iload_n 3, 1) := by decide +kernel
theorem dX1_marksOn_20 : decode cX1_marksOn 20 = .ok (.iload_n 2, 1) := by decide +kernel
theorem dX1_marksOn_21 : decode cX1_marksOn 21 = .ok (.aload_n 0, 1) := by decide +kernel
theorem dX1_marksOn_22 : decode cX1_marksOn 22 = .ok (.getfield 38, 3) := by decide +kernel
theorem dX1_marksOn_25 : decode cX1_marksOn 25 = .ok (.iconst 2, 1) := by decide +kernel
theorem dX1_marksOn_26 : decode cX1_marksOn 26 = .ok (.iadd, 1) := by decide +kernel
theorem dX1_marksOn_27 : decode cX1_marksOn 27 = .ok (.if_icmp .le 8, 3) := by decide +kernel
theorem dX1_marksOn_30 : decode cX1_marksOn 30 = .ok (.bipush 16, 2) := by decide +kernel
theorem dX1_marksOn_32 : decode cX1_marksOn 32 = .ok (.goto 4, 3) := by decide +kernel
theorem dX1_marksOn_35 : decode cX1_marksOn 35 = .ok (.iconst 0, 1) := by decide +kernel
theorem dX1_marksOn_36 : decode cX1_marksOn 36 = .ok (.ior, 1) := by decide +kernel
theorem dX1_marksOn_37 : decode cX1_marksOn 37 = .ok (.istore_n 3, 1) := by decide +kernel
theorem dX1_marksOn_38 : decode cX1_marksOn 38 = .ok (.iload_n 3, 1) := by decide +kernel
theorem dX1_marksOn_39 : decode cX1_marksOn 39 = .ok (.aload_n 0, 1) := by decide +kernel
theorem dX1_marksOn_40 : decode cX1_marksOn 40 = .ok (.getfield 47, 3) := by decide +kernel
theorem dX1_marksOn_43 : decode cX1_marksOn 43 = .ok (.aload_n 1, 1) := by decide +kernel
theorem dX1_marksOn_44 : decode cX1_marksOn 44 = .ok (.getfield 53, 3) := by decide +kernel
theorem dX1_marksOn_47 : decode cX1_marksOn 47 = .ok (.dsub, 1) := by decide +kernel
theorem dX1_marksOn_48 : decode cX1_marksOn 48 = .ok (.ldc2_w 45, 3) := by decide +kernel
theorem dX1_marksOn_51 : decode cX1_marksOn 51 = .ok (.dcmp .l, 1) := by decide +kernel
theorem dX1_marksOn_52 : decode cX1_marksOn 52 = .ok (.ifCond .le 8, 3) := by decide +kernel
theorem dX1_marksOn_55 : decode cX1_marksOn 55 = .ok (.bipush 32, 2) := by decide +kernel
theorem dX1_marksOn_57 : decode cX1_marksOn 57 = .ok (.goto 4, 3) := by decide +kernel
theorem dX1_marksOn_60 : decode cX1_marksOn 60 = .ok (.iconst 0, 1) := by decide +kernel
theorem dX1_marksOn_61 : decode cX1_marksOn 61 = .ok (.ior, 1) := by decide +kernel
theorem dX1_marksOn_62 : decode cX1_marksOn 62 = .ok (.istore_n 3, 1) := by decide +kernel
theorem dX1_marksOn_63 : decode cX1_marksOn 63 = .ok (.iload_n 3, 1) := by decide +kernel
theorem dX1_marksOn_64 : decode cX1_marksOn 64 = .ok (.aload_n 1, 1) := by decide +kernel
theorem dX1_marksOn_65 : decode cX1_marksOn 65 = .ok (.getfield 53, 3) := by decide +kernel
theorem dX1_marksOn_68 : decode cX1_marksOn 68 = .ok (.aload_n 0, 1) := by decide +kernel
theorem dX1_marksOn_69 : decode cX1_marksOn 69 = .ok (.getfield 47, 3) := by decide +kernel
theorem dX1_marksOn_72 : decode cX1_marksOn 72 = .ok (.dsub, 1) := by decide +kernel
theorem dX1_marksOn_73 : decode cX1_marksOn 73 = .ok (.ldc2_w 45, 3) := by decide +kernel
theorem dX1_marksOn_76 : decode cX1_marksOn 76 = .ok (.dcmp .l, 1) := by decide +kernel
theorem dX1_marksOn_77 : decode cX1_marksOn 77 = .ok (.ifCond .le 8, 3) := by decide +kernel
theorem dX1_marksOn_80 : decode cX1_marksOn 80 = .ok (.bipush 64, 2) := by decide +kernel
theorem dX1_marksOn_82 : decode cX1_marksOn 82 = .ok (.goto 4, 3) := by decide +kernel
theorem dX1_marksOn_85 : decode cX1_marksOn 85 = .ok (.iconst 0, 1) := by decide +kernel
theorem dX1_marksOn_86 : decode cX1_marksOn 86 = .ok (.ior, 1) := by decide +kernel
theorem dX1_marksOn_87 : decode cX1_marksOn 87 = .ok (.istore_n 3, 1) := by decide +kernel
theorem dX1_marksOn_88 : decode cX1_marksOn 88 = .ok (.iload_n 3, 1) := by decide +kernel
theorem dX1_marksOn_89 : decode cX1_marksOn 89 = .ok (.ireturn, 1) := by decide +kernel
theorem dX1_distanceTo_0 : decode cX1_distanceTo 0 = .ok (.aload_n 0, 1) := by decide +kernel
theorem dX1_distanceTo_1 : decode cX1_distanceTo 1 = .ok (.getfield 47, 3) := by decide +kernel
theorem dX1_distanceTo_4 : decode cX1_distanceTo 4 = .ok (.aload_n 1, 1) := by decide +kernel
theorem dX1_distanceTo_5 : decode cX1_distanceTo 5 = .ok (.getfield 53, 3) := by decide +kernel
theorem dX1_distanceTo_8 : decode cX1_distanceTo 8 = .ok (.dsub, 1) := by decide +kernel
theorem dX1_distanceTo_9 : decode cX1_distanceTo 9 = .ok (.dstore_n 2, 1) := by decide +kernel
theorem dX1_distanceTo_10 : decode cX1_distanceTo 10 = .ok (.dload_n 2, 1) := by decide +kernel
theorem dX1_distanceTo_11 : decode cX1_distanceTo 11 = .ok (.dconst 0, 1) := by decide +kernel
theorem dX1_distanceTo_12 : decode cX1_distanceTo 12 = .ok (.dcmp .g, 1) := by decide +kernel
theorem dX1_distanceTo_13 : decode cX1_distanceTo 13 = .ok (.ifCond .ge 8, 3) := by decide +kernel
theorem dX1_distanceTo_16 : decode cX1_distanceTo 16 = .ok (.dload_n 2, 1) := by decide +kernel
theorem dX1_distanceTo_17 : decode cX1_distanceTo 17 = .ok (.dneg, 1) := by decide +kernel
theorem dX1_distanceTo_18 : decode cX1_distanceTo 18 = .ok (.goto 4, 3) := by decide +kernel
theorem dX1_distanceTo_21 : decode cX1_distanceTo 21 = .ok (.dload_n 2, 1) := by decide +kernel
theorem dX1_distanceTo_22 : decode cX1_distanceTo 22 = .ok (.dreturn, 1) := by decide +kernel
theorem dX2_init_0 : decode cX2_init 0 = .ok (.aload_n 0, 1) := by decide +kernel
theorem dX2_init_1 : decode cX2_init 1 = .ok (.invokespecial 3, 3) := by decide +kernel
theorem dX2_init_4 : decode cX2_init 4 = .ok (.aload_n 0, 1) := by decide +kernel
theorem dX2_init_5 : decode cX2_init 5 = .ok (.ldc2_w 9, 3) := by decide +kernel
theorem dX2_init_8 : decode cX2_init 8 = .ok (.putfield 11, 3) := by decide +kernel
theorem dX2_init_11 : decode cX2_init 11 = .ok (.aload_n 0, 1) := by decide +kernel
theorem dX2_init_12 : decode cX2_init 12 = .ok (.ldc2_w 9, 3) := by decide +kernel
theorem dX2_init_15 : decode cX2_init 15 = .ok (.putfield 17, 3) := by decide +kernel
theorem dX2_init_18 : decode cX2_init 18 = .ok (.aload_n 0, 1) := by decide +kernel
theorem dX2_init_19 : decode cX2_init 19 = .ok (.fconst 1, 1) := by decide +kernel
theorem dX2_init_20 : decode cX2_init 20 = .ok (.putfield 20, 3) := by decide +kernel
theorem dX2_init_23 : decode cX2_init 23 = .ok (.aload_n 0, 1) := by decide +kernel
theorem dX2_init_24 : decode cX2_init 24 = .ok (.iconst 0, 1) := by decide +kernel
theorem dX2_init_25 : decode cX2_init 25 = .ok (.putfield 24, 3) := by decide +kernel
theorem dX2_init_28 : decode cX2_init 28 = .ok (.aload_n 0, 1) := by decide +kernel
theorem dX2_init_29 : decode cX2_init 29 = .ok (.iconst 0, 1) := by decide +kernel
theorem dX2_init_30 : decode cX2_init 30 = .ok (.putfield 28, 3) := by decide +kernel
theorem dX2_init_33 : decode cX2_init 33 = .ok (.aload_n 0, 1) := by decide +kernel
theorem dX2_init_34 : decode cX2_init 34 = .ok (.iconst 0, 1) := by decide +kernel
theorem dX2_init_35 : decode cX2_init 35 = .ok (.putfield 32, 3) := by decide +kernel
theorem dX2_init_38 : decode cX2_init 38 = .ok (.aload_n 0, 1) := by decide +kernel
theorem dX2_init_39 : decode cX2_init 39 = .ok (.iconst 0, 1) := by decide +kernel
theorem dX2_init_40 : decode cX2_init 40 = .ok (.putfield 35, 3) := by decide +kernel
theorem dX2_init_43 : decode cX2_init 43 = .ok (.aload_n 0, 1) := by decide +kernel
theorem dX2_init_44 : decode cX2_init 44 = .ok (.iconst 0, 1) := by decide +kernel
theorem dX2_init_45 : decode cX2_init 45 = .ok (.putfield 38, 3) := by decide +kernel
theorem dX2_init_48 : decode cX2_init 48 = .ok (.aload_n 0, 1) := by decide +kernel
theorem dX2_init_49 : decode cX2_init 49 = .ok (.iconst 0, 1) := by decide +kernel
theorem dX2_init_50 : decode cX2_init 50 = .ok (.putfield 41, 3) := by decide +kernel
theorem dX2_init_53 : decode cX2_init 53 = .ok (.aload_n 0, 1) := by decide +kernel
theorem dX2_init_54 : decode cX2_init 54 = .ok (.iconst 0, 1) := by decide +kernel
theorem dX2_init_55 : decode cX2_init 55 = .ok (.putfield 44, 3) := by decide +kernel
theorem dX2_init_58 : decode cX2_init 58 = .ok (.aload_n 0, 1) := by decide +kernel
theorem dX2_init_59 : decode cX2_init 59 = .ok (.iconst 0, 1) := by decide +kernel
theorem dX2_init_60 : decode cX2_init 60 = .ok (.putfield 47, 3) := by decide +kernel
theorem dX2_init_63 : decode cX2_init 63 = .ok (.aload_n 0, 1) := by decide +kernel
theorem dX2_init_64 : decode cX2_init 64 = .ok (.iconst 3, 1) := by decide +kernel
theorem dX2_init_65 : decode cX2_init 65 = .ok (.newarray .double, 2) := by decide +kernel
theorem dX2_init_67 : decode cX2_init 67 = .ok (.putfield 50, 3) := by decide +kernel
theorem dX2_init_70 : decode cX2_init 70 = .ok (.aload_n 0, 1) := by decide +kernel
theorem dX2_init_71 : decode cX2_init 71 = .ok (.aload_n 1, 1) := by decide +kernel
theorem dX2_init_72 : decode cX2_init 72 = .ok (.putfield 54, 3) := by decide +kernel
theorem dX2_init_75 : decode cX2_init 75 = .ok (.return_, 1) := by decide +kernel
theorem dX2_becomeLike_0 : decode cX2_becomeLike 0 = .ok (.aload_n 0, 1) := by decide +kernel
theorem dX2_becomeLike_1 : decode cX2_becomeLike 1 = .ok (.aload_n 1, 1) := by decide +kernel
theorem dX2_becomeLike_2 : decode cX2_becomeLike 2 = .ok (.getfield 11, 3) := by decide +kernel
theorem dX2_becomeLike_5 : decode cX2_becomeLike 5 = .ok (.putfield 11, 3) := by decide +kernel
theorem dX2_becomeLike_8 : decode cX2_becomeLike 8 = .ok (.aload_n 0, 1) := by decide +kernel
theorem dX2_becomeLike_9 : decode cX2_becomeLike 9 = .ok (.aload_n 1, 1) := by decide +kernel
theorem dX2_becomeLike_10 : decode cX2_becomeLike 10 = .ok (.getfield 20, 3) := by decide +kernel
theorem dX2_becomeLike_13 : decode cX2_becomeLike 13 = .ok (.putfield 20, 3) := by decide +kernel
theorem dX2_becomeLike_16 : decode cX2_becomeLike 16 = .ok (.aload_n 0, 1) := by decide +kernel
theorem dX2_becomeLike_17 : decode cX2_becomeLike 17 = .ok (.aload_n 1, 1) := by decide +kernel
theorem dX2_becomeLike_18 : decode cX2_becomeLike 18 = .ok (.getfield 28, 3) := by decide +kernel
theorem dX2_becomeLike_21 : decode cX2_becomeLike 21 = .ok (.putfield 28, 3) := by decide +kernel
theorem dX2_becomeLike_24 : decode cX2_becomeLike 24 = .ok (.aload_n 0, 1) := by decide +kernel
theorem dX2_becomeLike_25 : decode cX2_becomeLike 25 = .ok (.aload_n 1, 1) := by decide +kernel
theorem dX2_becomeLike_26 : decode cX2_becomeLike 26 = .ok (.getfield 32, 3) := by decide +kernel
theorem dX2_becomeLike_29 : decode cX2_becomeLike 29 = .ok (.putfield 32, 3) := by decide +kernel
theorem dX2_becomeLike_32 : decode cX2_becomeLike 32 = .ok (.aload_n 0, 1) := by decide +kernel
theorem dX2_becomeLike_33 : decode cX2_becomeLike 33 = .ok (.aload_n 1, 1) := by decide +kernel
theorem dX2_becomeLike_34 : decode cX2_becomeLike 34 = .ok (.getfield 35, 3) := by decide +kernel
theorem dX2_becomeLike_37 : decode cX2_becomeLike 37 = .ok (.putfield 35, 3) := by decide +kernel
theorem dX2_becomeLike_40 : decode cX2_becomeLike 40 = .ok (.aload_n 0, 1) := by decide +kernel
theorem dX2_becomeLike_41 : decode cX2_becomeLike 41 = .ok (.aload_n 1, 1) := by decide +kernel
theorem dX2_becomeLike_42 : decode cX2_becomeLike 42 = .ok (.getfield 38, 3) := by decide +kernel
theorem dX2_becomeLike_45 : decode cX2_becomeLike 45 = .ok (.putfield 38, 3) := by decide +kernel
theorem dX2_becomeLike_48 : decode cX2_becomeLike 48 = .ok (.iconst 0, 1) := by decide +kernel
theorem dX2_becomeLike_49 : decode cX2_becomeLike 49 = .ok (.istore_n 2, 1) := by decide +kernel
theorem dX2_becomeLike_50 : decode cX2_becomeLike 50 = .ok (.iload_n 2, 1) := by decide +kernel
theorem dX2_becomeLike_51 : decode cX2_becomeLike 51 = .ok (.aload_n 0, 1) := by decide +kernel
theorem dX2_becomeLike_52 : decode cX2_becomeLike 52 = .ok (.getfield 50, 3) := by decide +kernel
theorem dX2_becomeLike_55 : decode cX2_becomeLike 55 = .ok (.arraylength, 1) := by decide +kernel
theorem dX2_becomeLike_56 : decode cX2_becomeLike 56 = .ok (.if_icmp .ge 20, 3) := by decide +kernel
theorem dX2_becomeLike_59 : decode cX2_becomeLike 59 = .ok (.aload_n 0, 1) := by decide +kernel
theorem dX2_becomeLike_60 : decode cX2_becomeLike 60 = .ok (.getfield 50, 3) := by decide +kernel
theorem dX2_becomeLike_63 : decode cX2_becomeLike 63 = .ok (.iload_n 2, 1) := by decide +kernel
theorem dX2_becomeLike_64 : decode cX2_becomeLike 64 = .ok (.aload_n 1, 1) := by decide +kernel
theorem dX2_becomeLike_65 : decode cX2_becomeLike 65 = .ok (.iload_n 2, 1) := by decide +kernel
theorem dX2_becomeLike_66 : decode cX2_becomeLike 66 = .ok (.invokevirtual 58, 3) := by decide +kernel
theorem dX2_becomeLike_69 : decode cX2_becomeLike 69 = .ok (.dastore, 1) := by decide +kernel
theorem dX2_becomeLike_70 : decode cX2_becomeLike 70 = .ok (.iinc 2 1, 3) := by decide +kernel
theorem dX2_becomeLike_73 : decode cX2_becomeLike 73 = .ok (.goto (-23), 3) := by decide +kernel
theorem dX2_becomeLike_76 : decode cX2_becomeLike 76 = .ok (.return_, 1) := by decide +kernel
theorem dX2_hotAt_0 : decode cX2_hotAt 0 = .ok (.iload_n 0, 1) := by decide +kernel
theorem dX2_hotAt_1 : decode cX2_hotAt 1 = .ok (.ifCond .ne 9, 3) := by decide +kernel
theorem dX2_hotAt_4 : decode cX2_hotAt 4 = .ok (.dload_n 1, 1) := by decide +kernel
theorem dX2_hotAt_5 : decode cX2_hotAt 5 = .ok (.ldc2_w 62, 3) := by decide +kernel
theorem dX2_hotAt_8 : decode cX2_hotAt 8 = .ok (.dsub, 1) := by decide +kernel
theorem dX2_hotAt_9 : decode cX2_hotAt 9 = .ok (.dreturn, 1) := by decide +kernel
theorem dX2_hotAt_10 : decode cX2_hotAt 10 = .ok (.iload_n 0, 1) := by decide +kernel
theorem dX2_hotAt_11 : decode cX2_hotAt 11 = .ok (.iconst 1, 1) := by decide +kernel
theorem dX2_hotAt_12 : decode cX2_hotAt 12 = .ok (.if_icmp .ne 7, 3) := by decide +kernel
theorem dX2_hotAt_15 : decode cX2_hotAt 15 = .ok (.dload_n 1, 1) := by decide +kernel
theorem dX2_hotAt_16 : decode cX2_hotAt 16 = .ok (.goto 8, 3) := by decide +kernel
theorem dX2_hotAt_19 : decode cX2_hotAt 19 = .ok (.dload_n 1, 1) := by decide +kernel
theorem dX2_hotAt_20 : decode cX2_hotAt 20 = .ok (.ldc2_w 64, 3) := by decide +kernel
theorem dX2_hotAt_23 : decode cX2_hotAt 23 = .ok (.dadd, 1) := by decide +kernel
theorem dX2_hotAt_24 : decode cX2_hotAt 24 = .ok (.dreturn, 1) := by decide +kernel
theorem dX2_isInReach_0 : decode cX2_isInReach 0 = .ok (.aload_n 0, 1) := by decide +kernel
theorem dX2_isInReach_1 : decode cX2_isInReach 1 = .ok (.getfield 32, 3) := by decide +kernel
theorem dX2_isInReach_4 : decode cX2_isInReach 4 = .ok (.ifCond .ne 18, 3) := by decide +kernel
theorem dX2_isInReach_7 : decode cX2_isInReach 7 = .ok (.aload_n 0, 1) := by decide +kernel
theorem dX2_isInReach_8 : decode cX2_isInReach 8 = .ok (.getfield 11, 3) := by decide +kernel
theorem dX2_isInReach_11 : decode cX2_isInReach 11 = .ok (.ldc2_w 66, 3) := by decide +kernel
theorem dX2_isInReach_14 : decode cX2_isInReach 14 = .ok (.dcmp .g, 1) := by decide +kernel
theorem dX2_isInReach_15 : decode cX2_isInReach 15 = .ok (.ifCond .ge 7, 3) := by decide +kernel
theorem dX2_isInReach_18 : decode cX2_isInReach 18 = .ok (.iconst 1, 1) := by decide +kernel
theorem dX2_isInReach_19 : decode cX2_isInReach 19 = .ok (.goto 4, 3) := by decide +kernel
theorem dX2_isInReach_22 : decode cX2_isInReach 22 = .ok (.iconst 0, 1) := by decide +kernel
theorem dX2_isInReach_23 : decode cX2_isInReach 23 = .ok (.ireturn, 1) := by decide +kernel
theorem dX2_gives_0 : decode cX2_gives 0 = .ok (.aload_n 0, 1) := by decide +kernel
theorem dX2_gives_1 : decode cX2_gives 1 = .ok (.getfield 20, 3) := by decide +kernel
theorem dX2_gives_4 : decode cX2_gives 4 = .ok (.f2d, 1) := by decide +kernel
theorem dX2_gives_5 : decode cX2_gives 5 = .ok (.ldc2_w 68, 3) := by decide +kernel
theorem dX2_gives_8 : decode cX2_gives 8 = .ok (.dmul, 1) := by decide +kernel
theorem dX2_gives_9 : decode cX2_gives 9 = .ok (.aload_n 0, 1) := by decide +kernel
theorem dX2_gives_10 : decode cX2_gives 10 = .ok (.getfield 11, 3) := by decide +kernel
theorem dX2_gives_13 : decode cX2_gives 13 = .ok (.ldc2_w 9, 3) := by decide +kernel
theorem dX2_gives_16 : decode cX2_gives 16 = .ok (.dsub, 1) := by decide +kernel
theorem dX2_gives_17 : decode cX2_gives 17 = .ok (.ldc2_w 70, 3) := by decide +kernel
theorem dX2_gives_20 : decode cX2_gives 20 = .ok (.ddiv, 1) := by decide +kernel
theorem dX2_gives_21 : decode cX2_gives 21 = .ok (.dsub, 1) := by decide +kernel
theorem dX2_gives_22 : decode cX2_gives 22 = .ok (.dstore_n 1, 1) := by decide +kernel
theorem dX2_gives_23 : decode cX2_gives 23 = .ok (.aload_n 0, 1) := by decide +kernel
theorem dX2_gives_24 : decode cX2_gives 24 = .ok (.getfield 28, 3) := by decide +kernel
theorem dX2_gives_27 : decode cX2_gives 27 = .ok (.ifCond .eq 11, 3) := by decide +kernel
theorem dX2_gives_30 : decode cX2_gives 30 = .ok (.dload_n 1, 1) := by decide +kernel
theorem dX2_gives_31 : decode cX2_gives 31 = .ok (.ldc2_w 72, 3) := by decide +kernel
theorem dX2_gives_34 : decode cX2_gives 34 = .ok (.dsub, 1) := by decide +kernel
theorem dX2_gives_35 : decode cX2_gives 35 = .ok (.goto 4, 3) := by decide +kernel
theorem dX2_gives_38 : decode cX2_gives 38 = .ok (.dload_n 1, 1) := by decide +kernel
theorem dX2_gives_39 : decode cX2_gives 39 = .ok (.dreturn, 1) := by decide +kernel
theorem dX2_workOf_0 : decode cX2_workOf 0 = .ok (.iload_n 1, 1) := by decide +kernel
theorem dX2_workOf_1 : decode cX2_workOf 1 = .ok (.ifCond .lt 21, 3) := by decide +kernel
theorem dX2_workOf_4 : decode cX2_workOf 4 = .ok (.iload_n 1, 1) := by decide +kernel
theorem dX2_workOf_5 : decode cX2_workOf 5 = .ok (.aload_n 0, 1) := by decide +kernel
theorem dX2_workOf_6 : decode cX2_workOf 6 = .ok (.getfield 50, 3) := by decide +kernel
theorem dX2_workOf_9 : decode cX2_workOf 9 = .ok (.arraylength, 1) := by decide +kernel
theorem dX2_workOf_10 : decode cX2_workOf 10 = .ok (.if_icmp .ge 12, 3) := by decide +kernel
theorem dX2_workOf_13 : decode cX2_workOf 13 = .ok (.aload_n 0, 1) := by decide +kernel
theorem dX2_workOf_14 : decode cX2_workOf 14 = .ok (.getfield 50, 3) := by decide +kernel
theorem dX2_workOf_17 : decode cX2_workOf 17 = .ok (.iload_n 1, 1) := by decide +kernel
theorem dX2_workOf_18 : decode cX2_workOf 18 = .ok (.daload, 1) := by decide +kernel
theorem dX2_workOf_19 : decode cX2_workOf 19 = .ok (.goto 4, 3) := by decide +kernel
theorem dX2_workOf_22 : decode cX2_workOf 22 = .ok (.dconst 0, 1) := by decide +kernel
theorem dX2_workOf_23 : decode cX2_workOf 23 = .ok (.dreturn, 1) := by decide +kernel
theorem dX2_coneOf_0 : decode cX2_coneOf 0 = .ok (.aload_n 0, 1) := by decide +kernel
theorem dX2_coneOf_1 : decode cX2_coneOf 1 = .ok (.iload_n 1, 1) := by decide +kernel
theorem dX2_coneOf_2 : decode cX2_coneOf 2 = .ok (.invokevirtual 58, 3) := by decide +kernel
theorem dX2_coneOf_5 : decode cX2_coneOf 5 = .ok (.dstore_n 2, 1) := by decide +kernel
theorem dX2_coneOf_6 : decode cX2_coneOf 6 = .ok (.iconst 0, 1) := by decide +kernel
theorem dX2_coneOf_7 : decode cX2_coneOf 7 = .ok (.istore 4, 2) := by decide +kernel
theorem dX2_coneOf_9 : decode cX2_coneOf 9 = .ok (.getstatic 74, 3) := by decide +kernel
theorem dX2_coneOf_12 : decode cX2_coneOf 12 = .ok (.astore 5, 2) := by decide +kernel
theorem dX2_coneOf_14 : decode cX2_coneOf 14 = .ok (.aload 5, 2) := by decide +kernel
theorem dX2_coneOf_16 : decode cX2_coneOf 16 = .ok (.arraylength, 1) := by decide +kernel
theorem dX2_coneOf_17 : decode cX2_coneOf 17 = .ok (.istore 6, 2) := by decide +kernel
theorem dX2_coneOf_19 : decode cX2_coneOf 19 = .ok (.iconst 0, 1) := by decide +kernel
theorem dX2_coneOf_20 : decode cX2_coneOf 20 = .ok (.istore 7, 2) := by decide +kernel
theorem dX2_coneOf_22 : decode cX2_coneOf 22 = .ok (.iload 7, 2) := by decide +kernel
theorem dX2_coneOf_24 : decode cX2_coneOf 24 = .ok (.iload 6, 2) := by decide +kernel
theorem dX2_coneOf_26 : decode cX2_coneOf 26 = .ok (.if_icmp .ge 34, 3) := by decide +kernel
theorem dX2_coneOf_29 : decode cX2_coneOf 29 = .ok (.aload 5, 2) := by decide +kernel
theorem dX2_coneOf_31 : decode cX2_coneOf 31 = .ok (.iload 7, 2) := by decide +kernel
theorem dX2_coneOf_33 : decode cX2_coneOf 33 = .ok (.iaload, 1) := by decide +kernel
theorem dX2_coneOf_34 : decode cX2_coneOf 34 = .ok (.istore 8, 2) := by decide +kernel
theorem dX2_coneOf_36 : decode cX2_coneOf 36 = .ok (.iload 4, 2) := by decide +kernel
theorem dX2_coneOf_38 : decode cX2_coneOf 38 = .ok (.dload_n 2, 1) := by decide +kernel
theorem dX2_coneOf_39 : decode cX2_coneOf 39 = .ok (.iload 8, 2) := by decide +kernel
theorem dX2_coneOf_41 : decode cX2_coneOf 41 = .ok (.i2d, 1) := by decide +kernel
theorem dX2_coneOf_42 : decode cX2_coneOf 42 = .ok (.dcmp .l, 1) := by decide +kernel
theorem dX2_coneOf_43 : decode cX2_coneOf 43 = .ok (.ifCond .lt 7, 3) := by decide +kernel
theorem dX2_coneOf_46 : decode cX2_coneOf 46 = .ok (.iconst 1, 1) := by decide +kernel
theorem dX2_coneOf_47 : decode cX2_coneOf 47 = .ok (.goto 4, 3) := by decide +kernel
theorem dX2_coneOf_50 : decode cX2_coneOf 50 = .ok (.iconst 0, 1) := by decide +kernel
theorem dX2_coneOf_51 : decode cX2_coneOf 51 = .ok (.iadd, 1) := by decide +kernel
theorem dX2_coneOf_52 : decode cX2_coneOf 52 = .ok (.istore 4, 2) := by decide +kernel
theorem dX2_coneOf_54 : decode cX2_coneOf 54 = .ok (.iinc 7 1, 3) := by decide +kernel
theorem dX2_coneOf_57 : decode cX2_coneOf 57 = .ok (.goto (-35), 3) := by decide +kernel
theorem dX2_coneOf_60 : decode cX2_coneOf 60 = .ok (.iload 4, 2) := by decide +kernel
theorem dX2_coneOf_62 : decode cX2_coneOf 62 = .ok (.ireturn, 1) := by decide +kernel
theorem dX2_kindle_0 : decode cX2_kindle 0 = .ok (.aload_n 0, 1) := by decide +kernel
theorem dX2_kindle_1 : decode cX2_kindle 1 = .ok (.iconst 1, 1) := by decide +kernel
theorem dX2_kindle_2 : decode cX2_kindle 2 = .ok (.putfield 32, 3) := by decide +kernel
theorem dX2_kindle_5 : decode cX2_kindle 5 = .ok (.aload_n 0, 1) := by decide +kernel
theorem dX2_kindle_6 : decode cX2_kindle 6 = .ok (.iconst 0, 1) := by decide +kernel
theorem dX2_kindle_7 : decode cX2_kindle 7 = .ok (.putfield 35, 3) := by decide +kernel
theorem dX2_kindle_10 : decode cX2_kindle 10 = .ok (.aload_n 0, 1) := by decide +kernel
theorem dX2_kindle_11 : decode cX2_kindle 11 = .ok (.iconst 0, 1) := by decide +kernel
theorem dX2_kindle_12 : decode cX2_kindle 12 = .ok (.putfield 38, 3) := by decide +kernel
theorem dX2_kindle_15 : decode cX2_kindle 15 = .ok (.return_, 1) := by decide +kernel
theorem dX2_step_0 : decode cX2_step 0 = .ok (.aload_n 0, 1) := by decide +kernel
theorem dX2_step_1 : decode cX2_step 1 = .ok (.aload_n 0, 1) := by decide +kernel
theorem dX2_step_2 : decode cX2_step 2 = .ok (.getfield 11, 3) := by decide +kernel
theorem dX2_step_5 : decode cX2_step 5 = .ok (.putfield 17, 3) := by decide +kernel
theorem dX2_step_8 : decode cX2_step 8 = .ok (.aload_n 0, 1) := by decide +kernel
theorem dX2_step_9 : decode cX2_step 9 = .ok (.invokevirtual 78, 3) := by decide +kernel
theorem dX2_step_12 : decode cX2_step 12 = .ok (.aload_n 0, 1) := by decide +kernel
theorem dX2_step_13 : decode cX2_step 13 = .ok (.getfield 32, 3) := by decide +kernel
theorem dX2_step_16 : decode cX2_step 16 = .ok (.ifCond .eq 17, 3) := by decide +kernel
theorem dX2_step_19 : decode cX2_step 19 = .ok (.aload_n 0, 1) := by decide +kernel
theorem dX2_step_20 : decode cX2_step 20 = .ok (.getfield 54, 3) := by decide +kernel
theorem dX2_step_23 : decode cX2_step 23 = .ok (.aload_n 0, 1) := by decide +kernel
theorem dX2_step_24 : decode cX2_step 24 = .ok (.getfield 35, 3) := by decide +kernel
theorem dX2_step_27 : decode cX2_step 27 = .ok (.invokevirtual 81, 3) := by decide +kernel
theorem dX2_step_30 : decode cX2_step 30 = .ok (.goto 4, 3) := by decide +kernel
theorem dX2_step_33 : decode cX2_step 33 = .ok (.aconst_null, 1) := by decide +kernel
theorem dX2_step_34 : decode cX2_step 34 = .ok (.astore_n 1, 1) := by decide +kernel
theorem dX2_step_35 : decode cX2_step 35 = .ok (.aload_n 1, 1) := by decide +kernel
theorem dX2_step_36 : decode cX2_step 36 = .ok (.ifnonnull 10, 3) := by decide +kernel
theorem dX2_step_39 : decode cX2_step 39 = .ok (.aload_n 0, 1) := by decide +kernel
theorem dX2_step_40 : decode cX2_step 40 = .ok (.invokevirtual 87, 3) := by decide +kernel
theorem dX2_step_43 : decode cX2_step 43 = .ok (.goto 12, 3) := by decide +kernel
theorem dX2_step_46 : decode cX2_step 46 = .ok (.aload_n 0, 1) := by decide +kernel
theorem dX2_step_47 : decode cX2_step 47 = .ok (.aload_n 1, 1) := by decide +kernel
theorem dX2_step_48 : decode cX2_step 48 = .ok (.invokevirtual 90, 3) := by decide +kernel
theorem dX2_step_51 : decode cX2_step 51 = .ok (.aload_n 0, 1) := by decide +kernel
theorem dX2_step_52 : decode cX2_step 52 = .ok (.invokevirtual 94, 3) := by decide +kernel
theorem dX2_step_55 : decode cX2_step 55 = .ok (.aload_n 0, 1) := by decide +kernel
theorem dX2_step_56 : decode cX2_step 56 = .ok (.invokevirtual 97, 3) := by decide +kernel
theorem dX2_step_59 : decode cX2_step 59 = .ok (.aload_n 0, 1) := by decide +kernel
theorem dX2_step_60 : decode cX2_step 60 = .ok (.dup, 1) := by decide +kernel
theorem dX2_step_61 : decode cX2_step 61 = .ok (.getfield 41, 3) := by decide +kernel
theorem dX2_step_64 : decode cX2_step 64 = .ok (.iconst 1, 1) := by decide +kernel
theorem dX2_step_65 : decode cX2_step 65 = .ok (.iadd, 1) := by decide +kernel
theorem dX2_step_66 : decode cX2_step 66 = .ok (.putfield 41, 3) := by decide +kernel
theorem dX2_step_69 : decode cX2_step 69 = .ok (.return_, 1) := by decide +kernel
theorem dX2_passRamps_0 : decode cX2_passRamps 0 = .ok (.iconst 0, 1) := by decide +kernel
theorem dX2_passRamps_1 : decode cX2_passRamps 1 = .ok (.istore_n 1, 1) := by decide +kernel
theorem dX2_passRamps_2 : decode cX2_passRamps 2 = .ok (.aload_n 0, 1) := by decide +kernel
theorem dX2_passRamps_3 : decode cX2_passRamps 3 = .ok (.getfield 32, 3) := by decide +kernel
theorem dX2_passRamps_6 : decode cX2_passRamps 6 = .ok (.ifCond .eq 93, 3) := by decide +kernel
theorem dX2_passRamps_9 : decode cX2_passRamps 9 = .ok (.iload_n 1, 1) := by decide +kernel
theorem dX2_passRamps_10 : decode cX2_passRamps 10 = .ok (.iconst 5, 1) := by decide +kernel
theorem dX2_passRamps_11 : decode cX2_passRamps 11 = .ok (.if_icmp .ge 88, 3) := by decide +kernel
theorem dX2_passRamps_14 : decode cX2_passRamps 14 = .ok (.aload_n 0, 1) := by decide +kernel
theorem dX2_passRamps_15 : decode cX2_passRamps 15 = .ok (.getfield 54, 3) := by decide +kernel
theorem dX2_passRamps_18 : decode cX2_passRamps 18 = .ok (.aload_n 0, 1) := by decide +kernel
theorem dX2_passRamps_19 : decode cX2_passRamps 19 = .ok (.getfield 35, 3) := by decide +kernel
theorem dX2_passRamps_22 : decode cX2_passRamps 22 = .ok (.invokevirtual 81, 3) := by decide +kernel
theorem dX2_passRamps_25 : decode cX2_passRamps 25 = .ok (.astore_n 2, 1) := by decide +kernel
theorem dX2_passRamps_26 : decode cX2_passRamps 26 = .ok (.aload_n 2, 1) := by decide +kernel
theorem dX2_passRamps_27 : decode cX2_passRamps 27 = .ok (.ifnull 28, 3) := by decide +kernel
theorem dX2_passRamps_30 : decode cX2_passRamps 30 = .ok (.aload_n 0, 1) := by decide +kernel
theorem dX2_passRamps_31 : decode cX2_passRamps 31 = .ok (.getfield 11, 3) := by decide +kernel
theorem dX2_passRamps_34 : decode cX2_passRamps 34 = .ok (.aload_n 2, 1) := by decide +kernel
theorem dX2_passRamps_35 : decode cX2_passRamps 35 = .ok (.getfield 100, 3) := by decide +kernel
theorem dX2_passRamps_38 : decode cX2_passRamps 38 = .ok (.i2d, 1) := by decide +kernel
theorem dX2_passRamps_39 : decode cX2_passRamps 39 = .ok (.dcmp .l, 1) := by decide +kernel
theorem dX2_passRamps_40 : decode cX2_passRamps 40 = .ok (.ifCond .ne 14, 3) := by decide +kernel
theorem dX2_passRamps_43 : decode cX2_passRamps 43 = .ok (.aload_n 0, 1) := by decide +kernel
theorem dX2_passRamps_44 : decode cX2_passRamps 44 = .ok (.getfield 38, 3) := by decide +kernel
theorem dX2_passRamps_47 : decode cX2_passRamps 47 = .ok (.aload_n 2, 1) := by decide +kernel
theorem dX2_passRamps_48 : decode cX2_passRamps 48 = .ok (.getfield 105, 3) := by decide +kernel
theorem dX2_passRamps_51 : decode cX2_passRamps 51 = .ok (.if_icmp .eq 4, 3) := by decide +kernel
theorem dX2_passRamps_54 : decode cX2_passRamps 54 = .ok (.return_, 1) := by decide +kernel
theorem dX2_passRamps_55 : decode cX2_passRamps 55 = .ok (.aload_n 0, 1) := by decide +kernel
theorem dX2_passRamps_56 : decode cX2_passRamps 56 = .ok (.dup, 1) := by decide +kernel
theorem dX2_passRamps_57 : decode cX2_passRamps 57 = .ok (.getfield 35, 3) := by decide +kernel
theorem dX2_passRamps_60 : decode cX2_passRamps 60 = .ok (.iconst 1, 1) := by decide +kernel
theorem dX2_passRamps_61 : decode cX2_passRamps 61 = .ok (.iadd, 1) := by decide +kernel
theorem dX2_passRamps_62 : decode cX2_passRamps 62 = .ok (.putfield 35, 3) := by decide +kernel
theorem dX2_passRamps_65 : decode cX2_passRamps 65 = .ok (.aload_n 0, 1) := by decide +kernel
theorem dX2_passRamps_66 : decode cX2_passRamps 66 = .ok (.iconst 0, 1) := by decide +kernel
theorem dX2_passRamps_67 : decode cX2_passRamps 67 = .ok (.putfield 38, 3) := by decide +kernel
theorem dX2_passRamps_70 : decode cX2_passRamps 70 = .ok (.aload_n 0, 1) := by decide +kernel
theorem dX2_passRamps_71 : decode cX2_passRamps 71 = .ok (.aload_n 0, 1) := by decide +kernel
theorem dX2_passRamps_72 : decode cX2_passRamps 72 = .ok (.getfield 35, 3) := by decide +kernel
theorem dX2_passRamps_75 : decode cX2_passRamps 75 = .ok (.aload_n 0, 1) := by decide +kernel
theorem dX2_passRamps_76 : decode cX2_passRamps 76 = .ok (.getfield 54, 3) := by decide +kernel
theorem dX2_passRamps_79 : decode cX2_passRamps 79 = .ok (.getfield 108, 3) := by decide +kernel
theorem dX2_passRamps_82 : decode cX2_passRamps 82 = .ok (.if_icmp .ge 7, 3) := by decide +kernel
theorem dX2_passRamps_85 : decode cX2_passRamps 85 = .ok (.iconst 1, 1) := by decide +kernel
theorem dX2_passRamps_86 : decode cX2_passRamps 86 = .ok (.goto 4, 3) := by decide +kernel
theorem dX2_passRamps_89 : decode cX2_passRamps 89 = .ok (.iconst 0, 1) := by decide +kernel
theorem dX2_passRamps_90 : decode cX2_passRamps 90 = .ok (.putfield 32, 3) := by decide +kernel
theorem dX2_passRamps_93 : decode cX2_passRamps 93 = .ok (.iinc 1 1, 3) := by decide +kernel
theorem dX2_passRamps_96 : decode cX2_passRamps 96 = .ok (.goto (-94), 3) := by decide +kernel
theorem dX2_passRamps_99 : decode cX2_passRamps 99 = .ok (.return_, 1) := by decide +kernel
theorem dX2_follow_0 : decode cX2_follow 0 = .ok (.aload_n 0, 1) := by decide +kernel
theorem dX2_follow_1 : decode cX2_follow 1 = .ok (.getfield 11, 3) := by decide +kernel
theorem dX2_follow_4 : decode cX2_follow 4 = .ok (.aload_n 1, 1) := by decide +kernel
theorem dX2_follow_5 : decode cX2_follow 5 = .ok (.getfield 100, 3) := by decide +kernel
theorem dX2_follow_8 : decode cX2_follow 8 = .ok (.i2d, 1) := by decide +kernel
theorem dX2_follow_9 : decode cX2_follow 9 = .ok (.dcmp .g, 1) := by decide +kernel
theorem dX2_follow_10 : decode cX2_follow 10 = .ok (.ifCond .ge 11, 3) := by decide +kernel
theorem dX2_follow_13 : decode cX2_follow 13 = .ok (.aload_n 0, 1) := by decide +kernel
theorem dX2_follow_14 : decode cX2_follow 14 = .ok (.aload_n 1, 1) := by decide +kernel
theorem dX2_follow_15 : decode cX2_follow 15 = .ok (.invokevirtual 111, 3) := by decide +kernel
theorem dX2_follow_18 : decode cX2_follow 18 = .ok (.goto 34, 3) := by decide +kernel
theorem dX2_follow_21 : decode cX2_follow 21 = .ok (.aload_n 0, 1) := by decide +kernel
theorem dX2_follow_22 : decode cX2_follow 22 = .ok (.getfield 11, 3) := by decide +kernel
theorem dX2_follow_25 : decode cX2_follow 25 = .ok (.aload_n 1, 1) := by decide +kernel
theorem dX2_follow_26 : decode cX2_follow 26 = .ok (.getfield 100, 3) := by decide +kernel
theorem dX2_follow_29 : decode cX2_follow 29 = .ok (.i2d, 1) := by decide +kernel
theorem dX2_follow_30 : decode cX2_follow 30 = .ok (.dcmp .l, 1) := by decide +kernel
theorem dX2_follow_31 : decode cX2_follow 31 = .ok (.ifCond .le 11, 3) := by decide +kernel
theorem dX2_follow_34 : decode cX2_follow 34 = .ok (.aload_n 0, 1) := by decide +kernel
theorem dX2_follow_35 : decode cX2_follow 35 = .ok (.aload_n 1, 1) := by decide +kernel
theorem dX2_follow_36 : decode cX2_follow 36 = .ok (.invokevirtual 114, 3) := by decide +kernel
theorem dX2_follow_39 : decode cX2_follow 39 = .ok (.goto 13, 3) := by decide +kernel
theorem dX2_follow_42 : decode cX2_follow 42 = .ok (.aload_n 0, 1) := by decide +kernel
theorem dX2_follow_43 : decode cX2_follow 43 = .ok (.dup, 1) := by decide +kernel
theorem dX2_follow_44 : decode cX2_follow 44 = .ok (.getfield 38, 3) := by decide +kernel
theorem dX2_follow_47 : decode cX2_follow 47 = .ok (.iconst 1, 1) := by decide +kernel
theorem dX2_follow_48 : decode cX2_follow 48 = .ok (.iadd, 1) := by decide +kernel
theorem dX2_follow_49 : decode cX2_follow 49 = .ok (.putfield 38, 3) := by decide +kernel
theorem dX2_follow_52 : decode cX2_follow 52 = .ok (.return_, 1) := by decide +kernel
theorem dX2_rise_0 : decode cX2_rise 0 = .ok (.aload_n 0, 1) := by decide +kernel
theorem dX2_rise_1 : decode cX2_rise 1 = .ok (.invokevirtual 117, 3) := by decide +kernel
theorem dX2_rise_4 : decode cX2_rise 4 = .ok (.dstore_n 2, 1) := by decide +kernel
theorem dX2_rise_5 : decode cX2_rise 5 = .ok (.dload_n 2, 1) := by decide +kernel
theorem dX2_rise_6 : decode cX2_rise 6 = .ok (.dconst 1, 1) := by decide +kernel
theorem dX2_rise_7 : decode cX2_rise 7 = .ok (.dcmp .g, 1) := by decide +kernel
theorem dX2_rise_8 : decode cX2_rise 8 = .ok (.ifCond .ge 19, 3) := by decide +kernel
theorem dX2_rise_11 : decode cX2_rise 11 = .ok (.aload_n 0, 1) := by decide +kernel
theorem dX2_rise_12 : decode cX2_rise 12 = .ok (.iconst 0, 1) := by decide +kernel
theorem dX2_rise_13 : decode cX2_rise 13 = .ok (.putfield 32, 3) := by decide +kernel
theorem dX2_rise_16 : decode cX2_rise 16 = .ok (.aload_n 0, 1) := by decide +kernel
theorem dX2_rise_17 : decode cX2_rise 17 = .ok (.dup, 1) := by decide +kernel
theorem dX2_rise_18 : decode cX2_rise 18 = .ok (.getfield 47, 3) := by decide +kernel
theorem dX2_rise_21 : decode cX2_rise 21 = .ok (.iconst 1, 1) := by decide +kernel
theorem dX2_rise_22 : decode cX2_rise 22 = .ok (.iadd, 1) := by decide +kernel
theorem dX2_rise_23 : decode cX2_rise 23 = .ok (.putfield 47, 3) := by decide +kernel
theorem dX2_rise_26 : decode cX2_rise 26 = .ok (.return_, 1) := by decide +kernel
theorem dX2_rise_27 : decode cX2_rise 27 = .ok (.aload_n 0, 1) := by decide +kernel
theorem dX2_rise_28 : decode cX2_rise 28 = .ok (.getfield 11, 3) := by decide +kernel
theorem dX2_rise_31 : decode cX2_rise 31 = .ok (.dload_n 2, 1) := by decide +kernel
theorem dX2_rise_32 : decode cX2_rise 32 = .ok (.aload_n 1, 1) := by decide +kernel
theorem dX2_rise_33 : decode cX2_rise 33 = .ok (.getfield 121, 3) := by decide +kernel
theorem dX2_rise_36 : decode cX2_rise 36 = .ok (.i2d, 1) := by decide +kernel
theorem dX2_rise_37 : decode cX2_rise 37 = .ok (.dcmp .g, 1) := by decide +kernel
theorem dX2_rise_38 : decode cX2_rise 38 = .ok (.ifCond .ge 7, 3) := by decide +kernel
theorem dX2_rise_41 : decode cX2_rise 41 = .ok (.dload_n 2, 1) := by decide +kernel
theorem dX2_rise_42 : decode cX2_rise 42 = .ok (.goto 8, 3) := by decide +kernel
theorem dX2_rise_45 : decode cX2_rise 45 = .ok (.aload_n 1, 1) := by decide +kernel
theorem dX2_rise_46 : decode cX2_rise 46 = .ok (.getfield 121, 3) := by decide +kernel
theorem dX2_rise_49 : decode cX2_rise 49 = .ok (.i2d, 1) := by decide +kernel
theorem dX2_rise_50 : decode cX2_rise 50 = .ok (.dadd, 1) := by decide +kernel
theorem dX2_rise_51 : decode cX2_rise 51 = .ok (.dstore 4, 2) := by decide +kernel
theorem dX2_rise_53 : decode cX2_rise 53 = .ok (.aload_n 0, 1) := by decide +kernel
theorem dX2_rise_54 : decode cX2_rise 54 = .ok (.dload 4, 2) := by decide +kernel
theorem dX2_rise_56 : decode cX2_rise 56 = .ok (.aload_n 1, 1) := by decide +kernel
theorem dX2_rise_57 : decode cX2_rise 57 = .ok (.getfield 100, 3) := by decide +kernel
theorem dX2_rise_60 : decode cX2_rise 60 = .ok (.i2d, 1) := by decide +kernel
theorem dX2_rise_61 : decode cX2_rise 61 = .ok (.dcmp .l, 1) := by decide +kernel
theorem dX2_rise_62 : decode cX2_rise 62 = .ok (.ifCond .le 11, 3) := by decide +kernel
theorem dX2_rise_65 : decode cX2_rise 65 = .ok (.aload_n 1, 1) := by decide +kernel
theorem dX2_rise_66 : decode cX2_rise 66 = .ok (.getfield 100, 3) := by decide +kernel
theorem dX2_rise_69 : decode cX2_rise 69 = .ok (.i2d, 1) := by decide +kernel
theorem dX2_rise_70 : decode cX2_rise 70 = .ok (.goto 5, 3) := by decide +kernel
theorem dX2_rise_73 : decode cX2_rise 73 = .ok (.dload 4, 2) := by decide +kernel
theorem dX2_rise_75 : decode cX2_rise 75 = .ok (.putfield 11, 3) := by decide +kernel
theorem dX2_rise_78 : decode cX2_rise 78 = .ok (.return_, 1) := by decide +kernel
theorem dX2_fall_0 : decode cX2_fall 0 = .ok (.aload_n 0, 1) := by decide +kernel
theorem dX2_fall_1 : decode cX2_fall 1 = .ok (.getfield 11, 3) := by decide +kernel
theorem dX2_fall_4 : decode cX2_fall 4 = .ok (.ldc2_w 9, 3) := by decide +kernel
theorem dX2_fall_7 : decode cX2_fall 7 = .ok (.dsub, 1) := by decide +kernel
theorem dX2_fall_8 : decode cX2_fall 8 = .ok (.ldc2_w 64, 3) := by decide +kernel
theorem dX2_fall_11 : decode cX2_fall 11 = .ok (.ddiv, 1) := by decide +kernel
theorem dX2_fall_12 : decode cX2_fall 12 = .ok (.dstore_n 2, 1) := by decide +kernel
theorem dX2_fall_13 : decode cX2_fall 13 = .ok (.aload_n 0, 1) := by decide +kernel
theorem dX2_fall_14 : decode cX2_fall 14 = .ok (.getfield 11, 3) := by decide +kernel
theorem dX2_fall_17 : decode cX2_fall 17 = .ok (.dload_n 2, 1) := by decide +kernel
theorem dX2_fall_18 : decode cX2_fall 18 = .ok (.aload_n 1, 1) := by decide +kernel
theorem dX2_fall_19 : decode cX2_fall 19 = .ok (.getfield 121, 3) := by decide +kernel
theorem dX2_fall_22 : decode cX2_fall 22 = .ok (.i2d, 1) := by decide +kernel
theorem dX2_fall_23 : decode cX2_fall 23 = .ok (.dcmp .g, 1) := by decide +kernel
theorem dX2_fall_24 : decode cX2_fall 24 = .ok (.ifCond .ge 7, 3) := by decide +kernel
theorem dX2_fall_27 : decode cX2_fall 27 = .ok (.dload_n 2, 1) := by decide +kernel
theorem dX2_fall_28 : decode cX2_fall 28 = .ok (.goto 8, 3) := by decide +kernel
theorem dX2_fall_31 : decode cX2_fall 31 = .ok (.aload_n 1, 1) := by decide +kernel
theorem dX2_fall_32 : decode cX2_fall 32 = .ok (.getfield 121, 3) := by decide +kernel
theorem dX2_fall_35 : decode cX2_fall 35 = .ok (.i2d, 1) := by decide +kernel
theorem dX2_fall_36 : decode cX2_fall 36 = .ok (.dsub, 1) := by decide +kernel
theorem dX2_fall_37 : decode cX2_fall 37 = .ok (.dstore 4, 2) := by decide +kernel
theorem dX2_fall_39 : decode cX2_fall 39 = .ok (.aload_n 0, 1) := by decide +kernel
theorem dX2_fall_40 : decode cX2_fall 40 = .ok (.dload 4, 2) := by decide +kernel
theorem dX2_fall_42 : decode cX2_fall 42 = .ok (.aload_n 1, 1) := by decide +kernel
theorem dX2_fall_43 : decode cX2_fall 43 = .ok (.getfield 100, 3) := by decide +kernel
theorem dX2_fall_46 : decode cX2_fall 46 = .ok (.i2d, 1) := by decide +kernel
theorem dX2_fall_47 : decode cX2_fall 47 = .ok (.dcmp .g, 1) := by decide +kernel
theorem dX2_fall_48 : decode cX2_fall 48 = .ok (.ifCond .ge 11, 3) := by decide +kernel
theorem dX2_fall_51 : decode cX2_fall 51 = .ok (.aload_n 1, 1) := by decide +kernel
theorem dX2_fall_52 : decode cX2_fall 52 = .ok (.getfield 100, 3) := by decide +kernel
theorem dX2_fall_55 : decode cX2_fall 55 = .ok (.i2d, 1) := by decide +kernel
theorem dX2_fall_56 : decode cX2_fall 56 = .ok (.goto 5, 3) := by decide +kernel
theorem dX2_fall_59 : decode cX2_fall 59 = .ok (.dload 4, 2) := by decide +kernel
theorem dX2_fall_61 : decode cX2_fall 61 = .ok (.putfield 11, 3) := by decide +kernel
theorem dX2_fall_64 : decode cX2_fall 64 = .ok (.return_, 1) := by decide +kernel
theorem dX2_coolDown_0 : decode cX2_coolDown 0 = .ok (.aload_n 0, 1) := by decide +kernel
theorem dX2_coolDown_1 : decode cX2_coolDown 1 = .ok (.aload_n 0, 1) := by decide +kernel
theorem dX2_coolDown_2 : decode cX2_coolDown 2 = .ok (.getfield 11, 3) := by decide +kernel
theorem dX2_coolDown_5 : decode cX2_coolDown 5 = .ok (.aload_n 0, 1) := by decide +kernel
theorem dX2_coolDown_6 : decode cX2_coolDown 6 = .ok (.getfield 11, 3) := by decide +kernel
theorem dX2_coolDown_9 : decode cX2_coolDown 9 = .ok (.ldc2_w 9, 3) := by decide +kernel
theorem dX2_coolDown_12 : decode cX2_coolDown 12 = .ok (.dsub, 1) := by decide +kernel
theorem dX2_coolDown_13 : decode cX2_coolDown 13 = .ok (.aload_n 0, 1) := by decide +kernel
theorem dX2_coolDown_14 : decode cX2_coolDown 14 = .ok (.getfield 28, 3) := by decide +kernel
theorem dX2_coolDown_17 : decode cX2_coolDown 17 = .ok (.ifCond .eq 9, 3) := by decide +kernel
theorem dX2_coolDown_20 : decode cX2_coolDown 20 = .ok (.ldc2_w 124, 3) := by decide +kernel
theorem dX2_coolDown_23 : decode cX2_coolDown 23 = .ok (.goto 6, 3) := by decide +kernel
theorem dX2_coolDown_26 : decode cX2_coolDown 26 = .ok (.ldc2_w 64, 3) := by decide +kernel
theorem dX2_coolDown_29 : decode cX2_coolDown 29 = .ok (.ddiv, 1) := by decide +kernel
theorem dX2_coolDown_30 : decode cX2_coolDown 30 = .ok (.dsub, 1) := by decide +kernel
theorem dX2_coolDown_31 : decode cX2_coolDown 31 = .ok (.putfield 11, 3) := by decide +kernel
theorem dX2_coolDown_34 : decode cX2_coolDown 34 = .ok (.return_, 1) := by decide +kernel
theorem dX2_payFuel_0 : decode cX2_payFuel 0 = .ok (.aload_n 0, 1) := by decide +kernel
theorem dX2_payFuel_1 : decode cX2_payFuel 1 = .ok (.getfield 41, 3) := by decide +kernel
theorem dX2_payFuel_4 : decode cX2_payFuel 4 = .ok (.bipush 96, 2) := by decide +kernel
theorem dX2_payFuel_6 : decode cX2_payFuel 6 = .ok (.irem, 1) := by decide +kernel
theorem dX2_payFuel_7 : decode cX2_payFuel 7 = .ok (.istore_n 1, 1) := by decide +kernel
theorem dX2_payFuel_8 : decode cX2_payFuel 8 = .ok (.aload_n 0, 1) := by decide +kernel
theorem dX2_payFuel_9 : decode cX2_payFuel 9 = .ok (.dup, 1) := by decide +kernel
theorem dX2_payFuel_10 : decode cX2_payFuel 10 = .ok (.getfield 44, 3) := by decide +kernel
theorem dX2_payFuel_13 : decode cX2_payFuel 13 = .ok (.iload_n 1, 1) := by decide +kernel
theorem dX2_payFuel_14 : decode cX2_payFuel 14 = .ok (.bipush 32, 2) := by decide +kernel
theorem dX2_payFuel_16 : decode cX2_payFuel 16 = .ok (.if_icmp .lt 13, 3) := by decide +kernel
theorem dX2_payFuel_19 : decode cX2_payFuel 19 = .ok (.iload_n 1, 1) := by decide +kernel
theorem dX2_payFuel_20 : decode cX2_payFuel 20 = .ok (.bipush 79, 2) := by decide +kernel
theorem dX2_payFuel_22 : decode cX2_payFuel 22 = .ok (.if_icmp .gt 7, 3) := by decide +kernel
theorem dX2_payFuel_25 : decode cX2_payFuel 25 = .ok (.iconst 2, 1) := by decide +kernel
theorem dX2_payFuel_26 : decode cX2_payFuel 26 = .ok (.goto 4, 3) := by decide +kernel
theorem dX2_payFuel_29 : decode cX2_payFuel 29 = .ok (.iconst 1, 1) := by decide +kernel
theorem dX2_payFuel_30 : decode cX2_payFuel 30 = .ok (.iadd, 1) := by decide +kernel
theorem dX2_payFuel_31 : decode cX2_payFuel 31 = .ok (.putfield 44, 3) := by decide +kernel
theorem dX2_payFuel_34 : decode cX2_payFuel 34 = .ok (.return_, 1) := by decide +kernel
theorem dX2_addWork_0 : decode cX2_addWork 0 = .ok (.iconst 0, 1) := by decide +kernel
theorem dX2_addWork_1 : decode cX2_addWork 1 = .ok (.istore_n 1, 1) := by decide +kernel
theorem dX2_addWork_2 : decode cX2_addWork 2 = .ok (.iload_n 1, 1) := by decide +kernel
theorem dX2_addWork_3 : decode cX2_addWork 3 = .ok (.aload_n 0, 1) := by decide +kernel
theorem dX2_addWork_4 : decode cX2_addWork 4 = .ok (.getfield 50, 3) := by decide +kernel
theorem dX2_addWork_7 : decode cX2_addWork 7 = .ok (.arraylength, 1) := by decide +kernel
theorem dX2_addWork_8 : decode cX2_addWork 8 = .ok (.if_icmp .ge 44, 3) := by decide +kernel
theorem dX2_addWork_11 : decode cX2_addWork 11 = .ok (.iload_n 1, 1) := by decide +kernel
theorem dX2_addWork_12 : decode cX2_addWork 12 = .ok (.aload_n 0, 1) := by decide +kernel
theorem dX2_addWork_13 : decode cX2_addWork 13 = .ok (.getfield 11, 3) := by decide +kernel
theorem dX2_addWork_16 : decode cX2_addWork 16 = .ok (.invokestatic 126, 3) := by decide +kernel
theorem dX2_addWork_19 : decode cX2_addWork 19 = .ok (.dstore_n 2, 1) := by decide +kernel
theorem dX2_addWork_20 : decode cX2_addWork 20 = .ok (.dload_n 2, 1) := by decide +kernel
theorem dX2_addWork_21 : decode cX2_addWork 21 = .ok (.ldc2_w 130, 3) := by decide +kernel
theorem dX2_addWork_24 : decode cX2_addWork 24 = .ok (.dcmp .l, 1) := by decide +kernel
theorem dX2_addWork_25 : decode cX2_addWork 25 = .ok (.ifCond .le 21, 3) := by decide +kernel
theorem dX2_addWork_28 : decode cX2_addWork 28 = .ok (.aload_n 0, 1) := by decide +kernel
theorem dX2_addWork_29 : decode cX2_addWork 29 = .ok (.getfield 50, 3) := by decide +kernel
theorem dX2_addWork_32 : decode cX2_addWork 32 = .ok (.iload_n 1, 1) := by decide +kernel
theorem dX2_addWork_33 : decode cX2_addWork 33 = .ok (.dup2, 1) := by decide +kernel
theorem dX2_addWork_34 : decode cX2_addWork 34 = .ok (.daload, 1) := by decide +kernel
theorem dX2_addWork_35 : decode cX2_addWork 35 = .ok (.dload_n 2, 1) := by decide +kernel
theorem dX2_addWork_36 : decode cX2_addWork 36 = .ok (.ldc2_w 130, 3) := by decide +kernel
theorem dX2_addWork_39 : decode cX2_addWork 39 = .ok (.dsub, 1) := by decide +kernel
theorem dX2_addWork_40 : decode cX2_addWork 40 = .ok (.ldc2_w 132, 3) := by decide +kernel
theorem dX2_addWork_43 : decode cX2_addWork 43 = .ok (.ddiv, 1) := by decide +kernel
theorem dX2_addWork_44 : decode cX2_addWork 44 = .ok (.dadd, 1) := by decide +kernel
theorem dX2_addWork_45 : decode cX2_addWork 45 = .ok (.dastore, 1) := by decide +kernel
theorem dX2_addWork_46 : decode cX2_addWork 46 = .ok (.iinc 1 1, 3) := by decide +kernel
theorem dX2_addWork_49 : decode cX2_addWork 49 = .ok (.goto (-47), 3) := by decide +kernel
theorem dX2_addWork_52 : decode cX2_addWork 52 = .ok (.return_, 1) := by decide +kernel
theorem dX2_clearWorks_0 : decode cX2_clearWorks 0 = .ok (.iconst 0, 1) := by decide +kernel
theorem dX2_clearWorks_1 : decode cX2_clearWorks 1 = .ok (.istore_n 1, 1) := by decide +kernel
theorem dX2_clearWorks_2 : decode cX2_clearWorks 2 = .ok (.iconst 0, 1) := by decide +kernel
theorem dX2_clearWorks_3 : decode cX2_clearWorks 3 = .ok (.istore_n 2, 1) := by decide +kernel
theorem dX2_clearWorks_4 : decode cX2_clearWorks 4 = .ok (.iload_n 2, 1) := by decide +kernel
theorem dX2_clearWorks_5 : decode cX2_clearWorks 5 = .ok (.aload_n 0, 1) := by decide +kernel
theorem dX2_clearWorks_6 : decode cX2_clearWorks 6 = .ok (.getfield 50, 3) := by decide +kernel
theorem dX2_clearWorks_9 : decode cX2_clearWorks 9 = .ok (.arraylength, 1) := by decide +kernel
theorem dX2_clearWorks_10 : decode cX2_clearWorks 10 = .ok (.if_icmp .ge 29, 3) := by decide +kernel
theorem dX2_clearWorks_13 : decode cX2_clearWorks 13 = .ok (.aload_n 0, 1) := by decide +kernel
theorem dX2_clearWorks_14 : decode cX2_clearWorks 14 = .ok (.getfield 50, 3) := by decide +kernel
theorem dX2_clearWorks_17 : decode cX2_clearWorks 17 = .ok (.iload_n 2, 1) := by decide +kernel
theorem dX2_clearWorks_18 : decode cX2_clearWorks 18 = .ok (.daload, 1) := by decide +kernel
theorem dX2_clearWorks_19 : decode cX2_clearWorks 19 = .ok (.dconst 0, 1) := by decide +kernel
theorem dX2_clearWorks_20 : decode cX2_clearWorks 20 = .ok (.dcmp .l, 1) := by decide +kernel
theorem dX2_clearWorks_21 : decode cX2_clearWorks 21 = .ok (.ifCond .le 5, 3) := by decide +kernel
theorem dX2_clearWorks_24 : decode cX2_clearWorks 24 = .ok (.iconst 1, 1) := by decide +kernel
theorem dX2_clearWorks_25 : decode cX2_clearWorks 25 = .ok (.istore_n 1, 1) := by decide +kernel
theorem dX2_clearWorks_26 : decode cX2_clearWorks 26 = .ok (.aload_n 0, 1) := by decide +kernel
theorem dX2_clearWorks_27 : decode cX2_clearWorks 27 = .ok (.getfield 50, 3) := by decide +kernel
theorem dX2_clearWorks_30 : decode cX2_clearWorks 30 = .ok (.iload_n 2, 1) := by decide +kernel
theorem dX2_clearWorks_31 : decode cX2_clearWorks 31 = .ok (.dconst 0, 1) := by decide +kernel
theorem dX2_clearWorks_32 : decode cX2_clearWorks 32 = .ok (.dastore, 1) := by decide +kernel
theorem dX2_clearWorks_33 : decode cX2_clearWorks 33 = .ok (.iinc 2 1, 3) := by decide +kernel
theorem dX2_clearWorks_36 : decode cX2_clearWorks 36 = .ok (.goto (-32), 3) := by decide +kernel
theorem dX2_clearWorks_39 : decode cX2_clearWorks 39 = .ok (.iload_n 1, 1) := by decide +kernel
theorem dX2_clearWorks_40 : decode cX2_clearWorks 40 = .ok (.ifCond .eq 14, 3) := by decide +kernel
theorem dX2_clearWorks_43 : decode cX2_clearWorks 43 = .ok (.aload_n 0, 1) := by decide +kernel
theorem dX2_clearWorks_44 : decode cX2_clearWorks 44 = .ok (.ldc 134, 2) := by decide +kernel
theorem dX2_clearWorks_46 : decode cX2_clearWorks 46 = .ok (.aload_n 0, 1) := by decide +kernel
theorem dX2_clearWorks_47 : decode cX2_clearWorks 47 = .ok (.getfield 20, 3) := by decide +kernel
theorem dX2_clearWorks_50 : decode cX2_clearWorks 50 = .ok (.fmul, 1) := by decide +kernel
theorem dX2_clearWorks_51 : decode cX2_clearWorks 51 = .ok (.putfield 20, 3) := by decide +kernel
theorem dX2_clearWorks_54 : decode cX2_clearWorks 54 = .ok (.return_, 1) := by decide +kernel
theorem dX4_init_0 : decode cX4_init 0 = .ok (.aload_n 0, 1) := by decide +kernel
theorem dX4_init_1 : decode cX4_init 1 = .ok (.invokespecial 3, 3) := by decide +kernel
theorem dX4_init_4 : decode cX4_init 4 = .ok (.aload_n 0, 1) := by decide +kernel
theorem dX4_init_5 : decode cX4_init 5 = .ok (.aconst_null, 1) := by decide +kernel
theorem dX4_init_6 : decode cX4_init 6 = .ok (.putfield 9, 3) := by decide +kernel
theorem dX4_init_9 : decode cX4_init 9 = .ok (.aload_n 0, 1) := by decide +kernel
theorem dX4_init_10 : decode cX4_init 10 = .ok (.iconst 0, 1) := by decide +kernel
theorem dX4_init_11 : decode cX4_init 11 = .ok (.putfield 15, 3) := by decide +kernel
theorem dX4_init_14 : decode cX4_init 14 = .ok (.aload_n 0, 1) := by decide +kernel
theorem dX4_init_15 : decode cX4_init 15 = .ok (.ldc 19, 2) := by decide +kernel
theorem dX4_init_17 : decode cX4_init 17 = .ok (.putfield 20, 3) := by decide +kernel
theorem dX4_init_20 : decode cX4_init 20 = .ok (.aload_n 0, 1) := by decide +kernel
theorem dX4_init_21 : decode cX4_init 21 = .ok (.iconst 0, 1) := by decide +kernel
theorem dX4_init_22 : decode cX4_init 22 = .ok (.putfield 24, 3) := by decide +kernel
theorem dX4_init_25 : decode cX4_init 25 = .ok (.aload_n 0, 1) := by decide +kernel
theorem dX4_init_26 : decode cX4_init 26 = .ok (.iconst 0, 1) := by decide +kernel
theorem dX4_init_27 : decode cX4_init 27 = .ok (.putfield 28, 3) := by decide +kernel
theorem dX4_init_30 : decode cX4_init 30 = .ok (.aload_n 0, 1) := by decide +kernel
theorem dX4_init_31 : decode cX4_init 31 = .ok (.iconst 0, 1) := by decide +kernel
theorem dX4_init_32 : decode cX4_init 32 = .ok (.putfield 31, 3) := by decide +kernel
theorem dX4_init_35 : decode cX4_init 35 = .ok (.aload_n 0, 1) := by decide +kernel
theorem dX4_init_36 : decode cX4_init 36 = .ok (.iconst (-1), 1) := by decide +kernel
theorem dX4_init_37 : decode cX4_init 37 = .ok (.putfield 34, 3) := by decide +kernel
theorem dX4_init_40 : decode cX4_init 40 = .ok (.aload_n 0, 1) := by decide +kernel
theorem dX4_init_41 : decode cX4_init 41 = .ok (.iconst (-1), 1) := by decide +kernel
theorem dX4_init_42 : decode cX4_init 42 = .ok (.putfield 37, 3) := by decide +kernel
theorem dX4_init_45 : decode cX4_init 45 = .ok (.aload_n 0, 1) := by decide +kernel
theorem dX4_init_46 : decode cX4_init 46 = .ok (.aload_n 1, 1) := by decide +kernel
theorem dX4_init_47 : decode cX4_init 47 = .ok (.putfield 40, 3) := by decide +kernel
theorem dX4_init_50 : decode cX4_init 50 = .ok (.aload_n 0, 1) := by decide +kernel
theorem dX4_init_51 : decode cX4_init 51 = .ok (.iload_n 2, 1) := by decide +kernel
theorem dX4_init_52 : decode cX4_init 52 = .ok (.putfield 44, 3) := by decide +kernel
theorem dX4_init_55 : decode cX4_init 55 = .ok (.aload_n 0, 1) := by decide +kernel
theorem dX4_init_56 : decode cX4_init 56 = .ok (.iload_n 3, 1) := by decide +kernel
theorem dX4_init_57 : decode cX4_init 57 = .ok (.putfield 47, 3) := by decide +kernel
theorem dX4_init_60 : decode cX4_init 60 = .ok (.aload_n 0, 1) := by decide +kernel
theorem dX4_init_61 : decode cX4_init 61 = .ok (.iload 4, 2) := by decide +kernel
theorem dX4_init_63 : decode cX4_init 63 = .ok (.putfield 50, 3) := by decide +kernel
theorem dX4_init_66 : decode cX4_init 66 = .ok (.return_, 1) := by decide +kernel
theorem dX4_glazeNumber_0 : decode cX4_glazeNumber 0 = .ok (.aload_n 0, 1) := by decide +kernel
theorem dX4_glazeNumber_1 : decode cX4_glazeNumber 1 = .ok (.getfield 9, 3) := by decide +kernel
theorem dX4_glazeNumber_4 : decode cX4_glazeNumber 4 = .ok (.ifnonnull 7, 3) := by decide +kernel
theorem dX4_glazeNumber_7 : decode cX4_glazeNumber 7 = .ok (.iconst (-1), 1) := by decide +kernel
theorem dX4_glazeNumber_8 : decode cX4_glazeNumber 8 = .ok (.goto 10, 3) := by decide +kernel
theorem dX4_glazeNumber_11 : decode cX4_glazeNumber 11 = .ok (.aload_n 0, 1) := by decide +kernel
theorem dX4_glazeNumber_12 : decode cX4_glazeNumber 12 = .ok (.getfield 9, 3) := by decide +kernel
theorem dX4_glazeNumber_15 : decode cX4_glazeNumber 15 = .ok (.getfield 53, 3) := by decide +kernel
theorem dX4_glazeNumber_18 : decode cX4_glazeNumber 18 = .ok (.ireturn, 1) := by decide +kernel
theorem dX4_colour_0 : decode cX4_colour 0 = .ok (.aload_n 0, 1) := by decide +kernel
theorem dX4_colour_1 : decode cX4_colour 1 = .ok (.getfield 9, 3) := by decide +kernel
theorem dX4_colour_4 : decode cX4_colour 4 = .ok (.ifnull 20, 3) := by decide +kernel
theorem dX4_colour_7 : decode cX4_colour 7 = .ok (.aload_n 0, 1) := by decide +kernel
theorem dX4_colour_8 : decode cX4_colour 8 = .ok (.getfield 15, 3) := by decide +kernel
theorem dX4_colour_11 : decode cX4_colour 11 = .ok (.iconst 4, 1) := by decide +kernel
theorem dX4_colour_12 : decode cX4_colour 12 = .ok (.if_icmp .eq 14, 3) := by decide +kernel
theorem dX4_colour_15 : decode cX4_colour 15 = .ok (.aload_n 0, 1) := by decide +kernel
theorem dX4_colour_16 : decode cX4_colour 16 = .ok (.getfield 15, 3) := by decide +kernel
theorem dX4_colour_19 : decode cX4_colour 19 = .ok (.bipush 6, 2) := by decide +kernel
theorem dX4_colour_21 : decode cX4_colour 21 = .ok (.if_icmp .eq 5, 3) := by decide +kernel
theorem dX4_colour_24 : decode cX4_colour 24 = .ok (.iconst (-1), 1) := by decide +kernel
theorem dX4_colour_25 : decode cX4_colour 25 = .ok (.ireturn, 1) := by decide +kernel
theorem dX4_colour_26 : decode cX4_colour 26 = .ok (.aload_n 0, 1) := by decide +kernel
theorem dX4_colour_27 : decode cX4_colour 27 = .ok (.getfield 9, 3) := by decide +kernel
theorem dX4_colour_30 : decode cX4_colour 30 = .ok (.getfield 58, 3) := by decide +kernel
theorem dX4_colour_33 : decode cX4_colour 33 = .ok (.iconst 5, 1) := by decide +kernel
theorem dX4_colour_34 : decode cX4_colour 34 = .ok (.if_icmp .ge 5, 3) := by decide +kernel
theorem dX4_colour_37 : decode cX4_colour 37 = .ok (.iconst 0, 1) := by decide +kernel
theorem dX4_colour_38 : decode cX4_colour 38 = .ok (.ireturn, 1) := by decide +kernel
theorem dX4_colour_39 : decode cX4_colour 39 = .ok (.aload_n 0, 1) := by decide +kernel
theorem dX4_colour_40 : decode cX4_colour 40 = .ok (.getfield 28, 3) := by decide +kernel
theorem dX4_colour_43 : decode cX4_colour 43 = .ok (.iconst 4, 1) := by decide +kernel
theorem dX4_colour_44 : decode cX4_colour 44 = .ok (.if_icmp .lt 7, 3) := by decide +kernel
theorem dX4_colour_47 : decode cX4_colour 47 = .ok (.iconst 1, 1) := by decide +kernel
theorem dX4_colour_48 : decode cX4_colour 48 = .ok (.goto 4, 3) := by decide +kernel
theorem dX4_colour_51 : decode cX4_colour 51 = .ok (.iconst 2, 1) := by decide +kernel
theorem dX4_colour_52 : decode cX4_colour 52 = .ok (.ireturn, 1) := by decide +kernel
theorem dX4_canBeSet_0 : decode cX4_canBeSet 0 = .ok (.aload_n 0, 1) := by decide +kernel
theorem dX4_canBeSet_1 : decode cX4_canBeSet 1 = .ok (.getfield 34, 3) := by decide +kernel
theorem dX4_canBeSet_4 : decode cX4_canBeSet 4 = .ok (.iconst (-1), 1) := by decide +kernel
theorem dX4_canBeSet_5 : decode cX4_canBeSet 5 = .ok (.if_icmp .ne 30, 3) := by decide +kernel
theorem dX4_canBeSet_8 : decode cX4_canBeSet 8 = .ok (.aload_n 0, 1) := by decide +kernel
theorem dX4_canBeSet_9 : decode cX4_canBeSet 9 = .ok (.getfield 15, 3) := by decide +kernel
theorem dX4_canBeSet_12 : decode cX4_canBeSet 12 = .ok (.ifCond .eq 19, 3) := by decide +kernel
theorem dX4_canBeSet_15 : decode cX4_canBeSet 15 = .ok (.aload_n 0, 1) := by decide +kernel
theorem dX4_canBeSet_16 : decode cX4_canBeSet 16 = .ok (.getfield 15, 3) := by decide +kernel
theorem dX4_canBeSet_19 : decode cX4_canBeSet 19 = .ok (.iconst 1, 1) := by decide +kernel
theorem dX4_canBeSet_20 : decode cX4_canBeSet 20 = .ok (.if_icmp .eq 11, 3) := by decide +kernel
theorem dX4_canBeSet_23 : decode cX4_canBeSet 23 = .ok (.aload_n 0, 1) := by decide +kernel
theorem dX4_canBeSet_24 : decode cX4_canBeSet 24 = .ok (.getfield 15, 3) := by decide +kernel
theorem dX4_canBeSet_27 : decode cX4_canBeSet 27 = .ok (.iconst 3, 1) := by decide +kernel
theorem dX4_canBeSet_28 : decode cX4_canBeSet 28 = .ok (.if_icmp .ne 7, 3) := by decide +kernel
theorem dX4_canBeSet_31 : decode cX4_canBeSet 31 = .ok (.iconst 1, 1) := by decide +kernel
theorem dX4_canBeSet_32 : decode cX4_canBeSet 32 = .ok (.goto 4, 3) := by decide +kernel
theorem dX4_canBeSet_35 : decode cX4_canBeSet 35 = .ok (.iconst 0, 1) := by decide +kernel
theorem dX4_canBeSet_36 : decode cX4_canBeSet 36 = .ok (.ireturn, 1) := by decide +kernel
theorem dX4_isReady_0 : decode cX4_isReady 0 = .ok (.aload_n 0, 1) := by decide +kernel
theorem dX4_isReady_1 : decode cX4_isReady 1 = .ok (.invokevirtual 61, 3) := by decide +kernel
theorem dX4_isReady_4 : decode cX4_isReady 4 = .ok (.ifCond .eq 14, 3) := by decide +kernel
theorem dX4_isReady_7 : decode cX4_isReady 7 = .ok (.aload_n 0, 1) := by decide +kernel
theorem dX4_isReady_8 : decode cX4_isReady 8 = .ok (.getfield 15, 3) := by decide +kernel
theorem dX4_isReady_11 : decode cX4_isReady 11 = .ok (.ifCond .eq 7, 3) := by decide +kernel
theorem dX4_isReady_14 : decode cX4_isReady 14 = .ok (.iconst 1, 1) := by decide +kernel
theorem dX4_isReady_15 : decode cX4_isReady 15 = .ok (.goto 4, 3) := by decide +kernel
theorem dX4_isReady_18 : decode cX4_isReady 18 = .ok (.iconst 0, 1) := by decide +kernel
theorem dX4_isReady_19 : decode cX4_isReady 19 = .ok (.ireturn, 1) := by decide +kernel
theorem dX4_leaveShelf_0 : decode cX4_leaveShelf 0 = .ok (.aload_n 0, 1) := by decide +kernel
theorem dX4_leaveShelf_1 : decode cX4_leaveShelf 1 = .ok (.iconst (-1), 1) := by decide +kernel
theorem dX4_leaveShelf_2 : decode cX4_leaveShelf 2 = .ok (.putfield 34, 3) := by decide +kernel
theorem dX4_leaveShelf_5 : decode cX4_leaveShelf 5 = .ok (.aload_n 0, 1) := by decide +kernel
theorem dX4_leaveShelf_6 : decode cX4_leaveShelf 6 = .ok (.iconst (-1), 1) := by decide +kernel
theorem dX4_leaveShelf_7 : decode cX4_leaveShelf 7 = .ok (.putfield 37, 3) := by decide +kernel
theorem dX4_leaveShelf_10 : decode cX4_leaveShelf 10 = .ok (.return_, 1) := by decide +kernel
theorem dX4_loseWater_0 : decode cX4_loseWater 0 = .ok (.aload_n 0, 1) := by decide +kernel
theorem dX4_loseWater_1 : decode cX4_loseWater 1 = .ok (.getfield 15, 3) := by decide +kernel
theorem dX4_loseWater_4 : decode cX4_loseWater 4 = .ok (.ifCond .ne 11, 3) := by decide +kernel

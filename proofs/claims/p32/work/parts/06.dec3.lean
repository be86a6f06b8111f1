theorem dX7_unload_67 : decode cX7_unload 67 = .ok (.getfield 188, 3) := by decide +kernel
theorem dX7_unload_70 : decode cX7_unload 70 = .ok (.invokevirtual 250, 3) := by decide +kernel
theorem dX7_unload_73 : decode cX7_unload 73 = .ok (.invokevirtual 253, 3) := by decide +kernel
theorem dX7_unload_76 : decode cX7_unload 76 = .ok (.aload 5, 2) := by decide +kernel
theorem dX7_unload_78 : decode cX7_unload 78 = .ok (.invokevirtual 199, 3) := by decide +kernel
theorem dX7_unload_81 : decode cX7_unload 81 = .ok (.iload_n 1, 1) := by decide +kernel
theorem dX7_unload_82 : decode cX7_unload 82 = .ok (.aload 5, 2) := by decide +kernel
theorem dX7_unload_84 : decode cX7_unload 84 = .ok (.getfield 141, 3) := by decide +kernel
theorem dX7_unload_87 : decode cX7_unload 87 = .ok (.iconst 5, 1) := by decide +kernel
theorem dX7_unload_88 : decode cX7_unload 88 = .ok (.if_icmp .ne 7, 3) := by decide +kernel
theorem dX7_unload_91 : decode cX7_unload 91 = .ok (.iconst 1, 1) := by decide +kernel
theorem dX7_unload_92 : decode cX7_unload 92 = .ok (.goto 4, 3) := by decide +kernel
theorem dX7_unload_95 : decode cX7_unload 95 = .ok (.iconst 0, 1) := by decide +kernel
theorem dX7_unload_96 : decode cX7_unload 96 = .ok (.iadd, 1) := by decide +kernel
theorem dX7_unload_97 : decode cX7_unload 97 = .ok (.istore_n 1, 1) := by decide +kernel
theorem dX7_unload_98 : decode cX7_unload 98 = .ok (.iinc 4 1, 3) := by decide +kernel
theorem dX7_unload_101 : decode cX7_unload 101 = .ok (.goto (-68), 3) := by decide +kernel
theorem dX7_unload_104 : decode cX7_unload 104 = .ok (.aload_n 0, 1) := by decide +kernel
theorem dX7_unload_105 : decode cX7_unload 105 = .ok (.getfield 58, 3) := by decide +kernel
theorem dX7_unload_108 : decode cX7_unload 108 = .ok (.invokevirtual 256, 3) := by decide +kernel
theorem dX7_unload_111 : decode cX7_unload 111 = .ok (.iload_n 1, 1) := by decide +kernel
theorem dX7_unload_112 : decode cX7_unload 112 = .ok (.ireturn, 1) := by decide +kernel
theorem dX7_ofPot_0 : decode cX7_ofPot 0 = .ok (.aload_n 0, 1) := by decide +kernel
theorem dX7_ofPot_1 : decode cX7_ofPot 1 = .ok (.iload_n 1, 1) := by decide +kernel
theorem dX7_ofPot_2 : decode cX7_ofPot 2 = .ok (.invokevirtual 117, 3) := by decide +kernel
theorem dX7_ofPot_5 : decode cX7_ofPot 5 = .ok (.astore_n 3, 1) := by decide +kernel
theorem dX7_ofPot_6 : decode cX7_ofPot 6 = .ok (.iload_n 2, 1) := by decide +kernel
theorem dX7_ofPot_7 : decode cX7_ofPot 7 = .ok (.tableswitch 93 0 7 #[45, 50, 55, 60, 65, 70, 75, 80], 45) := by decide +kernel
theorem dX7_ofPot_52 : decode cX7_ofPot 52 = .ok (.aload_n 3, 1) := by decide +kernel
theorem dX7_ofPot_53 : decode cX7_ofPot 53 = .ok (.getfield 141, 3) := by decide +kernel
theorem dX7_ofPot_56 : decode cX7_ofPot 56 = .ok (.ireturn, 1) := by decide +kernel
theorem dX7_ofPot_57 : decode cX7_ofPot 57 = .ok (.aload_n 3, 1) := by decide +kernel
theorem dX7_ofPot_58 : decode cX7_ofPot 58 = .ok (.invokevirtual 278, 3) := by decide +kernel
theorem dX7_ofPot_61 : decode cX7_ofPot 61 = .ok (.ireturn, 1) := by decide +kernel
theorem dX7_ofPot_62 : decode cX7_ofPot 62 = .ok (.aload_n 3, 1) := by decide +kernel
theorem dX7_ofPot_63 : decode cX7_ofPot 63 = .ok (.getfield 295, 3) := by decide +kernel
theorem dX7_ofPot_66 : decode cX7_ofPot 66 = .ok (.ireturn, 1) := by decide +kernel
theorem dX7_ofPot_67 : decode cX7_ofPot 67 = .ok (.aload_n 3, 1) := by decide +kernel
theorem dX7_ofPot_68 : decode cX7_ofPot 68 = .ok (.getfield 188, 3) := by decide +kernel
theorem dX7_ofPot_71 : decode cX7_ofPot 71 = .ok (.ireturn, 1) := by decide +kernel
theorem dX7_ofPot_72 : decode cX7_ofPot 72 = .ok (.aload_n 3, 1) := by decide +kernel
theorem dX7_ofPot_73 : decode cX7_ofPot 73 = .ok (.getfield 191, 3) := by decide +kernel
theorem dX7_ofPot_76 : decode cX7_ofPot 76 = .ok (.ireturn, 1) := by decide +kernel
theorem dX7_ofPot_77 : decode cX7_ofPot 77 = .ok (.aload_n 3, 1) := by decide +kernel
theorem dX7_ofPot_78 : decode cX7_ofPot 78 = .ok (.getfield 298, 3) := by decide +kernel
theorem dX7_ofPot_81 : decode cX7_ofPot 81 = .ok (.ireturn, 1) := by decide +kernel
theorem dX7_ofPot_82 : decode cX7_ofPot 82 = .ok (.aload_n 3, 1) := by decide +kernel
theorem dX7_ofPot_83 : decode cX7_ofPot 83 = .ok (.invokevirtual 284, 3) := by decide +kernel
theorem dX7_ofPot_86 : decode cX7_ofPot 86 = .ok (.ireturn, 1) := by decide +kernel
theorem dX7_ofPot_87 : decode cX7_ofPot 87 = .ok (.aload_n 3, 1) := by decide +kernel
theorem dX7_ofPot_88 : decode cX7_ofPot 88 = .ok (.getfield 121, 3) := by decide +kernel
theorem dX7_ofPot_91 : decode cX7_ofPot 91 = .ok (.ifCond .eq 7, 3) := by decide +kernel
theorem dX7_ofPot_94 : decode cX7_ofPot 94 = .ok (.iconst 1, 1) := by decide +kernel
theorem dX7_ofPot_95 : decode cX7_ofPot 95 = .ok (.goto 4, 3) := by decide +kernel
theorem dX7_ofPot_98 : decode cX7_ofPot 98 = .ok (.iconst 0, 1) := by decide +kernel
theorem dX7_ofPot_99 : decode cX7_ofPot 99 = .ok (.ireturn, 1) := by decide +kernel
theorem dX7_ofPot_100 : decode cX7_ofPot 100 = .ok (.new 78, 3) := by decide +kernel
theorem dX7_ofPot_103 : decode cX7_ofPot 103 = .ok (.dup, 1) := by decide +kernel
theorem dX7_ofPot_104 : decode cX7_ofPot 104 = .ok (.ldc_w 301, 3) := by decide +kernel
theorem dX7_ofPot_107 : decode cX7_ofPot 107 = .ok (.invokespecial 82, 3) := by decide +kernel
theorem dX7_ofPot_110 : decode cX7_ofPot 110 = .ok (.athrow, 1) := by decide +kernel
theorem dX7_water_0 : decode cX7_water 0 = .ok (.aload_n 0, 1) := by decide +kernel
theorem dX7_water_1 : decode cX7_water 1 = .ok (.iload_n 1, 1) := by decide +kernel
theorem dX7_water_2 : decode cX7_water 2 = .ok (.invokevirtual 117, 3) := by decide +kernel
theorem dX7_water_5 : decode cX7_water 5 = .ok (.getfield 303, 3) := by decide +kernel
theorem dX7_water_8 : decode cX7_water 8 = .ok (.f2d, 1) := by decide +kernel
theorem dX7_water_9 : decode cX7_water 9 = .ok (.dreturn, 1) := by decide +kernel
theorem dX7_ofGlaze_0 : decode cX7_ofGlaze 0 = .ok (.aload_n 0, 1) := by decide +kernel
theorem dX7_ofGlaze_1 : decode cX7_ofGlaze 1 = .ok (.iload_n 1, 1) := by decide +kernel
theorem dX7_ofGlaze_2 : decode cX7_ofGlaze 2 = .ok (.invokevirtual 137, 3) := by decide +kernel
theorem dX7_ofGlaze_5 : decode cX7_ofGlaze 5 = .ok (.astore_n 3, 1) := by decide +kernel
theorem dX7_ofGlaze_6 : decode cX7_ofGlaze 6 = .ok (.iload_n 2, 1) := by decide +kernel
theorem dX7_ofGlaze_7 : decode cX7_ofGlaze 7 = .ok (.tableswitch 41 0 2 #[25, 30, 35], 25) := by decide +kernel
theorem dX7_ofGlaze_32 : decode cX7_ofGlaze 32 = .ok (.aload_n 3, 1) := by decide +kernel
theorem dX7_ofGlaze_33 : decode cX7_ofGlaze 33 = .ok (.getfield 307, 3) := by decide +kernel
theorem dX7_ofGlaze_36 : decode cX7_ofGlaze 36 = .ok (.dreturn, 1) := by decide +kernel
theorem dX7_ofGlaze_37 : decode cX7_ofGlaze 37 = .ok (.aload_n 3, 1) := by decide +kernel
theorem dX7_ofGlaze_38 : decode cX7_ofGlaze 38 = .ok (.invokevirtual 311, 3) := by decide +kernel
theorem dX7_ofGlaze_41 : decode cX7_ofGlaze 41 = .ok (.dreturn, 1) := by decide +kernel
theorem dX7_ofGlaze_42 : decode cX7_ofGlaze 42 = .ok (.aload_n 3, 1) := by decide +kernel
theorem dX7_ofGlaze_43 : decode cX7_ofGlaze 43 = .ok (.getfield 150, 3) := by decide +kernel
theorem dX7_ofGlaze_46 : decode cX7_ofGlaze 46 = .ok (.i2d, 1) := by decide +kernel
theorem dX7_ofGlaze_47 : decode cX7_ofGlaze 47 = .ok (.dreturn, 1) := by decide +kernel
theorem dX7_ofGlaze_48 : decode cX7_ofGlaze 48 = .ok (.new 78, 3) := by decide +kernel
theorem dX7_ofGlaze_51 : decode cX7_ofGlaze 51 = .ok (.dup, 1) := by decide +kernel
theorem dX7_ofGlaze_52 : decode cX7_ofGlaze 52 = .ok (.ldc_w 315, 3) := by decide +kernel
theorem dX7_ofGlaze_55 : decode cX7_ofGlaze 55 = .ok (.invokespecial 82, 3) := by decide +kernel
theorem dX7_ofGlaze_58 : decode cX7_ofGlaze 58 = .ok (.athrow, 1) := by decide +kernel
theorem dX7_kiln_0 : decode cX7_kiln 0 = .ok (.iload_n 1, 1) := by decide +kernel
theorem dX7_kiln_1 : decode cX7_kiln 1 = .ok (.tableswitch 91 0 5 #[39, 47, 56, 64, 73, 82], 39) := by decide +kernel
theorem dX7_kiln_40 : decode cX7_kiln 40 = .ok (.aload_n 0, 1) := by decide +kernel
theorem dX7_kiln_41 : decode cX7_kiln 41 = .ok (.getfield 58, 3) := by decide +kernel
theorem dX7_kiln_44 : decode cX7_kiln 44 = .ok (.getfield 317, 3) := by decide +kernel
theorem dX7_kiln_47 : decode cX7_kiln 47 = .ok (.dreturn, 1) := by decide +kernel
theorem dX7_kiln_48 : decode cX7_kiln 48 = .ok (.aload_n 0, 1) := by decide +kernel
theorem dX7_kiln_49 : decode cX7_kiln 49 = .ok (.getfield 58, 3) := by decide +kernel
theorem dX7_kiln_52 : decode cX7_kiln 52 = .ok (.getfield 320, 3) := by decide +kernel
theorem dX7_kiln_55 : decode cX7_kiln 55 = .ok (.f2d, 1) := by decide +kernel
theorem dX7_kiln_56 : decode cX7_kiln 56 = .ok (.dreturn, 1) := by decide +kernel
theorem dX7_kiln_57 : decode cX7_kiln 57 = .ok (.aload_n 0, 1) := by decide +kernel
theorem dX7_kiln_58 : decode cX7_kiln 58 = .ok (.getfield 58, 3) := by decide +kernel
theorem dX7_kiln_61 : decode cX7_kiln 61 = .ok (.invokevirtual 323, 3) := by decide +kernel
theorem dX7_kiln_64 : decode cX7_kiln 64 = .ok (.dreturn, 1) := by decide +kernel
theorem dX7_kiln_65 : decode cX7_kiln 65 = .ok (.aload_n 0, 1) := by decide +kernel
theorem dX7_kiln_66 : decode cX7_kiln 66 = .ok (.getfield 58, 3) := by decide +kernel
theorem dX7_kiln_69 : decode cX7_kiln 69 = .ok (.iconst 0, 1) := by decide +kernel
theorem dX7_kiln_70 : decode cX7_kiln 70 = .ok (.invokevirtual 326, 3) := by decide +kernel
theorem dX7_kiln_73 : decode cX7_kiln 73 = .ok (.dreturn, 1) := by decide +kernel
theorem dX7_kiln_74 : decode cX7_kiln 74 = .ok (.aload_n 0, 1) := by decide +kernel
theorem dX7_kiln_75 : decode cX7_kiln 75 = .ok (.getfield 58, 3) := by decide +kernel
theorem dX7_kiln_78 : decode cX7_kiln 78 = .ok (.iconst 1, 1) := by decide +kernel
theorem dX7_kiln_79 : decode cX7_kiln 79 = .ok (.invokevirtual 326, 3) := by decide +kernel
theorem dX7_kiln_82 : decode cX7_kiln 82 = .ok (.dreturn, 1) := by decide +kernel
theorem dX7_kiln_83 : decode cX7_kiln 83 = .ok (.aload_n 0, 1) := by decide +kernel
theorem dX7_kiln_84 : decode cX7_kiln 84 = .ok (.getfield 58, 3) := by decide +kernel
theorem dX7_kiln_87 : decode cX7_kiln 87 = .ok (.iconst 2, 1) := by decide +kernel
theorem dX7_kiln_88 : decode cX7_kiln 88 = .ok (.invokevirtual 326, 3) := by decide +kernel
theorem dX7_kiln_91 : decode cX7_kiln 91 = .ok (.dreturn, 1) := by decide +kernel
theorem dX7_kiln_92 : decode cX7_kiln 92 = .ok (.new 78, 3) := by decide +kernel
theorem dX7_kiln_95 : decode cX7_kiln 95 = .ok (.dup, 1) := by decide +kernel
theorem dX7_kiln_96 : decode cX7_kiln 96 = .ok (.ldc_w 330, 3) := by decide +kernel
theorem dX7_kiln_99 : decode cX7_kiln 99 = .ok (.invokespecial 82, 3) := by decide +kernel
theorem dX7_kiln_102 : decode cX7_kiln 102 = .ok (.athrow, 1) := by decide +kernel
theorem dX7_ofShelf_0 : decode cX7_ofShelf 0 = .ok (.iload_n 1, 1) := by decide +kernel
theorem dX7_ofShelf_1 : decode cX7_ofShelf 1 = .ok (.invokestatic 153, 3) := by decide +kernel
theorem dX7_ofShelf_4 : decode cX7_ofShelf 4 = .ok (.iload_n 2, 1) := by decide +kernel
theorem dX7_ofShelf_5 : decode cX7_ofShelf 5 = .ok (.tableswitch 58 0 3 #[31, 40, 46, 52], 31) := by decide +kernel
theorem dX7_ofShelf_36 : decode cX7_ofShelf 36 = .ok (.aload_n 0, 1) := by decide +kernel
theorem dX7_ofShelf_37 : decode cX7_ofShelf 37 = .ok (.getfield 58, 3) := by decide +kernel
theorem dX7_ofShelf_40 : decode cX7_ofShelf 40 = .ok (.iload_n 1, 1) := by decide +kernel
theorem dX7_ofShelf_41 : decode cX7_ofShelf 41 = .ok (.invokevirtual 250, 3) := by decide +kernel
theorem dX7_ofShelf_44 : decode cX7_ofShelf 44 = .ok (.ireturn, 1) := by decide +kernel
theorem dX7_ofShelf_45 : decode cX7_ofShelf 45 = .ok (.aload_n 0, 1) := by decide +kernel
theorem dX7_ofShelf_46 : decode cX7_ofShelf 46 = .ok (.iload_n 1, 1) := by decide +kernel
theorem dX7_ofShelf_47 : decode cX7_ofShelf 47 = .ok (.invokevirtual 194, 3) := by decide +kernel
theorem dX7_ofShelf_50 : decode cX7_ofShelf 50 = .ok (.ireturn, 1) := by decide +kernel
theorem dX7_ofShelf_51 : decode cX7_ofShelf 51 = .ok (.aload_n 0, 1) := by decide +kernel
theorem dX7_ofShelf_52 : decode cX7_ofShelf 52 = .ok (.iload_n 1, 1) := by decide +kernel
theorem dX7_ofShelf_53 : decode cX7_ofShelf 53 = .ok (.invokevirtual 228, 3) := by decide +kernel
theorem dX7_ofShelf_56 : decode cX7_ofShelf 56 = .ok (.ireturn, 1) := by decide +kernel
theorem dX7_ofShelf_57 : decode cX7_ofShelf 57 = .ok (.aload_n 0, 1) := by decide +kernel
theorem dX7_ofShelf_58 : decode cX7_ofShelf 58 = .ok (.iload_n 1, 1) := by decide +kernel
theorem dX7_ofShelf_59 : decode cX7_ofShelf 59 = .ok (.invokevirtual 332, 3) := by decide +kernel
theorem dX7_ofShelf_62 : decode cX7_ofShelf 62 = .ok (.ireturn, 1) := by decide +kernel
theorem dX7_ofShelf_63 : decode cX7_ofShelf 63 = .ok (.new 78, 3) := by decide +kernel
theorem dX7_ofShelf_66 : decode cX7_ofShelf 66 = .ok (.dup, 1) := by decide +kernel
theorem dX7_ofShelf_67 : decode cX7_ofShelf 67 = .ok (.ldc_w 335, 3) := by decide +kernel
theorem dX7_ofShelf_70 : decode cX7_ofShelf 70 = .ok (.invokespecial 82, 3) := by decide +kernel
theorem dX7_ofShelf_73 : decode cX7_ofShelf 73 = .ok (.athrow, 1) := by decide +kernel
theorem dX7_many_0 : decode cX7_many 0 = .ok (.iload_n 1, 1) := by decide +kernel
theorem dX7_many_1 : decode cX7_many 1 = .ok (.tableswitch 231 0 15 #[79, 84, 92, 108, 130, 152, 160, 165, 171, 177, 184, 192, 200, 205, 210, 215], 79) := by decide +kernel
theorem dX7_many_80 : decode cX7_many 80 = .ok (.aload_n 0, 1) := by decide +kernel
theorem dX7_many_81 : decode cX7_many 81 = .ok (.getfield 65, 3) := by decide +kernel
theorem dX7_many_84 : decode cX7_many 84 = .ok (.ireturn, 1) := by decide +kernel
theorem dX7_many_85 : decode cX7_many 85 = .ok (.aload_n 0, 1) := by decide +kernel
theorem dX7_many_86 : decode cX7_many 86 = .ok (.getfield 58, 3) := by decide +kernel
theorem dX7_many_89 : decode cX7_many 89 = .ok (.getfield 337, 3) := by decide +kernel
theorem dX7_many_92 : decode cX7_many 92 = .ok (.ireturn, 1) := by decide +kernel
theorem dX7_many_93 : decode cX7_many 93 = .ok (.aload_n 0, 1) := by decide +kernel
theorem dX7_many_94 : decode cX7_many 94 = .ok (.getfield 58, 3) := by decide +kernel
theorem dX7_many_97 : decode cX7_many 97 = .ok (.getfield 204, 3) := by decide +kernel
theorem dX7_many_100 : decode cX7_many 100 = .ok (.ifCond .eq 7, 3) := by decide +kernel
theorem dX7_many_103 : decode cX7_many 103 = .ok (.iconst 1, 1) := by decide +kernel
theorem dX7_many_104 : decode cX7_many 104 = .ok (.goto 4, 3) := by decide +kernel
theorem dX7_many_107 : decode cX7_many 107 = .ok (.iconst 0, 1) := by decide +kernel
theorem dX7_many_108 : decode cX7_many 108 = .ok (.ireturn, 1) := by decide +kernel
theorem dX7_many_109 : decode cX7_many 109 = .ok (.aload_n 0, 1) := by decide +kernel
theorem dX7_many_110 : decode cX7_many 110 = .ok (.getfield 58, 3) := by decide +kernel
theorem dX7_many_113 : decode cX7_many 113 = .ok (.getfield 204, 3) := by decide +kernel
theorem dX7_many_116 : decode cX7_many 116 = .ok (.ifCond .eq 13, 3) := by decide +kernel
theorem dX7_many_119 : decode cX7_many 119 = .ok (.aload_n 0, 1) := by decide +kernel
theorem dX7_many_120 : decode cX7_many 120 = .ok (.getfield 58, 3) := by decide +kernel
theorem dX7_many_123 : decode cX7_many 123 = .ok (.getfield 340, 3) := by decide +kernel
theorem dX7_many_126 : decode cX7_many 126 = .ok (.goto 4, 3) := by decide +kernel
theorem dX7_many_129 : decode cX7_many 129 = .ok (.iconst (-1), 1) := by decide +kernel
theorem dX7_many_130 : decode cX7_many 130 = .ok (.ireturn, 1) := by decide +kernel
theorem dX7_many_131 : decode cX7_many 131 = .ok (.aload_n 0, 1) := by decide +kernel
theorem dX7_many_132 : decode cX7_many 132 = .ok (.getfield 58, 3) := by decide +kernel
theorem dX7_many_135 : decode cX7_many 135 = .ok (.getfield 204, 3) := by decide +kernel
theorem dX7_many_138 : decode cX7_many 138 = .ok (.ifCond .eq 13, 3) := by decide +kernel
theorem dX7_many_141 : decode cX7_many 141 = .ok (.aload_n 0, 1) := by decide +kernel
theorem dX7_many_142 : decode cX7_many 142 = .ok (.getfield 58, 3) := by decide +kernel
theorem dX7_many_145 : decode cX7_many 145 = .ok (.getfield 343, 3) := by decide +kernel
theorem dX7_many_148 : decode cX7_many 148 = .ok (.goto 4, 3) := by decide +kernel
theorem dX7_many_151 : decode cX7_many 151 = .ok (.iconst 0, 1) := by decide +kernel
theorem dX7_many_152 : decode cX7_many 152 = .ok (.ireturn, 1) := by decide +kernel
theorem dX7_many_153 : decode cX7_many 153 = .ok (.aload_n 0, 1) := by decide +kernel
theorem dX7_many_154 : decode cX7_many 154 = .ok (.getfield 49, 3) := by decide +kernel
theorem dX7_many_157 : decode cX7_many 157 = .ok (.getfield 207, 3) := by decide +kernel
theorem dX7_many_160 : decode cX7_many 160 = .ok (.ireturn, 1) := by decide +kernel
theorem dX7_many_161 : decode cX7_many 161 = .ok (.aload_n 0, 1) := by decide +kernel
theorem dX7_many_162 : decode cX7_many 162 = .ok (.getfield 40, 3) := by decide +kernel
theorem dX7_many_165 : decode cX7_many 165 = .ok (.ireturn, 1) := by decide +kernel
theorem dX7_many_166 : decode cX7_many 166 = .ok (.aload_n 0, 1) := by decide +kernel
theorem dX7_many_167 : decode cX7_many 167 = .ok (.iconst 4, 1) := by decide +kernel
theorem dX7_many_168 : decode cX7_many 168 = .ok (.invokevirtual 133, 3) := by decide +kernel
theorem dX7_many_171 : decode cX7_many 171 = .ok (.ireturn, 1) := by decide +kernel
theorem dX7_many_172 : decode cX7_many 172 = .ok (.aload_n 0, 1) := by decide +kernel
theorem dX7_many_173 : decode cX7_many 173 = .ok (.iconst 5, 1) := by decide +kernel
theorem dX7_many_174 : decode cX7_many 174 = .ok (.invokevirtual 133, 3) := by decide +kernel
theorem dX7_many_177 : decode cX7_many 177 = .ok (.ireturn, 1) := by decide +kernel
theorem dX7_many_178 : decode cX7_many 178 = .ok (.aload_n 0, 1) := by decide +kernel
theorem dX7_many_179 : decode cX7_many 179 = .ok (.bipush 6, 2) := by decide +kernel
theorem dX7_many_181 : decode cX7_many 181 = .ok (.invokevirtual 133, 3) := by decide +kernel
theorem dX7_many_184 : decode cX7_many 184 = .ok (.ireturn, 1) := by decide +kernel
theorem dX7_many_185 : decode cX7_many 185 = .ok (.aload_n 0, 1) := by decide +kernel
theorem dX7_many_186 : decode cX7_many 186 = .ok (.getfield 58, 3) := by decide +kernel
theorem dX7_many_189 : decode cX7_many 189 = .ok (.getfield 346, 3) := by decide +kernel
theorem dX7_many_192 : decode cX7_many 192 = .ok (.ireturn, 1) := by decide +kernel
theorem dX7_many_193 : decode cX7_many 193 = .ok (.aload_n 0, 1) := by decide +kernel
theorem dX7_many_194 : decode cX7_many 194 = .ok (.getfield 58, 3) := by decide +kernel
theorem dX7_many_197 : decode cX7_many 197 = .ok (.getfield 349, 3) := by decide +kernel
theorem dX7_many_200 : decode cX7_many 200 = .ok (.ireturn, 1) := by decide +kernel
theorem dX7_many_201 : decode cX7_many 201 = .ok (.aload_n 0, 1) := by decide +kernel
theorem dX7_many_202 : decode cX7_many 202 = .ok (.getfield 68, 3) := by decide +kernel
theorem dX7_many_205 : decode cX7_many 205 = .ok (.ireturn, 1) := by decide +kernel
theorem dX7_many_206 : decode cX7_many 206 = .ok (.aload_n 0, 1) := by decide +kernel
theorem dX7_many_207 : decode cX7_many 207 = .ok (.invokevirtual 352, 3) := by decide +kernel
theorem dX7_many_210 : decode cX7_many 210 = .ok (.ireturn, 1) := by decide +kernel
theorem dX7_many_211 : decode cX7_many 211 = .ok (.aload_n 0, 1) := by decide +kernel
theorem dX7_many_212 : decode cX7_many 212 = .ok (.getfield 71, 3) := by decide +kernel
theorem dX7_many_215 : decode cX7_many 215 = .ok (.ireturn, 1) := by decide +kernel
theorem dX7_many_216 : decode cX7_many 216 = .ok (.aload_n 0, 1) := by decide +kernel
theorem dX7_many_217 : decode cX7_many 217 = .ok (.getfield 58, 3) := by decide +kernel
theorem dX7_many_220 : decode cX7_many 220 = .ok (.getfield 245, 3) := by decide +kernel
theorem dX7_many_223 : decode cX7_many 223 = .ok (.ifCond .eq 7, 3) := by decide +kernel
theorem dX7_many_226 : decode cX7_many 226 = .ok (.iconst 1, 1) := by decide +kernel
theorem dX7_many_227 : decode cX7_many 227 = .ok (.goto 4, 3) := by decide +kernel
theorem dX7_many_230 : decode cX7_many 230 = .ok (.iconst 0, 1) := by decide +kernel
theorem dX7_many_231 : decode cX7_many 231 = .ok (.ireturn, 1) := by decide +kernel
theorem dX7_many_232 : decode cX7_many 232 = .ok (.new 78, 3) := by decide +kernel
theorem dX7_many_235 : decode cX7_many 235 = .ok (.dup, 1) := by decide +kernel
theorem dX7_many_236 : decode cX7_many 236 = .ok (.ldc_w 355, 3) := by decide +kernel
theorem dX7_many_239 : decode cX7_many 239 = .ok (.invokespecial 82, 3) := by decide +kernel
theorem dX7_many_242 : decode cX7_many 242 = .ok (.athrow, 1) := by decide +kernel
theorem dX7_wouldCone_0 : decode cX7_wouldCone 0 = .ok (.iload_n 1, 1) := by decide +kernel
theorem dX7_wouldCone_1 : decode cX7_wouldCone 1 = .ok (.invokestatic 153, 3) := by decide +kernel
theorem dX7_wouldCone_4 : decode cX7_wouldCone 4 = .ok (.iload_n 2, 1) := by decide +kernel
theorem dX7_wouldCone_5 : decode cX7_wouldCone 5 = .ok (.invokestatic 231, 3) := by decide +kernel
theorem dX7_wouldCone_8 : decode cX7_wouldCone 8 = .ok (.aload_n 0, 1) := by decide +kernel
theorem dX7_wouldCone_9 : decode cX7_wouldCone 9 = .ok (.getfield 62, 3) := by decide +kernel
theorem dX7_wouldCone_12 : decode cX7_wouldCone 12 = .ok (.aload_n 0, 1) := by decide +kernel
theorem dX7_wouldCone_13 : decode cX7_wouldCone 13 = .ok (.getfield 58, 3) := by decide +kernel
theorem dX7_wouldCone_16 : decode cX7_wouldCone 16 = .ok (.invokevirtual 357, 3) := by decide +kernel
theorem dX7_wouldCone_19 : decode cX7_wouldCone 19 = .ok (.iconst 0, 1) := by decide +kernel
theorem dX7_wouldCone_20 : decode cX7_wouldCone 20 = .ok (.istore_n 3, 1) := by decide +kernel
theorem dX7_wouldCone_21 : decode cX7_wouldCone 21 = .ok (.iload_n 3, 1) := by decide +kernel
theorem dX7_wouldCone_22 : decode cX7_wouldCone 22 = .ok (.iload_n 2, 1) := by decide +kernel
theorem dX7_wouldCone_23 : decode cX7_wouldCone 23 = .ok (.if_icmp .ge 16, 3) := by decide +kernel
theorem dX7_wouldCone_26 : decode cX7_wouldCone 26 = .ok (.aload_n 0, 1) := by decide +kernel
theorem dX7_wouldCone_27 : decode cX7_wouldCone 27 = .ok (.getfield 62, 3) := by decide +kernel
theorem dX7_wouldCone_30 : decode cX7_wouldCone 30 = .ok (.invokevirtual 234, 3) := by decide +kernel
theorem dX7_wouldCone_33 : decode cX7_wouldCone 33 = .ok (.iinc 3 1, 3) := by decide +kernel
theorem dX7_wouldCone_36 : decode cX7_wouldCone 36 = .ok (.goto (-15), 3) := by decide +kernel
theorem dX7_wouldCone_39 : decode cX7_wouldCone 39 = .ok (.aload_n 0, 1) := by decide +kernel
theorem dX7_wouldCone_40 : decode cX7_wouldCone 40 = .ok (.getfield 62, 3) := by decide +kernel
theorem dX7_wouldCone_43 : decode cX7_wouldCone 43 = .ok (.iload_n 1, 1) := by decide +kernel
theorem dX7_wouldCone_44 : decode cX7_wouldCone 44 = .ok (.invokevirtual 250, 3) := by decide +kernel
theorem dX7_wouldCone_47 : decode cX7_wouldCone 47 = .ok (.ireturn, 1) := by decide +kernel
theorem dX7_wouldEnd_0 : decode cX7_wouldEnd 0 = .ok (.aload_n 0, 1) := by decide +kernel
theorem dX7_wouldEnd_1 : decode cX7_wouldEnd 1 = .ok (.getfield 62, 3) := by decide +kernel
theorem dX7_wouldEnd_4 : decode cX7_wouldEnd 4 = .ok (.aload_n 0, 1) := by decide +kernel
theorem dX7_wouldEnd_5 : decode cX7_wouldEnd 5 = .ok (.getfield 58, 3) := by decide +kernel
theorem dX7_wouldEnd_8 : decode cX7_wouldEnd 8 = .ok (.invokevirtual 357, 3) := by decide +kernel
theorem dX7_wouldEnd_11 : decode cX7_wouldEnd 11 = .ok (.iconst 0, 1) := by decide +kernel
theorem dX7_wouldEnd_12 : decode cX7_wouldEnd 12 = .ok (.istore_n 1, 1) := by decide +kernel
theorem dX7_wouldEnd_13 : decode cX7_wouldEnd 13 = .ok (.iload_n 1, 1) := by decide +kernel
theorem dX7_wouldEnd_14 : decode cX7_wouldEnd 14 = .ok (.sipush 300, 3) := by decide +kernel
theorem dX7_wouldEnd_17 : decode cX7_wouldEnd 17 = .ok (.if_icmp .ge 28, 3) := by decide +kernel
theorem dX7_wouldEnd_20 : decode cX7_wouldEnd 20 = .ok (.aload_n 0, 1) := by decide +kernel
theorem dX7_wouldEnd_21 : decode cX7_wouldEnd 21 = .ok (.getfield 62, 3) := by decide +kernel
theorem dX7_wouldEnd_24 : decode cX7_wouldEnd 24 = .ok (.getfield 204, 3) := by decide +kernel
theorem dX7_wouldEnd_27 : decode cX7_wouldEnd 27 = .ok (.ifCond .ne 5, 3) := by decide +kernel
theorem dX7_wouldEnd_30 : decode cX7_wouldEnd 30 = .ok (.iload_n 1, 1) := by decide +kernel
theorem dX7_wouldEnd_31 : decode cX7_wouldEnd 31 = .ok (.ireturn, 1) := by decide +kernel
theorem dX7_wouldEnd_32 : decode cX7_wouldEnd 32 = .ok (.aload_n 0, 1) := by decide +kernel
theorem dX7_wouldEnd_33 : decode cX7_wouldEnd 33 = .ok (.getfield 62, 3) := by decide +kernel
theorem dX7_wouldEnd_36 : decode cX7_wouldEnd 36 = .ok (.invokevirtual 234, 3) := by decide +kernel
theorem dX7_wouldEnd_39 : decode cX7_wouldEnd 39 = .ok (.iinc 1 1, 3) := by decide +kernel
theorem dX7_wouldEnd_42 : decode cX7_wouldEnd 42 = .ok (.goto (-29), 3) := by decide +kernel
theorem dX7_wouldEnd_45 : decode cX7_wouldEnd 45 = .ok (.aload_n 0, 1) := by decide +kernel
theorem dX7_wouldEnd_46 : decode cX7_wouldEnd 46 = .ok (.getfield 62, 3) := by decide +kernel
theorem dX7_wouldEnd_49 : decode cX7_wouldEnd 49 = .ok (.getfield 204, 3) := by decide +kernel
theorem dX7_wouldEnd_52 : decode cX7_wouldEnd 52 = .ok (.ifCond .eq 7, 3) := by decide +kernel
theorem dX7_wouldEnd_55 : decode cX7_wouldEnd 55 = .ok (.iconst (-1), 1) := by decide +kernel
theorem dX7_wouldEnd_56 : decode cX7_wouldEnd 56 = .ok (.goto 6, 3) := by decide +kernel
theorem dX7_wouldEnd_59 : decode cX7_wouldEnd 59 = .ok (.sipush 300, 3) := by decide +kernel
theorem dX7_wouldEnd_62 : decode cX7_wouldEnd 62 = .ok (.ireturn, 1) := by decide +kernel
theorem dX7_best_0 : decode cX7_best 0 = .ok (.aload_n 0, 1) := by decide +kernel
theorem dX7_best_1 : decode cX7_best 1 = .ok (.iload_n 1, 1) := by decide +kernel
theorem dX7_best_2 : decode cX7_best 2 = .ok (.invokevirtual 106, 3) := by decide +kernel
theorem dX7_best_5 : decode cX7_best 5 = .ok (.astore_n 3, 1) := by decide +kernel
theorem dX7_best_6 : decode cX7_best 6 = .ok (.iload_n 2, 1) := by decide +kernel
theorem dX7_best_7 : decode cX7_best 7 = .ok (.iconst 1, 1) := by decide +kernel
theorem dX7_best_8 : decode cX7_best 8 = .ok (.bipush 12, 2) := by decide +kernel
theorem dX7_best_10 : decode cX7_best 10 = .ok (.invokestatic 74, 3) := by decide +kernel
theorem dX7_best_13 : decode cX7_best 13 = .ok (.ifCond .ne 14, 3) := by decide +kernel
theorem dX7_best_16 : decode cX7_best 16 = .ok (.new 78, 3) := by decide +kernel
theorem dX7_best_19 : decode cX7_best 19 = .ok (.dup, 1) := by decide +kernel
theorem dX7_best_20 : decode cX7_best 20 = .ok (.ldc_w 361, 3) := by decide +kernel
theorem dX7_best_23 : decode cX7_best 23 = .ok (.invokespecial 82, 3) := by decide +kernel
theorem dX7_best_26 : decode cX7_best 26 = .ok (.athrow, 1) := by decide +kernel
theorem dX7_best_27 : decode cX7_best 27 = .ok (.aconst_null, 1) := by decide +kernel
theorem dX7_best_28 : decode cX7_best 28 = .ok (.astore 4, 2) := by decide +kernel
theorem dX7_best_30 : decode cX7_best 30 = .ok (.aload_n 0, 1) := by decide +kernel
theorem dX7_best_31 : decode cX7_best 31 = .ok (.getfield 17, 3) := by decide +kernel
theorem dX7_best_34 : decode cX7_best 34 = .ok (.astore 5, 2) := by decide +kernel
theorem dX7_best_36 : decode cX7_best 36 = .ok (.aload 5, 2) := by decide +kernel
theorem dX7_best_38 : decode cX7_best 38 = .ok (.arraylength, 1) := by decide +kernel
theorem dX7_best_39 : decode cX7_best 39 = .ok (.istore 6, 2) := by decide +kernel
theorem dX7_best_41 : decode cX7_best 41 = .ok (.iconst 0, 1) := by decide +kernel
theorem dX7_best_42 : decode cX7_best 42 = .ok (.istore 7, 2) := by decide +kernel
theorem dX7_best_44 : decode cX7_best 44 = .ok (.iload 7, 2) := by decide +kernel
theorem dX7_best_46 : decode cX7_best 46 = .ok (.iload 6, 2) := by decide +kernel
theorem dX7_best_48 : decode cX7_best 48 = .ok (.if_icmp .ge 56, 3) := by decide +kernel
theorem dX7_best_51 : decode cX7_best 51 = .ok (.aload 5, 2) := by decide +kernel
theorem dX7_best_53 : decode cX7_best 53 = .ok (.iload 7, 2) := by decide +kernel
theorem dX7_best_55 : decode cX7_best 55 = .ok (.aaload, 1) := by decide +kernel
theorem dX7_best_56 : decode cX7_best 56 = .ok (.astore 8, 2) := by decide +kernel
theorem dX7_best_58 : decode cX7_best 58 = .ok (.aload 8, 2) := by decide +kernel
theorem dX7_best_60 : decode cX7_best 60 = .ok (.ifnull 38, 3) := by decide +kernel
theorem dX7_best_63 : decode cX7_best 63 = .ok (.aload 8, 2) := by decide +kernel
theorem dX7_best_65 : decode cX7_best 65 = .ok (.aload_n 3, 1) := by decide +kernel
theorem dX7_best_66 : decode cX7_best 66 = .ok (.iload_n 2, 1) := by decide +kernel
theorem dX7_best_67 : decode cX7_best 67 = .ok (.invokevirtual 363, 3) := by decide +kernel
theorem dX7_best_70 : decode cX7_best 70 = .ok (.ifCond .ne 28, 3) := by decide +kernel
theorem dX7_best_73 : decode cX7_best 73 = .ok (.aload 4, 2) := by decide +kernel
theorem dX7_best_75 : decode cX7_best 75 = .ok (.ifnull 19, 3) := by decide +kernel
theorem dX7_best_78 : decode cX7_best 78 = .ok (.aload 8, 2) := by decide +kernel
theorem dX7_best_80 : decode cX7_best 80 = .ok (.aload_n 3, 1) := by decide +kernel
theorem dX7_best_81 : decode cX7_best 81 = .ok (.invokevirtual 367, 3) := by decide +kernel
theorem dX7_best_84 : decode cX7_best 84 = .ok (.aload 4, 2) := by decide +kernel
theorem dX7_best_86 : decode cX7_best 86 = .ok (.aload_n 3, 1) := by decide +kernel
theorem dX7_best_87 : decode cX7_best 87 = .ok (.invokevirtual 367, 3) := by decide +kernel
theorem dX7_best_90 : decode cX7_best 90 = .ok (.dcmp .g, 1) := by decide +kernel
theorem dX7_best_91 : decode cX7_best 91 = .ok (.ifCond .ge 7, 3) := by decide +kernel
theorem dX7_best_94 : decode cX7_best 94 = .ok (.aload 8, 2) := by decide +kernel
theorem dX7_best_96 : decode cX7_best 96 = .ok (.astore 4, 2) := by decide +kernel
theorem dX7_best_98 : decode cX7_best 98 = .ok (.iinc 7 1, 3) := by decide +kernel
theorem dX7_best_101 : decode cX7_best 101 = .ok (.goto (-57), 3) := by decide +kernel
theorem dX7_best_104 : decode cX7_best 104 = .ok (.aload 4, 2) := by decide +kernel
theorem dX7_best_106 : decode cX7_best 106 = .ok (.ifnonnull 7, 3) := by decide +kernel
theorem dX7_best_109 : decode cX7_best 109 = .ok (.iconst (-1), 1) := by decide +kernel
theorem dX7_best_110 : decode cX7_best 110 = .ok (.goto 8, 3) := by decide +kernel
theorem dX7_best_113 : decode cX7_best 113 = .ok (.aload 4, 2) := by decide +kernel
theorem dX7_best_115 : decode cX7_best 115 = .ok (.getfield 263, 3) := by decide +kernel
theorem dX7_best_118 : decode cX7_best 118 = .ok (.ireturn, 1) := by decide +kernel
theorem dX7_wouldHold_0 : decode cX7_wouldHold 0 = .ok (.iload_n 1, 1) := by decide +kernel
theorem dX7_wouldHold_1 : decode cX7_wouldHold 1 = .ok (.invokestatic 153, 3) := by decide +kernel
theorem dX7_wouldHold_4 : decode cX7_wouldHold 4 = .ok (.aload_n 0, 1) := by decide +kernel
theorem dX7_wouldHold_5 : decode cX7_wouldHold 5 = .ok (.iload_n 1, 1) := by decide +kernel
theorem dX7_wouldHold_6 : decode cX7_wouldHold 6 = .ok (.invokestatic 171, 3) := by decide +kernel
theorem dX7_wouldHold_9 : decode cX7_wouldHold 9 = .ok (.invokevirtual 371, 3) := by decide +kernel
theorem dX7_wouldHold_12 : decode cX7_wouldHold 12 = .ok (.istore_n 2, 1) := by decide +kernel
theorem dX7_wouldHold_13 : decode cX7_wouldHold 13 = .ok (.aload_n 0, 1) := by decide +kernel
theorem dX7_wouldHold_14 : decode cX7_wouldHold 14 = .ok (.iload_n 1, 1) := by decide +kernel
theorem dX7_wouldHold_15 : decode cX7_wouldHold 15 = .ok (.invokevirtual 332, 3) := by decide +kernel
theorem dX7_wouldHold_18 : decode cX7_wouldHold 18 = .ok (.istore_n 3, 1) := by decide +kernel
theorem dX7_wouldHold_19 : decode cX7_wouldHold 19 = .ok (.iload_n 3, 1) := by decide +kernel
theorem dX7_wouldHold_20 : decode cX7_wouldHold 20 = .ok (.ifCond .le 19, 3) := by decide +kernel
theorem dX7_wouldHold_23 : decode cX7_wouldHold 23 = .ok (.iload_n 2, 1) := by decide +kernel
theorem dX7_wouldHold_24 : decode cX7_wouldHold 24 = .ok (.iload_n 3, 1) := by decide +kernel
theorem dX7_wouldHold_25 : decode cX7_wouldHold 25 = .ok (.ishr, 1) := by decide +kernel
theorem dX7_wouldHold_26 : decode cX7_wouldHold 26 = .ok (.iconst 1, 1) := by decide +kernel
theorem dX7_wouldHold_27 : decode cX7_wouldHold 27 = .ok (.iand, 1) := by decide +kernel
theorem dX7_wouldHold_28 : decode cX7_wouldHold 28 = .ok (.ifCond .eq 5, 3) := by decide +kernel
theorem dX7_wouldHold_31 : decode cX7_wouldHold 31 = .ok (.iload_n 3, 1) := by decide +kernel
theorem dX7_wouldHold_32 : decode cX7_wouldHold 32 = .ok (.ireturn, 1) := by decide +kernel
theorem dX7_wouldHold_33 : decode cX7_wouldHold 33 = .ok (.iinc 3 (-1), 3) := by decide +kernel
theorem dX7_wouldHold_36 : decode cX7_wouldHold 36 = .ok (.goto (-17), 3) := by decide +kernel
theorem dX7_wouldHold_39 : decode cX7_wouldHold 39 = .ok (.iconst 0, 1) := by decide +kernel
theorem dX7_wouldHold_40 : decode cX7_wouldHold 40 = .ok (.ireturn, 1) := by decide +kernel
theorem dX7_digest_0 : decode cX7_digest 0 = .ok (.ldc2_w 374, 3) := by decide +kernel
theorem dX7_digest_3 : decode cX7_digest 3 = .ok (.lstore_n 1, 1) := by decide +kernel
theorem dX7_digest_4 : decode cX7_digest 4 = .ok (.iconst 0, 1) := by decide +kernel
theorem dX7_digest_5 : decode cX7_digest 5 = .ok (.istore_n 3, 1) := by decide +kernel
theorem dX7_digest_6 : decode cX7_digest 6 = .ok (.iload_n 3, 1) := by decide +kernel
theorem dX7_digest_7 : decode cX7_digest 7 = .ok (.bipush 16, 2) := by decide +kernel
theorem dX7_digest_9 : decode cX7_digest 9 = .ok (.if_icmp .ge 22, 3) := by decide +kernel
theorem dX7_digest_12 : decode cX7_digest 12 = .ok (.lload_n 1, 1) := by decide +kernel
theorem dX7_digest_13 : decode cX7_digest 13 = .ok (.ldc2_w 376, 3) := by decide +kernel
theorem dX7_digest_16 : decode cX7_digest 16 = .ok (.lmul, 1) := by decide +kernel
theorem dX7_digest_17 : decode cX7_digest 17 = .ok (.aload_n 0, 1) := by decide +kernel
theorem dX7_digest_18 : decode cX7_digest 18 = .ok (.iload_n 3, 1) := by decide +kernel
theorem dX7_digest_19 : decode cX7_digest 19 = .ok (.invokevirtual 378, 3) := by decide +kernel
theorem dX7_digest_22 : decode cX7_digest 22 = .ok (.i2l, 1) := by decide +kernel
theorem dX7_digest_23 : decode cX7_digest 23 = .ok (.ladd, 1) := by decide +kernel
theorem dX7_digest_24 : decode cX7_digest 24 = .ok (.lstore_n 1, 1) := by decide +kernel
theorem dX7_digest_25 : decode cX7_digest 25 = .ok (.iinc 3 1, 3) := by decide +kernel
theorem dX7_digest_28 : decode cX7_digest 28 = .ok (.goto (-22), 3) := by decide +kernel
theorem dX7_digest_31 : decode cX7_digest 31 = .ok (.iconst 0, 1) := by decide +kernel
theorem dX7_digest_32 : decode cX7_digest 32 = .ok (.istore_n 3, 1) := by decide +kernel
theorem dX7_digest_33 : decode cX7_digest 33 = .ok (.iload_n 3, 1) := by decide +kernel
theorem dX7_digest_34 : decode cX7_digest 34 = .ok (.aload_n 0, 1) := by decide +kernel
theorem dX7_digest_35 : decode cX7_digest 35 = .ok (.getfield 40, 3) := by decide +kernel
theorem dX7_digest_38 : decode cX7_digest 38 = .ok (.if_icmp .ge 16, 3) := by decide +kernel
theorem dX7_digest_41 : decode cX7_digest 41 = .ok (.aload_n 0, 1) := by decide +kernel
theorem dX7_digest_42 : decode cX7_digest 42 = .ok (.lload_n 1, 1) := by decide +kernel
theorem dX7_digest_43 : decode cX7_digest 43 = .ok (.iload_n 3, 1) := by decide +kernel
theorem dX7_digest_44 : decode cX7_digest 44 = .ok (.invokevirtual 381, 3) := by decide +kernel
theorem dX7_digest_47 : decode cX7_digest 47 = .ok (.lstore_n 1, 1) := by decide +kernel
theorem dX7_digest_48 : decode cX7_digest 48 = .ok (.iinc 3 1, 3) := by decide +kernel
theorem dX7_digest_51 : decode cX7_digest 51 = .ok (.goto (-18), 3) := by decide +kernel
theorem dX7_digest_54 : decode cX7_digest 54 = .ok (.iconst 0, 1) := by decide +kernel
theorem dX7_digest_55 : decode cX7_digest 55 = .ok (.istore_n 3, 1) := by decide +kernel
theorem dX7_digest_56 : decode cX7_digest 56 = .ok (.iload_n 3, 1) := by decide +kernel
theorem dX7_digest_57 : decode cX7_digest 57 = .ok (.aload_n 0, 1) := by decide +kernel
theorem dX7_digest_58 : decode cX7_digest 58 = .ok (.getfield 37, 3) := by decide +kernel
theorem dX7_digest_61 : decode cX7_digest 61 = .ok (.if_icmp .ge 41, 3) := by decide +kernel
theorem dX7_digest_64 : decode cX7_digest 64 = .ok (.lload_n 1, 1) := by decide +kernel
theorem dX7_digest_65 : decode cX7_digest 65 = .ok (.ldc2_w 376, 3) := by decide +kernel
theorem dX7_digest_68 : decode cX7_digest 68 = .ok (.lmul, 1) := by decide +kernel
theorem dX7_digest_69 : decode cX7_digest 69 = .ok (.ldc2_w 385, 3) := by decide +kernel
theorem dX7_digest_72 : decode cX7_digest 72 = .ok (.aload_n 0, 1) := by decide +kernel
theorem dX7_digest_73 : decode cX7_digest 73 = .ok (.iload_n 3, 1) := by decide +kernel
theorem dX7_digest_74 : decode cX7_digest 74 = .ok (.iconst 0, 1) := by decide +kernel
theorem dX7_digest_75 : decode cX7_digest 75 = .ok (.invokevirtual 387, 3) := by decide +kernel
theorem dX7_digest_78 : decode cX7_digest 78 = .ok (.dmul, 1) := by decide +kernel
theorem dX7_digest_79 : decode cX7_digest 79 = .ok (.d2l, 1) := by decide +kernel
theorem dX7_digest_80 : decode cX7_digest 80 = .ok (.ladd, 1) := by decide +kernel
theorem dX7_digest_81 : decode cX7_digest 81 = .ok (.lstore_n 1, 1) := by decide +kernel
theorem dX7_digest_82 : decode cX7_digest 82 = .ok (.lload_n 1, 1) := by decide +kernel
theorem dX7_digest_83 : decode cX7_digest 83 = .ok (.ldc2_w 376, 3) := by decide +kernel
theorem dX7_digest_86 : decode cX7_digest 86 = .ok (.lmul, 1) := by decide +kernel
theorem dX7_digest_87 : decode cX7_digest 87 = .ok (.aload_n 0, 1) := by decide +kernel
theorem dX7_digest_88 : decode cX7_digest 88 = .ok (.iload_n 3, 1) := by decide +kernel
theorem dX7_digest_89 : decode cX7_digest 89 = .ok (.iconst 2, 1) := by decide +kernel
theorem dX7_digest_90 : decode cX7_digest 90 = .ok (.invokevirtual 387, 3) := by decide +kernel
theorem dX7_digest_93 : decode cX7_digest 93 = .ok (.d2l, 1) := by decide +kernel
theorem dX7_digest_94 : decode cX7_digest 94 = .ok (.ladd, 1) := by decide +kernel
theorem dX7_digest_95 : decode cX7_digest 95 = .ok (.lstore_n 1, 1) := by decide +kernel
theorem dX7_digest_96 : decode cX7_digest 96 = .ok (.iinc 3 1, 3) := by decide +kernel
theorem dX7_digest_99 : decode cX7_digest 99 = .ok (.goto (-43), 3) := by decide +kernel
theorem dX7_digest_102 : decode cX7_digest 102 = .ok (.iconst 0, 1) := by decide +kernel
theorem dX7_digest_103 : decode cX7_digest 103 = .ok (.istore_n 3, 1) := by decide +kernel
theorem dX7_digest_104 : decode cX7_digest 104 = .ok (.iload_n 3, 1) := by decide +kernel
theorem dX7_digest_105 : decode cX7_digest 105 = .ok (.iconst 3, 1) := by decide +kernel
theorem dX7_digest_106 : decode cX7_digest 106 = .ok (.if_icmp .ge 16, 3) := by decide +kernel
theorem dX7_digest_109 : decode cX7_digest 109 = .ok (.aload_n 0, 1) := by decide +kernel
theorem dX7_digest_110 : decode cX7_digest 110 = .ok (.lload_n 1, 1) := by decide +kernel
theorem dX7_digest_111 : decode cX7_digest 111 = .ok (.iload_n 3, 1) := by decide +kernel
theorem dX7_digest_112 : decode cX7_digest 112 = .ok (.invokevirtual 391, 3) := by decide +kernel
theorem dX7_digest_115 : decode cX7_digest 115 = .ok (.lstore_n 1, 1) := by decide +kernel
theorem dX7_digest_116 : decode cX7_digest 116 = .ok (.iinc 3 1, 3) := by decide +kernel
theorem dX7_digest_119 : decode cX7_digest 119 = .ok (.goto (-15), 3) := by decide +kernel
theorem dX7_digest_122 : decode cX7_digest 122 = .ok (.lload_n 1, 1) := by decide +kernel
theorem dX7_digest_123 : decode cX7_digest 123 = .ok (.ldc2_w 376, 3) := by decide +kernel
theorem dX7_digest_126 : decode cX7_digest 126 = .ok (.lmul, 1) := by decide +kernel
theorem dX7_digest_127 : decode cX7_digest 127 = .ok (.ldc2_w 385, 3) := by decide +kernel
theorem dX7_digest_130 : decode cX7_digest 130 = .ok (.aload_n 0, 1) := by decide +kernel
theorem dX7_digest_131 : decode cX7_digest 131 = .ok (.iconst 0, 1) := by decide +kernel
theorem dX7_digest_132 : decode cX7_digest 132 = .ok (.invokevirtual 394, 3) := by decide +kernel
theorem dX7_digest_135 : decode cX7_digest 135 = .ok (.dmul, 1) := by decide +kernel
theorem dX7_digest_136 : decode cX7_digest 136 = .ok (.d2l, 1) := by decide +kernel
theorem dX7_digest_137 : decode cX7_digest 137 = .ok (.ladd, 1) := by decide +kernel
theorem dX7_digest_138 : decode cX7_digest 138 = .ok (.lstore_n 1, 1) := by decide +kernel
theorem dX7_digest_139 : decode cX7_digest 139 = .ok (.lload_n 1, 1) := by decide +kernel
theorem dX7_digest_140 : decode cX7_digest 140 = .ok (.ldc2_w 376, 3) := by decide +kernel
theorem dX7_digest_143 : decode cX7_digest 143 = .ok (.lmul, 1) := by decide +kernel
theorem dX7_digest_144 : decode cX7_digest 144 = .ok (.ldc2_w 385, 3) := by decide +kernel
theorem dX7_digest_147 : decode cX7_digest 147 = .ok (.aload_n 0, 1) := by decide +kernel
theorem dX7_digest_148 : decode cX7_digest 148 = .ok (.iconst 1, 1) := by decide +kernel
theorem dX7_digest_149 : decode cX7_digest 149 = .ok (.invokevirtual 394, 3) := by decide +kernel
theorem dX7_digest_152 : decode cX7_digest 152 = .ok (.dmul, 1) := by decide +kernel
theorem dX7_digest_153 : decode cX7_digest 153 = .ok (.d2l, 1) := by decide +kernel
theorem dX7_digest_154 : decode cX7_digest 154 = .ok (.ladd, 1) := by decide +kernel
theorem dX7_digest_155 : decode cX7_digest 155 = .ok (.lstore_n 1, 1) := by decide +kernel
theorem dX7_digest_156 : decode cX7_digest 156 = .ok (.lload_n 1, 1) := by decide +kernel
theorem dX7_digest_157 : decode cX7_digest 157 = .ok (.ldc2_w 376, 3) := by decide +kernel
theorem dX7_digest_160 : decode cX7_digest 160 = .ok (.lmul, 1) := by decide +kernel
theorem dX7_digest_161 : decode cX7_digest 161 = .ok (.aload_n 0, 1) := by decide +kernel
theorem dX7_digest_162 : decode cX7_digest 162 = .ok (.invokevirtual 397, 3) := by decide +kernel
theorem dX7_digest_165 : decode cX7_digest 165 = .ok (.i2l, 1) := by decide +kernel
theorem dX7_digest_166 : decode cX7_digest 166 = .ok (.ladd, 1) := by decide +kernel
theorem dX7_digest_167 : decode cX7_digest 167 = .ok (.lreturn, 1) := by decide +kernel
theorem dX7_withPot_0 : decode cX7_withPot 0 = .ok (.iconst 0, 1) := by decide +kernel
theorem dX7_withPot_1 : decode cX7_withPot 1 = .ok (.istore 4, 2) := by decide +kernel
theorem dX7_withPot_3 : decode cX7_withPot 3 = .ok (.iload 4, 2) := by decide +kernel
theorem dX7_withPot_5 : decode cX7_withPot 5 = .ok (.bipush 8, 2) := by decide +kernel
theorem dX7_withPot_7 : decode cX7_withPot 7 = .ok (.if_icmp .ge 24, 3) := by decide +kernel
theorem dX7_withPot_10 : decode cX7_withPot 10 = .ok (.lload_n 1, 1) := by decide +kernel
theorem dX7_withPot_11 : decode cX7_withPot 11 = .ok (.ldc2_w 376, 3) := by decide +kernel
theorem dX7_withPot_14 : decode cX7_withPot 14 = .ok (.lmul, 1) := by decide +kernel
theorem dX7_withPot_15 : decode cX7_withPot 15 = .ok (.aload_n 0, 1) := by decide +kernel
theorem dX7_withPot_16 : decode cX7_withPot 16 = .ok (.iload_n 3, 1) := by decide +kernel
theorem dX7_withPot_17 : decode cX7_withPot 17 = .ok (.iload 4, 2) := by decide +kernel
theorem dX7_withPot_19 : decode cX7_withPot 19 = .ok (.invokevirtual 400, 3) := by decide +kernel
theorem dX7_withPot_22 : decode cX7_withPot 22 = .ok (.i2l, 1) := by decide +kernel
theorem dX7_withPot_23 : decode cX7_withPot 23 = .ok (.ladd, 1) := by decide +kernel
theorem dX7_withPot_24 : decode cX7_withPot 24 = .ok (.lstore_n 1, 1) := by decide +kernel
theorem dX7_withPot_25 : decode cX7_withPot 25 = .ok (.iinc 4 1, 3) := by decide +kernel
theorem dX7_withPot_28 : decode cX7_withPot 28 = .ok (.goto (-25), 3) := by decide +kernel
theorem dX7_withPot_31 : decode cX7_withPot 31 = .ok (.lload_n 1, 1) := by decide +kernel
theorem dX7_withPot_32 : decode cX7_withPot 32 = .ok (.ldc2_w 376, 3) := by decide +kernel
theorem dX7_withPot_35 : decode cX7_withPot 35 = .ok (.lmul, 1) := by decide +kernel
theorem dX7_withPot_36 : decode cX7_withPot 36 = .ok (.ldc2_w 385, 3) := by decide +kernel
theorem dX7_withPot_39 : decode cX7_withPot 39 = .ok (.aload_n 0, 1) := by decide +kernel
theorem dX7_withPot_40 : decode cX7_withPot 40 = .ok (.iload_n 3, 1) := by decide +kernel
theorem dX7_withPot_41 : decode cX7_withPot 41 = .ok (.invokevirtual 403, 3) := by decide +kernel
theorem dX7_withPot_44 : decode cX7_withPot 44 = .ok (.dmul, 1) := by decide +kernel
theorem dX7_withPot_45 : decode cX7_withPot 45 = .ok (.d2l, 1) := by decide +kernel
theorem dX7_withPot_46 : decode cX7_withPot 46 = .ok (.ladd, 1) := by decide +kernel
theorem dX7_withPot_47 : decode cX7_withPot 47 = .ok (.lreturn, 1) := by decide +kernel
theorem dX7_withShelf_0 : decode cX7_withShelf 0 = .ok (.iconst 0, 1) := by decide +kernel
theorem dX7_withShelf_1 : decode cX7_withShelf 1 = .ok (.istore 4, 2) := by decide +kernel
theorem dX7_withShelf_3 : decode cX7_withShelf 3 = .ok (.iload 4, 2) := by decide +kernel
theorem dX7_withShelf_5 : decode cX7_withShelf 5 = .ok (.iconst 4, 1) := by decide +kernel
theorem dX7_withShelf_6 : decode cX7_withShelf 6 = .ok (.if_icmp .ge 24, 3) := by decide +kernel
theorem dX7_withShelf_9 : decode cX7_withShelf 9 = .ok (.lload_n 1, 1) := by decide +kernel
theorem dX7_withShelf_10 : decode cX7_withShelf 10 = .ok (.ldc2_w 376, 3) := by decide +kernel
theorem dX7_withShelf_13 : decode cX7_withShelf 13 = .ok (.lmul, 1) := by decide +kernel
theorem dX7_withShelf_14 : decode cX7_withShelf 14 = .ok (.aload_n 0, 1) := by decide +kernel
theorem dX7_withShelf_15 : decode cX7_withShelf 15 = .ok (.iload_n 3, 1) := by decide +kernel
theorem dX7_withShelf_16 : decode cX7_withShelf 16 = .ok (.iload 4, 2) := by decide +kernel
theorem dX7_withShelf_18 : decode cX7_withShelf 18 = .ok (.invokevirtual 405, 3) := by decide +kernel
theorem dX7_withShelf_21 : decode cX7_withShelf 21 = .ok (.i2l, 1) := by decide +kernel
theorem dX7_withShelf_22 : decode cX7_withShelf 22 = .ok (.ladd, 1) := by decide +kernel
theorem dX7_withShelf_23 : decode cX7_withShelf 23 = .ok (.lstore_n 1, 1) := by decide +kernel
theorem dX7_withShelf_24 : decode cX7_withShelf 24 = .ok (.iinc 4 1, 3) := by decide +kernel
theorem dX7_withShelf_27 : decode cX7_withShelf 27 = .ok (.goto (-24), 3) := by decide +kernel
theorem dX7_withShelf_30 : decode cX7_withShelf 30 = .ok (.lload_n 1, 1) := by decide +kernel
theorem dX7_withShelf_31 : decode cX7_withShelf 31 = .ok (.ldc2_w 376, 3) := by decide +kernel
theorem dX7_withShelf_34 : decode cX7_withShelf 34 = .ok (.lmul, 1) := by decide +kernel
theorem dX7_withShelf_35 : decode cX7_withShelf 35 = .ok (.aload_n 0, 1) := by decide +kernel
theorem dX7_withShelf_36 : decode cX7_withShelf 36 = .ok (.iload_n 3, 1) := by decide +kernel
theorem dX7_withShelf_37 : decode cX7_withShelf 37 = .ok (.invokevirtual 408, 3) := by decide +kernel
theorem dX7_withShelf_40 : decode cX7_withShelf 40 = .ok (.i2l, 1) := by decide +kernel
theorem dX7_withShelf_41 : decode cX7_withShelf 41 = .ok (.ladd, 1) := by decide +kernel
theorem dX7_withShelf_42 : decode cX7_withShelf 42 = .ok (.lstore_n 1, 1) := by decide +kernel
theorem dX7_withShelf_43 : decode cX7_withShelf 43 = .ok (.lload_n 1, 1) := by decide +kernel
theorem dX7_withShelf_44 : decode cX7_withShelf 44 = .ok (.ldc2_w 376, 3) := by decide +kernel
theorem dX7_withShelf_47 : decode cX7_withShelf 47 = .ok (.lmul, 1) := by decide +kernel
theorem dX7_withShelf_48 : decode cX7_withShelf 48 = .ok (.aload_n 0, 1) := by decide +kernel
theorem dX7_withShelf_49 : decode cX7_withShelf 49 = .ok (.iload_n 3, 1) := by decide +kernel
theorem dX7_withShelf_50 : decode cX7_withShelf 50 = .ok (.bipush 20, 2) := by decide +kernel
theorem dX7_withShelf_52 : decode cX7_withShelf 52 = .ok (.invokevirtual 411, 3) := by decide +kernel
theorem dX7_withShelf_55 : decode cX7_withShelf 55 = .ok (.i2l, 1) := by decide +kernel
theorem dX7_withShelf_56 : decode cX7_withShelf 56 = .ok (.ladd, 1) := by decide +kernel
theorem dX7_withShelf_57 : decode cX7_withShelf 57 = .ok (.lreturn, 1) := by decide +kernel
theorem dX7_isWithin_0 : decode cX7_isWithin 0 = .ok (.iload_n 0, 1) := by decide +kernel
theorem dX7_isWithin_1 : decode cX7_isWithin 1 = .ok (.iload_n 1, 1) := by decide +kernel
theorem dX7_isWithin_2 : decode cX7_isWithin 2 = .ok (.if_icmp .lt 12, 3) := by decide +kernel
theorem dX7_isWithin_5 : decode cX7_isWithin 5 = .ok (.iload_n 0, 1) := by decide +kernel
theorem dX7_isWithin_6 : decode cX7_isWithin 6 = .ok (.iload_n 2, 1) := by decide +kernel
theorem dX7_isWithin_7 : decode cX7_isWithin 7 = .ok (.if_icmp .gt 7, 3) := by decide +kernel
theorem dX7_isWithin_10 : decode cX7_isWithin 10 = .ok (.iconst 1, 1) := by decide +kernel
theorem dX7_isWithin_11 : decode cX7_isWithin 11 = .ok (.goto 4, 3) := by decide +kernel
theorem dX7_isWithin_14 : decode cX7_isWithin 14 = .ok (.iconst 0, 1) := by decide +kernel
theorem dX7_isWithin_15 : decode cX7_isWithin 15 = .ok (.ireturn, 1) := by decide +kernel
theorem dX7_isPart_0 : decode cX7_isPart 0 = .ok (.iload_n 0, 1) := by decide +kernel
theorem dX7_isPart_1 : decode cX7_isPart 1 = .ok (.iconst 0, 1) := by decide +kernel
theorem dX7_isPart_2 : decode cX7_isPart 2 = .ok (.bipush 60, 2) := by decide +kernel
theorem dX7_isPart_4 : decode cX7_isPart 4 = .ok (.invokestatic 74, 3) := by decide +kernel
theorem dX7_isPart_7 : decode cX7_isPart 7 = .ok (.ireturn, 1) := by decide +kernel
theorem dX7_testShelf_0 : decode cX7_testShelf 0 = .ok (.iload_n 0, 1) := by decide +kernel
theorem dX7_testShelf_1 : decode cX7_testShelf 1 = .ok (.iconst 0, 1) := by decide +kernel
theorem dX7_testShelf_2 : decode cX7_testShelf 2 = .ok (.iconst 2, 1) := by decide +kernel
theorem dX7_testShelf_3 : decode cX7_testShelf 3 = .ok (.invokestatic 74, 3) := by decide +kernel
theorem dX7_testShelf_6 : decode cX7_testShelf 6 = .ok (.ifCond .ne 14, 3) := by decide +kernel
theorem dX7_testShelf_9 : decode cX7_testShelf 9 = .ok (.new 156, 3) := by decide +kernel
theorem dX7_testShelf_12 : decode cX7_testShelf 12 = .ok (.dup, 1) := by decide +kernel
theorem dX7_testShelf_13 : decode cX7_testShelf 13 = .ok (.ldc_w 414, 3) := by decide +kernel
theorem dX7_testShelf_16 : decode cX7_testShelf 16 = .ok (.invokespecial 160, 3) := by decide +kernel
theorem dX7_testShelf_19 : decode cX7_testShelf 19 = .ok (.athrow, 1) := by decide +kernel
theorem dX7_testShelf_20 : decode cX7_testShelf 20 = .ok (.return_, 1) := by decide +kernel
theorem dX7_testSteps_0 : decode cX7_testSteps 0 = .ok (.iload_n 0, 1) := by decide +kernel
theorem dX7_testSteps_1 : decode cX7_testSteps 1 = .ok (.iconst 1, 1) := by decide +kernel
theorem dX7_testSteps_2 : decode cX7_testSteps 2 = .ok (.bipush 60, 2) := by decide +kernel
theorem dX7_testSteps_4 : decode cX7_testSteps 4 = .ok (.invokestatic 74, 3) := by decide +kernel
theorem dX7_testSteps_7 : decode cX7_testSteps 7 = .ok (.ifCond .ne 14, 3) := by decide +kernel
theorem dX7_testSteps_10 : decode cX7_testSteps 10 = .ok (.new 78, 3) := by decide +kernel
theorem dX7_testSteps_13 : decode cX7_testSteps 13 = .ok (.dup, 1) := by decide +kernel
theorem dX7_testSteps_14 : decode cX7_testSteps 14 = .ok (.ldc_w 416, 3) := by decide +kernel
theorem dX7_testSteps_17 : decode cX7_testSteps 17 = .ok (.invokespecial 82, 3) := by decide +kernel
theorem dX7_testSteps_20 : decode cX7_testSteps 20 = .ok (.athrow, 1) := by decide +kernel
theorem dX7_testSteps_21 : decode cX7_testSteps 21 = .ok (.return_, 1) := by decide +kernel
theorem dX7_clayAt_0 : decode cX7_clayAt 0 = .ok (.iload_n 1, 1) := by decide +kernel
theorem dX7_clayAt_1 : decode cX7_clayAt 1 = .ok (.ifCond .lt 21, 3) := by decide +kernel
theorem dX7_clayAt_4 : decode cX7_clayAt 4 = .ok (.iload_n 1, 1) := by decide +kernel
theorem dX7_clayAt_5 : decode cX7_clayAt 5 = .ok (.aload_n 0, 1) := by decide +kernel
theorem dX7_clayAt_6 : decode cX7_clayAt 6 = .ok (.getfield 11, 3) := by decide +kernel
theorem dX7_clayAt_9 : decode cX7_clayAt 9 = .ok (.arraylength, 1) := by decide +kernel
theorem dX7_clayAt_10 : decode cX7_clayAt 10 = .ok (.if_icmp .ge 12, 3) := by decide +kernel
theorem dX7_clayAt_13 : decode cX7_clayAt 13 = .ok (.aload_n 0, 1) := by decide +kernel
theorem dX7_clayAt_14 : decode cX7_clayAt 14 = .ok (.getfield 11, 3) := by decide +kernel
theorem dX7_clayAt_17 : decode cX7_clayAt 17 = .ok (.iload_n 1, 1) := by decide +kernel
theorem dX7_clayAt_18 : decode cX7_clayAt 18 = .ok (.aaload, 1) := by decide +kernel
theorem dX7_clayAt_19 : decode cX7_clayAt 19 = .ok (.goto 4, 3) := by decide +kernel
theorem dX7_clayAt_22 : decode cX7_clayAt 22 = .ok (.aconst_null, 1) := by decide +kernel
theorem dX7_clayAt_23 : decode cX7_clayAt 23 = .ok (.astore_n 2, 1) := by decide +kernel
theorem dX7_clayAt_24 : decode cX7_clayAt 24 = .ok (.aload_n 2, 1) := by decide +kernel
theorem dX7_clayAt_25 : decode cX7_clayAt 25 = .ok (.ifnonnull 14, 3) := by decide +kernel
theorem dX7_clayAt_28 : decode cX7_clayAt 28 = .ok (.new 156, 3) := by decide +kernel
theorem dX7_clayAt_31 : decode cX7_clayAt 31 = .ok (.dup, 1) := by decide +kernel
theorem dX7_clayAt_32 : decode cX7_clayAt 32 = .ok (.ldc_w 418, 3) := by decide +kernel
theorem dX7_clayAt_35 : decode cX7_clayAt 35 = .ok (.invokespecial 160, 3) := by decide +kernel
theorem dX7_clayAt_38 : decode cX7_clayAt 38 = .ok (.athrow, 1) := by decide +kernel
theorem dX7_clayAt_39 : decode cX7_clayAt 39 = .ok (.aload_n 2, 1) := by decide +kernel
theorem dX7_clayAt_40 : decode cX7_clayAt 40 = .ok (.areturn, 1) := by decide +kernel
theorem dX7_glazeAt_0 : decode cX7_glazeAt 0 = .ok (.iload_n 1, 1) := by decide +kernel
theorem dX7_glazeAt_1 : decode cX7_glazeAt 1 = .ok (.ifCond .lt 21, 3) := by decide +kernel
theorem dX7_glazeAt_4 : decode cX7_glazeAt 4 = .ok (.iload_n 1, 1) := by decide +kernel
theorem dX7_glazeAt_5 : decode cX7_glazeAt 5 = .ok (.aload_n 0, 1) := by decide +kernel
theorem dX7_glazeAt_6 : decode cX7_glazeAt 6 = .ok (.getfield 17, 3) := by decide +kernel
theorem dX7_glazeAt_9 : decode cX7_glazeAt 9 = .ok (.arraylength, 1) := by decide +kernel
theorem dX7_glazeAt_10 : decode cX7_glazeAt 10 = .ok (.if_icmp .ge 12, 3) := by decide +kernel
theorem dX7_glazeAt_13 : decode cX7_glazeAt 13 = .ok (.aload_n 0, 1) := by decide +kernel
theorem dX7_glazeAt_14 : decode cX7_glazeAt 14 = .ok (.getfield 17, 3) := by decide +kernel
theorem dX7_glazeAt_17 : decode cX7_glazeAt 17 = .ok (.iload_n 1, 1) := by decide +kernel
theorem dX7_glazeAt_18 : decode cX7_glazeAt 18 = .ok (.aaload, 1) := by decide +kernel
theorem dX7_glazeAt_19 : decode cX7_glazeAt 19 = .ok (.goto 4, 3) := by decide +kernel
theorem dX7_glazeAt_22 : decode cX7_glazeAt 22 = .ok (.aconst_null, 1) := by decide +kernel
theorem dX7_glazeAt_23 : decode cX7_glazeAt 23 = .ok (.astore_n 2, 1) := by decide +kernel
theorem dX7_glazeAt_24 : decode cX7_glazeAt 24 = .ok (.aload_n 2, 1) := by decide +kernel
theorem dX7_glazeAt_25 : decode cX7_glazeAt 25 = .ok (.ifnonnull 14, 3) := by decide +kernel
theorem dX7_glazeAt_28 : decode cX7_glazeAt 28 = .ok (.new 156, 3) := by decide +kernel
theorem dX7_glazeAt_31 : decode cX7_glazeAt 31 = .ok (.dup, 1) := by decide +kernel
theorem dX7_glazeAt_32 : decode cX7_glazeAt 32 = .ok (.ldc_w 420, 3) := by decide +kernel
theorem dX7_glazeAt_35 : decode cX7_glazeAt 35 = .ok (.invokespecial 160, 3) := by decide +kernel
theorem dX7_glazeAt_38 : decode cX7_glazeAt 38 = .ok (.athrow, 1) := by decide +kernel
theorem dX7_glazeAt_39 : decode cX7_glazeAt 39 = .ok (.aload_n 2, 1) := by decide +kernel
theorem dX7_glazeAt_40 : decode cX7_glazeAt 40 = .ok (.areturn, 1) := by decide +kernel
theorem dX7_potAt_0 : decode cX7_potAt 0 = .ok (.iload_n 1, 1) := by decide +kernel
theorem dX7_potAt_1 : decode cX7_potAt 1 = .ok (.ifCond .lt 21, 3) := by decide +kernel
theorem dX7_potAt_4 : decode cX7_potAt 4 = .ok (.iload_n 1, 1) := by decide +kernel
theorem dX7_potAt_5 : decode cX7_potAt 5 = .ok (.aload_n 0, 1) := by decide +kernel
theorem dX7_potAt_6 : decode cX7_potAt 6 = .ok (.getfield 23, 3) := by decide +kernel
theorem dX7_potAt_9 : decode cX7_potAt 9 = .ok (.arraylength, 1) := by decide +kernel
theorem dX7_potAt_10 : decode cX7_potAt 10 = .ok (.if_icmp .ge 12, 3) := by decide +kernel
theorem dX7_potAt_13 : decode cX7_potAt 13 = .ok (.aload_n 0, 1) := by decide +kernel
theorem dX7_potAt_14 : decode cX7_potAt 14 = .ok (.getfield 23, 3) := by decide +kernel
theorem dX7_potAt_17 : decode cX7_potAt 17 = .ok (.iload_n 1, 1) := by decide +kernel
theorem dX7_potAt_18 : decode cX7_potAt 18 = .ok (.aaload, 1) := by decide +kernel
theorem dX7_potAt_19 : decode cX7_potAt 19 = .ok (.goto 4, 3) := by decide +kernel
theorem dX7_potAt_22 : decode cX7_potAt 22 = .ok (.aconst_null, 1) := by decide +kernel
theorem dX7_potAt_23 : decode cX7_potAt 23 = .ok (.astore_n 2, 1) := by decide +kernel
theorem dX7_potAt_24 : decode cX7_potAt 24 = .ok (.aload_n 2, 1) := by decide +kernel
theorem dX7_potAt_25 : decode cX7_potAt 25 = .ok (.ifnonnull 14, 3) := by decide +kernel
theorem dX7_potAt_28 : decode cX7_potAt 28 = .ok (.new 156, 3) := by decide +kernel
theorem dX7_potAt_31 : decode cX7_potAt 31 = .ok (.dup, 1) := by decide +kernel
theorem dX7_potAt_32 : decode cX7_potAt 32 = .ok (.ldc_w 422, 3) := by decide +kernel
theorem dX7_potAt_35 : decode cX7_potAt 35 = .ok (.invokespecial 160, 3) := by decide +kernel
theorem dX7_potAt_38 : decode cX7_potAt 38 = .ok (.athrow, 1) := by decide +kernel
theorem dX7_potAt_39 : decode cX7_potAt 39 = .ok (.aload_n 2, 1) := by decide +kernel
theorem dX7_potAt_40 : decode cX7_potAt 40 = .ok (.areturn, 1) := by decide +kernel
theorem dX7_dryOneDay_0 : decode cX7_dryOneDay 0 = .ok (.aload_n 0, 1) := by decide +kernel
theorem dX7_dryOneDay_1 : decode cX7_dryOneDay 1 = .ok (.dup, 1) := by decide +kernel
theorem dX7_dryOneDay_2 : decode cX7_dryOneDay 2 = .ok (.getfield 65, 3) := by decide +kernel
theorem dX7_dryOneDay_5 : decode cX7_dryOneDay 5 = .ok (.iconst 1, 1) := by decide +kernel
theorem dX7_dryOneDay_6 : decode cX7_dryOneDay 6 = .ok (.iadd, 1) := by decide +kernel
theorem dX7_dryOneDay_7 : decode cX7_dryOneDay 7 = .ok (.putfield 65, 3) := by decide +kernel
theorem dX7_dryOneDay_10 : decode cX7_dryOneDay 10 = .ok (.aload_n 0, 1) := by decide +kernel
theorem dX7_dryOneDay_11 : decode cX7_dryOneDay 11 = .ok (.getfield 23, 3) := by decide +kernel
theorem dX7_dryOneDay_14 : decode cX7_dryOneDay 14 = .ok (.astore_n 2, 1) := by decide +kernel
theorem dX7_dryOneDay_15 : decode cX7_dryOneDay 15 = .ok (.aload_n 2, 1) := by decide +kernel
theorem dX7_dryOneDay_16 : decode cX7_dryOneDay 16 = .ok (.arraylength, 1) := by decide +kernel
theorem dX7_dryOneDay_17 : decode cX7_dryOneDay 17 = .ok (.istore_n 3, 1) := by decide +kernel
theorem dX7_dryOneDay_18 : decode cX7_dryOneDay 18 = .ok (.iconst 0, 1) := by decide +kernel
theorem dX7_dryOneDay_19 : decode cX7_dryOneDay 19 = .ok (.istore 4, 2) := by decide +kernel
theorem dX7_dryOneDay_21 : decode cX7_dryOneDay 21 = .ok (.iload 4, 2) := by decide +kernel
theorem dX7_dryOneDay_23 : decode cX7_dryOneDay 23 = .ok (.iload_n 3, 1) := by decide +kernel
theorem dX7_dryOneDay_24 : decode cX7_dryOneDay 24 = .ok (.if_icmp .ge 26, 3) := by decide +kernel
theorem dX7_dryOneDay_27 : decode cX7_dryOneDay 27 = .ok (.aload_n 2, 1) := by decide +kernel
theorem dX7_dryOneDay_28 : decode cX7_dryOneDay 28 = .ok (.iload 4, 2) := by decide +kernel
theorem dX7_dryOneDay_30 : decode cX7_dryOneDay 30 = .ok (.aaload, 1) := by decide +kernel
theorem dX7_dryOneDay_31 : decode cX7_dryOneDay 31 = .ok (.astore 5, 2) := by decide +kernel
theorem dX7_dryOneDay_33 : decode cX7_dryOneDay 33 = .ok (.aload 5, 2) := by decide +kernel
theorem dX7_dryOneDay_35 : decode cX7_dryOneDay 35 = .ok (.ifnull 9, 3) := by decide +kernel
theorem dX7_dryOneDay_38 : decode cX7_dryOneDay 38 = .ok (.aload 5, 2) := by decide +kernel
theorem dX7_dryOneDay_40 : decode cX7_dryOneDay 40 = .ok (.iload_n 1, 1) := by decide +kernel
theorem dX7_dryOneDay_41 : decode cX7_dryOneDay 41 = .ok (.invokevirtual 426, 3) := by decide +kernel
theorem dX7_dryOneDay_44 : decode cX7_dryOneDay 44 = .ok (.iinc 4 1, 3) := by decide +kernel
theorem dX7_dryOneDay_47 : decode cX7_dryOneDay 47 = .ok (.goto (-26), 3) := by decide +kernel
theorem dX7_dryOneDay_50 : decode cX7_dryOneDay 50 = .ok (.return_, 1) := by decide +kernel
theorem dX7_heatPots_0 : decode cX7_heatPots 0 = .ok (.aload_n 0, 1) := by decide +kernel
theorem dX7_heatPots_1 : decode cX7_heatPots 1 = .ok (.getfield 58, 3) := by decide +kernel
theorem dX7_heatPots_4 : decode cX7_heatPots 4 = .ok (.getfield 242, 3) := by decide +kernel
theorem dX7_heatPots_7 : decode cX7_heatPots 7 = .ok (.iconst 3, 1) := by decide +kernel
theorem dX7_heatPots_8 : decode cX7_heatPots 8 = .ok (.if_icmp .lt 7, 3) := by decide +kernel
theorem dX7_heatPots_11 : decode cX7_heatPots 11 = .ok (.iconst 1, 1) := by decide +kernel
theorem dX7_heatPots_12 : decode cX7_heatPots 12 = .ok (.goto 4, 3) := by decide +kernel
theorem dX7_heatPots_15 : decode cX7_heatPots 15 = .ok (.iconst 0, 1) := by decide +kernel
theorem dX7_heatPots_16 : decode cX7_heatPots 16 = .ok (.istore_n 1, 1) := by decide +kernel
theorem dX7_heatPots_17 : decode cX7_heatPots 17 = .ok (.aload_n 0, 1) := by decide +kernel
theorem dX7_heatPots_18 : decode cX7_heatPots 18 = .ok (.getfield 23, 3) := by decide +kernel
theorem dX7_heatPots_21 : decode cX7_heatPots 21 = .ok (.astore_n 2, 1) := by decide +kernel
theorem dX7_heatPots_22 : decode cX7_heatPots 22 = .ok (.aload_n 2, 1) := by decide +kernel
theorem dX7_heatPots_23 : decode cX7_heatPots 23 = .ok (.arraylength, 1) := by decide +kernel
theorem dX7_heatPots_24 : decode cX7_heatPots 24 = .ok (.istore_n 3, 1) := by decide +kernel
theorem dX7_heatPots_25 : decode cX7_heatPots 25 = .ok (.iconst 0, 1) := by decide +kernel
theorem dX7_heatPots_26 : decode cX7_heatPots 26 = .ok (.istore 4, 2) := by decide +kernel
theorem dX7_heatPots_28 : decode cX7_heatPots 28 = .ok (.iload 4, 2) := by decide +kernel
theorem dX7_heatPots_30 : decode cX7_heatPots 30 = .ok (.iload_n 3, 1) := by decide +kernel
theorem dX7_heatPots_31 : decode cX7_heatPots 31 = .ok (.if_icmp .ge 73, 3) := by decide +kernel
theorem dX7_heatPots_34 : decode cX7_heatPots 34 = .ok (.aload_n 2, 1) := by decide +kernel
theorem dX7_heatPots_35 : decode cX7_heatPots 35 = .ok (.iload 4, 2) := by decide +kernel
theorem dX7_heatPots_37 : decode cX7_heatPots 37 = .ok (.aaload, 1) := by decide +kernel
theorem dX7_heatPots_38 : decode cX7_heatPots 38 = .ok (.astore 5, 2) := by decide +kernel
theorem dX7_heatPots_40 : decode cX7_heatPots 40 = .ok (.aload 5, 2) := by decide +kernel
theorem dX7_heatPots_42 : decode cX7_heatPots 42 = .ok (.ifnull 56, 3) := by decide +kernel
theorem dX7_heatPots_45 : decode cX7_heatPots 45 = .ok (.aload 5, 2) := by decide +kernel
theorem dX7_heatPots_47 : decode cX7_heatPots 47 = .ok (.getfield 188, 3) := by decide +kernel
theorem dX7_heatPots_50 : decode cX7_heatPots 50 = .ok (.iconst (-1), 1) := by decide +kernel
theorem dX7_heatPots_51 : decode cX7_heatPots 51 = .ok (.if_icmp .eq 47, 3) := by decide +kernel
theorem dX7_heatPots_54 : decode cX7_heatPots 54 = .ok (.aload 5, 2) := by decide +kernel
theorem dX7_heatPots_56 : decode cX7_heatPots 56 = .ok (.getfield 188, 3) := by decide +kernel
theorem dX7_heatPots_59 : decode cX7_heatPots 59 = .ok (.aload_n 0, 1) := by decide +kernel
theorem dX7_heatPots_60 : decode cX7_heatPots 60 = .ok (.getfield 58, 3) := by decide +kernel
theorem dX7_heatPots_63 : decode cX7_heatPots 63 = .ok (.getfield 429, 3) := by decide +kernel
theorem dX7_heatPots_66 : decode cX7_heatPots 66 = .ok (.invokestatic 432, 3) := by decide +kernel
theorem dX7_heatPots_69 : decode cX7_heatPots 69 = .ok (.dstore 6, 2) := by decide +kernel
theorem dX7_heatPots_71 : decode cX7_heatPots 71 = .ok (.aload 5, 2) := by decide +kernel
theorem dX7_heatPots_73 : decode cX7_heatPots 73 = .ok (.getfield 188, 3) := by decide +kernel
theorem dX7_heatPots_76 : decode cX7_heatPots 76 = .ok (.aload_n 0, 1) := by decide +kernel
theorem dX7_heatPots_77 : decode cX7_heatPots 77 = .ok (.getfield 58, 3) := by decide +kernel
theorem dX7_heatPots_80 : decode cX7_heatPots 80 = .ok (.getfield 317, 3) := by decide +kernel
theorem dX7_heatPots_83 : decode cX7_heatPots 83 = .ok (.invokestatic 432, 3) := by decide +kernel
theorem dX7_heatPots_86 : decode cX7_heatPots 86 = .ok (.dstore 8, 2) := by decide +kernel
theorem dX7_heatPots_88 : decode cX7_heatPots 88 = .ok (.aload 5, 2) := by decide +kernel
theorem dX7_heatPots_90 : decode cX7_heatPots 90 = .ok (.dload 6, 2) := by decide +kernel
theorem dX7_heatPots_92 : decode cX7_heatPots 92 = .ok (.dload 8, 2) := by decide +kernel
theorem dX7_heatPots_94 : decode cX7_heatPots 94 = .ok (.iload_n 1, 1) := by decide +kernel
theorem dX7_heatPots_95 : decode cX7_heatPots 95 = .ok (.invokevirtual 436, 3) := by decide +kernel
theorem dX7_heatPots_98 : decode cX7_heatPots 98 = .ok (.iinc 4 1, 3) := by decide +kernel
theorem dX7_heatPots_101 : decode cX7_heatPots 101 = .ok (.goto (-73), 3) := by decide +kernel
theorem dX7_heatPots_104 : decode cX7_heatPots 104 = .ok (.return_, 1) := by decide +kernel
theorem dX7_potsInState_0 : decode cX7_potsInState 0 = .ok (.iconst 0, 1) := by decide +kernel
theorem dX7_potsInState_1 : decode cX7_potsInState 1 = .ok (.istore_n 2, 1) := by decide +kernel
theorem dX7_potsInState_2 : decode cX7_potsInState 2 = .ok (.aload_n 0, 1) := by decide +kernel
theorem dX7_potsInState_3 : decode cX7_potsInState 3 = .ok (.getfield 23, 3) := by decide +kernel
theorem dX7_potsInState_6 : decode cX7_potsInState 6 = .ok (.astore_n 3, 1) := by decide +kernel
theorem dX7_potsInState_7 : decode cX7_potsInState 7 = .ok (.aload_n 3, 1) := by decide +kernel
theorem dX7_potsInState_8 : decode cX7_potsInState 8 = .ok (.arraylength, 1) := by decide +kernel
theorem dX7_potsInState_9 : decode cX7_potsInState 9 = .ok (.istore 4, 2) := by decide +kernel
theorem dX7_potsInState_11 : decode cX7_potsInState 11 = .ok (.iconst 0, 1) := by decide +kernel
theorem dX7_potsInState_12 : decode cX7_potsInState 12 = .ok (.istore 5, 2) := by decide +kernel
theorem dX7_potsInState_14 : decode cX7_potsInState 14 = .ok (.iload 5, 2) := by decide +kernel
theorem dX7_potsInState_16 : decode cX7_potsInState 16 = .ok (.iload 4, 2) := by decide +kernel
theorem dX7_potsInState_18 : decode cX7_potsInState 18 = .ok (.if_icmp .ge 37, 3) := by decide +kernel
theorem dX7_potsInState_21 : decode cX7_potsInState 21 = .ok (.aload_n 3, 1) := by decide +kernel
theorem dX7_potsInState_22 : decode cX7_potsInState 22 = .ok (.iload 5, 2) := by decide +kernel
theorem dX7_potsInState_24 : decode cX7_potsInState 24 = .ok (.aaload, 1) := by decide +kernel
theorem dX7_potsInState_25 : decode cX7_potsInState 25 = .ok (.astore 6, 2) := by decide +kernel
theorem dX7_potsInState_27 : decode cX7_potsInState 27 = .ok (.iload_n 2, 1) := by decide +kernel
theorem dX7_potsInState_28 : decode cX7_potsInState 28 = .ok (.aload 6, 2) := by decide +kernel
theorem dX7_potsInState_30 : decode cX7_potsInState 30 = .ok (.ifnull 16, 3) := by decide +kernel
theorem dX7_potsInState_33 : decode cX7_potsInState 33 = .ok (.aload 6, 2) := by decide +kernel
theorem dX7_potsInState_35 : decode cX7_potsInState 35 = .ok (.getfield 141, 3) := by decide +kernel
theorem dX7_potsInState_38 : decode cX7_potsInState 38 = .ok (.iload_n 1, 1) := by decide +kernel
theorem dX7_potsInState_39 : decode cX7_potsInState 39 = .ok (.if_icmp .ne 7, 3) := by decide +kernel
theorem dX7_potsInState_42 : decode cX7_potsInState 42 = .ok (.iconst 1, 1) := by decide +kernel
theorem dX7_potsInState_43 : decode cX7_potsInState 43 = .ok (.goto 4, 3) := by decide +kernel
theorem dX7_potsInState_46 : decode cX7_potsInState 46 = .ok (.iconst 0, 1) := by decide +kernel
theorem dX7_potsInState_47 : decode cX7_potsInState 47 = .ok (.iadd, 1) := by decide +kernel
theorem dX7_potsInState_48 : decode cX7_potsInState 48 = .ok (.istore_n 2, 1) := by decide +kernel
theorem dX7_potsInState_49 : decode cX7_potsInState 49 = .ok (.iinc 5 1, 3) := by decide +kernel
theorem dX7_potsInState_52 : decode cX7_potsInState 52 = .ok (.goto (-38), 3) := by decide +kernel
theorem dX7_potsInState_55 : decode cX7_potsInState 55 = .ok (.iload_n 2, 1) := by decide +kernel
theorem dX7_potsInState_56 : decode cX7_potsInState 56 = .ok (.ireturn, 1) := by decide +kernel
theorem dX7_potsOn_0 : decode cX7_potsOn 0 = .ok (.iconst 0, 1) := by decide +kernel
theorem dX7_potsOn_1 : decode cX7_potsOn 1 = .ok (.istore_n 2, 1) := by decide +kernel
theorem dX7_potsOn_2 : decode cX7_potsOn 2 = .ok (.aload_n 0, 1) := by decide +kernel
theorem dX7_potsOn_3 : decode cX7_potsOn 3 = .ok (.getfield 23, 3) := by decide +kernel
theorem dX7_potsOn_6 : decode cX7_potsOn 6 = .ok (.astore_n 3, 1) := by decide +kernel
theorem dX7_potsOn_7 : decode cX7_potsOn 7 = .ok (.aload_n 3, 1) := by decide +kernel
theorem dX7_potsOn_8 : decode cX7_potsOn 8 = .ok (.arraylength, 1) := by decide +kernel
theorem dX7_potsOn_9 : decode cX7_potsOn 9 = .ok (.istore 4, 2) := by decide +kernel
theorem dX7_potsOn_11 : decode cX7_potsOn 11 = .ok (.iconst 0, 1) := by decide +kernel
theorem dX7_potsOn_12 : decode cX7_potsOn 12 = .ok (.istore 5, 2) := by decide +kernel
theorem dX7_potsOn_14 : decode cX7_potsOn 14 = .ok (.iload 5, 2) := by decide +kernel
theorem dX7_potsOn_16 : decode cX7_potsOn 16 = .ok (.iload 4, 2) := by decide +kernel
theorem dX7_potsOn_18 : decode cX7_potsOn 18 = .ok (.if_icmp .ge 37, 3) := by decide +kernel
theorem dX7_potsOn_21 : decode cX7_potsOn 21 = .ok (.aload_n 3, 1) := by decide +kernel
theorem dX7_potsOn_22 : decode cX7_potsOn 22 = .ok (.iload 5, 2) := by decide +kernel
theorem dX7_potsOn_24 : decode cX7_potsOn 24 = .ok (.aaload, 1) := by decide +kernel
theorem dX7_potsOn_25 : decode cX7_potsOn 25 = .ok (.astore 6, 2) := by decide +kernel
theorem dX7_potsOn_27 : decode cX7_potsOn 27 = .ok (.iload_n 2, 1) := by decide +kernel
theorem dX7_potsOn_28 : decode cX7_potsOn 28 = .ok (.aload 6, 2) := by decide +kernel
theorem dX7_potsOn_30 : decode cX7_potsOn 30 = .ok (.ifnull 16, 3) := by decide +kernel
theorem dX7_potsOn_33 : decode cX7_potsOn 33 = .ok (.aload 6, 2) := by decide +kernel
theorem dX7_potsOn_35 : decode cX7_potsOn 35 = .ok (.getfield 188, 3) := by decide +kernel
theorem dX7_potsOn_38 : decode cX7_potsOn 38 = .ok (.iload_n 1, 1) := by decide +kernel
theorem dX7_potsOn_39 : decode cX7_potsOn 39 = .ok (.if_icmp .ne 7, 3) := by decide +kernel
theorem dX7_potsOn_42 : decode cX7_potsOn 42 = .ok (.iconst 1, 1) := by decide +kernel
theorem dX7_potsOn_43 : decode cX7_potsOn 43 = .ok (.goto 4, 3) := by decide +kernel
theorem dX7_potsOn_46 : decode cX7_potsOn 46 = .ok (.iconst 0, 1) := by decide +kernel
theorem dX7_potsOn_47 : decode cX7_potsOn 47 = .ok (.iadd, 1) := by decide +kernel
theorem dX7_potsOn_48 : decode cX7_potsOn 48 = .ok (.istore_n 2, 1) := by decide +kernel
theorem dX7_potsOn_49 : decode cX7_potsOn 49 = .ok (.iinc 5 1, 3) := by decide +kernel
theorem dX7_potsOn_52 : decode cX7_potsOn 52 = .ok (.goto (-38), 3) := by decide +kernel
theorem dX7_potsOn_55 : decode cX7_potsOn 55 = .ok (.iload_n 2, 1) := by decide +kernel
theorem dX7_potsOn_56 : decode cX7_potsOn 56 = .ok (.ireturn, 1) := by decide +kernel
theorem dX7_openOrders_0 : decode cX7_openOrders 0 = .ok (.iconst 0, 1) := by decide +kernel
theorem dX7_openOrders_1 : decode cX7_openOrders 1 = .ok (.istore_n 1, 1) := by decide +kernel
theorem dX7_openOrders_2 : decode cX7_openOrders 2 = .ok (.aload_n 0, 1) := by decide +kernel
theorem dX7_openOrders_3 : decode cX7_openOrders 3 = .ok (.getfield 29, 3) := by decide +kernel
theorem dX7_openOrders_6 : decode cX7_openOrders 6 = .ok (.astore_n 2, 1) := by decide +kernel
theorem dX7_openOrders_7 : decode cX7_openOrders 7 = .ok (.aload_n 2, 1) := by decide +kernel
theorem dX7_openOrders_8 : decode cX7_openOrders 8 = .ok (.arraylength, 1) := by decide +kernel
theorem dX7_openOrders_9 : decode cX7_openOrders 9 = .ok (.istore_n 3, 1) := by decide +kernel
theorem dX7_openOrders_10 : decode cX7_openOrders 10 = .ok (.iconst 0, 1) := by decide +kernel
theorem dX7_openOrders_11 : decode cX7_openOrders 11 = .ok (.istore 4, 2) := by decide +kernel

abbrev cX0_init : ByteArray := prog_2_method_1_code
abbrev cX0_take : ByteArray := prog_2_method_2_code
abbrev cX0_shiftOf : ByteArray := prog_2_method_3_code
abbrev cX0_makeRows : ByteArray := prog_2_method_4_code
abbrev cX0_openPage : ByteArray := prog_2_method_5_code
abbrev cX0_isMarked : ByteArray := prog_2_method_6_code
abbrev cX0_mark : ByteArray := prog_2_method_7_code
abbrev cX0_valueOf : ByteArray := prog_2_method_8_code
abbrev cX0_isOpen : ByteArray := prog_2_method_9_code
abbrev cX0_after : ByteArray := prog_2_method_10_code
abbrev cX0_measure : ByteArray := prog_2_method_11_code
abbrev cX0_put : ByteArray := prog_2_method_12_code
abbrev cX0_raise : ByteArray := prog_2_method_13_code
abbrev cX0_markPath : ByteArray := prog_2_method_14_code
abbrev cX0_bestThing : ByteArray := prog_2_method_15_code
abbrev cX0_soonestBow : ByteArray := prog_2_method_16_code
abbrev cX0_bears : ByteArray := prog_2_method_17_code
abbrev cX0_addUnseen : ByteArray := prog_2_method_18_code
abbrev cX0_gaspsOf : ByteArray := prog_2_method_19_code
abbrev cX0_firstThingOf : ByteArray := prog_2_method_20_code
abbrev cX0_mostWorth : ByteArray := prog_2_method_21_code
abbrev cX0_keepBest : ByteArray := prog_2_method_22_code
abbrev cX0_gaspsAt : ByteArray := prog_2_method_23_code
abbrev cL_law : ByteArray := code
theorem dX0_init_0 : decode cX0_init 0 = .ok (.aload_n 0, 1) := by decide +kernel
theorem dX0_init_1 : decode cX0_init 1 = .ok (.invokespecial 5, 3) := by decide +kernel
theorem dX0_init_4 : decode cX0_init 4 = .ok (.aload_n 0, 1) := by decide +kernel
theorem dX0_init_5 : decode cX0_init 5 = .ok (.iconst 3, 1) := by decide +kernel
theorem dX0_init_6 : decode cX0_init 6 = .ok (.newarray .int, 2) := by decide +kernel
theorem dX0_init_8 : decode cX0_init 8 = .ok (.putfield 11, 3) := by decide +kernel
theorem dX0_init_11 : decode cX0_init 11 = .ok (.aload_n 0, 1) := by decide +kernel
theorem dX0_init_12 : decode cX0_init 12 = .ok (.iconst 3, 1) := by decide +kernel
theorem dX0_init_13 : decode cX0_init 13 = .ok (.newarray .int, 2) := by decide +kernel
theorem dX0_init_15 : decode cX0_init 15 = .ok (.putfield 15, 3) := by decide +kernel
theorem dX0_init_18 : decode cX0_init 18 = .ok (.aload_n 0, 1) := by decide +kernel
theorem dX0_init_19 : decode cX0_init 19 = .ok (.bipush 8, 2) := by decide +kernel
theorem dX0_init_21 : decode cX0_init 21 = .ok (.newarray .int, 2) := by decide +kernel
theorem dX0_init_23 : decode cX0_init 23 = .ok (.putfield 18, 3) := by decide +kernel
theorem dX0_init_26 : decode cX0_init 26 = .ok (.return_, 1) := by decide +kernel
theorem dX0_take_0 : decode cX0_take 0 = .ok (.aload_n 1, 1) := by decide +kernel
theorem dX0_take_1 : decode cX0_take 1 = .ok (.invokevirtual 21, 3) := by decide +kernel
theorem dX0_take_4 : decode cX0_take 4 = .ok (.invokestatic 27, 3) := by decide +kernel
theorem dX0_take_7 : decode cX0_take 7 = .ok (.istore_n 2, 1) := by decide +kernel
theorem dX0_take_8 : decode cX0_take 8 = .ok (.iload_n 2, 1) := by decide +kernel
theorem dX0_take_9 : decode cX0_take 9 = .ok (.iconst 1, 1) := by decide +kernel
theorem dX0_take_10 : decode cX0_take 10 = .ok (.if_icmp .lt 8, 3) := by decide +kernel
theorem dX0_take_13 : decode cX0_take 13 = .ok (.iload_n 2, 1) := by decide +kernel
theorem dX0_take_14 : decode cX0_take 14 = .ok (.iconst 3, 1) := by decide +kernel
theorem dX0_take_15 : decode cX0_take 15 = .ok (.if_icmp .le 5, 3) := by decide +kernel
theorem dX0_take_18 : decode cX0_take 18 = .ok (.iconst (-1), 1) := by decide +kernel
theorem dX0_take_19 : decode cX0_take 19 = .ok (.ireturn, 1) := by decide +kernel
theorem dX0_take_20 : decode cX0_take 20 = .ok (.aload_n 0, 1) := by decide +kernel
theorem dX0_take_21 : decode cX0_take 21 = .ok (.getfield 18, 3) := by decide +kernel
theorem dX0_take_24 : decode cX0_take 24 = .ok (.iconst (-1), 1) := by decide +kernel
theorem dX0_take_25 : decode cX0_take 25 = .ok (.invokestatic 33, 3) := by decide +kernel
theorem dX0_take_28 : decode cX0_take 28 = .ok (.aload_n 0, 1) := by decide +kernel
theorem dX0_take_29 : decode cX0_take 29 = .ok (.aload_n 1, 1) := by decide +kernel
theorem dX0_take_30 : decode cX0_take 30 = .ok (.getfield 39, 3) := by decide +kernel
theorem dX0_take_33 : decode cX0_take 33 = .ok (.iconst 1, 1) := by decide +kernel
theorem dX0_take_34 : decode cX0_take 34 = .ok (.iaload, 1) := by decide +kernel
theorem dX0_take_35 : decode cX0_take 35 = .ok (.putfield 42, 3) := by decide +kernel
theorem dX0_take_38 : decode cX0_take 38 = .ok (.aload_n 0, 1) := by decide +kernel
theorem dX0_take_39 : decode cX0_take 39 = .ok (.iconst 0, 1) := by decide +kernel
theorem dX0_take_40 : decode cX0_take 40 = .ok (.putfield 46, 3) := by decide +kernel
theorem dX0_take_43 : decode cX0_take 43 = .ok (.aload_n 1, 1) := by decide +kernel
theorem dX0_take_44 : decode cX0_take 44 = .ok (.getfield 39, 3) := by decide +kernel
theorem dX0_take_47 : decode cX0_take 47 = .ok (.iconst 0, 1) := by decide +kernel
theorem dX0_take_48 : decode cX0_take 48 = .ok (.iaload, 1) := by decide +kernel
theorem dX0_take_49 : decode cX0_take 49 = .ok (.istore_n 3, 1) := by decide +kernel
theorem dX0_take_50 : decode cX0_take 50 = .ok (.iconst 0, 1) := by decide +kernel
theorem dX0_take_51 : decode cX0_take 51 = .ok (.istore 4, 2) := by decide +kernel
theorem dX0_take_53 : decode cX0_take 53 = .ok (.iload 4, 2) := by decide +kernel
theorem dX0_take_55 : decode cX0_take 55 = .ok (.aload_n 1, 1) := by decide +kernel
theorem dX0_take_56 : decode cX0_take 56 = .ok (.getfield 49, 3) := by decide +kernel
theorem dX0_take_59 : decode cX0_take 59 = .ok (.if_icmp .ge 103, 3) := by decide +kernel
theorem dX0_take_62 : decode cX0_take 62 = .ok (.aload_n 0, 1) := by decide +kernel
theorem dX0_take_63 : decode cX0_take 63 = .ok (.getfield 46, 3) := by decide +kernel
theorem dX0_take_66 : decode cX0_take 66 = .ok (.iconst 3, 1) := by decide +kernel
theorem dX0_take_67 : decode cX0_take 67 = .ok (.if_icmp .ge 95, 3) := by decide +kernel
theorem dX0_take_70 : decode cX0_take 70 = .ok (.aload_n 1, 1) := by decide +kernel
theorem dX0_take_71 : decode cX0_take 71 = .ok (.getfield 50, 3) := by decide +kernel
theorem dX0_take_74 : decode cX0_take 74 = .ok (.iload 4, 2) := by decide +kernel
theorem dX0_take_76 : decode cX0_take 76 = .ok (.iaload, 1) := by decide +kernel
theorem dX0_take_77 : decode cX0_take 77 = .ok (.ifCond .le 79, 3) := by decide +kernel
theorem dX0_take_80 : decode cX0_take 80 = .ok (.aload_n 0, 1) := by decide +kernel
theorem dX0_take_81 : decode cX0_take 81 = .ok (.getfield 11, 3) := by decide +kernel
theorem dX0_take_84 : decode cX0_take 84 = .ok (.aload_n 0, 1) := by decide +kernel
theorem dX0_take_85 : decode cX0_take 85 = .ok (.getfield 46, 3) := by decide +kernel
theorem dX0_take_88 : decode cX0_take 88 = .ok (.aload_n 1, 1) := by decide +kernel
theorem dX0_take_89 : decode cX0_take 89 = .ok (.getfield 53, 3) := by decide +kernel
theorem dX0_take_92 : decode cX0_take 92 = .ok (.iload 4, 2) := by decide +kernel
theorem dX0_take_94 : decode cX0_take 94 = .ok (.iaload, 1) := by decide +kernel
theorem dX0_take_95 : decode cX0_take 95 = .ok (.iastore, 1) := by decide +kernel
theorem dX0_take_96 : decode cX0_take 96 = .ok (.aload_n 0, 1) := by decide +kernel
theorem dX0_take_97 : decode cX0_take 97 = .ok (.getfield 15, 3) := by decide +kernel
theorem dX0_take_100 : decode cX0_take 100 = .ok (.aload_n 0, 1) := by decide +kernel
theorem dX0_take_101 : decode cX0_take 101 = .ok (.getfield 46, 3) := by decide +kernel
theorem dX0_take_104 : decode cX0_take 104 = .ok (.aload_n 1, 1) := by decide +kernel
theorem dX0_take_105 : decode cX0_take 105 = .ok (.getfield 54, 3) := by decide +kernel
theorem dX0_take_108 : decode cX0_take 108 = .ok (.iload 4, 2) := by decide +kernel
theorem dX0_take_110 : decode cX0_take 110 = .ok (.iaload, 1) := by decide +kernel
theorem dX0_take_111 : decode cX0_take 111 = .ok (.iastore, 1) := by decide +kernel
theorem dX0_take_112 : decode cX0_take 112 = .ok (.aload_n 0, 1) := by decide +kernel
theorem dX0_take_113 : decode cX0_take 113 = .ok (.getfield 18, 3) := by decide +kernel
theorem dX0_take_116 : decode cX0_take 116 = .ok (.aload_n 1, 1) := by decide +kernel
theorem dX0_take_117 : decode cX0_take 117 = .ok (.getfield 55, 3) := by decide +kernel
theorem dX0_take_120 : decode cX0_take 120 = .ok (.iload 4, 2) := by decide +kernel
theorem dX0_take_122 : decode cX0_take 122 = .ok (.iaload, 1) := by decide +kernel
theorem dX0_take_123 : decode cX0_take 123 = .ok (.aload_n 0, 1) := by decide +kernel
theorem dX0_take_124 : decode cX0_take 124 = .ok (.getfield 46, 3) := by decide +kernel
theorem dX0_take_127 : decode cX0_take 127 = .ok (.iastore, 1) := by decide +kernel
theorem dX0_take_128 : decode cX0_take 128 = .ok (.iload_n 3, 1) := by decide +kernel
theorem dX0_take_129 : decode cX0_take 129 = .ok (.aload_n 1, 1) := by decide +kernel
theorem dX0_take_130 : decode cX0_take 130 = .ok (.getfield 50, 3) := by decide +kernel
theorem dX0_take_133 : decode cX0_take 133 = .ok (.iload 4, 2) := by decide +kernel
theorem dX0_take_135 : decode cX0_take 135 = .ok (.iaload, 1) := by decide +kernel
theorem dX0_take_136 : decode cX0_take 136 = .ok (.aload_n 0, 1) := by decide +kernel
theorem dX0_take_137 : decode cX0_take 137 = .ok (.getfield 46, 3) := by decide +kernel
theorem dX0_take_140 : decode cX0_take 140 = .ok (.invokestatic 58, 3) := by decide +kernel
theorem dX0_take_143 : decode cX0_take 143 = .ok (.ishl, 1) := by decide +kernel
theorem dX0_take_144 : decode cX0_take 144 = .ok (.ior, 1) := by decide +kernel
theorem dX0_take_145 : decode cX0_take 145 = .ok (.istore_n 3, 1) := by decide +kernel
theorem dX0_take_146 : decode cX0_take 146 = .ok (.aload_n 0, 1) := by decide +kernel
theorem dX0_take_147 : decode cX0_take 147 = .ok (.dup, 1) := by decide +kernel
theorem dX0_take_148 : decode cX0_take 148 = .ok (.getfield 46, 3) := by decide +kernel
theorem dX0_take_151 : decode cX0_take 151 = .ok (.iconst 1, 1) := by decide +kernel
theorem dX0_take_152 : decode cX0_take 152 = .ok (.iadd, 1) := by decide +kernel
theorem dX0_take_153 : decode cX0_take 153 = .ok (.putfield 46, 3) := by decide +kernel
theorem dX0_take_156 : decode cX0_take 156 = .ok (.iinc 4 1, 3) := by decide +kernel
theorem dX0_take_159 : decode cX0_take 159 = .ok (.goto (-106), 3) := by decide +kernel
theorem dX0_take_162 : decode cX0_take 162 = .ok (.aload_n 0, 1) := by decide +kernel
theorem dX0_take_163 : decode cX0_take 163 = .ok (.invokevirtual 61, 3) := by decide +kernel
theorem dX0_take_166 : decode cX0_take 166 = .ok (.iload_n 3, 1) := by decide +kernel
theorem dX0_take_167 : decode cX0_take 167 = .ok (.ireturn, 1) := by decide +kernel
theorem dX0_shiftOf_0 : decode cX0_shiftOf 0 = .ok (.iconst 3, 1) := by decide +kernel
theorem dX0_shiftOf_1 : decode cX0_shiftOf 1 = .ok (.iconst 4, 1) := by decide +kernel
theorem dX0_shiftOf_2 : decode cX0_shiftOf 2 = .ok (.iload_n 0, 1) := by decide +kernel
theorem dX0_shiftOf_3 : decode cX0_shiftOf 3 = .ok (.imul, 1) := by decide +kernel
theorem dX0_shiftOf_4 : decode cX0_shiftOf 4 = .ok (.iadd, 1) := by decide +kernel
theorem dX0_shiftOf_5 : decode cX0_shiftOf 5 = .ok (.ireturn, 1) := by decide +kernel
theorem dX0_makeRows_0 : decode cX0_makeRows 0 = .ok (.aload_n 0, 1) := by decide +kernel
theorem dX0_makeRows_1 : decode cX0_makeRows 1 = .ok (.getfield 64, 3) := by decide +kernel
theorem dX0_makeRows_4 : decode cX0_makeRows 4 = .ok (.ifnonnull 27, 3) := by decide +kernel
theorem dX0_makeRows_7 : decode cX0_makeRows 7 = .ok (.aload_n 0, 1) := by decide +kernel
theorem dX0_makeRows_8 : decode cX0_makeRows 8 = .ok (.ldc 67, 2) := by decide +kernel
theorem dX0_makeRows_10 : decode cX0_makeRows 10 = .ok (.newarray .int, 2) := by decide +kernel
theorem dX0_makeRows_12 : decode cX0_makeRows 12 = .ok (.putfield 64, 3) := by decide +kernel
theorem dX0_makeRows_15 : decode cX0_makeRows 15 = .ok (.aload_n 0, 1) := by decide +kernel
theorem dX0_makeRows_16 : decode cX0_makeRows 16 = .ok (.ldc 67, 2) := by decide +kernel
theorem dX0_makeRows_18 : decode cX0_makeRows 18 = .ok (.newarray .int, 2) := by decide +kernel
theorem dX0_makeRows_20 : decode cX0_makeRows 20 = .ok (.putfield 68, 3) := by decide +kernel
theorem dX0_makeRows_23 : decode cX0_makeRows 23 = .ok (.aload_n 0, 1) := by decide +kernel
theorem dX0_makeRows_24 : decode cX0_makeRows 24 = .ok (.ldc 67, 2) := by decide +kernel
theorem dX0_makeRows_26 : decode cX0_makeRows 26 = .ok (.newarray .int, 2) := by decide +kernel
theorem dX0_makeRows_28 : decode cX0_makeRows 28 = .ok (.putfield 71, 3) := by decide +kernel
theorem dX0_makeRows_31 : decode cX0_makeRows 31 = .ok (.return_, 1) := by decide +kernel
theorem dX0_openPage_0 : decode cX0_openPage 0 = .ok (.aload_n 0, 1) := by decide +kernel
theorem dX0_openPage_1 : decode cX0_openPage 1 = .ok (.dup, 1) := by decide +kernel
theorem dX0_openPage_2 : decode cX0_openPage 2 = .ok (.getfield 74, 3) := by decide +kernel
theorem dX0_openPage_5 : decode cX0_openPage 5 = .ok (.iconst 1, 1) := by decide +kernel
theorem dX0_openPage_6 : decode cX0_openPage 6 = .ok (.iadd, 1) := by decide +kernel
theorem dX0_openPage_7 : decode cX0_openPage 7 = .ok (.putfield 74, 3) := by decide +kernel
theorem dX0_openPage_10 : decode cX0_openPage 10 = .ok (.aload_n 0, 1) := by decide +kernel
theorem dX0_openPage_11 : decode cX0_openPage 11 = .ok (.getfield 74, 3) := by decide +kernel
theorem dX0_openPage_14 : decode cX0_openPage 14 = .ok (.sipush 16000, 3) := by decide +kernel
theorem dX0_openPage_17 : decode cX0_openPage 17 = .ok (.if_icmp .lt 16, 3) := by decide +kernel
theorem dX0_openPage_20 : decode cX0_openPage 20 = .ok (.aload_n 0, 1) := by decide +kernel
theorem dX0_openPage_21 : decode cX0_openPage 21 = .ok (.getfield 64, 3) := by decide +kernel
theorem dX0_openPage_24 : decode cX0_openPage 24 = .ok (.iconst 0, 1) := by decide +kernel
theorem dX0_openPage_25 : decode cX0_openPage 25 = .ok (.invokestatic 33, 3) := by decide +kernel
theorem dX0_openPage_28 : decode cX0_openPage 28 = .ok (.aload_n 0, 1) := by decide +kernel
theorem dX0_openPage_29 : decode cX0_openPage 29 = .ok (.iconst 1, 1) := by decide +kernel
theorem dX0_openPage_30 : decode cX0_openPage 30 = .ok (.putfield 74, 3) := by decide +kernel
theorem dX0_openPage_33 : decode cX0_openPage 33 = .ok (.return_, 1) := by decide +kernel
theorem dX0_isMarked_0 : decode cX0_isMarked 0 = .ok (.aload_n 0, 1) := by decide +kernel
theorem dX0_isMarked_1 : decode cX0_isMarked 1 = .ok (.getfield 64, 3) := by decide +kernel
theorem dX0_isMarked_4 : decode cX0_isMarked 4 = .ok (.iload_n 1, 1) := by decide +kernel
theorem dX0_isMarked_5 : decode cX0_isMarked 5 = .ok (.iaload, 1) := by decide +kernel
theorem dX0_isMarked_6 : decode cX0_isMarked 6 = .ok (.ldc 77, 2) := by decide +kernel
theorem dX0_isMarked_8 : decode cX0_isMarked 8 = .ok (.idiv, 1) := by decide +kernel
theorem dX0_isMarked_9 : decode cX0_isMarked 9 = .ok (.aload_n 0, 1) := by decide +kernel
theorem dX0_isMarked_10 : decode cX0_isMarked 10 = .ok (.getfield 74, 3) := by decide +kernel
theorem dX0_isMarked_13 : decode cX0_isMarked 13 = .ok (.if_icmp .ne 7, 3) := by decide +kernel
theorem dX0_isMarked_16 : decode cX0_isMarked 16 = .ok (.iconst 1, 1) := by decide +kernel
theorem dX0_isMarked_17 : decode cX0_isMarked 17 = .ok (.goto 4, 3) := by decide +kernel
theorem dX0_isMarked_20 : decode cX0_isMarked 20 = .ok (.iconst 0, 1) := by decide +kernel
theorem dX0_isMarked_21 : decode cX0_isMarked 21 = .ok (.ireturn, 1) := by decide +kernel
theorem dX0_mark_0 : decode cX0_mark 0 = .ok (.aload_n 0, 1) := by decide +kernel
theorem dX0_mark_1 : decode cX0_mark 1 = .ok (.getfield 64, 3) := by decide +kernel
theorem dX0_mark_4 : decode cX0_mark 4 = .ok (.iload_n 1, 1) := by decide +kernel
theorem dX0_mark_5 : decode cX0_mark 5 = .ok (.aload_n 0, 1) := by decide +kernel
theorem dX0_mark_6 : decode cX0_mark 6 = .ok (.getfield 74, 3) := by decide +kernel
theorem dX0_mark_9 : decode cX0_mark 9 = .ok (.ldc 77, 2) := by decide +kernel
theorem dX0_mark_11 : decode cX0_mark 11 = .ok (.imul, 1) := by decide +kernel
theorem dX0_mark_12 : decode cX0_mark 12 = .ok (.iload_n 2, 1) := by decide +kernel
theorem dX0_mark_13 : decode cX0_mark 13 = .ok (.iadd, 1) := by decide +kernel
theorem dX0_mark_14 : decode cX0_mark 14 = .ok (.iastore, 1) := by decide +kernel
theorem dX0_mark_15 : decode cX0_mark 15 = .ok (.return_, 1) := by decide +kernel
theorem dX0_valueOf_0 : decode cX0_valueOf 0 = .ok (.aload_n 0, 1) := by decide +kernel
theorem dX0_valueOf_1 : decode cX0_valueOf 1 = .ok (.getfield 64, 3) := by decide +kernel
theorem dX0_valueOf_4 : decode cX0_valueOf 4 = .ok (.iload_n 1, 1) := by decide +kernel
theorem dX0_valueOf_5 : decode cX0_valueOf 5 = .ok (.iaload, 1) := by decide +kernel
theorem dX0_valueOf_6 : decode cX0_valueOf 6 = .ok (.ldc 78, 2) := by decide +kernel
theorem dX0_valueOf_8 : decode cX0_valueOf 8 = .ok (.iand, 1) := by decide +kernel
theorem dX0_valueOf_9 : decode cX0_valueOf 9 = .ok (.ireturn, 1) := by decide +kernel
theorem dX0_isOpen_0 : decode cX0_isOpen 0 = .ok (.aload_n 0, 1) := by decide +kernel
theorem dX0_isOpen_1 : decode cX0_isOpen 1 = .ok (.getfield 64, 3) := by decide +kernel
theorem dX0_isOpen_4 : decode cX0_isOpen 4 = .ok (.iload_n 1, 1) := by decide +kernel
theorem dX0_isOpen_5 : decode cX0_isOpen 5 = .ok (.iaload, 1) := by decide +kernel
theorem dX0_isOpen_6 : decode cX0_isOpen 6 = .ok (.ldc 79, 2) := by decide +kernel
theorem dX0_isOpen_8 : decode cX0_isOpen 8 = .ok (.iand, 1) := by decide +kernel
theorem dX0_isOpen_9 : decode cX0_isOpen 9 = .ok (.ifCond .eq 7, 3) := by decide +kernel
theorem dX0_isOpen_12 : decode cX0_isOpen 12 = .ok (.iconst 1, 1) := by decide +kernel
theorem dX0_isOpen_13 : decode cX0_isOpen 13 = .ok (.goto 4, 3) := by decide +kernel
theorem dX0_isOpen_16 : decode cX0_isOpen 16 = .ok (.iconst 0, 1) := by decide +kernel
theorem dX0_isOpen_17 : decode cX0_isOpen 17 = .ok (.ireturn, 1) := by decide +kernel
theorem dX0_after_0 : decode cX0_after 0 = .ok (.iload_n 1, 1) := by decide +kernel
theorem dX0_after_1 : decode cX0_after 1 = .ok (.bipush 7, 2) := by decide +kernel
theorem dX0_after_3 : decode cX0_after 3 = .ok (.iand, 1) := by decide +kernel
theorem dX0_after_4 : decode cX0_after 4 = .ok (.istore_n 3, 1) := by decide +kernel
theorem dX0_after_5 : decode cX0_after 5 = .ok (.iconst (-1), 1) := by decide +kernel
theorem dX0_after_6 : decode cX0_after 6 = .ok (.istore 4, 2) := by decide +kernel
theorem dX0_after_8 : decode cX0_after 8 = .ok (.iload_n 2, 1) := by decide +kernel
theorem dX0_after_9 : decode cX0_after 9 = .ok (.iconst 1, 1) := by decide +kernel
theorem dX0_after_10 : decode cX0_after 10 = .ok (.if_icmp .ne 9, 3) := by decide +kernel
theorem dX0_after_13 : decode cX0_after 13 = .ok (.iinc 3 (-1), 3) := by decide +kernel
theorem dX0_after_16 : decode cX0_after 16 = .ok (.goto 34, 3) := by decide +kernel
theorem dX0_after_19 : decode cX0_after 19 = .ok (.iload_n 2, 1) := by decide +kernel
theorem dX0_after_20 : decode cX0_after 20 = .ok (.iconst 2, 1) := by decide +kernel
theorem dX0_after_21 : decode cX0_after 21 = .ok (.if_icmp .ne 9, 3) := by decide +kernel
theorem dX0_after_24 : decode cX0_after 24 = .ok (.iinc 3 1, 3) := by decide +kernel
theorem dX0_after_27 : decode cX0_after 27 = .ok (.goto 23, 3) := by decide +kernel
theorem dX0_after_30 : decode cX0_after 30 = .ok (.iload_n 2, 1) := by decide +kernel
theorem dX0_after_31 : decode cX0_after 31 = .ok (.iconst 3, 1) := by decide +kernel
theorem dX0_after_32 : decode cX0_after 32 = .ok (.if_icmp .ne 18, 3) := by decide +kernel
theorem dX0_after_35 : decode cX0_after 35 = .ok (.aload_n 0, 1) := by decide +kernel
theorem dX0_after_36 : decode cX0_after 36 = .ok (.getfield 18, 3) := by decide +kernel
theorem dX0_after_39 : decode cX0_after 39 = .ok (.iload_n 3, 1) := by decide +kernel
theorem dX0_after_40 : decode cX0_after 40 = .ok (.iaload, 1) := by decide +kernel
theorem dX0_after_41 : decode cX0_after 41 = .ok (.istore 4, 2) := by decide +kernel
theorem dX0_after_43 : decode cX0_after 43 = .ok (.iload 4, 2) := by decide +kernel
theorem dX0_after_45 : decode cX0_after 45 = .ok (.ifCond .ge 5, 3) := by decide +kernel
theorem dX0_after_48 : decode cX0_after 48 = .ok (.iconst (-1), 1) := by decide +kernel
theorem dX0_after_49 : decode cX0_after 49 = .ok (.ireturn, 1) := by decide +kernel
theorem dX0_after_50 : decode cX0_after 50 = .ok (.iload_n 3, 1) := by decide +kernel
theorem dX0_after_51 : decode cX0_after 51 = .ok (.ifCond .lt 9, 3) := by decide +kernel
theorem dX0_after_54 : decode cX0_after 54 = .ok (.iload_n 3, 1) := by decide +kernel
theorem dX0_after_55 : decode cX0_after 55 = .ok (.bipush 7, 2) := by decide +kernel
theorem dX0_after_57 : decode cX0_after 57 = .ok (.if_icmp .le 5, 3) := by decide +kernel
theorem dX0_after_60 : decode cX0_after 60 = .ok (.iconst (-1), 1) := by decide +kernel
theorem dX0_after_61 : decode cX0_after 61 = .ok (.ireturn, 1) := by decide +kernel
theorem dX0_after_62 : decode cX0_after 62 = .ok (.iload_n 3, 1) := by decide +kernel
theorem dX0_after_63 : decode cX0_after 63 = .ok (.istore 5, 2) := by decide +kernel
theorem dX0_after_65 : decode cX0_after 65 = .ok (.iconst 0, 1) := by decide +kernel
theorem dX0_after_66 : decode cX0_after 66 = .ok (.istore 6, 2) := by decide +kernel
theorem dX0_after_68 : decode cX0_after 68 = .ok (.iload 6, 2) := by decide +kernel
theorem dX0_after_70 : decode cX0_after 70 = .ok (.aload_n 0, 1) := by decide +kernel
theorem dX0_after_71 : decode cX0_after 71 = .ok (.getfield 46, 3) := by decide +kernel
theorem dX0_after_74 : decode cX0_after 74 = .ok (.if_icmp .ge 79, 3) := by decide +kernel
theorem dX0_after_77 : decode cX0_after 77 = .ok (.iload_n 1, 1) := by decide +kernel
theorem dX0_after_78 : decode cX0_after 78 = .ok (.iload 6, 2) := by decide +kernel
theorem dX0_after_80 : decode cX0_after 80 = .ok (.invokestatic 58, 3) := by decide +kernel
theorem dX0_after_83 : decode cX0_after 83 = .ok (.ishr, 1) := by decide +kernel
theorem dX0_after_84 : decode cX0_after 84 = .ok (.bipush 15, 2) := by decide +kernel
theorem dX0_after_86 : decode cX0_after 86 = .ok (.iand, 1) := by decide +kernel
theorem dX0_after_87 : decode cX0_after 87 = .ok (.istore 7, 2) := by decide +kernel
theorem dX0_after_89 : decode cX0_after 89 = .ok (.iload 6, 2) := by decide +kernel
theorem dX0_after_91 : decode cX0_after 91 = .ok (.iload 4, 2) := by decide +kernel
theorem dX0_after_93 : decode cX0_after 93 = .ok (.if_icmp .ne 22, 3) := by decide +kernel
theorem dX0_after_96 : decode cX0_after 96 = .ok (.aload_n 0, 1) := by decide +kernel
theorem dX0_after_97 : decode cX0_after 97 = .ok (.getfield 11, 3) := by decide +kernel
theorem dX0_after_100 : decode cX0_after 100 = .ok (.iload 6, 2) := by decide +kernel
theorem dX0_after_102 : decode cX0_after 102 = .ok (.iaload, 1) := by decide +kernel
theorem dX0_after_103 : decode cX0_after 103 = .ok (.iload 7, 2) := by decide +kernel
theorem dX0_after_105 : decode cX0_after 105 = .ok (.aload_n 0, 1) := by decide +kernel
theorem dX0_after_106 : decode cX0_after 106 = .ok (.getfield 42, 3) := by decide +kernel
theorem dX0_after_109 : decode cX0_after 109 = .ok (.iadd, 1) := by decide +kernel
theorem dX0_after_110 : decode cX0_after 110 = .ok (.invokestatic 80, 3) := by decide +kernel
theorem dX0_after_113 : decode cX0_after 113 = .ok (.istore 7, 2) := by decide +kernel
theorem dX0_after_115 : decode cX0_after 115 = .ok (.iload 7, 2) := by decide +kernel
theorem dX0_after_117 : decode cX0_after 117 = .ok (.aload_n 0, 1) := by decide +kernel
theorem dX0_after_118 : decode cX0_after 118 = .ok (.getfield 15, 3) := by decide +kernel
theorem dX0_after_121 : decode cX0_after 121 = .ok (.iload 6, 2) := by decide +kernel
theorem dX0_after_123 : decode cX0_after 123 = .ok (.iaload, 1) := by decide +kernel
theorem dX0_after_124 : decode cX0_after 124 = .ok (.isub, 1) := by decide +kernel
theorem dX0_after_125 : decode cX0_after 125 = .ok (.istore 7, 2) := by decide +kernel
theorem dX0_after_127 : decode cX0_after 127 = .ok (.iload 7, 2) := by decide +kernel
theorem dX0_after_129 : decode cX0_after 129 = .ok (.ifCond .gt 5, 3) := by decide +kernel
theorem dX0_after_132 : decode cX0_after 132 = .ok (.iconst (-1), 1) := by decide +kernel
theorem dX0_after_133 : decode cX0_after 133 = .ok (.ireturn, 1) := by decide +kernel
theorem dX0_after_134 : decode cX0_after 134 = .ok (.iload 5, 2) := by decide +kernel
theorem dX0_after_136 : decode cX0_after 136 = .ok (.iload 7, 2) := by decide +kernel
theorem dX0_after_138 : decode cX0_after 138 = .ok (.iload 6, 2) := by decide +kernel
theorem dX0_after_140 : decode cX0_after 140 = .ok (.invokestatic 58, 3) := by decide +kernel
theorem dX0_after_143 : decode cX0_after 143 = .ok (.ishl, 1) := by decide +kernel
theorem dX0_after_144 : decode cX0_after 144 = .ok (.ior, 1) := by decide +kernel
theorem dX0_after_145 : decode cX0_after 145 = .ok (.istore 5, 2) := by decide +kernel
theorem dX0_after_147 : decode cX0_after 147 = .ok (.iinc 6 1, 3) := by decide +kernel
theorem dX0_after_150 : decode cX0_after 150 = .ok (.goto (-82), 3) := by decide +kernel
theorem dX0_after_153 : decode cX0_after 153 = .ok (.iload 5, 2) := by decide +kernel
theorem dX0_after_155 : decode cX0_after 155 = .ok (.ireturn, 1) := by decide +kernel
theorem dX0_measure_0 : decode cX0_measure 0 = .ok (.aload_n 0, 1) := by decide +kernel
theorem dX0_measure_1 : decode cX0_measure 1 = .ok (.iload_n 1, 1) := by decide +kernel
theorem dX0_measure_2 : decode cX0_measure 2 = .ok (.invokevirtual 86, 3) := by decide +kernel
theorem dX0_measure_5 : decode cX0_measure 5 = .ok (.ifCond .eq 9, 3) := by decide +kernel
theorem dX0_measure_8 : decode cX0_measure 8 = .ok (.aload_n 0, 1) := by decide +kernel
theorem dX0_measure_9 : decode cX0_measure 9 = .ok (.iload_n 1, 1) := by decide +kernel
theorem dX0_measure_10 : decode cX0_measure 10 = .ok (.invokevirtual 90, 3) := by decide +kernel
theorem dX0_measure_13 : decode cX0_measure 13 = .ok (.ireturn, 1) := by decide +kernel
theorem dX0_measure_14 : decode cX0_measure 14 = .ok (.aload_n 0, 1) := by decide +kernel
theorem dX0_measure_15 : decode cX0_measure 15 = .ok (.iload_n 1, 1) := by decide +kernel
theorem dX0_measure_16 : decode cX0_measure 16 = .ok (.ldc 79, 2) := by decide +kernel
theorem dX0_measure_18 : decode cX0_measure 18 = .ok (.invokevirtual 93, 3) := by decide +kernel
theorem dX0_measure_21 : decode cX0_measure 21 = .ok (.aload_n 0, 1) := by decide +kernel
theorem dX0_measure_22 : decode cX0_measure 22 = .ok (.getfield 68, 3) := by decide +kernel
theorem dX0_measure_25 : decode cX0_measure 25 = .ok (.iconst 0, 1) := by decide +kernel
theorem dX0_measure_26 : decode cX0_measure 26 = .ok (.iload_n 1, 1) := by decide +kernel
theorem dX0_measure_27 : decode cX0_measure 27 = .ok (.iconst 3, 1) := by decide +kernel
theorem dX0_measure_28 : decode cX0_measure 28 = .ok (.ishl, 1) := by decide +kernel
theorem dX0_measure_29 : decode cX0_measure 29 = .ok (.iastore, 1) := by decide +kernel
theorem dX0_measure_30 : decode cX0_measure 30 = .ok (.iconst 1, 1) := by decide +kernel
theorem dX0_measure_31 : decode cX0_measure 31 = .ok (.istore_n 2, 1) := by decide +kernel
theorem dX0_measure_32 : decode cX0_measure 32 = .ok (.iconst 0, 1) := by decide +kernel
theorem dX0_measure_33 : decode cX0_measure 33 = .ok (.istore_n 3, 1) := by decide +kernel
theorem dL_law_749 : decode cL_law 749 = .ok (.iconst 0, 1) := by decide +kernel
theorem dL_law_750 : decode cL_law 750 = .ok (.ireturn, 1) := by decide +kernel
theorem dL_law_751 : decode cL_law 751 = .ok (.aload_n 1, 1) := by decide +kernel
theorem dL_law_752 : decode cL_law 752 = .ok (.aload_n 0, 1) := by decide +kernel
theorem dL_law_753 : decode cL_law 753 = .ok (.iload_n 3, 1) := by decide +kernel
theorem dL_law_754 : decode cL_law 754 = .ok (.iconst 1, 1) := by decide +kernel
theorem dL_law_755 : decode cL_law 755 = .ok (.iadd, 1) := by decide +kernel
theorem dL_law_756 : decode cL_law 756 = .ok (.iaload, 1) := by decide +kernel
theorem dL_law_757 : decode cL_law 757 = .ok (.invokevirtual 117, 3) := by decide +kernel
theorem dL_law_760 : decode cL_law 760 = .ok (.aload_n 2, 1) := by decide +kernel
theorem dL_law_761 : decode cL_law 761 = .ok (.aload_n 0, 1) := by decide +kernel
theorem dL_law_762 : decode cL_law 762 = .ok (.iload_n 3, 1) := by decide +kernel
theorem dL_law_763 : decode cL_law 763 = .ok (.iconst 1, 1) := by decide +kernel
theorem dL_law_764 : decode cL_law 764 = .ok (.iadd, 1) := by decide +kernel
theorem dL_law_765 : decode cL_law 765 = .ok (.iaload, 1) := by decide +kernel
theorem dL_law_766 : decode cL_law 766 = .ok (.invokevirtual 120, 3) := by decide +kernel
theorem dL_law_769 : decode cL_law 769 = .ok (.if_icmp .eq 28, 3) := by decide +kernel
theorem dL_law_772 : decode cL_law 772 = .ok (.iconst 0, 1) := by decide +kernel
theorem dL_law_773 : decode cL_law 773 = .ok (.ireturn, 1) := by decide +kernel
theorem dL_law_774 : decode cL_law 774 = .ok (.aload_n 1, 1) := by decide +kernel
theorem dL_law_775 : decode cL_law 775 = .ok (.aload_n 0, 1) := by decide +kernel
theorem dL_law_776 : decode cL_law 776 = .ok (.iload_n 3, 1) := by decide +kernel
theorem dL_law_777 : decode cL_law 777 = .ok (.iconst 1, 1) := by decide +kernel
theorem dL_law_778 : decode cL_law 778 = .ok (.iadd, 1) := by decide +kernel
theorem dL_law_779 : decode cL_law 779 = .ok (.iaload, 1) := by decide +kernel
theorem dL_law_780 : decode cL_law 780 = .ok (.invokevirtual 121, 3) := by decide +kernel
theorem dL_law_783 : decode cL_law 783 = .ok (.aload_n 2, 1) := by decide +kernel
theorem dL_law_784 : decode cL_law 784 = .ok (.aload_n 0, 1) := by decide +kernel
theorem dL_law_785 : decode cL_law 785 = .ok (.iload_n 3, 1) := by decide +kernel
theorem dL_law_786 : decode cL_law 786 = .ok (.iconst 1, 1) := by decide +kernel
theorem dL_law_787 : decode cL_law 787 = .ok (.iadd, 1) := by decide +kernel
theorem dL_law_788 : decode cL_law 788 = .ok (.iaload, 1) := by decide +kernel
theorem dL_law_789 : decode cL_law 789 = .ok (.invokevirtual 124, 3) := by decide +kernel
theorem dL_law_792 : decode cL_law 792 = .ok (.if_icmp .eq 5, 3) := by decide +kernel
theorem dL_law_795 : decode cL_law 795 = .ok (.iconst 0, 1) := by decide +kernel
theorem dL_law_796 : decode cL_law 796 = .ok (.ireturn, 1) := by decide +kernel
theorem dL_law_797 : decode cL_law 797 = .ok (.iinc 3 4, 3) := by decide +kernel
theorem dL_law_800 : decode cL_law 800 = .ok (.goto (-782), 3) := by decide +kernel
theorem dL_law_803 : decode cL_law 803 = .ok (.iconst 1, 1) := by decide +kernel
theorem dL_law_804 : decode cL_law 804 = .ok (.ireturn, 1) := by decide +kernel

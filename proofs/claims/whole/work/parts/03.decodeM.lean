theorem dc_M_init_0 : decode bc_M_init 0 = .ok (.aload_n 0, 1) := by decide +kernel
theorem dc_M_init_1 : decode bc_M_init 1 = .ok (.invokespecial 1, 3) := by decide +kernel
theorem dc_M_init_4 : decode bc_M_init 4 = .ok (.aload_n 0, 1) := by decide +kernel
theorem dc_M_init_5 : decode bc_M_init 5 = .ok (.bipush 8, 2) := by decide +kernel
theorem dc_M_init_7 : decode bc_M_init 7 = .ok (.newarray .long, 2) := by decide +kernel
theorem dc_M_init_9 : decode bc_M_init 9 = .ok (.putfield 7, 3) := by decide +kernel
theorem dc_M_init_12 : decode bc_M_init 12 = .ok (.aload_n 0, 1) := by decide +kernel
theorem dc_M_init_13 : decode bc_M_init 13 = .ok (.bipush 8, 2) := by decide +kernel
theorem dc_M_init_15 : decode bc_M_init 15 = .ok (.newarray .long, 2) := by decide +kernel
theorem dc_M_init_17 : decode bc_M_init 17 = .ok (.putfield 13, 3) := by decide +kernel
theorem dc_M_init_20 : decode bc_M_init 20 = .ok (.aload_n 0, 1) := by decide +kernel
theorem dc_M_init_21 : decode bc_M_init 21 = .ok (.bipush 8, 2) := by decide +kernel
theorem dc_M_init_23 : decode bc_M_init 23 = .ok (.newarray .int, 2) := by decide +kernel
theorem dc_M_init_25 : decode bc_M_init 25 = .ok (.putfield 16, 3) := by decide +kernel
theorem dc_M_init_28 : decode bc_M_init 28 = .ok (.aload_n 0, 1) := by decide +kernel
theorem dc_M_init_29 : decode bc_M_init 29 = .ok (.bipush 8, 2) := by decide +kernel
theorem dc_M_init_31 : decode bc_M_init 31 = .ok (.newarray .boolean, 2) := by decide +kernel
theorem dc_M_init_33 : decode bc_M_init 33 = .ok (.putfield 20, 3) := by decide +kernel
theorem dc_M_init_36 : decode bc_M_init 36 = .ok (.aload_n 0, 1) := by decide +kernel
theorem dc_M_init_37 : decode bc_M_init 37 = .ok (.bipush 8, 2) := by decide +kernel
theorem dc_M_init_39 : decode bc_M_init 39 = .ok (.newarray .int, 2) := by decide +kernel
theorem dc_M_init_41 : decode bc_M_init 41 = .ok (.putfield 24, 3) := by decide +kernel
theorem dc_M_init_44 : decode bc_M_init 44 = .ok (.aload_n 0, 1) := by decide +kernel
theorem dc_M_init_45 : decode bc_M_init 45 = .ok (.bipush 8, 2) := by decide +kernel
theorem dc_M_init_47 : decode bc_M_init 47 = .ok (.newarray .long, 2) := by decide +kernel
theorem dc_M_init_49 : decode bc_M_init 49 = .ok (.putfield 27, 3) := by decide +kernel
theorem dc_M_init_52 : decode bc_M_init 52 = .ok (.aload_n 0, 1) := by decide +kernel
theorem dc_M_init_53 : decode bc_M_init 53 = .ok (.bipush 8, 2) := by decide +kernel
theorem dc_M_init_55 : decode bc_M_init 55 = .ok (.newarray .long, 2) := by decide +kernel
theorem dc_M_init_57 : decode bc_M_init 57 = .ok (.putfield 30, 3) := by decide +kernel
theorem dc_M_init_60 : decode bc_M_init 60 = .ok (.aload_n 0, 1) := by decide +kernel
theorem dc_M_init_61 : decode bc_M_init 61 = .ok (.bipush 8, 2) := by decide +kernel
theorem dc_M_init_63 : decode bc_M_init 63 = .ok (.newarray .long, 2) := by decide +kernel
theorem dc_M_init_65 : decode bc_M_init 65 = .ok (.putfield 33, 3) := by decide +kernel
theorem dc_M_init_68 : decode bc_M_init 68 = .ok (.aload_n 0, 1) := by decide +kernel
theorem dc_M_init_69 : decode bc_M_init 69 = .ok (.bipush 12, 2) := by decide +kernel
theorem dc_M_init_71 : decode bc_M_init 71 = .ok (.newarray .int, 2) := by decide +kernel
theorem dc_M_init_73 : decode bc_M_init 73 = .ok (.putfield 36, 3) := by decide +kernel
theorem dc_M_init_76 : decode bc_M_init 76 = .ok (.aload_n 0, 1) := by decide +kernel
theorem dc_M_init_77 : decode bc_M_init 77 = .ok (.bipush 12, 2) := by decide +kernel
theorem dc_M_init_79 : decode bc_M_init 79 = .ok (.newarray .int, 2) := by decide +kernel
theorem dc_M_init_81 : decode bc_M_init 81 = .ok (.putfield 39, 3) := by decide +kernel
theorem dc_M_init_84 : decode bc_M_init 84 = .ok (.aload_n 0, 1) := by decide +kernel
theorem dc_M_init_85 : decode bc_M_init 85 = .ok (.bipush 96, 2) := by decide +kernel
theorem dc_M_init_87 : decode bc_M_init 87 = .ok (.newarray .long, 2) := by decide +kernel
theorem dc_M_init_89 : decode bc_M_init 89 = .ok (.putfield 42, 3) := by decide +kernel
theorem dc_M_init_92 : decode bc_M_init 92 = .ok (.aload_n 0, 1) := by decide +kernel
theorem dc_M_init_93 : decode bc_M_init 93 = .ok (.bipush 96, 2) := by decide +kernel
theorem dc_M_init_95 : decode bc_M_init 95 = .ok (.newarray .long, 2) := by decide +kernel
theorem dc_M_init_97 : decode bc_M_init 97 = .ok (.putfield 45, 3) := by decide +kernel
theorem dc_M_init_100 : decode bc_M_init 100 = .ok (.aload_n 0, 1) := by decide +kernel
theorem dc_M_init_101 : decode bc_M_init 101 = .ok (.bipush 12, 2) := by decide +kernel
theorem dc_M_init_103 : decode bc_M_init 103 = .ok (.newarray .long, 2) := by decide +kernel
theorem dc_M_init_105 : decode bc_M_init 105 = .ok (.putfield 48, 3) := by decide +kernel
theorem dc_M_init_108 : decode bc_M_init 108 = .ok (.aload_n 0, 1) := by decide +kernel
theorem dc_M_init_109 : decode bc_M_init 109 = .ok (.sipush 200, 3) := by decide +kernel
theorem dc_M_init_112 : decode bc_M_init 112 = .ok (.newarray .int, 2) := by decide +kernel
theorem dc_M_init_114 : decode bc_M_init 114 = .ok (.putfield 51, 3) := by decide +kernel
theorem dc_M_init_117 : decode bc_M_init 117 = .ok (.aload_n 0, 1) := by decide +kernel
theorem dc_M_init_118 : decode bc_M_init 118 = .ok (.sipush 200, 3) := by decide +kernel
theorem dc_M_init_121 : decode bc_M_init 121 = .ok (.newarray .long, 2) := by decide +kernel
theorem dc_M_init_123 : decode bc_M_init 123 = .ok (.putfield 54, 3) := by decide +kernel
theorem dc_M_init_126 : decode bc_M_init 126 = .ok (.aload_n 0, 1) := by decide +kernel
theorem dc_M_init_127 : decode bc_M_init 127 = .ok (.sipush 200, 3) := by decide +kernel
theorem dc_M_init_130 : decode bc_M_init 130 = .ok (.newarray .int, 2) := by decide +kernel
theorem dc_M_init_132 : decode bc_M_init 132 = .ok (.putfield 57, 3) := by decide +kernel
theorem dc_M_init_135 : decode bc_M_init 135 = .ok (.aload_n 0, 1) := by decide +kernel
theorem dc_M_init_136 : decode bc_M_init 136 = .ok (.iconst 1, 1) := by decide +kernel
theorem dc_M_init_137 : decode bc_M_init 137 = .ok (.putfield 60, 3) := by decide +kernel
theorem dc_M_init_140 : decode bc_M_init 140 = .ok (.aload_n 0, 1) := by decide +kernel
theorem dc_M_init_141 : decode bc_M_init 141 = .ok (.iconst 1, 1) := by decide +kernel
theorem dc_M_init_142 : decode bc_M_init 142 = .ok (.putfield 64, 3) := by decide +kernel
theorem dc_M_init_145 : decode bc_M_init 145 = .ok (.aload_n 0, 1) := by decide +kernel
theorem dc_M_init_146 : decode bc_M_init 146 = .ok (.bipush 100, 2) := by decide +kernel
theorem dc_M_init_148 : decode bc_M_init 148 = .ok (.newarray .int, 2) := by decide +kernel
theorem dc_M_init_150 : decode bc_M_init 150 = .ok (.putfield 67, 3) := by decide +kernel
theorem dc_M_init_153 : decode bc_M_init 153 = .ok (.aload_n 0, 1) := by decide +kernel
theorem dc_M_init_154 : decode bc_M_init 154 = .ok (.bipush 10, 2) := by decide +kernel
theorem dc_M_init_156 : decode bc_M_init 156 = .ok (.newarray .long, 2) := by decide +kernel
theorem dc_M_init_158 : decode bc_M_init 158 = .ok (.putfield 70, 3) := by decide +kernel
theorem dc_M_init_161 : decode bc_M_init 161 = .ok (.aload_n 0, 1) := by decide +kernel
theorem dc_M_init_162 : decode bc_M_init 162 = .ok (.bipush 10, 2) := by decide +kernel
theorem dc_M_init_164 : decode bc_M_init 164 = .ok (.newarray .long, 2) := by decide +kernel
theorem dc_M_init_166 : decode bc_M_init 166 = .ok (.putfield 73, 3) := by decide +kernel
theorem dc_M_init_169 : decode bc_M_init 169 = .ok (.aload_n 0, 1) := by decide +kernel
theorem dc_M_init_170 : decode bc_M_init 170 = .ok (.bipush 10, 2) := by decide +kernel
theorem dc_M_init_172 : decode bc_M_init 172 = .ok (.newarray .long, 2) := by decide +kernel
theorem dc_M_init_174 : decode bc_M_init 174 = .ok (.putfield 76, 3) := by decide +kernel
theorem dc_M_init_177 : decode bc_M_init 177 = .ok (.aload_n 0, 1) := by decide +kernel
theorem dc_M_init_178 : decode bc_M_init 178 = .ok (.iconst 0, 1) := by decide +kernel
theorem dc_M_init_179 : decode bc_M_init 179 = .ok (.putfield 79, 3) := by decide +kernel
theorem dc_M_init_182 : decode bc_M_init 182 = .ok (.return_, 1) := by decide +kernel
theorem dc_M_in_0 : decode bc_M_in 0 = .ok (.lload_n 0, 1) := by decide +kernel
theorem dc_M_in_1 : decode bc_M_in 1 = .ok (.lload_n 2, 1) := by decide +kernel
theorem dc_M_in_2 : decode bc_M_in 2 = .ok (.lcmp, 1) := by decide +kernel
theorem dc_M_in_3 : decode bc_M_in 3 = .ok (.ifCond .lt 14, 3) := by decide +kernel
theorem dc_M_in_6 : decode bc_M_in 6 = .ok (.lload_n 0, 1) := by decide +kernel
theorem dc_M_in_7 : decode bc_M_in 7 = .ok (.lload 4, 2) := by decide +kernel
theorem dc_M_in_9 : decode bc_M_in 9 = .ok (.lcmp, 1) := by decide +kernel
theorem dc_M_in_10 : decode bc_M_in 10 = .ok (.ifCond .gt 7, 3) := by decide +kernel
theorem dc_M_in_13 : decode bc_M_in 13 = .ok (.iconst 1, 1) := by decide +kernel
theorem dc_M_in_14 : decode bc_M_in 14 = .ok (.goto 4, 3) := by decide +kernel
theorem dc_M_in_17 : decode bc_M_in 17 = .ok (.iconst 0, 1) := by decide +kernel
theorem dc_M_in_18 : decode bc_M_in 18 = .ok (.ireturn, 1) := by decide +kernel
theorem dc_M_isStock_0 : decode bc_M_isStock 0 = .ok (.iload_n 1, 1) := by decide +kernel
theorem dc_M_isStock_1 : decode bc_M_isStock 1 = .ok (.i2l, 1) := by decide +kernel
theorem dc_M_isStock_2 : decode bc_M_isStock 2 = .ok (.lconst 0, 1) := by decide +kernel
theorem dc_M_isStock_3 : decode bc_M_isStock 3 = .ok (.aload_n 0, 1) := by decide +kernel
theorem dc_M_isStock_4 : decode bc_M_isStock 4 = .ok (.getfield 79, 3) := by decide +kernel
theorem dc_M_isStock_7 : decode bc_M_isStock 7 = .ok (.i2l, 1) := by decide +kernel
theorem dc_M_isStock_8 : decode bc_M_isStock 8 = .ok (.lconst 1, 1) := by decide +kernel
theorem dc_M_isStock_9 : decode bc_M_isStock 9 = .ok (.lsub, 1) := by decide +kernel
theorem dc_M_isStock_10 : decode bc_M_isStock 10 = .ok (.invokestatic 82, 3) := by decide +kernel
theorem dc_M_isStock_13 : decode bc_M_isStock 13 = .ok (.ireturn, 1) := by decide +kernel
theorem dc_M_isHolder_0 : decode bc_M_isHolder 0 = .ok (.iload_n 1, 1) := by decide +kernel
theorem dc_M_isHolder_1 : decode bc_M_isHolder 1 = .ok (.i2l, 1) := by decide +kernel
theorem dc_M_isHolder_2 : decode bc_M_isHolder 2 = .ok (.lconst 0, 1) := by decide +kernel
theorem dc_M_isHolder_3 : decode bc_M_isHolder 3 = .ok (.aload_n 0, 1) := by decide +kernel
theorem dc_M_isHolder_4 : decode bc_M_isHolder 4 = .ok (.getfield 86, 3) := by decide +kernel
theorem dc_M_isHolder_7 : decode bc_M_isHolder 7 = .ok (.i2l, 1) := by decide +kernel
theorem dc_M_isHolder_8 : decode bc_M_isHolder 8 = .ok (.lconst 1, 1) := by decide +kernel
theorem dc_M_isHolder_9 : decode bc_M_isHolder 9 = .ok (.lsub, 1) := by decide +kernel
theorem dc_M_isHolder_10 : decode bc_M_isHolder 10 = .ok (.invokestatic 82, 3) := by decide +kernel
theorem dc_M_isHolder_13 : decode bc_M_isHolder 13 = .ok (.ireturn, 1) := by decide +kernel
theorem dc_M_isOwner_0 : decode bc_M_isOwner 0 = .ok (.iload_n 0, 1) := by decide +kernel
theorem dc_M_isOwner_1 : decode bc_M_isOwner 1 = .ok (.i2l, 1) := by decide +kernel
theorem dc_M_isOwner_2 : decode bc_M_isOwner 2 = .ok (.lconst 0, 1) := by decide +kernel
theorem dc_M_isOwner_3 : decode bc_M_isOwner 3 = .ok (.ldc2_w 89, 3) := by decide +kernel
theorem dc_M_isOwner_6 : decode bc_M_isOwner 6 = .ok (.invokestatic 82, 3) := by decide +kernel
theorem dc_M_isOwner_9 : decode bc_M_isOwner 9 = .ok (.ireturn, 1) := by decide +kernel
theorem dc_M_stock_0 : decode bc_M_stock 0 = .ok (.aload_n 0, 1) := by decide +kernel
theorem dc_M_stock_1 : decode bc_M_stock 1 = .ok (.getfield 79, 3) := by decide +kernel
theorem dc_M_stock_4 : decode bc_M_stock 4 = .ok (.bipush 8, 2) := by decide +kernel
theorem dc_M_stock_6 : decode bc_M_stock 6 = .ok (.if_icmp .eq 14, 3) := by decide +kernel
theorem dc_M_stock_9 : decode bc_M_stock 9 = .ok (.lload_n 1, 1) := by decide +kernel
theorem dc_M_stock_10 : decode bc_M_stock 10 = .ok (.lconst 0, 1) := by decide +kernel
theorem dc_M_stock_11 : decode bc_M_stock 11 = .ok (.ldc2_w 91, 3) := by decide +kernel
theorem dc_M_stock_14 : decode bc_M_stock 14 = .ok (.invokestatic 82, 3) := by decide +kernel
theorem dc_M_stock_17 : decode bc_M_stock 17 = .ok (.ifCond .ne 5, 3) := by decide +kernel
theorem dc_M_stock_20 : decode bc_M_stock 20 = .ok (.iconst (-1), 1) := by decide +kernel
theorem dc_M_stock_21 : decode bc_M_stock 21 = .ok (.ireturn, 1) := by decide +kernel
theorem dc_M_stock_22 : decode bc_M_stock 22 = .ok (.aload_n 0, 1) := by decide +kernel
theorem dc_M_stock_23 : decode bc_M_stock 23 = .ok (.getfield 7, 3) := by decide +kernel
theorem dc_M_stock_26 : decode bc_M_stock 26 = .ok (.aload_n 0, 1) := by decide +kernel
theorem dc_M_stock_27 : decode bc_M_stock 27 = .ok (.getfield 79, 3) := by decide +kernel
theorem dc_M_stock_30 : decode bc_M_stock 30 = .ok (.lload_n 1, 1) := by decide +kernel
theorem dc_M_stock_31 : decode bc_M_stock 31 = .ok (.lastore, 1) := by decide +kernel
theorem dc_M_stock_32 : decode bc_M_stock 32 = .ok (.aload_n 0, 1) := by decide +kernel
theorem dc_M_stock_33 : decode bc_M_stock 33 = .ok (.getfield 16, 3) := by decide +kernel
theorem dc_M_stock_36 : decode bc_M_stock 36 = .ok (.aload_n 0, 1) := by decide +kernel
theorem dc_M_stock_37 : decode bc_M_stock 37 = .ok (.getfield 79, 3) := by decide +kernel
theorem dc_M_stock_40 : decode bc_M_stock 40 = .ok (.iconst (-1), 1) := by decide +kernel
theorem dc_M_stock_41 : decode bc_M_stock 41 = .ok (.iastore, 1) := by decide +kernel
theorem dc_M_stock_42 : decode bc_M_stock 42 = .ok (.aload_n 0, 1) := by decide +kernel
theorem dc_M_stock_43 : decode bc_M_stock 43 = .ok (.getfield 24, 3) := by decide +kernel
theorem dc_M_stock_46 : decode bc_M_stock 46 = .ok (.aload_n 0, 1) := by decide +kernel
theorem dc_M_stock_47 : decode bc_M_stock 47 = .ok (.getfield 79, 3) := by decide +kernel
theorem dc_M_stock_50 : decode bc_M_stock 50 = .ok (.bipush 100, 2) := by decide +kernel
theorem dc_M_stock_52 : decode bc_M_stock 52 = .ok (.iastore, 1) := by decide +kernel
theorem dc_M_stock_53 : decode bc_M_stock 53 = .ok (.aload_n 0, 1) := by decide +kernel
theorem dc_M_stock_54 : decode bc_M_stock 54 = .ok (.dup, 1) := by decide +kernel
theorem dc_M_stock_55 : decode bc_M_stock 55 = .ok (.getfield 79, 3) := by decide +kernel
theorem dc_M_stock_58 : decode bc_M_stock 58 = .ok (.iconst 1, 1) := by decide +kernel
theorem dc_M_stock_59 : decode bc_M_stock 59 = .ok (.iadd, 1) := by decide +kernel
theorem dc_M_stock_60 : decode bc_M_stock 60 = .ok (.putfield 79, 3) := by decide +kernel
theorem dc_M_stock_63 : decode bc_M_stock 63 = .ok (.aload_n 0, 1) := by decide +kernel
theorem dc_M_stock_64 : decode bc_M_stock 64 = .ok (.getfield 79, 3) := by decide +kernel
theorem dc_M_stock_67 : decode bc_M_stock 67 = .ok (.iconst 1, 1) := by decide +kernel
theorem dc_M_stock_68 : decode bc_M_stock 68 = .ok (.isub, 1) := by decide +kernel
theorem dc_M_stock_69 : decode bc_M_stock 69 = .ok (.ireturn, 1) := by decide +kernel
theorem dc_M_holder_0 : decode bc_M_holder 0 = .ok (.aload_n 0, 1) := by decide +kernel
theorem dc_M_holder_1 : decode bc_M_holder 1 = .ok (.getfield 86, 3) := by decide +kernel
theorem dc_M_holder_4 : decode bc_M_holder 4 = .ok (.bipush 12, 2) := by decide +kernel
theorem dc_M_holder_6 : decode bc_M_holder 6 = .ok (.if_icmp .eq 10, 3) := by decide +kernel
theorem dc_M_holder_9 : decode bc_M_holder 9 = .ok (.iload_n 1, 1) := by decide +kernel
theorem dc_M_holder_10 : decode bc_M_holder 10 = .ok (.invokestatic 93, 3) := by decide +kernel
theorem dc_M_holder_13 : decode bc_M_holder 13 = .ok (.ifCond .ne 5, 3) := by decide +kernel
theorem dc_M_holder_16 : decode bc_M_holder 16 = .ok (.iconst (-1), 1) := by decide +kernel
theorem dc_M_holder_17 : decode bc_M_holder 17 = .ok (.ireturn, 1) := by decide +kernel
theorem dc_M_holder_18 : decode bc_M_holder 18 = .ok (.aload_n 0, 1) := by decide +kernel
theorem dc_M_holder_19 : decode bc_M_holder 19 = .ok (.getfield 36, 3) := by decide +kernel
theorem dc_M_holder_22 : decode bc_M_holder 22 = .ok (.aload_n 0, 1) := by decide +kernel
theorem dc_M_holder_23 : decode bc_M_holder 23 = .ok (.getfield 86, 3) := by decide +kernel
theorem dc_M_holder_26 : decode bc_M_holder 26 = .ok (.iload_n 1, 1) := by decide +kernel
theorem dc_M_holder_27 : decode bc_M_holder 27 = .ok (.iastore, 1) := by decide +kernel
theorem dc_M_holder_28 : decode bc_M_holder 28 = .ok (.aload_n 0, 1) := by decide +kernel
theorem dc_M_holder_29 : decode bc_M_holder 29 = .ok (.getfield 39, 3) := by decide +kernel
theorem dc_M_holder_32 : decode bc_M_holder 32 = .ok (.aload_n 0, 1) := by decide +kernel
theorem dc_M_holder_33 : decode bc_M_holder 33 = .ok (.getfield 86, 3) := by decide +kernel
theorem dc_M_holder_36 : decode bc_M_holder 36 = .ok (.iconst (-1), 1) := by decide +kernel
theorem dc_M_holder_37 : decode bc_M_holder 37 = .ok (.iastore, 1) := by decide +kernel
theorem dc_M_holder_38 : decode bc_M_holder 38 = .ok (.aload_n 0, 1) := by decide +kernel
theorem dc_M_holder_39 : decode bc_M_holder 39 = .ok (.dup, 1) := by decide +kernel
theorem dc_M_holder_40 : decode bc_M_holder 40 = .ok (.getfield 86, 3) := by decide +kernel
theorem dc_M_holder_43 : decode bc_M_holder 43 = .ok (.iconst 1, 1) := by decide +kernel
theorem dc_M_holder_44 : decode bc_M_holder 44 = .ok (.iadd, 1) := by decide +kernel
theorem dc_M_holder_45 : decode bc_M_holder 45 = .ok (.putfield 86, 3) := by decide +kernel
theorem dc_M_holder_48 : decode bc_M_holder 48 = .ok (.aload_n 0, 1) := by decide +kernel
theorem dc_M_holder_49 : decode bc_M_holder 49 = .ok (.getfield 86, 3) := by decide +kernel
theorem dc_M_holder_52 : decode bc_M_holder 52 = .ok (.iconst 1, 1) := by decide +kernel
theorem dc_M_holder_53 : decode bc_M_holder 53 = .ok (.isub, 1) := by decide +kernel
theorem dc_M_holder_54 : decode bc_M_holder 54 = .ok (.ireturn, 1) := by decide +kernel
theorem dc_M_weight_0 : decode bc_M_weight 0 = .ok (.aload_n 0, 1) := by decide +kernel
theorem dc_M_weight_1 : decode bc_M_weight 1 = .ok (.iload_n 1, 1) := by decide +kernel
theorem dc_M_weight_2 : decode bc_M_weight 2 = .ok (.invokevirtual 97, 3) := by decide +kernel
theorem dc_M_weight_5 : decode bc_M_weight 5 = .ok (.ifCond .eq 31, 3) := by decide +kernel
theorem dc_M_weight_8 : decode bc_M_weight 8 = .ok (.aload_n 0, 1) := by decide +kernel
theorem dc_M_weight_9 : decode bc_M_weight 9 = .ok (.iload_n 2, 1) := by decide +kernel
theorem dc_M_weight_10 : decode bc_M_weight 10 = .ok (.invokevirtual 100, 3) := by decide +kernel
theorem dc_M_weight_13 : decode bc_M_weight 13 = .ok (.ifCond .eq 23, 3) := by decide +kernel
theorem dc_M_weight_16 : decode bc_M_weight 16 = .ok (.aload_n 0, 1) := by decide +kernel
theorem dc_M_weight_17 : decode bc_M_weight 17 = .ok (.getfield 20, 3) := by decide +kernel
theorem dc_M_weight_20 : decode bc_M_weight 20 = .ok (.iload_n 1, 1) := by decide +kernel
theorem dc_M_weight_21 : decode bc_M_weight 21 = .ok (.baload, 1) := by decide +kernel
theorem dc_M_weight_22 : decode bc_M_weight 22 = .ok (.ifCond .ne 14, 3) := by decide +kernel
theorem dc_M_weight_25 : decode bc_M_weight 25 = .ok (.lload_n 3, 1) := by decide +kernel
theorem dc_M_weight_26 : decode bc_M_weight 26 = .ok (.lconst 0, 1) := by decide +kernel
theorem dc_M_weight_27 : decode bc_M_weight 27 = .ok (.ldc2_w 103, 3) := by decide +kernel
theorem dc_M_weight_30 : decode bc_M_weight 30 = .ok (.invokestatic 82, 3) := by decide +kernel
theorem dc_M_weight_33 : decode bc_M_weight 33 = .ok (.ifCond .ne 5, 3) := by decide +kernel
theorem dc_M_weight_36 : decode bc_M_weight 36 = .ok (.iconst 0, 1) := by decide +kernel
theorem dc_M_weight_37 : decode bc_M_weight 37 = .ok (.ireturn, 1) := by decide +kernel
theorem dc_M_weight_38 : decode bc_M_weight 38 = .ok (.aload_n 0, 1) := by decide +kernel
theorem dc_M_weight_39 : decode bc_M_weight 39 = .ok (.getfield 42, 3) := by decide +kernel
theorem dc_M_weight_42 : decode bc_M_weight 42 = .ok (.bipush 12, 2) := by decide +kernel
theorem dc_M_weight_44 : decode bc_M_weight 44 = .ok (.iload_n 1, 1) := by decide +kernel
theorem dc_M_weight_45 : decode bc_M_weight 45 = .ok (.imul, 1) := by decide +kernel
theorem dc_M_weight_46 : decode bc_M_weight 46 = .ok (.iload_n 2, 1) := by decide +kernel
theorem dc_M_weight_47 : decode bc_M_weight 47 = .ok (.iadd, 1) := by decide +kernel
theorem dc_M_weight_48 : decode bc_M_weight 48 = .ok (.lload_n 3, 1) := by decide +kernel
theorem dc_M_weight_49 : decode bc_M_weight 49 = .ok (.lastore, 1) := by decide +kernel
theorem dc_M_weight_50 : decode bc_M_weight 50 = .ok (.iconst 1, 1) := by decide +kernel
theorem dc_M_weight_51 : decode bc_M_weight 51 = .ok (.ireturn, 1) := by decide +kernel
theorem dc_M_aside_0 : decode bc_M_aside 0 = .ok (.aload_n 0, 1) := by decide +kernel
theorem dc_M_aside_1 : decode bc_M_aside 1 = .ok (.iload_n 1, 1) := by decide +kernel
theorem dc_M_aside_2 : decode bc_M_aside 2 = .ok (.invokevirtual 97, 3) := by decide +kernel
theorem dc_M_aside_5 : decode bc_M_aside 5 = .ok (.ifCond .eq 26, 3) := by decide +kernel
theorem dc_M_aside_8 : decode bc_M_aside 8 = .ok (.aload_n 0, 1) := by decide +kernel
theorem dc_M_aside_9 : decode bc_M_aside 9 = .ok (.getfield 20, 3) := by decide +kernel
theorem dc_M_aside_12 : decode bc_M_aside 12 = .ok (.iload_n 1, 1) := by decide +kernel
theorem dc_M_aside_13 : decode bc_M_aside 13 = .ok (.baload, 1) := by decide +kernel
theorem dc_M_aside_14 : decode bc_M_aside 14 = .ok (.ifCond .ne 17, 3) := by decide +kernel
theorem dc_M_aside_17 : decode bc_M_aside 17 = .ok (.lload_n 2, 1) := by decide +kernel
theorem dc_M_aside_18 : decode bc_M_aside 18 = .ok (.lconst 0, 1) := by decide +kernel
theorem dc_M_aside_19 : decode bc_M_aside 19 = .ok (.aload_n 0, 1) := by decide +kernel
theorem dc_M_aside_20 : decode bc_M_aside 20 = .ok (.getfield 7, 3) := by decide +kernel
theorem dc_M_aside_23 : decode bc_M_aside 23 = .ok (.iload_n 1, 1) := by decide +kernel
theorem dc_M_aside_24 : decode bc_M_aside 24 = .ok (.laload, 1) := by decide +kernel
theorem dc_M_aside_25 : decode bc_M_aside 25 = .ok (.invokestatic 82, 3) := by decide +kernel
theorem dc_M_aside_28 : decode bc_M_aside 28 = .ok (.ifCond .ne 5, 3) := by decide +kernel
theorem dc_M_aside_31 : decode bc_M_aside 31 = .ok (.iconst 0, 1) := by decide +kernel
theorem dc_M_aside_32 : decode bc_M_aside 32 = .ok (.ireturn, 1) := by decide +kernel
theorem dc_M_aside_33 : decode bc_M_aside 33 = .ok (.aload_n 0, 1) := by decide +kernel
theorem dc_M_aside_34 : decode bc_M_aside 34 = .ok (.getfield 13, 3) := by decide +kernel
theorem dc_M_aside_37 : decode bc_M_aside 37 = .ok (.iload_n 1, 1) := by decide +kernel
theorem dc_M_aside_38 : decode bc_M_aside 38 = .ok (.lload_n 2, 1) := by decide +kernel
theorem dc_M_aside_39 : decode bc_M_aside 39 = .ok (.lastore, 1) := by decide +kernel
theorem dc_M_aside_40 : decode bc_M_aside 40 = .ok (.iconst 1, 1) := by decide +kernel
theorem dc_M_aside_41 : decode bc_M_aside 41 = .ok (.ireturn, 1) := by decide +kernel
theorem dc_M_follows_0 : decode bc_M_follows 0 = .ok (.aload_n 0, 1) := by decide +kernel
theorem dc_M_follows_1 : decode bc_M_follows 1 = .ok (.iload_n 1, 1) := by decide +kernel
theorem dc_M_follows_2 : decode bc_M_follows 2 = .ok (.invokevirtual 97, 3) := by decide +kernel
theorem dc_M_follows_5 : decode bc_M_follows 5 = .ok (.ifCond .eq 39, 3) := by decide +kernel
theorem dc_M_follows_8 : decode bc_M_follows 8 = .ok (.aload_n 0, 1) := by decide +kernel
theorem dc_M_follows_9 : decode bc_M_follows 9 = .ok (.iload_n 2, 1) := by decide +kernel
theorem dc_M_follows_10 : decode bc_M_follows 10 = .ok (.invokevirtual 97, 3) := by decide +kernel
theorem dc_M_follows_13 : decode bc_M_follows 13 = .ok (.ifCond .eq 31, 3) := by decide +kernel
theorem dc_M_follows_16 : decode bc_M_follows 16 = .ok (.aload_n 0, 1) := by decide +kernel
theorem dc_M_follows_17 : decode bc_M_follows 17 = .ok (.getfield 20, 3) := by decide +kernel
theorem dc_M_follows_20 : decode bc_M_follows 20 = .ok (.iload_n 1, 1) := by decide +kernel
theorem dc_M_follows_21 : decode bc_M_follows 21 = .ok (.baload, 1) := by decide +kernel
theorem dc_M_follows_22 : decode bc_M_follows 22 = .ok (.ifCond .ne 22, 3) := by decide +kernel
theorem dc_M_follows_25 : decode bc_M_follows 25 = .ok (.aload_n 0, 1) := by decide +kernel
theorem dc_M_follows_26 : decode bc_M_follows 26 = .ok (.getfield 20, 3) := by decide +kernel
theorem dc_M_follows_29 : decode bc_M_follows 29 = .ok (.iload_n 2, 1) := by decide +kernel
theorem dc_M_follows_30 : decode bc_M_follows 30 = .ok (.baload, 1) := by decide +kernel
theorem dc_M_follows_31 : decode bc_M_follows 31 = .ok (.ifCond .eq 13, 3) := by decide +kernel
theorem dc_M_follows_34 : decode bc_M_follows 34 = .ok (.aload_n 0, 1) := by decide +kernel
theorem dc_M_follows_35 : decode bc_M_follows 35 = .ok (.getfield 16, 3) := by decide +kernel
theorem dc_M_follows_38 : decode bc_M_follows 38 = .ok (.iload_n 1, 1) := by decide +kernel
theorem dc_M_follows_39 : decode bc_M_follows 39 = .ok (.iaload, 1) := by decide +kernel
theorem dc_M_follows_40 : decode bc_M_follows 40 = .ok (.iconst (-1), 1) := by decide +kernel
theorem dc_M_follows_41 : decode bc_M_follows 41 = .ok (.if_icmp .eq 5, 3) := by decide +kernel
theorem dc_M_follows_44 : decode bc_M_follows 44 = .ok (.iconst 0, 1) := by decide +kernel
theorem dc_M_follows_45 : decode bc_M_follows 45 = .ok (.ireturn, 1) := by decide +kernel
theorem dc_M_follows_46 : decode bc_M_follows 46 = .ok (.aload_n 0, 1) := by decide +kernel
theorem dc_M_follows_47 : decode bc_M_follows 47 = .ok (.getfield 16, 3) := by decide +kernel
theorem dc_M_follows_50 : decode bc_M_follows 50 = .ok (.iload_n 1, 1) := by decide +kernel
theorem dc_M_follows_51 : decode bc_M_follows 51 = .ok (.iload_n 2, 1) := by decide +kernel
theorem dc_M_follows_52 : decode bc_M_follows 52 = .ok (.iastore, 1) := by decide +kernel
theorem dc_M_follows_53 : decode bc_M_follows 53 = .ok (.iconst 1, 1) := by decide +kernel
theorem dc_M_follows_54 : decode bc_M_follows 54 = .ok (.ireturn, 1) := by decide +kernel
theorem dc_M_allWeights_0 : decode bc_M_allWeights 0 = .ok (.lconst 0, 1) := by decide +kernel
theorem dc_M_allWeights_1 : decode bc_M_allWeights 1 = .ok (.lstore_n 2, 1) := by decide +kernel
theorem dc_M_allWeights_2 : decode bc_M_allWeights 2 = .ok (.iconst 0, 1) := by decide +kernel
theorem dc_M_allWeights_3 : decode bc_M_allWeights 3 = .ok (.istore 4, 2) := by decide +kernel
theorem dc_M_allWeights_5 : decode bc_M_allWeights 5 = .ok (.iload 4, 2) := by decide +kernel
theorem dc_M_allWeights_7 : decode bc_M_allWeights 7 = .ok (.aload_n 0, 1) := by decide +kernel
theorem dc_M_allWeights_8 : decode bc_M_allWeights 8 = .ok (.getfield 86, 3) := by decide +kernel
theorem dc_M_allWeights_11 : decode bc_M_allWeights 11 = .ok (.if_icmp .ge 24, 3) := by decide +kernel
theorem dc_M_allWeights_14 : decode bc_M_allWeights 14 = .ok (.lload_n 2, 1) := by decide +kernel
theorem dc_M_allWeights_15 : decode bc_M_allWeights 15 = .ok (.aload_n 0, 1) := by decide +kernel
theorem dc_M_allWeights_16 : decode bc_M_allWeights 16 = .ok (.getfield 42, 3) := by decide +kernel
theorem dc_M_allWeights_19 : decode bc_M_allWeights 19 = .ok (.bipush 12, 2) := by decide +kernel
theorem dc_M_allWeights_21 : decode bc_M_allWeights 21 = .ok (.iload_n 1, 1) := by decide +kernel
theorem dc_M_allWeights_22 : decode bc_M_allWeights 22 = .ok (.imul, 1) := by decide +kernel
theorem dc_M_allWeights_23 : decode bc_M_allWeights 23 = .ok (.iload 4, 2) := by decide +kernel
theorem dc_M_allWeights_25 : decode bc_M_allWeights 25 = .ok (.iadd, 1) := by decide +kernel
theorem dc_M_allWeights_26 : decode bc_M_allWeights 26 = .ok (.laload, 1) := by decide +kernel
theorem dc_M_allWeights_27 : decode bc_M_allWeights 27 = .ok (.ladd, 1) := by decide +kernel
theorem dc_M_allWeights_28 : decode bc_M_allWeights 28 = .ok (.lstore_n 2, 1) := by decide +kernel
theorem dc_M_allWeights_29 : decode bc_M_allWeights 29 = .ok (.iinc 4 1, 3) := by decide +kernel
theorem dc_M_allWeights_32 : decode bc_M_allWeights 32 = .ok (.goto (-27), 3) := by decide +kernel
theorem dc_M_allWeights_35 : decode bc_M_allWeights 35 = .ok (.lload_n 2, 1) := by decide +kernel
theorem dc_M_allWeights_36 : decode bc_M_allWeights 36 = .ok (.lreturn, 1) := by decide +kernel
theorem dc_M_allShares_0 : decode bc_M_allShares 0 = .ok (.lconst 0, 1) := by decide +kernel
theorem dc_M_allShares_1 : decode bc_M_allShares 1 = .ok (.lstore_n 2, 1) := by decide +kernel
theorem dc_M_allShares_2 : decode bc_M_allShares 2 = .ok (.iconst 0, 1) := by decide +kernel
theorem dc_M_allShares_3 : decode bc_M_allShares 3 = .ok (.istore 4, 2) := by decide +kernel
theorem dc_M_allShares_5 : decode bc_M_allShares 5 = .ok (.iload 4, 2) := by decide +kernel
theorem dc_M_allShares_7 : decode bc_M_allShares 7 = .ok (.aload_n 0, 1) := by decide +kernel
theorem dc_M_allShares_8 : decode bc_M_allShares 8 = .ok (.getfield 86, 3) := by decide +kernel
theorem dc_M_allShares_11 : decode bc_M_allShares 11 = .ok (.if_icmp .ge 24, 3) := by decide +kernel
theorem dc_M_allShares_14 : decode bc_M_allShares 14 = .ok (.lload_n 2, 1) := by decide +kernel
theorem dc_M_allShares_15 : decode bc_M_allShares 15 = .ok (.aload_n 0, 1) := by decide +kernel
theorem dc_M_allShares_16 : decode bc_M_allShares 16 = .ok (.getfield 45, 3) := by decide +kernel
theorem dc_M_allShares_19 : decode bc_M_allShares 19 = .ok (.bipush 12, 2) := by decide +kernel
theorem dc_M_allShares_21 : decode bc_M_allShares 21 = .ok (.iload_n 1, 1) := by decide +kernel
theorem dc_M_allShares_22 : decode bc_M_allShares 22 = .ok (.imul, 1) := by decide +kernel
theorem dc_M_allShares_23 : decode bc_M_allShares 23 = .ok (.iload 4, 2) := by decide +kernel
theorem dc_M_allShares_25 : decode bc_M_allShares 25 = .ok (.iadd, 1) := by decide +kernel
theorem dc_M_allShares_26 : decode bc_M_allShares 26 = .ok (.laload, 1) := by decide +kernel
theorem dc_M_allShares_27 : decode bc_M_allShares 27 = .ok (.ladd, 1) := by decide +kernel
theorem dc_M_allShares_28 : decode bc_M_allShares 28 = .ok (.lstore_n 2, 1) := by decide +kernel
theorem dc_M_allShares_29 : decode bc_M_allShares 29 = .ok (.iinc 4 1, 3) := by decide +kernel
theorem dc_M_allShares_32 : decode bc_M_allShares 32 = .ok (.goto (-27), 3) := by decide +kernel
theorem dc_M_allShares_35 : decode bc_M_allShares 35 = .ok (.lload_n 2, 1) := by decide +kernel
theorem dc_M_allShares_36 : decode bc_M_allShares 36 = .ok (.lreturn, 1) := by decide +kernel
theorem dc_M_part_0 : decode bc_M_part 0 = .ok (.aload_n 0, 1) := by decide +kernel
theorem dc_M_part_1 : decode bc_M_part 1 = .ok (.iload_n 1, 1) := by decide +kernel
theorem dc_M_part_2 : decode bc_M_part 2 = .ok (.invokevirtual 97, 3) := by decide +kernel
theorem dc_M_part_5 : decode bc_M_part 5 = .ok (.ifCond .eq 12, 3) := by decide +kernel
theorem dc_M_part_8 : decode bc_M_part 8 = .ok (.aload_n 0, 1) := by decide +kernel
theorem dc_M_part_9 : decode bc_M_part 9 = .ok (.getfield 20, 3) := by decide +kernel
theorem dc_M_part_12 : decode bc_M_part 12 = .ok (.iload_n 1, 1) := by decide +kernel
theorem dc_M_part_13 : decode bc_M_part 13 = .ok (.baload, 1) := by decide +kernel
theorem dc_M_part_14 : decode bc_M_part 14 = .ok (.ifCond .eq 5, 3) := by decide +kernel
theorem dc_M_part_17 : decode bc_M_part 17 = .ok (.iconst (-1), 1) := by decide +kernel
theorem dc_M_part_18 : decode bc_M_part 18 = .ok (.ireturn, 1) := by decide +kernel
theorem dc_M_part_19 : decode bc_M_part 19 = .ok (.aload_n 0, 1) := by decide +kernel
theorem dc_M_part_20 : decode bc_M_part 20 = .ok (.iload_n 1, 1) := by decide +kernel
theorem dc_M_part_21 : decode bc_M_part 21 = .ok (.invokevirtual 105, 3) := by decide +kernel
theorem dc_M_part_24 : decode bc_M_part 24 = .ok (.lstore_n 2, 1) := by decide +kernel
theorem dc_M_part_25 : decode bc_M_part 25 = .ok (.lload_n 2, 1) := by decide +kernel
theorem dc_M_part_26 : decode bc_M_part 26 = .ok (.lconst 0, 1) := by decide +kernel
theorem dc_M_part_27 : decode bc_M_part 27 = .ok (.lcmp, 1) := by decide +kernel
theorem dc_M_part_28 : decode bc_M_part 28 = .ok (.ifCond .ne 5, 3) := by decide +kernel
theorem dc_M_part_31 : decode bc_M_part 31 = .ok (.iconst (-1), 1) := by decide +kernel
theorem dc_M_part_32 : decode bc_M_part 32 = .ok (.ireturn, 1) := by decide +kernel
theorem dc_M_part_33 : decode bc_M_part 33 = .ok (.aload_n 0, 1) := by decide +kernel
theorem dc_M_part_34 : decode bc_M_part 34 = .ok (.getfield 7, 3) := by decide +kernel
theorem dc_M_part_37 : decode bc_M_part 37 = .ok (.iload_n 1, 1) := by decide +kernel
theorem dc_M_part_38 : decode bc_M_part 38 = .ok (.laload, 1) := by decide +kernel
theorem dc_M_part_39 : decode bc_M_part 39 = .ok (.aload_n 0, 1) := by decide +kernel
theorem dc_M_part_40 : decode bc_M_part 40 = .ok (.getfield 13, 3) := by decide +kernel
theorem dc_M_part_43 : decode bc_M_part 43 = .ok (.iload_n 1, 1) := by decide +kernel
theorem dc_M_part_44 : decode bc_M_part 44 = .ok (.laload, 1) := by decide +kernel
theorem dc_M_part_45 : decode bc_M_part 45 = .ok (.lsub, 1) := by decide +kernel
theorem dc_M_part_46 : decode bc_M_part 46 = .ok (.lstore 4, 2) := by decide +kernel
theorem dc_M_part_48 : decode bc_M_part 48 = .ok (.lload 4, 2) := by decide +kernel
theorem dc_M_part_50 : decode bc_M_part 50 = .ok (.lstore 6, 2) := by decide +kernel
theorem dc_M_part_52 : decode bc_M_part 52 = .ok (.iconst 0, 1) := by decide +kernel
theorem dc_M_part_53 : decode bc_M_part 53 = .ok (.istore 8, 2) := by decide +kernel
theorem dc_M_part_55 : decode bc_M_part 55 = .ok (.iload 8, 2) := by decide +kernel
theorem dc_M_part_57 : decode bc_M_part 57 = .ok (.aload_n 0, 1) := by decide +kernel
theorem dc_M_part_58 : decode bc_M_part 58 = .ok (.getfield 86, 3) := by decide +kernel
theorem dc_M_part_61 : decode bc_M_part 61 = .ok (.if_icmp .ge 62, 3) := by decide +kernel
theorem dc_M_part_64 : decode bc_M_part 64 = .ok (.lload 4, 2) := by decide +kernel
theorem dc_M_part_66 : decode bc_M_part 66 = .ok (.aload_n 0, 1) := by decide +kernel
theorem dc_M_part_67 : decode bc_M_part 67 = .ok (.getfield 42, 3) := by decide +kernel
theorem dc_M_part_70 : decode bc_M_part 70 = .ok (.bipush 12, 2) := by decide +kernel
theorem dc_M_part_72 : decode bc_M_part 72 = .ok (.iload_n 1, 1) := by decide +kernel
theorem dc_M_part_73 : decode bc_M_part 73 = .ok (.imul, 1) := by decide +kernel
theorem dc_M_part_74 : decode bc_M_part 74 = .ok (.iload 8, 2) := by decide +kernel
theorem dc_M_part_76 : decode bc_M_part 76 = .ok (.iadd, 1) := by decide +kernel
theorem dc_M_part_77 : decode bc_M_part 77 = .ok (.laload, 1) := by decide +kernel
theorem dc_M_part_78 : decode bc_M_part 78 = .ok (.lmul, 1) := by decide +kernel
theorem dc_M_part_79 : decode bc_M_part 79 = .ok (.lstore 9, 2) := by decide +kernel
theorem dc_M_part_81 : decode bc_M_part 81 = .ok (.aload_n 0, 1) := by decide +kernel
theorem dc_M_part_82 : decode bc_M_part 82 = .ok (.getfield 45, 3) := by decide +kernel
theorem dc_M_part_85 : decode bc_M_part 85 = .ok (.bipush 12, 2) := by decide +kernel
theorem dc_M_part_87 : decode bc_M_part 87 = .ok (.iload_n 1, 1) := by decide +kernel
theorem dc_M_part_88 : decode bc_M_part 88 = .ok (.imul, 1) := by decide +kernel
theorem dc_M_part_89 : decode bc_M_part 89 = .ok (.iload 8, 2) := by decide +kernel
theorem dc_M_part_91 : decode bc_M_part 91 = .ok (.iadd, 1) := by decide +kernel
theorem dc_M_part_92 : decode bc_M_part 92 = .ok (.lload 9, 2) := by decide +kernel
theorem dc_M_part_94 : decode bc_M_part 94 = .ok (.lload_n 2, 1) := by decide +kernel
theorem dc_M_part_95 : decode bc_M_part 95 = .ok (.ldiv, 1) := by decide +kernel
theorem dc_M_part_96 : decode bc_M_part 96 = .ok (.lastore, 1) := by decide +kernel
theorem dc_M_part_97 : decode bc_M_part 97 = .ok (.aload_n 0, 1) := by decide +kernel
theorem dc_M_part_98 : decode bc_M_part 98 = .ok (.getfield 48, 3) := by decide +kernel
theorem dc_M_part_101 : decode bc_M_part 101 = .ok (.iload 8, 2) := by decide +kernel
theorem dc_M_part_103 : decode bc_M_part 103 = .ok (.lload 9, 2) := by decide +kernel
theorem dc_M_part_105 : decode bc_M_part 105 = .ok (.lload_n 2, 1) := by decide +kernel
theorem dc_M_part_106 : decode bc_M_part 106 = .ok (.lrem, 1) := by decide +kernel
theorem dc_M_part_107 : decode bc_M_part 107 = .ok (.lastore, 1) := by decide +kernel
theorem dc_M_part_108 : decode bc_M_part 108 = .ok (.lload 6, 2) := by decide +kernel
theorem dc_M_part_110 : decode bc_M_part 110 = .ok (.lload 9, 2) := by decide +kernel
theorem dc_M_part_112 : decode bc_M_part 112 = .ok (.lload_n 2, 1) := by decide +kernel
theorem dc_M_part_113 : decode bc_M_part 113 = .ok (.ldiv, 1) := by decide +kernel
theorem dc_M_part_114 : decode bc_M_part 114 = .ok (.lsub, 1) := by decide +kernel
theorem dc_M_part_115 : decode bc_M_part 115 = .ok (.lstore 6, 2) := by decide +kernel
theorem dc_M_part_117 : decode bc_M_part 117 = .ok (.iinc 8 1, 3) := by decide +kernel
theorem dc_M_part_120 : decode bc_M_part 120 = .ok (.goto (-65), 3) := by decide +kernel
theorem dc_M_part_123 : decode bc_M_part 123 = .ok (.lload 6, 2) := by decide +kernel
theorem dc_M_part_125 : decode bc_M_part 125 = .ok (.lconst 0, 1) := by decide +kernel
theorem dc_M_part_126 : decode bc_M_part 126 = .ok (.lcmp, 1) := by decide +kernel
theorem dc_M_part_127 : decode bc_M_part 127 = .ok (.ifCond .le 86, 3) := by decide +kernel
theorem dc_M_part_130 : decode bc_M_part 130 = .ok (.iconst 0, 1) := by decide +kernel
theorem dc_M_part_131 : decode bc_M_part 131 = .ok (.istore 8, 2) := by decide +kernel
theorem dc_M_part_133 : decode bc_M_part 133 = .ok (.iconst 1, 1) := by decide +kernel
theorem dc_M_part_134 : decode bc_M_part 134 = .ok (.istore 9, 2) := by decide +kernel
theorem dc_M_part_136 : decode bc_M_part 136 = .ok (.iload 9, 2) := by decide +kernel
theorem dc_M_part_138 : decode bc_M_part 138 = .ok (.aload_n 0, 1) := by decide +kernel
theorem dc_M_part_139 : decode bc_M_part 139 = .ok (.getfield 86, 3) := by decide +kernel
theorem dc_M_part_142 : decode bc_M_part 142 = .ok (.if_icmp .ge 36, 3) := by decide +kernel
theorem dc_M_part_145 : decode bc_M_part 145 = .ok (.aload_n 0, 1) := by decide +kernel
theorem dc_M_part_146 : decode bc_M_part 146 = .ok (.getfield 48, 3) := by decide +kernel
theorem dc_M_part_149 : decode bc_M_part 149 = .ok (.iload 9, 2) := by decide +kernel
theorem dc_M_part_151 : decode bc_M_part 151 = .ok (.laload, 1) := by decide +kernel
theorem dc_M_part_152 : decode bc_M_part 152 = .ok (.aload_n 0, 1) := by decide +kernel
theorem dc_M_part_153 : decode bc_M_part 153 = .ok (.getfield 48, 3) := by decide +kernel
theorem dc_M_part_156 : decode bc_M_part 156 = .ok (.iload 8, 2) := by decide +kernel
theorem dc_M_part_158 : decode bc_M_part 158 = .ok (.laload, 1) := by decide +kernel
theorem dc_M_part_159 : decode bc_M_part 159 = .ok (.lcmp, 1) := by decide +kernel
theorem dc_M_part_160 : decode bc_M_part 160 = .ok (.ifCond .le 8, 3) := by decide +kernel
theorem dc_M_part_163 : decode bc_M_part 163 = .ok (.iload 9, 2) := by decide +kernel
theorem dc_M_part_165 : decode bc_M_part 165 = .ok (.goto 5, 3) := by decide +kernel
theorem dc_M_part_168 : decode bc_M_part 168 = .ok (.iload 8, 2) := by decide +kernel
theorem dc_M_part_170 : decode bc_M_part 170 = .ok (.istore 8, 2) := by decide +kernel
theorem dc_M_part_172 : decode bc_M_part 172 = .ok (.iinc 9 1, 3) := by decide +kernel
theorem dc_M_part_175 : decode bc_M_part 175 = .ok (.goto (-39), 3) := by decide +kernel
theorem dc_M_part_178 : decode bc_M_part 178 = .ok (.aload_n 0, 1) := by decide +kernel
theorem dc_M_part_179 : decode bc_M_part 179 = .ok (.getfield 45, 3) := by decide +kernel
theorem dc_M_part_182 : decode bc_M_part 182 = .ok (.bipush 12, 2) := by decide +kernel
theorem dc_M_part_184 : decode bc_M_part 184 = .ok (.iload_n 1, 1) := by decide +kernel
theorem dc_M_part_185 : decode bc_M_part 185 = .ok (.imul, 1) := by decide +kernel
theorem dc_M_part_186 : decode bc_M_part 186 = .ok (.iload 8, 2) := by decide +kernel
theorem dc_M_part_188 : decode bc_M_part 188 = .ok (.iadd, 1) := by decide +kernel
theorem dc_M_part_189 : decode bc_M_part 189 = .ok (.dup2, 1) := by decide +kernel
theorem dc_M_part_190 : decode bc_M_part 190 = .ok (.laload, 1) := by decide +kernel
theorem dc_M_part_191 : decode bc_M_part 191 = .ok (.lconst 1, 1) := by decide +kernel
theorem dc_M_part_192 : decode bc_M_part 192 = .ok (.ladd, 1) := by decide +kernel
theorem dc_M_part_193 : decode bc_M_part 193 = .ok (.lastore, 1) := by decide +kernel
theorem dc_M_part_194 : decode bc_M_part 194 = .ok (.aload_n 0, 1) := by decide +kernel
theorem dc_M_part_195 : decode bc_M_part 195 = .ok (.getfield 48, 3) := by decide +kernel
theorem dc_M_part_198 : decode bc_M_part 198 = .ok (.iload 8, 2) := by decide +kernel
theorem dc_M_part_200 : decode bc_M_part 200 = .ok (.ldc2_w 109, 3) := by decide +kernel
theorem dc_M_part_203 : decode bc_M_part 203 = .ok (.lastore, 1) := by decide +kernel
theorem dc_M_part_204 : decode bc_M_part 204 = .ok (.lload 6, 2) := by decide +kernel
theorem dc_M_part_206 : decode bc_M_part 206 = .ok (.lconst 1, 1) := by decide +kernel
theorem dc_M_part_207 : decode bc_M_part 207 = .ok (.lsub, 1) := by decide +kernel
theorem dc_M_part_208 : decode bc_M_part 208 = .ok (.lstore 6, 2) := by decide +kernel
theorem dc_M_part_210 : decode bc_M_part 210 = .ok (.goto (-87), 3) := by decide +kernel
theorem dc_M_part_213 : decode bc_M_part 213 = .ok (.iconst 0, 1) := by decide +kernel
theorem dc_M_part_214 : decode bc_M_part 214 = .ok (.istore 8, 2) := by decide +kernel
theorem dc_M_part_216 : decode bc_M_part 216 = .ok (.iconst 0, 1) := by decide +kernel
theorem dc_M_part_217 : decode bc_M_part 217 = .ok (.istore 9, 2) := by decide +kernel
theorem dc_M_part_219 : decode bc_M_part 219 = .ok (.iload 9, 2) := by decide +kernel
theorem dc_M_part_221 : decode bc_M_part 221 = .ok (.aload_n 0, 1) := by decide +kernel
theorem dc_M_part_222 : decode bc_M_part 222 = .ok (.getfield 86, 3) := by decide +kernel
theorem dc_M_part_225 : decode bc_M_part 225 = .ok (.if_icmp .ge 120, 3) := by decide +kernel
theorem dc_M_part_228 : decode bc_M_part 228 = .ok (.bipush 12, 2) := by decide +kernel
theorem dc_M_part_230 : decode bc_M_part 230 = .ok (.iload_n 1, 1) := by decide +kernel
theorem dc_M_part_231 : decode bc_M_part 231 = .ok (.imul, 1) := by decide +kernel
theorem dc_M_part_232 : decode bc_M_part 232 = .ok (.iload 9, 2) := by decide +kernel
theorem dc_M_part_234 : decode bc_M_part 234 = .ok (.iadd, 1) := by decide +kernel
theorem dc_M_part_235 : decode bc_M_part 235 = .ok (.istore 10, 2) := by decide +kernel
theorem dc_M_part_237 : decode bc_M_part 237 = .ok (.aload_n 0, 1) := by decide +kernel
theorem dc_M_part_238 : decode bc_M_part 238 = .ok (.getfield 16, 3) := by decide +kernel
theorem dc_M_part_241 : decode bc_M_part 241 = .ok (.iload_n 1, 1) := by decide +kernel
theorem dc_M_part_242 : decode bc_M_part 242 = .ok (.iaload, 1) := by decide +kernel
theorem dc_M_part_243 : decode bc_M_part 243 = .ok (.iconst (-1), 1) := by decide +kernel
theorem dc_M_part_244 : decode bc_M_part 244 = .ok (.if_icmp .eq 72, 3) := by decide +kernel
theorem dc_M_part_247 : decode bc_M_part 247 = .ok (.aload_n 0, 1) := by decide +kernel
theorem dc_M_part_248 : decode bc_M_part 248 = .ok (.getfield 45, 3) := by decide +kernel
theorem dc_M_part_251 : decode bc_M_part 251 = .ok (.iload 10, 2) := by decide +kernel
theorem dc_M_part_253 : decode bc_M_part 253 = .ok (.laload, 1) := by decide +kernel
theorem dc_M_part_254 : decode bc_M_part 254 = .ok (.lstore 11, 2) := by decide +kernel
theorem dc_M_part_256 : decode bc_M_part 256 = .ok (.lload 11, 2) := by decide +kernel
theorem dc_M_part_258 : decode bc_M_part 258 = .ok (.aload_n 0, 1) := by decide +kernel
theorem dc_M_part_259 : decode bc_M_part 259 = .ok (.aload_n 0, 1) := by decide +kernel
theorem dc_M_part_260 : decode bc_M_part 260 = .ok (.getfield 16, 3) := by decide +kernel
theorem dc_M_part_263 : decode bc_M_part 263 = .ok (.iload_n 1, 1) := by decide +kernel
theorem dc_M_part_264 : decode bc_M_part 264 = .ok (.iaload, 1) := by decide +kernel
theorem dc_M_part_265 : decode bc_M_part 265 = .ok (.iload 9, 2) := by decide +kernel
theorem dc_M_part_267 : decode bc_M_part 267 = .ok (.invokevirtual 111, 3) := by decide +kernel
theorem dc_M_part_270 : decode bc_M_part 270 = .ok (.ladd, 1) := by decide +kernel
theorem dc_M_part_271 : decode bc_M_part 271 = .ok (.lstore 13, 2) := by decide +kernel
theorem dc_M_part_273 : decode bc_M_part 273 = .ok (.aload_n 0, 1) := by decide +kernel
theorem dc_M_part_274 : decode bc_M_part 274 = .ok (.getfield 45, 3) := by decide +kernel
theorem dc_M_part_277 : decode bc_M_part 277 = .ok (.iload 10, 2) := by decide +kernel
theorem dc_M_part_279 : decode bc_M_part 279 = .ok (.lload 13, 2) := by decide +kernel
theorem dc_M_part_281 : decode bc_M_part 281 = .ok (.lconst 0, 1) := by decide +kernel
theorem dc_M_part_282 : decode bc_M_part 282 = .ok (.lcmp, 1) := by decide +kernel
theorem dc_M_part_283 : decode bc_M_part 283 = .ok (.ifCond .ge 7, 3) := by decide +kernel
theorem dc_M_part_286 : decode bc_M_part 286 = .ok (.lconst 0, 1) := by decide +kernel
theorem dc_M_part_287 : decode bc_M_part 287 = .ok (.goto 5, 3) := by decide +kernel
theorem dc_M_part_290 : decode bc_M_part 290 = .ok (.lload 13, 2) := by decide +kernel
theorem dc_M_part_292 : decode bc_M_part 292 = .ok (.lastore, 1) := by decide +kernel
theorem dc_M_part_293 : decode bc_M_part 293 = .ok (.aload_n 0, 1) := by decide +kernel
theorem dc_M_part_294 : decode bc_M_part 294 = .ok (.getfield 27, 3) := by decide +kernel
theorem dc_M_part_297 : decode bc_M_part 297 = .ok (.iload_n 1, 1) := by decide +kernel
theorem dc_M_part_298 : decode bc_M_part 298 = .ok (.aload_n 0, 1) := by decide +kernel
theorem dc_M_part_299 : decode bc_M_part 299 = .ok (.getfield 27, 3) := by decide +kernel
theorem dc_M_part_302 : decode bc_M_part 302 = .ok (.iload_n 1, 1) := by decide +kernel
theorem dc_M_part_303 : decode bc_M_part 303 = .ok (.laload, 1) := by decide +kernel
theorem dc_M_part_304 : decode bc_M_part 304 = .ok (.aload_n 0, 1) := by decide +kernel
theorem dc_M_part_305 : decode bc_M_part 305 = .ok (.getfield 45, 3) := by decide +kernel
theorem dc_M_part_308 : decode bc_M_part 308 = .ok (.iload 10, 2) := by decide +kernel
theorem dc_M_part_310 : decode bc_M_part 310 = .ok (.laload, 1) := by decide +kernel
theorem dc_M_part_311 : decode bc_M_part 311 = .ok (.ladd, 1) := by decide +kernel
theorem dc_M_part_312 : decode bc_M_part 312 = .ok (.lload 11, 2) := by decide +kernel
theorem dc_M_part_314 : decode bc_M_part 314 = .ok (.lsub, 1) := by decide +kernel
theorem dc_M_part_315 : decode bc_M_part 315 = .ok (.lastore, 1) := by decide +kernel
theorem dc_M_part_316 : decode bc_M_part 316 = .ok (.aload_n 0, 1) := by decide +kernel
theorem dc_M_part_317 : decode bc_M_part 317 = .ok (.getfield 45, 3) := by decide +kernel
theorem dc_M_part_320 : decode bc_M_part 320 = .ok (.iload 10, 2) := by decide +kernel
theorem dc_M_part_322 : decode bc_M_part 322 = .ok (.laload, 1) := by decide +kernel
theorem dc_M_part_323 : decode bc_M_part 323 = .ok (.lconst 0, 1) := by decide +kernel
theorem dc_M_part_324 : decode bc_M_part 324 = .ok (.lcmp, 1) := by decide +kernel
theorem dc_M_part_325 : decode bc_M_part 325 = .ok (.ifCond .le 10, 3) := by decide +kernel
theorem dc_M_part_328 : decode bc_M_part 328 = .ok (.iload 8, 2) := by decide +kernel
theorem dc_M_part_330 : decode bc_M_part 330 = .ok (.iconst 1, 1) := by decide +kernel
theorem dc_M_part_331 : decode bc_M_part 331 = .ok (.iadd, 1) := by decide +kernel
theorem dc_M_part_332 : decode bc_M_part 332 = .ok (.goto 5, 3) := by decide +kernel
theorem dc_M_part_335 : decode bc_M_part 335 = .ok (.iload 8, 2) := by decide +kernel
theorem dc_M_part_337 : decode bc_M_part 337 = .ok (.istore 8, 2) := by decide +kernel
theorem dc_M_part_339 : decode bc_M_part 339 = .ok (.iinc 9 1, 3) := by decide +kernel
theorem dc_M_part_342 : decode bc_M_part 342 = .ok (.goto (-123), 3) := by decide +kernel
theorem dc_M_part_345 : decode bc_M_part 345 = .ok (.aload_n 0, 1) := by decide +kernel
theorem dc_M_part_346 : decode bc_M_part 346 = .ok (.getfield 20, 3) := by decide +kernel
theorem dc_M_part_349 : decode bc_M_part 349 = .ok (.iload_n 1, 1) := by decide +kernel
theorem dc_M_part_350 : decode bc_M_part 350 = .ok (.iconst 1, 1) := by decide +kernel
theorem dc_M_part_351 : decode bc_M_part 351 = .ok (.bastore, 1) := by decide +kernel
theorem dc_M_part_352 : decode bc_M_part 352 = .ok (.iload 8, 2) := by decide +kernel
theorem dc_M_part_354 : decode bc_M_part 354 = .ok (.ireturn, 1) := by decide +kernel
theorem dc_M_given_0 : decode bc_M_given 0 = .ok (.aload_n 0, 1) := by decide +kernel
theorem dc_M_given_1 : decode bc_M_given 1 = .ok (.iload_n 1, 1) := by decide +kernel
theorem dc_M_given_2 : decode bc_M_given 2 = .ok (.invokevirtual 97, 3) := by decide +kernel
theorem dc_M_given_5 : decode bc_M_given 5 = .ok (.ifCond .eq 25, 3) := by decide +kernel
theorem dc_M_given_8 : decode bc_M_given 8 = .ok (.aload_n 0, 1) := by decide +kernel
theorem dc_M_given_9 : decode bc_M_given 9 = .ok (.iload_n 2, 1) := by decide +kernel
theorem dc_M_given_10 : decode bc_M_given 10 = .ok (.invokevirtual 100, 3) := by decide +kernel
theorem dc_M_given_13 : decode bc_M_given 13 = .ok (.ifCond .eq 17, 3) := by decide +kernel
theorem dc_M_given_16 : decode bc_M_given 16 = .ok (.aload_n 0, 1) := by decide +kernel
theorem dc_M_given_17 : decode bc_M_given 17 = .ok (.getfield 45, 3) := by decide +kernel
theorem dc_M_given_20 : decode bc_M_given 20 = .ok (.bipush 12, 2) := by decide +kernel
theorem dc_M_given_22 : decode bc_M_given 22 = .ok (.iload_n 1, 1) := by decide +kernel
theorem dc_M_given_23 : decode bc_M_given 23 = .ok (.imul, 1) := by decide +kernel
theorem dc_M_given_24 : decode bc_M_given 24 = .ok (.iload_n 2, 1) := by decide +kernel
theorem dc_M_given_25 : decode bc_M_given 25 = .ok (.iadd, 1) := by decide +kernel
theorem dc_M_given_26 : decode bc_M_given 26 = .ok (.laload, 1) := by decide +kernel
theorem dc_M_given_27 : decode bc_M_given 27 = .ok (.goto 6, 3) := by decide +kernel
theorem dc_M_given_30 : decode bc_M_given 30 = .ok (.ldc2_w 109, 3) := by decide +kernel
theorem dc_M_given_33 : decode bc_M_given 33 = .ok (.lreturn, 1) := by decide +kernel
theorem dc_M_land_0 : decode bc_M_land 0 = .ok (.aload_n 0, 1) := by decide +kernel
theorem dc_M_land_1 : decode bc_M_land 1 = .ok (.iload_n 1, 1) := by decide +kernel
theorem dc_M_land_2 : decode bc_M_land 2 = .ok (.invokevirtual 97, 3) := by decide +kernel
theorem dc_M_land_5 : decode bc_M_land 5 = .ok (.ifCond .eq 30, 3) := by decide +kernel
theorem dc_M_land_8 : decode bc_M_land 8 = .ok (.aload_n 0, 1) := by decide +kernel
theorem dc_M_land_9 : decode bc_M_land 9 = .ok (.iload_n 2, 1) := by decide +kernel
theorem dc_M_land_10 : decode bc_M_land 10 = .ok (.invokevirtual 100, 3) := by decide +kernel
theorem dc_M_land_13 : decode bc_M_land 13 = .ok (.ifCond .eq 22, 3) := by decide +kernel
theorem dc_M_land_16 : decode bc_M_land 16 = .ok (.aload_n 0, 1) := by decide +kernel
theorem dc_M_land_17 : decode bc_M_land 17 = .ok (.getfield 20, 3) := by decide +kernel
theorem dc_M_land_20 : decode bc_M_land 20 = .ok (.iload_n 1, 1) := by decide +kernel
theorem dc_M_land_21 : decode bc_M_land 21 = .ok (.baload, 1) := by decide +kernel
theorem dc_M_land_22 : decode bc_M_land 22 = .ok (.ifCond .eq 13, 3) := by decide +kernel
theorem dc_M_land_25 : decode bc_M_land 25 = .ok (.aload_n 0, 1) := by decide +kernel
theorem dc_M_land_26 : decode bc_M_land 26 = .ok (.getfield 115, 3) := by decide +kernel
theorem dc_M_land_29 : decode bc_M_land 29 = .ok (.sipush 200, 3) := by decide +kernel
theorem dc_M_land_32 : decode bc_M_land 32 = .ok (.if_icmp .ne 5, 3) := by decide +kernel
theorem dc_M_land_35 : decode bc_M_land 35 = .ok (.iconst 0, 1) := by decide +kernel
theorem dc_M_land_36 : decode bc_M_land 36 = .ok (.ireturn, 1) := by decide +kernel
theorem dc_M_land_37 : decode bc_M_land 37 = .ok (.lload_n 3, 1) := by decide +kernel
theorem dc_M_land_38 : decode bc_M_land 38 = .ok (.lconst 1, 1) := by decide +kernel
theorem dc_M_land_39 : decode bc_M_land 39 = .ok (.ldc2_w 91, 3) := by decide +kernel
theorem dc_M_land_42 : decode bc_M_land 42 = .ok (.invokestatic 82, 3) := by decide +kernel
theorem dc_M_land_45 : decode bc_M_land 45 = .ok (.ifCond .eq 36, 3) := by decide +kernel
theorem dc_M_land_48 : decode bc_M_land 48 = .ok (.iload 5, 2) := by decide +kernel
theorem dc_M_land_50 : decode bc_M_land 50 = .ok (.i2l, 1) := by decide +kernel
theorem dc_M_land_51 : decode bc_M_land 51 = .ok (.lconst 0, 1) := by decide +kernel
theorem dc_M_land_52 : decode bc_M_land 52 = .ok (.ldc2_w 118, 3) := by decide +kernel
theorem dc_M_land_55 : decode bc_M_land 55 = .ok (.invokestatic 82, 3) := by decide +kernel
theorem dc_M_land_58 : decode bc_M_land 58 = .ok (.ifCond .eq 23, 3) := by decide +kernel
theorem dc_M_land_61 : decode bc_M_land 61 = .ok (.iload 6, 2) := by decide +kernel
theorem dc_M_land_63 : decode bc_M_land 63 = .ok (.i2l, 1) := by decide +kernel
theorem dc_M_land_64 : decode bc_M_land 64 = .ok (.lconst 0, 1) := by decide +kernel
theorem dc_M_land_65 : decode bc_M_land 65 = .ok (.ldc2_w 118, 3) := by decide +kernel
theorem dc_M_land_68 : decode bc_M_land 68 = .ok (.invokestatic 82, 3) := by decide +kernel
theorem dc_M_land_71 : decode bc_M_land 71 = .ok (.ifCond .eq 10, 3) := by decide +kernel
theorem dc_M_land_74 : decode bc_M_land 74 = .ok (.iload 6, 2) := by decide +kernel
theorem dc_M_land_76 : decode bc_M_land 76 = .ok (.iload 5, 2) := by decide +kernel
theorem dc_M_land_78 : decode bc_M_land 78 = .ok (.if_icmp .ge 5, 3) := by decide +kernel
theorem dc_M_land_81 : decode bc_M_land 81 = .ok (.iconst 0, 1) := by decide +kernel
theorem dc_M_land_82 : decode bc_M_land 82 = .ok (.ireturn, 1) := by decide +kernel
theorem dc_M_land_83 : decode bc_M_land 83 = .ok (.aload_n 0, 1) := by decide +kernel
theorem dc_M_land_84 : decode bc_M_land 84 = .ok (.getfield 51, 3) := by decide +kernel
theorem dc_M_land_87 : decode bc_M_land 87 = .ok (.aload_n 0, 1) := by decide +kernel
theorem dc_M_land_88 : decode bc_M_land 88 = .ok (.getfield 115, 3) := by decide +kernel
theorem dc_M_land_91 : decode bc_M_land 91 = .ok (.bipush 12, 2) := by decide +kernel
theorem dc_M_land_93 : decode bc_M_land 93 = .ok (.iload_n 1, 1) := by decide +kernel
theorem dc_M_land_94 : decode bc_M_land 94 = .ok (.imul, 1) := by decide +kernel
theorem dc_M_land_95 : decode bc_M_land 95 = .ok (.iload_n 2, 1) := by decide +kernel
theorem dc_M_land_96 : decode bc_M_land 96 = .ok (.iadd, 1) := by decide +kernel
theorem dc_M_land_97 : decode bc_M_land 97 = .ok (.iastore, 1) := by decide +kernel
theorem dc_M_land_98 : decode bc_M_land 98 = .ok (.aload_n 0, 1) := by decide +kernel
theorem dc_M_land_99 : decode bc_M_land 99 = .ok (.getfield 54, 3) := by decide +kernel
theorem dc_M_land_102 : decode bc_M_land 102 = .ok (.aload_n 0, 1) := by decide +kernel
theorem dc_M_land_103 : decode bc_M_land 103 = .ok (.getfield 115, 3) := by decide +kernel
theorem dc_M_land_106 : decode bc_M_land 106 = .ok (.lload_n 3, 1) := by decide +kernel
theorem dc_M_land_107 : decode bc_M_land 107 = .ok (.lastore, 1) := by decide +kernel
theorem dc_M_land_108 : decode bc_M_land 108 = .ok (.aload_n 0, 1) := by decide +kernel
theorem dc_M_land_109 : decode bc_M_land 109 = .ok (.getfield 57, 3) := by decide +kernel
theorem dc_M_land_112 : decode bc_M_land 112 = .ok (.aload_n 0, 1) := by decide +kernel
theorem dc_M_land_113 : decode bc_M_land 113 = .ok (.getfield 115, 3) := by decide +kernel
theorem dc_M_land_116 : decode bc_M_land 116 = .ok (.iload 6, 2) := by decide +kernel
theorem dc_M_land_118 : decode bc_M_land 118 = .ok (.iastore, 1) := by decide +kernel
theorem dc_M_land_119 : decode bc_M_land 119 = .ok (.aload_n 0, 1) := by decide +kernel
theorem dc_M_land_120 : decode bc_M_land 120 = .ok (.dup, 1) := by decide +kernel
theorem dc_M_land_121 : decode bc_M_land 121 = .ok (.getfield 115, 3) := by decide +kernel
theorem dc_M_land_124 : decode bc_M_land 124 = .ok (.iconst 1, 1) := by decide +kernel
theorem dc_M_land_125 : decode bc_M_land 125 = .ok (.iadd, 1) := by decide +kernel
theorem dc_M_land_126 : decode bc_M_land 126 = .ok (.putfield 115, 3) := by decide +kernel
theorem dc_M_land_129 : decode bc_M_land 129 = .ok (.iconst 1, 1) := by decide +kernel
theorem dc_M_land_130 : decode bc_M_land 130 = .ok (.ireturn, 1) := by decide +kernel
theorem dc_M_leftOn_0 : decode bc_M_leftOn 0 = .ok (.aload_n 0, 1) := by decide +kernel
theorem dc_M_leftOn_1 : decode bc_M_leftOn 1 = .ok (.getfield 45, 3) := by decide +kernel
theorem dc_M_leftOn_4 : decode bc_M_leftOn 4 = .ok (.bipush 12, 2) := by decide +kernel
theorem dc_M_leftOn_6 : decode bc_M_leftOn 6 = .ok (.iload_n 1, 1) := by decide +kernel
theorem dc_M_leftOn_7 : decode bc_M_leftOn 7 = .ok (.imul, 1) := by decide +kernel
theorem dc_M_leftOn_8 : decode bc_M_leftOn 8 = .ok (.iload_n 2, 1) := by decide +kernel
theorem dc_M_leftOn_9 : decode bc_M_leftOn 9 = .ok (.iadd, 1) := by decide +kernel
theorem dc_M_leftOn_10 : decode bc_M_leftOn 10 = .ok (.laload, 1) := by decide +kernel
theorem dc_M_leftOn_11 : decode bc_M_leftOn 11 = .ok (.lstore 4, 2) := by decide +kernel
theorem dc_M_leftOn_13 : decode bc_M_leftOn 13 = .ok (.iconst 0, 1) := by decide +kernel
theorem dc_M_leftOn_14 : decode bc_M_leftOn 14 = .ok (.istore 6, 2) := by decide +kernel
theorem dc_M_leftOn_16 : decode bc_M_leftOn 16 = .ok (.iload 6, 2) := by decide +kernel
theorem dc_M_leftOn_18 : decode bc_M_leftOn 18 = .ok (.aload_n 0, 1) := by decide +kernel
theorem dc_M_leftOn_19 : decode bc_M_leftOn 19 = .ok (.getfield 115, 3) := by decide +kernel
theorem dc_M_leftOn_22 : decode bc_M_leftOn 22 = .ok (.if_icmp .ge 53, 3) := by decide +kernel
theorem dc_M_leftOn_25 : decode bc_M_leftOn 25 = .ok (.aload_n 0, 1) := by decide +kernel
theorem dc_M_leftOn_26 : decode bc_M_leftOn 26 = .ok (.getfield 51, 3) := by decide +kernel
theorem dc_M_leftOn_29 : decode bc_M_leftOn 29 = .ok (.iload 6, 2) := by decide +kernel
theorem dc_M_leftOn_31 : decode bc_M_leftOn 31 = .ok (.iaload, 1) := by decide +kernel
theorem dc_M_leftOn_32 : decode bc_M_leftOn 32 = .ok (.bipush 12, 2) := by decide +kernel
theorem dc_M_leftOn_34 : decode bc_M_leftOn 34 = .ok (.iload_n 1, 1) := by decide +kernel
theorem dc_M_leftOn_35 : decode bc_M_leftOn 35 = .ok (.imul, 1) := by decide +kernel
theorem dc_M_leftOn_36 : decode bc_M_leftOn 36 = .ok (.iload_n 2, 1) := by decide +kernel
theorem dc_M_leftOn_37 : decode bc_M_leftOn 37 = .ok (.iadd, 1) := by decide +kernel
theorem dc_M_leftOn_38 : decode bc_M_leftOn 38 = .ok (.if_icmp .ne 27, 3) := by decide +kernel
theorem dc_M_leftOn_41 : decode bc_M_leftOn 41 = .ok (.aload_n 0, 1) := by decide +kernel
theorem dc_M_leftOn_42 : decode bc_M_leftOn 42 = .ok (.getfield 57, 3) := by decide +kernel
theorem dc_M_leftOn_45 : decode bc_M_leftOn 45 = .ok (.iload 6, 2) := by decide +kernel
theorem dc_M_leftOn_47 : decode bc_M_leftOn 47 = .ok (.iaload, 1) := by decide +kernel
theorem dc_M_leftOn_48 : decode bc_M_leftOn 48 = .ok (.iload_n 3, 1) := by decide +kernel
theorem dc_M_leftOn_49 : decode bc_M_leftOn 49 = .ok (.if_icmp .gt 16, 3) := by decide +kernel
theorem dc_M_leftOn_52 : decode bc_M_leftOn 52 = .ok (.lload 4, 2) := by decide +kernel
theorem dc_M_leftOn_54 : decode bc_M_leftOn 54 = .ok (.aload_n 0, 1) := by decide +kernel
theorem dc_M_leftOn_55 : decode bc_M_leftOn 55 = .ok (.getfield 54, 3) := by decide +kernel
theorem dc_M_leftOn_58 : decode bc_M_leftOn 58 = .ok (.iload 6, 2) := by decide +kernel
theorem dc_M_leftOn_60 : decode bc_M_leftOn 60 = .ok (.laload, 1) := by decide +kernel
theorem dc_M_leftOn_61 : decode bc_M_leftOn 61 = .ok (.lsub, 1) := by decide +kernel
theorem dc_M_leftOn_62 : decode bc_M_leftOn 62 = .ok (.goto 5, 3) := by decide +kernel
theorem dc_M_leftOn_65 : decode bc_M_leftOn 65 = .ok (.lload 4, 2) := by decide +kernel
theorem dc_M_leftOn_67 : decode bc_M_leftOn 67 = .ok (.lstore 4, 2) := by decide +kernel
theorem dc_M_leftOn_69 : decode bc_M_leftOn 69 = .ok (.iinc 6 1, 3) := by decide +kernel
theorem dc_M_leftOn_72 : decode bc_M_leftOn 72 = .ok (.goto (-56), 3) := by decide +kernel
theorem dc_M_leftOn_75 : decode bc_M_leftOn 75 = .ok (.lload 4, 2) := by decide +kernel
theorem dc_M_leftOn_77 : decode bc_M_leftOn 77 = .ok (.lreturn, 1) := by decide +kernel
theorem dc_M_leftOf_0 : decode bc_M_leftOf 0 = .ok (.aload_n 0, 1) := by decide +kernel
theorem dc_M_leftOf_1 : decode bc_M_leftOf 1 = .ok (.iload_n 1, 1) := by decide +kernel
theorem dc_M_leftOf_2 : decode bc_M_leftOf 2 = .ok (.iload_n 2, 1) := by decide +kernel
theorem dc_M_leftOf_3 : decode bc_M_leftOf 3 = .ok (.ldc 120, 2) := by decide +kernel
theorem dc_M_leftOf_5 : decode bc_M_leftOf 5 = .ok (.invokevirtual 121, 3) := by decide +kernel
theorem dc_M_leftOf_8 : decode bc_M_leftOf 8 = .ok (.lreturn, 1) := by decide +kernel
theorem dc_M_left_0 : decode bc_M_left 0 = .ok (.aload_n 0, 1) := by decide +kernel
theorem dc_M_left_1 : decode bc_M_left 1 = .ok (.iload_n 1, 1) := by decide +kernel
theorem dc_M_left_2 : decode bc_M_left 2 = .ok (.invokevirtual 97, 3) := by decide +kernel
theorem dc_M_left_5 : decode bc_M_left 5 = .ok (.ifCond .eq 21, 3) := by decide +kernel
theorem dc_M_left_8 : decode bc_M_left 8 = .ok (.aload_n 0, 1) := by decide +kernel
theorem dc_M_left_9 : decode bc_M_left 9 = .ok (.iload_n 2, 1) := by decide +kernel
theorem dc_M_left_10 : decode bc_M_left 10 = .ok (.invokevirtual 100, 3) := by decide +kernel
theorem dc_M_left_13 : decode bc_M_left 13 = .ok (.ifCond .eq 13, 3) := by decide +kernel
theorem dc_M_left_16 : decode bc_M_left 16 = .ok (.aload_n 0, 1) := by decide +kernel
theorem dc_M_left_17 : decode bc_M_left 17 = .ok (.iload_n 1, 1) := by decide +kernel
theorem dc_M_left_18 : decode bc_M_left 18 = .ok (.iload_n 2, 1) := by decide +kernel
theorem dc_M_left_19 : decode bc_M_left 19 = .ok (.iload_n 3, 1) := by decide +kernel
theorem dc_M_left_20 : decode bc_M_left 20 = .ok (.invokevirtual 121, 3) := by decide +kernel
theorem dc_M_left_23 : decode bc_M_left 23 = .ok (.goto 6, 3) := by decide +kernel
theorem dc_M_left_26 : decode bc_M_left 26 = .ok (.ldc2_w 109, 3) := by decide +kernel
theorem dc_M_left_29 : decode bc_M_left 29 = .ok (.lreturn, 1) := by decide +kernel
theorem dc_M_overOf_0 : decode bc_M_overOf 0 = .ok (.aload_n 0, 1) := by decide +kernel
theorem dc_M_overOf_1 : decode bc_M_overOf 1 = .ok (.iload_n 1, 1) := by decide +kernel
theorem dc_M_overOf_2 : decode bc_M_overOf 2 = .ok (.iload_n 2, 1) := by decide +kernel
theorem dc_M_overOf_3 : decode bc_M_overOf 3 = .ok (.invokevirtual 125, 3) := by decide +kernel
theorem dc_M_overOf_6 : decode bc_M_overOf 6 = .ok (.lstore_n 3, 1) := by decide +kernel
theorem dc_M_overOf_7 : decode bc_M_overOf 7 = .ok (.lload_n 3, 1) := by decide +kernel
theorem dc_M_overOf_8 : decode bc_M_overOf 8 = .ok (.lconst 0, 1) := by decide +kernel
theorem dc_M_overOf_9 : decode bc_M_overOf 9 = .ok (.lcmp, 1) := by decide +kernel
theorem dc_M_overOf_10 : decode bc_M_overOf 10 = .ok (.ifCond .ge 8, 3) := by decide +kernel
theorem dc_M_overOf_13 : decode bc_M_overOf 13 = .ok (.lload_n 3, 1) := by decide +kernel
theorem dc_M_overOf_14 : decode bc_M_overOf 14 = .ok (.lneg, 1) := by decide +kernel
theorem dc_M_overOf_15 : decode bc_M_overOf 15 = .ok (.goto 4, 3) := by decide +kernel
theorem dc_M_overOf_18 : decode bc_M_overOf 18 = .ok (.lconst 0, 1) := by decide +kernel
theorem dc_M_overOf_19 : decode bc_M_overOf 19 = .ok (.lreturn, 1) := by decide +kernel
theorem dc_M_carriedOf_0 : decode bc_M_carriedOf 0 = .ok (.aload_n 0, 1) := by decide +kernel
theorem dc_M_carriedOf_1 : decode bc_M_carriedOf 1 = .ok (.iload_n 1, 1) := by decide +kernel
theorem dc_M_carriedOf_2 : decode bc_M_carriedOf 2 = .ok (.iload_n 2, 1) := by decide +kernel
theorem dc_M_carriedOf_3 : decode bc_M_carriedOf 3 = .ok (.invokevirtual 128, 3) := by decide +kernel
theorem dc_M_carriedOf_6 : decode bc_M_carriedOf 6 = .ok (.lstore_n 3, 1) := by decide +kernel
theorem dc_M_carriedOf_7 : decode bc_M_carriedOf 7 = .ok (.lload_n 3, 1) := by decide +kernel
theorem dc_M_carriedOf_8 : decode bc_M_carriedOf 8 = .ok (.lconst 0, 1) := by decide +kernel
theorem dc_M_carriedOf_9 : decode bc_M_carriedOf 9 = .ok (.lcmp, 1) := by decide +kernel
theorem dc_M_carriedOf_10 : decode bc_M_carriedOf 10 = .ok (.ifCond .le 26, 3) := by decide +kernel
theorem dc_M_carriedOf_13 : decode bc_M_carriedOf 13 = .ok (.lload_n 3, 1) := by decide +kernel
theorem dc_M_carriedOf_14 : decode bc_M_carriedOf 14 = .ok (.aload_n 0, 1) := by decide +kernel
theorem dc_M_carriedOf_15 : decode bc_M_carriedOf 15 = .ok (.getfield 60, 3) := by decide +kernel
theorem dc_M_carriedOf_18 : decode bc_M_carriedOf 18 = .ok (.i2l, 1) := by decide +kernel
theorem dc_M_carriedOf_19 : decode bc_M_carriedOf 19 = .ok (.lmul, 1) := by decide +kernel
theorem dc_M_carriedOf_20 : decode bc_M_carriedOf 20 = .ok (.aload_n 0, 1) := by decide +kernel
theorem dc_M_carriedOf_21 : decode bc_M_carriedOf 21 = .ok (.getfield 64, 3) := by decide +kernel
theorem dc_M_carriedOf_24 : decode bc_M_carriedOf 24 = .ok (.i2l, 1) := by decide +kernel
theorem dc_M_carriedOf_25 : decode bc_M_carriedOf 25 = .ok (.ladd, 1) := by decide +kernel
theorem dc_M_carriedOf_26 : decode bc_M_carriedOf 26 = .ok (.lconst 1, 1) := by decide +kernel
theorem dc_M_carriedOf_27 : decode bc_M_carriedOf 27 = .ok (.lsub, 1) := by decide +kernel
theorem dc_M_carriedOf_28 : decode bc_M_carriedOf 28 = .ok (.aload_n 0, 1) := by decide +kernel
theorem dc_M_carriedOf_29 : decode bc_M_carriedOf 29 = .ok (.getfield 64, 3) := by decide +kernel
theorem dc_M_carriedOf_32 : decode bc_M_carriedOf 32 = .ok (.i2l, 1) := by decide +kernel
theorem dc_M_carriedOf_33 : decode bc_M_carriedOf 33 = .ok (.ldiv, 1) := by decide +kernel
theorem dc_M_carriedOf_34 : decode bc_M_carriedOf 34 = .ok (.lneg, 1) := by decide +kernel
theorem dc_M_carriedOf_35 : decode bc_M_carriedOf 35 = .ok (.lreturn, 1) := by decide +kernel
theorem dc_M_carriedOf_36 : decode bc_M_carriedOf 36 = .ok (.aload_n 0, 1) := by decide +kernel
theorem dc_M_carriedOf_37 : decode bc_M_carriedOf 37 = .ok (.iload_n 1, 1) := by decide +kernel
theorem dc_M_carriedOf_38 : decode bc_M_carriedOf 38 = .ok (.iload_n 2, 1) := by decide +kernel
theorem dc_M_carriedOf_39 : decode bc_M_carriedOf 39 = .ok (.invokevirtual 125, 3) := by decide +kernel
theorem dc_M_carriedOf_42 : decode bc_M_carriedOf 42 = .ok (.lstore 5, 2) := by decide +kernel
theorem dc_M_carriedOf_44 : decode bc_M_carriedOf 44 = .ok (.aload_n 0, 1) := by decide +kernel
theorem dc_M_carriedOf_45 : decode bc_M_carriedOf 45 = .ok (.getfield 45, 3) := by decide +kernel
theorem dc_M_carriedOf_48 : decode bc_M_carriedOf 48 = .ok (.bipush 12, 2) := by decide +kernel
theorem dc_M_carriedOf_50 : decode bc_M_carriedOf 50 = .ok (.iload_n 1, 1) := by decide +kernel
theorem dc_M_carriedOf_51 : decode bc_M_carriedOf 51 = .ok (.imul, 1) := by decide +kernel
theorem dc_M_carriedOf_52 : decode bc_M_carriedOf 52 = .ok (.iload_n 2, 1) := by decide +kernel
theorem dc_M_carriedOf_53 : decode bc_M_carriedOf 53 = .ok (.iadd, 1) := by decide +kernel
theorem dc_M_carriedOf_54 : decode bc_M_carriedOf 54 = .ok (.laload, 1) := by decide +kernel
theorem dc_M_carriedOf_55 : decode bc_M_carriedOf 55 = .ok (.ldc2_w 131, 3) := by decide +kernel
theorem dc_M_carriedOf_58 : decode bc_M_carriedOf 58 = .ok (.ldiv, 1) := by decide +kernel
theorem dc_M_carriedOf_59 : decode bc_M_carriedOf 59 = .ok (.lstore 7, 2) := by decide +kernel
theorem dc_M_carriedOf_61 : decode bc_M_carriedOf 61 = .ok (.lload 5, 2) := by decide +kernel
theorem dc_M_carriedOf_63 : decode bc_M_carriedOf 63 = .ok (.lload 7, 2) := by decide +kernel
theorem dc_M_carriedOf_65 : decode bc_M_carriedOf 65 = .ok (.lcmp, 1) := by decide +kernel
theorem dc_M_carriedOf_66 : decode bc_M_carriedOf 66 = .ok (.ifCond .ge 8, 3) := by decide +kernel
theorem dc_M_carriedOf_69 : decode bc_M_carriedOf 69 = .ok (.lload 5, 2) := by decide +kernel
theorem dc_M_carriedOf_71 : decode bc_M_carriedOf 71 = .ok (.goto 5, 3) := by decide +kernel
theorem dc_M_carriedOf_74 : decode bc_M_carriedOf 74 = .ok (.lload 7, 2) := by decide +kernel
theorem dc_M_carriedOf_76 : decode bc_M_carriedOf 76 = .ok (.lreturn, 1) := by decide +kernel
theorem dc_M_over_0 : decode bc_M_over 0 = .ok (.aload_n 0, 1) := by decide +kernel
theorem dc_M_over_1 : decode bc_M_over 1 = .ok (.iload_n 1, 1) := by decide +kernel
theorem dc_M_over_2 : decode bc_M_over 2 = .ok (.invokevirtual 97, 3) := by decide +kernel
theorem dc_M_over_5 : decode bc_M_over 5 = .ok (.ifCond .eq 20, 3) := by decide +kernel
theorem dc_M_over_8 : decode bc_M_over 8 = .ok (.aload_n 0, 1) := by decide +kernel
theorem dc_M_over_9 : decode bc_M_over 9 = .ok (.iload_n 2, 1) := by decide +kernel
theorem dc_M_over_10 : decode bc_M_over 10 = .ok (.invokevirtual 100, 3) := by decide +kernel
theorem dc_M_over_13 : decode bc_M_over 13 = .ok (.ifCond .eq 12, 3) := by decide +kernel
theorem dc_M_over_16 : decode bc_M_over 16 = .ok (.aload_n 0, 1) := by decide +kernel
theorem dc_M_over_17 : decode bc_M_over 17 = .ok (.iload_n 1, 1) := by decide +kernel
theorem dc_M_over_18 : decode bc_M_over 18 = .ok (.iload_n 2, 1) := by decide +kernel
theorem dc_M_over_19 : decode bc_M_over 19 = .ok (.invokevirtual 128, 3) := by decide +kernel
theorem dc_M_over_22 : decode bc_M_over 22 = .ok (.goto 6, 3) := by decide +kernel
theorem dc_M_over_25 : decode bc_M_over 25 = .ok (.ldc2_w 109, 3) := by decide +kernel
theorem dc_M_over_28 : decode bc_M_over 28 = .ok (.lreturn, 1) := by decide +kernel
theorem dc_M_carried_0 : decode bc_M_carried 0 = .ok (.aload_n 0, 1) := by decide +kernel
theorem dc_M_carried_1 : decode bc_M_carried 1 = .ok (.iload_n 1, 1) := by decide +kernel
theorem dc_M_carried_2 : decode bc_M_carried 2 = .ok (.invokevirtual 97, 3) := by decide +kernel
theorem dc_M_carried_5 : decode bc_M_carried 5 = .ok (.ifCond .eq 20, 3) := by decide +kernel
theorem dc_M_carried_8 : decode bc_M_carried 8 = .ok (.aload_n 0, 1) := by decide +kernel
theorem dc_M_carried_9 : decode bc_M_carried 9 = .ok (.iload_n 2, 1) := by decide +kernel
theorem dc_M_carried_10 : decode bc_M_carried 10 = .ok (.invokevirtual 100, 3) := by decide +kernel
theorem dc_M_carried_13 : decode bc_M_carried 13 = .ok (.ifCond .eq 12, 3) := by decide +kernel
theorem dc_M_carried_16 : decode bc_M_carried 16 = .ok (.aload_n 0, 1) := by decide +kernel
theorem dc_M_carried_17 : decode bc_M_carried 17 = .ok (.iload_n 1, 1) := by decide +kernel
theorem dc_M_carried_18 : decode bc_M_carried 18 = .ok (.iload_n 2, 1) := by decide +kernel
theorem dc_M_carried_19 : decode bc_M_carried 19 = .ok (.invokevirtual 111, 3) := by decide +kernel
theorem dc_M_carried_22 : decode bc_M_carried 22 = .ok (.goto 6, 3) := by decide +kernel
theorem dc_M_carried_25 : decode bc_M_carried 25 = .ok (.ldc2_w 109, 3) := by decide +kernel
theorem dc_M_carried_28 : decode bc_M_carried 28 = .ok (.lreturn, 1) := by decide +kernel
theorem dc_M_penalty_0 : decode bc_M_penalty 0 = .ok (.iload_n 1, 1) := by decide +kernel
theorem dc_M_penalty_1 : decode bc_M_penalty 1 = .ok (.i2l, 1) := by decide +kernel
theorem dc_M_penalty_2 : decode bc_M_penalty 2 = .ok (.lconst 1, 1) := by decide +kernel
theorem dc_M_penalty_3 : decode bc_M_penalty 3 = .ok (.ldc2_w 133, 3) := by decide +kernel
theorem dc_M_penalty_6 : decode bc_M_penalty 6 = .ok (.invokestatic 82, 3) := by decide +kernel
theorem dc_M_penalty_9 : decode bc_M_penalty 9 = .ok (.ifCond .eq 15, 3) := by decide +kernel
theorem dc_M_penalty_12 : decode bc_M_penalty 12 = .ok (.iload_n 2, 1) := by decide +kernel
theorem dc_M_penalty_13 : decode bc_M_penalty 13 = .ok (.i2l, 1) := by decide +kernel
theorem dc_M_penalty_14 : decode bc_M_penalty 14 = .ok (.lconst 1, 1) := by decide +kernel
theorem dc_M_penalty_15 : decode bc_M_penalty 15 = .ok (.ldc2_w 133, 3) := by decide +kernel
theorem dc_M_penalty_18 : decode bc_M_penalty 18 = .ok (.invokestatic 82, 3) := by decide +kernel
theorem dc_M_penalty_21 : decode bc_M_penalty 21 = .ok (.ifCond .ne 5, 3) := by decide +kernel
theorem dc_M_penalty_24 : decode bc_M_penalty 24 = .ok (.iconst 0, 1) := by decide +kernel
theorem dc_M_penalty_25 : decode bc_M_penalty 25 = .ok (.ireturn, 1) := by decide +kernel
theorem dc_M_penalty_26 : decode bc_M_penalty 26 = .ok (.aload_n 0, 1) := by decide +kernel
theorem dc_M_penalty_27 : decode bc_M_penalty 27 = .ok (.iload_n 1, 1) := by decide +kernel
theorem dc_M_penalty_28 : decode bc_M_penalty 28 = .ok (.putfield 60, 3) := by decide +kernel
theorem dc_M_penalty_31 : decode bc_M_penalty 31 = .ok (.aload_n 0, 1) := by decide +kernel
theorem dc_M_penalty_32 : decode bc_M_penalty 32 = .ok (.iload_n 2, 1) := by decide +kernel
theorem dc_M_penalty_33 : decode bc_M_penalty 33 = .ok (.putfield 64, 3) := by decide +kernel
theorem dc_M_penalty_36 : decode bc_M_penalty 36 = .ok (.iconst 1, 1) := by decide +kernel
theorem dc_M_penalty_37 : decode bc_M_penalty 37 = .ok (.ireturn, 1) := by decide +kernel
theorem dc_M_transfer_0 : decode bc_M_transfer 0 = .ok (.aload_n 0, 1) := by decide +kernel
theorem dc_M_transfer_1 : decode bc_M_transfer 1 = .ok (.iload_n 1, 1) := by decide +kernel
theorem dc_M_transfer_2 : decode bc_M_transfer 2 = .ok (.invokevirtual 97, 3) := by decide +kernel
theorem dc_M_transfer_5 : decode bc_M_transfer 5 = .ok (.ifCond .eq 45, 3) := by decide +kernel
theorem dc_M_transfer_8 : decode bc_M_transfer 8 = .ok (.aload_n 0, 1) := by decide +kernel
theorem dc_M_transfer_9 : decode bc_M_transfer 9 = .ok (.iload_n 2, 1) := by decide +kernel
theorem dc_M_transfer_10 : decode bc_M_transfer 10 = .ok (.invokevirtual 100, 3) := by decide +kernel
theorem dc_M_transfer_13 : decode bc_M_transfer 13 = .ok (.ifCond .eq 37, 3) := by decide +kernel
theorem dc_M_transfer_16 : decode bc_M_transfer 16 = .ok (.aload_n 0, 1) := by decide +kernel
theorem dc_M_transfer_17 : decode bc_M_transfer 17 = .ok (.iload_n 3, 1) := by decide +kernel
theorem dc_M_transfer_18 : decode bc_M_transfer 18 = .ok (.invokevirtual 100, 3) := by decide +kernel
theorem dc_M_transfer_21 : decode bc_M_transfer 21 = .ok (.ifCond .eq 29, 3) := by decide +kernel
theorem dc_M_transfer_24 : decode bc_M_transfer 24 = .ok (.iload_n 2, 1) := by decide +kernel
theorem dc_M_transfer_25 : decode bc_M_transfer 25 = .ok (.iload_n 3, 1) := by decide +kernel
theorem dc_M_transfer_26 : decode bc_M_transfer 26 = .ok (.if_icmp .eq 24, 3) := by decide +kernel
theorem dc_M_transfer_29 : decode bc_M_transfer 29 = .ok (.aload_n 0, 1) := by decide +kernel
theorem dc_M_transfer_30 : decode bc_M_transfer 30 = .ok (.getfield 20, 3) := by decide +kernel
theorem dc_M_transfer_33 : decode bc_M_transfer 33 = .ok (.iload_n 1, 1) := by decide +kernel
theorem dc_M_transfer_34 : decode bc_M_transfer 34 = .ok (.baload, 1) := by decide +kernel
theorem dc_M_transfer_35 : decode bc_M_transfer 35 = .ok (.ifCond .eq 15, 3) := by decide +kernel
theorem dc_M_transfer_38 : decode bc_M_transfer 38 = .ok (.lload 4, 2) := by decide +kernel
theorem dc_M_transfer_40 : decode bc_M_transfer 40 = .ok (.lconst 1, 1) := by decide +kernel
theorem dc_M_transfer_41 : decode bc_M_transfer 41 = .ok (.ldc2_w 91, 3) := by decide +kernel
theorem dc_M_transfer_44 : decode bc_M_transfer 44 = .ok (.invokestatic 82, 3) := by decide +kernel
theorem dc_M_transfer_47 : decode bc_M_transfer 47 = .ok (.ifCond .ne 5, 3) := by decide +kernel
theorem dc_M_transfer_50 : decode bc_M_transfer 50 = .ok (.iconst (-1), 1) := by decide +kernel
theorem dc_M_transfer_51 : decode bc_M_transfer 51 = .ok (.ireturn, 1) := by decide +kernel
theorem dc_M_transfer_52 : decode bc_M_transfer 52 = .ok (.aload_n 0, 1) := by decide +kernel
theorem dc_M_transfer_53 : decode bc_M_transfer 53 = .ok (.iload_n 1, 1) := by decide +kernel
theorem dc_M_transfer_54 : decode bc_M_transfer 54 = .ok (.iload_n 2, 1) := by decide +kernel
theorem dc_M_transfer_55 : decode bc_M_transfer 55 = .ok (.invokevirtual 125, 3) := by decide +kernel
theorem dc_M_transfer_58 : decode bc_M_transfer 58 = .ok (.lload 4, 2) := by decide +kernel
theorem dc_M_transfer_60 : decode bc_M_transfer 60 = .ok (.lcmp, 1) := by decide +kernel
theorem dc_M_transfer_61 : decode bc_M_transfer 61 = .ok (.ifCond .ge 5, 3) := by decide +kernel
theorem dc_M_transfer_64 : decode bc_M_transfer 64 = .ok (.iconst 1, 1) := by decide +kernel
theorem dc_M_transfer_65 : decode bc_M_transfer 65 = .ok (.ireturn, 1) := by decide +kernel
theorem dc_M_transfer_66 : decode bc_M_transfer 66 = .ok (.aload_n 0, 1) := by decide +kernel
theorem dc_M_transfer_67 : decode bc_M_transfer 67 = .ok (.getfield 45, 3) := by decide +kernel
theorem dc_M_transfer_70 : decode bc_M_transfer 70 = .ok (.bipush 12, 2) := by decide +kernel
theorem dc_M_transfer_72 : decode bc_M_transfer 72 = .ok (.iload_n 1, 1) := by decide +kernel
theorem dc_M_transfer_73 : decode bc_M_transfer 73 = .ok (.imul, 1) := by decide +kernel
theorem dc_M_transfer_74 : decode bc_M_transfer 74 = .ok (.iload_n 2, 1) := by decide +kernel
theorem dc_M_transfer_75 : decode bc_M_transfer 75 = .ok (.iadd, 1) := by decide +kernel
theorem dc_M_transfer_76 : decode bc_M_transfer 76 = .ok (.aload_n 0, 1) := by decide +kernel
theorem dc_M_transfer_77 : decode bc_M_transfer 77 = .ok (.getfield 45, 3) := by decide +kernel
theorem dc_M_transfer_80 : decode bc_M_transfer 80 = .ok (.bipush 12, 2) := by decide +kernel
theorem dc_M_transfer_82 : decode bc_M_transfer 82 = .ok (.iload_n 1, 1) := by decide +kernel
theorem dc_M_transfer_83 : decode bc_M_transfer 83 = .ok (.imul, 1) := by decide +kernel
theorem dc_M_transfer_84 : decode bc_M_transfer 84 = .ok (.iload_n 2, 1) := by decide +kernel
theorem dc_M_transfer_85 : decode bc_M_transfer 85 = .ok (.iadd, 1) := by decide +kernel
theorem dc_M_transfer_86 : decode bc_M_transfer 86 = .ok (.laload, 1) := by decide +kernel
theorem dc_M_transfer_87 : decode bc_M_transfer 87 = .ok (.lload 4, 2) := by decide +kernel
theorem dc_M_transfer_89 : decode bc_M_transfer 89 = .ok (.lsub, 1) := by decide +kernel
theorem dc_M_transfer_90 : decode bc_M_transfer 90 = .ok (.lastore, 1) := by decide +kernel
theorem dc_M_transfer_91 : decode bc_M_transfer 91 = .ok (.aload_n 0, 1) := by decide +kernel
theorem dc_M_transfer_92 : decode bc_M_transfer 92 = .ok (.getfield 45, 3) := by decide +kernel
theorem dc_M_transfer_95 : decode bc_M_transfer 95 = .ok (.bipush 12, 2) := by decide +kernel
theorem dc_M_transfer_97 : decode bc_M_transfer 97 = .ok (.iload_n 1, 1) := by decide +kernel
theorem dc_M_transfer_98 : decode bc_M_transfer 98 = .ok (.imul, 1) := by decide +kernel
theorem dc_M_transfer_99 : decode bc_M_transfer 99 = .ok (.iload_n 3, 1) := by decide +kernel
theorem dc_M_transfer_100 : decode bc_M_transfer 100 = .ok (.iadd, 1) := by decide +kernel
theorem dc_M_transfer_101 : decode bc_M_transfer 101 = .ok (.aload_n 0, 1) := by decide +kernel
theorem dc_M_transfer_102 : decode bc_M_transfer 102 = .ok (.getfield 45, 3) := by decide +kernel
theorem dc_M_transfer_105 : decode bc_M_transfer 105 = .ok (.bipush 12, 2) := by decide +kernel
theorem dc_M_transfer_107 : decode bc_M_transfer 107 = .ok (.iload_n 1, 1) := by decide +kernel
theorem dc_M_transfer_108 : decode bc_M_transfer 108 = .ok (.imul, 1) := by decide +kernel
theorem dc_M_transfer_109 : decode bc_M_transfer 109 = .ok (.iload_n 3, 1) := by decide +kernel
theorem dc_M_transfer_110 : decode bc_M_transfer 110 = .ok (.iadd, 1) := by decide +kernel
theorem dc_M_transfer_111 : decode bc_M_transfer 111 = .ok (.laload, 1) := by decide +kernel
theorem dc_M_transfer_112 : decode bc_M_transfer 112 = .ok (.lload 4, 2) := by decide +kernel
theorem dc_M_transfer_114 : decode bc_M_transfer 114 = .ok (.ladd, 1) := by decide +kernel
theorem dc_M_transfer_115 : decode bc_M_transfer 115 = .ok (.lastore, 1) := by decide +kernel
theorem dc_M_transfer_116 : decode bc_M_transfer 116 = .ok (.iconst 0, 1) := by decide +kernel
theorem dc_M_transfer_117 : decode bc_M_transfer 117 = .ok (.ireturn, 1) := by decide +kernel
theorem dc_M_swap_0 : decode bc_M_swap 0 = .ok (.aload_n 0, 1) := by decide +kernel
theorem dc_M_swap_1 : decode bc_M_swap 1 = .ok (.iload_n 1, 1) := by decide +kernel
theorem dc_M_swap_2 : decode bc_M_swap 2 = .ok (.invokevirtual 97, 3) := by decide +kernel
theorem dc_M_swap_5 : decode bc_M_swap 5 = .ok (.ifCond .eq 43, 3) := by decide +kernel
theorem dc_M_swap_8 : decode bc_M_swap 8 = .ok (.aload_n 0, 1) := by decide +kernel
theorem dc_M_swap_9 : decode bc_M_swap 9 = .ok (.iload_n 2, 1) := by decide +kernel
theorem dc_M_swap_10 : decode bc_M_swap 10 = .ok (.invokevirtual 97, 3) := by decide +kernel
theorem dc_M_swap_13 : decode bc_M_swap 13 = .ok (.ifCond .eq 35, 3) := by decide +kernel
theorem dc_M_swap_16 : decode bc_M_swap 16 = .ok (.aload_n 0, 1) := by decide +kernel
theorem dc_M_swap_17 : decode bc_M_swap 17 = .ok (.iload 5, 2) := by decide +kernel
theorem dc_M_swap_19 : decode bc_M_swap 19 = .ok (.invokevirtual 100, 3) := by decide +kernel
theorem dc_M_swap_22 : decode bc_M_swap 22 = .ok (.ifCond .eq 26, 3) := by decide +kernel
theorem dc_M_swap_25 : decode bc_M_swap 25 = .ok (.iload_n 1, 1) := by decide +kernel
theorem dc_M_swap_26 : decode bc_M_swap 26 = .ok (.iload_n 2, 1) := by decide +kernel
theorem dc_M_swap_27 : decode bc_M_swap 27 = .ok (.if_icmp .eq 21, 3) := by decide +kernel
theorem dc_M_swap_30 : decode bc_M_swap 30 = .ok (.aload_n 0, 1) := by decide +kernel
theorem dc_M_swap_31 : decode bc_M_swap 31 = .ok (.getfield 20, 3) := by decide +kernel
theorem dc_M_swap_34 : decode bc_M_swap 34 = .ok (.iload_n 1, 1) := by decide +kernel
theorem dc_M_swap_35 : decode bc_M_swap 35 = .ok (.baload, 1) := by decide +kernel
theorem dc_M_swap_36 : decode bc_M_swap 36 = .ok (.ifCond .eq 12, 3) := by decide +kernel
theorem dc_M_swap_39 : decode bc_M_swap 39 = .ok (.aload_n 0, 1) := by decide +kernel
theorem dc_M_swap_40 : decode bc_M_swap 40 = .ok (.getfield 20, 3) := by decide +kernel
theorem dc_M_swap_43 : decode bc_M_swap 43 = .ok (.iload_n 2, 1) := by decide +kernel
theorem dc_M_swap_44 : decode bc_M_swap 44 = .ok (.baload, 1) := by decide +kernel
theorem dc_M_swap_45 : decode bc_M_swap 45 = .ok (.ifCond .ne 5, 3) := by decide +kernel
theorem dc_M_swap_48 : decode bc_M_swap 48 = .ok (.iconst (-1), 1) := by decide +kernel
theorem dc_M_swap_49 : decode bc_M_swap 49 = .ok (.ireturn, 1) := by decide +kernel
theorem dc_M_swap_50 : decode bc_M_swap 50 = .ok (.iload_n 3, 1) := by decide +kernel
theorem dc_M_swap_51 : decode bc_M_swap 51 = .ok (.i2l, 1) := by decide +kernel
theorem dc_M_swap_52 : decode bc_M_swap 52 = .ok (.lconst 1, 1) := by decide +kernel
theorem dc_M_swap_53 : decode bc_M_swap 53 = .ok (.ldc2_w 133, 3) := by decide +kernel
theorem dc_M_swap_56 : decode bc_M_swap 56 = .ok (.invokestatic 82, 3) := by decide +kernel
theorem dc_M_swap_59 : decode bc_M_swap 59 = .ok (.ifCond .eq 28, 3) := by decide +kernel
theorem dc_M_swap_62 : decode bc_M_swap 62 = .ok (.iload 4, 2) := by decide +kernel
theorem dc_M_swap_64 : decode bc_M_swap 64 = .ok (.i2l, 1) := by decide +kernel
theorem dc_M_swap_65 : decode bc_M_swap 65 = .ok (.lconst 1, 1) := by decide +kernel
theorem dc_M_swap_66 : decode bc_M_swap 66 = .ok (.ldc2_w 133, 3) := by decide +kernel
theorem dc_M_swap_69 : decode bc_M_swap 69 = .ok (.invokestatic 82, 3) := by decide +kernel
theorem dc_M_swap_72 : decode bc_M_swap 72 = .ok (.ifCond .eq 15, 3) := by decide +kernel
theorem dc_M_swap_75 : decode bc_M_swap 75 = .ok (.lload 6, 2) := by decide +kernel
theorem dc_M_swap_77 : decode bc_M_swap 77 = .ok (.lconst 1, 1) := by decide +kernel
theorem dc_M_swap_78 : decode bc_M_swap 78 = .ok (.ldc2_w 91, 3) := by decide +kernel
theorem dc_M_swap_81 : decode bc_M_swap 81 = .ok (.invokestatic 82, 3) := by decide +kernel
theorem dc_M_swap_84 : decode bc_M_swap 84 = .ok (.ifCond .ne 5, 3) := by decide +kernel
theorem dc_M_swap_87 : decode bc_M_swap 87 = .ok (.iconst (-1), 1) := by decide +kernel
theorem dc_M_swap_88 : decode bc_M_swap 88 = .ok (.ireturn, 1) := by decide +kernel
theorem dc_M_swap_89 : decode bc_M_swap 89 = .ok (.aload_n 0, 1) := by decide +kernel
theorem dc_M_swap_90 : decode bc_M_swap 90 = .ok (.iload_n 1, 1) := by decide +kernel
theorem dc_M_swap_91 : decode bc_M_swap 91 = .ok (.iload 5, 2) := by decide +kernel
theorem dc_M_swap_93 : decode bc_M_swap 93 = .ok (.invokevirtual 125, 3) := by decide +kernel
theorem dc_M_swap_96 : decode bc_M_swap 96 = .ok (.lload 6, 2) := by decide +kernel
theorem dc_M_swap_98 : decode bc_M_swap 98 = .ok (.lcmp, 1) := by decide +kernel
theorem dc_M_swap_99 : decode bc_M_swap 99 = .ok (.ifCond .ge 5, 3) := by decide +kernel
theorem dc_M_swap_102 : decode bc_M_swap 102 = .ok (.iconst 1, 1) := by decide +kernel
theorem dc_M_swap_103 : decode bc_M_swap 103 = .ok (.ireturn, 1) := by decide +kernel
theorem dc_M_swap_104 : decode bc_M_swap 104 = .ok (.lload 6, 2) := by decide +kernel
theorem dc_M_swap_106 : decode bc_M_swap 106 = .ok (.iload_n 3, 1) := by decide +kernel
theorem dc_M_swap_107 : decode bc_M_swap 107 = .ok (.i2l, 1) := by decide +kernel
theorem dc_M_swap_108 : decode bc_M_swap 108 = .ok (.lmul, 1) := by decide +kernel
theorem dc_M_swap_109 : decode bc_M_swap 109 = .ok (.lstore 8, 2) := by decide +kernel
theorem dc_M_swap_111 : decode bc_M_swap 111 = .ok (.lload 8, 2) := by decide +kernel
theorem dc_M_swap_113 : decode bc_M_swap 113 = .ok (.iload 4, 2) := by decide +kernel
theorem dc_M_swap_115 : decode bc_M_swap 115 = .ok (.i2l, 1) := by decide +kernel
theorem dc_M_swap_116 : decode bc_M_swap 116 = .ok (.lrem, 1) := by decide +kernel
theorem dc_M_swap_117 : decode bc_M_swap 117 = .ok (.lconst 0, 1) := by decide +kernel
theorem dc_M_swap_118 : decode bc_M_swap 118 = .ok (.lcmp, 1) := by decide +kernel
theorem dc_M_swap_119 : decode bc_M_swap 119 = .ok (.ifCond .ne 31, 3) := by decide +kernel
theorem dc_M_swap_122 : decode bc_M_swap 122 = .ok (.lload 8, 2) := by decide +kernel
theorem dc_M_swap_124 : decode bc_M_swap 124 = .ok (.iload 4, 2) := by decide +kernel
theorem dc_M_swap_126 : decode bc_M_swap 126 = .ok (.i2l, 1) := by decide +kernel
theorem dc_M_swap_127 : decode bc_M_swap 127 = .ok (.lcmp, 1) := by decide +kernel
theorem dc_M_swap_128 : decode bc_M_swap 128 = .ok (.ifCond .lt 22, 3) := by decide +kernel
theorem dc_M_swap_131 : decode bc_M_swap 131 = .ok (.aload_n 0, 1) := by decide +kernel
theorem dc_M_swap_132 : decode bc_M_swap 132 = .ok (.iload_n 2, 1) := by decide +kernel
theorem dc_M_swap_133 : decode bc_M_swap 133 = .ok (.invokevirtual 135, 3) := by decide +kernel
theorem dc_M_swap_136 : decode bc_M_swap 136 = .ok (.lload 8, 2) := by decide +kernel
theorem dc_M_swap_138 : decode bc_M_swap 138 = .ok (.iload 4, 2) := by decide +kernel
theorem dc_M_swap_140 : decode bc_M_swap 140 = .ok (.i2l, 1) := by decide +kernel
theorem dc_M_swap_141 : decode bc_M_swap 141 = .ok (.ldiv, 1) := by decide +kernel
theorem dc_M_swap_142 : decode bc_M_swap 142 = .ok (.ladd, 1) := by decide +kernel
theorem dc_M_swap_143 : decode bc_M_swap 143 = .ok (.ldc2_w 138, 3) := by decide +kernel
theorem dc_M_swap_146 : decode bc_M_swap 146 = .ok (.lcmp, 1) := by decide +kernel
theorem dc_M_swap_147 : decode bc_M_swap 147 = .ok (.ifCond .le 5, 3) := by decide +kernel
theorem dc_M_swap_150 : decode bc_M_swap 150 = .ok (.iconst 2, 1) := by decide +kernel
theorem dc_M_swap_151 : decode bc_M_swap 151 = .ok (.ireturn, 1) := by decide +kernel
theorem dc_M_swap_152 : decode bc_M_swap 152 = .ok (.aload_n 0, 1) := by decide +kernel
theorem dc_M_swap_153 : decode bc_M_swap 153 = .ok (.getfield 45, 3) := by decide +kernel
theorem dc_M_swap_156 : decode bc_M_swap 156 = .ok (.bipush 12, 2) := by decide +kernel
theorem dc_M_swap_158 : decode bc_M_swap 158 = .ok (.iload_n 1, 1) := by decide +kernel
theorem dc_M_swap_159 : decode bc_M_swap 159 = .ok (.imul, 1) := by decide +kernel
theorem dc_M_swap_160 : decode bc_M_swap 160 = .ok (.iload 5, 2) := by decide +kernel
theorem dc_M_swap_162 : decode bc_M_swap 162 = .ok (.iadd, 1) := by decide +kernel
theorem dc_M_swap_163 : decode bc_M_swap 163 = .ok (.aload_n 0, 1) := by decide +kernel
theorem dc_M_swap_164 : decode bc_M_swap 164 = .ok (.getfield 45, 3) := by decide +kernel
theorem dc_M_swap_167 : decode bc_M_swap 167 = .ok (.bipush 12, 2) := by decide +kernel
theorem dc_M_swap_169 : decode bc_M_swap 169 = .ok (.iload_n 1, 1) := by decide +kernel
theorem dc_M_swap_170 : decode bc_M_swap 170 = .ok (.imul, 1) := by decide +kernel
theorem dc_M_swap_171 : decode bc_M_swap 171 = .ok (.iload 5, 2) := by decide +kernel
theorem dc_M_swap_173 : decode bc_M_swap 173 = .ok (.iadd, 1) := by decide +kernel
theorem dc_M_swap_174 : decode bc_M_swap 174 = .ok (.laload, 1) := by decide +kernel
theorem dc_M_swap_175 : decode bc_M_swap 175 = .ok (.lload 6, 2) := by decide +kernel
theorem dc_M_swap_177 : decode bc_M_swap 177 = .ok (.lsub, 1) := by decide +kernel
theorem dc_M_swap_178 : decode bc_M_swap 178 = .ok (.lastore, 1) := by decide +kernel
theorem dc_M_swap_179 : decode bc_M_swap 179 = .ok (.aload_n 0, 1) := by decide +kernel
theorem dc_M_swap_180 : decode bc_M_swap 180 = .ok (.getfield 45, 3) := by decide +kernel
theorem dc_M_swap_183 : decode bc_M_swap 183 = .ok (.bipush 12, 2) := by decide +kernel
theorem dc_M_swap_185 : decode bc_M_swap 185 = .ok (.iload_n 2, 1) := by decide +kernel
theorem dc_M_swap_186 : decode bc_M_swap 186 = .ok (.imul, 1) := by decide +kernel
theorem dc_M_swap_187 : decode bc_M_swap 187 = .ok (.iload 5, 2) := by decide +kernel
theorem dc_M_swap_189 : decode bc_M_swap 189 = .ok (.iadd, 1) := by decide +kernel
theorem dc_M_swap_190 : decode bc_M_swap 190 = .ok (.aload_n 0, 1) := by decide +kernel
theorem dc_M_swap_191 : decode bc_M_swap 191 = .ok (.getfield 45, 3) := by decide +kernel
theorem dc_M_swap_194 : decode bc_M_swap 194 = .ok (.bipush 12, 2) := by decide +kernel
theorem dc_M_swap_196 : decode bc_M_swap 196 = .ok (.iload_n 2, 1) := by decide +kernel
theorem dc_M_swap_197 : decode bc_M_swap 197 = .ok (.imul, 1) := by decide +kernel
theorem dc_M_swap_198 : decode bc_M_swap 198 = .ok (.iload 5, 2) := by decide +kernel
theorem dc_M_swap_200 : decode bc_M_swap 200 = .ok (.iadd, 1) := by decide +kernel
theorem dc_M_swap_201 : decode bc_M_swap 201 = .ok (.laload, 1) := by decide +kernel
theorem dc_M_swap_202 : decode bc_M_swap 202 = .ok (.lload 8, 2) := by decide +kernel
theorem dc_M_swap_204 : decode bc_M_swap 204 = .ok (.iload 4, 2) := by decide +kernel
theorem dc_M_swap_206 : decode bc_M_swap 206 = .ok (.i2l, 1) := by decide +kernel
theorem dc_M_swap_207 : decode bc_M_swap 207 = .ok (.ldiv, 1) := by decide +kernel
theorem dc_M_swap_208 : decode bc_M_swap 208 = .ok (.ladd, 1) := by decide +kernel
theorem dc_M_swap_209 : decode bc_M_swap 209 = .ok (.lastore, 1) := by decide +kernel
theorem dc_M_swap_210 : decode bc_M_swap 210 = .ok (.aload_n 0, 1) := by decide +kernel
theorem dc_M_swap_211 : decode bc_M_swap 211 = .ok (.getfield 27, 3) := by decide +kernel
theorem dc_M_swap_214 : decode bc_M_swap 214 = .ok (.iload_n 1, 1) := by decide +kernel
theorem dc_M_swap_215 : decode bc_M_swap 215 = .ok (.aload_n 0, 1) := by decide +kernel
theorem dc_M_swap_216 : decode bc_M_swap 216 = .ok (.getfield 27, 3) := by decide +kernel
theorem dc_M_swap_219 : decode bc_M_swap 219 = .ok (.iload_n 1, 1) := by decide +kernel
theorem dc_M_swap_220 : decode bc_M_swap 220 = .ok (.laload, 1) := by decide +kernel
theorem dc_M_swap_221 : decode bc_M_swap 221 = .ok (.lload 6, 2) := by decide +kernel
theorem dc_M_swap_223 : decode bc_M_swap 223 = .ok (.lsub, 1) := by decide +kernel
theorem dc_M_swap_224 : decode bc_M_swap 224 = .ok (.lastore, 1) := by decide +kernel
theorem dc_M_swap_225 : decode bc_M_swap 225 = .ok (.aload_n 0, 1) := by decide +kernel
theorem dc_M_swap_226 : decode bc_M_swap 226 = .ok (.getfield 27, 3) := by decide +kernel
theorem dc_M_swap_229 : decode bc_M_swap 229 = .ok (.iload_n 2, 1) := by decide +kernel
theorem dc_M_swap_230 : decode bc_M_swap 230 = .ok (.aload_n 0, 1) := by decide +kernel
theorem dc_M_swap_231 : decode bc_M_swap 231 = .ok (.getfield 27, 3) := by decide +kernel
theorem dc_M_swap_234 : decode bc_M_swap 234 = .ok (.iload_n 2, 1) := by decide +kernel
theorem dc_M_swap_235 : decode bc_M_swap 235 = .ok (.laload, 1) := by decide +kernel
theorem dc_M_swap_236 : decode bc_M_swap 236 = .ok (.lload 8, 2) := by decide +kernel
theorem dc_M_swap_238 : decode bc_M_swap 238 = .ok (.iload 4, 2) := by decide +kernel
theorem dc_M_swap_240 : decode bc_M_swap 240 = .ok (.i2l, 1) := by decide +kernel
theorem dc_M_swap_241 : decode bc_M_swap 241 = .ok (.ldiv, 1) := by decide +kernel
theorem dc_M_swap_242 : decode bc_M_swap 242 = .ok (.ladd, 1) := by decide +kernel
theorem dc_M_swap_243 : decode bc_M_swap 243 = .ok (.lastore, 1) := by decide +kernel
theorem dc_M_swap_244 : decode bc_M_swap 244 = .ok (.iconst 0, 1) := by decide +kernel
theorem dc_M_swap_245 : decode bc_M_swap 245 = .ok (.ireturn, 1) := by decide +kernel
theorem dc_M_into_0 : decode bc_M_into 0 = .ok (.aload_n 0, 1) := by decide +kernel
theorem dc_M_into_1 : decode bc_M_into 1 = .ok (.iload_n 1, 1) := by decide +kernel
theorem dc_M_into_2 : decode bc_M_into 2 = .ok (.invokevirtual 100, 3) := by decide +kernel
theorem dc_M_into_5 : decode bc_M_into 5 = .ok (.ifCond .eq 17, 3) := by decide +kernel
theorem dc_M_into_8 : decode bc_M_into 8 = .ok (.iload_n 2, 1) := by decide +kernel
theorem dc_M_into_9 : decode bc_M_into 9 = .ok (.i2l, 1) := by decide +kernel
theorem dc_M_into_10 : decode bc_M_into 10 = .ok (.ldc2_w 109, 3) := by decide +kernel
theorem dc_M_into_13 : decode bc_M_into 13 = .ok (.ldc2_w 140, 3) := by decide +kernel
theorem dc_M_into_16 : decode bc_M_into 16 = .ok (.invokestatic 82, 3) := by decide +kernel
theorem dc_M_into_19 : decode bc_M_into 19 = .ok (.ifCond .ne 5, 3) := by decide +kernel
theorem dc_M_into_22 : decode bc_M_into 22 = .ok (.iconst 0, 1) := by decide +kernel
theorem dc_M_into_23 : decode bc_M_into 23 = .ok (.ireturn, 1) := by decide +kernel
theorem dc_M_into_24 : decode bc_M_into 24 = .ok (.aload_n 0, 1) := by decide +kernel
theorem dc_M_into_25 : decode bc_M_into 25 = .ok (.getfield 39, 3) := by decide +kernel
theorem dc_M_into_28 : decode bc_M_into 28 = .ok (.iload_n 1, 1) := by decide +kernel
theorem dc_M_into_29 : decode bc_M_into 29 = .ok (.iload_n 2, 1) := by decide +kernel
theorem dc_M_into_30 : decode bc_M_into 30 = .ok (.iastore, 1) := by decide +kernel
theorem dc_M_into_31 : decode bc_M_into 31 = .ok (.iconst 1, 1) := by decide +kernel
theorem dc_M_into_32 : decode bc_M_into 32 = .ok (.ireturn, 1) := by decide +kernel
theorem dc_M_pooled_0 : decode bc_M_pooled 0 = .ok (.aload_n 0, 1) := by decide +kernel
theorem dc_M_pooled_1 : decode bc_M_pooled 1 = .ok (.iload_n 1, 1) := by decide +kernel
theorem dc_M_pooled_2 : decode bc_M_pooled 2 = .ok (.invokevirtual 97, 3) := by decide +kernel
theorem dc_M_pooled_5 : decode bc_M_pooled 5 = .ok (.ifCond .eq 15, 3) := by decide +kernel
theorem dc_M_pooled_8 : decode bc_M_pooled 8 = .ok (.iload_n 2, 1) := by decide +kernel
theorem dc_M_pooled_9 : decode bc_M_pooled 9 = .ok (.i2l, 1) := by decide +kernel
theorem dc_M_pooled_10 : decode bc_M_pooled 10 = .ok (.lconst 0, 1) := by decide +kernel
theorem dc_M_pooled_11 : decode bc_M_pooled 11 = .ok (.ldc2_w 140, 3) := by decide +kernel
theorem dc_M_pooled_14 : decode bc_M_pooled 14 = .ok (.invokestatic 82, 3) := by decide +kernel
theorem dc_M_pooled_17 : decode bc_M_pooled 17 = .ok (.ifCond .ne 7, 3) := by decide +kernel
theorem dc_M_pooled_20 : decode bc_M_pooled 20 = .ok (.ldc2_w 109, 3) := by decide +kernel
theorem dc_M_pooled_23 : decode bc_M_pooled 23 = .ok (.lreturn, 1) := by decide +kernel
theorem dc_M_pooled_24 : decode bc_M_pooled 24 = .ok (.lconst 0, 1) := by decide +kernel
theorem dc_M_pooled_25 : decode bc_M_pooled 25 = .ok (.lstore_n 3, 1) := by decide +kernel
theorem dc_M_pooled_26 : decode bc_M_pooled 26 = .ok (.iconst 0, 1) := by decide +kernel
theorem dc_M_pooled_27 : decode bc_M_pooled 27 = .ok (.istore 5, 2) := by decide +kernel
theorem dc_M_pooled_29 : decode bc_M_pooled 29 = .ok (.iload 5, 2) := by decide +kernel
theorem dc_M_pooled_31 : decode bc_M_pooled 31 = .ok (.aload_n 0, 1) := by decide +kernel
theorem dc_M_pooled_32 : decode bc_M_pooled 32 = .ok (.getfield 86, 3) := by decide +kernel
theorem dc_M_pooled_35 : decode bc_M_pooled 35 = .ok (.if_icmp .ge 34, 3) := by decide +kernel
theorem dc_M_pooled_38 : decode bc_M_pooled 38 = .ok (.aload_n 0, 1) := by decide +kernel
theorem dc_M_pooled_39 : decode bc_M_pooled 39 = .ok (.getfield 39, 3) := by decide +kernel
theorem dc_M_pooled_42 : decode bc_M_pooled 42 = .ok (.iload 5, 2) := by decide +kernel
theorem dc_M_pooled_44 : decode bc_M_pooled 44 = .ok (.iaload, 1) := by decide +kernel
theorem dc_M_pooled_45 : decode bc_M_pooled 45 = .ok (.iload_n 2, 1) := by decide +kernel
theorem dc_M_pooled_46 : decode bc_M_pooled 46 = .ok (.if_icmp .ne 15, 3) := by decide +kernel
theorem dc_M_pooled_49 : decode bc_M_pooled 49 = .ok (.lload_n 3, 1) := by decide +kernel
theorem dc_M_pooled_50 : decode bc_M_pooled 50 = .ok (.aload_n 0, 1) := by decide +kernel
theorem dc_M_pooled_51 : decode bc_M_pooled 51 = .ok (.iload_n 1, 1) := by decide +kernel
theorem dc_M_pooled_52 : decode bc_M_pooled 52 = .ok (.iload 5, 2) := by decide +kernel
theorem dc_M_pooled_54 : decode bc_M_pooled 54 = .ok (.invokevirtual 125, 3) := by decide +kernel
theorem dc_M_pooled_57 : decode bc_M_pooled 57 = .ok (.ladd, 1) := by decide +kernel
theorem dc_M_pooled_58 : decode bc_M_pooled 58 = .ok (.goto 4, 3) := by decide +kernel
theorem dc_M_pooled_61 : decode bc_M_pooled 61 = .ok (.lload_n 3, 1) := by decide +kernel
theorem dc_M_pooled_62 : decode bc_M_pooled 62 = .ok (.lstore_n 3, 1) := by decide +kernel
theorem dc_M_pooled_63 : decode bc_M_pooled 63 = .ok (.iinc 5 1, 3) := by decide +kernel
theorem dc_M_pooled_66 : decode bc_M_pooled 66 = .ok (.goto (-37), 3) := by decide +kernel
theorem dc_M_pooled_69 : decode bc_M_pooled 69 = .ok (.lload_n 3, 1) := by decide +kernel
theorem dc_M_pooled_70 : decode bc_M_pooled 70 = .ok (.lreturn, 1) := by decide +kernel
theorem dc_M_reaches_0 : decode bc_M_reaches 0 = .ok (.iconst 0, 1) := by decide +kernel
theorem dc_M_reaches_1 : decode bc_M_reaches 1 = .ok (.istore_n 3, 1) := by decide +kernel
theorem dc_M_reaches_2 : decode bc_M_reaches 2 = .ok (.iload_n 3, 1) := by decide +kernel
theorem dc_M_reaches_3 : decode bc_M_reaches 3 = .ok (.bipush 10, 2) := by decide +kernel
theorem dc_M_reaches_5 : decode bc_M_reaches 5 = .ok (.if_icmp .ge 25, 3) := by decide +kernel
theorem dc_M_reaches_8 : decode bc_M_reaches 8 = .ok (.aload_n 0, 1) := by decide +kernel
theorem dc_M_reaches_9 : decode bc_M_reaches 9 = .ok (.getfield 73, 3) := by decide +kernel
theorem dc_M_reaches_12 : decode bc_M_reaches 12 = .ok (.iload_n 3, 1) := by decide +kernel
theorem dc_M_reaches_13 : decode bc_M_reaches 13 = .ok (.iload_n 3, 1) := by decide +kernel
theorem dc_M_reaches_14 : decode bc_M_reaches 14 = .ok (.iload_n 1, 1) := by decide +kernel
theorem dc_M_reaches_15 : decode bc_M_reaches 15 = .ok (.if_icmp .ne 7, 3) := by decide +kernel
theorem dc_M_reaches_18 : decode bc_M_reaches 18 = .ok (.lconst 1, 1) := by decide +kernel
theorem dc_M_reaches_19 : decode bc_M_reaches 19 = .ok (.goto 4, 3) := by decide +kernel
theorem dc_M_reaches_22 : decode bc_M_reaches 22 = .ok (.lconst 0, 1) := by decide +kernel
theorem dc_M_reaches_23 : decode bc_M_reaches 23 = .ok (.lastore, 1) := by decide +kernel
theorem dc_M_reaches_24 : decode bc_M_reaches 24 = .ok (.iinc 3 1, 3) := by decide +kernel
theorem dc_M_reaches_27 : decode bc_M_reaches 27 = .ok (.goto (-25), 3) := by decide +kernel
theorem dc_M_reaches_30 : decode bc_M_reaches 30 = .ok (.iconst 0, 1) := by decide +kernel
theorem dc_M_reaches_31 : decode bc_M_reaches 31 = .ok (.istore_n 3, 1) := by decide +kernel
theorem dc_M_reaches_32 : decode bc_M_reaches 32 = .ok (.iload_n 3, 1) := by decide +kernel
theorem dc_M_reaches_33 : decode bc_M_reaches 33 = .ok (.bipush 10, 2) := by decide +kernel
theorem dc_M_reaches_35 : decode bc_M_reaches 35 = .ok (.if_icmp .ge 87, 3) := by decide +kernel
theorem dc_M_reaches_38 : decode bc_M_reaches 38 = .ok (.iconst 0, 1) := by decide +kernel
theorem dc_M_reaches_39 : decode bc_M_reaches 39 = .ok (.istore 4, 2) := by decide +kernel
theorem dc_M_reaches_41 : decode bc_M_reaches 41 = .ok (.iload 4, 2) := by decide +kernel
theorem dc_M_reaches_43 : decode bc_M_reaches 43 = .ok (.bipush 10, 2) := by decide +kernel
theorem dc_M_reaches_45 : decode bc_M_reaches 45 = .ok (.if_icmp .ge 71, 3) := by decide +kernel
theorem dc_M_reaches_48 : decode bc_M_reaches 48 = .ok (.iconst 0, 1) := by decide +kernel
theorem dc_M_reaches_49 : decode bc_M_reaches 49 = .ok (.istore 5, 2) := by decide +kernel
theorem dc_M_reaches_51 : decode bc_M_reaches 51 = .ok (.iload 5, 2) := by decide +kernel
theorem dc_M_reaches_53 : decode bc_M_reaches 53 = .ok (.bipush 10, 2) := by decide +kernel
theorem dc_M_reaches_55 : decode bc_M_reaches 55 = .ok (.if_icmp .ge 55, 3) := by decide +kernel
theorem dc_M_reaches_58 : decode bc_M_reaches 58 = .ok (.aload_n 0, 1) := by decide +kernel
theorem dc_M_reaches_59 : decode bc_M_reaches 59 = .ok (.getfield 73, 3) := by decide +kernel
theorem dc_M_reaches_62 : decode bc_M_reaches 62 = .ok (.iload 5, 2) := by decide +kernel
theorem dc_M_reaches_64 : decode bc_M_reaches 64 = .ok (.aload_n 0, 1) := by decide +kernel
theorem dc_M_reaches_65 : decode bc_M_reaches 65 = .ok (.getfield 73, 3) := by decide +kernel
theorem dc_M_reaches_68 : decode bc_M_reaches 68 = .ok (.iload 4, 2) := by decide +kernel
theorem dc_M_reaches_70 : decode bc_M_reaches 70 = .ok (.laload, 1) := by decide +kernel
theorem dc_M_reaches_71 : decode bc_M_reaches 71 = .ok (.lconst 1, 1) := by decide +kernel
theorem dc_M_reaches_72 : decode bc_M_reaches 72 = .ok (.lcmp, 1) := by decide +kernel
theorem dc_M_reaches_73 : decode bc_M_reaches 73 = .ok (.ifCond .ne 23, 3) := by decide +kernel
theorem dc_M_reaches_76 : decode bc_M_reaches 76 = .ok (.aload_n 0, 1) := by decide +kernel
theorem dc_M_reaches_77 : decode bc_M_reaches 77 = .ok (.getfield 67, 3) := by decide +kernel
theorem dc_M_reaches_80 : decode bc_M_reaches 80 = .ok (.bipush 10, 2) := by decide +kernel
theorem dc_M_reaches_82 : decode bc_M_reaches 82 = .ok (.iload 4, 2) := by decide +kernel
theorem dc_M_reaches_84 : decode bc_M_reaches 84 = .ok (.imul, 1) := by decide +kernel
theorem dc_M_reaches_85 : decode bc_M_reaches 85 = .ok (.iload 5, 2) := by decide +kernel
theorem dc_M_reaches_87 : decode bc_M_reaches 87 = .ok (.iadd, 1) := by decide +kernel
theorem dc_M_reaches_88 : decode bc_M_reaches 88 = .ok (.iaload, 1) := by decide +kernel
theorem dc_M_reaches_89 : decode bc_M_reaches 89 = .ok (.ifCond .le 7, 3) := by decide +kernel
theorem dc_M_reaches_92 : decode bc_M_reaches 92 = .ok (.lconst 1, 1) := by decide +kernel
theorem dc_M_reaches_93 : decode bc_M_reaches 93 = .ok (.goto 10, 3) := by decide +kernel
theorem dc_M_reaches_96 : decode bc_M_reaches 96 = .ok (.aload_n 0, 1) := by decide +kernel
theorem dc_M_reaches_97 : decode bc_M_reaches 97 = .ok (.getfield 73, 3) := by decide +kernel
theorem dc_M_reaches_100 : decode bc_M_reaches 100 = .ok (.iload 5, 2) := by decide +kernel
theorem dc_M_reaches_102 : decode bc_M_reaches 102 = .ok (.laload, 1) := by decide +kernel
theorem dc_M_reaches_103 : decode bc_M_reaches 103 = .ok (.lastore, 1) := by decide +kernel
theorem dc_M_reaches_104 : decode bc_M_reaches 104 = .ok (.iinc 5 1, 3) := by decide +kernel
theorem dc_M_reaches_107 : decode bc_M_reaches 107 = .ok (.goto (-56), 3) := by decide +kernel
theorem dc_M_reaches_110 : decode bc_M_reaches 110 = .ok (.iinc 4 1, 3) := by decide +kernel
theorem dc_M_reaches_113 : decode bc_M_reaches 113 = .ok (.goto (-72), 3) := by decide +kernel
theorem dc_M_reaches_116 : decode bc_M_reaches 116 = .ok (.iinc 3 1, 3) := by decide +kernel
theorem dc_M_reaches_119 : decode bc_M_reaches 119 = .ok (.goto (-87), 3) := by decide +kernel
theorem dc_M_reaches_122 : decode bc_M_reaches 122 = .ok (.aload_n 0, 1) := by decide +kernel
theorem dc_M_reaches_123 : decode bc_M_reaches 123 = .ok (.getfield 73, 3) := by decide +kernel
theorem dc_M_reaches_126 : decode bc_M_reaches 126 = .ok (.iload_n 2, 1) := by decide +kernel
theorem dc_M_reaches_127 : decode bc_M_reaches 127 = .ok (.laload, 1) := by decide +kernel
theorem dc_M_reaches_128 : decode bc_M_reaches 128 = .ok (.lconst 1, 1) := by decide +kernel
theorem dc_M_reaches_129 : decode bc_M_reaches 129 = .ok (.lcmp, 1) := by decide +kernel
theorem dc_M_reaches_130 : decode bc_M_reaches 130 = .ok (.ifCond .ne 7, 3) := by decide +kernel
theorem dc_M_reaches_133 : decode bc_M_reaches 133 = .ok (.iconst 1, 1) := by decide +kernel
theorem dc_M_reaches_134 : decode bc_M_reaches 134 = .ok (.goto 4, 3) := by decide +kernel
theorem dc_M_reaches_137 : decode bc_M_reaches 137 = .ok (.iconst 0, 1) := by decide +kernel
theorem dc_M_reaches_138 : decode bc_M_reaches 138 = .ok (.ireturn, 1) := by decide +kernel
theorem dc_M_owns_0 : decode bc_M_owns 0 = .ok (.iload_n 1, 1) := by decide +kernel
theorem dc_M_owns_1 : decode bc_M_owns 1 = .ok (.invokestatic 93, 3) := by decide +kernel
theorem dc_M_owns_4 : decode bc_M_owns 4 = .ok (.ifCond .eq 22, 3) := by decide +kernel
theorem dc_M_owns_7 : decode bc_M_owns 7 = .ok (.iload_n 2, 1) := by decide +kernel
theorem dc_M_owns_8 : decode bc_M_owns 8 = .ok (.invokestatic 93, 3) := by decide +kernel
theorem dc_M_owns_11 : decode bc_M_owns 11 = .ok (.ifCond .eq 15, 3) := by decide +kernel
theorem dc_M_owns_14 : decode bc_M_owns 14 = .ok (.iload_n 3, 1) := by decide +kernel
theorem dc_M_owns_15 : decode bc_M_owns 15 = .ok (.i2l, 1) := by decide +kernel
theorem dc_M_owns_16 : decode bc_M_owns 16 = .ok (.lconst 0, 1) := by decide +kernel
theorem dc_M_owns_17 : decode bc_M_owns 17 = .ok (.ldc2_w 142, 3) := by decide +kernel
theorem dc_M_owns_20 : decode bc_M_owns 20 = .ok (.invokestatic 82, 3) := by decide +kernel
theorem dc_M_owns_23 : decode bc_M_owns 23 = .ok (.ifCond .ne 5, 3) := by decide +kernel
theorem dc_M_owns_26 : decode bc_M_owns 26 = .ok (.iconst 0, 1) := by decide +kernel
theorem dc_M_owns_27 : decode bc_M_owns 27 = .ok (.ireturn, 1) := by decide +kernel
theorem dc_M_owns_28 : decode bc_M_owns 28 = .ok (.iload_n 3, 1) := by decide +kernel
theorem dc_M_owns_29 : decode bc_M_owns 29 = .ok (.ifCond .le 19, 3) := by decide +kernel
theorem dc_M_owns_32 : decode bc_M_owns 32 = .ok (.iload_n 1, 1) := by decide +kernel
theorem dc_M_owns_33 : decode bc_M_owns 33 = .ok (.iload_n 2, 1) := by decide +kernel
theorem dc_M_owns_34 : decode bc_M_owns 34 = .ok (.if_icmp .eq 12, 3) := by decide +kernel
theorem dc_M_owns_37 : decode bc_M_owns 37 = .ok (.aload_n 0, 1) := by decide +kernel
theorem dc_M_owns_38 : decode bc_M_owns 38 = .ok (.iload_n 2, 1) := by decide +kernel
theorem dc_M_owns_39 : decode bc_M_owns 39 = .ok (.iload_n 1, 1) := by decide +kernel
theorem dc_M_owns_40 : decode bc_M_owns 40 = .ok (.invokevirtual 144, 3) := by decide +kernel
theorem dc_M_owns_43 : decode bc_M_owns 43 = .ok (.ifCond .eq 5, 3) := by decide +kernel
theorem dc_M_owns_46 : decode bc_M_owns 46 = .ok (.iconst 0, 1) := by decide +kernel
theorem dc_M_owns_47 : decode bc_M_owns 47 = .ok (.ireturn, 1) := by decide +kernel
theorem dc_M_owns_48 : decode bc_M_owns 48 = .ok (.iload_n 3, 1) := by decide +kernel
theorem dc_M_owns_49 : decode bc_M_owns 49 = .ok (.istore 4, 2) := by decide +kernel
theorem dc_M_owns_51 : decode bc_M_owns 51 = .ok (.iconst 0, 1) := by decide +kernel
theorem dc_M_owns_52 : decode bc_M_owns 52 = .ok (.istore 5, 2) := by decide +kernel
theorem dc_M_owns_54 : decode bc_M_owns 54 = .ok (.iload 5, 2) := by decide +kernel
theorem dc_M_owns_56 : decode bc_M_owns 56 = .ok (.bipush 10, 2) := by decide +kernel
theorem dc_M_owns_58 : decode bc_M_owns 58 = .ok (.if_icmp .ge 37, 3) := by decide +kernel
theorem dc_M_owns_61 : decode bc_M_owns 61 = .ok (.iload 5, 2) := by decide +kernel
theorem dc_M_owns_63 : decode bc_M_owns 63 = .ok (.iload_n 1, 1) := by decide +kernel
theorem dc_M_owns_64 : decode bc_M_owns 64 = .ok (.if_icmp .ne 8, 3) := by decide +kernel
theorem dc_M_owns_67 : decode bc_M_owns 67 = .ok (.iload 4, 2) := by decide +kernel
theorem dc_M_owns_69 : decode bc_M_owns 69 = .ok (.goto 18, 3) := by decide +kernel
theorem dc_M_owns_72 : decode bc_M_owns 72 = .ok (.iload 4, 2) := by decide +kernel
theorem dc_M_owns_74 : decode bc_M_owns 74 = .ok (.aload_n 0, 1) := by decide +kernel
theorem dc_M_owns_75 : decode bc_M_owns 75 = .ok (.getfield 67, 3) := by decide +kernel
theorem dc_M_owns_78 : decode bc_M_owns 78 = .ok (.bipush 10, 2) := by decide +kernel
theorem dc_M_owns_80 : decode bc_M_owns 80 = .ok (.iload 5, 2) := by decide +kernel
theorem dc_M_owns_82 : decode bc_M_owns 82 = .ok (.imul, 1) := by decide +kernel
theorem dc_M_owns_83 : decode bc_M_owns 83 = .ok (.iload_n 2, 1) := by decide +kernel
theorem dc_M_owns_84 : decode bc_M_owns 84 = .ok (.iadd, 1) := by decide +kernel
theorem dc_M_owns_85 : decode bc_M_owns 85 = .ok (.iaload, 1) := by decide +kernel
theorem dc_M_owns_86 : decode bc_M_owns 86 = .ok (.iadd, 1) := by decide +kernel
theorem dc_M_owns_87 : decode bc_M_owns 87 = .ok (.istore 4, 2) := by decide +kernel
theorem dc_M_owns_89 : decode bc_M_owns 89 = .ok (.iinc 5 1, 3) := by decide +kernel
theorem dc_M_owns_92 : decode bc_M_owns 92 = .ok (.goto (-38), 3) := by decide +kernel
theorem dc_M_owns_95 : decode bc_M_owns 95 = .ok (.iload 4, 2) := by decide +kernel
theorem dc_M_owns_97 : decode bc_M_owns 97 = .ok (.bipush 100, 2) := by decide +kernel
theorem dc_M_owns_99 : decode bc_M_owns 99 = .ok (.if_icmp .le 5, 3) := by decide +kernel
theorem dc_M_owns_102 : decode bc_M_owns 102 = .ok (.iconst 0, 1) := by decide +kernel
theorem dc_M_owns_103 : decode bc_M_owns 103 = .ok (.ireturn, 1) := by decide +kernel
theorem dc_M_owns_104 : decode bc_M_owns 104 = .ok (.aload_n 0, 1) := by decide +kernel
theorem dc_M_owns_105 : decode bc_M_owns 105 = .ok (.getfield 67, 3) := by decide +kernel
theorem dc_M_owns_108 : decode bc_M_owns 108 = .ok (.bipush 10, 2) := by decide +kernel
theorem dc_M_owns_110 : decode bc_M_owns 110 = .ok (.iload_n 1, 1) := by decide +kernel
theorem dc_M_owns_111 : decode bc_M_owns 111 = .ok (.imul, 1) := by decide +kernel
theorem dc_M_owns_112 : decode bc_M_owns 112 = .ok (.iload_n 2, 1) := by decide +kernel
theorem dc_M_owns_113 : decode bc_M_owns 113 = .ok (.iadd, 1) := by decide +kernel
theorem dc_M_owns_114 : decode bc_M_owns 114 = .ok (.iload_n 3, 1) := by decide +kernel
theorem dc_M_owns_115 : decode bc_M_owns 115 = .ok (.iastore, 1) := by decide +kernel
theorem dc_M_owns_116 : decode bc_M_owns 116 = .ok (.iconst 1, 1) := by decide +kernel
theorem dc_M_owns_117 : decode bc_M_owns 117 = .ok (.ireturn, 1) := by decide +kernel
theorem dc_M_findHolds_0 : decode bc_M_findHolds 0 = .ok (.lconst 1, 1) := by decide +kernel
theorem dc_M_findHolds_1 : decode bc_M_findHolds 1 = .ok (.lstore_n 2, 1) := by decide +kernel
theorem dc_M_findHolds_2 : decode bc_M_findHolds 2 = .ok (.iconst 0, 1) := by decide +kernel
theorem dc_M_findHolds_3 : decode bc_M_findHolds 3 = .ok (.istore 4, 2) := by decide +kernel
theorem dc_M_findHolds_5 : decode bc_M_findHolds 5 = .ok (.iload 4, 2) := by decide +kernel
theorem dc_M_findHolds_7 : decode bc_M_findHolds 7 = .ok (.bipush 9, 2) := by decide +kernel
theorem dc_M_findHolds_9 : decode bc_M_findHolds 9 = .ok (.if_icmp .ge 15, 3) := by decide +kernel
theorem dc_M_findHolds_12 : decode bc_M_findHolds 12 = .ok (.ldc2_w 142, 3) := by decide +kernel
theorem dc_M_findHolds_15 : decode bc_M_findHolds 15 = .ok (.lload_n 2, 1) := by decide +kernel
theorem dc_M_findHolds_16 : decode bc_M_findHolds 16 = .ok (.lmul, 1) := by decide +kernel
theorem dc_M_findHolds_17 : decode bc_M_findHolds 17 = .ok (.lstore_n 2, 1) := by decide +kernel
theorem dc_M_findHolds_18 : decode bc_M_findHolds 18 = .ok (.iinc 4 1, 3) := by decide +kernel
theorem dc_M_findHolds_21 : decode bc_M_findHolds 21 = .ok (.goto (-16), 3) := by decide +kernel
theorem dc_M_findHolds_24 : decode bc_M_findHolds 24 = .ok (.iconst 0, 1) := by decide +kernel
theorem dc_M_findHolds_25 : decode bc_M_findHolds 25 = .ok (.istore 4, 2) := by decide +kernel
theorem dc_M_findHolds_27 : decode bc_M_findHolds 27 = .ok (.iload 4, 2) := by decide +kernel
theorem dc_M_findHolds_29 : decode bc_M_findHolds 29 = .ok (.bipush 10, 2) := by decide +kernel
theorem dc_M_findHolds_31 : decode bc_M_findHolds 31 = .ok (.if_icmp .ge 41, 3) := by decide +kernel
theorem dc_M_findHolds_34 : decode bc_M_findHolds 34 = .ok (.aload_n 0, 1) := by decide +kernel
theorem dc_M_findHolds_35 : decode bc_M_findHolds 35 = .ok (.getfield 70, 3) := by decide +kernel
theorem dc_M_findHolds_38 : decode bc_M_findHolds 38 = .ok (.iload 4, 2) := by decide +kernel
theorem dc_M_findHolds_40 : decode bc_M_findHolds 40 = .ok (.iload 4, 2) := by decide +kernel
theorem dc_M_findHolds_42 : decode bc_M_findHolds 42 = .ok (.iload_n 1, 1) := by decide +kernel
theorem dc_M_findHolds_43 : decode bc_M_findHolds 43 = .ok (.if_icmp .ne 7, 3) := by decide +kernel
theorem dc_M_findHolds_46 : decode bc_M_findHolds 46 = .ok (.lload_n 2, 1) := by decide +kernel
theorem dc_M_findHolds_47 : decode bc_M_findHolds 47 = .ok (.goto 4, 3) := by decide +kernel
theorem dc_M_findHolds_50 : decode bc_M_findHolds 50 = .ok (.lconst 0, 1) := by decide +kernel
theorem dc_M_findHolds_51 : decode bc_M_findHolds 51 = .ok (.lastore, 1) := by decide +kernel
theorem dc_M_findHolds_52 : decode bc_M_findHolds 52 = .ok (.aload_n 0, 1) := by decide +kernel
theorem dc_M_findHolds_53 : decode bc_M_findHolds 53 = .ok (.getfield 76, 3) := by decide +kernel
theorem dc_M_findHolds_56 : decode bc_M_findHolds 56 = .ok (.iload 4, 2) := by decide +kernel
theorem dc_M_findHolds_58 : decode bc_M_findHolds 58 = .ok (.aload_n 0, 1) := by decide +kernel
theorem dc_M_findHolds_59 : decode bc_M_findHolds 59 = .ok (.getfield 70, 3) := by decide +kernel
theorem dc_M_findHolds_62 : decode bc_M_findHolds 62 = .ok (.iload 4, 2) := by decide +kernel
theorem dc_M_findHolds_64 : decode bc_M_findHolds 64 = .ok (.laload, 1) := by decide +kernel
theorem dc_M_findHolds_65 : decode bc_M_findHolds 65 = .ok (.lastore, 1) := by decide +kernel
theorem dc_M_findHolds_66 : decode bc_M_findHolds 66 = .ok (.iinc 4 1, 3) := by decide +kernel
theorem dc_M_findHolds_69 : decode bc_M_findHolds 69 = .ok (.goto (-42), 3) := by decide +kernel
theorem dc_M_findHolds_72 : decode bc_M_findHolds 72 = .ok (.iconst 1, 1) := by decide +kernel
theorem dc_M_findHolds_73 : decode bc_M_findHolds 73 = .ok (.istore 4, 2) := by decide +kernel
theorem dc_M_findHolds_75 : decode bc_M_findHolds 75 = .ok (.iload 4, 2) := by decide +kernel
theorem dc_M_findHolds_77 : decode bc_M_findHolds 77 = .ok (.bipush 10, 2) := by decide +kernel
theorem dc_M_findHolds_79 : decode bc_M_findHolds 79 = .ok (.if_icmp .ge 142, 3) := by decide +kernel
theorem dc_M_findHolds_82 : decode bc_M_findHolds 82 = .ok (.iconst 0, 1) := by decide +kernel
theorem dc_M_findHolds_83 : decode bc_M_findHolds 83 = .ok (.istore 5, 2) := by decide +kernel
theorem dc_M_findHolds_85 : decode bc_M_findHolds 85 = .ok (.iload 5, 2) := by decide +kernel
theorem dc_M_findHolds_87 : decode bc_M_findHolds 87 = .ok (.bipush 10, 2) := by decide +kernel
theorem dc_M_findHolds_89 : decode bc_M_findHolds 89 = .ok (.if_icmp .ge 74, 3) := by decide +kernel
theorem dc_M_findHolds_92 : decode bc_M_findHolds 92 = .ok (.aload_n 0, 1) := by decide +kernel
theorem dc_M_findHolds_93 : decode bc_M_findHolds 93 = .ok (.getfield 73, 3) := by decide +kernel
theorem dc_M_findHolds_96 : decode bc_M_findHolds 96 = .ok (.iload 5, 2) := by decide +kernel
theorem dc_M_findHolds_98 : decode bc_M_findHolds 98 = .ok (.lconst 0, 1) := by decide +kernel
theorem dc_M_findHolds_99 : decode bc_M_findHolds 99 = .ok (.lastore, 1) := by decide +kernel
theorem dc_M_findHolds_100 : decode bc_M_findHolds 100 = .ok (.iconst 0, 1) := by decide +kernel
theorem dc_M_findHolds_101 : decode bc_M_findHolds 101 = .ok (.istore 6, 2) := by decide +kernel
theorem dc_M_findHolds_103 : decode bc_M_findHolds 103 = .ok (.iload 6, 2) := by decide +kernel
theorem dc_M_findHolds_105 : decode bc_M_findHolds 105 = .ok (.bipush 10, 2) := by decide +kernel
theorem dc_M_findHolds_107 : decode bc_M_findHolds 107 = .ok (.if_icmp .ge 50, 3) := by decide +kernel
theorem dc_M_findHolds_110 : decode bc_M_findHolds 110 = .ok (.aload_n 0, 1) := by decide +kernel
theorem dc_M_findHolds_111 : decode bc_M_findHolds 111 = .ok (.getfield 73, 3) := by decide +kernel
theorem dc_M_findHolds_114 : decode bc_M_findHolds 114 = .ok (.iload 5, 2) := by decide +kernel
theorem dc_M_findHolds_116 : decode bc_M_findHolds 116 = .ok (.aload_n 0, 1) := by decide +kernel
theorem dc_M_findHolds_117 : decode bc_M_findHolds 117 = .ok (.getfield 73, 3) := by decide +kernel
theorem dc_M_findHolds_120 : decode bc_M_findHolds 120 = .ok (.iload 5, 2) := by decide +kernel
theorem dc_M_findHolds_122 : decode bc_M_findHolds 122 = .ok (.laload, 1) := by decide +kernel
theorem dc_M_findHolds_123 : decode bc_M_findHolds 123 = .ok (.aload_n 0, 1) := by decide +kernel
theorem dc_M_findHolds_124 : decode bc_M_findHolds 124 = .ok (.getfield 70, 3) := by decide +kernel
theorem dc_M_findHolds_127 : decode bc_M_findHolds 127 = .ok (.iload 6, 2) := by decide +kernel
theorem dc_M_findHolds_129 : decode bc_M_findHolds 129 = .ok (.laload, 1) := by decide +kernel
theorem dc_M_findHolds_130 : decode bc_M_findHolds 130 = .ok (.ldc2_w 142, 3) := by decide +kernel
theorem dc_M_findHolds_133 : decode bc_M_findHolds 133 = .ok (.ldiv, 1) := by decide +kernel
theorem dc_M_findHolds_134 : decode bc_M_findHolds 134 = .ok (.aload_n 0, 1) := by decide +kernel
theorem dc_M_findHolds_135 : decode bc_M_findHolds 135 = .ok (.getfield 67, 3) := by decide +kernel
theorem dc_M_findHolds_138 : decode bc_M_findHolds 138 = .ok (.bipush 10, 2) := by decide +kernel
theorem dc_M_findHolds_140 : decode bc_M_findHolds 140 = .ok (.iload 6, 2) := by decide +kernel
theorem dc_M_findHolds_142 : decode bc_M_findHolds 142 = .ok (.imul, 1) := by decide +kernel
theorem dc_M_findHolds_143 : decode bc_M_findHolds 143 = .ok (.iload 5, 2) := by decide +kernel
theorem dc_M_findHolds_145 : decode bc_M_findHolds 145 = .ok (.iadd, 1) := by decide +kernel
theorem dc_M_findHolds_146 : decode bc_M_findHolds 146 = .ok (.iaload, 1) := by decide +kernel
theorem dc_M_findHolds_147 : decode bc_M_findHolds 147 = .ok (.i2l, 1) := by decide +kernel
theorem dc_M_findHolds_148 : decode bc_M_findHolds 148 = .ok (.lmul, 1) := by decide +kernel
theorem dc_M_findHolds_149 : decode bc_M_findHolds 149 = .ok (.ladd, 1) := by decide +kernel
theorem dc_M_findHolds_150 : decode bc_M_findHolds 150 = .ok (.lastore, 1) := by decide +kernel
theorem dc_M_findHolds_151 : decode bc_M_findHolds 151 = .ok (.iinc 6 1, 3) := by decide +kernel
theorem dc_M_findHolds_154 : decode bc_M_findHolds 154 = .ok (.goto (-51), 3) := by decide +kernel
theorem dc_M_findHolds_157 : decode bc_M_findHolds 157 = .ok (.iinc 5 1, 3) := by decide +kernel
theorem dc_M_findHolds_160 : decode bc_M_findHolds 160 = .ok (.goto (-75), 3) := by decide +kernel
theorem dc_M_findHolds_163 : decode bc_M_findHolds 163 = .ok (.iconst 0, 1) := by decide +kernel
theorem dc_M_findHolds_164 : decode bc_M_findHolds 164 = .ok (.istore 5, 2) := by decide +kernel
theorem dc_M_findHolds_166 : decode bc_M_findHolds 166 = .ok (.iload 5, 2) := by decide +kernel
theorem dc_M_findHolds_168 : decode bc_M_findHolds 168 = .ok (.bipush 10, 2) := by decide +kernel
theorem dc_M_findHolds_170 : decode bc_M_findHolds 170 = .ok (.if_icmp .ge 45, 3) := by decide +kernel
theorem dc_M_findHolds_173 : decode bc_M_findHolds 173 = .ok (.aload_n 0, 1) := by decide +kernel
theorem dc_M_findHolds_174 : decode bc_M_findHolds 174 = .ok (.getfield 70, 3) := by decide +kernel
theorem dc_M_findHolds_177 : decode bc_M_findHolds 177 = .ok (.iload 5, 2) := by decide +kernel
theorem dc_M_findHolds_179 : decode bc_M_findHolds 179 = .ok (.aload_n 0, 1) := by decide +kernel
theorem dc_M_findHolds_180 : decode bc_M_findHolds 180 = .ok (.getfield 73, 3) := by decide +kernel
theorem dc_M_findHolds_183 : decode bc_M_findHolds 183 = .ok (.iload 5, 2) := by decide +kernel
theorem dc_M_findHolds_185 : decode bc_M_findHolds 185 = .ok (.laload, 1) := by decide +kernel
theorem dc_M_findHolds_186 : decode bc_M_findHolds 186 = .ok (.lastore, 1) := by decide +kernel
theorem dc_M_findHolds_187 : decode bc_M_findHolds 187 = .ok (.aload_n 0, 1) := by decide +kernel
theorem dc_M_findHolds_188 : decode bc_M_findHolds 188 = .ok (.getfield 76, 3) := by decide +kernel
theorem dc_M_findHolds_191 : decode bc_M_findHolds 191 = .ok (.iload 5, 2) := by decide +kernel
theorem dc_M_findHolds_193 : decode bc_M_findHolds 193 = .ok (.aload_n 0, 1) := by decide +kernel
theorem dc_M_findHolds_194 : decode bc_M_findHolds 194 = .ok (.getfield 76, 3) := by decide +kernel
theorem dc_M_findHolds_197 : decode bc_M_findHolds 197 = .ok (.iload 5, 2) := by decide +kernel
theorem dc_M_findHolds_199 : decode bc_M_findHolds 199 = .ok (.laload, 1) := by decide +kernel
theorem dc_M_findHolds_200 : decode bc_M_findHolds 200 = .ok (.aload_n 0, 1) := by decide +kernel
theorem dc_M_findHolds_201 : decode bc_M_findHolds 201 = .ok (.getfield 73, 3) := by decide +kernel
theorem dc_M_findHolds_204 : decode bc_M_findHolds 204 = .ok (.iload 5, 2) := by decide +kernel
theorem dc_M_findHolds_206 : decode bc_M_findHolds 206 = .ok (.laload, 1) := by decide +kernel
theorem dc_M_findHolds_207 : decode bc_M_findHolds 207 = .ok (.ladd, 1) := by decide +kernel
theorem dc_M_findHolds_208 : decode bc_M_findHolds 208 = .ok (.lastore, 1) := by decide +kernel
theorem dc_M_findHolds_209 : decode bc_M_findHolds 209 = .ok (.iinc 5 1, 3) := by decide +kernel
theorem dc_M_findHolds_212 : decode bc_M_findHolds 212 = .ok (.goto (-46), 3) := by decide +kernel
theorem dc_M_findHolds_215 : decode bc_M_findHolds 215 = .ok (.iinc 4 1, 3) := by decide +kernel
theorem dc_M_findHolds_218 : decode bc_M_findHolds 218 = .ok (.goto (-143), 3) := by decide +kernel
theorem dc_M_findHolds_221 : decode bc_M_findHolds 221 = .ok (.return_, 1) := by decide +kernel
theorem dc_M_hold_0 : decode bc_M_hold 0 = .ok (.iload_n 1, 1) := by decide +kernel
theorem dc_M_hold_1 : decode bc_M_hold 1 = .ok (.invokestatic 93, 3) := by decide +kernel
theorem dc_M_hold_4 : decode bc_M_hold 4 = .ok (.ifCond .eq 10, 3) := by decide +kernel
theorem dc_M_hold_7 : decode bc_M_hold 7 = .ok (.iload_n 2, 1) := by decide +kernel
theorem dc_M_hold_8 : decode bc_M_hold 8 = .ok (.invokestatic 93, 3) := by decide +kernel
theorem dc_M_hold_11 : decode bc_M_hold 11 = .ok (.ifCond .ne 7, 3) := by decide +kernel
theorem dc_M_hold_14 : decode bc_M_hold 14 = .ok (.ldc2_w 109, 3) := by decide +kernel
theorem dc_M_hold_17 : decode bc_M_hold 17 = .ok (.lreturn, 1) := by decide +kernel
theorem dc_M_hold_18 : decode bc_M_hold 18 = .ok (.aload_n 0, 1) := by decide +kernel
theorem dc_M_hold_19 : decode bc_M_hold 19 = .ok (.iload_n 1, 1) := by decide +kernel
theorem dc_M_hold_20 : decode bc_M_hold 20 = .ok (.invokevirtual 148, 3) := by decide +kernel
theorem dc_M_hold_23 : decode bc_M_hold 23 = .ok (.aload_n 0, 1) := by decide +kernel
theorem dc_M_hold_24 : decode bc_M_hold 24 = .ok (.getfield 76, 3) := by decide +kernel
theorem dc_M_hold_27 : decode bc_M_hold 27 = .ok (.iload_n 2, 1) := by decide +kernel
theorem dc_M_hold_28 : decode bc_M_hold 28 = .ok (.laload, 1) := by decide +kernel
theorem dc_M_hold_29 : decode bc_M_hold 29 = .ok (.lreturn, 1) := by decide +kernel
theorem dc_M_cap_0 : decode bc_M_cap 0 = .ok (.aload_n 0, 1) := by decide +kernel
theorem dc_M_cap_1 : decode bc_M_cap 1 = .ok (.iload_n 1, 1) := by decide +kernel
theorem dc_M_cap_2 : decode bc_M_cap 2 = .ok (.invokevirtual 97, 3) := by decide +kernel
theorem dc_M_cap_5 : decode bc_M_cap 5 = .ok (.ifCond .eq 15, 3) := by decide +kernel
theorem dc_M_cap_8 : decode bc_M_cap 8 = .ok (.iload_n 2, 1) := by decide +kernel
theorem dc_M_cap_9 : decode bc_M_cap 9 = .ok (.i2l, 1) := by decide +kernel
theorem dc_M_cap_10 : decode bc_M_cap 10 = .ok (.lconst 0, 1) := by decide +kernel
theorem dc_M_cap_11 : decode bc_M_cap 11 = .ok (.ldc2_w 142, 3) := by decide +kernel
theorem dc_M_cap_14 : decode bc_M_cap 14 = .ok (.invokestatic 82, 3) := by decide +kernel
theorem dc_M_cap_17 : decode bc_M_cap 17 = .ok (.ifCond .ne 5, 3) := by decide +kernel
theorem dc_M_cap_20 : decode bc_M_cap 20 = .ok (.iconst 0, 1) := by decide +kernel
theorem dc_M_cap_21 : decode bc_M_cap 21 = .ok (.ireturn, 1) := by decide +kernel
theorem dc_M_cap_22 : decode bc_M_cap 22 = .ok (.aload_n 0, 1) := by decide +kernel
theorem dc_M_cap_23 : decode bc_M_cap 23 = .ok (.getfield 24, 3) := by decide +kernel
theorem dc_M_cap_26 : decode bc_M_cap 26 = .ok (.iload_n 1, 1) := by decide +kernel
theorem dc_M_cap_27 : decode bc_M_cap 27 = .ok (.iload_n 2, 1) := by decide +kernel
theorem dc_M_cap_28 : decode bc_M_cap 28 = .ok (.iastore, 1) := by decide +kernel
theorem dc_M_cap_29 : decode bc_M_cap 29 = .ok (.iconst 1, 1) := by decide +kernel
theorem dc_M_cap_30 : decode bc_M_cap 30 = .ok (.ireturn, 1) := by decide +kernel
theorem dc_M_isAbove_0 : decode bc_M_isAbove 0 = .ok (.lconst 0, 1) := by decide +kernel
theorem dc_M_isAbove_1 : decode bc_M_isAbove 1 = .ok (.lstore_n 2, 1) := by decide +kernel
theorem dc_M_isAbove_2 : decode bc_M_isAbove 2 = .ok (.lconst 0, 1) := by decide +kernel
theorem dc_M_isAbove_3 : decode bc_M_isAbove 3 = .ok (.lstore 4, 2) := by decide +kernel
theorem dc_M_isAbove_5 : decode bc_M_isAbove 5 = .ok (.iconst 0, 1) := by decide +kernel
theorem dc_M_isAbove_6 : decode bc_M_isAbove 6 = .ok (.istore 6, 2) := by decide +kernel
theorem dc_M_isAbove_8 : decode bc_M_isAbove 8 = .ok (.iload 6, 2) := by decide +kernel
theorem dc_M_isAbove_10 : decode bc_M_isAbove 10 = .ok (.aload_n 0, 1) := by decide +kernel
theorem dc_M_isAbove_11 : decode bc_M_isAbove 11 = .ok (.getfield 86, 3) := by decide +kernel
theorem dc_M_isAbove_14 : decode bc_M_isAbove 14 = .ok (.if_icmp .ge 69, 3) := by decide +kernel
theorem dc_M_isAbove_17 : decode bc_M_isAbove 17 = .ok (.aload_n 0, 1) := by decide +kernel
theorem dc_M_isAbove_18 : decode bc_M_isAbove 18 = .ok (.getfield 76, 3) := by decide +kernel
theorem dc_M_isAbove_21 : decode bc_M_isAbove 21 = .ok (.aload_n 0, 1) := by decide +kernel
theorem dc_M_isAbove_22 : decode bc_M_isAbove 22 = .ok (.getfield 36, 3) := by decide +kernel
theorem dc_M_isAbove_25 : decode bc_M_isAbove 25 = .ok (.iload 6, 2) := by decide +kernel
theorem dc_M_isAbove_27 : decode bc_M_isAbove 27 = .ok (.iaload, 1) := by decide +kernel
theorem dc_M_isAbove_28 : decode bc_M_isAbove 28 = .ok (.laload, 1) := by decide +kernel
theorem dc_M_isAbove_29 : decode bc_M_isAbove 29 = .ok (.lstore 7, 2) := by decide +kernel
theorem dc_M_isAbove_31 : decode bc_M_isAbove 31 = .ok (.lload_n 2, 1) := by decide +kernel
theorem dc_M_isAbove_32 : decode bc_M_isAbove 32 = .ok (.aload_n 0, 1) := by decide +kernel
theorem dc_M_isAbove_33 : decode bc_M_isAbove 33 = .ok (.getfield 42, 3) := by decide +kernel
theorem dc_M_isAbove_36 : decode bc_M_isAbove 36 = .ok (.bipush 12, 2) := by decide +kernel
theorem dc_M_isAbove_38 : decode bc_M_isAbove 38 = .ok (.iload_n 1, 1) := by decide +kernel
theorem dc_M_isAbove_39 : decode bc_M_isAbove 39 = .ok (.imul, 1) := by decide +kernel
theorem dc_M_isAbove_40 : decode bc_M_isAbove 40 = .ok (.iload 6, 2) := by decide +kernel
theorem dc_M_isAbove_42 : decode bc_M_isAbove 42 = .ok (.iadd, 1) := by decide +kernel
theorem dc_M_isAbove_43 : decode bc_M_isAbove 43 = .ok (.laload, 1) := by decide +kernel
theorem dc_M_isAbove_44 : decode bc_M_isAbove 44 = .ok (.lload 7, 2) := by decide +kernel
theorem dc_M_isAbove_46 : decode bc_M_isAbove 46 = .ok (.ldc2_w 91, 3) := by decide +kernel
theorem dc_M_isAbove_49 : decode bc_M_isAbove 49 = .ok (.ldiv, 1) := by decide +kernel
theorem dc_M_isAbove_50 : decode bc_M_isAbove 50 = .ok (.lmul, 1) := by decide +kernel
theorem dc_M_isAbove_51 : decode bc_M_isAbove 51 = .ok (.ladd, 1) := by decide +kernel
theorem dc_M_isAbove_52 : decode bc_M_isAbove 52 = .ok (.lstore_n 2, 1) := by decide +kernel
theorem dc_M_isAbove_53 : decode bc_M_isAbove 53 = .ok (.lload 4, 2) := by decide +kernel
theorem dc_M_isAbove_55 : decode bc_M_isAbove 55 = .ok (.aload_n 0, 1) := by decide +kernel
theorem dc_M_isAbove_56 : decode bc_M_isAbove 56 = .ok (.getfield 42, 3) := by decide +kernel
theorem dc_M_isAbove_59 : decode bc_M_isAbove 59 = .ok (.bipush 12, 2) := by decide +kernel
theorem dc_M_isAbove_61 : decode bc_M_isAbove 61 = .ok (.iload_n 1, 1) := by decide +kernel
theorem dc_M_isAbove_62 : decode bc_M_isAbove 62 = .ok (.imul, 1) := by decide +kernel
theorem dc_M_isAbove_63 : decode bc_M_isAbove 63 = .ok (.iload 6, 2) := by decide +kernel
theorem dc_M_isAbove_65 : decode bc_M_isAbove 65 = .ok (.iadd, 1) := by decide +kernel
theorem dc_M_isAbove_66 : decode bc_M_isAbove 66 = .ok (.laload, 1) := by decide +kernel
theorem dc_M_isAbove_67 : decode bc_M_isAbove 67 = .ok (.lload 7, 2) := by decide +kernel
theorem dc_M_isAbove_69 : decode bc_M_isAbove 69 = .ok (.ldc2_w 91, 3) := by decide +kernel
theorem dc_M_isAbove_72 : decode bc_M_isAbove 72 = .ok (.lrem, 1) := by decide +kernel
theorem dc_M_isAbove_73 : decode bc_M_isAbove 73 = .ok (.lmul, 1) := by decide +kernel
theorem dc_M_isAbove_74 : decode bc_M_isAbove 74 = .ok (.ladd, 1) := by decide +kernel
theorem dc_M_isAbove_75 : decode bc_M_isAbove 75 = .ok (.lstore 4, 2) := by decide +kernel
theorem dc_M_isAbove_77 : decode bc_M_isAbove 77 = .ok (.iinc 6 1, 3) := by decide +kernel
theorem dc_M_isAbove_80 : decode bc_M_isAbove 80 = .ok (.goto (-72), 3) := by decide +kernel
theorem dc_M_isAbove_83 : decode bc_M_isAbove 83 = .ok (.lload_n 2, 1) := by decide +kernel
theorem dc_M_isAbove_84 : decode bc_M_isAbove 84 = .ok (.lload 4, 2) := by decide +kernel
theorem dc_M_isAbove_86 : decode bc_M_isAbove 86 = .ok (.ldc2_w 91, 3) := by decide +kernel
theorem dc_M_isAbove_89 : decode bc_M_isAbove 89 = .ok (.ldiv, 1) := by decide +kernel
theorem dc_M_isAbove_90 : decode bc_M_isAbove 90 = .ok (.ladd, 1) := by decide +kernel
theorem dc_M_isAbove_91 : decode bc_M_isAbove 91 = .ok (.lstore_n 2, 1) := by decide +kernel
theorem dc_M_isAbove_92 : decode bc_M_isAbove 92 = .ok (.lload 4, 2) := by decide +kernel
theorem dc_M_isAbove_94 : decode bc_M_isAbove 94 = .ok (.ldc2_w 91, 3) := by decide +kernel
theorem dc_M_isAbove_97 : decode bc_M_isAbove 97 = .ok (.lrem, 1) := by decide +kernel
theorem dc_M_isAbove_98 : decode bc_M_isAbove 98 = .ok (.lstore 4, 2) := by decide +kernel
theorem dc_M_isAbove_100 : decode bc_M_isAbove 100 = .ok (.aload_n 0, 1) := by decide +kernel
theorem dc_M_isAbove_101 : decode bc_M_isAbove 101 = .ok (.getfield 24, 3) := by decide +kernel
theorem dc_M_isAbove_104 : decode bc_M_isAbove 104 = .ok (.iload_n 1, 1) := by decide +kernel
theorem dc_M_isAbove_105 : decode bc_M_isAbove 105 = .ok (.iaload, 1) := by decide +kernel
theorem dc_M_isAbove_106 : decode bc_M_isAbove 106 = .ok (.i2l, 1) := by decide +kernel
theorem dc_M_isAbove_107 : decode bc_M_isAbove 107 = .ok (.aload_n 0, 1) := by decide +kernel
theorem dc_M_isAbove_108 : decode bc_M_isAbove 108 = .ok (.iload_n 1, 1) := by decide +kernel
theorem dc_M_isAbove_109 : decode bc_M_isAbove 109 = .ok (.invokevirtual 105, 3) := by decide +kernel
theorem dc_M_isAbove_112 : decode bc_M_isAbove 112 = .ok (.lmul, 1) := by decide +kernel
theorem dc_M_isAbove_113 : decode bc_M_isAbove 113 = .ok (.lstore 6, 2) := by decide +kernel
theorem dc_M_isAbove_115 : decode bc_M_isAbove 115 = .ok (.lload 6, 2) := by decide +kernel
theorem dc_M_isAbove_117 : decode bc_M_isAbove 117 = .ok (.ldc2_w 152, 3) := by decide +kernel
theorem dc_M_isAbove_120 : decode bc_M_isAbove 120 = .ok (.lmul, 1) := by decide +kernel
theorem dc_M_isAbove_121 : decode bc_M_isAbove 121 = .ok (.lstore 8, 2) := by decide +kernel
theorem dc_M_isAbove_123 : decode bc_M_isAbove 123 = .ok (.lload_n 2, 1) := by decide +kernel
theorem dc_M_isAbove_124 : decode bc_M_isAbove 124 = .ok (.lload 8, 2) := by decide +kernel
theorem dc_M_isAbove_126 : decode bc_M_isAbove 126 = .ok (.lcmp, 1) := by decide +kernel
theorem dc_M_isAbove_127 : decode bc_M_isAbove 127 = .ok (.ifCond .gt 17, 3) := by decide +kernel
theorem dc_M_isAbove_130 : decode bc_M_isAbove 130 = .ok (.lload_n 2, 1) := by decide +kernel
theorem dc_M_isAbove_131 : decode bc_M_isAbove 131 = .ok (.lload 8, 2) := by decide +kernel
theorem dc_M_isAbove_133 : decode bc_M_isAbove 133 = .ok (.lcmp, 1) := by decide +kernel
theorem dc_M_isAbove_134 : decode bc_M_isAbove 134 = .ok (.ifCond .ne 14, 3) := by decide +kernel
theorem dc_M_isAbove_137 : decode bc_M_isAbove 137 = .ok (.lload 4, 2) := by decide +kernel
theorem dc_M_isAbove_139 : decode bc_M_isAbove 139 = .ok (.lconst 0, 1) := by decide +kernel
theorem dc_M_isAbove_140 : decode bc_M_isAbove 140 = .ok (.lcmp, 1) := by decide +kernel
theorem dc_M_isAbove_141 : decode bc_M_isAbove 141 = .ok (.ifCond .le 7, 3) := by decide +kernel
theorem dc_M_isAbove_144 : decode bc_M_isAbove 144 = .ok (.iconst 1, 1) := by decide +kernel
theorem dc_M_isAbove_145 : decode bc_M_isAbove 145 = .ok (.goto 4, 3) := by decide +kernel
theorem dc_M_isAbove_148 : decode bc_M_isAbove 148 = .ok (.iconst 0, 1) := by decide +kernel
theorem dc_M_isAbove_149 : decode bc_M_isAbove 149 = .ok (.ireturn, 1) := by decide +kernel
theorem dc_M_capped_0 : decode bc_M_capped 0 = .ok (.iload_n 1, 1) := by decide +kernel
theorem dc_M_capped_1 : decode bc_M_capped 1 = .ok (.invokestatic 93, 3) := by decide +kernel
theorem dc_M_capped_4 : decode bc_M_capped 4 = .ok (.ifCond .ne 5, 3) := by decide +kernel
theorem dc_M_capped_7 : decode bc_M_capped 7 = .ok (.iconst 0, 1) := by decide +kernel
theorem dc_M_capped_8 : decode bc_M_capped 8 = .ok (.ireturn, 1) := by decide +kernel
theorem dc_M_capped_9 : decode bc_M_capped 9 = .ok (.aload_n 0, 1) := by decide +kernel
theorem dc_M_capped_10 : decode bc_M_capped 10 = .ok (.iload_n 1, 1) := by decide +kernel
theorem dc_M_capped_11 : decode bc_M_capped 11 = .ok (.invokevirtual 148, 3) := by decide +kernel
theorem dc_M_capped_14 : decode bc_M_capped 14 = .ok (.iconst 0, 1) := by decide +kernel
theorem dc_M_capped_15 : decode bc_M_capped 15 = .ok (.istore_n 2, 1) := by decide +kernel
theorem dc_M_capped_16 : decode bc_M_capped 16 = .ok (.iconst 0, 1) := by decide +kernel
theorem dc_M_capped_17 : decode bc_M_capped 17 = .ok (.istore_n 3, 1) := by decide +kernel
theorem dc_M_capped_18 : decode bc_M_capped 18 = .ok (.iload_n 3, 1) := by decide +kernel
theorem dc_M_capped_19 : decode bc_M_capped 19 = .ok (.aload_n 0, 1) := by decide +kernel
theorem dc_M_capped_20 : decode bc_M_capped 20 = .ok (.getfield 79, 3) := by decide +kernel
theorem dc_M_capped_23 : decode bc_M_capped 23 = .ok (.if_icmp .ge 27, 3) := by decide +kernel
theorem dc_M_capped_26 : decode bc_M_capped 26 = .ok (.iload_n 2, 1) := by decide +kernel
theorem dc_M_capped_27 : decode bc_M_capped 27 = .ok (.ifCond .ne 11, 3) := by decide +kernel
theorem dc_M_capped_30 : decode bc_M_capped 30 = .ok (.aload_n 0, 1) := by decide +kernel
theorem dc_M_capped_31 : decode bc_M_capped 31 = .ok (.iload_n 3, 1) := by decide +kernel
theorem dc_M_capped_32 : decode bc_M_capped 32 = .ok (.invokevirtual 154, 3) := by decide +kernel
theorem dc_M_capped_35 : decode bc_M_capped 35 = .ok (.ifCond .eq 7, 3) := by decide +kernel
theorem dc_M_capped_38 : decode bc_M_capped 38 = .ok (.iconst 1, 1) := by decide +kernel
theorem dc_M_capped_39 : decode bc_M_capped 39 = .ok (.goto 4, 3) := by decide +kernel
theorem dc_M_capped_42 : decode bc_M_capped 42 = .ok (.iconst 0, 1) := by decide +kernel
theorem dc_M_capped_43 : decode bc_M_capped 43 = .ok (.istore_n 2, 1) := by decide +kernel
theorem dc_M_capped_44 : decode bc_M_capped 44 = .ok (.iinc 3 1, 3) := by decide +kernel
theorem dc_M_capped_47 : decode bc_M_capped 47 = .ok (.goto (-29), 3) := by decide +kernel
theorem dc_M_capped_50 : decode bc_M_capped 50 = .ok (.iload_n 2, 1) := by decide +kernel
theorem dc_M_capped_51 : decode bc_M_capped 51 = .ok (.ireturn, 1) := by decide +kernel
theorem dc_M_isLess_0 : decode bc_M_isLess 0 = .ok (.lload_n 0, 1) := by decide +kernel
theorem dc_M_isLess_1 : decode bc_M_isLess 1 = .ok (.lstore 8, 2) := by decide +kernel
theorem dc_M_isLess_3 : decode bc_M_isLess 3 = .ok (.lload_n 2, 1) := by decide +kernel
theorem dc_M_isLess_4 : decode bc_M_isLess 4 = .ok (.lstore 10, 2) := by decide +kernel
theorem dc_M_isLess_6 : decode bc_M_isLess 6 = .ok (.lload 4, 2) := by decide +kernel
theorem dc_M_isLess_8 : decode bc_M_isLess 8 = .ok (.lstore 12, 2) := by decide +kernel
theorem dc_M_isLess_10 : decode bc_M_isLess 10 = .ok (.lload 6, 2) := by decide +kernel
theorem dc_M_isLess_12 : decode bc_M_isLess 12 = .ok (.lstore 14, 2) := by decide +kernel
theorem dc_M_isLess_14 : decode bc_M_isLess 14 = .ok (.iconst 0, 1) := by decide +kernel
theorem dc_M_isLess_15 : decode bc_M_isLess 15 = .ok (.istore 16, 2) := by decide +kernel
theorem dc_M_isLess_17 : decode bc_M_isLess 17 = .ok (.lload 8, 2) := by decide +kernel
theorem dc_M_isLess_19 : decode bc_M_isLess 19 = .ok (.lload 10, 2) := by decide +kernel
theorem dc_M_isLess_21 : decode bc_M_isLess 21 = .ok (.invokestatic 157, 3) := by decide +kernel
theorem dc_M_isLess_24 : decode bc_M_isLess 24 = .ok (.lstore 17, 2) := by decide +kernel
theorem dc_M_isLess_26 : decode bc_M_isLess 26 = .ok (.lload 12, 2) := by decide +kernel
theorem dc_M_isLess_28 : decode bc_M_isLess 28 = .ok (.lload 14, 2) := by decide +kernel
theorem dc_M_isLess_30 : decode bc_M_isLess 30 = .ok (.invokestatic 157, 3) := by decide +kernel
theorem dc_M_isLess_33 : decode bc_M_isLess 33 = .ok (.lstore 19, 2) := by decide +kernel
theorem dc_M_isLess_35 : decode bc_M_isLess 35 = .ok (.lload 17, 2) := by decide +kernel
theorem dc_M_isLess_37 : decode bc_M_isLess 37 = .ok (.lload 19, 2) := by decide +kernel
theorem dc_M_isLess_39 : decode bc_M_isLess 39 = .ok (.lcmp, 1) := by decide +kernel
theorem dc_M_isLess_40 : decode bc_M_isLess 40 = .ok (.ifCond .eq 27, 3) := by decide +kernel
theorem dc_M_isLess_43 : decode bc_M_isLess 43 = .ok (.lload 17, 2) := by decide +kernel
theorem dc_M_isLess_45 : decode bc_M_isLess 45 = .ok (.lload 19, 2) := by decide +kernel
theorem dc_M_isLess_47 : decode bc_M_isLess 47 = .ok (.lcmp, 1) := by decide +kernel
theorem dc_M_isLess_48 : decode bc_M_isLess 48 = .ok (.ifCond .ge 7, 3) := by decide +kernel
theorem dc_M_isLess_51 : decode bc_M_isLess 51 = .ok (.iconst 1, 1) := by decide +kernel
theorem dc_M_isLess_52 : decode bc_M_isLess 52 = .ok (.goto 4, 3) := by decide +kernel
theorem dc_M_isLess_55 : decode bc_M_isLess 55 = .ok (.iconst 0, 1) := by decide +kernel
theorem dc_M_isLess_56 : decode bc_M_isLess 56 = .ok (.iload 16, 2) := by decide +kernel
theorem dc_M_isLess_58 : decode bc_M_isLess 58 = .ok (.if_icmp .eq 7, 3) := by decide +kernel
theorem dc_M_isLess_61 : decode bc_M_isLess 61 = .ok (.iconst 1, 1) := by decide +kernel
theorem dc_M_isLess_62 : decode bc_M_isLess 62 = .ok (.goto 4, 3) := by decide +kernel
theorem dc_M_isLess_65 : decode bc_M_isLess 65 = .ok (.iconst 0, 1) := by decide +kernel
theorem dc_M_isLess_66 : decode bc_M_isLess 66 = .ok (.ireturn, 1) := by decide +kernel
theorem dc_M_isLess_67 : decode bc_M_isLess 67 = .ok (.lload 8, 2) := by decide +kernel
theorem dc_M_isLess_69 : decode bc_M_isLess 69 = .ok (.lload 17, 2) := by decide +kernel
theorem dc_M_isLess_71 : decode bc_M_isLess 71 = .ok (.lload 10, 2) := by decide +kernel
theorem dc_M_isLess_73 : decode bc_M_isLess 73 = .ok (.lmul, 1) := by decide +kernel
theorem dc_M_isLess_74 : decode bc_M_isLess 74 = .ok (.lsub, 1) := by decide +kernel
theorem dc_M_isLess_75 : decode bc_M_isLess 75 = .ok (.lstore 21, 2) := by decide +kernel
theorem dc_M_isLess_77 : decode bc_M_isLess 77 = .ok (.lload 12, 2) := by decide +kernel
theorem dc_M_isLess_79 : decode bc_M_isLess 79 = .ok (.lload 19, 2) := by decide +kernel
theorem dc_M_isLess_81 : decode bc_M_isLess 81 = .ok (.lload 14, 2) := by decide +kernel
theorem dc_M_isLess_83 : decode bc_M_isLess 83 = .ok (.lmul, 1) := by decide +kernel
theorem dc_M_isLess_84 : decode bc_M_isLess 84 = .ok (.lsub, 1) := by decide +kernel
theorem dc_M_isLess_85 : decode bc_M_isLess 85 = .ok (.lstore 23, 2) := by decide +kernel
theorem dc_M_isLess_87 : decode bc_M_isLess 87 = .ok (.lload 21, 2) := by decide +kernel
theorem dc_M_isLess_89 : decode bc_M_isLess 89 = .ok (.lconst 0, 1) := by decide +kernel
theorem dc_M_isLess_90 : decode bc_M_isLess 90 = .ok (.lcmp, 1) := by decide +kernel
theorem dc_M_isLess_91 : decode bc_M_isLess 91 = .ok (.ifCond .eq 10, 3) := by decide +kernel
theorem dc_M_isLess_94 : decode bc_M_isLess 94 = .ok (.lload 23, 2) := by decide +kernel
theorem dc_M_isLess_96 : decode bc_M_isLess 96 = .ok (.lconst 0, 1) := by decide +kernel
theorem dc_M_isLess_97 : decode bc_M_isLess 97 = .ok (.lcmp, 1) := by decide +kernel
theorem dc_M_isLess_98 : decode bc_M_isLess 98 = .ok (.ifCond .ne 41, 3) := by decide +kernel
theorem dc_M_isLess_101 : decode bc_M_isLess 101 = .ok (.lload 21, 2) := by decide +kernel
theorem dc_M_isLess_103 : decode bc_M_isLess 103 = .ok (.lconst 0, 1) := by decide +kernel
theorem dc_M_isLess_104 : decode bc_M_isLess 104 = .ok (.lcmp, 1) := by decide +kernel
theorem dc_M_isLess_105 : decode bc_M_isLess 105 = .ok (.ifCond .ne 14, 3) := by decide +kernel
theorem dc_M_isLess_108 : decode bc_M_isLess 108 = .ok (.lload 23, 2) := by decide +kernel
theorem dc_M_isLess_110 : decode bc_M_isLess 110 = .ok (.lconst 0, 1) := by decide +kernel
theorem dc_M_isLess_111 : decode bc_M_isLess 111 = .ok (.lcmp, 1) := by decide +kernel
theorem dc_M_isLess_112 : decode bc_M_isLess 112 = .ok (.ifCond .le 7, 3) := by decide +kernel
theorem dc_M_isLess_115 : decode bc_M_isLess 115 = .ok (.iconst 1, 1) := by decide +kernel
theorem dc_M_isLess_116 : decode bc_M_isLess 116 = .ok (.goto 4, 3) := by decide +kernel
theorem dc_M_isLess_119 : decode bc_M_isLess 119 = .ok (.iconst 0, 1) := by decide +kernel
theorem dc_M_isLess_120 : decode bc_M_isLess 120 = .ok (.iload 16, 2) := by decide +kernel
theorem dc_M_isLess_122 : decode bc_M_isLess 122 = .ok (.if_icmp .eq 15, 3) := by decide +kernel
theorem dc_M_isLess_125 : decode bc_M_isLess 125 = .ok (.lload 21, 2) := by decide +kernel
theorem dc_M_isLess_127 : decode bc_M_isLess 127 = .ok (.lload 23, 2) := by decide +kernel
theorem dc_M_isLess_129 : decode bc_M_isLess 129 = .ok (.lcmp, 1) := by decide +kernel
theorem dc_M_isLess_130 : decode bc_M_isLess 130 = .ok (.ifCond .eq 7, 3) := by decide +kernel
theorem dc_M_isLess_133 : decode bc_M_isLess 133 = .ok (.iconst 1, 1) := by decide +kernel
theorem dc_M_isLess_134 : decode bc_M_isLess 134 = .ok (.goto 4, 3) := by decide +kernel
theorem dc_M_isLess_137 : decode bc_M_isLess 137 = .ok (.iconst 0, 1) := by decide +kernel
theorem dc_M_isLess_138 : decode bc_M_isLess 138 = .ok (.ireturn, 1) := by decide +kernel
theorem dc_M_isLess_139 : decode bc_M_isLess 139 = .ok (.lload 10, 2) := by decide +kernel
theorem dc_M_isLess_141 : decode bc_M_isLess 141 = .ok (.lstore 8, 2) := by decide +kernel
theorem dc_M_isLess_143 : decode bc_M_isLess 143 = .ok (.lload 21, 2) := by decide +kernel
theorem dc_M_isLess_145 : decode bc_M_isLess 145 = .ok (.lstore 10, 2) := by decide +kernel
theorem dc_M_isLess_147 : decode bc_M_isLess 147 = .ok (.lload 14, 2) := by decide +kernel
theorem dc_M_isLess_149 : decode bc_M_isLess 149 = .ok (.lstore 12, 2) := by decide +kernel
theorem dc_M_isLess_151 : decode bc_M_isLess 151 = .ok (.lload 23, 2) := by decide +kernel
theorem dc_M_isLess_153 : decode bc_M_isLess 153 = .ok (.lstore 14, 2) := by decide +kernel
theorem dc_M_isLess_155 : decode bc_M_isLess 155 = .ok (.iload 16, 2) := by decide +kernel
theorem dc_M_isLess_157 : decode bc_M_isLess 157 = .ok (.ifCond .ne 7, 3) := by decide +kernel
theorem dc_M_isLess_160 : decode bc_M_isLess 160 = .ok (.iconst 1, 1) := by decide +kernel
theorem dc_M_isLess_161 : decode bc_M_isLess 161 = .ok (.goto 4, 3) := by decide +kernel
theorem dc_M_isLess_164 : decode bc_M_isLess 164 = .ok (.iconst 0, 1) := by decide +kernel
theorem dc_M_isLess_165 : decode bc_M_isLess 165 = .ok (.istore 16, 2) := by decide +kernel
theorem dc_M_isLess_167 : decode bc_M_isLess 167 = .ok (.goto (-150), 3) := by decide +kernel
theorem dc_M_down_0 : decode bc_M_down 0 = .ok (.lload_n 0, 1) := by decide +kernel
theorem dc_M_down_1 : decode bc_M_down 1 = .ok (.lload_n 2, 1) := by decide +kernel
theorem dc_M_down_2 : decode bc_M_down 2 = .ok (.ldiv, 1) := by decide +kernel
theorem dc_M_down_3 : decode bc_M_down 3 = .ok (.lstore 4, 2) := by decide +kernel
theorem dc_M_down_5 : decode bc_M_down 5 = .ok (.lload 4, 2) := by decide +kernel
theorem dc_M_down_7 : decode bc_M_down 7 = .ok (.lload_n 2, 1) := by decide +kernel
theorem dc_M_down_8 : decode bc_M_down 8 = .ok (.lmul, 1) := by decide +kernel
theorem dc_M_down_9 : decode bc_M_down 9 = .ok (.lload_n 0, 1) := by decide +kernel
theorem dc_M_down_10 : decode bc_M_down 10 = .ok (.lcmp, 1) := by decide +kernel
theorem dc_M_down_11 : decode bc_M_down 11 = .ok (.ifCond .le 10, 3) := by decide +kernel
theorem dc_M_down_14 : decode bc_M_down 14 = .ok (.lload 4, 2) := by decide +kernel
theorem dc_M_down_16 : decode bc_M_down 16 = .ok (.lconst 1, 1) := by decide +kernel
theorem dc_M_down_17 : decode bc_M_down 17 = .ok (.lsub, 1) := by decide +kernel
theorem dc_M_down_18 : decode bc_M_down 18 = .ok (.goto 5, 3) := by decide +kernel
theorem dc_M_down_21 : decode bc_M_down 21 = .ok (.lload 4, 2) := by decide +kernel
theorem dc_M_down_23 : decode bc_M_down 23 = .ok (.lreturn, 1) := by decide +kernel
theorem dc_M_choke_0 : decode bc_M_choke 0 = .ok (.aload_n 0, 1) := by decide +kernel
theorem dc_M_choke_1 : decode bc_M_choke 1 = .ok (.iload_n 1, 1) := by decide +kernel
theorem dc_M_choke_2 : decode bc_M_choke 2 = .ok (.invokevirtual 100, 3) := by decide +kernel
theorem dc_M_choke_5 : decode bc_M_choke 5 = .ok (.ifCond .ne 5, 3) := by decide +kernel
theorem dc_M_choke_8 : decode bc_M_choke 8 = .ok (.iconst (-1), 1) := by decide +kernel
theorem dc_M_choke_9 : decode bc_M_choke 9 = .ok (.ireturn, 1) := by decide +kernel
theorem dc_M_choke_10 : decode bc_M_choke 10 = .ok (.iconst (-1), 1) := by decide +kernel
theorem dc_M_choke_11 : decode bc_M_choke 11 = .ok (.istore_n 2, 1) := by decide +kernel
theorem dc_M_choke_12 : decode bc_M_choke 12 = .ok (.iconst 0, 1) := by decide +kernel
theorem dc_M_choke_13 : decode bc_M_choke 13 = .ok (.istore_n 3, 1) := by decide +kernel
theorem dc_M_choke_14 : decode bc_M_choke 14 = .ok (.iload_n 3, 1) := by decide +kernel
theorem dc_M_choke_15 : decode bc_M_choke 15 = .ok (.aload_n 0, 1) := by decide +kernel
theorem dc_M_choke_16 : decode bc_M_choke 16 = .ok (.getfield 79, 3) := by decide +kernel
theorem dc_M_choke_19 : decode bc_M_choke 19 = .ok (.if_icmp .ge 76, 3) := by decide +kernel
theorem dc_M_choke_22 : decode bc_M_choke 22 = .ok (.aload_n 0, 1) := by decide +kernel
theorem dc_M_choke_23 : decode bc_M_choke 23 = .ok (.getfield 45, 3) := by decide +kernel
theorem dc_M_choke_26 : decode bc_M_choke 26 = .ok (.bipush 12, 2) := by decide +kernel
theorem dc_M_choke_28 : decode bc_M_choke 28 = .ok (.iload_n 3, 1) := by decide +kernel
theorem dc_M_choke_29 : decode bc_M_choke 29 = .ok (.imul, 1) := by decide +kernel
theorem dc_M_choke_30 : decode bc_M_choke 30 = .ok (.iload_n 1, 1) := by decide +kernel
theorem dc_M_choke_31 : decode bc_M_choke 31 = .ok (.iadd, 1) := by decide +kernel
theorem dc_M_choke_32 : decode bc_M_choke 32 = .ok (.laload, 1) := by decide +kernel
theorem dc_M_choke_33 : decode bc_M_choke 33 = .ok (.lstore 4, 2) := by decide +kernel
theorem dc_M_choke_35 : decode bc_M_choke 35 = .ok (.aload_n 0, 1) := by decide +kernel
theorem dc_M_choke_36 : decode bc_M_choke 36 = .ok (.getfield 20, 3) := by decide +kernel
theorem dc_M_choke_39 : decode bc_M_choke 39 = .ok (.iload_n 3, 1) := by decide +kernel
theorem dc_M_choke_40 : decode bc_M_choke 40 = .ok (.baload, 1) := by decide +kernel
theorem dc_M_choke_41 : decode bc_M_choke 41 = .ok (.ifCond .eq 48, 3) := by decide +kernel
theorem dc_M_choke_44 : decode bc_M_choke 44 = .ok (.lload 4, 2) := by decide +kernel
theorem dc_M_choke_46 : decode bc_M_choke 46 = .ok (.lconst 0, 1) := by decide +kernel
theorem dc_M_choke_47 : decode bc_M_choke 47 = .ok (.lcmp, 1) := by decide +kernel
theorem dc_M_choke_48 : decode bc_M_choke 48 = .ok (.ifCond .le 41, 3) := by decide +kernel
theorem dc_M_choke_51 : decode bc_M_choke 51 = .ok (.iload_n 2, 1) := by decide +kernel
theorem dc_M_choke_52 : decode bc_M_choke 52 = .ok (.iconst (-1), 1) := by decide +kernel
theorem dc_M_choke_53 : decode bc_M_choke 53 = .ok (.if_icmp .eq 34, 3) := by decide +kernel
theorem dc_M_choke_56 : decode bc_M_choke 56 = .ok (.aload_n 0, 1) := by decide +kernel
theorem dc_M_choke_57 : decode bc_M_choke 57 = .ok (.iload_n 3, 1) := by decide +kernel
theorem dc_M_choke_58 : decode bc_M_choke 58 = .ok (.iload_n 1, 1) := by decide +kernel
theorem dc_M_choke_59 : decode bc_M_choke 59 = .ok (.invokevirtual 125, 3) := by decide +kernel
theorem dc_M_choke_62 : decode bc_M_choke 62 = .ok (.lload 4, 2) := by decide +kernel
theorem dc_M_choke_64 : decode bc_M_choke 64 = .ok (.aload_n 0, 1) := by decide +kernel
theorem dc_M_choke_65 : decode bc_M_choke 65 = .ok (.iload_n 2, 1) := by decide +kernel
theorem dc_M_choke_66 : decode bc_M_choke 66 = .ok (.iload_n 1, 1) := by decide +kernel
theorem dc_M_choke_67 : decode bc_M_choke 67 = .ok (.invokevirtual 125, 3) := by decide +kernel
theorem dc_M_choke_70 : decode bc_M_choke 70 = .ok (.aload_n 0, 1) := by decide +kernel
theorem dc_M_choke_71 : decode bc_M_choke 71 = .ok (.getfield 45, 3) := by decide +kernel
theorem dc_M_choke_74 : decode bc_M_choke 74 = .ok (.bipush 12, 2) := by decide +kernel
theorem dc_M_choke_76 : decode bc_M_choke 76 = .ok (.iload_n 2, 1) := by decide +kernel
theorem dc_M_choke_77 : decode bc_M_choke 77 = .ok (.imul, 1) := by decide +kernel
theorem dc_M_choke_78 : decode bc_M_choke 78 = .ok (.iload_n 1, 1) := by decide +kernel
theorem dc_M_choke_79 : decode bc_M_choke 79 = .ok (.iadd, 1) := by decide +kernel
theorem dc_M_choke_80 : decode bc_M_choke 80 = .ok (.laload, 1) := by decide +kernel
theorem dc_M_choke_81 : decode bc_M_choke 81 = .ok (.invokestatic 161, 3) := by decide +kernel
theorem dc_M_choke_84 : decode bc_M_choke 84 = .ok (.ifCond .eq 5, 3) := by decide +kernel
theorem dc_M_choke_87 : decode bc_M_choke 87 = .ok (.iload_n 3, 1) := by decide +kernel
theorem dc_M_choke_88 : decode bc_M_choke 88 = .ok (.istore_n 2, 1) := by decide +kernel
theorem dc_M_choke_89 : decode bc_M_choke 89 = .ok (.iinc 3 1, 3) := by decide +kernel
theorem dc_M_choke_92 : decode bc_M_choke 92 = .ok (.goto (-78), 3) := by decide +kernel
theorem dc_M_choke_95 : decode bc_M_choke 95 = .ok (.iload_n 2, 1) := by decide +kernel
theorem dc_M_choke_96 : decode bc_M_choke 96 = .ok (.ireturn, 1) := by decide +kernel
theorem dc_M_closes_0 : decode bc_M_closes 0 = .ok (.aload_n 0, 1) := by decide +kernel
theorem dc_M_closes_1 : decode bc_M_closes 1 = .ok (.iload_n 1, 1) := by decide +kernel
theorem dc_M_closes_2 : decode bc_M_closes 2 = .ok (.invokevirtual 97, 3) := by decide +kernel
theorem dc_M_closes_5 : decode bc_M_closes 5 = .ok (.ifCond .eq 23, 3) := by decide +kernel
theorem dc_M_closes_8 : decode bc_M_closes 8 = .ok (.aload_n 0, 1) := by decide +kernel
theorem dc_M_closes_9 : decode bc_M_closes 9 = .ok (.getfield 20, 3) := by decide +kernel
theorem dc_M_closes_12 : decode bc_M_closes 12 = .ok (.iload_n 1, 1) := by decide +kernel
theorem dc_M_closes_13 : decode bc_M_closes 13 = .ok (.baload, 1) := by decide +kernel
theorem dc_M_closes_14 : decode bc_M_closes 14 = .ok (.ifCond .eq 14, 3) := by decide +kernel
theorem dc_M_closes_17 : decode bc_M_closes 17 = .ok (.lload_n 2, 1) := by decide +kernel
theorem dc_M_closes_18 : decode bc_M_closes 18 = .ok (.lconst 1, 1) := by decide +kernel
theorem dc_M_closes_19 : decode bc_M_closes 19 = .ok (.ldc2_w 91, 3) := by decide +kernel
theorem dc_M_closes_22 : decode bc_M_closes 22 = .ok (.invokestatic 82, 3) := by decide +kernel
theorem dc_M_closes_25 : decode bc_M_closes 25 = .ok (.ifCond .ne 7, 3) := by decide +kernel
theorem dc_M_closes_28 : decode bc_M_closes 28 = .ok (.ldc2_w 109, 3) := by decide +kernel
theorem dc_M_closes_31 : decode bc_M_closes 31 = .ok (.lreturn, 1) := by decide +kernel
theorem dc_M_closes_32 : decode bc_M_closes 32 = .ok (.lconst 0, 1) := by decide +kernel
theorem dc_M_closes_33 : decode bc_M_closes 33 = .ok (.lstore 4, 2) := by decide +kernel
theorem dc_M_closes_35 : decode bc_M_closes 35 = .ok (.iconst 0, 1) := by decide +kernel
theorem dc_M_closes_36 : decode bc_M_closes 36 = .ok (.istore 6, 2) := by decide +kernel
theorem dc_M_closes_38 : decode bc_M_closes 38 = .ok (.iload 6, 2) := by decide +kernel
theorem dc_M_closes_40 : decode bc_M_closes 40 = .ok (.aload_n 0, 1) := by decide +kernel
theorem dc_M_closes_41 : decode bc_M_closes 41 = .ok (.getfield 86, 3) := by decide +kernel
theorem dc_M_closes_44 : decode bc_M_closes 44 = .ok (.if_icmp .ge 37, 3) := by decide +kernel
theorem dc_M_closes_47 : decode bc_M_closes 47 = .ok (.aload_n 0, 1) := by decide +kernel
theorem dc_M_closes_48 : decode bc_M_closes 48 = .ok (.iload_n 1, 1) := by decide +kernel
theorem dc_M_closes_49 : decode bc_M_closes 49 = .ok (.iload 6, 2) := by decide +kernel
theorem dc_M_closes_51 : decode bc_M_closes 51 = .ok (.invokevirtual 125, 3) := by decide +kernel
theorem dc_M_closes_54 : decode bc_M_closes 54 = .ok (.lstore 7, 2) := by decide +kernel
theorem dc_M_closes_56 : decode bc_M_closes 56 = .ok (.lload 7, 2) := by decide +kernel
theorem dc_M_closes_58 : decode bc_M_closes 58 = .ok (.lconst 0, 1) := by decide +kernel
theorem dc_M_closes_59 : decode bc_M_closes 59 = .ok (.lcmp, 1) := by decide +kernel
theorem dc_M_closes_60 : decode bc_M_closes 60 = .ok (.ifCond .le 11, 3) := by decide +kernel
theorem dc_M_closes_63 : decode bc_M_closes 63 = .ok (.lload 4, 2) := by decide +kernel
theorem dc_M_closes_65 : decode bc_M_closes 65 = .ok (.lload 7, 2) := by decide +kernel
theorem dc_M_closes_67 : decode bc_M_closes 67 = .ok (.ladd, 1) := by decide +kernel
theorem dc_M_closes_68 : decode bc_M_closes 68 = .ok (.goto 5, 3) := by decide +kernel
theorem dc_M_closes_71 : decode bc_M_closes 71 = .ok (.lload 4, 2) := by decide +kernel
theorem dc_M_closes_73 : decode bc_M_closes 73 = .ok (.lstore 4, 2) := by decide +kernel
theorem dc_M_closes_75 : decode bc_M_closes 75 = .ok (.iinc 6 1, 3) := by decide +kernel
theorem dc_M_closes_78 : decode bc_M_closes 78 = .ok (.goto (-40), 3) := by decide +kernel
theorem dc_M_closes_81 : decode bc_M_closes 81 = .ok (.lload 4, 2) := by decide +kernel
theorem dc_M_closes_83 : decode bc_M_closes 83 = .ok (.lload_n 2, 1) := by decide +kernel
theorem dc_M_closes_84 : decode bc_M_closes 84 = .ok (.ladd, 1) := by decide +kernel
theorem dc_M_closes_85 : decode bc_M_closes 85 = .ok (.lconst 1, 1) := by decide +kernel
theorem dc_M_closes_86 : decode bc_M_closes 86 = .ok (.lsub, 1) := by decide +kernel
theorem dc_M_closes_87 : decode bc_M_closes 87 = .ok (.lload_n 2, 1) := by decide +kernel
theorem dc_M_closes_88 : decode bc_M_closes 88 = .ok (.ldiv, 1) := by decide +kernel
theorem dc_M_closes_89 : decode bc_M_closes 89 = .ok (.lreturn, 1) := by decide +kernel
theorem dc_M_seen_0 : decode bc_M_seen 0 = .ok (.aload_n 0, 1) := by decide +kernel
theorem dc_M_seen_1 : decode bc_M_seen 1 = .ok (.iload_n 1, 1) := by decide +kernel
theorem dc_M_seen_2 : decode bc_M_seen 2 = .ok (.invokevirtual 97, 3) := by decide +kernel
theorem dc_M_seen_5 : decode bc_M_seen 5 = .ok (.ifCond .eq 26, 3) := by decide +kernel
theorem dc_M_seen_8 : decode bc_M_seen 8 = .ok (.lload_n 2, 1) := by decide +kernel
theorem dc_M_seen_9 : decode bc_M_seen 9 = .ok (.lconst 0, 1) := by decide +kernel
theorem dc_M_seen_10 : decode bc_M_seen 10 = .ok (.ldc2_w 103, 3) := by decide +kernel
theorem dc_M_seen_13 : decode bc_M_seen 13 = .ok (.invokestatic 82, 3) := by decide +kernel
theorem dc_M_seen_16 : decode bc_M_seen 16 = .ok (.ifCond .eq 15, 3) := by decide +kernel
theorem dc_M_seen_19 : decode bc_M_seen 19 = .ok (.lload 4, 2) := by decide +kernel
theorem dc_M_seen_21 : decode bc_M_seen 21 = .ok (.lconst 0, 1) := by decide +kernel
theorem dc_M_seen_22 : decode bc_M_seen 22 = .ok (.ldc2_w 103, 3) := by decide +kernel
theorem dc_M_seen_25 : decode bc_M_seen 25 = .ok (.invokestatic 82, 3) := by decide +kernel
theorem dc_M_seen_28 : decode bc_M_seen 28 = .ok (.ifCond .ne 5, 3) := by decide +kernel
theorem dc_M_seen_31 : decode bc_M_seen 31 = .ok (.iconst 0, 1) := by decide +kernel
theorem dc_M_seen_32 : decode bc_M_seen 32 = .ok (.ireturn, 1) := by decide +kernel
theorem dc_M_seen_33 : decode bc_M_seen 33 = .ok (.aload_n 0, 1) := by decide +kernel
theorem dc_M_seen_34 : decode bc_M_seen 34 = .ok (.getfield 30, 3) := by decide +kernel
theorem dc_M_seen_37 : decode bc_M_seen 37 = .ok (.iload_n 1, 1) := by decide +kernel
theorem dc_M_seen_38 : decode bc_M_seen 38 = .ok (.laload, 1) := by decide +kernel
theorem dc_M_seen_39 : decode bc_M_seen 39 = .ok (.lload_n 2, 1) := by decide +kernel
theorem dc_M_seen_40 : decode bc_M_seen 40 = .ok (.ladd, 1) := by decide +kernel
theorem dc_M_seen_41 : decode bc_M_seen 41 = .ok (.ldc2_w 103, 3) := by decide +kernel
theorem dc_M_seen_44 : decode bc_M_seen 44 = .ok (.lcmp, 1) := by decide +kernel
theorem dc_M_seen_45 : decode bc_M_seen 45 = .ok (.ifCond .gt 19, 3) := by decide +kernel
theorem dc_M_seen_48 : decode bc_M_seen 48 = .ok (.aload_n 0, 1) := by decide +kernel
theorem dc_M_seen_49 : decode bc_M_seen 49 = .ok (.getfield 33, 3) := by decide +kernel
theorem dc_M_seen_52 : decode bc_M_seen 52 = .ok (.iload_n 1, 1) := by decide +kernel
theorem dc_M_seen_53 : decode bc_M_seen 53 = .ok (.laload, 1) := by decide +kernel
theorem dc_M_seen_54 : decode bc_M_seen 54 = .ok (.lload 4, 2) := by decide +kernel
theorem dc_M_seen_56 : decode bc_M_seen 56 = .ok (.ladd, 1) := by decide +kernel
theorem dc_M_seen_57 : decode bc_M_seen 57 = .ok (.ldc2_w 103, 3) := by decide +kernel
theorem dc_M_seen_60 : decode bc_M_seen 60 = .ok (.lcmp, 1) := by decide +kernel
theorem dc_M_seen_61 : decode bc_M_seen 61 = .ok (.ifCond .le 5, 3) := by decide +kernel
theorem dc_M_seen_64 : decode bc_M_seen 64 = .ok (.iconst 0, 1) := by decide +kernel
theorem dc_M_seen_65 : decode bc_M_seen 65 = .ok (.ireturn, 1) := by decide +kernel
theorem dc_M_seen_66 : decode bc_M_seen 66 = .ok (.aload_n 0, 1) := by decide +kernel
theorem dc_M_seen_67 : decode bc_M_seen 67 = .ok (.getfield 30, 3) := by decide +kernel
theorem dc_M_seen_70 : decode bc_M_seen 70 = .ok (.iload_n 1, 1) := by decide +kernel
theorem dc_M_seen_71 : decode bc_M_seen 71 = .ok (.aload_n 0, 1) := by decide +kernel
theorem dc_M_seen_72 : decode bc_M_seen 72 = .ok (.getfield 30, 3) := by decide +kernel
theorem dc_M_seen_75 : decode bc_M_seen 75 = .ok (.iload_n 1, 1) := by decide +kernel
theorem dc_M_seen_76 : decode bc_M_seen 76 = .ok (.laload, 1) := by decide +kernel
theorem dc_M_seen_77 : decode bc_M_seen 77 = .ok (.lload_n 2, 1) := by decide +kernel
theorem dc_M_seen_78 : decode bc_M_seen 78 = .ok (.ladd, 1) := by decide +kernel
theorem dc_M_seen_79 : decode bc_M_seen 79 = .ok (.lastore, 1) := by decide +kernel
theorem dc_M_seen_80 : decode bc_M_seen 80 = .ok (.aload_n 0, 1) := by decide +kernel
theorem dc_M_seen_81 : decode bc_M_seen 81 = .ok (.getfield 33, 3) := by decide +kernel
theorem dc_M_seen_84 : decode bc_M_seen 84 = .ok (.iload_n 1, 1) := by decide +kernel
theorem dc_M_seen_85 : decode bc_M_seen 85 = .ok (.aload_n 0, 1) := by decide +kernel
theorem dc_M_seen_86 : decode bc_M_seen 86 = .ok (.getfield 33, 3) := by decide +kernel
theorem dc_M_seen_89 : decode bc_M_seen 89 = .ok (.iload_n 1, 1) := by decide +kernel
theorem dc_M_seen_90 : decode bc_M_seen 90 = .ok (.laload, 1) := by decide +kernel
theorem dc_M_seen_91 : decode bc_M_seen 91 = .ok (.lload 4, 2) := by decide +kernel
theorem dc_M_seen_93 : decode bc_M_seen 93 = .ok (.ladd, 1) := by decide +kernel
theorem dc_M_seen_94 : decode bc_M_seen 94 = .ok (.lastore, 1) := by decide +kernel
theorem dc_M_seen_95 : decode bc_M_seen 95 = .ok (.iconst 1, 1) := by decide +kernel
theorem dc_M_seen_96 : decode bc_M_seen 96 = .ok (.ireturn, 1) := by decide +kernel
theorem dc_M_allLandings_0 : decode bc_M_allLandings 0 = .ok (.lconst 0, 1) := by decide +kernel
theorem dc_M_allLandings_1 : decode bc_M_allLandings 1 = .ok (.lstore_n 2, 1) := by decide +kernel
theorem dc_M_allLandings_2 : decode bc_M_allLandings 2 = .ok (.iconst 0, 1) := by decide +kernel
theorem dc_M_allLandings_3 : decode bc_M_allLandings 3 = .ok (.istore 4, 2) := by decide +kernel
theorem dc_M_allLandings_5 : decode bc_M_allLandings 5 = .ok (.iload 4, 2) := by decide +kernel
theorem dc_M_allLandings_7 : decode bc_M_allLandings 7 = .ok (.aload_n 0, 1) := by decide +kernel
theorem dc_M_allLandings_8 : decode bc_M_allLandings 8 = .ok (.getfield 115, 3) := by decide +kernel
theorem dc_M_allLandings_11 : decode bc_M_allLandings 11 = .ok (.if_icmp .ge 37, 3) := by decide +kernel
theorem dc_M_allLandings_14 : decode bc_M_allLandings 14 = .ok (.aload_n 0, 1) := by decide +kernel
theorem dc_M_allLandings_15 : decode bc_M_allLandings 15 = .ok (.getfield 51, 3) := by decide +kernel
theorem dc_M_allLandings_18 : decode bc_M_allLandings 18 = .ok (.iload 4, 2) := by decide +kernel
theorem dc_M_allLandings_20 : decode bc_M_allLandings 20 = .ok (.iaload, 1) := by decide +kernel
theorem dc_M_allLandings_21 : decode bc_M_allLandings 21 = .ok (.bipush 12, 2) := by decide +kernel
theorem dc_M_allLandings_23 : decode bc_M_allLandings 23 = .ok (.idiv, 1) := by decide +kernel
theorem dc_M_allLandings_24 : decode bc_M_allLandings 24 = .ok (.iload_n 1, 1) := by decide +kernel
theorem dc_M_allLandings_25 : decode bc_M_allLandings 25 = .ok (.if_icmp .ne 15, 3) := by decide +kernel
theorem dc_M_allLandings_28 : decode bc_M_allLandings 28 = .ok (.lload_n 2, 1) := by decide +kernel
theorem dc_M_allLandings_29 : decode bc_M_allLandings 29 = .ok (.aload_n 0, 1) := by decide +kernel
theorem dc_M_allLandings_30 : decode bc_M_allLandings 30 = .ok (.getfield 54, 3) := by decide +kernel
theorem dc_M_allLandings_33 : decode bc_M_allLandings 33 = .ok (.iload 4, 2) := by decide +kernel
theorem dc_M_allLandings_35 : decode bc_M_allLandings 35 = .ok (.laload, 1) := by decide +kernel
theorem dc_M_allLandings_36 : decode bc_M_allLandings 36 = .ok (.ladd, 1) := by decide +kernel
theorem dc_M_allLandings_37 : decode bc_M_allLandings 37 = .ok (.goto 4, 3) := by decide +kernel
theorem dc_M_allLandings_40 : decode bc_M_allLandings 40 = .ok (.lload_n 2, 1) := by decide +kernel
theorem dc_M_allLandings_41 : decode bc_M_allLandings 41 = .ok (.lstore_n 2, 1) := by decide +kernel
theorem dc_M_allLandings_42 : decode bc_M_allLandings 42 = .ok (.iinc 4 1, 3) := by decide +kernel
theorem dc_M_allLandings_45 : decode bc_M_allLandings 45 = .ok (.goto (-40), 3) := by decide +kernel
theorem dc_M_allLandings_48 : decode bc_M_allLandings 48 = .ok (.lload_n 2, 1) := by decide +kernel
theorem dc_M_allLandings_49 : decode bc_M_allLandings 49 = .ok (.lreturn, 1) := by decide +kernel
theorem dc_M_discard_0 : decode bc_M_discard 0 = .ok (.aload_n 0, 1) := by decide +kernel
theorem dc_M_discard_1 : decode bc_M_discard 1 = .ok (.iload_n 1, 1) := by decide +kernel
theorem dc_M_discard_2 : decode bc_M_discard 2 = .ok (.invokevirtual 97, 3) := by decide +kernel
theorem dc_M_discard_5 : decode bc_M_discard 5 = .ok (.ifCond .eq 14, 3) := by decide +kernel
theorem dc_M_discard_8 : decode bc_M_discard 8 = .ok (.aload_n 0, 1) := by decide +kernel
theorem dc_M_discard_9 : decode bc_M_discard 9 = .ok (.getfield 30, 3) := by decide +kernel
theorem dc_M_discard_12 : decode bc_M_discard 12 = .ok (.iload_n 1, 1) := by decide +kernel
theorem dc_M_discard_13 : decode bc_M_discard 13 = .ok (.laload, 1) := by decide +kernel
theorem dc_M_discard_14 : decode bc_M_discard 14 = .ok (.lconst 0, 1) := by decide +kernel
theorem dc_M_discard_15 : decode bc_M_discard 15 = .ok (.lcmp, 1) := by decide +kernel
theorem dc_M_discard_16 : decode bc_M_discard 16 = .ok (.ifCond .ne 7, 3) := by decide +kernel
theorem dc_M_discard_19 : decode bc_M_discard 19 = .ok (.ldc2_w 109, 3) := by decide +kernel
theorem dc_M_discard_22 : decode bc_M_discard 22 = .ok (.lreturn, 1) := by decide +kernel
theorem dc_M_discard_23 : decode bc_M_discard 23 = .ok (.aload_n 0, 1) := by decide +kernel
theorem dc_M_discard_24 : decode bc_M_discard 24 = .ok (.iload_n 1, 1) := by decide +kernel
theorem dc_M_discard_25 : decode bc_M_discard 25 = .ok (.invokevirtual 165, 3) := by decide +kernel
theorem dc_M_discard_28 : decode bc_M_discard 28 = .ok (.aload_n 0, 1) := by decide +kernel
theorem dc_M_discard_29 : decode bc_M_discard 29 = .ok (.getfield 33, 3) := by decide +kernel
theorem dc_M_discard_32 : decode bc_M_discard 32 = .ok (.iload_n 1, 1) := by decide +kernel
theorem dc_M_discard_33 : decode bc_M_discard 33 = .ok (.laload, 1) := by decide +kernel
theorem dc_M_discard_34 : decode bc_M_discard 34 = .ok (.lmul, 1) := by decide +kernel
theorem dc_M_discard_35 : decode bc_M_discard 35 = .ok (.aload_n 0, 1) := by decide +kernel
theorem dc_M_discard_36 : decode bc_M_discard 36 = .ok (.getfield 30, 3) := by decide +kernel
theorem dc_M_discard_39 : decode bc_M_discard 39 = .ok (.iload_n 1, 1) := by decide +kernel
theorem dc_M_discard_40 : decode bc_M_discard 40 = .ok (.laload, 1) := by decide +kernel
theorem dc_M_discard_41 : decode bc_M_discard 41 = .ok (.ldiv, 1) := by decide +kernel
theorem dc_M_discard_42 : decode bc_M_discard 42 = .ok (.lreturn, 1) := by decide +kernel
theorem dc_M_told_0 : decode bc_M_told 0 = .ok (.aload_n 0, 1) := by decide +kernel
theorem dc_M_told_1 : decode bc_M_told 1 = .ok (.iload_n 1, 1) := by decide +kernel
theorem dc_M_told_2 : decode bc_M_told 2 = .ok (.invokevirtual 97, 3) := by decide +kernel
theorem dc_M_told_5 : decode bc_M_told 5 = .ok (.ifCond .ne 7, 3) := by decide +kernel
theorem dc_M_told_8 : decode bc_M_told 8 = .ok (.ldc2_w 109, 3) := by decide +kernel
theorem dc_M_told_11 : decode bc_M_told 11 = .ok (.lreturn, 1) := by decide +kernel
theorem dc_M_told_12 : decode bc_M_told 12 = .ok (.iload_n 2, 1) := by decide +kernel
theorem dc_M_told_13 : decode bc_M_told 13 = .ok (.ifCond .ne 10, 3) := by decide +kernel
theorem dc_M_told_16 : decode bc_M_told 16 = .ok (.aload_n 0, 1) := by decide +kernel
theorem dc_M_told_17 : decode bc_M_told 17 = .ok (.getfield 7, 3) := by decide +kernel
theorem dc_M_told_20 : decode bc_M_told 20 = .ok (.iload_n 1, 1) := by decide +kernel
theorem dc_M_told_21 : decode bc_M_told 21 = .ok (.laload, 1) := by decide +kernel
theorem dc_M_told_22 : decode bc_M_told 22 = .ok (.lreturn, 1) := by decide +kernel
theorem dc_M_told_23 : decode bc_M_told 23 = .ok (.iload_n 2, 1) := by decide +kernel
theorem dc_M_told_24 : decode bc_M_told 24 = .ok (.iconst 1, 1) := by decide +kernel
theorem dc_M_told_25 : decode bc_M_told 25 = .ok (.if_icmp .ne 10, 3) := by decide +kernel
theorem dc_M_told_28 : decode bc_M_told 28 = .ok (.aload_n 0, 1) := by decide +kernel
theorem dc_M_told_29 : decode bc_M_told 29 = .ok (.getfield 13, 3) := by decide +kernel
theorem dc_M_told_32 : decode bc_M_told 32 = .ok (.iload_n 1, 1) := by decide +kernel
theorem dc_M_told_33 : decode bc_M_told 33 = .ok (.laload, 1) := by decide +kernel
theorem dc_M_told_34 : decode bc_M_told 34 = .ok (.lreturn, 1) := by decide +kernel
theorem dc_M_told_35 : decode bc_M_told 35 = .ok (.iload_n 2, 1) := by decide +kernel
theorem dc_M_told_36 : decode bc_M_told 36 = .ok (.iconst 2, 1) := by decide +kernel
theorem dc_M_told_37 : decode bc_M_told 37 = .ok (.if_icmp .ne 18, 3) := by decide +kernel
theorem dc_M_told_40 : decode bc_M_told 40 = .ok (.aload_n 0, 1) := by decide +kernel
theorem dc_M_told_41 : decode bc_M_told 41 = .ok (.getfield 20, 3) := by decide +kernel
theorem dc_M_told_44 : decode bc_M_told 44 = .ok (.iload_n 1, 1) := by decide +kernel
theorem dc_M_told_45 : decode bc_M_told 45 = .ok (.baload, 1) := by decide +kernel
theorem dc_M_told_46 : decode bc_M_told 46 = .ok (.ifCond .eq 7, 3) := by decide +kernel
theorem dc_M_told_49 : decode bc_M_told 49 = .ok (.lconst 1, 1) := by decide +kernel
theorem dc_M_told_50 : decode bc_M_told 50 = .ok (.goto 4, 3) := by decide +kernel
theorem dc_M_told_53 : decode bc_M_told 53 = .ok (.lconst 0, 1) := by decide +kernel
theorem dc_M_told_54 : decode bc_M_told 54 = .ok (.lreturn, 1) := by decide +kernel
theorem dc_M_told_55 : decode bc_M_told 55 = .ok (.iload_n 2, 1) := by decide +kernel
theorem dc_M_told_56 : decode bc_M_told 56 = .ok (.iconst 3, 1) := by decide +kernel
theorem dc_M_told_57 : decode bc_M_told 57 = .ok (.if_icmp .ne 9, 3) := by decide +kernel
theorem dc_M_told_60 : decode bc_M_told 60 = .ok (.aload_n 0, 1) := by decide +kernel
theorem dc_M_told_61 : decode bc_M_told 61 = .ok (.iload_n 1, 1) := by decide +kernel
theorem dc_M_told_62 : decode bc_M_told 62 = .ok (.invokevirtual 135, 3) := by decide +kernel
theorem dc_M_told_65 : decode bc_M_told 65 = .ok (.lreturn, 1) := by decide +kernel
theorem dc_M_told_66 : decode bc_M_told 66 = .ok (.iload_n 2, 1) := by decide +kernel
theorem dc_M_told_67 : decode bc_M_told 67 = .ok (.iconst 4, 1) := by decide +kernel
theorem dc_M_told_68 : decode bc_M_told 68 = .ok (.if_icmp .ne 9, 3) := by decide +kernel
theorem dc_M_told_71 : decode bc_M_told 71 = .ok (.aload_n 0, 1) := by decide +kernel
theorem dc_M_told_72 : decode bc_M_told 72 = .ok (.iload_n 1, 1) := by decide +kernel
theorem dc_M_told_73 : decode bc_M_told 73 = .ok (.invokevirtual 165, 3) := by decide +kernel
theorem dc_M_told_76 : decode bc_M_told 76 = .ok (.lreturn, 1) := by decide +kernel
theorem dc_M_told_77 : decode bc_M_told 77 = .ok (.iload_n 2, 1) := by decide +kernel
theorem dc_M_told_78 : decode bc_M_told 78 = .ok (.iconst 5, 1) := by decide +kernel
theorem dc_M_told_79 : decode bc_M_told 79 = .ok (.if_icmp .ne 11, 3) := by decide +kernel
theorem dc_M_told_82 : decode bc_M_told 82 = .ok (.aload_n 0, 1) := by decide +kernel
theorem dc_M_told_83 : decode bc_M_told 83 = .ok (.getfield 24, 3) := by decide +kernel
theorem dc_M_told_86 : decode bc_M_told 86 = .ok (.iload_n 1, 1) := by decide +kernel
theorem dc_M_told_87 : decode bc_M_told 87 = .ok (.iaload, 1) := by decide +kernel
theorem dc_M_told_88 : decode bc_M_told 88 = .ok (.i2l, 1) := by decide +kernel
theorem dc_M_told_89 : decode bc_M_told 89 = .ok (.lreturn, 1) := by decide +kernel
theorem dc_M_told_90 : decode bc_M_told 90 = .ok (.iload_n 2, 1) := by decide +kernel
theorem dc_M_told_91 : decode bc_M_told 91 = .ok (.bipush 6, 2) := by decide +kernel
theorem dc_M_told_93 : decode bc_M_told 93 = .ok (.if_icmp .ne 13, 3) := by decide +kernel
theorem dc_M_told_96 : decode bc_M_told 96 = .ok (.aload_n 0, 1) := by decide +kernel
theorem dc_M_told_97 : decode bc_M_told 97 = .ok (.getfield 16, 3) := by decide +kernel
theorem dc_M_told_100 : decode bc_M_told 100 = .ok (.iload_n 1, 1) := by decide +kernel
theorem dc_M_told_101 : decode bc_M_told 101 = .ok (.iaload, 1) := by decide +kernel
theorem dc_M_told_102 : decode bc_M_told 102 = .ok (.i2l, 1) := by decide +kernel
theorem dc_M_told_103 : decode bc_M_told 103 = .ok (.goto 6, 3) := by decide +kernel
theorem dc_M_told_106 : decode bc_M_told 106 = .ok (.ldc2_w 109, 3) := by decide +kernel
theorem dc_M_told_109 : decode bc_M_told 109 = .ok (.lreturn, 1) := by decide +kernel
theorem dc_M_sums_0 : decode bc_M_sums 0 = .ok (.aload_n 0, 1) := by decide +kernel
theorem dc_M_sums_1 : decode bc_M_sums 1 = .ok (.iload_n 1, 1) := by decide +kernel
theorem dc_M_sums_2 : decode bc_M_sums 2 = .ok (.invokevirtual 97, 3) := by decide +kernel
theorem dc_M_sums_5 : decode bc_M_sums 5 = .ok (.ifCond .eq 45, 3) := by decide +kernel
theorem dc_M_sums_8 : decode bc_M_sums 8 = .ok (.aload_n 0, 1) := by decide +kernel
theorem dc_M_sums_9 : decode bc_M_sums 9 = .ok (.getfield 20, 3) := by decide +kernel
theorem dc_M_sums_12 : decode bc_M_sums 12 = .ok (.iload_n 1, 1) := by decide +kernel
theorem dc_M_sums_13 : decode bc_M_sums 13 = .ok (.baload, 1) := by decide +kernel
theorem dc_M_sums_14 : decode bc_M_sums 14 = .ok (.ifCond .eq 36, 3) := by decide +kernel
theorem dc_M_sums_17 : decode bc_M_sums 17 = .ok (.aload_n 0, 1) := by decide +kernel
theorem dc_M_sums_18 : decode bc_M_sums 18 = .ok (.iload_n 1, 1) := by decide +kernel
theorem dc_M_sums_19 : decode bc_M_sums 19 = .ok (.invokevirtual 135, 3) := by decide +kernel
theorem dc_M_sums_22 : decode bc_M_sums 22 = .ok (.aload_n 0, 1) := by decide +kernel
theorem dc_M_sums_23 : decode bc_M_sums 23 = .ok (.getfield 7, 3) := by decide +kernel
theorem dc_M_sums_26 : decode bc_M_sums 26 = .ok (.iload_n 1, 1) := by decide +kernel
theorem dc_M_sums_27 : decode bc_M_sums 27 = .ok (.laload, 1) := by decide +kernel
theorem dc_M_sums_28 : decode bc_M_sums 28 = .ok (.aload_n 0, 1) := by decide +kernel
theorem dc_M_sums_29 : decode bc_M_sums 29 = .ok (.getfield 13, 3) := by decide +kernel
theorem dc_M_sums_32 : decode bc_M_sums 32 = .ok (.iload_n 1, 1) := by decide +kernel
theorem dc_M_sums_33 : decode bc_M_sums 33 = .ok (.laload, 1) := by decide +kernel
theorem dc_M_sums_34 : decode bc_M_sums 34 = .ok (.lsub, 1) := by decide +kernel
theorem dc_M_sums_35 : decode bc_M_sums 35 = .ok (.aload_n 0, 1) := by decide +kernel
theorem dc_M_sums_36 : decode bc_M_sums 36 = .ok (.getfield 27, 3) := by decide +kernel
theorem dc_M_sums_39 : decode bc_M_sums 39 = .ok (.iload_n 1, 1) := by decide +kernel
theorem dc_M_sums_40 : decode bc_M_sums 40 = .ok (.laload, 1) := by decide +kernel
theorem dc_M_sums_41 : decode bc_M_sums 41 = .ok (.ladd, 1) := by decide +kernel
theorem dc_M_sums_42 : decode bc_M_sums 42 = .ok (.lcmp, 1) := by decide +kernel
theorem dc_M_sums_43 : decode bc_M_sums 43 = .ok (.ifCond .ne 7, 3) := by decide +kernel
theorem dc_M_sums_46 : decode bc_M_sums 46 = .ok (.iconst 1, 1) := by decide +kernel
theorem dc_M_sums_47 : decode bc_M_sums 47 = .ok (.goto 4, 3) := by decide +kernel
theorem dc_M_sums_50 : decode bc_M_sums 50 = .ok (.iconst 0, 1) := by decide +kernel
theorem dc_M_sums_51 : decode bc_M_sums 51 = .ok (.ireturn, 1) := by decide +kernel

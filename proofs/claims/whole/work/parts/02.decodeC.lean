theorem dc_L_init_0 : decode bc_L_init 0 = .ok (.aload_n 0, 1) := by decide +kernel
theorem dc_L_init_1 : decode bc_L_init 1 = .ok (.invokespecial 3, 3) := by decide +kernel
theorem dc_L_init_4 : decode bc_L_init 4 = .ok (.aload_n 0, 1) := by decide +kernel
theorem dc_L_init_5 : decode bc_L_init 5 = .ok (.sipush 200, 3) := by decide +kernel
theorem dc_L_init_8 : decode bc_L_init 8 = .ok (.newarray .int, 2) := by decide +kernel
theorem dc_L_init_10 : decode bc_L_init 10 = .ok (.putfield 9, 3) := by decide +kernel
theorem dc_L_init_13 : decode bc_L_init 13 = .ok (.aload_n 0, 1) := by decide +kernel
theorem dc_L_init_14 : decode bc_L_init 14 = .ok (.sipush 200, 3) := by decide +kernel
theorem dc_L_init_17 : decode bc_L_init 17 = .ok (.newarray .int, 2) := by decide +kernel
theorem dc_L_init_19 : decode bc_L_init 19 = .ok (.putfield 15, 3) := by decide +kernel
theorem dc_L_init_22 : decode bc_L_init 22 = .ok (.aload_n 0, 1) := by decide +kernel
theorem dc_L_init_23 : decode bc_L_init 23 = .ok (.sipush 200, 3) := by decide +kernel
theorem dc_L_init_26 : decode bc_L_init 26 = .ok (.newarray .long, 2) := by decide +kernel
theorem dc_L_init_28 : decode bc_L_init 28 = .ok (.putfield 18, 3) := by decide +kernel
theorem dc_L_init_31 : decode bc_L_init 31 = .ok (.aload_n 0, 1) := by decide +kernel
theorem dc_L_init_32 : decode bc_L_init 32 = .ok (.sipush 200, 3) := by decide +kernel
theorem dc_L_init_35 : decode bc_L_init 35 = .ok (.newarray .int, 2) := by decide +kernel
theorem dc_L_init_37 : decode bc_L_init 37 = .ok (.putfield 22, 3) := by decide +kernel
theorem dc_L_init_40 : decode bc_L_init 40 = .ok (.return_, 1) := by decide +kernel
theorem dc_L_add_0 : decode bc_L_add 0 = .ok (.aload_n 0, 1) := by decide +kernel
theorem dc_L_add_1 : decode bc_L_add 1 = .ok (.getfield 25, 3) := by decide +kernel
theorem dc_L_add_4 : decode bc_L_add 4 = .ok (.sipush 200, 3) := by decide +kernel
theorem dc_L_add_7 : decode bc_L_add 7 = .ok (.if_icmp .lt 5, 3) := by decide +kernel
theorem dc_L_add_10 : decode bc_L_add 10 = .ok (.iconst 0, 1) := by decide +kernel
theorem dc_L_add_11 : decode bc_L_add 11 = .ok (.ireturn, 1) := by decide +kernel
theorem dc_L_add_12 : decode bc_L_add 12 = .ok (.aload_n 0, 1) := by decide +kernel
theorem dc_L_add_13 : decode bc_L_add 13 = .ok (.getfield 9, 3) := by decide +kernel
theorem dc_L_add_16 : decode bc_L_add 16 = .ok (.aload_n 0, 1) := by decide +kernel
theorem dc_L_add_17 : decode bc_L_add 17 = .ok (.getfield 25, 3) := by decide +kernel
theorem dc_L_add_20 : decode bc_L_add 20 = .ok (.iload_n 1, 1) := by decide +kernel
theorem dc_L_add_21 : decode bc_L_add 21 = .ok (.iastore, 1) := by decide +kernel
theorem dc_L_add_22 : decode bc_L_add 22 = .ok (.aload_n 0, 1) := by decide +kernel
theorem dc_L_add_23 : decode bc_L_add 23 = .ok (.getfield 15, 3) := by decide +kernel
theorem dc_L_add_26 : decode bc_L_add 26 = .ok (.aload_n 0, 1) := by decide +kernel
theorem dc_L_add_27 : decode bc_L_add 27 = .ok (.getfield 25, 3) := by decide +kernel
theorem dc_L_add_30 : decode bc_L_add 30 = .ok (.iload_n 2, 1) := by decide +kernel
theorem dc_L_add_31 : decode bc_L_add 31 = .ok (.iastore, 1) := by decide +kernel
theorem dc_L_add_32 : decode bc_L_add 32 = .ok (.aload_n 0, 1) := by decide +kernel
theorem dc_L_add_33 : decode bc_L_add 33 = .ok (.getfield 18, 3) := by decide +kernel
theorem dc_L_add_36 : decode bc_L_add 36 = .ok (.aload_n 0, 1) := by decide +kernel
theorem dc_L_add_37 : decode bc_L_add 37 = .ok (.getfield 25, 3) := by decide +kernel
theorem dc_L_add_40 : decode bc_L_add 40 = .ok (.lload_n 3, 1) := by decide +kernel
theorem dc_L_add_41 : decode bc_L_add 41 = .ok (.lastore, 1) := by decide +kernel
theorem dc_L_add_42 : decode bc_L_add 42 = .ok (.aload_n 0, 1) := by decide +kernel
theorem dc_L_add_43 : decode bc_L_add 43 = .ok (.getfield 22, 3) := by decide +kernel
theorem dc_L_add_46 : decode bc_L_add 46 = .ok (.aload_n 0, 1) := by decide +kernel
theorem dc_L_add_47 : decode bc_L_add 47 = .ok (.getfield 25, 3) := by decide +kernel
theorem dc_L_add_50 : decode bc_L_add 50 = .ok (.iload 5, 2) := by decide +kernel
theorem dc_L_add_52 : decode bc_L_add 52 = .ok (.iastore, 1) := by decide +kernel
theorem dc_L_add_53 : decode bc_L_add 53 = .ok (.aload_n 0, 1) := by decide +kernel
theorem dc_L_add_54 : decode bc_L_add 54 = .ok (.dup, 1) := by decide +kernel
theorem dc_L_add_55 : decode bc_L_add 55 = .ok (.getfield 25, 3) := by decide +kernel
theorem dc_L_add_58 : decode bc_L_add 58 = .ok (.iconst 1, 1) := by decide +kernel
theorem dc_L_add_59 : decode bc_L_add 59 = .ok (.iadd, 1) := by decide +kernel
theorem dc_L_add_60 : decode bc_L_add 60 = .ok (.putfield 25, 3) := by decide +kernel
theorem dc_L_add_63 : decode bc_L_add 63 = .ok (.iconst 1, 1) := by decide +kernel
theorem dc_L_add_64 : decode bc_L_add 64 = .ok (.ireturn, 1) := by decide +kernel
theorem dc_L_toldUpTo_0 : decode bc_L_toldUpTo 0 = .ok (.lconst 0, 1) := by decide +kernel
theorem dc_L_toldUpTo_1 : decode bc_L_toldUpTo 1 = .ok (.lstore 4, 2) := by decide +kernel
theorem dc_L_toldUpTo_3 : decode bc_L_toldUpTo 3 = .ok (.iconst 0, 1) := by decide +kernel
theorem dc_L_toldUpTo_4 : decode bc_L_toldUpTo 4 = .ok (.istore 6, 2) := by decide +kernel
theorem dc_L_toldUpTo_6 : decode bc_L_toldUpTo 6 = .ok (.iload 6, 2) := by decide +kernel
theorem dc_L_toldUpTo_8 : decode bc_L_toldUpTo 8 = .ok (.aload_n 0, 1) := by decide +kernel
theorem dc_L_toldUpTo_9 : decode bc_L_toldUpTo 9 = .ok (.getfield 25, 3) := by decide +kernel
theorem dc_L_toldUpTo_12 : decode bc_L_toldUpTo 12 = .ok (.if_icmp .ge 54, 3) := by decide +kernel
theorem dc_L_toldUpTo_15 : decode bc_L_toldUpTo 15 = .ok (.aload_n 0, 1) := by decide +kernel
theorem dc_L_toldUpTo_16 : decode bc_L_toldUpTo 16 = .ok (.getfield 9, 3) := by decide +kernel
theorem dc_L_toldUpTo_19 : decode bc_L_toldUpTo 19 = .ok (.iload 6, 2) := by decide +kernel
theorem dc_L_toldUpTo_21 : decode bc_L_toldUpTo 21 = .ok (.iaload, 1) := by decide +kernel
theorem dc_L_toldUpTo_22 : decode bc_L_toldUpTo 22 = .ok (.iload_n 1, 1) := by decide +kernel
theorem dc_L_toldUpTo_23 : decode bc_L_toldUpTo 23 = .ok (.if_icmp .ne 37, 3) := by decide +kernel
theorem dc_L_toldUpTo_26 : decode bc_L_toldUpTo 26 = .ok (.aload_n 0, 1) := by decide +kernel
theorem dc_L_toldUpTo_27 : decode bc_L_toldUpTo 27 = .ok (.getfield 15, 3) := by decide +kernel
theorem dc_L_toldUpTo_30 : decode bc_L_toldUpTo 30 = .ok (.iload 6, 2) := by decide +kernel
theorem dc_L_toldUpTo_32 : decode bc_L_toldUpTo 32 = .ok (.iaload, 1) := by decide +kernel
theorem dc_L_toldUpTo_33 : decode bc_L_toldUpTo 33 = .ok (.iload_n 2, 1) := by decide +kernel
theorem dc_L_toldUpTo_34 : decode bc_L_toldUpTo 34 = .ok (.if_icmp .ne 26, 3) := by decide +kernel
theorem dc_L_toldUpTo_37 : decode bc_L_toldUpTo 37 = .ok (.aload_n 0, 1) := by decide +kernel
theorem dc_L_toldUpTo_38 : decode bc_L_toldUpTo 38 = .ok (.getfield 22, 3) := by decide +kernel
theorem dc_L_toldUpTo_41 : decode bc_L_toldUpTo 41 = .ok (.iload 6, 2) := by decide +kernel
theorem dc_L_toldUpTo_43 : decode bc_L_toldUpTo 43 = .ok (.iaload, 1) := by decide +kernel
theorem dc_L_toldUpTo_44 : decode bc_L_toldUpTo 44 = .ok (.iload_n 3, 1) := by decide +kernel
theorem dc_L_toldUpTo_45 : decode bc_L_toldUpTo 45 = .ok (.if_icmp .gt 15, 3) := by decide +kernel
theorem dc_L_toldUpTo_48 : decode bc_L_toldUpTo 48 = .ok (.lload 4, 2) := by decide +kernel
theorem dc_L_toldUpTo_50 : decode bc_L_toldUpTo 50 = .ok (.aload_n 0, 1) := by decide +kernel
theorem dc_L_toldUpTo_51 : decode bc_L_toldUpTo 51 = .ok (.getfield 18, 3) := by decide +kernel
theorem dc_L_toldUpTo_54 : decode bc_L_toldUpTo 54 = .ok (.iload 6, 2) := by decide +kernel
theorem dc_L_toldUpTo_56 : decode bc_L_toldUpTo 56 = .ok (.laload, 1) := by decide +kernel
theorem dc_L_toldUpTo_57 : decode bc_L_toldUpTo 57 = .ok (.ladd, 1) := by decide +kernel
theorem dc_L_toldUpTo_58 : decode bc_L_toldUpTo 58 = .ok (.lstore 4, 2) := by decide +kernel
theorem dc_L_toldUpTo_60 : decode bc_L_toldUpTo 60 = .ok (.iinc 6 1, 3) := by decide +kernel
theorem dc_L_toldUpTo_63 : decode bc_L_toldUpTo 63 = .ok (.goto (-57), 3) := by decide +kernel
theorem dc_L_toldUpTo_66 : decode bc_L_toldUpTo 66 = .ok (.lload 4, 2) := by decide +kernel
theorem dc_L_toldUpTo_68 : decode bc_L_toldUpTo 68 = .ok (.lreturn, 1) := by decide +kernel
theorem dc_L_ofStock_0 : decode bc_L_ofStock 0 = .ok (.lconst 0, 1) := by decide +kernel
theorem dc_L_ofStock_1 : decode bc_L_ofStock 1 = .ok (.lstore_n 2, 1) := by decide +kernel
theorem dc_L_ofStock_2 : decode bc_L_ofStock 2 = .ok (.iconst 0, 1) := by decide +kernel
theorem dc_L_ofStock_3 : decode bc_L_ofStock 3 = .ok (.istore 4, 2) := by decide +kernel
theorem dc_L_ofStock_5 : decode bc_L_ofStock 5 = .ok (.iload 4, 2) := by decide +kernel
theorem dc_L_ofStock_7 : decode bc_L_ofStock 7 = .ok (.aload_n 0, 1) := by decide +kernel
theorem dc_L_ofStock_8 : decode bc_L_ofStock 8 = .ok (.getfield 25, 3) := by decide +kernel
theorem dc_L_ofStock_11 : decode bc_L_ofStock 11 = .ok (.if_icmp .ge 30, 3) := by decide +kernel
theorem dc_L_ofStock_14 : decode bc_L_ofStock 14 = .ok (.aload_n 0, 1) := by decide +kernel
theorem dc_L_ofStock_15 : decode bc_L_ofStock 15 = .ok (.getfield 9, 3) := by decide +kernel
theorem dc_L_ofStock_18 : decode bc_L_ofStock 18 = .ok (.iload 4, 2) := by decide +kernel
theorem dc_L_ofStock_20 : decode bc_L_ofStock 20 = .ok (.iaload, 1) := by decide +kernel
theorem dc_L_ofStock_21 : decode bc_L_ofStock 21 = .ok (.iload_n 1, 1) := by decide +kernel
theorem dc_L_ofStock_22 : decode bc_L_ofStock 22 = .ok (.if_icmp .ne 13, 3) := by decide +kernel
theorem dc_L_ofStock_25 : decode bc_L_ofStock 25 = .ok (.lload_n 2, 1) := by decide +kernel
theorem dc_L_ofStock_26 : decode bc_L_ofStock 26 = .ok (.aload_n 0, 1) := by decide +kernel
theorem dc_L_ofStock_27 : decode bc_L_ofStock 27 = .ok (.getfield 18, 3) := by decide +kernel
theorem dc_L_ofStock_30 : decode bc_L_ofStock 30 = .ok (.iload 4, 2) := by decide +kernel
theorem dc_L_ofStock_32 : decode bc_L_ofStock 32 = .ok (.laload, 1) := by decide +kernel
theorem dc_L_ofStock_33 : decode bc_L_ofStock 33 = .ok (.ladd, 1) := by decide +kernel
theorem dc_L_ofStock_34 : decode bc_L_ofStock 34 = .ok (.lstore_n 2, 1) := by decide +kernel
theorem dc_L_ofStock_35 : decode bc_L_ofStock 35 = .ok (.iinc 4 1, 3) := by decide +kernel
theorem dc_L_ofStock_38 : decode bc_L_ofStock 38 = .ok (.goto (-33), 3) := by decide +kernel
theorem dc_L_ofStock_41 : decode bc_L_ofStock 41 = .ok (.lload_n 2, 1) := by decide +kernel
theorem dc_L_ofStock_42 : decode bc_L_ofStock 42 = .ok (.lreturn, 1) := by decide +kernel
theorem dc_O_init_0 : decode bc_O_init 0 = .ok (.aload_n 0, 1) := by decide +kernel
theorem dc_O_init_1 : decode bc_O_init 1 = .ok (.invokespecial 3, 3) := by decide +kernel
theorem dc_O_init_4 : decode bc_O_init 4 = .ok (.aload_n 0, 1) := by decide +kernel
theorem dc_O_init_5 : decode bc_O_init 5 = .ok (.bipush 100, 2) := by decide +kernel
theorem dc_O_init_7 : decode bc_O_init 7 = .ok (.newarray .int, 2) := by decide +kernel
theorem dc_O_init_9 : decode bc_O_init 9 = .ok (.putfield 9, 3) := by decide +kernel
theorem dc_O_init_12 : decode bc_O_init 12 = .ok (.aload_n 0, 1) := by decide +kernel
theorem dc_O_init_13 : decode bc_O_init 13 = .ok (.bipush 10, 2) := by decide +kernel
theorem dc_O_init_15 : decode bc_O_init 15 = .ok (.newarray .long, 2) := by decide +kernel
theorem dc_O_init_17 : decode bc_O_init 17 = .ok (.putfield 15, 3) := by decide +kernel
theorem dc_O_init_20 : decode bc_O_init 20 = .ok (.aload_n 0, 1) := by decide +kernel
theorem dc_O_init_21 : decode bc_O_init 21 = .ok (.bipush 10, 2) := by decide +kernel
theorem dc_O_init_23 : decode bc_O_init 23 = .ok (.newarray .long, 2) := by decide +kernel
theorem dc_O_init_25 : decode bc_O_init 25 = .ok (.putfield 19, 3) := by decide +kernel
theorem dc_O_init_28 : decode bc_O_init 28 = .ok (.aload_n 0, 1) := by decide +kernel
theorem dc_O_init_29 : decode bc_O_init 29 = .ok (.bipush 10, 2) := by decide +kernel
theorem dc_O_init_31 : decode bc_O_init 31 = .ok (.newarray .long, 2) := by decide +kernel
theorem dc_O_init_33 : decode bc_O_init 33 = .ok (.putfield 22, 3) := by decide +kernel
theorem dc_O_init_36 : decode bc_O_init 36 = .ok (.return_, 1) := by decide +kernel
theorem dc_O_setPart_0 : decode bc_O_setPart 0 = .ok (.iload_n 3, 1) := by decide +kernel
theorem dc_O_setPart_1 : decode bc_O_setPart 1 = .ok (.istore 4, 2) := by decide +kernel
theorem dc_O_setPart_3 : decode bc_O_setPart 3 = .ok (.iconst 0, 1) := by decide +kernel
theorem dc_O_setPart_4 : decode bc_O_setPart 4 = .ok (.istore 5, 2) := by decide +kernel
theorem dc_O_setPart_6 : decode bc_O_setPart 6 = .ok (.iload 5, 2) := by decide +kernel
theorem dc_O_setPart_8 : decode bc_O_setPart 8 = .ok (.bipush 10, 2) := by decide +kernel
theorem dc_O_setPart_10 : decode bc_O_setPart 10 = .ok (.if_icmp .ge 32, 3) := by decide +kernel
theorem dc_O_setPart_13 : decode bc_O_setPart 13 = .ok (.iload 5, 2) := by decide +kernel
theorem dc_O_setPart_15 : decode bc_O_setPart 15 = .ok (.iload_n 1, 1) := by decide +kernel
theorem dc_O_setPart_16 : decode bc_O_setPart 16 = .ok (.if_icmp .eq 20, 3) := by decide +kernel
theorem dc_O_setPart_19 : decode bc_O_setPart 19 = .ok (.iload 4, 2) := by decide +kernel
theorem dc_O_setPart_21 : decode bc_O_setPart 21 = .ok (.aload_n 0, 1) := by decide +kernel
theorem dc_O_setPart_22 : decode bc_O_setPart 22 = .ok (.getfield 9, 3) := by decide +kernel
theorem dc_O_setPart_25 : decode bc_O_setPart 25 = .ok (.iload 5, 2) := by decide +kernel
theorem dc_O_setPart_27 : decode bc_O_setPart 27 = .ok (.bipush 10, 2) := by decide +kernel
theorem dc_O_setPart_29 : decode bc_O_setPart 29 = .ok (.imul, 1) := by decide +kernel
theorem dc_O_setPart_30 : decode bc_O_setPart 30 = .ok (.iload_n 2, 1) := by decide +kernel
theorem dc_O_setPart_31 : decode bc_O_setPart 31 = .ok (.iadd, 1) := by decide +kernel
theorem dc_O_setPart_32 : decode bc_O_setPart 32 = .ok (.iaload, 1) := by decide +kernel
theorem dc_O_setPart_33 : decode bc_O_setPart 33 = .ok (.iadd, 1) := by decide +kernel
theorem dc_O_setPart_34 : decode bc_O_setPart 34 = .ok (.istore 4, 2) := by decide +kernel
theorem dc_O_setPart_36 : decode bc_O_setPart 36 = .ok (.iinc 5 1, 3) := by decide +kernel
theorem dc_O_setPart_39 : decode bc_O_setPart 39 = .ok (.goto (-33), 3) := by decide +kernel
theorem dc_O_setPart_42 : decode bc_O_setPart 42 = .ok (.iload 4, 2) := by decide +kernel
theorem dc_O_setPart_44 : decode bc_O_setPart 44 = .ok (.bipush 100, 2) := by decide +kernel
theorem dc_O_setPart_46 : decode bc_O_setPart 46 = .ok (.if_icmp .le 5, 3) := by decide +kernel
theorem dc_O_setPart_49 : decode bc_O_setPart 49 = .ok (.iconst 0, 1) := by decide +kernel
theorem dc_O_setPart_50 : decode bc_O_setPart 50 = .ok (.ireturn, 1) := by decide +kernel
theorem dc_O_setPart_51 : decode bc_O_setPart 51 = .ok (.aload_n 0, 1) := by decide +kernel
theorem dc_O_setPart_52 : decode bc_O_setPart 52 = .ok (.getfield 9, 3) := by decide +kernel
theorem dc_O_setPart_55 : decode bc_O_setPart 55 = .ok (.iload_n 1, 1) := by decide +kernel
theorem dc_O_setPart_56 : decode bc_O_setPart 56 = .ok (.bipush 10, 2) := by decide +kernel
theorem dc_O_setPart_58 : decode bc_O_setPart 58 = .ok (.imul, 1) := by decide +kernel
theorem dc_O_setPart_59 : decode bc_O_setPart 59 = .ok (.iload_n 2, 1) := by decide +kernel
theorem dc_O_setPart_60 : decode bc_O_setPart 60 = .ok (.iadd, 1) := by decide +kernel
theorem dc_O_setPart_61 : decode bc_O_setPart 61 = .ok (.iload_n 3, 1) := by decide +kernel
theorem dc_O_setPart_62 : decode bc_O_setPart 62 = .ok (.iastore, 1) := by decide +kernel
theorem dc_O_setPart_63 : decode bc_O_setPart 63 = .ok (.iconst 1, 1) := by decide +kernel
theorem dc_O_setPart_64 : decode bc_O_setPart 64 = .ok (.ireturn, 1) := by decide +kernel
theorem dc_O_findHolds_0 : decode bc_O_findHolds 0 = .ok (.iconst 0, 1) := by decide +kernel
theorem dc_O_findHolds_1 : decode bc_O_findHolds 1 = .ok (.istore_n 2, 1) := by decide +kernel
theorem dc_O_findHolds_2 : decode bc_O_findHolds 2 = .ok (.iload_n 2, 1) := by decide +kernel
theorem dc_O_findHolds_3 : decode bc_O_findHolds 3 = .ok (.bipush 10, 2) := by decide +kernel
theorem dc_O_findHolds_5 : decode bc_O_findHolds 5 = .ok (.if_icmp .ge 39, 3) := by decide +kernel
theorem dc_O_findHolds_8 : decode bc_O_findHolds 8 = .ok (.aload_n 0, 1) := by decide +kernel
theorem dc_O_findHolds_9 : decode bc_O_findHolds 9 = .ok (.getfield 15, 3) := by decide +kernel
theorem dc_O_findHolds_12 : decode bc_O_findHolds 12 = .ok (.iload_n 2, 1) := by decide +kernel
theorem dc_O_findHolds_13 : decode bc_O_findHolds 13 = .ok (.iload_n 2, 1) := by decide +kernel
theorem dc_O_findHolds_14 : decode bc_O_findHolds 14 = .ok (.iload_n 1, 1) := by decide +kernel
theorem dc_O_findHolds_15 : decode bc_O_findHolds 15 = .ok (.if_icmp .ne 9, 3) := by decide +kernel
theorem dc_O_findHolds_18 : decode bc_O_findHolds 18 = .ok (.ldc2_w 25, 3) := by decide +kernel
theorem dc_O_findHolds_21 : decode bc_O_findHolds 21 = .ok (.goto 4, 3) := by decide +kernel
theorem dc_O_findHolds_24 : decode bc_O_findHolds 24 = .ok (.lconst 0, 1) := by decide +kernel
theorem dc_O_findHolds_25 : decode bc_O_findHolds 25 = .ok (.lastore, 1) := by decide +kernel
theorem dc_O_findHolds_26 : decode bc_O_findHolds 26 = .ok (.aload_n 0, 1) := by decide +kernel
theorem dc_O_findHolds_27 : decode bc_O_findHolds 27 = .ok (.getfield 22, 3) := by decide +kernel
theorem dc_O_findHolds_30 : decode bc_O_findHolds 30 = .ok (.iload_n 2, 1) := by decide +kernel
theorem dc_O_findHolds_31 : decode bc_O_findHolds 31 = .ok (.aload_n 0, 1) := by decide +kernel
theorem dc_O_findHolds_32 : decode bc_O_findHolds 32 = .ok (.getfield 15, 3) := by decide +kernel
theorem dc_O_findHolds_35 : decode bc_O_findHolds 35 = .ok (.iload_n 2, 1) := by decide +kernel
theorem dc_O_findHolds_36 : decode bc_O_findHolds 36 = .ok (.laload, 1) := by decide +kernel
theorem dc_O_findHolds_37 : decode bc_O_findHolds 37 = .ok (.lastore, 1) := by decide +kernel
theorem dc_O_findHolds_38 : decode bc_O_findHolds 38 = .ok (.iinc 2 1, 3) := by decide +kernel
theorem dc_O_findHolds_41 : decode bc_O_findHolds 41 = .ok (.goto (-39), 3) := by decide +kernel
theorem dc_O_findHolds_44 : decode bc_O_findHolds 44 = .ok (.iconst 1, 1) := by decide +kernel
theorem dc_O_findHolds_45 : decode bc_O_findHolds 45 = .ok (.istore_n 2, 1) := by decide +kernel
theorem dc_O_findHolds_46 : decode bc_O_findHolds 46 = .ok (.iload_n 2, 1) := by decide +kernel
theorem dc_O_findHolds_47 : decode bc_O_findHolds 47 = .ok (.bipush 10, 2) := by decide +kernel
theorem dc_O_findHolds_49 : decode bc_O_findHolds 49 = .ok (.if_icmp .ge 42, 3) := by decide +kernel
theorem dc_O_findHolds_52 : decode bc_O_findHolds 52 = .ok (.aload_n 0, 1) := by decide +kernel
theorem dc_O_findHolds_53 : decode bc_O_findHolds 53 = .ok (.invokevirtual 27, 3) := by decide +kernel
theorem dc_O_findHolds_56 : decode bc_O_findHolds 56 = .ok (.iconst 0, 1) := by decide +kernel
theorem dc_O_findHolds_57 : decode bc_O_findHolds 57 = .ok (.istore_n 3, 1) := by decide +kernel
theorem dc_O_findHolds_58 : decode bc_O_findHolds 58 = .ok (.iload_n 3, 1) := by decide +kernel
theorem dc_O_findHolds_59 : decode bc_O_findHolds 59 = .ok (.bipush 10, 2) := by decide +kernel
theorem dc_O_findHolds_61 : decode bc_O_findHolds 61 = .ok (.if_icmp .ge 24, 3) := by decide +kernel
theorem dc_O_findHolds_64 : decode bc_O_findHolds 64 = .ok (.aload_n 0, 1) := by decide +kernel
theorem dc_O_findHolds_65 : decode bc_O_findHolds 65 = .ok (.getfield 22, 3) := by decide +kernel
theorem dc_O_findHolds_68 : decode bc_O_findHolds 68 = .ok (.iload_n 3, 1) := by decide +kernel
theorem dc_O_findHolds_69 : decode bc_O_findHolds 69 = .ok (.dup2, 1) := by decide +kernel
theorem dc_O_findHolds_70 : decode bc_O_findHolds 70 = .ok (.laload, 1) := by decide +kernel
theorem dc_O_findHolds_71 : decode bc_O_findHolds 71 = .ok (.aload_n 0, 1) := by decide +kernel
theorem dc_O_findHolds_72 : decode bc_O_findHolds 72 = .ok (.getfield 15, 3) := by decide +kernel
theorem dc_O_findHolds_75 : decode bc_O_findHolds 75 = .ok (.iload_n 3, 1) := by decide +kernel
theorem dc_O_findHolds_76 : decode bc_O_findHolds 76 = .ok (.laload, 1) := by decide +kernel
theorem dc_O_findHolds_77 : decode bc_O_findHolds 77 = .ok (.ladd, 1) := by decide +kernel
theorem dc_O_findHolds_78 : decode bc_O_findHolds 78 = .ok (.lastore, 1) := by decide +kernel
theorem dc_O_findHolds_79 : decode bc_O_findHolds 79 = .ok (.iinc 3 1, 3) := by decide +kernel
theorem dc_O_findHolds_82 : decode bc_O_findHolds 82 = .ok (.goto (-24), 3) := by decide +kernel
theorem dc_O_findHolds_85 : decode bc_O_findHolds 85 = .ok (.iinc 2 1, 3) := by decide +kernel
theorem dc_O_findHolds_88 : decode bc_O_findHolds 88 = .ok (.goto (-42), 3) := by decide +kernel
theorem dc_O_findHolds_91 : decode bc_O_findHolds 91 = .ok (.return_, 1) := by decide +kernel
theorem dc_O_found_0 : decode bc_O_found 0 = .ok (.iload_n 1, 1) := by decide +kernel
theorem dc_O_found_1 : decode bc_O_found 1 = .ok (.invokestatic 30, 3) := by decide +kernel
theorem dc_O_found_4 : decode bc_O_found 4 = .ok (.ifCond .eq 12, 3) := by decide +kernel
theorem dc_O_found_7 : decode bc_O_found 7 = .ok (.aload_n 0, 1) := by decide +kernel
theorem dc_O_found_8 : decode bc_O_found 8 = .ok (.getfield 22, 3) := by decide +kernel
theorem dc_O_found_11 : decode bc_O_found 11 = .ok (.iload_n 1, 1) := by decide +kernel
theorem dc_O_found_12 : decode bc_O_found 12 = .ok (.laload, 1) := by decide +kernel
theorem dc_O_found_13 : decode bc_O_found 13 = .ok (.goto 4, 3) := by decide +kernel
theorem dc_O_found_16 : decode bc_O_found 16 = .ok (.lconst 0, 1) := by decide +kernel
theorem dc_O_found_17 : decode bc_O_found 17 = .ok (.lreturn, 1) := by decide +kernel
theorem dc_O_lengthenWays_0 : decode bc_O_lengthenWays 0 = .ok (.iconst 0, 1) := by decide +kernel
theorem dc_O_lengthenWays_1 : decode bc_O_lengthenWays 1 = .ok (.istore_n 1, 1) := by decide +kernel
theorem dc_O_lengthenWays_2 : decode bc_O_lengthenWays 2 = .ok (.iload_n 1, 1) := by decide +kernel
theorem dc_O_lengthenWays_3 : decode bc_O_lengthenWays 3 = .ok (.bipush 10, 2) := by decide +kernel
theorem dc_O_lengthenWays_5 : decode bc_O_lengthenWays 5 = .ok (.if_icmp .ge 62, 3) := by decide +kernel
theorem dc_O_lengthenWays_8 : decode bc_O_lengthenWays 8 = .ok (.lconst 0, 1) := by decide +kernel
theorem dc_O_lengthenWays_9 : decode bc_O_lengthenWays 9 = .ok (.lstore_n 2, 1) := by decide +kernel
theorem dc_O_lengthenWays_10 : decode bc_O_lengthenWays 10 = .ok (.iconst 0, 1) := by decide +kernel
theorem dc_O_lengthenWays_11 : decode bc_O_lengthenWays 11 = .ok (.istore 4, 2) := by decide +kernel
theorem dc_O_lengthenWays_13 : decode bc_O_lengthenWays 13 = .ok (.iload 4, 2) := by decide +kernel
theorem dc_O_lengthenWays_15 : decode bc_O_lengthenWays 15 = .ok (.bipush 10, 2) := by decide +kernel
theorem dc_O_lengthenWays_17 : decode bc_O_lengthenWays 17 = .ok (.if_icmp .ge 37, 3) := by decide +kernel
theorem dc_O_lengthenWays_20 : decode bc_O_lengthenWays 20 = .ok (.lload_n 2, 1) := by decide +kernel
theorem dc_O_lengthenWays_21 : decode bc_O_lengthenWays 21 = .ok (.aload_n 0, 1) := by decide +kernel
theorem dc_O_lengthenWays_22 : decode bc_O_lengthenWays 22 = .ok (.getfield 15, 3) := by decide +kernel
theorem dc_O_lengthenWays_25 : decode bc_O_lengthenWays 25 = .ok (.iload 4, 2) := by decide +kernel
theorem dc_O_lengthenWays_27 : decode bc_O_lengthenWays 27 = .ok (.laload, 1) := by decide +kernel
theorem dc_O_lengthenWays_28 : decode bc_O_lengthenWays 28 = .ok (.ldc2_w 34, 3) := by decide +kernel
theorem dc_O_lengthenWays_31 : decode bc_O_lengthenWays 31 = .ok (.ldiv, 1) := by decide +kernel
theorem dc_O_lengthenWays_32 : decode bc_O_lengthenWays 32 = .ok (.aload_n 0, 1) := by decide +kernel
theorem dc_O_lengthenWays_33 : decode bc_O_lengthenWays 33 = .ok (.getfield 9, 3) := by decide +kernel
theorem dc_O_lengthenWays_36 : decode bc_O_lengthenWays 36 = .ok (.iload 4, 2) := by decide +kernel
theorem dc_O_lengthenWays_38 : decode bc_O_lengthenWays 38 = .ok (.bipush 10, 2) := by decide +kernel
theorem dc_O_lengthenWays_40 : decode bc_O_lengthenWays 40 = .ok (.imul, 1) := by decide +kernel
theorem dc_O_lengthenWays_41 : decode bc_O_lengthenWays 41 = .ok (.iload_n 1, 1) := by decide +kernel
theorem dc_O_lengthenWays_42 : decode bc_O_lengthenWays 42 = .ok (.iadd, 1) := by decide +kernel
theorem dc_O_lengthenWays_43 : decode bc_O_lengthenWays 43 = .ok (.iaload, 1) := by decide +kernel
theorem dc_O_lengthenWays_44 : decode bc_O_lengthenWays 44 = .ok (.i2l, 1) := by decide +kernel
theorem dc_O_lengthenWays_45 : decode bc_O_lengthenWays 45 = .ok (.lmul, 1) := by decide +kernel
theorem dc_O_lengthenWays_46 : decode bc_O_lengthenWays 46 = .ok (.ladd, 1) := by decide +kernel
theorem dc_O_lengthenWays_47 : decode bc_O_lengthenWays 47 = .ok (.lstore_n 2, 1) := by decide +kernel
theorem dc_O_lengthenWays_48 : decode bc_O_lengthenWays 48 = .ok (.iinc 4 1, 3) := by decide +kernel
theorem dc_O_lengthenWays_51 : decode bc_O_lengthenWays 51 = .ok (.goto (-38), 3) := by decide +kernel
theorem dc_O_lengthenWays_54 : decode bc_O_lengthenWays 54 = .ok (.aload_n 0, 1) := by decide +kernel
theorem dc_O_lengthenWays_55 : decode bc_O_lengthenWays 55 = .ok (.getfield 19, 3) := by decide +kernel
theorem dc_O_lengthenWays_58 : decode bc_O_lengthenWays 58 = .ok (.iload_n 1, 1) := by decide +kernel
theorem dc_O_lengthenWays_59 : decode bc_O_lengthenWays 59 = .ok (.lload_n 2, 1) := by decide +kernel
theorem dc_O_lengthenWays_60 : decode bc_O_lengthenWays 60 = .ok (.lastore, 1) := by decide +kernel
theorem dc_O_lengthenWays_61 : decode bc_O_lengthenWays 61 = .ok (.iinc 1 1, 3) := by decide +kernel
theorem dc_O_lengthenWays_64 : decode bc_O_lengthenWays 64 = .ok (.goto (-62), 3) := by decide +kernel
theorem dc_O_lengthenWays_67 : decode bc_O_lengthenWays 67 = .ok (.aload_n 0, 1) := by decide +kernel
theorem dc_O_lengthenWays_68 : decode bc_O_lengthenWays 68 = .ok (.getfield 19, 3) := by decide +kernel
theorem dc_O_lengthenWays_71 : decode bc_O_lengthenWays 71 = .ok (.iconst 0, 1) := by decide +kernel
theorem dc_O_lengthenWays_72 : decode bc_O_lengthenWays 72 = .ok (.aload_n 0, 1) := by decide +kernel
theorem dc_O_lengthenWays_73 : decode bc_O_lengthenWays 73 = .ok (.getfield 15, 3) := by decide +kernel
theorem dc_O_lengthenWays_76 : decode bc_O_lengthenWays 76 = .ok (.iconst 0, 1) := by decide +kernel
theorem dc_O_lengthenWays_77 : decode bc_O_lengthenWays 77 = .ok (.bipush 10, 2) := by decide +kernel
theorem dc_O_lengthenWays_79 : decode bc_O_lengthenWays 79 = .ok (.invokestatic 36, 3) := by decide +kernel
theorem dc_O_lengthenWays_82 : decode bc_O_lengthenWays 82 = .ok (.return_, 1) := by decide +kernel
theorem dc_S_init_0 : decode bc_S_init 0 = .ok (.aload_n 0, 1) := by decide +kernel
theorem dc_S_init_1 : decode bc_S_init 1 = .ok (.invokespecial 3, 3) := by decide +kernel
theorem dc_S_init_4 : decode bc_S_init 4 = .ok (.aload_n 0, 1) := by decide +kernel
theorem dc_S_init_5 : decode bc_S_init 5 = .ok (.iload_n 1, 1) := by decide +kernel
theorem dc_S_init_6 : decode bc_S_init 6 = .ok (.putfield 9, 3) := by decide +kernel
theorem dc_S_init_9 : decode bc_S_init 9 = .ok (.aload_n 0, 1) := by decide +kernel
theorem dc_S_init_10 : decode bc_S_init 10 = .ok (.lload_n 2, 1) := by decide +kernel
theorem dc_S_init_11 : decode bc_S_init 11 = .ok (.putfield 15, 3) := by decide +kernel
theorem dc_S_init_14 : decode bc_S_init 14 = .ok (.aload_n 0, 1) := by decide +kernel
theorem dc_S_init_15 : decode bc_S_init 15 = .ok (.bipush 12, 2) := by decide +kernel
theorem dc_S_init_17 : decode bc_S_init 17 = .ok (.newarray .long, 2) := by decide +kernel
theorem dc_S_init_19 : decode bc_S_init 19 = .ok (.putfield 19, 3) := by decide +kernel
theorem dc_S_init_22 : decode bc_S_init 22 = .ok (.aload_n 0, 1) := by decide +kernel
theorem dc_S_init_23 : decode bc_S_init 23 = .ok (.bipush 12, 2) := by decide +kernel
theorem dc_S_init_25 : decode bc_S_init 25 = .ok (.newarray .long, 2) := by decide +kernel
theorem dc_S_init_27 : decode bc_S_init 27 = .ok (.putfield 23, 3) := by decide +kernel
theorem dc_S_init_30 : decode bc_S_init 30 = .ok (.aload_n 0, 1) := by decide +kernel
theorem dc_S_init_31 : decode bc_S_init 31 = .ok (.iconst (-1), 1) := by decide +kernel
theorem dc_S_init_32 : decode bc_S_init 32 = .ok (.putfield 26, 3) := by decide +kernel
theorem dc_S_init_35 : decode bc_S_init 35 = .ok (.aload_n 0, 1) := by decide +kernel
theorem dc_S_init_36 : decode bc_S_init 36 = .ok (.bipush 100, 2) := by decide +kernel
theorem dc_S_init_38 : decode bc_S_init 38 = .ok (.putfield 29, 3) := by decide +kernel
theorem dc_S_init_41 : decode bc_S_init 41 = .ok (.return_, 1) := by decide +kernel
theorem dc_S_allWeights_0 : decode bc_S_allWeights 0 = .ok (.aload_n 0, 1) := by decide +kernel
theorem dc_S_allWeights_1 : decode bc_S_allWeights 1 = .ok (.getfield 19, 3) := by decide +kernel
theorem dc_S_allWeights_4 : decode bc_S_allWeights 4 = .ok (.invokestatic 32, 3) := by decide +kernel
theorem dc_S_allWeights_7 : decode bc_S_allWeights 7 = .ok (.lreturn, 1) := by decide +kernel
theorem dc_S_allShares_0 : decode bc_S_allShares 0 = .ok (.aload_n 0, 1) := by decide +kernel
theorem dc_S_allShares_1 : decode bc_S_allShares 1 = .ok (.getfield 23, 3) := by decide +kernel
theorem dc_S_allShares_4 : decode bc_S_allShares 4 = .ok (.invokestatic 32, 3) := by decide +kernel
theorem dc_S_allShares_7 : decode bc_S_allShares 7 = .ok (.lreturn, 1) := by decide +kernel
theorem dc_S_sumOf_0 : decode bc_S_sumOf 0 = .ok (.lconst 0, 1) := by decide +kernel
theorem dc_S_sumOf_1 : decode bc_S_sumOf 1 = .ok (.lstore_n 1, 1) := by decide +kernel
theorem dc_S_sumOf_2 : decode bc_S_sumOf 2 = .ok (.iconst 0, 1) := by decide +kernel
theorem dc_S_sumOf_3 : decode bc_S_sumOf 3 = .ok (.istore_n 3, 1) := by decide +kernel
theorem dc_S_sumOf_4 : decode bc_S_sumOf 4 = .ok (.iload_n 3, 1) := by decide +kernel
theorem dc_S_sumOf_5 : decode bc_S_sumOf 5 = .ok (.aload_n 0, 1) := by decide +kernel
theorem dc_S_sumOf_6 : decode bc_S_sumOf 6 = .ok (.arraylength, 1) := by decide +kernel
theorem dc_S_sumOf_7 : decode bc_S_sumOf 7 = .ok (.if_icmp .ge 15, 3) := by decide +kernel
theorem dc_S_sumOf_10 : decode bc_S_sumOf 10 = .ok (.lload_n 1, 1) := by decide +kernel
theorem dc_S_sumOf_11 : decode bc_S_sumOf 11 = .ok (.aload_n 0, 1) := by decide +kernel
theorem dc_S_sumOf_12 : decode bc_S_sumOf 12 = .ok (.iload_n 3, 1) := by decide +kernel
theorem dc_S_sumOf_13 : decode bc_S_sumOf 13 = .ok (.laload, 1) := by decide +kernel
theorem dc_S_sumOf_14 : decode bc_S_sumOf 14 = .ok (.ladd, 1) := by decide +kernel
theorem dc_S_sumOf_15 : decode bc_S_sumOf 15 = .ok (.lstore_n 1, 1) := by decide +kernel
theorem dc_S_sumOf_16 : decode bc_S_sumOf 16 = .ok (.iinc 3 1, 3) := by decide +kernel
theorem dc_S_sumOf_19 : decode bc_S_sumOf 19 = .ok (.goto (-15), 3) := by decide +kernel
theorem dc_S_sumOf_22 : decode bc_S_sumOf 22 = .ok (.lload_n 1, 1) := by decide +kernel
theorem dc_S_sumOf_23 : decode bc_S_sumOf 23 = .ok (.lreturn, 1) := by decide +kernel
theorem dc_S_countShares_0 : decode bc_S_countShares 0 = .ok (.iconst 0, 1) := by decide +kernel
theorem dc_S_countShares_1 : decode bc_S_countShares 1 = .ok (.istore_n 1, 1) := by decide +kernel
theorem dc_S_countShares_2 : decode bc_S_countShares 2 = .ok (.iconst 0, 1) := by decide +kernel
theorem dc_S_countShares_3 : decode bc_S_countShares 3 = .ok (.istore_n 2, 1) := by decide +kernel
theorem dc_S_countShares_4 : decode bc_S_countShares 4 = .ok (.iload_n 2, 1) := by decide +kernel
theorem dc_S_countShares_5 : decode bc_S_countShares 5 = .ok (.aload_n 0, 1) := by decide +kernel
theorem dc_S_countShares_6 : decode bc_S_countShares 6 = .ok (.getfield 23, 3) := by decide +kernel
theorem dc_S_countShares_9 : decode bc_S_countShares 9 = .ok (.arraylength, 1) := by decide +kernel
theorem dc_S_countShares_10 : decode bc_S_countShares 10 = .ok (.if_icmp .ge 23, 3) := by decide +kernel
theorem dc_S_countShares_13 : decode bc_S_countShares 13 = .ok (.aload_n 0, 1) := by decide +kernel
theorem dc_S_countShares_14 : decode bc_S_countShares 14 = .ok (.getfield 23, 3) := by decide +kernel
theorem dc_S_countShares_17 : decode bc_S_countShares 17 = .ok (.iload_n 2, 1) := by decide +kernel
theorem dc_S_countShares_18 : decode bc_S_countShares 18 = .ok (.laload, 1) := by decide +kernel
theorem dc_S_countShares_19 : decode bc_S_countShares 19 = .ok (.lconst 0, 1) := by decide +kernel
theorem dc_S_countShares_20 : decode bc_S_countShares 20 = .ok (.lcmp, 1) := by decide +kernel
theorem dc_S_countShares_21 : decode bc_S_countShares 21 = .ok (.ifCond .le 6, 3) := by decide +kernel
theorem dc_S_countShares_24 : decode bc_S_countShares 24 = .ok (.iinc 1 1, 3) := by decide +kernel
theorem dc_S_countShares_27 : decode bc_S_countShares 27 = .ok (.iinc 2 1, 3) := by decide +kernel
theorem dc_S_countShares_30 : decode bc_S_countShares 30 = .ok (.goto (-26), 3) := by decide +kernel
theorem dc_S_countShares_33 : decode bc_S_countShares 33 = .ok (.iload_n 1, 1) := by decide +kernel
theorem dc_S_countShares_34 : decode bc_S_countShares 34 = .ok (.ireturn, 1) := by decide +kernel
theorem dc_S_shareOut_0 : decode bc_S_shareOut 0 = .ok (.aload_n 0, 1) := by decide +kernel
theorem dc_S_shareOut_1 : decode bc_S_shareOut 1 = .ok (.invokevirtual 36, 3) := by decide +kernel
theorem dc_S_shareOut_4 : decode bc_S_shareOut 4 = .ok (.lstore_n 1, 1) := by decide +kernel
theorem dc_S_shareOut_5 : decode bc_S_shareOut 5 = .ok (.lload_n 1, 1) := by decide +kernel
theorem dc_S_shareOut_6 : decode bc_S_shareOut 6 = .ok (.lconst 1, 1) := by decide +kernel
theorem dc_S_shareOut_7 : decode bc_S_shareOut 7 = .ok (.lcmp, 1) := by decide +kernel
theorem dc_S_shareOut_8 : decode bc_S_shareOut 8 = .ok (.ifCond .ge 5, 3) := by decide +kernel
theorem dc_S_shareOut_11 : decode bc_S_shareOut 11 = .ok (.iconst 0, 1) := by decide +kernel
theorem dc_S_shareOut_12 : decode bc_S_shareOut 12 = .ok (.ireturn, 1) := by decide +kernel
theorem dc_S_shareOut_13 : decode bc_S_shareOut 13 = .ok (.aload_n 0, 1) := by decide +kernel
theorem dc_S_shareOut_14 : decode bc_S_shareOut 14 = .ok (.getfield 15, 3) := by decide +kernel
theorem dc_S_shareOut_17 : decode bc_S_shareOut 17 = .ok (.aload_n 0, 1) := by decide +kernel
theorem dc_S_shareOut_18 : decode bc_S_shareOut 18 = .ok (.getfield 40, 3) := by decide +kernel
theorem dc_S_shareOut_21 : decode bc_S_shareOut 21 = .ok (.lsub, 1) := by decide +kernel
theorem dc_S_shareOut_22 : decode bc_S_shareOut 22 = .ok (.lstore_n 3, 1) := by decide +kernel
theorem dc_S_shareOut_23 : decode bc_S_shareOut 23 = .ok (.lload_n 3, 1) := by decide +kernel
theorem dc_S_shareOut_24 : decode bc_S_shareOut 24 = .ok (.lstore 5, 2) := by decide +kernel
theorem dc_S_shareOut_26 : decode bc_S_shareOut 26 = .ok (.iconst 0, 1) := by decide +kernel
theorem dc_S_shareOut_27 : decode bc_S_shareOut 27 = .ok (.istore 7, 2) := by decide +kernel
theorem dc_S_shareOut_29 : decode bc_S_shareOut 29 = .ok (.iload 7, 2) := by decide +kernel
theorem dc_S_shareOut_31 : decode bc_S_shareOut 31 = .ok (.aload_n 0, 1) := by decide +kernel
theorem dc_S_shareOut_32 : decode bc_S_shareOut 32 = .ok (.getfield 23, 3) := by decide +kernel
theorem dc_S_shareOut_35 : decode bc_S_shareOut 35 = .ok (.arraylength, 1) := by decide +kernel
theorem dc_S_shareOut_36 : decode bc_S_shareOut 36 = .ok (.if_icmp .ge 39, 3) := by decide +kernel
theorem dc_S_shareOut_39 : decode bc_S_shareOut 39 = .ok (.aload_n 0, 1) := by decide +kernel
theorem dc_S_shareOut_40 : decode bc_S_shareOut 40 = .ok (.getfield 23, 3) := by decide +kernel
theorem dc_S_shareOut_43 : decode bc_S_shareOut 43 = .ok (.iload 7, 2) := by decide +kernel
theorem dc_S_shareOut_45 : decode bc_S_shareOut 45 = .ok (.lload_n 3, 1) := by decide +kernel
theorem dc_S_shareOut_46 : decode bc_S_shareOut 46 = .ok (.aload_n 0, 1) := by decide +kernel
theorem dc_S_shareOut_47 : decode bc_S_shareOut 47 = .ok (.getfield 19, 3) := by decide +kernel
theorem dc_S_shareOut_50 : decode bc_S_shareOut 50 = .ok (.iload 7, 2) := by decide +kernel
theorem dc_S_shareOut_52 : decode bc_S_shareOut 52 = .ok (.laload, 1) := by decide +kernel
theorem dc_S_shareOut_53 : decode bc_S_shareOut 53 = .ok (.lmul, 1) := by decide +kernel
theorem dc_S_shareOut_54 : decode bc_S_shareOut 54 = .ok (.lload_n 1, 1) := by decide +kernel
theorem dc_S_shareOut_55 : decode bc_S_shareOut 55 = .ok (.ldiv, 1) := by decide +kernel
theorem dc_S_shareOut_56 : decode bc_S_shareOut 56 = .ok (.lastore, 1) := by decide +kernel
theorem dc_S_shareOut_57 : decode bc_S_shareOut 57 = .ok (.lload 5, 2) := by decide +kernel
theorem dc_S_shareOut_59 : decode bc_S_shareOut 59 = .ok (.aload_n 0, 1) := by decide +kernel
theorem dc_S_shareOut_60 : decode bc_S_shareOut 60 = .ok (.getfield 23, 3) := by decide +kernel
theorem dc_S_shareOut_63 : decode bc_S_shareOut 63 = .ok (.iload 7, 2) := by decide +kernel
theorem dc_S_shareOut_65 : decode bc_S_shareOut 65 = .ok (.laload, 1) := by decide +kernel
theorem dc_S_shareOut_66 : decode bc_S_shareOut 66 = .ok (.lsub, 1) := by decide +kernel
theorem dc_S_shareOut_67 : decode bc_S_shareOut 67 = .ok (.lstore 5, 2) := by decide +kernel
theorem dc_S_shareOut_69 : decode bc_S_shareOut 69 = .ok (.iinc 7 1, 3) := by decide +kernel
theorem dc_S_shareOut_72 : decode bc_S_shareOut 72 = .ok (.goto (-43), 3) := by decide +kernel
theorem dc_S_shareOut_75 : decode bc_S_shareOut 75 = .ok (.iconst 0, 1) := by decide +kernel
theorem dc_S_shareOut_76 : decode bc_S_shareOut 76 = .ok (.istore 7, 2) := by decide +kernel
theorem dc_S_shareOut_78 : decode bc_S_shareOut 78 = .ok (.iload 7, 2) := by decide +kernel
theorem dc_S_shareOut_80 : decode bc_S_shareOut 80 = .ok (.aload_n 0, 1) := by decide +kernel
theorem dc_S_shareOut_81 : decode bc_S_shareOut 81 = .ok (.getfield 23, 3) := by decide +kernel
theorem dc_S_shareOut_84 : decode bc_S_shareOut 84 = .ok (.arraylength, 1) := by decide +kernel
theorem dc_S_shareOut_85 : decode bc_S_shareOut 85 = .ok (.if_icmp .ge 35, 3) := by decide +kernel
theorem dc_S_shareOut_88 : decode bc_S_shareOut 88 = .ok (.aload_n 0, 1) := by decide +kernel
theorem dc_S_shareOut_89 : decode bc_S_shareOut 89 = .ok (.iload 7, 2) := by decide +kernel
theorem dc_S_shareOut_91 : decode bc_S_shareOut 91 = .ok (.lload_n 3, 1) := by decide +kernel
theorem dc_S_shareOut_92 : decode bc_S_shareOut 92 = .ok (.lload_n 1, 1) := by decide +kernel
theorem dc_S_shareOut_93 : decode bc_S_shareOut 93 = .ok (.invokevirtual 43, 3) := by decide +kernel
theorem dc_S_shareOut_96 : decode bc_S_shareOut 96 = .ok (.i2l, 1) := by decide +kernel
theorem dc_S_shareOut_97 : decode bc_S_shareOut 97 = .ok (.lload 5, 2) := by decide +kernel
theorem dc_S_shareOut_99 : decode bc_S_shareOut 99 = .ok (.lcmp, 1) := by decide +kernel
theorem dc_S_shareOut_100 : decode bc_S_shareOut 100 = .ok (.ifCond .ge 14, 3) := by decide +kernel
theorem dc_S_shareOut_103 : decode bc_S_shareOut 103 = .ok (.aload_n 0, 1) := by decide +kernel
theorem dc_S_shareOut_104 : decode bc_S_shareOut 104 = .ok (.getfield 23, 3) := by decide +kernel
theorem dc_S_shareOut_107 : decode bc_S_shareOut 107 = .ok (.iload 7, 2) := by decide +kernel
theorem dc_S_shareOut_109 : decode bc_S_shareOut 109 = .ok (.dup2, 1) := by decide +kernel
theorem dc_S_shareOut_110 : decode bc_S_shareOut 110 = .ok (.laload, 1) := by decide +kernel
theorem dc_S_shareOut_111 : decode bc_S_shareOut 111 = .ok (.lconst 1, 1) := by decide +kernel
theorem dc_S_shareOut_112 : decode bc_S_shareOut 112 = .ok (.ladd, 1) := by decide +kernel
theorem dc_S_shareOut_113 : decode bc_S_shareOut 113 = .ok (.lastore, 1) := by decide +kernel
theorem dc_S_shareOut_114 : decode bc_S_shareOut 114 = .ok (.iinc 7 1, 3) := by decide +kernel
theorem dc_S_shareOut_117 : decode bc_S_shareOut 117 = .ok (.goto (-39), 3) := by decide +kernel
theorem dc_S_shareOut_120 : decode bc_S_shareOut 120 = .ok (.aload_n 0, 1) := by decide +kernel
theorem dc_S_shareOut_121 : decode bc_S_shareOut 121 = .ok (.lload_n 3, 1) := by decide +kernel
theorem dc_S_shareOut_122 : decode bc_S_shareOut 122 = .ok (.putfield 47, 3) := by decide +kernel
theorem dc_S_shareOut_125 : decode bc_S_shareOut 125 = .ok (.iconst 1, 1) := by decide +kernel
theorem dc_S_shareOut_126 : decode bc_S_shareOut 126 = .ok (.ireturn, 1) := by decide +kernel
theorem dc_S_rankByRest_0 : decode bc_S_rankByRest 0 = .ok (.aload_n 0, 1) := by decide +kernel
theorem dc_S_rankByRest_1 : decode bc_S_rankByRest 1 = .ok (.iload_n 1, 1) := by decide +kernel
theorem dc_S_rankByRest_2 : decode bc_S_rankByRest 2 = .ok (.lload_n 2, 1) := by decide +kernel
theorem dc_S_rankByRest_3 : decode bc_S_rankByRest 3 = .ok (.lload 4, 2) := by decide +kernel
theorem dc_S_rankByRest_5 : decode bc_S_rankByRest 5 = .ok (.invokevirtual 50, 3) := by decide +kernel
theorem dc_S_rankByRest_8 : decode bc_S_rankByRest 8 = .ok (.lstore 6, 2) := by decide +kernel
theorem dc_S_rankByRest_10 : decode bc_S_rankByRest 10 = .ok (.iconst 0, 1) := by decide +kernel
theorem dc_S_rankByRest_11 : decode bc_S_rankByRest 11 = .ok (.istore 8, 2) := by decide +kernel
theorem dc_S_rankByRest_13 : decode bc_S_rankByRest 13 = .ok (.iconst 0, 1) := by decide +kernel
theorem dc_S_rankByRest_14 : decode bc_S_rankByRest 14 = .ok (.istore 9, 2) := by decide +kernel
theorem dc_S_rankByRest_16 : decode bc_S_rankByRest 16 = .ok (.iload 9, 2) := by decide +kernel
theorem dc_S_rankByRest_18 : decode bc_S_rankByRest 18 = .ok (.aload_n 0, 1) := by decide +kernel
theorem dc_S_rankByRest_19 : decode bc_S_rankByRest 19 = .ok (.getfield 19, 3) := by decide +kernel
theorem dc_S_rankByRest_22 : decode bc_S_rankByRest 22 = .ok (.arraylength, 1) := by decide +kernel
theorem dc_S_rankByRest_23 : decode bc_S_rankByRest 23 = .ok (.if_icmp .ge 45, 3) := by decide +kernel
theorem dc_S_rankByRest_26 : decode bc_S_rankByRest 26 = .ok (.aload_n 0, 1) := by decide +kernel
theorem dc_S_rankByRest_27 : decode bc_S_rankByRest 27 = .ok (.iload 9, 2) := by decide +kernel
theorem dc_S_rankByRest_29 : decode bc_S_rankByRest 29 = .ok (.lload_n 2, 1) := by decide +kernel
theorem dc_S_rankByRest_30 : decode bc_S_rankByRest 30 = .ok (.lload 4, 2) := by decide +kernel
theorem dc_S_rankByRest_32 : decode bc_S_rankByRest 32 = .ok (.invokevirtual 50, 3) := by decide +kernel
theorem dc_S_rankByRest_35 : decode bc_S_rankByRest 35 = .ok (.lstore 10, 2) := by decide +kernel
theorem dc_S_rankByRest_37 : decode bc_S_rankByRest 37 = .ok (.lload 10, 2) := by decide +kernel
theorem dc_S_rankByRest_39 : decode bc_S_rankByRest 39 = .ok (.lload 6, 2) := by decide +kernel
theorem dc_S_rankByRest_41 : decode bc_S_rankByRest 41 = .ok (.lcmp, 1) := by decide +kernel
theorem dc_S_rankByRest_42 : decode bc_S_rankByRest 42 = .ok (.ifCond .gt 17, 3) := by decide +kernel
theorem dc_S_rankByRest_45 : decode bc_S_rankByRest 45 = .ok (.lload 10, 2) := by decide +kernel
theorem dc_S_rankByRest_47 : decode bc_S_rankByRest 47 = .ok (.lload 6, 2) := by decide +kernel
theorem dc_S_rankByRest_49 : decode bc_S_rankByRest 49 = .ok (.lcmp, 1) := by decide +kernel
theorem dc_S_rankByRest_50 : decode bc_S_rankByRest 50 = .ok (.ifCond .ne 12, 3) := by decide +kernel
theorem dc_S_rankByRest_53 : decode bc_S_rankByRest 53 = .ok (.iload 9, 2) := by decide +kernel
theorem dc_S_rankByRest_55 : decode bc_S_rankByRest 55 = .ok (.iload_n 1, 1) := by decide +kernel
theorem dc_S_rankByRest_56 : decode bc_S_rankByRest 56 = .ok (.if_icmp .ge 6, 3) := by decide +kernel
theorem dc_S_rankByRest_59 : decode bc_S_rankByRest 59 = .ok (.iinc 8 1, 3) := by decide +kernel
theorem dc_S_rankByRest_62 : decode bc_S_rankByRest 62 = .ok (.iinc 9 1, 3) := by decide +kernel
theorem dc_S_rankByRest_65 : decode bc_S_rankByRest 65 = .ok (.goto (-49), 3) := by decide +kernel
theorem dc_S_rankByRest_68 : decode bc_S_rankByRest 68 = .ok (.iload 8, 2) := by decide +kernel
theorem dc_S_rankByRest_70 : decode bc_S_rankByRest 70 = .ok (.ireturn, 1) := by decide +kernel
theorem dc_S_restOf_0 : decode bc_S_restOf 0 = .ok (.lload 4, 2) := by decide +kernel
theorem dc_S_restOf_2 : decode bc_S_restOf 2 = .ok (.lconst 1, 1) := by decide +kernel
theorem dc_S_restOf_3 : decode bc_S_restOf 3 = .ok (.lcmp, 1) := by decide +kernel
theorem dc_S_restOf_4 : decode bc_S_restOf 4 = .ok (.ifCond .ge 7, 3) := by decide +kernel
theorem dc_S_restOf_7 : decode bc_S_restOf 7 = .ok (.lconst 0, 1) := by decide +kernel
theorem dc_S_restOf_8 : decode bc_S_restOf 8 = .ok (.goto 14, 3) := by decide +kernel
theorem dc_S_restOf_11 : decode bc_S_restOf 11 = .ok (.lload_n 2, 1) := by decide +kernel
theorem dc_S_restOf_12 : decode bc_S_restOf 12 = .ok (.aload_n 0, 1) := by decide +kernel
theorem dc_S_restOf_13 : decode bc_S_restOf 13 = .ok (.getfield 19, 3) := by decide +kernel
theorem dc_S_restOf_16 : decode bc_S_restOf 16 = .ok (.iload_n 1, 1) := by decide +kernel
theorem dc_S_restOf_17 : decode bc_S_restOf 17 = .ok (.laload, 1) := by decide +kernel
theorem dc_S_restOf_18 : decode bc_S_restOf 18 = .ok (.lmul, 1) := by decide +kernel
theorem dc_S_restOf_19 : decode bc_S_restOf 19 = .ok (.lload 4, 2) := by decide +kernel
theorem dc_S_restOf_21 : decode bc_S_restOf 21 = .ok (.lrem, 1) := by decide +kernel
theorem dc_S_restOf_22 : decode bc_S_restOf 22 = .ok (.lreturn, 1) := by decide +kernel
theorem dc_S_carryIn_0 : decode bc_S_carryIn 0 = .ok (.lconst 0, 1) := by decide +kernel
theorem dc_S_carryIn_1 : decode bc_S_carryIn 1 = .ok (.aload_n 0, 1) := by decide +kernel
theorem dc_S_carryIn_2 : decode bc_S_carryIn 2 = .ok (.getfield 23, 3) := by decide +kernel
theorem dc_S_carryIn_5 : decode bc_S_carryIn 5 = .ok (.iload_n 1, 1) := by decide +kernel
theorem dc_S_carryIn_6 : decode bc_S_carryIn 6 = .ok (.laload, 1) := by decide +kernel
theorem dc_S_carryIn_7 : decode bc_S_carryIn 7 = .ok (.lload_n 2, 1) := by decide +kernel
theorem dc_S_carryIn_8 : decode bc_S_carryIn 8 = .ok (.ladd, 1) := by decide +kernel
theorem dc_S_carryIn_9 : decode bc_S_carryIn 9 = .ok (.invokestatic 54, 3) := by decide +kernel
theorem dc_S_carryIn_12 : decode bc_S_carryIn 12 = .ok (.lstore 4, 2) := by decide +kernel
theorem dc_S_carryIn_14 : decode bc_S_carryIn 14 = .ok (.aload_n 0, 1) := by decide +kernel
theorem dc_S_carryIn_15 : decode bc_S_carryIn 15 = .ok (.dup, 1) := by decide +kernel
theorem dc_S_carryIn_16 : decode bc_S_carryIn 16 = .ok (.getfield 47, 3) := by decide +kernel
theorem dc_S_carryIn_19 : decode bc_S_carryIn 19 = .ok (.lload 4, 2) := by decide +kernel
theorem dc_S_carryIn_21 : decode bc_S_carryIn 21 = .ok (.aload_n 0, 1) := by decide +kernel
theorem dc_S_carryIn_22 : decode bc_S_carryIn 22 = .ok (.getfield 23, 3) := by decide +kernel
theorem dc_S_carryIn_25 : decode bc_S_carryIn 25 = .ok (.iload_n 1, 1) := by decide +kernel
theorem dc_S_carryIn_26 : decode bc_S_carryIn 26 = .ok (.laload, 1) := by decide +kernel
theorem dc_S_carryIn_27 : decode bc_S_carryIn 27 = .ok (.lsub, 1) := by decide +kernel
theorem dc_S_carryIn_28 : decode bc_S_carryIn 28 = .ok (.ladd, 1) := by decide +kernel
theorem dc_S_carryIn_29 : decode bc_S_carryIn 29 = .ok (.putfield 47, 3) := by decide +kernel
theorem dc_S_carryIn_32 : decode bc_S_carryIn 32 = .ok (.aload_n 0, 1) := by decide +kernel
theorem dc_S_carryIn_33 : decode bc_S_carryIn 33 = .ok (.getfield 23, 3) := by decide +kernel
theorem dc_S_carryIn_36 : decode bc_S_carryIn 36 = .ok (.iload_n 1, 1) := by decide +kernel
theorem dc_S_carryIn_37 : decode bc_S_carryIn 37 = .ok (.lload 4, 2) := by decide +kernel
theorem dc_S_carryIn_39 : decode bc_S_carryIn 39 = .ok (.lastore, 1) := by decide +kernel
theorem dc_S_carryIn_40 : decode bc_S_carryIn 40 = .ok (.return_, 1) := by decide +kernel
theorem dc_S_swapShare_0 : decode bc_S_swapShare 0 = .ok (.aload_n 0, 1) := by decide +kernel
theorem dc_S_swapShare_1 : decode bc_S_swapShare 1 = .ok (.getfield 23, 3) := by decide +kernel
theorem dc_S_swapShare_4 : decode bc_S_swapShare 4 = .ok (.iload_n 1, 1) := by decide +kernel
theorem dc_S_swapShare_5 : decode bc_S_swapShare 5 = .ok (.dup2, 1) := by decide +kernel
theorem dc_S_swapShare_6 : decode bc_S_swapShare 6 = .ok (.laload, 1) := by decide +kernel
theorem dc_S_swapShare_7 : decode bc_S_swapShare 7 = .ok (.lload_n 2, 1) := by decide +kernel
theorem dc_S_swapShare_8 : decode bc_S_swapShare 8 = .ok (.ladd, 1) := by decide +kernel
theorem dc_S_swapShare_9 : decode bc_S_swapShare 9 = .ok (.lastore, 1) := by decide +kernel
theorem dc_S_swapShare_10 : decode bc_S_swapShare 10 = .ok (.aload_n 0, 1) := by decide +kernel
theorem dc_S_swapShare_11 : decode bc_S_swapShare 11 = .ok (.dup, 1) := by decide +kernel
theorem dc_S_swapShare_12 : decode bc_S_swapShare 12 = .ok (.getfield 47, 3) := by decide +kernel
theorem dc_S_swapShare_15 : decode bc_S_swapShare 15 = .ok (.lload_n 2, 1) := by decide +kernel
theorem dc_S_swapShare_16 : decode bc_S_swapShare 16 = .ok (.ladd, 1) := by decide +kernel
theorem dc_S_swapShare_17 : decode bc_S_swapShare 17 = .ok (.putfield 47, 3) := by decide +kernel
theorem dc_S_swapShare_20 : decode bc_S_swapShare 20 = .ok (.return_, 1) := by decide +kernel
theorem dc_C_init_0 : decode bc_C_init 0 = .ok (.aload_n 0, 1) := by decide +kernel
theorem dc_C_init_1 : decode bc_C_init 1 = .ok (.invokespecial 1, 3) := by decide +kernel
theorem dc_C_init_4 : decode bc_C_init 4 = .ok (.aload_n 0, 1) := by decide +kernel
theorem dc_C_init_5 : decode bc_C_init 5 = .ok (.bipush 8, 2) := by decide +kernel
theorem dc_C_init_7 : decode bc_C_init 7 = .ok (.anewarray 9, 3) := by decide +kernel
theorem dc_C_init_10 : decode bc_C_init 10 = .ok (.putfield 11, 3) := by decide +kernel
theorem dc_C_init_13 : decode bc_C_init 13 = .ok (.aload_n 0, 1) := by decide +kernel
theorem dc_C_init_14 : decode bc_C_init 14 = .ok (.bipush 12, 2) := by decide +kernel
theorem dc_C_init_16 : decode bc_C_init 16 = .ok (.newarray .int, 2) := by decide +kernel
theorem dc_C_init_18 : decode bc_C_init 18 = .ok (.putfield 15, 3) := by decide +kernel
theorem dc_C_init_21 : decode bc_C_init 21 = .ok (.aload_n 0, 1) := by decide +kernel
theorem dc_C_init_22 : decode bc_C_init 22 = .ok (.bipush 12, 2) := by decide +kernel
theorem dc_C_init_24 : decode bc_C_init 24 = .ok (.newarray .int, 2) := by decide +kernel
theorem dc_C_init_26 : decode bc_C_init 26 = .ok (.putfield 19, 3) := by decide +kernel
theorem dc_C_init_29 : decode bc_C_init 29 = .ok (.aload_n 0, 1) := by decide +kernel
theorem dc_C_init_30 : decode bc_C_init 30 = .ok (.new 22, 3) := by decide +kernel
theorem dc_C_init_33 : decode bc_C_init 33 = .ok (.dup, 1) := by decide +kernel
theorem dc_C_init_34 : decode bc_C_init 34 = .ok (.invokespecial 24, 3) := by decide +kernel
theorem dc_C_init_37 : decode bc_C_init 37 = .ok (.putfield 25, 3) := by decide +kernel
theorem dc_C_init_40 : decode bc_C_init 40 = .ok (.aload_n 0, 1) := by decide +kernel
theorem dc_C_init_41 : decode bc_C_init 41 = .ok (.new 29, 3) := by decide +kernel
theorem dc_C_init_44 : decode bc_C_init 44 = .ok (.dup, 1) := by decide +kernel
theorem dc_C_init_45 : decode bc_C_init 45 = .ok (.invokespecial 31, 3) := by decide +kernel
theorem dc_C_init_48 : decode bc_C_init 48 = .ok (.putfield 32, 3) := by decide +kernel
theorem dc_C_init_51 : decode bc_C_init 51 = .ok (.aload_n 0, 1) := by decide +kernel
theorem dc_C_init_52 : decode bc_C_init 52 = .ok (.iconst 1, 1) := by decide +kernel
theorem dc_C_init_53 : decode bc_C_init 53 = .ok (.putfield 36, 3) := by decide +kernel
theorem dc_C_init_56 : decode bc_C_init 56 = .ok (.aload_n 0, 1) := by decide +kernel
theorem dc_C_init_57 : decode bc_C_init 57 = .ok (.iconst 1, 1) := by decide +kernel
theorem dc_C_init_58 : decode bc_C_init 58 = .ok (.putfield 40, 3) := by decide +kernel
theorem dc_C_init_61 : decode bc_C_init 61 = .ok (.return_, 1) := by decide +kernel
theorem dc_C_stock_0 : decode bc_C_stock 0 = .ok (.aload_n 0, 1) := by decide +kernel
theorem dc_C_stock_1 : decode bc_C_stock 1 = .ok (.getfield 43, 3) := by decide +kernel
theorem dc_C_stock_4 : decode bc_C_stock 4 = .ok (.bipush 8, 2) := by decide +kernel
theorem dc_C_stock_6 : decode bc_C_stock 6 = .ok (.if_icmp .ge 14, 3) := by decide +kernel
theorem dc_C_stock_9 : decode bc_C_stock 9 = .ok (.lload_n 1, 1) := by decide +kernel
theorem dc_C_stock_10 : decode bc_C_stock 10 = .ok (.lconst 0, 1) := by decide +kernel
theorem dc_C_stock_11 : decode bc_C_stock 11 = .ok (.ldc2_w 46, 3) := by decide +kernel
theorem dc_C_stock_14 : decode bc_C_stock 14 = .ok (.invokestatic 48, 3) := by decide +kernel
theorem dc_C_stock_17 : decode bc_C_stock 17 = .ok (.ifCond .ne 5, 3) := by decide +kernel
theorem dc_C_stock_20 : decode bc_C_stock 20 = .ok (.iconst (-1), 1) := by decide +kernel
theorem dc_C_stock_21 : decode bc_C_stock 21 = .ok (.ireturn, 1) := by decide +kernel
theorem dc_C_stock_22 : decode bc_C_stock 22 = .ok (.aload_n 0, 1) := by decide +kernel
theorem dc_C_stock_23 : decode bc_C_stock 23 = .ok (.getfield 43, 3) := by decide +kernel
theorem dc_C_stock_26 : decode bc_C_stock 26 = .ok (.istore_n 3, 1) := by decide +kernel
theorem dc_C_stock_27 : decode bc_C_stock 27 = .ok (.aload_n 0, 1) := by decide +kernel
theorem dc_C_stock_28 : decode bc_C_stock 28 = .ok (.getfield 11, 3) := by decide +kernel
theorem dc_C_stock_31 : decode bc_C_stock 31 = .ok (.iload_n 3, 1) := by decide +kernel
theorem dc_C_stock_32 : decode bc_C_stock 32 = .ok (.new 9, 3) := by decide +kernel
theorem dc_C_stock_35 : decode bc_C_stock 35 = .ok (.dup, 1) := by decide +kernel
theorem dc_C_stock_36 : decode bc_C_stock 36 = .ok (.iload_n 3, 1) := by decide +kernel
theorem dc_C_stock_37 : decode bc_C_stock 37 = .ok (.lload_n 1, 1) := by decide +kernel
theorem dc_C_stock_38 : decode bc_C_stock 38 = .ok (.invokespecial 52, 3) := by decide +kernel
theorem dc_C_stock_41 : decode bc_C_stock 41 = .ok (.aastore, 1) := by decide +kernel
theorem dc_C_stock_42 : decode bc_C_stock 42 = .ok (.aload_n 0, 1) := by decide +kernel
theorem dc_C_stock_43 : decode bc_C_stock 43 = .ok (.dup, 1) := by decide +kernel
theorem dc_C_stock_44 : decode bc_C_stock 44 = .ok (.getfield 43, 3) := by decide +kernel
theorem dc_C_stock_47 : decode bc_C_stock 47 = .ok (.iconst 1, 1) := by decide +kernel
theorem dc_C_stock_48 : decode bc_C_stock 48 = .ok (.iadd, 1) := by decide +kernel
theorem dc_C_stock_49 : decode bc_C_stock 49 = .ok (.putfield 43, 3) := by decide +kernel
theorem dc_C_stock_52 : decode bc_C_stock 52 = .ok (.iload_n 3, 1) := by decide +kernel
theorem dc_C_stock_53 : decode bc_C_stock 53 = .ok (.ireturn, 1) := by decide +kernel
theorem dc_C_holder_0 : decode bc_C_holder 0 = .ok (.aload_n 0, 1) := by decide +kernel
theorem dc_C_holder_1 : decode bc_C_holder 1 = .ok (.getfield 55, 3) := by decide +kernel
theorem dc_C_holder_4 : decode bc_C_holder 4 = .ok (.bipush 12, 2) := by decide +kernel
theorem dc_C_holder_6 : decode bc_C_holder 6 = .ok (.if_icmp .ge 10, 3) := by decide +kernel
theorem dc_C_holder_9 : decode bc_C_holder 9 = .ok (.iload_n 1, 1) := by decide +kernel
theorem dc_C_holder_10 : decode bc_C_holder 10 = .ok (.invokestatic 58, 3) := by decide +kernel
theorem dc_C_holder_13 : decode bc_C_holder 13 = .ok (.ifCond .ne 5, 3) := by decide +kernel
theorem dc_C_holder_16 : decode bc_C_holder 16 = .ok (.iconst (-1), 1) := by decide +kernel
theorem dc_C_holder_17 : decode bc_C_holder 17 = .ok (.ireturn, 1) := by decide +kernel
theorem dc_C_holder_18 : decode bc_C_holder 18 = .ok (.aload_n 0, 1) := by decide +kernel
theorem dc_C_holder_19 : decode bc_C_holder 19 = .ok (.getfield 55, 3) := by decide +kernel
theorem dc_C_holder_22 : decode bc_C_holder 22 = .ok (.istore_n 2, 1) := by decide +kernel
theorem dc_C_holder_23 : decode bc_C_holder 23 = .ok (.aload_n 0, 1) := by decide +kernel
theorem dc_C_holder_24 : decode bc_C_holder 24 = .ok (.getfield 15, 3) := by decide +kernel
theorem dc_C_holder_27 : decode bc_C_holder 27 = .ok (.iload_n 2, 1) := by decide +kernel
theorem dc_C_holder_28 : decode bc_C_holder 28 = .ok (.iload_n 1, 1) := by decide +kernel
theorem dc_C_holder_29 : decode bc_C_holder 29 = .ok (.iastore, 1) := by decide +kernel
theorem dc_C_holder_30 : decode bc_C_holder 30 = .ok (.aload_n 0, 1) := by decide +kernel
theorem dc_C_holder_31 : decode bc_C_holder 31 = .ok (.getfield 19, 3) := by decide +kernel
theorem dc_C_holder_34 : decode bc_C_holder 34 = .ok (.iload_n 2, 1) := by decide +kernel
theorem dc_C_holder_35 : decode bc_C_holder 35 = .ok (.iconst (-1), 1) := by decide +kernel
theorem dc_C_holder_36 : decode bc_C_holder 36 = .ok (.iastore, 1) := by decide +kernel
theorem dc_C_holder_37 : decode bc_C_holder 37 = .ok (.aload_n 0, 1) := by decide +kernel
theorem dc_C_holder_38 : decode bc_C_holder 38 = .ok (.dup, 1) := by decide +kernel
theorem dc_C_holder_39 : decode bc_C_holder 39 = .ok (.getfield 55, 3) := by decide +kernel
theorem dc_C_holder_42 : decode bc_C_holder 42 = .ok (.iconst 1, 1) := by decide +kernel
theorem dc_C_holder_43 : decode bc_C_holder 43 = .ok (.iadd, 1) := by decide +kernel
theorem dc_C_holder_44 : decode bc_C_holder 44 = .ok (.putfield 55, 3) := by decide +kernel
theorem dc_C_holder_47 : decode bc_C_holder 47 = .ok (.iload_n 2, 1) := by decide +kernel
theorem dc_C_holder_48 : decode bc_C_holder 48 = .ok (.ireturn, 1) := by decide +kernel
theorem dc_C_weight_0 : decode bc_C_weight 0 = .ok (.aload_n 0, 1) := by decide +kernel
theorem dc_C_weight_1 : decode bc_C_weight 1 = .ok (.iload_n 1, 1) := by decide +kernel
theorem dc_C_weight_2 : decode bc_C_weight 2 = .ok (.invokevirtual 62, 3) := by decide +kernel
theorem dc_C_weight_5 : decode bc_C_weight 5 = .ok (.astore 5, 2) := by decide +kernel
theorem dc_C_weight_7 : decode bc_C_weight 7 = .ok (.aload 5, 2) := by decide +kernel
theorem dc_C_weight_9 : decode bc_C_weight 9 = .ok (.ifnull 30, 3) := by decide +kernel
theorem dc_C_weight_12 : decode bc_C_weight 12 = .ok (.aload_n 0, 1) := by decide +kernel
theorem dc_C_weight_13 : decode bc_C_weight 13 = .ok (.iload_n 2, 1) := by decide +kernel
theorem dc_C_weight_14 : decode bc_C_weight 14 = .ok (.invokevirtual 66, 3) := by decide +kernel
theorem dc_C_weight_17 : decode bc_C_weight 17 = .ok (.ifCond .eq 22, 3) := by decide +kernel
theorem dc_C_weight_20 : decode bc_C_weight 20 = .ok (.aload 5, 2) := by decide +kernel
theorem dc_C_weight_22 : decode bc_C_weight 22 = .ok (.getfield 69, 3) := by decide +kernel
theorem dc_C_weight_25 : decode bc_C_weight 25 = .ok (.ifCond .ne 14, 3) := by decide +kernel
theorem dc_C_weight_28 : decode bc_C_weight 28 = .ok (.lload_n 3, 1) := by decide +kernel
theorem dc_C_weight_29 : decode bc_C_weight 29 = .ok (.lconst 0, 1) := by decide +kernel
theorem dc_C_weight_30 : decode bc_C_weight 30 = .ok (.ldc2_w 73, 3) := by decide +kernel
theorem dc_C_weight_33 : decode bc_C_weight 33 = .ok (.invokestatic 48, 3) := by decide +kernel
theorem dc_C_weight_36 : decode bc_C_weight 36 = .ok (.ifCond .ne 5, 3) := by decide +kernel
theorem dc_C_weight_39 : decode bc_C_weight 39 = .ok (.iconst 0, 1) := by decide +kernel
theorem dc_C_weight_40 : decode bc_C_weight 40 = .ok (.ireturn, 1) := by decide +kernel
theorem dc_C_weight_41 : decode bc_C_weight 41 = .ok (.aload 5, 2) := by decide +kernel
theorem dc_C_weight_43 : decode bc_C_weight 43 = .ok (.getfield 75, 3) := by decide +kernel
theorem dc_C_weight_46 : decode bc_C_weight 46 = .ok (.iload_n 2, 1) := by decide +kernel
theorem dc_C_weight_47 : decode bc_C_weight 47 = .ok (.lload_n 3, 1) := by decide +kernel
theorem dc_C_weight_48 : decode bc_C_weight 48 = .ok (.lastore, 1) := by decide +kernel
theorem dc_C_weight_49 : decode bc_C_weight 49 = .ok (.iconst 1, 1) := by decide +kernel
theorem dc_C_weight_50 : decode bc_C_weight 50 = .ok (.ireturn, 1) := by decide +kernel
theorem dc_C_aside_0 : decode bc_C_aside 0 = .ok (.aload_n 0, 1) := by decide +kernel
theorem dc_C_aside_1 : decode bc_C_aside 1 = .ok (.iload_n 1, 1) := by decide +kernel
theorem dc_C_aside_2 : decode bc_C_aside 2 = .ok (.invokevirtual 62, 3) := by decide +kernel
theorem dc_C_aside_5 : decode bc_C_aside 5 = .ok (.astore 4, 2) := by decide +kernel
theorem dc_C_aside_7 : decode bc_C_aside 7 = .ok (.aload 4, 2) := by decide +kernel
theorem dc_C_aside_9 : decode bc_C_aside 9 = .ok (.ifnull 24, 3) := by decide +kernel
theorem dc_C_aside_12 : decode bc_C_aside 12 = .ok (.aload 4, 2) := by decide +kernel
theorem dc_C_aside_14 : decode bc_C_aside 14 = .ok (.getfield 69, 3) := by decide +kernel
theorem dc_C_aside_17 : decode bc_C_aside 17 = .ok (.ifCond .ne 16, 3) := by decide +kernel
theorem dc_C_aside_20 : decode bc_C_aside 20 = .ok (.lload_n 2, 1) := by decide +kernel
theorem dc_C_aside_21 : decode bc_C_aside 21 = .ok (.lconst 0, 1) := by decide +kernel
theorem dc_C_aside_22 : decode bc_C_aside 22 = .ok (.aload 4, 2) := by decide +kernel
theorem dc_C_aside_24 : decode bc_C_aside 24 = .ok (.getfield 79, 3) := by decide +kernel
theorem dc_C_aside_27 : decode bc_C_aside 27 = .ok (.invokestatic 48, 3) := by decide +kernel
theorem dc_C_aside_30 : decode bc_C_aside 30 = .ok (.ifCond .ne 5, 3) := by decide +kernel
theorem dc_C_aside_33 : decode bc_C_aside 33 = .ok (.iconst 0, 1) := by decide +kernel
theorem dc_C_aside_34 : decode bc_C_aside 34 = .ok (.ireturn, 1) := by decide +kernel
theorem dc_C_aside_35 : decode bc_C_aside 35 = .ok (.aload 4, 2) := by decide +kernel
theorem dc_C_aside_37 : decode bc_C_aside 37 = .ok (.lload_n 2, 1) := by decide +kernel
theorem dc_C_aside_38 : decode bc_C_aside 38 = .ok (.putfield 83, 3) := by decide +kernel
theorem dc_C_aside_41 : decode bc_C_aside 41 = .ok (.iconst 1, 1) := by decide +kernel
theorem dc_C_aside_42 : decode bc_C_aside 42 = .ok (.ireturn, 1) := by decide +kernel
theorem dc_C_follows_0 : decode bc_C_follows 0 = .ok (.aload_n 0, 1) := by decide +kernel
theorem dc_C_follows_1 : decode bc_C_follows 1 = .ok (.iload_n 1, 1) := by decide +kernel
theorem dc_C_follows_2 : decode bc_C_follows 2 = .ok (.invokevirtual 62, 3) := by decide +kernel
theorem dc_C_follows_5 : decode bc_C_follows 5 = .ok (.astore_n 3, 1) := by decide +kernel
theorem dc_C_follows_6 : decode bc_C_follows 6 = .ok (.aload_n 0, 1) := by decide +kernel
theorem dc_C_follows_7 : decode bc_C_follows 7 = .ok (.iload_n 2, 1) := by decide +kernel
theorem dc_C_follows_8 : decode bc_C_follows 8 = .ok (.invokevirtual 62, 3) := by decide +kernel
theorem dc_C_follows_11 : decode bc_C_follows 11 = .ok (.astore 4, 2) := by decide +kernel
theorem dc_C_follows_13 : decode bc_C_follows 13 = .ok (.aload_n 3, 1) := by decide +kernel
theorem dc_C_follows_14 : decode bc_C_follows 14 = .ok (.ifnull 31, 3) := by decide +kernel
theorem dc_C_follows_17 : decode bc_C_follows 17 = .ok (.aload 4, 2) := by decide +kernel
theorem dc_C_follows_19 : decode bc_C_follows 19 = .ok (.ifnull 26, 3) := by decide +kernel
theorem dc_C_follows_22 : decode bc_C_follows 22 = .ok (.aload_n 3, 1) := by decide +kernel
theorem dc_C_follows_23 : decode bc_C_follows 23 = .ok (.getfield 69, 3) := by decide +kernel
theorem dc_C_follows_26 : decode bc_C_follows 26 = .ok (.ifCond .ne 19, 3) := by decide +kernel
theorem dc_C_follows_29 : decode bc_C_follows 29 = .ok (.aload 4, 2) := by decide +kernel
theorem dc_C_follows_31 : decode bc_C_follows 31 = .ok (.getfield 69, 3) := by decide +kernel
theorem dc_C_follows_34 : decode bc_C_follows 34 = .ok (.ifCond .eq 11, 3) := by decide +kernel
theorem dc_C_follows_37 : decode bc_C_follows 37 = .ok (.aload_n 3, 1) := by decide +kernel
theorem dc_C_follows_38 : decode bc_C_follows 38 = .ok (.getfield 86, 3) := by decide +kernel
theorem dc_C_follows_41 : decode bc_C_follows 41 = .ok (.iconst (-1), 1) := by decide +kernel
theorem dc_C_follows_42 : decode bc_C_follows 42 = .ok (.if_icmp .eq 5, 3) := by decide +kernel
theorem dc_C_follows_45 : decode bc_C_follows 45 = .ok (.iconst 0, 1) := by decide +kernel
theorem dc_C_follows_46 : decode bc_C_follows 46 = .ok (.ireturn, 1) := by decide +kernel
theorem dc_C_follows_47 : decode bc_C_follows 47 = .ok (.aload_n 3, 1) := by decide +kernel
theorem dc_C_follows_48 : decode bc_C_follows 48 = .ok (.iload_n 2, 1) := by decide +kernel
theorem dc_C_follows_49 : decode bc_C_follows 49 = .ok (.putfield 86, 3) := by decide +kernel
theorem dc_C_follows_52 : decode bc_C_follows 52 = .ok (.iconst 1, 1) := by decide +kernel
theorem dc_C_follows_53 : decode bc_C_follows 53 = .ok (.ireturn, 1) := by decide +kernel
theorem dc_C_part_0 : decode bc_C_part 0 = .ok (.aload_n 0, 1) := by decide +kernel
theorem dc_C_part_1 : decode bc_C_part 1 = .ok (.iload_n 1, 1) := by decide +kernel
theorem dc_C_part_2 : decode bc_C_part 2 = .ok (.invokevirtual 62, 3) := by decide +kernel
theorem dc_C_part_5 : decode bc_C_part 5 = .ok (.astore_n 2, 1) := by decide +kernel
theorem dc_C_part_6 : decode bc_C_part 6 = .ok (.aload_n 2, 1) := by decide +kernel
theorem dc_C_part_7 : decode bc_C_part 7 = .ok (.ifnull 17, 3) := by decide +kernel
theorem dc_C_part_10 : decode bc_C_part 10 = .ok (.aload_n 2, 1) := by decide +kernel
theorem dc_C_part_11 : decode bc_C_part 11 = .ok (.getfield 69, 3) := by decide +kernel
theorem dc_C_part_14 : decode bc_C_part 14 = .ok (.ifCond .ne 10, 3) := by decide +kernel
theorem dc_C_part_17 : decode bc_C_part 17 = .ok (.aload_n 2, 1) := by decide +kernel
theorem dc_C_part_18 : decode bc_C_part 18 = .ok (.invokevirtual 89, 3) := by decide +kernel
theorem dc_C_part_21 : decode bc_C_part 21 = .ok (.ifCond .ne 5, 3) := by decide +kernel
theorem dc_C_part_24 : decode bc_C_part 24 = .ok (.iconst (-1), 1) := by decide +kernel
theorem dc_C_part_25 : decode bc_C_part 25 = .ok (.ireturn, 1) := by decide +kernel
theorem dc_C_part_26 : decode bc_C_part 26 = .ok (.aload_n 0, 1) := by decide +kernel
theorem dc_C_part_27 : decode bc_C_part 27 = .ok (.aload_n 2, 1) := by decide +kernel
theorem dc_C_part_28 : decode bc_C_part 28 = .ok (.getfield 86, 3) := by decide +kernel
theorem dc_C_part_31 : decode bc_C_part 31 = .ok (.invokevirtual 62, 3) := by decide +kernel
theorem dc_C_part_34 : decode bc_C_part 34 = .ok (.astore_n 3, 1) := by decide +kernel
theorem dc_C_part_35 : decode bc_C_part 35 = .ok (.aload_n 3, 1) := by decide +kernel
theorem dc_C_part_36 : decode bc_C_part 36 = .ok (.ifnull 9, 3) := by decide +kernel
theorem dc_C_part_39 : decode bc_C_part 39 = .ok (.aload_n 0, 1) := by decide +kernel
theorem dc_C_part_40 : decode bc_C_part 40 = .ok (.aload_n 3, 1) := by decide +kernel
theorem dc_C_part_41 : decode bc_C_part 41 = .ok (.aload_n 2, 1) := by decide +kernel
theorem dc_C_part_42 : decode bc_C_part 42 = .ok (.invokevirtual 93, 3) := by decide +kernel
theorem dc_C_part_45 : decode bc_C_part 45 = .ok (.aload_n 2, 1) := by decide +kernel
theorem dc_C_part_46 : decode bc_C_part 46 = .ok (.iconst 1, 1) := by decide +kernel
theorem dc_C_part_47 : decode bc_C_part 47 = .ok (.putfield 69, 3) := by decide +kernel
theorem dc_C_part_50 : decode bc_C_part 50 = .ok (.aload_n 2, 1) := by decide +kernel
theorem dc_C_part_51 : decode bc_C_part 51 = .ok (.invokevirtual 97, 3) := by decide +kernel
theorem dc_C_part_54 : decode bc_C_part 54 = .ok (.ireturn, 1) := by decide +kernel
theorem dc_C_given_0 : decode bc_C_given 0 = .ok (.aload_n 0, 1) := by decide +kernel
theorem dc_C_given_1 : decode bc_C_given 1 = .ok (.iload_n 1, 1) := by decide +kernel
theorem dc_C_given_2 : decode bc_C_given 2 = .ok (.invokevirtual 62, 3) := by decide +kernel
theorem dc_C_given_5 : decode bc_C_given 5 = .ok (.astore_n 3, 1) := by decide +kernel
theorem dc_C_given_6 : decode bc_C_given 6 = .ok (.aload_n 3, 1) := by decide +kernel
theorem dc_C_given_7 : decode bc_C_given 7 = .ok (.ifnull 11, 3) := by decide +kernel
theorem dc_C_given_10 : decode bc_C_given 10 = .ok (.aload_n 0, 1) := by decide +kernel
theorem dc_C_given_11 : decode bc_C_given 11 = .ok (.iload_n 2, 1) := by decide +kernel
theorem dc_C_given_12 : decode bc_C_given 12 = .ok (.invokevirtual 66, 3) := by decide +kernel
theorem dc_C_given_15 : decode bc_C_given 15 = .ok (.ifCond .ne 7, 3) := by decide +kernel
theorem dc_C_given_18 : decode bc_C_given 18 = .ok (.ldc2_w 101, 3) := by decide +kernel
theorem dc_C_given_21 : decode bc_C_given 21 = .ok (.lreturn, 1) := by decide +kernel
theorem dc_C_given_22 : decode bc_C_given 22 = .ok (.aload_n 3, 1) := by decide +kernel
theorem dc_C_given_23 : decode bc_C_given 23 = .ok (.getfield 103, 3) := by decide +kernel
theorem dc_C_given_26 : decode bc_C_given 26 = .ok (.iload_n 2, 1) := by decide +kernel
theorem dc_C_given_27 : decode bc_C_given 27 = .ok (.laload, 1) := by decide +kernel
theorem dc_C_given_28 : decode bc_C_given 28 = .ok (.lreturn, 1) := by decide +kernel
theorem dc_C_land_0 : decode bc_C_land 0 = .ok (.aload_n 0, 1) := by decide +kernel
theorem dc_C_land_1 : decode bc_C_land 1 = .ok (.iload_n 1, 1) := by decide +kernel
theorem dc_C_land_2 : decode bc_C_land 2 = .ok (.invokevirtual 62, 3) := by decide +kernel
theorem dc_C_land_5 : decode bc_C_land 5 = .ok (.astore 7, 2) := by decide +kernel
theorem dc_C_land_7 : decode bc_C_land 7 = .ok (.aload 7, 2) := by decide +kernel
theorem dc_C_land_9 : decode bc_C_land 9 = .ok (.ifnull 19, 3) := by decide +kernel
theorem dc_C_land_12 : decode bc_C_land 12 = .ok (.aload_n 0, 1) := by decide +kernel
theorem dc_C_land_13 : decode bc_C_land 13 = .ok (.iload_n 2, 1) := by decide +kernel
theorem dc_C_land_14 : decode bc_C_land 14 = .ok (.invokevirtual 66, 3) := by decide +kernel
theorem dc_C_land_17 : decode bc_C_land 17 = .ok (.ifCond .eq 11, 3) := by decide +kernel
theorem dc_C_land_20 : decode bc_C_land 20 = .ok (.aload 7, 2) := by decide +kernel
theorem dc_C_land_22 : decode bc_C_land 22 = .ok (.getfield 69, 3) := by decide +kernel
theorem dc_C_land_25 : decode bc_C_land 25 = .ok (.ifCond .ne 5, 3) := by decide +kernel
theorem dc_C_land_28 : decode bc_C_land 28 = .ok (.iconst 0, 1) := by decide +kernel
theorem dc_C_land_29 : decode bc_C_land 29 = .ok (.ireturn, 1) := by decide +kernel
theorem dc_C_land_30 : decode bc_C_land 30 = .ok (.lload_n 3, 1) := by decide +kernel
theorem dc_C_land_31 : decode bc_C_land 31 = .ok (.lconst 1, 1) := by decide +kernel
theorem dc_C_land_32 : decode bc_C_land 32 = .ok (.ldc2_w 46, 3) := by decide +kernel
theorem dc_C_land_35 : decode bc_C_land 35 = .ok (.invokestatic 48, 3) := by decide +kernel
theorem dc_C_land_38 : decode bc_C_land 38 = .ok (.ifCond .eq 29, 3) := by decide +kernel
theorem dc_C_land_41 : decode bc_C_land 41 = .ok (.iload 5, 2) := by decide +kernel
theorem dc_C_land_43 : decode bc_C_land 43 = .ok (.i2l, 1) := by decide +kernel
theorem dc_C_land_44 : decode bc_C_land 44 = .ok (.lconst 0, 1) := by decide +kernel
theorem dc_C_land_45 : decode bc_C_land 45 = .ok (.ldc2_w 106, 3) := by decide +kernel
theorem dc_C_land_48 : decode bc_C_land 48 = .ok (.invokestatic 48, 3) := by decide +kernel
theorem dc_C_land_51 : decode bc_C_land 51 = .ok (.ifCond .eq 16, 3) := by decide +kernel
theorem dc_C_land_54 : decode bc_C_land 54 = .ok (.iload 6, 2) := by decide +kernel
theorem dc_C_land_56 : decode bc_C_land 56 = .ok (.i2l, 1) := by decide +kernel
theorem dc_C_land_57 : decode bc_C_land 57 = .ok (.lconst 0, 1) := by decide +kernel
theorem dc_C_land_58 : decode bc_C_land 58 = .ok (.ldc2_w 106, 3) := by decide +kernel
theorem dc_C_land_61 : decode bc_C_land 61 = .ok (.invokestatic 48, 3) := by decide +kernel
theorem dc_C_land_64 : decode bc_C_land 64 = .ok (.ifCond .ne 5, 3) := by decide +kernel
theorem dc_C_land_67 : decode bc_C_land 67 = .ok (.iconst 0, 1) := by decide +kernel
theorem dc_C_land_68 : decode bc_C_land 68 = .ok (.ireturn, 1) := by decide +kernel
theorem dc_C_land_69 : decode bc_C_land 69 = .ok (.iload 6, 2) := by decide +kernel
theorem dc_C_land_71 : decode bc_C_land 71 = .ok (.iload 5, 2) := by decide +kernel
theorem dc_C_land_73 : decode bc_C_land 73 = .ok (.if_icmp .ge 5, 3) := by decide +kernel
theorem dc_C_land_76 : decode bc_C_land 76 = .ok (.iconst 0, 1) := by decide +kernel
theorem dc_C_land_77 : decode bc_C_land 77 = .ok (.ireturn, 1) := by decide +kernel
theorem dc_C_land_78 : decode bc_C_land 78 = .ok (.aload_n 0, 1) := by decide +kernel
theorem dc_C_land_79 : decode bc_C_land 79 = .ok (.getfield 25, 3) := by decide +kernel
theorem dc_C_land_82 : decode bc_C_land 82 = .ok (.iload_n 1, 1) := by decide +kernel
theorem dc_C_land_83 : decode bc_C_land 83 = .ok (.iload_n 2, 1) := by decide +kernel
theorem dc_C_land_84 : decode bc_C_land 84 = .ok (.lload_n 3, 1) := by decide +kernel
theorem dc_C_land_85 : decode bc_C_land 85 = .ok (.iload 6, 2) := by decide +kernel
theorem dc_C_land_87 : decode bc_C_land 87 = .ok (.invokevirtual 108, 3) := by decide +kernel
theorem dc_C_land_90 : decode bc_C_land 90 = .ok (.ireturn, 1) := by decide +kernel
theorem dc_C_left_0 : decode bc_C_left 0 = .ok (.aload_n 0, 1) := by decide +kernel
theorem dc_C_left_1 : decode bc_C_left 1 = .ok (.iload_n 1, 1) := by decide +kernel
theorem dc_C_left_2 : decode bc_C_left 2 = .ok (.invokevirtual 62, 3) := by decide +kernel
theorem dc_C_left_5 : decode bc_C_left 5 = .ok (.astore 4, 2) := by decide +kernel
theorem dc_C_left_7 : decode bc_C_left 7 = .ok (.aload 4, 2) := by decide +kernel
theorem dc_C_left_9 : decode bc_C_left 9 = .ok (.ifnull 11, 3) := by decide +kernel
theorem dc_C_left_12 : decode bc_C_left 12 = .ok (.aload_n 0, 1) := by decide +kernel
theorem dc_C_left_13 : decode bc_C_left 13 = .ok (.iload_n 2, 1) := by decide +kernel
theorem dc_C_left_14 : decode bc_C_left 14 = .ok (.invokevirtual 66, 3) := by decide +kernel
theorem dc_C_left_17 : decode bc_C_left 17 = .ok (.ifCond .ne 7, 3) := by decide +kernel
theorem dc_C_left_20 : decode bc_C_left 20 = .ok (.ldc2_w 101, 3) := by decide +kernel
theorem dc_C_left_23 : decode bc_C_left 23 = .ok (.lreturn, 1) := by decide +kernel
theorem dc_C_left_24 : decode bc_C_left 24 = .ok (.aload_n 0, 1) := by decide +kernel
theorem dc_C_left_25 : decode bc_C_left 25 = .ok (.aload 4, 2) := by decide +kernel
theorem dc_C_left_27 : decode bc_C_left 27 = .ok (.iload_n 2, 1) := by decide +kernel
theorem dc_C_left_28 : decode bc_C_left 28 = .ok (.iload_n 3, 1) := by decide +kernel
theorem dc_C_left_29 : decode bc_C_left 29 = .ok (.invokevirtual 112, 3) := by decide +kernel
theorem dc_C_left_32 : decode bc_C_left 32 = .ok (.lreturn, 1) := by decide +kernel
theorem dc_C_transfer_0 : decode bc_C_transfer 0 = .ok (.aload_n 0, 1) := by decide +kernel
theorem dc_C_transfer_1 : decode bc_C_transfer 1 = .ok (.iload_n 1, 1) := by decide +kernel
theorem dc_C_transfer_2 : decode bc_C_transfer 2 = .ok (.invokevirtual 62, 3) := by decide +kernel
theorem dc_C_transfer_5 : decode bc_C_transfer 5 = .ok (.astore 6, 2) := by decide +kernel
theorem dc_C_transfer_7 : decode bc_C_transfer 7 = .ok (.aload 6, 2) := by decide +kernel
theorem dc_C_transfer_9 : decode bc_C_transfer 9 = .ok (.ifnull 24, 3) := by decide +kernel
theorem dc_C_transfer_12 : decode bc_C_transfer 12 = .ok (.aload_n 0, 1) := by decide +kernel
theorem dc_C_transfer_13 : decode bc_C_transfer 13 = .ok (.iload_n 2, 1) := by decide +kernel
theorem dc_C_transfer_14 : decode bc_C_transfer 14 = .ok (.invokevirtual 66, 3) := by decide +kernel
theorem dc_C_transfer_17 : decode bc_C_transfer 17 = .ok (.ifCond .eq 16, 3) := by decide +kernel
theorem dc_C_transfer_20 : decode bc_C_transfer 20 = .ok (.aload_n 0, 1) := by decide +kernel
theorem dc_C_transfer_21 : decode bc_C_transfer 21 = .ok (.iload_n 3, 1) := by decide +kernel
theorem dc_C_transfer_22 : decode bc_C_transfer 22 = .ok (.invokevirtual 66, 3) := by decide +kernel
theorem dc_C_transfer_25 : decode bc_C_transfer 25 = .ok (.ifCond .eq 8, 3) := by decide +kernel
theorem dc_C_transfer_28 : decode bc_C_transfer 28 = .ok (.iload_n 2, 1) := by decide +kernel
theorem dc_C_transfer_29 : decode bc_C_transfer 29 = .ok (.iload_n 3, 1) := by decide +kernel
theorem dc_C_transfer_30 : decode bc_C_transfer 30 = .ok (.if_icmp .ne 5, 3) := by decide +kernel
theorem dc_C_transfer_33 : decode bc_C_transfer 33 = .ok (.iconst (-1), 1) := by decide +kernel
theorem dc_C_transfer_34 : decode bc_C_transfer 34 = .ok (.ireturn, 1) := by decide +kernel
theorem dc_C_transfer_35 : decode bc_C_transfer 35 = .ok (.aload 6, 2) := by decide +kernel
theorem dc_C_transfer_37 : decode bc_C_transfer 37 = .ok (.getfield 69, 3) := by decide +kernel
theorem dc_C_transfer_40 : decode bc_C_transfer 40 = .ok (.ifCond .eq 15, 3) := by decide +kernel
theorem dc_C_transfer_43 : decode bc_C_transfer 43 = .ok (.lload 4, 2) := by decide +kernel
theorem dc_C_transfer_45 : decode bc_C_transfer 45 = .ok (.lconst 1, 1) := by decide +kernel
theorem dc_C_transfer_46 : decode bc_C_transfer 46 = .ok (.ldc2_w 46, 3) := by decide +kernel
theorem dc_C_transfer_49 : decode bc_C_transfer 49 = .ok (.invokestatic 48, 3) := by decide +kernel
theorem dc_C_transfer_52 : decode bc_C_transfer 52 = .ok (.ifCond .ne 5, 3) := by decide +kernel
theorem dc_C_transfer_55 : decode bc_C_transfer 55 = .ok (.iconst (-1), 1) := by decide +kernel
theorem dc_C_transfer_56 : decode bc_C_transfer 56 = .ok (.ireturn, 1) := by decide +kernel
theorem dc_C_transfer_57 : decode bc_C_transfer 57 = .ok (.aload_n 0, 1) := by decide +kernel
theorem dc_C_transfer_58 : decode bc_C_transfer 58 = .ok (.aload 6, 2) := by decide +kernel
theorem dc_C_transfer_60 : decode bc_C_transfer 60 = .ok (.iload_n 2, 1) := by decide +kernel
theorem dc_C_transfer_61 : decode bc_C_transfer 61 = .ok (.invokevirtual 116, 3) := by decide +kernel
theorem dc_C_transfer_64 : decode bc_C_transfer 64 = .ok (.lload 4, 2) := by decide +kernel
theorem dc_C_transfer_66 : decode bc_C_transfer 66 = .ok (.lcmp, 1) := by decide +kernel
theorem dc_C_transfer_67 : decode bc_C_transfer 67 = .ok (.ifCond .ge 5, 3) := by decide +kernel
theorem dc_C_transfer_70 : decode bc_C_transfer 70 = .ok (.iconst 1, 1) := by decide +kernel
theorem dc_C_transfer_71 : decode bc_C_transfer 71 = .ok (.ireturn, 1) := by decide +kernel
theorem dc_C_transfer_72 : decode bc_C_transfer 72 = .ok (.aload 6, 2) := by decide +kernel
theorem dc_C_transfer_74 : decode bc_C_transfer 74 = .ok (.getfield 103, 3) := by decide +kernel
theorem dc_C_transfer_77 : decode bc_C_transfer 77 = .ok (.iload_n 2, 1) := by decide +kernel
theorem dc_C_transfer_78 : decode bc_C_transfer 78 = .ok (.dup2, 1) := by decide +kernel
theorem dc_C_transfer_79 : decode bc_C_transfer 79 = .ok (.laload, 1) := by decide +kernel
theorem dc_C_transfer_80 : decode bc_C_transfer 80 = .ok (.lload 4, 2) := by decide +kernel
theorem dc_C_transfer_82 : decode bc_C_transfer 82 = .ok (.lsub, 1) := by decide +kernel
theorem dc_C_transfer_83 : decode bc_C_transfer 83 = .ok (.lastore, 1) := by decide +kernel
theorem dc_C_transfer_84 : decode bc_C_transfer 84 = .ok (.aload 6, 2) := by decide +kernel
theorem dc_C_transfer_86 : decode bc_C_transfer 86 = .ok (.getfield 103, 3) := by decide +kernel
theorem dc_C_transfer_89 : decode bc_C_transfer 89 = .ok (.iload_n 3, 1) := by decide +kernel
theorem dc_C_transfer_90 : decode bc_C_transfer 90 = .ok (.dup2, 1) := by decide +kernel
theorem dc_C_transfer_91 : decode bc_C_transfer 91 = .ok (.laload, 1) := by decide +kernel
theorem dc_C_transfer_92 : decode bc_C_transfer 92 = .ok (.lload 4, 2) := by decide +kernel
theorem dc_C_transfer_94 : decode bc_C_transfer 94 = .ok (.ladd, 1) := by decide +kernel
theorem dc_C_transfer_95 : decode bc_C_transfer 95 = .ok (.lastore, 1) := by decide +kernel
theorem dc_C_transfer_96 : decode bc_C_transfer 96 = .ok (.iconst 0, 1) := by decide +kernel
theorem dc_C_transfer_97 : decode bc_C_transfer 97 = .ok (.ireturn, 1) := by decide +kernel
theorem dc_C_swap_0 : decode bc_C_swap 0 = .ok (.aload_n 0, 1) := by decide +kernel
theorem dc_C_swap_1 : decode bc_C_swap 1 = .ok (.iload_n 1, 1) := by decide +kernel
theorem dc_C_swap_2 : decode bc_C_swap 2 = .ok (.invokevirtual 62, 3) := by decide +kernel
theorem dc_C_swap_5 : decode bc_C_swap 5 = .ok (.astore 8, 2) := by decide +kernel
theorem dc_C_swap_7 : decode bc_C_swap 7 = .ok (.aload_n 0, 1) := by decide +kernel
theorem dc_C_swap_8 : decode bc_C_swap 8 = .ok (.iload_n 2, 1) := by decide +kernel
theorem dc_C_swap_9 : decode bc_C_swap 9 = .ok (.invokevirtual 62, 3) := by decide +kernel
theorem dc_C_swap_12 : decode bc_C_swap 12 = .ok (.astore 9, 2) := by decide +kernel
theorem dc_C_swap_14 : decode bc_C_swap 14 = .ok (.aload 8, 2) := by decide +kernel
theorem dc_C_swap_16 : decode bc_C_swap 16 = .ok (.ifnull 22, 3) := by decide +kernel
theorem dc_C_swap_19 : decode bc_C_swap 19 = .ok (.aload 9, 2) := by decide +kernel
theorem dc_C_swap_21 : decode bc_C_swap 21 = .ok (.ifnull 17, 3) := by decide +kernel
theorem dc_C_swap_24 : decode bc_C_swap 24 = .ok (.aload_n 0, 1) := by decide +kernel
theorem dc_C_swap_25 : decode bc_C_swap 25 = .ok (.iload 5, 2) := by decide +kernel
theorem dc_C_swap_27 : decode bc_C_swap 27 = .ok (.invokevirtual 66, 3) := by decide +kernel
theorem dc_C_swap_30 : decode bc_C_swap 30 = .ok (.ifCond .eq 8, 3) := by decide +kernel
theorem dc_C_swap_33 : decode bc_C_swap 33 = .ok (.iload_n 1, 1) := by decide +kernel
theorem dc_C_swap_34 : decode bc_C_swap 34 = .ok (.iload_n 2, 1) := by decide +kernel
theorem dc_C_swap_35 : decode bc_C_swap 35 = .ok (.if_icmp .ne 5, 3) := by decide +kernel
theorem dc_C_swap_38 : decode bc_C_swap 38 = .ok (.iconst (-1), 1) := by decide +kernel
theorem dc_C_swap_39 : decode bc_C_swap 39 = .ok (.ireturn, 1) := by decide +kernel
theorem dc_C_swap_40 : decode bc_C_swap 40 = .ok (.aload 8, 2) := by decide +kernel
theorem dc_C_swap_42 : decode bc_C_swap 42 = .ok (.getfield 69, 3) := by decide +kernel
theorem dc_C_swap_45 : decode bc_C_swap 45 = .ok (.ifCond .eq 32, 3) := by decide +kernel
theorem dc_C_swap_48 : decode bc_C_swap 48 = .ok (.aload 9, 2) := by decide +kernel
theorem dc_C_swap_50 : decode bc_C_swap 50 = .ok (.getfield 69, 3) := by decide +kernel
theorem dc_C_swap_53 : decode bc_C_swap 53 = .ok (.ifCond .eq 24, 3) := by decide +kernel
theorem dc_C_swap_56 : decode bc_C_swap 56 = .ok (.iload_n 3, 1) := by decide +kernel
theorem dc_C_swap_57 : decode bc_C_swap 57 = .ok (.iload 4, 2) := by decide +kernel
theorem dc_C_swap_59 : decode bc_C_swap 59 = .ok (.invokestatic 120, 3) := by decide +kernel
theorem dc_C_swap_62 : decode bc_C_swap 62 = .ok (.ifCond .eq 15, 3) := by decide +kernel
theorem dc_C_swap_65 : decode bc_C_swap 65 = .ok (.lload 6, 2) := by decide +kernel
theorem dc_C_swap_67 : decode bc_C_swap 67 = .ok (.lconst 1, 1) := by decide +kernel
theorem dc_C_swap_68 : decode bc_C_swap 68 = .ok (.ldc2_w 46, 3) := by decide +kernel
theorem dc_C_swap_71 : decode bc_C_swap 71 = .ok (.invokestatic 48, 3) := by decide +kernel
theorem dc_C_swap_74 : decode bc_C_swap 74 = .ok (.ifCond .ne 5, 3) := by decide +kernel
theorem dc_C_swap_77 : decode bc_C_swap 77 = .ok (.iconst (-1), 1) := by decide +kernel
theorem dc_C_swap_78 : decode bc_C_swap 78 = .ok (.ireturn, 1) := by decide +kernel
theorem dc_C_swap_79 : decode bc_C_swap 79 = .ok (.aload_n 0, 1) := by decide +kernel
theorem dc_C_swap_80 : decode bc_C_swap 80 = .ok (.aload 8, 2) := by decide +kernel
theorem dc_C_swap_82 : decode bc_C_swap 82 = .ok (.iload 5, 2) := by decide +kernel
theorem dc_C_swap_84 : decode bc_C_swap 84 = .ok (.invokevirtual 116, 3) := by decide +kernel
theorem dc_C_swap_87 : decode bc_C_swap 87 = .ok (.lload 6, 2) := by decide +kernel
theorem dc_C_swap_89 : decode bc_C_swap 89 = .ok (.lcmp, 1) := by decide +kernel
theorem dc_C_swap_90 : decode bc_C_swap 90 = .ok (.ifCond .ge 5, 3) := by decide +kernel
theorem dc_C_swap_93 : decode bc_C_swap 93 = .ok (.iconst 1, 1) := by decide +kernel
theorem dc_C_swap_94 : decode bc_C_swap 94 = .ok (.ireturn, 1) := by decide +kernel
theorem dc_C_swap_95 : decode bc_C_swap 95 = .ok (.lload 6, 2) := by decide +kernel
theorem dc_C_swap_97 : decode bc_C_swap 97 = .ok (.iload_n 3, 1) := by decide +kernel
theorem dc_C_swap_98 : decode bc_C_swap 98 = .ok (.i2l, 1) := by decide +kernel
theorem dc_C_swap_99 : decode bc_C_swap 99 = .ok (.lmul, 1) := by decide +kernel
theorem dc_C_swap_100 : decode bc_C_swap 100 = .ok (.lstore 10, 2) := by decide +kernel
theorem dc_C_swap_102 : decode bc_C_swap 102 = .ok (.lload 10, 2) := by decide +kernel
theorem dc_C_swap_104 : decode bc_C_swap 104 = .ok (.iload 4, 2) := by decide +kernel
theorem dc_C_swap_106 : decode bc_C_swap 106 = .ok (.i2l, 1) := by decide +kernel
theorem dc_C_swap_107 : decode bc_C_swap 107 = .ok (.lrem, 1) := by decide +kernel
theorem dc_C_swap_108 : decode bc_C_swap 108 = .ok (.lconst 0, 1) := by decide +kernel
theorem dc_C_swap_109 : decode bc_C_swap 109 = .ok (.lcmp, 1) := by decide +kernel
theorem dc_C_swap_110 : decode bc_C_swap 110 = .ok (.ifCond .eq 5, 3) := by decide +kernel
theorem dc_C_swap_113 : decode bc_C_swap 113 = .ok (.iconst 2, 1) := by decide +kernel
theorem dc_C_swap_114 : decode bc_C_swap 114 = .ok (.ireturn, 1) := by decide +kernel
theorem dc_C_swap_115 : decode bc_C_swap 115 = .ok (.lload 10, 2) := by decide +kernel
theorem dc_C_swap_117 : decode bc_C_swap 117 = .ok (.iload 4, 2) := by decide +kernel
theorem dc_C_swap_119 : decode bc_C_swap 119 = .ok (.i2l, 1) := by decide +kernel
theorem dc_C_swap_120 : decode bc_C_swap 120 = .ok (.ldiv, 1) := by decide +kernel
theorem dc_C_swap_121 : decode bc_C_swap 121 = .ok (.lstore 12, 2) := by decide +kernel
theorem dc_C_swap_123 : decode bc_C_swap 123 = .ok (.aload 9, 2) := by decide +kernel
theorem dc_C_swap_125 : decode bc_C_swap 125 = .ok (.invokevirtual 124, 3) := by decide +kernel
theorem dc_C_swap_128 : decode bc_C_swap 128 = .ok (.lload 12, 2) := by decide +kernel
theorem dc_C_swap_130 : decode bc_C_swap 130 = .ok (.ladd, 1) := by decide +kernel
theorem dc_C_swap_131 : decode bc_C_swap 131 = .ok (.ldc2_w 128, 3) := by decide +kernel
theorem dc_C_swap_134 : decode bc_C_swap 134 = .ok (.lcmp, 1) := by decide +kernel
theorem dc_C_swap_135 : decode bc_C_swap 135 = .ok (.ifCond .le 5, 3) := by decide +kernel
theorem dc_C_swap_138 : decode bc_C_swap 138 = .ok (.iconst 2, 1) := by decide +kernel
theorem dc_C_swap_139 : decode bc_C_swap 139 = .ok (.ireturn, 1) := by decide +kernel
theorem dc_C_swap_140 : decode bc_C_swap 140 = .ok (.aload 8, 2) := by decide +kernel
theorem dc_C_swap_142 : decode bc_C_swap 142 = .ok (.iload 5, 2) := by decide +kernel
theorem dc_C_swap_144 : decode bc_C_swap 144 = .ok (.lload 6, 2) := by decide +kernel
theorem dc_C_swap_146 : decode bc_C_swap 146 = .ok (.lneg, 1) := by decide +kernel
theorem dc_C_swap_147 : decode bc_C_swap 147 = .ok (.invokevirtual 130, 3) := by decide +kernel
theorem dc_C_swap_150 : decode bc_C_swap 150 = .ok (.aload 9, 2) := by decide +kernel
theorem dc_C_swap_152 : decode bc_C_swap 152 = .ok (.iload 5, 2) := by decide +kernel
theorem dc_C_swap_154 : decode bc_C_swap 154 = .ok (.lload 12, 2) := by decide +kernel
theorem dc_C_swap_156 : decode bc_C_swap 156 = .ok (.invokevirtual 130, 3) := by decide +kernel
theorem dc_C_swap_159 : decode bc_C_swap 159 = .ok (.iconst 0, 1) := by decide +kernel
theorem dc_C_swap_160 : decode bc_C_swap 160 = .ok (.ireturn, 1) := by decide +kernel
theorem dc_C_over_0 : decode bc_C_over 0 = .ok (.aload_n 0, 1) := by decide +kernel
theorem dc_C_over_1 : decode bc_C_over 1 = .ok (.iload_n 1, 1) := by decide +kernel
theorem dc_C_over_2 : decode bc_C_over 2 = .ok (.invokevirtual 62, 3) := by decide +kernel
theorem dc_C_over_5 : decode bc_C_over 5 = .ok (.astore_n 3, 1) := by decide +kernel
theorem dc_C_over_6 : decode bc_C_over 6 = .ok (.aload_n 3, 1) := by decide +kernel
theorem dc_C_over_7 : decode bc_C_over 7 = .ok (.ifnull 11, 3) := by decide +kernel
theorem dc_C_over_10 : decode bc_C_over 10 = .ok (.aload_n 0, 1) := by decide +kernel
theorem dc_C_over_11 : decode bc_C_over 11 = .ok (.iload_n 2, 1) := by decide +kernel
theorem dc_C_over_12 : decode bc_C_over 12 = .ok (.invokevirtual 66, 3) := by decide +kernel
theorem dc_C_over_15 : decode bc_C_over 15 = .ok (.ifCond .ne 7, 3) := by decide +kernel
theorem dc_C_over_18 : decode bc_C_over 18 = .ok (.ldc2_w 101, 3) := by decide +kernel
theorem dc_C_over_21 : decode bc_C_over 21 = .ok (.lreturn, 1) := by decide +kernel
theorem dc_C_over_22 : decode bc_C_over 22 = .ok (.aload_n 0, 1) := by decide +kernel
theorem dc_C_over_23 : decode bc_C_over 23 = .ok (.aload_n 3, 1) := by decide +kernel
theorem dc_C_over_24 : decode bc_C_over 24 = .ok (.iload_n 2, 1) := by decide +kernel
theorem dc_C_over_25 : decode bc_C_over 25 = .ok (.invokevirtual 133, 3) := by decide +kernel
theorem dc_C_over_28 : decode bc_C_over 28 = .ok (.lreturn, 1) := by decide +kernel
theorem dc_C_carried_0 : decode bc_C_carried 0 = .ok (.aload_n 0, 1) := by decide +kernel
theorem dc_C_carried_1 : decode bc_C_carried 1 = .ok (.iload_n 1, 1) := by decide +kernel
theorem dc_C_carried_2 : decode bc_C_carried 2 = .ok (.invokevirtual 62, 3) := by decide +kernel
theorem dc_C_carried_5 : decode bc_C_carried 5 = .ok (.astore_n 3, 1) := by decide +kernel
theorem dc_C_carried_6 : decode bc_C_carried 6 = .ok (.aload_n 3, 1) := by decide +kernel
theorem dc_C_carried_7 : decode bc_C_carried 7 = .ok (.ifnull 11, 3) := by decide +kernel
theorem dc_C_carried_10 : decode bc_C_carried 10 = .ok (.aload_n 0, 1) := by decide +kernel
theorem dc_C_carried_11 : decode bc_C_carried 11 = .ok (.iload_n 2, 1) := by decide +kernel
theorem dc_C_carried_12 : decode bc_C_carried 12 = .ok (.invokevirtual 66, 3) := by decide +kernel
theorem dc_C_carried_15 : decode bc_C_carried 15 = .ok (.ifCond .ne 7, 3) := by decide +kernel
theorem dc_C_carried_18 : decode bc_C_carried 18 = .ok (.ldc2_w 101, 3) := by decide +kernel
theorem dc_C_carried_21 : decode bc_C_carried 21 = .ok (.lreturn, 1) := by decide +kernel
theorem dc_C_carried_22 : decode bc_C_carried 22 = .ok (.aload_n 0, 1) := by decide +kernel
theorem dc_C_carried_23 : decode bc_C_carried 23 = .ok (.aload_n 3, 1) := by decide +kernel
theorem dc_C_carried_24 : decode bc_C_carried 24 = .ok (.iload_n 2, 1) := by decide +kernel
theorem dc_C_carried_25 : decode bc_C_carried 25 = .ok (.invokevirtual 136, 3) := by decide +kernel
theorem dc_C_carried_28 : decode bc_C_carried 28 = .ok (.lreturn, 1) := by decide +kernel
theorem dc_C_penalty_0 : decode bc_C_penalty 0 = .ok (.iload_n 1, 1) := by decide +kernel
theorem dc_C_penalty_1 : decode bc_C_penalty 1 = .ok (.iload_n 2, 1) := by decide +kernel
theorem dc_C_penalty_2 : decode bc_C_penalty 2 = .ok (.invokestatic 120, 3) := by decide +kernel
theorem dc_C_penalty_5 : decode bc_C_penalty 5 = .ok (.ifCond .ne 5, 3) := by decide +kernel
theorem dc_C_penalty_8 : decode bc_C_penalty 8 = .ok (.iconst 0, 1) := by decide +kernel
theorem dc_C_penalty_9 : decode bc_C_penalty 9 = .ok (.ireturn, 1) := by decide +kernel
theorem dc_C_penalty_10 : decode bc_C_penalty 10 = .ok (.aload_n 0, 1) := by decide +kernel
theorem dc_C_penalty_11 : decode bc_C_penalty 11 = .ok (.iload_n 1, 1) := by decide +kernel
theorem dc_C_penalty_12 : decode bc_C_penalty 12 = .ok (.putfield 36, 3) := by decide +kernel
theorem dc_C_penalty_15 : decode bc_C_penalty 15 = .ok (.aload_n 0, 1) := by decide +kernel
theorem dc_C_penalty_16 : decode bc_C_penalty 16 = .ok (.iload_n 2, 1) := by decide +kernel
theorem dc_C_penalty_17 : decode bc_C_penalty 17 = .ok (.putfield 40, 3) := by decide +kernel
theorem dc_C_penalty_20 : decode bc_C_penalty 20 = .ok (.iconst 1, 1) := by decide +kernel
theorem dc_C_penalty_21 : decode bc_C_penalty 21 = .ok (.ireturn, 1) := by decide +kernel
theorem dc_C_into_0 : decode bc_C_into 0 = .ok (.aload_n 0, 1) := by decide +kernel
theorem dc_C_into_1 : decode bc_C_into 1 = .ok (.iload_n 1, 1) := by decide +kernel
theorem dc_C_into_2 : decode bc_C_into 2 = .ok (.invokevirtual 66, 3) := by decide +kernel
theorem dc_C_into_5 : decode bc_C_into 5 = .ok (.ifCond .eq 15, 3) := by decide +kernel
theorem dc_C_into_8 : decode bc_C_into 8 = .ok (.iload_n 2, 1) := by decide +kernel
theorem dc_C_into_9 : decode bc_C_into 9 = .ok (.iconst (-1), 1) := by decide +kernel
theorem dc_C_into_10 : decode bc_C_into 10 = .ok (.if_icmp .eq 12, 3) := by decide +kernel
theorem dc_C_into_13 : decode bc_C_into 13 = .ok (.iload_n 2, 1) := by decide +kernel
theorem dc_C_into_14 : decode bc_C_into 14 = .ok (.invokestatic 139, 3) := by decide +kernel
theorem dc_C_into_17 : decode bc_C_into 17 = .ok (.ifCond .ne 5, 3) := by decide +kernel
theorem dc_C_into_20 : decode bc_C_into 20 = .ok (.iconst 0, 1) := by decide +kernel
theorem dc_C_into_21 : decode bc_C_into 21 = .ok (.ireturn, 1) := by decide +kernel
theorem dc_C_into_22 : decode bc_C_into 22 = .ok (.aload_n 0, 1) := by decide +kernel
theorem dc_C_into_23 : decode bc_C_into 23 = .ok (.getfield 19, 3) := by decide +kernel
theorem dc_C_into_26 : decode bc_C_into 26 = .ok (.iload_n 1, 1) := by decide +kernel
theorem dc_C_into_27 : decode bc_C_into 27 = .ok (.iload_n 2, 1) := by decide +kernel
theorem dc_C_into_28 : decode bc_C_into 28 = .ok (.iastore, 1) := by decide +kernel
theorem dc_C_into_29 : decode bc_C_into 29 = .ok (.iconst 1, 1) := by decide +kernel
theorem dc_C_into_30 : decode bc_C_into 30 = .ok (.ireturn, 1) := by decide +kernel
theorem dc_C_pooled_0 : decode bc_C_pooled 0 = .ok (.aload_n 0, 1) := by decide +kernel
theorem dc_C_pooled_1 : decode bc_C_pooled 1 = .ok (.iload_n 1, 1) := by decide +kernel
theorem dc_C_pooled_2 : decode bc_C_pooled 2 = .ok (.invokevirtual 62, 3) := by decide +kernel
theorem dc_C_pooled_5 : decode bc_C_pooled 5 = .ok (.astore_n 3, 1) := by decide +kernel
theorem dc_C_pooled_6 : decode bc_C_pooled 6 = .ok (.aload_n 3, 1) := by decide +kernel
theorem dc_C_pooled_7 : decode bc_C_pooled 7 = .ok (.ifnull 10, 3) := by decide +kernel
theorem dc_C_pooled_10 : decode bc_C_pooled 10 = .ok (.iload_n 2, 1) := by decide +kernel
theorem dc_C_pooled_11 : decode bc_C_pooled 11 = .ok (.invokestatic 139, 3) := by decide +kernel
theorem dc_C_pooled_14 : decode bc_C_pooled 14 = .ok (.ifCond .ne 7, 3) := by decide +kernel
theorem dc_C_pooled_17 : decode bc_C_pooled 17 = .ok (.ldc2_w 101, 3) := by decide +kernel
theorem dc_C_pooled_20 : decode bc_C_pooled 20 = .ok (.lreturn, 1) := by decide +kernel
theorem dc_C_pooled_21 : decode bc_C_pooled 21 = .ok (.lconst 0, 1) := by decide +kernel
theorem dc_C_pooled_22 : decode bc_C_pooled 22 = .ok (.lstore 4, 2) := by decide +kernel
theorem dc_C_pooled_24 : decode bc_C_pooled 24 = .ok (.iconst 0, 1) := by decide +kernel
theorem dc_C_pooled_25 : decode bc_C_pooled 25 = .ok (.istore 6, 2) := by decide +kernel
theorem dc_C_pooled_27 : decode bc_C_pooled 27 = .ok (.iload 6, 2) := by decide +kernel
theorem dc_C_pooled_29 : decode bc_C_pooled 29 = .ok (.aload_n 0, 1) := by decide +kernel
theorem dc_C_pooled_30 : decode bc_C_pooled 30 = .ok (.getfield 55, 3) := by decide +kernel
theorem dc_C_pooled_33 : decode bc_C_pooled 33 = .ok (.if_icmp .ge 32, 3) := by decide +kernel
theorem dc_C_pooled_36 : decode bc_C_pooled 36 = .ok (.aload_n 0, 1) := by decide +kernel
theorem dc_C_pooled_37 : decode bc_C_pooled 37 = .ok (.getfield 19, 3) := by decide +kernel
theorem dc_C_pooled_40 : decode bc_C_pooled 40 = .ok (.iload 6, 2) := by decide +kernel
theorem dc_C_pooled_42 : decode bc_C_pooled 42 = .ok (.iaload, 1) := by decide +kernel
theorem dc_C_pooled_43 : decode bc_C_pooled 43 = .ok (.iload_n 2, 1) := by decide +kernel
theorem dc_C_pooled_44 : decode bc_C_pooled 44 = .ok (.if_icmp .ne 15, 3) := by decide +kernel
theorem dc_C_pooled_47 : decode bc_C_pooled 47 = .ok (.lload 4, 2) := by decide +kernel
theorem dc_C_pooled_49 : decode bc_C_pooled 49 = .ok (.aload_n 0, 1) := by decide +kernel
theorem dc_C_pooled_50 : decode bc_C_pooled 50 = .ok (.aload_n 3, 1) := by decide +kernel
theorem dc_C_pooled_51 : decode bc_C_pooled 51 = .ok (.iload 6, 2) := by decide +kernel
theorem dc_C_pooled_53 : decode bc_C_pooled 53 = .ok (.invokevirtual 116, 3) := by decide +kernel
theorem dc_C_pooled_56 : decode bc_C_pooled 56 = .ok (.ladd, 1) := by decide +kernel
theorem dc_C_pooled_57 : decode bc_C_pooled 57 = .ok (.lstore 4, 2) := by decide +kernel
theorem dc_C_pooled_59 : decode bc_C_pooled 59 = .ok (.iinc 6 1, 3) := by decide +kernel
theorem dc_C_pooled_62 : decode bc_C_pooled 62 = .ok (.goto (-35), 3) := by decide +kernel
theorem dc_C_pooled_65 : decode bc_C_pooled 65 = .ok (.lload 4, 2) := by decide +kernel
theorem dc_C_pooled_67 : decode bc_C_pooled 67 = .ok (.lreturn, 1) := by decide +kernel
theorem dc_C_owns_0 : decode bc_C_owns 0 = .ok (.iload_n 1, 1) := by decide +kernel
theorem dc_C_owns_1 : decode bc_C_owns 1 = .ok (.invokestatic 58, 3) := by decide +kernel
theorem dc_C_owns_4 : decode bc_C_owns 4 = .ok (.ifCond .eq 22, 3) := by decide +kernel
theorem dc_C_owns_7 : decode bc_C_owns 7 = .ok (.iload_n 2, 1) := by decide +kernel
theorem dc_C_owns_8 : decode bc_C_owns 8 = .ok (.invokestatic 58, 3) := by decide +kernel
theorem dc_C_owns_11 : decode bc_C_owns 11 = .ok (.ifCond .eq 15, 3) := by decide +kernel
theorem dc_C_owns_14 : decode bc_C_owns 14 = .ok (.iload_n 3, 1) := by decide +kernel
theorem dc_C_owns_15 : decode bc_C_owns 15 = .ok (.i2l, 1) := by decide +kernel
theorem dc_C_owns_16 : decode bc_C_owns 16 = .ok (.lconst 0, 1) := by decide +kernel
theorem dc_C_owns_17 : decode bc_C_owns 17 = .ok (.ldc2_w 142, 3) := by decide +kernel
theorem dc_C_owns_20 : decode bc_C_owns 20 = .ok (.invokestatic 48, 3) := by decide +kernel
theorem dc_C_owns_23 : decode bc_C_owns 23 = .ok (.ifCond .ne 5, 3) := by decide +kernel
theorem dc_C_owns_26 : decode bc_C_owns 26 = .ok (.iconst 0, 1) := by decide +kernel
theorem dc_C_owns_27 : decode bc_C_owns 27 = .ok (.ireturn, 1) := by decide +kernel
theorem dc_C_owns_28 : decode bc_C_owns 28 = .ok (.iload_n 3, 1) := by decide +kernel
theorem dc_C_owns_29 : decode bc_C_owns 29 = .ok (.ifCond .le 16, 3) := by decide +kernel
theorem dc_C_owns_32 : decode bc_C_owns 32 = .ok (.aload_n 0, 1) := by decide +kernel
theorem dc_C_owns_33 : decode bc_C_owns 33 = .ok (.iload_n 2, 1) := by decide +kernel
theorem dc_C_owns_34 : decode bc_C_owns 34 = .ok (.iload_n 1, 1) := by decide +kernel
theorem dc_C_owns_35 : decode bc_C_owns 35 = .ok (.invokevirtual 144, 3) := by decide +kernel
theorem dc_C_owns_38 : decode bc_C_owns 38 = .ok (.lconst 0, 1) := by decide +kernel
theorem dc_C_owns_39 : decode bc_C_owns 39 = .ok (.lcmp, 1) := by decide +kernel
theorem dc_C_owns_40 : decode bc_C_owns 40 = .ok (.ifCond .le 5, 3) := by decide +kernel
theorem dc_C_owns_43 : decode bc_C_owns 43 = .ok (.iconst 0, 1) := by decide +kernel
theorem dc_C_owns_44 : decode bc_C_owns 44 = .ok (.ireturn, 1) := by decide +kernel
theorem dc_C_owns_45 : decode bc_C_owns 45 = .ok (.aload_n 0, 1) := by decide +kernel
theorem dc_C_owns_46 : decode bc_C_owns 46 = .ok (.getfield 32, 3) := by decide +kernel
theorem dc_C_owns_49 : decode bc_C_owns 49 = .ok (.iload_n 1, 1) := by decide +kernel
theorem dc_C_owns_50 : decode bc_C_owns 50 = .ok (.iload_n 2, 1) := by decide +kernel
theorem dc_C_owns_51 : decode bc_C_owns 51 = .ok (.iload_n 3, 1) := by decide +kernel
theorem dc_C_owns_52 : decode bc_C_owns 52 = .ok (.invokevirtual 148, 3) := by decide +kernel
theorem dc_C_owns_55 : decode bc_C_owns 55 = .ok (.ireturn, 1) := by decide +kernel
theorem dc_C_hold_0 : decode bc_C_hold 0 = .ok (.iload_n 1, 1) := by decide +kernel
theorem dc_C_hold_1 : decode bc_C_hold 1 = .ok (.invokestatic 58, 3) := by decide +kernel
theorem dc_C_hold_4 : decode bc_C_hold 4 = .ok (.ifCond .eq 10, 3) := by decide +kernel
theorem dc_C_hold_7 : decode bc_C_hold 7 = .ok (.iload_n 2, 1) := by decide +kernel
theorem dc_C_hold_8 : decode bc_C_hold 8 = .ok (.invokestatic 58, 3) := by decide +kernel
theorem dc_C_hold_11 : decode bc_C_hold 11 = .ok (.ifCond .ne 7, 3) := by decide +kernel
theorem dc_C_hold_14 : decode bc_C_hold 14 = .ok (.ldc2_w 101, 3) := by decide +kernel
theorem dc_C_hold_17 : decode bc_C_hold 17 = .ok (.lreturn, 1) := by decide +kernel
theorem dc_C_hold_18 : decode bc_C_hold 18 = .ok (.aload_n 0, 1) := by decide +kernel
theorem dc_C_hold_19 : decode bc_C_hold 19 = .ok (.iload_n 1, 1) := by decide +kernel
theorem dc_C_hold_20 : decode bc_C_hold 20 = .ok (.iload_n 2, 1) := by decide +kernel
theorem dc_C_hold_21 : decode bc_C_hold 21 = .ok (.invokevirtual 144, 3) := by decide +kernel
theorem dc_C_hold_24 : decode bc_C_hold 24 = .ok (.lreturn, 1) := by decide +kernel
theorem dc_C_cap_0 : decode bc_C_cap 0 = .ok (.aload_n 0, 1) := by decide +kernel
theorem dc_C_cap_1 : decode bc_C_cap 1 = .ok (.iload_n 1, 1) := by decide +kernel
theorem dc_C_cap_2 : decode bc_C_cap 2 = .ok (.invokevirtual 62, 3) := by decide +kernel
theorem dc_C_cap_5 : decode bc_C_cap 5 = .ok (.astore_n 3, 1) := by decide +kernel
theorem dc_C_cap_6 : decode bc_C_cap 6 = .ok (.aload_n 3, 1) := by decide +kernel
theorem dc_C_cap_7 : decode bc_C_cap 7 = .ok (.ifnull 15, 3) := by decide +kernel
theorem dc_C_cap_10 : decode bc_C_cap 10 = .ok (.iload_n 2, 1) := by decide +kernel
theorem dc_C_cap_11 : decode bc_C_cap 11 = .ok (.i2l, 1) := by decide +kernel
theorem dc_C_cap_12 : decode bc_C_cap 12 = .ok (.lconst 0, 1) := by decide +kernel
theorem dc_C_cap_13 : decode bc_C_cap 13 = .ok (.ldc2_w 142, 3) := by decide +kernel
theorem dc_C_cap_16 : decode bc_C_cap 16 = .ok (.invokestatic 48, 3) := by decide +kernel
theorem dc_C_cap_19 : decode bc_C_cap 19 = .ok (.ifCond .ne 5, 3) := by decide +kernel
theorem dc_C_cap_22 : decode bc_C_cap 22 = .ok (.iconst 0, 1) := by decide +kernel
theorem dc_C_cap_23 : decode bc_C_cap 23 = .ok (.ireturn, 1) := by decide +kernel
theorem dc_C_cap_24 : decode bc_C_cap 24 = .ok (.aload_n 3, 1) := by decide +kernel
theorem dc_C_cap_25 : decode bc_C_cap 25 = .ok (.iload_n 2, 1) := by decide +kernel
theorem dc_C_cap_26 : decode bc_C_cap 26 = .ok (.putfield 152, 3) := by decide +kernel
theorem dc_C_cap_29 : decode bc_C_cap 29 = .ok (.iconst 1, 1) := by decide +kernel
theorem dc_C_cap_30 : decode bc_C_cap 30 = .ok (.ireturn, 1) := by decide +kernel
theorem dc_C_capped_0 : decode bc_C_capped 0 = .ok (.iload_n 1, 1) := by decide +kernel
theorem dc_C_capped_1 : decode bc_C_capped 1 = .ok (.invokestatic 58, 3) := by decide +kernel
theorem dc_C_capped_4 : decode bc_C_capped 4 = .ok (.ifCond .ne 5, 3) := by decide +kernel
theorem dc_C_capped_7 : decode bc_C_capped 7 = .ok (.iconst 0, 1) := by decide +kernel
theorem dc_C_capped_8 : decode bc_C_capped 8 = .ok (.ireturn, 1) := by decide +kernel
theorem dc_C_capped_9 : decode bc_C_capped 9 = .ok (.aload_n 0, 1) := by decide +kernel
theorem dc_C_capped_10 : decode bc_C_capped 10 = .ok (.getfield 32, 3) := by decide +kernel
theorem dc_C_capped_13 : decode bc_C_capped 13 = .ok (.iload_n 1, 1) := by decide +kernel
theorem dc_C_capped_14 : decode bc_C_capped 14 = .ok (.invokevirtual 155, 3) := by decide +kernel
theorem dc_C_capped_17 : decode bc_C_capped 17 = .ok (.iconst 0, 1) := by decide +kernel
theorem dc_C_capped_18 : decode bc_C_capped 18 = .ok (.istore_n 2, 1) := by decide +kernel
theorem dc_C_capped_19 : decode bc_C_capped 19 = .ok (.iload_n 2, 1) := by decide +kernel
theorem dc_C_capped_20 : decode bc_C_capped 20 = .ok (.aload_n 0, 1) := by decide +kernel
theorem dc_C_capped_21 : decode bc_C_capped 21 = .ok (.getfield 43, 3) := by decide +kernel
theorem dc_C_capped_24 : decode bc_C_capped 24 = .ok (.if_icmp .ge 29, 3) := by decide +kernel
theorem dc_C_capped_27 : decode bc_C_capped 27 = .ok (.aload_n 0, 1) := by decide +kernel
theorem dc_C_capped_28 : decode bc_C_capped 28 = .ok (.iload_n 2, 1) := by decide +kernel
theorem dc_C_capped_29 : decode bc_C_capped 29 = .ok (.invokevirtual 62, 3) := by decide +kernel
theorem dc_C_capped_32 : decode bc_C_capped 32 = .ok (.astore_n 3, 1) := by decide +kernel
theorem dc_C_capped_33 : decode bc_C_capped 33 = .ok (.aload_n 3, 1) := by decide +kernel
theorem dc_C_capped_34 : decode bc_C_capped 34 = .ok (.ifnull 13, 3) := by decide +kernel
theorem dc_C_capped_37 : decode bc_C_capped 37 = .ok (.aload_n 0, 1) := by decide +kernel
theorem dc_C_capped_38 : decode bc_C_capped 38 = .ok (.aload_n 3, 1) := by decide +kernel
theorem dc_C_capped_39 : decode bc_C_capped 39 = .ok (.invokevirtual 159, 3) := by decide +kernel
theorem dc_C_capped_42 : decode bc_C_capped 42 = .ok (.ifCond .eq 5, 3) := by decide +kernel
theorem dc_C_capped_45 : decode bc_C_capped 45 = .ok (.iconst 1, 1) := by decide +kernel
theorem dc_C_capped_46 : decode bc_C_capped 46 = .ok (.ireturn, 1) := by decide +kernel
theorem dc_C_capped_47 : decode bc_C_capped 47 = .ok (.iinc 2 1, 3) := by decide +kernel
theorem dc_C_capped_50 : decode bc_C_capped 50 = .ok (.goto (-31), 3) := by decide +kernel
theorem dc_C_capped_53 : decode bc_C_capped 53 = .ok (.iconst 0, 1) := by decide +kernel
theorem dc_C_capped_54 : decode bc_C_capped 54 = .ok (.ireturn, 1) := by decide +kernel
theorem dc_C_choke_0 : decode bc_C_choke 0 = .ok (.aload_n 0, 1) := by decide +kernel
theorem dc_C_choke_1 : decode bc_C_choke 1 = .ok (.iload_n 1, 1) := by decide +kernel
theorem dc_C_choke_2 : decode bc_C_choke 2 = .ok (.invokevirtual 66, 3) := by decide +kernel
theorem dc_C_choke_5 : decode bc_C_choke 5 = .ok (.ifCond .ne 5, 3) := by decide +kernel
theorem dc_C_choke_8 : decode bc_C_choke 8 = .ok (.iconst (-1), 1) := by decide +kernel
theorem dc_C_choke_9 : decode bc_C_choke 9 = .ok (.ireturn, 1) := by decide +kernel
theorem dc_C_choke_10 : decode bc_C_choke 10 = .ok (.aconst_null, 1) := by decide +kernel
theorem dc_C_choke_11 : decode bc_C_choke 11 = .ok (.astore_n 2, 1) := by decide +kernel
theorem dc_C_choke_12 : decode bc_C_choke 12 = .ok (.iconst 0, 1) := by decide +kernel
theorem dc_C_choke_13 : decode bc_C_choke 13 = .ok (.istore_n 3, 1) := by decide +kernel
theorem dc_C_choke_14 : decode bc_C_choke 14 = .ok (.iload_n 3, 1) := by decide +kernel
theorem dc_C_choke_15 : decode bc_C_choke 15 = .ok (.aload_n 0, 1) := by decide +kernel
theorem dc_C_choke_16 : decode bc_C_choke 16 = .ok (.getfield 43, 3) := by decide +kernel
theorem dc_C_choke_19 : decode bc_C_choke 19 = .ok (.if_icmp .ge 51, 3) := by decide +kernel
theorem dc_C_choke_22 : decode bc_C_choke 22 = .ok (.aload_n 0, 1) := by decide +kernel
theorem dc_C_choke_23 : decode bc_C_choke 23 = .ok (.iload_n 3, 1) := by decide +kernel
theorem dc_C_choke_24 : decode bc_C_choke 24 = .ok (.invokevirtual 62, 3) := by decide +kernel
theorem dc_C_choke_27 : decode bc_C_choke 27 = .ok (.astore 4, 2) := by decide +kernel
theorem dc_C_choke_29 : decode bc_C_choke 29 = .ok (.aload 4, 2) := by decide +kernel
theorem dc_C_choke_31 : decode bc_C_choke 31 = .ok (.ifnull 33, 3) := by decide +kernel
theorem dc_C_choke_34 : decode bc_C_choke 34 = .ok (.aload 4, 2) := by decide +kernel
theorem dc_C_choke_36 : decode bc_C_choke 36 = .ok (.getfield 103, 3) := by decide +kernel
theorem dc_C_choke_39 : decode bc_C_choke 39 = .ok (.iload_n 1, 1) := by decide +kernel
theorem dc_C_choke_40 : decode bc_C_choke 40 = .ok (.laload, 1) := by decide +kernel
theorem dc_C_choke_41 : decode bc_C_choke 41 = .ok (.lconst 0, 1) := by decide +kernel
theorem dc_C_choke_42 : decode bc_C_choke 42 = .ok (.lcmp, 1) := by decide +kernel
theorem dc_C_choke_43 : decode bc_C_choke 43 = .ok (.ifCond .le 21, 3) := by decide +kernel
theorem dc_C_choke_46 : decode bc_C_choke 46 = .ok (.aload_n 2, 1) := by decide +kernel
theorem dc_C_choke_47 : decode bc_C_choke 47 = .ok (.ifnull 14, 3) := by decide +kernel
theorem dc_C_choke_50 : decode bc_C_choke 50 = .ok (.aload_n 0, 1) := by decide +kernel
theorem dc_C_choke_51 : decode bc_C_choke 51 = .ok (.aload 4, 2) := by decide +kernel
theorem dc_C_choke_53 : decode bc_C_choke 53 = .ok (.aload_n 2, 1) := by decide +kernel
theorem dc_C_choke_54 : decode bc_C_choke 54 = .ok (.iload_n 1, 1) := by decide +kernel
theorem dc_C_choke_55 : decode bc_C_choke 55 = .ok (.invokevirtual 163, 3) := by decide +kernel
theorem dc_C_choke_58 : decode bc_C_choke 58 = .ok (.ifCond .eq 6, 3) := by decide +kernel
theorem dc_C_choke_61 : decode bc_C_choke 61 = .ok (.aload 4, 2) := by decide +kernel
theorem dc_C_choke_63 : decode bc_C_choke 63 = .ok (.astore_n 2, 1) := by decide +kernel
theorem dc_C_choke_64 : decode bc_C_choke 64 = .ok (.iinc 3 1, 3) := by decide +kernel
theorem dc_C_choke_67 : decode bc_C_choke 67 = .ok (.goto (-53), 3) := by decide +kernel
theorem dc_C_choke_70 : decode bc_C_choke 70 = .ok (.aload_n 2, 1) := by decide +kernel
theorem dc_C_choke_71 : decode bc_C_choke 71 = .ok (.ifnonnull 7, 3) := by decide +kernel
theorem dc_C_choke_74 : decode bc_C_choke 74 = .ok (.iconst (-1), 1) := by decide +kernel
theorem dc_C_choke_75 : decode bc_C_choke 75 = .ok (.goto 7, 3) := by decide +kernel
theorem dc_C_choke_78 : decode bc_C_choke 78 = .ok (.aload_n 2, 1) := by decide +kernel
theorem dc_C_choke_79 : decode bc_C_choke 79 = .ok (.getfield 167, 3) := by decide +kernel
theorem dc_C_choke_82 : decode bc_C_choke 82 = .ok (.ireturn, 1) := by decide +kernel
theorem dc_C_closes_0 : decode bc_C_closes 0 = .ok (.aload_n 0, 1) := by decide +kernel
theorem dc_C_closes_1 : decode bc_C_closes 1 = .ok (.iload_n 1, 1) := by decide +kernel
theorem dc_C_closes_2 : decode bc_C_closes 2 = .ok (.invokevirtual 62, 3) := by decide +kernel
theorem dc_C_closes_5 : decode bc_C_closes 5 = .ok (.astore 4, 2) := by decide +kernel
theorem dc_C_closes_7 : decode bc_C_closes 7 = .ok (.aload 4, 2) := by decide +kernel
theorem dc_C_closes_9 : decode bc_C_closes 9 = .ok (.ifnull 22, 3) := by decide +kernel
theorem dc_C_closes_12 : decode bc_C_closes 12 = .ok (.aload 4, 2) := by decide +kernel
theorem dc_C_closes_14 : decode bc_C_closes 14 = .ok (.getfield 69, 3) := by decide +kernel
theorem dc_C_closes_17 : decode bc_C_closes 17 = .ok (.ifCond .eq 14, 3) := by decide +kernel
theorem dc_C_closes_20 : decode bc_C_closes 20 = .ok (.lload_n 2, 1) := by decide +kernel
theorem dc_C_closes_21 : decode bc_C_closes 21 = .ok (.lconst 1, 1) := by decide +kernel
theorem dc_C_closes_22 : decode bc_C_closes 22 = .ok (.ldc2_w 46, 3) := by decide +kernel
theorem dc_C_closes_25 : decode bc_C_closes 25 = .ok (.invokestatic 48, 3) := by decide +kernel
theorem dc_C_closes_28 : decode bc_C_closes 28 = .ok (.ifCond .ne 7, 3) := by decide +kernel
theorem dc_C_closes_31 : decode bc_C_closes 31 = .ok (.ldc2_w 101, 3) := by decide +kernel
theorem dc_C_closes_34 : decode bc_C_closes 34 = .ok (.lreturn, 1) := by decide +kernel
theorem dc_C_closes_35 : decode bc_C_closes 35 = .ok (.lconst 0, 1) := by decide +kernel
theorem dc_C_closes_36 : decode bc_C_closes 36 = .ok (.lstore 5, 2) := by decide +kernel
theorem dc_C_closes_38 : decode bc_C_closes 38 = .ok (.iconst 0, 1) := by decide +kernel
theorem dc_C_closes_39 : decode bc_C_closes 39 = .ok (.istore 7, 2) := by decide +kernel
theorem dc_C_closes_41 : decode bc_C_closes 41 = .ok (.iload 7, 2) := by decide +kernel
theorem dc_C_closes_43 : decode bc_C_closes 43 = .ok (.aload_n 0, 1) := by decide +kernel
theorem dc_C_closes_44 : decode bc_C_closes 44 = .ok (.getfield 55, 3) := by decide +kernel
theorem dc_C_closes_47 : decode bc_C_closes 47 = .ok (.if_icmp .ge 26, 3) := by decide +kernel
theorem dc_C_closes_50 : decode bc_C_closes 50 = .ok (.lload 5, 2) := by decide +kernel
theorem dc_C_closes_52 : decode bc_C_closes 52 = .ok (.lconst 0, 1) := by decide +kernel
theorem dc_C_closes_53 : decode bc_C_closes 53 = .ok (.aload_n 0, 1) := by decide +kernel
theorem dc_C_closes_54 : decode bc_C_closes 54 = .ok (.aload 4, 2) := by decide +kernel
theorem dc_C_closes_56 : decode bc_C_closes 56 = .ok (.iload 7, 2) := by decide +kernel
theorem dc_C_closes_58 : decode bc_C_closes 58 = .ok (.invokevirtual 116, 3) := by decide +kernel
theorem dc_C_closes_61 : decode bc_C_closes 61 = .ok (.invokestatic 170, 3) := by decide +kernel
theorem dc_C_closes_64 : decode bc_C_closes 64 = .ok (.ladd, 1) := by decide +kernel
theorem dc_C_closes_65 : decode bc_C_closes 65 = .ok (.lstore 5, 2) := by decide +kernel
theorem dc_C_closes_67 : decode bc_C_closes 67 = .ok (.iinc 7 1, 3) := by decide +kernel
theorem dc_C_closes_70 : decode bc_C_closes 70 = .ok (.goto (-29), 3) := by decide +kernel
theorem dc_C_closes_73 : decode bc_C_closes 73 = .ok (.lload 5, 2) := by decide +kernel
theorem dc_C_closes_75 : decode bc_C_closes 75 = .ok (.lload_n 2, 1) := by decide +kernel
theorem dc_C_closes_76 : decode bc_C_closes 76 = .ok (.invokestatic 176, 3) := by decide +kernel
theorem dc_C_closes_79 : decode bc_C_closes 79 = .ok (.lreturn, 1) := by decide +kernel
theorem dc_C_seen_0 : decode bc_C_seen 0 = .ok (.aload_n 0, 1) := by decide +kernel
theorem dc_C_seen_1 : decode bc_C_seen 1 = .ok (.iload_n 1, 1) := by decide +kernel
theorem dc_C_seen_2 : decode bc_C_seen 2 = .ok (.invokevirtual 62, 3) := by decide +kernel
theorem dc_C_seen_5 : decode bc_C_seen 5 = .ok (.astore 6, 2) := by decide +kernel
theorem dc_C_seen_7 : decode bc_C_seen 7 = .ok (.aload 6, 2) := by decide +kernel
theorem dc_C_seen_9 : decode bc_C_seen 9 = .ok (.ifnull 26, 3) := by decide +kernel
theorem dc_C_seen_12 : decode bc_C_seen 12 = .ok (.lload_n 2, 1) := by decide +kernel
theorem dc_C_seen_13 : decode bc_C_seen 13 = .ok (.lconst 0, 1) := by decide +kernel
theorem dc_C_seen_14 : decode bc_C_seen 14 = .ok (.ldc2_w 73, 3) := by decide +kernel
theorem dc_C_seen_17 : decode bc_C_seen 17 = .ok (.invokestatic 48, 3) := by decide +kernel
theorem dc_C_seen_20 : decode bc_C_seen 20 = .ok (.ifCond .eq 15, 3) := by decide +kernel
theorem dc_C_seen_23 : decode bc_C_seen 23 = .ok (.lload 4, 2) := by decide +kernel
theorem dc_C_seen_25 : decode bc_C_seen 25 = .ok (.lconst 0, 1) := by decide +kernel
theorem dc_C_seen_26 : decode bc_C_seen 26 = .ok (.ldc2_w 73, 3) := by decide +kernel
theorem dc_C_seen_29 : decode bc_C_seen 29 = .ok (.invokestatic 48, 3) := by decide +kernel
theorem dc_C_seen_32 : decode bc_C_seen 32 = .ok (.ifCond .ne 5, 3) := by decide +kernel
theorem dc_C_seen_35 : decode bc_C_seen 35 = .ok (.iconst 0, 1) := by decide +kernel
theorem dc_C_seen_36 : decode bc_C_seen 36 = .ok (.ireturn, 1) := by decide +kernel
theorem dc_C_seen_37 : decode bc_C_seen 37 = .ok (.aload 6, 2) := by decide +kernel
theorem dc_C_seen_39 : decode bc_C_seen 39 = .ok (.getfield 179, 3) := by decide +kernel
theorem dc_C_seen_42 : decode bc_C_seen 42 = .ok (.lload_n 2, 1) := by decide +kernel
theorem dc_C_seen_43 : decode bc_C_seen 43 = .ok (.ladd, 1) := by decide +kernel
theorem dc_C_seen_44 : decode bc_C_seen 44 = .ok (.ldc2_w 73, 3) := by decide +kernel
theorem dc_C_seen_47 : decode bc_C_seen 47 = .ok (.lcmp, 1) := by decide +kernel
theorem dc_C_seen_48 : decode bc_C_seen 48 = .ok (.ifCond .gt 18, 3) := by decide +kernel
theorem dc_C_seen_51 : decode bc_C_seen 51 = .ok (.aload 6, 2) := by decide +kernel
theorem dc_C_seen_53 : decode bc_C_seen 53 = .ok (.getfield 182, 3) := by decide +kernel
theorem dc_C_seen_56 : decode bc_C_seen 56 = .ok (.lload 4, 2) := by decide +kernel
theorem dc_C_seen_58 : decode bc_C_seen 58 = .ok (.ladd, 1) := by decide +kernel
theorem dc_C_seen_59 : decode bc_C_seen 59 = .ok (.ldc2_w 73, 3) := by decide +kernel
theorem dc_C_seen_62 : decode bc_C_seen 62 = .ok (.lcmp, 1) := by decide +kernel
theorem dc_C_seen_63 : decode bc_C_seen 63 = .ok (.ifCond .le 5, 3) := by decide +kernel
theorem dc_C_seen_66 : decode bc_C_seen 66 = .ok (.iconst 0, 1) := by decide +kernel
theorem dc_C_seen_67 : decode bc_C_seen 67 = .ok (.ireturn, 1) := by decide +kernel
theorem dc_C_seen_68 : decode bc_C_seen 68 = .ok (.aload 6, 2) := by decide +kernel
theorem dc_C_seen_70 : decode bc_C_seen 70 = .ok (.dup, 1) := by decide +kernel
theorem dc_C_seen_71 : decode bc_C_seen 71 = .ok (.getfield 179, 3) := by decide +kernel
theorem dc_C_seen_74 : decode bc_C_seen 74 = .ok (.lload_n 2, 1) := by decide +kernel
theorem dc_C_seen_75 : decode bc_C_seen 75 = .ok (.ladd, 1) := by decide +kernel
theorem dc_C_seen_76 : decode bc_C_seen 76 = .ok (.putfield 179, 3) := by decide +kernel
theorem dc_C_seen_79 : decode bc_C_seen 79 = .ok (.aload 6, 2) := by decide +kernel
theorem dc_C_seen_81 : decode bc_C_seen 81 = .ok (.dup, 1) := by decide +kernel
theorem dc_C_seen_82 : decode bc_C_seen 82 = .ok (.getfield 182, 3) := by decide +kernel
theorem dc_C_seen_85 : decode bc_C_seen 85 = .ok (.lload 4, 2) := by decide +kernel
theorem dc_C_seen_87 : decode bc_C_seen 87 = .ok (.ladd, 1) := by decide +kernel
theorem dc_C_seen_88 : decode bc_C_seen 88 = .ok (.putfield 182, 3) := by decide +kernel
theorem dc_C_seen_91 : decode bc_C_seen 91 = .ok (.iconst 1, 1) := by decide +kernel
theorem dc_C_seen_92 : decode bc_C_seen 92 = .ok (.ireturn, 1) := by decide +kernel
theorem dc_C_discard_0 : decode bc_C_discard 0 = .ok (.aload_n 0, 1) := by decide +kernel
theorem dc_C_discard_1 : decode bc_C_discard 1 = .ok (.iload_n 1, 1) := by decide +kernel
theorem dc_C_discard_2 : decode bc_C_discard 2 = .ok (.invokevirtual 62, 3) := by decide +kernel
theorem dc_C_discard_5 : decode bc_C_discard 5 = .ok (.astore_n 2, 1) := by decide +kernel
theorem dc_C_discard_6 : decode bc_C_discard 6 = .ok (.aload_n 2, 1) := by decide +kernel
theorem dc_C_discard_7 : decode bc_C_discard 7 = .ok (.ifnull 12, 3) := by decide +kernel
theorem dc_C_discard_10 : decode bc_C_discard 10 = .ok (.aload_n 2, 1) := by decide +kernel
theorem dc_C_discard_11 : decode bc_C_discard 11 = .ok (.getfield 179, 3) := by decide +kernel
theorem dc_C_discard_14 : decode bc_C_discard 14 = .ok (.lconst 1, 1) := by decide +kernel
theorem dc_C_discard_15 : decode bc_C_discard 15 = .ok (.lcmp, 1) := by decide +kernel
theorem dc_C_discard_16 : decode bc_C_discard 16 = .ok (.ifCond .ge 7, 3) := by decide +kernel
theorem dc_C_discard_19 : decode bc_C_discard 19 = .ok (.ldc2_w 101, 3) := by decide +kernel
theorem dc_C_discard_22 : decode bc_C_discard 22 = .ok (.lreturn, 1) := by decide +kernel
theorem dc_C_discard_23 : decode bc_C_discard 23 = .ok (.aload_n 0, 1) := by decide +kernel
theorem dc_C_discard_24 : decode bc_C_discard 24 = .ok (.getfield 25, 3) := by decide +kernel
theorem dc_C_discard_27 : decode bc_C_discard 27 = .ok (.iload_n 1, 1) := by decide +kernel
theorem dc_C_discard_28 : decode bc_C_discard 28 = .ok (.invokevirtual 185, 3) := by decide +kernel
theorem dc_C_discard_31 : decode bc_C_discard 31 = .ok (.aload_n 2, 1) := by decide +kernel
theorem dc_C_discard_32 : decode bc_C_discard 32 = .ok (.getfield 182, 3) := by decide +kernel
theorem dc_C_discard_35 : decode bc_C_discard 35 = .ok (.lmul, 1) := by decide +kernel
theorem dc_C_discard_36 : decode bc_C_discard 36 = .ok (.aload_n 2, 1) := by decide +kernel
theorem dc_C_discard_37 : decode bc_C_discard 37 = .ok (.getfield 179, 3) := by decide +kernel
theorem dc_C_discard_40 : decode bc_C_discard 40 = .ok (.ldiv, 1) := by decide +kernel
theorem dc_C_discard_41 : decode bc_C_discard 41 = .ok (.lreturn, 1) := by decide +kernel
theorem dc_C_told_0 : decode bc_C_told 0 = .ok (.aload_n 0, 1) := by decide +kernel
theorem dc_C_told_1 : decode bc_C_told 1 = .ok (.iload_n 1, 1) := by decide +kernel
theorem dc_C_told_2 : decode bc_C_told 2 = .ok (.invokevirtual 62, 3) := by decide +kernel
theorem dc_C_told_5 : decode bc_C_told 5 = .ok (.astore_n 3, 1) := by decide +kernel
theorem dc_C_told_6 : decode bc_C_told 6 = .ok (.aload_n 3, 1) := by decide +kernel
theorem dc_C_told_7 : decode bc_C_told 7 = .ok (.ifnonnull 7, 3) := by decide +kernel
theorem dc_C_told_10 : decode bc_C_told 10 = .ok (.ldc2_w 101, 3) := by decide +kernel
theorem dc_C_told_13 : decode bc_C_told 13 = .ok (.lreturn, 1) := by decide +kernel
theorem dc_C_told_14 : decode bc_C_told 14 = .ok (.iload_n 2, 1) := by decide +kernel
theorem dc_C_told_15 : decode bc_C_told 15 = .ok (.tableswitch 90 0 6 #[41, 46, 51, 64, 69, 78, 84], 41) := by decide +kernel
theorem dc_C_told_56 : decode bc_C_told 56 = .ok (.aload_n 3, 1) := by decide +kernel
theorem dc_C_told_57 : decode bc_C_told 57 = .ok (.getfield 79, 3) := by decide +kernel
theorem dc_C_told_60 : decode bc_C_told 60 = .ok (.lreturn, 1) := by decide +kernel
theorem dc_C_told_61 : decode bc_C_told 61 = .ok (.aload_n 3, 1) := by decide +kernel
theorem dc_C_told_62 : decode bc_C_told 62 = .ok (.getfield 83, 3) := by decide +kernel
theorem dc_C_told_65 : decode bc_C_told 65 = .ok (.lreturn, 1) := by decide +kernel
theorem dc_C_told_66 : decode bc_C_told 66 = .ok (.aload_n 3, 1) := by decide +kernel
theorem dc_C_told_67 : decode bc_C_told 67 = .ok (.getfield 69, 3) := by decide +kernel
theorem dc_C_told_70 : decode bc_C_told 70 = .ok (.ifCond .eq 7, 3) := by decide +kernel
theorem dc_C_told_73 : decode bc_C_told 73 = .ok (.lconst 1, 1) := by decide +kernel
theorem dc_C_told_74 : decode bc_C_told 74 = .ok (.goto 4, 3) := by decide +kernel
theorem dc_C_told_77 : decode bc_C_told 77 = .ok (.lconst 0, 1) := by decide +kernel
theorem dc_C_told_78 : decode bc_C_told 78 = .ok (.lreturn, 1) := by decide +kernel
theorem dc_C_told_79 : decode bc_C_told 79 = .ok (.aload_n 3, 1) := by decide +kernel
theorem dc_C_told_80 : decode bc_C_told 80 = .ok (.invokevirtual 124, 3) := by decide +kernel
theorem dc_C_told_83 : decode bc_C_told 83 = .ok (.lreturn, 1) := by decide +kernel
theorem dc_C_told_84 : decode bc_C_told 84 = .ok (.aload_n 0, 1) := by decide +kernel
theorem dc_C_told_85 : decode bc_C_told 85 = .ok (.getfield 25, 3) := by decide +kernel
theorem dc_C_told_88 : decode bc_C_told 88 = .ok (.iload_n 1, 1) := by decide +kernel
theorem dc_C_told_89 : decode bc_C_told 89 = .ok (.invokevirtual 185, 3) := by decide +kernel
theorem dc_C_told_92 : decode bc_C_told 92 = .ok (.lreturn, 1) := by decide +kernel
theorem dc_C_told_93 : decode bc_C_told 93 = .ok (.aload_n 3, 1) := by decide +kernel
theorem dc_C_told_94 : decode bc_C_told 94 = .ok (.getfield 152, 3) := by decide +kernel
theorem dc_C_told_97 : decode bc_C_told 97 = .ok (.i2l, 1) := by decide +kernel
theorem dc_C_told_98 : decode bc_C_told 98 = .ok (.lreturn, 1) := by decide +kernel
theorem dc_C_told_99 : decode bc_C_told 99 = .ok (.aload_n 3, 1) := by decide +kernel
theorem dc_C_told_100 : decode bc_C_told 100 = .ok (.getfield 86, 3) := by decide +kernel
theorem dc_C_told_103 : decode bc_C_told 103 = .ok (.i2l, 1) := by decide +kernel
theorem dc_C_told_104 : decode bc_C_told 104 = .ok (.lreturn, 1) := by decide +kernel
theorem dc_C_told_105 : decode bc_C_told 105 = .ok (.ldc2_w 101, 3) := by decide +kernel
theorem dc_C_told_108 : decode bc_C_told 108 = .ok (.lreturn, 1) := by decide +kernel
theorem dc_C_sums_0 : decode bc_C_sums 0 = .ok (.aload_n 0, 1) := by decide +kernel
theorem dc_C_sums_1 : decode bc_C_sums 1 = .ok (.iload_n 1, 1) := by decide +kernel
theorem dc_C_sums_2 : decode bc_C_sums 2 = .ok (.invokevirtual 62, 3) := by decide +kernel
theorem dc_C_sums_5 : decode bc_C_sums 5 = .ok (.astore_n 2, 1) := by decide +kernel
theorem dc_C_sums_6 : decode bc_C_sums 6 = .ok (.aload_n 2, 1) := by decide +kernel
theorem dc_C_sums_7 : decode bc_C_sums 7 = .ok (.ifnull 26, 3) := by decide +kernel
theorem dc_C_sums_10 : decode bc_C_sums 10 = .ok (.aload_n 2, 1) := by decide +kernel
theorem dc_C_sums_11 : decode bc_C_sums 11 = .ok (.getfield 69, 3) := by decide +kernel
theorem dc_C_sums_14 : decode bc_C_sums 14 = .ok (.ifCond .eq 19, 3) := by decide +kernel
theorem dc_C_sums_17 : decode bc_C_sums 17 = .ok (.aload_n 2, 1) := by decide +kernel
theorem dc_C_sums_18 : decode bc_C_sums 18 = .ok (.invokevirtual 124, 3) := by decide +kernel
theorem dc_C_sums_21 : decode bc_C_sums 21 = .ok (.aload_n 2, 1) := by decide +kernel
theorem dc_C_sums_22 : decode bc_C_sums 22 = .ok (.getfield 189, 3) := by decide +kernel
theorem dc_C_sums_25 : decode bc_C_sums 25 = .ok (.lcmp, 1) := by decide +kernel
theorem dc_C_sums_26 : decode bc_C_sums 26 = .ok (.ifCond .ne 7, 3) := by decide +kernel
theorem dc_C_sums_29 : decode bc_C_sums 29 = .ok (.iconst 1, 1) := by decide +kernel
theorem dc_C_sums_30 : decode bc_C_sums 30 = .ok (.goto 4, 3) := by decide +kernel
theorem dc_C_sums_33 : decode bc_C_sums 33 = .ok (.iconst 0, 1) := by decide +kernel
theorem dc_C_sums_34 : decode bc_C_sums 34 = .ok (.ireturn, 1) := by decide +kernel
theorem dc_C_isWithin_0 : decode bc_C_isWithin 0 = .ok (.lload_n 0, 1) := by decide +kernel
theorem dc_C_isWithin_1 : decode bc_C_isWithin 1 = .ok (.lload_n 2, 1) := by decide +kernel
theorem dc_C_isWithin_2 : decode bc_C_isWithin 2 = .ok (.lcmp, 1) := by decide +kernel
theorem dc_C_isWithin_3 : decode bc_C_isWithin 3 = .ok (.ifCond .lt 14, 3) := by decide +kernel
theorem dc_C_isWithin_6 : decode bc_C_isWithin 6 = .ok (.lload_n 0, 1) := by decide +kernel
theorem dc_C_isWithin_7 : decode bc_C_isWithin 7 = .ok (.lload 4, 2) := by decide +kernel
theorem dc_C_isWithin_9 : decode bc_C_isWithin 9 = .ok (.lcmp, 1) := by decide +kernel
theorem dc_C_isWithin_10 : decode bc_C_isWithin 10 = .ok (.ifCond .gt 7, 3) := by decide +kernel
theorem dc_C_isWithin_13 : decode bc_C_isWithin 13 = .ok (.iconst 1, 1) := by decide +kernel
theorem dc_C_isWithin_14 : decode bc_C_isWithin 14 = .ok (.goto 4, 3) := by decide +kernel
theorem dc_C_isWithin_17 : decode bc_C_isWithin 17 = .ok (.iconst 0, 1) := by decide +kernel
theorem dc_C_isWithin_18 : decode bc_C_isWithin 18 = .ok (.ireturn, 1) := by decide +kernel
theorem dc_C_isFraction_0 : decode bc_C_isFraction 0 = .ok (.iload_n 0, 1) := by decide +kernel
theorem dc_C_isFraction_1 : decode bc_C_isFraction 1 = .ok (.i2l, 1) := by decide +kernel
theorem dc_C_isFraction_2 : decode bc_C_isFraction 2 = .ok (.lconst 1, 1) := by decide +kernel
theorem dc_C_isFraction_3 : decode bc_C_isFraction 3 = .ok (.ldc2_w 192, 3) := by decide +kernel
theorem dc_C_isFraction_6 : decode bc_C_isFraction 6 = .ok (.invokestatic 48, 3) := by decide +kernel
theorem dc_C_isFraction_9 : decode bc_C_isFraction 9 = .ok (.ifCond .eq 19, 3) := by decide +kernel
theorem dc_C_isFraction_12 : decode bc_C_isFraction 12 = .ok (.iload_n 1, 1) := by decide +kernel
theorem dc_C_isFraction_13 : decode bc_C_isFraction 13 = .ok (.i2l, 1) := by decide +kernel
theorem dc_C_isFraction_14 : decode bc_C_isFraction 14 = .ok (.lconst 1, 1) := by decide +kernel
theorem dc_C_isFraction_15 : decode bc_C_isFraction 15 = .ok (.ldc2_w 192, 3) := by decide +kernel
theorem dc_C_isFraction_18 : decode bc_C_isFraction 18 = .ok (.invokestatic 48, 3) := by decide +kernel
theorem dc_C_isFraction_21 : decode bc_C_isFraction 21 = .ok (.ifCond .eq 7, 3) := by decide +kernel
theorem dc_C_isFraction_24 : decode bc_C_isFraction 24 = .ok (.iconst 1, 1) := by decide +kernel
theorem dc_C_isFraction_25 : decode bc_C_isFraction 25 = .ok (.goto 4, 3) := by decide +kernel
theorem dc_C_isFraction_28 : decode bc_C_isFraction 28 = .ok (.iconst 0, 1) := by decide +kernel
theorem dc_C_isFraction_29 : decode bc_C_isFraction 29 = .ok (.ireturn, 1) := by decide +kernel
theorem dc_C_dividedUp_0 : decode bc_C_dividedUp 0 = .ok (.lload_n 2, 1) := by decide +kernel
theorem dc_C_dividedUp_1 : decode bc_C_dividedUp 1 = .ok (.lconst 1, 1) := by decide +kernel
theorem dc_C_dividedUp_2 : decode bc_C_dividedUp 2 = .ok (.lcmp, 1) := by decide +kernel
theorem dc_C_dividedUp_3 : decode bc_C_dividedUp 3 = .ok (.ifCond .ge 7, 3) := by decide +kernel
theorem dc_C_dividedUp_6 : decode bc_C_dividedUp 6 = .ok (.lconst 0, 1) := by decide +kernel
theorem dc_C_dividedUp_7 : decode bc_C_dividedUp 7 = .ok (.goto 10, 3) := by decide +kernel
theorem dc_C_dividedUp_10 : decode bc_C_dividedUp 10 = .ok (.lload_n 0, 1) := by decide +kernel
theorem dc_C_dividedUp_11 : decode bc_C_dividedUp 11 = .ok (.lload_n 2, 1) := by decide +kernel
theorem dc_C_dividedUp_12 : decode bc_C_dividedUp 12 = .ok (.ladd, 1) := by decide +kernel
theorem dc_C_dividedUp_13 : decode bc_C_dividedUp 13 = .ok (.lconst 1, 1) := by decide +kernel
theorem dc_C_dividedUp_14 : decode bc_C_dividedUp 14 = .ok (.lsub, 1) := by decide +kernel
theorem dc_C_dividedUp_15 : decode bc_C_dividedUp 15 = .ok (.lload_n 2, 1) := by decide +kernel
theorem dc_C_dividedUp_16 : decode bc_C_dividedUp 16 = .ok (.ldiv, 1) := by decide +kernel
theorem dc_C_dividedUp_17 : decode bc_C_dividedUp 17 = .ok (.lreturn, 1) := by decide +kernel
theorem dc_C_isOwner_0 : decode bc_C_isOwner 0 = .ok (.iload_n 0, 1) := by decide +kernel
theorem dc_C_isOwner_1 : decode bc_C_isOwner 1 = .ok (.ifCond .lt 13, 3) := by decide +kernel
theorem dc_C_isOwner_4 : decode bc_C_isOwner 4 = .ok (.iload_n 0, 1) := by decide +kernel
theorem dc_C_isOwner_5 : decode bc_C_isOwner 5 = .ok (.bipush 10, 2) := by decide +kernel
theorem dc_C_isOwner_7 : decode bc_C_isOwner 7 = .ok (.if_icmp .ge 7, 3) := by decide +kernel
theorem dc_C_isOwner_10 : decode bc_C_isOwner 10 = .ok (.iconst 1, 1) := by decide +kernel
theorem dc_C_isOwner_11 : decode bc_C_isOwner 11 = .ok (.goto 4, 3) := by decide +kernel
theorem dc_C_isOwner_14 : decode bc_C_isOwner 14 = .ok (.iconst 0, 1) := by decide +kernel
theorem dc_C_isOwner_15 : decode bc_C_isOwner 15 = .ok (.ireturn, 1) := by decide +kernel
theorem dc_C_isPool_0 : decode bc_C_isPool 0 = .ok (.iload_n 0, 1) := by decide +kernel
theorem dc_C_isPool_1 : decode bc_C_isPool 1 = .ok (.ifCond .lt 12, 3) := by decide +kernel
theorem dc_C_isPool_4 : decode bc_C_isPool 4 = .ok (.iload_n 0, 1) := by decide +kernel
theorem dc_C_isPool_5 : decode bc_C_isPool 5 = .ok (.iconst 4, 1) := by decide +kernel
theorem dc_C_isPool_6 : decode bc_C_isPool 6 = .ok (.if_icmp .ge 7, 3) := by decide +kernel
theorem dc_C_isPool_9 : decode bc_C_isPool 9 = .ok (.iconst 1, 1) := by decide +kernel
theorem dc_C_isPool_10 : decode bc_C_isPool 10 = .ok (.goto 4, 3) := by decide +kernel
theorem dc_C_isPool_13 : decode bc_C_isPool 13 = .ok (.iconst 0, 1) := by decide +kernel
theorem dc_C_isPool_14 : decode bc_C_isPool 14 = .ok (.ireturn, 1) := by decide +kernel
theorem dc_C_isHolder_0 : decode bc_C_isHolder 0 = .ok (.iload_n 1, 1) := by decide +kernel
theorem dc_C_isHolder_1 : decode bc_C_isHolder 1 = .ok (.ifCond .lt 15, 3) := by decide +kernel
theorem dc_C_isHolder_4 : decode bc_C_isHolder 4 = .ok (.iload_n 1, 1) := by decide +kernel
theorem dc_C_isHolder_5 : decode bc_C_isHolder 5 = .ok (.aload_n 0, 1) := by decide +kernel
theorem dc_C_isHolder_6 : decode bc_C_isHolder 6 = .ok (.getfield 55, 3) := by decide +kernel
theorem dc_C_isHolder_9 : decode bc_C_isHolder 9 = .ok (.if_icmp .ge 7, 3) := by decide +kernel
theorem dc_C_isHolder_12 : decode bc_C_isHolder 12 = .ok (.iconst 1, 1) := by decide +kernel
theorem dc_C_isHolder_13 : decode bc_C_isHolder 13 = .ok (.goto 4, 3) := by decide +kernel
theorem dc_C_isHolder_16 : decode bc_C_isHolder 16 = .ok (.iconst 0, 1) := by decide +kernel
theorem dc_C_isHolder_17 : decode bc_C_isHolder 17 = .ok (.ireturn, 1) := by decide +kernel
theorem dc_C_findStock_0 : decode bc_C_findStock 0 = .ok (.iload_n 1, 1) := by decide +kernel
theorem dc_C_findStock_1 : decode bc_C_findStock 1 = .ok (.ifCond .lt 20, 3) := by decide +kernel
theorem dc_C_findStock_4 : decode bc_C_findStock 4 = .ok (.iload_n 1, 1) := by decide +kernel
theorem dc_C_findStock_5 : decode bc_C_findStock 5 = .ok (.aload_n 0, 1) := by decide +kernel
theorem dc_C_findStock_6 : decode bc_C_findStock 6 = .ok (.getfield 43, 3) := by decide +kernel
theorem dc_C_findStock_9 : decode bc_C_findStock 9 = .ok (.if_icmp .ge 12, 3) := by decide +kernel
theorem dc_C_findStock_12 : decode bc_C_findStock 12 = .ok (.aload_n 0, 1) := by decide +kernel
theorem dc_C_findStock_13 : decode bc_C_findStock 13 = .ok (.getfield 11, 3) := by decide +kernel
theorem dc_C_findStock_16 : decode bc_C_findStock 16 = .ok (.iload_n 1, 1) := by decide +kernel
theorem dc_C_findStock_17 : decode bc_C_findStock 17 = .ok (.aaload, 1) := by decide +kernel
theorem dc_C_findStock_18 : decode bc_C_findStock 18 = .ok (.goto 4, 3) := by decide +kernel
theorem dc_C_findStock_21 : decode bc_C_findStock 21 = .ok (.aconst_null, 1) := by decide +kernel
theorem dc_C_findStock_22 : decode bc_C_findStock 22 = .ok (.areturn, 1) := by decide +kernel
theorem dc_C_leftOn_0 : decode bc_C_leftOn 0 = .ok (.aload_n 1, 1) := by decide +kernel
theorem dc_C_leftOn_1 : decode bc_C_leftOn 1 = .ok (.getfield 103, 3) := by decide +kernel
theorem dc_C_leftOn_4 : decode bc_C_leftOn 4 = .ok (.iload_n 2, 1) := by decide +kernel
theorem dc_C_leftOn_5 : decode bc_C_leftOn 5 = .ok (.laload, 1) := by decide +kernel
theorem dc_C_leftOn_6 : decode bc_C_leftOn 6 = .ok (.aload_n 0, 1) := by decide +kernel
theorem dc_C_leftOn_7 : decode bc_C_leftOn 7 = .ok (.getfield 25, 3) := by decide +kernel
theorem dc_C_leftOn_10 : decode bc_C_leftOn 10 = .ok (.aload_n 1, 1) := by decide +kernel
theorem dc_C_leftOn_11 : decode bc_C_leftOn 11 = .ok (.getfield 167, 3) := by decide +kernel
theorem dc_C_leftOn_14 : decode bc_C_leftOn 14 = .ok (.iload_n 2, 1) := by decide +kernel
theorem dc_C_leftOn_15 : decode bc_C_leftOn 15 = .ok (.iload_n 3, 1) := by decide +kernel
theorem dc_C_leftOn_16 : decode bc_C_leftOn 16 = .ok (.invokevirtual 194, 3) := by decide +kernel
theorem dc_C_leftOn_19 : decode bc_C_leftOn 19 = .ok (.lsub, 1) := by decide +kernel
theorem dc_C_leftOn_20 : decode bc_C_leftOn 20 = .ok (.lreturn, 1) := by decide +kernel
theorem dc_C_leftInAll_0 : decode bc_C_leftInAll 0 = .ok (.aload_n 0, 1) := by decide +kernel
theorem dc_C_leftInAll_1 : decode bc_C_leftInAll 1 = .ok (.aload_n 1, 1) := by decide +kernel
theorem dc_C_leftInAll_2 : decode bc_C_leftInAll 2 = .ok (.iload_n 2, 1) := by decide +kernel
theorem dc_C_leftInAll_3 : decode bc_C_leftInAll 3 = .ok (.ldc 198, 2) := by decide +kernel
theorem dc_C_leftInAll_5 : decode bc_C_leftInAll 5 = .ok (.invokevirtual 112, 3) := by decide +kernel
theorem dc_C_leftInAll_8 : decode bc_C_leftInAll 8 = .ok (.lreturn, 1) := by decide +kernel
theorem dc_C_overOf_0 : decode bc_C_overOf 0 = .ok (.lconst 0, 1) := by decide +kernel
theorem dc_C_overOf_1 : decode bc_C_overOf 1 = .ok (.aload_n 0, 1) := by decide +kernel
theorem dc_C_overOf_2 : decode bc_C_overOf 2 = .ok (.aload_n 1, 1) := by decide +kernel
theorem dc_C_overOf_3 : decode bc_C_overOf 3 = .ok (.iload_n 2, 1) := by decide +kernel
theorem dc_C_overOf_4 : decode bc_C_overOf 4 = .ok (.invokevirtual 116, 3) := by decide +kernel
theorem dc_C_overOf_7 : decode bc_C_overOf 7 = .ok (.lneg, 1) := by decide +kernel
theorem dc_C_overOf_8 : decode bc_C_overOf 8 = .ok (.invokestatic 170, 3) := by decide +kernel
theorem dc_C_overOf_11 : decode bc_C_overOf 11 = .ok (.lreturn, 1) := by decide +kernel
theorem dc_C_carriedOf_0 : decode bc_C_carriedOf 0 = .ok (.aload_n 0, 1) := by decide +kernel
theorem dc_C_carriedOf_1 : decode bc_C_carriedOf 1 = .ok (.aload_n 1, 1) := by decide +kernel
theorem dc_C_carriedOf_2 : decode bc_C_carriedOf 2 = .ok (.iload_n 2, 1) := by decide +kernel
theorem dc_C_carriedOf_3 : decode bc_C_carriedOf 3 = .ok (.invokevirtual 133, 3) := by decide +kernel
theorem dc_C_carriedOf_6 : decode bc_C_carriedOf 6 = .ok (.lstore_n 3, 1) := by decide +kernel
theorem dc_C_carriedOf_7 : decode bc_C_carriedOf 7 = .ok (.lload_n 3, 1) := by decide +kernel
theorem dc_C_carriedOf_8 : decode bc_C_carriedOf 8 = .ok (.lconst 0, 1) := by decide +kernel
theorem dc_C_carriedOf_9 : decode bc_C_carriedOf 9 = .ok (.lcmp, 1) := by decide +kernel
theorem dc_C_carriedOf_10 : decode bc_C_carriedOf 10 = .ok (.ifCond .le 20, 3) := by decide +kernel
theorem dc_C_carriedOf_13 : decode bc_C_carriedOf 13 = .ok (.lload_n 3, 1) := by decide +kernel
theorem dc_C_carriedOf_14 : decode bc_C_carriedOf 14 = .ok (.aload_n 0, 1) := by decide +kernel
theorem dc_C_carriedOf_15 : decode bc_C_carriedOf 15 = .ok (.getfield 36, 3) := by decide +kernel
theorem dc_C_carriedOf_18 : decode bc_C_carriedOf 18 = .ok (.i2l, 1) := by decide +kernel
theorem dc_C_carriedOf_19 : decode bc_C_carriedOf 19 = .ok (.lmul, 1) := by decide +kernel
theorem dc_C_carriedOf_20 : decode bc_C_carriedOf 20 = .ok (.aload_n 0, 1) := by decide +kernel
theorem dc_C_carriedOf_21 : decode bc_C_carriedOf 21 = .ok (.getfield 40, 3) := by decide +kernel
theorem dc_C_carriedOf_24 : decode bc_C_carriedOf 24 = .ok (.i2l, 1) := by decide +kernel
theorem dc_C_carriedOf_25 : decode bc_C_carriedOf 25 = .ok (.invokestatic 176, 3) := by decide +kernel
theorem dc_C_carriedOf_28 : decode bc_C_carriedOf 28 = .ok (.lneg, 1) := by decide +kernel
theorem dc_C_carriedOf_29 : decode bc_C_carriedOf 29 = .ok (.lreturn, 1) := by decide +kernel
theorem dc_C_carriedOf_30 : decode bc_C_carriedOf 30 = .ok (.aload_n 0, 1) := by decide +kernel
theorem dc_C_carriedOf_31 : decode bc_C_carriedOf 31 = .ok (.aload_n 1, 1) := by decide +kernel
theorem dc_C_carriedOf_32 : decode bc_C_carriedOf 32 = .ok (.iload_n 2, 1) := by decide +kernel
theorem dc_C_carriedOf_33 : decode bc_C_carriedOf 33 = .ok (.invokevirtual 116, 3) := by decide +kernel
theorem dc_C_carriedOf_36 : decode bc_C_carriedOf 36 = .ok (.aload_n 1, 1) := by decide +kernel
theorem dc_C_carriedOf_37 : decode bc_C_carriedOf 37 = .ok (.getfield 103, 3) := by decide +kernel
theorem dc_C_carriedOf_40 : decode bc_C_carriedOf 40 = .ok (.iload_n 2, 1) := by decide +kernel
theorem dc_C_carriedOf_41 : decode bc_C_carriedOf 41 = .ok (.laload, 1) := by decide +kernel
theorem dc_C_carriedOf_42 : decode bc_C_carriedOf 42 = .ok (.ldc2_w 199, 3) := by decide +kernel
theorem dc_C_carriedOf_45 : decode bc_C_carriedOf 45 = .ok (.ldiv, 1) := by decide +kernel
theorem dc_C_carriedOf_46 : decode bc_C_carriedOf 46 = .ok (.invokestatic 201, 3) := by decide +kernel
theorem dc_C_carriedOf_49 : decode bc_C_carriedOf 49 = .ok (.lreturn, 1) := by decide +kernel
theorem dc_C_carryOver_0 : decode bc_C_carryOver 0 = .ok (.iconst 0, 1) := by decide +kernel
theorem dc_C_carryOver_1 : decode bc_C_carryOver 1 = .ok (.istore_n 3, 1) := by decide +kernel
theorem dc_C_carryOver_2 : decode bc_C_carryOver 2 = .ok (.iload_n 3, 1) := by decide +kernel
theorem dc_C_carryOver_3 : decode bc_C_carryOver 3 = .ok (.aload_n 0, 1) := by decide +kernel
theorem dc_C_carryOver_4 : decode bc_C_carryOver 4 = .ok (.getfield 55, 3) := by decide +kernel
theorem dc_C_carryOver_7 : decode bc_C_carryOver 7 = .ok (.if_icmp .ge 20, 3) := by decide +kernel
theorem dc_C_carryOver_10 : decode bc_C_carryOver 10 = .ok (.aload_n 2, 1) := by decide +kernel
theorem dc_C_carryOver_11 : decode bc_C_carryOver 11 = .ok (.iload_n 3, 1) := by decide +kernel
theorem dc_C_carryOver_12 : decode bc_C_carryOver 12 = .ok (.aload_n 0, 1) := by decide +kernel
theorem dc_C_carryOver_13 : decode bc_C_carryOver 13 = .ok (.aload_n 1, 1) := by decide +kernel
theorem dc_C_carryOver_14 : decode bc_C_carryOver 14 = .ok (.iload_n 3, 1) := by decide +kernel
theorem dc_C_carryOver_15 : decode bc_C_carryOver 15 = .ok (.invokevirtual 136, 3) := by decide +kernel
theorem dc_C_carryOver_18 : decode bc_C_carryOver 18 = .ok (.invokevirtual 204, 3) := by decide +kernel
theorem dc_C_carryOver_21 : decode bc_C_carryOver 21 = .ok (.iinc 3 1, 3) := by decide +kernel
theorem dc_C_carryOver_24 : decode bc_C_carryOver 24 = .ok (.goto (-22), 3) := by decide +kernel
theorem dc_C_carryOver_27 : decode bc_C_carryOver 27 = .ok (.return_, 1) := by decide +kernel
theorem dc_C_holdOf_0 : decode bc_C_holdOf 0 = .ok (.aload_n 0, 1) := by decide +kernel
theorem dc_C_holdOf_1 : decode bc_C_holdOf 1 = .ok (.getfield 32, 3) := by decide +kernel
theorem dc_C_holdOf_4 : decode bc_C_holdOf 4 = .ok (.iload_n 1, 1) := by decide +kernel
theorem dc_C_holdOf_5 : decode bc_C_holdOf 5 = .ok (.invokevirtual 155, 3) := by decide +kernel
theorem dc_C_holdOf_8 : decode bc_C_holdOf 8 = .ok (.aload_n 0, 1) := by decide +kernel
theorem dc_C_holdOf_9 : decode bc_C_holdOf 9 = .ok (.getfield 32, 3) := by decide +kernel
theorem dc_C_holdOf_12 : decode bc_C_holdOf 12 = .ok (.iload_n 2, 1) := by decide +kernel
theorem dc_C_holdOf_13 : decode bc_C_holdOf 13 = .ok (.invokevirtual 207, 3) := by decide +kernel
theorem dc_C_holdOf_16 : decode bc_C_holdOf 16 = .ok (.lreturn, 1) := by decide +kernel
theorem dc_C_isAboveCap_0 : decode bc_C_isAboveCap 0 = .ok (.lconst 0, 1) := by decide +kernel
theorem dc_C_isAboveCap_1 : decode bc_C_isAboveCap 1 = .ok (.lstore_n 2, 1) := by decide +kernel
theorem dc_C_isAboveCap_2 : decode bc_C_isAboveCap 2 = .ok (.lconst 0, 1) := by decide +kernel
theorem dc_C_isAboveCap_3 : decode bc_C_isAboveCap 3 = .ok (.lstore 4, 2) := by decide +kernel
theorem dc_C_isAboveCap_5 : decode bc_C_isAboveCap 5 = .ok (.iconst 0, 1) := by decide +kernel
theorem dc_C_isAboveCap_6 : decode bc_C_isAboveCap 6 = .ok (.istore 6, 2) := by decide +kernel
theorem dc_C_isAboveCap_8 : decode bc_C_isAboveCap 8 = .ok (.iload 6, 2) := by decide +kernel
theorem dc_C_isAboveCap_10 : decode bc_C_isAboveCap 10 = .ok (.aload_n 0, 1) := by decide +kernel
theorem dc_C_isAboveCap_11 : decode bc_C_isAboveCap 11 = .ok (.getfield 55, 3) := by decide +kernel
theorem dc_C_isAboveCap_14 : decode bc_C_isAboveCap 14 = .ok (.if_icmp .ge 61, 3) := by decide +kernel
theorem dc_C_isAboveCap_17 : decode bc_C_isAboveCap 17 = .ok (.aload_n 0, 1) := by decide +kernel
theorem dc_C_isAboveCap_18 : decode bc_C_isAboveCap 18 = .ok (.getfield 32, 3) := by decide +kernel
theorem dc_C_isAboveCap_21 : decode bc_C_isAboveCap 21 = .ok (.aload_n 0, 1) := by decide +kernel
theorem dc_C_isAboveCap_22 : decode bc_C_isAboveCap 22 = .ok (.getfield 15, 3) := by decide +kernel
theorem dc_C_isAboveCap_25 : decode bc_C_isAboveCap 25 = .ok (.iload 6, 2) := by decide +kernel
theorem dc_C_isAboveCap_27 : decode bc_C_isAboveCap 27 = .ok (.iaload, 1) := by decide +kernel
theorem dc_C_isAboveCap_28 : decode bc_C_isAboveCap 28 = .ok (.invokevirtual 207, 3) := by decide +kernel
theorem dc_C_isAboveCap_31 : decode bc_C_isAboveCap 31 = .ok (.lstore 7, 2) := by decide +kernel
theorem dc_C_isAboveCap_33 : decode bc_C_isAboveCap 33 = .ok (.lload_n 2, 1) := by decide +kernel
theorem dc_C_isAboveCap_34 : decode bc_C_isAboveCap 34 = .ok (.aload_n 1, 1) := by decide +kernel
theorem dc_C_isAboveCap_35 : decode bc_C_isAboveCap 35 = .ok (.getfield 75, 3) := by decide +kernel
theorem dc_C_isAboveCap_38 : decode bc_C_isAboveCap 38 = .ok (.iload 6, 2) := by decide +kernel
theorem dc_C_isAboveCap_40 : decode bc_C_isAboveCap 40 = .ok (.laload, 1) := by decide +kernel
theorem dc_C_isAboveCap_41 : decode bc_C_isAboveCap 41 = .ok (.lload 7, 2) := by decide +kernel
theorem dc_C_isAboveCap_43 : decode bc_C_isAboveCap 43 = .ok (.ldc2_w 46, 3) := by decide +kernel
theorem dc_C_isAboveCap_46 : decode bc_C_isAboveCap 46 = .ok (.ldiv, 1) := by decide +kernel
theorem dc_C_isAboveCap_47 : decode bc_C_isAboveCap 47 = .ok (.lmul, 1) := by decide +kernel
theorem dc_C_isAboveCap_48 : decode bc_C_isAboveCap 48 = .ok (.ladd, 1) := by decide +kernel
theorem dc_C_isAboveCap_49 : decode bc_C_isAboveCap 49 = .ok (.lstore_n 2, 1) := by decide +kernel
theorem dc_C_isAboveCap_50 : decode bc_C_isAboveCap 50 = .ok (.lload 4, 2) := by decide +kernel
theorem dc_C_isAboveCap_52 : decode bc_C_isAboveCap 52 = .ok (.aload_n 1, 1) := by decide +kernel
theorem dc_C_isAboveCap_53 : decode bc_C_isAboveCap 53 = .ok (.getfield 75, 3) := by decide +kernel
theorem dc_C_isAboveCap_56 : decode bc_C_isAboveCap 56 = .ok (.iload 6, 2) := by decide +kernel
theorem dc_C_isAboveCap_58 : decode bc_C_isAboveCap 58 = .ok (.laload, 1) := by decide +kernel
theorem dc_C_isAboveCap_59 : decode bc_C_isAboveCap 59 = .ok (.lload 7, 2) := by decide +kernel
theorem dc_C_isAboveCap_61 : decode bc_C_isAboveCap 61 = .ok (.ldc2_w 46, 3) := by decide +kernel
theorem dc_C_isAboveCap_64 : decode bc_C_isAboveCap 64 = .ok (.lrem, 1) := by decide +kernel
theorem dc_C_isAboveCap_65 : decode bc_C_isAboveCap 65 = .ok (.lmul, 1) := by decide +kernel
theorem dc_C_isAboveCap_66 : decode bc_C_isAboveCap 66 = .ok (.ladd, 1) := by decide +kernel
theorem dc_C_isAboveCap_67 : decode bc_C_isAboveCap 67 = .ok (.lstore 4, 2) := by decide +kernel
theorem dc_C_isAboveCap_69 : decode bc_C_isAboveCap 69 = .ok (.iinc 6 1, 3) := by decide +kernel
theorem dc_C_isAboveCap_72 : decode bc_C_isAboveCap 72 = .ok (.goto (-64), 3) := by decide +kernel
theorem dc_C_isAboveCap_75 : decode bc_C_isAboveCap 75 = .ok (.lload_n 2, 1) := by decide +kernel
theorem dc_C_isAboveCap_76 : decode bc_C_isAboveCap 76 = .ok (.lload 4, 2) := by decide +kernel
theorem dc_C_isAboveCap_78 : decode bc_C_isAboveCap 78 = .ok (.ldc2_w 46, 3) := by decide +kernel
theorem dc_C_isAboveCap_81 : decode bc_C_isAboveCap 81 = .ok (.ldiv, 1) := by decide +kernel
theorem dc_C_isAboveCap_82 : decode bc_C_isAboveCap 82 = .ok (.ladd, 1) := by decide +kernel
theorem dc_C_isAboveCap_83 : decode bc_C_isAboveCap 83 = .ok (.lstore_n 2, 1) := by decide +kernel
theorem dc_C_isAboveCap_84 : decode bc_C_isAboveCap 84 = .ok (.lload 4, 2) := by decide +kernel
theorem dc_C_isAboveCap_86 : decode bc_C_isAboveCap 86 = .ok (.ldc2_w 46, 3) := by decide +kernel
theorem dc_C_isAboveCap_89 : decode bc_C_isAboveCap 89 = .ok (.lrem, 1) := by decide +kernel
theorem dc_C_isAboveCap_90 : decode bc_C_isAboveCap 90 = .ok (.lstore 4, 2) := by decide +kernel
theorem dc_C_isAboveCap_92 : decode bc_C_isAboveCap 92 = .ok (.aload_n 1, 1) := by decide +kernel
theorem dc_C_isAboveCap_93 : decode bc_C_isAboveCap 93 = .ok (.invokevirtual 210, 3) := by decide +kernel
theorem dc_C_isAboveCap_96 : decode bc_C_isAboveCap 96 = .ok (.aload_n 1, 1) := by decide +kernel
theorem dc_C_isAboveCap_97 : decode bc_C_isAboveCap 97 = .ok (.getfield 152, 3) := by decide +kernel
theorem dc_C_isAboveCap_100 : decode bc_C_isAboveCap 100 = .ok (.i2l, 1) := by decide +kernel
theorem dc_C_isAboveCap_101 : decode bc_C_isAboveCap 101 = .ok (.lmul, 1) := by decide +kernel
theorem dc_C_isAboveCap_102 : decode bc_C_isAboveCap 102 = .ok (.ldc2_w 213, 3) := by decide +kernel
theorem dc_C_isAboveCap_105 : decode bc_C_isAboveCap 105 = .ok (.lmul, 1) := by decide +kernel
theorem dc_C_isAboveCap_106 : decode bc_C_isAboveCap 106 = .ok (.lstore 6, 2) := by decide +kernel
theorem dc_C_isAboveCap_108 : decode bc_C_isAboveCap 108 = .ok (.lload_n 2, 1) := by decide +kernel
theorem dc_C_isAboveCap_109 : decode bc_C_isAboveCap 109 = .ok (.lload 6, 2) := by decide +kernel
theorem dc_C_isAboveCap_111 : decode bc_C_isAboveCap 111 = .ok (.lcmp, 1) := by decide +kernel
theorem dc_C_isAboveCap_112 : decode bc_C_isAboveCap 112 = .ok (.ifCond .gt 17, 3) := by decide +kernel
theorem dc_C_isAboveCap_115 : decode bc_C_isAboveCap 115 = .ok (.lload_n 2, 1) := by decide +kernel
theorem dc_C_isAboveCap_116 : decode bc_C_isAboveCap 116 = .ok (.lload 6, 2) := by decide +kernel
theorem dc_C_isAboveCap_118 : decode bc_C_isAboveCap 118 = .ok (.lcmp, 1) := by decide +kernel
theorem dc_C_isAboveCap_119 : decode bc_C_isAboveCap 119 = .ok (.ifCond .ne 14, 3) := by decide +kernel
theorem dc_C_isAboveCap_122 : decode bc_C_isAboveCap 122 = .ok (.lload 4, 2) := by decide +kernel
theorem dc_C_isAboveCap_124 : decode bc_C_isAboveCap 124 = .ok (.lconst 0, 1) := by decide +kernel
theorem dc_C_isAboveCap_125 : decode bc_C_isAboveCap 125 = .ok (.lcmp, 1) := by decide +kernel
theorem dc_C_isAboveCap_126 : decode bc_C_isAboveCap 126 = .ok (.ifCond .le 7, 3) := by decide +kernel
theorem dc_C_isAboveCap_129 : decode bc_C_isAboveCap 129 = .ok (.iconst 1, 1) := by decide +kernel
theorem dc_C_isAboveCap_130 : decode bc_C_isAboveCap 130 = .ok (.goto 4, 3) := by decide +kernel
theorem dc_C_isAboveCap_133 : decode bc_C_isAboveCap 133 = .ok (.iconst 0, 1) := by decide +kernel
theorem dc_C_isAboveCap_134 : decode bc_C_isAboveCap 134 = .ok (.ireturn, 1) := by decide +kernel
theorem dc_C_isScarcer_0 : decode bc_C_isScarcer 0 = .ok (.aload_n 1, 1) := by decide +kernel
theorem dc_C_isScarcer_1 : decode bc_C_isScarcer 1 = .ok (.getfield 103, 3) := by decide +kernel
theorem dc_C_isScarcer_4 : decode bc_C_isScarcer 4 = .ok (.iload_n 3, 1) := by decide +kernel
theorem dc_C_isScarcer_5 : decode bc_C_isScarcer 5 = .ok (.laload, 1) := by decide +kernel
theorem dc_C_isScarcer_6 : decode bc_C_isScarcer 6 = .ok (.lstore 4, 2) := by decide +kernel
theorem dc_C_isScarcer_8 : decode bc_C_isScarcer 8 = .ok (.aload_n 2, 1) := by decide +kernel
theorem dc_C_isScarcer_9 : decode bc_C_isScarcer 9 = .ok (.getfield 103, 3) := by decide +kernel
theorem dc_C_isScarcer_12 : decode bc_C_isScarcer 12 = .ok (.iload_n 3, 1) := by decide +kernel
theorem dc_C_isScarcer_13 : decode bc_C_isScarcer 13 = .ok (.laload, 1) := by decide +kernel
theorem dc_C_isScarcer_14 : decode bc_C_isScarcer 14 = .ok (.lstore 6, 2) := by decide +kernel
theorem dc_C_isScarcer_16 : decode bc_C_isScarcer 16 = .ok (.lload 4, 2) := by decide +kernel
theorem dc_C_isScarcer_18 : decode bc_C_isScarcer 18 = .ok (.lconst 1, 1) := by decide +kernel
theorem dc_C_isScarcer_19 : decode bc_C_isScarcer 19 = .ok (.lcmp, 1) := by decide +kernel
theorem dc_C_isScarcer_20 : decode bc_C_isScarcer 20 = .ok (.ifCond .lt 10, 3) := by decide +kernel
theorem dc_C_isScarcer_23 : decode bc_C_isScarcer 23 = .ok (.lload 6, 2) := by decide +kernel
theorem dc_C_isScarcer_25 : decode bc_C_isScarcer 25 = .ok (.lconst 1, 1) := by decide +kernel
theorem dc_C_isScarcer_26 : decode bc_C_isScarcer 26 = .ok (.lcmp, 1) := by decide +kernel
theorem dc_C_isScarcer_27 : decode bc_C_isScarcer 27 = .ok (.ifCond .ge 5, 3) := by decide +kernel
theorem dc_C_isScarcer_30 : decode bc_C_isScarcer 30 = .ok (.iconst 0, 1) := by decide +kernel
theorem dc_C_isScarcer_31 : decode bc_C_isScarcer 31 = .ok (.ireturn, 1) := by decide +kernel
theorem dc_C_isScarcer_32 : decode bc_C_isScarcer 32 = .ok (.aload_n 0, 1) := by decide +kernel
theorem dc_C_isScarcer_33 : decode bc_C_isScarcer 33 = .ok (.aload_n 1, 1) := by decide +kernel
theorem dc_C_isScarcer_34 : decode bc_C_isScarcer 34 = .ok (.iload_n 3, 1) := by decide +kernel
theorem dc_C_isScarcer_35 : decode bc_C_isScarcer 35 = .ok (.invokevirtual 116, 3) := by decide +kernel
theorem dc_C_isScarcer_38 : decode bc_C_isScarcer 38 = .ok (.lstore 8, 2) := by decide +kernel
theorem dc_C_isScarcer_40 : decode bc_C_isScarcer 40 = .ok (.aload_n 0, 1) := by decide +kernel
theorem dc_C_isScarcer_41 : decode bc_C_isScarcer 41 = .ok (.aload_n 2, 1) := by decide +kernel
theorem dc_C_isScarcer_42 : decode bc_C_isScarcer 42 = .ok (.iload_n 3, 1) := by decide +kernel
theorem dc_C_isScarcer_43 : decode bc_C_isScarcer 43 = .ok (.invokevirtual 116, 3) := by decide +kernel
theorem dc_C_isScarcer_46 : decode bc_C_isScarcer 46 = .ok (.lstore 10, 2) := by decide +kernel
theorem dc_C_isScarcer_48 : decode bc_C_isScarcer 48 = .ok (.lload 8, 2) := by decide +kernel
theorem dc_C_isScarcer_50 : decode bc_C_isScarcer 50 = .ok (.lload 4, 2) := by decide +kernel
theorem dc_C_isScarcer_52 : decode bc_C_isScarcer 52 = .ok (.invokestatic 215, 3) := by decide +kernel
theorem dc_C_isScarcer_55 : decode bc_C_isScarcer 55 = .ok (.lstore 12, 2) := by decide +kernel
theorem dc_C_isScarcer_57 : decode bc_C_isScarcer 57 = .ok (.lload 10, 2) := by decide +kernel
theorem dc_C_isScarcer_59 : decode bc_C_isScarcer 59 = .ok (.lload 6, 2) := by decide +kernel
theorem dc_C_isScarcer_61 : decode bc_C_isScarcer 61 = .ok (.invokestatic 215, 3) := by decide +kernel
theorem dc_C_isScarcer_64 : decode bc_C_isScarcer 64 = .ok (.lstore 14, 2) := by decide +kernel
theorem dc_C_isScarcer_66 : decode bc_C_isScarcer 66 = .ok (.lload 12, 2) := by decide +kernel
theorem dc_C_isScarcer_68 : decode bc_C_isScarcer 68 = .ok (.lload 14, 2) := by decide +kernel
theorem dc_C_isScarcer_70 : decode bc_C_isScarcer 70 = .ok (.lcmp, 1) := by decide +kernel
theorem dc_C_isScarcer_71 : decode bc_C_isScarcer 71 = .ok (.ifCond .eq 17, 3) := by decide +kernel
theorem dc_C_isScarcer_74 : decode bc_C_isScarcer 74 = .ok (.lload 12, 2) := by decide +kernel
theorem dc_C_isScarcer_76 : decode bc_C_isScarcer 76 = .ok (.lload 14, 2) := by decide +kernel
theorem dc_C_isScarcer_78 : decode bc_C_isScarcer 78 = .ok (.lcmp, 1) := by decide +kernel
theorem dc_C_isScarcer_79 : decode bc_C_isScarcer 79 = .ok (.ifCond .ge 7, 3) := by decide +kernel
theorem dc_C_isScarcer_82 : decode bc_C_isScarcer 82 = .ok (.iconst 1, 1) := by decide +kernel
theorem dc_C_isScarcer_83 : decode bc_C_isScarcer 83 = .ok (.goto 4, 3) := by decide +kernel
theorem dc_C_isScarcer_86 : decode bc_C_isScarcer 86 = .ok (.iconst 0, 1) := by decide +kernel
theorem dc_C_isScarcer_87 : decode bc_C_isScarcer 87 = .ok (.ireturn, 1) := by decide +kernel
theorem dc_C_isScarcer_88 : decode bc_C_isScarcer 88 = .ok (.lload 8, 2) := by decide +kernel
theorem dc_C_isScarcer_90 : decode bc_C_isScarcer 90 = .ok (.lload 4, 2) := by decide +kernel
theorem dc_C_isScarcer_92 : decode bc_C_isScarcer 92 = .ok (.invokestatic 218, 3) := by decide +kernel
theorem dc_C_isScarcer_95 : decode bc_C_isScarcer 95 = .ok (.lload 6, 2) := by decide +kernel
theorem dc_C_isScarcer_97 : decode bc_C_isScarcer 97 = .ok (.lmul, 1) := by decide +kernel
theorem dc_C_isScarcer_98 : decode bc_C_isScarcer 98 = .ok (.lload 10, 2) := by decide +kernel
theorem dc_C_isScarcer_100 : decode bc_C_isScarcer 100 = .ok (.lload 6, 2) := by decide +kernel
theorem dc_C_isScarcer_102 : decode bc_C_isScarcer 102 = .ok (.invokestatic 218, 3) := by decide +kernel
theorem dc_C_isScarcer_105 : decode bc_C_isScarcer 105 = .ok (.lload 4, 2) := by decide +kernel
theorem dc_C_isScarcer_107 : decode bc_C_isScarcer 107 = .ok (.lmul, 1) := by decide +kernel
theorem dc_C_isScarcer_108 : decode bc_C_isScarcer 108 = .ok (.lcmp, 1) := by decide +kernel
theorem dc_C_isScarcer_109 : decode bc_C_isScarcer 109 = .ok (.ifCond .ge 7, 3) := by decide +kernel
theorem dc_C_isScarcer_112 : decode bc_C_isScarcer 112 = .ok (.iconst 1, 1) := by decide +kernel
theorem dc_C_isScarcer_113 : decode bc_C_isScarcer 113 = .ok (.goto 4, 3) := by decide +kernel
theorem dc_C_isScarcer_116 : decode bc_C_isScarcer 116 = .ok (.iconst 0, 1) := by decide +kernel
theorem dc_C_isScarcer_117 : decode bc_C_isScarcer 117 = .ok (.ireturn, 1) := by decide +kernel
theorem dc_J_floorDiv_0 : decode bc_J_floorDiv 0 = .ok (.lload_n 0, 1) := by decide +kernel
theorem dc_J_floorDiv_1 : decode bc_J_floorDiv 1 = .ok (.lload_n 2, 1) := by decide +kernel
theorem dc_J_floorDiv_2 : decode bc_J_floorDiv 2 = .ok (.ldiv, 1) := by decide +kernel
theorem dc_J_floorDiv_3 : decode bc_J_floorDiv 3 = .ok (.lstore 4, 2) := by decide +kernel
theorem dc_J_floorDiv_5 : decode bc_J_floorDiv 5 = .ok (.lload_n 0, 1) := by decide +kernel
theorem dc_J_floorDiv_6 : decode bc_J_floorDiv 6 = .ok (.lload_n 2, 1) := by decide +kernel
theorem dc_J_floorDiv_7 : decode bc_J_floorDiv 7 = .ok (.lxor, 1) := by decide +kernel
theorem dc_J_floorDiv_8 : decode bc_J_floorDiv 8 = .ok (.lconst 0, 1) := by decide +kernel
theorem dc_J_floorDiv_9 : decode bc_J_floorDiv 9 = .ok (.lcmp, 1) := by decide +kernel
theorem dc_J_floorDiv_10 : decode bc_J_floorDiv 10 = .ok (.ifCond .ge 17, 3) := by decide +kernel
theorem dc_J_floorDiv_13 : decode bc_J_floorDiv 13 = .ok (.lload 4, 2) := by decide +kernel
theorem dc_J_floorDiv_15 : decode bc_J_floorDiv 15 = .ok (.lload_n 2, 1) := by decide +kernel
theorem dc_J_floorDiv_16 : decode bc_J_floorDiv 16 = .ok (.lmul, 1) := by decide +kernel
theorem dc_J_floorDiv_17 : decode bc_J_floorDiv 17 = .ok (.lload_n 0, 1) := by decide +kernel
theorem dc_J_floorDiv_18 : decode bc_J_floorDiv 18 = .ok (.lcmp, 1) := by decide +kernel
theorem dc_J_floorDiv_19 : decode bc_J_floorDiv 19 = .ok (.ifCond .eq 8, 3) := by decide +kernel
theorem dc_J_floorDiv_22 : decode bc_J_floorDiv 22 = .ok (.lload 4, 2) := by decide +kernel
theorem dc_J_floorDiv_24 : decode bc_J_floorDiv 24 = .ok (.lconst 1, 1) := by decide +kernel
theorem dc_J_floorDiv_25 : decode bc_J_floorDiv 25 = .ok (.lsub, 1) := by decide +kernel
theorem dc_J_floorDiv_26 : decode bc_J_floorDiv 26 = .ok (.lreturn, 1) := by decide +kernel
theorem dc_J_floorDiv_27 : decode bc_J_floorDiv 27 = .ok (.lload 4, 2) := by decide +kernel
theorem dc_J_floorDiv_29 : decode bc_J_floorDiv 29 = .ok (.lreturn, 1) := by decide +kernel
theorem dc_J_floorMod_0 : decode bc_J_floorMod 0 = .ok (.lload_n 0, 1) := by decide +kernel
theorem dc_J_floorMod_1 : decode bc_J_floorMod 1 = .ok (.lload_n 2, 1) := by decide +kernel
theorem dc_J_floorMod_2 : decode bc_J_floorMod 2 = .ok (.lrem, 1) := by decide +kernel
theorem dc_J_floorMod_3 : decode bc_J_floorMod 3 = .ok (.lstore 4, 2) := by decide +kernel
theorem dc_J_floorMod_5 : decode bc_J_floorMod 5 = .ok (.lload_n 0, 1) := by decide +kernel
theorem dc_J_floorMod_6 : decode bc_J_floorMod 6 = .ok (.lload_n 2, 1) := by decide +kernel
theorem dc_J_floorMod_7 : decode bc_J_floorMod 7 = .ok (.lxor, 1) := by decide +kernel
theorem dc_J_floorMod_8 : decode bc_J_floorMod 8 = .ok (.lconst 0, 1) := by decide +kernel
theorem dc_J_floorMod_9 : decode bc_J_floorMod 9 = .ok (.lcmp, 1) := by decide +kernel
theorem dc_J_floorMod_10 : decode bc_J_floorMod 10 = .ok (.ifCond .ge 15, 3) := by decide +kernel
theorem dc_J_floorMod_13 : decode bc_J_floorMod 13 = .ok (.lload 4, 2) := by decide +kernel
theorem dc_J_floorMod_15 : decode bc_J_floorMod 15 = .ok (.lconst 0, 1) := by decide +kernel
theorem dc_J_floorMod_16 : decode bc_J_floorMod 16 = .ok (.lcmp, 1) := by decide +kernel
theorem dc_J_floorMod_17 : decode bc_J_floorMod 17 = .ok (.ifCond .eq 8, 3) := by decide +kernel
theorem dc_J_floorMod_20 : decode bc_J_floorMod 20 = .ok (.lload 4, 2) := by decide +kernel
theorem dc_J_floorMod_22 : decode bc_J_floorMod 22 = .ok (.lload_n 2, 1) := by decide +kernel
theorem dc_J_floorMod_23 : decode bc_J_floorMod 23 = .ok (.ladd, 1) := by decide +kernel
theorem dc_J_floorMod_24 : decode bc_J_floorMod 24 = .ok (.lreturn, 1) := by decide +kernel
theorem dc_J_floorMod_25 : decode bc_J_floorMod 25 = .ok (.lload 4, 2) := by decide +kernel
theorem dc_J_floorMod_27 : decode bc_J_floorMod 27 = .ok (.lreturn, 1) := by decide +kernel

theorem dX0_init_0 : decode cX0_init 0 = .ok (.aload_n 0, 1) := by decide +kernel
theorem dX0_init_1 : decode cX0_init 1 = .ok (.invokespecial 3, 3) := by decide +kernel
theorem dX0_init_4 : decode cX0_init 4 = .ok (.aload_n 0, 1) := by decide +kernel
theorem dX0_init_5 : decode cX0_init 5 = .ok (.bipush 6, 2) := by decide +kernel
theorem dX0_init_7 : decode cX0_init 7 = .ok (.anewarray 9, 3) := by decide +kernel
theorem dX0_init_10 : decode cX0_init 10 = .ok (.putfield 11, 3) := by decide +kernel
theorem dX0_init_13 : decode cX0_init 13 = .ok (.aload_n 0, 1) := by decide +kernel
theorem dX0_init_14 : decode cX0_init 14 = .ok (.bipush 24, 2) := by decide +kernel
theorem dX0_init_16 : decode cX0_init 16 = .ok (.newarray .boolean, 2) := by decide +kernel
theorem dX0_init_18 : decode cX0_init 18 = .ok (.putfield 17, 3) := by decide +kernel
theorem dX0_init_21 : decode cX0_init 21 = .ok (.iconst 0, 1) := by decide +kernel
theorem dX0_init_22 : decode cX0_init 22 = .ok (.istore_n 1, 1) := by decide +kernel
theorem dX0_init_23 : decode cX0_init 23 = .ok (.iload_n 1, 1) := by decide +kernel
theorem dX0_init_24 : decode cX0_init 24 = .ok (.bipush 6, 2) := by decide +kernel
theorem dX0_init_26 : decode cX0_init 26 = .ok (.if_icmp .ge 22, 3) := by decide +kernel
theorem dX0_init_29 : decode cX0_init 29 = .ok (.aload_n 0, 1) := by decide +kernel
theorem dX0_init_30 : decode cX0_init 30 = .ok (.getfield 11, 3) := by decide +kernel
theorem dX0_init_33 : decode cX0_init 33 = .ok (.iload_n 1, 1) := by decide +kernel
theorem dX0_init_34 : decode cX0_init 34 = .ok (.new 9, 3) := by decide +kernel
theorem dX0_init_37 : decode cX0_init 37 = .ok (.dup, 1) := by decide +kernel
theorem dX0_init_38 : decode cX0_init 38 = .ok (.invokespecial 21, 3) := by decide +kernel
theorem dX0_init_41 : decode cX0_init 41 = .ok (.aastore, 1) := by decide +kernel
theorem dX0_init_42 : decode cX0_init 42 = .ok (.iinc 1 1, 3) := by decide +kernel
theorem dX0_init_45 : decode cX0_init 45 = .ok (.goto (-22), 3) := by decide +kernel
theorem dX0_init_48 : decode cX0_init 48 = .ok (.return_, 1) := by decide +kernel
theorem dX1_init_0 : decode cX1_init 0 = .ok (.aload_n 0, 1) := by decide +kernel
theorem dX1_init_1 : decode cX1_init 1 = .ok (.invokespecial 1, 3) := by decide +kernel
theorem dX1_init_4 : decode cX1_init 4 = .ok (.aload_n 0, 1) := by decide +kernel
theorem dX1_init_5 : decode cX1_init 5 = .ok (.iconst 3, 1) := by decide +kernel
theorem dX1_init_6 : decode cX1_init 6 = .ok (.putfield 7, 3) := by decide +kernel
theorem dX1_init_9 : decode cX1_init 9 = .ok (.aload_n 0, 1) := by decide +kernel
theorem dX1_init_10 : decode cX1_init 10 = .ok (.iconst 3, 1) := by decide +kernel
theorem dX1_init_11 : decode cX1_init 11 = .ok (.putfield 13, 3) := by decide +kernel
theorem dX1_init_14 : decode cX1_init 14 = .ok (.aload_n 0, 1) := by decide +kernel
theorem dX1_init_15 : decode cX1_init 15 = .ok (.iconst 5, 1) := by decide +kernel
theorem dX1_init_16 : decode cX1_init 16 = .ok (.putfield 16, 3) := by decide +kernel
theorem dX1_init_19 : decode cX1_init 19 = .ok (.aload_n 0, 1) := by decide +kernel
theorem dX1_init_20 : decode cX1_init 20 = .ok (.new 19, 3) := by decide +kernel
theorem dX1_init_23 : decode cX1_init 23 = .ok (.dup, 1) := by decide +kernel
theorem dX1_init_24 : decode cX1_init 24 = .ok (.invokespecial 21, 3) := by decide +kernel
theorem dX1_init_27 : decode cX1_init 27 = .ok (.putfield 22, 3) := by decide +kernel
theorem dX1_init_30 : decode cX1_init 30 = .ok (.return_, 1) := by decide +kernel
theorem dX2_init_0 : decode cX2_init 0 = .ok (.aload_n 0, 1) := by decide +kernel
theorem dX2_init_1 : decode cX2_init 1 = .ok (.invokespecial 3, 3) := by decide +kernel
theorem dX2_init_4 : decode cX2_init 4 = .ok (.aload_n 0, 1) := by decide +kernel
theorem dX2_init_5 : decode cX2_init 5 = .ok (.bipush 10, 2) := by decide +kernel
theorem dX2_init_7 : decode cX2_init 7 = .ok (.newarray .char, 2) := by decide +kernel
theorem dX2_init_9 : decode cX2_init 9 = .ok (.putfield 9, 3) := by decide +kernel
theorem dX2_init_12 : decode cX2_init 12 = .ok (.return_, 1) := by decide +kernel
theorem dX2_append_0 : decode cX2_append 0 = .ok (.aload_n 0, 1) := by decide +kernel
theorem dX2_append_1 : decode cX2_append 1 = .ok (.getfield 15, 3) := by decide +kernel
theorem dX2_append_4 : decode cX2_append 4 = .ok (.bipush 10, 2) := by decide +kernel
theorem dX2_append_6 : decode cX2_append 6 = .ok (.if_icmp .ge 23, 3) := by decide +kernel
theorem dX2_append_9 : decode cX2_append 9 = .ok (.aload_n 0, 1) := by decide +kernel
theorem dX2_append_10 : decode cX2_append 10 = .ok (.getfield 9, 3) := by decide +kernel
theorem dX2_append_13 : decode cX2_append 13 = .ok (.aload_n 0, 1) := by decide +kernel
theorem dX2_append_14 : decode cX2_append 14 = .ok (.getfield 15, 3) := by decide +kernel
theorem dX2_append_17 : decode cX2_append 17 = .ok (.iload_n 1, 1) := by decide +kernel
theorem dX2_append_18 : decode cX2_append 18 = .ok (.castore, 1) := by decide +kernel
theorem dX2_append_19 : decode cX2_append 19 = .ok (.aload_n 0, 1) := by decide +kernel
theorem dX2_append_20 : decode cX2_append 20 = .ok (.dup, 1) := by decide +kernel
theorem dX2_append_21 : decode cX2_append 21 = .ok (.getfield 15, 3) := by decide +kernel
theorem dX2_append_24 : decode cX2_append 24 = .ok (.iconst 1, 1) := by decide +kernel
theorem dX2_append_25 : decode cX2_append 25 = .ok (.iadd, 1) := by decide +kernel
theorem dX2_append_26 : decode cX2_append 26 = .ok (.putfield 15, 3) := by decide +kernel
theorem dX2_append_29 : decode cX2_append 29 = .ok (.return_, 1) := by decide +kernel
theorem dX2_spelt_0 : decode cX2_spelt 0 = .ok (.iconst 0, 1) := by decide +kernel
theorem dX2_spelt_1 : decode cX2_spelt 1 = .ok (.istore_n 1, 1) := by decide +kernel
theorem dX2_spelt_2 : decode cX2_spelt 2 = .ok (.iload_n 1, 1) := by decide +kernel
theorem dX2_spelt_3 : decode cX2_spelt 3 = .ok (.iconst 5, 1) := by decide +kernel
theorem dX2_spelt_4 : decode cX2_spelt 4 = .ok (.if_icmp .ge 22, 3) := by decide +kernel
theorem dX2_spelt_7 : decode cX2_spelt 7 = .ok (.aload_n 0, 1) := by decide +kernel
theorem dX2_spelt_8 : decode cX2_spelt 8 = .ok (.iload_n 1, 1) := by decide +kernel
theorem dX2_spelt_9 : decode cX2_spelt 9 = .ok (.invokestatic 19, 3) := by decide +kernel
theorem dX2_spelt_12 : decode cX2_spelt 12 = .ok (.invokevirtual 23, 3) := by decide +kernel
theorem dX2_spelt_15 : decode cX2_spelt 15 = .ok (.ifCond .eq 5, 3) := by decide +kernel
theorem dX2_spelt_18 : decode cX2_spelt 18 = .ok (.iload_n 1, 1) := by decide +kernel
theorem dX2_spelt_19 : decode cX2_spelt 19 = .ok (.ireturn, 1) := by decide +kernel
theorem dX2_spelt_20 : decode cX2_spelt 20 = .ok (.iinc 1 1, 3) := by decide +kernel
theorem dX2_spelt_23 : decode cX2_spelt 23 = .ok (.goto (-21), 3) := by decide +kernel
theorem dX2_spelt_26 : decode cX2_spelt 26 = .ok (.iconst (-1), 1) := by decide +kernel
theorem dX2_spelt_27 : decode cX2_spelt 27 = .ok (.ireturn, 1) := by decide +kernel
theorem dX2_isTyped_0 : decode cX2_isTyped 0 = .ok (.aload_n 1, 1) := by decide +kernel
theorem dX2_isTyped_1 : decode cX2_isTyped 1 = .ok (.invokevirtual 27, 3) := by decide +kernel
theorem dX2_isTyped_4 : decode cX2_isTyped 4 = .ok (.aload_n 0, 1) := by decide +kernel
theorem dX2_isTyped_5 : decode cX2_isTyped 5 = .ok (.getfield 15, 3) := by decide +kernel
theorem dX2_isTyped_8 : decode cX2_isTyped 8 = .ok (.if_icmp .eq 5, 3) := by decide +kernel
theorem dX2_isTyped_11 : decode cX2_isTyped 11 = .ok (.iconst 0, 1) := by decide +kernel
theorem dX2_isTyped_12 : decode cX2_isTyped 12 = .ok (.ireturn, 1) := by decide +kernel
theorem dX2_isTyped_13 : decode cX2_isTyped 13 = .ok (.iconst 0, 1) := by decide +kernel
theorem dX2_isTyped_14 : decode cX2_isTyped 14 = .ok (.istore_n 2, 1) := by decide +kernel
theorem dX2_isTyped_15 : decode cX2_isTyped 15 = .ok (.iload_n 2, 1) := by decide +kernel
theorem dX2_isTyped_16 : decode cX2_isTyped 16 = .ok (.aload_n 0, 1) := by decide +kernel
theorem dX2_isTyped_17 : decode cX2_isTyped 17 = .ok (.getfield 15, 3) := by decide +kernel
theorem dX2_isTyped_20 : decode cX2_isTyped 20 = .ok (.if_icmp .ge 25, 3) := by decide +kernel
theorem dX2_isTyped_23 : decode cX2_isTyped 23 = .ok (.aload_n 1, 1) := by decide +kernel
theorem dX2_isTyped_24 : decode cX2_isTyped 24 = .ok (.iload_n 2, 1) := by decide +kernel
theorem dX2_isTyped_25 : decode cX2_isTyped 25 = .ok (.invokevirtual 33, 3) := by decide +kernel
theorem dX2_isTyped_28 : decode cX2_isTyped 28 = .ok (.aload_n 0, 1) := by decide +kernel
theorem dX2_isTyped_29 : decode cX2_isTyped 29 = .ok (.getfield 9, 3) := by decide +kernel
theorem dX2_isTyped_32 : decode cX2_isTyped 32 = .ok (.iload_n 2, 1) := by decide +kernel
theorem dX2_isTyped_33 : decode cX2_isTyped 33 = .ok (.caload, 1) := by decide +kernel
theorem dX2_isTyped_34 : decode cX2_isTyped 34 = .ok (.if_icmp .eq 5, 3) := by decide +kernel
theorem dX2_isTyped_37 : decode cX2_isTyped 37 = .ok (.iconst 0, 1) := by decide +kernel
theorem dX2_isTyped_38 : decode cX2_isTyped 38 = .ok (.ireturn, 1) := by decide +kernel
theorem dX2_isTyped_39 : decode cX2_isTyped 39 = .ok (.iinc 2 1, 3) := by decide +kernel
theorem dX2_isTyped_42 : decode cX2_isTyped 42 = .ok (.goto (-27), 3) := by decide +kernel
theorem dX2_isTyped_45 : decode cX2_isTyped 45 = .ok (.iconst 1, 1) := by decide +kernel
theorem dX2_isTyped_46 : decode cX2_isTyped 46 = .ok (.ireturn, 1) := by decide +kernel
theorem dX2_wordOf_0 : decode cX2_wordOf 0 = .ok (.iload_n 0, 1) := by decide +kernel
theorem dX2_wordOf_1 : decode cX2_wordOf 1 = .ok (.tableswitch 43 0 3 #[31, 34, 37, 40], 31) := by decide +kernel
theorem dX2_wordOf_32 : decode cX2_wordOf 32 = .ok (.ldc 37, 2) := by decide +kernel
theorem dX2_wordOf_34 : decode cX2_wordOf 34 = .ok (.areturn, 1) := by decide +kernel
theorem dX2_wordOf_35 : decode cX2_wordOf 35 = .ok (.ldc 39, 2) := by decide +kernel
theorem dX2_wordOf_37 : decode cX2_wordOf 37 = .ok (.areturn, 1) := by decide +kernel
theorem dX2_wordOf_38 : decode cX2_wordOf 38 = .ok (.ldc 41, 2) := by decide +kernel
theorem dX2_wordOf_40 : decode cX2_wordOf 40 = .ok (.areturn, 1) := by decide +kernel
theorem dX2_wordOf_41 : decode cX2_wordOf 41 = .ok (.ldc 43, 2) := by decide +kernel
theorem dX2_wordOf_43 : decode cX2_wordOf 43 = .ok (.areturn, 1) := by decide +kernel
theorem dX2_wordOf_44 : decode cX2_wordOf 44 = .ok (.ldc 45, 2) := by decide +kernel
theorem dX2_wordOf_46 : decode cX2_wordOf 46 = .ok (.areturn, 1) := by decide +kernel
theorem dX3_init_0 : decode cX3_init 0 = .ok (.aload_n 0, 1) := by decide +kernel
theorem dX3_init_1 : decode cX3_init 1 = .ok (.invokespecial 3, 3) := by decide +kernel
theorem dX3_init_4 : decode cX3_init 4 = .ok (.aload_n 0, 1) := by decide +kernel
theorem dX3_init_5 : decode cX3_init 5 = .ok (.bipush 8, 2) := by decide +kernel
theorem dX3_init_7 : decode cX3_init 7 = .ok (.anewarray 9, 3) := by decide +kernel
theorem dX3_init_10 : decode cX3_init 10 = .ok (.putfield 11, 3) := by decide +kernel
theorem dX3_init_13 : decode cX3_init 13 = .ok (.iconst 0, 1) := by decide +kernel
theorem dX3_init_14 : decode cX3_init 14 = .ok (.istore_n 1, 1) := by decide +kernel
theorem dX3_init_15 : decode cX3_init 15 = .ok (.iload_n 1, 1) := by decide +kernel
theorem dX3_init_16 : decode cX3_init 16 = .ok (.bipush 8, 2) := by decide +kernel
theorem dX3_init_18 : decode cX3_init 18 = .ok (.if_icmp .ge 22, 3) := by decide +kernel
theorem dX3_init_21 : decode cX3_init 21 = .ok (.aload_n 0, 1) := by decide +kernel
theorem dX3_init_22 : decode cX3_init 22 = .ok (.getfield 11, 3) := by decide +kernel
theorem dX3_init_25 : decode cX3_init 25 = .ok (.iload_n 1, 1) := by decide +kernel
theorem dX3_init_26 : decode cX3_init 26 = .ok (.new 9, 3) := by decide +kernel
theorem dX3_init_29 : decode cX3_init 29 = .ok (.dup, 1) := by decide +kernel
theorem dX3_init_30 : decode cX3_init 30 = .ok (.invokespecial 17, 3) := by decide +kernel
theorem dX3_init_33 : decode cX3_init 33 = .ok (.aastore, 1) := by decide +kernel
theorem dX3_init_34 : decode cX3_init 34 = .ok (.iinc 1 1, 3) := by decide +kernel
theorem dX3_init_37 : decode cX3_init 37 = .ok (.goto (-22), 3) := by decide +kernel
theorem dX3_init_40 : decode cX3_init 40 = .ok (.return_, 1) := by decide +kernel
theorem dX4_init_0 : decode cX4_init 0 = .ok (.aload_n 0, 1) := by decide +kernel
theorem dX4_init_1 : decode cX4_init 1 = .ok (.invokespecial 3, 3) := by decide +kernel
theorem dX4_init_4 : decode cX4_init 4 = .ok (.aload_n 0, 1) := by decide +kernel
theorem dX4_init_5 : decode cX4_init 5 = .ok (.bipush 8, 2) := by decide +kernel
theorem dX4_init_7 : decode cX4_init 7 = .ok (.newarray .int, 2) := by decide +kernel
theorem dX4_init_9 : decode cX4_init 9 = .ok (.putfield 9, 3) := by decide +kernel
theorem dX4_init_12 : decode cX4_init 12 = .ok (.aload_n 0, 1) := by decide +kernel
theorem dX4_init_13 : decode cX4_init 13 = .ok (.bipush 15, 2) := by decide +kernel
theorem dX4_init_15 : decode cX4_init 15 = .ok (.newarray .boolean, 2) := by decide +kernel
theorem dX4_init_17 : decode cX4_init 17 = .ok (.putfield 15, 3) := by decide +kernel
theorem dX4_init_20 : decode cX4_init 20 = .ok (.iconst 0, 1) := by decide +kernel
theorem dX4_init_21 : decode cX4_init 21 = .ok (.istore_n 1, 1) := by decide +kernel
theorem dX4_init_22 : decode cX4_init 22 = .ok (.iload_n 1, 1) := by decide +kernel
theorem dX4_init_23 : decode cX4_init 23 = .ok (.bipush 8, 2) := by decide +kernel
theorem dX4_init_25 : decode cX4_init 25 = .ok (.if_icmp .ge 16, 3) := by decide +kernel
theorem dX4_init_28 : decode cX4_init 28 = .ok (.aload_n 0, 1) := by decide +kernel
theorem dX4_init_29 : decode cX4_init 29 = .ok (.getfield 9, 3) := by decide +kernel
theorem dX4_init_32 : decode cX4_init 32 = .ok (.iload_n 1, 1) := by decide +kernel
theorem dX4_init_33 : decode cX4_init 33 = .ok (.iconst (-1), 1) := by decide +kernel
theorem dX4_init_34 : decode cX4_init 34 = .ok (.iastore, 1) := by decide +kernel
theorem dX4_init_35 : decode cX4_init 35 = .ok (.iinc 1 1, 3) := by decide +kernel
theorem dX4_init_38 : decode cX4_init 38 = .ok (.goto (-16), 3) := by decide +kernel
theorem dX4_init_41 : decode cX4_init 41 = .ok (.return_, 1) := by decide +kernel
theorem dX4_write_0 : decode cX4_write 0 = .ok (.aload_n 0, 1) := by decide +kernel
theorem dX4_write_1 : decode cX4_write 1 = .ok (.iload_n 1, 1) := by decide +kernel
theorem dX4_write_2 : decode cX4_write 2 = .ok (.putfield 19, 3) := by decide +kernel
theorem dX4_write_5 : decode cX4_write 5 = .ok (.aload_n 0, 1) := by decide +kernel
theorem dX4_write_6 : decode cX4_write 6 = .ok (.iload_n 1, 1) := by decide +kernel
theorem dX4_write_7 : decode cX4_write 7 = .ok (.putfield 23, 3) := by decide +kernel
theorem dX4_write_10 : decode cX4_write 10 = .ok (.aload_n 0, 1) := by decide +kernel
theorem dX4_write_11 : decode cX4_write 11 = .ok (.iload_n 2, 1) := by decide +kernel
theorem dX4_write_12 : decode cX4_write 12 = .ok (.putfield 26, 3) := by decide +kernel
theorem dX4_write_15 : decode cX4_write 15 = .ok (.return_, 1) := by decide +kernel
theorem dX4_forget_0 : decode cX4_forget 0 = .ok (.aload_n 0, 1) := by decide +kernel
theorem dX4_forget_1 : decode cX4_forget 1 = .ok (.iconst 0, 1) := by decide +kernel
theorem dX4_forget_2 : decode cX4_forget 2 = .ok (.aload_n 0, 1) := by decide +kernel
theorem dX4_forget_3 : decode cX4_forget 3 = .ok (.getfield 29, 3) := by decide +kernel
theorem dX4_forget_6 : decode cX4_forget 6 = .ok (.bipush 30, 2) := by decide +kernel
theorem dX4_forget_8 : decode cX4_forget 8 = .ok (.isub, 1) := by decide +kernel
theorem dX4_forget_9 : decode cX4_forget 9 = .ok (.invokestatic 32, 3) := by decide +kernel
theorem dX4_forget_12 : decode cX4_forget 12 = .ok (.putfield 29, 3) := by decide +kernel
theorem dX4_forget_15 : decode cX4_forget 15 = .ok (.return_, 1) := by decide +kernel
theorem dX4_linesNotInBook_0 : decode cX4_linesNotInBook 0 = .ok (.aload_n 0, 1) := by decide +kernel
theorem dX4_linesNotInBook_1 : decode cX4_linesNotInBook 1 = .ok (.getfield 19, 3) := by decide +kernel
theorem dX4_linesNotInBook_4 : decode cX4_linesNotInBook 4 = .ok (.aload_n 0, 1) := by decide +kernel
theorem dX4_linesNotInBook_5 : decode cX4_linesNotInBook 5 = .ok (.getfield 23, 3) := by decide +kernel
theorem dX4_linesNotInBook_8 : decode cX4_linesNotInBook 8 = .ok (.isub, 1) := by decide +kernel
theorem dX4_linesNotInBook_9 : decode cX4_linesNotInBook 9 = .ok (.ireturn, 1) := by decide +kernel
theorem dX4_leafCount_0 : decode cX4_leafCount 0 = .ok (.aload_n 0, 1) := by decide +kernel
theorem dX4_leafCount_1 : decode cX4_leafCount 1 = .ok (.getfield 23, 3) := by decide +kernel
theorem dX4_leafCount_4 : decode cX4_leafCount 4 = .ok (.bipush 40, 2) := by decide +kernel
theorem dX4_leafCount_6 : decode cX4_leafCount 6 = .ok (.iadd, 1) := by decide +kernel
theorem dX4_leafCount_7 : decode cX4_leafCount 7 = .ok (.iconst 1, 1) := by decide +kernel
theorem dX4_leafCount_8 : decode cX4_leafCount 8 = .ok (.isub, 1) := by decide +kernel
theorem dX4_leafCount_9 : decode cX4_leafCount 9 = .ok (.bipush 40, 2) := by decide +kernel
theorem dX4_leafCount_11 : decode cX4_leafCount 11 = .ok (.idiv, 1) := by decide +kernel
theorem dX4_leafCount_12 : decode cX4_leafCount 12 = .ok (.ireturn, 1) := by decide +kernel
theorem dX4_lastLineOf_0 : decode cX4_lastLineOf 0 = .ok (.aload_n 0, 1) := by decide +kernel
theorem dX4_lastLineOf_1 : decode cX4_lastLineOf 1 = .ok (.getfield 23, 3) := by decide +kernel
theorem dX4_lastLineOf_4 : decode cX4_lastLineOf 4 = .ok (.iload_n 1, 1) := by decide +kernel
theorem dX4_lastLineOf_5 : decode cX4_lastLineOf 5 = .ok (.iconst 1, 1) := by decide +kernel
theorem dX4_lastLineOf_6 : decode cX4_lastLineOf 6 = .ok (.iadd, 1) := by decide +kernel
theorem dX4_lastLineOf_7 : decode cX4_lastLineOf 7 = .ok (.bipush 40, 2) := by decide +kernel
theorem dX4_lastLineOf_9 : decode cX4_lastLineOf 9 = .ok (.imul, 1) := by decide +kernel
theorem dX4_lastLineOf_10 : decode cX4_lastLineOf 10 = .ok (.invokestatic 38, 3) := by decide +kernel
theorem dX4_lastLineOf_13 : decode cX4_lastLineOf 13 = .ok (.ireturn, 1) := by decide +kernel
theorem dX4_knownLines_0 : decode cX4_knownLines 0 = .ok (.iconst 0, 1) := by decide +kernel
theorem dX4_knownLines_1 : decode cX4_knownLines 1 = .ok (.istore_n 1, 1) := by decide +kernel
theorem dX4_knownLines_2 : decode cX4_knownLines 2 = .ok (.aload_n 0, 1) := by decide +kernel
theorem dX4_knownLines_3 : decode cX4_knownLines 3 = .ok (.invokevirtual 41, 3) := by decide +kernel
theorem dX4_knownLines_6 : decode cX4_knownLines 6 = .ok (.istore_n 2, 1) := by decide +kernel
theorem dX4_knownLines_7 : decode cX4_knownLines 7 = .ok (.iconst 0, 1) := by decide +kernel
theorem dX4_knownLines_8 : decode cX4_knownLines 8 = .ok (.istore_n 3, 1) := by decide +kernel
theorem dX4_knownLines_9 : decode cX4_knownLines 9 = .ok (.iload_n 3, 1) := by decide +kernel
theorem dX4_knownLines_10 : decode cX4_knownLines 10 = .ok (.iload_n 2, 1) := by decide +kernel
theorem dX4_knownLines_11 : decode cX4_knownLines 11 = .ok (.if_icmp .ge 31, 3) := by decide +kernel
theorem dX4_knownLines_14 : decode cX4_knownLines 14 = .ok (.aload_n 0, 1) := by decide +kernel
theorem dX4_knownLines_15 : decode cX4_knownLines 15 = .ok (.getfield 15, 3) := by decide +kernel
theorem dX4_knownLines_18 : decode cX4_knownLines 18 = .ok (.iload_n 3, 1) := by decide +kernel
theorem dX4_knownLines_19 : decode cX4_knownLines 19 = .ok (.baload, 1) := by decide +kernel
theorem dX4_knownLines_20 : decode cX4_knownLines 20 = .ok (.ifCond .ne 16, 3) := by decide +kernel
theorem dX4_knownLines_23 : decode cX4_knownLines 23 = .ok (.iload_n 1, 1) := by decide +kernel
theorem dX4_knownLines_24 : decode cX4_knownLines 24 = .ok (.aload_n 0, 1) := by decide +kernel
theorem dX4_knownLines_25 : decode cX4_knownLines 25 = .ok (.iload_n 3, 1) := by decide +kernel
theorem dX4_knownLines_26 : decode cX4_knownLines 26 = .ok (.invokevirtual 45, 3) := by decide +kernel
theorem dX4_knownLines_29 : decode cX4_knownLines 29 = .ok (.iload_n 3, 1) := by decide +kernel
theorem dX4_knownLines_30 : decode cX4_knownLines 30 = .ok (.bipush 40, 2) := by decide +kernel
theorem dX4_knownLines_32 : decode cX4_knownLines 32 = .ok (.imul, 1) := by decide +kernel
theorem dX4_knownLines_33 : decode cX4_knownLines 33 = .ok (.isub, 1) := by decide +kernel
theorem dX4_knownLines_34 : decode cX4_knownLines 34 = .ok (.iadd, 1) := by decide +kernel
theorem dX4_knownLines_35 : decode cX4_knownLines 35 = .ok (.istore_n 1, 1) := by decide +kernel
theorem dX4_knownLines_36 : decode cX4_knownLines 36 = .ok (.iinc 3 1, 3) := by decide +kernel
theorem dX4_knownLines_39 : decode cX4_knownLines 39 = .ok (.goto (-30), 3) := by decide +kernel
theorem dX4_knownLines_42 : decode cX4_knownLines 42 = .ok (.iload_n 1, 1) := by decide +kernel
theorem dX4_knownLines_43 : decode cX4_knownLines 43 = .ok (.ireturn, 1) := by decide +kernel
theorem dX4_bringBookUpToDate_0 : decode cX4_bringBookUpToDate 0 = .ok (.aload_n 0, 1) := by decide +kernel
theorem dX4_bringBookUpToDate_1 : decode cX4_bringBookUpToDate 1 = .ok (.aload_n 0, 1) := by decide +kernel
theorem dX4_bringBookUpToDate_2 : decode cX4_bringBookUpToDate 2 = .ok (.getfield 19, 3) := by decide +kernel
theorem dX4_bringBookUpToDate_5 : decode cX4_bringBookUpToDate 5 = .ok (.putfield 23, 3) := by decide +kernel
theorem dX4_bringBookUpToDate_8 : decode cX4_bringBookUpToDate 8 = .ok (.aload_n 0, 1) := by decide +kernel
theorem dX4_bringBookUpToDate_9 : decode cX4_bringBookUpToDate 9 = .ok (.aload_n 0, 1) := by decide +kernel
theorem dX4_bringBookUpToDate_10 : decode cX4_bringBookUpToDate 10 = .ok (.getfield 19, 3) := by decide +kernel
theorem dX4_bringBookUpToDate_13 : decode cX4_bringBookUpToDate 13 = .ok (.invokevirtual 49, 3) := by decide +kernel
theorem dX4_bringBookUpToDate_16 : decode cX4_bringBookUpToDate 16 = .ok (.return_, 1) := by decide +kernel
theorem dX4_findLeavesUpTo_0 : decode cX4_findLeavesUpTo 0 = .ok (.aload_n 0, 1) := by decide +kernel
theorem dX4_findLeavesUpTo_1 : decode cX4_findLeavesUpTo 1 = .ok (.invokevirtual 41, 3) := by decide +kernel
theorem dX4_findLeavesUpTo_4 : decode cX4_findLeavesUpTo 4 = .ok (.istore_n 2, 1) := by decide +kernel
theorem dX4_findLeavesUpTo_5 : decode cX4_findLeavesUpTo 5 = .ok (.iconst 0, 1) := by decide +kernel
theorem dX4_findLeavesUpTo_6 : decode cX4_findLeavesUpTo 6 = .ok (.istore_n 3, 1) := by decide +kernel
theorem dX4_findLeavesUpTo_7 : decode cX4_findLeavesUpTo 7 = .ok (.iload_n 3, 1) := by decide +kernel
theorem dX4_findLeavesUpTo_8 : decode cX4_findLeavesUpTo 8 = .ok (.iload_n 2, 1) := by decide +kernel
theorem dX4_findLeavesUpTo_9 : decode cX4_findLeavesUpTo 9 = .ok (.if_icmp .ge 25, 3) := by decide +kernel
theorem dX4_findLeavesUpTo_12 : decode cX4_findLeavesUpTo 12 = .ok (.aload_n 0, 1) := by decide +kernel
theorem dX4_findLeavesUpTo_13 : decode cX4_findLeavesUpTo 13 = .ok (.iload_n 3, 1) := by decide +kernel
theorem dX4_findLeavesUpTo_14 : decode cX4_findLeavesUpTo 14 = .ok (.invokevirtual 45, 3) := by decide +kernel
theorem dX4_findLeavesUpTo_17 : decode cX4_findLeavesUpTo 17 = .ok (.iload_n 1, 1) := by decide +kernel
theorem dX4_findLeavesUpTo_18 : decode cX4_findLeavesUpTo 18 = .ok (.if_icmp .gt 10, 3) := by decide +kernel
theorem dX4_findLeavesUpTo_21 : decode cX4_findLeavesUpTo 21 = .ok (.aload_n 0, 1) := by decide +kernel
theorem dX4_findLeavesUpTo_22 : decode cX4_findLeavesUpTo 22 = .ok (.getfield 15, 3) := by decide +kernel
theorem dX4_findLeavesUpTo_25 : decode cX4_findLeavesUpTo 25 = .ok (.iload_n 3, 1) := by decide +kernel
theorem dX4_findLeavesUpTo_26 : decode cX4_findLeavesUpTo 26 = .ok (.iconst 0, 1) := by decide +kernel
theorem dX4_findLeavesUpTo_27 : decode cX4_findLeavesUpTo 27 = .ok (.bastore, 1) := by decide +kernel
theorem dX4_findLeavesUpTo_28 : decode cX4_findLeavesUpTo 28 = .ok (.iinc 3 1, 3) := by decide +kernel
theorem dX4_findLeavesUpTo_31 : decode cX4_findLeavesUpTo 31 = .ok (.goto (-24), 3) := by decide +kernel
theorem dX4_findLeavesUpTo_34 : decode cX4_findLeavesUpTo 34 = .ok (.return_, 1) := by decide +kernel
theorem dX5_init_0 : decode cX5_init 0 = .ok (.aload_n 0, 1) := by decide +kernel
theorem dX5_init_1 : decode cX5_init 1 = .ok (.invokespecial 3, 3) := by decide +kernel
theorem dX5_init_4 : decode cX5_init 4 = .ok (.aload_n 0, 1) := by decide +kernel
theorem dX5_init_5 : decode cX5_init 5 = .ok (.bipush 6, 2) := by decide +kernel
theorem dX5_init_7 : decode cX5_init 7 = .ok (.newarray .int, 2) := by decide +kernel
theorem dX5_init_9 : decode cX5_init 9 = .ok (.putfield 9, 3) := by decide +kernel
theorem dX5_init_12 : decode cX5_init 12 = .ok (.aload_n 0, 1) := by decide +kernel
theorem dX5_init_13 : decode cX5_init 13 = .ok (.bipush 6, 2) := by decide +kernel
theorem dX5_init_15 : decode cX5_init 15 = .ok (.newarray .int, 2) := by decide +kernel
theorem dX5_init_17 : decode cX5_init 17 = .ok (.putfield 15, 3) := by decide +kernel
theorem dX5_init_20 : decode cX5_init 20 = .ok (.aload_n 0, 1) := by decide +kernel
theorem dX5_init_21 : decode cX5_init 21 = .ok (.bipush 6, 2) := by decide +kernel
theorem dX5_init_23 : decode cX5_init 23 = .ok (.newarray .int, 2) := by decide +kernel
theorem dX5_init_25 : decode cX5_init 25 = .ok (.putfield 18, 3) := by decide +kernel
theorem dX5_init_28 : decode cX5_init 28 = .ok (.aload_n 0, 1) := by decide +kernel
theorem dX5_init_29 : decode cX5_init 29 = .ok (.bipush 6, 2) := by decide +kernel
theorem dX5_init_31 : decode cX5_init 31 = .ok (.newarray .int, 2) := by decide +kernel
theorem dX5_init_33 : decode cX5_init 33 = .ok (.putfield 21, 3) := by decide +kernel
theorem dX5_init_36 : decode cX5_init 36 = .ok (.aload_n 0, 1) := by decide +kernel
theorem dX5_init_37 : decode cX5_init 37 = .ok (.bipush 6, 2) := by decide +kernel
theorem dX5_init_39 : decode cX5_init 39 = .ok (.newarray .int, 2) := by decide +kernel
theorem dX5_init_41 : decode cX5_init 41 = .ok (.putfield 24, 3) := by decide +kernel
theorem dX5_init_44 : decode cX5_init 44 = .ok (.aload_n 0, 1) := by decide +kernel
theorem dX5_init_45 : decode cX5_init 45 = .ok (.bipush 6, 2) := by decide +kernel
theorem dX5_init_47 : decode cX5_init 47 = .ok (.newarray .char, 2) := by decide +kernel
theorem dX5_init_49 : decode cX5_init 49 = .ok (.putfield 27, 3) := by decide +kernel
theorem dX5_init_52 : decode cX5_init 52 = .ok (.return_, 1) := by decide +kernel
theorem dX6_init_0 : decode cX6_init 0 = .ok (.aload_n 0, 1) := by decide +kernel
theorem dX6_init_1 : decode cX6_init 1 = .ok (.invokespecial 3, 3) := by decide +kernel
theorem dX6_init_4 : decode cX6_init 4 = .ok (.aload_n 0, 1) := by decide +kernel
theorem dX6_init_5 : decode cX6_init 5 = .ok (.iconst (-1), 1) := by decide +kernel
theorem dX6_init_6 : decode cX6_init 6 = .ok (.putfield 9, 3) := by decide +kernel
theorem dX6_init_9 : decode cX6_init 9 = .ok (.return_, 1) := by decide +kernel
theorem dX7_init_0 : decode cX7_init 0 = .ok (.aload_n 0, 1) := by decide +kernel
theorem dX7_init_1 : decode cX7_init 1 = .ok (.invokespecial 1, 3) := by decide +kernel
theorem dX7_init_4 : decode cX7_init 4 = .ok (.aload_n 0, 1) := by decide +kernel
theorem dX7_init_5 : decode cX7_init 5 = .ok (.bipush 8, 2) := by decide +kernel
theorem dX7_init_7 : decode cX7_init 7 = .ok (.anewarray 9, 3) := by decide +kernel
theorem dX7_init_10 : decode cX7_init 10 = .ok (.putfield 11, 3) := by decide +kernel
theorem dX7_init_13 : decode cX7_init 13 = .ok (.aload_n 0, 1) := by decide +kernel
theorem dX7_init_14 : decode cX7_init 14 = .ok (.bipush 8, 2) := by decide +kernel
theorem dX7_init_16 : decode cX7_init 16 = .ok (.newarray .int, 2) := by decide +kernel
theorem dX7_init_18 : decode cX7_init 18 = .ok (.putfield 15, 3) := by decide +kernel
theorem dX7_init_21 : decode cX7_init 21 = .ok (.aload_n 0, 1) := by decide +kernel
theorem dX7_init_22 : decode cX7_init 22 = .ok (.new 19, 3) := by decide +kernel
theorem dX7_init_25 : decode cX7_init 25 = .ok (.dup, 1) := by decide +kernel
theorem dX7_init_26 : decode cX7_init 26 = .ok (.invokespecial 21, 3) := by decide +kernel
theorem dX7_init_29 : decode cX7_init 29 = .ok (.putfield 22, 3) := by decide +kernel
theorem dX7_init_32 : decode cX7_init 32 = .ok (.aload_n 0, 1) := by decide +kernel
theorem dX7_init_33 : decode cX7_init 33 = .ok (.new 26, 3) := by decide +kernel
theorem dX7_init_36 : decode cX7_init 36 = .ok (.dup, 1) := by decide +kernel
theorem dX7_init_37 : decode cX7_init 37 = .ok (.invokespecial 28, 3) := by decide +kernel
theorem dX7_init_40 : decode cX7_init 40 = .ok (.putfield 29, 3) := by decide +kernel
theorem dX7_init_43 : decode cX7_init 43 = .ok (.aload_n 0, 1) := by decide +kernel
theorem dX7_init_44 : decode cX7_init 44 = .ok (.iconst 5, 1) := by decide +kernel
theorem dX7_init_45 : decode cX7_init 45 = .ok (.newarray .boolean, 2) := by decide +kernel
theorem dX7_init_47 : decode cX7_init 47 = .ok (.putfield 33, 3) := by decide +kernel
theorem dX7_init_50 : decode cX7_init 50 = .ok (.aload_n 0, 1) := by decide +kernel
theorem dX7_init_51 : decode cX7_init 51 = .ok (.bipush 10, 2) := by decide +kernel
theorem dX7_init_53 : decode cX7_init 53 = .ok (.newarray .int, 2) := by decide +kernel
theorem dX7_init_55 : decode cX7_init 55 = .ok (.putfield 37, 3) := by decide +kernel
theorem dX7_init_58 : decode cX7_init 58 = .ok (.aload_n 0, 1) := by decide +kernel
theorem dX7_init_59 : decode cX7_init 59 = .ok (.new 40, 3) := by decide +kernel
theorem dX7_init_62 : decode cX7_init 62 = .ok (.dup, 1) := by decide +kernel
theorem dX7_init_63 : decode cX7_init 63 = .ok (.invokespecial 42, 3) := by decide +kernel
theorem dX7_init_66 : decode cX7_init 66 = .ok (.putfield 43, 3) := by decide +kernel
theorem dX7_init_69 : decode cX7_init 69 = .ok (.aload_n 0, 1) := by decide +kernel
theorem dX7_init_70 : decode cX7_init 70 = .ok (.new 40, 3) := by decide +kernel
theorem dX7_init_73 : decode cX7_init 73 = .ok (.dup, 1) := by decide +kernel
theorem dX7_init_74 : decode cX7_init 74 = .ok (.invokespecial 42, 3) := by decide +kernel
theorem dX7_init_77 : decode cX7_init 77 = .ok (.putfield 47, 3) := by decide +kernel
theorem dX7_init_80 : decode cX7_init 80 = .ok (.aload_n 0, 1) := by decide +kernel
theorem dX7_init_81 : decode cX7_init 81 = .ok (.iconst 4, 1) := by decide +kernel
theorem dX7_init_82 : decode cX7_init 82 = .ok (.newarray .int, 2) := by decide +kernel
theorem dX7_init_84 : decode cX7_init 84 = .ok (.putfield 50, 3) := by decide +kernel
theorem dX7_init_87 : decode cX7_init 87 = .ok (.aload_n 0, 1) := by decide +kernel
theorem dX7_init_88 : decode cX7_init 88 = .ok (.iconst 4, 1) := by decide +kernel
theorem dX7_init_89 : decode cX7_init 89 = .ok (.newarray .int, 2) := by decide +kernel
theorem dX7_init_91 : decode cX7_init 91 = .ok (.putfield 53, 3) := by decide +kernel
theorem dX7_init_94 : decode cX7_init 94 = .ok (.iconst 0, 1) := by decide +kernel
theorem dX7_init_95 : decode cX7_init 95 = .ok (.istore_n 1, 1) := by decide +kernel
theorem dX7_init_96 : decode cX7_init 96 = .ok (.iload_n 1, 1) := by decide +kernel
theorem dX7_init_97 : decode cX7_init 97 = .ok (.bipush 8, 2) := by decide +kernel
theorem dX7_init_99 : decode cX7_init 99 = .ok (.if_icmp .ge 22, 3) := by decide +kernel
theorem dX7_init_102 : decode cX7_init 102 = .ok (.aload_n 0, 1) := by decide +kernel
theorem dX7_init_103 : decode cX7_init 103 = .ok (.getfield 11, 3) := by decide +kernel
theorem dX7_init_106 : decode cX7_init 106 = .ok (.iload_n 1, 1) := by decide +kernel
theorem dX7_init_107 : decode cX7_init 107 = .ok (.new 9, 3) := by decide +kernel
theorem dX7_init_110 : decode cX7_init 110 = .ok (.dup, 1) := by decide +kernel
theorem dX7_init_111 : decode cX7_init 111 = .ok (.invokespecial 56, 3) := by decide +kernel
theorem dX7_init_114 : decode cX7_init 114 = .ok (.aastore, 1) := by decide +kernel
theorem dX7_init_115 : decode cX7_init 115 = .ok (.iinc 1 1, 3) := by decide +kernel
theorem dX7_init_118 : decode cX7_init 118 = .ok (.goto (-22), 3) := by decide +kernel
theorem dX7_init_121 : decode cX7_init 121 = .ok (.return_, 1) := by decide +kernel
theorem dX7_addGuild_0 : decode cX7_addGuild 0 = .ok (.iload_n 1, 1) := by decide +kernel
theorem dX7_addGuild_1 : decode cX7_addGuild 1 = .ok (.iconst 0, 1) := by decide +kernel
theorem dX7_addGuild_2 : decode cX7_addGuild 2 = .ok (.sipush 9999, 3) := by decide +kernel
theorem dX7_addGuild_5 : decode cX7_addGuild 5 = .ok (.invokestatic 57, 3) := by decide +kernel
theorem dX7_addGuild_8 : decode cX7_addGuild 8 = .ok (.iload_n 2, 1) := by decide +kernel
theorem dX7_addGuild_9 : decode cX7_addGuild 9 = .ok (.bipush 20, 2) := by decide +kernel
theorem dX7_addGuild_11 : decode cX7_addGuild 11 = .ok (.sipush 400, 3) := by decide +kernel
theorem dX7_addGuild_14 : decode cX7_addGuild 14 = .ok (.invokestatic 57, 3) := by decide +kernel
theorem dX7_addGuild_17 : decode cX7_addGuild 17 = .ok (.iload_n 3, 1) := by decide +kernel
theorem dX7_addGuild_18 : decode cX7_addGuild 18 = .ok (.iconst 1, 1) := by decide +kernel
theorem dX7_addGuild_19 : decode cX7_addGuild 19 = .ok (.bipush 8, 2) := by decide +kernel
theorem dX7_addGuild_21 : decode cX7_addGuild 21 = .ok (.invokestatic 57, 3) := by decide +kernel
theorem dX7_addGuild_24 : decode cX7_addGuild 24 = .ok (.aload_n 0, 1) := by decide +kernel
theorem dX7_addGuild_25 : decode cX7_addGuild 25 = .ok (.getfield 61, 3) := by decide +kernel
theorem dX7_addGuild_28 : decode cX7_addGuild 28 = .ok (.bipush 8, 2) := by decide +kernel
theorem dX7_addGuild_30 : decode cX7_addGuild 30 = .ok (.if_icmp .lt 13, 3) := by decide +kernel
theorem dX7_addGuild_33 : decode cX7_addGuild 33 = .ok (.new 65, 3) := by decide +kernel
theorem dX7_addGuild_36 : decode cX7_addGuild 36 = .ok (.dup, 1) := by decide +kernel
theorem dX7_addGuild_37 : decode cX7_addGuild 37 = .ok (.ldc 67, 2) := by decide +kernel
theorem dX7_addGuild_39 : decode cX7_addGuild 39 = .ok (.invokespecial 69, 3) := by decide +kernel
theorem dX7_addGuild_42 : decode cX7_addGuild 42 = .ok (.athrow, 1) := by decide +kernel
theorem dX7_addGuild_43 : decode cX7_addGuild 43 = .ok (.aload_n 0, 1) := by decide +kernel
theorem dX7_addGuild_44 : decode cX7_addGuild 44 = .ok (.getfield 61, 3) := by decide +kernel
theorem dX7_addGuild_47 : decode cX7_addGuild 47 = .ok (.istore 4, 2) := by decide +kernel
theorem dX7_addGuild_49 : decode cX7_addGuild 49 = .ok (.aload_n 0, 1) := by decide +kernel
theorem dX7_addGuild_50 : decode cX7_addGuild 50 = .ok (.getfield 11, 3) := by decide +kernel
theorem dX7_addGuild_53 : decode cX7_addGuild 53 = .ok (.iload 4, 2) := by decide +kernel
theorem dX7_addGuild_55 : decode cX7_addGuild 55 = .ok (.aaload, 1) := by decide +kernel
theorem dX7_addGuild_56 : decode cX7_addGuild 56 = .ok (.astore 5, 2) := by decide +kernel
theorem dX7_addGuild_58 : decode cX7_addGuild 58 = .ok (.aload 5, 2) := by decide +kernel
theorem dX7_addGuild_60 : decode cX7_addGuild 60 = .ok (.iload_n 1, 1) := by decide +kernel
theorem dX7_addGuild_61 : decode cX7_addGuild 61 = .ok (.putfield 72, 3) := by decide +kernel
theorem dX7_addGuild_64 : decode cX7_addGuild 64 = .ok (.aload 5, 2) := by decide +kernel
theorem dX7_addGuild_66 : decode cX7_addGuild 66 = .ok (.getfield 75, 3) := by decide +kernel
theorem dX7_addGuild_69 : decode cX7_addGuild 69 = .ok (.iload_n 2, 1) := by decide +kernel
theorem dX7_addGuild_70 : decode cX7_addGuild 70 = .ok (.iload_n 3, 1) := by decide +kernel
theorem dX7_addGuild_71 : decode cX7_addGuild 71 = .ok (.invokevirtual 79, 3) := by decide +kernel
theorem dX7_addGuild_74 : decode cX7_addGuild 74 = .ok (.aload_n 0, 1) := by decide +kernel
theorem dX7_addGuild_75 : decode cX7_addGuild 75 = .ok (.dup, 1) := by decide +kernel
theorem dX7_addGuild_76 : decode cX7_addGuild 76 = .ok (.getfield 85, 3) := by decide +kernel
theorem dX7_addGuild_79 : decode cX7_addGuild 79 = .ok (.iload_n 1, 1) := by decide +kernel
theorem dX7_addGuild_80 : decode cX7_addGuild 80 = .ok (.iadd, 1) := by decide +kernel
theorem dX7_addGuild_81 : decode cX7_addGuild 81 = .ok (.putfield 85, 3) := by decide +kernel
theorem dX7_addGuild_84 : decode cX7_addGuild 84 = .ok (.aload_n 0, 1) := by decide +kernel
theorem dX7_addGuild_85 : decode cX7_addGuild 85 = .ok (.getfield 15, 3) := by decide +kernel
theorem dX7_addGuild_88 : decode cX7_addGuild 88 = .ok (.iload 4, 2) := by decide +kernel
theorem dX7_addGuild_90 : decode cX7_addGuild 90 = .ok (.iload 4, 2) := by decide +kernel
theorem dX7_addGuild_92 : decode cX7_addGuild 92 = .ok (.iastore, 1) := by decide +kernel
theorem dX7_addGuild_93 : decode cX7_addGuild 93 = .ok (.aload_n 0, 1) := by decide +kernel
theorem dX7_addGuild_94 : decode cX7_addGuild 94 = .ok (.dup, 1) := by decide +kernel
theorem dX7_addGuild_95 : decode cX7_addGuild 95 = .ok (.getfield 61, 3) := by decide +kernel
theorem dX7_addGuild_98 : decode cX7_addGuild 98 = .ok (.iconst 1, 1) := by decide +kernel
theorem dX7_addGuild_99 : decode cX7_addGuild 99 = .ok (.iadd, 1) := by decide +kernel
theorem dX7_addGuild_100 : decode cX7_addGuild 100 = .ok (.putfield 61, 3) := by decide +kernel
theorem dX7_addGuild_103 : decode cX7_addGuild 103 = .ok (.iload 4, 2) := by decide +kernel
theorem dX7_addGuild_105 : decode cX7_addGuild 105 = .ok (.ireturn, 1) := by decide +kernel
theorem dX7_merge_0 : decode cX7_merge 0 = .ok (.aload_n 0, 1) := by decide +kernel
theorem dX7_merge_1 : decode cX7_merge 1 = .ok (.iload_n 1, 1) := by decide +kernel
theorem dX7_merge_2 : decode cX7_merge 2 = .ok (.invokevirtual 88, 3) := by decide +kernel
theorem dX7_merge_5 : decode cX7_merge 5 = .ok (.aload_n 0, 1) := by decide +kernel
theorem dX7_merge_6 : decode cX7_merge 6 = .ok (.iload_n 2, 1) := by decide +kernel
theorem dX7_merge_7 : decode cX7_merge 7 = .ok (.invokevirtual 88, 3) := by decide +kernel
theorem dX7_merge_10 : decode cX7_merge 10 = .ok (.iload_n 1, 1) := by decide +kernel
theorem dX7_merge_11 : decode cX7_merge 11 = .ok (.iload_n 2, 1) := by decide +kernel
theorem dX7_merge_12 : decode cX7_merge 12 = .ok (.if_icmp .ne 13, 3) := by decide +kernel
theorem dX7_merge_15 : decode cX7_merge 15 = .ok (.new 92, 3) := by decide +kernel
theorem dX7_merge_18 : decode cX7_merge 18 = .ok (.dup, 1) := by decide +kernel
theorem dX7_merge_19 : decode cX7_merge 19 = .ok (.ldc 94, 2) := by decide +kernel
theorem dX7_merge_21 : decode cX7_merge 21 = .ok (.invokespecial 96, 3) := by decide +kernel
theorem dX7_merge_24 : decode cX7_merge 24 = .ok (.athrow, 1) := by decide +kernel
theorem dX7_merge_25 : decode cX7_merge 25 = .ok (.aload_n 0, 1) := by decide +kernel
theorem dX7_merge_26 : decode cX7_merge 26 = .ok (.iload_n 1, 1) := by decide +kernel
theorem dX7_merge_27 : decode cX7_merge 27 = .ok (.invokevirtual 97, 3) := by decide +kernel
theorem dX7_merge_30 : decode cX7_merge 30 = .ok (.aload_n 0, 1) := by decide +kernel
theorem dX7_merge_31 : decode cX7_merge 31 = .ok (.iload_n 2, 1) := by decide +kernel
theorem dX7_merge_32 : decode cX7_merge 32 = .ok (.invokevirtual 97, 3) := by decide +kernel
theorem dX7_merge_35 : decode cX7_merge 35 = .ok (.aload_n 0, 1) := by decide +kernel
theorem dX7_merge_36 : decode cX7_merge 36 = .ok (.getfield 11, 3) := by decide +kernel
theorem dX7_merge_39 : decode cX7_merge 39 = .ok (.iload_n 1, 1) := by decide +kernel
theorem dX7_merge_40 : decode cX7_merge 40 = .ok (.aaload, 1) := by decide +kernel
theorem dX7_merge_41 : decode cX7_merge 41 = .ok (.astore_n 3, 1) := by decide +kernel
theorem dX7_merge_42 : decode cX7_merge 42 = .ok (.aload_n 0, 1) := by decide +kernel
theorem dX7_merge_43 : decode cX7_merge 43 = .ok (.getfield 11, 3) := by decide +kernel
theorem dX7_merge_46 : decode cX7_merge 46 = .ok (.iload_n 2, 1) := by decide +kernel
theorem dX7_merge_47 : decode cX7_merge 47 = .ok (.aaload, 1) := by decide +kernel
theorem dX7_merge_48 : decode cX7_merge 48 = .ok (.astore 4, 2) := by decide +kernel
theorem dX7_merge_50 : decode cX7_merge 50 = .ok (.aload 4, 2) := by decide +kernel
theorem dX7_merge_52 : decode cX7_merge 52 = .ok (.dup, 1) := by decide +kernel
theorem dX7_merge_53 : decode cX7_merge 53 = .ok (.getfield 72, 3) := by decide +kernel
theorem dX7_merge_56 : decode cX7_merge 56 = .ok (.aload_n 3, 1) := by decide +kernel
theorem dX7_merge_57 : decode cX7_merge 57 = .ok (.getfield 72, 3) := by decide +kernel
theorem dX7_merge_60 : decode cX7_merge 60 = .ok (.iadd, 1) := by decide +kernel
theorem dX7_merge_61 : decode cX7_merge 61 = .ok (.putfield 72, 3) := by decide +kernel
theorem dX7_merge_64 : decode cX7_merge 64 = .ok (.aload_n 3, 1) := by decide +kernel
theorem dX7_merge_65 : decode cX7_merge 65 = .ok (.iconst 0, 1) := by decide +kernel
theorem dX7_merge_66 : decode cX7_merge 66 = .ok (.putfield 72, 3) := by decide +kernel
theorem dX7_merge_69 : decode cX7_merge 69 = .ok (.aload_n 3, 1) := by decide +kernel
theorem dX7_merge_70 : decode cX7_merge 70 = .ok (.iconst 1, 1) := by decide +kernel
theorem dX7_merge_71 : decode cX7_merge 71 = .ok (.putfield 100, 3) := by decide +kernel
theorem dX7_merge_74 : decode cX7_merge 74 = .ok (.aload 4, 2) := by decide +kernel
theorem dX7_merge_76 : decode cX7_merge 76 = .ok (.getfield 72, 3) := by decide +kernel
theorem dX7_merge_79 : decode cX7_merge 79 = .ok (.ireturn, 1) := by decide +kernel
theorem dX7_isOver_0 : decode cX7_isOver 0 = .ok (.aload_n 0, 1) := by decide +kernel
theorem dX7_isOver_1 : decode cX7_isOver 1 = .ok (.iload_n 1, 1) := by decide +kernel
theorem dX7_isOver_2 : decode cX7_isOver 2 = .ok (.invokevirtual 88, 3) := by decide +kernel
theorem dX7_isOver_5 : decode cX7_isOver 5 = .ok (.aload_n 0, 1) := by decide +kernel
theorem dX7_isOver_6 : decode cX7_isOver 6 = .ok (.getfield 11, 3) := by decide +kernel
theorem dX7_isOver_9 : decode cX7_isOver 9 = .ok (.iload_n 1, 1) := by decide +kernel
theorem dX7_isOver_10 : decode cX7_isOver 10 = .ok (.aaload, 1) := by decide +kernel
theorem dX7_isOver_11 : decode cX7_isOver 11 = .ok (.getfield 100, 3) := by decide +kernel
theorem dX7_isOver_14 : decode cX7_isOver 14 = .ok (.ireturn, 1) := by decide +kernel
theorem dX7_of_0 : decode cX7_of 0 = .ok (.aload_n 0, 1) := by decide +kernel
theorem dX7_of_1 : decode cX7_of 1 = .ok (.iload_n 1, 1) := by decide +kernel
theorem dX7_of_2 : decode cX7_of 2 = .ok (.invokevirtual 88, 3) := by decide +kernel
theorem dX7_of_5 : decode cX7_of 5 = .ok (.aload_n 0, 1) := by decide +kernel
theorem dX7_of_6 : decode cX7_of 6 = .ok (.getfield 11, 3) := by decide +kernel
theorem dX7_of_9 : decode cX7_of 9 = .ok (.iload_n 1, 1) := by decide +kernel
theorem dX7_of_10 : decode cX7_of 10 = .ok (.aaload, 1) := by decide +kernel
theorem dX7_of_11 : decode cX7_of 11 = .ok (.astore_n 3, 1) := by decide +kernel
theorem dX7_of_12 : decode cX7_of 12 = .ok (.iload_n 2, 1) := by decide +kernel
theorem dX7_of_13 : decode cX7_of 13 = .ok (.tableswitch 154 97 119 #[146, 154, 154, 154, 128, 141, 154, 154, 154, 154, 154, 112, 107, 154, 154, 120, 154, 154, 154, 154, 154, 154, 136], 107) := by decide +kernel
theorem dX7_of_120 : decode cX7_of 120 = .ok (.aload_n 3, 1) := by decide +kernel
theorem dX7_of_121 : decode cX7_of 121 = .ok (.getfield 72, 3) := by decide +kernel
theorem dX7_of_124 : decode cX7_of 124 = .ok (.ireturn, 1) := by decide +kernel
theorem dX7_of_125 : decode cX7_of 125 = .ok (.aload_n 3, 1) := by decide +kernel
theorem dX7_of_126 : decode cX7_of 126 = .ok (.getfield 75, 3) := by decide +kernel
theorem dX7_of_129 : decode cX7_of 129 = .ok (.getfield 104, 3) := by decide +kernel
theorem dX7_of_132 : decode cX7_of 132 = .ok (.ireturn, 1) := by decide +kernel
theorem dX7_of_133 : decode cX7_of 133 = .ok (.aload_n 3, 1) := by decide +kernel
theorem dX7_of_134 : decode cX7_of 134 = .ok (.getfield 75, 3) := by decide +kernel
theorem dX7_of_137 : decode cX7_of 137 = .ok (.getfield 107, 3) := by decide +kernel
theorem dX7_of_140 : decode cX7_of 140 = .ok (.ireturn, 1) := by decide +kernel
theorem dX7_of_141 : decode cX7_of 141 = .ok (.aload_n 3, 1) := by decide +kernel
theorem dX7_of_142 : decode cX7_of 142 = .ok (.getfield 75, 3) := by decide +kernel
theorem dX7_of_145 : decode cX7_of 145 = .ok (.getfield 110, 3) := by decide +kernel
theorem dX7_of_148 : decode cX7_of 148 = .ok (.ireturn, 1) := by decide +kernel
theorem dX7_of_149 : decode cX7_of 149 = .ok (.aload_n 3, 1) := by decide +kernel
theorem dX7_of_150 : decode cX7_of 150 = .ok (.getfield 113, 3) := by decide +kernel
theorem dX7_of_153 : decode cX7_of 153 = .ok (.ireturn, 1) := by decide +kernel
theorem dX7_of_154 : decode cX7_of 154 = .ok (.aload_n 3, 1) := by decide +kernel
theorem dX7_of_155 : decode cX7_of 155 = .ok (.getfield 116, 3) := by decide +kernel
theorem dX7_of_158 : decode cX7_of 158 = .ok (.ireturn, 1) := by decide +kernel
theorem dX7_of_159 : decode cX7_of 159 = .ok (.aload_n 3, 1) := by decide +kernel
theorem dX7_of_160 : decode cX7_of 160 = .ok (.getfield 75, 3) := by decide +kernel
theorem dX7_of_163 : decode cX7_of 163 = .ok (.invokevirtual 119, 3) := by decide +kernel
theorem dX7_of_166 : decode cX7_of 166 = .ok (.ireturn, 1) := by decide +kernel
theorem dX7_of_167 : decode cX7_of 167 = .ok (.new 92, 3) := by decide +kernel
theorem dX7_of_170 : decode cX7_of 170 = .ok (.dup, 1) := by decide +kernel
theorem dX7_of_171 : decode cX7_of 171 = .ok (.ldc 123, 2) := by decide +kernel
theorem dX7_of_173 : decode cX7_of 173 = .ok (.invokespecial 96, 3) := by decide +kernel
theorem dX7_of_176 : decode cX7_of 176 = .ok (.athrow, 1) := by decide +kernel
theorem dX7_type_0 : decode cX7_type 0 = .ok (.iload_n 1, 1) := by decide +kernel
theorem dX7_type_1 : decode cX7_type 1 = .ok (.bipush 97, 2) := by decide +kernel
theorem dX7_type_3 : decode cX7_type 3 = .ok (.if_icmp .lt 9, 3) := by decide +kernel
theorem dX7_type_6 : decode cX7_type 6 = .ok (.iload_n 1, 1) := by decide +kernel
theorem dX7_type_7 : decode cX7_type 7 = .ok (.bipush 122, 2) := by decide +kernel
theorem dX7_type_9 : decode cX7_type 9 = .ok (.if_icmp .le 13, 3) := by decide +kernel
theorem dX7_type_12 : decode cX7_type 12 = .ok (.new 92, 3) := by decide +kernel
theorem dX7_type_15 : decode cX7_type 15 = .ok (.dup, 1) := by decide +kernel
theorem dX7_type_16 : decode cX7_type 16 = .ok (.ldc 125, 2) := by decide +kernel
theorem dX7_type_18 : decode cX7_type 18 = .ok (.invokespecial 96, 3) := by decide +kernel
theorem dX7_type_21 : decode cX7_type 21 = .ok (.athrow, 1) := by decide +kernel
theorem dX7_type_22 : decode cX7_type 22 = .ok (.aload_n 0, 1) := by decide +kernel
theorem dX7_type_23 : decode cX7_type 23 = .ok (.getfield 29, 3) := by decide +kernel
theorem dX7_type_26 : decode cX7_type 26 = .ok (.getfield 127, 3) := by decide +kernel
theorem dX7_type_29 : decode cX7_type 29 = .ok (.bipush 10, 2) := by decide +kernel
theorem dX7_type_31 : decode cX7_type 31 = .ok (.if_icmp .lt 13, 3) := by decide +kernel
theorem dX7_type_34 : decode cX7_type 34 = .ok (.new 65, 3) := by decide +kernel
theorem dX7_type_37 : decode cX7_type 37 = .ok (.dup, 1) := by decide +kernel
theorem dX7_type_38 : decode cX7_type 38 = .ok (.ldc 130, 2) := by decide +kernel
theorem dX7_type_40 : decode cX7_type 40 = .ok (.invokespecial 69, 3) := by decide +kernel
theorem dX7_type_43 : decode cX7_type 43 = .ok (.athrow, 1) := by decide +kernel
theorem dX7_type_44 : decode cX7_type 44 = .ok (.aload_n 0, 1) := by decide +kernel
theorem dX7_type_45 : decode cX7_type 45 = .ok (.getfield 29, 3) := by decide +kernel
theorem dX7_type_48 : decode cX7_type 48 = .ok (.iload_n 1, 1) := by decide +kernel
theorem dX7_type_49 : decode cX7_type 49 = .ok (.invokevirtual 132, 3) := by decide +kernel
theorem dX7_type_52 : decode cX7_type 52 = .ok (.aload_n 0, 1) := by decide +kernel
theorem dX7_type_53 : decode cX7_type 53 = .ok (.getfield 29, 3) := by decide +kernel
theorem dX7_type_56 : decode cX7_type 56 = .ok (.getfield 127, 3) := by decide +kernel
theorem dX7_type_59 : decode cX7_type 59 = .ok (.ireturn, 1) := by decide +kernel
theorem dX7_wipe_0 : decode cX7_wipe 0 = .ok (.aload_n 0, 1) := by decide +kernel
theorem dX7_wipe_1 : decode cX7_wipe 1 = .ok (.getfield 29, 3) := by decide +kernel
theorem dX7_wipe_4 : decode cX7_wipe 4 = .ok (.getfield 127, 3) := by decide +kernel
theorem dX7_wipe_7 : decode cX7_wipe 7 = .ok (.istore_n 1, 1) := by decide +kernel
theorem dX7_wipe_8 : decode cX7_wipe 8 = .ok (.aload_n 0, 1) := by decide +kernel
theorem dX7_wipe_9 : decode cX7_wipe 9 = .ok (.getfield 29, 3) := by decide +kernel
theorem dX7_wipe_12 : decode cX7_wipe 12 = .ok (.iconst 0, 1) := by decide +kernel
theorem dX7_wipe_13 : decode cX7_wipe 13 = .ok (.putfield 127, 3) := by decide +kernel
theorem dX7_wipe_16 : decode cX7_wipe 16 = .ok (.iload_n 1, 1) := by decide +kernel
theorem dX7_wipe_17 : decode cX7_wipe 17 = .ok (.ireturn, 1) := by decide +kernel
theorem dX7_subject_0 : decode cX7_subject 0 = .ok (.aload_n 0, 1) := by decide +kernel
theorem dX7_subject_1 : decode cX7_subject 1 = .ok (.iload_n 1, 1) := by decide +kernel
theorem dX7_subject_2 : decode cX7_subject 2 = .ok (.invokevirtual 88, 3) := by decide +kernel
theorem dX7_subject_5 : decode cX7_subject 5 = .ok (.aload_n 0, 1) := by decide +kernel
theorem dX7_subject_6 : decode cX7_subject 6 = .ok (.invokevirtual 136, 3) := by decide +kernel
theorem dX7_subject_9 : decode cX7_subject 9 = .ok (.istore_n 2, 1) := by decide +kernel
theorem dX7_subject_10 : decode cX7_subject 10 = .ok (.aload_n 0, 1) := by decide +kernel
theorem dX7_subject_11 : decode cX7_subject 11 = .ok (.iload_n 1, 1) := by decide +kernel
theorem dX7_subject_12 : decode cX7_subject 12 = .ok (.invokevirtual 97, 3) := by decide +kernel
theorem dX7_subject_15 : decode cX7_subject 15 = .ok (.aload_n 0, 1) := by decide +kernel
theorem dX7_subject_16 : decode cX7_subject 16 = .ok (.getfield 11, 3) := by decide +kernel
theorem dX7_subject_19 : decode cX7_subject 19 = .ok (.iload_n 1, 1) := by decide +kernel
theorem dX7_subject_20 : decode cX7_subject 20 = .ok (.aaload, 1) := by decide +kernel
theorem dX7_subject_21 : decode cX7_subject 21 = .ok (.getfield 75, 3) := by decide +kernel
theorem dX7_subject_24 : decode cX7_subject 24 = .ok (.astore_n 3, 1) := by decide +kernel
theorem dX7_subject_25 : decode cX7_subject 25 = .ok (.aload_n 3, 1) := by decide +kernel
theorem dX7_subject_26 : decode cX7_subject 26 = .ok (.getfield 139, 3) := by decide +kernel
theorem dX7_subject_29 : decode cX7_subject 29 = .ok (.invokestatic 142, 3) := by decide +kernel
theorem dX7_subject_32 : decode cX7_subject 32 = .ok (.iconst 0, 1) := by decide +kernel
theorem dX7_subject_33 : decode cX7_subject 33 = .ok (.invokevirtual 146, 3) := by decide +kernel
theorem dX7_subject_36 : decode cX7_subject 36 = .ok (.istore 4, 2) := by decide +kernel
theorem dX7_subject_38 : decode cX7_subject 38 = .ok (.aload_n 3, 1) := by decide +kernel
theorem dX7_subject_39 : decode cX7_subject 39 = .ok (.iload_n 2, 1) := by decide +kernel
theorem dX7_subject_40 : decode cX7_subject 40 = .ok (.putfield 139, 3) := by decide +kernel
theorem dX7_subject_43 : decode cX7_subject 43 = .ok (.iload 4, 2) := by decide +kernel
theorem dX7_subject_45 : decode cX7_subject 45 = .ok (.ireturn, 1) := by decide +kernel
theorem dX7_strike_0 : decode cX7_strike 0 = .ok (.aload_n 0, 1) := by decide +kernel
theorem dX7_strike_1 : decode cX7_strike 1 = .ok (.invokevirtual 136, 3) := by decide +kernel
theorem dX7_strike_4 : decode cX7_strike 4 = .ok (.istore_n 2, 1) := by decide +kernel
theorem dX7_strike_5 : decode cX7_strike 5 = .ok (.aload_n 0, 1) := by decide +kernel
theorem dX7_strike_6 : decode cX7_strike 6 = .ok (.getfield 33, 3) := by decide +kernel
theorem dX7_strike_9 : decode cX7_strike 9 = .ok (.iload_n 2, 1) := by decide +kernel
theorem dX7_strike_10 : decode cX7_strike 10 = .ok (.baload, 1) := by decide +kernel
theorem dX7_strike_11 : decode cX7_strike 11 = .ok (.istore_n 3, 1) := by decide +kernel
theorem dX7_strike_12 : decode cX7_strike 12 = .ok (.aload_n 0, 1) := by decide +kernel
theorem dX7_strike_13 : decode cX7_strike 13 = .ok (.getfield 33, 3) := by decide +kernel
theorem dX7_strike_16 : decode cX7_strike 16 = .ok (.iload_n 2, 1) := by decide +kernel
theorem dX7_strike_17 : decode cX7_strike 17 = .ok (.iload_n 1, 1) := by decide +kernel
theorem dX7_strike_18 : decode cX7_strike 18 = .ok (.bastore, 1) := by decide +kernel
theorem dX7_strike_19 : decode cX7_strike 19 = .ok (.iload_n 3, 1) := by decide +kernel
theorem dX7_strike_20 : decode cX7_strike 20 = .ok (.ireturn, 1) := by decide +kernel
theorem dX7_learn_0 : decode cX7_learn 0 = .ok (.aload_n 0, 1) := by decide +kernel
theorem dX7_learn_1 : decode cX7_learn 1 = .ok (.iload_n 1, 1) := by decide +kernel
theorem dX7_learn_2 : decode cX7_learn 2 = .ok (.invokevirtual 88, 3) := by decide +kernel
theorem dX7_learn_5 : decode cX7_learn 5 = .ok (.iload_n 2, 1) := by decide +kernel
theorem dX7_learn_6 : decode cX7_learn 6 = .ok (.iconst 1, 1) := by decide +kernel
theorem dX7_learn_7 : decode cX7_learn 7 = .ok (.bipush 30, 2) := by decide +kernel
theorem dX7_learn_9 : decode cX7_learn 9 = .ok (.invokestatic 57, 3) := by decide +kernel
theorem dX7_learn_12 : decode cX7_learn 12 = .ok (.aload_n 0, 1) := by decide +kernel
theorem dX7_learn_13 : decode cX7_learn 13 = .ok (.iload_n 1, 1) := by decide +kernel
theorem dX7_learn_14 : decode cX7_learn 14 = .ok (.invokevirtual 97, 3) := by decide +kernel
theorem dX7_learn_17 : decode cX7_learn 17 = .ok (.aload_n 0, 1) := by decide +kernel
theorem dX7_learn_18 : decode cX7_learn 18 = .ok (.getfield 11, 3) := by decide +kernel
theorem dX7_learn_21 : decode cX7_learn 21 = .ok (.iload_n 1, 1) := by decide +kernel
theorem dX7_learn_22 : decode cX7_learn 22 = .ok (.aaload, 1) := by decide +kernel
theorem dX7_learn_23 : decode cX7_learn 23 = .ok (.getfield 75, 3) := by decide +kernel
theorem dX7_learn_26 : decode cX7_learn 26 = .ok (.astore_n 3, 1) := by decide +kernel
theorem dX7_learn_27 : decode cX7_learn 27 = .ok (.aload_n 3, 1) := by decide +kernel
theorem dX7_learn_28 : decode cX7_learn 28 = .ok (.bipush 100, 2) := by decide +kernel
theorem dX7_learn_30 : decode cX7_learn 30 = .ok (.aload_n 3, 1) := by decide +kernel
theorem dX7_learn_31 : decode cX7_learn 31 = .ok (.getfield 110, 3) := by decide +kernel
theorem dX7_learn_34 : decode cX7_learn 34 = .ok (.iconst 5, 1) := by decide +kernel
theorem dX7_learn_35 : decode cX7_learn 35 = .ok (.iload_n 2, 1) := by decide +kernel
theorem dX7_learn_36 : decode cX7_learn 36 = .ok (.imul, 1) := by decide +kernel
theorem dX7_learn_37 : decode cX7_learn 37 = .ok (.iadd, 1) := by decide +kernel
theorem dX7_learn_38 : decode cX7_learn 38 = .ok (.invokestatic 152, 3) := by decide +kernel
theorem dX7_learn_41 : decode cX7_learn 41 = .ok (.putfield 110, 3) := by decide +kernel
theorem dX7_learn_44 : decode cX7_learn 44 = .ok (.aload_n 3, 1) := by decide +kernel
theorem dX7_learn_45 : decode cX7_learn 45 = .ok (.getfield 110, 3) := by decide +kernel
theorem dX7_learn_48 : decode cX7_learn 48 = .ok (.ireturn, 1) := by decide +kernel
theorem dX7_cast_0 : decode cX7_cast 0 = .ok (.aload_n 0, 1) := by decide +kernel
theorem dX7_cast_1 : decode cX7_cast 1 = .ok (.iload_n 1, 1) := by decide +kernel
theorem dX7_cast_2 : decode cX7_cast 2 = .ok (.invokevirtual 88, 3) := by decide +kernel
theorem dX7_cast_5 : decode cX7_cast 5 = .ok (.aload_n 0, 1) := by decide +kernel
theorem dX7_cast_6 : decode cX7_cast 6 = .ok (.getfield 11, 3) := by decide +kernel
theorem dX7_cast_9 : decode cX7_cast 9 = .ok (.iload_n 1, 1) := by decide +kernel
theorem dX7_cast_10 : decode cX7_cast 10 = .ok (.aaload, 1) := by decide +kernel
theorem dX7_cast_11 : decode cX7_cast 11 = .ok (.getfield 75, 3) := by decide +kernel
theorem dX7_cast_14 : decode cX7_cast 14 = .ok (.astore 4, 2) := by decide +kernel
theorem dX7_cast_16 : decode cX7_cast 16 = .ok (.iload_n 2, 1) := by decide +kernel
theorem dX7_cast_17 : decode cX7_cast 17 = .ok (.ifCond .lt 12, 3) := by decide +kernel
theorem dX7_cast_20 : decode cX7_cast 20 = .ok (.iload_n 2, 1) := by decide +kernel
theorem dX7_cast_21 : decode cX7_cast 21 = .ok (.aload 4, 2) := by decide +kernel
theorem dX7_cast_23 : decode cX7_cast 23 = .ok (.getfield 107, 3) := by decide +kernel
theorem dX7_cast_26 : decode cX7_cast 26 = .ok (.if_icmp .lt 13, 3) := by decide +kernel
theorem dX7_cast_29 : decode cX7_cast 29 = .ok (.new 158, 3) := by decide +kernel
theorem dX7_cast_32 : decode cX7_cast 32 = .ok (.dup, 1) := by decide +kernel
theorem dX7_cast_33 : decode cX7_cast 33 = .ok (.ldc 160, 2) := by decide +kernel
theorem dX7_cast_35 : decode cX7_cast 35 = .ok (.invokespecial 162, 3) := by decide +kernel
theorem dX7_cast_38 : decode cX7_cast 38 = .ok (.athrow, 1) := by decide +kernel
theorem dX7_cast_39 : decode cX7_cast 39 = .ok (.iload_n 3, 1) := by decide +kernel
theorem dX7_cast_40 : decode cX7_cast 40 = .ok (.iconst (-1), 1) := by decide +kernel
theorem dX7_cast_41 : decode cX7_cast 41 = .ok (.bipush 19, 2) := by decide +kernel
theorem dX7_cast_43 : decode cX7_cast 43 = .ok (.invokestatic 57, 3) := by decide +kernel
theorem dX7_cast_46 : decode cX7_cast 46 = .ok (.aload 4, 2) := by decide +kernel
theorem dX7_cast_48 : decode cX7_cast 48 = .ok (.getfield 163, 3) := by decide +kernel
theorem dX7_cast_51 : decode cX7_cast 51 = .ok (.iload_n 2, 1) := by decide +kernel
theorem dX7_cast_52 : decode cX7_cast 52 = .ok (.iaload, 1) := by decide +kernel
theorem dX7_cast_53 : decode cX7_cast 53 = .ok (.istore 5, 2) := by decide +kernel
theorem dX7_cast_55 : decode cX7_cast 55 = .ok (.aload 4, 2) := by decide +kernel
theorem dX7_cast_57 : decode cX7_cast 57 = .ok (.getfield 163, 3) := by decide +kernel
theorem dX7_cast_60 : decode cX7_cast 60 = .ok (.iload_n 2, 1) := by decide +kernel
theorem dX7_cast_61 : decode cX7_cast 61 = .ok (.iload_n 3, 1) := by decide +kernel
theorem dX7_cast_62 : decode cX7_cast 62 = .ok (.iastore, 1) := by decide +kernel
theorem dX7_cast_63 : decode cX7_cast 63 = .ok (.iload 5, 2) := by decide +kernel
theorem dX7_cast_65 : decode cX7_cast 65 = .ok (.ireturn, 1) := by decide +kernel
theorem dX7_wagon_0 : decode cX7_wagon 0 = .ok (.aload_n 0, 1) := by decide +kernel
theorem dX7_wagon_1 : decode cX7_wagon 1 = .ok (.iload_n 1, 1) := by decide +kernel
theorem dX7_wagon_2 : decode cX7_wagon 2 = .ok (.invokevirtual 88, 3) := by decide +kernel
theorem dX7_wagon_5 : decode cX7_wagon 5 = .ok (.iload_n 2, 1) := by decide +kernel
theorem dX7_wagon_6 : decode cX7_wagon 6 = .ok (.iconst 1, 1) := by decide +kernel
theorem dX7_wagon_7 : decode cX7_wagon 7 = .ok (.bipush 9, 2) := by decide +kernel
theorem dX7_wagon_9 : decode cX7_wagon 9 = .ok (.invokestatic 57, 3) := by decide +kernel
theorem dX7_wagon_12 : decode cX7_wagon 12 = .ok (.iload_n 3, 1) := by decide +kernel
theorem dX7_wagon_13 : decode cX7_wagon 13 = .ok (.iconst 0, 1) := by decide +kernel
theorem dX7_wagon_14 : decode cX7_wagon 14 = .ok (.bipush 9, 2) := by decide +kernel
theorem dX7_wagon_16 : decode cX7_wagon 16 = .ok (.invokestatic 57, 3) := by decide +kernel
theorem dX7_wagon_19 : decode cX7_wagon 19 = .ok (.aload_n 0, 1) := by decide +kernel
theorem dX7_wagon_20 : decode cX7_wagon 20 = .ok (.getfield 11, 3) := by decide +kernel
theorem dX7_wagon_23 : decode cX7_wagon 23 = .ok (.iload_n 1, 1) := by decide +kernel
theorem dX7_wagon_24 : decode cX7_wagon 24 = .ok (.aaload, 1) := by decide +kernel
theorem dX7_wagon_25 : decode cX7_wagon 25 = .ok (.astore 4, 2) := by decide +kernel
theorem dX7_wagon_27 : decode cX7_wagon 27 = .ok (.aload 4, 2) := by decide +kernel
theorem dX7_wagon_29 : decode cX7_wagon 29 = .ok (.getfield 166, 3) := by decide +kernel
theorem dX7_wagon_32 : decode cX7_wagon 32 = .ok (.istore 5, 2) := by decide +kernel
theorem dX7_wagon_34 : decode cX7_wagon 34 = .ok (.aload 4, 2) := by decide +kernel
theorem dX7_wagon_36 : decode cX7_wagon 36 = .ok (.iload_n 2, 1) := by decide +kernel
theorem dX7_wagon_37 : decode cX7_wagon 37 = .ok (.putfield 166, 3) := by decide +kernel
theorem dX7_wagon_40 : decode cX7_wagon 40 = .ok (.aload 4, 2) := by decide +kernel
theorem dX7_wagon_42 : decode cX7_wagon 42 = .ok (.iload_n 3, 1) := by decide +kernel
theorem dX7_wagon_43 : decode cX7_wagon 43 = .ok (.putfield 169, 3) := by decide +kernel
theorem dX7_wagon_46 : decode cX7_wagon 46 = .ok (.iload 5, 2) := by decide +kernel
theorem dX7_wagon_48 : decode cX7_wagon 48 = .ok (.ireturn, 1) := by decide +kernel
theorem dX7_mend_0 : decode cX7_mend 0 = .ok (.aload_n 0, 1) := by decide +kernel
theorem dX7_mend_1 : decode cX7_mend 1 = .ok (.iload_n 1, 1) := by decide +kernel
theorem dX7_mend_2 : decode cX7_mend 2 = .ok (.invokevirtual 88, 3) := by decide +kernel
theorem dX7_mend_5 : decode cX7_mend 5 = .ok (.iload_n 2, 1) := by decide +kernel
theorem dX7_mend_6 : decode cX7_mend 6 = .ok (.iconst 1, 1) := by decide +kernel
theorem dX7_mend_7 : decode cX7_mend 7 = .ok (.bipush 9, 2) := by decide +kernel
theorem dX7_mend_9 : decode cX7_mend 9 = .ok (.invokestatic 57, 3) := by decide +kernel
theorem dX7_mend_12 : decode cX7_mend 12 = .ok (.aload_n 0, 1) := by decide +kernel
theorem dX7_mend_13 : decode cX7_mend 13 = .ok (.iload_n 1, 1) := by decide +kernel
theorem dX7_mend_14 : decode cX7_mend 14 = .ok (.invokevirtual 97, 3) := by decide +kernel
theorem dX7_mend_17 : decode cX7_mend 17 = .ok (.aload_n 0, 1) := by decide +kernel
theorem dX7_mend_18 : decode cX7_mend 18 = .ok (.getfield 11, 3) := by decide +kernel
theorem dX7_mend_21 : decode cX7_mend 21 = .ok (.iload_n 1, 1) := by decide +kernel
theorem dX7_mend_22 : decode cX7_mend 22 = .ok (.aaload, 1) := by decide +kernel
theorem dX7_mend_23 : decode cX7_mend 23 = .ok (.astore_n 3, 1) := by decide +kernel
theorem dX7_mend_24 : decode cX7_mend 24 = .ok (.aload_n 3, 1) := by decide +kernel
theorem dX7_mend_25 : decode cX7_mend 25 = .ok (.getfield 113, 3) := by decide +kernel
theorem dX7_mend_28 : decode cX7_mend 28 = .ok (.iload_n 2, 1) := by decide +kernel
theorem dX7_mend_29 : decode cX7_mend 29 = .ok (.iadd, 1) := by decide +kernel
theorem dX7_mend_30 : decode cX7_mend 30 = .ok (.bipush 9, 2) := by decide +kernel
theorem dX7_mend_32 : decode cX7_mend 32 = .ok (.if_icmp .le 13, 3) := by decide +kernel
theorem dX7_mend_35 : decode cX7_mend 35 = .ok (.new 172, 3) := by decide +kernel
theorem dX7_mend_38 : decode cX7_mend 38 = .ok (.dup, 1) := by decide +kernel
theorem dX7_mend_39 : decode cX7_mend 39 = .ok (.ldc 174, 2) := by decide +kernel
theorem dX7_mend_41 : decode cX7_mend 41 = .ok (.invokespecial 176, 3) := by decide +kernel
theorem dX7_mend_44 : decode cX7_mend 44 = .ok (.athrow, 1) := by decide +kernel
theorem dX7_mend_45 : decode cX7_mend 45 = .ok (.aload_n 3, 1) := by decide +kernel
theorem dX7_mend_46 : decode cX7_mend 46 = .ok (.dup, 1) := by decide +kernel
theorem dX7_mend_47 : decode cX7_mend 47 = .ok (.getfield 113, 3) := by decide +kernel
theorem dX7_mend_50 : decode cX7_mend 50 = .ok (.iload_n 2, 1) := by decide +kernel
theorem dX7_mend_51 : decode cX7_mend 51 = .ok (.iadd, 1) := by decide +kernel
theorem dX7_mend_52 : decode cX7_mend 52 = .ok (.putfield 113, 3) := by decide +kernel
theorem dX7_mend_55 : decode cX7_mend 55 = .ok (.aload_n 0, 1) := by decide +kernel
theorem dX7_mend_56 : decode cX7_mend 56 = .ok (.aload_n 3, 1) := by decide +kernel
theorem dX7_mend_57 : decode cX7_mend 57 = .ok (.iconst 2, 1) := by decide +kernel
theorem dX7_mend_58 : decode cX7_mend 58 = .ok (.iload_n 2, 1) := by decide +kernel
theorem dX7_mend_59 : decode cX7_mend 59 = .ok (.imul, 1) := by decide +kernel
theorem dX7_mend_60 : decode cX7_mend 60 = .ok (.invokevirtual 177, 3) := by decide +kernel
theorem dX7_mend_63 : decode cX7_mend 63 = .ok (.aload_n 3, 1) := by decide +kernel
theorem dX7_mend_64 : decode cX7_mend 64 = .ok (.getfield 113, 3) := by decide +kernel
theorem dX7_mend_67 : decode cX7_mend 67 = .ok (.ireturn, 1) := by decide +kernel
theorem dX7_put_0 : decode cX7_put 0 = .ok (.aload_n 0, 1) := by decide +kernel
theorem dX7_put_1 : decode cX7_put 1 = .ok (.iload_n 1, 1) := by decide +kernel
theorem dX7_put_2 : decode cX7_put 2 = .ok (.invokevirtual 88, 3) := by decide +kernel
theorem dX7_put_5 : decode cX7_put 5 = .ok (.iload_n 2, 1) := by decide +kernel
theorem dX7_put_6 : decode cX7_put 6 = .ok (.iconst 0, 1) := by decide +kernel
theorem dX7_put_7 : decode cX7_put 7 = .ok (.aload_n 0, 1) := by decide +kernel
theorem dX7_put_8 : decode cX7_put 8 = .ok (.getfield 61, 3) := by decide +kernel
theorem dX7_put_11 : decode cX7_put 11 = .ok (.iconst 1, 1) := by decide +kernel
theorem dX7_put_12 : decode cX7_put 12 = .ok (.isub, 1) := by decide +kernel
theorem dX7_put_13 : decode cX7_put 13 = .ok (.invokestatic 57, 3) := by decide +kernel
theorem dX7_put_16 : decode cX7_put 16 = .ok (.aload_n 0, 1) := by decide +kernel
theorem dX7_put_17 : decode cX7_put 17 = .ok (.iload_n 1, 1) := by decide +kernel
theorem dX7_put_18 : decode cX7_put 18 = .ok (.invokevirtual 213, 3) := by decide +kernel
theorem dX7_put_21 : decode cX7_put 21 = .ok (.istore_n 3, 1) := by decide +kernel
theorem dX7_put_22 : decode cX7_put 22 = .ok (.iload_n 3, 1) := by decide +kernel
theorem dX7_put_23 : decode cX7_put 23 = .ok (.istore 4, 2) := by decide +kernel
theorem dX7_put_25 : decode cX7_put 25 = .ok (.iload 4, 2) := by decide +kernel
theorem dX7_put_27 : decode cX7_put 27 = .ok (.iload_n 2, 1) := by decide +kernel
theorem dX7_put_28 : decode cX7_put 28 = .ok (.if_icmp .ge 25, 3) := by decide +kernel
theorem dX7_put_31 : decode cX7_put 31 = .ok (.aload_n 0, 1) := by decide +kernel
theorem dX7_put_32 : decode cX7_put 32 = .ok (.getfield 15, 3) := by decide +kernel
theorem dX7_put_35 : decode cX7_put 35 = .ok (.iload 4, 2) := by decide +kernel
theorem dX7_put_37 : decode cX7_put 37 = .ok (.aload_n 0, 1) := by decide +kernel
theorem dX7_put_38 : decode cX7_put 38 = .ok (.getfield 15, 3) := by decide +kernel
theorem dX7_put_41 : decode cX7_put 41 = .ok (.iload 4, 2) := by decide +kernel
theorem dX7_put_43 : decode cX7_put 43 = .ok (.iconst 1, 1) := by decide +kernel
theorem dX7_put_44 : decode cX7_put 44 = .ok (.iadd, 1) := by decide +kernel
theorem dX7_put_45 : decode cX7_put 45 = .ok (.iaload, 1) := by decide +kernel
theorem dX7_put_46 : decode cX7_put 46 = .ok (.iastore, 1) := by decide +kernel
theorem dX7_put_47 : decode cX7_put 47 = .ok (.iinc 4 1, 3) := by decide +kernel
theorem dX7_put_50 : decode cX7_put 50 = .ok (.goto (-25), 3) := by decide +kernel
theorem dX7_put_53 : decode cX7_put 53 = .ok (.iload_n 3, 1) := by decide +kernel
theorem dX7_put_54 : decode cX7_put 54 = .ok (.istore 4, 2) := by decide +kernel
theorem dX7_put_56 : decode cX7_put 56 = .ok (.iload 4, 2) := by decide +kernel
theorem dX7_put_58 : decode cX7_put 58 = .ok (.iload_n 2, 1) := by decide +kernel
theorem dX7_put_59 : decode cX7_put 59 = .ok (.if_icmp .le 25, 3) := by decide +kernel
theorem dX7_put_62 : decode cX7_put 62 = .ok (.aload_n 0, 1) := by decide +kernel
theorem dX7_put_63 : decode cX7_put 63 = .ok (.getfield 15, 3) := by decide +kernel
theorem dX7_put_66 : decode cX7_put 66 = .ok (.iload 4, 2) := by decide +kernel
theorem dX7_put_68 : decode cX7_put 68 = .ok (.aload_n 0, 1) := by decide +kernel
theorem dX7_put_69 : decode cX7_put 69 = .ok (.getfield 15, 3) := by decide +kernel
theorem dX7_put_72 : decode cX7_put 72 = .ok (.iload 4, 2) := by decide +kernel
theorem dX7_put_74 : decode cX7_put 74 = .ok (.iconst 1, 1) := by decide +kernel
theorem dX7_put_75 : decode cX7_put 75 = .ok (.isub, 1) := by decide +kernel
theorem dX7_put_76 : decode cX7_put 76 = .ok (.iaload, 1) := by decide +kernel
theorem dX7_put_77 : decode cX7_put 77 = .ok (.iastore, 1) := by decide +kernel
theorem dX7_put_78 : decode cX7_put 78 = .ok (.iinc 4 (-1), 3) := by decide +kernel
theorem dX7_put_81 : decode cX7_put 81 = .ok (.goto (-25), 3) := by decide +kernel
theorem dX7_put_84 : decode cX7_put 84 = .ok (.aload_n 0, 1) := by decide +kernel
theorem dX7_put_85 : decode cX7_put 85 = .ok (.getfield 15, 3) := by decide +kernel
theorem dX7_put_88 : decode cX7_put 88 = .ok (.iload_n 2, 1) := by decide +kernel
theorem dX7_put_89 : decode cX7_put 89 = .ok (.iload_n 1, 1) := by decide +kernel
theorem dX7_put_90 : decode cX7_put 90 = .ok (.iastore, 1) := by decide +kernel
theorem dX7_put_91 : decode cX7_put 91 = .ok (.iload_n 3, 1) := by decide +kernel
theorem dX7_put_92 : decode cX7_put 92 = .ok (.ireturn, 1) := by decide +kernel
theorem dX7_place_0 : decode cX7_place 0 = .ok (.aload_n 0, 1) := by decide +kernel
theorem dX7_place_1 : decode cX7_place 1 = .ok (.iload_n 1, 1) := by decide +kernel
theorem dX7_place_2 : decode cX7_place 2 = .ok (.invokevirtual 88, 3) := by decide +kernel
theorem dX7_place_5 : decode cX7_place 5 = .ok (.aload_n 0, 1) := by decide +kernel
theorem dX7_place_6 : decode cX7_place 6 = .ok (.iload_n 1, 1) := by decide +kernel
theorem dX7_place_7 : decode cX7_place 7 = .ok (.invokevirtual 213, 3) := by decide +kernel
theorem dX7_place_10 : decode cX7_place 10 = .ok (.ireturn, 1) := by decide +kernel
theorem dX7_add_0 : decode cX7_add 0 = .ok (.aload_n 0, 1) := by decide +kernel
theorem dX7_add_1 : decode cX7_add 1 = .ok (.iload_n 1, 1) := by decide +kernel
theorem dX7_add_2 : decode cX7_add 2 = .ok (.invokevirtual 88, 3) := by decide +kernel
theorem dX7_add_5 : decode cX7_add 5 = .ok (.iload_n 2, 1) := by decide +kernel
theorem dX7_add_6 : decode cX7_add 6 = .ok (.iconst 1, 1) := by decide +kernel
theorem dX7_add_7 : decode cX7_add 7 = .ok (.bipush 99, 2) := by decide +kernel
theorem dX7_add_9 : decode cX7_add 9 = .ok (.invokestatic 57, 3) := by decide +kernel
theorem dX7_add_12 : decode cX7_add 12 = .ok (.aload_n 0, 1) := by decide +kernel
theorem dX7_add_13 : decode cX7_add 13 = .ok (.iload_n 1, 1) := by decide +kernel
theorem dX7_add_14 : decode cX7_add 14 = .ok (.invokevirtual 97, 3) := by decide +kernel
theorem dX7_add_17 : decode cX7_add 17 = .ok (.aload_n 0, 1) := by decide +kernel
theorem dX7_add_18 : decode cX7_add 18 = .ok (.getfield 11, 3) := by decide +kernel
theorem dX7_add_21 : decode cX7_add 21 = .ok (.iload_n 1, 1) := by decide +kernel
theorem dX7_add_22 : decode cX7_add 22 = .ok (.aaload, 1) := by decide +kernel
theorem dX7_add_23 : decode cX7_add 23 = .ok (.getfield 75, 3) := by decide +kernel
theorem dX7_add_26 : decode cX7_add 26 = .ok (.astore_n 3, 1) := by decide +kernel
theorem dX7_add_27 : decode cX7_add 27 = .ok (.aload_n 3, 1) := by decide +kernel
theorem dX7_add_28 : decode cX7_add 28 = .ok (.getfield 104, 3) := by decide +kernel
theorem dX7_add_31 : decode cX7_add 31 = .ok (.iload_n 2, 1) := by decide +kernel
theorem dX7_add_32 : decode cX7_add 32 = .ok (.iadd, 1) := by decide +kernel
theorem dX7_add_33 : decode cX7_add 33 = .ok (.sipush 600, 3) := by decide +kernel
theorem dX7_add_36 : decode cX7_add 36 = .ok (.if_icmp .le 13, 3) := by decide +kernel
theorem dX7_add_39 : decode cX7_add 39 = .ok (.new 172, 3) := by decide +kernel
theorem dX7_add_42 : decode cX7_add 42 = .ok (.dup, 1) := by decide +kernel
theorem dX7_add_43 : decode cX7_add 43 = .ok (.ldc 220, 2) := by decide +kernel
theorem dX7_add_45 : decode cX7_add 45 = .ok (.invokespecial 176, 3) := by decide +kernel
theorem dX7_add_48 : decode cX7_add 48 = .ok (.athrow, 1) := by decide +kernel
theorem dX7_add_49 : decode cX7_add 49 = .ok (.aload_n 3, 1) := by decide +kernel
theorem dX7_add_50 : decode cX7_add 50 = .ok (.dup, 1) := by decide +kernel
theorem dX7_add_51 : decode cX7_add 51 = .ok (.getfield 104, 3) := by decide +kernel
theorem dX7_add_54 : decode cX7_add 54 = .ok (.iload_n 2, 1) := by decide +kernel
theorem dX7_add_55 : decode cX7_add 55 = .ok (.iadd, 1) := by decide +kernel
theorem dX7_add_56 : decode cX7_add 56 = .ok (.putfield 104, 3) := by decide +kernel
theorem dX7_add_59 : decode cX7_add 59 = .ok (.aload_n 3, 1) := by decide +kernel
theorem dX7_add_60 : decode cX7_add 60 = .ok (.invokevirtual 119, 3) := by decide +kernel
theorem dX7_add_63 : decode cX7_add 63 = .ok (.ireturn, 1) := by decide +kernel
theorem dX7_day_0 : decode cX7_day 0 = .ok (.aload_n 0, 1) := by decide +kernel
theorem dX7_day_1 : decode cX7_day 1 = .ok (.invokevirtual 222, 3) := by decide +kernel
theorem dX7_day_4 : decode cX7_day 4 = .ok (.aload_n 0, 1) := by decide +kernel
theorem dX7_day_5 : decode cX7_day 5 = .ok (.getfield 225, 3) := by decide +kernel
theorem dX7_day_8 : decode cX7_day 8 = .ok (.ifCond .eq 13, 3) := by decide +kernel
theorem dX7_day_11 : decode cX7_day 11 = .ok (.new 65, 3) := by decide +kernel
theorem dX7_day_14 : decode cX7_day 14 = .ok (.dup, 1) := by decide +kernel
theorem dX7_day_15 : decode cX7_day 15 = .ok (.ldc 228, 2) := by decide +kernel
theorem dX7_day_17 : decode cX7_day 17 = .ok (.invokespecial 69, 3) := by decide +kernel
theorem dX7_day_20 : decode cX7_day 20 = .ok (.athrow, 1) := by decide +kernel
theorem dX7_day_21 : decode cX7_day 21 = .ok (.aload_n 0, 1) := by decide +kernel
theorem dX7_day_22 : decode cX7_day 22 = .ok (.aload_n 0, 1) := by decide +kernel
theorem dX7_day_23 : decode cX7_day 23 = .ok (.getfield 43, 3) := by decide +kernel
theorem dX7_day_26 : decode cX7_day 26 = .ok (.aload_n 0, 1) := by decide +kernel
theorem dX7_day_27 : decode cX7_day 27 = .ok (.getfield 15, 3) := by decide +kernel
theorem dX7_day_30 : decode cX7_day 30 = .ok (.aload_n 0, 1) := by decide +kernel
theorem dX7_day_31 : decode cX7_day 31 = .ok (.getfield 61, 3) := by decide +kernel
theorem dX7_day_34 : decode cX7_day 34 = .ok (.invokevirtual 230, 3) := by decide +kernel
theorem dX7_day_37 : decode cX7_day 37 = .ok (.aload_n 0, 1) := by decide +kernel
theorem dX7_day_38 : decode cX7_day 38 = .ok (.iconst 1, 1) := by decide +kernel
theorem dX7_day_39 : decode cX7_day 39 = .ok (.putfield 225, 3) := by decide +kernel
theorem dX7_day_42 : decode cX7_day 42 = .ok (.iconst 0, 1) := by decide +kernel
theorem dX7_day_43 : decode cX7_day 43 = .ok (.istore_n 1, 1) := by decide +kernel
theorem dX7_day_44 : decode cX7_day 44 = .ok (.iload_n 1, 1) := by decide +kernel
theorem dX7_day_45 : decode cX7_day 45 = .ok (.aload_n 0, 1) := by decide +kernel
theorem dX7_day_46 : decode cX7_day 46 = .ok (.getfield 43, 3) := by decide +kernel
theorem dX7_day_49 : decode cX7_day 49 = .ok (.getfield 234, 3) := by decide +kernel
theorem dX7_day_52 : decode cX7_day 52 = .ok (.if_icmp .ge 22, 3) := by decide +kernel
theorem dX7_day_55 : decode cX7_day 55 = .ok (.aload_n 0, 1) := by decide +kernel
theorem dX7_day_56 : decode cX7_day 56 = .ok (.aload_n 0, 1) := by decide +kernel
theorem dX7_day_57 : decode cX7_day 57 = .ok (.getfield 43, 3) := by decide +kernel
theorem dX7_day_60 : decode cX7_day 60 = .ok (.getfield 235, 3) := by decide +kernel
theorem dX7_day_63 : decode cX7_day 63 = .ok (.iload_n 1, 1) := by decide +kernel
theorem dX7_day_64 : decode cX7_day 64 = .ok (.aaload, 1) := by decide +kernel
theorem dX7_day_65 : decode cX7_day 65 = .ok (.invokevirtual 239, 3) := by decide +kernel
theorem dX7_day_68 : decode cX7_day 68 = .ok (.iinc 1 1, 3) := by decide +kernel
theorem dX7_day_71 : decode cX7_day 71 = .ok (.goto (-27), 3) := by decide +kernel
theorem dX7_day_74 : decode cX7_day 74 = .ok (.aload_n 0, 1) := by decide +kernel
theorem dX7_day_75 : decode cX7_day 75 = .ok (.invokevirtual 243, 3) := by decide +kernel
theorem dX7_day_78 : decode cX7_day 78 = .ok (.aload_n 0, 1) := by decide +kernel
theorem dX7_day_79 : decode cX7_day 79 = .ok (.getfield 43, 3) := by decide +kernel
theorem dX7_day_82 : decode cX7_day 82 = .ok (.invokevirtual 246, 3) := by decide +kernel
theorem dX7_day_85 : decode cX7_day 85 = .ok (.ireturn, 1) := by decide +kernel
theorem dX7_end_0 : decode cX7_end 0 = .ok (.aload_n 0, 1) := by decide +kernel
theorem dX7_end_1 : decode cX7_end 1 = .ok (.invokevirtual 281, 3) := by decide +kernel
theorem dX7_end_4 : decode cX7_end 4 = .ok (.aload_n 0, 1) := by decide +kernel
theorem dX7_end_5 : decode cX7_end 5 = .ok (.getfield 43, 3) := by decide +kernel
theorem dX7_end_8 : decode cX7_end 8 = .ok (.invokevirtual 284, 3) := by decide +kernel
theorem dX7_end_11 : decode cX7_end 11 = .ok (.ireturn, 1) := by decide +kernel
theorem dX7_foresee_0 : decode cX7_foresee 0 = .ok (.aload_n 0, 1) := by decide +kernel
theorem dX7_foresee_1 : decode cX7_foresee 1 = .ok (.invokevirtual 222, 3) := by decide +kernel
theorem dX7_foresee_4 : decode cX7_foresee 4 = .ok (.aload_n 0, 1) := by decide +kernel
theorem dX7_foresee_5 : decode cX7_foresee 5 = .ok (.aload_n 0, 1) := by decide +kernel
theorem dX7_foresee_6 : decode cX7_foresee 6 = .ok (.getfield 47, 3) := by decide +kernel
theorem dX7_foresee_9 : decode cX7_foresee 9 = .ok (.aload_n 0, 1) := by decide +kernel
theorem dX7_foresee_10 : decode cX7_foresee 10 = .ok (.getfield 15, 3) := by decide +kernel
theorem dX7_foresee_13 : decode cX7_foresee 13 = .ok (.aload_n 0, 1) := by decide +kernel
theorem dX7_foresee_14 : decode cX7_foresee 14 = .ok (.getfield 61, 3) := by decide +kernel
theorem dX7_foresee_17 : decode cX7_foresee 17 = .ok (.invokevirtual 230, 3) := by decide +kernel
theorem dX7_foresee_20 : decode cX7_foresee 20 = .ok (.aload_n 0, 1) := by decide +kernel
theorem dX7_foresee_21 : decode cX7_foresee 21 = .ok (.getfield 47, 3) := by decide +kernel
theorem dX7_foresee_24 : decode cX7_foresee 24 = .ok (.invokevirtual 284, 3) := by decide +kernel
theorem dX7_foresee_27 : decode cX7_foresee 27 = .ok (.ireturn, 1) := by decide +kernel
theorem dX7_lose_0 : decode cX7_lose 0 = .ok (.aload_n 0, 1) := by decide +kernel
theorem dX7_lose_1 : decode cX7_lose 1 = .ok (.iload_n 1, 1) := by decide +kernel
theorem dX7_lose_2 : decode cX7_lose 2 = .ok (.invokevirtual 88, 3) := by decide +kernel
theorem dX7_lose_5 : decode cX7_lose 5 = .ok (.aload_n 0, 1) := by decide +kernel
theorem dX7_lose_6 : decode cX7_lose 6 = .ok (.getfield 11, 3) := by decide +kernel
theorem dX7_lose_9 : decode cX7_lose 9 = .ok (.iload_n 1, 1) := by decide +kernel
theorem dX7_lose_10 : decode cX7_lose 10 = .ok (.aaload, 1) := by decide +kernel
theorem dX7_lose_11 : decode cX7_lose 11 = .ok (.getfield 75, 3) := by decide +kernel
theorem dX7_lose_14 : decode cX7_lose 14 = .ok (.astore_n 3, 1) := by decide +kernel
theorem dX7_lose_15 : decode cX7_lose 15 = .ok (.iload_n 2, 1) := by decide +kernel
theorem dX7_lose_16 : decode cX7_lose 16 = .ok (.iconst 0, 1) := by decide +kernel
theorem dX7_lose_17 : decode cX7_lose 17 = .ok (.aload_n 3, 1) := by decide +kernel
theorem dX7_lose_18 : decode cX7_lose 18 = .ok (.invokevirtual 304, 3) := by decide +kernel
theorem dX7_lose_21 : decode cX7_lose 21 = .ok (.iconst 1, 1) := by decide +kernel
theorem dX7_lose_22 : decode cX7_lose 22 = .ok (.isub, 1) := by decide +kernel
theorem dX7_lose_23 : decode cX7_lose 23 = .ok (.invokestatic 57, 3) := by decide +kernel
theorem dX7_lose_26 : decode cX7_lose 26 = .ok (.aload_n 3, 1) := by decide +kernel
theorem dX7_lose_27 : decode cX7_lose 27 = .ok (.getfield 307, 3) := by decide +kernel
theorem dX7_lose_30 : decode cX7_lose 30 = .ok (.iload_n 2, 1) := by decide +kernel
theorem dX7_lose_31 : decode cX7_lose 31 = .ok (.baload, 1) := by decide +kernel
theorem dX7_lose_32 : decode cX7_lose 32 = .ok (.ifCond .ne 7, 3) := by decide +kernel
theorem dX7_lose_35 : decode cX7_lose 35 = .ok (.iconst 1, 1) := by decide +kernel
theorem dX7_lose_36 : decode cX7_lose 36 = .ok (.goto 4, 3) := by decide +kernel
theorem dX7_lose_39 : decode cX7_lose 39 = .ok (.iconst 0, 1) := by decide +kernel
theorem dX7_lose_40 : decode cX7_lose 40 = .ok (.istore 4, 2) := by decide +kernel
theorem dX7_lose_42 : decode cX7_lose 42 = .ok (.aload_n 3, 1) := by decide +kernel
theorem dX7_lose_43 : decode cX7_lose 43 = .ok (.getfield 307, 3) := by decide +kernel
theorem dX7_lose_46 : decode cX7_lose 46 = .ok (.iload_n 2, 1) := by decide +kernel
theorem dX7_lose_47 : decode cX7_lose 47 = .ok (.iconst 1, 1) := by decide +kernel
theorem dX7_lose_48 : decode cX7_lose 48 = .ok (.bastore, 1) := by decide +kernel
theorem dX7_lose_49 : decode cX7_lose 49 = .ok (.iload 4, 2) := by decide +kernel
theorem dX7_lose_51 : decode cX7_lose 51 = .ok (.ireturn, 1) := by decide +kernel
theorem dX7_leaves_0 : decode cX7_leaves 0 = .ok (.aload_n 0, 1) := by decide +kernel
theorem dX7_leaves_1 : decode cX7_leaves 1 = .ok (.iload_n 1, 1) := by decide +kernel
theorem dX7_leaves_2 : decode cX7_leaves 2 = .ok (.invokevirtual 88, 3) := by decide +kernel
theorem dX7_leaves_5 : decode cX7_leaves 5 = .ok (.aload_n 0, 1) := by decide +kernel
theorem dX7_leaves_6 : decode cX7_leaves 6 = .ok (.getfield 11, 3) := by decide +kernel
theorem dX7_leaves_9 : decode cX7_leaves 9 = .ok (.iload_n 1, 1) := by decide +kernel
theorem dX7_leaves_10 : decode cX7_leaves 10 = .ok (.aaload, 1) := by decide +kernel
theorem dX7_leaves_11 : decode cX7_leaves 11 = .ok (.getfield 75, 3) := by decide +kernel
theorem dX7_leaves_14 : decode cX7_leaves 14 = .ok (.invokevirtual 304, 3) := by decide +kernel
theorem dX7_leaves_17 : decode cX7_leaves 17 = .ok (.ireturn, 1) := by decide +kernel
theorem dX7_known_0 : decode cX7_known 0 = .ok (.aload_n 0, 1) := by decide +kernel
theorem dX7_known_1 : decode cX7_known 1 = .ok (.iload_n 1, 1) := by decide +kernel
theorem dX7_known_2 : decode cX7_known 2 = .ok (.invokevirtual 88, 3) := by decide +kernel
theorem dX7_known_5 : decode cX7_known 5 = .ok (.aload_n 0, 1) := by decide +kernel
theorem dX7_known_6 : decode cX7_known 6 = .ok (.getfield 11, 3) := by decide +kernel
theorem dX7_known_9 : decode cX7_known 9 = .ok (.iload_n 1, 1) := by decide +kernel
theorem dX7_known_10 : decode cX7_known 10 = .ok (.aaload, 1) := by decide +kernel
theorem dX7_known_11 : decode cX7_known 11 = .ok (.getfield 75, 3) := by decide +kernel
theorem dX7_known_14 : decode cX7_known 14 = .ok (.invokevirtual 310, 3) := by decide +kernel
theorem dX7_known_17 : decode cX7_known 17 = .ok (.ireturn, 1) := by decide +kernel
theorem dX7_callIn_0 : decode cX7_callIn 0 = .ok (.iconst 0, 1) := by decide +kernel
theorem dX7_callIn_1 : decode cX7_callIn 1 = .ok (.istore_n 1, 1) := by decide +kernel
theorem dX7_callIn_2 : decode cX7_callIn 2 = .ok (.iconst 0, 1) := by decide +kernel
theorem dX7_callIn_3 : decode cX7_callIn 3 = .ok (.istore_n 2, 1) := by decide +kernel
theorem dX7_callIn_4 : decode cX7_callIn 4 = .ok (.iload_n 2, 1) := by decide +kernel
theorem dX7_callIn_5 : decode cX7_callIn 5 = .ok (.aload_n 0, 1) := by decide +kernel
theorem dX7_callIn_6 : decode cX7_callIn 6 = .ok (.getfield 61, 3) := by decide +kernel
theorem dX7_callIn_9 : decode cX7_callIn 9 = .ok (.if_icmp .ge 36, 3) := by decide +kernel
theorem dX7_callIn_12 : decode cX7_callIn 12 = .ok (.iload_n 1, 1) := by decide +kernel
theorem dX7_callIn_13 : decode cX7_callIn 13 = .ok (.aload_n 0, 1) := by decide +kernel
theorem dX7_callIn_14 : decode cX7_callIn 14 = .ok (.getfield 11, 3) := by decide +kernel
theorem dX7_callIn_17 : decode cX7_callIn 17 = .ok (.iload_n 2, 1) := by decide +kernel
theorem dX7_callIn_18 : decode cX7_callIn 18 = .ok (.aaload, 1) := by decide +kernel
theorem dX7_callIn_19 : decode cX7_callIn 19 = .ok (.getfield 75, 3) := by decide +kernel
theorem dX7_callIn_22 : decode cX7_callIn 22 = .ok (.invokevirtual 119, 3) := by decide +kernel
theorem dX7_callIn_25 : decode cX7_callIn 25 = .ok (.iadd, 1) := by decide +kernel
theorem dX7_callIn_26 : decode cX7_callIn 26 = .ok (.istore_n 1, 1) := by decide +kernel
theorem dX7_callIn_27 : decode cX7_callIn 27 = .ok (.aload_n 0, 1) := by decide +kernel
theorem dX7_callIn_28 : decode cX7_callIn 28 = .ok (.getfield 11, 3) := by decide +kernel
theorem dX7_callIn_31 : decode cX7_callIn 31 = .ok (.iload_n 2, 1) := by decide +kernel
theorem dX7_callIn_32 : decode cX7_callIn 32 = .ok (.aaload, 1) := by decide +kernel
theorem dX7_callIn_33 : decode cX7_callIn 33 = .ok (.getfield 75, 3) := by decide +kernel
theorem dX7_callIn_36 : decode cX7_callIn 36 = .ok (.invokevirtual 313, 3) := by decide +kernel
theorem dX7_callIn_39 : decode cX7_callIn 39 = .ok (.iinc 2 1, 3) := by decide +kernel
theorem dX7_callIn_42 : decode cX7_callIn 42 = .ok (.goto (-38), 3) := by decide +kernel
theorem dX7_callIn_45 : decode cX7_callIn 45 = .ok (.iload_n 1, 1) := by decide +kernel
theorem dX7_callIn_46 : decode cX7_callIn 46 = .ok (.ireturn, 1) := by decide +kernel
theorem dX7_town_0 : decode cX7_town 0 = .ok (.aload_n 0, 1) := by decide +kernel
theorem dX7_town_1 : decode cX7_town 1 = .ok (.getfield 316, 3) := by decide +kernel
theorem dX7_town_4 : decode cX7_town 4 = .ok (.ireturn, 1) := by decide +kernel
theorem dX7_year_0 : decode cX7_year 0 = .ok (.aload_n 0, 1) := by decide +kernel
theorem dX7_year_1 : decode cX7_year 1 = .ok (.getfield 319, 3) := by decide +kernel
theorem dX7_year_4 : decode cX7_year 4 = .ok (.bipush 99, 2) := by decide +kernel
theorem dX7_year_6 : decode cX7_year 6 = .ok (.if_icmp .lt 14, 3) := by decide +kernel
theorem dX7_year_9 : decode cX7_year 9 = .ok (.new 65, 3) := by decide +kernel
theorem dX7_year_12 : decode cX7_year 12 = .ok (.dup, 1) := by decide +kernel
theorem dX7_year_13 : decode cX7_year 13 = .ok (.ldc_w 322, 3) := by decide +kernel
theorem dX7_year_16 : decode cX7_year 16 = .ok (.invokespecial 69, 3) := by decide +kernel
theorem dX7_year_19 : decode cX7_year 19 = .ok (.athrow, 1) := by decide +kernel
theorem dX7_year_20 : decode cX7_year 20 = .ok (.aload_n 0, 1) := by decide +kernel
theorem dX7_year_21 : decode cX7_year 21 = .ok (.dup, 1) := by decide +kernel
theorem dX7_year_22 : decode cX7_year 22 = .ok (.getfield 319, 3) := by decide +kernel
theorem dX7_year_25 : decode cX7_year 25 = .ok (.iconst 1, 1) := by decide +kernel
theorem dX7_year_26 : decode cX7_year 26 = .ok (.iadd, 1) := by decide +kernel
theorem dX7_year_27 : decode cX7_year 27 = .ok (.putfield 319, 3) := by decide +kernel
theorem dX7_year_30 : decode cX7_year 30 = .ok (.aload_n 0, 1) := by decide +kernel
theorem dX7_year_31 : decode cX7_year 31 = .ok (.iconst 0, 1) := by decide +kernel
theorem dX7_year_32 : decode cX7_year 32 = .ok (.putfield 225, 3) := by decide +kernel
theorem dX7_year_35 : decode cX7_year 35 = .ok (.iconst 0, 1) := by decide +kernel
theorem dX7_year_36 : decode cX7_year 36 = .ok (.istore_n 1, 1) := by decide +kernel
theorem dX7_year_37 : decode cX7_year 37 = .ok (.iload_n 1, 1) := by decide +kernel
theorem dX7_year_38 : decode cX7_year 38 = .ok (.aload_n 0, 1) := by decide +kernel
theorem dX7_year_39 : decode cX7_year 39 = .ok (.getfield 61, 3) := by decide +kernel
theorem dX7_year_42 : decode cX7_year 42 = .ok (.if_icmp .ge 21, 3) := by decide +kernel
theorem dX7_year_45 : decode cX7_year 45 = .ok (.aload_n 0, 1) := by decide +kernel
theorem dX7_year_46 : decode cX7_year 46 = .ok (.getfield 11, 3) := by decide +kernel
theorem dX7_year_49 : decode cX7_year 49 = .ok (.iload_n 1, 1) := by decide +kernel
theorem dX7_year_50 : decode cX7_year 50 = .ok (.aaload, 1) := by decide +kernel
theorem dX7_year_51 : decode cX7_year 51 = .ok (.getfield 75, 3) := by decide +kernel
theorem dX7_year_54 : decode cX7_year 54 = .ok (.invokevirtual 324, 3) := by decide +kernel
theorem dX7_year_57 : decode cX7_year 57 = .ok (.iinc 1 1, 3) := by decide +kernel
theorem dX7_year_60 : decode cX7_year 60 = .ok (.goto (-23), 3) := by decide +kernel
theorem dX7_year_63 : decode cX7_year 63 = .ok (.iconst 0, 1) := by decide +kernel
theorem dX7_year_64 : decode cX7_year 64 = .ok (.istore_n 1, 1) := by decide +kernel
theorem dX7_year_65 : decode cX7_year 65 = .ok (.iload_n 1, 1) := by decide +kernel
theorem dX7_year_66 : decode cX7_year 66 = .ok (.aload_n 0, 1) := by decide +kernel
theorem dX7_year_67 : decode cX7_year 67 = .ok (.getfield 22, 3) := by decide +kernel
theorem dX7_year_70 : decode cX7_year 70 = .ok (.getfield 181, 3) := by decide +kernel
theorem dX7_year_73 : decode cX7_year 73 = .ok (.if_icmp .ge 21, 3) := by decide +kernel
theorem dX7_year_76 : decode cX7_year 76 = .ok (.aload_n 0, 1) := by decide +kernel
theorem dX7_year_77 : decode cX7_year 77 = .ok (.getfield 22, 3) := by decide +kernel
theorem dX7_year_80 : decode cX7_year 80 = .ok (.getfield 184, 3) := by decide +kernel
theorem dX7_year_83 : decode cX7_year 83 = .ok (.iload_n 1, 1) := by decide +kernel
theorem dX7_year_84 : decode cX7_year 84 = .ok (.aaload, 1) := by decide +kernel
theorem dX7_year_85 : decode cX7_year 85 = .ok (.invokevirtual 327, 3) := by decide +kernel
theorem dX7_year_88 : decode cX7_year 88 = .ok (.iinc 1 1, 3) := by decide +kernel
theorem dX7_year_91 : decode cX7_year 91 = .ok (.goto (-26), 3) := by decide +kernel
theorem dX7_year_94 : decode cX7_year 94 = .ok (.aload_n 0, 1) := by decide +kernel
theorem dX7_year_95 : decode cX7_year 95 = .ok (.getfield 319, 3) := by decide +kernel
theorem dX7_year_98 : decode cX7_year 98 = .ok (.ireturn, 1) := by decide +kernel
theorem dX7_isSound_0 : decode cX7_isSound 0 = .ok (.aload_n 0, 1) := by decide +kernel
theorem dX7_isSound_1 : decode cX7_isSound 1 = .ok (.invokevirtual 344, 3) := by decide +kernel
theorem dX7_isSound_4 : decode cX7_isSound 4 = .ok (.ifCond .eq 31, 3) := by decide +kernel
theorem dX7_isSound_7 : decode cX7_isSound 7 = .ok (.aload_n 0, 1) := by decide +kernel
theorem dX7_isSound_8 : decode cX7_isSound 8 = .ok (.invokevirtual 348, 3) := by decide +kernel
theorem dX7_isSound_11 : decode cX7_isSound 11 = .ok (.ifCond .eq 24, 3) := by decide +kernel
theorem dX7_isSound_14 : decode cX7_isSound 14 = .ok (.aload_n 0, 1) := by decide +kernel
theorem dX7_isSound_15 : decode cX7_isSound 15 = .ok (.getfield 225, 3) := by decide +kernel
theorem dX7_isSound_18 : decode cX7_isSound 18 = .ok (.ifCond .eq 13, 3) := by decide +kernel
theorem dX7_isSound_21 : decode cX7_isSound 21 = .ok (.aload_n 0, 1) := by decide +kernel
theorem dX7_isSound_22 : decode cX7_isSound 22 = .ok (.getfield 43, 3) := by decide +kernel
theorem dX7_isSound_25 : decode cX7_isSound 25 = .ok (.invokevirtual 351, 3) := by decide +kernel
theorem dX7_isSound_28 : decode cX7_isSound 28 = .ok (.ifCond .eq 7, 3) := by decide +kernel
theorem dX7_isSound_31 : decode cX7_isSound 31 = .ok (.iconst 1, 1) := by decide +kernel
theorem dX7_isSound_32 : decode cX7_isSound 32 = .ok (.goto 4, 3) := by decide +kernel
theorem dX7_isSound_35 : decode cX7_isSound 35 = .ok (.iconst 0, 1) := by decide +kernel
theorem dX7_isSound_36 : decode cX7_isSound 36 = .ok (.ireturn, 1) := by decide +kernel
theorem dX7_needRange_0 : decode cX7_needRange 0 = .ok (.iload_n 0, 1) := by decide +kernel
theorem dX7_needRange_1 : decode cX7_needRange 1 = .ok (.iload_n 1, 1) := by decide +kernel
theorem dX7_needRange_2 : decode cX7_needRange 2 = .ok (.if_icmp .lt 8, 3) := by decide +kernel
theorem dX7_needRange_5 : decode cX7_needRange 5 = .ok (.iload_n 0, 1) := by decide +kernel
theorem dX7_needRange_6 : decode cX7_needRange 6 = .ok (.iload_n 2, 1) := by decide +kernel
theorem dX7_needRange_7 : decode cX7_needRange 7 = .ok (.if_icmp .le 14, 3) := by decide +kernel
theorem dX7_needRange_10 : decode cX7_needRange 10 = .ok (.new 92, 3) := by decide +kernel
theorem dX7_needRange_13 : decode cX7_needRange 13 = .ok (.dup, 1) := by decide +kernel
theorem dX7_needRange_14 : decode cX7_needRange 14 = .ok (.ldc_w 354, 3) := by decide +kernel
theorem dX7_needRange_17 : decode cX7_needRange 17 = .ok (.invokespecial 96, 3) := by decide +kernel
theorem dX7_needRange_20 : decode cX7_needRange 20 = .ok (.athrow, 1) := by decide +kernel
theorem dX7_needRange_21 : decode cX7_needRange 21 = .ok (.return_, 1) := by decide +kernel
theorem dX7_needGuild_0 : decode cX7_needGuild 0 = .ok (.iload_n 1, 1) := by decide +kernel
theorem dX7_needGuild_1 : decode cX7_needGuild 1 = .ok (.ifCond .lt 11, 3) := by decide +kernel
theorem dX7_needGuild_4 : decode cX7_needGuild 4 = .ok (.iload_n 1, 1) := by decide +kernel
theorem dX7_needGuild_5 : decode cX7_needGuild 5 = .ok (.aload_n 0, 1) := by decide +kernel
theorem dX7_needGuild_6 : decode cX7_needGuild 6 = .ok (.getfield 61, 3) := by decide +kernel
theorem dX7_needGuild_9 : decode cX7_needGuild 9 = .ok (.if_icmp .lt 14, 3) := by decide +kernel
theorem dX7_needGuild_12 : decode cX7_needGuild 12 = .ok (.new 158, 3) := by decide +kernel
theorem dX7_needGuild_15 : decode cX7_needGuild 15 = .ok (.dup, 1) := by decide +kernel
theorem dX7_needGuild_16 : decode cX7_needGuild 16 = .ok (.ldc_w 356, 3) := by decide +kernel
theorem dX7_needGuild_19 : decode cX7_needGuild 19 = .ok (.invokespecial 162, 3) := by decide +kernel
theorem dX7_needGuild_22 : decode cX7_needGuild 22 = .ok (.athrow, 1) := by decide +kernel
theorem dX7_needGuild_23 : decode cX7_needGuild 23 = .ok (.return_, 1) := by decide +kernel
theorem dX7_needNotOver_0 : decode cX7_needNotOver 0 = .ok (.aload_n 0, 1) := by decide +kernel
theorem dX7_needNotOver_1 : decode cX7_needNotOver 1 = .ok (.getfield 11, 3) := by decide +kernel
theorem dX7_needNotOver_4 : decode cX7_needNotOver 4 = .ok (.iload_n 1, 1) := by decide +kernel
theorem dX7_needNotOver_5 : decode cX7_needNotOver 5 = .ok (.aaload, 1) := by decide +kernel
theorem dX7_needNotOver_6 : decode cX7_needNotOver 6 = .ok (.getfield 100, 3) := by decide +kernel
theorem dX7_needNotOver_9 : decode cX7_needNotOver 9 = .ok (.ifCond .eq 14, 3) := by decide +kernel
theorem dX7_needNotOver_12 : decode cX7_needNotOver 12 = .ok (.new 172, 3) := by decide +kernel
theorem dX7_needNotOver_15 : decode cX7_needNotOver 15 = .ok (.dup, 1) := by decide +kernel
theorem dX7_needNotOver_16 : decode cX7_needNotOver 16 = .ok (.ldc_w 358, 3) := by decide +kernel
theorem dX7_needNotOver_19 : decode cX7_needNotOver 19 = .ok (.invokespecial 176, 3) := by decide +kernel
theorem dX7_needNotOver_22 : decode cX7_needNotOver 22 = .ok (.athrow, 1) := by decide +kernel
theorem dX7_needNotOver_23 : decode cX7_needNotOver 23 = .ok (.return_, 1) := by decide +kernel
theorem dX7_needStations_0 : decode cX7_needStations 0 = .ok (.aload_n 0, 1) := by decide +kernel
theorem dX7_needStations_1 : decode cX7_needStations 1 = .ok (.getfield 22, 3) := by decide +kernel
theorem dX7_needStations_4 : decode cX7_needStations 4 = .ok (.getfield 181, 3) := by decide +kernel
theorem dX7_needStations_7 : decode cX7_needStations 7 = .ok (.ifCond .ne 14, 3) := by decide +kernel
theorem dX7_needStations_10 : decode cX7_needStations 10 = .ok (.new 65, 3) := by decide +kernel
theorem dX7_needStations_13 : decode cX7_needStations 13 = .ok (.dup, 1) := by decide +kernel
theorem dX7_needStations_14 : decode cX7_needStations 14 = .ok (.ldc_w 362, 3) := by decide +kernel
theorem dX7_needStations_17 : decode cX7_needStations 17 = .ok (.invokespecial 69, 3) := by decide +kernel
theorem dX7_needStations_20 : decode cX7_needStations 20 = .ok (.athrow, 1) := by decide +kernel
theorem dX7_needStations_21 : decode cX7_needStations 21 = .ok (.return_, 1) := by decide +kernel
theorem dX7_needDayPlayed_0 : decode cX7_needDayPlayed 0 = .ok (.aload_n 0, 1) := by decide +kernel
theorem dX7_needDayPlayed_1 : decode cX7_needDayPlayed 1 = .ok (.getfield 225, 3) := by decide +kernel
theorem dX7_needDayPlayed_4 : decode cX7_needDayPlayed 4 = .ok (.ifCond .ne 14, 3) := by decide +kernel
theorem dX7_needDayPlayed_7 : decode cX7_needDayPlayed 7 = .ok (.new 65, 3) := by decide +kernel
theorem dX7_needDayPlayed_10 : decode cX7_needDayPlayed 10 = .ok (.dup, 1) := by decide +kernel
theorem dX7_needDayPlayed_11 : decode cX7_needDayPlayed 11 = .ok (.ldc_w 364, 3) := by decide +kernel
theorem dX7_needDayPlayed_14 : decode cX7_needDayPlayed 14 = .ok (.invokespecial 69, 3) := by decide +kernel
theorem dX7_needDayPlayed_17 : decode cX7_needDayPlayed 17 = .ok (.athrow, 1) := by decide +kernel
theorem dX7_needDayPlayed_18 : decode cX7_needDayPlayed 18 = .ok (.return_, 1) := by decide +kernel
theorem dX7_typedSubject_0 : decode cX7_typedSubject 0 = .ok (.aload_n 0, 1) := by decide +kernel
theorem dX7_typedSubject_1 : decode cX7_typedSubject 1 = .ok (.getfield 29, 3) := by decide +kernel
theorem dX7_typedSubject_4 : decode cX7_typedSubject 4 = .ok (.invokevirtual 371, 3) := by decide +kernel
theorem dX7_typedSubject_7 : decode cX7_typedSubject 7 = .ok (.istore_n 1, 1) := by decide +kernel
theorem dX7_typedSubject_8 : decode cX7_typedSubject 8 = .ok (.iload_n 1, 1) := by decide +kernel
theorem dX7_typedSubject_9 : decode cX7_typedSubject 9 = .ok (.iconst (-1), 1) := by decide +kernel
theorem dX7_typedSubject_10 : decode cX7_typedSubject 10 = .ok (.if_icmp .ne 14, 3) := by decide +kernel
theorem dX7_typedSubject_13 : decode cX7_typedSubject 13 = .ok (.new 172, 3) := by decide +kernel
theorem dX7_typedSubject_16 : decode cX7_typedSubject 16 = .ok (.dup, 1) := by decide +kernel
theorem dX7_typedSubject_17 : decode cX7_typedSubject 17 = .ok (.ldc_w 374, 3) := by decide +kernel
theorem dX7_typedSubject_20 : decode cX7_typedSubject 20 = .ok (.invokespecial 176, 3) := by decide +kernel
theorem dX7_typedSubject_23 : decode cX7_typedSubject 23 = .ok (.athrow, 1) := by decide +kernel
theorem dX7_typedSubject_24 : decode cX7_typedSubject 24 = .ok (.iload_n 1, 1) := by decide +kernel
theorem dX7_typedSubject_25 : decode cX7_typedSubject 25 = .ok (.ireturn, 1) := by decide +kernel
theorem dX7_placeOf_0 : decode cX7_placeOf 0 = .ok (.iconst 0, 1) := by decide +kernel
theorem dX7_placeOf_1 : decode cX7_placeOf 1 = .ok (.istore_n 2, 1) := by decide +kernel
theorem dX7_placeOf_2 : decode cX7_placeOf 2 = .ok (.iload_n 2, 1) := by decide +kernel
theorem dX7_placeOf_3 : decode cX7_placeOf 3 = .ok (.aload_n 0, 1) := by decide +kernel
theorem dX7_placeOf_4 : decode cX7_placeOf 4 = .ok (.getfield 61, 3) := by decide +kernel
theorem dX7_placeOf_7 : decode cX7_placeOf 7 = .ok (.iconst 1, 1) := by decide +kernel
theorem dX7_placeOf_8 : decode cX7_placeOf 8 = .ok (.isub, 1) := by decide +kernel
theorem dX7_placeOf_9 : decode cX7_placeOf 9 = .ok (.if_icmp .ge 19, 3) := by decide +kernel
theorem dX7_placeOf_12 : decode cX7_placeOf 12 = .ok (.aload_n 0, 1) := by decide +kernel
theorem dX7_placeOf_13 : decode cX7_placeOf 13 = .ok (.getfield 15, 3) := by decide +kernel
theorem dX7_placeOf_16 : decode cX7_placeOf 16 = .ok (.iload_n 2, 1) := by decide +kernel
theorem dX7_placeOf_17 : decode cX7_placeOf 17 = .ok (.iaload, 1) := by decide +kernel
theorem dX7_placeOf_18 : decode cX7_placeOf 18 = .ok (.iload_n 1, 1) := by decide +kernel
theorem dX7_placeOf_19 : decode cX7_placeOf 19 = .ok (.if_icmp .eq 9, 3) := by decide +kernel
theorem dX7_placeOf_22 : decode cX7_placeOf 22 = .ok (.iinc 2 1, 3) := by decide +kernel
theorem dX7_placeOf_25 : decode cX7_placeOf 25 = .ok (.goto (-23), 3) := by decide +kernel
theorem dX7_placeOf_28 : decode cX7_placeOf 28 = .ok (.iload_n 2, 1) := by decide +kernel
theorem dX7_placeOf_29 : decode cX7_placeOf 29 = .ok (.ireturn, 1) := by decide +kernel
theorem dX7_charge_0 : decode cX7_charge 0 = .ok (.aload_n 1, 1) := by decide +kernel
theorem dX7_charge_1 : decode cX7_charge 1 = .ok (.dup, 1) := by decide +kernel
theorem dX7_charge_2 : decode cX7_charge 2 = .ok (.getfield 72, 3) := by decide +kernel
theorem dX7_charge_5 : decode cX7_charge 5 = .ok (.iload_n 2, 1) := by decide +kernel
theorem dX7_charge_6 : decode cX7_charge 6 = .ok (.isub, 1) := by decide +kernel
theorem dX7_charge_7 : decode cX7_charge 7 = .ok (.putfield 72, 3) := by decide +kernel
theorem dX7_charge_10 : decode cX7_charge 10 = .ok (.aload_n 0, 1) := by decide +kernel
theorem dX7_charge_11 : decode cX7_charge 11 = .ok (.dup, 1) := by decide +kernel
theorem dX7_charge_12 : decode cX7_charge 12 = .ok (.getfield 316, 3) := by decide +kernel
theorem dX7_charge_15 : decode cX7_charge 15 = .ok (.iload_n 2, 1) := by decide +kernel
theorem dX7_charge_16 : decode cX7_charge 16 = .ok (.iadd, 1) := by decide +kernel
theorem dX7_charge_17 : decode cX7_charge 17 = .ok (.putfield 316, 3) := by decide +kernel
theorem dX7_charge_20 : decode cX7_charge 20 = .ok (.return_, 1) := by decide +kernel
theorem dX7_isMoneySound_0 : decode cX7_isMoneySound 0 = .ok (.aload_n 0, 1) := by decide +kernel
theorem dX7_isMoneySound_1 : decode cX7_isMoneySound 1 = .ok (.getfield 85, 3) := by decide +kernel
theorem dX7_isMoneySound_4 : decode cX7_isMoneySound 4 = .ok (.istore_n 1, 1) := by decide +kernel
theorem dX7_isMoneySound_5 : decode cX7_isMoneySound 5 = .ok (.iconst 0, 1) := by decide +kernel
theorem dX7_isMoneySound_6 : decode cX7_isMoneySound 6 = .ok (.istore_n 2, 1) := by decide +kernel
theorem dX7_isMoneySound_7 : decode cX7_isMoneySound 7 = .ok (.iload_n 2, 1) := by decide +kernel
theorem dX7_isMoneySound_8 : decode cX7_isMoneySound 8 = .ok (.aload_n 0, 1) := by decide +kernel
theorem dX7_isMoneySound_9 : decode cX7_isMoneySound 9 = .ok (.getfield 61, 3) := by decide +kernel
theorem dX7_isMoneySound_12 : decode cX7_isMoneySound 12 = .ok (.if_icmp .ge 21, 3) := by decide +kernel
theorem dX7_isMoneySound_15 : decode cX7_isMoneySound 15 = .ok (.iload_n 1, 1) := by decide +kernel
theorem dX7_isMoneySound_16 : decode cX7_isMoneySound 16 = .ok (.aload_n 0, 1) := by decide +kernel
theorem dX7_isMoneySound_17 : decode cX7_isMoneySound 17 = .ok (.getfield 11, 3) := by decide +kernel
theorem dX7_isMoneySound_20 : decode cX7_isMoneySound 20 = .ok (.iload_n 2, 1) := by decide +kernel
theorem dX7_isMoneySound_21 : decode cX7_isMoneySound 21 = .ok (.aaload, 1) := by decide +kernel
theorem dX7_isMoneySound_22 : decode cX7_isMoneySound 22 = .ok (.getfield 72, 3) := by decide +kernel
theorem dX7_isMoneySound_25 : decode cX7_isMoneySound 25 = .ok (.isub, 1) := by decide +kernel
theorem dX7_isMoneySound_26 : decode cX7_isMoneySound 26 = .ok (.istore_n 1, 1) := by decide +kernel
theorem dX7_isMoneySound_27 : decode cX7_isMoneySound 27 = .ok (.iinc 2 1, 3) := by decide +kernel
theorem dX7_isMoneySound_30 : decode cX7_isMoneySound 30 = .ok (.goto (-23), 3) := by decide +kernel
theorem dX7_isMoneySound_33 : decode cX7_isMoneySound 33 = .ok (.iconst 0, 1) := by decide +kernel
theorem dX7_isMoneySound_34 : decode cX7_isMoneySound 34 = .ok (.istore_n 2, 1) := by decide +kernel
theorem dX7_isMoneySound_35 : decode cX7_isMoneySound 35 = .ok (.iload_n 2, 1) := by decide +kernel
theorem dX7_isMoneySound_36 : decode cX7_isMoneySound 36 = .ok (.bipush 10, 2) := by decide +kernel
theorem dX7_isMoneySound_38 : decode cX7_isMoneySound 38 = .ok (.if_icmp .ge 18, 3) := by decide +kernel
theorem dX7_isMoneySound_41 : decode cX7_isMoneySound 41 = .ok (.iload_n 1, 1) := by decide +kernel
theorem dX7_isMoneySound_42 : decode cX7_isMoneySound 42 = .ok (.aload_n 0, 1) := by decide +kernel
theorem dX7_isMoneySound_43 : decode cX7_isMoneySound 43 = .ok (.getfield 37, 3) := by decide +kernel
theorem dX7_isMoneySound_46 : decode cX7_isMoneySound 46 = .ok (.iload_n 2, 1) := by decide +kernel
theorem dX7_isMoneySound_47 : decode cX7_isMoneySound 47 = .ok (.iaload, 1) := by decide +kernel
theorem dX7_isMoneySound_48 : decode cX7_isMoneySound 48 = .ok (.iadd, 1) := by decide +kernel
theorem dX7_isMoneySound_49 : decode cX7_isMoneySound 49 = .ok (.istore_n 1, 1) := by decide +kernel
theorem dX7_isMoneySound_50 : decode cX7_isMoneySound 50 = .ok (.iinc 2 1, 3) := by decide +kernel
theorem dX7_isMoneySound_53 : decode cX7_isMoneySound 53 = .ok (.goto (-18), 3) := by decide +kernel
theorem dX7_isMoneySound_56 : decode cX7_isMoneySound 56 = .ok (.iload_n 1, 1) := by decide +kernel
theorem dX7_isMoneySound_57 : decode cX7_isMoneySound 57 = .ok (.aload_n 0, 1) := by decide +kernel
theorem dX7_isMoneySound_58 : decode cX7_isMoneySound 58 = .ok (.getfield 316, 3) := by decide +kernel
theorem dX7_isMoneySound_61 : decode cX7_isMoneySound 61 = .ok (.if_icmp .ne 7, 3) := by decide +kernel
theorem dX7_isMoneySound_64 : decode cX7_isMoneySound 64 = .ok (.iconst 1, 1) := by decide +kernel
theorem dX7_isMoneySound_65 : decode cX7_isMoneySound 65 = .ok (.goto 4, 3) := by decide +kernel
theorem dX7_isMoneySound_68 : decode cX7_isMoneySound 68 = .ok (.iconst 0, 1) := by decide +kernel
theorem dX7_isMoneySound_69 : decode cX7_isMoneySound 69 = .ok (.ireturn, 1) := by decide +kernel
theorem dX7_isOrderSound_0 : decode cX7_isOrderSound 0 = .ok (.iconst 0, 1) := by decide +kernel
theorem dX7_isOrderSound_1 : decode cX7_isOrderSound 1 = .ok (.istore_n 1, 1) := by decide +kernel
theorem dX7_isOrderSound_2 : decode cX7_isOrderSound 2 = .ok (.iconst 0, 1) := by decide +kernel
theorem dX7_isOrderSound_3 : decode cX7_isOrderSound 3 = .ok (.istore_n 2, 1) := by decide +kernel
theorem dX7_isOrderSound_4 : decode cX7_isOrderSound 4 = .ok (.iload_n 2, 1) := by decide +kernel
theorem dX7_isOrderSound_5 : decode cX7_isOrderSound 5 = .ok (.aload_n 0, 1) := by decide +kernel
theorem dX7_isOrderSound_6 : decode cX7_isOrderSound 6 = .ok (.getfield 61, 3) := by decide +kernel
theorem dX7_isOrderSound_9 : decode cX7_isOrderSound 9 = .ok (.if_icmp .ge 20, 3) := by decide +kernel
theorem dX7_isOrderSound_12 : decode cX7_isOrderSound 12 = .ok (.iload_n 1, 1) := by decide +kernel
theorem dX7_isOrderSound_13 : decode cX7_isOrderSound 13 = .ok (.iconst 1, 1) := by decide +kernel
theorem dX7_isOrderSound_14 : decode cX7_isOrderSound 14 = .ok (.aload_n 0, 1) := by decide +kernel
theorem dX7_isOrderSound_15 : decode cX7_isOrderSound 15 = .ok (.getfield 15, 3) := by decide +kernel
theorem dX7_isOrderSound_18 : decode cX7_isOrderSound 18 = .ok (.iload_n 2, 1) := by decide +kernel
theorem dX7_isOrderSound_19 : decode cX7_isOrderSound 19 = .ok (.iaload, 1) := by decide +kernel
theorem dX7_isOrderSound_20 : decode cX7_isOrderSound 20 = .ok (.ishl, 1) := by decide +kernel
theorem dX7_isOrderSound_21 : decode cX7_isOrderSound 21 = .ok (.ior, 1) := by decide +kernel
theorem dX7_isOrderSound_22 : decode cX7_isOrderSound 22 = .ok (.istore_n 1, 1) := by decide +kernel
theorem dX7_isOrderSound_23 : decode cX7_isOrderSound 23 = .ok (.iinc 2 1, 3) := by decide +kernel
theorem dX7_isOrderSound_26 : decode cX7_isOrderSound 26 = .ok (.goto (-22), 3) := by decide +kernel
theorem dX7_isOrderSound_29 : decode cX7_isOrderSound 29 = .ok (.iload_n 1, 1) := by decide +kernel
theorem dX7_isOrderSound_30 : decode cX7_isOrderSound 30 = .ok (.iconst 1, 1) := by decide +kernel
theorem dX7_isOrderSound_31 : decode cX7_isOrderSound 31 = .ok (.aload_n 0, 1) := by decide +kernel
theorem dX7_isOrderSound_32 : decode cX7_isOrderSound 32 = .ok (.getfield 61, 3) := by decide +kernel
theorem dX7_isOrderSound_35 : decode cX7_isOrderSound 35 = .ok (.ishl, 1) := by decide +kernel
theorem dX7_isOrderSound_36 : decode cX7_isOrderSound 36 = .ok (.iconst 1, 1) := by decide +kernel
theorem dX7_isOrderSound_37 : decode cX7_isOrderSound 37 = .ok (.isub, 1) := by decide +kernel
theorem dX7_isOrderSound_38 : decode cX7_isOrderSound 38 = .ok (.if_icmp .ne 7, 3) := by decide +kernel
theorem dX7_isOrderSound_41 : decode cX7_isOrderSound 41 = .ok (.iconst 1, 1) := by decide +kernel
theorem dX7_isOrderSound_42 : decode cX7_isOrderSound 42 = .ok (.goto 4, 3) := by decide +kernel
theorem dX7_isOrderSound_45 : decode cX7_isOrderSound 45 = .ok (.iconst 0, 1) := by decide +kernel
theorem dX7_isOrderSound_46 : decode cX7_isOrderSound 46 = .ok (.ireturn, 1) := by decide +kernel
theorem dJ9_floorDiv_7cf53_0 : decode cJ9_floorDiv_7cf53 0 = .ok (.iload_n 0, 1) := by decide +kernel
theorem dJ9_floorDiv_7cf53_1 : decode cJ9_floorDiv_7cf53 1 = .ok (.iload_n 1, 1) := by decide +kernel
theorem dJ9_floorDiv_7cf53_2 : decode cJ9_floorDiv_7cf53 2 = .ok (.idiv, 1) := by decide +kernel
theorem dJ9_floorDiv_7cf53_3 : decode cJ9_floorDiv_7cf53 3 = .ok (.istore_n 2, 1) := by decide +kernel
theorem dJ9_floorDiv_7cf53_4 : decode cJ9_floorDiv_7cf53 4 = .ok (.iload_n 0, 1) := by decide +kernel
theorem dJ9_floorDiv_7cf53_5 : decode cJ9_floorDiv_7cf53 5 = .ok (.iload_n 1, 1) := by decide +kernel
theorem dJ9_floorDiv_7cf53_6 : decode cJ9_floorDiv_7cf53 6 = .ok (.ixor, 1) := by decide +kernel
theorem dJ9_floorDiv_7cf53_7 : decode cJ9_floorDiv_7cf53 7 = .ok (.ifCond .ge 14, 3) := by decide +kernel
theorem dJ9_floorDiv_7cf53_10 : decode cJ9_floorDiv_7cf53 10 = .ok (.iload_n 2, 1) := by decide +kernel
theorem dJ9_floorDiv_7cf53_11 : decode cJ9_floorDiv_7cf53 11 = .ok (.iload_n 1, 1) := by decide +kernel
theorem dJ9_floorDiv_7cf53_12 : decode cJ9_floorDiv_7cf53 12 = .ok (.imul, 1) := by decide +kernel
theorem dJ9_floorDiv_7cf53_13 : decode cJ9_floorDiv_7cf53 13 = .ok (.iload_n 0, 1) := by decide +kernel
theorem dJ9_floorDiv_7cf53_14 : decode cJ9_floorDiv_7cf53 14 = .ok (.if_icmp .eq 7, 3) := by decide +kernel
theorem dJ9_floorDiv_7cf53_17 : decode cJ9_floorDiv_7cf53 17 = .ok (.iload_n 2, 1) := by decide +kernel
theorem dJ9_floorDiv_7cf53_18 : decode cJ9_floorDiv_7cf53 18 = .ok (.iconst 1, 1) := by decide +kernel
theorem dJ9_floorDiv_7cf53_19 : decode cJ9_floorDiv_7cf53 19 = .ok (.isub, 1) := by decide +kernel
theorem dJ9_floorDiv_7cf53_20 : decode cJ9_floorDiv_7cf53 20 = .ok (.ireturn, 1) := by decide +kernel
theorem dJ9_floorDiv_7cf53_21 : decode cJ9_floorDiv_7cf53 21 = .ok (.iload_n 2, 1) := by decide +kernel
theorem dJ9_floorDiv_7cf53_22 : decode cJ9_floorDiv_7cf53 22 = .ok (.ireturn, 1) := by decide +kernel
theorem dJ9_floorMod_7cf53_0 : decode cJ9_floorMod_7cf53 0 = .ok (.iload_n 0, 1) := by decide +kernel
theorem dJ9_floorMod_7cf53_1 : decode cJ9_floorMod_7cf53 1 = .ok (.iload_n 1, 1) := by decide +kernel
theorem dJ9_floorMod_7cf53_2 : decode cJ9_floorMod_7cf53 2 = .ok (.irem, 1) := by decide +kernel
theorem dJ9_floorMod_7cf53_3 : decode cJ9_floorMod_7cf53 3 = .ok (.istore_n 2, 1) := by decide +kernel
theorem dJ9_floorMod_7cf53_4 : decode cJ9_floorMod_7cf53 4 = .ok (.iload_n 0, 1) := by decide +kernel
theorem dJ9_floorMod_7cf53_5 : decode cJ9_floorMod_7cf53 5 = .ok (.iload_n 1, 1) := by decide +kernel
theorem dJ9_floorMod_7cf53_6 : decode cJ9_floorMod_7cf53 6 = .ok (.ixor, 1) := by decide +kernel
theorem dJ9_floorMod_7cf53_7 : decode cJ9_floorMod_7cf53 7 = .ok (.ifCond .ge 11, 3) := by decide +kernel
theorem dJ9_floorMod_7cf53_10 : decode cJ9_floorMod_7cf53 10 = .ok (.iload_n 2, 1) := by decide +kernel
theorem dJ9_floorMod_7cf53_11 : decode cJ9_floorMod_7cf53 11 = .ok (.ifCond .eq 7, 3) := by decide +kernel
theorem dJ9_floorMod_7cf53_14 : decode cJ9_floorMod_7cf53 14 = .ok (.iload_n 2, 1) := by decide +kernel
theorem dJ9_floorMod_7cf53_15 : decode cJ9_floorMod_7cf53 15 = .ok (.iload_n 1, 1) := by decide +kernel
theorem dJ9_floorMod_7cf53_16 : decode cJ9_floorMod_7cf53 16 = .ok (.iadd, 1) := by decide +kernel
theorem dJ9_floorMod_7cf53_17 : decode cJ9_floorMod_7cf53 17 = .ok (.ireturn, 1) := by decide +kernel
theorem dJ9_floorMod_7cf53_18 : decode cJ9_floorMod_7cf53 18 = .ok (.iload_n 2, 1) := by decide +kernel
theorem dJ9_floorMod_7cf53_19 : decode cJ9_floorMod_7cf53 19 = .ok (.ireturn, 1) := by decide +kernel
theorem dJ9_max_7cf53_0 : decode cJ9_max_7cf53 0 = .ok (.iload_n 0, 1) := by decide +kernel
theorem dJ9_max_7cf53_1 : decode cJ9_max_7cf53 1 = .ok (.iload_n 1, 1) := by decide +kernel
theorem dJ9_max_7cf53_2 : decode cJ9_max_7cf53 2 = .ok (.if_icmp .lt 7, 3) := by decide +kernel
theorem dJ9_max_7cf53_5 : decode cJ9_max_7cf53 5 = .ok (.iload_n 0, 1) := by decide +kernel
theorem dJ9_max_7cf53_6 : decode cJ9_max_7cf53 6 = .ok (.goto 4, 3) := by decide +kernel
theorem dJ9_max_7cf53_9 : decode cJ9_max_7cf53 9 = .ok (.iload_n 1, 1) := by decide +kernel
theorem dJ9_max_7cf53_10 : decode cJ9_max_7cf53 10 = .ok (.ireturn, 1) := by decide +kernel
theorem dJ9_min_7cf53_0 : decode cJ9_min_7cf53 0 = .ok (.iload_n 0, 1) := by decide +kernel
theorem dJ9_min_7cf53_1 : decode cJ9_min_7cf53 1 = .ok (.iload_n 1, 1) := by decide +kernel
theorem dJ9_min_7cf53_2 : decode cJ9_min_7cf53 2 = .ok (.if_icmp .gt 7, 3) := by decide +kernel
theorem dJ9_min_7cf53_5 : decode cJ9_min_7cf53 5 = .ok (.iload_n 0, 1) := by decide +kernel
theorem dJ9_min_7cf53_6 : decode cJ9_min_7cf53 6 = .ok (.goto 4, 3) := by decide +kernel
theorem dJ9_min_7cf53_9 : decode cJ9_min_7cf53 9 = .ok (.iload_n 1, 1) := by decide +kernel
theorem dJ9_min_7cf53_10 : decode cJ9_min_7cf53 10 = .ok (.ireturn, 1) := by decide +kernel
theorem dJ0_length_8abf5_0 : decode cJ0_length_8abf5 0 = .ok (.aload_n 0, 1) := by decide +kernel
theorem dJ0_length_8abf5_1 : decode cJ0_length_8abf5 1 = .ok (.getfield 9, 3) := by decide +kernel
theorem dJ0_length_8abf5_4 : decode cJ0_length_8abf5 4 = .ok (.arraylength, 1) := by decide +kernel
theorem dJ0_length_8abf5_5 : decode cJ0_length_8abf5 5 = .ok (.aload_n 0, 1) := by decide +kernel
theorem dJ0_length_8abf5_6 : decode cJ0_length_8abf5 6 = .ok (.invokevirtual 335, 3) := by decide +kernel
theorem dJ0_length_8abf5_9 : decode cJ0_length_8abf5 9 = .ok (.ishr, 1) := by decide +kernel
theorem dJ0_length_8abf5_10 : decode cJ0_length_8abf5 10 = .ok (.ireturn, 1) := by decide +kernel
theorem dJ0_charAt_5068e_0 : decode cJ0_charAt_5068e 0 = .ok (.aload_n 0, 1) := by decide +kernel
theorem dJ0_charAt_5068e_1 : decode cJ0_charAt_5068e 1 = .ok (.invokevirtual 492, 3) := by decide +kernel
theorem dJ0_charAt_5068e_4 : decode cJ0_charAt_5068e 4 = .ok (.ifCond .eq 12, 3) := by decide +kernel
theorem dJ0_charAt_5068e_7 : decode cJ0_charAt_5068e 7 = .ok (.aload_n 0, 1) := by decide +kernel
theorem dJ0_charAt_5068e_8 : decode cJ0_charAt_5068e 8 = .ok (.getfield 9, 3) := by decide +kernel
theorem dJ0_charAt_5068e_11 : decode cJ0_charAt_5068e 11 = .ok (.iload_n 1, 1) := by decide +kernel
theorem dJ0_charAt_5068e_12 : decode cJ0_charAt_5068e 12 = .ok (.invokestatic 495, 3) := by decide +kernel
theorem dJ0_charAt_5068e_15 : decode cJ0_charAt_5068e 15 = .ok (.ireturn, 1) := by decide +kernel
theorem dJ0_charAt_5068e_16 : decode cJ0_charAt_5068e 16 = .ok (.aload_n 0, 1) := by decide +kernel
theorem dJ0_charAt_5068e_17 : decode cJ0_charAt_5068e 17 = .ok (.getfield 9, 3) := by decide +kernel
theorem dJ0_charAt_5068e_20 : decode cJ0_charAt_5068e 20 = .ok (.iload_n 1, 1) := by decide +kernel
theorem dJ0_charAt_5068e_21 : decode cJ0_charAt_5068e 21 = .ok (.invokestatic 498, 3) := by decide +kernel
theorem dJ0_charAt_5068e_24 : decode cJ0_charAt_5068e 24 = .ok (.ireturn, 1) := by decide +kernel
theorem dJ0_coder_7d493_0 : decode cJ0_coder_7d493 0 = .ok (.getstatic 38, 3) := by decide +kernel
theorem dJ0_coder_7d493_3 : decode cJ0_coder_7d493 3 = .ok (.ifCond .eq 10, 3) := by decide +kernel
theorem dJ0_coder_7d493_6 : decode cJ0_coder_7d493 6 = .ok (.aload_n 0, 1) := by decide +kernel
theorem dJ0_coder_7d493_7 : decode cJ0_coder_7d493 7 = .ok (.getfield 15, 3) := by decide +kernel
theorem dJ0_coder_7d493_10 : decode cJ0_coder_7d493 10 = .ok (.goto 4, 3) := by decide +kernel
theorem dJ0_coder_7d493_13 : decode cJ0_coder_7d493 13 = .ok (.iconst 1, 1) := by decide +kernel
theorem dJ0_coder_7d493_14 : decode cJ0_coder_7d493 14 = .ok (.ireturn, 1) := by decide +kernel
theorem dJ0_isLatin1_aae02_0 : decode cJ0_isLatin1_aae02 0 = .ok (.getstatic 38, 3) := by decide +kernel
theorem dJ0_isLatin1_aae02_3 : decode cJ0_isLatin1_aae02 3 = .ok (.ifCond .eq 14, 3) := by decide +kernel
theorem dJ0_isLatin1_aae02_6 : decode cJ0_isLatin1_aae02 6 = .ok (.aload_n 0, 1) := by decide +kernel
theorem dJ0_isLatin1_aae02_7 : decode cJ0_isLatin1_aae02 7 = .ok (.getfield 15, 3) := by decide +kernel
theorem dJ0_isLatin1_aae02_10 : decode cJ0_isLatin1_aae02 10 = .ok (.ifCond .ne 7, 3) := by decide +kernel
theorem dJ0_isLatin1_aae02_13 : decode cJ0_isLatin1_aae02 13 = .ok (.iconst 1, 1) := by decide +kernel
theorem dJ0_isLatin1_aae02_14 : decode cJ0_isLatin1_aae02 14 = .ok (.goto 4, 3) := by decide +kernel
theorem dJ0_isLatin1_aae02_17 : decode cJ0_isLatin1_aae02 17 = .ok (.iconst 0, 1) := by decide +kernel
theorem dJ0_isLatin1_aae02_18 : decode cJ0_isLatin1_aae02 18 = .ok (.ireturn, 1) := by decide +kernel
theorem dJ0_checkIndex_df160_0 : decode cJ0_checkIndex_df160 0 = .ok (.iload_n 0, 1) := by decide +kernel
theorem dJ0_checkIndex_df160_1 : decode cJ0_checkIndex_df160 1 = .ok (.iload_n 1, 1) := by decide +kernel
theorem dJ0_checkIndex_df160_2 : decode cJ0_checkIndex_df160 2 = .ok (.getstatic 1053, 3) := by decide +kernel
theorem dJ0_checkIndex_df160_5 : decode cJ0_checkIndex_df160 5 = .ok (.invokestatic 1059, 3) := by decide +kernel
theorem dJ0_checkIndex_df160_8 : decode cJ0_checkIndex_df160 8 = .ok (.pop, 1) := by decide +kernel
theorem dJ0_checkIndex_df160_9 : decode cJ0_checkIndex_df160 9 = .ok (.return_, 1) := by decide +kernel
theorem dJ1_charAt_3b067_0 : decode cJ1_charAt_3b067 0 = .ok (.iload_n 1, 1) := by decide +kernel
theorem dJ1_charAt_3b067_1 : decode cJ1_charAt_3b067 1 = .ok (.aload_n 0, 1) := by decide +kernel
theorem dJ1_charAt_3b067_2 : decode cJ1_charAt_3b067 2 = .ok (.arraylength, 1) := by decide +kernel
theorem dJ1_charAt_3b067_3 : decode cJ1_charAt_3b067 3 = .ok (.invokestatic 9, 3) := by decide +kernel
theorem dJ1_charAt_3b067_6 : decode cJ1_charAt_3b067 6 = .ok (.aload_n 0, 1) := by decide +kernel
theorem dJ1_charAt_3b067_7 : decode cJ1_charAt_3b067 7 = .ok (.iload_n 1, 1) := by decide +kernel
theorem dJ1_charAt_3b067_8 : decode cJ1_charAt_3b067 8 = .ok (.baload, 1) := by decide +kernel
theorem dJ1_charAt_3b067_9 : decode cJ1_charAt_3b067 9 = .ok (.sipush 255, 3) := by decide +kernel
theorem dJ1_charAt_3b067_12 : decode cJ1_charAt_3b067 12 = .ok (.iand, 1) := by decide +kernel
theorem dJ1_charAt_3b067_13 : decode cJ1_charAt_3b067 13 = .ok (.i2c, 1) := by decide +kernel
theorem dJ1_charAt_3b067_14 : decode cJ1_charAt_3b067 14 = .ok (.ireturn, 1) := by decide +kernel
theorem dJ2_getChar_3b067_0 : decode cJ2_getChar_3b067 0 = .ok (.getstatic 44, 3) := by decide +kernel
theorem dJ2_getChar_3b067_3 : decode cJ2_getChar_3b067 3 = .ok (.ifCond .ne 25, 3) := by decide +kernel
theorem dJ2_getChar_3b067_6 : decode cJ2_getChar_3b067 6 = .ok (.iload_n 1, 1) := by decide +kernel
theorem dJ2_getChar_3b067_7 : decode cJ2_getChar_3b067 7 = .ok (.ifCond .lt 11, 3) := by decide +kernel
theorem dJ2_getChar_3b067_10 : decode cJ2_getChar_3b067 10 = .ok (.iload_n 1, 1) := by decide +kernel
theorem dJ2_getChar_3b067_11 : decode cJ2_getChar_3b067 11 = .ok (.aload_n 0, 1) := by decide +kernel
theorem dJ2_getChar_3b067_12 : decode cJ2_getChar_3b067 12 = .ok (.invokestatic 48, 3) := by decide +kernel
theorem dJ2_getChar_3b067_15 : decode cJ2_getChar_3b067 15 = .ok (.if_icmp .lt 13, 3) := by decide +kernel
theorem dJ2_getChar_3b067_18 : decode cJ2_getChar_3b067 18 = .ok (.new 52, 3) := by decide +kernel
theorem dJ2_getChar_3b067_21 : decode cJ2_getChar_3b067 21 = .ok (.dup, 1) := by decide +kernel
theorem dJ2_getChar_3b067_22 : decode cJ2_getChar_3b067 22 = .ok (.ldc 54, 2) := by decide +kernel
theorem dJ2_getChar_3b067_24 : decode cJ2_getChar_3b067 24 = .ok (.invokespecial 56, 3) := by decide +kernel
theorem dJ2_getChar_3b067_27 : decode cJ2_getChar_3b067 27 = .ok (.athrow, 1) := by decide +kernel
theorem dJ2_getChar_3b067_28 : decode cJ2_getChar_3b067 28 = .ok (.iload_n 1, 1) := by decide +kernel
theorem dJ2_getChar_3b067_29 : decode cJ2_getChar_3b067 29 = .ok (.iconst 1, 1) := by decide +kernel
theorem dJ2_getChar_3b067_30 : decode cJ2_getChar_3b067 30 = .ok (.ishl, 1) := by decide +kernel
theorem dJ2_getChar_3b067_31 : decode cJ2_getChar_3b067 31 = .ok (.istore_n 1, 1) := by decide +kernel
theorem dJ2_getChar_3b067_32 : decode cJ2_getChar_3b067 32 = .ok (.aload_n 0, 1) := by decide +kernel
theorem dJ2_getChar_3b067_33 : decode cJ2_getChar_3b067 33 = .ok (.iload_n 1, 1) := by decide +kernel
theorem dJ2_getChar_3b067_34 : decode cJ2_getChar_3b067 34 = .ok (.iinc 1 1, 3) := by decide +kernel
theorem dJ2_getChar_3b067_37 : decode cJ2_getChar_3b067 37 = .ok (.baload, 1) := by decide +kernel
theorem dJ2_getChar_3b067_38 : decode cJ2_getChar_3b067 38 = .ok (.sipush 255, 3) := by decide +kernel
theorem dJ2_getChar_3b067_41 : decode cJ2_getChar_3b067 41 = .ok (.iand, 1) := by decide +kernel
theorem dJ2_getChar_3b067_42 : decode cJ2_getChar_3b067 42 = .ok (.getstatic 59, 3) := by decide +kernel
theorem dJ2_getChar_3b067_45 : decode cJ2_getChar_3b067 45 = .ok (.ishl, 1) := by decide +kernel
theorem dJ2_getChar_3b067_46 : decode cJ2_getChar_3b067 46 = .ok (.aload_n 0, 1) := by decide +kernel
theorem dJ2_getChar_3b067_47 : decode cJ2_getChar_3b067 47 = .ok (.iload_n 1, 1) := by decide +kernel
theorem dJ2_getChar_3b067_48 : decode cJ2_getChar_3b067 48 = .ok (.baload, 1) := by decide +kernel
theorem dJ2_getChar_3b067_49 : decode cJ2_getChar_3b067 49 = .ok (.sipush 255, 3) := by decide +kernel
theorem dJ2_getChar_3b067_52 : decode cJ2_getChar_3b067 52 = .ok (.iand, 1) := by decide +kernel
theorem dJ2_getChar_3b067_53 : decode cJ2_getChar_3b067 53 = .ok (.getstatic 63, 3) := by decide +kernel
theorem dJ2_getChar_3b067_56 : decode cJ2_getChar_3b067 56 = .ok (.ishl, 1) := by decide +kernel
theorem dJ2_getChar_3b067_57 : decode cJ2_getChar_3b067 57 = .ok (.ior, 1) := by decide +kernel
theorem dJ2_getChar_3b067_58 : decode cJ2_getChar_3b067 58 = .ok (.i2c, 1) := by decide +kernel
theorem dJ2_getChar_3b067_59 : decode cJ2_getChar_3b067 59 = .ok (.ireturn, 1) := by decide +kernel
theorem dJ2_length_9d52b_0 : decode cJ2_length_9d52b 0 = .ok (.aload_n 0, 1) := by decide +kernel
theorem dJ2_length_9d52b_1 : decode cJ2_length_9d52b 1 = .ok (.arraylength, 1) := by decide +kernel
theorem dJ2_length_9d52b_2 : decode cJ2_length_9d52b 2 = .ok (.iconst 1, 1) := by decide +kernel
theorem dJ2_length_9d52b_3 : decode cJ2_length_9d52b 3 = .ok (.ishr, 1) := by decide +kernel
theorem dJ2_length_9d52b_4 : decode cJ2_length_9d52b 4 = .ok (.ireturn, 1) := by decide +kernel
theorem dJ2_charAt_3b067_0 : decode cJ2_charAt_3b067 0 = .ok (.iload_n 1, 1) := by decide +kernel
theorem dJ2_charAt_3b067_1 : decode cJ2_charAt_3b067 1 = .ok (.aload_n 0, 1) := by decide +kernel
theorem dJ2_charAt_3b067_2 : decode cJ2_charAt_3b067 2 = .ok (.invokestatic 67, 3) := by decide +kernel
theorem dJ2_charAt_3b067_5 : decode cJ2_charAt_3b067 5 = .ok (.aload_n 0, 1) := by decide +kernel
theorem dJ2_charAt_3b067_6 : decode cJ2_charAt_3b067 6 = .ok (.iload_n 1, 1) := by decide +kernel
theorem dJ2_charAt_3b067_7 : decode cJ2_charAt_3b067 7 = .ok (.invokestatic 71, 3) := by decide +kernel
theorem dJ2_charAt_3b067_10 : decode cJ2_charAt_3b067 10 = .ok (.ireturn, 1) := by decide +kernel
theorem dJ2_checkIndex_2214a_0 : decode cJ2_checkIndex_2214a 0 = .ok (.iload_n 0, 1) := by decide +kernel
theorem dJ2_checkIndex_2214a_1 : decode cJ2_checkIndex_2214a 1 = .ok (.aload_n 1, 1) := by decide +kernel
theorem dJ2_checkIndex_2214a_2 : decode cJ2_checkIndex_2214a 2 = .ok (.invokestatic 48, 3) := by decide +kernel
theorem dJ2_checkIndex_2214a_5 : decode cJ2_checkIndex_2214a 5 = .ok (.invokestatic 414, 3) := by decide +kernel
theorem dJ2_checkIndex_2214a_8 : decode cJ2_checkIndex_2214a 8 = .ok (.return_, 1) := by decide +kernel
theorem dJ3_checkIndex_8e157_0 : decode cJ3_checkIndex_8e157 0 = .ok (.iload_n 0, 1) := by decide +kernel
theorem dJ3_checkIndex_8e157_1 : decode cJ3_checkIndex_8e157 1 = .ok (.ifCond .lt 8, 3) := by decide +kernel
theorem dJ3_checkIndex_8e157_4 : decode cJ3_checkIndex_8e157 4 = .ok (.iload_n 0, 1) := by decide +kernel
theorem dJ3_checkIndex_8e157_5 : decode cJ3_checkIndex_8e157 5 = .ok (.iload_n 1, 1) := by decide +kernel
theorem dJ3_checkIndex_8e157_6 : decode cJ3_checkIndex_8e157 6 = .ok (.if_icmp .lt 10, 3) := by decide +kernel
theorem dJ3_checkIndex_8e157_9 : decode cJ3_checkIndex_8e157 9 = .ok (.aload_n 2, 1) := by decide +kernel
theorem dJ3_checkIndex_8e157_10 : decode cJ3_checkIndex_8e157 10 = .ok (.iload_n 0, 1) := by decide +kernel
theorem dJ3_checkIndex_8e157_11 : decode cJ3_checkIndex_8e157 11 = .ok (.iload_n 1, 1) := by decide +kernel
theorem dJ3_checkIndex_8e157_12 : decode cJ3_checkIndex_8e157 12 = .ok (.invokestatic 95, 3) := by decide +kernel
theorem dJ3_checkIndex_8e157_15 : decode cJ3_checkIndex_8e157 15 = .ok (.athrow, 1) := by decide +kernel
theorem dJ3_checkIndex_8e157_16 : decode cJ3_checkIndex_8e157 16 = .ok (.iload_n 0, 1) := by decide +kernel
theorem dJ3_checkIndex_8e157_17 : decode cJ3_checkIndex_8e157 17 = .ok (.ireturn, 1) := by decide +kernel
theorem dL_cell_0 : decode cL_cell 0 = .ok (.ldc 7, 2) := by decide +kernel
theorem dL_cell_2 : decode cL_cell 2 = .ok (.iload_n 1, 1) := by decide +kernel
theorem dL_cell_3 : decode cL_cell 3 = .ok (.aload_n 0, 1) := by decide +kernel
theorem dL_cell_4 : decode cL_cell 4 = .ok (.arraylength, 1) := by decide +kernel
theorem dL_cell_5 : decode cL_cell 5 = .ok (.if_icmp .ge 9, 3) := by decide +kernel
theorem dL_cell_8 : decode cL_cell 8 = .ok (.aload_n 0, 1) := by decide +kernel
theorem dL_cell_9 : decode cL_cell 9 = .ok (.iload_n 1, 1) := by decide +kernel
theorem dL_cell_10 : decode cL_cell 10 = .ok (.iaload, 1) := by decide +kernel
theorem dL_cell_11 : decode cL_cell 11 = .ok (.goto 4, 3) := by decide +kernel
theorem dL_cell_14 : decode cL_cell 14 = .ok (.iconst 0, 1) := by decide +kernel
theorem dL_cell_15 : decode cL_cell 15 = .ok (.sipush 1009, 3) := by decide +kernel
theorem dL_cell_18 : decode cL_cell 18 = .ok (.iload_n 1, 1) := by decide +kernel
theorem dL_cell_19 : decode cL_cell 19 = .ok (.imul, 1) := by decide +kernel
theorem dL_cell_20 : decode cL_cell 20 = .ok (.iadd, 1) := by decide +kernel
theorem dL_cell_21 : decode cL_cell 21 = .ok (.imul, 1) := by decide +kernel
theorem dL_cell_22 : decode cL_cell 22 = .ok (.sipush 12345, 3) := by decide +kernel
theorem dL_cell_25 : decode cL_cell 25 = .ok (.iadd, 1) := by decide +kernel
theorem dL_cell_26 : decode cL_cell 26 = .ok (.istore_n 2, 1) := by decide +kernel
theorem dL_cell_27 : decode cL_cell 27 = .ok (.iload_n 2, 1) := by decide +kernel
theorem dL_cell_28 : decode cL_cell 28 = .ok (.iload_n 2, 1) := by decide +kernel
theorem dL_cell_29 : decode cL_cell 29 = .ok (.bipush 13, 2) := by decide +kernel
theorem dL_cell_31 : decode cL_cell 31 = .ok (.iushr, 1) := by decide +kernel
theorem dL_cell_32 : decode cL_cell 32 = .ok (.ixor, 1) := by decide +kernel
theorem dL_cell_33 : decode cL_cell 33 = .ok (.ldc 8, 2) := by decide +kernel
theorem dL_cell_35 : decode cL_cell 35 = .ok (.imul, 1) := by decide +kernel
theorem dL_cell_36 : decode cL_cell 36 = .ok (.istore_n 2, 1) := by decide +kernel
theorem dL_cell_37 : decode cL_cell 37 = .ok (.iload_n 2, 1) := by decide +kernel
theorem dL_cell_38 : decode cL_cell 38 = .ok (.iload_n 2, 1) := by decide +kernel
theorem dL_cell_39 : decode cL_cell 39 = .ok (.bipush 16, 2) := by decide +kernel
theorem dL_cell_41 : decode cL_cell 41 = .ok (.iushr, 1) := by decide +kernel
theorem dL_cell_42 : decode cL_cell 42 = .ok (.ixor, 1) := by decide +kernel
theorem dL_cell_43 : decode cL_cell 43 = .ok (.ireturn, 1) := by decide +kernel
theorem dL_addGuild_0 : decode cL_addGuild 0 = .ok (.aload_n 0, 1) := by decide +kernel
theorem dL_addGuild_1 : decode cL_addGuild 1 = .ok (.iload_n 1, 1) := by decide +kernel
theorem dL_addGuild_2 : decode cL_addGuild 2 = .ok (.iload_n 2, 1) := by decide +kernel
theorem dL_addGuild_3 : decode cL_addGuild 3 = .ok (.iload_n 3, 1) := by decide +kernel
theorem dL_addGuild_4 : decode cL_addGuild 4 = .ok (.invokevirtual 9, 3) := by decide +kernel
theorem dL_addGuild_7 : decode cL_addGuild 7 = .ok (.ireturn, 1) := by decide +kernel
theorem dL_addGuild_8 : decode cL_addGuild 8 = .ok (.astore 4, 2) := by decide +kernel
theorem dL_addGuild_10 : decode cL_addGuild 10 = .ok (.ldc 17, 2) := by decide +kernel
theorem dL_addGuild_12 : decode cL_addGuild 12 = .ok (.ireturn, 1) := by decide +kernel
theorem dL_addGuild_13 : decode cL_addGuild 13 = .ok (.astore 4, 2) := by decide +kernel
theorem dL_addGuild_15 : decode cL_addGuild 15 = .ok (.ldc 20, 2) := by decide +kernel
theorem dL_addGuild_17 : decode cL_addGuild 17 = .ok (.ireturn, 1) := by decide +kernel
theorem dL_merge_0 : decode cL_merge 0 = .ok (.aload_n 0, 1) := by decide +kernel
theorem dL_merge_1 : decode cL_merge 1 = .ok (.iload_n 1, 1) := by decide +kernel
theorem dL_merge_2 : decode cL_merge 2 = .ok (.iload_n 2, 1) := by decide +kernel
theorem dL_merge_3 : decode cL_merge 3 = .ok (.invokevirtual 21, 3) := by decide +kernel
theorem dL_merge_6 : decode cL_merge 6 = .ok (.ireturn, 1) := by decide +kernel
theorem dL_merge_7 : decode cL_merge 7 = .ok (.astore_n 3, 1) := by decide +kernel
theorem dL_merge_8 : decode cL_merge 8 = .ok (.ldc 17, 2) := by decide +kernel
theorem dL_merge_10 : decode cL_merge 10 = .ok (.ireturn, 1) := by decide +kernel
theorem dL_merge_11 : decode cL_merge 11 = .ok (.astore_n 3, 1) := by decide +kernel
theorem dL_merge_12 : decode cL_merge 12 = .ok (.ldc 20, 2) := by decide +kernel
theorem dL_merge_14 : decode cL_merge 14 = .ok (.ireturn, 1) := by decide +kernel
theorem dL_merge_15 : decode cL_merge 15 = .ok (.astore_n 3, 1) := by decide +kernel
theorem dL_merge_16 : decode cL_merge 16 = .ok (.ldc 29, 2) := by decide +kernel
theorem dL_merge_18 : decode cL_merge 18 = .ok (.ireturn, 1) := by decide +kernel
theorem dL_of_0 : decode cL_of 0 = .ok (.aload_n 0, 1) := by decide +kernel
theorem dL_of_1 : decode cL_of 1 = .ok (.iload_n 1, 1) := by decide +kernel
theorem dL_of_2 : decode cL_of 2 = .ok (.iload_n 2, 1) := by decide +kernel
theorem dL_of_3 : decode cL_of 3 = .ok (.invokevirtual 30, 3) := by decide +kernel
theorem dL_of_6 : decode cL_of 6 = .ok (.ireturn, 1) := by decide +kernel
theorem dL_of_7 : decode cL_of 7 = .ok (.astore_n 3, 1) := by decide +kernel
theorem dL_of_8 : decode cL_of 8 = .ok (.ldc 17, 2) := by decide +kernel
theorem dL_of_10 : decode cL_of 10 = .ok (.ireturn, 1) := by decide +kernel
theorem dL_of_11 : decode cL_of 11 = .ok (.astore_n 3, 1) := by decide +kernel
theorem dL_of_12 : decode cL_of 12 = .ok (.ldc 20, 2) := by decide +kernel
theorem dL_of_14 : decode cL_of 14 = .ok (.ireturn, 1) := by decide +kernel
theorem dL_type_0 : decode cL_type 0 = .ok (.aload_n 0, 1) := by decide +kernel
theorem dL_type_1 : decode cL_type 1 = .ok (.iload_n 1, 1) := by decide +kernel
theorem dL_type_2 : decode cL_type 2 = .ok (.invokevirtual 34, 3) := by decide +kernel
theorem dL_type_5 : decode cL_type 5 = .ok (.ireturn, 1) := by decide +kernel
theorem dL_type_6 : decode cL_type 6 = .ok (.astore_n 2, 1) := by decide +kernel
theorem dL_type_7 : decode cL_type 7 = .ok (.ldc 17, 2) := by decide +kernel
theorem dL_type_9 : decode cL_type 9 = .ok (.ireturn, 1) := by decide +kernel
theorem dL_type_10 : decode cL_type 10 = .ok (.astore_n 2, 1) := by decide +kernel
theorem dL_type_11 : decode cL_type 11 = .ok (.ldc 20, 2) := by decide +kernel
theorem dL_type_13 : decode cL_type 13 = .ok (.ireturn, 1) := by decide +kernel
theorem dL_subject_0 : decode cL_subject 0 = .ok (.aload_n 0, 1) := by decide +kernel
theorem dL_subject_1 : decode cL_subject 1 = .ok (.iload_n 1, 1) := by decide +kernel
theorem dL_subject_2 : decode cL_subject 2 = .ok (.invokevirtual 38, 3) := by decide +kernel
theorem dL_subject_5 : decode cL_subject 5 = .ok (.ireturn, 1) := by decide +kernel
theorem dL_subject_6 : decode cL_subject 6 = .ok (.astore_n 2, 1) := by decide +kernel
theorem dL_subject_7 : decode cL_subject 7 = .ok (.ldc 17, 2) := by decide +kernel
theorem dL_subject_9 : decode cL_subject 9 = .ok (.ireturn, 1) := by decide +kernel
theorem dL_subject_10 : decode cL_subject 10 = .ok (.astore_n 2, 1) := by decide +kernel
theorem dL_subject_11 : decode cL_subject 11 = .ok (.ldc 20, 2) := by decide +kernel
theorem dL_subject_13 : decode cL_subject 13 = .ok (.ireturn, 1) := by decide +kernel
theorem dL_learn_0 : decode cL_learn 0 = .ok (.aload_n 0, 1) := by decide +kernel
theorem dL_learn_1 : decode cL_learn 1 = .ok (.iload_n 1, 1) := by decide +kernel
theorem dL_learn_2 : decode cL_learn 2 = .ok (.iload_n 2, 1) := by decide +kernel
theorem dL_learn_3 : decode cL_learn 3 = .ok (.invokevirtual 42, 3) := by decide +kernel
theorem dL_learn_6 : decode cL_learn 6 = .ok (.ireturn, 1) := by decide +kernel
theorem dL_learn_7 : decode cL_learn 7 = .ok (.astore_n 3, 1) := by decide +kernel
theorem dL_learn_8 : decode cL_learn 8 = .ok (.ldc 17, 2) := by decide +kernel
theorem dL_learn_10 : decode cL_learn 10 = .ok (.ireturn, 1) := by decide +kernel
theorem dL_learn_11 : decode cL_learn 11 = .ok (.astore_n 3, 1) := by decide +kernel
theorem dL_learn_12 : decode cL_learn 12 = .ok (.ldc 20, 2) := by decide +kernel
theorem dL_learn_14 : decode cL_learn 14 = .ok (.ireturn, 1) := by decide +kernel
theorem dL_learn_15 : decode cL_learn 15 = .ok (.astore_n 3, 1) := by decide +kernel
theorem dL_learn_16 : decode cL_learn 16 = .ok (.ldc 29, 2) := by decide +kernel
theorem dL_learn_18 : decode cL_learn 18 = .ok (.ireturn, 1) := by decide +kernel
theorem dL_cast_0 : decode cL_cast 0 = .ok (.aload_n 0, 1) := by decide +kernel
theorem dL_cast_1 : decode cL_cast 1 = .ok (.iload_n 1, 1) := by decide +kernel
theorem dL_cast_2 : decode cL_cast 2 = .ok (.iload_n 2, 1) := by decide +kernel
theorem dL_cast_3 : decode cL_cast 3 = .ok (.iload_n 3, 1) := by decide +kernel
theorem dL_cast_4 : decode cL_cast 4 = .ok (.invokevirtual 45, 3) := by decide +kernel
theorem dL_cast_7 : decode cL_cast 7 = .ok (.ireturn, 1) := by decide +kernel
theorem dL_cast_8 : decode cL_cast 8 = .ok (.astore 4, 2) := by decide +kernel
theorem dL_cast_10 : decode cL_cast 10 = .ok (.ldc 17, 2) := by decide +kernel
theorem dL_cast_12 : decode cL_cast 12 = .ok (.ireturn, 1) := by decide +kernel
theorem dL_cast_13 : decode cL_cast 13 = .ok (.astore 4, 2) := by decide +kernel
theorem dL_cast_15 : decode cL_cast 15 = .ok (.ldc 20, 2) := by decide +kernel
theorem dL_cast_17 : decode cL_cast 17 = .ok (.ireturn, 1) := by decide +kernel
theorem dL_wagon_0 : decode cL_wagon 0 = .ok (.aload_n 0, 1) := by decide +kernel
theorem dL_wagon_1 : decode cL_wagon 1 = .ok (.iload_n 1, 1) := by decide +kernel
theorem dL_wagon_2 : decode cL_wagon 2 = .ok (.iload_n 2, 1) := by decide +kernel
theorem dL_wagon_3 : decode cL_wagon 3 = .ok (.iload_n 3, 1) := by decide +kernel
theorem dL_wagon_4 : decode cL_wagon 4 = .ok (.invokevirtual 48, 3) := by decide +kernel
theorem dL_wagon_7 : decode cL_wagon 7 = .ok (.ireturn, 1) := by decide +kernel
theorem dL_wagon_8 : decode cL_wagon 8 = .ok (.astore 4, 2) := by decide +kernel
theorem dL_wagon_10 : decode cL_wagon 10 = .ok (.ldc 17, 2) := by decide +kernel
theorem dL_wagon_12 : decode cL_wagon 12 = .ok (.ireturn, 1) := by decide +kernel
theorem dL_wagon_13 : decode cL_wagon 13 = .ok (.astore 4, 2) := by decide +kernel
theorem dL_wagon_15 : decode cL_wagon 15 = .ok (.ldc 20, 2) := by decide +kernel
theorem dL_wagon_17 : decode cL_wagon 17 = .ok (.ireturn, 1) := by decide +kernel
theorem dL_mend_0 : decode cL_mend 0 = .ok (.aload_n 0, 1) := by decide +kernel
theorem dL_mend_1 : decode cL_mend 1 = .ok (.iload_n 1, 1) := by decide +kernel
theorem dL_mend_2 : decode cL_mend 2 = .ok (.iload_n 2, 1) := by decide +kernel
theorem dL_mend_3 : decode cL_mend 3 = .ok (.invokevirtual 51, 3) := by decide +kernel
theorem dL_mend_6 : decode cL_mend 6 = .ok (.ireturn, 1) := by decide +kernel
theorem dL_mend_7 : decode cL_mend 7 = .ok (.astore_n 3, 1) := by decide +kernel
theorem dL_mend_8 : decode cL_mend 8 = .ok (.ldc 17, 2) := by decide +kernel
theorem dL_mend_10 : decode cL_mend 10 = .ok (.ireturn, 1) := by decide +kernel
theorem dL_mend_11 : decode cL_mend 11 = .ok (.astore_n 3, 1) := by decide +kernel
theorem dL_mend_12 : decode cL_mend 12 = .ok (.ldc 20, 2) := by decide +kernel
theorem dL_mend_14 : decode cL_mend 14 = .ok (.ireturn, 1) := by decide +kernel
theorem dL_mend_15 : decode cL_mend 15 = .ok (.astore_n 3, 1) := by decide +kernel
theorem dL_mend_16 : decode cL_mend 16 = .ok (.ldc 29, 2) := by decide +kernel
theorem dL_mend_18 : decode cL_mend 18 = .ok (.ireturn, 1) := by decide +kernel
theorem dL_put_0 : decode cL_put 0 = .ok (.aload_n 0, 1) := by decide +kernel
theorem dL_put_1 : decode cL_put 1 = .ok (.iload_n 1, 1) := by decide +kernel
theorem dL_put_2 : decode cL_put 2 = .ok (.iload_n 2, 1) := by decide +kernel
theorem dL_put_3 : decode cL_put 3 = .ok (.invokevirtual 54, 3) := by decide +kernel
theorem dL_put_6 : decode cL_put 6 = .ok (.ireturn, 1) := by decide +kernel
theorem dL_put_7 : decode cL_put 7 = .ok (.astore_n 3, 1) := by decide +kernel
theorem dL_put_8 : decode cL_put 8 = .ok (.ldc 17, 2) := by decide +kernel
theorem dL_put_10 : decode cL_put 10 = .ok (.ireturn, 1) := by decide +kernel
theorem dL_put_11 : decode cL_put 11 = .ok (.astore_n 3, 1) := by decide +kernel
theorem dL_put_12 : decode cL_put 12 = .ok (.ldc 20, 2) := by decide +kernel
theorem dL_put_14 : decode cL_put 14 = .ok (.ireturn, 1) := by decide +kernel
theorem dL_place_0 : decode cL_place 0 = .ok (.aload_n 0, 1) := by decide +kernel
theorem dL_place_1 : decode cL_place 1 = .ok (.iload_n 1, 1) := by decide +kernel
theorem dL_place_2 : decode cL_place 2 = .ok (.invokevirtual 57, 3) := by decide +kernel
theorem dL_place_5 : decode cL_place 5 = .ok (.ireturn, 1) := by decide +kernel
theorem dL_place_6 : decode cL_place 6 = .ok (.astore_n 2, 1) := by decide +kernel
theorem dL_place_7 : decode cL_place 7 = .ok (.ldc 17, 2) := by decide +kernel
theorem dL_place_9 : decode cL_place 9 = .ok (.ireturn, 1) := by decide +kernel
theorem dL_add_0 : decode cL_add 0 = .ok (.aload_n 0, 1) := by decide +kernel
theorem dL_add_1 : decode cL_add 1 = .ok (.iload_n 1, 1) := by decide +kernel
theorem dL_add_2 : decode cL_add 2 = .ok (.iload_n 2, 1) := by decide +kernel
theorem dL_add_3 : decode cL_add 3 = .ok (.invokevirtual 61, 3) := by decide +kernel
theorem dL_add_6 : decode cL_add 6 = .ok (.ireturn, 1) := by decide +kernel
theorem dL_add_7 : decode cL_add 7 = .ok (.astore_n 3, 1) := by decide +kernel
theorem dL_add_8 : decode cL_add 8 = .ok (.ldc 17, 2) := by decide +kernel
theorem dL_add_10 : decode cL_add 10 = .ok (.ireturn, 1) := by decide +kernel
theorem dL_add_11 : decode cL_add 11 = .ok (.astore_n 3, 1) := by decide +kernel
theorem dL_add_12 : decode cL_add 12 = .ok (.ldc 20, 2) := by decide +kernel
theorem dL_add_14 : decode cL_add 14 = .ok (.ireturn, 1) := by decide +kernel
theorem dL_add_15 : decode cL_add 15 = .ok (.astore_n 3, 1) := by decide +kernel
theorem dL_add_16 : decode cL_add 16 = .ok (.ldc 29, 2) := by decide +kernel
theorem dL_add_18 : decode cL_add 18 = .ok (.ireturn, 1) := by decide +kernel
theorem dL_day_0 : decode cL_day 0 = .ok (.aload_n 0, 1) := by decide +kernel
theorem dL_day_1 : decode cL_day 1 = .ok (.invokevirtual 64, 3) := by decide +kernel
theorem dL_day_4 : decode cL_day 4 = .ok (.ireturn, 1) := by decide +kernel
theorem dL_day_5 : decode cL_day 5 = .ok (.astore_n 1, 1) := by decide +kernel
theorem dL_day_6 : decode cL_day 6 = .ok (.ldc 17, 2) := by decide +kernel
theorem dL_day_8 : decode cL_day 8 = .ok (.ireturn, 1) := by decide +kernel
theorem dL_end_0 : decode cL_end 0 = .ok (.aload_n 0, 1) := by decide +kernel
theorem dL_end_1 : decode cL_end 1 = .ok (.invokevirtual 68, 3) := by decide +kernel
theorem dL_end_4 : decode cL_end 4 = .ok (.ireturn, 1) := by decide +kernel
theorem dL_end_5 : decode cL_end 5 = .ok (.astore_n 1, 1) := by decide +kernel
theorem dL_end_6 : decode cL_end 6 = .ok (.ldc 17, 2) := by decide +kernel
theorem dL_end_8 : decode cL_end 8 = .ok (.ireturn, 1) := by decide +kernel
theorem dL_foresee_0 : decode cL_foresee 0 = .ok (.aload_n 0, 1) := by decide +kernel
theorem dL_foresee_1 : decode cL_foresee 1 = .ok (.invokevirtual 71, 3) := by decide +kernel
theorem dL_foresee_4 : decode cL_foresee 4 = .ok (.ireturn, 1) := by decide +kernel
theorem dL_foresee_5 : decode cL_foresee 5 = .ok (.astore_n 1, 1) := by decide +kernel
theorem dL_foresee_6 : decode cL_foresee 6 = .ok (.ldc 17, 2) := by decide +kernel
theorem dL_foresee_8 : decode cL_foresee 8 = .ok (.ireturn, 1) := by decide +kernel
theorem dL_leaves_0 : decode cL_leaves 0 = .ok (.aload_n 0, 1) := by decide +kernel
theorem dL_leaves_1 : decode cL_leaves 1 = .ok (.iload_n 1, 1) := by decide +kernel
theorem dL_leaves_2 : decode cL_leaves 2 = .ok (.invokevirtual 74, 3) := by decide +kernel
theorem dL_leaves_5 : decode cL_leaves 5 = .ok (.ireturn, 1) := by decide +kernel
theorem dL_leaves_6 : decode cL_leaves 6 = .ok (.astore_n 2, 1) := by decide +kernel
theorem dL_leaves_7 : decode cL_leaves 7 = .ok (.ldc 17, 2) := by decide +kernel
theorem dL_leaves_9 : decode cL_leaves 9 = .ok (.ireturn, 1) := by decide +kernel
theorem dL_known_0 : decode cL_known 0 = .ok (.aload_n 0, 1) := by decide +kernel
theorem dL_known_1 : decode cL_known 1 = .ok (.iload_n 1, 1) := by decide +kernel
theorem dL_known_2 : decode cL_known 2 = .ok (.invokevirtual 77, 3) := by decide +kernel
theorem dL_known_5 : decode cL_known 5 = .ok (.ireturn, 1) := by decide +kernel
theorem dL_known_6 : decode cL_known 6 = .ok (.astore_n 2, 1) := by decide +kernel
theorem dL_known_7 : decode cL_known 7 = .ok (.ldc 17, 2) := by decide +kernel
theorem dL_known_9 : decode cL_known 9 = .ok (.ireturn, 1) := by decide +kernel
theorem dL_year_0 : decode cL_year 0 = .ok (.aload_n 0, 1) := by decide +kernel
theorem dL_year_1 : decode cL_year 1 = .ok (.invokevirtual 80, 3) := by decide +kernel
theorem dL_year_4 : decode cL_year 4 = .ok (.ireturn, 1) := by decide +kernel
theorem dL_year_5 : decode cL_year 5 = .ok (.astore_n 1, 1) := by decide +kernel
theorem dL_year_6 : decode cL_year 6 = .ok (.ldc 17, 2) := by decide +kernel
theorem dL_year_8 : decode cL_year 8 = .ok (.ireturn, 1) := by decide +kernel
theorem dL_isOver_0 : decode cL_isOver 0 = .ok (.aload_n 0, 1) := by decide +kernel
theorem dL_isOver_1 : decode cL_isOver 1 = .ok (.iload_n 1, 1) := by decide +kernel
theorem dL_isOver_2 : decode cL_isOver 2 = .ok (.invokevirtual 83, 3) := by decide +kernel
theorem dL_isOver_5 : decode cL_isOver 5 = .ok (.ifCond .eq 7, 3) := by decide +kernel
theorem dL_isOver_8 : decode cL_isOver 8 = .ok (.iconst 1, 1) := by decide +kernel
theorem dL_isOver_9 : decode cL_isOver 9 = .ok (.goto 4, 3) := by decide +kernel
theorem dL_isOver_12 : decode cL_isOver 12 = .ok (.iconst 0, 1) := by decide +kernel
theorem dL_isOver_13 : decode cL_isOver 13 = .ok (.ireturn, 1) := by decide +kernel
theorem dL_isOver_14 : decode cL_isOver 14 = .ok (.astore_n 2, 1) := by decide +kernel
theorem dL_isOver_15 : decode cL_isOver 15 = .ok (.ldc 17, 2) := by decide +kernel
theorem dL_isOver_17 : decode cL_isOver 17 = .ok (.ireturn, 1) := by decide +kernel
theorem dL_strike_0 : decode cL_strike 0 = .ok (.aload_n 0, 1) := by decide +kernel
theorem dL_strike_1 : decode cL_strike 1 = .ok (.iload_n 1, 1) := by decide +kernel
theorem dL_strike_2 : decode cL_strike 2 = .ok (.invokevirtual 87, 3) := by decide +kernel
theorem dL_strike_5 : decode cL_strike 5 = .ok (.ifCond .eq 7, 3) := by decide +kernel
theorem dL_strike_8 : decode cL_strike 8 = .ok (.iconst 1, 1) := by decide +kernel
theorem dL_strike_9 : decode cL_strike 9 = .ok (.goto 4, 3) := by decide +kernel
theorem dL_strike_12 : decode cL_strike 12 = .ok (.iconst 0, 1) := by decide +kernel
theorem dL_strike_13 : decode cL_strike 13 = .ok (.ireturn, 1) := by decide +kernel
theorem dL_strike_14 : decode cL_strike 14 = .ok (.astore_n 2, 1) := by decide +kernel
theorem dL_strike_15 : decode cL_strike 15 = .ok (.ldc 17, 2) := by decide +kernel
theorem dL_strike_17 : decode cL_strike 17 = .ok (.ireturn, 1) := by decide +kernel
theorem dL_lose_0 : decode cL_lose 0 = .ok (.aload_n 0, 1) := by decide +kernel
theorem dL_lose_1 : decode cL_lose 1 = .ok (.iload_n 1, 1) := by decide +kernel
theorem dL_lose_2 : decode cL_lose 2 = .ok (.iload_n 2, 1) := by decide +kernel
theorem dL_lose_3 : decode cL_lose 3 = .ok (.invokevirtual 91, 3) := by decide +kernel
theorem dL_lose_6 : decode cL_lose 6 = .ok (.ifCond .eq 7, 3) := by decide +kernel
theorem dL_lose_9 : decode cL_lose 9 = .ok (.iconst 1, 1) := by decide +kernel
theorem dL_lose_10 : decode cL_lose 10 = .ok (.goto 4, 3) := by decide +kernel
theorem dL_lose_13 : decode cL_lose 13 = .ok (.iconst 0, 1) := by decide +kernel
theorem dL_lose_14 : decode cL_lose 14 = .ok (.ireturn, 1) := by decide +kernel
theorem dL_lose_15 : decode cL_lose 15 = .ok (.astore_n 3, 1) := by decide +kernel
theorem dL_lose_16 : decode cL_lose 16 = .ok (.ldc 17, 2) := by decide +kernel
theorem dL_lose_18 : decode cL_lose 18 = .ok (.ireturn, 1) := by decide +kernel
theorem dL_lose_19 : decode cL_lose 19 = .ok (.astore_n 3, 1) := by decide +kernel
theorem dL_lose_20 : decode cL_lose 20 = .ok (.ldc 20, 2) := by decide +kernel
theorem dL_lose_22 : decode cL_lose 22 = .ok (.ireturn, 1) := by decide +kernel
theorem dL_in_0 : decode cL_in 0 = .ok (.aload_n 0, 1) := by decide +kernel
theorem dL_in_1 : decode cL_in 1 = .ok (.iload_n 1, 1) := by decide +kernel
theorem dL_in_2 : decode cL_in 2 = .ok (.invokestatic 95, 3) := by decide +kernel
theorem dL_in_5 : decode cL_in 5 = .ok (.ldc 101, 2) := by decide +kernel
theorem dL_in_7 : decode cL_in 7 = .ok (.iand, 1) := by decide +kernel
theorem dL_in_8 : decode cL_in 8 = .ok (.iload_n 2, 1) := by decide +kernel
theorem dL_in_9 : decode cL_in 9 = .ok (.irem, 1) := by decide +kernel
theorem dL_in_10 : decode cL_in 10 = .ok (.ireturn, 1) := by decide +kernel
theorem dL_types_0 : decode cL_types 0 = .ok (.aload_n 0, 1) := by decide +kernel
theorem dL_types_1 : decode cL_types 1 = .ok (.invokevirtual 102, 3) := by decide +kernel
theorem dL_types_4 : decode cL_types 4 = .ok (.istore_n 2, 1) := by decide +kernel
theorem dL_types_5 : decode cL_types 5 = .ok (.iload_n 2, 1) := by decide +kernel
theorem dL_types_6 : decode cL_types 6 = .ok (.ifCond .lt 7, 3) := by decide +kernel
theorem dL_types_9 : decode cL_types 9 = .ok (.iconst 1, 1) := by decide +kernel
theorem dL_types_10 : decode cL_types 10 = .ok (.goto 4, 3) := by decide +kernel
theorem dL_types_13 : decode cL_types 13 = .ok (.iconst 0, 1) := by decide +kernel
theorem dL_types_14 : decode cL_types 14 = .ok (.istore_n 3, 1) := by decide +kernel
theorem dL_types_15 : decode cL_types 15 = .ok (.iconst 0, 1) := by decide +kernel
theorem dL_types_16 : decode cL_types 16 = .ok (.istore 4, 2) := by decide +kernel
theorem dL_types_18 : decode cL_types 18 = .ok (.iload 4, 2) := by decide +kernel
theorem dL_types_20 : decode cL_types 20 = .ok (.aload_n 1, 1) := by decide +kernel
theorem dL_types_21 : decode cL_types 21 = .ok (.invokevirtual 105, 3) := by decide +kernel
theorem dL_types_24 : decode cL_types 24 = .ok (.if_icmp .ge 34, 3) := by decide +kernel
theorem dL_types_27 : decode cL_types 27 = .ok (.iload_n 3, 1) := by decide +kernel
theorem dL_types_28 : decode cL_types 28 = .ok (.aload_n 0, 1) := by decide +kernel
theorem dL_types_29 : decode cL_types 29 = .ok (.aload_n 1, 1) := by decide +kernel
theorem dL_types_30 : decode cL_types 30 = .ok (.iload 4, 2) := by decide +kernel
theorem dL_types_32 : decode cL_types 32 = .ok (.invokevirtual 110, 3) := by decide +kernel
theorem dL_types_35 : decode cL_types 35 = .ok (.invokestatic 113, 3) := by decide +kernel
theorem dL_types_38 : decode cL_types 38 = .ok (.iload 4, 2) := by decide +kernel
theorem dL_types_40 : decode cL_types 40 = .ok (.iconst 1, 1) := by decide +kernel
theorem dL_types_41 : decode cL_types 41 = .ok (.iadd, 1) := by decide +kernel
theorem dL_types_42 : decode cL_types 42 = .ok (.if_icmp .ne 7, 3) := by decide +kernel
theorem dL_types_45 : decode cL_types 45 = .ok (.iconst 1, 1) := by decide +kernel
theorem dL_types_46 : decode cL_types 46 = .ok (.goto 4, 3) := by decide +kernel
theorem dL_types_49 : decode cL_types 49 = .ok (.iconst 0, 1) := by decide +kernel
theorem dL_types_50 : decode cL_types 50 = .ok (.iand, 1) := by decide +kernel
theorem dL_types_51 : decode cL_types 51 = .ok (.istore_n 3, 1) := by decide +kernel
theorem dL_types_52 : decode cL_types 52 = .ok (.iinc 4 1, 3) := by decide +kernel
theorem dL_types_55 : decode cL_types 55 = .ok (.goto (-37), 3) := by decide +kernel
theorem dL_types_58 : decode cL_types 58 = .ok (.iload_n 3, 1) := by decide +kernel
theorem dL_types_59 : decode cL_types 59 = .ok (.ireturn, 1) := by decide +kernel
theorem dL_word_0 : decode cL_word 0 = .ok (.iload_n 0, 1) := by decide +kernel
theorem dL_word_1 : decode cL_word 1 = .ok (.ifCond .ne 8, 3) := by decide +kernel
theorem dL_word_4 : decode cL_word 4 = .ok (.ldc 116, 2) := by decide +kernel
theorem dL_word_6 : decode cL_word 6 = .ok (.goto 35, 3) := by decide +kernel
theorem dL_word_9 : decode cL_word 9 = .ok (.iload_n 0, 1) := by decide +kernel
theorem dL_word_10 : decode cL_word 10 = .ok (.iconst 1, 1) := by decide +kernel
theorem dL_word_11 : decode cL_word 11 = .ok (.if_icmp .ne 8, 3) := by decide +kernel
theorem dL_word_14 : decode cL_word 14 = .ok (.ldc 118, 2) := by decide +kernel
theorem dL_word_16 : decode cL_word 16 = .ok (.goto 25, 3) := by decide +kernel
theorem dL_word_19 : decode cL_word 19 = .ok (.iload_n 0, 1) := by decide +kernel
theorem dL_word_20 : decode cL_word 20 = .ok (.iconst 2, 1) := by decide +kernel
theorem dL_word_21 : decode cL_word 21 = .ok (.if_icmp .ne 8, 3) := by decide +kernel
theorem dL_word_24 : decode cL_word 24 = .ok (.ldc 120, 2) := by decide +kernel
theorem dL_word_26 : decode cL_word 26 = .ok (.goto 15, 3) := by decide +kernel
theorem dL_word_29 : decode cL_word 29 = .ok (.iload_n 0, 1) := by decide +kernel
theorem dL_word_30 : decode cL_word 30 = .ok (.iconst 3, 1) := by decide +kernel
theorem dL_word_31 : decode cL_word 31 = .ok (.if_icmp .ne 8, 3) := by decide +kernel
theorem dL_word_34 : decode cL_word 34 = .ok (.ldc 122, 2) := by decide +kernel
theorem dL_word_36 : decode cL_word 36 = .ok (.goto 5, 3) := by decide +kernel
theorem dL_word_39 : decode cL_word 39 = .ok (.ldc 124, 2) := by decide +kernel
theorem dL_word_41 : decode cL_word 41 = .ok (.areturn, 1) := by decide +kernel

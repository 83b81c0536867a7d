theorem dX0_init_0 : decode cX0_init 0 = .ok (.aload_n 0, 1) := by decide +kernel
theorem dX0_init_1 : decode cX0_init 1 = .ok (.invokespecial 3, 3) := by decide +kernel
theorem dX0_init_4 : decode cX0_init 4 = .ok (.aload_n 0, 1) := by decide +kernel
theorem dX0_init_5 : decode cX0_init 5 = .ok (.iconst (-1), 1) := by decide +kernel
theorem dX0_init_6 : decode cX0_init 6 = .ok (.putfield 9, 3) := by decide +kernel
theorem dX0_init_9 : decode cX0_init 9 = .ok (.aload_n 0, 1) := by decide +kernel
theorem dX0_init_10 : decode cX0_init 10 = .ok (.ldc 15, 2) := by decide +kernel
theorem dX0_init_12 : decode cX0_init 12 = .ok (.putfield 16, 3) := by decide +kernel
theorem dX0_init_15 : decode cX0_init 15 = .ok (.return_, 1) := by decide +kernel
theorem dX0_weigh_0 : decode cX0_weigh 0 = .ok (.iload_n 2, 1) := by decide +kernel
theorem dX0_weigh_1 : decode cX0_weigh 1 = .ok (.aload_n 0, 1) := by decide +kernel
theorem dX0_weigh_2 : decode cX0_weigh 2 = .ok (.getfield 16, 3) := by decide +kernel
theorem dX0_weigh_5 : decode cX0_weigh 5 = .ok (.if_icmp .le 13, 3) := by decide +kernel
theorem dX0_weigh_8 : decode cX0_weigh 8 = .ok (.aload_n 0, 1) := by decide +kernel
theorem dX0_weigh_9 : decode cX0_weigh 9 = .ok (.iload_n 1, 1) := by decide +kernel
theorem dX0_weigh_10 : decode cX0_weigh 10 = .ok (.putfield 9, 3) := by decide +kernel
theorem dX0_weigh_13 : decode cX0_weigh 13 = .ok (.aload_n 0, 1) := by decide +kernel
theorem dX0_weigh_14 : decode cX0_weigh 14 = .ok (.iload_n 2, 1) := by decide +kernel
theorem dX0_weigh_15 : decode cX0_weigh 15 = .ok (.putfield 16, 3) := by decide +kernel
theorem dX0_weigh_18 : decode cX0_weigh 18 = .ok (.return_, 1) := by decide +kernel
theorem dX0_answer_0 : decode cX0_answer 0 = .ok (.iload_n 1, 1) := by decide +kernel
theorem dX0_answer_1 : decode cX0_answer 1 = .ok (.ifCond .ne 10, 3) := by decide +kernel
theorem dX0_answer_4 : decode cX0_answer 4 = .ok (.aload_n 0, 1) := by decide +kernel
theorem dX0_answer_5 : decode cX0_answer 5 = .ok (.getfield 16, 3) := by decide +kernel
theorem dX0_answer_8 : decode cX0_answer 8 = .ok (.goto 7, 3) := by decide +kernel
theorem dX0_answer_11 : decode cX0_answer 11 = .ok (.aload_n 0, 1) := by decide +kernel
theorem dX0_answer_12 : decode cX0_answer 12 = .ok (.getfield 9, 3) := by decide +kernel
theorem dX0_answer_15 : decode cX0_answer 15 = .ok (.ireturn, 1) := by decide +kernel
theorem dX1_init_0 : decode cX1_init 0 = .ok (.aload_n 0, 1) := by decide +kernel
theorem dX1_init_1 : decode cX1_init 1 = .ok (.invokespecial 3, 3) := by decide +kernel
theorem dX1_init_4 : decode cX1_init 4 = .ok (.aload_n 0, 1) := by decide +kernel
theorem dX1_init_5 : decode cX1_init 5 = .ok (.sipush 160, 3) := by decide +kernel
theorem dX1_init_8 : decode cX1_init 8 = .ok (.newarray .int, 2) := by decide +kernel
theorem dX1_init_10 : decode cX1_init 10 = .ok (.putfield 9, 3) := by decide +kernel
theorem dX1_init_13 : decode cX1_init 13 = .ok (.aload_n 0, 1) := by decide +kernel
theorem dX1_init_14 : decode cX1_init 14 = .ok (.iconst 0, 1) := by decide +kernel
theorem dX1_init_15 : decode cX1_init 15 = .ok (.putfield 15, 3) := by decide +kernel
theorem dX1_init_18 : decode cX1_init 18 = .ok (.aload_n 0, 1) := by decide +kernel
theorem dX1_init_19 : decode cX1_init 19 = .ok (.new 19, 3) := by decide +kernel
theorem dX1_init_22 : decode cX1_init 22 = .ok (.dup, 1) := by decide +kernel
theorem dX1_init_23 : decode cX1_init 23 = .ok (.invokespecial 21, 3) := by decide +kernel
theorem dX1_init_26 : decode cX1_init 26 = .ok (.putfield 22, 3) := by decide +kernel
theorem dX1_init_29 : decode cX1_init 29 = .ok (.aload_n 0, 1) := by decide +kernel
theorem dX1_init_30 : decode cX1_init 30 = .ok (.iconst 0, 1) := by decide +kernel
theorem dX1_init_31 : decode cX1_init 31 = .ok (.putfield 26, 3) := by decide +kernel
theorem dX1_init_34 : decode cX1_init 34 = .ok (.aload_n 0, 1) := by decide +kernel
theorem dX1_init_35 : decode cX1_init 35 = .ok (.iconst 0, 1) := by decide +kernel
theorem dX1_init_36 : decode cX1_init 36 = .ok (.putfield 29, 3) := by decide +kernel
theorem dX1_init_39 : decode cX1_init 39 = .ok (.aload_n 0, 1) := by decide +kernel
theorem dX1_init_40 : decode cX1_init 40 = .ok (.iconst (-1), 1) := by decide +kernel
theorem dX1_init_41 : decode cX1_init 41 = .ok (.putfield 32, 3) := by decide +kernel
theorem dX1_init_44 : decode cX1_init 44 = .ok (.aload_n 0, 1) := by decide +kernel
theorem dX1_init_45 : decode cX1_init 45 = .ok (.iconst 0, 1) := by decide +kernel
theorem dX1_init_46 : decode cX1_init 46 = .ok (.putfield 35, 3) := by decide +kernel
theorem dX1_init_49 : decode cX1_init 49 = .ok (.aload_n 0, 1) := by decide +kernel
theorem dX1_init_50 : decode cX1_init 50 = .ok (.iconst 0, 1) := by decide +kernel
theorem dX1_init_51 : decode cX1_init 51 = .ok (.putfield 38, 3) := by decide +kernel
theorem dX1_init_54 : decode cX1_init 54 = .ok (.return_, 1) := by decide +kernel
theorem dX1_append_0 : decode cX1_append 0 = .ok (.aload_n 0, 1) := by decide +kernel
theorem dX1_append_1 : decode cX1_append 1 = .ok (.getfield 15, 3) := by decide +kernel
theorem dX1_append_4 : decode cX1_append 4 = .ok (.aload_n 0, 1) := by decide +kernel
theorem dX1_append_5 : decode cX1_append 5 = .ok (.getfield 9, 3) := by decide +kernel
theorem dX1_append_8 : decode cX1_append 8 = .ok (.arraylength, 1) := by decide +kernel
theorem dX1_append_9 : decode cX1_append 9 = .ok (.if_icmp .lt 6, 3) := by decide +kernel
theorem dX1_append_12 : decode cX1_append 12 = .ok (.bipush (-4), 2) := by decide +kernel
theorem dX1_append_14 : decode cX1_append 14 = .ok (.ireturn, 1) := by decide +kernel
theorem dX1_append_15 : decode cX1_append 15 = .ok (.aload_n 0, 1) := by decide +kernel
theorem dX1_append_16 : decode cX1_append 16 = .ok (.getfield 9, 3) := by decide +kernel
theorem dX1_append_19 : decode cX1_append 19 = .ok (.aload_n 0, 1) := by decide +kernel
theorem dX1_append_20 : decode cX1_append 20 = .ok (.getfield 15, 3) := by decide +kernel
theorem dX1_append_23 : decode cX1_append 23 = .ok (.iload_n 1, 1) := by decide +kernel
theorem dX1_append_24 : decode cX1_append 24 = .ok (.iastore, 1) := by decide +kernel
theorem dX1_append_25 : decode cX1_append 25 = .ok (.aload_n 0, 1) := by decide +kernel
theorem dX1_append_26 : decode cX1_append 26 = .ok (.dup, 1) := by decide +kernel
theorem dX1_append_27 : decode cX1_append 27 = .ok (.getfield 15, 3) := by decide +kernel
theorem dX1_append_30 : decode cX1_append 30 = .ok (.iconst 1, 1) := by decide +kernel
theorem dX1_append_31 : decode cX1_append 31 = .ok (.iadd, 1) := by decide +kernel
theorem dX1_append_32 : decode cX1_append 32 = .ok (.putfield 15, 3) := by decide +kernel
theorem dX1_append_35 : decode cX1_append 35 = .ok (.aload_n 0, 1) := by decide +kernel
theorem dX1_append_36 : decode cX1_append 36 = .ok (.getfield 15, 3) := by decide +kernel
theorem dX1_append_39 : decode cX1_append 39 = .ok (.ireturn, 1) := by decide +kernel
theorem dX1_readInto_0 : decode cX1_readInto 0 = .ok (.aload_n 0, 1) := by decide +kernel
theorem dX1_readInto_1 : decode cX1_readInto 1 = .ok (.aload_n 1, 1) := by decide +kernel
theorem dX1_readInto_2 : decode cX1_readInto 2 = .ok (.putfield 22, 3) := by decide +kernel
theorem dX1_readInto_5 : decode cX1_readInto 5 = .ok (.aload_n 0, 1) := by decide +kernel
theorem dX1_readInto_6 : decode cX1_readInto 6 = .ok (.getfield 22, 3) := by decide +kernel
theorem dX1_readInto_9 : decode cX1_readInto 9 = .ok (.invokevirtual 41, 3) := by decide +kernel
theorem dX1_readInto_12 : decode cX1_readInto 12 = .ok (.aload_n 0, 1) := by decide +kernel
theorem dX1_readInto_13 : decode cX1_readInto 13 = .ok (.iconst 0, 1) := by decide +kernel
theorem dX1_readInto_14 : decode cX1_readInto 14 = .ok (.putfield 29, 3) := by decide +kernel
theorem dX1_readInto_17 : decode cX1_readInto 17 = .ok (.aload_n 0, 1) := by decide +kernel
theorem dX1_readInto_18 : decode cX1_readInto 18 = .ok (.iconst 0, 1) := by decide +kernel
theorem dX1_readInto_19 : decode cX1_readInto 19 = .ok (.putfield 38, 3) := by decide +kernel
theorem dX1_readInto_22 : decode cX1_readInto 22 = .ok (.aload_n 0, 1) := by decide +kernel
theorem dX1_readInto_23 : decode cX1_readInto 23 = .ok (.invokevirtual 44, 3) := by decide +kernel
theorem dX1_readInto_26 : decode cX1_readInto 26 = .ok (.aload_n 0, 1) := by decide +kernel
theorem dX1_readInto_27 : decode cX1_readInto 27 = .ok (.sipush 258, 3) := by decide +kernel
theorem dX1_readInto_30 : decode cX1_readInto 30 = .ok (.iconst 0, 1) := by decide +kernel
theorem dX1_readInto_31 : decode cX1_readInto 31 = .ok (.invokevirtual 47, 3) := by decide +kernel
theorem dX1_readInto_34 : decode cX1_readInto 34 = .ok (.ifCond .eq 37, 3) := by decide +kernel
theorem dX1_readInto_37 : decode cX1_readInto 37 = .ok (.aload_n 0, 1) := by decide +kernel
theorem dX1_readInto_38 : decode cX1_readInto 38 = .ok (.sipush 259, 3) := by decide +kernel
theorem dX1_readInto_41 : decode cX1_readInto 41 = .ok (.iconst 1, 1) := by decide +kernel
theorem dX1_readInto_42 : decode cX1_readInto 42 = .ok (.invokevirtual 47, 3) := by decide +kernel
theorem dX1_readInto_45 : decode cX1_readInto 45 = .ok (.ifCond .eq 26, 3) := by decide +kernel
theorem dX1_readInto_48 : decode cX1_readInto 48 = .ok (.aload_n 0, 1) := by decide +kernel
theorem dX1_readInto_49 : decode cX1_readInto 49 = .ok (.sipush 260, 3) := by decide +kernel
theorem dX1_readInto_52 : decode cX1_readInto 52 = .ok (.iconst 2, 1) := by decide +kernel
theorem dX1_readInto_53 : decode cX1_readInto 53 = .ok (.invokevirtual 47, 3) := by decide +kernel
theorem dX1_readInto_56 : decode cX1_readInto 56 = .ok (.ifCond .eq 15, 3) := by decide +kernel
theorem dX1_readInto_59 : decode cX1_readInto 59 = .ok (.aload_n 0, 1) := by decide +kernel
theorem dX1_readInto_60 : decode cX1_readInto 60 = .ok (.getfield 32, 3) := by decide +kernel
theorem dX1_readInto_63 : decode cX1_readInto 63 = .ok (.iconst (-1), 1) := by decide +kernel
theorem dX1_readInto_64 : decode cX1_readInto 64 = .ok (.if_icmp .ne 7, 3) := by decide +kernel
theorem dX1_readInto_67 : decode cX1_readInto 67 = .ok (.iconst 1, 1) := by decide +kernel
theorem dX1_readInto_68 : decode cX1_readInto 68 = .ok (.goto 4, 3) := by decide +kernel
theorem dX1_readInto_71 : decode cX1_readInto 71 = .ok (.iconst 0, 1) := by decide +kernel
theorem dX1_readInto_72 : decode cX1_readInto 72 = .ok (.istore_n 2, 1) := by decide +kernel
theorem dX1_readInto_73 : decode cX1_readInto 73 = .ok (.aload_n 0, 1) := by decide +kernel
theorem dX1_readInto_74 : decode cX1_readInto 74 = .ok (.iconst 0, 1) := by decide +kernel
theorem dX1_readInto_75 : decode cX1_readInto 75 = .ok (.putfield 15, 3) := by decide +kernel
theorem dX1_readInto_78 : decode cX1_readInto 78 = .ok (.iload_n 2, 1) := by decide +kernel
theorem dX1_readInto_79 : decode cX1_readInto 79 = .ok (.ifCond .eq 7, 3) := by decide +kernel
theorem dX1_readInto_82 : decode cX1_readInto 82 = .ok (.iconst (-1), 1) := by decide +kernel
theorem dX1_readInto_83 : decode cX1_readInto 83 = .ok (.goto 7, 3) := by decide +kernel
theorem dX1_readInto_86 : decode cX1_readInto 86 = .ok (.aload_n 0, 1) := by decide +kernel
theorem dX1_readInto_87 : decode cX1_readInto 87 = .ok (.getfield 26, 3) := by decide +kernel
theorem dX1_readInto_90 : decode cX1_readInto 90 = .ok (.ireturn, 1) := by decide +kernel
theorem dX1_readPart_0 : decode cX1_readPart 0 = .ok (.aload_n 0, 1) := by decide +kernel
theorem dX1_readPart_1 : decode cX1_readPart 1 = .ok (.iload_n 1, 1) := by decide +kernel
theorem dX1_readPart_2 : decode cX1_readPart 2 = .ok (.invokevirtual 51, 3) := by decide +kernel
theorem dX1_readPart_5 : decode cX1_readPart 5 = .ok (.ifCond .eq 19, 3) := by decide +kernel
theorem dX1_readPart_8 : decode cX1_readPart 8 = .ok (.aload_n 0, 1) := by decide +kernel
theorem dX1_readPart_9 : decode cX1_readPart 9 = .ok (.invokevirtual 55, 3) := by decide +kernel
theorem dX1_readPart_12 : decode cX1_readPart 12 = .ok (.ifCond .eq 12, 3) := by decide +kernel
theorem dX1_readPart_15 : decode cX1_readPart 15 = .ok (.aload_n 0, 1) := by decide +kernel
theorem dX1_readPart_16 : decode cX1_readPart 16 = .ok (.bipush 59, 2) := by decide +kernel
theorem dX1_readPart_18 : decode cX1_readPart 18 = .ok (.invokevirtual 51, 3) := by decide +kernel
theorem dX1_readPart_21 : decode cX1_readPart 21 = .ok (.ifCond .ne 5, 3) := by decide +kernel
theorem dX1_readPart_24 : decode cX1_readPart 24 = .ok (.iconst 0, 1) := by decide +kernel
theorem dX1_readPart_25 : decode cX1_readPart 25 = .ok (.ireturn, 1) := by decide +kernel
theorem dX1_readPart_26 : decode cX1_readPart 26 = .ok (.aload_n 0, 1) := by decide +kernel
theorem dX1_readPart_27 : decode cX1_readPart 27 = .ok (.getfield 22, 3) := by decide +kernel
theorem dX1_readPart_30 : decode cX1_readPart 30 = .ok (.iload_n 2, 1) := by decide +kernel
theorem dX1_readPart_31 : decode cX1_readPart 31 = .ok (.invokevirtual 59, 3) := by decide +kernel
theorem dX1_readPart_34 : decode cX1_readPart 34 = .ok (.iconst 1, 1) := by decide +kernel
theorem dX1_readPart_35 : decode cX1_readPart 35 = .ok (.ireturn, 1) := by decide +kernel
theorem dX1_passes_0 : decode cX1_passes 0 = .ok (.aload_n 0, 1) := by decide +kernel
theorem dX1_passes_1 : decode cX1_passes 1 = .ok (.getfield 32, 3) := by decide +kernel
theorem dX1_passes_4 : decode cX1_passes 4 = .ok (.iload_n 1, 1) := by decide +kernel
theorem dX1_passes_5 : decode cX1_passes 5 = .ok (.if_icmp .eq 5, 3) := by decide +kernel
theorem dX1_passes_8 : decode cX1_passes 8 = .ok (.iconst 0, 1) := by decide +kernel
theorem dX1_passes_9 : decode cX1_passes 9 = .ok (.ireturn, 1) := by decide +kernel
theorem dX1_passes_10 : decode cX1_passes 10 = .ok (.aload_n 0, 1) := by decide +kernel
theorem dX1_passes_11 : decode cX1_passes 11 = .ok (.invokevirtual 44, 3) := by decide +kernel
theorem dX1_passes_14 : decode cX1_passes 14 = .ok (.iconst 1, 1) := by decide +kernel
theorem dX1_passes_15 : decode cX1_passes 15 = .ok (.ireturn, 1) := by decide +kernel
theorem dX1_readEither_0 : decode cX1_readEither 0 = .ok (.aload_n 0, 1) := by decide +kernel
theorem dX1_readEither_1 : decode cX1_readEither 1 = .ok (.invokevirtual 63, 3) := by decide +kernel
theorem dX1_readEither_4 : decode cX1_readEither 4 = .ok (.istore_n 1, 1) := by decide +kernel
theorem dX1_readEither_5 : decode cX1_readEither 5 = .ok (.iconst 0, 1) := by decide +kernel
theorem dX1_readEither_6 : decode cX1_readEither 6 = .ok (.istore_n 2, 1) := by decide +kernel
theorem dX1_readEither_7 : decode cX1_readEither 7 = .ok (.iload_n 2, 1) := by decide +kernel
theorem dX1_readEither_8 : decode cX1_readEither 8 = .ok (.sipush 160, 3) := by decide +kernel
theorem dX1_readEither_11 : decode cX1_readEither 11 = .ok (.if_icmp .ge 41, 3) := by decide +kernel
theorem dX1_readEither_14 : decode cX1_readEither 14 = .ok (.iload_n 1, 1) := by decide +kernel
theorem dX1_readEither_15 : decode cX1_readEither 15 = .ok (.ifCond .eq 37, 3) := by decide +kernel
theorem dX1_readEither_18 : decode cX1_readEither 18 = .ok (.aload_n 0, 1) := by decide +kernel
theorem dX1_readEither_19 : decode cX1_readEither 19 = .ok (.getfield 32, 3) := by decide +kernel
theorem dX1_readEither_22 : decode cX1_readEither 22 = .ok (.sipush 261, 3) := by decide +kernel
theorem dX1_readEither_25 : decode cX1_readEither 25 = .ok (.if_icmp .ne 27, 3) := by decide +kernel
theorem dX1_readEither_28 : decode cX1_readEither 28 = .ok (.aload_n 0, 1) := by decide +kernel
theorem dX1_readEither_29 : decode cX1_readEither 29 = .ok (.invokevirtual 44, 3) := by decide +kernel
theorem dX1_readEither_32 : decode cX1_readEither 32 = .ok (.aload_n 0, 1) := by decide +kernel
theorem dX1_readEither_33 : decode cX1_readEither 33 = .ok (.invokevirtual 63, 3) := by decide +kernel
theorem dX1_readEither_36 : decode cX1_readEither 36 = .ok (.istore_n 1, 1) := by decide +kernel
theorem dX1_readEither_37 : decode cX1_readEither 37 = .ok (.aload_n 0, 1) := by decide +kernel
theorem dX1_readEither_38 : decode cX1_readEither 38 = .ok (.getfield 22, 3) := by decide +kernel
theorem dX1_readEither_41 : decode cX1_readEither 41 = .ok (.bipush (-9), 2) := by decide +kernel
theorem dX1_readEither_43 : decode cX1_readEither 43 = .ok (.invokevirtual 66, 3) := by decide +kernel
theorem dX1_readEither_46 : decode cX1_readEither 46 = .ok (.iinc 2 1, 3) := by decide +kernel
theorem dX1_readEither_49 : decode cX1_readEither 49 = .ok (.goto (-42), 3) := by decide +kernel
theorem dX1_readEither_52 : decode cX1_readEither 52 = .ok (.iload_n 1, 1) := by decide +kernel
theorem dX1_readEither_53 : decode cX1_readEither 53 = .ok (.ireturn, 1) := by decide +kernel
theorem dX1_readBoth_0 : decode cX1_readBoth 0 = .ok (.aload_n 0, 1) := by decide +kernel
theorem dX1_readBoth_1 : decode cX1_readBoth 1 = .ok (.invokevirtual 69, 3) := by decide +kernel
theorem dX1_readBoth_4 : decode cX1_readBoth 4 = .ok (.istore_n 1, 1) := by decide +kernel
theorem dX1_readBoth_5 : decode cX1_readBoth 5 = .ok (.iconst 0, 1) := by decide +kernel
theorem dX1_readBoth_6 : decode cX1_readBoth 6 = .ok (.istore_n 2, 1) := by decide +kernel
theorem dX1_readBoth_7 : decode cX1_readBoth 7 = .ok (.iload_n 2, 1) := by decide +kernel
theorem dX1_readBoth_8 : decode cX1_readBoth 8 = .ok (.sipush 160, 3) := by decide +kernel
theorem dX1_readBoth_11 : decode cX1_readBoth 11 = .ok (.if_icmp .ge 41, 3) := by decide +kernel
theorem dX1_readBoth_14 : decode cX1_readBoth 14 = .ok (.iload_n 1, 1) := by decide +kernel
theorem dX1_readBoth_15 : decode cX1_readBoth 15 = .ok (.ifCond .eq 37, 3) := by decide +kernel
theorem dX1_readBoth_18 : decode cX1_readBoth 18 = .ok (.aload_n 0, 1) := by decide +kernel
theorem dX1_readBoth_19 : decode cX1_readBoth 19 = .ok (.getfield 32, 3) := by decide +kernel
theorem dX1_readBoth_22 : decode cX1_readBoth 22 = .ok (.sipush 262, 3) := by decide +kernel
theorem dX1_readBoth_25 : decode cX1_readBoth 25 = .ok (.if_icmp .ne 27, 3) := by decide +kernel
theorem dX1_readBoth_28 : decode cX1_readBoth 28 = .ok (.aload_n 0, 1) := by decide +kernel
theorem dX1_readBoth_29 : decode cX1_readBoth 29 = .ok (.invokevirtual 44, 3) := by decide +kernel
theorem dX1_readBoth_32 : decode cX1_readBoth 32 = .ok (.aload_n 0, 1) := by decide +kernel
theorem dX1_readBoth_33 : decode cX1_readBoth 33 = .ok (.invokevirtual 69, 3) := by decide +kernel
theorem dX1_readBoth_36 : decode cX1_readBoth 36 = .ok (.istore_n 1, 1) := by decide +kernel
theorem dX1_readBoth_37 : decode cX1_readBoth 37 = .ok (.aload_n 0, 1) := by decide +kernel
theorem dX1_readBoth_38 : decode cX1_readBoth 38 = .ok (.getfield 22, 3) := by decide +kernel
theorem dX1_readBoth_41 : decode cX1_readBoth 41 = .ok (.bipush (-10), 2) := by decide +kernel
theorem dX1_readBoth_43 : decode cX1_readBoth 43 = .ok (.invokevirtual 66, 3) := by decide +kernel
theorem dX1_readBoth_46 : decode cX1_readBoth 46 = .ok (.iinc 2 1, 3) := by decide +kernel
theorem dX1_readBoth_49 : decode cX1_readBoth 49 = .ok (.goto (-42), 3) := by decide +kernel
theorem dX1_readBoth_52 : decode cX1_readBoth 52 = .ok (.iload_n 1, 1) := by decide +kernel
theorem dX1_readBoth_53 : decode cX1_readBoth 53 = .ok (.ireturn, 1) := by decide +kernel
theorem dX1_readNot_0 : decode cX1_readNot 0 = .ok (.aload_n 0, 1) := by decide +kernel
theorem dX1_readNot_1 : decode cX1_readNot 1 = .ok (.getfield 32, 3) := by decide +kernel
theorem dX1_readNot_4 : decode cX1_readNot 4 = .ok (.sipush 263, 3) := by decide +kernel
theorem dX1_readNot_7 : decode cX1_readNot 7 = .ok (.if_icmp .eq 8, 3) := by decide +kernel
theorem dX1_readNot_10 : decode cX1_readNot 10 = .ok (.aload_n 0, 1) := by decide +kernel
theorem dX1_readNot_11 : decode cX1_readNot 11 = .ok (.invokevirtual 72, 3) := by decide +kernel
theorem dX1_readNot_14 : decode cX1_readNot 14 = .ok (.ireturn, 1) := by decide +kernel
theorem dX1_readNot_15 : decode cX1_readNot 15 = .ok (.aload_n 0, 1) := by decide +kernel
theorem dX1_readNot_16 : decode cX1_readNot 16 = .ok (.invokevirtual 75, 3) := by decide +kernel
theorem dX1_readNot_19 : decode cX1_readNot 19 = .ok (.ifCond .ne 5, 3) := by decide +kernel
theorem dX1_readNot_22 : decode cX1_readNot 22 = .ok (.iconst 0, 1) := by decide +kernel
theorem dX1_readNot_23 : decode cX1_readNot 23 = .ok (.ireturn, 1) := by decide +kernel
theorem dX1_readNot_24 : decode cX1_readNot 24 = .ok (.aload_n 0, 1) := by decide +kernel
theorem dX1_readNot_25 : decode cX1_readNot 25 = .ok (.invokevirtual 44, 3) := by decide +kernel
theorem dX1_readNot_28 : decode cX1_readNot 28 = .ok (.aload_n 0, 1) := by decide +kernel
theorem dX1_readNot_29 : decode cX1_readNot 29 = .ok (.invokevirtual 69, 3) := by decide +kernel
theorem dX1_readNot_32 : decode cX1_readNot 32 = .ok (.istore_n 1, 1) := by decide +kernel
theorem dX1_readNot_33 : decode cX1_readNot 33 = .ok (.aload_n 0, 1) := by decide +kernel
theorem dX1_readNot_34 : decode cX1_readNot 34 = .ok (.dup, 1) := by decide +kernel
theorem dX1_readNot_35 : decode cX1_readNot 35 = .ok (.getfield 38, 3) := by decide +kernel
theorem dX1_readNot_38 : decode cX1_readNot 38 = .ok (.iconst 1, 1) := by decide +kernel
theorem dX1_readNot_39 : decode cX1_readNot 39 = .ok (.isub, 1) := by decide +kernel
theorem dX1_readNot_40 : decode cX1_readNot 40 = .ok (.putfield 38, 3) := by decide +kernel
theorem dX1_readNot_43 : decode cX1_readNot 43 = .ok (.aload_n 0, 1) := by decide +kernel
theorem dX1_readNot_44 : decode cX1_readNot 44 = .ok (.getfield 22, 3) := by decide +kernel
theorem dX1_readNot_47 : decode cX1_readNot 47 = .ok (.bipush (-8), 2) := by decide +kernel
theorem dX1_readNot_49 : decode cX1_readNot 49 = .ok (.invokevirtual 66, 3) := by decide +kernel
theorem dX1_readNot_52 : decode cX1_readNot 52 = .ok (.iload_n 1, 1) := by decide +kernel
theorem dX1_readNot_53 : decode cX1_readNot 53 = .ok (.ireturn, 1) := by decide +kernel
theorem dX1_readComparison_0 : decode cX1_readComparison 0 = .ok (.aload_n 0, 1) := by decide +kernel
theorem dX1_readComparison_1 : decode cX1_readComparison 1 = .ok (.invokevirtual 78, 3) := by decide +kernel
theorem dX1_readComparison_4 : decode cX1_readComparison 4 = .ok (.istore_n 1, 1) := by decide +kernel
theorem dX1_readComparison_5 : decode cX1_readComparison 5 = .ok (.aload_n 0, 1) := by decide +kernel
theorem dX1_readComparison_6 : decode cX1_readComparison 6 = .ok (.getfield 32, 3) := by decide +kernel
theorem dX1_readComparison_9 : decode cX1_readComparison 9 = .ok (.istore_n 2, 1) := by decide +kernel
theorem dX1_readComparison_10 : decode cX1_readComparison 10 = .ok (.iload_n 1, 1) := by decide +kernel
theorem dX1_readComparison_11 : decode cX1_readComparison 11 = .ok (.ifCond .eq 15, 3) := by decide +kernel
theorem dX1_readComparison_14 : decode cX1_readComparison 14 = .ok (.iload_n 2, 1) := by decide +kernel
theorem dX1_readComparison_15 : decode cX1_readComparison 15 = .ok (.bipush 60, 2) := by decide +kernel
theorem dX1_readComparison_17 : decode cX1_readComparison 17 = .ok (.if_icmp .eq 11, 3) := by decide +kernel
theorem dX1_readComparison_20 : decode cX1_readComparison 20 = .ok (.iload_n 2, 1) := by decide +kernel
theorem dX1_readComparison_21 : decode cX1_readComparison 21 = .ok (.bipush 61, 2) := by decide +kernel
theorem dX1_readComparison_23 : decode cX1_readComparison 23 = .ok (.if_icmp .eq 5, 3) := by decide +kernel
theorem dX1_readComparison_26 : decode cX1_readComparison 26 = .ok (.iload_n 1, 1) := by decide +kernel
theorem dX1_readComparison_27 : decode cX1_readComparison 27 = .ok (.ireturn, 1) := by decide +kernel
theorem dX1_readComparison_28 : decode cX1_readComparison 28 = .ok (.aload_n 0, 1) := by decide +kernel
theorem dX1_readComparison_29 : decode cX1_readComparison 29 = .ok (.invokevirtual 44, 3) := by decide +kernel
theorem dX1_readComparison_32 : decode cX1_readComparison 32 = .ok (.aload_n 0, 1) := by decide +kernel
theorem dX1_readComparison_33 : decode cX1_readComparison 33 = .ok (.invokevirtual 78, 3) := by decide +kernel
theorem dX1_readComparison_36 : decode cX1_readComparison 36 = .ok (.istore_n 1, 1) := by decide +kernel
theorem dX1_readComparison_37 : decode cX1_readComparison 37 = .ok (.aload_n 0, 1) := by decide +kernel
theorem dX1_readComparison_38 : decode cX1_readComparison 38 = .ok (.getfield 22, 3) := by decide +kernel
theorem dX1_readComparison_41 : decode cX1_readComparison 41 = .ok (.iload_n 2, 1) := by decide +kernel
theorem dX1_readComparison_42 : decode cX1_readComparison 42 = .ok (.bipush 60, 2) := by decide +kernel
theorem dX1_readComparison_44 : decode cX1_readComparison 44 = .ok (.if_icmp .ne 8, 3) := by decide +kernel
theorem dX1_readComparison_47 : decode cX1_readComparison 47 = .ok (.bipush (-11), 2) := by decide +kernel
theorem dX1_readComparison_49 : decode cX1_readComparison 49 = .ok (.goto 5, 3) := by decide +kernel
theorem dX1_readComparison_52 : decode cX1_readComparison 52 = .ok (.bipush (-12), 2) := by decide +kernel
theorem dX1_readComparison_54 : decode cX1_readComparison 54 = .ok (.invokevirtual 66, 3) := by decide +kernel
theorem dX1_readComparison_57 : decode cX1_readComparison 57 = .ok (.iload_n 1, 1) := by decide +kernel
theorem dX1_readComparison_58 : decode cX1_readComparison 58 = .ok (.ireturn, 1) := by decide +kernel
theorem dX1_readSum_0 : decode cX1_readSum 0 = .ok (.aload_n 0, 1) := by decide +kernel
theorem dX1_readSum_1 : decode cX1_readSum 1 = .ok (.invokevirtual 81, 3) := by decide +kernel
theorem dX1_readSum_4 : decode cX1_readSum 4 = .ok (.istore_n 1, 1) := by decide +kernel
theorem dX1_readSum_5 : decode cX1_readSum 5 = .ok (.iconst 0, 1) := by decide +kernel
theorem dX1_readSum_6 : decode cX1_readSum 6 = .ok (.istore_n 2, 1) := by decide +kernel
theorem dX1_readSum_7 : decode cX1_readSum 7 = .ok (.iload_n 2, 1) := by decide +kernel
theorem dX1_readSum_8 : decode cX1_readSum 8 = .ok (.sipush 160, 3) := by decide +kernel
theorem dX1_readSum_11 : decode cX1_readSum 11 = .ok (.if_icmp .ge 65, 3) := by decide +kernel
theorem dX1_readSum_14 : decode cX1_readSum 14 = .ok (.iload_n 1, 1) := by decide +kernel
theorem dX1_readSum_15 : decode cX1_readSum 15 = .ok (.ifCond .eq 61, 3) := by decide +kernel
theorem dX1_readSum_18 : decode cX1_readSum 18 = .ok (.aload_n 0, 1) := by decide +kernel
theorem dX1_readSum_19 : decode cX1_readSum 19 = .ok (.getfield 32, 3) := by decide +kernel
theorem dX1_readSum_22 : decode cX1_readSum 22 = .ok (.bipush 43, 2) := by decide +kernel
theorem dX1_readSum_24 : decode cX1_readSum 24 = .ok (.if_icmp .eq 12, 3) := by decide +kernel
theorem dX1_readSum_27 : decode cX1_readSum 27 = .ok (.aload_n 0, 1) := by decide +kernel
theorem dX1_readSum_28 : decode cX1_readSum 28 = .ok (.getfield 32, 3) := by decide +kernel
theorem dX1_readSum_31 : decode cX1_readSum 31 = .ok (.bipush 45, 2) := by decide +kernel
theorem dX1_readSum_33 : decode cX1_readSum 33 = .ok (.if_icmp .ne 43, 3) := by decide +kernel
theorem dX1_readSum_36 : decode cX1_readSum 36 = .ok (.aload_n 0, 1) := by decide +kernel
theorem dX1_readSum_37 : decode cX1_readSum 37 = .ok (.getfield 32, 3) := by decide +kernel
theorem dX1_readSum_40 : decode cX1_readSum 40 = .ok (.istore_n 3, 1) := by decide +kernel
theorem dX1_readSum_41 : decode cX1_readSum 41 = .ok (.aload_n 0, 1) := by decide +kernel
theorem dX1_readSum_42 : decode cX1_readSum 42 = .ok (.invokevirtual 44, 3) := by decide +kernel
theorem dX1_readSum_45 : decode cX1_readSum 45 = .ok (.aload_n 0, 1) := by decide +kernel
theorem dX1_readSum_46 : decode cX1_readSum 46 = .ok (.invokevirtual 81, 3) := by decide +kernel
theorem dX1_readSum_49 : decode cX1_readSum 49 = .ok (.istore_n 1, 1) := by decide +kernel
theorem dX1_readSum_50 : decode cX1_readSum 50 = .ok (.aload_n 0, 1) := by decide +kernel
theorem dX1_readSum_51 : decode cX1_readSum 51 = .ok (.getfield 22, 3) := by decide +kernel
theorem dX1_readSum_54 : decode cX1_readSum 54 = .ok (.iload_n 3, 1) := by decide +kernel
theorem dX1_readSum_55 : decode cX1_readSum 55 = .ok (.bipush 43, 2) := by decide +kernel
theorem dX1_readSum_57 : decode cX1_readSum 57 = .ok (.if_icmp .ne 8, 3) := by decide +kernel
theorem dX1_readSum_60 : decode cX1_readSum 60 = .ok (.bipush (-13), 2) := by decide +kernel
theorem dX1_readSum_62 : decode cX1_readSum 62 = .ok (.goto 5, 3) := by decide +kernel
theorem dX1_readSum_65 : decode cX1_readSum 65 = .ok (.bipush (-14), 2) := by decide +kernel
theorem dX1_readSum_67 : decode cX1_readSum 67 = .ok (.invokevirtual 66, 3) := by decide +kernel
theorem dX1_readSum_70 : decode cX1_readSum 70 = .ok (.iinc 2 1, 3) := by decide +kernel
theorem dX1_readSum_73 : decode cX1_readSum 73 = .ok (.goto (-66), 3) := by decide +kernel
theorem dX1_readSum_76 : decode cX1_readSum 76 = .ok (.iload_n 1, 1) := by decide +kernel
theorem dX1_readSum_77 : decode cX1_readSum 77 = .ok (.ireturn, 1) := by decide +kernel
theorem dX1_readTerm_0 : decode cX1_readTerm 0 = .ok (.aload_n 0, 1) := by decide +kernel
theorem dX1_readTerm_1 : decode cX1_readTerm 1 = .ok (.invokevirtual 84, 3) := by decide +kernel
theorem dX1_readTerm_4 : decode cX1_readTerm 4 = .ok (.istore_n 1, 1) := by decide +kernel
theorem dX1_readTerm_5 : decode cX1_readTerm 5 = .ok (.iconst 0, 1) := by decide +kernel
theorem dX1_readTerm_6 : decode cX1_readTerm 6 = .ok (.istore_n 2, 1) := by decide +kernel
theorem dX1_readTerm_7 : decode cX1_readTerm 7 = .ok (.iload_n 2, 1) := by decide +kernel
theorem dX1_readTerm_8 : decode cX1_readTerm 8 = .ok (.sipush 160, 3) := by decide +kernel
theorem dX1_readTerm_11 : decode cX1_readTerm 11 = .ok (.if_icmp .ge 40, 3) := by decide +kernel
theorem dX1_readTerm_14 : decode cX1_readTerm 14 = .ok (.iload_n 1, 1) := by decide +kernel
theorem dX1_readTerm_15 : decode cX1_readTerm 15 = .ok (.ifCond .eq 36, 3) := by decide +kernel
theorem dX1_readTerm_18 : decode cX1_readTerm 18 = .ok (.aload_n 0, 1) := by decide +kernel
theorem dX1_readTerm_19 : decode cX1_readTerm 19 = .ok (.getfield 32, 3) := by decide +kernel
theorem dX1_readTerm_22 : decode cX1_readTerm 22 = .ok (.bipush 42, 2) := by decide +kernel
theorem dX1_readTerm_24 : decode cX1_readTerm 24 = .ok (.if_icmp .ne 27, 3) := by decide +kernel
theorem dX1_readTerm_27 : decode cX1_readTerm 27 = .ok (.aload_n 0, 1) := by decide +kernel
theorem dX1_readTerm_28 : decode cX1_readTerm 28 = .ok (.invokevirtual 44, 3) := by decide +kernel
theorem dX1_readTerm_31 : decode cX1_readTerm 31 = .ok (.aload_n 0, 1) := by decide +kernel
theorem dX1_readTerm_32 : decode cX1_readTerm 32 = .ok (.invokevirtual 84, 3) := by decide +kernel
theorem dX1_readTerm_35 : decode cX1_readTerm 35 = .ok (.istore_n 1, 1) := by decide +kernel
theorem dX1_readTerm_36 : decode cX1_readTerm 36 = .ok (.aload_n 0, 1) := by decide +kernel
theorem dX1_readTerm_37 : decode cX1_readTerm 37 = .ok (.getfield 22, 3) := by decide +kernel
theorem dX1_readTerm_40 : decode cX1_readTerm 40 = .ok (.bipush (-15), 2) := by decide +kernel
theorem dX1_readTerm_42 : decode cX1_readTerm 42 = .ok (.invokevirtual 66, 3) := by decide +kernel
theorem dX1_readTerm_45 : decode cX1_readTerm 45 = .ok (.iinc 2 1, 3) := by decide +kernel
theorem dX1_readTerm_48 : decode cX1_readTerm 48 = .ok (.goto (-41), 3) := by decide +kernel
theorem dX1_readTerm_51 : decode cX1_readTerm 51 = .ok (.iload_n 1, 1) := by decide +kernel
theorem dX1_readTerm_52 : decode cX1_readTerm 52 = .ok (.ireturn, 1) := by decide +kernel
theorem dX1_readOne_0 : decode cX1_readOne 0 = .ok (.aload_n 0, 1) := by decide +kernel
theorem dX1_readOne_1 : decode cX1_readOne 1 = .ok (.getfield 32, 3) := by decide +kernel
theorem dX1_readOne_4 : decode cX1_readOne 4 = .ok (.bipush 45, 2) := by decide +kernel
theorem dX1_readOne_6 : decode cX1_readOne 6 = .ok (.if_icmp .ne 8, 3) := by decide +kernel
theorem dX1_readOne_9 : decode cX1_readOne 9 = .ok (.aload_n 0, 1) := by decide +kernel
theorem dX1_readOne_10 : decode cX1_readOne 10 = .ok (.invokevirtual 87, 3) := by decide +kernel
theorem dX1_readOne_13 : decode cX1_readOne 13 = .ok (.ireturn, 1) := by decide +kernel
theorem dX1_readOne_14 : decode cX1_readOne 14 = .ok (.aload_n 0, 1) := by decide +kernel
theorem dX1_readOne_15 : decode cX1_readOne 15 = .ok (.getfield 32, 3) := by decide +kernel
theorem dX1_readOne_18 : decode cX1_readOne 18 = .ok (.bipush 40, 2) := by decide +kernel
theorem dX1_readOne_20 : decode cX1_readOne 20 = .ok (.if_icmp .ne 8, 3) := by decide +kernel
theorem dX1_readOne_23 : decode cX1_readOne 23 = .ok (.aload_n 0, 1) := by decide +kernel
theorem dX1_readOne_24 : decode cX1_readOne 24 = .ok (.invokevirtual 90, 3) := by decide +kernel
theorem dX1_readOne_27 : decode cX1_readOne 27 = .ok (.ireturn, 1) := by decide +kernel
theorem dX1_readOne_28 : decode cX1_readOne 28 = .ok (.aload_n 0, 1) := by decide +kernel
theorem dX1_readOne_29 : decode cX1_readOne 29 = .ok (.getfield 32, 3) := by decide +kernel
theorem dX1_readOne_32 : decode cX1_readOne 32 = .ok (.sipush 256, 3) := by decide +kernel
theorem dX1_readOne_35 : decode cX1_readOne 35 = .ok (.if_icmp .eq 15, 3) := by decide +kernel
theorem dX1_readOne_38 : decode cX1_readOne 38 = .ok (.aload_n 0, 1) := by decide +kernel
theorem dX1_readOne_39 : decode cX1_readOne 39 = .ok (.getfield 32, 3) := by decide +kernel
theorem dX1_readOne_42 : decode cX1_readOne 42 = .ok (.sipush 257, 3) := by decide +kernel
theorem dX1_readOne_45 : decode cX1_readOne 45 = .ok (.if_icmp .eq 5, 3) := by decide +kernel
theorem dX1_readOne_48 : decode cX1_readOne 48 = .ok (.iconst 0, 1) := by decide +kernel
theorem dX1_readOne_49 : decode cX1_readOne 49 = .ok (.ireturn, 1) := by decide +kernel
theorem dX1_readOne_50 : decode cX1_readOne 50 = .ok (.aload_n 0, 1) := by decide +kernel
theorem dX1_readOne_51 : decode cX1_readOne 51 = .ok (.getfield 22, 3) := by decide +kernel
theorem dX1_readOne_54 : decode cX1_readOne 54 = .ok (.aload_n 0, 1) := by decide +kernel
theorem dX1_readOne_55 : decode cX1_readOne 55 = .ok (.getfield 32, 3) := by decide +kernel
theorem dX1_readOne_58 : decode cX1_readOne 58 = .ok (.sipush 256, 3) := by decide +kernel
theorem dX1_readOne_61 : decode cX1_readOne 61 = .ok (.if_icmp .ne 10, 3) := by decide +kernel
theorem dX1_readOne_64 : decode cX1_readOne 64 = .ok (.aload_n 0, 1) := by decide +kernel
theorem dX1_readOne_65 : decode cX1_readOne 65 = .ok (.getfield 35, 3) := by decide +kernel
theorem dX1_readOne_68 : decode cX1_readOne 68 = .ok (.goto 9, 3) := by decide +kernel
theorem dX1_readOne_71 : decode cX1_readOne 71 = .ok (.iconst (-1), 1) := by decide +kernel
theorem dX1_readOne_72 : decode cX1_readOne 72 = .ok (.aload_n 0, 1) := by decide +kernel
theorem dX1_readOne_73 : decode cX1_readOne 73 = .ok (.getfield 35, 3) := by decide +kernel
theorem dX1_readOne_76 : decode cX1_readOne 76 = .ok (.isub, 1) := by decide +kernel
theorem dX1_readOne_77 : decode cX1_readOne 77 = .ok (.invokevirtual 66, 3) := by decide +kernel
theorem dX1_readOne_80 : decode cX1_readOne 80 = .ok (.aload_n 0, 1) := by decide +kernel
theorem dX1_readOne_81 : decode cX1_readOne 81 = .ok (.invokevirtual 44, 3) := by decide +kernel
theorem dX1_readOne_84 : decode cX1_readOne 84 = .ok (.iconst 1, 1) := by decide +kernel
theorem dX1_readOne_85 : decode cX1_readOne 85 = .ok (.ireturn, 1) := by decide +kernel
theorem dX1_readNegated_0 : decode cX1_readNegated 0 = .ok (.aload_n 0, 1) := by decide +kernel
theorem dX1_readNegated_1 : decode cX1_readNegated 1 = .ok (.invokevirtual 75, 3) := by decide +kernel
theorem dX1_readNegated_4 : decode cX1_readNegated 4 = .ok (.ifCond .ne 5, 3) := by decide +kernel
theorem dX1_readNegated_7 : decode cX1_readNegated 7 = .ok (.iconst 0, 1) := by decide +kernel
theorem dX1_readNegated_8 : decode cX1_readNegated 8 = .ok (.ireturn, 1) := by decide +kernel
theorem dX1_readNegated_9 : decode cX1_readNegated 9 = .ok (.aload_n 0, 1) := by decide +kernel
theorem dX1_readNegated_10 : decode cX1_readNegated 10 = .ok (.invokevirtual 44, 3) := by decide +kernel
theorem dX1_readNegated_13 : decode cX1_readNegated 13 = .ok (.aload_n 0, 1) := by decide +kernel
theorem dX1_readNegated_14 : decode cX1_readNegated 14 = .ok (.invokevirtual 84, 3) := by decide +kernel
theorem dX1_readNegated_17 : decode cX1_readNegated 17 = .ok (.istore_n 1, 1) := by decide +kernel
theorem dX1_readNegated_18 : decode cX1_readNegated 18 = .ok (.aload_n 0, 1) := by decide +kernel
theorem dX1_readNegated_19 : decode cX1_readNegated 19 = .ok (.dup, 1) := by decide +kernel
theorem dX1_readNegated_20 : decode cX1_readNegated 20 = .ok (.getfield 38, 3) := by decide +kernel
theorem dX1_readNegated_23 : decode cX1_readNegated 23 = .ok (.iconst 1, 1) := by decide +kernel
theorem dX1_readNegated_24 : decode cX1_readNegated 24 = .ok (.isub, 1) := by decide +kernel
theorem dX1_readNegated_25 : decode cX1_readNegated 25 = .ok (.putfield 38, 3) := by decide +kernel
theorem dX1_readNegated_28 : decode cX1_readNegated 28 = .ok (.aload_n 0, 1) := by decide +kernel
theorem dX1_readNegated_29 : decode cX1_readNegated 29 = .ok (.getfield 22, 3) := by decide +kernel
theorem dX1_readNegated_32 : decode cX1_readNegated 32 = .ok (.bipush (-7), 2) := by decide +kernel
theorem dX1_readNegated_34 : decode cX1_readNegated 34 = .ok (.invokevirtual 66, 3) := by decide +kernel
theorem dX1_readNegated_37 : decode cX1_readNegated 37 = .ok (.iload_n 1, 1) := by decide +kernel
theorem dX1_readNegated_38 : decode cX1_readNegated 38 = .ok (.ireturn, 1) := by decide +kernel
theorem dX1_readEnclosed_0 : decode cX1_readEnclosed 0 = .ok (.aload_n 0, 1) := by decide +kernel
theorem dX1_readEnclosed_1 : decode cX1_readEnclosed 1 = .ok (.invokevirtual 75, 3) := by decide +kernel
theorem dX1_readEnclosed_4 : decode cX1_readEnclosed 4 = .ok (.ifCond .ne 5, 3) := by decide +kernel
theorem dX1_readEnclosed_7 : decode cX1_readEnclosed 7 = .ok (.iconst 0, 1) := by decide +kernel
theorem dX1_readEnclosed_8 : decode cX1_readEnclosed 8 = .ok (.ireturn, 1) := by decide +kernel
theorem dX1_readEnclosed_9 : decode cX1_readEnclosed 9 = .ok (.aload_n 0, 1) := by decide +kernel
theorem dX1_readEnclosed_10 : decode cX1_readEnclosed 10 = .ok (.invokevirtual 44, 3) := by decide +kernel
theorem dX1_readEnclosed_13 : decode cX1_readEnclosed 13 = .ok (.aload_n 0, 1) := by decide +kernel
theorem dX1_readEnclosed_14 : decode cX1_readEnclosed 14 = .ok (.invokevirtual 55, 3) := by decide +kernel
theorem dX1_readEnclosed_17 : decode cX1_readEnclosed 17 = .ok (.ifCond .eq 16, 3) := by decide +kernel
theorem dX1_readEnclosed_20 : decode cX1_readEnclosed 20 = .ok (.aload_n 0, 1) := by decide +kernel
theorem dX1_readEnclosed_21 : decode cX1_readEnclosed 21 = .ok (.getfield 32, 3) := by decide +kernel
theorem dX1_readEnclosed_24 : decode cX1_readEnclosed 24 = .ok (.bipush 41, 2) := by decide +kernel
theorem dX1_readEnclosed_26 : decode cX1_readEnclosed 26 = .ok (.if_icmp .ne 7, 3) := by decide +kernel
theorem dX1_readEnclosed_29 : decode cX1_readEnclosed 29 = .ok (.iconst 1, 1) := by decide +kernel
theorem dX1_readEnclosed_30 : decode cX1_readEnclosed 30 = .ok (.goto 4, 3) := by decide +kernel
theorem dX1_readEnclosed_33 : decode cX1_readEnclosed 33 = .ok (.iconst 0, 1) := by decide +kernel
theorem dX1_readEnclosed_34 : decode cX1_readEnclosed 34 = .ok (.istore_n 1, 1) := by decide +kernel
theorem dX1_readEnclosed_35 : decode cX1_readEnclosed 35 = .ok (.aload_n 0, 1) := by decide +kernel
theorem dX1_readEnclosed_36 : decode cX1_readEnclosed 36 = .ok (.dup, 1) := by decide +kernel
theorem dX1_readEnclosed_37 : decode cX1_readEnclosed 37 = .ok (.getfield 38, 3) := by decide +kernel
theorem dX1_readEnclosed_40 : decode cX1_readEnclosed 40 = .ok (.iconst 1, 1) := by decide +kernel
theorem dX1_readEnclosed_41 : decode cX1_readEnclosed 41 = .ok (.isub, 1) := by decide +kernel
theorem dX1_readEnclosed_42 : decode cX1_readEnclosed 42 = .ok (.putfield 38, 3) := by decide +kernel
theorem dX1_readEnclosed_45 : decode cX1_readEnclosed 45 = .ok (.iload_n 1, 1) := by decide +kernel
theorem dX1_readEnclosed_46 : decode cX1_readEnclosed 46 = .ok (.ifCond .eq 7, 3) := by decide +kernel
theorem dX1_readEnclosed_49 : decode cX1_readEnclosed 49 = .ok (.aload_n 0, 1) := by decide +kernel
theorem dX1_readEnclosed_50 : decode cX1_readEnclosed 50 = .ok (.invokevirtual 44, 3) := by decide +kernel
theorem dX1_readEnclosed_53 : decode cX1_readEnclosed 53 = .ok (.iload_n 1, 1) := by decide +kernel
theorem dX1_readEnclosed_54 : decode cX1_readEnclosed 54 = .ok (.ireturn, 1) := by decide +kernel
theorem dX1_opens_0 : decode cX1_opens 0 = .ok (.aload_n 0, 1) := by decide +kernel
theorem dX1_opens_1 : decode cX1_opens 1 = .ok (.getfield 38, 3) := by decide +kernel
theorem dX1_opens_4 : decode cX1_opens 4 = .ok (.iconst 5, 1) := by decide +kernel
theorem dX1_opens_5 : decode cX1_opens 5 = .ok (.if_icmp .lt 5, 3) := by decide +kernel
theorem dX1_opens_8 : decode cX1_opens 8 = .ok (.iconst 0, 1) := by decide +kernel
theorem dX1_opens_9 : decode cX1_opens 9 = .ok (.ireturn, 1) := by decide +kernel
theorem dX1_opens_10 : decode cX1_opens 10 = .ok (.aload_n 0, 1) := by decide +kernel
theorem dX1_opens_11 : decode cX1_opens 11 = .ok (.dup, 1) := by decide +kernel
theorem dX1_opens_12 : decode cX1_opens 12 = .ok (.getfield 38, 3) := by decide +kernel
theorem dX1_opens_15 : decode cX1_opens 15 = .ok (.iconst 1, 1) := by decide +kernel
theorem dX1_opens_16 : decode cX1_opens 16 = .ok (.iadd, 1) := by decide +kernel
theorem dX1_opens_17 : decode cX1_opens 17 = .ok (.putfield 38, 3) := by decide +kernel
theorem dX1_opens_20 : decode cX1_opens 20 = .ok (.iconst 1, 1) := by decide +kernel
theorem dX1_opens_21 : decode cX1_opens 21 = .ok (.ireturn, 1) := by decide +kernel
theorem dX1_advance_0 : decode cX1_advance 0 = .ok (.aload_n 0, 1) := by decide +kernel
theorem dX1_advance_1 : decode cX1_advance 1 = .ok (.getfield 29, 3) := by decide +kernel
theorem dX1_advance_4 : decode cX1_advance 4 = .ok (.aload_n 0, 1) := by decide +kernel
theorem dX1_advance_5 : decode cX1_advance 5 = .ok (.getfield 15, 3) := by decide +kernel
theorem dX1_advance_8 : decode cX1_advance 8 = .ok (.if_icmp .ge 50, 3) := by decide +kernel
theorem dX1_advance_11 : decode cX1_advance 11 = .ok (.aload_n 0, 1) := by decide +kernel
theorem dX1_advance_12 : decode cX1_advance 12 = .ok (.getfield 9, 3) := by decide +kernel
theorem dX1_advance_15 : decode cX1_advance 15 = .ok (.aload_n 0, 1) := by decide +kernel
theorem dX1_advance_16 : decode cX1_advance 16 = .ok (.getfield 29, 3) := by decide +kernel
theorem dX1_advance_19 : decode cX1_advance 19 = .ok (.iaload, 1) := by decide +kernel
theorem dX1_advance_20 : decode cX1_advance 20 = .ok (.bipush 32, 2) := by decide +kernel
theorem dX1_advance_22 : decode cX1_advance 22 = .ok (.if_icmp .eq 17, 3) := by decide +kernel
theorem dX1_advance_25 : decode cX1_advance 25 = .ok (.aload_n 0, 1) := by decide +kernel
theorem dX1_advance_26 : decode cX1_advance 26 = .ok (.getfield 9, 3) := by decide +kernel
theorem dX1_advance_29 : decode cX1_advance 29 = .ok (.aload_n 0, 1) := by decide +kernel
theorem dX1_advance_30 : decode cX1_advance 30 = .ok (.getfield 29, 3) := by decide +kernel
theorem dX1_advance_33 : decode cX1_advance 33 = .ok (.iaload, 1) := by decide +kernel
theorem dX1_advance_34 : decode cX1_advance 34 = .ok (.bipush 10, 2) := by decide +kernel
theorem dX1_advance_36 : decode cX1_advance 36 = .ok (.if_icmp .ne 22, 3) := by decide +kernel
theorem dX1_advance_39 : decode cX1_advance 39 = .ok (.aload_n 0, 1) := by decide +kernel
theorem dX1_advance_40 : decode cX1_advance 40 = .ok (.bipush (-2), 2) := by decide +kernel
theorem dX1_advance_42 : decode cX1_advance 42 = .ok (.putfield 32, 3) := by decide +kernel
theorem dX1_advance_45 : decode cX1_advance 45 = .ok (.aload_n 0, 1) := by decide +kernel
theorem dX1_advance_46 : decode cX1_advance 46 = .ok (.dup, 1) := by decide +kernel
theorem dX1_advance_47 : decode cX1_advance 47 = .ok (.getfield 29, 3) := by decide +kernel
theorem dX1_advance_50 : decode cX1_advance 50 = .ok (.iconst 1, 1) := by decide +kernel
theorem dX1_advance_51 : decode cX1_advance 51 = .ok (.iadd, 1) := by decide +kernel
theorem dX1_advance_52 : decode cX1_advance 52 = .ok (.putfield 29, 3) := by decide +kernel
theorem dX1_advance_55 : decode cX1_advance 55 = .ok (.goto (-55), 3) := by decide +kernel
theorem dX1_advance_58 : decode cX1_advance 58 = .ok (.aload_n 0, 1) := by decide +kernel
theorem dX1_advance_59 : decode cX1_advance 59 = .ok (.aload_n 0, 1) := by decide +kernel
theorem dX1_advance_60 : decode cX1_advance 60 = .ok (.getfield 29, 3) := by decide +kernel
theorem dX1_advance_63 : decode cX1_advance 63 = .ok (.putfield 26, 3) := by decide +kernel
theorem dX1_advance_66 : decode cX1_advance 66 = .ok (.aload_n 0, 1) := by decide +kernel
theorem dX1_advance_67 : decode cX1_advance 67 = .ok (.getfield 26, 3) := by decide +kernel
theorem dX1_advance_70 : decode cX1_advance 70 = .ok (.aload_n 0, 1) := by decide +kernel
theorem dX1_advance_71 : decode cX1_advance 71 = .ok (.getfield 15, 3) := by decide +kernel
theorem dX1_advance_74 : decode cX1_advance 74 = .ok (.if_icmp .lt 11, 3) := by decide +kernel
theorem dX1_advance_77 : decode cX1_advance 77 = .ok (.aload_n 0, 1) := by decide +kernel
theorem dX1_advance_78 : decode cX1_advance 78 = .ok (.iconst (-1), 1) := by decide +kernel
theorem dX1_advance_79 : decode cX1_advance 79 = .ok (.putfield 32, 3) := by decide +kernel
theorem dX1_advance_82 : decode cX1_advance 82 = .ok (.goto 93, 3) := by decide +kernel
theorem dX1_advance_85 : decode cX1_advance 85 = .ok (.aload_n 0, 1) := by decide +kernel
theorem dX1_advance_86 : decode cX1_advance 86 = .ok (.getfield 9, 3) := by decide +kernel
theorem dX1_advance_89 : decode cX1_advance 89 = .ok (.aload_n 0, 1) := by decide +kernel
theorem dX1_advance_90 : decode cX1_advance 90 = .ok (.getfield 26, 3) := by decide +kernel
theorem dX1_advance_93 : decode cX1_advance 93 = .ok (.iaload, 1) := by decide +kernel
theorem dX1_advance_94 : decode cX1_advance 94 = .ok (.invokestatic 93, 3) := by decide +kernel
theorem dX1_advance_97 : decode cX1_advance 97 = .ok (.ifCond .eq 10, 3) := by decide +kernel
theorem dX1_advance_100 : decode cX1_advance 100 = .ok (.aload_n 0, 1) := by decide +kernel
theorem dX1_advance_101 : decode cX1_advance 101 = .ok (.invokevirtual 96, 3) := by decide +kernel
theorem dX1_advance_104 : decode cX1_advance 104 = .ok (.goto 71, 3) := by decide +kernel
theorem dX1_advance_107 : decode cX1_advance 107 = .ok (.aload_n 0, 1) := by decide +kernel
theorem dX1_advance_108 : decode cX1_advance 108 = .ok (.getfield 9, 3) := by decide +kernel
theorem dX1_advance_111 : decode cX1_advance 111 = .ok (.aload_n 0, 1) := by decide +kernel
theorem dX1_advance_112 : decode cX1_advance 112 = .ok (.getfield 26, 3) := by decide +kernel
theorem dX1_advance_115 : decode cX1_advance 115 = .ok (.iaload, 1) := by decide +kernel
theorem dX1_advance_116 : decode cX1_advance 116 = .ok (.invokestatic 99, 3) := by decide +kernel
theorem dX1_advance_119 : decode cX1_advance 119 = .ok (.ifCond .eq 10, 3) := by decide +kernel
theorem dX1_advance_122 : decode cX1_advance 122 = .ok (.aload_n 0, 1) := by decide +kernel
theorem dX1_advance_123 : decode cX1_advance 123 = .ok (.invokevirtual 102, 3) := by decide +kernel
theorem dX1_advance_126 : decode cX1_advance 126 = .ok (.goto 49, 3) := by decide +kernel
theorem dX1_advance_129 : decode cX1_advance 129 = .ok (.aload_n 0, 1) := by decide +kernel
theorem dX1_advance_130 : decode cX1_advance 130 = .ok (.ldc 105, 2) := by decide +kernel
theorem dX1_advance_132 : decode cX1_advance 132 = .ok (.aload_n 0, 1) := by decide +kernel
theorem dX1_advance_133 : decode cX1_advance 133 = .ok (.getfield 9, 3) := by decide +kernel
theorem dX1_advance_136 : decode cX1_advance 136 = .ok (.aload_n 0, 1) := by decide +kernel
theorem dX1_advance_137 : decode cX1_advance 137 = .ok (.getfield 26, 3) := by decide +kernel
theorem dX1_advance_140 : decode cX1_advance 140 = .ok (.iaload, 1) := by decide +kernel
theorem dX1_advance_141 : decode cX1_advance 141 = .ok (.i2c, 1) := by decide +kernel
theorem dX1_advance_142 : decode cX1_advance 142 = .ok (.invokevirtual 107, 3) := by decide +kernel
theorem dX1_advance_145 : decode cX1_advance 145 = .ok (.ifCond .lt 15, 3) := by decide +kernel
theorem dX1_advance_148 : decode cX1_advance 148 = .ok (.aload_n 0, 1) := by decide +kernel
theorem dX1_advance_149 : decode cX1_advance 149 = .ok (.getfield 9, 3) := by decide +kernel
theorem dX1_advance_152 : decode cX1_advance 152 = .ok (.aload_n 0, 1) := by decide +kernel
theorem dX1_advance_153 : decode cX1_advance 153 = .ok (.getfield 26, 3) := by decide +kernel
theorem dX1_advance_156 : decode cX1_advance 156 = .ok (.iaload, 1) := by decide +kernel
theorem dX1_advance_157 : decode cX1_advance 157 = .ok (.goto 5, 3) := by decide +kernel
theorem dX1_advance_160 : decode cX1_advance 160 = .ok (.bipush (-2), 2) := by decide +kernel
theorem dX1_advance_162 : decode cX1_advance 162 = .ok (.putfield 32, 3) := by decide +kernel
theorem dX1_advance_165 : decode cX1_advance 165 = .ok (.aload_n 0, 1) := by decide +kernel
theorem dX1_advance_166 : decode cX1_advance 166 = .ok (.dup, 1) := by decide +kernel
theorem dX1_advance_167 : decode cX1_advance 167 = .ok (.getfield 29, 3) := by decide +kernel
theorem dX1_advance_170 : decode cX1_advance 170 = .ok (.iconst 1, 1) := by decide +kernel
theorem dX1_advance_171 : decode cX1_advance 171 = .ok (.iadd, 1) := by decide +kernel
theorem dX1_advance_172 : decode cX1_advance 172 = .ok (.putfield 29, 3) := by decide +kernel
theorem dX1_advance_175 : decode cX1_advance 175 = .ok (.return_, 1) := by decide +kernel
theorem dX1_isLetter_0 : decode cX1_isLetter 0 = .ok (.iload_n 0, 1) := by decide +kernel
theorem dX1_isLetter_1 : decode cX1_isLetter 1 = .ok (.bipush 97, 2) := by decide +kernel
theorem dX1_isLetter_3 : decode cX1_isLetter 3 = .ok (.if_icmp .lt 13, 3) := by decide +kernel
theorem dX1_isLetter_6 : decode cX1_isLetter 6 = .ok (.iload_n 0, 1) := by decide +kernel
theorem dX1_isLetter_7 : decode cX1_isLetter 7 = .ok (.bipush 122, 2) := by decide +kernel
theorem dX1_isLetter_9 : decode cX1_isLetter 9 = .ok (.if_icmp .gt 7, 3) := by decide +kernel
theorem dX1_isLetter_12 : decode cX1_isLetter 12 = .ok (.iconst 1, 1) := by decide +kernel
theorem dX1_isLetter_13 : decode cX1_isLetter 13 = .ok (.goto 4, 3) := by decide +kernel
theorem dX1_isLetter_16 : decode cX1_isLetter 16 = .ok (.iconst 0, 1) := by decide +kernel
theorem dX1_isLetter_17 : decode cX1_isLetter 17 = .ok (.ireturn, 1) := by decide +kernel
theorem dX1_isDigit_0 : decode cX1_isDigit 0 = .ok (.iload_n 0, 1) := by decide +kernel
theorem dX1_isDigit_1 : decode cX1_isDigit 1 = .ok (.bipush 48, 2) := by decide +kernel
theorem dX1_isDigit_3 : decode cX1_isDigit 3 = .ok (.if_icmp .lt 13, 3) := by decide +kernel
theorem dX1_isDigit_6 : decode cX1_isDigit 6 = .ok (.iload_n 0, 1) := by decide +kernel
theorem dX1_isDigit_7 : decode cX1_isDigit 7 = .ok (.bipush 57, 2) := by decide +kernel
theorem dX1_isDigit_9 : decode cX1_isDigit 9 = .ok (.if_icmp .gt 7, 3) := by decide +kernel
theorem dX1_isDigit_12 : decode cX1_isDigit 12 = .ok (.iconst 1, 1) := by decide +kernel
theorem dX1_isDigit_13 : decode cX1_isDigit 13 = .ok (.goto 4, 3) := by decide +kernel
theorem dX1_isDigit_16 : decode cX1_isDigit 16 = .ok (.iconst 0, 1) := by decide +kernel
theorem dX1_isDigit_17 : decode cX1_isDigit 17 = .ok (.ireturn, 1) := by decide +kernel
theorem dX1_takeNumber_0 : decode cX1_takeNumber 0 = .ok (.aload_n 0, 1) := by decide +kernel
theorem dX1_takeNumber_1 : decode cX1_takeNumber 1 = .ok (.iconst 0, 1) := by decide +kernel
theorem dX1_takeNumber_2 : decode cX1_takeNumber 2 = .ok (.putfield 35, 3) := by decide +kernel
theorem dX1_takeNumber_5 : decode cX1_takeNumber 5 = .ok (.aload_n 0, 1) := by decide +kernel
theorem dX1_takeNumber_6 : decode cX1_takeNumber 6 = .ok (.getfield 29, 3) := by decide +kernel
theorem dX1_takeNumber_9 : decode cX1_takeNumber 9 = .ok (.aload_n 0, 1) := by decide +kernel
theorem dX1_takeNumber_10 : decode cX1_takeNumber 10 = .ok (.getfield 15, 3) := by decide +kernel
theorem dX1_takeNumber_13 : decode cX1_takeNumber 13 = .ok (.if_icmp .ge 55, 3) := by decide +kernel
theorem dX1_takeNumber_16 : decode cX1_takeNumber 16 = .ok (.aload_n 0, 1) := by decide +kernel
theorem dX1_takeNumber_17 : decode cX1_takeNumber 17 = .ok (.getfield 9, 3) := by decide +kernel
theorem dX1_takeNumber_20 : decode cX1_takeNumber 20 = .ok (.aload_n 0, 1) := by decide +kernel
theorem dX1_takeNumber_21 : decode cX1_takeNumber 21 = .ok (.getfield 29, 3) := by decide +kernel
theorem dX1_takeNumber_24 : decode cX1_takeNumber 24 = .ok (.iaload, 1) := by decide +kernel
theorem dX1_takeNumber_25 : decode cX1_takeNumber 25 = .ok (.invokestatic 99, 3) := by decide +kernel
theorem dX1_takeNumber_28 : decode cX1_takeNumber 28 = .ok (.ifCond .eq 40, 3) := by decide +kernel
theorem dX1_takeNumber_31 : decode cX1_takeNumber 31 = .ok (.aload_n 0, 1) := by decide +kernel
theorem dX1_takeNumber_32 : decode cX1_takeNumber 32 = .ok (.aload_n 0, 1) := by decide +kernel
theorem dX1_takeNumber_33 : decode cX1_takeNumber 33 = .ok (.getfield 35, 3) := by decide +kernel
theorem dX1_takeNumber_36 : decode cX1_takeNumber 36 = .ok (.bipush 10, 2) := by decide +kernel
theorem dX1_takeNumber_38 : decode cX1_takeNumber 38 = .ok (.imul, 1) := by decide +kernel
theorem dX1_takeNumber_39 : decode cX1_takeNumber 39 = .ok (.aload_n 0, 1) := by decide +kernel
theorem dX1_takeNumber_40 : decode cX1_takeNumber 40 = .ok (.getfield 9, 3) := by decide +kernel
theorem dX1_takeNumber_43 : decode cX1_takeNumber 43 = .ok (.aload_n 0, 1) := by decide +kernel
theorem dX1_takeNumber_44 : decode cX1_takeNumber 44 = .ok (.getfield 29, 3) := by decide +kernel
theorem dX1_takeNumber_47 : decode cX1_takeNumber 47 = .ok (.iaload, 1) := by decide +kernel
theorem dX1_takeNumber_48 : decode cX1_takeNumber 48 = .ok (.iadd, 1) := by decide +kernel
theorem dX1_takeNumber_49 : decode cX1_takeNumber 49 = .ok (.bipush 48, 2) := by decide +kernel
theorem dX1_takeNumber_51 : decode cX1_takeNumber 51 = .ok (.isub, 1) := by decide +kernel
theorem dX1_takeNumber_52 : decode cX1_takeNumber 52 = .ok (.putfield 35, 3) := by decide +kernel
theorem dX1_takeNumber_55 : decode cX1_takeNumber 55 = .ok (.aload_n 0, 1) := by decide +kernel
theorem dX1_takeNumber_56 : decode cX1_takeNumber 56 = .ok (.dup, 1) := by decide +kernel
theorem dX1_takeNumber_57 : decode cX1_takeNumber 57 = .ok (.getfield 29, 3) := by decide +kernel
theorem dX1_takeNumber_60 : decode cX1_takeNumber 60 = .ok (.iconst 1, 1) := by decide +kernel
theorem dX1_takeNumber_61 : decode cX1_takeNumber 61 = .ok (.iadd, 1) := by decide +kernel
theorem dX1_takeNumber_62 : decode cX1_takeNumber 62 = .ok (.putfield 29, 3) := by decide +kernel
theorem dX1_takeNumber_65 : decode cX1_takeNumber 65 = .ok (.goto (-60), 3) := by decide +kernel
theorem dX1_takeNumber_68 : decode cX1_takeNumber 68 = .ok (.aload_n 0, 1) := by decide +kernel
theorem dX1_takeNumber_69 : decode cX1_takeNumber 69 = .ok (.aload_n 0, 1) := by decide +kernel
theorem dX1_takeNumber_70 : decode cX1_takeNumber 70 = .ok (.getfield 29, 3) := by decide +kernel
theorem dX1_takeNumber_73 : decode cX1_takeNumber 73 = .ok (.aload_n 0, 1) := by decide +kernel
theorem dX1_takeNumber_74 : decode cX1_takeNumber 74 = .ok (.getfield 26, 3) := by decide +kernel
theorem dX1_takeNumber_77 : decode cX1_takeNumber 77 = .ok (.isub, 1) := by decide +kernel
theorem dX1_takeNumber_78 : decode cX1_takeNumber 78 = .ok (.iconst 4, 1) := by decide +kernel
theorem dX1_takeNumber_79 : decode cX1_takeNumber 79 = .ok (.if_icmp .le 8, 3) := by decide +kernel
theorem dX1_takeNumber_82 : decode cX1_takeNumber 82 = .ok (.bipush (-2), 2) := by decide +kernel
theorem dX1_takeNumber_84 : decode cX1_takeNumber 84 = .ok (.goto 6, 3) := by decide +kernel
theorem dX1_takeNumber_87 : decode cX1_takeNumber 87 = .ok (.sipush 256, 3) := by decide +kernel
theorem dX1_takeNumber_90 : decode cX1_takeNumber 90 = .ok (.putfield 32, 3) := by decide +kernel
theorem dX1_takeNumber_93 : decode cX1_takeNumber 93 = .ok (.return_, 1) := by decide +kernel
theorem dX1_takeWord_0 : decode cX1_takeWord 0 = .ok (.aload_n 0, 1) := by decide +kernel
theorem dX1_takeWord_1 : decode cX1_takeWord 1 = .ok (.getfield 29, 3) := by decide +kernel
theorem dX1_takeWord_4 : decode cX1_takeWord 4 = .ok (.aload_n 0, 1) := by decide +kernel
theorem dX1_takeWord_5 : decode cX1_takeWord 5 = .ok (.getfield 15, 3) := by decide +kernel
theorem dX1_takeWord_8 : decode cX1_takeWord 8 = .ok (.if_icmp .ge 37, 3) := by decide +kernel
theorem dX1_takeWord_11 : decode cX1_takeWord 11 = .ok (.aload_n 0, 1) := by decide +kernel
theorem dX1_takeWord_12 : decode cX1_takeWord 12 = .ok (.getfield 9, 3) := by decide +kernel
theorem dX1_takeWord_15 : decode cX1_takeWord 15 = .ok (.aload_n 0, 1) := by decide +kernel
theorem dX1_takeWord_16 : decode cX1_takeWord 16 = .ok (.getfield 29, 3) := by decide +kernel
theorem dX1_takeWord_19 : decode cX1_takeWord 19 = .ok (.iaload, 1) := by decide +kernel
theorem dX1_takeWord_20 : decode cX1_takeWord 20 = .ok (.invokestatic 93, 3) := by decide +kernel
theorem dX1_takeWord_23 : decode cX1_takeWord 23 = .ok (.ifCond .eq 22, 3) := by decide +kernel
theorem dX1_takeWord_26 : decode cX1_takeWord 26 = .ok (.aload_n 0, 1) := by decide +kernel
theorem dX1_takeWord_27 : decode cX1_takeWord 27 = .ok (.bipush (-2), 2) := by decide +kernel
theorem dX1_takeWord_29 : decode cX1_takeWord 29 = .ok (.putfield 32, 3) := by decide +kernel
theorem dX1_takeWord_32 : decode cX1_takeWord 32 = .ok (.aload_n 0, 1) := by decide +kernel
theorem dX1_takeWord_33 : decode cX1_takeWord 33 = .ok (.dup, 1) := by decide +kernel
theorem dX1_takeWord_34 : decode cX1_takeWord 34 = .ok (.getfield 29, 3) := by decide +kernel
theorem dX1_takeWord_37 : decode cX1_takeWord 37 = .ok (.iconst 1, 1) := by decide +kernel
theorem dX1_takeWord_38 : decode cX1_takeWord 38 = .ok (.iadd, 1) := by decide +kernel
theorem dX1_takeWord_39 : decode cX1_takeWord 39 = .ok (.putfield 29, 3) := by decide +kernel
theorem dX1_takeWord_42 : decode cX1_takeWord 42 = .ok (.goto (-42), 3) := by decide +kernel
theorem dX1_takeWord_45 : decode cX1_takeWord 45 = .ok (.iconst 0, 1) := by decide +kernel
theorem dX1_takeWord_46 : decode cX1_takeWord 46 = .ok (.istore_n 1, 1) := by decide +kernel
theorem dX1_takeWord_47 : decode cX1_takeWord 47 = .ok (.iconst 0, 1) := by decide +kernel
theorem dX1_takeWord_48 : decode cX1_takeWord 48 = .ok (.istore_n 2, 1) := by decide +kernel
theorem dX1_takeWord_49 : decode cX1_takeWord 49 = .ok (.iload_n 2, 1) := by decide +kernel
theorem dX1_takeWord_50 : decode cX1_takeWord 50 = .ok (.ldc 113, 2) := by decide +kernel
theorem dX1_takeWord_52 : decode cX1_takeWord 52 = .ok (.invokevirtual 115, 3) := by decide +kernel
theorem dX1_takeWord_55 : decode cX1_takeWord 55 = .ok (.if_icmp .ge 66, 3) := by decide +kernel
theorem dX1_takeWord_58 : decode cX1_takeWord 58 = .ok (.ldc 113, 2) := by decide +kernel
theorem dX1_takeWord_60 : decode cX1_takeWord 60 = .ok (.iload_n 2, 1) := by decide +kernel
theorem dX1_takeWord_61 : decode cX1_takeWord 61 = .ok (.invokevirtual 119, 3) := by decide +kernel
theorem dX1_takeWord_64 : decode cX1_takeWord 64 = .ok (.bipush 32, 2) := by decide +kernel
theorem dX1_takeWord_66 : decode cX1_takeWord 66 = .ok (.if_icmp .eq 6, 3) := by decide +kernel
theorem dX1_takeWord_69 : decode cX1_takeWord 69 = .ok (.goto 46, 3) := by decide +kernel
theorem dX1_takeWord_72 : decode cX1_takeWord 72 = .ok (.aload_n 0, 1) := by decide +kernel
theorem dX1_takeWord_73 : decode cX1_takeWord 73 = .ok (.iload_n 2, 1) := by decide +kernel
theorem dX1_takeWord_74 : decode cX1_takeWord 74 = .ok (.iconst 1, 1) := by decide +kernel
theorem dX1_takeWord_75 : decode cX1_takeWord 75 = .ok (.iadd, 1) := by decide +kernel
theorem dX1_takeWord_76 : decode cX1_takeWord 76 = .ok (.invokevirtual 123, 3) := by decide +kernel
theorem dX1_takeWord_79 : decode cX1_takeWord 79 = .ok (.ifCond .eq 33, 3) := by decide +kernel
theorem dX1_takeWord_82 : decode cX1_takeWord 82 = .ok (.aload_n 0, 1) := by decide +kernel
theorem dX1_takeWord_83 : decode cX1_takeWord 83 = .ok (.iload_n 1, 1) := by decide +kernel
theorem dX1_takeWord_84 : decode cX1_takeWord 84 = .ok (.bipush 6, 2) := by decide +kernel
theorem dX1_takeWord_86 : decode cX1_takeWord 86 = .ok (.if_icmp .ge 9, 3) := by decide +kernel
theorem dX1_takeWord_89 : decode cX1_takeWord 89 = .ok (.sipush 257, 3) := by decide +kernel
theorem dX1_takeWord_92 : decode cX1_takeWord 92 = .ok (.goto 11, 3) := by decide +kernel
theorem dX1_takeWord_95 : decode cX1_takeWord 95 = .ok (.sipush 258, 3) := by decide +kernel
theorem dX1_takeWord_98 : decode cX1_takeWord 98 = .ok (.iload_n 1, 1) := by decide +kernel
theorem dX1_takeWord_99 : decode cX1_takeWord 99 = .ok (.iadd, 1) := by decide +kernel
theorem dX1_takeWord_100 : decode cX1_takeWord 100 = .ok (.bipush 6, 2) := by decide +kernel
theorem dX1_takeWord_102 : decode cX1_takeWord 102 = .ok (.isub, 1) := by decide +kernel
theorem dX1_takeWord_103 : decode cX1_takeWord 103 = .ok (.putfield 32, 3) := by decide +kernel
theorem dX1_takeWord_106 : decode cX1_takeWord 106 = .ok (.aload_n 0, 1) := by decide +kernel
theorem dX1_takeWord_107 : decode cX1_takeWord 107 = .ok (.iload_n 1, 1) := by decide +kernel
theorem dX1_takeWord_108 : decode cX1_takeWord 108 = .ok (.putfield 35, 3) := by decide +kernel
theorem dX1_takeWord_111 : decode cX1_takeWord 111 = .ok (.return_, 1) := by decide +kernel
theorem dX1_takeWord_112 : decode cX1_takeWord 112 = .ok (.iinc 1 1, 3) := by decide +kernel
theorem dX1_takeWord_115 : decode cX1_takeWord 115 = .ok (.iinc 2 1, 3) := by decide +kernel
theorem dX1_takeWord_118 : decode cX1_takeWord 118 = .ok (.goto (-69), 3) := by decide +kernel
theorem dX1_takeWord_121 : decode cX1_takeWord 121 = .ok (.return_, 1) := by decide +kernel
theorem dX1_isWordAt_0 : decode cX1_isWordAt 0 = .ok (.aload_n 0, 1) := by decide +kernel
theorem dX1_isWordAt_1 : decode cX1_isWordAt 1 = .ok (.getfield 29, 3) := by decide +kernel
theorem dX1_isWordAt_4 : decode cX1_isWordAt 4 = .ok (.aload_n 0, 1) := by decide +kernel
theorem dX1_isWordAt_5 : decode cX1_isWordAt 5 = .ok (.getfield 26, 3) := by decide +kernel
theorem dX1_isWordAt_8 : decode cX1_isWordAt 8 = .ok (.isub, 1) := by decide +kernel
theorem dX1_isWordAt_9 : decode cX1_isWordAt 9 = .ok (.istore_n 2, 1) := by decide +kernel
theorem dX1_isWordAt_10 : decode cX1_isWordAt 10 = .ok (.iload_n 1, 1) := by decide +kernel
theorem dX1_isWordAt_11 : decode cX1_isWordAt 11 = .ok (.iload_n 2, 1) := by decide +kernel
theorem dX1_isWordAt_12 : decode cX1_isWordAt 12 = .ok (.iadd, 1) := by decide +kernel
theorem dX1_isWordAt_13 : decode cX1_isWordAt 13 = .ok (.ldc 113, 2) := by decide +kernel
theorem dX1_isWordAt_15 : decode cX1_isWordAt 15 = .ok (.invokevirtual 115, 3) := by decide +kernel
theorem dX1_isWordAt_18 : decode cX1_isWordAt 18 = .ok (.if_icmp .ge 16, 3) := by decide +kernel
theorem dX1_isWordAt_21 : decode cX1_isWordAt 21 = .ok (.ldc 113, 2) := by decide +kernel
theorem dX1_isWordAt_23 : decode cX1_isWordAt 23 = .ok (.iload_n 1, 1) := by decide +kernel
theorem dX1_isWordAt_24 : decode cX1_isWordAt 24 = .ok (.iload_n 2, 1) := by decide +kernel
theorem dX1_isWordAt_25 : decode cX1_isWordAt 25 = .ok (.iadd, 1) := by decide +kernel
theorem dX1_isWordAt_26 : decode cX1_isWordAt 26 = .ok (.invokevirtual 119, 3) := by decide +kernel
theorem dX1_isWordAt_29 : decode cX1_isWordAt 29 = .ok (.bipush 32, 2) := by decide +kernel
theorem dX1_isWordAt_31 : decode cX1_isWordAt 31 = .ok (.if_icmp .eq 5, 3) := by decide +kernel
theorem dX1_isWordAt_34 : decode cX1_isWordAt 34 = .ok (.iconst 0, 1) := by decide +kernel
theorem dX1_isWordAt_35 : decode cX1_isWordAt 35 = .ok (.ireturn, 1) := by decide +kernel
theorem dX1_isWordAt_36 : decode cX1_isWordAt 36 = .ok (.iconst 0, 1) := by decide +kernel
theorem dX1_isWordAt_37 : decode cX1_isWordAt 37 = .ok (.istore_n 3, 1) := by decide +kernel
theorem dX1_isWordAt_38 : decode cX1_isWordAt 38 = .ok (.iload_n 3, 1) := by decide +kernel
theorem dX1_isWordAt_39 : decode cX1_isWordAt 39 = .ok (.iload_n 2, 1) := by decide +kernel
theorem dX1_isWordAt_40 : decode cX1_isWordAt 40 = .ok (.if_icmp .ge 33, 3) := by decide +kernel
theorem dX1_isWordAt_43 : decode cX1_isWordAt 43 = .ok (.ldc 113, 2) := by decide +kernel
theorem dX1_isWordAt_45 : decode cX1_isWordAt 45 = .ok (.iload_n 1, 1) := by decide +kernel
theorem dX1_isWordAt_46 : decode cX1_isWordAt 46 = .ok (.iload_n 3, 1) := by decide +kernel
theorem dX1_isWordAt_47 : decode cX1_isWordAt 47 = .ok (.iadd, 1) := by decide +kernel
theorem dX1_isWordAt_48 : decode cX1_isWordAt 48 = .ok (.invokevirtual 119, 3) := by decide +kernel
theorem dX1_isWordAt_51 : decode cX1_isWordAt 51 = .ok (.aload_n 0, 1) := by decide +kernel
theorem dX1_isWordAt_52 : decode cX1_isWordAt 52 = .ok (.getfield 9, 3) := by decide +kernel
theorem dX1_isWordAt_55 : decode cX1_isWordAt 55 = .ok (.aload_n 0, 1) := by decide +kernel
theorem dX1_isWordAt_56 : decode cX1_isWordAt 56 = .ok (.getfield 26, 3) := by decide +kernel
theorem dX1_isWordAt_59 : decode cX1_isWordAt 59 = .ok (.iload_n 3, 1) := by decide +kernel
theorem dX1_isWordAt_60 : decode cX1_isWordAt 60 = .ok (.iadd, 1) := by decide +kernel
theorem dX1_isWordAt_61 : decode cX1_isWordAt 61 = .ok (.iaload, 1) := by decide +kernel
theorem dX1_isWordAt_62 : decode cX1_isWordAt 62 = .ok (.if_icmp .eq 5, 3) := by decide +kernel
theorem dX1_isWordAt_65 : decode cX1_isWordAt 65 = .ok (.iconst 0, 1) := by decide +kernel
theorem dX1_isWordAt_66 : decode cX1_isWordAt 66 = .ok (.ireturn, 1) := by decide +kernel
theorem dX1_isWordAt_67 : decode cX1_isWordAt 67 = .ok (.iinc 3 1, 3) := by decide +kernel
theorem dX1_isWordAt_70 : decode cX1_isWordAt 70 = .ok (.goto (-32), 3) := by decide +kernel
theorem dX1_isWordAt_73 : decode cX1_isWordAt 73 = .ok (.iconst 1, 1) := by decide +kernel
theorem dX1_isWordAt_74 : decode cX1_isWordAt 74 = .ok (.ireturn, 1) := by decide +kernel
theorem dX2_init_0 : decode cX2_init 0 = .ok (.aload_n 0, 1) := by decide +kernel
theorem dX2_init_1 : decode cX2_init 1 = .ok (.invokespecial 3, 3) := by decide +kernel
theorem dX2_init_4 : decode cX2_init 4 = .ok (.aload_n 0, 1) := by decide +kernel
theorem dX2_init_5 : decode cX2_init 5 = .ok (.iconst (-1), 1) := by decide +kernel
theorem dX2_init_6 : decode cX2_init 6 = .ok (.putfield 9, 3) := by decide +kernel
theorem dX2_init_9 : decode cX2_init 9 = .ok (.aload_n 0, 1) := by decide +kernel
theorem dX2_init_10 : decode cX2_init 10 = .ok (.iconst 0, 1) := by decide +kernel
theorem dX2_init_11 : decode cX2_init 11 = .ok (.putfield 15, 3) := by decide +kernel
theorem dX2_init_14 : decode cX2_init 14 = .ok (.aload_n 0, 1) := by decide +kernel
theorem dX2_init_15 : decode cX2_init 15 = .ok (.bipush 40, 2) := by decide +kernel
theorem dX2_init_17 : decode cX2_init 17 = .ok (.newarray .int, 2) := by decide +kernel
theorem dX2_init_19 : decode cX2_init 19 = .ok (.putfield 18, 3) := by decide +kernel
theorem dX2_init_22 : decode cX2_init 22 = .ok (.return_, 1) := by decide +kernel
theorem dX2_become_0 : decode cX2_become 0 = .ok (.aload_n 0, 1) := by decide +kernel
theorem dX2_become_1 : decode cX2_become 1 = .ok (.iload_n 1, 1) := by decide +kernel
theorem dX2_become_2 : decode cX2_become 2 = .ok (.putfield 9, 3) := by decide +kernel
theorem dX2_become_5 : decode cX2_become 5 = .ok (.aload_n 0, 1) := by decide +kernel
theorem dX2_become_6 : decode cX2_become 6 = .ok (.iload_n 2, 1) := by decide +kernel
theorem dX2_become_7 : decode cX2_become 7 = .ok (.putfield 15, 3) := by decide +kernel
theorem dX2_become_10 : decode cX2_become 10 = .ok (.aload_n 0, 1) := by decide +kernel
theorem dX2_become_11 : decode cX2_become 11 = .ok (.getfield 18, 3) := by decide +kernel
theorem dX2_become_14 : decode cX2_become 14 = .ok (.iconst 0, 1) := by decide +kernel
theorem dX2_become_15 : decode cX2_become 15 = .ok (.invokestatic 22, 3) := by decide +kernel
theorem dX2_become_18 : decode cX2_become 18 = .ok (.return_, 1) := by decide +kernel
theorem dX2_isMissing_0 : decode cX2_isMissing 0 = .ok (.aload_n 0, 1) := by decide +kernel
theorem dX2_isMissing_1 : decode cX2_isMissing 1 = .ok (.getfield 9, 3) := by decide +kernel
theorem dX2_isMissing_4 : decode cX2_isMissing 4 = .ok (.iconst (-1), 1) := by decide +kernel
theorem dX2_isMissing_5 : decode cX2_isMissing 5 = .ok (.if_icmp .ne 7, 3) := by decide +kernel
theorem dX2_isMissing_8 : decode cX2_isMissing 8 = .ok (.iconst 1, 1) := by decide +kernel
theorem dX2_isMissing_9 : decode cX2_isMissing 9 = .ok (.goto 4, 3) := by decide +kernel
theorem dX2_isMissing_12 : decode cX2_isMissing 12 = .ok (.iconst 0, 1) := by decide +kernel
theorem dX2_isMissing_13 : decode cX2_isMissing 13 = .ok (.ireturn, 1) := by decide +kernel
theorem dX2_holds_0 : decode cX2_holds 0 = .ok (.iload_n 1, 1) := by decide +kernel
theorem dX2_holds_1 : decode cX2_holds 1 = .ok (.ifCond .lt 29, 3) := by decide +kernel
theorem dX2_holds_4 : decode cX2_holds 4 = .ok (.iload_n 2, 1) := by decide +kernel
theorem dX2_holds_5 : decode cX2_holds 5 = .ok (.ifCond .lt 25, 3) := by decide +kernel
theorem dX2_holds_8 : decode cX2_holds 8 = .ok (.iload_n 1, 1) := by decide +kernel
theorem dX2_holds_9 : decode cX2_holds 9 = .ok (.aload_n 0, 1) := by decide +kernel
theorem dX2_holds_10 : decode cX2_holds 10 = .ok (.getfield 15, 3) := by decide +kernel
theorem dX2_holds_13 : decode cX2_holds 13 = .ok (.if_icmp .gt 17, 3) := by decide +kernel
theorem dX2_holds_16 : decode cX2_holds 16 = .ok (.iload_n 2, 1) := by decide +kernel
theorem dX2_holds_17 : decode cX2_holds 17 = .ok (.aload_n 0, 1) := by decide +kernel
theorem dX2_holds_18 : decode cX2_holds 18 = .ok (.getfield 15, 3) := by decide +kernel
theorem dX2_holds_21 : decode cX2_holds 21 = .ok (.iload_n 1, 1) := by decide +kernel
theorem dX2_holds_22 : decode cX2_holds 22 = .ok (.isub, 1) := by decide +kernel
theorem dX2_holds_23 : decode cX2_holds 23 = .ok (.if_icmp .gt 7, 3) := by decide +kernel
theorem dX2_holds_26 : decode cX2_holds 26 = .ok (.iconst 1, 1) := by decide +kernel
theorem dX2_holds_27 : decode cX2_holds 27 = .ok (.goto 4, 3) := by decide +kernel
theorem dX2_holds_30 : decode cX2_holds 30 = .ok (.iconst 0, 1) := by decide +kernel
theorem dX2_holds_31 : decode cX2_holds 31 = .ok (.ireturn, 1) := by decide +kernel
theorem dX2_item_0 : decode cX2_item 0 = .ok (.iload_n 1, 1) := by decide +kernel
theorem dX2_item_1 : decode cX2_item 1 = .ok (.aload_n 0, 1) := by decide +kernel
theorem dX2_item_2 : decode cX2_item 2 = .ok (.getfield 15, 3) := by decide +kernel
theorem dX2_item_5 : decode cX2_item 5 = .ok (.invokestatic 28, 3) := by decide +kernel
theorem dX2_item_8 : decode cX2_item 8 = .ok (.ifCond .eq 21, 3) := by decide +kernel
theorem dX2_item_11 : decode cX2_item 11 = .ok (.iload_n 1, 1) := by decide +kernel
theorem dX2_item_12 : decode cX2_item 12 = .ok (.aload_n 0, 1) := by decide +kernel
theorem dX2_item_13 : decode cX2_item 13 = .ok (.getfield 18, 3) := by decide +kernel
theorem dX2_item_16 : decode cX2_item 16 = .ok (.arraylength, 1) := by decide +kernel
theorem dX2_item_17 : decode cX2_item 17 = .ok (.if_icmp .ge 12, 3) := by decide +kernel
theorem dX2_item_20 : decode cX2_item 20 = .ok (.aload_n 0, 1) := by decide +kernel
theorem dX2_item_21 : decode cX2_item 21 = .ok (.getfield 18, 3) := by decide +kernel
theorem dX2_item_24 : decode cX2_item 24 = .ok (.iload_n 1, 1) := by decide +kernel
theorem dX2_item_25 : decode cX2_item 25 = .ok (.iaload, 1) := by decide +kernel
theorem dX2_item_26 : decode cX2_item 26 = .ok (.goto 4, 3) := by decide +kernel
theorem dX2_item_29 : decode cX2_item 29 = .ok (.iconst (-1), 1) := by decide +kernel
theorem dX2_item_30 : decode cX2_item 30 = .ok (.ireturn, 1) := by decide +kernel
theorem dX2_put_0 : decode cX2_put 0 = .ok (.iload_n 1, 1) := by decide +kernel
theorem dX2_put_1 : decode cX2_put 1 = .ok (.aload_n 0, 1) := by decide +kernel
theorem dX2_put_2 : decode cX2_put 2 = .ok (.getfield 15, 3) := by decide +kernel
theorem dX2_put_5 : decode cX2_put 5 = .ok (.invokestatic 28, 3) := by decide +kernel
theorem dX2_put_8 : decode cX2_put 8 = .ok (.ifCond .eq 12, 3) := by decide +kernel
theorem dX2_put_11 : decode cX2_put 11 = .ok (.iload_n 1, 1) := by decide +kernel
theorem dX2_put_12 : decode cX2_put 12 = .ok (.aload_n 0, 1) := by decide +kernel
theorem dX2_put_13 : decode cX2_put 13 = .ok (.getfield 18, 3) := by decide +kernel
theorem dX2_put_16 : decode cX2_put 16 = .ok (.arraylength, 1) := by decide +kernel
theorem dX2_put_17 : decode cX2_put 17 = .ok (.if_icmp .lt 4, 3) := by decide +kernel
theorem dX2_put_20 : decode cX2_put 20 = .ok (.return_, 1) := by decide +kernel
theorem dX2_put_21 : decode cX2_put 21 = .ok (.aload_n 0, 1) := by decide +kernel
theorem dX2_put_22 : decode cX2_put 22 = .ok (.getfield 9, 3) := by decide +kernel
theorem dX2_put_25 : decode cX2_put 25 = .ok (.ifCond .ne 14, 3) := by decide +kernel
theorem dX2_put_28 : decode cX2_put 28 = .ok (.aload_n 0, 1) := by decide +kernel
theorem dX2_put_29 : decode cX2_put 29 = .ok (.getfield 18, 3) := by decide +kernel
theorem dX2_put_32 : decode cX2_put 32 = .ok (.iload_n 1, 1) := by decide +kernel
theorem dX2_put_33 : decode cX2_put 33 = .ok (.iload_n 2, 1) := by decide +kernel
theorem dX2_put_34 : decode cX2_put 34 = .ok (.i2b, 1) := by decide +kernel
theorem dX2_put_35 : decode cX2_put 35 = .ok (.iastore, 1) := by decide +kernel
theorem dX2_put_36 : decode cX2_put 36 = .ok (.goto 29, 3) := by decide +kernel
theorem dX2_put_39 : decode cX2_put 39 = .ok (.aload_n 0, 1) := by decide +kernel
theorem dX2_put_40 : decode cX2_put 40 = .ok (.getfield 9, 3) := by decide +kernel
theorem dX2_put_43 : decode cX2_put 43 = .ok (.iconst 1, 1) := by decide +kernel
theorem dX2_put_44 : decode cX2_put 44 = .ok (.if_icmp .ne 14, 3) := by decide +kernel
theorem dX2_put_47 : decode cX2_put 47 = .ok (.aload_n 0, 1) := by decide +kernel
theorem dX2_put_48 : decode cX2_put 48 = .ok (.getfield 18, 3) := by decide +kernel
theorem dX2_put_51 : decode cX2_put 51 = .ok (.iload_n 1, 1) := by decide +kernel
theorem dX2_put_52 : decode cX2_put 52 = .ok (.iload_n 2, 1) := by decide +kernel
theorem dX2_put_53 : decode cX2_put 53 = .ok (.i2s, 1) := by decide +kernel
theorem dX2_put_54 : decode cX2_put 54 = .ok (.iastore, 1) := by decide +kernel
theorem dX2_put_55 : decode cX2_put 55 = .ok (.goto 10, 3) := by decide +kernel
theorem dX2_put_58 : decode cX2_put 58 = .ok (.aload_n 0, 1) := by decide +kernel
theorem dX2_put_59 : decode cX2_put 59 = .ok (.getfield 18, 3) := by decide +kernel
theorem dX2_put_62 : decode cX2_put 62 = .ok (.iload_n 1, 1) := by decide +kernel
theorem dX2_put_63 : decode cX2_put 63 = .ok (.iload_n 2, 1) := by decide +kernel
theorem dX2_put_64 : decode cX2_put 64 = .ok (.iastore, 1) := by decide +kernel
theorem dX2_put_65 : decode cX2_put 65 = .ok (.return_, 1) := by decide +kernel
theorem dX3_init_0 : decode cX3_init 0 = .ok (.aload_n 0, 1) := by decide +kernel
theorem dX3_init_1 : decode cX3_init 1 = .ok (.invokespecial 3, 3) := by decide +kernel
theorem dX3_init_4 : decode cX3_init 4 = .ok (.aload_n 0, 1) := by decide +kernel
theorem dX3_init_5 : decode cX3_init 5 = .ok (.bipush 8, 2) := by decide +kernel
theorem dX3_init_7 : decode cX3_init 7 = .ok (.newarray .int, 2) := by decide +kernel
theorem dX3_init_9 : decode cX3_init 9 = .ok (.dup, 1) := by decide +kernel
theorem dX3_init_10 : decode cX3_init 10 = .ok (.iconst 0, 1) := by decide +kernel
theorem dX3_init_11 : decode cX3_init 11 = .ok (.iconst 0, 1) := by decide +kernel
theorem dX3_init_12 : decode cX3_init 12 = .ok (.iastore, 1) := by decide +kernel
theorem dX3_init_13 : decode cX3_init 13 = .ok (.dup, 1) := by decide +kernel
theorem dX3_init_14 : decode cX3_init 14 = .ok (.iconst 1, 1) := by decide +kernel
theorem dX3_init_15 : decode cX3_init 15 = .ok (.bipush 9, 2) := by decide +kernel
theorem dX3_init_17 : decode cX3_init 17 = .ok (.iastore, 1) := by decide +kernel
theorem dX3_init_18 : decode cX3_init 18 = .ok (.dup, 1) := by decide +kernel
theorem dX3_init_19 : decode cX3_init 19 = .ok (.iconst 2, 1) := by decide +kernel
theorem dX3_init_20 : decode cX3_init 20 = .ok (.iconst 0, 1) := by decide +kernel
theorem dX3_init_21 : decode cX3_init 21 = .ok (.iastore, 1) := by decide +kernel
theorem dX3_init_22 : decode cX3_init 22 = .ok (.dup, 1) := by decide +kernel
theorem dX3_init_23 : decode cX3_init 23 = .ok (.iconst 3, 1) := by decide +kernel
theorem dX3_init_24 : decode cX3_init 24 = .ok (.sipush 199, 3) := by decide +kernel
theorem dX3_init_27 : decode cX3_init 27 = .ok (.iastore, 1) := by decide +kernel
theorem dX3_init_28 : decode cX3_init 28 = .ok (.dup, 1) := by decide +kernel
theorem dX3_init_29 : decode cX3_init 29 = .ok (.iconst 4, 1) := by decide +kernel
theorem dX3_init_30 : decode cX3_init 30 = .ok (.iconst 0, 1) := by decide +kernel
theorem dX3_init_31 : decode cX3_init 31 = .ok (.iastore, 1) := by decide +kernel
theorem dX3_init_32 : decode cX3_init 32 = .ok (.dup, 1) := by decide +kernel
theorem dX3_init_33 : decode cX3_init 33 = .ok (.iconst 5, 1) := by decide +kernel
theorem dX3_init_34 : decode cX3_init 34 = .ok (.iconst 0, 1) := by decide +kernel
theorem dX3_init_35 : decode cX3_init 35 = .ok (.iastore, 1) := by decide +kernel
theorem dX3_init_36 : decode cX3_init 36 = .ok (.dup, 1) := by decide +kernel
theorem dX3_init_37 : decode cX3_init 37 = .ok (.bipush 6, 2) := by decide +kernel
theorem dX3_init_39 : decode cX3_init 39 = .ok (.iconst 0, 1) := by decide +kernel
theorem dX3_init_40 : decode cX3_init 40 = .ok (.iastore, 1) := by decide +kernel
theorem dX3_init_41 : decode cX3_init 41 = .ok (.dup, 1) := by decide +kernel
theorem dX3_init_42 : decode cX3_init 42 = .ok (.bipush 7, 2) := by decide +kernel
theorem dX3_init_44 : decode cX3_init 44 = .ok (.sipush 199, 3) := by decide +kernel
theorem dX3_init_47 : decode cX3_init 47 = .ok (.iastore, 1) := by decide +kernel
theorem dX3_init_48 : decode cX3_init 48 = .ok (.putfield 9, 3) := by decide +kernel
theorem dX3_init_51 : decode cX3_init 51 = .ok (.aload_n 0, 1) := by decide +kernel
theorem dX3_init_52 : decode cX3_init 52 = .ok (.bipush 6, 2) := by decide +kernel
theorem dX3_init_54 : decode cX3_init 54 = .ok (.bipush 7, 2) := by decide +kernel
theorem dX3_init_56 : decode cX3_init 56 = .ok (.multianewarray 15 2, 4) := by decide +kernel
theorem dX3_init_60 : decode cX3_init 60 = .ok (.putfield 17, 3) := by decide +kernel
theorem dX3_init_63 : decode cX3_init 63 = .ok (.aload_n 0, 1) := by decide +kernel
theorem dX3_init_64 : decode cX3_init 64 = .ok (.aload_n 0, 1) := by decide +kernel
theorem dX3_init_65 : decode cX3_init 65 = .ok (.getfield 17, 3) := by decide +kernel
theorem dX3_init_68 : decode cX3_init 68 = .ok (.iconst 0, 1) := by decide +kernel
theorem dX3_init_69 : decode cX3_init 69 = .ok (.aaload, 1) := by decide +kernel
theorem dX3_init_70 : decode cX3_init 70 = .ok (.putfield 20, 3) := by decide +kernel
theorem dX3_init_73 : decode cX3_init 73 = .ok (.aload_n 0, 1) := by decide +kernel
theorem dX3_init_74 : decode cX3_init 74 = .ok (.aload_n 0, 1) := by decide +kernel
theorem dX3_init_75 : decode cX3_init 75 = .ok (.getfield 17, 3) := by decide +kernel
theorem dX3_init_78 : decode cX3_init 78 = .ok (.iconst 1, 1) := by decide +kernel
theorem dX3_init_79 : decode cX3_init 79 = .ok (.aaload, 1) := by decide +kernel
theorem dX3_init_80 : decode cX3_init 80 = .ok (.putfield 23, 3) := by decide +kernel
theorem dX3_init_83 : decode cX3_init 83 = .ok (.aload_n 0, 1) := by decide +kernel
theorem dX3_init_84 : decode cX3_init 84 = .ok (.aload_n 0, 1) := by decide +kernel
theorem dX3_init_85 : decode cX3_init 85 = .ok (.getfield 17, 3) := by decide +kernel
theorem dX3_init_88 : decode cX3_init 88 = .ok (.iconst 2, 1) := by decide +kernel
theorem dX3_init_89 : decode cX3_init 89 = .ok (.aaload, 1) := by decide +kernel
theorem dX3_init_90 : decode cX3_init 90 = .ok (.putfield 26, 3) := by decide +kernel
theorem dX3_init_93 : decode cX3_init 93 = .ok (.aload_n 0, 1) := by decide +kernel
theorem dX3_init_94 : decode cX3_init 94 = .ok (.aload_n 0, 1) := by decide +kernel
theorem dX3_init_95 : decode cX3_init 95 = .ok (.getfield 17, 3) := by decide +kernel
theorem dX3_init_98 : decode cX3_init 98 = .ok (.iconst 3, 1) := by decide +kernel
theorem dX3_init_99 : decode cX3_init 99 = .ok (.aaload, 1) := by decide +kernel
theorem dX3_init_100 : decode cX3_init 100 = .ok (.putfield 29, 3) := by decide +kernel
theorem dX3_init_103 : decode cX3_init 103 = .ok (.aload_n 0, 1) := by decide +kernel
theorem dX3_init_104 : decode cX3_init 104 = .ok (.aload_n 0, 1) := by decide +kernel
theorem dX3_init_105 : decode cX3_init 105 = .ok (.getfield 17, 3) := by decide +kernel
theorem dX3_init_108 : decode cX3_init 108 = .ok (.iconst 4, 1) := by decide +kernel
theorem dX3_init_109 : decode cX3_init 109 = .ok (.aaload, 1) := by decide +kernel
theorem dX3_init_110 : decode cX3_init 110 = .ok (.putfield 32, 3) := by decide +kernel
theorem dX3_init_113 : decode cX3_init 113 = .ok (.aload_n 0, 1) := by decide +kernel
theorem dX3_init_114 : decode cX3_init 114 = .ok (.aload_n 0, 1) := by decide +kernel
theorem dX3_init_115 : decode cX3_init 115 = .ok (.getfield 17, 3) := by decide +kernel
theorem dX3_init_118 : decode cX3_init 118 = .ok (.iconst 5, 1) := by decide +kernel
theorem dX3_init_119 : decode cX3_init 119 = .ok (.aaload, 1) := by decide +kernel
theorem dX3_init_120 : decode cX3_init 120 = .ok (.putfield 35, 3) := by decide +kernel
theorem dX3_init_123 : decode cX3_init 123 = .ok (.aload_n 0, 1) := by decide +kernel
theorem dX3_init_124 : decode cX3_init 124 = .ok (.bipush 7, 2) := by decide +kernel
theorem dX3_init_126 : decode cX3_init 126 = .ok (.sipush 200, 3) := by decide +kernel
theorem dX3_init_129 : decode cX3_init 129 = .ok (.multianewarray 15 2, 4) := by decide +kernel
theorem dX3_init_133 : decode cX3_init 133 = .ok (.putfield 38, 3) := by decide +kernel
theorem dX3_init_136 : decode cX3_init 136 = .ok (.aload_n 0, 1) := by decide +kernel
theorem dX3_init_137 : decode cX3_init 137 = .ok (.iconst 0, 1) := by decide +kernel
theorem dX3_init_138 : decode cX3_init 138 = .ok (.putfield 41, 3) := by decide +kernel
theorem dX3_init_141 : decode cX3_init 141 = .ok (.aload_n 0, 1) := by decide +kernel
theorem dX3_init_142 : decode cX3_init 142 = .ok (.iconst 0, 1) := by decide +kernel
theorem dX3_init_143 : decode cX3_init 143 = .ok (.putfield 45, 3) := by decide +kernel
theorem dX3_init_146 : decode cX3_init 146 = .ok (.aload_n 0, 1) := by decide +kernel
theorem dX3_init_147 : decode cX3_init 147 = .ok (.iconst 0, 1) := by decide +kernel
theorem dX3_init_148 : decode cX3_init 148 = .ok (.putfield 48, 3) := by decide +kernel
theorem dX3_init_151 : decode cX3_init 151 = .ok (.return_, 1) := by decide +kernel
theorem dX3_takeAfter_0 : decode cX3_takeAfter 0 = .ok (.aload_n 1, 1) := by decide +kernel
theorem dX3_takeAfter_1 : decode cX3_takeAfter 1 = .ok (.getfield 9, 3) := by decide +kernel
theorem dX3_takeAfter_4 : decode cX3_takeAfter 4 = .ok (.iconst 0, 1) := by decide +kernel
theorem dX3_takeAfter_5 : decode cX3_takeAfter 5 = .ok (.aload_n 0, 1) := by decide +kernel
theorem dX3_takeAfter_6 : decode cX3_takeAfter 6 = .ok (.getfield 9, 3) := by decide +kernel
theorem dX3_takeAfter_9 : decode cX3_takeAfter 9 = .ok (.iconst 0, 1) := by decide +kernel
theorem dX3_takeAfter_10 : decode cX3_takeAfter 10 = .ok (.bipush 8, 2) := by decide +kernel
theorem dX3_takeAfter_12 : decode cX3_takeAfter 12 = .ok (.invokestatic 51, 3) := by decide +kernel
theorem dX3_takeAfter_15 : decode cX3_takeAfter 15 = .ok (.iconst 0, 1) := by decide +kernel
theorem dX3_takeAfter_16 : decode cX3_takeAfter 16 = .ok (.istore_n 2, 1) := by decide +kernel
theorem dX3_takeAfter_17 : decode cX3_takeAfter 17 = .ok (.iload_n 2, 1) := by decide +kernel
theorem dX3_takeAfter_18 : decode cX3_takeAfter 18 = .ok (.bipush 6, 2) := by decide +kernel
theorem dX3_takeAfter_20 : decode cX3_takeAfter 20 = .ok (.if_icmp .ge 28, 3) := by decide +kernel
theorem dX3_takeAfter_23 : decode cX3_takeAfter 23 = .ok (.aload_n 1, 1) := by decide +kernel
theorem dX3_takeAfter_24 : decode cX3_takeAfter 24 = .ok (.getfield 17, 3) := by decide +kernel
theorem dX3_takeAfter_27 : decode cX3_takeAfter 27 = .ok (.iload_n 2, 1) := by decide +kernel
theorem dX3_takeAfter_28 : decode cX3_takeAfter 28 = .ok (.aaload, 1) := by decide +kernel
theorem dX3_takeAfter_29 : decode cX3_takeAfter 29 = .ok (.iconst 0, 1) := by decide +kernel
theorem dX3_takeAfter_30 : decode cX3_takeAfter 30 = .ok (.aload_n 0, 1) := by decide +kernel
theorem dX3_takeAfter_31 : decode cX3_takeAfter 31 = .ok (.getfield 17, 3) := by decide +kernel
theorem dX3_takeAfter_34 : decode cX3_takeAfter 34 = .ok (.iload_n 2, 1) := by decide +kernel
theorem dX3_takeAfter_35 : decode cX3_takeAfter 35 = .ok (.aaload, 1) := by decide +kernel
theorem dX3_takeAfter_36 : decode cX3_takeAfter 36 = .ok (.iconst 0, 1) := by decide +kernel
theorem dX3_takeAfter_37 : decode cX3_takeAfter 37 = .ok (.bipush 7, 2) := by decide +kernel
theorem dX3_takeAfter_39 : decode cX3_takeAfter 39 = .ok (.invokestatic 51, 3) := by decide +kernel
theorem dX3_takeAfter_42 : decode cX3_takeAfter 42 = .ok (.iinc 2 1, 3) := by decide +kernel
theorem dX3_takeAfter_45 : decode cX3_takeAfter 45 = .ok (.goto (-28), 3) := by decide +kernel
theorem dX3_takeAfter_48 : decode cX3_takeAfter 48 = .ok (.iconst 0, 1) := by decide +kernel
theorem dX3_takeAfter_49 : decode cX3_takeAfter 49 = .ok (.istore_n 2, 1) := by decide +kernel
theorem dX3_takeAfter_50 : decode cX3_takeAfter 50 = .ok (.iload_n 2, 1) := by decide +kernel
theorem dX3_takeAfter_51 : decode cX3_takeAfter 51 = .ok (.bipush 7, 2) := by decide +kernel
theorem dX3_takeAfter_53 : decode cX3_takeAfter 53 = .ok (.if_icmp .ge 29, 3) := by decide +kernel
theorem dX3_takeAfter_56 : decode cX3_takeAfter 56 = .ok (.aload_n 1, 1) := by decide +kernel
theorem dX3_takeAfter_57 : decode cX3_takeAfter 57 = .ok (.getfield 38, 3) := by decide +kernel
theorem dX3_takeAfter_60 : decode cX3_takeAfter 60 = .ok (.iload_n 2, 1) := by decide +kernel
theorem dX3_takeAfter_61 : decode cX3_takeAfter 61 = .ok (.aaload, 1) := by decide +kernel
theorem dX3_takeAfter_62 : decode cX3_takeAfter 62 = .ok (.iconst 0, 1) := by decide +kernel
theorem dX3_takeAfter_63 : decode cX3_takeAfter 63 = .ok (.aload_n 0, 1) := by decide +kernel
theorem dX3_takeAfter_64 : decode cX3_takeAfter 64 = .ok (.getfield 38, 3) := by decide +kernel
theorem dX3_takeAfter_67 : decode cX3_takeAfter 67 = .ok (.iload_n 2, 1) := by decide +kernel
theorem dX3_takeAfter_68 : decode cX3_takeAfter 68 = .ok (.aaload, 1) := by decide +kernel
theorem dX3_takeAfter_69 : decode cX3_takeAfter 69 = .ok (.iconst 0, 1) := by decide +kernel
theorem dX3_takeAfter_70 : decode cX3_takeAfter 70 = .ok (.sipush 200, 3) := by decide +kernel
theorem dX3_takeAfter_73 : decode cX3_takeAfter 73 = .ok (.invokestatic 51, 3) := by decide +kernel
theorem dX3_takeAfter_76 : decode cX3_takeAfter 76 = .ok (.iinc 2 1, 3) := by decide +kernel
theorem dX3_takeAfter_79 : decode cX3_takeAfter 79 = .ok (.goto (-29), 3) := by decide +kernel
theorem dX3_takeAfter_82 : decode cX3_takeAfter 82 = .ok (.aload_n 0, 1) := by decide +kernel
theorem dX3_takeAfter_83 : decode cX3_takeAfter 83 = .ok (.aload_n 1, 1) := by decide +kernel
theorem dX3_takeAfter_84 : decode cX3_takeAfter 84 = .ok (.getfield 41, 3) := by decide +kernel
theorem dX3_takeAfter_87 : decode cX3_takeAfter 87 = .ok (.putfield 41, 3) := by decide +kernel
theorem dX3_takeAfter_90 : decode cX3_takeAfter 90 = .ok (.aload_n 0, 1) := by decide +kernel
theorem dX3_takeAfter_91 : decode cX3_takeAfter 91 = .ok (.aload_n 1, 1) := by decide +kernel
theorem dX3_takeAfter_92 : decode cX3_takeAfter 92 = .ok (.getfield 45, 3) := by decide +kernel
theorem dX3_takeAfter_95 : decode cX3_takeAfter 95 = .ok (.putfield 45, 3) := by decide +kernel
theorem dX3_takeAfter_98 : decode cX3_takeAfter 98 = .ok (.aload_n 0, 1) := by decide +kernel
theorem dX3_takeAfter_99 : decode cX3_takeAfter 99 = .ok (.aload_n 1, 1) := by decide +kernel
theorem dX3_takeAfter_100 : decode cX3_takeAfter 100 = .ok (.getfield 48, 3) := by decide +kernel
theorem dX3_takeAfter_103 : decode cX3_takeAfter 103 = .ok (.putfield 48, 3) := by decide +kernel
theorem dX3_takeAfter_106 : decode cX3_takeAfter 106 = .ok (.return_, 1) := by decide +kernel
theorem dX3_all_0 : decode cX3_all 0 = .ok (.iconst 1, 1) := by decide +kernel
theorem dX3_all_1 : decode cX3_all 1 = .ok (.aload_n 0, 1) := by decide +kernel
theorem dX3_all_2 : decode cX3_all 2 = .ok (.getfield 45, 3) := by decide +kernel
theorem dX3_all_5 : decode cX3_all 5 = .ok (.ishl, 1) := by decide +kernel
theorem dX3_all_6 : decode cX3_all 6 = .ok (.iconst 1, 1) := by decide +kernel
theorem dX3_all_7 : decode cX3_all 7 = .ok (.isub, 1) := by decide +kernel
theorem dX3_all_8 : decode cX3_all 8 = .ok (.ireturn, 1) := by decide +kernel
theorem dX3_get_0 : decode cX3_get 0 = .ok (.iload_n 1, 1) := by decide +kernel
theorem dX3_get_1 : decode cX3_get 1 = .ok (.bipush 8, 2) := by decide +kernel
theorem dX3_get_3 : decode cX3_get 3 = .ok (.invokestatic 57, 3) := by decide +kernel
theorem dX3_get_6 : decode cX3_get 6 = .ok (.ifCond .eq 10, 3) := by decide +kernel
theorem dX3_get_9 : decode cX3_get 9 = .ok (.aload_n 0, 1) := by decide +kernel
theorem dX3_get_10 : decode cX3_get 10 = .ok (.getfield 9, 3) := by decide +kernel
theorem dX3_get_13 : decode cX3_get 13 = .ok (.iload_n 1, 1) := by decide +kernel
theorem dX3_get_14 : decode cX3_get 14 = .ok (.iaload, 1) := by decide +kernel
theorem dX3_get_15 : decode cX3_get 15 = .ok (.ireturn, 1) := by decide +kernel
theorem dX3_get_16 : decode cX3_get 16 = .ok (.iload_n 1, 1) := by decide +kernel
theorem dX3_get_17 : decode cX3_get 17 = .ok (.bipush 8, 2) := by decide +kernel
theorem dX3_get_19 : decode cX3_get 19 = .ok (.isub, 1) := by decide +kernel
theorem dX3_get_20 : decode cX3_get 20 = .ok (.bipush 6, 2) := by decide +kernel
theorem dX3_get_22 : decode cX3_get 22 = .ok (.invokestatic 57, 3) := by decide +kernel
theorem dX3_get_25 : decode cX3_get 25 = .ok (.ifCond .eq 16, 3) := by decide +kernel
theorem dX3_get_28 : decode cX3_get 28 = .ok (.iload_n 2, 1) := by decide +kernel
theorem dX3_get_29 : decode cX3_get 29 = .ok (.bipush 7, 2) := by decide +kernel
theorem dX3_get_31 : decode cX3_get 31 = .ok (.invokestatic 57, 3) := by decide +kernel
theorem dX3_get_34 : decode cX3_get 34 = .ok (.ifCond .eq 7, 3) := by decide +kernel
theorem dX3_get_37 : decode cX3_get 37 = .ok (.iconst 1, 1) := by decide +kernel
theorem dX3_get_38 : decode cX3_get 38 = .ok (.goto 4, 3) := by decide +kernel
theorem dX3_get_41 : decode cX3_get 41 = .ok (.iconst 0, 1) := by decide +kernel
theorem dX3_get_42 : decode cX3_get 42 = .ok (.istore_n 3, 1) := by decide +kernel
theorem dX3_get_43 : decode cX3_get 43 = .ok (.iload_n 3, 1) := by decide +kernel
theorem dX3_get_44 : decode cX3_get 44 = .ok (.ifCond .eq 17, 3) := by decide +kernel
theorem dX3_get_47 : decode cX3_get 47 = .ok (.aload_n 0, 1) := by decide +kernel
theorem dX3_get_48 : decode cX3_get 48 = .ok (.getfield 17, 3) := by decide +kernel
theorem dX3_get_51 : decode cX3_get 51 = .ok (.iload_n 1, 1) := by decide +kernel
theorem dX3_get_52 : decode cX3_get 52 = .ok (.bipush 8, 2) := by decide +kernel
theorem dX3_get_54 : decode cX3_get 54 = .ok (.isub, 1) := by decide +kernel
theorem dX3_get_55 : decode cX3_get 55 = .ok (.aaload, 1) := by decide +kernel
theorem dX3_get_56 : decode cX3_get 56 = .ok (.iload_n 2, 1) := by decide +kernel
theorem dX3_get_57 : decode cX3_get 57 = .ok (.iaload, 1) := by decide +kernel
theorem dX3_get_58 : decode cX3_get 58 = .ok (.goto 5, 3) := by decide +kernel
theorem dX3_get_61 : decode cX3_get 61 = .ok (.bipush (-2), 2) := by decide +kernel
theorem dX3_get_63 : decode cX3_get 63 = .ok (.ireturn, 1) := by decide +kernel
theorem dX3_allows_0 : decode cX3_allows 0 = .ok (.iload_n 1, 1) := by decide +kernel
theorem dX3_allows_1 : decode cX3_allows 1 = .ok (.getstatic 61, 3) := by decide +kernel
theorem dX3_allows_4 : decode cX3_allows 4 = .ok (.arraylength, 1) := by decide +kernel
theorem dX3_allows_5 : decode cX3_allows 5 = .ok (.invokestatic 57, 3) := by decide +kernel
theorem dX3_allows_8 : decode cX3_allows 8 = .ok (.ifCond .eq 16, 3) := by decide +kernel
theorem dX3_allows_11 : decode cX3_allows 11 = .ok (.iload_n 3, 1) := by decide +kernel
theorem dX3_allows_12 : decode cX3_allows 12 = .ok (.ifCond .lt 12, 3) := by decide +kernel
theorem dX3_allows_15 : decode cX3_allows 15 = .ok (.iload_n 3, 1) := by decide +kernel
theorem dX3_allows_16 : decode cX3_allows 16 = .ok (.getstatic 61, 3) := by decide +kernel
theorem dX3_allows_19 : decode cX3_allows 19 = .ok (.iload_n 1, 1) := by decide +kernel
theorem dX3_allows_20 : decode cX3_allows 20 = .ok (.iaload, 1) := by decide +kernel
theorem dX3_allows_21 : decode cX3_allows 21 = .ok (.if_icmp .le 5, 3) := by decide +kernel
theorem dX3_allows_24 : decode cX3_allows 24 = .ok (.iconst 0, 1) := by decide +kernel
theorem dX3_allows_25 : decode cX3_allows 25 = .ok (.ireturn, 1) := by decide +kernel
theorem dX3_allows_26 : decode cX3_allows 26 = .ok (.iload_n 1, 1) := by decide +kernel
theorem dX3_allows_27 : decode cX3_allows 27 = .ok (.bipush 8, 2) := by decide +kernel
theorem dX3_allows_29 : decode cX3_allows 29 = .ok (.if_icmp .lt 16, 3) := by decide +kernel
theorem dX3_allows_32 : decode cX3_allows 32 = .ok (.iload_n 2, 1) := by decide +kernel
theorem dX3_allows_33 : decode cX3_allows 33 = .ok (.aload_n 0, 1) := by decide +kernel
theorem dX3_allows_34 : decode cX3_allows 34 = .ok (.getfield 45, 3) := by decide +kernel
theorem dX3_allows_37 : decode cX3_allows 37 = .ok (.invokestatic 57, 3) := by decide +kernel
theorem dX3_allows_40 : decode cX3_allows 40 = .ok (.ifCond .ne 5, 3) := by decide +kernel
theorem dX3_allows_43 : decode cX3_allows 43 = .ok (.iconst 0, 1) := by decide +kernel
theorem dX3_allows_44 : decode cX3_allows 44 = .ok (.ireturn, 1) := by decide +kernel
theorem dX3_allows_45 : decode cX3_allows 45 = .ok (.iload_n 1, 1) := by decide +kernel
theorem dX3_allows_46 : decode cX3_allows 46 = .ok (.bipush 10, 2) := by decide +kernel
theorem dX3_allows_48 : decode cX3_allows 48 = .ok (.if_icmp .ne 14, 3) := by decide +kernel
theorem dX3_allows_51 : decode cX3_allows 51 = .ok (.iload_n 3, 1) := by decide +kernel
theorem dX3_allows_52 : decode cX3_allows 52 = .ok (.aload_n 0, 1) := by decide +kernel
theorem dX3_allows_53 : decode cX3_allows 53 = .ok (.bipush 11, 2) := by decide +kernel
theorem dX3_allows_55 : decode cX3_allows 55 = .ok (.iload_n 2, 1) := by decide +kernel
theorem dX3_allows_56 : decode cX3_allows 56 = .ok (.invokevirtual 64, 3) := by decide +kernel
theorem dX3_allows_59 : decode cX3_allows 59 = .ok (.if_icmp .gt 24, 3) := by decide +kernel
theorem dX3_allows_62 : decode cX3_allows 62 = .ok (.iload_n 1, 1) := by decide +kernel
theorem dX3_allows_63 : decode cX3_allows 63 = .ok (.bipush 11, 2) := by decide +kernel
theorem dX3_allows_65 : decode cX3_allows 65 = .ok (.if_icmp .ne 14, 3) := by decide +kernel
theorem dX3_allows_68 : decode cX3_allows 68 = .ok (.iload_n 3, 1) := by decide +kernel
theorem dX3_allows_69 : decode cX3_allows 69 = .ok (.aload_n 0, 1) := by decide +kernel
theorem dX3_allows_70 : decode cX3_allows 70 = .ok (.bipush 10, 2) := by decide +kernel
theorem dX3_allows_72 : decode cX3_allows 72 = .ok (.iload_n 2, 1) := by decide +kernel
theorem dX3_allows_73 : decode cX3_allows 73 = .ok (.invokevirtual 64, 3) := by decide +kernel
theorem dX3_allows_76 : decode cX3_allows 76 = .ok (.if_icmp .lt 7, 3) := by decide +kernel
theorem dX3_allows_79 : decode cX3_allows 79 = .ok (.iconst 1, 1) := by decide +kernel
theorem dX3_allows_80 : decode cX3_allows 80 = .ok (.goto 4, 3) := by decide +kernel
theorem dX3_allows_83 : decode cX3_allows 83 = .ok (.iconst 0, 1) := by decide +kernel
theorem dX3_allows_84 : decode cX3_allows 84 = .ok (.ireturn, 1) := by decide +kernel
theorem dX3_change_0 : decode cX3_change 0 = .ok (.aload_n 0, 1) := by decide +kernel
theorem dX3_change_1 : decode cX3_change 1 = .ok (.iload_n 1, 1) := by decide +kernel
theorem dX3_change_2 : decode cX3_change 2 = .ok (.iload_n 2, 1) := by decide +kernel
theorem dX3_change_3 : decode cX3_change 3 = .ok (.invokevirtual 64, 3) := by decide +kernel
theorem dX3_change_6 : decode cX3_change 6 = .ok (.istore 4, 2) := by decide +kernel
theorem dX3_change_8 : decode cX3_change 8 = .ok (.iload_n 1, 1) := by decide +kernel
theorem dX3_change_9 : decode cX3_change 9 = .ok (.bipush 8, 2) := by decide +kernel
theorem dX3_change_11 : decode cX3_change 11 = .ok (.invokestatic 57, 3) := by decide +kernel
theorem dX3_change_14 : decode cX3_change 14 = .ok (.ifCond .eq 31, 3) := by decide +kernel
theorem dX3_change_17 : decode cX3_change 17 = .ok (.aload_n 0, 1) := by decide +kernel
theorem dX3_change_18 : decode cX3_change 18 = .ok (.getfield 9, 3) := by decide +kernel
theorem dX3_change_21 : decode cX3_change 21 = .ok (.iload_n 1, 1) := by decide +kernel
theorem dX3_change_22 : decode cX3_change 22 = .ok (.iload_n 3, 1) := by decide +kernel
theorem dX3_change_23 : decode cX3_change 23 = .ok (.iastore, 1) := by decide +kernel
theorem dX3_change_24 : decode cX3_change 24 = .ok (.iload_n 1, 1) := by decide +kernel
theorem dX3_change_25 : decode cX3_change 25 = .ok (.iconst 1, 1) := by decide +kernel
theorem dX3_change_26 : decode cX3_change 26 = .ok (.if_icmp .lt 64, 3) := by decide +kernel
theorem dX3_change_29 : decode cX3_change 29 = .ok (.iload_n 1, 1) := by decide +kernel
theorem dX3_change_30 : decode cX3_change 30 = .ok (.iconst 4, 1) := by decide +kernel
theorem dX3_change_31 : decode cX3_change 31 = .ok (.if_icmp .gt 59, 3) := by decide +kernel
theorem dX3_change_34 : decode cX3_change 34 = .ok (.aload_n 0, 1) := by decide +kernel
theorem dX3_change_35 : decode cX3_change 35 = .ok (.aload_n 0, 1) := by decide +kernel
theorem dX3_change_36 : decode cX3_change 36 = .ok (.invokevirtual 68, 3) := by decide +kernel
theorem dX3_change_39 : decode cX3_change 39 = .ok (.putfield 41, 3) := by decide +kernel
theorem dX3_change_42 : decode cX3_change 42 = .ok (.goto 48, 3) := by decide +kernel
theorem dX3_change_45 : decode cX3_change 45 = .ok (.iload_n 1, 1) := by decide +kernel
theorem dX3_change_46 : decode cX3_change 46 = .ok (.bipush 8, 2) := by decide +kernel
theorem dX3_change_48 : decode cX3_change 48 = .ok (.isub, 1) := by decide +kernel
theorem dX3_change_49 : decode cX3_change 49 = .ok (.bipush 6, 2) := by decide +kernel
theorem dX3_change_51 : decode cX3_change 51 = .ok (.invokestatic 57, 3) := by decide +kernel
theorem dX3_change_54 : decode cX3_change 54 = .ok (.ifCond .eq 36, 3) := by decide +kernel
theorem dX3_change_57 : decode cX3_change 57 = .ok (.iload_n 2, 1) := by decide +kernel
theorem dX3_change_58 : decode cX3_change 58 = .ok (.bipush 7, 2) := by decide +kernel
theorem dX3_change_60 : decode cX3_change 60 = .ok (.invokestatic 57, 3) := by decide +kernel
theorem dX3_change_63 : decode cX3_change 63 = .ok (.ifCond .eq 27, 3) := by decide +kernel
theorem dX3_change_66 : decode cX3_change 66 = .ok (.aload_n 0, 1) := by decide +kernel
theorem dX3_change_67 : decode cX3_change 67 = .ok (.getfield 17, 3) := by decide +kernel
theorem dX3_change_70 : decode cX3_change 70 = .ok (.iload_n 1, 1) := by decide +kernel
theorem dX3_change_71 : decode cX3_change 71 = .ok (.bipush 8, 2) := by decide +kernel
theorem dX3_change_73 : decode cX3_change 73 = .ok (.isub, 1) := by decide +kernel
theorem dX3_change_74 : decode cX3_change 74 = .ok (.aaload, 1) := by decide +kernel
theorem dX3_change_75 : decode cX3_change 75 = .ok (.iload_n 2, 1) := by decide +kernel
theorem dX3_change_76 : decode cX3_change 76 = .ok (.iload_n 3, 1) := by decide +kernel
theorem dX3_change_77 : decode cX3_change 77 = .ok (.iastore, 1) := by decide +kernel
theorem dX3_change_78 : decode cX3_change 78 = .ok (.aload_n 0, 1) := by decide +kernel
theorem dX3_change_79 : decode cX3_change 79 = .ok (.dup, 1) := by decide +kernel
theorem dX3_change_80 : decode cX3_change 80 = .ok (.getfield 41, 3) := by decide +kernel
theorem dX3_change_83 : decode cX3_change 83 = .ok (.iconst 1, 1) := by decide +kernel
theorem dX3_change_84 : decode cX3_change 84 = .ok (.iload_n 2, 1) := by decide +kernel
theorem dX3_change_85 : decode cX3_change 85 = .ok (.ishl, 1) := by decide +kernel
theorem dX3_change_86 : decode cX3_change 86 = .ok (.ior, 1) := by decide +kernel
theorem dX3_change_87 : decode cX3_change 87 = .ok (.putfield 41, 3) := by decide +kernel
theorem dX3_change_90 : decode cX3_change 90 = .ok (.iload 4, 2) := by decide +kernel
theorem dX3_change_92 : decode cX3_change 92 = .ok (.ireturn, 1) := by decide +kernel
theorem dX3_add_0 : decode cX3_add 0 = .ok (.aload_n 0, 1) := by decide +kernel
theorem dX3_add_1 : decode cX3_add 1 = .ok (.getfield 45, 3) := by decide +kernel
theorem dX3_add_4 : decode cX3_add 4 = .ok (.bipush 7, 2) := by decide +kernel
theorem dX3_add_6 : decode cX3_add 6 = .ok (.if_icmp .lt 6, 3) := by decide +kernel
theorem dX3_add_9 : decode cX3_add 9 = .ok (.bipush (-4), 2) := by decide +kernel
theorem dX3_add_11 : decode cX3_add 11 = .ok (.ireturn, 1) := by decide +kernel
theorem dX3_add_12 : decode cX3_add 12 = .ok (.aload_n 0, 1) := by decide +kernel
theorem dX3_add_13 : decode cX3_add 13 = .ok (.getfield 45, 3) := by decide +kernel
theorem dX3_add_16 : decode cX3_add 16 = .ok (.istore 4, 2) := by decide +kernel
theorem dX3_add_18 : decode cX3_add 18 = .ok (.aload_n 0, 1) := by decide +kernel
theorem dX3_add_19 : decode cX3_add 19 = .ok (.dup, 1) := by decide +kernel
theorem dX3_add_20 : decode cX3_add 20 = .ok (.getfield 45, 3) := by decide +kernel
theorem dX3_add_23 : decode cX3_add 23 = .ok (.iconst 1, 1) := by decide +kernel
theorem dX3_add_24 : decode cX3_add 24 = .ok (.iadd, 1) := by decide +kernel
theorem dX3_add_25 : decode cX3_add 25 = .ok (.putfield 45, 3) := by decide +kernel
theorem dX3_add_28 : decode cX3_add 28 = .ok (.aload_n 0, 1) := by decide +kernel
theorem dX3_add_29 : decode cX3_add 29 = .ok (.bipush 13, 2) := by decide +kernel
theorem dX3_add_31 : decode cX3_add 31 = .ok (.iload 4, 2) := by decide +kernel
theorem dX3_add_33 : decode cX3_add 33 = .ok (.iload_n 1, 1) := by decide +kernel
theorem dX3_add_34 : decode cX3_add 34 = .ok (.invokevirtual 72, 3) := by decide +kernel
theorem dX3_add_37 : decode cX3_add 37 = .ok (.pop, 1) := by decide +kernel
theorem dX3_add_38 : decode cX3_add 38 = .ok (.aload_n 0, 1) := by decide +kernel
theorem dX3_add_39 : decode cX3_add 39 = .ok (.bipush 8, 2) := by decide +kernel
theorem dX3_add_41 : decode cX3_add 41 = .ok (.iload 4, 2) := by decide +kernel
theorem dX3_add_43 : decode cX3_add 43 = .ok (.iload_n 2, 1) := by decide +kernel
theorem dX3_add_44 : decode cX3_add 44 = .ok (.invokevirtual 72, 3) := by decide +kernel
theorem dX3_add_47 : decode cX3_add 47 = .ok (.pop, 1) := by decide +kernel
theorem dX3_add_48 : decode cX3_add 48 = .ok (.aload_n 0, 1) := by decide +kernel
theorem dX3_add_49 : decode cX3_add 49 = .ok (.bipush 9, 2) := by decide +kernel
theorem dX3_add_51 : decode cX3_add 51 = .ok (.iload 4, 2) := by decide +kernel
theorem dX3_add_53 : decode cX3_add 53 = .ok (.iload_n 3, 1) := by decide +kernel
theorem dX3_add_54 : decode cX3_add 54 = .ok (.invokevirtual 72, 3) := by decide +kernel
theorem dX3_add_57 : decode cX3_add 57 = .ok (.pop, 1) := by decide +kernel
theorem dX3_add_58 : decode cX3_add 58 = .ok (.aload_n 0, 1) := by decide +kernel
theorem dX3_add_59 : decode cX3_add 59 = .ok (.bipush 10, 2) := by decide +kernel
theorem dX3_add_61 : decode cX3_add 61 = .ok (.iload 4, 2) := by decide +kernel
theorem dX3_add_63 : decode cX3_add 63 = .ok (.iconst 0, 1) := by decide +kernel
theorem dX3_add_64 : decode cX3_add 64 = .ok (.invokevirtual 72, 3) := by decide +kernel
theorem dX3_add_67 : decode cX3_add 67 = .ok (.pop, 1) := by decide +kernel
theorem dX3_add_68 : decode cX3_add 68 = .ok (.aload_n 0, 1) := by decide +kernel
theorem dX3_add_69 : decode cX3_add 69 = .ok (.bipush 11, 2) := by decide +kernel
theorem dX3_add_71 : decode cX3_add 71 = .ok (.iload 4, 2) := by decide +kernel
theorem dX3_add_73 : decode cX3_add 73 = .ok (.sipush 199, 3) := by decide +kernel
theorem dX3_add_76 : decode cX3_add 76 = .ok (.invokevirtual 72, 3) := by decide +kernel
theorem dX3_add_79 : decode cX3_add 79 = .ok (.pop, 1) := by decide +kernel
theorem dX3_add_80 : decode cX3_add 80 = .ok (.aload_n 0, 1) := by decide +kernel
theorem dX3_add_81 : decode cX3_add 81 = .ok (.bipush 12, 2) := by decide +kernel
theorem dX3_add_83 : decode cX3_add 83 = .ok (.iload 4, 2) := by decide +kernel
theorem dX3_add_85 : decode cX3_add 85 = .ok (.bipush 10, 2) := by decide +kernel
theorem dX3_add_87 : decode cX3_add 87 = .ok (.invokevirtual 72, 3) := by decide +kernel
theorem dX3_add_90 : decode cX3_add 90 = .ok (.pop, 1) := by decide +kernel
theorem dX3_add_91 : decode cX3_add 91 = .ok (.iload 4, 2) := by decide +kernel
theorem dX3_add_93 : decode cX3_add 93 = .ok (.ireturn, 1) := by decide +kernel
theorem dX3_isUp_0 : decode cX3_isUp 0 = .ok (.iload_n 1, 1) := by decide +kernel
theorem dX3_isUp_1 : decode cX3_isUp 1 = .ok (.bipush 7, 2) := by decide +kernel
theorem dX3_isUp_3 : decode cX3_isUp 3 = .ok (.invokestatic 57, 3) := by decide +kernel
theorem dX3_isUp_6 : decode cX3_isUp 6 = .ok (.ifCond .eq 13, 3) := by decide +kernel
theorem dX3_isUp_9 : decode cX3_isUp 9 = .ok (.iload_n 2, 1) := by decide +kernel
theorem dX3_isUp_10 : decode cX3_isUp 10 = .ok (.aload_n 0, 1) := by decide +kernel
theorem dX3_isUp_11 : decode cX3_isUp 11 = .ok (.getfield 26, 3) := by decide +kernel
theorem dX3_isUp_14 : decode cX3_isUp 14 = .ok (.iload_n 1, 1) := by decide +kernel
theorem dX3_isUp_15 : decode cX3_isUp 15 = .ok (.iaload, 1) := by decide +kernel
theorem dX3_isUp_16 : decode cX3_isUp 16 = .ok (.if_icmp .ge 5, 3) := by decide +kernel
theorem dX3_isUp_19 : decode cX3_isUp 19 = .ok (.iconst 0, 1) := by decide +kernel
theorem dX3_isUp_20 : decode cX3_isUp 20 = .ok (.ireturn, 1) := by decide +kernel
theorem dX3_isUp_21 : decode cX3_isUp 21 = .ok (.aload_n 0, 1) := by decide +kernel
theorem dX3_isUp_22 : decode cX3_isUp 22 = .ok (.getfield 20, 3) := by decide +kernel
theorem dX3_isUp_25 : decode cX3_isUp 25 = .ok (.iload_n 1, 1) := by decide +kernel
theorem dX3_isUp_26 : decode cX3_isUp 26 = .ok (.iaload, 1) := by decide +kernel
theorem dX3_isUp_27 : decode cX3_isUp 27 = .ok (.istore_n 3, 1) := by decide +kernel
theorem dX3_isUp_28 : decode cX3_isUp 28 = .ok (.iload_n 2, 1) := by decide +kernel
theorem dX3_isUp_29 : decode cX3_isUp 29 = .ok (.aload_n 0, 1) := by decide +kernel
theorem dX3_isUp_30 : decode cX3_isUp 30 = .ok (.getfield 29, 3) := by decide +kernel
theorem dX3_isUp_33 : decode cX3_isUp 33 = .ok (.iload_n 1, 1) := by decide +kernel
theorem dX3_isUp_34 : decode cX3_isUp 34 = .ok (.iaload, 1) := by decide +kernel
theorem dX3_isUp_35 : decode cX3_isUp 35 = .ok (.if_icmp .gt 7, 3) := by decide +kernel
theorem dX3_isUp_38 : decode cX3_isUp 38 = .ok (.iconst 1, 1) := by decide +kernel
theorem dX3_isUp_39 : decode cX3_isUp 39 = .ok (.goto 4, 3) := by decide +kernel
theorem dX3_isUp_42 : decode cX3_isUp 42 = .ok (.iconst 0, 1) := by decide +kernel
theorem dX3_isUp_43 : decode cX3_isUp 43 = .ok (.istore 4, 2) := by decide +kernel
theorem dX3_isUp_45 : decode cX3_isUp 45 = .ok (.aload_n 0, 1) := by decide +kernel
theorem dX3_isUp_46 : decode cX3_isUp 46 = .ok (.getfield 35, 3) := by decide +kernel
theorem dX3_isUp_49 : decode cX3_isUp 49 = .ok (.iload_n 1, 1) := by decide +kernel
theorem dX3_isUp_50 : decode cX3_isUp 50 = .ok (.iaload, 1) := by decide +kernel
theorem dX3_isUp_51 : decode cX3_isUp 51 = .ok (.tableswitch 97 1 5 #[33, 56, 33, 56, 74], 33) := by decide +kernel
theorem dX3_isUp_84 : decode cX3_isUp 84 = .ok (.iload 4, 2) := by decide +kernel
theorem dX3_isUp_86 : decode cX3_isUp 86 = .ok (.ifCond .eq 19, 3) := by decide +kernel
theorem dX3_isUp_89 : decode cX3_isUp 89 = .ok (.iload_n 2, 1) := by decide +kernel
theorem dX3_isUp_90 : decode cX3_isUp 90 = .ok (.aload_n 0, 1) := by decide +kernel
theorem dX3_isUp_91 : decode cX3_isUp 91 = .ok (.getfield 26, 3) := by decide +kernel
theorem dX3_isUp_94 : decode cX3_isUp 94 = .ok (.iload_n 1, 1) := by decide +kernel
theorem dX3_isUp_95 : decode cX3_isUp 95 = .ok (.iaload, 1) := by decide +kernel
theorem dX3_isUp_96 : decode cX3_isUp 96 = .ok (.iload_n 3, 1) := by decide +kernel
theorem dX3_isUp_97 : decode cX3_isUp 97 = .ok (.iadd, 1) := by decide +kernel
theorem dX3_isUp_98 : decode cX3_isUp 98 = .ok (.if_icmp .lt 7, 3) := by decide +kernel
theorem dX3_isUp_101 : decode cX3_isUp 101 = .ok (.iconst 1, 1) := by decide +kernel
theorem dX3_isUp_102 : decode cX3_isUp 102 = .ok (.goto 4, 3) := by decide +kernel
theorem dX3_isUp_105 : decode cX3_isUp 105 = .ok (.iconst 0, 1) := by decide +kernel
theorem dX3_isUp_106 : decode cX3_isUp 106 = .ok (.ireturn, 1) := by decide +kernel
theorem dX3_isUp_107 : decode cX3_isUp 107 = .ok (.iload_n 2, 1) := by decide +kernel
theorem dX3_isUp_108 : decode cX3_isUp 108 = .ok (.aload_n 0, 1) := by decide +kernel
theorem dX3_isUp_109 : decode cX3_isUp 109 = .ok (.getfield 29, 3) := by decide +kernel
theorem dX3_isUp_112 : decode cX3_isUp 112 = .ok (.iload_n 1, 1) := by decide +kernel
theorem dX3_isUp_113 : decode cX3_isUp 113 = .ok (.iaload, 1) := by decide +kernel
theorem dX3_isUp_114 : decode cX3_isUp 114 = .ok (.iload_n 3, 1) := by decide +kernel
theorem dX3_isUp_115 : decode cX3_isUp 115 = .ok (.iadd, 1) := by decide +kernel
theorem dX3_isUp_116 : decode cX3_isUp 116 = .ok (.if_icmp .gt 7, 3) := by decide +kernel
theorem dX3_isUp_119 : decode cX3_isUp 119 = .ok (.iconst 1, 1) := by decide +kernel
theorem dX3_isUp_120 : decode cX3_isUp 120 = .ok (.goto 4, 3) := by decide +kernel
theorem dX3_isUp_123 : decode cX3_isUp 123 = .ok (.iconst 0, 1) := by decide +kernel
theorem dX3_isUp_124 : decode cX3_isUp 124 = .ok (.ireturn, 1) := by decide +kernel
theorem dX3_isUp_125 : decode cX3_isUp 125 = .ok (.iload 4, 2) := by decide +kernel
theorem dX3_isUp_127 : decode cX3_isUp 127 = .ok (.ifCond .eq 19, 3) := by decide +kernel
theorem dX3_isUp_130 : decode cX3_isUp 130 = .ok (.iload_n 2, 1) := by decide +kernel
theorem dX3_isUp_131 : decode cX3_isUp 131 = .ok (.iload_n 3, 1) := by decide +kernel
theorem dX3_isUp_132 : decode cX3_isUp 132 = .ok (.iconst 2, 1) := by decide +kernel
theorem dX3_isUp_133 : decode cX3_isUp 133 = .ok (.iadd, 1) := by decide +kernel
theorem dX3_isUp_134 : decode cX3_isUp 134 = .ok (.iconst 2, 1) := by decide +kernel
theorem dX3_isUp_135 : decode cX3_isUp 135 = .ok (.invokestatic 76, 3) := by decide +kernel
theorem dX3_isUp_138 : decode cX3_isUp 138 = .ok (.irem, 1) := by decide +kernel
theorem dX3_isUp_139 : decode cX3_isUp 139 = .ok (.ifCond .eq 7, 3) := by decide +kernel
theorem dX3_isUp_142 : decode cX3_isUp 142 = .ok (.iconst 1, 1) := by decide +kernel
theorem dX3_isUp_143 : decode cX3_isUp 143 = .ok (.goto 4, 3) := by decide +kernel
theorem dX3_isUp_146 : decode cX3_isUp 146 = .ok (.iconst 0, 1) := by decide +kernel
theorem dX3_isUp_147 : decode cX3_isUp 147 = .ok (.ireturn, 1) := by decide +kernel
theorem dX3_isUp_148 : decode cX3_isUp 148 = .ok (.iload 4, 2) := by decide +kernel
theorem dX3_isUp_150 : decode cX3_isUp 150 = .ok (.ireturn, 1) := by decide +kernel
theorem dX3_isClouded_0 : decode cX3_isClouded 0 = .ok (.iload_n 1, 1) := by decide +kernel
theorem dX3_isClouded_1 : decode cX3_isClouded 1 = .ok (.bipush 7, 2) := by decide +kernel
theorem dX3_isClouded_3 : decode cX3_isClouded 3 = .ok (.invokestatic 57, 3) := by decide +kernel
theorem dX3_isClouded_6 : decode cX3_isClouded 6 = .ok (.ifCond .ne 5, 3) := by decide +kernel
theorem dX3_isClouded_9 : decode cX3_isClouded 9 = .ok (.iconst 0, 1) := by decide +kernel
theorem dX3_isClouded_10 : decode cX3_isClouded 10 = .ok (.ireturn, 1) := by decide +kernel
theorem dX3_isClouded_11 : decode cX3_isClouded 11 = .ok (.aload_n 0, 1) := by decide +kernel
theorem dX3_isClouded_12 : decode cX3_isClouded 12 = .ok (.getfield 23, 3) := by decide +kernel
theorem dX3_isClouded_15 : decode cX3_isClouded 15 = .ok (.iload_n 1, 1) := by decide +kernel
theorem dX3_isClouded_16 : decode cX3_isClouded 16 = .ok (.iaload, 1) := by decide +kernel
theorem dX3_isClouded_17 : decode cX3_isClouded 17 = .ok (.bipush 10, 2) := by decide +kernel
theorem dX3_isClouded_19 : decode cX3_isClouded 19 = .ok (.irem, 1) := by decide +kernel
theorem dX3_isClouded_20 : decode cX3_isClouded 20 = .ok (.istore_n 3, 1) := by decide +kernel
theorem dX3_isClouded_21 : decode cX3_isClouded 21 = .ok (.iload_n 3, 1) := by decide +kernel
theorem dX3_isClouded_22 : decode cX3_isClouded 22 = .ok (.aload_n 0, 1) := by decide +kernel
theorem dX3_isClouded_23 : decode cX3_isClouded 23 = .ok (.getfield 9, 3) := by decide +kernel
theorem dX3_isClouded_26 : decode cX3_isClouded 26 = .ok (.iconst 1, 1) := by decide +kernel
theorem dX3_isClouded_27 : decode cX3_isClouded 27 = .ok (.iaload, 1) := by decide +kernel
theorem dX3_isClouded_28 : decode cX3_isClouded 28 = .ok (.if_icmp .lt 37, 3) := by decide +kernel
theorem dX3_isClouded_31 : decode cX3_isClouded 31 = .ok (.iload_n 3, 1) := by decide +kernel
theorem dX3_isClouded_32 : decode cX3_isClouded 32 = .ok (.aload_n 0, 1) := by decide +kernel
theorem dX3_isClouded_33 : decode cX3_isClouded 33 = .ok (.getfield 9, 3) := by decide +kernel
theorem dX3_isClouded_36 : decode cX3_isClouded 36 = .ok (.iconst 2, 1) := by decide +kernel
theorem dX3_isClouded_37 : decode cX3_isClouded 37 = .ok (.iaload, 1) := by decide +kernel
theorem dX3_isClouded_38 : decode cX3_isClouded 38 = .ok (.if_icmp .gt 27, 3) := by decide +kernel
theorem dX3_isClouded_41 : decode cX3_isClouded 41 = .ok (.iload_n 2, 1) := by decide +kernel
theorem dX3_isClouded_42 : decode cX3_isClouded 42 = .ok (.aload_n 0, 1) := by decide +kernel
theorem dX3_isClouded_43 : decode cX3_isClouded 43 = .ok (.getfield 9, 3) := by decide +kernel
theorem dX3_isClouded_46 : decode cX3_isClouded 46 = .ok (.iconst 3, 1) := by decide +kernel
theorem dX3_isClouded_47 : decode cX3_isClouded 47 = .ok (.iaload, 1) := by decide +kernel
theorem dX3_isClouded_48 : decode cX3_isClouded 48 = .ok (.if_icmp .lt 17, 3) := by decide +kernel
theorem dX3_isClouded_51 : decode cX3_isClouded 51 = .ok (.iload_n 2, 1) := by decide +kernel
theorem dX3_isClouded_52 : decode cX3_isClouded 52 = .ok (.aload_n 0, 1) := by decide +kernel
theorem dX3_isClouded_53 : decode cX3_isClouded 53 = .ok (.getfield 9, 3) := by decide +kernel
theorem dX3_isClouded_56 : decode cX3_isClouded 56 = .ok (.iconst 4, 1) := by decide +kernel
theorem dX3_isClouded_57 : decode cX3_isClouded 57 = .ok (.iaload, 1) := by decide +kernel
theorem dX3_isClouded_58 : decode cX3_isClouded 58 = .ok (.if_icmp .gt 7, 3) := by decide +kernel
theorem dX3_isClouded_61 : decode cX3_isClouded 61 = .ok (.iconst 1, 1) := by decide +kernel
theorem dX3_isClouded_62 : decode cX3_isClouded 62 = .ok (.goto 4, 3) := by decide +kernel
theorem dX3_isClouded_65 : decode cX3_isClouded 65 = .ok (.iconst 0, 1) := by decide +kernel
theorem dX3_isClouded_66 : decode cX3_isClouded 66 = .ok (.ireturn, 1) := by decide +kernel
theorem dX3_needs_0 : decode cX3_needs 0 = .ok (.iload_n 1, 1) := by decide +kernel
theorem dX3_needs_1 : decode cX3_needs 1 = .ok (.bipush 7, 2) := by decide +kernel
theorem dX3_needs_3 : decode cX3_needs 3 = .ok (.invokestatic 57, 3) := by decide +kernel
theorem dX3_needs_6 : decode cX3_needs 6 = .ok (.ifCond .ne 5, 3) := by decide +kernel
theorem dX3_needs_9 : decode cX3_needs 9 = .ok (.iconst 1, 1) := by decide +kernel
theorem dX3_needs_10 : decode cX3_needs 10 = .ok (.ireturn, 1) := by decide +kernel
theorem dX3_needs_11 : decode cX3_needs 11 = .ok (.iload_n 2, 1) := by decide +kernel
theorem dX3_needs_12 : decode cX3_needs 12 = .ok (.istore_n 3, 1) := by decide +kernel
theorem dX3_needs_13 : decode cX3_needs 13 = .ok (.aload_n 0, 1) := by decide +kernel
theorem dX3_needs_14 : decode cX3_needs 14 = .ok (.getfield 35, 3) := by decide +kernel
theorem dX3_needs_17 : decode cX3_needs 17 = .ok (.iload_n 1, 1) := by decide +kernel
theorem dX3_needs_18 : decode cX3_needs 18 = .ok (.iaload, 1) := by decide +kernel
theorem dX3_needs_19 : decode cX3_needs 19 = .ok (.tableswitch 76 1 4 #[29, 41, 48, 62], 29) := by decide +kernel
theorem dX3_needs_48 : decode cX3_needs 48 = .ok (.iload_n 2, 1) := by decide +kernel
theorem dX3_needs_49 : decode cX3_needs 49 = .ok (.aload_n 0, 1) := by decide +kernel
theorem dX3_needs_50 : decode cX3_needs 50 = .ok (.getfield 9, 3) := by decide +kernel
theorem dX3_needs_53 : decode cX3_needs 53 = .ok (.iconst 0, 1) := by decide +kernel
theorem dX3_needs_54 : decode cX3_needs 54 = .ok (.iaload, 1) := by decide +kernel
theorem dX3_needs_55 : decode cX3_needs 55 = .ok (.iadd, 1) := by decide +kernel
theorem dX3_needs_56 : decode cX3_needs 56 = .ok (.istore_n 3, 1) := by decide +kernel
theorem dX3_needs_57 : decode cX3_needs 57 = .ok (.goto 38, 3) := by decide +kernel
theorem dX3_needs_60 : decode cX3_needs 60 = .ok (.iload_n 2, 1) := by decide +kernel
theorem dX3_needs_61 : decode cX3_needs 61 = .ok (.iconst 2, 1) := by decide +kernel
theorem dX3_needs_62 : decode cX3_needs 62 = .ok (.idiv, 1) := by decide +kernel
theorem dX3_needs_63 : decode cX3_needs 63 = .ok (.istore_n 3, 1) := by decide +kernel
theorem dX3_needs_64 : decode cX3_needs 64 = .ok (.goto 31, 3) := by decide +kernel
theorem dX3_needs_67 : decode cX3_needs 67 = .ok (.iconst 2, 1) := by decide +kernel
theorem dX3_needs_68 : decode cX3_needs 68 = .ok (.iload_n 2, 1) := by decide +kernel
theorem dX3_needs_69 : decode cX3_needs 69 = .ok (.aload_n 0, 1) := by decide +kernel
theorem dX3_needs_70 : decode cX3_needs 70 = .ok (.getfield 9, 3) := by decide +kernel
theorem dX3_needs_73 : decode cX3_needs 73 = .ok (.iconst 0, 1) := by decide +kernel
theorem dX3_needs_74 : decode cX3_needs 74 = .ok (.iaload, 1) := by decide +kernel
theorem dX3_needs_75 : decode cX3_needs 75 = .ok (.iadd, 1) := by decide +kernel
theorem dX3_needs_76 : decode cX3_needs 76 = .ok (.imul, 1) := by decide +kernel
theorem dX3_needs_77 : decode cX3_needs 77 = .ok (.istore_n 3, 1) := by decide +kernel
theorem dX3_needs_78 : decode cX3_needs 78 = .ok (.goto 17, 3) := by decide +kernel
theorem dX3_needs_81 : decode cX3_needs 81 = .ok (.iload_n 2, 1) := by decide +kernel
theorem dX3_needs_82 : decode cX3_needs 82 = .ok (.iconst 2, 1) := by decide +kernel
theorem dX3_needs_83 : decode cX3_needs 83 = .ok (.idiv, 1) := by decide +kernel
theorem dX3_needs_84 : decode cX3_needs 84 = .ok (.aload_n 0, 1) := by decide +kernel
theorem dX3_needs_85 : decode cX3_needs 85 = .ok (.getfield 20, 3) := by decide +kernel
theorem dX3_needs_88 : decode cX3_needs 88 = .ok (.iload_n 1, 1) := by decide +kernel
theorem dX3_needs_89 : decode cX3_needs 89 = .ok (.iaload, 1) := by decide +kernel
theorem dX3_needs_90 : decode cX3_needs 90 = .ok (.iadd, 1) := by decide +kernel
theorem dX3_needs_91 : decode cX3_needs 91 = .ok (.istore_n 3, 1) := by decide +kernel
theorem dX3_needs_92 : decode cX3_needs 92 = .ok (.goto 3, 3) := by decide +kernel
theorem dX3_needs_95 : decode cX3_needs 95 = .ok (.iload_n 3, 1) := by decide +kernel
theorem dX3_needs_96 : decode cX3_needs 96 = .ok (.iconst 1, 1) := by decide +kernel
theorem dX3_needs_97 : decode cX3_needs 97 = .ok (.invokestatic 76, 3) := by decide +kernel
theorem dX3_needs_100 : decode cX3_needs 100 = .ok (.ireturn, 1) := by decide +kernel
theorem dX3_pays_0 : decode cX3_pays 0 = .ok (.iload_n 1, 1) := by decide +kernel
theorem dX3_pays_1 : decode cX3_pays 1 = .ok (.bipush 7, 2) := by decide +kernel
theorem dX3_pays_3 : decode cX3_pays 3 = .ok (.invokestatic 57, 3) := by decide +kernel
theorem dX3_pays_6 : decode cX3_pays 6 = .ok (.ifCond .ne 5, 3) := by decide +kernel
theorem dX3_pays_9 : decode cX3_pays 9 = .ok (.iconst 0, 1) := by decide +kernel
theorem dX3_pays_10 : decode cX3_pays 10 = .ok (.ireturn, 1) := by decide +kernel
theorem dX3_pays_11 : decode cX3_pays 11 = .ok (.aload_n 0, 1) := by decide +kernel
theorem dX3_pays_12 : decode cX3_pays 12 = .ok (.getfield 32, 3) := by decide +kernel
theorem dX3_pays_15 : decode cX3_pays 15 = .ok (.iload_n 1, 1) := by decide +kernel
theorem dX3_pays_16 : decode cX3_pays 16 = .ok (.iaload, 1) := by decide +kernel
theorem dX3_pays_17 : decode cX3_pays 17 = .ok (.istore_n 2, 1) := by decide +kernel
theorem dX3_pays_18 : decode cX3_pays 18 = .ok (.aload_n 0, 1) := by decide +kernel
theorem dX3_pays_19 : decode cX3_pays 19 = .ok (.getfield 35, 3) := by decide +kernel
theorem dX3_pays_22 : decode cX3_pays 22 = .ok (.iload_n 1, 1) := by decide +kernel
theorem dX3_pays_23 : decode cX3_pays 23 = .ok (.iaload, 1) := by decide +kernel
theorem dX3_pays_24 : decode cX3_pays 24 = .ok (.tableswitch 56 1 4 #[32, 56, 41, 52], 32) := by decide +kernel
theorem dX3_pays_56 : decode cX3_pays 56 = .ok (.iload_n 2, 1) := by decide +kernel
theorem dX3_pays_57 : decode cX3_pays 57 = .ok (.aload_n 0, 1) := by decide +kernel
theorem dX3_pays_58 : decode cX3_pays 58 = .ok (.getfield 20, 3) := by decide +kernel
theorem dX3_pays_61 : decode cX3_pays 61 = .ok (.iload_n 1, 1) := by decide +kernel
theorem dX3_pays_62 : decode cX3_pays 62 = .ok (.iaload, 1) := by decide +kernel
theorem dX3_pays_63 : decode cX3_pays 63 = .ok (.iadd, 1) := by decide +kernel
theorem dX3_pays_64 : decode cX3_pays 64 = .ok (.ireturn, 1) := by decide +kernel
theorem dX3_pays_65 : decode cX3_pays 65 = .ok (.iconst 2, 1) := by decide +kernel
theorem dX3_pays_66 : decode cX3_pays 66 = .ok (.iload_n 2, 1) := by decide +kernel
theorem dX3_pays_67 : decode cX3_pays 67 = .ok (.aload_n 0, 1) := by decide +kernel
theorem dX3_pays_68 : decode cX3_pays 68 = .ok (.getfield 20, 3) := by decide +kernel
theorem dX3_pays_71 : decode cX3_pays 71 = .ok (.iload_n 1, 1) := by decide +kernel
theorem dX3_pays_72 : decode cX3_pays 72 = .ok (.iaload, 1) := by decide +kernel
theorem dX3_pays_73 : decode cX3_pays 73 = .ok (.iadd, 1) := by decide +kernel
theorem dX3_pays_74 : decode cX3_pays 74 = .ok (.imul, 1) := by decide +kernel
theorem dX3_pays_75 : decode cX3_pays 75 = .ok (.ireturn, 1) := by decide +kernel
theorem dX3_pays_76 : decode cX3_pays 76 = .ok (.iload_n 2, 1) := by decide +kernel
theorem dX3_pays_77 : decode cX3_pays 77 = .ok (.iconst 1, 1) := by decide +kernel
theorem dX3_pays_78 : decode cX3_pays 78 = .ok (.iadd, 1) := by decide +kernel
theorem dX3_pays_79 : decode cX3_pays 79 = .ok (.ireturn, 1) := by decide +kernel
theorem dX3_pays_80 : decode cX3_pays 80 = .ok (.iload_n 2, 1) := by decide +kernel
theorem dX3_pays_81 : decode cX3_pays 81 = .ok (.ireturn, 1) := by decide +kernel
theorem dX3_paysOfAll_0 : decode cX3_paysOfAll 0 = .ok (.iconst 0, 1) := by decide +kernel
theorem dX3_paysOfAll_1 : decode cX3_paysOfAll 1 = .ok (.istore_n 1, 1) := by decide +kernel
theorem dX3_paysOfAll_2 : decode cX3_paysOfAll 2 = .ok (.iconst 0, 1) := by decide +kernel
theorem dX3_paysOfAll_3 : decode cX3_paysOfAll 3 = .ok (.istore_n 2, 1) := by decide +kernel
theorem dX3_paysOfAll_4 : decode cX3_paysOfAll 4 = .ok (.iload_n 2, 1) := by decide +kernel
theorem dX3_paysOfAll_5 : decode cX3_paysOfAll 5 = .ok (.aload_n 0, 1) := by decide +kernel
theorem dX3_paysOfAll_6 : decode cX3_paysOfAll 6 = .ok (.getfield 45, 3) := by decide +kernel
theorem dX3_paysOfAll_9 : decode cX3_paysOfAll 9 = .ok (.if_icmp .ge 17, 3) := by decide +kernel
theorem dX3_paysOfAll_12 : decode cX3_paysOfAll 12 = .ok (.iload_n 1, 1) := by decide +kernel
theorem dX3_paysOfAll_13 : decode cX3_paysOfAll 13 = .ok (.aload_n 0, 1) := by decide +kernel
theorem dX3_paysOfAll_14 : decode cX3_paysOfAll 14 = .ok (.iload_n 2, 1) := by decide +kernel
theorem dX3_paysOfAll_15 : decode cX3_paysOfAll 15 = .ok (.invokevirtual 81, 3) := by decide +kernel
theorem dX3_paysOfAll_18 : decode cX3_paysOfAll 18 = .ok (.iadd, 1) := by decide +kernel
theorem dX3_paysOfAll_19 : decode cX3_paysOfAll 19 = .ok (.istore_n 1, 1) := by decide +kernel
theorem dX3_paysOfAll_20 : decode cX3_paysOfAll 20 = .ok (.iinc 2 1, 3) := by decide +kernel
theorem dX3_paysOfAll_23 : decode cX3_paysOfAll 23 = .ok (.goto (-19), 3) := by decide +kernel
theorem dX3_paysOfAll_26 : decode cX3_paysOfAll 26 = .ok (.iload_n 1, 1) := by decide +kernel
theorem dX3_paysOfAll_27 : decode cX3_paysOfAll 27 = .ok (.ireturn, 1) := by decide +kernel
theorem dX3_firstClear_0 : decode cX3_firstClear 0 = .ok (.iload_n 1, 1) := by decide +kernel
theorem dX3_firstClear_1 : decode cX3_firstClear 1 = .ok (.bipush 7, 2) := by decide +kernel
theorem dX3_firstClear_3 : decode cX3_firstClear 3 = .ok (.invokestatic 57, 3) := by decide +kernel
theorem dX3_firstClear_6 : decode cX3_firstClear 6 = .ok (.ifCond .eq 7, 3) := by decide +kernel
theorem dX3_firstClear_9 : decode cX3_firstClear 9 = .ok (.iload_n 2, 1) := by decide +kernel
theorem dX3_firstClear_10 : decode cX3_firstClear 10 = .ok (.ifCond .ge 5, 3) := by decide +kernel
theorem dX3_firstClear_13 : decode cX3_firstClear 13 = .ok (.iconst (-1), 1) := by decide +kernel
theorem dX3_firstClear_14 : decode cX3_firstClear 14 = .ok (.ireturn, 1) := by decide +kernel
theorem dX3_firstClear_15 : decode cX3_firstClear 15 = .ok (.iload_n 2, 1) := by decide +kernel
theorem dX3_firstClear_16 : decode cX3_firstClear 16 = .ok (.aload_n 0, 1) := by decide +kernel
theorem dX3_firstClear_17 : decode cX3_firstClear 17 = .ok (.getfield 9, 3) := by decide +kernel
theorem dX3_firstClear_20 : decode cX3_firstClear 20 = .ok (.bipush 7, 2) := by decide +kernel
theorem dX3_firstClear_22 : decode cX3_firstClear 22 = .ok (.iaload, 1) := by decide +kernel
theorem dX3_firstClear_23 : decode cX3_firstClear 23 = .ok (.iadd, 1) := by decide +kernel
theorem dX3_firstClear_24 : decode cX3_firstClear 24 = .ok (.sipush 199, 3) := by decide +kernel
theorem dX3_firstClear_27 : decode cX3_firstClear 27 = .ok (.invokestatic 85, 3) := by decide +kernel
theorem dX3_firstClear_30 : decode cX3_firstClear 30 = .ok (.istore 4, 2) := by decide +kernel
theorem dX3_firstClear_32 : decode cX3_firstClear 32 = .ok (.iload_n 2, 1) := by decide +kernel
theorem dX3_firstClear_33 : decode cX3_firstClear 33 = .ok (.istore 5, 2) := by decide +kernel
theorem dX3_firstClear_35 : decode cX3_firstClear 35 = .ok (.iload 5, 2) := by decide +kernel
theorem dX3_firstClear_37 : decode cX3_firstClear 37 = .ok (.iload 4, 2) := by decide +kernel
theorem dX3_firstClear_39 : decode cX3_firstClear 39 = .ok (.if_icmp .gt 25, 3) := by decide +kernel
theorem dX3_firstClear_42 : decode cX3_firstClear 42 = .ok (.aload_n 0, 1) := by decide +kernel
theorem dX3_firstClear_43 : decode cX3_firstClear 43 = .ok (.getfield 38, 3) := by decide +kernel
theorem dX3_firstClear_46 : decode cX3_firstClear 46 = .ok (.iload_n 1, 1) := by decide +kernel
theorem dX3_firstClear_47 : decode cX3_firstClear 47 = .ok (.aaload, 1) := by decide +kernel
theorem dX3_firstClear_48 : decode cX3_firstClear 48 = .ok (.iload 5, 2) := by decide +kernel
theorem dX3_firstClear_50 : decode cX3_firstClear 50 = .ok (.iaload, 1) := by decide +kernel
theorem dX3_firstClear_51 : decode cX3_firstClear 51 = .ok (.iload_n 3, 1) := by decide +kernel
theorem dX3_firstClear_52 : decode cX3_firstClear 52 = .ok (.if_icmp .lt 6, 3) := by decide +kernel
theorem dX3_firstClear_55 : decode cX3_firstClear 55 = .ok (.iload 5, 2) := by decide +kernel
theorem dX3_firstClear_57 : decode cX3_firstClear 57 = .ok (.ireturn, 1) := by decide +kernel
theorem dX3_firstClear_58 : decode cX3_firstClear 58 = .ok (.iinc 5 1, 3) := by decide +kernel
theorem dX3_firstClear_61 : decode cX3_firstClear 61 = .ok (.goto (-26), 3) := by decide +kernel
theorem dX3_firstClear_64 : decode cX3_firstClear 64 = .ok (.iconst (-1), 1) := by decide +kernel
theorem dX3_firstClear_65 : decode cX3_firstClear 65 = .ok (.ireturn, 1) := by decide +kernel
theorem dX3_lookAhead_0 : decode cX3_lookAhead 0 = .ok (.iconst 0, 1) := by decide +kernel
theorem dX3_lookAhead_1 : decode cX3_lookAhead 1 = .ok (.istore_n 1, 1) := by decide +kernel
theorem dX3_lookAhead_2 : decode cX3_lookAhead 2 = .ok (.iload_n 1, 1) := by decide +kernel
theorem dX3_lookAhead_3 : decode cX3_lookAhead 3 = .ok (.aload_n 0, 1) := by decide +kernel
theorem dX3_lookAhead_4 : decode cX3_lookAhead 4 = .ok (.getfield 45, 3) := by decide +kernel
theorem dX3_lookAhead_7 : decode cX3_lookAhead 7 = .ok (.if_icmp .ge 80, 3) := by decide +kernel
theorem dX3_lookAhead_10 : decode cX3_lookAhead 10 = .ok (.iload_n 1, 1) := by decide +kernel
theorem dX3_lookAhead_11 : decode cX3_lookAhead 11 = .ok (.bipush 7, 2) := by decide +kernel
theorem dX3_lookAhead_13 : decode cX3_lookAhead 13 = .ok (.if_icmp .ge 74, 3) := by decide +kernel
theorem dX3_lookAhead_16 : decode cX3_lookAhead 16 = .ok (.aload_n 0, 1) := by decide +kernel
theorem dX3_lookAhead_17 : decode cX3_lookAhead 17 = .ok (.getfield 41, 3) := by decide +kernel
theorem dX3_lookAhead_20 : decode cX3_lookAhead 20 = .ok (.iload_n 1, 1) := by decide +kernel
theorem dX3_lookAhead_21 : decode cX3_lookAhead 21 = .ok (.ishr, 1) := by decide +kernel
theorem dX3_lookAhead_22 : decode cX3_lookAhead 22 = .ok (.iconst 1, 1) := by decide +kernel
theorem dX3_lookAhead_23 : decode cX3_lookAhead 23 = .ok (.iand, 1) := by decide +kernel
theorem dX3_lookAhead_24 : decode cX3_lookAhead 24 = .ok (.ifCond .ne 6, 3) := by decide +kernel
theorem dX3_lookAhead_27 : decode cX3_lookAhead 27 = .ok (.goto 54, 3) := by decide +kernel
theorem dX3_lookAhead_30 : decode cX3_lookAhead 30 = .ok (.iconst 0, 1) := by decide +kernel
theorem dX3_lookAhead_31 : decode cX3_lookAhead 31 = .ok (.istore_n 2, 1) := by decide +kernel
theorem dX3_lookAhead_32 : decode cX3_lookAhead 32 = .ok (.sipush 199, 3) := by decide +kernel
theorem dX3_lookAhead_35 : decode cX3_lookAhead 35 = .ok (.istore_n 3, 1) := by decide +kernel
theorem dX3_lookAhead_36 : decode cX3_lookAhead 36 = .ok (.iload_n 3, 1) := by decide +kernel
theorem dX3_lookAhead_37 : decode cX3_lookAhead 37 = .ok (.ifCond .lt 44, 3) := by decide +kernel
theorem dX3_lookAhead_40 : decode cX3_lookAhead 40 = .ok (.aload_n 0, 1) := by decide +kernel
theorem dX3_lookAhead_41 : decode cX3_lookAhead 41 = .ok (.iload_n 1, 1) := by decide +kernel
theorem dX3_lookAhead_42 : decode cX3_lookAhead 42 = .ok (.iload_n 3, 1) := by decide +kernel
theorem dX3_lookAhead_43 : decode cX3_lookAhead 43 = .ok (.invokevirtual 88, 3) := by decide +kernel
theorem dX3_lookAhead_46 : decode cX3_lookAhead 46 = .ok (.ifCond .eq 18, 3) := by decide +kernel
theorem dX3_lookAhead_49 : decode cX3_lookAhead 49 = .ok (.aload_n 0, 1) := by decide +kernel
theorem dX3_lookAhead_50 : decode cX3_lookAhead 50 = .ok (.iload_n 1, 1) := by decide +kernel
theorem dX3_lookAhead_51 : decode cX3_lookAhead 51 = .ok (.iload_n 3, 1) := by decide +kernel
theorem dX3_lookAhead_52 : decode cX3_lookAhead 52 = .ok (.invokevirtual 91, 3) := by decide +kernel
theorem dX3_lookAhead_55 : decode cX3_lookAhead 55 = .ok (.ifCond .ne 9, 3) := by decide +kernel
theorem dX3_lookAhead_58 : decode cX3_lookAhead 58 = .ok (.iload_n 2, 1) := by decide +kernel
theorem dX3_lookAhead_59 : decode cX3_lookAhead 59 = .ok (.iconst 1, 1) := by decide +kernel
theorem dX3_lookAhead_60 : decode cX3_lookAhead 60 = .ok (.iadd, 1) := by decide +kernel
theorem dX3_lookAhead_61 : decode cX3_lookAhead 61 = .ok (.goto 4, 3) := by decide +kernel
theorem dX3_lookAhead_64 : decode cX3_lookAhead 64 = .ok (.iconst 0, 1) := by decide +kernel
theorem dX3_lookAhead_65 : decode cX3_lookAhead 65 = .ok (.istore_n 2, 1) := by decide +kernel
theorem dX3_lookAhead_66 : decode cX3_lookAhead 66 = .ok (.aload_n 0, 1) := by decide +kernel
theorem dX3_lookAhead_67 : decode cX3_lookAhead 67 = .ok (.getfield 38, 3) := by decide +kernel
theorem dX3_lookAhead_70 : decode cX3_lookAhead 70 = .ok (.iload_n 1, 1) := by decide +kernel
theorem dX3_lookAhead_71 : decode cX3_lookAhead 71 = .ok (.aaload, 1) := by decide +kernel
theorem dX3_lookAhead_72 : decode cX3_lookAhead 72 = .ok (.iload_n 3, 1) := by decide +kernel
theorem dX3_lookAhead_73 : decode cX3_lookAhead 73 = .ok (.iload_n 2, 1) := by decide +kernel
theorem dX3_lookAhead_74 : decode cX3_lookAhead 74 = .ok (.iastore, 1) := by decide +kernel
theorem dX3_lookAhead_75 : decode cX3_lookAhead 75 = .ok (.iinc 3 (-1), 3) := by decide +kernel
theorem dX3_lookAhead_78 : decode cX3_lookAhead 78 = .ok (.goto (-42), 3) := by decide +kernel
theorem dX3_lookAhead_81 : decode cX3_lookAhead 81 = .ok (.iinc 1 1, 3) := by decide +kernel
theorem dX3_lookAhead_84 : decode cX3_lookAhead 84 = .ok (.goto (-82), 3) := by decide +kernel
theorem dX3_lookAhead_87 : decode cX3_lookAhead 87 = .ok (.aload_n 0, 1) := by decide +kernel
theorem dX3_lookAhead_88 : decode cX3_lookAhead 88 = .ok (.iconst 0, 1) := by decide +kernel
theorem dX3_lookAhead_89 : decode cX3_lookAhead 89 = .ok (.putfield 41, 3) := by decide +kernel
theorem dX3_lookAhead_92 : decode cX3_lookAhead 92 = .ok (.return_, 1) := by decide +kernel
theorem dX4_init_0 : decode cX4_init 0 = .ok (.aload_n 0, 1) := by decide +kernel
theorem dX4_init_1 : decode cX4_init 1 = .ok (.invokespecial 3, 3) := by decide +kernel
theorem dX4_init_4 : decode cX4_init 4 = .ok (.aload_n 0, 1) := by decide +kernel
theorem dX4_init_5 : decode cX4_init 5 = .ok (.sipush 160, 3) := by decide +kernel
theorem dX4_init_8 : decode cX4_init 8 = .ok (.newarray .int, 2) := by decide +kernel
theorem dX4_init_10 : decode cX4_init 10 = .ok (.putfield 9, 3) := by decide +kernel
theorem dX4_init_13 : decode cX4_init 13 = .ok (.aload_n 0, 1) := by decide +kernel
theorem dX4_init_14 : decode cX4_init 14 = .ok (.iconst 3, 1) := by decide +kernel
theorem dX4_init_15 : decode cX4_init 15 = .ok (.newarray .int, 2) := by decide +kernel
theorem dX4_init_17 : decode cX4_init 17 = .ok (.putfield 15, 3) := by decide +kernel
theorem dX4_init_20 : decode cX4_init 20 = .ok (.aload_n 0, 1) := by decide +kernel
theorem dX4_init_21 : decode cX4_init 21 = .ok (.iconst 0, 1) := by decide +kernel
theorem dX4_init_22 : decode cX4_init 22 = .ok (.putfield 18, 3) := by decide +kernel
theorem dX4_init_25 : decode cX4_init 25 = .ok (.return_, 1) := by decide +kernel
theorem dX4_empty_0 : decode cX4_empty 0 = .ok (.aload_n 0, 1) := by decide +kernel
theorem dX4_empty_1 : decode cX4_empty 1 = .ok (.iconst 0, 1) := by decide +kernel
theorem dX4_empty_2 : decode cX4_empty 2 = .ok (.putfield 18, 3) := by decide +kernel
theorem dX4_empty_5 : decode cX4_empty 5 = .ok (.return_, 1) := by decide +kernel
theorem dX4_add_0 : decode cX4_add 0 = .ok (.aload_n 0, 1) := by decide +kernel
theorem dX4_add_1 : decode cX4_add 1 = .ok (.getfield 18, 3) := by decide +kernel
theorem dX4_add_4 : decode cX4_add 4 = .ok (.aload_n 0, 1) := by decide +kernel
theorem dX4_add_5 : decode cX4_add 5 = .ok (.getfield 9, 3) := by decide +kernel
theorem dX4_add_8 : decode cX4_add 8 = .ok (.arraylength, 1) := by decide +kernel
theorem dX4_add_9 : decode cX4_add 9 = .ok (.if_icmp .ge 23, 3) := by decide +kernel
theorem dX4_add_12 : decode cX4_add 12 = .ok (.aload_n 0, 1) := by decide +kernel
theorem dX4_add_13 : decode cX4_add 13 = .ok (.getfield 9, 3) := by decide +kernel
theorem dX4_add_16 : decode cX4_add 16 = .ok (.aload_n 0, 1) := by decide +kernel
theorem dX4_add_17 : decode cX4_add 17 = .ok (.getfield 18, 3) := by decide +kernel
theorem dX4_add_20 : decode cX4_add 20 = .ok (.iload_n 1, 1) := by decide +kernel
theorem dX4_add_21 : decode cX4_add 21 = .ok (.iastore, 1) := by decide +kernel
theorem dX4_add_22 : decode cX4_add 22 = .ok (.aload_n 0, 1) := by decide +kernel
theorem dX4_add_23 : decode cX4_add 23 = .ok (.dup, 1) := by decide +kernel
theorem dX4_add_24 : decode cX4_add 24 = .ok (.getfield 18, 3) := by decide +kernel
theorem dX4_add_27 : decode cX4_add 27 = .ok (.iconst 1, 1) := by decide +kernel
theorem dX4_add_28 : decode cX4_add 28 = .ok (.iadd, 1) := by decide +kernel
theorem dX4_add_29 : decode cX4_add 29 = .ok (.putfield 18, 3) := by decide +kernel
theorem dX4_add_32 : decode cX4_add 32 = .ok (.return_, 1) := by decide +kernel
theorem dX4_endPart_0 : decode cX4_endPart 0 = .ok (.iload_n 1, 1) := by decide +kernel
theorem dX4_endPart_1 : decode cX4_endPart 1 = .ok (.iconst 3, 1) := by decide +kernel
theorem dX4_endPart_2 : decode cX4_endPart 2 = .ok (.invokestatic 22, 3) := by decide +kernel
theorem dX4_endPart_5 : decode cX4_endPart 5 = .ok (.ifCond .eq 13, 3) := by decide +kernel
theorem dX4_endPart_8 : decode cX4_endPart 8 = .ok (.aload_n 0, 1) := by decide +kernel
theorem dX4_endPart_9 : decode cX4_endPart 9 = .ok (.getfield 15, 3) := by decide +kernel
theorem dX4_endPart_12 : decode cX4_endPart 12 = .ok (.iload_n 1, 1) := by decide +kernel
theorem dX4_endPart_13 : decode cX4_endPart 13 = .ok (.aload_n 0, 1) := by decide +kernel
theorem dX4_endPart_14 : decode cX4_endPart 14 = .ok (.getfield 18, 3) := by decide +kernel
theorem dX4_endPart_17 : decode cX4_endPart 17 = .ok (.iastore, 1) := by decide +kernel
theorem dX4_endPart_18 : decode cX4_endPart 18 = .ok (.return_, 1) := by decide +kernel
theorem dX4_value_0 : decode cX4_value 0 = .ok (.iload_n 1, 1) := by decide +kernel
theorem dX4_value_1 : decode cX4_value 1 = .ok (.iconst 3, 1) := by decide +kernel
theorem dX4_value_2 : decode cX4_value 2 = .ok (.invokestatic 22, 3) := by decide +kernel
theorem dX4_value_5 : decode cX4_value 5 = .ok (.ifCond .ne 6, 3) := by decide +kernel
theorem dX4_value_8 : decode cX4_value 8 = .ok (.bipush (-2), 2) := by decide +kernel
theorem dX4_value_10 : decode cX4_value 10 = .ok (.ireturn, 1) := by decide +kernel
theorem dX4_value_11 : decode cX4_value 11 = .ok (.iconst 0, 1) := by decide +kernel
theorem dX4_value_12 : decode cX4_value 12 = .ok (.istore 4, 2) := by decide +kernel
theorem dX4_value_14 : decode cX4_value 14 = .ok (.iload_n 1, 1) := by decide +kernel
theorem dX4_value_15 : decode cX4_value 15 = .ok (.ifCond .ne 7, 3) := by decide +kernel
theorem dX4_value_18 : decode cX4_value 18 = .ok (.iconst 0, 1) := by decide +kernel
theorem dX4_value_19 : decode cX4_value 19 = .ok (.goto 11, 3) := by decide +kernel
theorem dX4_value_22 : decode cX4_value 22 = .ok (.aload_n 0, 1) := by decide +kernel
theorem dX4_value_23 : decode cX4_value 23 = .ok (.getfield 15, 3) := by decide +kernel
theorem dX4_value_26 : decode cX4_value 26 = .ok (.iload_n 1, 1) := by decide +kernel
theorem dX4_value_27 : decode cX4_value 27 = .ok (.iconst 1, 1) := by decide +kernel
theorem dX4_value_28 : decode cX4_value 28 = .ok (.isub, 1) := by decide +kernel
theorem dX4_value_29 : decode cX4_value 29 = .ok (.iaload, 1) := by decide +kernel
theorem dX4_value_30 : decode cX4_value 30 = .ok (.istore 5, 2) := by decide +kernel
theorem dX4_value_32 : decode cX4_value 32 = .ok (.iload 5, 2) := by decide +kernel
theorem dX4_value_34 : decode cX4_value 34 = .ok (.aload_n 0, 1) := by decide +kernel
theorem dX4_value_35 : decode cX4_value 35 = .ok (.getfield 15, 3) := by decide +kernel
theorem dX4_value_38 : decode cX4_value 38 = .ok (.iload_n 1, 1) := by decide +kernel
theorem dX4_value_39 : decode cX4_value 39 = .ok (.iaload, 1) := by decide +kernel
theorem dX4_value_40 : decode cX4_value 40 = .ok (.if_icmp .ge 161, 3) := by decide +kernel
theorem dX4_value_43 : decode cX4_value 43 = .ok (.iload 5, 2) := by decide +kernel
theorem dX4_value_45 : decode cX4_value 45 = .ok (.aload_n 0, 1) := by decide +kernel
theorem dX4_value_46 : decode cX4_value 46 = .ok (.getfield 9, 3) := by decide +kernel
theorem dX4_value_49 : decode cX4_value 49 = .ok (.arraylength, 1) := by decide +kernel
theorem dX4_value_50 : decode cX4_value 50 = .ok (.if_icmp .ge 151, 3) := by decide +kernel
theorem dX4_value_53 : decode cX4_value 53 = .ok (.aload_n 0, 1) := by decide +kernel
theorem dX4_value_54 : decode cX4_value 54 = .ok (.getfield 9, 3) := by decide +kernel
theorem dX4_value_57 : decode cX4_value 57 = .ok (.iload 5, 2) := by decide +kernel
theorem dX4_value_59 : decode cX4_value 59 = .ok (.iaload, 1) := by decide +kernel
theorem dX4_value_60 : decode cX4_value 60 = .ok (.istore 6, 2) := by decide +kernel
theorem dX4_value_62 : decode cX4_value 62 = .ok (.iload 6, 2) := by decide +kernel
theorem dX4_value_64 : decode cX4_value 64 = .ok (.bipush (-7), 2) := by decide +kernel
theorem dX4_value_66 : decode cX4_value 66 = .ok (.if_icmp .le 45, 3) := by decide +kernel
theorem dX4_value_69 : decode cX4_value 69 = .ok (.iload 4, 2) := by decide +kernel
theorem dX4_value_71 : decode cX4_value 71 = .ok (.aload_n 3, 1) := by decide +kernel
theorem dX4_value_72 : decode cX4_value 72 = .ok (.arraylength, 1) := by decide +kernel
theorem dX4_value_73 : decode cX4_value 73 = .ok (.if_icmp .ge 122, 3) := by decide +kernel
theorem dX4_value_76 : decode cX4_value 76 = .ok (.aload_n 3, 1) := by decide +kernel
theorem dX4_value_77 : decode cX4_value 77 = .ok (.iload 4, 2) := by decide +kernel
theorem dX4_value_79 : decode cX4_value 79 = .ok (.iload 6, 2) := by decide +kernel
theorem dX4_value_81 : decode cX4_value 81 = .ok (.ifCond .ge 12, 3) := by decide +kernel
theorem dX4_value_84 : decode cX4_value 84 = .ok (.iconst (-1), 1) := by decide +kernel
theorem dX4_value_85 : decode cX4_value 85 = .ok (.iload 6, 2) := by decide +kernel
theorem dX4_value_87 : decode cX4_value 87 = .ok (.isub, 1) := by decide +kernel
theorem dX4_value_88 : decode cX4_value 88 = .ok (.aload_n 2, 1) := by decide +kernel
theorem dX4_value_89 : decode cX4_value 89 = .ok (.arraylength, 1) := by decide +kernel
theorem dX4_value_90 : decode cX4_value 90 = .ok (.if_icmp .lt 8, 3) := by decide +kernel
theorem dX4_value_93 : decode cX4_value 93 = .ok (.iload 6, 2) := by decide +kernel
theorem dX4_value_95 : decode cX4_value 95 = .ok (.goto 9, 3) := by decide +kernel
theorem dX4_value_98 : decode cX4_value 98 = .ok (.aload_n 2, 1) := by decide +kernel
theorem dX4_value_99 : decode cX4_value 99 = .ok (.iconst (-1), 1) := by decide +kernel
theorem dX4_value_100 : decode cX4_value 100 = .ok (.iload 6, 2) := by decide +kernel
theorem dX4_value_102 : decode cX4_value 102 = .ok (.isub, 1) := by decide +kernel
theorem dX4_value_103 : decode cX4_value 103 = .ok (.iaload, 1) := by decide +kernel
theorem dX4_value_104 : decode cX4_value 104 = .ok (.iastore, 1) := by decide +kernel
theorem dX4_value_105 : decode cX4_value 105 = .ok (.iinc 4 1, 3) := by decide +kernel
theorem dX4_value_108 : decode cX4_value 108 = .ok (.goto 87, 3) := by decide +kernel
theorem dX4_value_111 : decode cX4_value 111 = .ok (.iload 6, 2) := by decide +kernel
theorem dX4_value_113 : decode cX4_value 113 = .ok (.bipush (-8), 2) := by decide +kernel
theorem dX4_value_115 : decode cX4_value 115 = .ok (.if_icmp .lt 48, 3) := by decide +kernel
theorem dX4_value_118 : decode cX4_value 118 = .ok (.iload 4, 2) := by decide +kernel
theorem dX4_value_120 : decode cX4_value 120 = .ok (.ifCond .le 75, 3) := by decide +kernel
theorem dX4_value_123 : decode cX4_value 123 = .ok (.aload_n 3, 1) := by decide +kernel
theorem dX4_value_124 : decode cX4_value 124 = .ok (.iload 4, 2) := by decide +kernel
theorem dX4_value_126 : decode cX4_value 126 = .ok (.iconst 1, 1) := by decide +kernel
theorem dX4_value_127 : decode cX4_value 127 = .ok (.isub, 1) := by decide +kernel
theorem dX4_value_128 : decode cX4_value 128 = .ok (.iload 6, 2) := by decide +kernel
theorem dX4_value_130 : decode cX4_value 130 = .ok (.bipush (-7), 2) := by decide +kernel
theorem dX4_value_132 : decode cX4_value 132 = .ok (.if_icmp .ne 13, 3) := by decide +kernel
theorem dX4_value_135 : decode cX4_value 135 = .ok (.aload_n 3, 1) := by decide +kernel
theorem dX4_value_136 : decode cX4_value 136 = .ok (.iload 4, 2) := by decide +kernel
theorem dX4_value_138 : decode cX4_value 138 = .ok (.iconst 1, 1) := by decide +kernel
theorem dX4_value_139 : decode cX4_value 139 = .ok (.isub, 1) := by decide +kernel
theorem dX4_value_140 : decode cX4_value 140 = .ok (.iaload, 1) := by decide +kernel
theorem dX4_value_141 : decode cX4_value 141 = .ok (.ineg, 1) := by decide +kernel
theorem dX4_value_142 : decode cX4_value 142 = .ok (.goto 17, 3) := by decide +kernel
theorem dX4_value_145 : decode cX4_value 145 = .ok (.aload_n 3, 1) := by decide +kernel
theorem dX4_value_146 : decode cX4_value 146 = .ok (.iload 4, 2) := by decide +kernel
theorem dX4_value_148 : decode cX4_value 148 = .ok (.iconst 1, 1) := by decide +kernel
theorem dX4_value_149 : decode cX4_value 149 = .ok (.isub, 1) := by decide +kernel
theorem dX4_value_150 : decode cX4_value 150 = .ok (.iaload, 1) := by decide +kernel
theorem dX4_value_151 : decode cX4_value 151 = .ok (.ifCond .ne 7, 3) := by decide +kernel
theorem dX4_value_154 : decode cX4_value 154 = .ok (.iconst 1, 1) := by decide +kernel
theorem dX4_value_155 : decode cX4_value 155 = .ok (.goto 4, 3) := by decide +kernel
theorem dX4_value_158 : decode cX4_value 158 = .ok (.iconst 0, 1) := by decide +kernel
theorem dX4_value_159 : decode cX4_value 159 = .ok (.iastore, 1) := by decide +kernel
theorem dX4_value_160 : decode cX4_value 160 = .ok (.goto 35, 3) := by decide +kernel
theorem dX4_value_163 : decode cX4_value 163 = .ok (.iload 4, 2) := by decide +kernel
theorem dX4_value_165 : decode cX4_value 165 = .ok (.iconst 1, 1) := by decide +kernel
theorem dX4_value_166 : decode cX4_value 166 = .ok (.if_icmp .le 29, 3) := by decide +kernel
theorem dX4_value_169 : decode cX4_value 169 = .ok (.aload_n 3, 1) := by decide +kernel
theorem dX4_value_170 : decode cX4_value 170 = .ok (.iload 4, 2) := by decide +kernel
theorem dX4_value_172 : decode cX4_value 172 = .ok (.iconst 2, 1) := by decide +kernel
theorem dX4_value_173 : decode cX4_value 173 = .ok (.isub, 1) := by decide +kernel
theorem dX4_value_174 : decode cX4_value 174 = .ok (.iload 6, 2) := by decide +kernel
theorem dX4_value_176 : decode cX4_value 176 = .ok (.aload_n 3, 1) := by decide +kernel
theorem dX4_value_177 : decode cX4_value 177 = .ok (.iload 4, 2) := by decide +kernel
theorem dX4_value_179 : decode cX4_value 179 = .ok (.iconst 2, 1) := by decide +kernel
theorem dX4_value_180 : decode cX4_value 180 = .ok (.isub, 1) := by decide +kernel
theorem dX4_value_181 : decode cX4_value 181 = .ok (.iaload, 1) := by decide +kernel
theorem dX4_value_182 : decode cX4_value 182 = .ok (.aload_n 3, 1) := by decide +kernel
theorem dX4_value_183 : decode cX4_value 183 = .ok (.iload 4, 2) := by decide +kernel
theorem dX4_value_185 : decode cX4_value 185 = .ok (.iconst 1, 1) := by decide +kernel
theorem dX4_value_186 : decode cX4_value 186 = .ok (.isub, 1) := by decide +kernel
theorem dX4_value_187 : decode cX4_value 187 = .ok (.iaload, 1) := by decide +kernel
theorem dX4_value_188 : decode cX4_value 188 = .ok (.invokestatic 26, 3) := by decide +kernel
theorem dX4_value_191 : decode cX4_value 191 = .ok (.iastore, 1) := by decide +kernel
theorem dX4_value_192 : decode cX4_value 192 = .ok (.iinc 4 (-1), 3) := by decide +kernel
theorem dX4_value_195 : decode cX4_value 195 = .ok (.iinc 5 1, 3) := by decide +kernel
theorem dX4_value_198 : decode cX4_value 198 = .ok (.goto (-166), 3) := by decide +kernel
theorem dX4_value_201 : decode cX4_value 201 = .ok (.iload 4, 2) := by decide +kernel
theorem dX4_value_203 : decode cX4_value 203 = .ok (.ifCond .le 12, 3) := by decide +kernel
theorem dX4_value_206 : decode cX4_value 206 = .ok (.aload_n 3, 1) := by decide +kernel
theorem dX4_value_207 : decode cX4_value 207 = .ok (.iload 4, 2) := by decide +kernel
theorem dX4_value_209 : decode cX4_value 209 = .ok (.iconst 1, 1) := by decide +kernel
theorem dX4_value_210 : decode cX4_value 210 = .ok (.isub, 1) := by decide +kernel
theorem dX4_value_211 : decode cX4_value 211 = .ok (.iaload, 1) := by decide +kernel
theorem dX4_value_212 : decode cX4_value 212 = .ok (.goto 4, 3) := by decide +kernel
theorem dX4_value_215 : decode cX4_value 215 = .ok (.iconst 0, 1) := by decide +kernel
theorem dX4_value_216 : decode cX4_value 216 = .ok (.istore 5, 2) := by decide +kernel
theorem dX4_value_218 : decode cX4_value 218 = .ok (.iload 5, 2) := by decide +kernel
theorem dX4_value_220 : decode cX4_value 220 = .ok (.getstatic 30, 3) := by decide +kernel
theorem dX4_value_223 : decode cX4_value 223 = .ok (.iload_n 1, 1) := by decide +kernel
theorem dX4_value_224 : decode cX4_value 224 = .ok (.iaload, 1) := by decide +kernel
theorem dX4_value_225 : decode cX4_value 225 = .ok (.invokestatic 33, 3) := by decide +kernel
theorem dX4_value_228 : decode cX4_value 228 = .ok (.getstatic 39, 3) := by decide +kernel
theorem dX4_value_231 : decode cX4_value 231 = .ok (.iload_n 1, 1) := by decide +kernel
theorem dX4_value_232 : decode cX4_value 232 = .ok (.iaload, 1) := by decide +kernel
theorem dX4_value_233 : decode cX4_value 233 = .ok (.invokestatic 42, 3) := by decide +kernel
theorem dX4_value_236 : decode cX4_value 236 = .ok (.ireturn, 1) := by decide +kernel
theorem dX4_joined_0 : decode cX4_joined 0 = .ok (.iload_n 0, 1) := by decide +kernel
theorem dX4_joined_1 : decode cX4_joined 1 = .ok (.tableswitch 97 (-14) (-9) #[93, 89, 78, 67, 53, 39], 39) := by decide +kernel
theorem dX4_joined_40 : decode cX4_joined 40 = .ok (.iload_n 1, 1) := by decide +kernel
theorem dX4_joined_41 : decode cX4_joined 41 = .ok (.ifCond .ne 7, 3) := by decide +kernel
theorem dX4_joined_44 : decode cX4_joined 44 = .ok (.iload_n 2, 1) := by decide +kernel
theorem dX4_joined_45 : decode cX4_joined 45 = .ok (.ifCond .eq 7, 3) := by decide +kernel
theorem dX4_joined_48 : decode cX4_joined 48 = .ok (.iconst 1, 1) := by decide +kernel
theorem dX4_joined_49 : decode cX4_joined 49 = .ok (.goto 4, 3) := by decide +kernel
theorem dX4_joined_52 : decode cX4_joined 52 = .ok (.iconst 0, 1) := by decide +kernel
theorem dX4_joined_53 : decode cX4_joined 53 = .ok (.ireturn, 1) := by decide +kernel
theorem dX4_joined_54 : decode cX4_joined 54 = .ok (.iload_n 1, 1) := by decide +kernel
theorem dX4_joined_55 : decode cX4_joined 55 = .ok (.ifCond .eq 11, 3) := by decide +kernel
theorem dX4_joined_58 : decode cX4_joined 58 = .ok (.iload_n 2, 1) := by decide +kernel
theorem dX4_joined_59 : decode cX4_joined 59 = .ok (.ifCond .eq 7, 3) := by decide +kernel
theorem dX4_joined_62 : decode cX4_joined 62 = .ok (.iconst 1, 1) := by decide +kernel
theorem dX4_joined_63 : decode cX4_joined 63 = .ok (.goto 4, 3) := by decide +kernel
theorem dX4_joined_66 : decode cX4_joined 66 = .ok (.iconst 0, 1) := by decide +kernel
theorem dX4_joined_67 : decode cX4_joined 67 = .ok (.ireturn, 1) := by decide +kernel
theorem dX4_joined_68 : decode cX4_joined 68 = .ok (.iload_n 1, 1) := by decide +kernel
theorem dX4_joined_69 : decode cX4_joined 69 = .ok (.iload_n 2, 1) := by decide +kernel
theorem dX4_joined_70 : decode cX4_joined 70 = .ok (.if_icmp .ge 7, 3) := by decide +kernel
theorem dX4_joined_73 : decode cX4_joined 73 = .ok (.iconst 1, 1) := by decide +kernel
theorem dX4_joined_74 : decode cX4_joined 74 = .ok (.goto 4, 3) := by decide +kernel
theorem dX4_joined_77 : decode cX4_joined 77 = .ok (.iconst 0, 1) := by decide +kernel
theorem dX4_joined_78 : decode cX4_joined 78 = .ok (.ireturn, 1) := by decide +kernel
theorem dX4_joined_79 : decode cX4_joined 79 = .ok (.iload_n 1, 1) := by decide +kernel
theorem dX4_joined_80 : decode cX4_joined 80 = .ok (.iload_n 2, 1) := by decide +kernel
theorem dX4_joined_81 : decode cX4_joined 81 = .ok (.if_icmp .ne 7, 3) := by decide +kernel
theorem dX4_joined_84 : decode cX4_joined 84 = .ok (.iconst 1, 1) := by decide +kernel
theorem dX4_joined_85 : decode cX4_joined 85 = .ok (.goto 4, 3) := by decide +kernel
theorem dX4_joined_88 : decode cX4_joined 88 = .ok (.iconst 0, 1) := by decide +kernel
theorem dX4_joined_89 : decode cX4_joined 89 = .ok (.ireturn, 1) := by decide +kernel
theorem dX4_joined_90 : decode cX4_joined 90 = .ok (.iload_n 1, 1) := by decide +kernel
theorem dX4_joined_91 : decode cX4_joined 91 = .ok (.iload_n 2, 1) := by decide +kernel
theorem dX4_joined_92 : decode cX4_joined 92 = .ok (.iadd, 1) := by decide +kernel
theorem dX4_joined_93 : decode cX4_joined 93 = .ok (.ireturn, 1) := by decide +kernel
theorem dX4_joined_94 : decode cX4_joined 94 = .ok (.iload_n 1, 1) := by decide +kernel
theorem dX4_joined_95 : decode cX4_joined 95 = .ok (.iload_n 2, 1) := by decide +kernel
theorem dX4_joined_96 : decode cX4_joined 96 = .ok (.isub, 1) := by decide +kernel
theorem dX4_joined_97 : decode cX4_joined 97 = .ok (.ireturn, 1) := by decide +kernel
theorem dX4_joined_98 : decode cX4_joined 98 = .ok (.iload_n 1, 1) := by decide +kernel
theorem dX4_joined_99 : decode cX4_joined 99 = .ok (.iload_n 2, 1) := by decide +kernel
theorem dX4_joined_100 : decode cX4_joined 100 = .ok (.imul, 1) := by decide +kernel
theorem dX4_joined_101 : decode cX4_joined 101 = .ok (.ireturn, 1) := by decide +kernel
theorem dX5_init_0 : decode cX5_init 0 = .ok (.aload_n 0, 1) := by decide +kernel
theorem dX5_init_1 : decode cX5_init 1 = .ok (.invokespecial 3, 3) := by decide +kernel
theorem dX5_init_4 : decode cX5_init 4 = .ok (.aload_n 0, 1) := by decide +kernel
theorem dX5_init_5 : decode cX5_init 5 = .ok (.bipush 6, 2) := by decide +kernel
theorem dX5_init_7 : decode cX5_init 7 = .ok (.newarray .int, 2) := by decide +kernel
theorem dX5_init_9 : decode cX5_init 9 = .ok (.putfield 11, 3) := by decide +kernel
theorem dX5_init_12 : decode cX5_init 12 = .ok (.aload_n 0, 1) := by decide +kernel
theorem dX5_init_13 : decode cX5_init 13 = .ok (.sipush 160, 3) := by decide +kernel
theorem dX5_init_16 : decode cX5_init 16 = .ok (.newarray .int, 2) := by decide +kernel
theorem dX5_init_18 : decode cX5_init 18 = .ok (.putfield 17, 3) := by decide +kernel
theorem dX5_init_21 : decode cX5_init 21 = .ok (.aload_n 0, 1) := by decide +kernel
theorem dX5_init_22 : decode cX5_init 22 = .ok (.bipush 7, 2) := by decide +kernel
theorem dX5_init_24 : decode cX5_init 24 = .ok (.newarray .int, 2) := by decide +kernel
theorem dX5_init_26 : decode cX5_init 26 = .ok (.putfield 20, 3) := by decide +kernel
theorem dX5_init_29 : decode cX5_init 29 = .ok (.aload_n 0, 1) := by decide +kernel
theorem dX5_init_30 : decode cX5_init 30 = .ok (.bipush 7, 2) := by decide +kernel
theorem dX5_init_32 : decode cX5_init 32 = .ok (.newarray .int, 2) := by decide +kernel
theorem dX5_init_34 : decode cX5_init 34 = .ok (.putfield 23, 3) := by decide +kernel
theorem dX5_init_37 : decode cX5_init 37 = .ok (.aload_n 0, 1) := by decide +kernel
theorem dX5_init_38 : decode cX5_init 38 = .ok (.iconst 0, 1) := by decide +kernel
theorem dX5_init_39 : decode cX5_init 39 = .ok (.putfield 26, 3) := by decide +kernel
theorem dX5_init_42 : decode cX5_init 42 = .ok (.aload_n 0, 1) := by decide +kernel
theorem dX5_init_43 : decode cX5_init 43 = .ok (.iconst 0, 1) := by decide +kernel
theorem dX5_init_44 : decode cX5_init 44 = .ok (.putfield 30, 3) := by decide +kernel
theorem dX5_init_47 : decode cX5_init 47 = .ok (.aload_n 0, 1) := by decide +kernel
theorem dX5_init_48 : decode cX5_init 48 = .ok (.iconst 0, 1) := by decide +kernel
theorem dX5_init_49 : decode cX5_init 49 = .ok (.putfield 33, 3) := by decide +kernel
theorem dX5_init_52 : decode cX5_init 52 = .ok (.aload_n 0, 1) := by decide +kernel
theorem dX5_init_53 : decode cX5_init 53 = .ok (.iconst 0, 1) := by decide +kernel
theorem dX5_init_54 : decode cX5_init 54 = .ok (.putfield 36, 3) := by decide +kernel
theorem dX5_init_57 : decode cX5_init 57 = .ok (.aload_n 0, 1) := by decide +kernel
theorem dX5_init_58 : decode cX5_init 58 = .ok (.iconst 0, 1) := by decide +kernel
theorem dX5_init_59 : decode cX5_init 59 = .ok (.putfield 39, 3) := by decide +kernel
theorem dX5_init_62 : decode cX5_init 62 = .ok (.aload_n 0, 1) := by decide +kernel
theorem dX5_init_63 : decode cX5_init 63 = .ok (.aload_n 2, 1) := by decide +kernel
theorem dX5_init_64 : decode cX5_init 64 = .ok (.putfield 42, 3) := by decide +kernel
theorem dX5_init_67 : decode cX5_init 67 = .ok (.aload_n 0, 1) := by decide +kernel
theorem dX5_init_68 : decode cX5_init 68 = .ok (.aload_n 1, 1) := by decide +kernel
theorem dX5_init_69 : decode cX5_init 69 = .ok (.putfield 46, 3) := by decide +kernel
theorem dX5_init_72 : decode cX5_init 72 = .ok (.aload_n 0, 1) := by decide +kernel
theorem dX5_init_73 : decode cX5_init 73 = .ok (.aload_n 2, 1) := by decide +kernel
theorem dX5_init_74 : decode cX5_init 74 = .ok (.arraylength, 1) := by decide +kernel
theorem dX5_init_75 : decode cX5_init 75 = .ok (.ifCond .le 9, 3) := by decide +kernel
theorem dX5_init_78 : decode cX5_init 78 = .ok (.aload_n 2, 1) := by decide +kernel
theorem dX5_init_79 : decode cX5_init 79 = .ok (.iconst 0, 1) := by decide +kernel
theorem dX5_init_80 : decode cX5_init 80 = .ok (.aaload, 1) := by decide +kernel
theorem dX5_init_81 : decode cX5_init 81 = .ok (.goto 10, 3) := by decide +kernel
theorem dX5_init_84 : decode cX5_init 84 = .ok (.new 9, 3) := by decide +kernel
theorem dX5_init_87 : decode cX5_init 87 = .ok (.dup, 1) := by decide +kernel
theorem dX5_init_88 : decode cX5_init 88 = .ok (.invokespecial 50, 3) := by decide +kernel
theorem dX5_init_91 : decode cX5_init 91 = .ok (.putfield 51, 3) := by decide +kernel
theorem dX5_init_94 : decode cX5_init 94 = .ok (.return_, 1) := by decide +kernel
theorem dX5_begin_0 : decode cX5_begin 0 = .ok (.aload_n 0, 1) := by decide +kernel
theorem dX5_begin_1 : decode cX5_begin 1 = .ok (.aload_n 1, 1) := by decide +kernel
theorem dX5_begin_2 : decode cX5_begin 2 = .ok (.putfield 46, 3) := by decide +kernel
theorem dX5_begin_5 : decode cX5_begin 5 = .ok (.aload_n 1, 1) := by decide +kernel
theorem dX5_begin_6 : decode cX5_begin 6 = .ok (.invokevirtual 55, 3) := by decide +kernel
theorem dX5_begin_9 : decode cX5_begin 9 = .ok (.aload_n 1, 1) := by decide +kernel
theorem dX5_begin_10 : decode cX5_begin 10 = .ok (.getfield 60, 3) := by decide +kernel
theorem dX5_begin_13 : decode cX5_begin 13 = .ok (.aload_n 0, 1) := by decide +kernel
theorem dX5_begin_14 : decode cX5_begin 14 = .ok (.getfield 42, 3) := by decide +kernel
theorem dX5_begin_17 : decode cX5_begin 17 = .ok (.arraylength, 1) := by decide +kernel
theorem dX5_begin_18 : decode cX5_begin 18 = .ok (.invokestatic 62, 3) := by decide +kernel
theorem dX5_begin_21 : decode cX5_begin 21 = .ok (.ifCond .eq 16, 3) := by decide +kernel
theorem dX5_begin_24 : decode cX5_begin 24 = .ok (.aload_n 0, 1) := by decide +kernel
theorem dX5_begin_25 : decode cX5_begin 25 = .ok (.aload_n 0, 1) := by decide +kernel
theorem dX5_begin_26 : decode cX5_begin 26 = .ok (.getfield 42, 3) := by decide +kernel
theorem dX5_begin_29 : decode cX5_begin 29 = .ok (.aload_n 1, 1) := by decide +kernel
theorem dX5_begin_30 : decode cX5_begin 30 = .ok (.getfield 60, 3) := by decide +kernel
theorem dX5_begin_33 : decode cX5_begin 33 = .ok (.aaload, 1) := by decide +kernel
theorem dX5_begin_34 : decode cX5_begin 34 = .ok (.putfield 51, 3) := by decide +kernel
theorem dX5_begin_37 : decode cX5_begin 37 = .ok (.aload_n 0, 1) := by decide +kernel
theorem dX5_begin_38 : decode cX5_begin 38 = .ok (.aload_n 1, 1) := by decide +kernel
theorem dX5_begin_39 : decode cX5_begin 39 = .ok (.iconst 5, 1) := by decide +kernel
theorem dX5_begin_40 : decode cX5_begin 40 = .ok (.iconst 0, 1) := by decide +kernel
theorem dX5_begin_41 : decode cX5_begin 41 = .ok (.invokevirtual 66, 3) := by decide +kernel
theorem dX5_begin_44 : decode cX5_begin 44 = .ok (.putfield 26, 3) := by decide +kernel
theorem dX5_begin_47 : decode cX5_begin 47 = .ok (.aload_n 0, 1) := by decide +kernel
theorem dX5_begin_48 : decode cX5_begin 48 = .ok (.aload_n 1, 1) := by decide +kernel
theorem dX5_begin_49 : decode cX5_begin 49 = .ok (.bipush 6, 2) := by decide +kernel
theorem dX5_begin_51 : decode cX5_begin 51 = .ok (.iconst 0, 1) := by decide +kernel
theorem dX5_begin_52 : decode cX5_begin 52 = .ok (.invokevirtual 66, 3) := by decide +kernel
theorem dX5_begin_55 : decode cX5_begin 55 = .ok (.putfield 30, 3) := by decide +kernel
theorem dX5_begin_58 : decode cX5_begin 58 = .ok (.aload_n 0, 1) := by decide +kernel
theorem dX5_begin_59 : decode cX5_begin 59 = .ok (.iconst 0, 1) := by decide +kernel
theorem dX5_begin_60 : decode cX5_begin 60 = .ok (.putfield 33, 3) := by decide +kernel
theorem dX5_begin_63 : decode cX5_begin 63 = .ok (.aload_n 0, 1) := by decide +kernel
theorem dX5_begin_64 : decode cX5_begin 64 = .ok (.iconst 0, 1) := by decide +kernel
theorem dX5_begin_65 : decode cX5_begin 65 = .ok (.putfield 36, 3) := by decide +kernel
theorem dX5_begin_68 : decode cX5_begin 68 = .ok (.aload_n 0, 1) := by decide +kernel
theorem dX5_begin_69 : decode cX5_begin 69 = .ok (.iconst 0, 1) := by decide +kernel
theorem dX5_begin_70 : decode cX5_begin 70 = .ok (.putfield 39, 3) := by decide +kernel
theorem dX5_begin_73 : decode cX5_begin 73 = .ok (.aload_n 0, 1) := by decide +kernel
theorem dX5_begin_74 : decode cX5_begin 74 = .ok (.getfield 20, 3) := by decide +kernel
theorem dX5_begin_77 : decode cX5_begin 77 = .ok (.iconst (-1), 1) := by decide +kernel
theorem dX5_begin_78 : decode cX5_begin 78 = .ok (.invokestatic 70, 3) := by decide +kernel
theorem dX5_begin_81 : decode cX5_begin 81 = .ok (.aload_n 0, 1) := by decide +kernel
theorem dX5_begin_82 : decode cX5_begin 82 = .ok (.getfield 23, 3) := by decide +kernel
theorem dX5_begin_85 : decode cX5_begin 85 = .ok (.iconst (-1), 1) := by decide +kernel
theorem dX5_begin_86 : decode cX5_begin 86 = .ok (.invokestatic 70, 3) := by decide +kernel
theorem dX5_begin_89 : decode cX5_begin 89 = .ok (.return_, 1) := by decide +kernel
theorem dX5_goPlain_0 : decode cX5_goPlain 0 = .ok (.aload_n 0, 1) := by decide +kernel
theorem dX5_goPlain_1 : decode cX5_goPlain 1 = .ok (.aload_n 1, 1) := by decide +kernel
theorem dX5_goPlain_2 : decode cX5_goPlain 2 = .ok (.invokevirtual 76, 3) := by decide +kernel
theorem dX5_goPlain_5 : decode cX5_goPlain 5 = .ok (.iconst 0, 1) := by decide +kernel
theorem dX5_goPlain_6 : decode cX5_goPlain 6 = .ok (.istore_n 3, 1) := by decide +kernel
theorem dX5_goPlain_7 : decode cX5_goPlain 7 = .ok (.iconst 0, 1) := by decide +kernel
theorem dX5_goPlain_8 : decode cX5_goPlain 8 = .ok (.istore 4, 2) := by decide +kernel
theorem dX5_goPlain_10 : decode cX5_goPlain 10 = .ok (.iload 4, 2) := by decide +kernel
theorem dX5_goPlain_12 : decode cX5_goPlain 12 = .ok (.aload_n 1, 1) := by decide +kernel
theorem dX5_goPlain_13 : decode cX5_goPlain 13 = .ok (.getfield 80, 3) := by decide +kernel
theorem dX5_goPlain_16 : decode cX5_goPlain 16 = .ok (.if_icmp .ge 28, 3) := by decide +kernel
theorem dX5_goPlain_19 : decode cX5_goPlain 19 = .ok (.iload_n 2, 1) := by decide +kernel
theorem dX5_goPlain_20 : decode cX5_goPlain 20 = .ok (.iload 4, 2) := by decide +kernel
theorem dX5_goPlain_22 : decode cX5_goPlain 22 = .ok (.ishr, 1) := by decide +kernel
theorem dX5_goPlain_23 : decode cX5_goPlain 23 = .ok (.iconst 1, 1) := by decide +kernel
theorem dX5_goPlain_24 : decode cX5_goPlain 24 = .ok (.iand, 1) := by decide +kernel
theorem dX5_goPlain_25 : decode cX5_goPlain 25 = .ok (.ifCond .eq 13, 3) := by decide +kernel
theorem dX5_goPlain_28 : decode cX5_goPlain 28 = .ok (.aload_n 0, 1) := by decide +kernel
theorem dX5_goPlain_29 : decode cX5_goPlain 29 = .ok (.iload 4, 2) := by decide +kernel
theorem dX5_goPlain_31 : decode cX5_goPlain 31 = .ok (.iload_n 3, 1) := by decide +kernel
theorem dX5_goPlain_32 : decode cX5_goPlain 32 = .ok (.invokevirtual 83, 3) := by decide +kernel
theorem dX5_goPlain_35 : decode cX5_goPlain 35 = .ok (.iinc 3 1, 3) := by decide +kernel
theorem dX5_goPlain_38 : decode cX5_goPlain 38 = .ok (.iinc 4 1, 3) := by decide +kernel
theorem dX5_goPlain_41 : decode cX5_goPlain 41 = .ok (.goto (-31), 3) := by decide +kernel
theorem dX5_goPlain_44 : decode cX5_goPlain 44 = .ok (.aload_n 0, 1) := by decide +kernel
theorem dX5_goPlain_45 : decode cX5_goPlain 45 = .ok (.getfield 33, 3) := by decide +kernel
theorem dX5_goPlain_48 : decode cX5_goPlain 48 = .ok (.ireturn, 1) := by decide +kernel
theorem dX5_lookFor_0 : decode cX5_lookFor 0 = .ok (.iload_n 1, 1) := by decide +kernel
theorem dX5_lookFor_1 : decode cX5_lookFor 1 = .ok (.bipush 7, 2) := by decide +kernel
theorem dX5_lookFor_3 : decode cX5_lookFor 3 = .ok (.invokestatic 62, 3) := by decide +kernel
theorem dX5_lookFor_6 : decode cX5_lookFor 6 = .ok (.ifCond .ne 4, 3) := by decide +kernel
theorem dX5_lookFor_9 : decode cX5_lookFor 9 = .ok (.return_, 1) := by decide +kernel
theorem dX5_lookFor_10 : decode cX5_lookFor 10 = .ok (.aload_n 0, 1) := by decide +kernel
theorem dX5_lookFor_11 : decode cX5_lookFor 11 = .ok (.getfield 46, 3) := by decide +kernel
theorem dX5_lookFor_14 : decode cX5_lookFor 14 = .ok (.bipush 9, 2) := by decide +kernel
theorem dX5_lookFor_16 : decode cX5_lookFor 16 = .ok (.iload_n 1, 1) := by decide +kernel
theorem dX5_lookFor_17 : decode cX5_lookFor 17 = .ok (.invokevirtual 66, 3) := by decide +kernel
theorem dX5_lookFor_20 : decode cX5_lookFor 20 = .ok (.istore_n 3, 1) := by decide +kernel
theorem dX5_lookFor_21 : decode cX5_lookFor 21 = .ok (.aload_n 0, 1) := by decide +kernel
theorem dX5_lookFor_22 : decode cX5_lookFor 22 = .ok (.getfield 11, 3) := by decide +kernel
theorem dX5_lookFor_25 : decode cX5_lookFor 25 = .ok (.iconst 0, 1) := by decide +kernel
theorem dX5_lookFor_26 : decode cX5_lookFor 26 = .ok (.aload_n 0, 1) := by decide +kernel
theorem dX5_lookFor_27 : decode cX5_lookFor 27 = .ok (.getfield 30, 3) := by decide +kernel
theorem dX5_lookFor_30 : decode cX5_lookFor 30 = .ok (.iastore, 1) := by decide +kernel
theorem dX5_lookFor_31 : decode cX5_lookFor 31 = .ok (.aload_n 0, 1) := by decide +kernel
theorem dX5_lookFor_32 : decode cX5_lookFor 32 = .ok (.getfield 11, 3) := by decide +kernel
theorem dX5_lookFor_35 : decode cX5_lookFor 35 = .ok (.iconst 1, 1) := by decide +kernel
theorem dX5_lookFor_36 : decode cX5_lookFor 36 = .ok (.aload_n 0, 1) := by decide +kernel
theorem dX5_lookFor_37 : decode cX5_lookFor 37 = .ok (.getfield 26, 3) := by decide +kernel
theorem dX5_lookFor_40 : decode cX5_lookFor 40 = .ok (.bipush 10, 2) := by decide +kernel
theorem dX5_lookFor_42 : decode cX5_lookFor 42 = .ok (.irem, 1) := by decide +kernel
theorem dX5_lookFor_43 : decode cX5_lookFor 43 = .ok (.iload_n 3, 1) := by decide +kernel
theorem dX5_lookFor_44 : decode cX5_lookFor 44 = .ok (.bipush 10, 2) := by decide +kernel
theorem dX5_lookFor_46 : decode cX5_lookFor 46 = .ok (.irem, 1) := by decide +kernel
theorem dX5_lookFor_47 : decode cX5_lookFor 47 = .ok (.isub, 1) := by decide +kernel
theorem dX5_lookFor_48 : decode cX5_lookFor 48 = .ok (.invokestatic 87, 3) := by decide +kernel
theorem dX5_lookFor_51 : decode cX5_lookFor 51 = .ok (.aload_n 0, 1) := by decide +kernel
theorem dX5_lookFor_52 : decode cX5_lookFor 52 = .ok (.getfield 26, 3) := by decide +kernel
theorem dX5_lookFor_55 : decode cX5_lookFor 55 = .ok (.bipush 10, 2) := by decide +kernel
theorem dX5_lookFor_57 : decode cX5_lookFor 57 = .ok (.idiv, 1) := by decide +kernel
theorem dX5_lookFor_58 : decode cX5_lookFor 58 = .ok (.iload_n 3, 1) := by decide +kernel
theorem dX5_lookFor_59 : decode cX5_lookFor 59 = .ok (.bipush 10, 2) := by decide +kernel
theorem dX5_lookFor_61 : decode cX5_lookFor 61 = .ok (.idiv, 1) := by decide +kernel
theorem dX5_lookFor_62 : decode cX5_lookFor 62 = .ok (.isub, 1) := by decide +kernel
theorem dX5_lookFor_63 : decode cX5_lookFor 63 = .ok (.invokestatic 87, 3) := by decide +kernel
theorem dX5_lookFor_66 : decode cX5_lookFor 66 = .ok (.invokestatic 93, 3) := by decide +kernel
theorem dX5_lookFor_69 : decode cX5_lookFor 69 = .ok (.iastore, 1) := by decide +kernel
theorem dX5_lookFor_70 : decode cX5_lookFor 70 = .ok (.aload_n 0, 1) := by decide +kernel
theorem dX5_lookFor_71 : decode cX5_lookFor 71 = .ok (.getfield 11, 3) := by decide +kernel
theorem dX5_lookFor_74 : decode cX5_lookFor 74 = .ok (.iconst 2, 1) := by decide +kernel
theorem dX5_lookFor_75 : decode cX5_lookFor 75 = .ok (.aload_n 0, 1) := by decide +kernel
theorem dX5_lookFor_76 : decode cX5_lookFor 76 = .ok (.getfield 46, 3) := by decide +kernel
theorem dX5_lookFor_79 : decode cX5_lookFor 79 = .ok (.iconst 0, 1) := by decide +kernel
theorem dX5_lookFor_80 : decode cX5_lookFor 80 = .ok (.iconst 0, 1) := by decide +kernel
theorem dX5_lookFor_81 : decode cX5_lookFor 81 = .ok (.invokevirtual 66, 3) := by decide +kernel
theorem dX5_lookFor_84 : decode cX5_lookFor 84 = .ok (.iastore, 1) := by decide +kernel
theorem dX5_lookFor_85 : decode cX5_lookFor 85 = .ok (.aload_n 0, 1) := by decide +kernel
theorem dX5_lookFor_86 : decode cX5_lookFor 86 = .ok (.getfield 11, 3) := by decide +kernel
theorem dX5_lookFor_89 : decode cX5_lookFor 89 = .ok (.iconst 3, 1) := by decide +kernel
theorem dX5_lookFor_90 : decode cX5_lookFor 90 = .ok (.aload_n 0, 1) := by decide +kernel
theorem dX5_lookFor_91 : decode cX5_lookFor 91 = .ok (.getfield 46, 3) := by decide +kernel
theorem dX5_lookFor_94 : decode cX5_lookFor 94 = .ok (.bipush 8, 2) := by decide +kernel
theorem dX5_lookFor_96 : decode cX5_lookFor 96 = .ok (.iload_n 1, 1) := by decide +kernel
theorem dX5_lookFor_97 : decode cX5_lookFor 97 = .ok (.invokevirtual 66, 3) := by decide +kernel
theorem dX5_lookFor_100 : decode cX5_lookFor 100 = .ok (.iastore, 1) := by decide +kernel
theorem dX5_lookFor_101 : decode cX5_lookFor 101 = .ok (.aload_n 0, 1) := by decide +kernel
theorem dX5_lookFor_102 : decode cX5_lookFor 102 = .ok (.getfield 11, 3) := by decide +kernel
theorem dX5_lookFor_105 : decode cX5_lookFor 105 = .ok (.iconst 4, 1) := by decide +kernel
theorem dX5_lookFor_106 : decode cX5_lookFor 106 = .ok (.iload_n 3, 1) := by decide +kernel
theorem dX5_lookFor_107 : decode cX5_lookFor 107 = .ok (.bipush 10, 2) := by decide +kernel
theorem dX5_lookFor_109 : decode cX5_lookFor 109 = .ok (.idiv, 1) := by decide +kernel
theorem dX5_lookFor_110 : decode cX5_lookFor 110 = .ok (.iastore, 1) := by decide +kernel
theorem dX5_lookFor_111 : decode cX5_lookFor 111 = .ok (.aload_n 0, 1) := by decide +kernel
theorem dX5_lookFor_112 : decode cX5_lookFor 112 = .ok (.getfield 11, 3) := by decide +kernel
theorem dX5_lookFor_115 : decode cX5_lookFor 115 = .ok (.iconst 5, 1) := by decide +kernel
theorem dX5_lookFor_116 : decode cX5_lookFor 116 = .ok (.iload_n 2, 1) := by decide +kernel
theorem dX5_lookFor_117 : decode cX5_lookFor 117 = .ok (.iastore, 1) := by decide +kernel
theorem dX5_lookFor_118 : decode cX5_lookFor 118 = .ok (.aload_n 0, 1) := by decide +kernel
theorem dX5_lookFor_119 : decode cX5_lookFor 119 = .ok (.getfield 30, 3) := by decide +kernel
theorem dX5_lookFor_122 : decode cX5_lookFor 122 = .ok (.aload_n 0, 1) := by decide +kernel
theorem dX5_lookFor_123 : decode cX5_lookFor 123 = .ok (.getfield 51, 3) := by decide +kernel
theorem dX5_lookFor_126 : decode cX5_lookFor 126 = .ok (.iconst 0, 1) := by decide +kernel
theorem dX5_lookFor_127 : decode cX5_lookFor 127 = .ok (.aload_n 0, 1) := by decide +kernel
theorem dX5_lookFor_128 : decode cX5_lookFor 128 = .ok (.getfield 11, 3) := by decide +kernel
theorem dX5_lookFor_131 : decode cX5_lookFor 131 = .ok (.aload_n 0, 1) := by decide +kernel
theorem dX5_lookFor_132 : decode cX5_lookFor 132 = .ok (.getfield 17, 3) := by decide +kernel
theorem dX5_lookFor_135 : decode cX5_lookFor 135 = .ok (.invokevirtual 96, 3) := by decide +kernel
theorem dX5_lookFor_138 : decode cX5_lookFor 138 = .ok (.iadd, 1) := by decide +kernel
theorem dX5_lookFor_139 : decode cX5_lookFor 139 = .ok (.istore 4, 2) := by decide +kernel
theorem dX5_lookFor_141 : decode cX5_lookFor 141 = .ok (.aload_n 0, 1) := by decide +kernel
theorem dX5_lookFor_142 : decode cX5_lookFor 142 = .ok (.getfield 11, 3) := by decide +kernel
theorem dX5_lookFor_145 : decode cX5_lookFor 145 = .ok (.iconst 0, 1) := by decide +kernel
theorem dX5_lookFor_146 : decode cX5_lookFor 146 = .ok (.iload 4, 2) := by decide +kernel
theorem dX5_lookFor_148 : decode cX5_lookFor 148 = .ok (.iastore, 1) := by decide +kernel
theorem dX5_lookFor_149 : decode cX5_lookFor 149 = .ok (.aload_n 0, 1) := by decide +kernel
theorem dX5_lookFor_150 : decode cX5_lookFor 150 = .ok (.getfield 46, 3) := by decide +kernel
theorem dX5_lookFor_153 : decode cX5_lookFor 153 = .ok (.iload_n 1, 1) := by decide +kernel
theorem dX5_lookFor_154 : decode cX5_lookFor 154 = .ok (.aload_n 0, 1) := by decide +kernel
theorem dX5_lookFor_155 : decode cX5_lookFor 155 = .ok (.getfield 51, 3) := by decide +kernel
theorem dX5_lookFor_158 : decode cX5_lookFor 158 = .ok (.iconst 1, 1) := by decide +kernel
theorem dX5_lookFor_159 : decode cX5_lookFor 159 = .ok (.aload_n 0, 1) := by decide +kernel
theorem dX5_lookFor_160 : decode cX5_lookFor 160 = .ok (.getfield 11, 3) := by decide +kernel
theorem dX5_lookFor_163 : decode cX5_lookFor 163 = .ok (.aload_n 0, 1) := by decide +kernel
theorem dX5_lookFor_164 : decode cX5_lookFor 164 = .ok (.getfield 17, 3) := by decide +kernel
theorem dX5_lookFor_167 : decode cX5_lookFor 167 = .ok (.invokevirtual 96, 3) := by decide +kernel
theorem dX5_lookFor_170 : decode cX5_lookFor 170 = .ok (.invokevirtual 100, 3) := by decide +kernel
theorem dX5_lookFor_173 : decode cX5_lookFor 173 = .ok (.istore 5, 2) := by decide +kernel
theorem dX5_lookFor_175 : decode cX5_lookFor 175 = .ok (.aload_n 0, 1) := by decide +kernel
theorem dX5_lookFor_176 : decode cX5_lookFor 176 = .ok (.getfield 46, 3) := by decide +kernel
theorem dX5_lookFor_179 : decode cX5_lookFor 179 = .ok (.iload_n 1, 1) := by decide +kernel
theorem dX5_lookFor_180 : decode cX5_lookFor 180 = .ok (.iload 4, 2) := by decide +kernel
theorem dX5_lookFor_182 : decode cX5_lookFor 182 = .ok (.iload 5, 2) := by decide +kernel
theorem dX5_lookFor_184 : decode cX5_lookFor 184 = .ok (.invokevirtual 103, 3) := by decide +kernel
theorem dX5_lookFor_187 : decode cX5_lookFor 187 = .ok (.istore 6, 2) := by decide +kernel
theorem dX5_lookFor_189 : decode cX5_lookFor 189 = .ok (.iload 6, 2) := by decide +kernel
theorem dX5_lookFor_191 : decode cX5_lookFor 191 = .ok (.iconst (-1), 1) := by decide +kernel
theorem dX5_lookFor_192 : decode cX5_lookFor 192 = .ok (.if_icmp .ne 4, 3) := by decide +kernel
theorem dX5_lookFor_195 : decode cX5_lookFor 195 = .ok (.return_, 1) := by decide +kernel
theorem dX5_lookFor_196 : decode cX5_lookFor 196 = .ok (.iload 6, 2) := by decide +kernel
theorem dX5_lookFor_198 : decode cX5_lookFor 198 = .ok (.iload 4, 2) := by decide +kernel
theorem dX5_lookFor_200 : decode cX5_lookFor 200 = .ok (.isub, 1) := by decide +kernel
theorem dX5_lookFor_201 : decode cX5_lookFor 201 = .ok (.istore 7, 2) := by decide +kernel
theorem dX5_lookFor_203 : decode cX5_lookFor 203 = .ok (.iload 7, 2) := by decide +kernel
theorem dX5_lookFor_205 : decode cX5_lookFor 205 = .ok (.ifCond .le 31, 3) := by decide +kernel
theorem dX5_lookFor_208 : decode cX5_lookFor 208 = .ok (.aload_n 0, 1) := by decide +kernel
theorem dX5_lookFor_209 : decode cX5_lookFor 209 = .ok (.dup, 1) := by decide +kernel
theorem dX5_lookFor_210 : decode cX5_lookFor 210 = .ok (.getfield 33, 3) := by decide +kernel
theorem dX5_lookFor_213 : decode cX5_lookFor 213 = .ok (.iload 7, 2) := by decide +kernel
theorem dX5_lookFor_215 : decode cX5_lookFor 215 = .ok (.aload_n 0, 1) := by decide +kernel
theorem dX5_lookFor_216 : decode cX5_lookFor 216 = .ok (.getfield 51, 3) := by decide +kernel
theorem dX5_lookFor_219 : decode cX5_lookFor 219 = .ok (.iconst 2, 1) := by decide +kernel
theorem dX5_lookFor_220 : decode cX5_lookFor 220 = .ok (.aload_n 0, 1) := by decide +kernel
theorem dX5_lookFor_221 : decode cX5_lookFor 221 = .ok (.getfield 11, 3) := by decide +kernel
theorem dX5_lookFor_224 : decode cX5_lookFor 224 = .ok (.aload_n 0, 1) := by decide +kernel
theorem dX5_lookFor_225 : decode cX5_lookFor 225 = .ok (.getfield 17, 3) := by decide +kernel
theorem dX5_lookFor_228 : decode cX5_lookFor 228 = .ok (.invokevirtual 96, 3) := by decide +kernel
theorem dX5_lookFor_231 : decode cX5_lookFor 231 = .ok (.imul, 1) := by decide +kernel
theorem dX5_lookFor_232 : decode cX5_lookFor 232 = .ok (.isub, 1) := by decide +kernel
theorem dX5_lookFor_233 : decode cX5_lookFor 233 = .ok (.putfield 33, 3) := by decide +kernel
theorem dX5_lookFor_236 : decode cX5_lookFor 236 = .ok (.aload_n 0, 1) := by decide +kernel
theorem dX5_lookFor_237 : decode cX5_lookFor 237 = .ok (.dup, 1) := by decide +kernel
theorem dX5_lookFor_238 : decode cX5_lookFor 238 = .ok (.getfield 33, 3) := by decide +kernel
theorem dX5_lookFor_241 : decode cX5_lookFor 241 = .ok (.aload_n 0, 1) := by decide +kernel
theorem dX5_lookFor_242 : decode cX5_lookFor 242 = .ok (.getfield 46, 3) := by decide +kernel
theorem dX5_lookFor_245 : decode cX5_lookFor 245 = .ok (.iload_n 1, 1) := by decide +kernel
theorem dX5_lookFor_246 : decode cX5_lookFor 246 = .ok (.invokevirtual 107, 3) := by decide +kernel
theorem dX5_lookFor_249 : decode cX5_lookFor 249 = .ok (.iadd, 1) := by decide +kernel
theorem dX5_lookFor_250 : decode cX5_lookFor 250 = .ok (.putfield 33, 3) := by decide +kernel
theorem dX5_lookFor_253 : decode cX5_lookFor 253 = .ok (.aload_n 0, 1) := by decide +kernel
theorem dX5_lookFor_254 : decode cX5_lookFor 254 = .ok (.dup, 1) := by decide +kernel
theorem dX5_lookFor_255 : decode cX5_lookFor 255 = .ok (.getfield 39, 3) := by decide +kernel
theorem dX5_lookFor_258 : decode cX5_lookFor 258 = .ok (.iload 7, 2) := by decide +kernel
theorem dX5_lookFor_260 : decode cX5_lookFor 260 = .ok (.iadd, 1) := by decide +kernel
theorem dX5_lookFor_261 : decode cX5_lookFor 261 = .ok (.putfield 39, 3) := by decide +kernel
theorem dX5_lookFor_264 : decode cX5_lookFor 264 = .ok (.aload_n 0, 1) := by decide +kernel
theorem dX5_lookFor_265 : decode cX5_lookFor 265 = .ok (.dup, 1) := by decide +kernel
theorem dX5_lookFor_266 : decode cX5_lookFor 266 = .ok (.getfield 36, 3) := by decide +kernel
theorem dX5_lookFor_269 : decode cX5_lookFor 269 = .ok (.iconst 1, 1) := by decide +kernel
theorem dX5_lookFor_270 : decode cX5_lookFor 270 = .ok (.iload_n 1, 1) := by decide +kernel
theorem dX5_lookFor_271 : decode cX5_lookFor 271 = .ok (.ishl, 1) := by decide +kernel
theorem dX5_lookFor_272 : decode cX5_lookFor 272 = .ok (.ior, 1) := by decide +kernel
theorem dX5_lookFor_273 : decode cX5_lookFor 273 = .ok (.putfield 36, 3) := by decide +kernel
theorem dX5_lookFor_276 : decode cX5_lookFor 276 = .ok (.aload_n 0, 1) := by decide +kernel
theorem dX5_lookFor_277 : decode cX5_lookFor 277 = .ok (.getfield 23, 3) := by decide +kernel
theorem dX5_lookFor_280 : decode cX5_lookFor 280 = .ok (.iload_n 1, 1) := by decide +kernel
theorem dX5_lookFor_281 : decode cX5_lookFor 281 = .ok (.iload 7, 2) := by decide +kernel
theorem dX5_lookFor_283 : decode cX5_lookFor 283 = .ok (.iastore, 1) := by decide +kernel
theorem dX5_lookFor_284 : decode cX5_lookFor 284 = .ok (.aload_n 0, 1) := by decide +kernel
theorem dX5_lookFor_285 : decode cX5_lookFor 285 = .ok (.iload_n 3, 1) := by decide +kernel
theorem dX5_lookFor_286 : decode cX5_lookFor 286 = .ok (.putfield 26, 3) := by decide +kernel
theorem dX5_lookFor_289 : decode cX5_lookFor 289 = .ok (.aload_n 0, 1) := by decide +kernel
theorem dX5_lookFor_290 : decode cX5_lookFor 290 = .ok (.iload 6, 2) := by decide +kernel
theorem dX5_lookFor_292 : decode cX5_lookFor 292 = .ok (.iload 5, 2) := by decide +kernel
theorem dX5_lookFor_294 : decode cX5_lookFor 294 = .ok (.iadd, 1) := by decide +kernel
theorem dX5_lookFor_295 : decode cX5_lookFor 295 = .ok (.putfield 30, 3) := by decide +kernel
theorem dX5_lookFor_298 : decode cX5_lookFor 298 = .ok (.aload_n 0, 1) := by decide +kernel
theorem dX5_lookFor_299 : decode cX5_lookFor 299 = .ok (.getfield 20, 3) := by decide +kernel
theorem dX5_lookFor_302 : decode cX5_lookFor 302 = .ok (.iload_n 1, 1) := by decide +kernel
theorem dX5_lookFor_303 : decode cX5_lookFor 303 = .ok (.aload_n 0, 1) := by decide +kernel
theorem dX5_lookFor_304 : decode cX5_lookFor 304 = .ok (.getfield 30, 3) := by decide +kernel
theorem dX5_lookFor_307 : decode cX5_lookFor 307 = .ok (.iconst 1, 1) := by decide +kernel
theorem dX5_lookFor_308 : decode cX5_lookFor 308 = .ok (.isub, 1) := by decide +kernel
theorem dX5_lookFor_309 : decode cX5_lookFor 309 = .ok (.iastore, 1) := by decide +kernel
theorem dX5_lookFor_310 : decode cX5_lookFor 310 = .ok (.return_, 1) := by decide +kernel
theorem dX5_tickFound_0 : decode cX5_tickFound 0 = .ok (.iload_n 1, 1) := by decide +kernel
theorem dX5_tickFound_1 : decode cX5_tickFound 1 = .ok (.bipush 7, 2) := by decide +kernel
theorem dX5_tickFound_3 : decode cX5_tickFound 3 = .ok (.invokestatic 62, 3) := by decide +kernel
theorem dX5_tickFound_6 : decode cX5_tickFound 6 = .ok (.ifCond .eq 12, 3) := by decide +kernel
theorem dX5_tickFound_9 : decode cX5_tickFound 9 = .ok (.aload_n 0, 1) := by decide +kernel
theorem dX5_tickFound_10 : decode cX5_tickFound 10 = .ok (.getfield 20, 3) := by decide +kernel
theorem dX5_tickFound_13 : decode cX5_tickFound 13 = .ok (.iload_n 1, 1) := by decide +kernel
theorem dX5_tickFound_14 : decode cX5_tickFound 14 = .ok (.iaload, 1) := by decide +kernel
theorem dX5_tickFound_15 : decode cX5_tickFound 15 = .ok (.goto 4, 3) := by decide +kernel
theorem dX5_tickFound_18 : decode cX5_tickFound 18 = .ok (.iconst (-1), 1) := by decide +kernel
theorem dX5_tickFound_19 : decode cX5_tickFound 19 = .ok (.ireturn, 1) := by decide +kernel
theorem dX5_answer_0 : decode cX5_answer 0 = .ok (.iload_n 1, 1) := by decide +kernel
theorem dX5_answer_1 : decode cX5_answer 1 = .ok (.tableswitch 63 0 4 #[35, 40, 48, 53, 58], 35) := by decide +kernel
theorem dX5_answer_36 : decode cX5_answer 36 = .ok (.aload_n 0, 1) := by decide +kernel
theorem dX5_answer_37 : decode cX5_answer 37 = .ok (.getfield 33, 3) := by decide +kernel
theorem dX5_answer_40 : decode cX5_answer 40 = .ok (.ireturn, 1) := by decide +kernel
theorem dX5_answer_41 : decode cX5_answer 41 = .ok (.aload_n 0, 1) := by decide +kernel
theorem dX5_answer_42 : decode cX5_answer 42 = .ok (.getfield 36, 3) := by decide +kernel
theorem dX5_answer_45 : decode cX5_answer 45 = .ok (.invokestatic 110, 3) := by decide +kernel
theorem dX5_answer_48 : decode cX5_answer 48 = .ok (.ireturn, 1) := by decide +kernel
theorem dX5_answer_49 : decode cX5_answer 49 = .ok (.aload_n 0, 1) := by decide +kernel
theorem dX5_answer_50 : decode cX5_answer 50 = .ok (.getfield 36, 3) := by decide +kernel
theorem dX5_answer_53 : decode cX5_answer 53 = .ok (.ireturn, 1) := by decide +kernel
theorem dX5_answer_54 : decode cX5_answer 54 = .ok (.aload_n 0, 1) := by decide +kernel
theorem dX5_answer_55 : decode cX5_answer 55 = .ok (.getfield 30, 3) := by decide +kernel
theorem dX5_answer_58 : decode cX5_answer 58 = .ok (.ireturn, 1) := by decide +kernel
theorem dX5_answer_59 : decode cX5_answer 59 = .ok (.aload_n 0, 1) := by decide +kernel
theorem dX5_answer_60 : decode cX5_answer 60 = .ok (.getfield 39, 3) := by decide +kernel
theorem dX5_answer_63 : decode cX5_answer 63 = .ok (.ireturn, 1) := by decide +kernel
theorem dX5_answer_64 : decode cX5_answer 64 = .ok (.iload_n 1, 1) := by decide +kernel
theorem dX5_answer_65 : decode cX5_answer 65 = .ok (.bipush 10, 2) := by decide +kernel
theorem dX5_answer_67 : decode cX5_answer 67 = .ok (.irem, 1) := by decide +kernel
theorem dX5_answer_68 : decode cX5_answer 68 = .ok (.istore_n 2, 1) := by decide +kernel
theorem dX5_answer_69 : decode cX5_answer 69 = .ok (.iload_n 2, 1) := by decide +kernel
theorem dX5_answer_70 : decode cX5_answer 70 = .ok (.bipush 7, 2) := by decide +kernel
theorem dX5_answer_72 : decode cX5_answer 72 = .ok (.invokestatic 62, 3) := by decide +kernel
theorem dX5_answer_75 : decode cX5_answer 75 = .ok (.ifCond .ne 6, 3) := by decide +kernel
theorem dX5_answer_78 : decode cX5_answer 78 = .ok (.ldc 115, 2) := by decide +kernel
theorem dX5_answer_80 : decode cX5_answer 80 = .ok (.ireturn, 1) := by decide +kernel
theorem dX5_answer_81 : decode cX5_answer 81 = .ok (.iload_n 1, 1) := by decide +kernel
theorem dX5_answer_82 : decode cX5_answer 82 = .ok (.bipush 20, 2) := by decide +kernel
theorem dX5_answer_84 : decode cX5_answer 84 = .ok (.if_icmp .ge 12, 3) := by decide +kernel
theorem dX5_answer_87 : decode cX5_answer 87 = .ok (.aload_n 0, 1) := by decide +kernel
theorem dX5_answer_88 : decode cX5_answer 88 = .ok (.getfield 20, 3) := by decide +kernel
theorem dX5_answer_91 : decode cX5_answer 91 = .ok (.iload_n 2, 1) := by decide +kernel
theorem dX5_answer_92 : decode cX5_answer 92 = .ok (.iaload, 1) := by decide +kernel
theorem dX5_answer_93 : decode cX5_answer 93 = .ok (.goto 9, 3) := by decide +kernel
theorem dX5_answer_96 : decode cX5_answer 96 = .ok (.aload_n 0, 1) := by decide +kernel
theorem dX5_answer_97 : decode cX5_answer 97 = .ok (.getfield 23, 3) := by decide +kernel
theorem dX5_answer_100 : decode cX5_answer 100 = .ok (.iload_n 2, 1) := by decide +kernel
theorem dX5_answer_101 : decode cX5_answer 101 = .ok (.iaload, 1) := by decide +kernel
theorem dX5_answer_102 : decode cX5_answer 102 = .ok (.ireturn, 1) := by decide +kernel

theorem dX6_init_0 : decode cX6_init 0 = .ok (.aload_n 0, 1) := by decide +kernel
theorem dX6_init_1 : decode cX6_init 1 = .ok (.invokespecial 1, 3) := by decide +kernel
theorem dX6_init_4 : decode cX6_init 4 = .ok (.aload_n 0, 1) := by decide +kernel
theorem dX6_init_5 : decode cX6_init 5 = .ok (.new 7, 3) := by decide +kernel
theorem dX6_init_8 : decode cX6_init 8 = .ok (.dup, 1) := by decide +kernel
theorem dX6_init_9 : decode cX6_init 9 = .ok (.invokespecial 9, 3) := by decide +kernel
theorem dX6_init_12 : decode cX6_init 12 = .ok (.putfield 10, 3) := by decide +kernel
theorem dX6_init_15 : decode cX6_init 15 = .ok (.aload_n 0, 1) := by decide +kernel
theorem dX6_init_16 : decode cX6_init 16 = .ok (.new 7, 3) := by decide +kernel
theorem dX6_init_19 : decode cX6_init 19 = .ok (.dup, 1) := by decide +kernel
theorem dX6_init_20 : decode cX6_init 20 = .ok (.invokespecial 9, 3) := by decide +kernel
theorem dX6_init_23 : decode cX6_init 23 = .ok (.putfield 16, 3) := by decide +kernel
theorem dX6_init_26 : decode cX6_init 26 = .ok (.aload_n 0, 1) := by decide +kernel
theorem dX6_init_27 : decode cX6_init 27 = .ok (.new 7, 3) := by decide +kernel
theorem dX6_init_30 : decode cX6_init 30 = .ok (.dup, 1) := by decide +kernel
theorem dX6_init_31 : decode cX6_init 31 = .ok (.invokespecial 9, 3) := by decide +kernel
theorem dX6_init_34 : decode cX6_init 34 = .ok (.putfield 19, 3) := by decide +kernel
theorem dX6_init_37 : decode cX6_init 37 = .ok (.aload_n 0, 1) := by decide +kernel
theorem dX6_init_38 : decode cX6_init 38 = .ok (.iconst 0, 1) := by decide +kernel
theorem dX6_init_39 : decode cX6_init 39 = .ok (.putfield 22, 3) := by decide +kernel
theorem dX6_init_42 : decode cX6_init 42 = .ok (.aload_n 0, 1) := by decide +kernel
theorem dX6_init_43 : decode cX6_init 43 = .ok (.new 26, 3) := by decide +kernel
theorem dX6_init_46 : decode cX6_init 46 = .ok (.dup, 1) := by decide +kernel
theorem dX6_init_47 : decode cX6_init 47 = .ok (.invokespecial 28, 3) := by decide +kernel
theorem dX6_init_50 : decode cX6_init 50 = .ok (.putfield 29, 3) := by decide +kernel
theorem dX6_init_53 : decode cX6_init 53 = .ok (.aload_n 0, 1) := by decide +kernel
theorem dX6_init_54 : decode cX6_init 54 = .ok (.bipush 6, 2) := by decide +kernel
theorem dX6_init_56 : decode cX6_init 56 = .ok (.anewarray 33, 3) := by decide +kernel
theorem dX6_init_59 : decode cX6_init 59 = .ok (.putfield 35, 3) := by decide +kernel
theorem dX6_init_62 : decode cX6_init 62 = .ok (.aload_n 0, 1) := by decide +kernel
theorem dX6_init_63 : decode cX6_init 63 = .ok (.iconst 1, 1) := by decide +kernel
theorem dX6_init_64 : decode cX6_init 64 = .ok (.putfield 39, 3) := by decide +kernel
theorem dX6_init_67 : decode cX6_init 67 = .ok (.aload_n 0, 1) := by decide +kernel
theorem dX6_init_68 : decode cX6_init 68 = .ok (.iconst 4, 1) := by decide +kernel
theorem dX6_init_69 : decode cX6_init 69 = .ok (.anewarray 43, 3) := by decide +kernel
theorem dX6_init_72 : decode cX6_init 72 = .ok (.putfield 45, 3) := by decide +kernel
theorem dX6_init_75 : decode cX6_init 75 = .ok (.iconst 0, 1) := by decide +kernel
theorem dX6_init_76 : decode cX6_init 76 = .ok (.istore_n 1, 1) := by decide +kernel
theorem dX6_init_77 : decode cX6_init 77 = .ok (.iload_n 1, 1) := by decide +kernel
theorem dX6_init_78 : decode cX6_init 78 = .ok (.aload_n 0, 1) := by decide +kernel
theorem dX6_init_79 : decode cX6_init 79 = .ok (.getfield 35, 3) := by decide +kernel
theorem dX6_init_82 : decode cX6_init 82 = .ok (.arraylength, 1) := by decide +kernel
theorem dX6_init_83 : decode cX6_init 83 = .ok (.if_icmp .ge 22, 3) := by decide +kernel
theorem dX6_init_86 : decode cX6_init 86 = .ok (.aload_n 0, 1) := by decide +kernel
theorem dX6_init_87 : decode cX6_init 87 = .ok (.getfield 35, 3) := by decide +kernel
theorem dX6_init_90 : decode cX6_init 90 = .ok (.iload_n 1, 1) := by decide +kernel
theorem dX6_init_91 : decode cX6_init 91 = .ok (.new 33, 3) := by decide +kernel
theorem dX6_init_94 : decode cX6_init 94 = .ok (.dup, 1) := by decide +kernel
theorem dX6_init_95 : decode cX6_init 95 = .ok (.invokespecial 49, 3) := by decide +kernel
theorem dX6_init_98 : decode cX6_init 98 = .ok (.aastore, 1) := by decide +kernel
theorem dX6_init_99 : decode cX6_init 99 = .ok (.iinc 1 1, 3) := by decide +kernel
theorem dX6_init_102 : decode cX6_init 102 = .ok (.goto (-25), 3) := by decide +kernel
theorem dX6_init_105 : decode cX6_init 105 = .ok (.iconst 0, 1) := by decide +kernel
theorem dX6_init_106 : decode cX6_init 106 = .ok (.istore_n 1, 1) := by decide +kernel
theorem dX6_init_107 : decode cX6_init 107 = .ok (.iload_n 1, 1) := by decide +kernel
theorem dX6_init_108 : decode cX6_init 108 = .ok (.aload_n 0, 1) := by decide +kernel
theorem dX6_init_109 : decode cX6_init 109 = .ok (.getfield 45, 3) := by decide +kernel
theorem dX6_init_112 : decode cX6_init 112 = .ok (.arraylength, 1) := by decide +kernel
theorem dX6_init_113 : decode cX6_init 113 = .ok (.if_icmp .ge 22, 3) := by decide +kernel
theorem dX6_init_116 : decode cX6_init 116 = .ok (.aload_n 0, 1) := by decide +kernel
theorem dX6_init_117 : decode cX6_init 117 = .ok (.getfield 45, 3) := by decide +kernel
theorem dX6_init_120 : decode cX6_init 120 = .ok (.iload_n 1, 1) := by decide +kernel
theorem dX6_init_121 : decode cX6_init 121 = .ok (.new 43, 3) := by decide +kernel
theorem dX6_init_124 : decode cX6_init 124 = .ok (.dup, 1) := by decide +kernel
theorem dX6_init_125 : decode cX6_init 125 = .ok (.invokespecial 50, 3) := by decide +kernel
theorem dX6_init_128 : decode cX6_init 128 = .ok (.aastore, 1) := by decide +kernel
theorem dX6_init_129 : decode cX6_init 129 = .ok (.iinc 1 1, 3) := by decide +kernel
theorem dX6_init_132 : decode cX6_init 132 = .ok (.goto (-25), 3) := by decide +kernel
theorem dX6_init_135 : decode cX6_init 135 = .ok (.aload_n 0, 1) := by decide +kernel
theorem dX6_init_136 : decode cX6_init 136 = .ok (.new 51, 3) := by decide +kernel
theorem dX6_init_139 : decode cX6_init 139 = .ok (.dup, 1) := by decide +kernel
theorem dX6_init_140 : decode cX6_init 140 = .ok (.aload_n 0, 1) := by decide +kernel
theorem dX6_init_141 : decode cX6_init 141 = .ok (.getfield 10, 3) := by decide +kernel
theorem dX6_init_144 : decode cX6_init 144 = .ok (.aload_n 0, 1) := by decide +kernel
theorem dX6_init_145 : decode cX6_init 145 = .ok (.getfield 35, 3) := by decide +kernel
theorem dX6_init_148 : decode cX6_init 148 = .ok (.invokespecial 53, 3) := by decide +kernel
theorem dX6_init_151 : decode cX6_init 151 = .ok (.putfield 56, 3) := by decide +kernel
theorem dX6_init_154 : decode cX6_init 154 = .ok (.iconst 0, 1) := by decide +kernel
theorem dX6_init_155 : decode cX6_init 155 = .ok (.istore_n 1, 1) := by decide +kernel
theorem dX6_init_156 : decode cX6_init 156 = .ok (.iload_n 1, 1) := by decide +kernel
theorem dX6_init_157 : decode cX6_init 157 = .ok (.ldc 60, 2) := by decide +kernel
theorem dX6_init_159 : decode cX6_init 159 = .ok (.invokevirtual 62, 3) := by decide +kernel
theorem dX6_init_162 : decode cX6_init 162 = .ok (.if_icmp .ge 23, 3) := by decide +kernel
theorem dX6_init_165 : decode cX6_init 165 = .ok (.aload_n 0, 1) := by decide +kernel
theorem dX6_init_166 : decode cX6_init 166 = .ok (.getfield 29, 3) := by decide +kernel
theorem dX6_init_169 : decode cX6_init 169 = .ok (.ldc 60, 2) := by decide +kernel
theorem dX6_init_171 : decode cX6_init 171 = .ok (.iload_n 1, 1) := by decide +kernel
theorem dX6_init_172 : decode cX6_init 172 = .ok (.invokevirtual 68, 3) := by decide +kernel
theorem dX6_init_175 : decode cX6_init 175 = .ok (.invokevirtual 72, 3) := by decide +kernel
theorem dX6_init_178 : decode cX6_init 178 = .ok (.pop, 1) := by decide +kernel
theorem dX6_init_179 : decode cX6_init 179 = .ok (.iinc 1 1, 3) := by decide +kernel
theorem dX6_init_182 : decode cX6_init 182 = .ok (.goto (-26), 3) := by decide +kernel
theorem dX6_init_185 : decode cX6_init 185 = .ok (.aload_n 0, 1) := by decide +kernel
theorem dX6_init_186 : decode cX6_init 186 = .ok (.getfield 29, 3) := by decide +kernel
theorem dX6_init_189 : decode cX6_init 189 = .ok (.aload_n 0, 1) := by decide +kernel
theorem dX6_init_190 : decode cX6_init 190 = .ok (.getfield 35, 3) := by decide +kernel
theorem dX6_init_193 : decode cX6_init 193 = .ok (.iconst 0, 1) := by decide +kernel
theorem dX6_init_194 : decode cX6_init 194 = .ok (.aaload, 1) := by decide +kernel
theorem dX6_init_195 : decode cX6_init 195 = .ok (.invokevirtual 76, 3) := by decide +kernel
theorem dX6_init_198 : decode cX6_init 198 = .ok (.pop, 1) := by decide +kernel
theorem dX6_init_199 : decode cX6_init 199 = .ok (.return_, 1) := by decide +kernel
theorem dX6_set_0 : decode cX6_set 0 = .ok (.aload_n 0, 1) := by decide +kernel
theorem dX6_set_1 : decode cX6_set 1 = .ok (.getfield 10, 3) := by decide +kernel
theorem dX6_set_4 : decode cX6_set 4 = .ok (.iload_n 1, 1) := by decide +kernel
theorem dX6_set_5 : decode cX6_set 5 = .ok (.iload_n 2, 1) := by decide +kernel
theorem dX6_set_6 : decode cX6_set 6 = .ok (.iload_n 3, 1) := by decide +kernel
theorem dX6_set_7 : decode cX6_set 7 = .ok (.invokevirtual 80, 3) := by decide +kernel
theorem dX6_set_10 : decode cX6_set 10 = .ok (.ifCond .eq 16, 3) := by decide +kernel
theorem dX6_set_13 : decode cX6_set 13 = .ok (.aload_n 0, 1) := by decide +kernel
theorem dX6_set_14 : decode cX6_set 14 = .ok (.getfield 10, 3) := by decide +kernel
theorem dX6_set_17 : decode cX6_set 17 = .ok (.iload_n 1, 1) := by decide +kernel
theorem dX6_set_18 : decode cX6_set 18 = .ok (.iload_n 2, 1) := by decide +kernel
theorem dX6_set_19 : decode cX6_set 19 = .ok (.iload_n 3, 1) := by decide +kernel
theorem dX6_set_20 : decode cX6_set 20 = .ok (.invokevirtual 84, 3) := by decide +kernel
theorem dX6_set_23 : decode cX6_set 23 = .ok (.goto 5, 3) := by decide +kernel
theorem dX6_set_26 : decode cX6_set 26 = .ok (.bipush (-2), 2) := by decide +kernel
theorem dX6_set_28 : decode cX6_set 28 = .ok (.ireturn, 1) := by decide +kernel
theorem dX6_sight_0 : decode cX6_sight 0 = .ok (.iload_n 1, 1) := by decide +kernel
theorem dX6_sight_1 : decode cX6_sight 1 = .ok (.bipush 6, 2) := by decide +kernel
theorem dX6_sight_3 : decode cX6_sight 3 = .ok (.invokestatic 88, 3) := by decide +kernel
theorem dX6_sight_6 : decode cX6_sight 6 = .ok (.ifCond .eq 21, 3) := by decide +kernel
theorem dX6_sight_9 : decode cX6_sight 9 = .ok (.iload_n 2, 1) := by decide +kernel
theorem dX6_sight_10 : decode cX6_sight 10 = .ok (.bipush 10, 2) := by decide +kernel
theorem dX6_sight_12 : decode cX6_sight 12 = .ok (.invokestatic 88, 3) := by decide +kernel
theorem dX6_sight_15 : decode cX6_sight 15 = .ok (.ifCond .eq 12, 3) := by decide +kernel
theorem dX6_sight_18 : decode cX6_sight 18 = .ok (.iload_n 3, 1) := by decide +kernel
theorem dX6_sight_19 : decode cX6_sight 19 = .ok (.bipush 100, 2) := by decide +kernel
theorem dX6_sight_21 : decode cX6_sight 21 = .ok (.invokestatic 88, 3) := by decide +kernel
theorem dX6_sight_24 : decode cX6_sight 24 = .ok (.ifCond .ne 6, 3) := by decide +kernel
theorem dX6_sight_27 : decode cX6_sight 27 = .ok (.bipush (-2), 2) := by decide +kernel
theorem dX6_sight_29 : decode cX6_sight 29 = .ok (.ireturn, 1) := by decide +kernel
theorem dX6_sight_30 : decode cX6_sight 30 = .ok (.aload_n 0, 1) := by decide +kernel
theorem dX6_sight_31 : decode cX6_sight 31 = .ok (.getfield 10, 3) := by decide +kernel
theorem dX6_sight_34 : decode cX6_sight 34 = .ok (.iload_n 1, 1) := by decide +kernel
theorem dX6_sight_35 : decode cX6_sight 35 = .ok (.iload_n 2, 1) := by decide +kernel
theorem dX6_sight_36 : decode cX6_sight 36 = .ok (.iload_n 3, 1) := by decide +kernel
theorem dX6_sight_37 : decode cX6_sight 37 = .ok (.invokevirtual 92, 3) := by decide +kernel
theorem dX6_sight_40 : decode cX6_sight 40 = .ok (.ireturn, 1) := by decide +kernel
theorem dX6_told_0 : decode cX6_told 0 = .ok (.iload_n 2, 1) := by decide +kernel
theorem dX6_told_1 : decode cX6_told 1 = .ok (.bipush 15, 2) := by decide +kernel
theorem dX6_told_3 : decode cX6_told 3 = .ok (.invokestatic 88, 3) := by decide +kernel
theorem dX6_told_6 : decode cX6_told 6 = .ok (.ifCond .eq 23, 3) := by decide +kernel
theorem dX6_told_9 : decode cX6_told 9 = .ok (.iload_n 2, 1) := by decide +kernel
theorem dX6_told_10 : decode cX6_told 10 = .ok (.bipush 8, 2) := by decide +kernel
theorem dX6_told_12 : decode cX6_told 12 = .ok (.if_icmp .lt 20, 3) := by decide +kernel
theorem dX6_told_15 : decode cX6_told 15 = .ok (.iload_n 1, 1) := by decide +kernel
theorem dX6_told_16 : decode cX6_told 16 = .ok (.aload_n 0, 1) := by decide +kernel
theorem dX6_told_17 : decode cX6_told 17 = .ok (.getfield 10, 3) := by decide +kernel
theorem dX6_told_20 : decode cX6_told 20 = .ok (.getfield 95, 3) := by decide +kernel
theorem dX6_told_23 : decode cX6_told 23 = .ok (.invokestatic 88, 3) := by decide +kernel
theorem dX6_told_26 : decode cX6_told 26 = .ok (.ifCond .ne 6, 3) := by decide +kernel
theorem dX6_told_29 : decode cX6_told 29 = .ok (.bipush (-2), 2) := by decide +kernel
theorem dX6_told_31 : decode cX6_told 31 = .ok (.ireturn, 1) := by decide +kernel
theorem dX6_told_32 : decode cX6_told 32 = .ok (.iload_n 2, 1) := by decide +kernel
theorem dX6_told_33 : decode cX6_told 33 = .ok (.bipush 14, 2) := by decide +kernel
theorem dX6_told_35 : decode cX6_told 35 = .ok (.if_icmp .ne 14, 3) := by decide +kernel
theorem dX6_told_38 : decode cX6_told 38 = .ok (.aload_n 0, 1) := by decide +kernel
theorem dX6_told_39 : decode cX6_told 39 = .ok (.getfield 10, 3) := by decide +kernel
theorem dX6_told_42 : decode cX6_told 42 = .ok (.iload_n 1, 1) := by decide +kernel
theorem dX6_told_43 : decode cX6_told 43 = .ok (.invokevirtual 98, 3) := by decide +kernel
theorem dX6_told_46 : decode cX6_told 46 = .ok (.goto 12, 3) := by decide +kernel
theorem dX6_told_49 : decode cX6_told 49 = .ok (.aload_n 0, 1) := by decide +kernel
theorem dX6_told_50 : decode cX6_told 50 = .ok (.getfield 10, 3) := by decide +kernel
theorem dX6_told_53 : decode cX6_told 53 = .ok (.iload_n 2, 1) := by decide +kernel
theorem dX6_told_54 : decode cX6_told 54 = .ok (.iload_n 1, 1) := by decide +kernel
theorem dX6_told_55 : decode cX6_told 55 = .ok (.invokevirtual 101, 3) := by decide +kernel
theorem dX6_told_58 : decode cX6_told 58 = .ok (.ireturn, 1) := by decide +kernel
theorem dX6_shines_0 : decode cX6_shines 0 = .ok (.iload_n 1, 1) := by decide +kernel
theorem dX6_shines_1 : decode cX6_shines 1 = .ok (.aload_n 0, 1) := by decide +kernel
theorem dX6_shines_2 : decode cX6_shines 2 = .ok (.getfield 10, 3) := by decide +kernel
theorem dX6_shines_5 : decode cX6_shines 5 = .ok (.getfield 95, 3) := by decide +kernel
theorem dX6_shines_8 : decode cX6_shines 8 = .ok (.invokestatic 88, 3) := by decide +kernel
theorem dX6_shines_11 : decode cX6_shines 11 = .ok (.ifCond .eq 21, 3) := by decide +kernel
theorem dX6_shines_14 : decode cX6_shines 14 = .ok (.iload_n 2, 1) := by decide +kernel
theorem dX6_shines_15 : decode cX6_shines 15 = .ok (.sipush 200, 3) := by decide +kernel
theorem dX6_shines_18 : decode cX6_shines 18 = .ok (.invokestatic 88, 3) := by decide +kernel
theorem dX6_shines_21 : decode cX6_shines 21 = .ok (.ifCond .eq 11, 3) := by decide +kernel
theorem dX6_shines_24 : decode cX6_shines 24 = .ok (.iload_n 3, 1) := by decide +kernel
theorem dX6_shines_25 : decode cX6_shines 25 = .ok (.iconst 2, 1) := by decide +kernel
theorem dX6_shines_26 : decode cX6_shines 26 = .ok (.invokestatic 88, 3) := by decide +kernel
theorem dX6_shines_29 : decode cX6_shines 29 = .ok (.ifCond .ne 6, 3) := by decide +kernel
theorem dX6_shines_32 : decode cX6_shines 32 = .ok (.bipush (-2), 2) := by decide +kernel
theorem dX6_shines_34 : decode cX6_shines 34 = .ok (.ireturn, 1) := by decide +kernel
theorem dX6_shines_35 : decode cX6_shines 35 = .ok (.iload_n 3, 1) := by decide +kernel
theorem dX6_shines_36 : decode cX6_shines 36 = .ok (.ifCond .ne 15, 3) := by decide +kernel
theorem dX6_shines_39 : decode cX6_shines 39 = .ok (.aload_n 0, 1) := by decide +kernel
theorem dX6_shines_40 : decode cX6_shines 40 = .ok (.getfield 10, 3) := by decide +kernel
theorem dX6_shines_43 : decode cX6_shines 43 = .ok (.iload_n 1, 1) := by decide +kernel
theorem dX6_shines_44 : decode cX6_shines 44 = .ok (.iload_n 2, 1) := by decide +kernel
theorem dX6_shines_45 : decode cX6_shines 45 = .ok (.invokevirtual 105, 3) := by decide +kernel
theorem dX6_shines_48 : decode cX6_shines 48 = .ok (.goto 12, 3) := by decide +kernel
theorem dX6_shines_51 : decode cX6_shines 51 = .ok (.aload_n 0, 1) := by decide +kernel
theorem dX6_shines_52 : decode cX6_shines 52 = .ok (.getfield 10, 3) := by decide +kernel
theorem dX6_shines_55 : decode cX6_shines 55 = .ok (.iload_n 1, 1) := by decide +kernel
theorem dX6_shines_56 : decode cX6_shines 56 = .ok (.iload_n 2, 1) := by decide +kernel
theorem dX6_shines_57 : decode cX6_shines 57 = .ok (.invokevirtual 108, 3) := by decide +kernel
theorem dX6_shines_60 : decode cX6_shines 60 = .ok (.istore 4, 2) := by decide +kernel
theorem dX6_shines_62 : decode cX6_shines 62 = .ok (.iload 4, 2) := by decide +kernel
theorem dX6_shines_64 : decode cX6_shines 64 = .ok (.ifCond .eq 7, 3) := by decide +kernel
theorem dX6_shines_67 : decode cX6_shines 67 = .ok (.iconst 1, 1) := by decide +kernel
theorem dX6_shines_68 : decode cX6_shines 68 = .ok (.goto 4, 3) := by decide +kernel
theorem dX6_shines_71 : decode cX6_shines 71 = .ok (.iconst 0, 1) := by decide +kernel
theorem dX6_shines_72 : decode cX6_shines 72 = .ok (.ireturn, 1) := by decide +kernel
theorem dX6_feed_0 : decode cX6_feed 0 = .ok (.iload_n 1, 1) := by decide +kernel
theorem dX6_feed_1 : decode cX6_feed 1 = .ok (.sipush 256, 3) := by decide +kernel
theorem dX6_feed_4 : decode cX6_feed 4 = .ok (.invokestatic 88, 3) := by decide +kernel
theorem dX6_feed_7 : decode cX6_feed 7 = .ok (.ifCond .ne 6, 3) := by decide +kernel
theorem dX6_feed_10 : decode cX6_feed 10 = .ok (.bipush (-2), 2) := by decide +kernel
theorem dX6_feed_12 : decode cX6_feed 12 = .ok (.ireturn, 1) := by decide +kernel
theorem dX6_feed_13 : decode cX6_feed 13 = .ok (.aload_n 0, 1) := by decide +kernel
theorem dX6_feed_14 : decode cX6_feed 14 = .ok (.getfield 29, 3) := by decide +kernel
theorem dX6_feed_17 : decode cX6_feed 17 = .ok (.iload_n 1, 1) := by decide +kernel
theorem dX6_feed_18 : decode cX6_feed 18 = .ok (.invokevirtual 72, 3) := by decide +kernel
theorem dX6_feed_21 : decode cX6_feed 21 = .ok (.ireturn, 1) := by decide +kernel
theorem dX6_text_0 : decode cX6_text 0 = .ok (.aload_n 0, 1) := by decide +kernel
theorem dX6_text_1 : decode cX6_text 1 = .ok (.getfield 39, 3) := by decide +kernel
theorem dX6_text_4 : decode cX6_text 4 = .ok (.bipush 6, 2) := by decide +kernel
theorem dX6_text_6 : decode cX6_text 6 = .ok (.if_icmp .lt 6, 3) := by decide +kernel
theorem dX6_text_9 : decode cX6_text 9 = .ok (.bipush (-4), 2) := by decide +kernel
theorem dX6_text_11 : decode cX6_text 11 = .ok (.ireturn, 1) := by decide +kernel
theorem dX6_text_12 : decode cX6_text 12 = .ok (.aload_n 0, 1) := by decide +kernel
theorem dX6_text_13 : decode cX6_text 13 = .ok (.getfield 29, 3) := by decide +kernel
theorem dX6_text_16 : decode cX6_text 16 = .ok (.aload_n 0, 1) := by decide +kernel
theorem dX6_text_17 : decode cX6_text 17 = .ok (.getfield 35, 3) := by decide +kernel
theorem dX6_text_20 : decode cX6_text 20 = .ok (.aload_n 0, 1) := by decide +kernel
theorem dX6_text_21 : decode cX6_text 21 = .ok (.getfield 39, 3) := by decide +kernel
theorem dX6_text_24 : decode cX6_text 24 = .ok (.aaload, 1) := by decide +kernel
theorem dX6_text_25 : decode cX6_text 25 = .ok (.invokevirtual 76, 3) := by decide +kernel
theorem dX6_text_28 : decode cX6_text 28 = .ok (.istore_n 1, 1) := by decide +kernel
theorem dX6_text_29 : decode cX6_text 29 = .ok (.iload_n 1, 1) := by decide +kernel
theorem dX6_text_30 : decode cX6_text 30 = .ok (.iconst (-1), 1) := by decide +kernel
theorem dX6_text_31 : decode cX6_text 31 = .ok (.if_icmp .eq 8, 3) := by decide +kernel
theorem dX6_text_34 : decode cX6_text 34 = .ok (.bipush (-100), 2) := by decide +kernel
theorem dX6_text_36 : decode cX6_text 36 = .ok (.iload_n 1, 1) := by decide +kernel
theorem dX6_text_37 : decode cX6_text 37 = .ok (.isub, 1) := by decide +kernel
theorem dX6_text_38 : decode cX6_text 38 = .ok (.ireturn, 1) := by decide +kernel
theorem dX6_text_39 : decode cX6_text 39 = .ok (.aload_n 0, 1) := by decide +kernel
theorem dX6_text_40 : decode cX6_text 40 = .ok (.dup, 1) := by decide +kernel
theorem dX6_text_41 : decode cX6_text 41 = .ok (.getfield 39, 3) := by decide +kernel
theorem dX6_text_44 : decode cX6_text 44 = .ok (.iconst 1, 1) := by decide +kernel
theorem dX6_text_45 : decode cX6_text 45 = .ok (.iadd, 1) := by decide +kernel
theorem dX6_text_46 : decode cX6_text 46 = .ok (.putfield 39, 3) := by decide +kernel
theorem dX6_text_49 : decode cX6_text 49 = .ok (.aload_n 0, 1) := by decide +kernel
theorem dX6_text_50 : decode cX6_text 50 = .ok (.getfield 39, 3) := by decide +kernel
theorem dX6_text_53 : decode cX6_text 53 = .ok (.iconst 1, 1) := by decide +kernel
theorem dX6_text_54 : decode cX6_text 54 = .ok (.isub, 1) := by decide +kernel
theorem dX6_text_55 : decode cX6_text 55 = .ok (.ireturn, 1) := by decide +kernel
theorem dX6_force_0 : decode cX6_force 0 = .ok (.iload_n 1, 1) := by decide +kernel
theorem dX6_force_1 : decode cX6_force 1 = .ok (.aload_n 0, 1) := by decide +kernel
theorem dX6_force_2 : decode cX6_force 2 = .ok (.getfield 39, 3) := by decide +kernel
theorem dX6_force_5 : decode cX6_force 5 = .ok (.invokestatic 88, 3) := by decide +kernel
theorem dX6_force_8 : decode cX6_force 8 = .ok (.ifCond .ne 6, 3) := by decide +kernel
theorem dX6_force_11 : decode cX6_force 11 = .ok (.bipush (-2), 2) := by decide +kernel
theorem dX6_force_13 : decode cX6_force 13 = .ok (.ireturn, 1) := by decide +kernel
theorem dX6_force_14 : decode cX6_force 14 = .ok (.aload_n 0, 1) := by decide +kernel
theorem dX6_force_15 : decode cX6_force 15 = .ok (.getfield 10, 3) := by decide +kernel
theorem dX6_force_18 : decode cX6_force 18 = .ok (.getfield 111, 3) := by decide +kernel
theorem dX6_force_21 : decode cX6_force 21 = .ok (.istore_n 2, 1) := by decide +kernel
theorem dX6_force_22 : decode cX6_force 22 = .ok (.aload_n 0, 1) := by decide +kernel
theorem dX6_force_23 : decode cX6_force 23 = .ok (.getfield 10, 3) := by decide +kernel
theorem dX6_force_26 : decode cX6_force 26 = .ok (.iload_n 1, 1) := by decide +kernel
theorem dX6_force_27 : decode cX6_force 27 = .ok (.putfield 111, 3) := by decide +kernel
theorem dX6_force_30 : decode cX6_force 30 = .ok (.iload_n 2, 1) := by decide +kernel
theorem dX6_force_31 : decode cX6_force 31 = .ok (.ireturn, 1) := by decide +kernel
theorem dX6_night_0 : decode cX6_night 0 = .ok (.aload_n 0, 1) := by decide +kernel
theorem dX6_night_1 : decode cX6_night 1 = .ok (.iload_n 1, 1) := by decide +kernel
theorem dX6_night_2 : decode cX6_night 2 = .ok (.invokevirtual 114, 3) := by decide +kernel
theorem dX6_night_5 : decode cX6_night 5 = .ok (.ifCond .ne 6, 3) := by decide +kernel
theorem dX6_night_8 : decode cX6_night 8 = .ok (.ldc 118, 2) := by decide +kernel
theorem dX6_night_10 : decode cX6_night 10 = .ok (.ireturn, 1) := by decide +kernel
theorem dX6_night_11 : decode cX6_night 11 = .ok (.aload_n 0, 1) := by decide +kernel
theorem dX6_night_12 : decode cX6_night 12 = .ok (.getfield 56, 3) := by decide +kernel
theorem dX6_night_15 : decode cX6_night 15 = .ok (.aload_n 0, 1) := by decide +kernel
theorem dX6_night_16 : decode cX6_night 16 = .ok (.getfield 10, 3) := by decide +kernel
theorem dX6_night_19 : decode cX6_night 19 = .ok (.aload_n 0, 1) := by decide +kernel
theorem dX6_night_20 : decode cX6_night 20 = .ok (.getfield 10, 3) := by decide +kernel
theorem dX6_night_23 : decode cX6_night 23 = .ok (.invokevirtual 119, 3) := by decide +kernel
theorem dX6_night_26 : decode cX6_night 26 = .ok (.invokevirtual 122, 3) := by decide +kernel
theorem dX6_night_29 : decode cX6_night 29 = .ok (.pop, 1) := by decide +kernel
theorem dX6_night_30 : decode cX6_night 30 = .ok (.aload_n 0, 1) := by decide +kernel
theorem dX6_night_31 : decode cX6_night 31 = .ok (.getfield 56, 3) := by decide +kernel
theorem dX6_night_34 : decode cX6_night 34 = .ok (.iload_n 1, 1) := by decide +kernel
theorem dX6_night_35 : decode cX6_night 35 = .ok (.invokevirtual 126, 3) := by decide +kernel
theorem dX6_night_38 : decode cX6_night 38 = .ok (.ireturn, 1) := by decide +kernel
theorem dX6_order_0 : decode cX6_order 0 = .ok (.iload_n 1, 1) := by decide +kernel
theorem dX6_order_1 : decode cX6_order 1 = .ok (.iconst 4, 1) := by decide +kernel
theorem dX6_order_2 : decode cX6_order 2 = .ok (.invokestatic 88, 3) := by decide +kernel
theorem dX6_order_5 : decode cX6_order 5 = .ok (.ifCond .eq 11, 3) := by decide +kernel
theorem dX6_order_8 : decode cX6_order 8 = .ok (.aload_n 0, 1) := by decide +kernel
theorem dX6_order_9 : decode cX6_order 9 = .ok (.iload_n 2, 1) := by decide +kernel
theorem dX6_order_10 : decode cX6_order 10 = .ok (.invokevirtual 114, 3) := by decide +kernel
theorem dX6_order_13 : decode cX6_order 13 = .ok (.ifCond .ne 6, 3) := by decide +kernel
theorem dX6_order_16 : decode cX6_order 16 = .ok (.ldc 118, 2) := by decide +kernel
theorem dX6_order_18 : decode cX6_order 18 = .ok (.ireturn, 1) := by decide +kernel
theorem dX6_order_19 : decode cX6_order 19 = .ok (.aload_n 0, 1) := by decide +kernel
theorem dX6_order_20 : decode cX6_order 20 = .ok (.getfield 45, 3) := by decide +kernel
theorem dX6_order_23 : decode cX6_order 23 = .ok (.iload_n 1, 1) := by decide +kernel
theorem dX6_order_24 : decode cX6_order 24 = .ok (.aaload, 1) := by decide +kernel
theorem dX6_order_25 : decode cX6_order 25 = .ok (.astore_n 3, 1) := by decide +kernel
theorem dX6_order_26 : decode cX6_order 26 = .ok (.aload_n 0, 1) := by decide +kernel
theorem dX6_order_27 : decode cX6_order 27 = .ok (.aload_n 3, 1) := by decide +kernel
theorem dX6_order_28 : decode cX6_order 28 = .ok (.invokevirtual 129, 3) := by decide +kernel
theorem dX6_order_31 : decode cX6_order 31 = .ok (.ifCond .ne 6, 3) := by decide +kernel
theorem dX6_order_34 : decode cX6_order 34 = .ok (.ldc 118, 2) := by decide +kernel
theorem dX6_order_36 : decode cX6_order 36 = .ok (.ireturn, 1) := by decide +kernel
theorem dX6_order_37 : decode cX6_order 37 = .ok (.aload_n 0, 1) := by decide +kernel
theorem dX6_order_38 : decode cX6_order 38 = .ok (.getfield 56, 3) := by decide +kernel
theorem dX6_order_41 : decode cX6_order 41 = .ok (.aload_n 0, 1) := by decide +kernel
theorem dX6_order_42 : decode cX6_order 42 = .ok (.getfield 10, 3) := by decide +kernel
theorem dX6_order_45 : decode cX6_order 45 = .ok (.invokevirtual 133, 3) := by decide +kernel
theorem dX6_order_48 : decode cX6_order 48 = .ok (.iconst 0, 1) := by decide +kernel
theorem dX6_order_49 : decode cX6_order 49 = .ok (.istore 4, 2) := by decide +kernel
theorem dX6_order_51 : decode cX6_order 51 = .ok (.iload 4, 2) := by decide +kernel
theorem dX6_order_53 : decode cX6_order 53 = .ok (.aload_n 3, 1) := by decide +kernel
theorem dX6_order_54 : decode cX6_order 54 = .ok (.getfield 137, 3) := by decide +kernel
theorem dX6_order_57 : decode cX6_order 57 = .ok (.if_icmp .ge 24, 3) := by decide +kernel
theorem dX6_order_60 : decode cX6_order 60 = .ok (.aload_n 0, 1) := by decide +kernel
theorem dX6_order_61 : decode cX6_order 61 = .ok (.getfield 56, 3) := by decide +kernel
theorem dX6_order_64 : decode cX6_order 64 = .ok (.aload_n 3, 1) := by decide +kernel
theorem dX6_order_65 : decode cX6_order 65 = .ok (.iload 4, 2) := by decide +kernel
theorem dX6_order_67 : decode cX6_order 67 = .ok (.invokevirtual 138, 3) := by decide +kernel
theorem dX6_order_70 : decode cX6_order 70 = .ok (.iload 4, 2) := by decide +kernel
theorem dX6_order_72 : decode cX6_order 72 = .ok (.invokevirtual 141, 3) := by decide +kernel
theorem dX6_order_75 : decode cX6_order 75 = .ok (.iinc 4 1, 3) := by decide +kernel
theorem dX6_order_78 : decode cX6_order 78 = .ok (.goto (-27), 3) := by decide +kernel
theorem dX6_order_81 : decode cX6_order 81 = .ok (.aload_n 0, 1) := by decide +kernel
theorem dX6_order_82 : decode cX6_order 82 = .ok (.getfield 56, 3) := by decide +kernel
theorem dX6_order_85 : decode cX6_order 85 = .ok (.iload_n 2, 1) := by decide +kernel
theorem dX6_order_86 : decode cX6_order 86 = .ok (.invokevirtual 126, 3) := by decide +kernel
theorem dX6_order_89 : decode cX6_order 89 = .ok (.ireturn, 1) := by decide +kernel
theorem dX6_best_0 : decode cX6_best 0 = .ok (.iload_n 1, 1) := by decide +kernel
theorem dX6_best_1 : decode cX6_best 1 = .ok (.iconst 2, 1) := by decide +kernel
theorem dX6_best_2 : decode cX6_best 2 = .ok (.invokestatic 88, 3) := by decide +kernel
theorem dX6_best_5 : decode cX6_best 5 = .ok (.ifCond .ne 6, 3) := by decide +kernel
theorem dX6_best_8 : decode cX6_best 8 = .ok (.ldc 118, 2) := by decide +kernel
theorem dX6_best_10 : decode cX6_best 10 = .ok (.ireturn, 1) := by decide +kernel
theorem dX6_best_11 : decode cX6_best 11 = .ok (.new 145, 3) := by decide +kernel
theorem dX6_best_14 : decode cX6_best 14 = .ok (.dup, 1) := by decide +kernel
theorem dX6_best_15 : decode cX6_best 15 = .ok (.invokespecial 147, 3) := by decide +kernel
theorem dX6_best_18 : decode cX6_best 18 = .ok (.astore_n 2, 1) := by decide +kernel
theorem dX6_best_19 : decode cX6_best 19 = .ok (.aload_n 0, 1) := by decide +kernel
theorem dX6_best_20 : decode cX6_best 20 = .ok (.getfield 56, 3) := by decide +kernel
theorem dX6_best_23 : decode cX6_best 23 = .ok (.aload_n 0, 1) := by decide +kernel
theorem dX6_best_24 : decode cX6_best 24 = .ok (.getfield 10, 3) := by decide +kernel
theorem dX6_best_27 : decode cX6_best 27 = .ok (.invokevirtual 133, 3) := by decide +kernel
theorem dX6_best_30 : decode cX6_best 30 = .ok (.aload_n 2, 1) := by decide +kernel
theorem dX6_best_31 : decode cX6_best 31 = .ok (.aload_n 0, 1) := by decide +kernel
theorem dX6_best_32 : decode cX6_best 32 = .ok (.getfield 56, 3) := by decide +kernel
theorem dX6_best_35 : decode cX6_best 35 = .ok (.iconst 0, 1) := by decide +kernel
theorem dX6_best_36 : decode cX6_best 36 = .ok (.iconst 0, 1) := by decide +kernel
theorem dX6_best_37 : decode cX6_best 37 = .ok (.iconst 0, 1) := by decide +kernel
theorem dX6_best_38 : decode cX6_best 38 = .ok (.aload_n 0, 1) := by decide +kernel
theorem dX6_best_39 : decode cX6_best 39 = .ok (.getfield 10, 3) := by decide +kernel
theorem dX6_best_42 : decode cX6_best 42 = .ok (.invokevirtual 148, 3) := by decide +kernel
theorem dX6_best_45 : decode cX6_best 45 = .ok (.invokestatic 151, 3) := by decide +kernel
theorem dX6_best_48 : decode cX6_best 48 = .ok (.aload_n 2, 1) := by decide +kernel
theorem dX6_best_49 : decode cX6_best 49 = .ok (.iload_n 1, 1) := by decide +kernel
theorem dX6_best_50 : decode cX6_best 50 = .ok (.invokevirtual 155, 3) := by decide +kernel
theorem dX6_best_53 : decode cX6_best 53 = .ok (.ireturn, 1) := by decide +kernel
theorem dX6_setting_0 : decode cX6_setting 0 = .ok (.iload_n 1, 1) := by decide +kernel
theorem dX6_setting_1 : decode cX6_setting 1 = .ok (.iconst 2, 1) := by decide +kernel
theorem dX6_setting_2 : decode cX6_setting 2 = .ok (.invokestatic 88, 3) := by decide +kernel
theorem dX6_setting_5 : decode cX6_setting 5 = .ok (.ifCond .ne 6, 3) := by decide +kernel
theorem dX6_setting_8 : decode cX6_setting 8 = .ok (.ldc 118, 2) := by decide +kernel
theorem dX6_setting_10 : decode cX6_setting 10 = .ok (.ireturn, 1) := by decide +kernel
theorem dX6_setting_11 : decode cX6_setting 11 = .ok (.iconst 0, 1) := by decide +kernel
theorem dX6_setting_12 : decode cX6_setting 12 = .ok (.istore_n 2, 1) := by decide +kernel
theorem dX6_setting_13 : decode cX6_setting 13 = .ok (.iconst 0, 1) := by decide +kernel
theorem dX6_setting_14 : decode cX6_setting 14 = .ok (.istore_n 3, 1) := by decide +kernel
theorem dX6_setting_15 : decode cX6_setting 15 = .ok (.aload_n 0, 1) := by decide +kernel
theorem dX6_setting_16 : decode cX6_setting 16 = .ok (.getfield 56, 3) := by decide +kernel
theorem dX6_setting_19 : decode cX6_setting 19 = .ok (.aload_n 0, 1) := by decide +kernel
theorem dX6_setting_20 : decode cX6_setting 20 = .ok (.getfield 10, 3) := by decide +kernel
theorem dX6_setting_23 : decode cX6_setting 23 = .ok (.invokevirtual 133, 3) := by decide +kernel
theorem dX6_setting_26 : decode cX6_setting 26 = .ok (.iconst 0, 1) := by decide +kernel
theorem dX6_setting_27 : decode cX6_setting 27 = .ok (.istore 4, 2) := by decide +kernel
theorem dX6_setting_29 : decode cX6_setting 29 = .ok (.iload 4, 2) := by decide +kernel
theorem dX6_setting_31 : decode cX6_setting 31 = .ok (.aload_n 0, 1) := by decide +kernel
theorem dX6_setting_32 : decode cX6_setting 32 = .ok (.getfield 10, 3) := by decide +kernel
theorem dX6_setting_35 : decode cX6_setting 35 = .ok (.getfield 95, 3) := by decide +kernel
theorem dX6_setting_38 : decode cX6_setting 38 = .ok (.if_icmp .ge 44, 3) := by decide +kernel
theorem dX6_setting_41 : decode cX6_setting 41 = .ok (.aload_n 0, 1) := by decide +kernel
theorem dX6_setting_42 : decode cX6_setting 42 = .ok (.iload_n 2, 1) := by decide +kernel
theorem dX6_setting_43 : decode cX6_setting 43 = .ok (.invokevirtual 156, 3) := by decide +kernel
theorem dX6_setting_46 : decode cX6_setting 46 = .ok (.istore 5, 2) := by decide +kernel
theorem dX6_setting_48 : decode cX6_setting 48 = .ok (.iload_n 2, 1) := by decide +kernel
theorem dX6_setting_49 : decode cX6_setting 49 = .ok (.iconst 1, 1) := by decide +kernel
theorem dX6_setting_50 : decode cX6_setting 50 = .ok (.iload 5, 2) := by decide +kernel
theorem dX6_setting_52 : decode cX6_setting 52 = .ok (.ishl, 1) := by decide +kernel
theorem dX6_setting_53 : decode cX6_setting 53 = .ok (.ior, 1) := by decide +kernel
theorem dX6_setting_54 : decode cX6_setting 54 = .ok (.istore_n 2, 1) := by decide +kernel
theorem dX6_setting_55 : decode cX6_setting 55 = .ok (.iload_n 3, 1) := by decide +kernel
theorem dX6_setting_56 : decode cX6_setting 56 = .ok (.bipush 10, 2) := by decide +kernel
theorem dX6_setting_58 : decode cX6_setting 58 = .ok (.imul, 1) := by decide +kernel
theorem dX6_setting_59 : decode cX6_setting 59 = .ok (.iload 5, 2) := by decide +kernel
theorem dX6_setting_61 : decode cX6_setting 61 = .ok (.iadd, 1) := by decide +kernel
theorem dX6_setting_62 : decode cX6_setting 62 = .ok (.iconst 1, 1) := by decide +kernel
theorem dX6_setting_63 : decode cX6_setting 63 = .ok (.iadd, 1) := by decide +kernel
theorem dX6_setting_64 : decode cX6_setting 64 = .ok (.istore_n 3, 1) := by decide +kernel
theorem dX6_setting_65 : decode cX6_setting 65 = .ok (.aload_n 0, 1) := by decide +kernel
theorem dX6_setting_66 : decode cX6_setting 66 = .ok (.getfield 56, 3) := by decide +kernel
theorem dX6_setting_69 : decode cX6_setting 69 = .ok (.iload 5, 2) := by decide +kernel
theorem dX6_setting_71 : decode cX6_setting 71 = .ok (.iload 4, 2) := by decide +kernel
theorem dX6_setting_73 : decode cX6_setting 73 = .ok (.invokevirtual 141, 3) := by decide +kernel
theorem dX6_setting_76 : decode cX6_setting 76 = .ok (.iinc 4 1, 3) := by decide +kernel
theorem dX6_setting_79 : decode cX6_setting 79 = .ok (.goto (-50), 3) := by decide +kernel
theorem dX6_setting_82 : decode cX6_setting 82 = .ok (.iload_n 1, 1) := by decide +kernel
theorem dX6_setting_83 : decode cX6_setting 83 = .ok (.ifCond .ne 13, 3) := by decide +kernel
theorem dX6_setting_86 : decode cX6_setting 86 = .ok (.aload_n 0, 1) := by decide +kernel
theorem dX6_setting_87 : decode cX6_setting 87 = .ok (.getfield 56, 3) := by decide +kernel
theorem dX6_setting_90 : decode cX6_setting 90 = .ok (.getfield 159, 3) := by decide +kernel
theorem dX6_setting_93 : decode cX6_setting 93 = .ok (.goto 4, 3) := by decide +kernel
theorem dX6_setting_96 : decode cX6_setting 96 = .ok (.iload_n 3, 1) := by decide +kernel
theorem dX6_setting_97 : decode cX6_setting 97 = .ok (.ireturn, 1) := by decide +kernel
theorem dX6_late_0 : decode cX6_late 0 = .ok (.aload_n 0, 1) := by decide +kernel
theorem dX6_late_1 : decode cX6_late 1 = .ok (.aload_n 0, 1) := by decide +kernel
theorem dX6_late_2 : decode cX6_late 2 = .ok (.getfield 10, 3) := by decide +kernel
theorem dX6_late_5 : decode cX6_late 5 = .ok (.invokevirtual 162, 3) := by decide +kernel
theorem dX6_late_8 : decode cX6_late 8 = .ok (.istore_n 1, 1) := by decide +kernel
theorem dX6_late_9 : decode cX6_late 9 = .ok (.aload_n 0, 1) := by decide +kernel
theorem dX6_late_10 : decode cX6_late 10 = .ok (.getfield 19, 3) := by decide +kernel
theorem dX6_late_13 : decode cX6_late 13 = .ok (.aload_n 0, 1) := by decide +kernel
theorem dX6_late_14 : decode cX6_late 14 = .ok (.getfield 10, 3) := by decide +kernel
theorem dX6_late_17 : decode cX6_late 17 = .ok (.invokevirtual 166, 3) := by decide +kernel
theorem dX6_late_20 : decode cX6_late 20 = .ok (.sipush 199, 3) := by decide +kernel
theorem dX6_late_23 : decode cX6_late 23 = .ok (.istore_n 2, 1) := by decide +kernel
theorem dX6_late_24 : decode cX6_late 24 = .ok (.iload_n 2, 1) := by decide +kernel
theorem dX6_late_25 : decode cX6_late 25 = .ok (.ifCond .lt 35, 3) := by decide +kernel
theorem dX6_late_28 : decode cX6_late 28 = .ok (.aload_n 0, 1) := by decide +kernel
theorem dX6_late_29 : decode cX6_late 29 = .ok (.getfield 19, 3) := by decide +kernel
theorem dX6_late_32 : decode cX6_late 32 = .ok (.bipush 6, 2) := by decide +kernel
theorem dX6_late_34 : decode cX6_late 34 = .ok (.iconst 0, 1) := by decide +kernel
theorem dX6_late_35 : decode cX6_late 35 = .ok (.iload_n 2, 1) := by decide +kernel
theorem dX6_late_36 : decode cX6_late 36 = .ok (.invokevirtual 84, 3) := by decide +kernel
theorem dX6_late_39 : decode cX6_late 39 = .ok (.pop, 1) := by decide +kernel
theorem dX6_late_40 : decode cX6_late 40 = .ok (.aload_n 0, 1) := by decide +kernel
theorem dX6_late_41 : decode cX6_late 41 = .ok (.aload_n 0, 1) := by decide +kernel
theorem dX6_late_42 : decode cX6_late 42 = .ok (.getfield 19, 3) := by decide +kernel
theorem dX6_late_45 : decode cX6_late 45 = .ok (.invokevirtual 162, 3) := by decide +kernel
theorem dX6_late_48 : decode cX6_late 48 = .ok (.iload_n 1, 1) := by decide +kernel
theorem dX6_late_49 : decode cX6_late 49 = .ok (.if_icmp .lt 5, 3) := by decide +kernel
theorem dX6_late_52 : decode cX6_late 52 = .ok (.iload_n 2, 1) := by decide +kernel
theorem dX6_late_53 : decode cX6_late 53 = .ok (.ireturn, 1) := by decide +kernel
theorem dX6_late_54 : decode cX6_late 54 = .ok (.iinc 2 (-1), 3) := by decide +kernel
theorem dX6_late_57 : decode cX6_late 57 = .ok (.goto (-33), 3) := by decide +kernel
theorem dX6_late_60 : decode cX6_late 60 = .ok (.iconst (-1), 1) := by decide +kernel
theorem dX6_late_61 : decode cX6_late 61 = .ok (.ireturn, 1) := by decide +kernel
theorem dX6_sleep_0 : decode cX6_sleep 0 = .ok (.iload_n 1, 1) := by decide +kernel
theorem dX6_sleep_1 : decode cX6_sleep 1 = .ok (.iconst 1, 1) := by decide +kernel
theorem dX6_sleep_2 : decode cX6_sleep 2 = .ok (.if_icmp .lt 17, 3) := by decide +kernel
theorem dX6_sleep_5 : decode cX6_sleep 5 = .ok (.iload_n 1, 1) := by decide +kernel
theorem dX6_sleep_6 : decode cX6_sleep 6 = .ok (.bipush 99, 2) := by decide +kernel
theorem dX6_sleep_8 : decode cX6_sleep 8 = .ok (.if_icmp .gt 11, 3) := by decide +kernel
theorem dX6_sleep_11 : decode cX6_sleep 11 = .ok (.iload_n 2, 1) := by decide +kernel
theorem dX6_sleep_12 : decode cX6_sleep 12 = .ok (.iconst 2, 1) := by decide +kernel
theorem dX6_sleep_13 : decode cX6_sleep 13 = .ok (.invokestatic 88, 3) := by decide +kernel
theorem dX6_sleep_16 : decode cX6_sleep 16 = .ok (.ifCond .ne 6, 3) := by decide +kernel
theorem dX6_sleep_19 : decode cX6_sleep 19 = .ok (.ldc 118, 2) := by decide +kernel
theorem dX6_sleep_21 : decode cX6_sleep 21 = .ok (.ireturn, 1) := by decide +kernel
theorem dX6_sleep_22 : decode cX6_sleep 22 = .ok (.new 145, 3) := by decide +kernel
theorem dX6_sleep_25 : decode cX6_sleep 25 = .ok (.dup, 1) := by decide +kernel
theorem dX6_sleep_26 : decode cX6_sleep 26 = .ok (.invokespecial 147, 3) := by decide +kernel
theorem dX6_sleep_29 : decode cX6_sleep 29 = .ok (.astore_n 3, 1) := by decide +kernel
theorem dX6_sleep_30 : decode cX6_sleep 30 = .ok (.iconst 0, 1) := by decide +kernel
theorem dX6_sleep_31 : decode cX6_sleep 31 = .ok (.istore 4, 2) := by decide +kernel
theorem dX6_sleep_33 : decode cX6_sleep 33 = .ok (.iload 4, 2) := by decide +kernel
theorem dX6_sleep_35 : decode cX6_sleep 35 = .ok (.aload_n 0, 1) := by decide +kernel
theorem dX6_sleep_36 : decode cX6_sleep 36 = .ok (.getfield 10, 3) := by decide +kernel
theorem dX6_sleep_39 : decode cX6_sleep 39 = .ok (.getfield 95, 3) := by decide +kernel
theorem dX6_sleep_42 : decode cX6_sleep 42 = .ok (.if_icmp .gt 22, 3) := by decide +kernel
theorem dX6_sleep_45 : decode cX6_sleep 45 = .ok (.aload_n 3, 1) := by decide +kernel
theorem dX6_sleep_46 : decode cX6_sleep 46 = .ok (.iload 4, 2) := by decide +kernel
theorem dX6_sleep_48 : decode cX6_sleep 48 = .ok (.aload_n 0, 1) := by decide +kernel
theorem dX6_sleep_49 : decode cX6_sleep 49 = .ok (.iload 4, 2) := by decide +kernel
theorem dX6_sleep_51 : decode cX6_sleep 51 = .ok (.iload_n 1, 1) := by decide +kernel
theorem dX6_sleep_52 : decode cX6_sleep 52 = .ok (.invokevirtual 169, 3) := by decide +kernel
theorem dX6_sleep_55 : decode cX6_sleep 55 = .ok (.invokevirtual 172, 3) := by decide +kernel
theorem dX6_sleep_58 : decode cX6_sleep 58 = .ok (.iinc 4 1, 3) := by decide +kernel
theorem dX6_sleep_61 : decode cX6_sleep 61 = .ok (.goto (-28), 3) := by decide +kernel
theorem dX6_sleep_64 : decode cX6_sleep 64 = .ok (.aload_n 3, 1) := by decide +kernel
theorem dX6_sleep_65 : decode cX6_sleep 65 = .ok (.iconst 1, 1) := by decide +kernel
theorem dX6_sleep_66 : decode cX6_sleep 66 = .ok (.iload_n 2, 1) := by decide +kernel
theorem dX6_sleep_67 : decode cX6_sleep 67 = .ok (.isub, 1) := by decide +kernel
theorem dX6_sleep_68 : decode cX6_sleep 68 = .ok (.invokevirtual 155, 3) := by decide +kernel
theorem dX6_sleep_71 : decode cX6_sleep 71 = .ok (.ireturn, 1) := by decide +kernel
theorem dX6_moon_0 : decode cX6_moon 0 = .ok (.iload_n 1, 1) := by decide +kernel
theorem dX6_moon_1 : decode cX6_moon 1 = .ok (.iconst 2, 1) := by decide +kernel
theorem dX6_moon_2 : decode cX6_moon 2 = .ok (.invokestatic 88, 3) := by decide +kernel
theorem dX6_moon_5 : decode cX6_moon 5 = .ok (.ifCond .ne 6, 3) := by decide +kernel
theorem dX6_moon_8 : decode cX6_moon 8 = .ok (.ldc 118, 2) := by decide +kernel
theorem dX6_moon_10 : decode cX6_moon 10 = .ok (.ireturn, 1) := by decide +kernel
theorem dX6_moon_11 : decode cX6_moon 11 = .ok (.new 145, 3) := by decide +kernel
theorem dX6_moon_14 : decode cX6_moon 14 = .ok (.dup, 1) := by decide +kernel
theorem dX6_moon_15 : decode cX6_moon 15 = .ok (.invokespecial 147, 3) := by decide +kernel
theorem dX6_moon_18 : decode cX6_moon 18 = .ok (.astore_n 2, 1) := by decide +kernel
theorem dX6_moon_19 : decode cX6_moon 19 = .ok (.aload_n 0, 1) := by decide +kernel
theorem dX6_moon_20 : decode cX6_moon 20 = .ok (.getfield 19, 3) := by decide +kernel
theorem dX6_moon_23 : decode cX6_moon 23 = .ok (.aload_n 0, 1) := by decide +kernel
theorem dX6_moon_24 : decode cX6_moon 24 = .ok (.getfield 10, 3) := by decide +kernel
theorem dX6_moon_27 : decode cX6_moon 27 = .ok (.invokevirtual 166, 3) := by decide +kernel
theorem dX6_moon_30 : decode cX6_moon 30 = .ok (.iconst 0, 1) := by decide +kernel
theorem dX6_moon_31 : decode cX6_moon 31 = .ok (.istore_n 3, 1) := by decide +kernel
theorem dX6_moon_32 : decode cX6_moon 32 = .ok (.iload_n 3, 1) := by decide +kernel
theorem dX6_moon_33 : decode cX6_moon 33 = .ok (.bipush 10, 2) := by decide +kernel
theorem dX6_moon_35 : decode cX6_moon 35 = .ok (.if_icmp .ge 43, 3) := by decide +kernel
theorem dX6_moon_38 : decode cX6_moon 38 = .ok (.aload_n 0, 1) := by decide +kernel
theorem dX6_moon_39 : decode cX6_moon 39 = .ok (.getfield 19, 3) := by decide +kernel
theorem dX6_moon_42 : decode cX6_moon 42 = .ok (.iconst 0, 1) := by decide +kernel
theorem dX6_moon_43 : decode cX6_moon 43 = .ok (.iconst 0, 1) := by decide +kernel
theorem dX6_moon_44 : decode cX6_moon 44 = .ok (.iload_n 3, 1) := by decide +kernel
theorem dX6_moon_45 : decode cX6_moon 45 = .ok (.invokevirtual 84, 3) := by decide +kernel
theorem dX6_moon_48 : decode cX6_moon 48 = .ok (.pop, 1) := by decide +kernel
theorem dX6_moon_49 : decode cX6_moon 49 = .ok (.aload_n 2, 1) := by decide +kernel
theorem dX6_moon_50 : decode cX6_moon 50 = .ok (.iload_n 3, 1) := by decide +kernel
theorem dX6_moon_51 : decode cX6_moon 51 = .ok (.aload_n 0, 1) := by decide +kernel
theorem dX6_moon_52 : decode cX6_moon 52 = .ok (.getfield 56, 3) := by decide +kernel
theorem dX6_moon_55 : decode cX6_moon 55 = .ok (.aload_n 0, 1) := by decide +kernel
theorem dX6_moon_56 : decode cX6_moon 56 = .ok (.getfield 19, 3) := by decide +kernel
theorem dX6_moon_59 : decode cX6_moon 59 = .ok (.aload_n 0, 1) := by decide +kernel
theorem dX6_moon_60 : decode cX6_moon 60 = .ok (.getfield 19, 3) := by decide +kernel
theorem dX6_moon_63 : decode cX6_moon 63 = .ok (.invokevirtual 119, 3) := by decide +kernel
theorem dX6_moon_66 : decode cX6_moon 66 = .ok (.invokevirtual 122, 3) := by decide +kernel
theorem dX6_moon_69 : decode cX6_moon 69 = .ok (.invokevirtual 172, 3) := by decide +kernel
theorem dX6_moon_72 : decode cX6_moon 72 = .ok (.iinc 3 1, 3) := by decide +kernel
theorem dX6_moon_75 : decode cX6_moon 75 = .ok (.goto (-43), 3) := by decide +kernel
theorem dX6_moon_78 : decode cX6_moon 78 = .ok (.aload_n 2, 1) := by decide +kernel
theorem dX6_moon_79 : decode cX6_moon 79 = .ok (.iconst 1, 1) := by decide +kernel
theorem dX6_moon_80 : decode cX6_moon 80 = .ok (.iload_n 1, 1) := by decide +kernel
theorem dX6_moon_81 : decode cX6_moon 81 = .ok (.isub, 1) := by decide +kernel
theorem dX6_moon_82 : decode cX6_moon 82 = .ok (.invokevirtual 155, 3) := by decide +kernel
theorem dX6_moon_85 : decode cX6_moon 85 = .ok (.ireturn, 1) := by decide +kernel
theorem dX6_leave_0 : decode cX6_leave 0 = .ok (.iload_n 1, 1) := by decide +kernel
theorem dX6_leave_1 : decode cX6_leave 1 = .ok (.iconst 2, 1) := by decide +kernel
theorem dX6_leave_2 : decode cX6_leave 2 = .ok (.invokestatic 88, 3) := by decide +kernel
theorem dX6_leave_5 : decode cX6_leave 5 = .ok (.ifCond .ne 6, 3) := by decide +kernel
theorem dX6_leave_8 : decode cX6_leave 8 = .ok (.ldc 118, 2) := by decide +kernel
theorem dX6_leave_10 : decode cX6_leave 10 = .ok (.ireturn, 1) := by decide +kernel
theorem dX6_leave_11 : decode cX6_leave 11 = .ok (.new 145, 3) := by decide +kernel
theorem dX6_leave_14 : decode cX6_leave 14 = .ok (.dup, 1) := by decide +kernel
theorem dX6_leave_15 : decode cX6_leave 15 = .ok (.invokespecial 147, 3) := by decide +kernel
theorem dX6_leave_18 : decode cX6_leave 18 = .ok (.astore_n 2, 1) := by decide +kernel
theorem dX6_leave_19 : decode cX6_leave 19 = .ok (.aload_n 2, 1) := by decide +kernel
theorem dX6_leave_20 : decode cX6_leave 20 = .ok (.iconst (-1), 1) := by decide +kernel
theorem dX6_leave_21 : decode cX6_leave 21 = .ok (.aload_n 0, 1) := by decide +kernel
theorem dX6_leave_22 : decode cX6_leave 22 = .ok (.getfield 56, 3) := by decide +kernel
theorem dX6_leave_25 : decode cX6_leave 25 = .ok (.aload_n 0, 1) := by decide +kernel
theorem dX6_leave_26 : decode cX6_leave 26 = .ok (.getfield 10, 3) := by decide +kernel
theorem dX6_leave_29 : decode cX6_leave 29 = .ok (.aload_n 0, 1) := by decide +kernel
theorem dX6_leave_30 : decode cX6_leave 30 = .ok (.getfield 10, 3) := by decide +kernel
theorem dX6_leave_33 : decode cX6_leave 33 = .ok (.invokevirtual 119, 3) := by decide +kernel
theorem dX6_leave_36 : decode cX6_leave 36 = .ok (.invokevirtual 122, 3) := by decide +kernel
theorem dX6_leave_39 : decode cX6_leave 39 = .ok (.invokevirtual 172, 3) := by decide +kernel
theorem dX6_leave_42 : decode cX6_leave 42 = .ok (.iconst 0, 1) := by decide +kernel
theorem dX6_leave_43 : decode cX6_leave 43 = .ok (.istore_n 3, 1) := by decide +kernel
theorem dX6_leave_44 : decode cX6_leave 44 = .ok (.iload_n 3, 1) := by decide +kernel
theorem dX6_leave_45 : decode cX6_leave 45 = .ok (.aload_n 0, 1) := by decide +kernel
theorem dX6_leave_46 : decode cX6_leave 46 = .ok (.getfield 10, 3) := by decide +kernel
theorem dX6_leave_49 : decode cX6_leave 49 = .ok (.getfield 95, 3) := by decide +kernel
theorem dX6_leave_52 : decode cX6_leave 52 = .ok (.if_icmp .ge 38, 3) := by decide +kernel
theorem dX6_leave_55 : decode cX6_leave 55 = .ok (.aload_n 2, 1) := by decide +kernel
theorem dX6_leave_56 : decode cX6_leave 56 = .ok (.iload_n 3, 1) := by decide +kernel
theorem dX6_leave_57 : decode cX6_leave 57 = .ok (.aload_n 0, 1) := by decide +kernel
theorem dX6_leave_58 : decode cX6_leave 58 = .ok (.getfield 56, 3) := by decide +kernel
theorem dX6_leave_61 : decode cX6_leave 61 = .ok (.aload_n 0, 1) := by decide +kernel
theorem dX6_leave_62 : decode cX6_leave 62 = .ok (.getfield 10, 3) := by decide +kernel
theorem dX6_leave_65 : decode cX6_leave 65 = .ok (.aload_n 0, 1) := by decide +kernel
theorem dX6_leave_66 : decode cX6_leave 66 = .ok (.getfield 10, 3) := by decide +kernel
theorem dX6_leave_69 : decode cX6_leave 69 = .ok (.invokevirtual 119, 3) := by decide +kernel
theorem dX6_leave_72 : decode cX6_leave 72 = .ok (.iconst 1, 1) := by decide +kernel
theorem dX6_leave_73 : decode cX6_leave 73 = .ok (.iload_n 3, 1) := by decide +kernel
theorem dX6_leave_74 : decode cX6_leave 74 = .ok (.ishl, 1) := by decide +kernel
theorem dX6_leave_75 : decode cX6_leave 75 = .ok (.iconst (-1), 1) := by decide +kernel
theorem dX6_leave_76 : decode cX6_leave 76 = .ok (.ixor, 1) := by decide +kernel
theorem dX6_leave_77 : decode cX6_leave 77 = .ok (.iand, 1) := by decide +kernel
theorem dX6_leave_78 : decode cX6_leave 78 = .ok (.invokevirtual 122, 3) := by decide +kernel
theorem dX6_leave_81 : decode cX6_leave 81 = .ok (.invokevirtual 172, 3) := by decide +kernel
theorem dX6_leave_84 : decode cX6_leave 84 = .ok (.iinc 3 1, 3) := by decide +kernel
theorem dX6_leave_87 : decode cX6_leave 87 = .ok (.goto (-43), 3) := by decide +kernel
theorem dX6_leave_90 : decode cX6_leave 90 = .ok (.aload_n 2, 1) := by decide +kernel
theorem dX6_leave_91 : decode cX6_leave 91 = .ok (.iconst 1, 1) := by decide +kernel
theorem dX6_leave_92 : decode cX6_leave 92 = .ok (.iload_n 1, 1) := by decide +kernel
theorem dX6_leave_93 : decode cX6_leave 93 = .ok (.isub, 1) := by decide +kernel
theorem dX6_leave_94 : decode cX6_leave 94 = .ok (.invokevirtual 155, 3) := by decide +kernel
theorem dX6_leave_97 : decode cX6_leave 97 = .ok (.ireturn, 1) := by decide +kernel
theorem dX6_two_0 : decode cX6_two 0 = .ok (.iload_n 1, 1) := by decide +kernel
theorem dX6_two_1 : decode cX6_two 1 = .ok (.iconst 2, 1) := by decide +kernel
theorem dX6_two_2 : decode cX6_two 2 = .ok (.invokestatic 88, 3) := by decide +kernel
theorem dX6_two_5 : decode cX6_two 5 = .ok (.ifCond .ne 6, 3) := by decide +kernel
theorem dX6_two_8 : decode cX6_two 8 = .ok (.ldc 118, 2) := by decide +kernel
theorem dX6_two_10 : decode cX6_two 10 = .ok (.ireturn, 1) := by decide +kernel
theorem dX6_two_11 : decode cX6_two 11 = .ok (.new 145, 3) := by decide +kernel
theorem dX6_two_14 : decode cX6_two 14 = .ok (.dup, 1) := by decide +kernel
theorem dX6_two_15 : decode cX6_two 15 = .ok (.invokespecial 147, 3) := by decide +kernel
theorem dX6_two_18 : decode cX6_two 18 = .ok (.astore_n 2, 1) := by decide +kernel
theorem dX6_two_19 : decode cX6_two 19 = .ok (.aload_n 0, 1) := by decide +kernel
theorem dX6_two_20 : decode cX6_two 20 = .ok (.getfield 10, 3) := by decide +kernel
theorem dX6_two_23 : decode cX6_two 23 = .ok (.invokevirtual 119, 3) := by decide +kernel
theorem dX6_two_26 : decode cX6_two 26 = .ok (.istore_n 3, 1) := by decide +kernel
theorem dX6_two_27 : decode cX6_two 27 = .ok (.iconst 0, 1) := by decide +kernel
theorem dX6_two_28 : decode cX6_two 28 = .ok (.istore 4, 2) := by decide +kernel
theorem dX6_two_30 : decode cX6_two 30 = .ok (.iload 4, 2) := by decide +kernel
theorem dX6_two_32 : decode cX6_two 32 = .ok (.iload_n 3, 1) := by decide +kernel
theorem dX6_two_33 : decode cX6_two 33 = .ok (.if_icmp .gt 46, 3) := by decide +kernel
theorem dX6_two_36 : decode cX6_two 36 = .ok (.aload_n 2, 1) := by decide +kernel
theorem dX6_two_37 : decode cX6_two 37 = .ok (.iload 4, 2) := by decide +kernel
theorem dX6_two_39 : decode cX6_two 39 = .ok (.aload_n 0, 1) := by decide +kernel
theorem dX6_two_40 : decode cX6_two 40 = .ok (.getfield 56, 3) := by decide +kernel
theorem dX6_two_43 : decode cX6_two 43 = .ok (.aload_n 0, 1) := by decide +kernel
theorem dX6_two_44 : decode cX6_two 44 = .ok (.getfield 10, 3) := by decide +kernel
theorem dX6_two_47 : decode cX6_two 47 = .ok (.iload 4, 2) := by decide +kernel
theorem dX6_two_49 : decode cX6_two 49 = .ok (.invokevirtual 122, 3) := by decide +kernel
theorem dX6_two_52 : decode cX6_two 52 = .ok (.aload_n 0, 1) := by decide +kernel
theorem dX6_two_53 : decode cX6_two 53 = .ok (.getfield 56, 3) := by decide +kernel
theorem dX6_two_56 : decode cX6_two 56 = .ok (.aload_n 0, 1) := by decide +kernel
theorem dX6_two_57 : decode cX6_two 57 = .ok (.getfield 10, 3) := by decide +kernel
theorem dX6_two_60 : decode cX6_two 60 = .ok (.iload_n 3, 1) := by decide +kernel
theorem dX6_two_61 : decode cX6_two 61 = .ok (.iload 4, 2) := by decide +kernel
theorem dX6_two_63 : decode cX6_two 63 = .ok (.iconst (-1), 1) := by decide +kernel
theorem dX6_two_64 : decode cX6_two 64 = .ok (.ixor, 1) := by decide +kernel
theorem dX6_two_65 : decode cX6_two 65 = .ok (.iand, 1) := by decide +kernel
theorem dX6_two_66 : decode cX6_two 66 = .ok (.invokevirtual 122, 3) := by decide +kernel
theorem dX6_two_69 : decode cX6_two 69 = .ok (.iadd, 1) := by decide +kernel
theorem dX6_two_70 : decode cX6_two 70 = .ok (.invokevirtual 172, 3) := by decide +kernel
theorem dX6_two_73 : decode cX6_two 73 = .ok (.iinc 4 1, 3) := by decide +kernel
theorem dX6_two_76 : decode cX6_two 76 = .ok (.goto (-46), 3) := by decide +kernel
theorem dX6_two_79 : decode cX6_two 79 = .ok (.aload_n 2, 1) := by decide +kernel
theorem dX6_two_80 : decode cX6_two 80 = .ok (.iconst 1, 1) := by decide +kernel
theorem dX6_two_81 : decode cX6_two 81 = .ok (.iload_n 1, 1) := by decide +kernel
theorem dX6_two_82 : decode cX6_two 82 = .ok (.isub, 1) := by decide +kernel
theorem dX6_two_83 : decode cX6_two 83 = .ok (.invokevirtual 155, 3) := by decide +kernel
theorem dX6_two_86 : decode cX6_two 86 = .ok (.ireturn, 1) := by decide +kernel
theorem dX6_cloud_0 : decode cX6_cloud 0 = .ok (.aload_n 0, 1) := by decide +kernel
theorem dX6_cloud_1 : decode cX6_cloud 1 = .ok (.invokevirtual 175, 3) := by decide +kernel
theorem dX6_cloud_4 : decode cX6_cloud 4 = .ok (.aload_n 0, 1) := by decide +kernel
theorem dX6_cloud_5 : decode cX6_cloud 5 = .ok (.getfield 56, 3) := by decide +kernel
theorem dX6_cloud_8 : decode cX6_cloud 8 = .ok (.aload_n 0, 1) := by decide +kernel
theorem dX6_cloud_9 : decode cX6_cloud 9 = .ok (.getfield 10, 3) := by decide +kernel
theorem dX6_cloud_12 : decode cX6_cloud 12 = .ok (.aload_n 0, 1) := by decide +kernel
theorem dX6_cloud_13 : decode cX6_cloud 13 = .ok (.getfield 10, 3) := by decide +kernel
theorem dX6_cloud_16 : decode cX6_cloud 16 = .ok (.invokevirtual 119, 3) := by decide +kernel
theorem dX6_cloud_19 : decode cX6_cloud 19 = .ok (.invokevirtual 122, 3) := by decide +kernel
theorem dX6_cloud_22 : decode cX6_cloud 22 = .ok (.isub, 1) := by decide +kernel
theorem dX6_cloud_23 : decode cX6_cloud 23 = .ok (.ireturn, 1) := by decide +kernel
theorem dX6_lists_0 : decode cX6_lists 0 = .ok (.iload_n 1, 1) := by decide +kernel
theorem dX6_lists_1 : decode cX6_lists 1 = .ok (.iconst 4, 1) := by decide +kernel
theorem dX6_lists_2 : decode cX6_lists 2 = .ok (.invokestatic 88, 3) := by decide +kernel
theorem dX6_lists_5 : decode cX6_lists 5 = .ok (.ifCond .eq 19, 3) := by decide +kernel
theorem dX6_lists_8 : decode cX6_lists 8 = .ok (.aload_n 0, 1) := by decide +kernel
theorem dX6_lists_9 : decode cX6_lists 9 = .ok (.iload_n 2, 1) := by decide +kernel
theorem dX6_lists_10 : decode cX6_lists 10 = .ok (.invokevirtual 178, 3) := by decide +kernel
theorem dX6_lists_13 : decode cX6_lists 13 = .ok (.ifCond .ne 14, 3) := by decide +kernel
theorem dX6_lists_16 : decode cX6_lists 16 = .ok (.iload_n 2, 1) := by decide +kernel
theorem dX6_lists_17 : decode cX6_lists 17 = .ok (.iconst 5, 1) := by decide +kernel
theorem dX6_lists_18 : decode cX6_lists 18 = .ok (.invokestatic 88, 3) := by decide +kernel
theorem dX6_lists_21 : decode cX6_lists 21 = .ok (.ifCond .ne 6, 3) := by decide +kernel
theorem dX6_lists_24 : decode cX6_lists 24 = .ok (.bipush (-2), 2) := by decide +kernel
theorem dX6_lists_26 : decode cX6_lists 26 = .ok (.ireturn, 1) := by decide +kernel
theorem dX6_lists_27 : decode cX6_lists 27 = .ok (.aload_n 0, 1) := by decide +kernel
theorem dX6_lists_28 : decode cX6_lists 28 = .ok (.getfield 45, 3) := by decide +kernel
theorem dX6_lists_31 : decode cX6_lists 31 = .ok (.iload_n 1, 1) := by decide +kernel
theorem dX6_lists_32 : decode cX6_lists 32 = .ok (.aaload, 1) := by decide +kernel
theorem dX6_lists_33 : decode cX6_lists 33 = .ok (.astore_n 3, 1) := by decide +kernel
theorem dX6_lists_34 : decode cX6_lists 34 = .ok (.aload_n 3, 1) := by decide +kernel
theorem dX6_lists_35 : decode cX6_lists 35 = .ok (.invokevirtual 181, 3) := by decide +kernel
theorem dX6_lists_38 : decode cX6_lists 38 = .ok (.ifCond .eq 6, 3) := by decide +kernel
theorem dX6_lists_41 : decode cX6_lists 41 = .ok (.bipush (-11), 2) := by decide +kernel
theorem dX6_lists_43 : decode cX6_lists 43 = .ok (.ireturn, 1) := by decide +kernel
theorem dX6_lists_44 : decode cX6_lists 44 = .ok (.aload_n 3, 1) := by decide +kernel
theorem dX6_lists_45 : decode cX6_lists 45 = .ok (.getfield 137, 3) := by decide +kernel
theorem dX6_lists_48 : decode cX6_lists 48 = .ok (.aload_n 0, 1) := by decide +kernel
theorem dX6_lists_49 : decode cX6_lists 49 = .ok (.getfield 10, 3) := by decide +kernel
theorem dX6_lists_52 : decode cX6_lists 52 = .ok (.getfield 95, 3) := by decide +kernel
theorem dX6_lists_55 : decode cX6_lists 55 = .ok (.if_icmp .eq 6, 3) := by decide +kernel
theorem dX6_lists_58 : decode cX6_lists 58 = .ok (.bipush (-2), 2) := by decide +kernel
theorem dX6_lists_60 : decode cX6_lists 60 = .ok (.ireturn, 1) := by decide +kernel
theorem dX6_lists_61 : decode cX6_lists 61 = .ok (.aload_n 0, 1) := by decide +kernel
theorem dX6_lists_62 : decode cX6_lists 62 = .ok (.getfield 19, 3) := by decide +kernel
theorem dX6_lists_65 : decode cX6_lists 65 = .ok (.aload_n 0, 1) := by decide +kernel
theorem dX6_lists_66 : decode cX6_lists 66 = .ok (.getfield 10, 3) := by decide +kernel
theorem dX6_lists_69 : decode cX6_lists 69 = .ok (.invokevirtual 166, 3) := by decide +kernel
theorem dX6_lists_72 : decode cX6_lists 72 = .ok (.iload_n 2, 1) := by decide +kernel
theorem dX6_lists_73 : decode cX6_lists 73 = .ok (.tableswitch 71 0 4 #[35, 41, 48, 55, 65], 35) := by decide +kernel
theorem dX6_lists_108 : decode cX6_lists 108 = .ok (.aload_n 0, 1) := by decide +kernel
theorem dX6_lists_109 : decode cX6_lists 109 = .ok (.aload_n 3, 1) := by decide +kernel
theorem dX6_lists_110 : decode cX6_lists 110 = .ok (.invokevirtual 185, 3) := by decide +kernel
theorem dX6_lists_113 : decode cX6_lists 113 = .ok (.ireturn, 1) := by decide +kernel
theorem dX6_lists_114 : decode cX6_lists 114 = .ok (.aload_n 0, 1) := by decide +kernel
theorem dX6_lists_115 : decode cX6_lists 115 = .ok (.aload_n 3, 1) := by decide +kernel
theorem dX6_lists_116 : decode cX6_lists 116 = .ok (.iconst 1, 1) := by decide +kernel
theorem dX6_lists_117 : decode cX6_lists 117 = .ok (.invokevirtual 189, 3) := by decide +kernel
theorem dX6_lists_120 : decode cX6_lists 120 = .ok (.ireturn, 1) := by decide +kernel
theorem dX6_lists_121 : decode cX6_lists 121 = .ok (.aload_n 0, 1) := by decide +kernel
theorem dX6_lists_122 : decode cX6_lists 122 = .ok (.aload_n 3, 1) := by decide +kernel
theorem dX6_lists_123 : decode cX6_lists 123 = .ok (.iconst 0, 1) := by decide +kernel
theorem dX6_lists_124 : decode cX6_lists 124 = .ok (.invokevirtual 189, 3) := by decide +kernel
theorem dX6_lists_127 : decode cX6_lists 127 = .ok (.ireturn, 1) := by decide +kernel
theorem dX6_lists_128 : decode cX6_lists 128 = .ok (.aload_n 0, 1) := by decide +kernel
theorem dX6_lists_129 : decode cX6_lists 129 = .ok (.aload_n 3, 1) := by decide +kernel
theorem dX6_lists_130 : decode cX6_lists 130 = .ok (.iconst 0, 1) := by decide +kernel
theorem dX6_lists_131 : decode cX6_lists 131 = .ok (.iconst 0, 1) := by decide +kernel
theorem dX6_lists_132 : decode cX6_lists 132 = .ok (.bipush 10, 2) := by decide +kernel
theorem dX6_lists_134 : decode cX6_lists 134 = .ok (.invokevirtual 193, 3) := by decide +kernel
theorem dX6_lists_137 : decode cX6_lists 137 = .ok (.ireturn, 1) := by decide +kernel
theorem dX6_lists_138 : decode cX6_lists 138 = .ok (.aload_n 0, 1) := by decide +kernel
theorem dX6_lists_139 : decode cX6_lists 139 = .ok (.aload_n 3, 1) := by decide +kernel
theorem dX6_lists_140 : decode cX6_lists 140 = .ok (.invokevirtual 197, 3) := by decide +kernel
theorem dX6_lists_143 : decode cX6_lists 143 = .ok (.ireturn, 1) := by decide +kernel
theorem dX6_lists_144 : decode cX6_lists 144 = .ok (.iload_n 2, 1) := by decide +kernel
theorem dX6_lists_145 : decode cX6_lists 145 = .ok (.bipush 20, 2) := by decide +kernel
theorem dX6_lists_147 : decode cX6_lists 147 = .ok (.if_icmp .ge 19, 3) := by decide +kernel
theorem dX6_lists_150 : decode cX6_lists 150 = .ok (.aload_n 0, 1) := by decide +kernel
theorem dX6_lists_151 : decode cX6_lists 151 = .ok (.aload_n 3, 1) := by decide +kernel
theorem dX6_lists_152 : decode cX6_lists 152 = .ok (.bipush 13, 2) := by decide +kernel
theorem dX6_lists_154 : decode cX6_lists 154 = .ok (.iload_n 2, 1) := by decide +kernel
theorem dX6_lists_155 : decode cX6_lists 155 = .ok (.bipush 10, 2) := by decide +kernel
theorem dX6_lists_157 : decode cX6_lists 157 = .ok (.irem, 1) := by decide +kernel
theorem dX6_lists_158 : decode cX6_lists 158 = .ok (.bipush 6, 2) := by decide +kernel
theorem dX6_lists_160 : decode cX6_lists 160 = .ok (.invokevirtual 193, 3) := by decide +kernel
theorem dX6_lists_163 : decode cX6_lists 163 = .ok (.goto 16, 3) := by decide +kernel
theorem dX6_lists_166 : decode cX6_lists 166 = .ok (.aload_n 0, 1) := by decide +kernel
theorem dX6_lists_167 : decode cX6_lists 167 = .ok (.aload_n 3, 1) := by decide +kernel
theorem dX6_lists_168 : decode cX6_lists 168 = .ok (.bipush 8, 2) := by decide +kernel
theorem dX6_lists_170 : decode cX6_lists 170 = .ok (.iload_n 2, 1) := by decide +kernel
theorem dX6_lists_171 : decode cX6_lists 171 = .ok (.bipush 10, 2) := by decide +kernel
theorem dX6_lists_173 : decode cX6_lists 173 = .ok (.irem, 1) := by decide +kernel
theorem dX6_lists_174 : decode cX6_lists 174 = .ok (.bipush 10, 2) := by decide +kernel
theorem dX6_lists_176 : decode cX6_lists 176 = .ok (.invokevirtual 193, 3) := by decide +kernel
theorem dX6_lists_179 : decode cX6_lists 179 = .ok (.ireturn, 1) := by decide +kernel
theorem dX6_film_0 : decode cX6_film 0 = .ok (.iload_n 1, 1) := by decide +kernel
theorem dX6_film_1 : decode cX6_film 1 = .ok (.iconst 4, 1) := by decide +kernel
theorem dX6_film_2 : decode cX6_film 2 = .ok (.invokestatic 88, 3) := by decide +kernel
theorem dX6_film_5 : decode cX6_film 5 = .ok (.ifCond .ne 6, 3) := by decide +kernel
theorem dX6_film_8 : decode cX6_film 8 = .ok (.bipush (-2), 2) := by decide +kernel
theorem dX6_film_10 : decode cX6_film 10 = .ok (.ireturn, 1) := by decide +kernel
theorem dX6_film_11 : decode cX6_film 11 = .ok (.aload_n 0, 1) := by decide +kernel
theorem dX6_film_12 : decode cX6_film 12 = .ok (.getfield 45, 3) := by decide +kernel
theorem dX6_film_15 : decode cX6_film 15 = .ok (.iload_n 1, 1) := by decide +kernel
theorem dX6_film_16 : decode cX6_film 16 = .ok (.aaload, 1) := by decide +kernel
theorem dX6_film_17 : decode cX6_film 17 = .ok (.astore_n 2, 1) := by decide +kernel
theorem dX6_film_18 : decode cX6_film 18 = .ok (.aload_n 0, 1) := by decide +kernel
theorem dX6_film_19 : decode cX6_film 19 = .ok (.getfield 56, 3) := by decide +kernel
theorem dX6_film_22 : decode cX6_film 22 = .ok (.aload_n 0, 1) := by decide +kernel
theorem dX6_film_23 : decode cX6_film 23 = .ok (.getfield 10, 3) := by decide +kernel
theorem dX6_film_26 : decode cX6_film 26 = .ok (.aload_n 0, 1) := by decide +kernel
theorem dX6_film_27 : decode cX6_film 27 = .ok (.getfield 10, 3) := by decide +kernel
theorem dX6_film_30 : decode cX6_film 30 = .ok (.invokevirtual 119, 3) := by decide +kernel
theorem dX6_film_33 : decode cX6_film 33 = .ok (.invokevirtual 122, 3) := by decide +kernel
theorem dX6_film_36 : decode cX6_film 36 = .ok (.pop, 1) := by decide +kernel
theorem dX6_film_37 : decode cX6_film 37 = .ok (.aload_n 2, 1) := by decide +kernel
theorem dX6_film_38 : decode cX6_film 38 = .ok (.iconst 1, 1) := by decide +kernel
theorem dX6_film_39 : decode cX6_film 39 = .ok (.aload_n 0, 1) := by decide +kernel
theorem dX6_film_40 : decode cX6_film 40 = .ok (.getfield 10, 3) := by decide +kernel
theorem dX6_film_43 : decode cX6_film 43 = .ok (.getfield 95, 3) := by decide +kernel
theorem dX6_film_46 : decode cX6_film 46 = .ok (.invokevirtual 200, 3) := by decide +kernel
theorem dX6_film_49 : decode cX6_film 49 = .ok (.iconst 0, 1) := by decide +kernel
theorem dX6_film_50 : decode cX6_film 50 = .ok (.istore_n 3, 1) := by decide +kernel
theorem dX6_film_51 : decode cX6_film 51 = .ok (.iload_n 3, 1) := by decide +kernel
theorem dX6_film_52 : decode cX6_film 52 = .ok (.aload_n 0, 1) := by decide +kernel
theorem dX6_film_53 : decode cX6_film 53 = .ok (.getfield 10, 3) := by decide +kernel
theorem dX6_film_56 : decode cX6_film 56 = .ok (.getfield 95, 3) := by decide +kernel
theorem dX6_film_59 : decode cX6_film 59 = .ok (.if_icmp .ge 22, 3) := by decide +kernel
theorem dX6_film_62 : decode cX6_film 62 = .ok (.aload_n 2, 1) := by decide +kernel
theorem dX6_film_63 : decode cX6_film 63 = .ok (.iload_n 3, 1) := by decide +kernel
theorem dX6_film_64 : decode cX6_film 64 = .ok (.aload_n 0, 1) := by decide +kernel
theorem dX6_film_65 : decode cX6_film 65 = .ok (.getfield 56, 3) := by decide +kernel
theorem dX6_film_68 : decode cX6_film 68 = .ok (.iload_n 3, 1) := by decide +kernel
theorem dX6_film_69 : decode cX6_film 69 = .ok (.invokevirtual 203, 3) := by decide +kernel
theorem dX6_film_72 : decode cX6_film 72 = .ok (.invokevirtual 206, 3) := by decide +kernel
theorem dX6_film_75 : decode cX6_film 75 = .ok (.iinc 3 1, 3) := by decide +kernel
theorem dX6_film_78 : decode cX6_film 78 = .ok (.goto (-27), 3) := by decide +kernel
theorem dX6_film_81 : decode cX6_film 81 = .ok (.aload_n 0, 1) := by decide +kernel
theorem dX6_film_82 : decode cX6_film 82 = .ok (.getfield 10, 3) := by decide +kernel
theorem dX6_film_85 : decode cX6_film 85 = .ok (.getfield 95, 3) := by decide +kernel
theorem dX6_film_88 : decode cX6_film 88 = .ok (.ireturn, 1) := by decide +kernel
theorem dX6_drawn_0 : decode cX6_drawn 0 = .ok (.aload_n 0, 1) := by decide +kernel
theorem dX6_drawn_1 : decode cX6_drawn 1 = .ok (.iload_n 1, 1) := by decide +kernel
theorem dX6_drawn_2 : decode cX6_drawn 2 = .ok (.invokevirtual 209, 3) := by decide +kernel
theorem dX6_drawn_5 : decode cX6_drawn 5 = .ok (.ireturn, 1) := by decide +kernel
theorem dX6_chance_0 : decode cX6_chance 0 = .ok (.iload_n 2, 1) := by decide +kernel
theorem dX6_chance_1 : decode cX6_chance 1 = .ok (.iconst 1, 1) := by decide +kernel
theorem dX6_chance_2 : decode cX6_chance 2 = .ok (.if_icmp .lt 17, 3) := by decide +kernel
theorem dX6_chance_5 : decode cX6_chance 5 = .ok (.iload_n 2, 1) := by decide +kernel
theorem dX6_chance_6 : decode cX6_chance 6 = .ok (.bipush 20, 2) := by decide +kernel
theorem dX6_chance_8 : decode cX6_chance 8 = .ok (.if_icmp .gt 11, 3) := by decide +kernel
theorem dX6_chance_11 : decode cX6_chance 11 = .ok (.iload_n 3, 1) := by decide +kernel
theorem dX6_chance_12 : decode cX6_chance 12 = .ok (.iconst 2, 1) := by decide +kernel
theorem dX6_chance_13 : decode cX6_chance 13 = .ok (.invokestatic 88, 3) := by decide +kernel
theorem dX6_chance_16 : decode cX6_chance 16 = .ok (.ifCond .ne 7, 3) := by decide +kernel
theorem dX6_chance_19 : decode cX6_chance 19 = .ok (.ldc2_w 212, 3) := by decide +kernel
theorem dX6_chance_22 : decode cX6_chance 22 = .ok (.lreturn, 1) := by decide +kernel
theorem dX6_chance_23 : decode cX6_chance 23 = .ok (.aload_n 0, 1) := by decide +kernel
theorem dX6_chance_24 : decode cX6_chance 24 = .ok (.invokevirtual 175, 3) := by decide +kernel
theorem dX6_chance_27 : decode cX6_chance 27 = .ok (.istore 4, 2) := by decide +kernel
theorem dX6_chance_29 : decode cX6_chance 29 = .ok (.iconst 0, 1) := by decide +kernel
theorem dX6_chance_30 : decode cX6_chance 30 = .ok (.istore 5, 2) := by decide +kernel
theorem dX6_chance_32 : decode cX6_chance 32 = .ok (.iconst 0, 1) := by decide +kernel
theorem dX6_chance_33 : decode cX6_chance 33 = .ok (.istore 6, 2) := by decide +kernel
theorem dX6_chance_35 : decode cX6_chance 35 = .ok (.iload 6, 2) := by decide +kernel
theorem dX6_chance_37 : decode cX6_chance 37 = .ok (.iload_n 2, 1) := by decide +kernel
theorem dX6_chance_38 : decode cX6_chance 38 = .ok (.if_icmp .ge 25, 3) := by decide +kernel
theorem dX6_chance_41 : decode cX6_chance 41 = .ok (.aload_n 0, 1) := by decide +kernel
theorem dX6_chance_42 : decode cX6_chance 42 = .ok (.iload_n 1, 1) := by decide +kernel
theorem dX6_chance_43 : decode cX6_chance 43 = .ok (.iload 6, 2) := by decide +kernel
theorem dX6_chance_45 : decode cX6_chance 45 = .ok (.iadd, 1) := by decide +kernel
theorem dX6_chance_46 : decode cX6_chance 46 = .ok (.invokevirtual 209, 3) := by decide +kernel
theorem dX6_chance_49 : decode cX6_chance 49 = .ok (.iload 4, 2) := by decide +kernel
theorem dX6_chance_51 : decode cX6_chance 51 = .ok (.if_icmp .lt 6, 3) := by decide +kernel
theorem dX6_chance_54 : decode cX6_chance 54 = .ok (.iinc 5 1, 3) := by decide +kernel
theorem dX6_chance_57 : decode cX6_chance 57 = .ok (.iinc 6 1, 3) := by decide +kernel
theorem dX6_chance_60 : decode cX6_chance 60 = .ok (.goto (-25), 3) := by decide +kernel
theorem dX6_chance_63 : decode cX6_chance 63 = .ok (.iload_n 3, 1) := by decide +kernel
theorem dX6_chance_64 : decode cX6_chance 64 = .ok (.ifCond .ne 15, 3) := by decide +kernel
theorem dX6_chance_67 : decode cX6_chance 67 = .ok (.iload 5, 2) := by decide +kernel
theorem dX6_chance_69 : decode cX6_chance 69 = .ok (.iload 5, 2) := by decide +kernel
theorem dX6_chance_71 : decode cX6_chance 71 = .ok (.iload_n 2, 1) := by decide +kernel
theorem dX6_chance_72 : decode cX6_chance 72 = .ok (.invokestatic 214, 3) := by decide +kernel
theorem dX6_chance_75 : decode cX6_chance 75 = .ok (.i2l, 1) := by decide +kernel
theorem dX6_chance_76 : decode cX6_chance 76 = .ok (.goto 11, 3) := by decide +kernel
theorem dX6_chance_79 : decode cX6_chance 79 = .ok (.iload_n 2, 1) := by decide +kernel
theorem dX6_chance_80 : decode cX6_chance 80 = .ok (.iload 5, 2) := by decide +kernel
theorem dX6_chance_82 : decode cX6_chance 82 = .ok (.iload_n 2, 1) := by decide +kernel
theorem dX6_chance_83 : decode cX6_chance 83 = .ok (.invokestatic 214, 3) := by decide +kernel
theorem dX6_chance_86 : decode cX6_chance 86 = .ok (.i2l, 1) := by decide +kernel
theorem dX6_chance_87 : decode cX6_chance 87 = .ok (.lreturn, 1) := by decide +kernel
theorem dX6_image_0 : decode cX6_image 0 = .ok (.aload_n 0, 1) := by decide +kernel
theorem dX6_image_1 : decode cX6_image 1 = .ok (.getfield 16, 3) := by decide +kernel
theorem dX6_image_4 : decode cX6_image 4 = .ok (.aload_n 0, 1) := by decide +kernel
theorem dX6_image_5 : decode cX6_image 5 = .ok (.getfield 10, 3) := by decide +kernel
theorem dX6_image_8 : decode cX6_image 8 = .ok (.invokevirtual 166, 3) := by decide +kernel
theorem dX6_image_11 : decode cX6_image 11 = .ok (.aload_n 0, 1) := by decide +kernel
theorem dX6_image_12 : decode cX6_image 12 = .ok (.iconst 1, 1) := by decide +kernel
theorem dX6_image_13 : decode cX6_image 13 = .ok (.putfield 22, 3) := by decide +kernel
theorem dX6_image_16 : decode cX6_image 16 = .ok (.aload_n 0, 1) := by decide +kernel
theorem dX6_image_17 : decode cX6_image 17 = .ok (.getfield 16, 3) := by decide +kernel
theorem dX6_image_20 : decode cX6_image 20 = .ok (.getfield 95, 3) := by decide +kernel
theorem dX6_image_23 : decode cX6_image 23 = .ok (.ireturn, 1) := by decide +kernel
theorem dX6_back_0 : decode cX6_back 0 = .ok (.aload_n 0, 1) := by decide +kernel
theorem dX6_back_1 : decode cX6_back 1 = .ok (.getfield 22, 3) := by decide +kernel
theorem dX6_back_4 : decode cX6_back 4 = .ok (.ifCond .ne 6, 3) := by decide +kernel
theorem dX6_back_7 : decode cX6_back 7 = .ok (.bipush (-3), 2) := by decide +kernel
theorem dX6_back_9 : decode cX6_back 9 = .ok (.ireturn, 1) := by decide +kernel
theorem dX6_back_10 : decode cX6_back 10 = .ok (.aload_n 0, 1) := by decide +kernel
theorem dX6_back_11 : decode cX6_back 11 = .ok (.getfield 10, 3) := by decide +kernel
theorem dX6_back_14 : decode cX6_back 14 = .ok (.aload_n 0, 1) := by decide +kernel
theorem dX6_back_15 : decode cX6_back 15 = .ok (.getfield 16, 3) := by decide +kernel
theorem dX6_back_18 : decode cX6_back 18 = .ok (.invokevirtual 166, 3) := by decide +kernel
theorem dX6_back_21 : decode cX6_back 21 = .ok (.aload_n 0, 1) := by decide +kernel
theorem dX6_back_22 : decode cX6_back 22 = .ok (.getfield 10, 3) := by decide +kernel
theorem dX6_back_25 : decode cX6_back 25 = .ok (.getfield 95, 3) := by decide +kernel
theorem dX6_back_28 : decode cX6_back 28 = .ok (.ireturn, 1) := by decide +kernel
theorem dX6_count_0 : decode cX6_count 0 = .ok (.iload_n 1, 1) := by decide +kernel
theorem dX6_count_1 : decode cX6_count 1 = .ok (.tableswitch 60 0 3 #[31, 39, 44, 52], 31) := by decide +kernel
theorem dX6_count_32 : decode cX6_count 32 = .ok (.aload_n 0, 1) := by decide +kernel
theorem dX6_count_33 : decode cX6_count 33 = .ok (.getfield 10, 3) := by decide +kernel
theorem dX6_count_36 : decode cX6_count 36 = .ok (.getfield 95, 3) := by decide +kernel
theorem dX6_count_39 : decode cX6_count 39 = .ok (.ireturn, 1) := by decide +kernel
theorem dX6_count_40 : decode cX6_count 40 = .ok (.aload_n 0, 1) := by decide +kernel
theorem dX6_count_41 : decode cX6_count 41 = .ok (.getfield 39, 3) := by decide +kernel
theorem dX6_count_44 : decode cX6_count 44 = .ok (.ireturn, 1) := by decide +kernel
theorem dX6_count_45 : decode cX6_count 45 = .ok (.aload_n 0, 1) := by decide +kernel
theorem dX6_count_46 : decode cX6_count 46 = .ok (.getfield 29, 3) := by decide +kernel
theorem dX6_count_49 : decode cX6_count 49 = .ok (.getfield 217, 3) := by decide +kernel
theorem dX6_count_52 : decode cX6_count 52 = .ok (.ireturn, 1) := by decide +kernel
theorem dX6_count_53 : decode cX6_count 53 = .ok (.aload_n 0, 1) := by decide +kernel
theorem dX6_count_54 : decode cX6_count 54 = .ok (.getfield 10, 3) := by decide +kernel
theorem dX6_count_57 : decode cX6_count 57 = .ok (.getfield 111, 3) := by decide +kernel
theorem dX6_count_60 : decode cX6_count 60 = .ok (.ireturn, 1) := by decide +kernel
theorem dX6_count_61 : decode cX6_count 61 = .ok (.bipush (-2), 2) := by decide +kernel
theorem dX6_count_63 : decode cX6_count 63 = .ok (.ireturn, 1) := by decide +kernel
theorem dX6_sheet_0 : decode cX6_sheet 0 = .ok (.iload_n 1, 1) := by decide +kernel
theorem dX6_sheet_1 : decode cX6_sheet 1 = .ok (.iconst 4, 1) := by decide +kernel
theorem dX6_sheet_2 : decode cX6_sheet 2 = .ok (.invokestatic 88, 3) := by decide +kernel
theorem dX6_sheet_5 : decode cX6_sheet 5 = .ok (.ifCond .eq 15, 3) := by decide +kernel
theorem dX6_sheet_8 : decode cX6_sheet 8 = .ok (.iload_n 2, 1) := by decide +kernel
theorem dX6_sheet_9 : decode cX6_sheet 9 = .ok (.iconst (-1), 1) := by decide +kernel
theorem dX6_sheet_10 : decode cX6_sheet 10 = .ok (.if_icmp .eq 13, 3) := by decide +kernel
theorem dX6_sheet_13 : decode cX6_sheet 13 = .ok (.iload_n 2, 1) := by decide +kernel
theorem dX6_sheet_14 : decode cX6_sheet 14 = .ok (.invokestatic 218, 3) := by decide +kernel
theorem dX6_sheet_17 : decode cX6_sheet 17 = .ok (.ifCond .ne 6, 3) := by decide +kernel
theorem dX6_sheet_20 : decode cX6_sheet 20 = .ok (.bipush (-2), 2) := by decide +kernel
theorem dX6_sheet_22 : decode cX6_sheet 22 = .ok (.ireturn, 1) := by decide +kernel
theorem dX6_sheet_23 : decode cX6_sheet 23 = .ok (.iload_n 2, 1) := by decide +kernel
theorem dX6_sheet_24 : decode cX6_sheet 24 = .ok (.iconst (-1), 1) := by decide +kernel
theorem dX6_sheet_25 : decode cX6_sheet 25 = .ok (.if_icmp .ne 16, 3) := by decide +kernel
theorem dX6_sheet_28 : decode cX6_sheet 28 = .ok (.aload_n 0, 1) := by decide +kernel
theorem dX6_sheet_29 : decode cX6_sheet 29 = .ok (.getfield 45, 3) := by decide +kernel
theorem dX6_sheet_32 : decode cX6_sheet 32 = .ok (.iload_n 1, 1) := by decide +kernel
theorem dX6_sheet_33 : decode cX6_sheet 33 = .ok (.aaload, 1) := by decide +kernel
theorem dX6_sheet_34 : decode cX6_sheet 34 = .ok (.iconst (-1), 1) := by decide +kernel
theorem dX6_sheet_35 : decode cX6_sheet 35 = .ok (.iconst 0, 1) := by decide +kernel
theorem dX6_sheet_36 : decode cX6_sheet 36 = .ok (.invokevirtual 200, 3) := by decide +kernel
theorem dX6_sheet_39 : decode cX6_sheet 39 = .ok (.iconst 1, 1) := by decide +kernel
theorem dX6_sheet_40 : decode cX6_sheet 40 = .ok (.ireturn, 1) := by decide +kernel
theorem dX6_sheet_41 : decode cX6_sheet 41 = .ok (.iload_n 3, 1) := by decide +kernel
theorem dX6_sheet_42 : decode cX6_sheet 42 = .ok (.bipush 40, 2) := by decide +kernel
theorem dX6_sheet_44 : decode cX6_sheet 44 = .ok (.if_icmp .le 6, 3) := by decide +kernel
theorem dX6_sheet_47 : decode cX6_sheet 47 = .ok (.bipush (-2), 2) := by decide +kernel
theorem dX6_sheet_49 : decode cX6_sheet 49 = .ok (.ireturn, 1) := by decide +kernel
theorem dX6_sheet_50 : decode cX6_sheet 50 = .ok (.iload_n 3, 1) := by decide +kernel
theorem dX6_sheet_51 : decode cX6_sheet 51 = .ok (.ifCond .ge 6, 3) := by decide +kernel
theorem dX6_sheet_54 : decode cX6_sheet 54 = .ok (.bipush (-14), 2) := by decide +kernel
theorem dX6_sheet_56 : decode cX6_sheet 56 = .ok (.ireturn, 1) := by decide +kernel
theorem dX6_sheet_57 : decode cX6_sheet 57 = .ok (.aload_n 0, 1) := by decide +kernel
theorem dX6_sheet_58 : decode cX6_sheet 58 = .ok (.getfield 45, 3) := by decide +kernel
theorem dX6_sheet_61 : decode cX6_sheet 61 = .ok (.iload_n 1, 1) := by decide +kernel
theorem dX6_sheet_62 : decode cX6_sheet 62 = .ok (.aaload, 1) := by decide +kernel
theorem dX6_sheet_63 : decode cX6_sheet 63 = .ok (.iload_n 2, 1) := by decide +kernel
theorem dX6_sheet_64 : decode cX6_sheet 64 = .ok (.iload_n 3, 1) := by decide +kernel
theorem dX6_sheet_65 : decode cX6_sheet 65 = .ok (.invokevirtual 200, 3) := by decide +kernel
theorem dX6_sheet_68 : decode cX6_sheet 68 = .ok (.iconst 1, 1) := by decide +kernel
theorem dX6_sheet_69 : decode cX6_sheet 69 = .ok (.ireturn, 1) := by decide +kernel
theorem dX6_cell_0 : decode cX6_cell 0 = .ok (.iload_n 1, 1) := by decide +kernel
theorem dX6_cell_1 : decode cX6_cell 1 = .ok (.iconst 4, 1) := by decide +kernel
theorem dX6_cell_2 : decode cX6_cell 2 = .ok (.invokestatic 88, 3) := by decide +kernel
theorem dX6_cell_5 : decode cX6_cell 5 = .ok (.ifCond .ne 6, 3) := by decide +kernel
theorem dX6_cell_8 : decode cX6_cell 8 = .ok (.bipush (-2), 2) := by decide +kernel
theorem dX6_cell_10 : decode cX6_cell 10 = .ok (.ireturn, 1) := by decide +kernel
theorem dX6_cell_11 : decode cX6_cell 11 = .ok (.aload_n 0, 1) := by decide +kernel
theorem dX6_cell_12 : decode cX6_cell 12 = .ok (.getfield 45, 3) := by decide +kernel
theorem dX6_cell_15 : decode cX6_cell 15 = .ok (.iload_n 1, 1) := by decide +kernel
theorem dX6_cell_16 : decode cX6_cell 16 = .ok (.aaload, 1) := by decide +kernel
theorem dX6_cell_17 : decode cX6_cell 17 = .ok (.astore 4, 2) := by decide +kernel
theorem dX6_cell_19 : decode cX6_cell 19 = .ok (.aload 4, 2) := by decide +kernel
theorem dX6_cell_21 : decode cX6_cell 21 = .ok (.invokevirtual 181, 3) := by decide +kernel
theorem dX6_cell_24 : decode cX6_cell 24 = .ok (.ifCond .eq 6, 3) := by decide +kernel
theorem dX6_cell_27 : decode cX6_cell 27 = .ok (.bipush (-11), 2) := by decide +kernel
theorem dX6_cell_29 : decode cX6_cell 29 = .ok (.ireturn, 1) := by decide +kernel
theorem dX6_cell_30 : decode cX6_cell 30 = .ok (.iload_n 2, 1) := by decide +kernel
theorem dX6_cell_31 : decode cX6_cell 31 = .ok (.aload 4, 2) := by decide +kernel
theorem dX6_cell_33 : decode cX6_cell 33 = .ok (.getfield 137, 3) := by decide +kernel
theorem dX6_cell_36 : decode cX6_cell 36 = .ok (.invokestatic 88, 3) := by decide +kernel
theorem dX6_cell_39 : decode cX6_cell 39 = .ok (.ifCond .ne 6, 3) := by decide +kernel
theorem dX6_cell_42 : decode cX6_cell 42 = .ok (.bipush (-12), 2) := by decide +kernel
theorem dX6_cell_44 : decode cX6_cell 44 = .ok (.ireturn, 1) := by decide +kernel
theorem dX6_cell_45 : decode cX6_cell 45 = .ok (.aload 4, 2) := by decide +kernel
theorem dX6_cell_47 : decode cX6_cell 47 = .ok (.iload_n 2, 1) := by decide +kernel
theorem dX6_cell_48 : decode cX6_cell 48 = .ok (.iload_n 3, 1) := by decide +kernel
theorem dX6_cell_49 : decode cX6_cell 49 = .ok (.invokevirtual 206, 3) := by decide +kernel
theorem dX6_cell_52 : decode cX6_cell 52 = .ok (.iconst 1, 1) := by decide +kernel
theorem dX6_cell_53 : decode cX6_cell 53 = .ok (.ireturn, 1) := by decide +kernel
theorem dX6_copy_0 : decode cX6_copy 0 = .ok (.iload_n 1, 1) := by decide +kernel
theorem dX6_copy_1 : decode cX6_copy 1 = .ok (.iconst 4, 1) := by decide +kernel
theorem dX6_copy_2 : decode cX6_copy 2 = .ok (.invokestatic 88, 3) := by decide +kernel
theorem dX6_copy_5 : decode cX6_copy 5 = .ok (.ifCond .eq 11, 3) := by decide +kernel
theorem dX6_copy_8 : decode cX6_copy 8 = .ok (.iload_n 3, 1) := by decide +kernel
theorem dX6_copy_9 : decode cX6_copy 9 = .ok (.iconst 4, 1) := by decide +kernel
theorem dX6_copy_10 : decode cX6_copy 10 = .ok (.invokestatic 88, 3) := by decide +kernel
theorem dX6_copy_13 : decode cX6_copy 13 = .ok (.ifCond .ne 6, 3) := by decide +kernel
theorem dX6_copy_16 : decode cX6_copy 16 = .ok (.bipush (-2), 2) := by decide +kernel
theorem dX6_copy_18 : decode cX6_copy 18 = .ok (.ireturn, 1) := by decide +kernel
theorem dX6_copy_19 : decode cX6_copy 19 = .ok (.aload_n 0, 1) := by decide +kernel
theorem dX6_copy_20 : decode cX6_copy 20 = .ok (.getfield 45, 3) := by decide +kernel
theorem dX6_copy_23 : decode cX6_copy 23 = .ok (.iload_n 1, 1) := by decide +kernel
theorem dX6_copy_24 : decode cX6_copy 24 = .ok (.aaload, 1) := by decide +kernel
theorem dX6_copy_25 : decode cX6_copy 25 = .ok (.astore 6, 2) := by decide +kernel
theorem dX6_copy_27 : decode cX6_copy 27 = .ok (.aload_n 0, 1) := by decide +kernel
theorem dX6_copy_28 : decode cX6_copy 28 = .ok (.getfield 45, 3) := by decide +kernel
theorem dX6_copy_31 : decode cX6_copy 31 = .ok (.iload_n 3, 1) := by decide +kernel
theorem dX6_copy_32 : decode cX6_copy 32 = .ok (.aaload, 1) := by decide +kernel
theorem dX6_copy_33 : decode cX6_copy 33 = .ok (.astore 7, 2) := by decide +kernel
theorem dX6_copy_35 : decode cX6_copy 35 = .ok (.aload 6, 2) := by decide +kernel
theorem dX6_copy_37 : decode cX6_copy 37 = .ok (.invokevirtual 181, 3) := by decide +kernel
theorem dX6_copy_40 : decode cX6_copy 40 = .ok (.ifCond .ne 11, 3) := by decide +kernel
theorem dX6_copy_43 : decode cX6_copy 43 = .ok (.aload 7, 2) := by decide +kernel
theorem dX6_copy_45 : decode cX6_copy 45 = .ok (.invokevirtual 181, 3) := by decide +kernel
theorem dX6_copy_48 : decode cX6_copy 48 = .ok (.ifCond .eq 6, 3) := by decide +kernel
theorem dX6_copy_51 : decode cX6_copy 51 = .ok (.bipush (-11), 2) := by decide +kernel
theorem dX6_copy_53 : decode cX6_copy 53 = .ok (.ireturn, 1) := by decide +kernel
theorem dX6_copy_54 : decode cX6_copy 54 = .ok (.aload 6, 2) := by decide +kernel
theorem dX6_copy_56 : decode cX6_copy 56 = .ok (.getfield 221, 3) := by decide +kernel
theorem dX6_copy_59 : decode cX6_copy 59 = .ok (.aload 7, 2) := by decide +kernel
theorem dX6_copy_61 : decode cX6_copy 61 = .ok (.getfield 221, 3) := by decide +kernel
theorem dX6_copy_64 : decode cX6_copy 64 = .ok (.if_icmp .eq 6, 3) := by decide +kernel
theorem dX6_copy_67 : decode cX6_copy 67 = .ok (.bipush (-13), 2) := by decide +kernel
theorem dX6_copy_69 : decode cX6_copy 69 = .ok (.ireturn, 1) := by decide +kernel
theorem dX6_copy_70 : decode cX6_copy 70 = .ok (.aload 6, 2) := by decide +kernel
theorem dX6_copy_72 : decode cX6_copy 72 = .ok (.iload_n 2, 1) := by decide +kernel
theorem dX6_copy_73 : decode cX6_copy 73 = .ok (.iload 5, 2) := by decide +kernel
theorem dX6_copy_75 : decode cX6_copy 75 = .ok (.invokevirtual 224, 3) := by decide +kernel
theorem dX6_copy_78 : decode cX6_copy 78 = .ok (.ifCond .eq 15, 3) := by decide +kernel
theorem dX6_copy_81 : decode cX6_copy 81 = .ok (.aload 7, 2) := by decide +kernel
theorem dX6_copy_83 : decode cX6_copy 83 = .ok (.iload 4, 2) := by decide +kernel
theorem dX6_copy_85 : decode cX6_copy 85 = .ok (.iload 5, 2) := by decide +kernel
theorem dX6_copy_87 : decode cX6_copy 87 = .ok (.invokevirtual 224, 3) := by decide +kernel
theorem dX6_copy_90 : decode cX6_copy 90 = .ok (.ifCond .ne 6, 3) := by decide +kernel
theorem dX6_copy_93 : decode cX6_copy 93 = .ok (.bipush (-12), 2) := by decide +kernel
theorem dX6_copy_95 : decode cX6_copy 95 = .ok (.ireturn, 1) := by decide +kernel
theorem dX6_copy_96 : decode cX6_copy 96 = .ok (.aload 6, 2) := by decide +kernel
theorem dX6_copy_98 : decode cX6_copy 98 = .ok (.getfield 227, 3) := by decide +kernel
theorem dX6_copy_101 : decode cX6_copy 101 = .ok (.iload_n 2, 1) := by decide +kernel
theorem dX6_copy_102 : decode cX6_copy 102 = .ok (.aload 7, 2) := by decide +kernel
theorem dX6_copy_104 : decode cX6_copy 104 = .ok (.getfield 227, 3) := by decide +kernel
theorem dX6_copy_107 : decode cX6_copy 107 = .ok (.iload 4, 2) := by decide +kernel
theorem dX6_copy_109 : decode cX6_copy 109 = .ok (.iload 5, 2) := by decide +kernel
theorem dX6_copy_111 : decode cX6_copy 111 = .ok (.invokestatic 231, 3) := by decide +kernel
theorem dX6_copy_114 : decode cX6_copy 114 = .ok (.iload 5, 2) := by decide +kernel
theorem dX6_copy_116 : decode cX6_copy 116 = .ok (.ireturn, 1) := by decide +kernel
theorem dX6_sights_0 : decode cX6_sights 0 = .ok (.iload_n 1, 1) := by decide +kernel
theorem dX6_sights_1 : decode cX6_sights 1 = .ok (.iconst 4, 1) := by decide +kernel
theorem dX6_sights_2 : decode cX6_sights 2 = .ok (.invokestatic 88, 3) := by decide +kernel
theorem dX6_sights_5 : decode cX6_sights 5 = .ok (.ifCond .eq 20, 3) := by decide +kernel
theorem dX6_sights_8 : decode cX6_sights 8 = .ok (.iload_n 2, 1) := by decide +kernel
theorem dX6_sights_9 : decode cX6_sights 9 = .ok (.invokestatic 218, 3) := by decide +kernel
theorem dX6_sights_12 : decode cX6_sights 12 = .ok (.ifCond .eq 13, 3) := by decide +kernel
theorem dX6_sights_15 : decode cX6_sights 15 = .ok (.iload 4, 2) := by decide +kernel
theorem dX6_sights_17 : decode cX6_sights 17 = .ok (.bipush 8, 2) := by decide +kernel
theorem dX6_sights_19 : decode cX6_sights 19 = .ok (.invokestatic 88, 3) := by decide +kernel
theorem dX6_sights_22 : decode cX6_sights 22 = .ok (.ifCond .ne 6, 3) := by decide +kernel
theorem dX6_sights_25 : decode cX6_sights 25 = .ok (.bipush (-2), 2) := by decide +kernel
theorem dX6_sights_27 : decode cX6_sights 27 = .ok (.ireturn, 1) := by decide +kernel
theorem dX6_sights_28 : decode cX6_sights 28 = .ok (.aload_n 0, 1) := by decide +kernel
theorem dX6_sights_29 : decode cX6_sights 29 = .ok (.getfield 45, 3) := by decide +kernel
theorem dX6_sights_32 : decode cX6_sights 32 = .ok (.iload_n 1, 1) := by decide +kernel
theorem dX6_sights_33 : decode cX6_sights 33 = .ok (.aaload, 1) := by decide +kernel
theorem dX6_sights_34 : decode cX6_sights 34 = .ok (.astore 5, 2) := by decide +kernel
theorem dX6_sights_36 : decode cX6_sights 36 = .ok (.aload 5, 2) := by decide +kernel
theorem dX6_sights_38 : decode cX6_sights 38 = .ok (.invokevirtual 181, 3) := by decide +kernel
theorem dX6_sights_41 : decode cX6_sights 41 = .ok (.ifCond .ne 15, 3) := by decide +kernel
theorem dX6_sights_44 : decode cX6_sights 44 = .ok (.aload 5, 2) := by decide +kernel
theorem dX6_sights_46 : decode cX6_sights 46 = .ok (.getfield 221, 3) := by decide +kernel
theorem dX6_sights_49 : decode cX6_sights 49 = .ok (.iload_n 2, 1) := by decide +kernel
theorem dX6_sights_50 : decode cX6_sights 50 = .ok (.if_icmp .eq 6, 3) := by decide +kernel
theorem dX6_sights_53 : decode cX6_sights 53 = .ok (.bipush (-13), 2) := by decide +kernel
theorem dX6_sights_55 : decode cX6_sights 55 = .ok (.ireturn, 1) := by decide +kernel
theorem dX6_sights_56 : decode cX6_sights 56 = .ok (.aload 5, 2) := by decide +kernel
theorem dX6_sights_58 : decode cX6_sights 58 = .ok (.invokevirtual 181, 3) := by decide +kernel
theorem dX6_sights_61 : decode cX6_sights 61 = .ok (.ifCond .eq 6, 3) := by decide +kernel
theorem dX6_sights_64 : decode cX6_sights 64 = .ok (.bipush (-11), 2) := by decide +kernel
theorem dX6_sights_66 : decode cX6_sights 66 = .ok (.ireturn, 1) := by decide +kernel
theorem dX6_sights_67 : decode cX6_sights 67 = .ok (.iconst 0, 1) := by decide +kernel
theorem dX6_sights_68 : decode cX6_sights 68 = .ok (.istore 6, 2) := by decide +kernel
theorem dX6_sights_70 : decode cX6_sights 70 = .ok (.iload_n 3, 1) := by decide +kernel
theorem dX6_sights_71 : decode cX6_sights 71 = .ok (.istore 7, 2) := by decide +kernel
theorem dX6_sights_73 : decode cX6_sights 73 = .ok (.iconst 0, 1) := by decide +kernel
theorem dX6_sights_74 : decode cX6_sights 74 = .ok (.istore 8, 2) := by decide +kernel
theorem dX6_sights_76 : decode cX6_sights 76 = .ok (.iload 8, 2) := by decide +kernel
theorem dX6_sights_78 : decode cX6_sights 78 = .ok (.iload 4, 2) := by decide +kernel
theorem dX6_sights_80 : decode cX6_sights 80 = .ok (.if_icmp .ge 61, 3) := by decide +kernel
theorem dX6_sights_83 : decode cX6_sights 83 = .ok (.aload 5, 2) := by decide +kernel
theorem dX6_sights_85 : decode cX6_sights 85 = .ok (.iload 7, 2) := by decide +kernel
theorem dX6_sights_87 : decode cX6_sights 87 = .ok (.iconst 3, 1) := by decide +kernel
theorem dX6_sights_88 : decode cX6_sights 88 = .ok (.invokevirtual 224, 3) := by decide +kernel
theorem dX6_sights_91 : decode cX6_sights 91 = .ok (.ifCond .ne 6, 3) := by decide +kernel
theorem dX6_sights_94 : decode cX6_sights 94 = .ok (.bipush (-12), 2) := by decide +kernel
theorem dX6_sights_96 : decode cX6_sights 96 = .ok (.ireturn, 1) := by decide +kernel
theorem dX6_sights_97 : decode cX6_sights 97 = .ok (.aload_n 0, 1) := by decide +kernel
theorem dX6_sights_98 : decode cX6_sights 98 = .ok (.aload 5, 2) := by decide +kernel
theorem dX6_sights_100 : decode cX6_sights 100 = .ok (.iload 7, 2) := by decide +kernel
theorem dX6_sights_102 : decode cX6_sights 102 = .ok (.invokevirtual 138, 3) := by decide +kernel
theorem dX6_sights_105 : decode cX6_sights 105 = .ok (.aload 5, 2) := by decide +kernel
theorem dX6_sights_107 : decode cX6_sights 107 = .ok (.iload 7, 2) := by decide +kernel
theorem dX6_sights_109 : decode cX6_sights 109 = .ok (.iconst 1, 1) := by decide +kernel
theorem dX6_sights_110 : decode cX6_sights 110 = .ok (.iadd, 1) := by decide +kernel
theorem dX6_sights_111 : decode cX6_sights 111 = .ok (.invokevirtual 138, 3) := by decide +kernel
theorem dX6_sights_114 : decode cX6_sights 114 = .ok (.aload 5, 2) := by decide +kernel
theorem dX6_sights_116 : decode cX6_sights 116 = .ok (.iload 7, 2) := by decide +kernel
theorem dX6_sights_118 : decode cX6_sights 118 = .ok (.iconst 2, 1) := by decide +kernel
theorem dX6_sights_119 : decode cX6_sights 119 = .ok (.iadd, 1) := by decide +kernel
theorem dX6_sights_120 : decode cX6_sights 120 = .ok (.invokevirtual 138, 3) := by decide +kernel
theorem dX6_sights_123 : decode cX6_sights 123 = .ok (.invokevirtual 237, 3) := by decide +kernel
theorem dX6_sights_126 : decode cX6_sights 126 = .ok (.ifCond .lt 6, 3) := by decide +kernel
theorem dX6_sights_129 : decode cX6_sights 129 = .ok (.iinc 6 1, 3) := by decide +kernel
theorem dX6_sights_132 : decode cX6_sights 132 = .ok (.iinc 7 3, 3) := by decide +kernel
theorem dX6_sights_135 : decode cX6_sights 135 = .ok (.iinc 8 1, 3) := by decide +kernel
theorem dX6_sights_138 : decode cX6_sights 138 = .ok (.goto (-62), 3) := by decide +kernel
theorem dX6_sights_141 : decode cX6_sights 141 = .ok (.iload 6, 2) := by decide +kernel
theorem dX6_sights_143 : decode cX6_sights 143 = .ok (.ireturn, 1) := by decide +kernel
theorem dX6_taken_0 : decode cX6_taken 0 = .ok (.iload_n 2, 1) := by decide +kernel
theorem dX6_taken_1 : decode cX6_taken 1 = .ok (.bipush 6, 2) := by decide +kernel
theorem dX6_taken_3 : decode cX6_taken 3 = .ok (.invokestatic 88, 3) := by decide +kernel
theorem dX6_taken_6 : decode cX6_taken 6 = .ok (.ifCond .ne 6, 3) := by decide +kernel
theorem dX6_taken_9 : decode cX6_taken 9 = .ok (.bipush (-2), 2) := by decide +kernel
theorem dX6_taken_11 : decode cX6_taken 11 = .ok (.ireturn, 1) := by decide +kernel
theorem dX6_taken_12 : decode cX6_taken 12 = .ok (.iload_n 1, 1) := by decide +kernel
theorem dX6_taken_13 : decode cX6_taken 13 = .ok (.aload_n 0, 1) := by decide +kernel
theorem dX6_taken_14 : decode cX6_taken 14 = .ok (.getfield 10, 3) := by decide +kernel
theorem dX6_taken_17 : decode cX6_taken 17 = .ok (.getfield 95, 3) := by decide +kernel
theorem dX6_taken_20 : decode cX6_taken 20 = .ok (.invokestatic 88, 3) := by decide +kernel
theorem dX6_taken_23 : decode cX6_taken 23 = .ok (.ifCond .ne 6, 3) := by decide +kernel
theorem dX6_taken_26 : decode cX6_taken 26 = .ok (.bipush (-11), 2) := by decide +kernel
theorem dX6_taken_28 : decode cX6_taken 28 = .ok (.ireturn, 1) := by decide +kernel
theorem dX6_taken_29 : decode cX6_taken 29 = .ok (.aload_n 0, 1) := by decide +kernel
theorem dX6_taken_30 : decode cX6_taken 30 = .ok (.getfield 10, 3) := by decide +kernel
theorem dX6_taken_33 : decode cX6_taken 33 = .ok (.bipush 13, 2) := by decide +kernel
theorem dX6_taken_35 : decode cX6_taken 35 = .ok (.iload_n 1, 1) := by decide +kernel
theorem dX6_taken_36 : decode cX6_taken 36 = .ok (.invokevirtual 101, 3) := by decide +kernel
theorem dX6_taken_39 : decode cX6_taken 39 = .ok (.iload_n 2, 1) := by decide +kernel
theorem dX6_taken_40 : decode cX6_taken 40 = .ok (.invokestatic 240, 3) := by decide +kernel
theorem dX6_taken_43 : decode cX6_taken 43 = .ok (.ifCond .eq 16, 3) := by decide +kernel
theorem dX6_taken_46 : decode cX6_taken 46 = .ok (.aload_n 0, 1) := by decide +kernel
theorem dX6_taken_47 : decode cX6_taken 47 = .ok (.getfield 10, 3) := by decide +kernel
theorem dX6_taken_50 : decode cX6_taken 50 = .ok (.bipush 8, 2) := by decide +kernel
theorem dX6_taken_52 : decode cX6_taken 52 = .ok (.iload_n 1, 1) := by decide +kernel
theorem dX6_taken_53 : decode cX6_taken 53 = .ok (.invokevirtual 101, 3) := by decide +kernel
theorem dX6_taken_56 : decode cX6_taken 56 = .ok (.goto 5, 3) := by decide +kernel
theorem dX6_taken_59 : decode cX6_taken 59 = .ok (.bipush (-13), 2) := by decide +kernel
theorem dX6_taken_61 : decode cX6_taken 61 = .ok (.ireturn, 1) := by decide +kernel
theorem dX6_isBelow_0 : decode cX6_isBelow 0 = .ok (.iload_n 0, 1) := by decide +kernel
theorem dX6_isBelow_1 : decode cX6_isBelow 1 = .ok (.ifCond .lt 12, 3) := by decide +kernel
theorem dX6_isBelow_4 : decode cX6_isBelow 4 = .ok (.iload_n 0, 1) := by decide +kernel
theorem dX6_isBelow_5 : decode cX6_isBelow 5 = .ok (.iload_n 1, 1) := by decide +kernel
theorem dX6_isBelow_6 : decode cX6_isBelow 6 = .ok (.if_icmp .ge 7, 3) := by decide +kernel
theorem dX6_isBelow_9 : decode cX6_isBelow 9 = .ok (.iconst 1, 1) := by decide +kernel
theorem dX6_isBelow_10 : decode cX6_isBelow 10 = .ok (.goto 4, 3) := by decide +kernel
theorem dX6_isBelow_13 : decode cX6_isBelow 13 = .ok (.iconst 0, 1) := by decide +kernel
theorem dX6_isBelow_14 : decode cX6_isBelow 14 = .ok (.ireturn, 1) := by decide +kernel
theorem dX6_isSort_0 : decode cX6_isSort 0 = .ok (.iload_n 0, 1) := by decide +kernel
theorem dX6_isSort_1 : decode cX6_isSort 1 = .ok (.ifCond .lt 12, 3) := by decide +kernel
theorem dX6_isSort_4 : decode cX6_isSort 4 = .ok (.iload_n 0, 1) := by decide +kernel
theorem dX6_isSort_5 : decode cX6_isSort 5 = .ok (.iconst 2, 1) := by decide +kernel
theorem dX6_isSort_6 : decode cX6_isSort 6 = .ok (.if_icmp .gt 7, 3) := by decide +kernel
theorem dX6_isSort_9 : decode cX6_isSort 9 = .ok (.iconst 1, 1) := by decide +kernel
theorem dX6_isSort_10 : decode cX6_isSort 10 = .ok (.goto 4, 3) := by decide +kernel
theorem dX6_isSort_13 : decode cX6_isSort 13 = .ok (.iconst 0, 1) := by decide +kernel
theorem dX6_isSort_14 : decode cX6_isSort 14 = .ok (.ireturn, 1) := by decide +kernel
theorem dX6_isOfKind_0 : decode cX6_isOfKind 0 = .ok (.iload_n 0, 1) := by decide +kernel
theorem dX6_isOfKind_1 : decode cX6_isOfKind 1 = .ok (.istore_n 2, 1) := by decide +kernel
theorem dX6_isOfKind_2 : decode cX6_isOfKind 2 = .ok (.iconst 0, 1) := by decide +kernel
theorem dX6_isOfKind_3 : decode cX6_isOfKind 3 = .ok (.istore_n 3, 1) := by decide +kernel
theorem dX6_isOfKind_4 : decode cX6_isOfKind 4 = .ok (.iload_n 3, 1) := by decide +kernel
theorem dX6_isOfKind_5 : decode cX6_isOfKind 5 = .ok (.bipush 6, 2) := by decide +kernel
theorem dX6_isOfKind_7 : decode cX6_isOfKind 7 = .ok (.if_icmp .ge 31, 3) := by decide +kernel
theorem dX6_isOfKind_10 : decode cX6_isOfKind 10 = .ok (.iload_n 2, 1) := by decide +kernel
theorem dX6_isOfKind_11 : decode cX6_isOfKind 11 = .ok (.bipush 6, 2) := by decide +kernel
theorem dX6_isOfKind_13 : decode cX6_isOfKind 13 = .ok (.invokestatic 88, 3) := by decide +kernel
theorem dX6_isOfKind_16 : decode cX6_isOfKind 16 = .ok (.ifCond .eq 22, 3) := by decide +kernel
theorem dX6_isOfKind_19 : decode cX6_isOfKind 19 = .ok (.iload_n 2, 1) := by decide +kernel
theorem dX6_isOfKind_20 : decode cX6_isOfKind 20 = .ok (.iload_n 1, 1) := by decide +kernel
theorem dX6_isOfKind_21 : decode cX6_isOfKind 21 = .ok (.if_icmp .ne 5, 3) := by decide +kernel
theorem dX6_isOfKind_24 : decode cX6_isOfKind 24 = .ok (.iconst 1, 1) := by decide +kernel
theorem dX6_isOfKind_25 : decode cX6_isOfKind 25 = .ok (.ireturn, 1) := by decide +kernel
theorem dX6_isOfKind_26 : decode cX6_isOfKind 26 = .ok (.getstatic 243, 3) := by decide +kernel
theorem dX6_isOfKind_29 : decode cX6_isOfKind 29 = .ok (.iload_n 2, 1) := by decide +kernel
theorem dX6_isOfKind_30 : decode cX6_isOfKind 30 = .ok (.iaload, 1) := by decide +kernel
theorem dX6_isOfKind_31 : decode cX6_isOfKind 31 = .ok (.istore_n 2, 1) := by decide +kernel
theorem dX6_isOfKind_32 : decode cX6_isOfKind 32 = .ok (.iinc 3 1, 3) := by decide +kernel
theorem dX6_isOfKind_35 : decode cX6_isOfKind 35 = .ok (.goto (-31), 3) := by decide +kernel
theorem dX6_isOfKind_38 : decode cX6_isOfKind 38 = .ok (.iconst 0, 1) := by decide +kernel
theorem dX6_isOfKind_39 : decode cX6_isOfKind 39 = .ok (.ireturn, 1) := by decide +kernel
theorem dX6_asksOfSights_0 : decode cX6_asksOfSights 0 = .ok (.iload_n 1, 1) := by decide +kernel
theorem dX6_asksOfSights_1 : decode cX6_asksOfSights 1 = .ok (.bipush 10, 2) := by decide +kernel
theorem dX6_asksOfSights_3 : decode cX6_asksOfSights 3 = .ok (.if_icmp .lt 27, 3) := by decide +kernel
theorem dX6_asksOfSights_6 : decode cX6_asksOfSights 6 = .ok (.iload_n 1, 1) := by decide +kernel
theorem dX6_asksOfSights_7 : decode cX6_asksOfSights 7 = .ok (.bipush 30, 2) := by decide +kernel
theorem dX6_asksOfSights_9 : decode cX6_asksOfSights 9 = .ok (.if_icmp .ge 21, 3) := by decide +kernel
theorem dX6_asksOfSights_12 : decode cX6_asksOfSights 12 = .ok (.iload_n 1, 1) := by decide +kernel
theorem dX6_asksOfSights_13 : decode cX6_asksOfSights 13 = .ok (.bipush 10, 2) := by decide +kernel
theorem dX6_asksOfSights_15 : decode cX6_asksOfSights 15 = .ok (.irem, 1) := by decide +kernel
theorem dX6_asksOfSights_16 : decode cX6_asksOfSights 16 = .ok (.aload_n 0, 1) := by decide +kernel
theorem dX6_asksOfSights_17 : decode cX6_asksOfSights 17 = .ok (.getfield 10, 3) := by decide +kernel
theorem dX6_asksOfSights_20 : decode cX6_asksOfSights 20 = .ok (.getfield 95, 3) := by decide +kernel
theorem dX6_asksOfSights_23 : decode cX6_asksOfSights 23 = .ok (.if_icmp .ge 7, 3) := by decide +kernel
theorem dX6_asksOfSights_26 : decode cX6_asksOfSights 26 = .ok (.iconst 1, 1) := by decide +kernel
theorem dX6_asksOfSights_27 : decode cX6_asksOfSights 27 = .ok (.goto 4, 3) := by decide +kernel
theorem dX6_asksOfSights_30 : decode cX6_asksOfSights 30 = .ok (.iconst 0, 1) := by decide +kernel
theorem dX6_asksOfSights_31 : decode cX6_asksOfSights 31 = .ok (.ireturn, 1) := by decide +kernel
theorem dX6_asksOfNight_0 : decode cX6_asksOfNight 0 = .ok (.iload_n 1, 1) := by decide +kernel
theorem dX6_asksOfNight_1 : decode cX6_asksOfNight 1 = .ok (.iconst 5, 1) := by decide +kernel
theorem dX6_asksOfNight_2 : decode cX6_asksOfNight 2 = .ok (.invokestatic 88, 3) := by decide +kernel
theorem dX6_asksOfNight_5 : decode cX6_asksOfNight 5 = .ok (.ifCond .ne 11, 3) := by decide +kernel
theorem dX6_asksOfNight_8 : decode cX6_asksOfNight 8 = .ok (.aload_n 0, 1) := by decide +kernel
theorem dX6_asksOfNight_9 : decode cX6_asksOfNight 9 = .ok (.iload_n 1, 1) := by decide +kernel
theorem dX6_asksOfNight_10 : decode cX6_asksOfNight 10 = .ok (.invokevirtual 178, 3) := by decide +kernel
theorem dX6_asksOfNight_13 : decode cX6_asksOfNight 13 = .ok (.ifCond .eq 7, 3) := by decide +kernel
theorem dX6_asksOfNight_16 : decode cX6_asksOfNight 16 = .ok (.iconst 1, 1) := by decide +kernel
theorem dX6_asksOfNight_17 : decode cX6_asksOfNight 17 = .ok (.goto 4, 3) := by decide +kernel
theorem dX6_asksOfNight_20 : decode cX6_asksOfNight 20 = .ok (.iconst 0, 1) := by decide +kernel
theorem dX6_asksOfNight_21 : decode cX6_asksOfNight 21 = .ok (.ireturn, 1) := by decide +kernel
theorem dX6_tellsEachOnce_0 : decode cX6_tellsEachOnce 0 = .ok (.aload_n 1, 1) := by decide +kernel
theorem dX6_tellsEachOnce_1 : decode cX6_tellsEachOnce 1 = .ok (.invokevirtual 181, 3) := by decide +kernel
theorem dX6_tellsEachOnce_4 : decode cX6_tellsEachOnce 4 = .ok (.ifCond .ne 17, 3) := by decide +kernel
theorem dX6_tellsEachOnce_7 : decode cX6_tellsEachOnce 7 = .ok (.aload_n 1, 1) := by decide +kernel
theorem dX6_tellsEachOnce_8 : decode cX6_tellsEachOnce 8 = .ok (.getfield 137, 3) := by decide +kernel
theorem dX6_tellsEachOnce_11 : decode cX6_tellsEachOnce 11 = .ok (.aload_n 0, 1) := by decide +kernel
theorem dX6_tellsEachOnce_12 : decode cX6_tellsEachOnce 12 = .ok (.getfield 10, 3) := by decide +kernel
theorem dX6_tellsEachOnce_15 : decode cX6_tellsEachOnce 15 = .ok (.getfield 95, 3) := by decide +kernel
theorem dX6_tellsEachOnce_18 : decode cX6_tellsEachOnce 18 = .ok (.if_icmp .eq 5, 3) := by decide +kernel
theorem dX6_tellsEachOnce_21 : decode cX6_tellsEachOnce 21 = .ok (.iconst 0, 1) := by decide +kernel
theorem dX6_tellsEachOnce_22 : decode cX6_tellsEachOnce 22 = .ok (.ireturn, 1) := by decide +kernel
theorem dX6_tellsEachOnce_23 : decode cX6_tellsEachOnce 23 = .ok (.iconst 0, 1) := by decide +kernel
theorem dX6_tellsEachOnce_24 : decode cX6_tellsEachOnce 24 = .ok (.istore_n 2, 1) := by decide +kernel
theorem dX6_tellsEachOnce_25 : decode cX6_tellsEachOnce 25 = .ok (.iconst 0, 1) := by decide +kernel
theorem dX6_tellsEachOnce_26 : decode cX6_tellsEachOnce 26 = .ok (.istore_n 3, 1) := by decide +kernel
theorem dX6_tellsEachOnce_27 : decode cX6_tellsEachOnce 27 = .ok (.iload_n 3, 1) := by decide +kernel
theorem dX6_tellsEachOnce_28 : decode cX6_tellsEachOnce 28 = .ok (.aload_n 1, 1) := by decide +kernel
theorem dX6_tellsEachOnce_29 : decode cX6_tellsEachOnce 29 = .ok (.getfield 137, 3) := by decide +kernel
theorem dX6_tellsEachOnce_32 : decode cX6_tellsEachOnce 32 = .ok (.if_icmp .ge 40, 3) := by decide +kernel
theorem dX6_tellsEachOnce_35 : decode cX6_tellsEachOnce 35 = .ok (.aload_n 1, 1) := by decide +kernel
theorem dX6_tellsEachOnce_36 : decode cX6_tellsEachOnce 36 = .ok (.iload_n 3, 1) := by decide +kernel
theorem dX6_tellsEachOnce_37 : decode cX6_tellsEachOnce 37 = .ok (.invokevirtual 138, 3) := by decide +kernel
theorem dX6_tellsEachOnce_40 : decode cX6_tellsEachOnce 40 = .ok (.istore 4, 2) := by decide +kernel
theorem dX6_tellsEachOnce_42 : decode cX6_tellsEachOnce 42 = .ok (.iload 4, 2) := by decide +kernel
theorem dX6_tellsEachOnce_44 : decode cX6_tellsEachOnce 44 = .ok (.aload_n 0, 1) := by decide +kernel
theorem dX6_tellsEachOnce_45 : decode cX6_tellsEachOnce 45 = .ok (.getfield 10, 3) := by decide +kernel
theorem dX6_tellsEachOnce_48 : decode cX6_tellsEachOnce 48 = .ok (.getfield 95, 3) := by decide +kernel
theorem dX6_tellsEachOnce_51 : decode cX6_tellsEachOnce 51 = .ok (.invokestatic 88, 3) := by decide +kernel
theorem dX6_tellsEachOnce_54 : decode cX6_tellsEachOnce 54 = .ok (.ifCond .ne 5, 3) := by decide +kernel
theorem dX6_tellsEachOnce_57 : decode cX6_tellsEachOnce 57 = .ok (.iconst 0, 1) := by decide +kernel
theorem dX6_tellsEachOnce_58 : decode cX6_tellsEachOnce 58 = .ok (.ireturn, 1) := by decide +kernel
theorem dX6_tellsEachOnce_59 : decode cX6_tellsEachOnce 59 = .ok (.iload_n 2, 1) := by decide +kernel
theorem dX6_tellsEachOnce_60 : decode cX6_tellsEachOnce 60 = .ok (.iconst 1, 1) := by decide +kernel
theorem dX6_tellsEachOnce_61 : decode cX6_tellsEachOnce 61 = .ok (.iload 4, 2) := by decide +kernel
theorem dX6_tellsEachOnce_63 : decode cX6_tellsEachOnce 63 = .ok (.ishl, 1) := by decide +kernel
theorem dX6_tellsEachOnce_64 : decode cX6_tellsEachOnce 64 = .ok (.ior, 1) := by decide +kernel
theorem dX6_tellsEachOnce_65 : decode cX6_tellsEachOnce 65 = .ok (.istore_n 2, 1) := by decide +kernel
theorem dX6_tellsEachOnce_66 : decode cX6_tellsEachOnce 66 = .ok (.iinc 3 1, 3) := by decide +kernel
theorem dX6_tellsEachOnce_69 : decode cX6_tellsEachOnce 69 = .ok (.goto (-42), 3) := by decide +kernel
theorem dX6_tellsEachOnce_72 : decode cX6_tellsEachOnce 72 = .ok (.iload_n 2, 1) := by decide +kernel
theorem dX6_tellsEachOnce_73 : decode cX6_tellsEachOnce 73 = .ok (.aload_n 0, 1) := by decide +kernel
theorem dX6_tellsEachOnce_74 : decode cX6_tellsEachOnce 74 = .ok (.getfield 10, 3) := by decide +kernel
theorem dX6_tellsEachOnce_77 : decode cX6_tellsEachOnce 77 = .ok (.invokevirtual 119, 3) := by decide +kernel
theorem dX6_tellsEachOnce_80 : decode cX6_tellsEachOnce 80 = .ok (.if_icmp .ne 7, 3) := by decide +kernel
theorem dX6_tellsEachOnce_83 : decode cX6_tellsEachOnce 83 = .ok (.iconst 1, 1) := by decide +kernel
theorem dX6_tellsEachOnce_84 : decode cX6_tellsEachOnce 84 = .ok (.goto 4, 3) := by decide +kernel
theorem dX6_tellsEachOnce_87 : decode cX6_tellsEachOnce 87 = .ok (.iconst 0, 1) := by decide +kernel
theorem dX6_tellsEachOnce_88 : decode cX6_tellsEachOnce 88 = .ok (.ireturn, 1) := by decide +kernel
theorem dX6_tryOrders_0 : decode cX6_tryOrders 0 = .ok (.iload_n 2, 1) := by decide +kernel
theorem dX6_tryOrders_1 : decode cX6_tryOrders 1 = .ok (.aload_n 1, 1) := by decide +kernel
theorem dX6_tryOrders_2 : decode cX6_tryOrders 2 = .ok (.getfield 246, 3) := by decide +kernel
theorem dX6_tryOrders_5 : decode cX6_tryOrders 5 = .ok (.getfield 95, 3) := by decide +kernel
theorem dX6_tryOrders_8 : decode cX6_tryOrders 8 = .ok (.if_icmp .ge 9, 3) := by decide +kernel
theorem dX6_tryOrders_11 : decode cX6_tryOrders 11 = .ok (.iload_n 2, 1) := by decide +kernel
theorem dX6_tryOrders_12 : decode cX6_tryOrders 12 = .ok (.bipush 7, 2) := by decide +kernel
theorem dX6_tryOrders_14 : decode cX6_tryOrders 14 = .ok (.if_icmp .lt 14, 3) := by decide +kernel
theorem dX6_tryOrders_17 : decode cX6_tryOrders 17 = .ok (.aload_n 0, 1) := by decide +kernel
theorem dX6_tryOrders_18 : decode cX6_tryOrders 18 = .ok (.iload 4, 2) := by decide +kernel
theorem dX6_tryOrders_20 : decode cX6_tryOrders 20 = .ok (.aload_n 1, 1) := by decide +kernel
theorem dX6_tryOrders_21 : decode cX6_tryOrders 21 = .ok (.getfield 159, 3) := by decide +kernel
theorem dX6_tryOrders_24 : decode cX6_tryOrders 24 = .ok (.invokevirtual 172, 3) := by decide +kernel
theorem dX6_tryOrders_27 : decode cX6_tryOrders 27 = .ok (.return_, 1) := by decide +kernel
theorem dX6_tryOrders_28 : decode cX6_tryOrders 28 = .ok (.aload_n 1, 1) := by decide +kernel
theorem dX6_tryOrders_29 : decode cX6_tryOrders 29 = .ok (.getfield 247, 3) := by decide +kernel
theorem dX6_tryOrders_32 : decode cX6_tryOrders 32 = .ok (.istore 6, 2) := by decide +kernel
theorem dX6_tryOrders_34 : decode cX6_tryOrders 34 = .ok (.aload_n 1, 1) := by decide +kernel
theorem dX6_tryOrders_35 : decode cX6_tryOrders 35 = .ok (.getfield 250, 3) := by decide +kernel
theorem dX6_tryOrders_38 : decode cX6_tryOrders 38 = .ok (.istore 7, 2) := by decide +kernel
theorem dX6_tryOrders_40 : decode cX6_tryOrders 40 = .ok (.aload_n 1, 1) := by decide +kernel
theorem dX6_tryOrders_41 : decode cX6_tryOrders 41 = .ok (.getfield 159, 3) := by decide +kernel
theorem dX6_tryOrders_44 : decode cX6_tryOrders 44 = .ok (.istore 8, 2) := by decide +kernel
theorem dX6_tryOrders_46 : decode cX6_tryOrders 46 = .ok (.iconst 0, 1) := by decide +kernel
theorem dX6_tryOrders_47 : decode cX6_tryOrders 47 = .ok (.istore 9, 2) := by decide +kernel
theorem dX6_tryOrders_49 : decode cX6_tryOrders 49 = .ok (.iload 9, 2) := by decide +kernel
theorem dX6_tryOrders_51 : decode cX6_tryOrders 51 = .ok (.aload_n 1, 1) := by decide +kernel
theorem dX6_tryOrders_52 : decode cX6_tryOrders 52 = .ok (.getfield 246, 3) := by decide +kernel
theorem dX6_tryOrders_55 : decode cX6_tryOrders 55 = .ok (.getfield 95, 3) := by decide +kernel
theorem dX6_tryOrders_58 : decode cX6_tryOrders 58 = .ok (.if_icmp .ge 100, 3) := by decide +kernel
theorem dX6_tryOrders_61 : decode cX6_tryOrders 61 = .ok (.iload_n 3, 1) := by decide +kernel
theorem dX6_tryOrders_62 : decode cX6_tryOrders 62 = .ok (.iload 9, 2) := by decide +kernel
theorem dX6_tryOrders_64 : decode cX6_tryOrders 64 = .ok (.ishr, 1) := by decide +kernel
theorem dX6_tryOrders_65 : decode cX6_tryOrders 65 = .ok (.iconst 1, 1) := by decide +kernel
theorem dX6_tryOrders_66 : decode cX6_tryOrders 66 = .ok (.iand, 1) := by decide +kernel
theorem dX6_tryOrders_67 : decode cX6_tryOrders 67 = .ok (.ifCond .eq 6, 3) := by decide +kernel
theorem dX6_tryOrders_70 : decode cX6_tryOrders 70 = .ok (.goto 82, 3) := by decide +kernel
theorem dX6_tryOrders_73 : decode cX6_tryOrders 73 = .ok (.aload_n 1, 1) := by decide +kernel
theorem dX6_tryOrders_74 : decode cX6_tryOrders 74 = .ok (.iload 6, 2) := by decide +kernel
theorem dX6_tryOrders_76 : decode cX6_tryOrders 76 = .ok (.putfield 247, 3) := by decide +kernel
theorem dX6_tryOrders_79 : decode cX6_tryOrders 79 = .ok (.aload_n 1, 1) := by decide +kernel
theorem dX6_tryOrders_80 : decode cX6_tryOrders 80 = .ok (.iload 7, 2) := by decide +kernel
theorem dX6_tryOrders_82 : decode cX6_tryOrders 82 = .ok (.putfield 250, 3) := by decide +kernel
theorem dX6_tryOrders_85 : decode cX6_tryOrders 85 = .ok (.aload_n 1, 1) := by decide +kernel
theorem dX6_tryOrders_86 : decode cX6_tryOrders 86 = .ok (.iload 8, 2) := by decide +kernel
theorem dX6_tryOrders_88 : decode cX6_tryOrders 88 = .ok (.putfield 159, 3) := by decide +kernel
theorem dX6_tryOrders_91 : decode cX6_tryOrders 91 = .ok (.aload_n 1, 1) := by decide +kernel
theorem dX6_tryOrders_92 : decode cX6_tryOrders 92 = .ok (.iload 9, 2) := by decide +kernel
theorem dX6_tryOrders_94 : decode cX6_tryOrders 94 = .ok (.iload_n 2, 1) := by decide +kernel
theorem dX6_tryOrders_95 : decode cX6_tryOrders 95 = .ok (.invokevirtual 141, 3) := by decide +kernel
theorem dX6_tryOrders_98 : decode cX6_tryOrders 98 = .ok (.iload 5, 2) := by decide +kernel
theorem dX6_tryOrders_100 : decode cX6_tryOrders 100 = .ok (.aload_n 1, 1) := by decide +kernel
theorem dX6_tryOrders_101 : decode cX6_tryOrders 101 = .ok (.getfield 246, 3) := by decide +kernel
theorem dX6_tryOrders_104 : decode cX6_tryOrders 104 = .ok (.iload 9, 2) := by decide +kernel
theorem dX6_tryOrders_106 : decode cX6_tryOrders 106 = .ok (.invokevirtual 98, 3) := by decide +kernel
theorem dX6_tryOrders_109 : decode cX6_tryOrders 109 = .ok (.isub, 1) := by decide +kernel
theorem dX6_tryOrders_110 : decode cX6_tryOrders 110 = .ok (.istore 10, 2) := by decide +kernel
theorem dX6_tryOrders_112 : decode cX6_tryOrders 112 = .ok (.aload_n 1, 1) := by decide +kernel
theorem dX6_tryOrders_113 : decode cX6_tryOrders 113 = .ok (.getfield 159, 3) := by decide +kernel
theorem dX6_tryOrders_116 : decode cX6_tryOrders 116 = .ok (.iload 10, 2) := by decide +kernel
theorem dX6_tryOrders_118 : decode cX6_tryOrders 118 = .ok (.iadd, 1) := by decide +kernel
theorem dX6_tryOrders_119 : decode cX6_tryOrders 119 = .ok (.aload_n 0, 1) := by decide +kernel
theorem dX6_tryOrders_120 : decode cX6_tryOrders 120 = .ok (.getfield 253, 3) := by decide +kernel
theorem dX6_tryOrders_123 : decode cX6_tryOrders 123 = .ok (.if_icmp .le 29, 3) := by decide +kernel
theorem dX6_tryOrders_126 : decode cX6_tryOrders 126 = .ok (.aload_n 0, 1) := by decide +kernel
theorem dX6_tryOrders_127 : decode cX6_tryOrders 127 = .ok (.aload_n 1, 1) := by decide +kernel
theorem dX6_tryOrders_128 : decode cX6_tryOrders 128 = .ok (.iload_n 2, 1) := by decide +kernel
theorem dX6_tryOrders_129 : decode cX6_tryOrders 129 = .ok (.iconst 1, 1) := by decide +kernel
theorem dX6_tryOrders_130 : decode cX6_tryOrders 130 = .ok (.iadd, 1) := by decide +kernel
theorem dX6_tryOrders_131 : decode cX6_tryOrders 131 = .ok (.iload_n 3, 1) := by decide +kernel
theorem dX6_tryOrders_132 : decode cX6_tryOrders 132 = .ok (.iconst 1, 1) := by decide +kernel
theorem dX6_tryOrders_133 : decode cX6_tryOrders 133 = .ok (.iload 9, 2) := by decide +kernel
theorem dX6_tryOrders_135 : decode cX6_tryOrders 135 = .ok (.ishl, 1) := by decide +kernel
theorem dX6_tryOrders_136 : decode cX6_tryOrders 136 = .ok (.ior, 1) := by decide +kernel
theorem dX6_tryOrders_137 : decode cX6_tryOrders 137 = .ok (.iload 4, 2) := by decide +kernel
theorem dX6_tryOrders_139 : decode cX6_tryOrders 139 = .ok (.bipush 10, 2) := by decide +kernel
theorem dX6_tryOrders_141 : decode cX6_tryOrders 141 = .ok (.imul, 1) := by decide +kernel
theorem dX6_tryOrders_142 : decode cX6_tryOrders 142 = .ok (.iload 9, 2) := by decide +kernel
theorem dX6_tryOrders_144 : decode cX6_tryOrders 144 = .ok (.iadd, 1) := by decide +kernel
theorem dX6_tryOrders_145 : decode cX6_tryOrders 145 = .ok (.iconst 1, 1) := by decide +kernel
theorem dX6_tryOrders_146 : decode cX6_tryOrders 146 = .ok (.iadd, 1) := by decide +kernel
theorem dX6_tryOrders_147 : decode cX6_tryOrders 147 = .ok (.iload 10, 2) := by decide +kernel
theorem dX6_tryOrders_149 : decode cX6_tryOrders 149 = .ok (.invokestatic 151, 3) := by decide +kernel
theorem dX6_tryOrders_152 : decode cX6_tryOrders 152 = .ok (.iinc 9 1, 3) := by decide +kernel
theorem dX6_tryOrders_155 : decode cX6_tryOrders 155 = .ok (.goto (-106), 3) := by decide +kernel
theorem dX6_tryOrders_158 : decode cX6_tryOrders 158 = .ok (.return_, 1) := by decide +kernel
theorem dX6_firstToSet_0 : decode cX6_firstToSet 0 = .ok (.iconst 0, 1) := by decide +kernel
theorem dX6_firstToSet_1 : decode cX6_firstToSet 1 = .ok (.istore_n 2, 1) := by decide +kernel
theorem dX6_firstToSet_2 : decode cX6_firstToSet 2 = .ok (.sipush 200, 3) := by decide +kernel
theorem dX6_firstToSet_5 : decode cX6_firstToSet 5 = .ok (.istore_n 3, 1) := by decide +kernel
theorem dX6_firstToSet_6 : decode cX6_firstToSet 6 = .ok (.iconst 0, 1) := by decide +kernel
theorem dX6_firstToSet_7 : decode cX6_firstToSet 7 = .ok (.istore 4, 2) := by decide +kernel
theorem dX6_firstToSet_9 : decode cX6_firstToSet 9 = .ok (.iload 4, 2) := by decide +kernel
theorem dX6_firstToSet_11 : decode cX6_firstToSet 11 = .ok (.aload_n 0, 1) := by decide +kernel
theorem dX6_firstToSet_12 : decode cX6_firstToSet 12 = .ok (.getfield 10, 3) := by decide +kernel
theorem dX6_firstToSet_15 : decode cX6_firstToSet 15 = .ok (.getfield 95, 3) := by decide +kernel
theorem dX6_firstToSet_18 : decode cX6_firstToSet 18 = .ok (.if_icmp .ge 48, 3) := by decide +kernel
theorem dX6_firstToSet_21 : decode cX6_firstToSet 21 = .ok (.iload_n 1, 1) := by decide +kernel
theorem dX6_firstToSet_22 : decode cX6_firstToSet 22 = .ok (.iload 4, 2) := by decide +kernel
theorem dX6_firstToSet_24 : decode cX6_firstToSet 24 = .ok (.ishr, 1) := by decide +kernel
theorem dX6_firstToSet_25 : decode cX6_firstToSet 25 = .ok (.iconst 1, 1) := by decide +kernel
theorem dX6_firstToSet_26 : decode cX6_firstToSet 26 = .ok (.iand, 1) := by decide +kernel
theorem dX6_firstToSet_27 : decode cX6_firstToSet 27 = .ok (.ifCond .ne 33, 3) := by decide +kernel
theorem dX6_firstToSet_30 : decode cX6_firstToSet 30 = .ok (.aload_n 0, 1) := by decide +kernel
theorem dX6_firstToSet_31 : decode cX6_firstToSet 31 = .ok (.getfield 10, 3) := by decide +kernel
theorem dX6_firstToSet_34 : decode cX6_firstToSet 34 = .ok (.bipush 11, 2) := by decide +kernel
theorem dX6_firstToSet_36 : decode cX6_firstToSet 36 = .ok (.iload 4, 2) := by decide +kernel
theorem dX6_firstToSet_38 : decode cX6_firstToSet 38 = .ok (.invokevirtual 101, 3) := by decide +kernel
theorem dX6_firstToSet_41 : decode cX6_firstToSet 41 = .ok (.iload_n 3, 1) := by decide +kernel
theorem dX6_firstToSet_42 : decode cX6_firstToSet 42 = .ok (.if_icmp .ge 18, 3) := by decide +kernel
theorem dX6_firstToSet_45 : decode cX6_firstToSet 45 = .ok (.iload 4, 2) := by decide +kernel
theorem dX6_firstToSet_47 : decode cX6_firstToSet 47 = .ok (.istore_n 2, 1) := by decide +kernel
theorem dX6_firstToSet_48 : decode cX6_firstToSet 48 = .ok (.aload_n 0, 1) := by decide +kernel
theorem dX6_firstToSet_49 : decode cX6_firstToSet 49 = .ok (.getfield 10, 3) := by decide +kernel
theorem dX6_firstToSet_52 : decode cX6_firstToSet 52 = .ok (.bipush 11, 2) := by decide +kernel
theorem dX6_firstToSet_54 : decode cX6_firstToSet 54 = .ok (.iload 4, 2) := by decide +kernel
theorem dX6_firstToSet_56 : decode cX6_firstToSet 56 = .ok (.invokevirtual 101, 3) := by decide +kernel
theorem dX6_firstToSet_59 : decode cX6_firstToSet 59 = .ok (.istore_n 3, 1) := by decide +kernel
theorem dX6_firstToSet_60 : decode cX6_firstToSet 60 = .ok (.iinc 4 1, 3) := by decide +kernel
theorem dX6_firstToSet_63 : decode cX6_firstToSet 63 = .ok (.goto (-54), 3) := by decide +kernel
theorem dX6_firstToSet_66 : decode cX6_firstToSet 66 = .ok (.iload_n 2, 1) := by decide +kernel
theorem dX6_firstToSet_67 : decode cX6_firstToSet 67 = .ok (.ireturn, 1) := by decide +kernel
theorem dX6_foundPlain_0 : decode cX6_foundPlain 0 = .ok (.aload_n 0, 1) := by decide +kernel
theorem dX6_foundPlain_1 : decode cX6_foundPlain 1 = .ok (.getfield 56, 3) := by decide +kernel
theorem dX6_foundPlain_4 : decode cX6_foundPlain 4 = .ok (.aload_n 1, 1) := by decide +kernel
theorem dX6_foundPlain_5 : decode cX6_foundPlain 5 = .ok (.aload_n 1, 1) := by decide +kernel
theorem dX6_foundPlain_6 : decode cX6_foundPlain 6 = .ok (.invokevirtual 119, 3) := by decide +kernel
theorem dX6_foundPlain_9 : decode cX6_foundPlain 9 = .ok (.invokevirtual 122, 3) := by decide +kernel
theorem dX6_foundPlain_12 : decode cX6_foundPlain 12 = .ok (.pop, 1) := by decide +kernel
theorem dX6_foundPlain_13 : decode cX6_foundPlain 13 = .ok (.aload_n 0, 1) := by decide +kernel
theorem dX6_foundPlain_14 : decode cX6_foundPlain 14 = .ok (.getfield 56, 3) := by decide +kernel
theorem dX6_foundPlain_17 : decode cX6_foundPlain 17 = .ok (.getfield 254, 3) := by decide +kernel
theorem dX6_foundPlain_20 : decode cX6_foundPlain 20 = .ok (.invokestatic 257, 3) := by decide +kernel
theorem dX6_foundPlain_23 : decode cX6_foundPlain 23 = .ok (.ireturn, 1) := by decide +kernel
theorem dX6_worthSleeping_0 : decode cX6_worthSleeping 0 = .ok (.aload_n 0, 1) := by decide +kernel
theorem dX6_worthSleeping_1 : decode cX6_worthSleeping 1 = .ok (.getfield 56, 3) := by decide +kernel
theorem dX6_worthSleeping_4 : decode cX6_worthSleeping 4 = .ok (.aload_n 0, 1) := by decide +kernel
theorem dX6_worthSleeping_5 : decode cX6_worthSleeping 5 = .ok (.getfield 10, 3) := by decide +kernel
theorem dX6_worthSleeping_8 : decode cX6_worthSleeping 8 = .ok (.invokevirtual 133, 3) := by decide +kernel
theorem dX6_worthSleeping_11 : decode cX6_worthSleeping 11 = .ok (.iconst 0, 1) := by decide +kernel
theorem dX6_worthSleeping_12 : decode cX6_worthSleeping 12 = .ok (.istore_n 3, 1) := by decide +kernel
theorem dX6_worthSleeping_13 : decode cX6_worthSleeping 13 = .ok (.iload_n 3, 1) := by decide +kernel
theorem dX6_worthSleeping_14 : decode cX6_worthSleeping 14 = .ok (.aload_n 0, 1) := by decide +kernel
theorem dX6_worthSleeping_15 : decode cX6_worthSleeping 15 = .ok (.getfield 10, 3) := by decide +kernel
theorem dX6_worthSleeping_18 : decode cX6_worthSleeping 18 = .ok (.getfield 95, 3) := by decide +kernel
theorem dX6_worthSleeping_21 : decode cX6_worthSleeping 21 = .ok (.if_icmp .ge 36, 3) := by decide +kernel
theorem dX6_worthSleeping_24 : decode cX6_worthSleeping 24 = .ok (.iload_n 3, 1) := by decide +kernel
theorem dX6_worthSleeping_25 : decode cX6_worthSleeping 25 = .ok (.iload_n 1, 1) := by decide +kernel
theorem dX6_worthSleeping_26 : decode cX6_worthSleeping 26 = .ok (.if_icmp .ne 16, 3) := by decide +kernel
theorem dX6_worthSleeping_29 : decode cX6_worthSleeping 29 = .ok (.aload_n 0, 1) := by decide +kernel
theorem dX6_worthSleeping_30 : decode cX6_worthSleeping 30 = .ok (.getfield 56, 3) := by decide +kernel
theorem dX6_worthSleeping_33 : decode cX6_worthSleeping 33 = .ok (.dup, 1) := by decide +kernel
theorem dX6_worthSleeping_34 : decode cX6_worthSleeping 34 = .ok (.getfield 250, 3) := by decide +kernel
theorem dX6_worthSleeping_37 : decode cX6_worthSleeping 37 = .ok (.iload_n 2, 1) := by decide +kernel
theorem dX6_worthSleeping_38 : decode cX6_worthSleeping 38 = .ok (.iadd, 1) := by decide +kernel
theorem dX6_worthSleeping_39 : decode cX6_worthSleeping 39 = .ok (.putfield 250, 3) := by decide +kernel
theorem dX6_worthSleeping_42 : decode cX6_worthSleeping 42 = .ok (.aload_n 0, 1) := by decide +kernel
theorem dX6_worthSleeping_43 : decode cX6_worthSleeping 43 = .ok (.getfield 56, 3) := by decide +kernel
theorem dX6_worthSleeping_46 : decode cX6_worthSleeping 46 = .ok (.iload_n 3, 1) := by decide +kernel
theorem dX6_worthSleeping_47 : decode cX6_worthSleeping 47 = .ok (.iload_n 3, 1) := by decide +kernel
theorem dX6_worthSleeping_48 : decode cX6_worthSleeping 48 = .ok (.invokevirtual 141, 3) := by decide +kernel
theorem dX6_worthSleeping_51 : decode cX6_worthSleeping 51 = .ok (.iinc 3 1, 3) := by decide +kernel
theorem dX6_worthSleeping_54 : decode cX6_worthSleeping 54 = .ok (.goto (-41), 3) := by decide +kernel
theorem dX6_worthSleeping_57 : decode cX6_worthSleeping 57 = .ok (.aload_n 0, 1) := by decide +kernel
theorem dX6_worthSleeping_58 : decode cX6_worthSleeping 58 = .ok (.getfield 56, 3) := by decide +kernel
theorem dX6_worthSleeping_61 : decode cX6_worthSleeping 61 = .ok (.getfield 159, 3) := by decide +kernel
theorem dX6_worthSleeping_64 : decode cX6_worthSleeping 64 = .ok (.ireturn, 1) := by decide +kernel
theorem dX6_worthWithoutCloud_0 : decode cX6_worthWithoutCloud 0 = .ok (.aload_n 0, 1) := by decide +kernel
theorem dX6_worthWithoutCloud_1 : decode cX6_worthWithoutCloud 1 = .ok (.getfield 19, 3) := by decide +kernel
theorem dX6_worthWithoutCloud_4 : decode cX6_worthWithoutCloud 4 = .ok (.aload_n 0, 1) := by decide +kernel
theorem dX6_worthWithoutCloud_5 : decode cX6_worthWithoutCloud 5 = .ok (.getfield 10, 3) := by decide +kernel
theorem dX6_worthWithoutCloud_8 : decode cX6_worthWithoutCloud 8 = .ok (.invokevirtual 166, 3) := by decide +kernel
theorem dX6_worthWithoutCloud_11 : decode cX6_worthWithoutCloud 11 = .ok (.aload_n 0, 1) := by decide +kernel
theorem dX6_worthWithoutCloud_12 : decode cX6_worthWithoutCloud 12 = .ok (.getfield 19, 3) := by decide +kernel
theorem dX6_worthWithoutCloud_15 : decode cX6_worthWithoutCloud 15 = .ok (.iconst 1, 1) := by decide +kernel
theorem dX6_worthWithoutCloud_16 : decode cX6_worthWithoutCloud 16 = .ok (.iconst 0, 1) := by decide +kernel
theorem dX6_worthWithoutCloud_17 : decode cX6_worthWithoutCloud 17 = .ok (.bipush 9, 2) := by decide +kernel
theorem dX6_worthWithoutCloud_19 : decode cX6_worthWithoutCloud 19 = .ok (.invokevirtual 84, 3) := by decide +kernel
theorem dX6_worthWithoutCloud_22 : decode cX6_worthWithoutCloud 22 = .ok (.pop, 1) := by decide +kernel
theorem dX6_worthWithoutCloud_23 : decode cX6_worthWithoutCloud 23 = .ok (.aload_n 0, 1) := by decide +kernel
theorem dX6_worthWithoutCloud_24 : decode cX6_worthWithoutCloud 24 = .ok (.getfield 19, 3) := by decide +kernel
theorem dX6_worthWithoutCloud_27 : decode cX6_worthWithoutCloud 27 = .ok (.iconst 2, 1) := by decide +kernel
theorem dX6_worthWithoutCloud_28 : decode cX6_worthWithoutCloud 28 = .ok (.iconst 0, 1) := by decide +kernel
theorem dX6_worthWithoutCloud_29 : decode cX6_worthWithoutCloud 29 = .ok (.iconst 0, 1) := by decide +kernel
theorem dX6_worthWithoutCloud_30 : decode cX6_worthWithoutCloud 30 = .ok (.invokevirtual 84, 3) := by decide +kernel
theorem dX6_worthWithoutCloud_33 : decode cX6_worthWithoutCloud 33 = .ok (.pop, 1) := by decide +kernel
theorem dX6_worthWithoutCloud_34 : decode cX6_worthWithoutCloud 34 = .ok (.aload_n 0, 1) := by decide +kernel
theorem dX6_worthWithoutCloud_35 : decode cX6_worthWithoutCloud 35 = .ok (.getfield 56, 3) := by decide +kernel
theorem dX6_worthWithoutCloud_38 : decode cX6_worthWithoutCloud 38 = .ok (.aload_n 0, 1) := by decide +kernel
theorem dX6_worthWithoutCloud_39 : decode cX6_worthWithoutCloud 39 = .ok (.getfield 19, 3) := by decide +kernel
theorem dX6_worthWithoutCloud_42 : decode cX6_worthWithoutCloud 42 = .ok (.aload_n 0, 1) := by decide +kernel
theorem dX6_worthWithoutCloud_43 : decode cX6_worthWithoutCloud 43 = .ok (.getfield 19, 3) := by decide +kernel
theorem dX6_worthWithoutCloud_46 : decode cX6_worthWithoutCloud 46 = .ok (.invokevirtual 119, 3) := by decide +kernel
theorem dX6_worthWithoutCloud_49 : decode cX6_worthWithoutCloud 49 = .ok (.invokevirtual 122, 3) := by decide +kernel
theorem dX6_worthWithoutCloud_52 : decode cX6_worthWithoutCloud 52 = .ok (.ireturn, 1) := by decide +kernel
theorem dX6_worthDrawn_0 : decode cX6_worthDrawn 0 = .ok (.aload_n 0, 1) := by decide +kernel
theorem dX6_worthDrawn_1 : decode cX6_worthDrawn 1 = .ok (.getfield 19, 3) := by decide +kernel
theorem dX6_worthDrawn_4 : decode cX6_worthDrawn 4 = .ok (.aload_n 0, 1) := by decide +kernel
theorem dX6_worthDrawn_5 : decode cX6_worthDrawn 5 = .ok (.getfield 10, 3) := by decide +kernel
theorem dX6_worthDrawn_8 : decode cX6_worthDrawn 8 = .ok (.invokevirtual 166, 3) := by decide +kernel
theorem dX6_worthDrawn_11 : decode cX6_worthDrawn 11 = .ok (.iload_n 1, 1) := by decide +kernel
theorem dX6_worthDrawn_12 : decode cX6_worthDrawn 12 = .ok (.istore_n 2, 1) := by decide +kernel
theorem dX6_worthDrawn_13 : decode cX6_worthDrawn 13 = .ok (.iconst 1, 1) := by decide +kernel
theorem dX6_worthDrawn_14 : decode cX6_worthDrawn 14 = .ok (.istore_n 3, 1) := by decide +kernel
theorem dX6_worthDrawn_15 : decode cX6_worthDrawn 15 = .ok (.iload_n 3, 1) := by decide +kernel
theorem dX6_worthDrawn_16 : decode cX6_worthDrawn 16 = .ok (.iconst 4, 1) := by decide +kernel
theorem dX6_worthDrawn_17 : decode cX6_worthDrawn 17 = .ok (.if_icmp .gt 47, 3) := by decide +kernel
theorem dX6_worthDrawn_20 : decode cX6_worthDrawn 20 = .ok (.iload_n 2, 1) := by decide +kernel
theorem dX6_worthDrawn_21 : decode cX6_worthDrawn 21 = .ok (.ldc_w 262, 3) := by decide +kernel
theorem dX6_worthDrawn_24 : decode cX6_worthDrawn 24 = .ok (.imul, 1) := by decide +kernel
theorem dX6_worthDrawn_25 : decode cX6_worthDrawn 25 = .ok (.sipush 12345, 3) := by decide +kernel
theorem dX6_worthDrawn_28 : decode cX6_worthDrawn 28 = .ok (.iadd, 1) := by decide +kernel
theorem dX6_worthDrawn_29 : decode cX6_worthDrawn 29 = .ok (.istore_n 2, 1) := by decide +kernel
theorem dX6_worthDrawn_30 : decode cX6_worthDrawn 30 = .ok (.aload_n 0, 1) := by decide +kernel
theorem dX6_worthDrawn_31 : decode cX6_worthDrawn 31 = .ok (.getfield 19, 3) := by decide +kernel
theorem dX6_worthDrawn_34 : decode cX6_worthDrawn 34 = .ok (.iload_n 3, 1) := by decide +kernel
theorem dX6_worthDrawn_35 : decode cX6_worthDrawn 35 = .ok (.iconst 0, 1) := by decide +kernel
theorem dX6_worthDrawn_36 : decode cX6_worthDrawn 36 = .ok (.iload_n 2, 1) := by decide +kernel
theorem dX6_worthDrawn_37 : decode cX6_worthDrawn 37 = .ok (.bipush 9, 2) := by decide +kernel
theorem dX6_worthDrawn_39 : decode cX6_worthDrawn 39 = .ok (.iushr, 1) := by decide +kernel
theorem dX6_worthDrawn_40 : decode cX6_worthDrawn 40 = .ok (.iload_n 3, 1) := by decide +kernel
theorem dX6_worthDrawn_41 : decode cX6_worthDrawn 41 = .ok (.iconst 2, 1) := by decide +kernel
theorem dX6_worthDrawn_42 : decode cX6_worthDrawn 42 = .ok (.if_icmp .gt 8, 3) := by decide +kernel
theorem dX6_worthDrawn_45 : decode cX6_worthDrawn 45 = .ok (.bipush 10, 2) := by decide +kernel
theorem dX6_worthDrawn_47 : decode cX6_worthDrawn 47 = .ok (.goto 6, 3) := by decide +kernel
theorem dX6_worthDrawn_50 : decode cX6_worthDrawn 50 = .ok (.sipush 200, 3) := by decide +kernel
theorem dX6_worthDrawn_53 : decode cX6_worthDrawn 53 = .ok (.irem, 1) := by decide +kernel
theorem dX6_worthDrawn_54 : decode cX6_worthDrawn 54 = .ok (.invokevirtual 84, 3) := by decide +kernel
theorem dX6_worthDrawn_57 : decode cX6_worthDrawn 57 = .ok (.pop, 1) := by decide +kernel
theorem dX6_worthDrawn_58 : decode cX6_worthDrawn 58 = .ok (.iinc 3 1, 3) := by decide +kernel
theorem dX6_worthDrawn_61 : decode cX6_worthDrawn 61 = .ok (.goto (-46), 3) := by decide +kernel
theorem dX6_worthDrawn_64 : decode cX6_worthDrawn 64 = .ok (.aload_n 0, 1) := by decide +kernel
theorem dX6_worthDrawn_65 : decode cX6_worthDrawn 65 = .ok (.getfield 56, 3) := by decide +kernel
theorem dX6_worthDrawn_68 : decode cX6_worthDrawn 68 = .ok (.aload_n 0, 1) := by decide +kernel
theorem dX6_worthDrawn_69 : decode cX6_worthDrawn 69 = .ok (.getfield 19, 3) := by decide +kernel
theorem dX6_worthDrawn_72 : decode cX6_worthDrawn 72 = .ok (.aload_n 0, 1) := by decide +kernel
theorem dX6_worthDrawn_73 : decode cX6_worthDrawn 73 = .ok (.getfield 19, 3) := by decide +kernel
theorem dX6_worthDrawn_76 : decode cX6_worthDrawn 76 = .ok (.invokevirtual 119, 3) := by decide +kernel
theorem dX6_worthDrawn_79 : decode cX6_worthDrawn 79 = .ok (.invokevirtual 122, 3) := by decide +kernel
theorem dX6_worthDrawn_82 : decode cX6_worthDrawn 82 = .ok (.ireturn, 1) := by decide +kernel
theorem dX6_inLowestTerms_0 : decode cX6_inLowestTerms 0 = .ok (.iload_n 2, 1) := by decide +kernel
theorem dX6_inLowestTerms_1 : decode cX6_inLowestTerms 1 = .ok (.istore_n 3, 1) := by decide +kernel
theorem dX6_inLowestTerms_2 : decode cX6_inLowestTerms 2 = .ok (.iload_n 3, 1) := by decide +kernel
theorem dX6_inLowestTerms_3 : decode cX6_inLowestTerms 3 = .ok (.iconst 1, 1) := by decide +kernel
theorem dX6_inLowestTerms_4 : decode cX6_inLowestTerms 4 = .ok (.if_icmp .le 25, 3) := by decide +kernel
theorem dX6_inLowestTerms_7 : decode cX6_inLowestTerms 7 = .ok (.iload_n 1, 1) := by decide +kernel
theorem dX6_inLowestTerms_8 : decode cX6_inLowestTerms 8 = .ok (.iload_n 3, 1) := by decide +kernel
theorem dX6_inLowestTerms_9 : decode cX6_inLowestTerms 9 = .ok (.irem, 1) := by decide +kernel
theorem dX6_inLowestTerms_10 : decode cX6_inLowestTerms 10 = .ok (.ifCond .ne 13, 3) := by decide +kernel
theorem dX6_inLowestTerms_13 : decode cX6_inLowestTerms 13 = .ok (.iload_n 2, 1) := by decide +kernel
theorem dX6_inLowestTerms_14 : decode cX6_inLowestTerms 14 = .ok (.iload_n 3, 1) := by decide +kernel
theorem dX6_inLowestTerms_15 : decode cX6_inLowestTerms 15 = .ok (.irem, 1) := by decide +kernel
theorem dX6_inLowestTerms_16 : decode cX6_inLowestTerms 16 = .ok (.ifCond .ne 7, 3) := by decide +kernel
theorem dX6_inLowestTerms_19 : decode cX6_inLowestTerms 19 = .ok (.iload_n 0, 1) := by decide +kernel
theorem dX6_inLowestTerms_20 : decode cX6_inLowestTerms 20 = .ok (.iload_n 3, 1) := by decide +kernel
theorem dX6_inLowestTerms_21 : decode cX6_inLowestTerms 21 = .ok (.idiv, 1) := by decide +kernel
theorem dX6_inLowestTerms_22 : decode cX6_inLowestTerms 22 = .ok (.ireturn, 1) := by decide +kernel
theorem dX6_inLowestTerms_23 : decode cX6_inLowestTerms 23 = .ok (.iinc 3 (-1), 3) := by decide +kernel
theorem dX6_inLowestTerms_26 : decode cX6_inLowestTerms 26 = .ok (.goto (-24), 3) := by decide +kernel
theorem dX6_inLowestTerms_29 : decode cX6_inLowestTerms 29 = .ok (.iload_n 0, 1) := by decide +kernel
theorem dX6_inLowestTerms_30 : decode cX6_inLowestTerms 30 = .ok (.ireturn, 1) := by decide +kernel
theorem dX6_notAsListed_0 : decode cX6_notAsListed 0 = .ok (.iconst 0, 1) := by decide +kernel
theorem dX6_notAsListed_1 : decode cX6_notAsListed 1 = .ok (.istore_n 2, 1) := by decide +kernel
theorem dX6_notAsListed_2 : decode cX6_notAsListed 2 = .ok (.aload_n 0, 1) := by decide +kernel
theorem dX6_notAsListed_3 : decode cX6_notAsListed 3 = .ok (.getfield 56, 3) := by decide +kernel
theorem dX6_notAsListed_6 : decode cX6_notAsListed 6 = .ok (.aload_n 0, 1) := by decide +kernel
theorem dX6_notAsListed_7 : decode cX6_notAsListed 7 = .ok (.getfield 19, 3) := by decide +kernel
theorem dX6_notAsListed_10 : decode cX6_notAsListed 10 = .ok (.aload_n 0, 1) := by decide +kernel
theorem dX6_notAsListed_11 : decode cX6_notAsListed 11 = .ok (.getfield 19, 3) := by decide +kernel
theorem dX6_notAsListed_14 : decode cX6_notAsListed 14 = .ok (.invokevirtual 119, 3) := by decide +kernel
theorem dX6_notAsListed_17 : decode cX6_notAsListed 17 = .ok (.invokevirtual 122, 3) := by decide +kernel
theorem dX6_notAsListed_20 : decode cX6_notAsListed 20 = .ok (.pop, 1) := by decide +kernel
theorem dX6_notAsListed_21 : decode cX6_notAsListed 21 = .ok (.iconst 0, 1) := by decide +kernel
theorem dX6_notAsListed_22 : decode cX6_notAsListed 22 = .ok (.istore_n 3, 1) := by decide +kernel
theorem dX6_notAsListed_23 : decode cX6_notAsListed 23 = .ok (.iload_n 3, 1) := by decide +kernel
theorem dX6_notAsListed_24 : decode cX6_notAsListed 24 = .ok (.aload_n 0, 1) := by decide +kernel
theorem dX6_notAsListed_25 : decode cX6_notAsListed 25 = .ok (.getfield 19, 3) := by decide +kernel
theorem dX6_notAsListed_28 : decode cX6_notAsListed 28 = .ok (.getfield 95, 3) := by decide +kernel
theorem dX6_notAsListed_31 : decode cX6_notAsListed 31 = .ok (.if_icmp .ge 31, 3) := by decide +kernel
theorem dX6_notAsListed_34 : decode cX6_notAsListed 34 = .ok (.aload_n 0, 1) := by decide +kernel
theorem dX6_notAsListed_35 : decode cX6_notAsListed 35 = .ok (.getfield 56, 3) := by decide +kernel
theorem dX6_notAsListed_38 : decode cX6_notAsListed 38 = .ok (.iload_n 3, 1) := by decide +kernel
theorem dX6_notAsListed_39 : decode cX6_notAsListed 39 = .ok (.invokevirtual 203, 3) := by decide +kernel
theorem dX6_notAsListed_42 : decode cX6_notAsListed 42 = .ok (.aload_n 1, 1) := by decide +kernel
theorem dX6_notAsListed_43 : decode cX6_notAsListed 43 = .ok (.iload_n 3, 1) := by decide +kernel
theorem dX6_notAsListed_44 : decode cX6_notAsListed 44 = .ok (.invokevirtual 138, 3) := by decide +kernel
theorem dX6_notAsListed_47 : decode cX6_notAsListed 47 = .ok (.if_icmp .eq 9, 3) := by decide +kernel
theorem dX6_notAsListed_50 : decode cX6_notAsListed 50 = .ok (.iload_n 2, 1) := by decide +kernel
theorem dX6_notAsListed_51 : decode cX6_notAsListed 51 = .ok (.iconst 1, 1) := by decide +kernel
theorem dX6_notAsListed_52 : decode cX6_notAsListed 52 = .ok (.iload_n 3, 1) := by decide +kernel
theorem dX6_notAsListed_53 : decode cX6_notAsListed 53 = .ok (.ishl, 1) := by decide +kernel
theorem dX6_notAsListed_54 : decode cX6_notAsListed 54 = .ok (.ior, 1) := by decide +kernel
theorem dX6_notAsListed_55 : decode cX6_notAsListed 55 = .ok (.istore_n 2, 1) := by decide +kernel
theorem dX6_notAsListed_56 : decode cX6_notAsListed 56 = .ok (.iinc 3 1, 3) := by decide +kernel
theorem dX6_notAsListed_59 : decode cX6_notAsListed 59 = .ok (.goto (-36), 3) := by decide +kernel
theorem dX6_notAsListed_62 : decode cX6_notAsListed 62 = .ok (.iload_n 2, 1) := by decide +kernel
theorem dX6_notAsListed_63 : decode cX6_notAsListed 63 = .ok (.ireturn, 1) := by decide +kernel
theorem dX6_spotsThatFit_0 : decode cX6_spotsThatFit 0 = .ok (.iconst 0, 1) := by decide +kernel
theorem dX6_spotsThatFit_1 : decode cX6_spotsThatFit 1 = .ok (.istore_n 3, 1) := by decide +kernel
theorem dX6_spotsThatFit_2 : decode cX6_spotsThatFit 2 = .ok (.iconst (-1), 1) := by decide +kernel
theorem dX6_spotsThatFit_3 : decode cX6_spotsThatFit 3 = .ok (.istore 4, 2) := by decide +kernel
theorem dX6_spotsThatFit_5 : decode cX6_spotsThatFit 5 = .ok (.bipush 99, 2) := by decide +kernel
theorem dX6_spotsThatFit_7 : decode cX6_spotsThatFit 7 = .ok (.istore 5, 2) := by decide +kernel
theorem dX6_spotsThatFit_9 : decode cX6_spotsThatFit 9 = .ok (.iload 5, 2) := by decide +kernel
theorem dX6_spotsThatFit_11 : decode cX6_spotsThatFit 11 = .ok (.ifCond .lt 36, 3) := by decide +kernel
theorem dX6_spotsThatFit_14 : decode cX6_spotsThatFit 14 = .ok (.aload_n 0, 1) := by decide +kernel
theorem dX6_spotsThatFit_15 : decode cX6_spotsThatFit 15 = .ok (.getfield 19, 3) := by decide +kernel
theorem dX6_spotsThatFit_18 : decode cX6_spotsThatFit 18 = .ok (.iconst 5, 1) := by decide +kernel
theorem dX6_spotsThatFit_19 : decode cX6_spotsThatFit 19 = .ok (.iconst 0, 1) := by decide +kernel
theorem dX6_spotsThatFit_20 : decode cX6_spotsThatFit 20 = .ok (.iload 5, 2) := by decide +kernel
theorem dX6_spotsThatFit_22 : decode cX6_spotsThatFit 22 = .ok (.invokevirtual 84, 3) := by decide +kernel
theorem dX6_spotsThatFit_25 : decode cX6_spotsThatFit 25 = .ok (.pop, 1) := by decide +kernel
theorem dX6_spotsThatFit_26 : decode cX6_spotsThatFit 26 = .ok (.aload_n 0, 1) := by decide +kernel
theorem dX6_spotsThatFit_27 : decode cX6_spotsThatFit 27 = .ok (.aload_n 1, 1) := by decide +kernel
theorem dX6_spotsThatFit_28 : decode cX6_spotsThatFit 28 = .ok (.invokevirtual 185, 3) := by decide +kernel
theorem dX6_spotsThatFit_31 : decode cX6_spotsThatFit 31 = .ok (.ifCond .ne 10, 3) := by decide +kernel
theorem dX6_spotsThatFit_34 : decode cX6_spotsThatFit 34 = .ok (.iinc 3 1, 3) := by decide +kernel
theorem dX6_spotsThatFit_37 : decode cX6_spotsThatFit 37 = .ok (.iload 5, 2) := by decide +kernel
theorem dX6_spotsThatFit_39 : decode cX6_spotsThatFit 39 = .ok (.istore 4, 2) := by decide +kernel
theorem dX6_spotsThatFit_41 : decode cX6_spotsThatFit 41 = .ok (.iinc 5 (-1), 3) := by decide +kernel
theorem dX6_spotsThatFit_44 : decode cX6_spotsThatFit 44 = .ok (.goto (-35), 3) := by decide +kernel
theorem dX6_spotsThatFit_47 : decode cX6_spotsThatFit 47 = .ok (.iload_n 2, 1) := by decide +kernel
theorem dX6_spotsThatFit_48 : decode cX6_spotsThatFit 48 = .ok (.ifCond .eq 7, 3) := by decide +kernel
theorem dX6_spotsThatFit_51 : decode cX6_spotsThatFit 51 = .ok (.iload_n 3, 1) := by decide +kernel
theorem dX6_spotsThatFit_52 : decode cX6_spotsThatFit 52 = .ok (.goto 5, 3) := by decide +kernel
theorem dX6_spotsThatFit_55 : decode cX6_spotsThatFit 55 = .ok (.iload 4, 2) := by decide +kernel
theorem dX6_spotsThatFit_57 : decode cX6_spotsThatFit 57 = .ok (.ireturn, 1) := by decide +kernel
theorem dX6_bitsThatFit_0 : decode cX6_bitsThatFit 0 = .ok (.iconst 0, 1) := by decide +kernel
theorem dX6_bitsThatFit_1 : decode cX6_bitsThatFit 1 = .ok (.istore 5, 2) := by decide +kernel
theorem dX6_bitsThatFit_3 : decode cX6_bitsThatFit 3 = .ok (.iconst 0, 1) := by decide +kernel
theorem dX6_bitsThatFit_4 : decode cX6_bitsThatFit 4 = .ok (.istore 6, 2) := by decide +kernel
theorem dX6_bitsThatFit_6 : decode cX6_bitsThatFit 6 = .ok (.iload 6, 2) := by decide +kernel
theorem dX6_bitsThatFit_8 : decode cX6_bitsThatFit 8 = .ok (.iload 4, 2) := by decide +kernel
theorem dX6_bitsThatFit_10 : decode cX6_bitsThatFit 10 = .ok (.if_icmp .ge 38, 3) := by decide +kernel
theorem dX6_bitsThatFit_13 : decode cX6_bitsThatFit 13 = .ok (.aload_n 0, 1) := by decide +kernel
theorem dX6_bitsThatFit_14 : decode cX6_bitsThatFit 14 = .ok (.getfield 19, 3) := by decide +kernel
theorem dX6_bitsThatFit_17 : decode cX6_bitsThatFit 17 = .ok (.iload_n 2, 1) := by decide +kernel
theorem dX6_bitsThatFit_18 : decode cX6_bitsThatFit 18 = .ok (.iload_n 3, 1) := by decide +kernel
theorem dX6_bitsThatFit_19 : decode cX6_bitsThatFit 19 = .ok (.iload 6, 2) := by decide +kernel
theorem dX6_bitsThatFit_21 : decode cX6_bitsThatFit 21 = .ok (.invokevirtual 84, 3) := by decide +kernel
theorem dX6_bitsThatFit_24 : decode cX6_bitsThatFit 24 = .ok (.pop, 1) := by decide +kernel
theorem dX6_bitsThatFit_25 : decode cX6_bitsThatFit 25 = .ok (.aload_n 0, 1) := by decide +kernel
theorem dX6_bitsThatFit_26 : decode cX6_bitsThatFit 26 = .ok (.aload_n 1, 1) := by decide +kernel
theorem dX6_bitsThatFit_27 : decode cX6_bitsThatFit 27 = .ok (.invokevirtual 185, 3) := by decide +kernel
theorem dX6_bitsThatFit_30 : decode cX6_bitsThatFit 30 = .ok (.ifCond .ne 12, 3) := by decide +kernel
theorem dX6_bitsThatFit_33 : decode cX6_bitsThatFit 33 = .ok (.iload 5, 2) := by decide +kernel
theorem dX6_bitsThatFit_35 : decode cX6_bitsThatFit 35 = .ok (.iconst 1, 1) := by decide +kernel
theorem dX6_bitsThatFit_36 : decode cX6_bitsThatFit 36 = .ok (.iload 6, 2) := by decide +kernel
theorem dX6_bitsThatFit_38 : decode cX6_bitsThatFit 38 = .ok (.ishl, 1) := by decide +kernel
theorem dX6_bitsThatFit_39 : decode cX6_bitsThatFit 39 = .ok (.ior, 1) := by decide +kernel
theorem dX6_bitsThatFit_40 : decode cX6_bitsThatFit 40 = .ok (.istore 5, 2) := by decide +kernel
theorem dX6_bitsThatFit_42 : decode cX6_bitsThatFit 42 = .ok (.iinc 6 1, 3) := by decide +kernel
theorem dX6_bitsThatFit_45 : decode cX6_bitsThatFit 45 = .ok (.goto (-39), 3) := by decide +kernel
theorem dX6_bitsThatFit_48 : decode cX6_bitsThatFit 48 = .ok (.iload 5, 2) := by decide +kernel
theorem dX6_bitsThatFit_50 : decode cX6_bitsThatFit 50 = .ok (.ireturn, 1) := by decide +kernel
theorem dX6_textsThatFit_0 : decode cX6_textsThatFit 0 = .ok (.iconst 0, 1) := by decide +kernel
theorem dX6_textsThatFit_1 : decode cX6_textsThatFit 1 = .ok (.istore_n 2, 1) := by decide +kernel
theorem dX6_textsThatFit_2 : decode cX6_textsThatFit 2 = .ok (.iconst 0, 1) := by decide +kernel
theorem dX6_textsThatFit_3 : decode cX6_textsThatFit 3 = .ok (.istore_n 3, 1) := by decide +kernel
theorem dX6_textsThatFit_4 : decode cX6_textsThatFit 4 = .ok (.iload_n 3, 1) := by decide +kernel
theorem dX6_textsThatFit_5 : decode cX6_textsThatFit 5 = .ok (.aload_n 0, 1) := by decide +kernel
theorem dX6_textsThatFit_6 : decode cX6_textsThatFit 6 = .ok (.getfield 39, 3) := by decide +kernel
theorem dX6_textsThatFit_9 : decode cX6_textsThatFit 9 = .ok (.if_icmp .ge 31, 3) := by decide +kernel
theorem dX6_textsThatFit_12 : decode cX6_textsThatFit 12 = .ok (.aload_n 0, 1) := by decide +kernel
theorem dX6_textsThatFit_13 : decode cX6_textsThatFit 13 = .ok (.getfield 19, 3) := by decide +kernel
theorem dX6_textsThatFit_16 : decode cX6_textsThatFit 16 = .ok (.iload_n 3, 1) := by decide +kernel
theorem dX6_textsThatFit_17 : decode cX6_textsThatFit 17 = .ok (.putfield 111, 3) := by decide +kernel
theorem dX6_textsThatFit_20 : decode cX6_textsThatFit 20 = .ok (.aload_n 0, 1) := by decide +kernel
theorem dX6_textsThatFit_21 : decode cX6_textsThatFit 21 = .ok (.aload_n 1, 1) := by decide +kernel
theorem dX6_textsThatFit_22 : decode cX6_textsThatFit 22 = .ok (.invokevirtual 185, 3) := by decide +kernel
theorem dX6_textsThatFit_25 : decode cX6_textsThatFit 25 = .ok (.ifCond .ne 9, 3) := by decide +kernel
theorem dX6_textsThatFit_28 : decode cX6_textsThatFit 28 = .ok (.iload_n 2, 1) := by decide +kernel
theorem dX6_textsThatFit_29 : decode cX6_textsThatFit 29 = .ok (.iconst 1, 1) := by decide +kernel
theorem dX6_textsThatFit_30 : decode cX6_textsThatFit 30 = .ok (.iload_n 3, 1) := by decide +kernel
theorem dX6_textsThatFit_31 : decode cX6_textsThatFit 31 = .ok (.ishl, 1) := by decide +kernel
theorem dX6_textsThatFit_32 : decode cX6_textsThatFit 32 = .ok (.ior, 1) := by decide +kernel
theorem dX6_textsThatFit_33 : decode cX6_textsThatFit 33 = .ok (.istore_n 2, 1) := by decide +kernel
theorem dX6_textsThatFit_34 : decode cX6_textsThatFit 34 = .ok (.iinc 3 1, 3) := by decide +kernel
theorem dX6_textsThatFit_37 : decode cX6_textsThatFit 37 = .ok (.goto (-33), 3) := by decide +kernel
theorem dX6_textsThatFit_40 : decode cX6_textsThatFit 40 = .ok (.iload_n 2, 1) := by decide +kernel
theorem dX6_textsThatFit_41 : decode cX6_textsThatFit 41 = .ok (.ireturn, 1) := by decide +kernel

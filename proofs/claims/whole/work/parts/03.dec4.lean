theorem dX7_firstFrom_27 : decode cX7_firstFrom 27 = .ok (.iadd, 1) := by decide +kernel
theorem dX7_firstFrom_28 : decode cX7_firstFrom 28 = .ok (.if_icmp .gt 70, 3) := by decide +kernel
theorem dX7_firstFrom_31 : decode cX7_firstFrom 31 = .ok (.aload_n 0, 1) := by decide +kernel
theorem dX7_firstFrom_32 : decode cX7_firstFrom 32 = .ok (.iload_n 1, 1) := by decide +kernel
theorem dX7_firstFrom_33 : decode cX7_firstFrom 33 = .ok (.iload 5, 2) := by decide +kernel
theorem dX7_firstFrom_35 : decode cX7_firstFrom 35 = .ok (.invokevirtual 111, 3) := by decide +kernel
theorem dX7_firstFrom_38 : decode cX7_firstFrom 38 = .ok (.ifCond .eq 20, 3) := by decide +kernel
theorem dX7_firstFrom_41 : decode cX7_firstFrom 41 = .ok (.aload_n 0, 1) := by decide +kernel
theorem dX7_firstFrom_42 : decode cX7_firstFrom 42 = .ok (.iload_n 1, 1) := by decide +kernel
theorem dX7_firstFrom_43 : decode cX7_firstFrom 43 = .ok (.iload 5, 2) := by decide +kernel
theorem dX7_firstFrom_45 : decode cX7_firstFrom 45 = .ok (.invokevirtual 115, 3) := by decide +kernel
theorem dX7_firstFrom_48 : decode cX7_firstFrom 48 = .ok (.ifCond .ne 10, 3) := by decide +kernel
theorem dX7_firstFrom_51 : decode cX7_firstFrom 51 = .ok (.iload 4, 2) := by decide +kernel
theorem dX7_firstFrom_53 : decode cX7_firstFrom 53 = .ok (.iconst 1, 1) := by decide +kernel
theorem dX7_firstFrom_54 : decode cX7_firstFrom 54 = .ok (.iadd, 1) := by decide +kernel
theorem dX7_firstFrom_55 : decode cX7_firstFrom 55 = .ok (.goto 4, 3) := by decide +kernel
theorem dX7_firstFrom_58 : decode cX7_firstFrom 58 = .ok (.iconst 0, 1) := by decide +kernel
theorem dX7_firstFrom_59 : decode cX7_firstFrom 59 = .ok (.istore 4, 2) := by decide +kernel
theorem dX7_firstFrom_61 : decode cX7_firstFrom 61 = .ok (.iload 4, 2) := by decide +kernel
theorem dX7_firstFrom_63 : decode cX7_firstFrom 63 = .ok (.iload_n 3, 1) := by decide +kernel
theorem dX7_firstFrom_64 : decode cX7_firstFrom 64 = .ok (.if_icmp .ne 28, 3) := by decide +kernel
theorem dX7_firstFrom_67 : decode cX7_firstFrom 67 = .ok (.iload 5, 2) := by decide +kernel
theorem dX7_firstFrom_69 : decode cX7_firstFrom 69 = .ok (.iload_n 3, 1) := by decide +kernel
theorem dX7_firstFrom_70 : decode cX7_firstFrom 70 = .ok (.isub, 1) := by decide +kernel
theorem dX7_firstFrom_71 : decode cX7_firstFrom 71 = .ok (.iconst 1, 1) := by decide +kernel
theorem dX7_firstFrom_72 : decode cX7_firstFrom 72 = .ok (.iadd, 1) := by decide +kernel
theorem dX7_firstFrom_73 : decode cX7_firstFrom 73 = .ok (.iload_n 2, 1) := by decide +kernel
theorem dX7_firstFrom_74 : decode cX7_firstFrom 74 = .ok (.aload_n 0, 1) := by decide +kernel
theorem dX7_firstFrom_75 : decode cX7_firstFrom 75 = .ok (.getfield 23, 3) := by decide +kernel
theorem dX7_firstFrom_78 : decode cX7_firstFrom 78 = .ok (.bipush 7, 2) := by decide +kernel
theorem dX7_firstFrom_80 : decode cX7_firstFrom 80 = .ok (.iaload, 1) := by decide +kernel
theorem dX7_firstFrom_81 : decode cX7_firstFrom 81 = .ok (.iadd, 1) := by decide +kernel
theorem dX7_firstFrom_82 : decode cX7_firstFrom 82 = .ok (.if_icmp .gt 10, 3) := by decide +kernel
theorem dX7_firstFrom_85 : decode cX7_firstFrom 85 = .ok (.iload 5, 2) := by decide +kernel
theorem dX7_firstFrom_87 : decode cX7_firstFrom 87 = .ok (.iload_n 3, 1) := by decide +kernel
theorem dX7_firstFrom_88 : decode cX7_firstFrom 88 = .ok (.isub, 1) := by decide +kernel
theorem dX7_firstFrom_89 : decode cX7_firstFrom 89 = .ok (.iconst 1, 1) := by decide +kernel
theorem dX7_firstFrom_90 : decode cX7_firstFrom 90 = .ok (.iadd, 1) := by decide +kernel
theorem dX7_firstFrom_91 : decode cX7_firstFrom 91 = .ok (.ireturn, 1) := by decide +kernel
theorem dX7_firstFrom_92 : decode cX7_firstFrom 92 = .ok (.iinc 5 1, 3) := by decide +kernel
theorem dX7_firstFrom_95 : decode cX7_firstFrom 95 = .ok (.goto (-89), 3) := by decide +kernel
theorem dX7_firstFrom_98 : decode cX7_firstFrom 98 = .ok (.iconst (-1), 1) := by decide +kernel
theorem dX7_firstFrom_99 : decode cX7_firstFrom 99 = .ok (.ireturn, 1) := by decide +kernel
theorem dX7_looksFor_0 : decode cX7_looksFor 0 = .ok (.aload_n 0, 1) := by decide +kernel
theorem dX7_looksFor_1 : decode cX7_looksFor 1 = .ok (.getfield 242, 3) := by decide +kernel
theorem dX7_looksFor_4 : decode cX7_looksFor 4 = .ok (.aload_n 0, 1) := by decide +kernel
theorem dX7_looksFor_5 : decode cX7_looksFor 5 = .ok (.iload_n 1, 1) := by decide +kernel
theorem dX7_looksFor_6 : decode cX7_looksFor 6 = .ok (.iconst 1, 1) := by decide +kernel
theorem dX7_looksFor_7 : decode cX7_looksFor 7 = .ok (.invokevirtual 87, 3) := by decide +kernel
theorem dX7_looksFor_10 : decode cX7_looksFor 10 = .ok (.invokestatic 257, 3) := by decide +kernel
theorem dX7_looksFor_13 : decode cX7_looksFor 13 = .ok (.istore_n 3, 1) := by decide +kernel
theorem dX7_looksFor_14 : decode cX7_looksFor 14 = .ok (.aload_n 0, 1) := by decide +kernel
theorem dX7_looksFor_15 : decode cX7_looksFor 15 = .ok (.getfield 245, 3) := by decide +kernel
theorem dX7_looksFor_18 : decode cX7_looksFor 18 = .ok (.aload_n 0, 1) := by decide +kernel
theorem dX7_looksFor_19 : decode cX7_looksFor 19 = .ok (.iconst 0, 1) := by decide +kernel
theorem dX7_looksFor_20 : decode cX7_looksFor 20 = .ok (.iload_n 1, 1) := by decide +kernel
theorem dX7_looksFor_21 : decode cX7_looksFor 21 = .ok (.aload_n 0, 1) := by decide +kernel
theorem dX7_looksFor_22 : decode cX7_looksFor 22 = .ok (.getfield 245, 3) := by decide +kernel
theorem dX7_looksFor_25 : decode cX7_looksFor 25 = .ok (.iload_n 3, 1) := by decide +kernel
theorem dX7_looksFor_26 : decode cX7_looksFor 26 = .ok (.iload_n 2, 1) := by decide +kernel
theorem dX7_looksFor_27 : decode cX7_looksFor 27 = .ok (.invokevirtual 260, 3) := by decide +kernel
theorem dX7_looksFor_30 : decode cX7_looksFor 30 = .ok (.iadd, 1) := by decide +kernel
theorem dX7_looksFor_31 : decode cX7_looksFor 31 = .ok (.istore 4, 2) := by decide +kernel
theorem dX7_looksFor_33 : decode cX7_looksFor 33 = .ok (.aload_n 0, 1) := by decide +kernel
theorem dX7_looksFor_34 : decode cX7_looksFor 34 = .ok (.iload_n 1, 1) := by decide +kernel
theorem dX7_looksFor_35 : decode cX7_looksFor 35 = .ok (.aload_n 0, 1) := by decide +kernel
theorem dX7_looksFor_36 : decode cX7_looksFor 36 = .ok (.iconst 1, 1) := by decide +kernel
theorem dX7_looksFor_37 : decode cX7_looksFor 37 = .ok (.iload_n 1, 1) := by decide +kernel
theorem dX7_looksFor_38 : decode cX7_looksFor 38 = .ok (.iload 4, 2) := by decide +kernel
theorem dX7_looksFor_40 : decode cX7_looksFor 40 = .ok (.iload_n 3, 1) := by decide +kernel
theorem dX7_looksFor_41 : decode cX7_looksFor 41 = .ok (.iload_n 2, 1) := by decide +kernel
theorem dX7_looksFor_42 : decode cX7_looksFor 42 = .ok (.invokevirtual 260, 3) := by decide +kernel
theorem dX7_looksFor_45 : decode cX7_looksFor 45 = .ok (.invokevirtual 264, 3) := by decide +kernel
theorem dX7_looksFor_48 : decode cX7_looksFor 48 = .ok (.istore 5, 2) := by decide +kernel
theorem dX7_looksFor_50 : decode cX7_looksFor 50 = .ok (.aload_n 0, 1) := by decide +kernel
theorem dX7_looksFor_51 : decode cX7_looksFor 51 = .ok (.iload_n 1, 1) := by decide +kernel
theorem dX7_looksFor_52 : decode cX7_looksFor 52 = .ok (.iload 4, 2) := by decide +kernel
theorem dX7_looksFor_54 : decode cX7_looksFor 54 = .ok (.iload 5, 2) := by decide +kernel
theorem dX7_looksFor_56 : decode cX7_looksFor 56 = .ok (.invokevirtual 267, 3) := by decide +kernel
theorem dX7_looksFor_59 : decode cX7_looksFor 59 = .ok (.istore 6, 2) := by decide +kernel
theorem dX7_looksFor_61 : decode cX7_looksFor 61 = .ok (.iload 6, 2) := by decide +kernel
theorem dX7_looksFor_63 : decode cX7_looksFor 63 = .ok (.iconst (-1), 1) := by decide +kernel
theorem dX7_looksFor_64 : decode cX7_looksFor 64 = .ok (.if_icmp .ne 4, 3) := by decide +kernel
theorem dX7_looksFor_67 : decode cX7_looksFor 67 = .ok (.return_, 1) := by decide +kernel
theorem dX7_looksFor_68 : decode cX7_looksFor 68 = .ok (.aload_n 0, 1) := by decide +kernel
theorem dX7_looksFor_69 : decode cX7_looksFor 69 = .ok (.dup, 1) := by decide +kernel
theorem dX7_looksFor_70 : decode cX7_looksFor 70 = .ok (.getfield 248, 3) := by decide +kernel
theorem dX7_looksFor_73 : decode cX7_looksFor 73 = .ok (.aload_n 0, 1) := by decide +kernel
theorem dX7_looksFor_74 : decode cX7_looksFor 74 = .ok (.iload_n 1, 1) := by decide +kernel
theorem dX7_looksFor_75 : decode cX7_looksFor 75 = .ok (.invokevirtual 102, 3) := by decide +kernel
theorem dX7_looksFor_78 : decode cX7_looksFor 78 = .ok (.aload_n 0, 1) := by decide +kernel
theorem dX7_looksFor_79 : decode cX7_looksFor 79 = .ok (.iconst 2, 1) := by decide +kernel
theorem dX7_looksFor_80 : decode cX7_looksFor 80 = .ok (.iload_n 1, 1) := by decide +kernel
theorem dX7_looksFor_81 : decode cX7_looksFor 81 = .ok (.iload 4, 2) := by decide +kernel
theorem dX7_looksFor_83 : decode cX7_looksFor 83 = .ok (.iload_n 3, 1) := by decide +kernel
theorem dX7_looksFor_84 : decode cX7_looksFor 84 = .ok (.iload_n 2, 1) := by decide +kernel
theorem dX7_looksFor_85 : decode cX7_looksFor 85 = .ok (.invokevirtual 260, 3) := by decide +kernel
theorem dX7_looksFor_88 : decode cX7_looksFor 88 = .ok (.iload 6, 2) := by decide +kernel
theorem dX7_looksFor_90 : decode cX7_looksFor 90 = .ok (.iload 4, 2) := by decide +kernel
theorem dX7_looksFor_92 : decode cX7_looksFor 92 = .ok (.isub, 1) := by decide +kernel
theorem dX7_looksFor_93 : decode cX7_looksFor 93 = .ok (.imul, 1) := by decide +kernel
theorem dX7_looksFor_94 : decode cX7_looksFor 94 = .ok (.isub, 1) := by decide +kernel
theorem dX7_looksFor_95 : decode cX7_looksFor 95 = .ok (.iadd, 1) := by decide +kernel
theorem dX7_looksFor_96 : decode cX7_looksFor 96 = .ok (.putfield 248, 3) := by decide +kernel
theorem dX7_looksFor_99 : decode cX7_looksFor 99 = .ok (.aload_n 0, 1) := by decide +kernel
theorem dX7_looksFor_100 : decode cX7_looksFor 100 = .ok (.dup, 1) := by decide +kernel
theorem dX7_looksFor_101 : decode cX7_looksFor 101 = .ok (.getfield 251, 3) := by decide +kernel
theorem dX7_looksFor_104 : decode cX7_looksFor 104 = .ok (.iconst 1, 1) := by decide +kernel
theorem dX7_looksFor_105 : decode cX7_looksFor 105 = .ok (.iload_n 1, 1) := by decide +kernel
theorem dX7_looksFor_106 : decode cX7_looksFor 106 = .ok (.ishl, 1) := by decide +kernel
theorem dX7_looksFor_107 : decode cX7_looksFor 107 = .ok (.ior, 1) := by decide +kernel
theorem dX7_looksFor_108 : decode cX7_looksFor 108 = .ok (.putfield 251, 3) := by decide +kernel
theorem dX7_looksFor_111 : decode cX7_looksFor 111 = .ok (.aload_n 0, 1) := by decide +kernel
theorem dX7_looksFor_112 : decode cX7_looksFor 112 = .ok (.dup, 1) := by decide +kernel
theorem dX7_looksFor_113 : decode cX7_looksFor 113 = .ok (.getfield 254, 3) := by decide +kernel
theorem dX7_looksFor_116 : decode cX7_looksFor 116 = .ok (.iload 6, 2) := by decide +kernel
theorem dX7_looksFor_118 : decode cX7_looksFor 118 = .ok (.iload 4, 2) := by decide +kernel
theorem dX7_looksFor_120 : decode cX7_looksFor 120 = .ok (.isub, 1) := by decide +kernel
theorem dX7_looksFor_121 : decode cX7_looksFor 121 = .ok (.iadd, 1) := by decide +kernel
theorem dX7_looksFor_122 : decode cX7_looksFor 122 = .ok (.putfield 254, 3) := by decide +kernel
theorem dX7_looksFor_125 : decode cX7_looksFor 125 = .ok (.aload_n 0, 1) := by decide +kernel
theorem dX7_looksFor_126 : decode cX7_looksFor 126 = .ok (.getfield 32, 3) := by decide +kernel
theorem dX7_looksFor_129 : decode cX7_looksFor 129 = .ok (.iload_n 1, 1) := by decide +kernel
theorem dX7_looksFor_130 : decode cX7_looksFor 130 = .ok (.iload 6, 2) := by decide +kernel
theorem dX7_looksFor_132 : decode cX7_looksFor 132 = .ok (.iload 5, 2) := by decide +kernel
theorem dX7_looksFor_134 : decode cX7_looksFor 134 = .ok (.iadd, 1) := by decide +kernel
theorem dX7_looksFor_135 : decode cX7_looksFor 135 = .ok (.iconst 1, 1) := by decide +kernel
theorem dX7_looksFor_136 : decode cX7_looksFor 136 = .ok (.isub, 1) := by decide +kernel
theorem dX7_looksFor_137 : decode cX7_looksFor 137 = .ok (.iastore, 1) := by decide +kernel
theorem dX7_looksFor_138 : decode cX7_looksFor 138 = .ok (.aload_n 0, 1) := by decide +kernel
theorem dX7_looksFor_139 : decode cX7_looksFor 139 = .ok (.getfield 35, 3) := by decide +kernel
theorem dX7_looksFor_142 : decode cX7_looksFor 142 = .ok (.iload_n 1, 1) := by decide +kernel
theorem dX7_looksFor_143 : decode cX7_looksFor 143 = .ok (.iload 6, 2) := by decide +kernel
theorem dX7_looksFor_145 : decode cX7_looksFor 145 = .ok (.iload 4, 2) := by decide +kernel
theorem dX7_looksFor_147 : decode cX7_looksFor 147 = .ok (.isub, 1) := by decide +kernel
theorem dX7_looksFor_148 : decode cX7_looksFor 148 = .ok (.iastore, 1) := by decide +kernel
theorem dX7_looksFor_149 : decode cX7_looksFor 149 = .ok (.aload_n 0, 1) := by decide +kernel
theorem dX7_looksFor_150 : decode cX7_looksFor 150 = .ok (.aload_n 0, 1) := by decide +kernel
theorem dX7_looksFor_151 : decode cX7_looksFor 151 = .ok (.iload_n 1, 1) := by decide +kernel
theorem dX7_looksFor_152 : decode cX7_looksFor 152 = .ok (.iconst 1, 1) := by decide +kernel
theorem dX7_looksFor_153 : decode cX7_looksFor 153 = .ok (.invokevirtual 87, 3) := by decide +kernel
theorem dX7_looksFor_156 : decode cX7_looksFor 156 = .ok (.putfield 242, 3) := by decide +kernel
theorem dX7_looksFor_159 : decode cX7_looksFor 159 = .ok (.aload_n 0, 1) := by decide +kernel
theorem dX7_looksFor_160 : decode cX7_looksFor 160 = .ok (.iload 6, 2) := by decide +kernel
theorem dX7_looksFor_162 : decode cX7_looksFor 162 = .ok (.iload 5, 2) := by decide +kernel
theorem dX7_looksFor_164 : decode cX7_looksFor 164 = .ok (.iadd, 1) := by decide +kernel
theorem dX7_looksFor_165 : decode cX7_looksFor 165 = .ok (.putfield 245, 3) := by decide +kernel
theorem dX7_looksFor_168 : decode cX7_looksFor 168 = .ok (.return_, 1) := by decide +kernel
theorem dX7_goes_0 : decode cX7_goes 0 = .ok (.aload_n 0, 1) := by decide +kernel
theorem dX7_goes_1 : decode cX7_goes 1 = .ok (.invokevirtual 270, 3) := by decide +kernel
theorem dX7_goes_4 : decode cX7_goes 4 = .ok (.iconst 0, 1) := by decide +kernel
theorem dX7_goes_5 : decode cX7_goes 5 = .ok (.istore 4, 2) := by decide +kernel
theorem dX7_goes_7 : decode cX7_goes 7 = .ok (.iconst 0, 1) := by decide +kernel
theorem dX7_goes_8 : decode cX7_goes 8 = .ok (.istore 5, 2) := by decide +kernel
theorem dX7_goes_10 : decode cX7_goes 10 = .ok (.iload 5, 2) := by decide +kernel
theorem dX7_goes_12 : decode cX7_goes 12 = .ok (.aload_n 0, 1) := by decide +kernel
theorem dX7_goes_13 : decode cX7_goes 13 = .ok (.getfield 70, 3) := by decide +kernel
theorem dX7_goes_16 : decode cX7_goes 16 = .ok (.if_icmp .ge 50, 3) := by decide +kernel
theorem dX7_goes_19 : decode cX7_goes 19 = .ok (.iload_n 1, 1) := by decide +kernel
theorem dX7_goes_20 : decode cX7_goes 20 = .ok (.iload 5, 2) := by decide +kernel
theorem dX7_goes_22 : decode cX7_goes 22 = .ok (.ishr, 1) := by decide +kernel
theorem dX7_goes_23 : decode cX7_goes 23 = .ok (.iconst 1, 1) := by decide +kernel
theorem dX7_goes_24 : decode cX7_goes 24 = .ok (.iand, 1) := by decide +kernel
theorem dX7_goes_25 : decode cX7_goes 25 = .ok (.iconst 1, 1) := by decide +kernel
theorem dX7_goes_26 : decode cX7_goes 26 = .ok (.if_icmp .ne 34, 3) := by decide +kernel
theorem dX7_goes_29 : decode cX7_goes 29 = .ok (.aload_n 0, 1) := by decide +kernel
theorem dX7_goes_30 : decode cX7_goes 30 = .ok (.dup, 1) := by decide +kernel
theorem dX7_goes_31 : decode cX7_goes 31 = .ok (.getfield 245, 3) := by decide +kernel
theorem dX7_goes_34 : decode cX7_goes 34 = .ok (.iload 4, 2) := by decide +kernel
theorem dX7_goes_36 : decode cX7_goes 36 = .ok (.iload_n 2, 1) := by decide +kernel
theorem dX7_goes_37 : decode cX7_goes 37 = .ok (.if_icmp .ne 7, 3) := by decide +kernel
theorem dX7_goes_40 : decode cX7_goes 40 = .ok (.iload_n 3, 1) := by decide +kernel
theorem dX7_goes_41 : decode cX7_goes 41 = .ok (.goto 4, 3) := by decide +kernel
theorem dX7_goes_44 : decode cX7_goes 44 = .ok (.iconst 0, 1) := by decide +kernel
theorem dX7_goes_45 : decode cX7_goes 45 = .ok (.iadd, 1) := by decide +kernel
theorem dX7_goes_46 : decode cX7_goes 46 = .ok (.putfield 245, 3) := by decide +kernel
theorem dX7_goes_49 : decode cX7_goes 49 = .ok (.aload_n 0, 1) := by decide +kernel
theorem dX7_goes_50 : decode cX7_goes 50 = .ok (.iload 5, 2) := by decide +kernel
theorem dX7_goes_52 : decode cX7_goes 52 = .ok (.iload 4, 2) := by decide +kernel
theorem dX7_goes_54 : decode cX7_goes 54 = .ok (.invokevirtual 273, 3) := by decide +kernel
theorem dX7_goes_57 : decode cX7_goes 57 = .ok (.iinc 4 1, 3) := by decide +kernel
theorem dX7_goes_60 : decode cX7_goes 60 = .ok (.iinc 5 1, 3) := by decide +kernel
theorem dX7_goes_63 : decode cX7_goes 63 = .ok (.goto (-53), 3) := by decide +kernel
theorem dX7_goes_66 : decode cX7_goes 66 = .ok (.return_, 1) := by decide +kernel
theorem dX7_all_0 : decode cX7_all 0 = .ok (.iconst 1, 1) := by decide +kernel
theorem dX7_all_1 : decode cX7_all 1 = .ok (.aload_n 0, 1) := by decide +kernel
theorem dX7_all_2 : decode cX7_all 2 = .ok (.getfield 70, 3) := by decide +kernel
theorem dX7_all_5 : decode cX7_all 5 = .ok (.ishl, 1) := by decide +kernel
theorem dX7_all_6 : decode cX7_all 6 = .ok (.iconst 1, 1) := by decide +kernel
theorem dX7_all_7 : decode cX7_all 7 = .ok (.isub, 1) := by decide +kernel
theorem dX7_all_8 : decode cX7_all 8 = .ok (.ireturn, 1) := by decide +kernel
theorem dX7_goesPlain_0 : decode cX7_goesPlain 0 = .ok (.aload_n 0, 1) := by decide +kernel
theorem dX7_goesPlain_1 : decode cX7_goesPlain 1 = .ok (.aload_n 0, 1) := by decide +kernel
theorem dX7_goesPlain_2 : decode cX7_goesPlain 2 = .ok (.invokevirtual 277, 3) := by decide +kernel
theorem dX7_goesPlain_5 : decode cX7_goesPlain 5 = .ok (.iconst (-1), 1) := by decide +kernel
theorem dX7_goesPlain_6 : decode cX7_goesPlain 6 = .ok (.iconst 0, 1) := by decide +kernel
theorem dX7_goesPlain_7 : decode cX7_goesPlain 7 = .ok (.invokevirtual 280, 3) := by decide +kernel
theorem dX7_goesPlain_10 : decode cX7_goesPlain 10 = .ok (.return_, 1) := by decide +kernel
theorem dX7_isTells_0 : decode cX7_isTells 0 = .ok (.iload_n 1, 1) := by decide +kernel
theorem dX7_isTells_1 : decode cX7_isTells 1 = .ok (.i2l, 1) := by decide +kernel
theorem dX7_isTells_2 : decode cX7_isTells 2 = .ok (.lconst 0, 1) := by decide +kernel
theorem dX7_isTells_3 : decode cX7_isTells 3 = .ok (.ldc2_w 284, 3) := by decide +kernel
theorem dX7_isTells_6 : decode cX7_isTells 6 = .ok (.invokestatic 73, 3) := by decide +kernel
theorem dX7_isTells_9 : decode cX7_isTells 9 = .ok (.ifCond .ne 28, 3) := by decide +kernel
theorem dX7_isTells_12 : decode cX7_isTells 12 = .ok (.iload_n 1, 1) := by decide +kernel
theorem dX7_isTells_13 : decode cX7_isTells 13 = .ok (.i2l, 1) := by decide +kernel
theorem dX7_isTells_14 : decode cX7_isTells 14 = .ok (.ldc2_w 153, 3) := by decide +kernel
theorem dX7_isTells_17 : decode cX7_isTells 17 = .ok (.ldc2_w 286, 3) := by decide +kernel
theorem dX7_isTells_20 : decode cX7_isTells 20 = .ok (.invokestatic 73, 3) := by decide +kernel
theorem dX7_isTells_23 : decode cX7_isTells 23 = .ok (.ifCond .eq 18, 3) := by decide +kernel
theorem dX7_isTells_26 : decode cX7_isTells 26 = .ok (.aload_n 0, 1) := by decide +kernel
theorem dX7_isTells_27 : decode cX7_isTells 27 = .ok (.iload_n 1, 1) := by decide +kernel
theorem dX7_isTells_28 : decode cX7_isTells 28 = .ok (.bipush 10, 2) := by decide +kernel
theorem dX7_isTells_30 : decode cX7_isTells 30 = .ok (.irem, 1) := by decide +kernel
theorem dX7_isTells_31 : decode cX7_isTells 31 = .ok (.invokevirtual 79, 3) := by decide +kernel
theorem dX7_isTells_34 : decode cX7_isTells 34 = .ok (.ifCond .eq 7, 3) := by decide +kernel
theorem dX7_isTells_37 : decode cX7_isTells 37 = .ok (.iconst 1, 1) := by decide +kernel
theorem dX7_isTells_38 : decode cX7_isTells 38 = .ok (.goto 4, 3) := by decide +kernel
theorem dX7_isTells_41 : decode cX7_isTells 41 = .ok (.iconst 0, 1) := by decide +kernel
theorem dX7_isTells_42 : decode cX7_isTells 42 = .ok (.ireturn, 1) := by decide +kernel
theorem dX7_bitsOf_0 : decode cX7_bitsOf 0 = .ok (.iconst 0, 1) := by decide +kernel
theorem dX7_bitsOf_1 : decode cX7_bitsOf 1 = .ok (.istore_n 1, 1) := by decide +kernel
theorem dX7_bitsOf_2 : decode cX7_bitsOf 2 = .ok (.iload_n 0, 1) := by decide +kernel
theorem dX7_bitsOf_3 : decode cX7_bitsOf 3 = .ok (.istore_n 2, 1) := by decide +kernel
theorem dX7_bitsOf_4 : decode cX7_bitsOf 4 = .ok (.iload_n 2, 1) := by decide +kernel
theorem dX7_bitsOf_5 : decode cX7_bitsOf 5 = .ok (.ifCond .eq 15, 3) := by decide +kernel
theorem dX7_bitsOf_8 : decode cX7_bitsOf 8 = .ok (.iinc 1 1, 3) := by decide +kernel
theorem dX7_bitsOf_11 : decode cX7_bitsOf 11 = .ok (.iload_n 2, 1) := by decide +kernel
theorem dX7_bitsOf_12 : decode cX7_bitsOf 12 = .ok (.iload_n 2, 1) := by decide +kernel
theorem dX7_bitsOf_13 : decode cX7_bitsOf 13 = .ok (.iconst 1, 1) := by decide +kernel
theorem dX7_bitsOf_14 : decode cX7_bitsOf 14 = .ok (.isub, 1) := by decide +kernel
theorem dX7_bitsOf_15 : decode cX7_bitsOf 15 = .ok (.iand, 1) := by decide +kernel
theorem dX7_bitsOf_16 : decode cX7_bitsOf 16 = .ok (.istore_n 2, 1) := by decide +kernel
theorem dX7_bitsOf_17 : decode cX7_bitsOf 17 = .ok (.goto (-13), 3) := by decide +kernel
theorem dX7_bitsOf_20 : decode cX7_bitsOf 20 = .ok (.iload_n 1, 1) := by decide +kernel
theorem dX7_bitsOf_21 : decode cX7_bitsOf 21 = .ok (.ireturn, 1) := by decide +kernel
theorem dX7_tells_0 : decode cX7_tells 0 = .ok (.iload_n 1, 1) := by decide +kernel
theorem dX7_tells_1 : decode cX7_tells 1 = .ok (.iconst 3, 1) := by decide +kernel
theorem dX7_tells_2 : decode cX7_tells 2 = .ok (.if_icmp .ge 34, 3) := by decide +kernel
theorem dX7_tells_5 : decode cX7_tells 5 = .ok (.iload_n 1, 1) := by decide +kernel
theorem dX7_tells_6 : decode cX7_tells 6 = .ok (.ifCond .ne 10, 3) := by decide +kernel
theorem dX7_tells_9 : decode cX7_tells 9 = .ok (.aload_n 0, 1) := by decide +kernel
theorem dX7_tells_10 : decode cX7_tells 10 = .ok (.getfield 248, 3) := by decide +kernel
theorem dX7_tells_13 : decode cX7_tells 13 = .ok (.goto 22, 3) := by decide +kernel
theorem dX7_tells_16 : decode cX7_tells 16 = .ok (.iload_n 1, 1) := by decide +kernel
theorem dX7_tells_17 : decode cX7_tells 17 = .ok (.iconst 1, 1) := by decide +kernel
theorem dX7_tells_18 : decode cX7_tells 18 = .ok (.if_icmp .ne 13, 3) := by decide +kernel
theorem dX7_tells_21 : decode cX7_tells 21 = .ok (.aload_n 0, 1) := by decide +kernel
theorem dX7_tells_22 : decode cX7_tells 22 = .ok (.getfield 251, 3) := by decide +kernel
theorem dX7_tells_25 : decode cX7_tells 25 = .ok (.invokestatic 288, 3) := by decide +kernel
theorem dX7_tells_28 : decode cX7_tells 28 = .ok (.goto 7, 3) := by decide +kernel
theorem dX7_tells_31 : decode cX7_tells 31 = .ok (.aload_n 0, 1) := by decide +kernel
theorem dX7_tells_32 : decode cX7_tells 32 = .ok (.getfield 251, 3) := by decide +kernel
theorem dX7_tells_35 : decode cX7_tells 35 = .ok (.ireturn, 1) := by decide +kernel
theorem dX7_tells_36 : decode cX7_tells 36 = .ok (.iload_n 1, 1) := by decide +kernel
theorem dX7_tells_37 : decode cX7_tells 37 = .ok (.iconst 5, 1) := by decide +kernel
theorem dX7_tells_38 : decode cX7_tells 38 = .ok (.if_icmp .ge 36, 3) := by decide +kernel
theorem dX7_tells_41 : decode cX7_tells 41 = .ok (.iload_n 1, 1) := by decide +kernel
theorem dX7_tells_42 : decode cX7_tells 42 = .ok (.iconst 4, 1) := by decide +kernel
theorem dX7_tells_43 : decode cX7_tells 43 = .ok (.if_icmp .ne 10, 3) := by decide +kernel
theorem dX7_tells_46 : decode cX7_tells 46 = .ok (.aload_n 0, 1) := by decide +kernel
theorem dX7_tells_47 : decode cX7_tells 47 = .ok (.getfield 254, 3) := by decide +kernel
theorem dX7_tells_50 : decode cX7_tells 50 = .ok (.goto 23, 3) := by decide +kernel
theorem dX7_tells_53 : decode cX7_tells 53 = .ok (.aload_n 0, 1) := by decide +kernel
theorem dX7_tells_54 : decode cX7_tells 54 = .ok (.getfield 245, 3) := by decide +kernel
theorem dX7_tells_57 : decode cX7_tells 57 = .ok (.sipush 200, 3) := by decide +kernel
theorem dX7_tells_60 : decode cX7_tells 60 = .ok (.if_icmp .le 9, 3) := by decide +kernel
theorem dX7_tells_63 : decode cX7_tells 63 = .ok (.sipush 200, 3) := by decide +kernel
theorem dX7_tells_66 : decode cX7_tells 66 = .ok (.goto 7, 3) := by decide +kernel
theorem dX7_tells_69 : decode cX7_tells 69 = .ok (.aload_n 0, 1) := by decide +kernel
theorem dX7_tells_70 : decode cX7_tells 70 = .ok (.getfield 245, 3) := by decide +kernel
theorem dX7_tells_73 : decode cX7_tells 73 = .ok (.ireturn, 1) := by decide +kernel
theorem dX7_tells_74 : decode cX7_tells 74 = .ok (.iload_n 1, 1) := by decide +kernel
theorem dX7_tells_75 : decode cX7_tells 75 = .ok (.bipush 20, 2) := by decide +kernel
theorem dX7_tells_77 : decode cX7_tells 77 = .ok (.if_icmp .ge 15, 3) := by decide +kernel
theorem dX7_tells_80 : decode cX7_tells 80 = .ok (.aload_n 0, 1) := by decide +kernel
theorem dX7_tells_81 : decode cX7_tells 81 = .ok (.getfield 32, 3) := by decide +kernel
theorem dX7_tells_84 : decode cX7_tells 84 = .ok (.iload_n 1, 1) := by decide +kernel
theorem dX7_tells_85 : decode cX7_tells 85 = .ok (.bipush 10, 2) := by decide +kernel
theorem dX7_tells_87 : decode cX7_tells 87 = .ok (.isub, 1) := by decide +kernel
theorem dX7_tells_88 : decode cX7_tells 88 = .ok (.iaload, 1) := by decide +kernel
theorem dX7_tells_89 : decode cX7_tells 89 = .ok (.goto 12, 3) := by decide +kernel
theorem dX7_tells_92 : decode cX7_tells 92 = .ok (.aload_n 0, 1) := by decide +kernel
theorem dX7_tells_93 : decode cX7_tells 93 = .ok (.getfield 35, 3) := by decide +kernel
theorem dX7_tells_96 : decode cX7_tells 96 = .ok (.iload_n 1, 1) := by decide +kernel
theorem dX7_tells_97 : decode cX7_tells 97 = .ok (.bipush 20, 2) := by decide +kernel
theorem dX7_tells_99 : decode cX7_tells 99 = .ok (.isub, 1) := by decide +kernel
theorem dX7_tells_100 : decode cX7_tells 100 = .ok (.iaload, 1) := by decide +kernel
theorem dX7_tells_101 : decode cX7_tells 101 = .ok (.ireturn, 1) := by decide +kernel
theorem dX7_night_0 : decode cX7_night 0 = .ok (.aload_n 0, 1) := by decide +kernel
theorem dX7_night_1 : decode cX7_night 1 = .ok (.iload_n 1, 1) := by decide +kernel
theorem dX7_night_2 : decode cX7_night 2 = .ok (.invokevirtual 291, 3) := by decide +kernel
theorem dX7_night_5 : decode cX7_night 5 = .ok (.ifCond .ne 7, 3) := by decide +kernel
theorem dX7_night_8 : decode cX7_night 8 = .ok (.ldc_w 294, 3) := by decide +kernel
theorem dX7_night_11 : decode cX7_night 11 = .ok (.ireturn, 1) := by decide +kernel
theorem dX7_night_12 : decode cX7_night 12 = .ok (.aload_n 0, 1) := by decide +kernel
theorem dX7_night_13 : decode cX7_night 13 = .ok (.invokevirtual 295, 3) := by decide +kernel
theorem dX7_night_16 : decode cX7_night 16 = .ok (.aload_n 0, 1) := by decide +kernel
theorem dX7_night_17 : decode cX7_night 17 = .ok (.iload_n 1, 1) := by decide +kernel
theorem dX7_night_18 : decode cX7_night 18 = .ok (.invokevirtual 298, 3) := by decide +kernel
theorem dX7_night_21 : decode cX7_night 21 = .ok (.ireturn, 1) := by decide +kernel
theorem dX7_goesBy_0 : decode cX7_goesBy 0 = .ok (.aload_n 0, 1) := by decide +kernel
theorem dX7_goesBy_1 : decode cX7_goesBy 1 = .ok (.getfield 57, 3) := by decide +kernel
theorem dX7_goesBy_4 : decode cX7_goesBy 4 = .ok (.iload_n 1, 1) := by decide +kernel
theorem dX7_goesBy_5 : decode cX7_goesBy 5 = .ok (.iaload, 1) := by decide +kernel
theorem dX7_goesBy_6 : decode cX7_goesBy 6 = .ok (.aload_n 0, 1) := by decide +kernel
theorem dX7_goesBy_7 : decode cX7_goesBy 7 = .ok (.getfield 70, 3) := by decide +kernel
theorem dX7_goesBy_10 : decode cX7_goesBy 10 = .ok (.if_icmp .eq 5, 3) := by decide +kernel
theorem dX7_goesBy_13 : decode cX7_goesBy 13 = .ok (.iconst 0, 1) := by decide +kernel
theorem dX7_goesBy_14 : decode cX7_goesBy 14 = .ok (.ireturn, 1) := by decide +kernel
theorem dX7_goesBy_15 : decode cX7_goesBy 15 = .ok (.iconst 0, 1) := by decide +kernel
theorem dX7_goesBy_16 : decode cX7_goesBy 16 = .ok (.istore_n 2, 1) := by decide +kernel
theorem dX7_goesBy_17 : decode cX7_goesBy 17 = .ok (.iconst 0, 1) := by decide +kernel
theorem dX7_goesBy_18 : decode cX7_goesBy 18 = .ok (.istore_n 3, 1) := by decide +kernel
theorem dX7_goesBy_19 : decode cX7_goesBy 19 = .ok (.iload_n 3, 1) := by decide +kernel
theorem dX7_goesBy_20 : decode cX7_goesBy 20 = .ok (.aload_n 0, 1) := by decide +kernel
theorem dX7_goesBy_21 : decode cX7_goesBy 21 = .ok (.getfield 70, 3) := by decide +kernel
theorem dX7_goesBy_24 : decode cX7_goesBy 24 = .ok (.if_icmp .ge 50, 3) := by decide +kernel
theorem dX7_goesBy_27 : decode cX7_goesBy 27 = .ok (.aload_n 0, 1) := by decide +kernel
theorem dX7_goesBy_28 : decode cX7_goesBy 28 = .ok (.getfield 60, 3) := by decide +kernel
theorem dX7_goesBy_31 : decode cX7_goesBy 31 = .ok (.bipush 40, 2) := by decide +kernel
theorem dX7_goesBy_33 : decode cX7_goesBy 33 = .ok (.iload_n 1, 1) := by decide +kernel
theorem dX7_goesBy_34 : decode cX7_goesBy 34 = .ok (.imul, 1) := by decide +kernel
theorem dX7_goesBy_35 : decode cX7_goesBy 35 = .ok (.iload_n 3, 1) := by decide +kernel
theorem dX7_goesBy_36 : decode cX7_goesBy 36 = .ok (.iadd, 1) := by decide +kernel
theorem dX7_goesBy_37 : decode cX7_goesBy 37 = .ok (.iaload, 1) := by decide +kernel
theorem dX7_goesBy_38 : decode cX7_goesBy 38 = .ok (.istore 4, 2) := by decide +kernel
theorem dX7_goesBy_40 : decode cX7_goesBy 40 = .ok (.aload_n 0, 1) := by decide +kernel
theorem dX7_goesBy_41 : decode cX7_goesBy 41 = .ok (.iload 4, 2) := by decide +kernel
theorem dX7_goesBy_43 : decode cX7_goesBy 43 = .ok (.invokevirtual 79, 3) := by decide +kernel
theorem dX7_goesBy_46 : decode cX7_goesBy 46 = .ok (.ifCond .eq 13, 3) := by decide +kernel
theorem dX7_goesBy_49 : decode cX7_goesBy 49 = .ok (.iload_n 2, 1) := by decide +kernel
theorem dX7_goesBy_50 : decode cX7_goesBy 50 = .ok (.iload 4, 2) := by decide +kernel
theorem dX7_goesBy_52 : decode cX7_goesBy 52 = .ok (.ishr, 1) := by decide +kernel
theorem dX7_goesBy_53 : decode cX7_goesBy 53 = .ok (.iconst 1, 1) := by decide +kernel
theorem dX7_goesBy_54 : decode cX7_goesBy 54 = .ok (.iand, 1) := by decide +kernel
theorem dX7_goesBy_55 : decode cX7_goesBy 55 = .ok (.iconst 1, 1) := by decide +kernel
theorem dX7_goesBy_56 : decode cX7_goesBy 56 = .ok (.if_icmp .ne 5, 3) := by decide +kernel
theorem dX7_goesBy_59 : decode cX7_goesBy 59 = .ok (.iconst 0, 1) := by decide +kernel
theorem dX7_goesBy_60 : decode cX7_goesBy 60 = .ok (.ireturn, 1) := by decide +kernel
theorem dX7_goesBy_61 : decode cX7_goesBy 61 = .ok (.iload_n 2, 1) := by decide +kernel
theorem dX7_goesBy_62 : decode cX7_goesBy 62 = .ok (.iconst 1, 1) := by decide +kernel
theorem dX7_goesBy_63 : decode cX7_goesBy 63 = .ok (.iload 4, 2) := by decide +kernel
theorem dX7_goesBy_65 : decode cX7_goesBy 65 = .ok (.ishl, 1) := by decide +kernel
theorem dX7_goesBy_66 : decode cX7_goesBy 66 = .ok (.ior, 1) := by decide +kernel
theorem dX7_goesBy_67 : decode cX7_goesBy 67 = .ok (.istore_n 2, 1) := by decide +kernel
theorem dX7_goesBy_68 : decode cX7_goesBy 68 = .ok (.iinc 3 1, 3) := by decide +kernel
theorem dX7_goesBy_71 : decode cX7_goesBy 71 = .ok (.goto (-52), 3) := by decide +kernel
theorem dX7_goesBy_74 : decode cX7_goesBy 74 = .ok (.aload_n 0, 1) := by decide +kernel
theorem dX7_goesBy_75 : decode cX7_goesBy 75 = .ok (.invokevirtual 270, 3) := by decide +kernel
theorem dX7_goesBy_78 : decode cX7_goesBy 78 = .ok (.iconst 0, 1) := by decide +kernel
theorem dX7_goesBy_79 : decode cX7_goesBy 79 = .ok (.istore_n 3, 1) := by decide +kernel
theorem dX7_goesBy_80 : decode cX7_goesBy 80 = .ok (.iload_n 3, 1) := by decide +kernel
theorem dX7_goesBy_81 : decode cX7_goesBy 81 = .ok (.aload_n 0, 1) := by decide +kernel
theorem dX7_goesBy_82 : decode cX7_goesBy 82 = .ok (.getfield 70, 3) := by decide +kernel
theorem dX7_goesBy_85 : decode cX7_goesBy 85 = .ok (.if_icmp .ge 25, 3) := by decide +kernel
theorem dX7_goesBy_88 : decode cX7_goesBy 88 = .ok (.aload_n 0, 1) := by decide +kernel
theorem dX7_goesBy_89 : decode cX7_goesBy 89 = .ok (.aload_n 0, 1) := by decide +kernel
theorem dX7_goesBy_90 : decode cX7_goesBy 90 = .ok (.getfield 60, 3) := by decide +kernel
theorem dX7_goesBy_93 : decode cX7_goesBy 93 = .ok (.bipush 40, 2) := by decide +kernel
theorem dX7_goesBy_95 : decode cX7_goesBy 95 = .ok (.iload_n 1, 1) := by decide +kernel
theorem dX7_goesBy_96 : decode cX7_goesBy 96 = .ok (.imul, 1) := by decide +kernel
theorem dX7_goesBy_97 : decode cX7_goesBy 97 = .ok (.iload_n 3, 1) := by decide +kernel
theorem dX7_goesBy_98 : decode cX7_goesBy 98 = .ok (.iadd, 1) := by decide +kernel
theorem dX7_goesBy_99 : decode cX7_goesBy 99 = .ok (.iaload, 1) := by decide +kernel
theorem dX7_goesBy_100 : decode cX7_goesBy 100 = .ok (.iload_n 3, 1) := by decide +kernel
theorem dX7_goesBy_101 : decode cX7_goesBy 101 = .ok (.invokevirtual 273, 3) := by decide +kernel
theorem dX7_goesBy_104 : decode cX7_goesBy 104 = .ok (.iinc 3 1, 3) := by decide +kernel
theorem dX7_goesBy_107 : decode cX7_goesBy 107 = .ok (.goto (-27), 3) := by decide +kernel
theorem dX7_goesBy_110 : decode cX7_goesBy 110 = .ok (.iconst 1, 1) := by decide +kernel
theorem dX7_goesBy_111 : decode cX7_goesBy 111 = .ok (.ireturn, 1) := by decide +kernel
theorem dX7_order_0 : decode cX7_order 0 = .ok (.iload_n 1, 1) := by decide +kernel
theorem dX7_order_1 : decode cX7_order 1 = .ok (.invokestatic 301, 3) := by decide +kernel
theorem dX7_order_4 : decode cX7_order 4 = .ok (.ifCond .eq 28, 3) := by decide +kernel
theorem dX7_order_7 : decode cX7_order 7 = .ok (.aload_n 0, 1) := by decide +kernel
theorem dX7_order_8 : decode cX7_order 8 = .ok (.iload_n 2, 1) := by decide +kernel
theorem dX7_order_9 : decode cX7_order 9 = .ok (.invokevirtual 291, 3) := by decide +kernel
theorem dX7_order_12 : decode cX7_order 12 = .ok (.ifCond .eq 20, 3) := by decide +kernel
theorem dX7_order_15 : decode cX7_order 15 = .ok (.aload_n 0, 1) := by decide +kernel
theorem dX7_order_16 : decode cX7_order 16 = .ok (.getfield 50, 3) := by decide +kernel
theorem dX7_order_19 : decode cX7_order 19 = .ok (.iload_n 1, 1) := by decide +kernel
theorem dX7_order_20 : decode cX7_order 20 = .ok (.baload, 1) := by decide +kernel
theorem dX7_order_21 : decode cX7_order 21 = .ok (.ifCond .eq 11, 3) := by decide +kernel
theorem dX7_order_24 : decode cX7_order 24 = .ok (.aload_n 0, 1) := by decide +kernel
theorem dX7_order_25 : decode cX7_order 25 = .ok (.iload_n 1, 1) := by decide +kernel
theorem dX7_order_26 : decode cX7_order 26 = .ok (.invokevirtual 304, 3) := by decide +kernel
theorem dX7_order_29 : decode cX7_order 29 = .ok (.ifCond .ne 7, 3) := by decide +kernel
theorem dX7_order_32 : decode cX7_order 32 = .ok (.ldc_w 294, 3) := by decide +kernel
theorem dX7_order_35 : decode cX7_order 35 = .ok (.ireturn, 1) := by decide +kernel
theorem dX7_order_36 : decode cX7_order 36 = .ok (.aload_n 0, 1) := by decide +kernel
theorem dX7_order_37 : decode cX7_order 37 = .ok (.iload_n 2, 1) := by decide +kernel
theorem dX7_order_38 : decode cX7_order 38 = .ok (.invokevirtual 298, 3) := by decide +kernel
theorem dX7_order_41 : decode cX7_order 41 = .ok (.ireturn, 1) := by decide +kernel
theorem dX7_triesFrom_0 : decode cX7_triesFrom 0 = .ok (.iload_n 1, 1) := by decide +kernel
theorem dX7_triesFrom_1 : decode cX7_triesFrom 1 = .ok (.aload_n 0, 1) := by decide +kernel
theorem dX7_triesFrom_2 : decode cX7_triesFrom 2 = .ok (.getfield 70, 3) := by decide +kernel
theorem dX7_triesFrom_5 : decode cX7_triesFrom 5 = .ok (.if_icmp .ne 36, 3) := by decide +kernel
theorem dX7_triesFrom_8 : decode cX7_triesFrom 8 = .ok (.aload_n 0, 1) := by decide +kernel
theorem dX7_triesFrom_9 : decode cX7_triesFrom 9 = .ok (.getfield 307, 3) := by decide +kernel
theorem dX7_triesFrom_12 : decode cX7_triesFrom 12 = .ok (.iconst (-1), 1) := by decide +kernel
theorem dX7_triesFrom_13 : decode cX7_triesFrom 13 = .ok (.if_icmp .eq 14, 3) := by decide +kernel
theorem dX7_triesFrom_16 : decode cX7_triesFrom 16 = .ok (.aload_n 0, 1) := by decide +kernel
theorem dX7_triesFrom_17 : decode cX7_triesFrom 17 = .ok (.getfield 248, 3) := by decide +kernel
theorem dX7_triesFrom_20 : decode cX7_triesFrom 20 = .ok (.aload_n 0, 1) := by decide +kernel
theorem dX7_triesFrom_21 : decode cX7_triesFrom 21 = .ok (.getfield 310, 3) := by decide +kernel
theorem dX7_triesFrom_24 : decode cX7_triesFrom 24 = .ok (.if_icmp .le 16, 3) := by decide +kernel
theorem dX7_triesFrom_27 : decode cX7_triesFrom 27 = .ok (.aload_n 0, 1) := by decide +kernel
theorem dX7_triesFrom_28 : decode cX7_triesFrom 28 = .ok (.aload_n 0, 1) := by decide +kernel
theorem dX7_triesFrom_29 : decode cX7_triesFrom 29 = .ok (.getfield 248, 3) := by decide +kernel
theorem dX7_triesFrom_32 : decode cX7_triesFrom 32 = .ok (.putfield 310, 3) := by decide +kernel
theorem dX7_triesFrom_35 : decode cX7_triesFrom 35 = .ok (.aload_n 0, 1) := by decide +kernel
theorem dX7_triesFrom_36 : decode cX7_triesFrom 36 = .ok (.iload_n 3, 1) := by decide +kernel
theorem dX7_triesFrom_37 : decode cX7_triesFrom 37 = .ok (.putfield 307, 3) := by decide +kernel
theorem dX7_triesFrom_40 : decode cX7_triesFrom 40 = .ok (.return_, 1) := by decide +kernel
theorem dX7_triesFrom_41 : decode cX7_triesFrom 41 = .ok (.aload_n 0, 1) := by decide +kernel
theorem dX7_triesFrom_42 : decode cX7_triesFrom 42 = .ok (.getfield 242, 3) := by decide +kernel
theorem dX7_triesFrom_45 : decode cX7_triesFrom 45 = .ok (.istore 4, 2) := by decide +kernel
theorem dX7_triesFrom_47 : decode cX7_triesFrom 47 = .ok (.aload_n 0, 1) := by decide +kernel
theorem dX7_triesFrom_48 : decode cX7_triesFrom 48 = .ok (.getfield 245, 3) := by decide +kernel
theorem dX7_triesFrom_51 : decode cX7_triesFrom 51 = .ok (.istore 5, 2) := by decide +kernel
theorem dX7_triesFrom_53 : decode cX7_triesFrom 53 = .ok (.aload_n 0, 1) := by decide +kernel
theorem dX7_triesFrom_54 : decode cX7_triesFrom 54 = .ok (.getfield 248, 3) := by decide +kernel
theorem dX7_triesFrom_57 : decode cX7_triesFrom 57 = .ok (.istore 6, 2) := by decide +kernel
theorem dX7_triesFrom_59 : decode cX7_triesFrom 59 = .ok (.iconst 0, 1) := by decide +kernel
theorem dX7_triesFrom_60 : decode cX7_triesFrom 60 = .ok (.istore 7, 2) := by decide +kernel
theorem dX7_triesFrom_62 : decode cX7_triesFrom 62 = .ok (.iload 7, 2) := by decide +kernel
theorem dX7_triesFrom_64 : decode cX7_triesFrom 64 = .ok (.aload_n 0, 1) := by decide +kernel
theorem dX7_triesFrom_65 : decode cX7_triesFrom 65 = .ok (.getfield 70, 3) := by decide +kernel
theorem dX7_triesFrom_68 : decode cX7_triesFrom 68 = .ok (.if_icmp .ge 65, 3) := by decide +kernel
theorem dX7_triesFrom_71 : decode cX7_triesFrom 71 = .ok (.iload_n 2, 1) := by decide +kernel
theorem dX7_triesFrom_72 : decode cX7_triesFrom 72 = .ok (.iload 7, 2) := by decide +kernel
theorem dX7_triesFrom_74 : decode cX7_triesFrom 74 = .ok (.ishr, 1) := by decide +kernel
theorem dX7_triesFrom_75 : decode cX7_triesFrom 75 = .ok (.iconst 1, 1) := by decide +kernel
theorem dX7_triesFrom_76 : decode cX7_triesFrom 76 = .ok (.iand, 1) := by decide +kernel
theorem dX7_triesFrom_77 : decode cX7_triesFrom 77 = .ok (.ifCond .ne 50, 3) := by decide +kernel
theorem dX7_triesFrom_80 : decode cX7_triesFrom 80 = .ok (.aload_n 0, 1) := by decide +kernel
theorem dX7_triesFrom_81 : decode cX7_triesFrom 81 = .ok (.iload 4, 2) := by decide +kernel
theorem dX7_triesFrom_83 : decode cX7_triesFrom 83 = .ok (.putfield 242, 3) := by decide +kernel
theorem dX7_triesFrom_86 : decode cX7_triesFrom 86 = .ok (.aload_n 0, 1) := by decide +kernel
theorem dX7_triesFrom_87 : decode cX7_triesFrom 87 = .ok (.iload 5, 2) := by decide +kernel
theorem dX7_triesFrom_89 : decode cX7_triesFrom 89 = .ok (.putfield 245, 3) := by decide +kernel
theorem dX7_triesFrom_92 : decode cX7_triesFrom 92 = .ok (.aload_n 0, 1) := by decide +kernel
theorem dX7_triesFrom_93 : decode cX7_triesFrom 93 = .ok (.iload 6, 2) := by decide +kernel
theorem dX7_triesFrom_95 : decode cX7_triesFrom 95 = .ok (.putfield 248, 3) := by decide +kernel
theorem dX7_triesFrom_98 : decode cX7_triesFrom 98 = .ok (.aload_n 0, 1) := by decide +kernel
theorem dX7_triesFrom_99 : decode cX7_triesFrom 99 = .ok (.iload 7, 2) := by decide +kernel
theorem dX7_triesFrom_101 : decode cX7_triesFrom 101 = .ok (.iload_n 1, 1) := by decide +kernel
theorem dX7_triesFrom_102 : decode cX7_triesFrom 102 = .ok (.invokevirtual 273, 3) := by decide +kernel
theorem dX7_triesFrom_105 : decode cX7_triesFrom 105 = .ok (.aload_n 0, 1) := by decide +kernel
theorem dX7_triesFrom_106 : decode cX7_triesFrom 106 = .ok (.iload_n 1, 1) := by decide +kernel
theorem dX7_triesFrom_107 : decode cX7_triesFrom 107 = .ok (.iconst 1, 1) := by decide +kernel
theorem dX7_triesFrom_108 : decode cX7_triesFrom 108 = .ok (.iadd, 1) := by decide +kernel
theorem dX7_triesFrom_109 : decode cX7_triesFrom 109 = .ok (.iload_n 2, 1) := by decide +kernel
theorem dX7_triesFrom_110 : decode cX7_triesFrom 110 = .ok (.iconst 1, 1) := by decide +kernel
theorem dX7_triesFrom_111 : decode cX7_triesFrom 111 = .ok (.iload 7, 2) := by decide +kernel
theorem dX7_triesFrom_113 : decode cX7_triesFrom 113 = .ok (.ishl, 1) := by decide +kernel
theorem dX7_triesFrom_114 : decode cX7_triesFrom 114 = .ok (.ior, 1) := by decide +kernel
theorem dX7_triesFrom_115 : decode cX7_triesFrom 115 = .ok (.bipush 10, 2) := by decide +kernel
theorem dX7_triesFrom_117 : decode cX7_triesFrom 117 = .ok (.iload_n 3, 1) := by decide +kernel
theorem dX7_triesFrom_118 : decode cX7_triesFrom 118 = .ok (.imul, 1) := by decide +kernel
theorem dX7_triesFrom_119 : decode cX7_triesFrom 119 = .ok (.iload 7, 2) := by decide +kernel
theorem dX7_triesFrom_121 : decode cX7_triesFrom 121 = .ok (.iadd, 1) := by decide +kernel
theorem dX7_triesFrom_122 : decode cX7_triesFrom 122 = .ok (.iconst 1, 1) := by decide +kernel
theorem dX7_triesFrom_123 : decode cX7_triesFrom 123 = .ok (.iadd, 1) := by decide +kernel
theorem dX7_triesFrom_124 : decode cX7_triesFrom 124 = .ok (.invokevirtual 313, 3) := by decide +kernel
theorem dX7_triesFrom_127 : decode cX7_triesFrom 127 = .ok (.iinc 7 1, 3) := by decide +kernel
theorem dX7_triesFrom_130 : decode cX7_triesFrom 130 = .ok (.goto (-68), 3) := by decide +kernel
theorem dX7_triesFrom_133 : decode cX7_triesFrom 133 = .ok (.return_, 1) := by decide +kernel
theorem dX7_best_0 : decode cX7_best 0 = .ok (.iload_n 1, 1) := by decide +kernel
theorem dX7_best_1 : decode cX7_best 1 = .ok (.i2l, 1) := by decide +kernel
theorem dX7_best_2 : decode cX7_best 2 = .ok (.lconst 0, 1) := by decide +kernel
theorem dX7_best_3 : decode cX7_best 3 = .ok (.lconst 1, 1) := by decide +kernel
theorem dX7_best_4 : decode cX7_best 4 = .ok (.invokestatic 73, 3) := by decide +kernel
theorem dX7_best_7 : decode cX7_best 7 = .ok (.ifCond .ne 7, 3) := by decide +kernel
theorem dX7_best_10 : decode cX7_best 10 = .ok (.ldc_w 294, 3) := by decide +kernel
theorem dX7_best_13 : decode cX7_best 13 = .ok (.ireturn, 1) := by decide +kernel
theorem dX7_best_14 : decode cX7_best 14 = .ok (.aload_n 0, 1) := by decide +kernel
theorem dX7_best_15 : decode cX7_best 15 = .ok (.invokevirtual 270, 3) := by decide +kernel
theorem dX7_best_18 : decode cX7_best 18 = .ok (.aload_n 0, 1) := by decide +kernel
theorem dX7_best_19 : decode cX7_best 19 = .ok (.iconst (-1), 1) := by decide +kernel
theorem dX7_best_20 : decode cX7_best 20 = .ok (.putfield 307, 3) := by decide +kernel
theorem dX7_best_23 : decode cX7_best 23 = .ok (.aload_n 0, 1) := by decide +kernel
theorem dX7_best_24 : decode cX7_best 24 = .ok (.iconst 0, 1) := by decide +kernel
theorem dX7_best_25 : decode cX7_best 25 = .ok (.iconst 0, 1) := by decide +kernel
theorem dX7_best_26 : decode cX7_best 26 = .ok (.iconst 0, 1) := by decide +kernel
theorem dX7_best_27 : decode cX7_best 27 = .ok (.invokevirtual 313, 3) := by decide +kernel
theorem dX7_best_30 : decode cX7_best 30 = .ok (.iload_n 1, 1) := by decide +kernel
theorem dX7_best_31 : decode cX7_best 31 = .ok (.ifCond .ne 10, 3) := by decide +kernel
theorem dX7_best_34 : decode cX7_best 34 = .ok (.aload_n 0, 1) := by decide +kernel
theorem dX7_best_35 : decode cX7_best 35 = .ok (.getfield 310, 3) := by decide +kernel
theorem dX7_best_38 : decode cX7_best 38 = .ok (.goto 7, 3) := by decide +kernel
theorem dX7_best_41 : decode cX7_best 41 = .ok (.aload_n 0, 1) := by decide +kernel
theorem dX7_best_42 : decode cX7_best 42 = .ok (.getfield 307, 3) := by decide +kernel
theorem dX7_best_45 : decode cX7_best 45 = .ok (.ireturn, 1) := by decide +kernel
theorem dX7_setting_0 : decode cX7_setting 0 = .ok (.iload_n 1, 1) := by decide +kernel
theorem dX7_setting_1 : decode cX7_setting 1 = .ok (.i2l, 1) := by decide +kernel
theorem dX7_setting_2 : decode cX7_setting 2 = .ok (.lconst 0, 1) := by decide +kernel
theorem dX7_setting_3 : decode cX7_setting 3 = .ok (.lconst 1, 1) := by decide +kernel
theorem dX7_setting_4 : decode cX7_setting 4 = .ok (.invokestatic 73, 3) := by decide +kernel
theorem dX7_setting_7 : decode cX7_setting 7 = .ok (.ifCond .ne 7, 3) := by decide +kernel
theorem dX7_setting_10 : decode cX7_setting 10 = .ok (.ldc_w 294, 3) := by decide +kernel
theorem dX7_setting_13 : decode cX7_setting 13 = .ok (.ireturn, 1) := by decide +kernel
theorem dX7_setting_14 : decode cX7_setting 14 = .ok (.aload_n 0, 1) := by decide +kernel
theorem dX7_setting_15 : decode cX7_setting 15 = .ok (.invokevirtual 270, 3) := by decide +kernel
theorem dX7_setting_18 : decode cX7_setting 18 = .ok (.iconst 0, 1) := by decide +kernel
theorem dX7_setting_19 : decode cX7_setting 19 = .ok (.istore_n 2, 1) := by decide +kernel
theorem dX7_setting_20 : decode cX7_setting 20 = .ok (.iconst 0, 1) := by decide +kernel
theorem dX7_setting_21 : decode cX7_setting 21 = .ok (.istore_n 3, 1) := by decide +kernel
theorem dX7_setting_22 : decode cX7_setting 22 = .ok (.iconst 0, 1) := by decide +kernel
theorem dX7_setting_23 : decode cX7_setting 23 = .ok (.istore 4, 2) := by decide +kernel
theorem dX7_setting_25 : decode cX7_setting 25 = .ok (.iload 4, 2) := by decide +kernel
theorem dX7_setting_27 : decode cX7_setting 27 = .ok (.aload_n 0, 1) := by decide +kernel
theorem dX7_setting_28 : decode cX7_setting 28 = .ok (.getfield 70, 3) := by decide +kernel
theorem dX7_setting_31 : decode cX7_setting 31 = .ok (.if_icmp .ge 96, 3) := by decide +kernel
theorem dX7_setting_34 : decode cX7_setting 34 = .ok (.iconst (-1), 1) := by decide +kernel
theorem dX7_setting_35 : decode cX7_setting 35 = .ok (.istore 5, 2) := by decide +kernel
theorem dX7_setting_37 : decode cX7_setting 37 = .ok (.iconst 0, 1) := by decide +kernel
theorem dX7_setting_38 : decode cX7_setting 38 = .ok (.istore 6, 2) := by decide +kernel
theorem dX7_setting_40 : decode cX7_setting 40 = .ok (.iload 6, 2) := by decide +kernel
theorem dX7_setting_42 : decode cX7_setting 42 = .ok (.aload_n 0, 1) := by decide +kernel
theorem dX7_setting_43 : decode cX7_setting 43 = .ok (.getfield 70, 3) := by decide +kernel
theorem dX7_setting_46 : decode cX7_setting 46 = .ok (.if_icmp .ge 50, 3) := by decide +kernel
theorem dX7_setting_49 : decode cX7_setting 49 = .ok (.iload_n 2, 1) := by decide +kernel
theorem dX7_setting_50 : decode cX7_setting 50 = .ok (.iload 6, 2) := by decide +kernel
theorem dX7_setting_52 : decode cX7_setting 52 = .ok (.ishr, 1) := by decide +kernel
theorem dX7_setting_53 : decode cX7_setting 53 = .ok (.iconst 1, 1) := by decide +kernel
theorem dX7_setting_54 : decode cX7_setting 54 = .ok (.iand, 1) := by decide +kernel
theorem dX7_setting_55 : decode cX7_setting 55 = .ok (.ifCond .ne 31, 3) := by decide +kernel
theorem dX7_setting_58 : decode cX7_setting 58 = .ok (.iload 5, 2) := by decide +kernel
theorem dX7_setting_60 : decode cX7_setting 60 = .ok (.iconst (-1), 1) := by decide +kernel
theorem dX7_setting_61 : decode cX7_setting 61 = .ok (.if_icmp .eq 20, 3) := by decide +kernel
theorem dX7_setting_64 : decode cX7_setting 64 = .ok (.aload_n 0, 1) := by decide +kernel
theorem dX7_setting_65 : decode cX7_setting 65 = .ok (.iload 6, 2) := by decide +kernel
theorem dX7_setting_67 : decode cX7_setting 67 = .ok (.iconst 3, 1) := by decide +kernel
theorem dX7_setting_68 : decode cX7_setting 68 = .ok (.invokevirtual 87, 3) := by decide +kernel
theorem dX7_setting_71 : decode cX7_setting 71 = .ok (.aload_n 0, 1) := by decide +kernel
theorem dX7_setting_72 : decode cX7_setting 72 = .ok (.iload 5, 2) := by decide +kernel
theorem dX7_setting_74 : decode cX7_setting 74 = .ok (.iconst 3, 1) := by decide +kernel
theorem dX7_setting_75 : decode cX7_setting 75 = .ok (.invokevirtual 87, 3) := by decide +kernel
theorem dX7_setting_78 : decode cX7_setting 78 = .ok (.if_icmp .ge 8, 3) := by decide +kernel
theorem dX7_setting_81 : decode cX7_setting 81 = .ok (.iload 6, 2) := by decide +kernel
theorem dX7_setting_83 : decode cX7_setting 83 = .ok (.goto 5, 3) := by decide +kernel
theorem dX7_setting_86 : decode cX7_setting 86 = .ok (.iload 5, 2) := by decide +kernel
theorem dX7_setting_88 : decode cX7_setting 88 = .ok (.istore 5, 2) := by decide +kernel
theorem dX7_setting_90 : decode cX7_setting 90 = .ok (.iinc 6 1, 3) := by decide +kernel
theorem dX7_setting_93 : decode cX7_setting 93 = .ok (.goto (-53), 3) := by decide +kernel
theorem dX7_setting_96 : decode cX7_setting 96 = .ok (.iload_n 2, 1) := by decide +kernel
theorem dX7_setting_97 : decode cX7_setting 97 = .ok (.iconst 1, 1) := by decide +kernel
theorem dX7_setting_98 : decode cX7_setting 98 = .ok (.iload 5, 2) := by decide +kernel
theorem dX7_setting_100 : decode cX7_setting 100 = .ok (.ishl, 1) := by decide +kernel
theorem dX7_setting_101 : decode cX7_setting 101 = .ok (.ior, 1) := by decide +kernel
theorem dX7_setting_102 : decode cX7_setting 102 = .ok (.istore_n 2, 1) := by decide +kernel
theorem dX7_setting_103 : decode cX7_setting 103 = .ok (.bipush 10, 2) := by decide +kernel
theorem dX7_setting_105 : decode cX7_setting 105 = .ok (.iload_n 3, 1) := by decide +kernel
theorem dX7_setting_106 : decode cX7_setting 106 = .ok (.imul, 1) := by decide +kernel
theorem dX7_setting_107 : decode cX7_setting 107 = .ok (.iload 5, 2) := by decide +kernel
theorem dX7_setting_109 : decode cX7_setting 109 = .ok (.iadd, 1) := by decide +kernel
theorem dX7_setting_110 : decode cX7_setting 110 = .ok (.iconst 1, 1) := by decide +kernel
theorem dX7_setting_111 : decode cX7_setting 111 = .ok (.iadd, 1) := by decide +kernel
theorem dX7_setting_112 : decode cX7_setting 112 = .ok (.istore_n 3, 1) := by decide +kernel
theorem dX7_setting_113 : decode cX7_setting 113 = .ok (.aload_n 0, 1) := by decide +kernel
theorem dX7_setting_114 : decode cX7_setting 114 = .ok (.iload 5, 2) := by decide +kernel
theorem dX7_setting_116 : decode cX7_setting 116 = .ok (.iload 4, 2) := by decide +kernel
theorem dX7_setting_118 : decode cX7_setting 118 = .ok (.invokevirtual 273, 3) := by decide +kernel
theorem dX7_setting_121 : decode cX7_setting 121 = .ok (.iinc 4 1, 3) := by decide +kernel
theorem dX7_setting_124 : decode cX7_setting 124 = .ok (.goto (-99), 3) := by decide +kernel
theorem dX7_setting_127 : decode cX7_setting 127 = .ok (.iload_n 1, 1) := by decide +kernel
theorem dX7_setting_128 : decode cX7_setting 128 = .ok (.ifCond .ne 10, 3) := by decide +kernel
theorem dX7_setting_131 : decode cX7_setting 131 = .ok (.aload_n 0, 1) := by decide +kernel
theorem dX7_setting_132 : decode cX7_setting 132 = .ok (.getfield 248, 3) := by decide +kernel
theorem dX7_setting_135 : decode cX7_setting 135 = .ok (.goto 4, 3) := by decide +kernel
theorem dX7_setting_138 : decode cX7_setting 138 = .ok (.iload_n 3, 1) := by decide +kernel
theorem dX7_setting_139 : decode cX7_setting 139 = .ok (.ireturn, 1) := by decide +kernel
theorem dX7_late_0 : decode cX7_late 0 = .ok (.aload_n 0, 1) := by decide +kernel
theorem dX7_late_1 : decode cX7_late 1 = .ok (.invokevirtual 295, 3) := by decide +kernel
theorem dX7_late_4 : decode cX7_late 4 = .ok (.aload_n 0, 1) := by decide +kernel
theorem dX7_late_5 : decode cX7_late 5 = .ok (.getfield 251, 3) := by decide +kernel
theorem dX7_late_8 : decode cX7_late 8 = .ok (.invokestatic 288, 3) := by decide +kernel
theorem dX7_late_11 : decode cX7_late 11 = .ok (.istore_n 1, 1) := by decide +kernel
theorem dX7_late_12 : decode cX7_late 12 = .ok (.aload_n 0, 1) := by decide +kernel
theorem dX7_late_13 : decode cX7_late 13 = .ok (.getfield 23, 3) := by decide +kernel
theorem dX7_late_16 : decode cX7_late 16 = .ok (.bipush 6, 2) := by decide +kernel
theorem dX7_late_18 : decode cX7_late 18 = .ok (.iaload, 1) := by decide +kernel
theorem dX7_late_19 : decode cX7_late 19 = .ok (.istore_n 2, 1) := by decide +kernel
theorem dX7_late_20 : decode cX7_late 20 = .ok (.iconst (-1), 1) := by decide +kernel
theorem dX7_late_21 : decode cX7_late 21 = .ok (.istore_n 3, 1) := by decide +kernel
theorem dX7_late_22 : decode cX7_late 22 = .ok (.iconst 0, 1) := by decide +kernel
theorem dX7_late_23 : decode cX7_late 23 = .ok (.istore 4, 2) := by decide +kernel
theorem dX7_late_25 : decode cX7_late 25 = .ok (.iload 4, 2) := by decide +kernel
theorem dX7_late_27 : decode cX7_late 27 = .ok (.sipush 200, 3) := by decide +kernel
theorem dX7_late_30 : decode cX7_late 30 = .ok (.if_icmp .ge 40, 3) := by decide +kernel
theorem dX7_late_33 : decode cX7_late 33 = .ok (.aload_n 0, 1) := by decide +kernel
theorem dX7_late_34 : decode cX7_late 34 = .ok (.getfield 23, 3) := by decide +kernel
theorem dX7_late_37 : decode cX7_late 37 = .ok (.bipush 6, 2) := by decide +kernel
theorem dX7_late_39 : decode cX7_late 39 = .ok (.iload 4, 2) := by decide +kernel
theorem dX7_late_41 : decode cX7_late 41 = .ok (.iastore, 1) := by decide +kernel
theorem dX7_late_42 : decode cX7_late 42 = .ok (.aload_n 0, 1) := by decide +kernel
theorem dX7_late_43 : decode cX7_late 43 = .ok (.invokevirtual 295, 3) := by decide +kernel
theorem dX7_late_46 : decode cX7_late 46 = .ok (.aload_n 0, 1) := by decide +kernel
theorem dX7_late_47 : decode cX7_late 47 = .ok (.getfield 251, 3) := by decide +kernel
theorem dX7_late_50 : decode cX7_late 50 = .ok (.invokestatic 288, 3) := by decide +kernel
theorem dX7_late_53 : decode cX7_late 53 = .ok (.iload_n 1, 1) := by decide +kernel
theorem dX7_late_54 : decode cX7_late 54 = .ok (.if_icmp .lt 8, 3) := by decide +kernel
theorem dX7_late_57 : decode cX7_late 57 = .ok (.iload 4, 2) := by decide +kernel
theorem dX7_late_59 : decode cX7_late 59 = .ok (.goto 4, 3) := by decide +kernel
theorem dX7_late_62 : decode cX7_late 62 = .ok (.iload_n 3, 1) := by decide +kernel
theorem dX7_late_63 : decode cX7_late 63 = .ok (.istore_n 3, 1) := by decide +kernel
theorem dX7_late_64 : decode cX7_late 64 = .ok (.iinc 4 1, 3) := by decide +kernel
theorem dX7_late_67 : decode cX7_late 67 = .ok (.goto (-42), 3) := by decide +kernel
theorem dX7_late_70 : decode cX7_late 70 = .ok (.aload_n 0, 1) := by decide +kernel
theorem dX7_late_71 : decode cX7_late 71 = .ok (.getfield 23, 3) := by decide +kernel
theorem dX7_late_74 : decode cX7_late 74 = .ok (.bipush 6, 2) := by decide +kernel
theorem dX7_late_76 : decode cX7_late 76 = .ok (.iload_n 2, 1) := by decide +kernel
theorem dX7_late_77 : decode cX7_late 77 = .ok (.iastore, 1) := by decide +kernel
theorem dX7_late_78 : decode cX7_late 78 = .ok (.iload_n 3, 1) := by decide +kernel
theorem dX7_late_79 : decode cX7_late 79 = .ok (.ireturn, 1) := by decide +kernel
theorem dX7_sleep_0 : decode cX7_sleep 0 = .ok (.iload_n 1, 1) := by decide +kernel
theorem dX7_sleep_1 : decode cX7_sleep 1 = .ok (.i2l, 1) := by decide +kernel
theorem dX7_sleep_2 : decode cX7_sleep 2 = .ok (.lconst 1, 1) := by decide +kernel
theorem dX7_sleep_3 : decode cX7_sleep 3 = .ok (.ldc2_w 98, 3) := by decide +kernel
theorem dX7_sleep_6 : decode cX7_sleep 6 = .ok (.invokestatic 73, 3) := by decide +kernel
theorem dX7_sleep_9 : decode cX7_sleep 9 = .ok (.ifCond .eq 13, 3) := by decide +kernel
theorem dX7_sleep_12 : decode cX7_sleep 12 = .ok (.iload_n 2, 1) := by decide +kernel
theorem dX7_sleep_13 : decode cX7_sleep 13 = .ok (.i2l, 1) := by decide +kernel
theorem dX7_sleep_14 : decode cX7_sleep 14 = .ok (.lconst 0, 1) := by decide +kernel
theorem dX7_sleep_15 : decode cX7_sleep 15 = .ok (.lconst 1, 1) := by decide +kernel
theorem dX7_sleep_16 : decode cX7_sleep 16 = .ok (.invokestatic 73, 3) := by decide +kernel
theorem dX7_sleep_19 : decode cX7_sleep 19 = .ok (.ifCond .ne 7, 3) := by decide +kernel
theorem dX7_sleep_22 : decode cX7_sleep 22 = .ok (.ldc_w 294, 3) := by decide +kernel
theorem dX7_sleep_25 : decode cX7_sleep 25 = .ok (.ireturn, 1) := by decide +kernel
theorem dX7_sleep_26 : decode cX7_sleep 26 = .ok (.iconst (-1), 1) := by decide +kernel
theorem dX7_sleep_27 : decode cX7_sleep 27 = .ok (.istore_n 3, 1) := by decide +kernel
theorem dX7_sleep_28 : decode cX7_sleep 28 = .ok (.iconst 0, 1) := by decide +kernel
theorem dX7_sleep_29 : decode cX7_sleep 29 = .ok (.istore 4, 2) := by decide +kernel
theorem dX7_sleep_31 : decode cX7_sleep 31 = .ok (.iconst 0, 1) := by decide +kernel
theorem dX7_sleep_32 : decode cX7_sleep 32 = .ok (.istore 5, 2) := by decide +kernel
theorem dX7_sleep_34 : decode cX7_sleep 34 = .ok (.iload 5, 2) := by decide +kernel
theorem dX7_sleep_36 : decode cX7_sleep 36 = .ok (.aload_n 0, 1) := by decide +kernel
theorem dX7_sleep_37 : decode cX7_sleep 37 = .ok (.getfield 70, 3) := by decide +kernel
theorem dX7_sleep_40 : decode cX7_sleep 40 = .ok (.if_icmp .gt 43, 3) := by decide +kernel
theorem dX7_sleep_43 : decode cX7_sleep 43 = .ok (.aload_n 0, 1) := by decide +kernel
theorem dX7_sleep_44 : decode cX7_sleep 44 = .ok (.aload_n 0, 1) := by decide +kernel
theorem dX7_sleep_45 : decode cX7_sleep 45 = .ok (.invokevirtual 277, 3) := by decide +kernel
theorem dX7_sleep_48 : decode cX7_sleep 48 = .ok (.iload 5, 2) := by decide +kernel
theorem dX7_sleep_50 : decode cX7_sleep 50 = .ok (.iload_n 1, 1) := by decide +kernel
theorem dX7_sleep_51 : decode cX7_sleep 51 = .ok (.invokevirtual 280, 3) := by decide +kernel
theorem dX7_sleep_54 : decode cX7_sleep 54 = .ok (.iload_n 3, 1) := by decide +kernel
theorem dX7_sleep_55 : decode cX7_sleep 55 = .ok (.iconst (-1), 1) := by decide +kernel
theorem dX7_sleep_56 : decode cX7_sleep 56 = .ok (.if_icmp .eq 12, 3) := by decide +kernel
theorem dX7_sleep_59 : decode cX7_sleep 59 = .ok (.aload_n 0, 1) := by decide +kernel
theorem dX7_sleep_60 : decode cX7_sleep 60 = .ok (.getfield 248, 3) := by decide +kernel
theorem dX7_sleep_63 : decode cX7_sleep 63 = .ok (.iload 4, 2) := by decide +kernel
theorem dX7_sleep_65 : decode cX7_sleep 65 = .ok (.if_icmp .le 12, 3) := by decide +kernel
theorem dX7_sleep_68 : decode cX7_sleep 68 = .ok (.iload 5, 2) := by decide +kernel
theorem dX7_sleep_70 : decode cX7_sleep 70 = .ok (.istore_n 3, 1) := by decide +kernel
theorem dX7_sleep_71 : decode cX7_sleep 71 = .ok (.aload_n 0, 1) := by decide +kernel
theorem dX7_sleep_72 : decode cX7_sleep 72 = .ok (.getfield 248, 3) := by decide +kernel
theorem dX7_sleep_75 : decode cX7_sleep 75 = .ok (.istore 4, 2) := by decide +kernel
theorem dX7_sleep_77 : decode cX7_sleep 77 = .ok (.iinc 5 1, 3) := by decide +kernel
theorem dX7_sleep_80 : decode cX7_sleep 80 = .ok (.goto (-46), 3) := by decide +kernel
theorem dX7_sleep_83 : decode cX7_sleep 83 = .ok (.iload_n 2, 1) := by decide +kernel
theorem dX7_sleep_84 : decode cX7_sleep 84 = .ok (.ifCond .ne 7, 3) := by decide +kernel
theorem dX7_sleep_87 : decode cX7_sleep 87 = .ok (.iload_n 3, 1) := by decide +kernel
theorem dX7_sleep_88 : decode cX7_sleep 88 = .ok (.goto 5, 3) := by decide +kernel
theorem dX7_sleep_91 : decode cX7_sleep 91 = .ok (.iload 4, 2) := by decide +kernel
theorem dX7_sleep_93 : decode cX7_sleep 93 = .ok (.ireturn, 1) := by decide +kernel
theorem dX7_moon_0 : decode cX7_moon 0 = .ok (.iload_n 1, 1) := by decide +kernel
theorem dX7_moon_1 : decode cX7_moon 1 = .ok (.i2l, 1) := by decide +kernel
theorem dX7_moon_2 : decode cX7_moon 2 = .ok (.lconst 0, 1) := by decide +kernel
theorem dX7_moon_3 : decode cX7_moon 3 = .ok (.lconst 1, 1) := by decide +kernel
theorem dX7_moon_4 : decode cX7_moon 4 = .ok (.invokestatic 73, 3) := by decide +kernel
theorem dX7_moon_7 : decode cX7_moon 7 = .ok (.ifCond .ne 7, 3) := by decide +kernel
theorem dX7_moon_10 : decode cX7_moon 10 = .ok (.ldc_w 294, 3) := by decide +kernel
theorem dX7_moon_13 : decode cX7_moon 13 = .ok (.ireturn, 1) := by decide +kernel
theorem dX7_moon_14 : decode cX7_moon 14 = .ok (.aload_n 0, 1) := by decide +kernel
theorem dX7_moon_15 : decode cX7_moon 15 = .ok (.getfield 23, 3) := by decide +kernel
theorem dX7_moon_18 : decode cX7_moon 18 = .ok (.iconst 0, 1) := by decide +kernel
theorem dX7_moon_19 : decode cX7_moon 19 = .ok (.iaload, 1) := by decide +kernel
theorem dX7_moon_20 : decode cX7_moon 20 = .ok (.istore_n 2, 1) := by decide +kernel
theorem dX7_moon_21 : decode cX7_moon 21 = .ok (.iconst (-1), 1) := by decide +kernel
theorem dX7_moon_22 : decode cX7_moon 22 = .ok (.istore_n 3, 1) := by decide +kernel
theorem dX7_moon_23 : decode cX7_moon 23 = .ok (.iconst 0, 1) := by decide +kernel
theorem dX7_moon_24 : decode cX7_moon 24 = .ok (.istore 4, 2) := by decide +kernel
theorem dX7_moon_26 : decode cX7_moon 26 = .ok (.iconst 0, 1) := by decide +kernel
theorem dX7_moon_27 : decode cX7_moon 27 = .ok (.istore 5, 2) := by decide +kernel
theorem dX7_moon_29 : decode cX7_moon 29 = .ok (.iload 5, 2) := by decide +kernel
theorem dX7_moon_31 : decode cX7_moon 31 = .ok (.bipush 10, 2) := by decide +kernel
theorem dX7_moon_33 : decode cX7_moon 33 = .ok (.if_icmp .ge 44, 3) := by decide +kernel
theorem dX7_moon_36 : decode cX7_moon 36 = .ok (.aload_n 0, 1) := by decide +kernel
theorem dX7_moon_37 : decode cX7_moon 37 = .ok (.getfield 23, 3) := by decide +kernel
theorem dX7_moon_40 : decode cX7_moon 40 = .ok (.iconst 0, 1) := by decide +kernel
theorem dX7_moon_41 : decode cX7_moon 41 = .ok (.iload 5, 2) := by decide +kernel
theorem dX7_moon_43 : decode cX7_moon 43 = .ok (.iastore, 1) := by decide +kernel
theorem dX7_moon_44 : decode cX7_moon 44 = .ok (.aload_n 0, 1) := by decide +kernel
theorem dX7_moon_45 : decode cX7_moon 45 = .ok (.invokevirtual 295, 3) := by decide +kernel
theorem dX7_moon_48 : decode cX7_moon 48 = .ok (.iload_n 3, 1) := by decide +kernel
theorem dX7_moon_49 : decode cX7_moon 49 = .ok (.iconst (-1), 1) := by decide +kernel
theorem dX7_moon_50 : decode cX7_moon 50 = .ok (.if_icmp .eq 12, 3) := by decide +kernel
theorem dX7_moon_53 : decode cX7_moon 53 = .ok (.aload_n 0, 1) := by decide +kernel
theorem dX7_moon_54 : decode cX7_moon 54 = .ok (.getfield 248, 3) := by decide +kernel
theorem dX7_moon_57 : decode cX7_moon 57 = .ok (.iload 4, 2) := by decide +kernel
theorem dX7_moon_59 : decode cX7_moon 59 = .ok (.if_icmp .le 12, 3) := by decide +kernel
theorem dX7_moon_62 : decode cX7_moon 62 = .ok (.iload 5, 2) := by decide +kernel
theorem dX7_moon_64 : decode cX7_moon 64 = .ok (.istore_n 3, 1) := by decide +kernel
theorem dX7_moon_65 : decode cX7_moon 65 = .ok (.aload_n 0, 1) := by decide +kernel
theorem dX7_moon_66 : decode cX7_moon 66 = .ok (.getfield 248, 3) := by decide +kernel
theorem dX7_moon_69 : decode cX7_moon 69 = .ok (.istore 4, 2) := by decide +kernel
theorem dX7_moon_71 : decode cX7_moon 71 = .ok (.iinc 5 1, 3) := by decide +kernel
theorem dX7_moon_74 : decode cX7_moon 74 = .ok (.goto (-45), 3) := by decide +kernel
theorem dX7_moon_77 : decode cX7_moon 77 = .ok (.aload_n 0, 1) := by decide +kernel
theorem dX7_moon_78 : decode cX7_moon 78 = .ok (.getfield 23, 3) := by decide +kernel
theorem dX7_moon_81 : decode cX7_moon 81 = .ok (.iconst 0, 1) := by decide +kernel
theorem dX7_moon_82 : decode cX7_moon 82 = .ok (.iload_n 2, 1) := by decide +kernel
theorem dX7_moon_83 : decode cX7_moon 83 = .ok (.iastore, 1) := by decide +kernel
theorem dX7_moon_84 : decode cX7_moon 84 = .ok (.iload_n 1, 1) := by decide +kernel
theorem dX7_moon_85 : decode cX7_moon 85 = .ok (.ifCond .ne 7, 3) := by decide +kernel
theorem dX7_moon_88 : decode cX7_moon 88 = .ok (.iload_n 3, 1) := by decide +kernel
theorem dX7_moon_89 : decode cX7_moon 89 = .ok (.goto 5, 3) := by decide +kernel
theorem dX7_moon_92 : decode cX7_moon 92 = .ok (.iload 4, 2) := by decide +kernel
theorem dX7_moon_94 : decode cX7_moon 94 = .ok (.ireturn, 1) := by decide +kernel
theorem dX7_leave_0 : decode cX7_leave 0 = .ok (.iload_n 1, 1) := by decide +kernel
theorem dX7_leave_1 : decode cX7_leave 1 = .ok (.i2l, 1) := by decide +kernel
theorem dX7_leave_2 : decode cX7_leave 2 = .ok (.lconst 0, 1) := by decide +kernel
theorem dX7_leave_3 : decode cX7_leave 3 = .ok (.lconst 1, 1) := by decide +kernel
theorem dX7_leave_4 : decode cX7_leave 4 = .ok (.invokestatic 73, 3) := by decide +kernel
theorem dX7_leave_7 : decode cX7_leave 7 = .ok (.ifCond .ne 7, 3) := by decide +kernel
theorem dX7_leave_10 : decode cX7_leave 10 = .ok (.ldc_w 294, 3) := by decide +kernel
theorem dX7_leave_13 : decode cX7_leave 13 = .ok (.ireturn, 1) := by decide +kernel
theorem dX7_leave_14 : decode cX7_leave 14 = .ok (.aload_n 0, 1) := by decide +kernel
theorem dX7_leave_15 : decode cX7_leave 15 = .ok (.invokevirtual 295, 3) := by decide +kernel
theorem dX7_leave_18 : decode cX7_leave 18 = .ok (.aload_n 0, 1) := by decide +kernel
theorem dX7_leave_19 : decode cX7_leave 19 = .ok (.getfield 248, 3) := by decide +kernel
theorem dX7_leave_22 : decode cX7_leave 22 = .ok (.istore_n 2, 1) := by decide +kernel
theorem dX7_leave_23 : decode cX7_leave 23 = .ok (.iconst (-1), 1) := by decide +kernel
theorem dX7_leave_24 : decode cX7_leave 24 = .ok (.istore_n 3, 1) := by decide +kernel
theorem dX7_leave_25 : decode cX7_leave 25 = .ok (.iconst 0, 1) := by decide +kernel
theorem dX7_leave_26 : decode cX7_leave 26 = .ok (.istore 4, 2) := by decide +kernel
theorem dX7_leave_28 : decode cX7_leave 28 = .ok (.iload 4, 2) := by decide +kernel
theorem dX7_leave_30 : decode cX7_leave 30 = .ok (.aload_n 0, 1) := by decide +kernel
theorem dX7_leave_31 : decode cX7_leave 31 = .ok (.getfield 70, 3) := by decide +kernel
theorem dX7_leave_34 : decode cX7_leave 34 = .ok (.if_icmp .ge 42, 3) := by decide +kernel
theorem dX7_leave_37 : decode cX7_leave 37 = .ok (.aload_n 0, 1) := by decide +kernel
theorem dX7_leave_38 : decode cX7_leave 38 = .ok (.aload_n 0, 1) := by decide +kernel
theorem dX7_leave_39 : decode cX7_leave 39 = .ok (.invokevirtual 277, 3) := by decide +kernel
theorem dX7_leave_42 : decode cX7_leave 42 = .ok (.iconst 1, 1) := by decide +kernel
theorem dX7_leave_43 : decode cX7_leave 43 = .ok (.iload 4, 2) := by decide +kernel
theorem dX7_leave_45 : decode cX7_leave 45 = .ok (.ishl, 1) := by decide +kernel
theorem dX7_leave_46 : decode cX7_leave 46 = .ok (.iconst (-1), 1) := by decide +kernel
theorem dX7_leave_47 : decode cX7_leave 47 = .ok (.ixor, 1) := by decide +kernel
theorem dX7_leave_48 : decode cX7_leave 48 = .ok (.iand, 1) := by decide +kernel
theorem dX7_leave_49 : decode cX7_leave 49 = .ok (.iconst (-1), 1) := by decide +kernel
theorem dX7_leave_50 : decode cX7_leave 50 = .ok (.iconst 0, 1) := by decide +kernel
theorem dX7_leave_51 : decode cX7_leave 51 = .ok (.invokevirtual 280, 3) := by decide +kernel
theorem dX7_leave_54 : decode cX7_leave 54 = .ok (.aload_n 0, 1) := by decide +kernel
theorem dX7_leave_55 : decode cX7_leave 55 = .ok (.getfield 248, 3) := by decide +kernel
theorem dX7_leave_58 : decode cX7_leave 58 = .ok (.iload_n 2, 1) := by decide +kernel
theorem dX7_leave_59 : decode cX7_leave 59 = .ok (.if_icmp .le 11, 3) := by decide +kernel
theorem dX7_leave_62 : decode cX7_leave 62 = .ok (.iload 4, 2) := by decide +kernel
theorem dX7_leave_64 : decode cX7_leave 64 = .ok (.istore_n 3, 1) := by decide +kernel
theorem dX7_leave_65 : decode cX7_leave 65 = .ok (.aload_n 0, 1) := by decide +kernel
theorem dX7_leave_66 : decode cX7_leave 66 = .ok (.getfield 248, 3) := by decide +kernel
theorem dX7_leave_69 : decode cX7_leave 69 = .ok (.istore_n 2, 1) := by decide +kernel
theorem dX7_leave_70 : decode cX7_leave 70 = .ok (.iinc 4 1, 3) := by decide +kernel
theorem dX7_leave_73 : decode cX7_leave 73 = .ok (.goto (-45), 3) := by decide +kernel
theorem dX7_leave_76 : decode cX7_leave 76 = .ok (.iload_n 1, 1) := by decide +kernel
theorem dX7_leave_77 : decode cX7_leave 77 = .ok (.ifCond .ne 7, 3) := by decide +kernel
theorem dX7_leave_80 : decode cX7_leave 80 = .ok (.iload_n 3, 1) := by decide +kernel
theorem dX7_leave_81 : decode cX7_leave 81 = .ok (.goto 4, 3) := by decide +kernel
theorem dX7_leave_84 : decode cX7_leave 84 = .ok (.iload_n 2, 1) := by decide +kernel
theorem dX7_leave_85 : decode cX7_leave 85 = .ok (.ireturn, 1) := by decide +kernel
theorem dX7_two_0 : decode cX7_two 0 = .ok (.iload_n 1, 1) := by decide +kernel
theorem dX7_two_1 : decode cX7_two 1 = .ok (.i2l, 1) := by decide +kernel
theorem dX7_two_2 : decode cX7_two 2 = .ok (.lconst 0, 1) := by decide +kernel
theorem dX7_two_3 : decode cX7_two 3 = .ok (.lconst 1, 1) := by decide +kernel
theorem dX7_two_4 : decode cX7_two 4 = .ok (.invokestatic 73, 3) := by decide +kernel
theorem dX7_two_7 : decode cX7_two 7 = .ok (.ifCond .ne 7, 3) := by decide +kernel
theorem dX7_two_10 : decode cX7_two 10 = .ok (.ldc_w 294, 3) := by decide +kernel
theorem dX7_two_13 : decode cX7_two 13 = .ok (.ireturn, 1) := by decide +kernel
theorem dX7_two_14 : decode cX7_two 14 = .ok (.iconst (-1), 1) := by decide +kernel
theorem dX7_two_15 : decode cX7_two 15 = .ok (.istore_n 2, 1) := by decide +kernel
theorem dX7_two_16 : decode cX7_two 16 = .ok (.iconst 0, 1) := by decide +kernel
theorem dX7_two_17 : decode cX7_two 17 = .ok (.istore_n 3, 1) := by decide +kernel
theorem dX7_two_18 : decode cX7_two 18 = .ok (.iconst 0, 1) := by decide +kernel
theorem dX7_two_19 : decode cX7_two 19 = .ok (.istore 4, 2) := by decide +kernel
theorem dX7_two_21 : decode cX7_two 21 = .ok (.iload 4, 2) := by decide +kernel
theorem dX7_two_23 : decode cX7_two 23 = .ok (.aload_n 0, 1) := by decide +kernel
theorem dX7_two_24 : decode cX7_two 24 = .ok (.invokevirtual 277, 3) := by decide +kernel
theorem dX7_two_27 : decode cX7_two 27 = .ok (.if_icmp .gt 65, 3) := by decide +kernel
theorem dX7_two_30 : decode cX7_two 30 = .ok (.aload_n 0, 1) := by decide +kernel
theorem dX7_two_31 : decode cX7_two 31 = .ok (.iload 4, 2) := by decide +kernel
theorem dX7_two_33 : decode cX7_two 33 = .ok (.iconst (-1), 1) := by decide +kernel
theorem dX7_two_34 : decode cX7_two 34 = .ok (.iconst 0, 1) := by decide +kernel
theorem dX7_two_35 : decode cX7_two 35 = .ok (.invokevirtual 280, 3) := by decide +kernel
theorem dX7_two_38 : decode cX7_two 38 = .ok (.aload_n 0, 1) := by decide +kernel
theorem dX7_two_39 : decode cX7_two 39 = .ok (.getfield 248, 3) := by decide +kernel
theorem dX7_two_42 : decode cX7_two 42 = .ok (.istore 5, 2) := by decide +kernel
theorem dX7_two_44 : decode cX7_two 44 = .ok (.aload_n 0, 1) := by decide +kernel
theorem dX7_two_45 : decode cX7_two 45 = .ok (.aload_n 0, 1) := by decide +kernel
theorem dX7_two_46 : decode cX7_two 46 = .ok (.invokevirtual 277, 3) := by decide +kernel
theorem dX7_two_49 : decode cX7_two 49 = .ok (.iload 4, 2) := by decide +kernel
theorem dX7_two_51 : decode cX7_two 51 = .ok (.iconst (-1), 1) := by decide +kernel
theorem dX7_two_52 : decode cX7_two 52 = .ok (.ixor, 1) := by decide +kernel
theorem dX7_two_53 : decode cX7_two 53 = .ok (.iand, 1) := by decide +kernel
theorem dX7_two_54 : decode cX7_two 54 = .ok (.iconst (-1), 1) := by decide +kernel
theorem dX7_two_55 : decode cX7_two 55 = .ok (.iconst 0, 1) := by decide +kernel
theorem dX7_two_56 : decode cX7_two 56 = .ok (.invokevirtual 280, 3) := by decide +kernel
theorem dX7_two_59 : decode cX7_two 59 = .ok (.iload_n 2, 1) := by decide +kernel
theorem dX7_two_60 : decode cX7_two 60 = .ok (.iconst (-1), 1) := by decide +kernel
theorem dX7_two_61 : decode cX7_two 61 = .ok (.if_icmp .eq 14, 3) := by decide +kernel
theorem dX7_two_64 : decode cX7_two 64 = .ok (.iload 5, 2) := by decide +kernel
theorem dX7_two_66 : decode cX7_two 66 = .ok (.aload_n 0, 1) := by decide +kernel
theorem dX7_two_67 : decode cX7_two 67 = .ok (.getfield 248, 3) := by decide +kernel
theorem dX7_two_70 : decode cX7_two 70 = .ok (.iadd, 1) := by decide +kernel
theorem dX7_two_71 : decode cX7_two 71 = .ok (.iload_n 3, 1) := by decide +kernel
theorem dX7_two_72 : decode cX7_two 72 = .ok (.if_icmp .le 14, 3) := by decide +kernel
theorem dX7_two_75 : decode cX7_two 75 = .ok (.iload 4, 2) := by decide +kernel
theorem dX7_two_77 : decode cX7_two 77 = .ok (.istore_n 2, 1) := by decide +kernel
theorem dX7_two_78 : decode cX7_two 78 = .ok (.iload 5, 2) := by decide +kernel
theorem dX7_two_80 : decode cX7_two 80 = .ok (.aload_n 0, 1) := by decide +kernel
theorem dX7_two_81 : decode cX7_two 81 = .ok (.getfield 248, 3) := by decide +kernel
theorem dX7_two_84 : decode cX7_two 84 = .ok (.iadd, 1) := by decide +kernel
theorem dX7_two_85 : decode cX7_two 85 = .ok (.istore_n 3, 1) := by decide +kernel
theorem dX7_two_86 : decode cX7_two 86 = .ok (.iinc 4 1, 3) := by decide +kernel
theorem dX7_two_89 : decode cX7_two 89 = .ok (.goto (-68), 3) := by decide +kernel
theorem dX7_two_92 : decode cX7_two 92 = .ok (.iload_n 1, 1) := by decide +kernel
theorem dX7_two_93 : decode cX7_two 93 = .ok (.ifCond .ne 7, 3) := by decide +kernel
theorem dX7_two_96 : decode cX7_two 96 = .ok (.iload_n 2, 1) := by decide +kernel
theorem dX7_two_97 : decode cX7_two 97 = .ok (.goto 4, 3) := by decide +kernel
theorem dX7_two_100 : decode cX7_two 100 = .ok (.iload_n 3, 1) := by decide +kernel
theorem dX7_two_101 : decode cX7_two 101 = .ok (.ireturn, 1) := by decide +kernel
theorem dX7_worthClear_0 : decode cX7_worthClear 0 = .ok (.aload_n 0, 1) := by decide +kernel
theorem dX7_worthClear_1 : decode cX7_worthClear 1 = .ok (.iconst 1, 1) := by decide +kernel
theorem dX7_worthClear_2 : decode cX7_worthClear 2 = .ok (.putfield 105, 3) := by decide +kernel
theorem dX7_worthClear_5 : decode cX7_worthClear 5 = .ok (.aload_n 0, 1) := by decide +kernel
theorem dX7_worthClear_6 : decode cX7_worthClear 6 = .ok (.invokevirtual 295, 3) := by decide +kernel
theorem dX7_worthClear_9 : decode cX7_worthClear 9 = .ok (.aload_n 0, 1) := by decide +kernel
theorem dX7_worthClear_10 : decode cX7_worthClear 10 = .ok (.iconst 0, 1) := by decide +kernel
theorem dX7_worthClear_11 : decode cX7_worthClear 11 = .ok (.putfield 105, 3) := by decide +kernel
theorem dX7_worthClear_14 : decode cX7_worthClear 14 = .ok (.aload_n 0, 1) := by decide +kernel
theorem dX7_worthClear_15 : decode cX7_worthClear 15 = .ok (.getfield 248, 3) := by decide +kernel
theorem dX7_worthClear_18 : decode cX7_worthClear 18 = .ok (.ireturn, 1) := by decide +kernel
theorem dX7_cloud_0 : decode cX7_cloud 0 = .ok (.aload_n 0, 1) := by decide +kernel
theorem dX7_cloud_1 : decode cX7_cloud 1 = .ok (.invokevirtual 316, 3) := by decide +kernel
theorem dX7_cloud_4 : decode cX7_cloud 4 = .ok (.istore_n 1, 1) := by decide +kernel
theorem dX7_cloud_5 : decode cX7_cloud 5 = .ok (.aload_n 0, 1) := by decide +kernel
theorem dX7_cloud_6 : decode cX7_cloud 6 = .ok (.invokevirtual 295, 3) := by decide +kernel
theorem dX7_cloud_9 : decode cX7_cloud 9 = .ok (.iload_n 1, 1) := by decide +kernel
theorem dX7_cloud_10 : decode cX7_cloud 10 = .ok (.aload_n 0, 1) := by decide +kernel
theorem dX7_cloud_11 : decode cX7_cloud 11 = .ok (.getfield 248, 3) := by decide +kernel
theorem dX7_cloud_14 : decode cX7_cloud 14 = .ok (.isub, 1) := by decide +kernel
theorem dX7_cloud_15 : decode cX7_cloud 15 = .ok (.ireturn, 1) := by decide +kernel
theorem dX7_notSo_0 : decode cX7_notSo 0 = .ok (.aload_n 0, 1) := by decide +kernel
theorem dX7_notSo_1 : decode cX7_notSo 1 = .ok (.invokevirtual 295, 3) := by decide +kernel
theorem dX7_notSo_4 : decode cX7_notSo 4 = .ok (.iconst 0, 1) := by decide +kernel
theorem dX7_notSo_5 : decode cX7_notSo 5 = .ok (.istore_n 2, 1) := by decide +kernel
theorem dX7_notSo_6 : decode cX7_notSo 6 = .ok (.iconst 0, 1) := by decide +kernel
theorem dX7_notSo_7 : decode cX7_notSo 7 = .ok (.istore_n 3, 1) := by decide +kernel
theorem dX7_notSo_8 : decode cX7_notSo 8 = .ok (.iload_n 3, 1) := by decide +kernel
theorem dX7_notSo_9 : decode cX7_notSo 9 = .ok (.aload_n 0, 1) := by decide +kernel
theorem dX7_notSo_10 : decode cX7_notSo 10 = .ok (.getfield 70, 3) := by decide +kernel
theorem dX7_notSo_13 : decode cX7_notSo 13 = .ok (.if_icmp .ge 39, 3) := by decide +kernel
theorem dX7_notSo_16 : decode cX7_notSo 16 = .ok (.iload_n 2, 1) := by decide +kernel
theorem dX7_notSo_17 : decode cX7_notSo 17 = .ok (.aload_n 0, 1) := by decide +kernel
theorem dX7_notSo_18 : decode cX7_notSo 18 = .ok (.getfield 32, 3) := by decide +kernel
theorem dX7_notSo_21 : decode cX7_notSo 21 = .ok (.iload_n 3, 1) := by decide +kernel
theorem dX7_notSo_22 : decode cX7_notSo 22 = .ok (.iaload, 1) := by decide +kernel
theorem dX7_notSo_23 : decode cX7_notSo 23 = .ok (.aload_n 0, 1) := by decide +kernel
theorem dX7_notSo_24 : decode cX7_notSo 24 = .ok (.getfield 60, 3) := by decide +kernel
theorem dX7_notSo_27 : decode cX7_notSo 27 = .ok (.bipush 40, 2) := by decide +kernel
theorem dX7_notSo_29 : decode cX7_notSo 29 = .ok (.iload_n 1, 1) := by decide +kernel
theorem dX7_notSo_30 : decode cX7_notSo 30 = .ok (.imul, 1) := by decide +kernel
theorem dX7_notSo_31 : decode cX7_notSo 31 = .ok (.iload_n 3, 1) := by decide +kernel
theorem dX7_notSo_32 : decode cX7_notSo 32 = .ok (.iadd, 1) := by decide +kernel
theorem dX7_notSo_33 : decode cX7_notSo 33 = .ok (.iaload, 1) := by decide +kernel
theorem dX7_notSo_34 : decode cX7_notSo 34 = .ok (.if_icmp .eq 7, 3) := by decide +kernel
theorem dX7_notSo_37 : decode cX7_notSo 37 = .ok (.iconst 1, 1) := by decide +kernel
theorem dX7_notSo_38 : decode cX7_notSo 38 = .ok (.goto 4, 3) := by decide +kernel
theorem dX7_notSo_41 : decode cX7_notSo 41 = .ok (.iconst 0, 1) := by decide +kernel
theorem dX7_notSo_42 : decode cX7_notSo 42 = .ok (.iload_n 3, 1) := by decide +kernel
theorem dX7_notSo_43 : decode cX7_notSo 43 = .ok (.ishl, 1) := by decide +kernel
theorem dX7_notSo_44 : decode cX7_notSo 44 = .ok (.ior, 1) := by decide +kernel
theorem dX7_notSo_45 : decode cX7_notSo 45 = .ok (.istore_n 2, 1) := by decide +kernel
theorem dX7_notSo_46 : decode cX7_notSo 46 = .ok (.iinc 3 1, 3) := by decide +kernel
theorem dX7_notSo_49 : decode cX7_notSo 49 = .ok (.goto (-41), 3) := by decide +kernel
theorem dX7_notSo_52 : decode cX7_notSo 52 = .ok (.iload_n 2, 1) := by decide +kernel
theorem dX7_notSo_53 : decode cX7_notSo 53 = .ok (.ireturn, 1) := by decide +kernel
theorem dX7_spotsOf_0 : decode cX7_spotsOf 0 = .ok (.aload_n 0, 1) := by decide +kernel
theorem dX7_spotsOf_1 : decode cX7_spotsOf 1 = .ok (.getfield 23, 3) := by decide +kernel
theorem dX7_spotsOf_4 : decode cX7_spotsOf 4 = .ok (.iconst 5, 1) := by decide +kernel
theorem dX7_spotsOf_5 : decode cX7_spotsOf 5 = .ok (.iaload, 1) := by decide +kernel
theorem dX7_spotsOf_6 : decode cX7_spotsOf 6 = .ok (.istore_n 3, 1) := by decide +kernel
theorem dX7_spotsOf_7 : decode cX7_spotsOf 7 = .ok (.iconst 0, 1) := by decide +kernel
theorem dX7_spotsOf_8 : decode cX7_spotsOf 8 = .ok (.istore 4, 2) := by decide +kernel
theorem dX7_spotsOf_10 : decode cX7_spotsOf 10 = .ok (.iconst (-1), 1) := by decide +kernel
theorem dX7_spotsOf_11 : decode cX7_spotsOf 11 = .ok (.istore 5, 2) := by decide +kernel
theorem dX7_spotsOf_13 : decode cX7_spotsOf 13 = .ok (.iconst 0, 1) := by decide +kernel
theorem dX7_spotsOf_14 : decode cX7_spotsOf 14 = .ok (.istore 6, 2) := by decide +kernel
theorem dX7_spotsOf_16 : decode cX7_spotsOf 16 = .ok (.iload 6, 2) := by decide +kernel
theorem dX7_spotsOf_18 : decode cX7_spotsOf 18 = .ok (.bipush 100, 2) := by decide +kernel
theorem dX7_spotsOf_20 : decode cX7_spotsOf 20 = .ok (.if_icmp .ge 43, 3) := by decide +kernel
theorem dX7_spotsOf_23 : decode cX7_spotsOf 23 = .ok (.aload_n 0, 1) := by decide +kernel
theorem dX7_spotsOf_24 : decode cX7_spotsOf 24 = .ok (.getfield 23, 3) := by decide +kernel
theorem dX7_spotsOf_27 : decode cX7_spotsOf 27 = .ok (.iconst 5, 1) := by decide +kernel
theorem dX7_spotsOf_28 : decode cX7_spotsOf 28 = .ok (.iload 6, 2) := by decide +kernel
theorem dX7_spotsOf_30 : decode cX7_spotsOf 30 = .ok (.iastore, 1) := by decide +kernel
theorem dX7_spotsOf_31 : decode cX7_spotsOf 31 = .ok (.aload_n 0, 1) := by decide +kernel
theorem dX7_spotsOf_32 : decode cX7_spotsOf 32 = .ok (.iload_n 1, 1) := by decide +kernel
theorem dX7_spotsOf_33 : decode cX7_spotsOf 33 = .ok (.invokevirtual 319, 3) := by decide +kernel
theorem dX7_spotsOf_36 : decode cX7_spotsOf 36 = .ok (.ifCond .ne 21, 3) := by decide +kernel
theorem dX7_spotsOf_39 : decode cX7_spotsOf 39 = .ok (.iinc 4 1, 3) := by decide +kernel
theorem dX7_spotsOf_42 : decode cX7_spotsOf 42 = .ok (.iload 5, 2) := by decide +kernel
theorem dX7_spotsOf_44 : decode cX7_spotsOf 44 = .ok (.iconst (-1), 1) := by decide +kernel
theorem dX7_spotsOf_45 : decode cX7_spotsOf 45 = .ok (.if_icmp .ne 8, 3) := by decide +kernel
theorem dX7_spotsOf_48 : decode cX7_spotsOf 48 = .ok (.iload 6, 2) := by decide +kernel
theorem dX7_spotsOf_50 : decode cX7_spotsOf 50 = .ok (.goto 5, 3) := by decide +kernel
theorem dX7_spotsOf_53 : decode cX7_spotsOf 53 = .ok (.iload 5, 2) := by decide +kernel
theorem dX7_spotsOf_55 : decode cX7_spotsOf 55 = .ok (.istore 5, 2) := by decide +kernel
theorem dX7_spotsOf_57 : decode cX7_spotsOf 57 = .ok (.iinc 6 1, 3) := by decide +kernel
theorem dX7_spotsOf_60 : decode cX7_spotsOf 60 = .ok (.goto (-44), 3) := by decide +kernel
theorem dX7_spotsOf_63 : decode cX7_spotsOf 63 = .ok (.aload_n 0, 1) := by decide +kernel
theorem dX7_spotsOf_64 : decode cX7_spotsOf 64 = .ok (.getfield 23, 3) := by decide +kernel
theorem dX7_spotsOf_67 : decode cX7_spotsOf 67 = .ok (.iconst 5, 1) := by decide +kernel
theorem dX7_spotsOf_68 : decode cX7_spotsOf 68 = .ok (.iload_n 3, 1) := by decide +kernel
theorem dX7_spotsOf_69 : decode cX7_spotsOf 69 = .ok (.iastore, 1) := by decide +kernel
theorem dX7_spotsOf_70 : decode cX7_spotsOf 70 = .ok (.iload_n 2, 1) := by decide +kernel
theorem dX7_spotsOf_71 : decode cX7_spotsOf 71 = .ok (.ifCond .eq 8, 3) := by decide +kernel
theorem dX7_spotsOf_74 : decode cX7_spotsOf 74 = .ok (.iload 5, 2) := by decide +kernel
theorem dX7_spotsOf_76 : decode cX7_spotsOf 76 = .ok (.goto 5, 3) := by decide +kernel
theorem dX7_spotsOf_79 : decode cX7_spotsOf 79 = .ok (.iload 4, 2) := by decide +kernel
theorem dX7_spotsOf_81 : decode cX7_spotsOf 81 = .ok (.ireturn, 1) := by decide +kernel
theorem dX7_tellsSort_0 : decode cX7_tellsSort 0 = .ok (.iload_n 1, 1) := by decide +kernel
theorem dX7_tellsSort_1 : decode cX7_tellsSort 1 = .ok (.iconst 3, 1) := by decide +kernel
theorem dX7_tellsSort_2 : decode cX7_tellsSort 2 = .ok (.if_icmp .ne 12, 3) := by decide +kernel
theorem dX7_tellsSort_5 : decode cX7_tellsSort 5 = .ok (.aload_n 0, 1) := by decide +kernel
theorem dX7_tellsSort_6 : decode cX7_tellsSort 6 = .ok (.getfield 23, 3) := by decide +kernel
theorem dX7_tellsSort_9 : decode cX7_tellsSort 9 = .ok (.iconst 0, 1) := by decide +kernel
theorem dX7_tellsSort_10 : decode cX7_tellsSort 10 = .ok (.iaload, 1) := by decide +kernel
theorem dX7_tellsSort_11 : decode cX7_tellsSort 11 = .ok (.goto 36, 3) := by decide +kernel
theorem dX7_tellsSort_14 : decode cX7_tellsSort 14 = .ok (.iload_n 1, 1) := by decide +kernel
theorem dX7_tellsSort_15 : decode cX7_tellsSort 15 = .ok (.iconst 4, 1) := by decide +kernel
theorem dX7_tellsSort_16 : decode cX7_tellsSort 16 = .ok (.if_icmp .ne 10, 3) := by decide +kernel
theorem dX7_tellsSort_19 : decode cX7_tellsSort 19 = .ok (.aload_n 0, 1) := by decide +kernel
theorem dX7_tellsSort_20 : decode cX7_tellsSort 20 = .ok (.getfield 235, 3) := by decide +kernel
theorem dX7_tellsSort_23 : decode cX7_tellsSort 23 = .ok (.goto 24, 3) := by decide +kernel
theorem dX7_tellsSort_26 : decode cX7_tellsSort 26 = .ok (.iload_n 1, 1) := by decide +kernel
theorem dX7_tellsSort_27 : decode cX7_tellsSort 27 = .ok (.bipush 20, 2) := by decide +kernel
theorem dX7_tellsSort_29 : decode cX7_tellsSort 29 = .ok (.if_icmp .ge 12, 3) := by decide +kernel
theorem dX7_tellsSort_32 : decode cX7_tellsSort 32 = .ok (.aload_n 0, 1) := by decide +kernel
theorem dX7_tellsSort_33 : decode cX7_tellsSort 33 = .ok (.getfield 26, 3) := by decide +kernel
theorem dX7_tellsSort_36 : decode cX7_tellsSort 36 = .ok (.iload_n 2, 1) := by decide +kernel
theorem dX7_tellsSort_37 : decode cX7_tellsSort 37 = .ok (.iaload, 1) := by decide +kernel
theorem dX7_tellsSort_38 : decode cX7_tellsSort 38 = .ok (.goto 9, 3) := by decide +kernel
theorem dX7_tellsSort_41 : decode cX7_tellsSort 41 = .ok (.aload_n 0, 1) := by decide +kernel
theorem dX7_tellsSort_42 : decode cX7_tellsSort 42 = .ok (.iload_n 2, 1) := by decide +kernel
theorem dX7_tellsSort_43 : decode cX7_tellsSort 43 = .ok (.iconst 0, 1) := by decide +kernel
theorem dX7_tellsSort_44 : decode cX7_tellsSort 44 = .ok (.invokevirtual 87, 3) := by decide +kernel
theorem dX7_tellsSort_47 : decode cX7_tellsSort 47 = .ok (.ireturn, 1) := by decide +kernel
theorem dX7_lays_0 : decode cX7_lays 0 = .ok (.iload_n 1, 1) := by decide +kernel
theorem dX7_lays_1 : decode cX7_lays 1 = .ok (.iconst 3, 1) := by decide +kernel
theorem dX7_lays_2 : decode cX7_lays 2 = .ok (.if_icmp .ne 13, 3) := by decide +kernel
theorem dX7_lays_5 : decode cX7_lays 5 = .ok (.aload_n 0, 1) := by decide +kernel
theorem dX7_lays_6 : decode cX7_lays 6 = .ok (.getfield 23, 3) := by decide +kernel
theorem dX7_lays_9 : decode cX7_lays 9 = .ok (.iconst 0, 1) := by decide +kernel
theorem dX7_lays_10 : decode cX7_lays 10 = .ok (.iload_n 3, 1) := by decide +kernel
theorem dX7_lays_11 : decode cX7_lays 11 = .ok (.iastore, 1) := by decide +kernel
theorem dX7_lays_12 : decode cX7_lays 12 = .ok (.goto 41, 3) := by decide +kernel
theorem dX7_lays_15 : decode cX7_lays 15 = .ok (.iload_n 1, 1) := by decide +kernel
theorem dX7_lays_16 : decode cX7_lays 16 = .ok (.iconst 4, 1) := by decide +kernel
theorem dX7_lays_17 : decode cX7_lays 17 = .ok (.if_icmp .ne 11, 3) := by decide +kernel
theorem dX7_lays_20 : decode cX7_lays 20 = .ok (.aload_n 0, 1) := by decide +kernel
theorem dX7_lays_21 : decode cX7_lays 21 = .ok (.iload_n 3, 1) := by decide +kernel
theorem dX7_lays_22 : decode cX7_lays 22 = .ok (.putfield 235, 3) := by decide +kernel
theorem dX7_lays_25 : decode cX7_lays 25 = .ok (.goto 28, 3) := by decide +kernel
theorem dX7_lays_28 : decode cX7_lays 28 = .ok (.iload_n 1, 1) := by decide +kernel
theorem dX7_lays_29 : decode cX7_lays 29 = .ok (.bipush 20, 2) := by decide +kernel
theorem dX7_lays_31 : decode cX7_lays 31 = .ok (.if_icmp .ge 13, 3) := by decide +kernel
theorem dX7_lays_34 : decode cX7_lays 34 = .ok (.aload_n 0, 1) := by decide +kernel
theorem dX7_lays_35 : decode cX7_lays 35 = .ok (.getfield 26, 3) := by decide +kernel
theorem dX7_lays_38 : decode cX7_lays 38 = .ok (.iload_n 2, 1) := by decide +kernel
theorem dX7_lays_39 : decode cX7_lays 39 = .ok (.iload_n 3, 1) := by decide +kernel
theorem dX7_lays_40 : decode cX7_lays 40 = .ok (.iastore, 1) := by decide +kernel
theorem dX7_lays_41 : decode cX7_lays 41 = .ok (.goto 12, 3) := by decide +kernel
theorem dX7_lays_44 : decode cX7_lays 44 = .ok (.aload_n 0, 1) := by decide +kernel
theorem dX7_lays_45 : decode cX7_lays 45 = .ok (.getfield 29, 3) := by decide +kernel
theorem dX7_lays_48 : decode cX7_lays 48 = .ok (.iconst 5, 1) := by decide +kernel
theorem dX7_lays_49 : decode cX7_lays 49 = .ok (.iload_n 2, 1) := by decide +kernel
theorem dX7_lays_50 : decode cX7_lays 50 = .ok (.imul, 1) := by decide +kernel
theorem dX7_lays_51 : decode cX7_lays 51 = .ok (.iload_n 3, 1) := by decide +kernel
theorem dX7_lays_52 : decode cX7_lays 52 = .ok (.iastore, 1) := by decide +kernel
theorem dX7_lays_53 : decode cX7_lays 53 = .ok (.return_, 1) := by decide +kernel
theorem dX7_lists_0 : decode cX7_lists 0 = .ok (.iload_n 1, 1) := by decide +kernel
theorem dX7_lists_1 : decode cX7_lists 1 = .ok (.invokestatic 301, 3) := by decide +kernel
theorem dX7_lists_4 : decode cX7_lists 4 = .ok (.ifCond .eq 40, 3) := by decide +kernel
theorem dX7_lists_7 : decode cX7_lists 7 = .ok (.iload_n 2, 1) := by decide +kernel
theorem dX7_lists_8 : decode cX7_lists 8 = .ok (.i2l, 1) := by decide +kernel
theorem dX7_lists_9 : decode cX7_lists 9 = .ok (.lconst 0, 1) := by decide +kernel
theorem dX7_lists_10 : decode cX7_lists 10 = .ok (.ldc2_w 284, 3) := by decide +kernel
theorem dX7_lists_13 : decode cX7_lists 13 = .ok (.invokestatic 73, 3) := by decide +kernel
theorem dX7_lists_16 : decode cX7_lists 16 = .ok (.ifCond .ne 31, 3) := by decide +kernel
theorem dX7_lists_19 : decode cX7_lists 19 = .ok (.iload_n 2, 1) := by decide +kernel
theorem dX7_lists_20 : decode cX7_lists 20 = .ok (.i2l, 1) := by decide +kernel
theorem dX7_lists_21 : decode cX7_lists 21 = .ok (.ldc2_w 153, 3) := by decide +kernel
theorem dX7_lists_24 : decode cX7_lists 24 = .ok (.ldc2_w 286, 3) := by decide +kernel
theorem dX7_lists_27 : decode cX7_lists 27 = .ok (.invokestatic 73, 3) := by decide +kernel
theorem dX7_lists_30 : decode cX7_lists 30 = .ok (.ifCond .eq 14, 3) := by decide +kernel
theorem dX7_lists_33 : decode cX7_lists 33 = .ok (.aload_n 0, 1) := by decide +kernel
theorem dX7_lists_34 : decode cX7_lists 34 = .ok (.iload_n 2, 1) := by decide +kernel
theorem dX7_lists_35 : decode cX7_lists 35 = .ok (.bipush 10, 2) := by decide +kernel
theorem dX7_lists_37 : decode cX7_lists 37 = .ok (.irem, 1) := by decide +kernel
theorem dX7_lists_38 : decode cX7_lists 38 = .ok (.invokevirtual 79, 3) := by decide +kernel
theorem dX7_lists_41 : decode cX7_lists 41 = .ok (.ifCond .ne 6, 3) := by decide +kernel
theorem dX7_lists_44 : decode cX7_lists 44 = .ok (.bipush (-2), 2) := by decide +kernel
theorem dX7_lists_46 : decode cX7_lists 46 = .ok (.ireturn, 1) := by decide +kernel
theorem dX7_lists_47 : decode cX7_lists 47 = .ok (.aload_n 0, 1) := by decide +kernel
theorem dX7_lists_48 : decode cX7_lists 48 = .ok (.getfield 50, 3) := by decide +kernel
theorem dX7_lists_51 : decode cX7_lists 51 = .ok (.iload_n 1, 1) := by decide +kernel
theorem dX7_lists_52 : decode cX7_lists 52 = .ok (.baload, 1) := by decide +kernel
theorem dX7_lists_53 : decode cX7_lists 53 = .ok (.ifCond .ne 6, 3) := by decide +kernel
theorem dX7_lists_56 : decode cX7_lists 56 = .ok (.bipush (-11), 2) := by decide +kernel
theorem dX7_lists_58 : decode cX7_lists 58 = .ok (.ireturn, 1) := by decide +kernel
theorem dX7_lists_59 : decode cX7_lists 59 = .ok (.aload_n 0, 1) := by decide +kernel
theorem dX7_lists_60 : decode cX7_lists 60 = .ok (.getfield 57, 3) := by decide +kernel
theorem dX7_lists_63 : decode cX7_lists 63 = .ok (.iload_n 1, 1) := by decide +kernel
theorem dX7_lists_64 : decode cX7_lists 64 = .ok (.iaload, 1) := by decide +kernel
theorem dX7_lists_65 : decode cX7_lists 65 = .ok (.aload_n 0, 1) := by decide +kernel
theorem dX7_lists_66 : decode cX7_lists 66 = .ok (.getfield 70, 3) := by decide +kernel
theorem dX7_lists_69 : decode cX7_lists 69 = .ok (.if_icmp .eq 6, 3) := by decide +kernel
theorem dX7_lists_72 : decode cX7_lists 72 = .ok (.bipush (-2), 2) := by decide +kernel
theorem dX7_lists_74 : decode cX7_lists 74 = .ok (.ireturn, 1) := by decide +kernel
theorem dX7_lists_75 : decode cX7_lists 75 = .ok (.iload_n 2, 1) := by decide +kernel
theorem dX7_lists_76 : decode cX7_lists 76 = .ok (.iconst 3, 1) := by decide +kernel
theorem dX7_lists_77 : decode cX7_lists 77 = .ok (.if_icmp .ge 31, 3) := by decide +kernel
theorem dX7_lists_80 : decode cX7_lists 80 = .ok (.iload_n 2, 1) := by decide +kernel
theorem dX7_lists_81 : decode cX7_lists 81 = .ok (.ifCond .ne 11, 3) := by decide +kernel
theorem dX7_lists_84 : decode cX7_lists 84 = .ok (.aload_n 0, 1) := by decide +kernel
theorem dX7_lists_85 : decode cX7_lists 85 = .ok (.iload_n 1, 1) := by decide +kernel
theorem dX7_lists_86 : decode cX7_lists 86 = .ok (.invokevirtual 319, 3) := by decide +kernel
theorem dX7_lists_89 : decode cX7_lists 89 = .ok (.goto 18, 3) := by decide +kernel
theorem dX7_lists_92 : decode cX7_lists 92 = .ok (.aload_n 0, 1) := by decide +kernel
theorem dX7_lists_93 : decode cX7_lists 93 = .ok (.iload_n 1, 1) := by decide +kernel
theorem dX7_lists_94 : decode cX7_lists 94 = .ok (.iload_n 2, 1) := by decide +kernel
theorem dX7_lists_95 : decode cX7_lists 95 = .ok (.iconst 2, 1) := by decide +kernel
theorem dX7_lists_96 : decode cX7_lists 96 = .ok (.if_icmp .ne 7, 3) := by decide +kernel
theorem dX7_lists_99 : decode cX7_lists 99 = .ok (.iconst 1, 1) := by decide +kernel
theorem dX7_lists_100 : decode cX7_lists 100 = .ok (.goto 4, 3) := by decide +kernel
theorem dX7_lists_103 : decode cX7_lists 103 = .ok (.iconst 0, 1) := by decide +kernel
theorem dX7_lists_104 : decode cX7_lists 104 = .ok (.invokevirtual 322, 3) := by decide +kernel
theorem dX7_lists_107 : decode cX7_lists 107 = .ok (.ireturn, 1) := by decide +kernel
theorem dX7_lists_108 : decode cX7_lists 108 = .ok (.iload_n 2, 1) := by decide +kernel
theorem dX7_lists_109 : decode cX7_lists 109 = .ok (.bipush 10, 2) := by decide +kernel
theorem dX7_lists_111 : decode cX7_lists 111 = .ok (.irem, 1) := by decide +kernel
theorem dX7_lists_112 : decode cX7_lists 112 = .ok (.istore_n 3, 1) := by decide +kernel
theorem dX7_lists_113 : decode cX7_lists 113 = .ok (.aload_n 0, 1) := by decide +kernel
theorem dX7_lists_114 : decode cX7_lists 114 = .ok (.iload_n 2, 1) := by decide +kernel
theorem dX7_lists_115 : decode cX7_lists 115 = .ok (.iload_n 3, 1) := by decide +kernel
theorem dX7_lists_116 : decode cX7_lists 116 = .ok (.invokevirtual 326, 3) := by decide +kernel
theorem dX7_lists_119 : decode cX7_lists 119 = .ok (.istore 4, 2) := by decide +kernel
theorem dX7_lists_121 : decode cX7_lists 121 = .ok (.iload_n 2, 1) := by decide +kernel
theorem dX7_lists_122 : decode cX7_lists 122 = .ok (.iconst 4, 1) := by decide +kernel
theorem dX7_lists_123 : decode cX7_lists 123 = .ok (.if_icmp .ne 10, 3) := by decide +kernel
theorem dX7_lists_126 : decode cX7_lists 126 = .ok (.aload_n 0, 1) := by decide +kernel
theorem dX7_lists_127 : decode cX7_lists 127 = .ok (.getfield 67, 3) := by decide +kernel
theorem dX7_lists_130 : decode cX7_lists 130 = .ok (.goto 22, 3) := by decide +kernel
theorem dX7_lists_133 : decode cX7_lists 133 = .ok (.iload_n 2, 1) := by decide +kernel
theorem dX7_lists_134 : decode cX7_lists 134 = .ok (.bipush 9, 2) := by decide +kernel
theorem dX7_lists_136 : decode cX7_lists 136 = .ok (.if_icmp .le 14, 3) := by decide +kernel
theorem dX7_lists_139 : decode cX7_lists 139 = .ok (.iload_n 2, 1) := by decide +kernel
theorem dX7_lists_140 : decode cX7_lists 140 = .ok (.bipush 20, 2) := by decide +kernel
theorem dX7_lists_142 : decode cX7_lists 142 = .ok (.if_icmp .ge 8, 3) := by decide +kernel
theorem dX7_lists_145 : decode cX7_lists 145 = .ok (.bipush 6, 2) := by decide +kernel
theorem dX7_lists_147 : decode cX7_lists 147 = .ok (.goto 5, 3) := by decide +kernel
theorem dX7_lists_150 : decode cX7_lists 150 = .ok (.bipush 10, 2) := by decide +kernel
theorem dX7_lists_152 : decode cX7_lists 152 = .ok (.istore 5, 2) := by decide +kernel
theorem dX7_lists_154 : decode cX7_lists 154 = .ok (.iconst 0, 1) := by decide +kernel
theorem dX7_lists_155 : decode cX7_lists 155 = .ok (.istore 6, 2) := by decide +kernel
theorem dX7_lists_157 : decode cX7_lists 157 = .ok (.iconst 0, 1) := by decide +kernel
theorem dX7_lists_158 : decode cX7_lists 158 = .ok (.istore 7, 2) := by decide +kernel
theorem dX7_lists_160 : decode cX7_lists 160 = .ok (.iload 7, 2) := by decide +kernel
theorem dX7_lists_162 : decode cX7_lists 162 = .ok (.iload 5, 2) := by decide +kernel
theorem dX7_lists_164 : decode cX7_lists 164 = .ok (.if_icmp .ge 38, 3) := by decide +kernel
theorem dX7_lists_167 : decode cX7_lists 167 = .ok (.aload_n 0, 1) := by decide +kernel
theorem dX7_lists_168 : decode cX7_lists 168 = .ok (.iload_n 2, 1) := by decide +kernel
theorem dX7_lists_169 : decode cX7_lists 169 = .ok (.iload_n 3, 1) := by decide +kernel
theorem dX7_lists_170 : decode cX7_lists 170 = .ok (.iload 7, 2) := by decide +kernel
theorem dX7_lists_172 : decode cX7_lists 172 = .ok (.invokevirtual 329, 3) := by decide +kernel
theorem dX7_lists_175 : decode cX7_lists 175 = .ok (.iload 6, 2) := by decide +kernel
theorem dX7_lists_177 : decode cX7_lists 177 = .ok (.aload_n 0, 1) := by decide +kernel
theorem dX7_lists_178 : decode cX7_lists 178 = .ok (.iload_n 1, 1) := by decide +kernel
theorem dX7_lists_179 : decode cX7_lists 179 = .ok (.invokevirtual 319, 3) := by decide +kernel
theorem dX7_lists_182 : decode cX7_lists 182 = .ok (.ifCond .ne 7, 3) := by decide +kernel
theorem dX7_lists_185 : decode cX7_lists 185 = .ok (.iconst 1, 1) := by decide +kernel
theorem dX7_lists_186 : decode cX7_lists 186 = .ok (.goto 4, 3) := by decide +kernel
theorem dX7_lists_189 : decode cX7_lists 189 = .ok (.iconst 0, 1) := by decide +kernel
theorem dX7_lists_190 : decode cX7_lists 190 = .ok (.iload 7, 2) := by decide +kernel
theorem dX7_lists_192 : decode cX7_lists 192 = .ok (.ishl, 1) := by decide +kernel
theorem dX7_lists_193 : decode cX7_lists 193 = .ok (.ior, 1) := by decide +kernel
theorem dX7_lists_194 : decode cX7_lists 194 = .ok (.istore 6, 2) := by decide +kernel
theorem dX7_lists_196 : decode cX7_lists 196 = .ok (.iinc 7 1, 3) := by decide +kernel
theorem dX7_lists_199 : decode cX7_lists 199 = .ok (.goto (-39), 3) := by decide +kernel
theorem dX7_lists_202 : decode cX7_lists 202 = .ok (.aload_n 0, 1) := by decide +kernel
theorem dX7_lists_203 : decode cX7_lists 203 = .ok (.iload_n 2, 1) := by decide +kernel
theorem dX7_lists_204 : decode cX7_lists 204 = .ok (.iload_n 3, 1) := by decide +kernel
theorem dX7_lists_205 : decode cX7_lists 205 = .ok (.iload 4, 2) := by decide +kernel
theorem dX7_lists_207 : decode cX7_lists 207 = .ok (.invokevirtual 329, 3) := by decide +kernel
theorem dX7_lists_210 : decode cX7_lists 210 = .ok (.iload 6, 2) := by decide +kernel
theorem dX7_lists_212 : decode cX7_lists 212 = .ok (.ireturn, 1) := by decide +kernel
theorem dX7_film_0 : decode cX7_film 0 = .ok (.iload_n 1, 1) := by decide +kernel
theorem dX7_film_1 : decode cX7_film 1 = .ok (.invokestatic 301, 3) := by decide +kernel
theorem dX7_film_4 : decode cX7_film 4 = .ok (.ifCond .ne 6, 3) := by decide +kernel
theorem dX7_film_7 : decode cX7_film 7 = .ok (.bipush (-2), 2) := by decide +kernel
theorem dX7_film_9 : decode cX7_film 9 = .ok (.ireturn, 1) := by decide +kernel
theorem dX7_film_10 : decode cX7_film 10 = .ok (.aload_n 0, 1) := by decide +kernel
theorem dX7_film_11 : decode cX7_film 11 = .ok (.invokevirtual 295, 3) := by decide +kernel
theorem dX7_film_14 : decode cX7_film 14 = .ok (.aload_n 0, 1) := by decide +kernel
theorem dX7_film_15 : decode cX7_film 15 = .ok (.iload_n 1, 1) := by decide +kernel
theorem dX7_film_16 : decode cX7_film 16 = .ok (.iconst 1, 1) := by decide +kernel
theorem dX7_film_17 : decode cX7_film 17 = .ok (.aload_n 0, 1) := by decide +kernel
theorem dX7_film_18 : decode cX7_film 18 = .ok (.getfield 70, 3) := by decide +kernel
theorem dX7_film_21 : decode cX7_film 21 = .ok (.invokevirtual 332, 3) := by decide +kernel
theorem dX7_film_24 : decode cX7_film 24 = .ok (.pop, 1) := by decide +kernel
theorem dX7_film_25 : decode cX7_film 25 = .ok (.iconst 0, 1) := by decide +kernel
theorem dX7_film_26 : decode cX7_film 26 = .ok (.istore_n 2, 1) := by decide +kernel
theorem dX7_film_27 : decode cX7_film 27 = .ok (.iload_n 2, 1) := by decide +kernel
theorem dX7_film_28 : decode cX7_film 28 = .ok (.aload_n 0, 1) := by decide +kernel
theorem dX7_film_29 : decode cX7_film 29 = .ok (.getfield 70, 3) := by decide +kernel
theorem dX7_film_32 : decode cX7_film 32 = .ok (.if_icmp .ge 26, 3) := by decide +kernel
theorem dX7_film_35 : decode cX7_film 35 = .ok (.aload_n 0, 1) := by decide +kernel
theorem dX7_film_36 : decode cX7_film 36 = .ok (.getfield 60, 3) := by decide +kernel
theorem dX7_film_39 : decode cX7_film 39 = .ok (.bipush 40, 2) := by decide +kernel
theorem dX7_film_41 : decode cX7_film 41 = .ok (.iload_n 1, 1) := by decide +kernel
theorem dX7_film_42 : decode cX7_film 42 = .ok (.imul, 1) := by decide +kernel
theorem dX7_film_43 : decode cX7_film 43 = .ok (.iload_n 2, 1) := by decide +kernel
theorem dX7_film_44 : decode cX7_film 44 = .ok (.iadd, 1) := by decide +kernel
theorem dX7_film_45 : decode cX7_film 45 = .ok (.aload_n 0, 1) := by decide +kernel
theorem dX7_film_46 : decode cX7_film 46 = .ok (.getfield 32, 3) := by decide +kernel
theorem dX7_film_49 : decode cX7_film 49 = .ok (.iload_n 2, 1) := by decide +kernel
theorem dX7_film_50 : decode cX7_film 50 = .ok (.iaload, 1) := by decide +kernel
theorem dX7_film_51 : decode cX7_film 51 = .ok (.iastore, 1) := by decide +kernel
theorem dX7_film_52 : decode cX7_film 52 = .ok (.iinc 2 1, 3) := by decide +kernel
theorem dX7_film_55 : decode cX7_film 55 = .ok (.goto (-28), 3) := by decide +kernel
theorem dX7_film_58 : decode cX7_film 58 = .ok (.aload_n 0, 1) := by decide +kernel
theorem dX7_film_59 : decode cX7_film 59 = .ok (.getfield 70, 3) := by decide +kernel
theorem dX7_film_62 : decode cX7_film 62 = .ok (.ireturn, 1) := by decide +kernel
theorem dX7_draws_0 : decode cX7_draws 0 = .ok (.iload_n 1, 1) := by decide +kernel
theorem dX7_draws_1 : decode cX7_draws 1 = .ok (.istore_n 2, 1) := by decide +kernel
theorem dX7_draws_2 : decode cX7_draws 2 = .ok (.iconst 0, 1) := by decide +kernel
theorem dX7_draws_3 : decode cX7_draws 3 = .ok (.istore_n 3, 1) := by decide +kernel
theorem dX7_draws_4 : decode cX7_draws 4 = .ok (.iload_n 3, 1) := by decide +kernel
theorem dX7_draws_5 : decode cX7_draws 5 = .ok (.iconst 4, 1) := by decide +kernel
theorem dX7_draws_6 : decode cX7_draws 6 = .ok (.if_icmp .ge 59, 3) := by decide +kernel
theorem dX7_draws_9 : decode cX7_draws 9 = .ok (.aload_n 0, 1) := by decide +kernel
theorem dX7_draws_10 : decode cX7_draws 10 = .ok (.getfield 38, 3) := by decide +kernel
theorem dX7_draws_13 : decode cX7_draws 13 = .ok (.iload_n 3, 1) := by decide +kernel
theorem dX7_draws_14 : decode cX7_draws 14 = .ok (.aload_n 0, 1) := by decide +kernel
theorem dX7_draws_15 : decode cX7_draws 15 = .ok (.getfield 23, 3) := by decide +kernel
theorem dX7_draws_18 : decode cX7_draws 18 = .ok (.iconst 1, 1) := by decide +kernel
theorem dX7_draws_19 : decode cX7_draws 19 = .ok (.iload_n 3, 1) := by decide +kernel
theorem dX7_draws_20 : decode cX7_draws 20 = .ok (.iadd, 1) := by decide +kernel
theorem dX7_draws_21 : decode cX7_draws 21 = .ok (.iaload, 1) := by decide +kernel
theorem dX7_draws_22 : decode cX7_draws 22 = .ok (.iastore, 1) := by decide +kernel
theorem dX7_draws_23 : decode cX7_draws 23 = .ok (.iload_n 2, 1) := by decide +kernel
theorem dX7_draws_24 : decode cX7_draws 24 = .ok (.ldc_w 335, 3) := by decide +kernel
theorem dX7_draws_27 : decode cX7_draws 27 = .ok (.imul, 1) := by decide +kernel
theorem dX7_draws_28 : decode cX7_draws 28 = .ok (.sipush 12345, 3) := by decide +kernel
theorem dX7_draws_31 : decode cX7_draws 31 = .ok (.iadd, 1) := by decide +kernel
theorem dX7_draws_32 : decode cX7_draws 32 = .ok (.istore_n 2, 1) := by decide +kernel
theorem dX7_draws_33 : decode cX7_draws 33 = .ok (.aload_n 0, 1) := by decide +kernel
theorem dX7_draws_34 : decode cX7_draws 34 = .ok (.getfield 23, 3) := by decide +kernel
theorem dX7_draws_37 : decode cX7_draws 37 = .ok (.iconst 1, 1) := by decide +kernel
theorem dX7_draws_38 : decode cX7_draws 38 = .ok (.iload_n 3, 1) := by decide +kernel
theorem dX7_draws_39 : decode cX7_draws 39 = .ok (.iadd, 1) := by decide +kernel
theorem dX7_draws_40 : decode cX7_draws 40 = .ok (.iload_n 2, 1) := by decide +kernel
theorem dX7_draws_41 : decode cX7_draws 41 = .ok (.bipush 9, 2) := by decide +kernel
theorem dX7_draws_43 : decode cX7_draws 43 = .ok (.iushr, 1) := by decide +kernel
theorem dX7_draws_44 : decode cX7_draws 44 = .ok (.iload_n 3, 1) := by decide +kernel
theorem dX7_draws_45 : decode cX7_draws 45 = .ok (.iconst 2, 1) := by decide +kernel
theorem dX7_draws_46 : decode cX7_draws 46 = .ok (.if_icmp .ge 8, 3) := by decide +kernel
theorem dX7_draws_49 : decode cX7_draws 49 = .ok (.bipush 10, 2) := by decide +kernel
theorem dX7_draws_51 : decode cX7_draws 51 = .ok (.goto 6, 3) := by decide +kernel
theorem dX7_draws_54 : decode cX7_draws 54 = .ok (.sipush 200, 3) := by decide +kernel
theorem dX7_draws_57 : decode cX7_draws 57 = .ok (.irem, 1) := by decide +kernel
theorem dX7_draws_58 : decode cX7_draws 58 = .ok (.iastore, 1) := by decide +kernel
theorem dX7_draws_59 : decode cX7_draws 59 = .ok (.iinc 3 1, 3) := by decide +kernel
theorem dX7_draws_62 : decode cX7_draws 62 = .ok (.goto (-58), 3) := by decide +kernel
theorem dX7_draws_65 : decode cX7_draws 65 = .ok (.aload_n 0, 1) := by decide +kernel
theorem dX7_draws_66 : decode cX7_draws 66 = .ok (.invokevirtual 295, 3) := by decide +kernel
theorem dX7_draws_69 : decode cX7_draws 69 = .ok (.iconst 0, 1) := by decide +kernel
theorem dX7_draws_70 : decode cX7_draws 70 = .ok (.istore_n 3, 1) := by decide +kernel
theorem dX7_draws_71 : decode cX7_draws 71 = .ok (.iload_n 3, 1) := by decide +kernel
theorem dX7_draws_72 : decode cX7_draws 72 = .ok (.iconst 4, 1) := by decide +kernel
theorem dX7_draws_73 : decode cX7_draws 73 = .ok (.if_icmp .ge 23, 3) := by decide +kernel
theorem dX7_draws_76 : decode cX7_draws 76 = .ok (.aload_n 0, 1) := by decide +kernel
theorem dX7_draws_77 : decode cX7_draws 77 = .ok (.getfield 23, 3) := by decide +kernel
theorem dX7_draws_80 : decode cX7_draws 80 = .ok (.iconst 1, 1) := by decide +kernel
theorem dX7_draws_81 : decode cX7_draws 81 = .ok (.iload_n 3, 1) := by decide +kernel
theorem dX7_draws_82 : decode cX7_draws 82 = .ok (.iadd, 1) := by decide +kernel
theorem dX7_draws_83 : decode cX7_draws 83 = .ok (.aload_n 0, 1) := by decide +kernel
theorem dX7_draws_84 : decode cX7_draws 84 = .ok (.getfield 38, 3) := by decide +kernel
theorem dX7_draws_87 : decode cX7_draws 87 = .ok (.iload_n 3, 1) := by decide +kernel
theorem dX7_draws_88 : decode cX7_draws 88 = .ok (.iaload, 1) := by decide +kernel
theorem dX7_draws_89 : decode cX7_draws 89 = .ok (.iastore, 1) := by decide +kernel
theorem dX7_draws_90 : decode cX7_draws 90 = .ok (.iinc 3 1, 3) := by decide +kernel
theorem dX7_draws_93 : decode cX7_draws 93 = .ok (.goto (-22), 3) := by decide +kernel
theorem dX7_draws_96 : decode cX7_draws 96 = .ok (.aload_n 0, 1) := by decide +kernel
theorem dX7_draws_97 : decode cX7_draws 97 = .ok (.getfield 248, 3) := by decide +kernel
theorem dX7_draws_100 : decode cX7_draws 100 = .ok (.ireturn, 1) := by decide +kernel
theorem dX7_drawn_0 : decode cX7_drawn 0 = .ok (.aload_n 0, 1) := by decide +kernel
theorem dX7_drawn_1 : decode cX7_drawn 1 = .ok (.iload_n 1, 1) := by decide +kernel
theorem dX7_drawn_2 : decode cX7_drawn 2 = .ok (.invokevirtual 336, 3) := by decide +kernel
theorem dX7_drawn_5 : decode cX7_drawn 5 = .ok (.ireturn, 1) := by decide +kernel
theorem dX7_chance_0 : decode cX7_chance 0 = .ok (.iload_n 2, 1) := by decide +kernel
theorem dX7_chance_1 : decode cX7_chance 1 = .ok (.i2l, 1) := by decide +kernel
theorem dX7_chance_2 : decode cX7_chance 2 = .ok (.lconst 1, 1) := by decide +kernel
theorem dX7_chance_3 : decode cX7_chance 3 = .ok (.ldc2_w 339, 3) := by decide +kernel
theorem dX7_chance_6 : decode cX7_chance 6 = .ok (.invokestatic 73, 3) := by decide +kernel
theorem dX7_chance_9 : decode cX7_chance 9 = .ok (.ifCond .eq 13, 3) := by decide +kernel
theorem dX7_chance_12 : decode cX7_chance 12 = .ok (.iload_n 3, 1) := by decide +kernel
theorem dX7_chance_13 : decode cX7_chance 13 = .ok (.i2l, 1) := by decide +kernel
theorem dX7_chance_14 : decode cX7_chance 14 = .ok (.lconst 0, 1) := by decide +kernel
theorem dX7_chance_15 : decode cX7_chance 15 = .ok (.lconst 1, 1) := by decide +kernel
theorem dX7_chance_16 : decode cX7_chance 16 = .ok (.invokestatic 73, 3) := by decide +kernel
theorem dX7_chance_19 : decode cX7_chance 19 = .ok (.ifCond .ne 7, 3) := by decide +kernel
theorem dX7_chance_22 : decode cX7_chance 22 = .ok (.ldc2_w 341, 3) := by decide +kernel
theorem dX7_chance_25 : decode cX7_chance 25 = .ok (.lreturn, 1) := by decide +kernel
theorem dX7_chance_26 : decode cX7_chance 26 = .ok (.aload_n 0, 1) := by decide +kernel
theorem dX7_chance_27 : decode cX7_chance 27 = .ok (.invokevirtual 316, 3) := by decide +kernel
theorem dX7_chance_30 : decode cX7_chance 30 = .ok (.istore 4, 2) := by decide +kernel
theorem dX7_chance_32 : decode cX7_chance 32 = .ok (.lconst 0, 1) := by decide +kernel
theorem dX7_chance_33 : decode cX7_chance 33 = .ok (.lstore 5, 2) := by decide +kernel
theorem dX7_chance_35 : decode cX7_chance 35 = .ok (.iconst 0, 1) := by decide +kernel
theorem dX7_chance_36 : decode cX7_chance 36 = .ok (.istore 7, 2) := by decide +kernel
theorem dX7_chance_38 : decode cX7_chance 38 = .ok (.iload 7, 2) := by decide +kernel
theorem dX7_chance_40 : decode cX7_chance 40 = .ok (.iload_n 2, 1) := by decide +kernel
theorem dX7_chance_41 : decode cX7_chance 41 = .ok (.if_icmp .ge 32, 3) := by decide +kernel
theorem dX7_chance_44 : decode cX7_chance 44 = .ok (.lload 5, 2) := by decide +kernel
theorem dX7_chance_46 : decode cX7_chance 46 = .ok (.aload_n 0, 1) := by decide +kernel
theorem dX7_chance_47 : decode cX7_chance 47 = .ok (.iload_n 1, 1) := by decide +kernel
theorem dX7_chance_48 : decode cX7_chance 48 = .ok (.iload 7, 2) := by decide +kernel
theorem dX7_chance_50 : decode cX7_chance 50 = .ok (.iadd, 1) := by decide +kernel
theorem dX7_chance_51 : decode cX7_chance 51 = .ok (.invokevirtual 336, 3) := by decide +kernel
theorem dX7_chance_54 : decode cX7_chance 54 = .ok (.iload 4, 2) := by decide +kernel
theorem dX7_chance_56 : decode cX7_chance 56 = .ok (.if_icmp .lt 7, 3) := by decide +kernel
theorem dX7_chance_59 : decode cX7_chance 59 = .ok (.lconst 1, 1) := by decide +kernel
theorem dX7_chance_60 : decode cX7_chance 60 = .ok (.goto 4, 3) := by decide +kernel
theorem dX7_chance_63 : decode cX7_chance 63 = .ok (.lconst 0, 1) := by decide +kernel
theorem dX7_chance_64 : decode cX7_chance 64 = .ok (.ladd, 1) := by decide +kernel
theorem dX7_chance_65 : decode cX7_chance 65 = .ok (.lstore 5, 2) := by decide +kernel
theorem dX7_chance_67 : decode cX7_chance 67 = .ok (.iinc 7 1, 3) := by decide +kernel
theorem dX7_chance_70 : decode cX7_chance 70 = .ok (.goto (-32), 3) := by decide +kernel
theorem dX7_chance_73 : decode cX7_chance 73 = .ok (.lload 5, 2) := by decide +kernel
theorem dX7_chance_75 : decode cX7_chance 75 = .ok (.lstore 7, 2) := by decide +kernel
theorem dX7_chance_77 : decode cX7_chance 77 = .ok (.iload_n 2, 1) := by decide +kernel
theorem dX7_chance_78 : decode cX7_chance 78 = .ok (.i2l, 1) := by decide +kernel
theorem dX7_chance_79 : decode cX7_chance 79 = .ok (.lstore 9, 2) := by decide +kernel
theorem dX7_chance_81 : decode cX7_chance 81 = .ok (.lload 9, 2) := by decide +kernel
theorem dX7_chance_83 : decode cX7_chance 83 = .ok (.lconst 0, 1) := by decide +kernel
theorem dX7_chance_84 : decode cX7_chance 84 = .ok (.lcmp, 1) := by decide +kernel
theorem dX7_chance_85 : decode cX7_chance 85 = .ok (.ifCond .eq 21, 3) := by decide +kernel
theorem dX7_chance_88 : decode cX7_chance 88 = .ok (.lload 7, 2) := by decide +kernel
theorem dX7_chance_90 : decode cX7_chance 90 = .ok (.lload 9, 2) := by decide +kernel
theorem dX7_chance_92 : decode cX7_chance 92 = .ok (.lrem, 1) := by decide +kernel
theorem dX7_chance_93 : decode cX7_chance 93 = .ok (.lstore 11, 2) := by decide +kernel
theorem dX7_chance_95 : decode cX7_chance 95 = .ok (.lload 9, 2) := by decide +kernel
theorem dX7_chance_97 : decode cX7_chance 97 = .ok (.lstore 7, 2) := by decide +kernel
theorem dX7_chance_99 : decode cX7_chance 99 = .ok (.lload 11, 2) := by decide +kernel
theorem dX7_chance_101 : decode cX7_chance 101 = .ok (.lstore 9, 2) := by decide +kernel
theorem dX7_chance_103 : decode cX7_chance 103 = .ok (.goto (-22), 3) := by decide +kernel
theorem dX7_chance_106 : decode cX7_chance 106 = .ok (.iload_n 3, 1) := by decide +kernel
theorem dX7_chance_107 : decode cX7_chance 107 = .ok (.ifCond .ne 11, 3) := by decide +kernel
theorem dX7_chance_110 : decode cX7_chance 110 = .ok (.lload 5, 2) := by decide +kernel
theorem dX7_chance_112 : decode cX7_chance 112 = .ok (.lload 7, 2) := by decide +kernel
theorem dX7_chance_114 : decode cX7_chance 114 = .ok (.ldiv, 1) := by decide +kernel
theorem dX7_chance_115 : decode cX7_chance 115 = .ok (.goto 8, 3) := by decide +kernel
theorem dX7_chance_118 : decode cX7_chance 118 = .ok (.iload_n 2, 1) := by decide +kernel
theorem dX7_chance_119 : decode cX7_chance 119 = .ok (.i2l, 1) := by decide +kernel
theorem dX7_chance_120 : decode cX7_chance 120 = .ok (.lload 7, 2) := by decide +kernel
theorem dX7_chance_122 : decode cX7_chance 122 = .ok (.ldiv, 1) := by decide +kernel
theorem dX7_chance_123 : decode cX7_chance 123 = .ok (.lreturn, 1) := by decide +kernel
theorem dX7_image_0 : decode cX7_image 0 = .ok (.iconst 0, 1) := by decide +kernel
theorem dX7_image_1 : decode cX7_image 1 = .ok (.istore_n 1, 1) := by decide +kernel
theorem dX7_image_2 : decode cX7_image 2 = .ok (.iload_n 1, 1) := by decide +kernel
theorem dX7_image_3 : decode cX7_image 3 = .ok (.bipush 8, 2) := by decide +kernel
theorem dX7_image_5 : decode cX7_image 5 = .ok (.if_icmp .ge 21, 3) := by decide +kernel
theorem dX7_image_8 : decode cX7_image 8 = .ok (.aload_n 0, 1) := by decide +kernel
theorem dX7_image_9 : decode cX7_image 9 = .ok (.getfield 41, 3) := by decide +kernel
theorem dX7_image_12 : decode cX7_image 12 = .ok (.iload_n 1, 1) := by decide +kernel
theorem dX7_image_13 : decode cX7_image 13 = .ok (.aload_n 0, 1) := by decide +kernel
theorem dX7_image_14 : decode cX7_image 14 = .ok (.getfield 23, 3) := by decide +kernel
theorem dX7_image_17 : decode cX7_image 17 = .ok (.iload_n 1, 1) := by decide +kernel
theorem dX7_image_18 : decode cX7_image 18 = .ok (.iaload, 1) := by decide +kernel
theorem dX7_image_19 : decode cX7_image 19 = .ok (.iastore, 1) := by decide +kernel
theorem dX7_image_20 : decode cX7_image 20 = .ok (.iinc 1 1, 3) := by decide +kernel
theorem dX7_image_23 : decode cX7_image 23 = .ok (.goto (-21), 3) := by decide +kernel
theorem dX7_image_26 : decode cX7_image 26 = .ok (.iconst 0, 1) := by decide +kernel
theorem dX7_image_27 : decode cX7_image 27 = .ok (.istore_n 1, 1) := by decide +kernel
theorem dX7_image_28 : decode cX7_image 28 = .ok (.iload_n 1, 1) := by decide +kernel
theorem dX7_image_29 : decode cX7_image 29 = .ok (.bipush 35, 2) := by decide +kernel
theorem dX7_image_31 : decode cX7_image 31 = .ok (.if_icmp .ge 21, 3) := by decide +kernel
theorem dX7_image_34 : decode cX7_image 34 = .ok (.aload_n 0, 1) := by decide +kernel
theorem dX7_image_35 : decode cX7_image 35 = .ok (.getfield 44, 3) := by decide +kernel
theorem dX7_image_38 : decode cX7_image 38 = .ok (.iload_n 1, 1) := by decide +kernel
theorem dX7_image_39 : decode cX7_image 39 = .ok (.aload_n 0, 1) := by decide +kernel
theorem dX7_image_40 : decode cX7_image 40 = .ok (.getfield 29, 3) := by decide +kernel
theorem dX7_image_43 : decode cX7_image 43 = .ok (.iload_n 1, 1) := by decide +kernel
theorem dX7_image_44 : decode cX7_image 44 = .ok (.iaload, 1) := by decide +kernel
theorem dX7_image_45 : decode cX7_image 45 = .ok (.iastore, 1) := by decide +kernel
theorem dX7_image_46 : decode cX7_image 46 = .ok (.iinc 1 1, 3) := by decide +kernel
theorem dX7_image_49 : decode cX7_image 49 = .ok (.goto (-21), 3) := by decide +kernel
theorem dX7_image_52 : decode cX7_image 52 = .ok (.aload_n 0, 1) := by decide +kernel
theorem dX7_image_53 : decode cX7_image 53 = .ok (.aload_n 0, 1) := by decide +kernel
theorem dX7_image_54 : decode cX7_image 54 = .ok (.getfield 70, 3) := by decide +kernel
theorem dX7_image_57 : decode cX7_image 57 = .ok (.putfield 47, 3) := by decide +kernel
theorem dX7_image_60 : decode cX7_image 60 = .ok (.aload_n 0, 1) := by decide +kernel
theorem dX7_image_61 : decode cX7_image 61 = .ok (.aload_n 0, 1) := by decide +kernel
theorem dX7_image_62 : decode cX7_image 62 = .ok (.getfield 235, 3) := by decide +kernel
theorem dX7_image_65 : decode cX7_image 65 = .ok (.putfield 343, 3) := by decide +kernel
theorem dX7_image_68 : decode cX7_image 68 = .ok (.aload_n 0, 1) := by decide +kernel
theorem dX7_image_69 : decode cX7_image 69 = .ok (.getfield 70, 3) := by decide +kernel
theorem dX7_image_72 : decode cX7_image 72 = .ok (.ireturn, 1) := by decide +kernel
theorem dX7_back_0 : decode cX7_back 0 = .ok (.aload_n 0, 1) := by decide +kernel
theorem dX7_back_1 : decode cX7_back 1 = .ok (.getfield 47, 3) := by decide +kernel
theorem dX7_back_4 : decode cX7_back 4 = .ok (.iconst (-1), 1) := by decide +kernel
theorem dX7_back_5 : decode cX7_back 5 = .ok (.if_icmp .ne 6, 3) := by decide +kernel
theorem dX7_back_8 : decode cX7_back 8 = .ok (.bipush (-3), 2) := by decide +kernel
theorem dX7_back_10 : decode cX7_back 10 = .ok (.ireturn, 1) := by decide +kernel
theorem dX7_back_11 : decode cX7_back 11 = .ok (.iconst 0, 1) := by decide +kernel
theorem dX7_back_12 : decode cX7_back 12 = .ok (.istore_n 1, 1) := by decide +kernel
theorem dX7_back_13 : decode cX7_back 13 = .ok (.iload_n 1, 1) := by decide +kernel
theorem dX7_back_14 : decode cX7_back 14 = .ok (.bipush 8, 2) := by decide +kernel
theorem dX7_back_16 : decode cX7_back 16 = .ok (.if_icmp .ge 21, 3) := by decide +kernel
theorem dX7_back_19 : decode cX7_back 19 = .ok (.aload_n 0, 1) := by decide +kernel
theorem dX7_back_20 : decode cX7_back 20 = .ok (.getfield 23, 3) := by decide +kernel
theorem dX7_back_23 : decode cX7_back 23 = .ok (.iload_n 1, 1) := by decide +kernel
theorem dX7_back_24 : decode cX7_back 24 = .ok (.aload_n 0, 1) := by decide +kernel
theorem dX7_back_25 : decode cX7_back 25 = .ok (.getfield 41, 3) := by decide +kernel
theorem dX7_back_28 : decode cX7_back 28 = .ok (.iload_n 1, 1) := by decide +kernel
theorem dX7_back_29 : decode cX7_back 29 = .ok (.iaload, 1) := by decide +kernel
theorem dX7_back_30 : decode cX7_back 30 = .ok (.iastore, 1) := by decide +kernel
theorem dX7_back_31 : decode cX7_back 31 = .ok (.iinc 1 1, 3) := by decide +kernel
theorem dX7_back_34 : decode cX7_back 34 = .ok (.goto (-21), 3) := by decide +kernel
theorem dX7_back_37 : decode cX7_back 37 = .ok (.iconst 0, 1) := by decide +kernel
theorem dX7_back_38 : decode cX7_back 38 = .ok (.istore_n 1, 1) := by decide +kernel
theorem dX7_back_39 : decode cX7_back 39 = .ok (.iload_n 1, 1) := by decide +kernel
theorem dX7_back_40 : decode cX7_back 40 = .ok (.bipush 35, 2) := by decide +kernel
theorem dX7_back_42 : decode cX7_back 42 = .ok (.if_icmp .ge 21, 3) := by decide +kernel
theorem dX7_back_45 : decode cX7_back 45 = .ok (.aload_n 0, 1) := by decide +kernel
theorem dX7_back_46 : decode cX7_back 46 = .ok (.getfield 29, 3) := by decide +kernel
theorem dX7_back_49 : decode cX7_back 49 = .ok (.iload_n 1, 1) := by decide +kernel
theorem dX7_back_50 : decode cX7_back 50 = .ok (.aload_n 0, 1) := by decide +kernel
theorem dX7_back_51 : decode cX7_back 51 = .ok (.getfield 44, 3) := by decide +kernel
theorem dX7_back_54 : decode cX7_back 54 = .ok (.iload_n 1, 1) := by decide +kernel
theorem dX7_back_55 : decode cX7_back 55 = .ok (.iaload, 1) := by decide +kernel
theorem dX7_back_56 : decode cX7_back 56 = .ok (.iastore, 1) := by decide +kernel
theorem dX7_back_57 : decode cX7_back 57 = .ok (.iinc 1 1, 3) := by decide +kernel
theorem dX7_back_60 : decode cX7_back 60 = .ok (.goto (-21), 3) := by decide +kernel
theorem dX7_back_63 : decode cX7_back 63 = .ok (.aload_n 0, 1) := by decide +kernel
theorem dX7_back_64 : decode cX7_back 64 = .ok (.aload_n 0, 1) := by decide +kernel
theorem dX7_back_65 : decode cX7_back 65 = .ok (.getfield 47, 3) := by decide +kernel
theorem dX7_back_68 : decode cX7_back 68 = .ok (.putfield 70, 3) := by decide +kernel
theorem dX7_back_71 : decode cX7_back 71 = .ok (.aload_n 0, 1) := by decide +kernel
theorem dX7_back_72 : decode cX7_back 72 = .ok (.aload_n 0, 1) := by decide +kernel
theorem dX7_back_73 : decode cX7_back 73 = .ok (.getfield 343, 3) := by decide +kernel
theorem dX7_back_76 : decode cX7_back 76 = .ok (.putfield 235, 3) := by decide +kernel
theorem dX7_back_79 : decode cX7_back 79 = .ok (.aload_n 0, 1) := by decide +kernel
theorem dX7_back_80 : decode cX7_back 80 = .ok (.getfield 70, 3) := by decide +kernel
theorem dX7_back_83 : decode cX7_back 83 = .ok (.ireturn, 1) := by decide +kernel
theorem dX7_count_0 : decode cX7_count 0 = .ok (.iload_n 1, 1) := by decide +kernel
theorem dX7_count_1 : decode cX7_count 1 = .ok (.ifCond .ne 10, 3) := by decide +kernel
theorem dX7_count_4 : decode cX7_count 4 = .ok (.aload_n 0, 1) := by decide +kernel
theorem dX7_count_5 : decode cX7_count 5 = .ok (.getfield 70, 3) := by decide +kernel
theorem dX7_count_8 : decode cX7_count 8 = .ok (.goto 41, 3) := by decide +kernel
theorem dX7_count_11 : decode cX7_count 11 = .ok (.iload_n 1, 1) := by decide +kernel
theorem dX7_count_12 : decode cX7_count 12 = .ok (.iconst 1, 1) := by decide +kernel
theorem dX7_count_13 : decode cX7_count 13 = .ok (.if_icmp .ne 10, 3) := by decide +kernel
theorem dX7_count_16 : decode cX7_count 16 = .ok (.aload_n 0, 1) := by decide +kernel
theorem dX7_count_17 : decode cX7_count 17 = .ok (.getfield 67, 3) := by decide +kernel
theorem dX7_count_20 : decode cX7_count 20 = .ok (.goto 29, 3) := by decide +kernel
theorem dX7_count_23 : decode cX7_count 23 = .ok (.iload_n 1, 1) := by decide +kernel
theorem dX7_count_24 : decode cX7_count 24 = .ok (.iconst 2, 1) := by decide +kernel
theorem dX7_count_25 : decode cX7_count 25 = .ok (.if_icmp .ne 10, 3) := by decide +kernel
theorem dX7_count_28 : decode cX7_count 28 = .ok (.aload_n 0, 1) := by decide +kernel
theorem dX7_count_29 : decode cX7_count 29 = .ok (.getfield 120, 3) := by decide +kernel
theorem dX7_count_32 : decode cX7_count 32 = .ok (.goto 17, 3) := by decide +kernel
theorem dX7_count_35 : decode cX7_count 35 = .ok (.iload_n 1, 1) := by decide +kernel
theorem dX7_count_36 : decode cX7_count 36 = .ok (.iconst 3, 1) := by decide +kernel
theorem dX7_count_37 : decode cX7_count 37 = .ok (.if_icmp .ne 10, 3) := by decide +kernel
theorem dX7_count_40 : decode cX7_count 40 = .ok (.aload_n 0, 1) := by decide +kernel
theorem dX7_count_41 : decode cX7_count 41 = .ok (.getfield 235, 3) := by decide +kernel
theorem dX7_count_44 : decode cX7_count 44 = .ok (.goto 5, 3) := by decide +kernel
theorem dX7_count_47 : decode cX7_count 47 = .ok (.bipush (-2), 2) := by decide +kernel
theorem dX7_count_49 : decode cX7_count 49 = .ok (.ireturn, 1) := by decide +kernel
theorem dX7_isSheet_0 : decode cX7_isSheet 0 = .ok (.iload_n 0, 1) := by decide +kernel
theorem dX7_isSheet_1 : decode cX7_isSheet 1 = .ok (.i2l, 1) := by decide +kernel
theorem dX7_isSheet_2 : decode cX7_isSheet 2 = .ok (.lconst 0, 1) := by decide +kernel
theorem dX7_isSheet_3 : decode cX7_isSheet 3 = .ok (.ldc2_w 346, 3) := by decide +kernel
theorem dX7_isSheet_6 : decode cX7_isSheet 6 = .ok (.invokestatic 73, 3) := by decide +kernel
theorem dX7_isSheet_9 : decode cX7_isSheet 9 = .ok (.ireturn, 1) := by decide +kernel
theorem dX7_sheet_0 : decode cX7_sheet 0 = .ok (.iload_n 1, 1) := by decide +kernel
theorem dX7_sheet_1 : decode cX7_sheet 1 = .ok (.invokestatic 301, 3) := by decide +kernel
theorem dX7_sheet_4 : decode cX7_sheet 4 = .ok (.ifCond .eq 27, 3) := by decide +kernel
theorem dX7_sheet_7 : decode cX7_sheet 7 = .ok (.iload_n 2, 1) := by decide +kernel
theorem dX7_sheet_8 : decode cX7_sheet 8 = .ok (.i2l, 1) := by decide +kernel
theorem dX7_sheet_9 : decode cX7_sheet 9 = .ok (.ldc2_w 348, 3) := by decide +kernel
theorem dX7_sheet_12 : decode cX7_sheet 12 = .ok (.ldc2_w 350, 3) := by decide +kernel
theorem dX7_sheet_15 : decode cX7_sheet 15 = .ok (.invokestatic 73, 3) := by decide +kernel
theorem dX7_sheet_18 : decode cX7_sheet 18 = .ok (.ifCond .eq 13, 3) := by decide +kernel
theorem dX7_sheet_21 : decode cX7_sheet 21 = .ok (.iload_n 2, 1) := by decide +kernel
theorem dX7_sheet_22 : decode cX7_sheet 22 = .ok (.ifCond .lt 12, 3) := by decide +kernel
theorem dX7_sheet_25 : decode cX7_sheet 25 = .ok (.iload_n 3, 1) := by decide +kernel
theorem dX7_sheet_26 : decode cX7_sheet 26 = .ok (.bipush 40, 2) := by decide +kernel
theorem dX7_sheet_28 : decode cX7_sheet 28 = .ok (.if_icmp .le 6, 3) := by decide +kernel
theorem dX7_sheet_31 : decode cX7_sheet 31 = .ok (.bipush (-2), 2) := by decide +kernel
theorem dX7_sheet_33 : decode cX7_sheet 33 = .ok (.ireturn, 1) := by decide +kernel
theorem dX7_sheet_34 : decode cX7_sheet 34 = .ok (.iload_n 2, 1) := by decide +kernel
theorem dX7_sheet_35 : decode cX7_sheet 35 = .ok (.ifCond .lt 10, 3) := by decide +kernel
theorem dX7_sheet_38 : decode cX7_sheet 38 = .ok (.iload_n 3, 1) := by decide +kernel
theorem dX7_sheet_39 : decode cX7_sheet 39 = .ok (.ifCond .ge 6, 3) := by decide +kernel
theorem dX7_sheet_42 : decode cX7_sheet 42 = .ok (.bipush (-14), 2) := by decide +kernel
theorem dX7_sheet_44 : decode cX7_sheet 44 = .ok (.ireturn, 1) := by decide +kernel
theorem dX7_sheet_45 : decode cX7_sheet 45 = .ok (.aload_n 0, 1) := by decide +kernel
theorem dX7_sheet_46 : decode cX7_sheet 46 = .ok (.getfield 50, 3) := by decide +kernel
theorem dX7_sheet_49 : decode cX7_sheet 49 = .ok (.iload_n 1, 1) := by decide +kernel
theorem dX7_sheet_50 : decode cX7_sheet 50 = .ok (.iload_n 2, 1) := by decide +kernel
theorem dX7_sheet_51 : decode cX7_sheet 51 = .ok (.ifCond .lt 7, 3) := by decide +kernel
theorem dX7_sheet_54 : decode cX7_sheet 54 = .ok (.iconst 1, 1) := by decide +kernel
theorem dX7_sheet_55 : decode cX7_sheet 55 = .ok (.goto 4, 3) := by decide +kernel
theorem dX7_sheet_58 : decode cX7_sheet 58 = .ok (.iconst 0, 1) := by decide +kernel
theorem dX7_sheet_59 : decode cX7_sheet 59 = .ok (.bastore, 1) := by decide +kernel
theorem dX7_sheet_60 : decode cX7_sheet 60 = .ok (.aload_n 0, 1) := by decide +kernel
theorem dX7_sheet_61 : decode cX7_sheet 61 = .ok (.getfield 54, 3) := by decide +kernel
theorem dX7_sheet_64 : decode cX7_sheet 64 = .ok (.iload_n 1, 1) := by decide +kernel
theorem dX7_sheet_65 : decode cX7_sheet 65 = .ok (.iload_n 2, 1) := by decide +kernel
theorem dX7_sheet_66 : decode cX7_sheet 66 = .ok (.iastore, 1) := by decide +kernel
theorem dX7_sheet_67 : decode cX7_sheet 67 = .ok (.aload_n 0, 1) := by decide +kernel
theorem dX7_sheet_68 : decode cX7_sheet 68 = .ok (.getfield 57, 3) := by decide +kernel
theorem dX7_sheet_71 : decode cX7_sheet 71 = .ok (.iload_n 1, 1) := by decide +kernel
theorem dX7_sheet_72 : decode cX7_sheet 72 = .ok (.iload_n 3, 1) := by decide +kernel
theorem dX7_sheet_73 : decode cX7_sheet 73 = .ok (.iastore, 1) := by decide +kernel
theorem dX7_sheet_74 : decode cX7_sheet 74 = .ok (.iconst 0, 1) := by decide +kernel
theorem dX7_sheet_75 : decode cX7_sheet 75 = .ok (.istore 4, 2) := by decide +kernel
theorem dX7_sheet_77 : decode cX7_sheet 77 = .ok (.iload 4, 2) := by decide +kernel
theorem dX7_sheet_79 : decode cX7_sheet 79 = .ok (.iload_n 3, 1) := by decide +kernel
theorem dX7_sheet_80 : decode cX7_sheet 80 = .ok (.if_icmp .ge 26, 3) := by decide +kernel
theorem dX7_sheet_83 : decode cX7_sheet 83 = .ok (.iload_n 2, 1) := by decide +kernel
theorem dX7_sheet_84 : decode cX7_sheet 84 = .ok (.ifCond .lt 22, 3) := by decide +kernel
theorem dX7_sheet_87 : decode cX7_sheet 87 = .ok (.aload_n 0, 1) := by decide +kernel
theorem dX7_sheet_88 : decode cX7_sheet 88 = .ok (.getfield 60, 3) := by decide +kernel
theorem dX7_sheet_91 : decode cX7_sheet 91 = .ok (.bipush 40, 2) := by decide +kernel
theorem dX7_sheet_93 : decode cX7_sheet 93 = .ok (.iload_n 1, 1) := by decide +kernel
theorem dX7_sheet_94 : decode cX7_sheet 94 = .ok (.imul, 1) := by decide +kernel
theorem dX7_sheet_95 : decode cX7_sheet 95 = .ok (.iload 4, 2) := by decide +kernel
theorem dX7_sheet_97 : decode cX7_sheet 97 = .ok (.iadd, 1) := by decide +kernel
theorem dX7_sheet_98 : decode cX7_sheet 98 = .ok (.iconst 0, 1) := by decide +kernel
theorem dX7_sheet_99 : decode cX7_sheet 99 = .ok (.iastore, 1) := by decide +kernel
theorem dX7_sheet_100 : decode cX7_sheet 100 = .ok (.iinc 4 1, 3) := by decide +kernel
theorem dX7_sheet_103 : decode cX7_sheet 103 = .ok (.goto (-26), 3) := by decide +kernel
theorem dX7_sheet_106 : decode cX7_sheet 106 = .ok (.iconst 1, 1) := by decide +kernel
theorem dX7_sheet_107 : decode cX7_sheet 107 = .ok (.ireturn, 1) := by decide +kernel
theorem dX7_cell_0 : decode cX7_cell 0 = .ok (.iload_n 1, 1) := by decide +kernel
theorem dX7_cell_1 : decode cX7_cell 1 = .ok (.invokestatic 301, 3) := by decide +kernel
theorem dX7_cell_4 : decode cX7_cell 4 = .ok (.ifCond .ne 6, 3) := by decide +kernel
theorem dX7_cell_7 : decode cX7_cell 7 = .ok (.bipush (-2), 2) := by decide +kernel
theorem dX7_cell_9 : decode cX7_cell 9 = .ok (.ireturn, 1) := by decide +kernel
theorem dX7_cell_10 : decode cX7_cell 10 = .ok (.aload_n 0, 1) := by decide +kernel
theorem dX7_cell_11 : decode cX7_cell 11 = .ok (.getfield 50, 3) := by decide +kernel
theorem dX7_cell_14 : decode cX7_cell 14 = .ok (.iload_n 1, 1) := by decide +kernel
theorem dX7_cell_15 : decode cX7_cell 15 = .ok (.baload, 1) := by decide +kernel
theorem dX7_cell_16 : decode cX7_cell 16 = .ok (.ifCond .ne 6, 3) := by decide +kernel
theorem dX7_cell_19 : decode cX7_cell 19 = .ok (.bipush (-11), 2) := by decide +kernel
theorem dX7_cell_21 : decode cX7_cell 21 = .ok (.ireturn, 1) := by decide +kernel
theorem dX7_cell_22 : decode cX7_cell 22 = .ok (.iload_n 2, 1) := by decide +kernel
theorem dX7_cell_23 : decode cX7_cell 23 = .ok (.i2l, 1) := by decide +kernel
theorem dX7_cell_24 : decode cX7_cell 24 = .ok (.lconst 0, 1) := by decide +kernel
theorem dX7_cell_25 : decode cX7_cell 25 = .ok (.aload_n 0, 1) := by decide +kernel
theorem dX7_cell_26 : decode cX7_cell 26 = .ok (.getfield 57, 3) := by decide +kernel
theorem dX7_cell_29 : decode cX7_cell 29 = .ok (.iload_n 1, 1) := by decide +kernel
theorem dX7_cell_30 : decode cX7_cell 30 = .ok (.iaload, 1) := by decide +kernel
theorem dX7_cell_31 : decode cX7_cell 31 = .ok (.iconst 1, 1) := by decide +kernel
theorem dX7_cell_32 : decode cX7_cell 32 = .ok (.isub, 1) := by decide +kernel
theorem dX7_cell_33 : decode cX7_cell 33 = .ok (.i2l, 1) := by decide +kernel
theorem dX7_cell_34 : decode cX7_cell 34 = .ok (.invokestatic 73, 3) := by decide +kernel
theorem dX7_cell_37 : decode cX7_cell 37 = .ok (.ifCond .ne 6, 3) := by decide +kernel
theorem dX7_cell_40 : decode cX7_cell 40 = .ok (.bipush (-12), 2) := by decide +kernel
theorem dX7_cell_42 : decode cX7_cell 42 = .ok (.ireturn, 1) := by decide +kernel
theorem dX7_cell_43 : decode cX7_cell 43 = .ok (.aload_n 0, 1) := by decide +kernel
theorem dX7_cell_44 : decode cX7_cell 44 = .ok (.getfield 60, 3) := by decide +kernel
theorem dX7_cell_47 : decode cX7_cell 47 = .ok (.bipush 40, 2) := by decide +kernel
theorem dX7_cell_49 : decode cX7_cell 49 = .ok (.iload_n 1, 1) := by decide +kernel
theorem dX7_cell_50 : decode cX7_cell 50 = .ok (.imul, 1) := by decide +kernel
theorem dX7_cell_51 : decode cX7_cell 51 = .ok (.iload_n 2, 1) := by decide +kernel
theorem dX7_cell_52 : decode cX7_cell 52 = .ok (.iadd, 1) := by decide +kernel
theorem dX7_cell_53 : decode cX7_cell 53 = .ok (.aload_n 0, 1) := by decide +kernel
theorem dX7_cell_54 : decode cX7_cell 54 = .ok (.getfield 54, 3) := by decide +kernel
theorem dX7_cell_57 : decode cX7_cell 57 = .ok (.iload_n 1, 1) := by decide +kernel
theorem dX7_cell_58 : decode cX7_cell 58 = .ok (.iaload, 1) := by decide +kernel
theorem dX7_cell_59 : decode cX7_cell 59 = .ok (.ifCond .ne 8, 3) := by decide +kernel
theorem dX7_cell_62 : decode cX7_cell 62 = .ok (.iload_n 3, 1) := by decide +kernel
theorem dX7_cell_63 : decode cX7_cell 63 = .ok (.i2b, 1) := by decide +kernel
theorem dX7_cell_64 : decode cX7_cell 64 = .ok (.goto 19, 3) := by decide +kernel
theorem dX7_cell_67 : decode cX7_cell 67 = .ok (.aload_n 0, 1) := by decide +kernel
theorem dX7_cell_68 : decode cX7_cell 68 = .ok (.getfield 54, 3) := by decide +kernel
theorem dX7_cell_71 : decode cX7_cell 71 = .ok (.iload_n 1, 1) := by decide +kernel
theorem dX7_cell_72 : decode cX7_cell 72 = .ok (.iaload, 1) := by decide +kernel
theorem dX7_cell_73 : decode cX7_cell 73 = .ok (.iconst 1, 1) := by decide +kernel
theorem dX7_cell_74 : decode cX7_cell 74 = .ok (.if_icmp .ne 8, 3) := by decide +kernel
theorem dX7_cell_77 : decode cX7_cell 77 = .ok (.iload_n 3, 1) := by decide +kernel
theorem dX7_cell_78 : decode cX7_cell 78 = .ok (.i2s, 1) := by decide +kernel
theorem dX7_cell_79 : decode cX7_cell 79 = .ok (.goto 4, 3) := by decide +kernel
theorem dX7_cell_82 : decode cX7_cell 82 = .ok (.iload_n 3, 1) := by decide +kernel
theorem dX7_cell_83 : decode cX7_cell 83 = .ok (.iastore, 1) := by decide +kernel
theorem dX7_cell_84 : decode cX7_cell 84 = .ok (.iconst 1, 1) := by decide +kernel
theorem dX7_cell_85 : decode cX7_cell 85 = .ok (.ireturn, 1) := by decide +kernel
theorem dX7_copy_0 : decode cX7_copy 0 = .ok (.iload_n 1, 1) := by decide +kernel
theorem dX7_copy_1 : decode cX7_copy 1 = .ok (.invokestatic 301, 3) := by decide +kernel
theorem dX7_copy_4 : decode cX7_copy 4 = .ok (.ifCond .eq 10, 3) := by decide +kernel
theorem dX7_copy_7 : decode cX7_copy 7 = .ok (.iload_n 3, 1) := by decide +kernel
theorem dX7_copy_8 : decode cX7_copy 8 = .ok (.invokestatic 301, 3) := by decide +kernel
theorem dX7_copy_11 : decode cX7_copy 11 = .ok (.ifCond .ne 6, 3) := by decide +kernel
theorem dX7_copy_14 : decode cX7_copy 14 = .ok (.bipush (-2), 2) := by decide +kernel
theorem dX7_copy_16 : decode cX7_copy 16 = .ok (.ireturn, 1) := by decide +kernel
theorem dX7_copy_17 : decode cX7_copy 17 = .ok (.aload_n 0, 1) := by decide +kernel
theorem dX7_copy_18 : decode cX7_copy 18 = .ok (.getfield 50, 3) := by decide +kernel
theorem dX7_copy_21 : decode cX7_copy 21 = .ok (.iload_n 1, 1) := by decide +kernel
theorem dX7_copy_22 : decode cX7_copy 22 = .ok (.baload, 1) := by decide +kernel
theorem dX7_copy_23 : decode cX7_copy 23 = .ok (.ifCond .eq 12, 3) := by decide +kernel
theorem dX7_copy_26 : decode cX7_copy 26 = .ok (.aload_n 0, 1) := by decide +kernel
theorem dX7_copy_27 : decode cX7_copy 27 = .ok (.getfield 50, 3) := by decide +kernel
theorem dX7_copy_30 : decode cX7_copy 30 = .ok (.iload_n 3, 1) := by decide +kernel
theorem dX7_copy_31 : decode cX7_copy 31 = .ok (.baload, 1) := by decide +kernel
theorem dX7_copy_32 : decode cX7_copy 32 = .ok (.ifCond .ne 6, 3) := by decide +kernel
theorem dX7_copy_35 : decode cX7_copy 35 = .ok (.bipush (-11), 2) := by decide +kernel
theorem dX7_copy_37 : decode cX7_copy 37 = .ok (.ireturn, 1) := by decide +kernel
theorem dX7_copy_38 : decode cX7_copy 38 = .ok (.aload_n 0, 1) := by decide +kernel
theorem dX7_copy_39 : decode cX7_copy 39 = .ok (.getfield 54, 3) := by decide +kernel
theorem dX7_copy_42 : decode cX7_copy 42 = .ok (.iload_n 1, 1) := by decide +kernel
theorem dX7_copy_43 : decode cX7_copy 43 = .ok (.iaload, 1) := by decide +kernel
theorem dX7_copy_44 : decode cX7_copy 44 = .ok (.aload_n 0, 1) := by decide +kernel
theorem dX7_copy_45 : decode cX7_copy 45 = .ok (.getfield 54, 3) := by decide +kernel
theorem dX7_copy_48 : decode cX7_copy 48 = .ok (.iload_n 3, 1) := by decide +kernel
theorem dX7_copy_49 : decode cX7_copy 49 = .ok (.iaload, 1) := by decide +kernel
theorem dX7_copy_50 : decode cX7_copy 50 = .ok (.if_icmp .eq 6, 3) := by decide +kernel
theorem dX7_copy_53 : decode cX7_copy 53 = .ok (.bipush (-13), 2) := by decide +kernel
theorem dX7_copy_55 : decode cX7_copy 55 = .ok (.ireturn, 1) := by decide +kernel
theorem dX7_copy_56 : decode cX7_copy 56 = .ok (.iload 5, 2) := by decide +kernel
theorem dX7_copy_58 : decode cX7_copy 58 = .ok (.ifCond .lt 39, 3) := by decide +kernel
theorem dX7_copy_61 : decode cX7_copy 61 = .ok (.iload_n 2, 1) := by decide +kernel
theorem dX7_copy_62 : decode cX7_copy 62 = .ok (.ifCond .lt 35, 3) := by decide +kernel
theorem dX7_copy_65 : decode cX7_copy 65 = .ok (.iload 4, 2) := by decide +kernel
theorem dX7_copy_67 : decode cX7_copy 67 = .ok (.ifCond .lt 30, 3) := by decide +kernel
theorem dX7_copy_70 : decode cX7_copy 70 = .ok (.iload_n 2, 1) := by decide +kernel
theorem dX7_copy_71 : decode cX7_copy 71 = .ok (.aload_n 0, 1) := by decide +kernel
theorem dX7_copy_72 : decode cX7_copy 72 = .ok (.getfield 57, 3) := by decide +kernel
theorem dX7_copy_75 : decode cX7_copy 75 = .ok (.iload_n 1, 1) := by decide +kernel
theorem dX7_copy_76 : decode cX7_copy 76 = .ok (.iaload, 1) := by decide +kernel
theorem dX7_copy_77 : decode cX7_copy 77 = .ok (.iload 5, 2) := by decide +kernel
theorem dX7_copy_79 : decode cX7_copy 79 = .ok (.isub, 1) := by decide +kernel
theorem dX7_copy_80 : decode cX7_copy 80 = .ok (.if_icmp .gt 17, 3) := by decide +kernel
theorem dX7_copy_83 : decode cX7_copy 83 = .ok (.iload 4, 2) := by decide +kernel
theorem dX7_copy_85 : decode cX7_copy 85 = .ok (.aload_n 0, 1) := by decide +kernel
theorem dX7_copy_86 : decode cX7_copy 86 = .ok (.getfield 57, 3) := by decide +kernel
theorem dX7_copy_89 : decode cX7_copy 89 = .ok (.iload_n 3, 1) := by decide +kernel
theorem dX7_copy_90 : decode cX7_copy 90 = .ok (.iaload, 1) := by decide +kernel
theorem dX7_copy_91 : decode cX7_copy 91 = .ok (.iload 5, 2) := by decide +kernel
theorem dX7_copy_93 : decode cX7_copy 93 = .ok (.isub, 1) := by decide +kernel
theorem dX7_copy_94 : decode cX7_copy 94 = .ok (.if_icmp .le 6, 3) := by decide +kernel
theorem dX7_copy_97 : decode cX7_copy 97 = .ok (.bipush (-12), 2) := by decide +kernel
theorem dX7_copy_99 : decode cX7_copy 99 = .ok (.ireturn, 1) := by decide +kernel
theorem dX7_copy_100 : decode cX7_copy 100 = .ok (.iload_n 1, 1) := by decide +kernel
theorem dX7_copy_101 : decode cX7_copy 101 = .ok (.iload_n 3, 1) := by decide +kernel
theorem dX7_copy_102 : decode cX7_copy 102 = .ok (.if_icmp .ne 13, 3) := by decide +kernel
theorem dX7_copy_105 : decode cX7_copy 105 = .ok (.iload_n 2, 1) := by decide +kernel
theorem dX7_copy_106 : decode cX7_copy 106 = .ok (.iload 4, 2) := by decide +kernel
theorem dX7_copy_108 : decode cX7_copy 108 = .ok (.if_icmp .ge 7, 3) := by decide +kernel
theorem dX7_copy_111 : decode cX7_copy 111 = .ok (.iconst 1, 1) := by decide +kernel
theorem dX7_copy_112 : decode cX7_copy 112 = .ok (.goto 4, 3) := by decide +kernel
theorem dX7_copy_115 : decode cX7_copy 115 = .ok (.iconst 0, 1) := by decide +kernel
theorem dX7_copy_116 : decode cX7_copy 116 = .ok (.istore 6, 2) := by decide +kernel
theorem dX7_copy_118 : decode cX7_copy 118 = .ok (.iconst 0, 1) := by decide +kernel
theorem dX7_copy_119 : decode cX7_copy 119 = .ok (.istore 7, 2) := by decide +kernel
theorem dX7_copy_121 : decode cX7_copy 121 = .ok (.iload 7, 2) := by decide +kernel
theorem dX7_copy_123 : decode cX7_copy 123 = .ok (.iload 5, 2) := by decide +kernel
theorem dX7_copy_125 : decode cX7_copy 125 = .ok (.if_icmp .ge 57, 3) := by decide +kernel
theorem dX7_copy_128 : decode cX7_copy 128 = .ok (.iload 6, 2) := by decide +kernel
theorem dX7_copy_130 : decode cX7_copy 130 = .ok (.ifCond .eq 13, 3) := by decide +kernel
theorem dX7_copy_133 : decode cX7_copy 133 = .ok (.iload 5, 2) := by decide +kernel
theorem dX7_copy_135 : decode cX7_copy 135 = .ok (.iconst 1, 1) := by decide +kernel
theorem dX7_copy_136 : decode cX7_copy 136 = .ok (.isub, 1) := by decide +kernel
theorem dX7_copy_137 : decode cX7_copy 137 = .ok (.iload 7, 2) := by decide +kernel
theorem dX7_copy_139 : decode cX7_copy 139 = .ok (.isub, 1) := by decide +kernel
theorem dX7_copy_140 : decode cX7_copy 140 = .ok (.goto 5, 3) := by decide +kernel
theorem dX7_copy_143 : decode cX7_copy 143 = .ok (.iload 7, 2) := by decide +kernel
theorem dX7_copy_145 : decode cX7_copy 145 = .ok (.istore 8, 2) := by decide +kernel
theorem dX7_copy_147 : decode cX7_copy 147 = .ok (.aload_n 0, 1) := by decide +kernel
theorem dX7_copy_148 : decode cX7_copy 148 = .ok (.getfield 60, 3) := by decide +kernel
theorem dX7_copy_151 : decode cX7_copy 151 = .ok (.bipush 40, 2) := by decide +kernel
theorem dX7_copy_153 : decode cX7_copy 153 = .ok (.iload_n 3, 1) := by decide +kernel
theorem dX7_copy_154 : decode cX7_copy 154 = .ok (.imul, 1) := by decide +kernel
theorem dX7_copy_155 : decode cX7_copy 155 = .ok (.iload 4, 2) := by decide +kernel
theorem dX7_copy_157 : decode cX7_copy 157 = .ok (.iadd, 1) := by decide +kernel
theorem dX7_copy_158 : decode cX7_copy 158 = .ok (.iload 8, 2) := by decide +kernel
theorem dX7_copy_160 : decode cX7_copy 160 = .ok (.iadd, 1) := by decide +kernel
theorem dX7_copy_161 : decode cX7_copy 161 = .ok (.aload_n 0, 1) := by decide +kernel
theorem dX7_copy_162 : decode cX7_copy 162 = .ok (.getfield 60, 3) := by decide +kernel
theorem dX7_copy_165 : decode cX7_copy 165 = .ok (.bipush 40, 2) := by decide +kernel
theorem dX7_copy_167 : decode cX7_copy 167 = .ok (.iload_n 1, 1) := by decide +kernel
theorem dX7_copy_168 : decode cX7_copy 168 = .ok (.imul, 1) := by decide +kernel
theorem dX7_copy_169 : decode cX7_copy 169 = .ok (.iload_n 2, 1) := by decide +kernel
theorem dX7_copy_170 : decode cX7_copy 170 = .ok (.iadd, 1) := by decide +kernel
theorem dX7_copy_171 : decode cX7_copy 171 = .ok (.iload 8, 2) := by decide +kernel
theorem dX7_copy_173 : decode cX7_copy 173 = .ok (.iadd, 1) := by decide +kernel
theorem dX7_copy_174 : decode cX7_copy 174 = .ok (.iaload, 1) := by decide +kernel
theorem dX7_copy_175 : decode cX7_copy 175 = .ok (.iastore, 1) := by decide +kernel
theorem dX7_copy_176 : decode cX7_copy 176 = .ok (.iinc 7 1, 3) := by decide +kernel
theorem dX7_copy_179 : decode cX7_copy 179 = .ok (.goto (-58), 3) := by decide +kernel
theorem dX7_copy_182 : decode cX7_copy 182 = .ok (.iload 5, 2) := by decide +kernel
theorem dX7_copy_184 : decode cX7_copy 184 = .ok (.ireturn, 1) := by decide +kernel
theorem dX7_sights_0 : decode cX7_sights 0 = .ok (.iload_n 1, 1) := by decide +kernel
theorem dX7_sights_1 : decode cX7_sights 1 = .ok (.invokestatic 301, 3) := by decide +kernel
theorem dX7_sights_4 : decode cX7_sights 4 = .ok (.ifCond .eq 28, 3) := by decide +kernel
theorem dX7_sights_7 : decode cX7_sights 7 = .ok (.iload_n 2, 1) := by decide +kernel
theorem dX7_sights_8 : decode cX7_sights 8 = .ok (.i2l, 1) := by decide +kernel
theorem dX7_sights_9 : decode cX7_sights 9 = .ok (.lconst 0, 1) := by decide +kernel
theorem dX7_sights_10 : decode cX7_sights 10 = .ok (.ldc2_w 350, 3) := by decide +kernel
theorem dX7_sights_13 : decode cX7_sights 13 = .ok (.invokestatic 73, 3) := by decide +kernel
theorem dX7_sights_16 : decode cX7_sights 16 = .ok (.ifCond .eq 16, 3) := by decide +kernel
theorem dX7_sights_19 : decode cX7_sights 19 = .ok (.iload 4, 2) := by decide +kernel
theorem dX7_sights_21 : decode cX7_sights 21 = .ok (.i2l, 1) := by decide +kernel
theorem dX7_sights_22 : decode cX7_sights 22 = .ok (.lconst 0, 1) := by decide +kernel
theorem dX7_sights_23 : decode cX7_sights 23 = .ok (.ldc2_w 352, 3) := by decide +kernel
theorem dX7_sights_26 : decode cX7_sights 26 = .ok (.invokestatic 73, 3) := by decide +kernel
theorem dX7_sights_29 : decode cX7_sights 29 = .ok (.ifCond .ne 6, 3) := by decide +kernel
theorem dX7_sights_32 : decode cX7_sights 32 = .ok (.bipush (-2), 2) := by decide +kernel
theorem dX7_sights_34 : decode cX7_sights 34 = .ok (.ireturn, 1) := by decide +kernel
theorem dX7_sights_35 : decode cX7_sights 35 = .ok (.aload_n 0, 1) := by decide +kernel
theorem dX7_sights_36 : decode cX7_sights 36 = .ok (.getfield 50, 3) := by decide +kernel
theorem dX7_sights_39 : decode cX7_sights 39 = .ok (.iload_n 1, 1) := by decide +kernel
theorem dX7_sights_40 : decode cX7_sights 40 = .ok (.baload, 1) := by decide +kernel
theorem dX7_sights_41 : decode cX7_sights 41 = .ok (.ifCond .eq 16, 3) := by decide +kernel
theorem dX7_sights_44 : decode cX7_sights 44 = .ok (.aload_n 0, 1) := by decide +kernel
theorem dX7_sights_45 : decode cX7_sights 45 = .ok (.getfield 54, 3) := by decide +kernel
theorem dX7_sights_48 : decode cX7_sights 48 = .ok (.iload_n 1, 1) := by decide +kernel
theorem dX7_sights_49 : decode cX7_sights 49 = .ok (.iaload, 1) := by decide +kernel
theorem dX7_sights_50 : decode cX7_sights 50 = .ok (.iload_n 2, 1) := by decide +kernel
theorem dX7_sights_51 : decode cX7_sights 51 = .ok (.if_icmp .eq 6, 3) := by decide +kernel
theorem dX7_sights_54 : decode cX7_sights 54 = .ok (.bipush (-13), 2) := by decide +kernel
theorem dX7_sights_56 : decode cX7_sights 56 = .ok (.ireturn, 1) := by decide +kernel
theorem dX7_sights_57 : decode cX7_sights 57 = .ok (.aload_n 0, 1) := by decide +kernel
theorem dX7_sights_58 : decode cX7_sights 58 = .ok (.getfield 50, 3) := by decide +kernel
theorem dX7_sights_61 : decode cX7_sights 61 = .ok (.iload_n 1, 1) := by decide +kernel
theorem dX7_sights_62 : decode cX7_sights 62 = .ok (.baload, 1) := by decide +kernel
theorem dX7_sights_63 : decode cX7_sights 63 = .ok (.ifCond .ne 6, 3) := by decide +kernel
theorem dX7_sights_66 : decode cX7_sights 66 = .ok (.bipush (-11), 2) := by decide +kernel
theorem dX7_sights_68 : decode cX7_sights 68 = .ok (.ireturn, 1) := by decide +kernel
theorem dX7_sights_69 : decode cX7_sights 69 = .ok (.iconst 0, 1) := by decide +kernel
theorem dX7_sights_70 : decode cX7_sights 70 = .ok (.istore 5, 2) := by decide +kernel
theorem dX7_sights_72 : decode cX7_sights 72 = .ok (.iconst 0, 1) := by decide +kernel
theorem dX7_sights_73 : decode cX7_sights 73 = .ok (.istore 6, 2) := by decide +kernel
theorem dX7_sights_75 : decode cX7_sights 75 = .ok (.iload 6, 2) := by decide +kernel
theorem dX7_sights_77 : decode cX7_sights 77 = .ok (.iload 4, 2) := by decide +kernel
theorem dX7_sights_79 : decode cX7_sights 79 = .ok (.if_icmp .ge 88, 3) := by decide +kernel
theorem dX7_sights_82 : decode cX7_sights 82 = .ok (.iload_n 3, 1) := by decide +kernel
theorem dX7_sights_83 : decode cX7_sights 83 = .ok (.ifCond .lt 20, 3) := by decide +kernel
theorem dX7_sights_86 : decode cX7_sights 86 = .ok (.iload_n 3, 1) := by decide +kernel
theorem dX7_sights_87 : decode cX7_sights 87 = .ok (.aload_n 0, 1) := by decide +kernel
theorem dX7_sights_88 : decode cX7_sights 88 = .ok (.getfield 57, 3) := by decide +kernel
theorem dX7_sights_91 : decode cX7_sights 91 = .ok (.iload_n 1, 1) := by decide +kernel
theorem dX7_sights_92 : decode cX7_sights 92 = .ok (.iaload, 1) := by decide +kernel
theorem dX7_sights_93 : decode cX7_sights 93 = .ok (.iconst 3, 1) := by decide +kernel
theorem dX7_sights_94 : decode cX7_sights 94 = .ok (.iload 6, 2) := by decide +kernel
theorem dX7_sights_96 : decode cX7_sights 96 = .ok (.imul, 1) := by decide +kernel
theorem dX7_sights_97 : decode cX7_sights 97 = .ok (.isub, 1) := by decide +kernel
theorem dX7_sights_98 : decode cX7_sights 98 = .ok (.iconst 3, 1) := by decide +kernel
theorem dX7_sights_99 : decode cX7_sights 99 = .ok (.isub, 1) := by decide +kernel
theorem dX7_sights_100 : decode cX7_sights 100 = .ok (.if_icmp .le 6, 3) := by decide +kernel
theorem dX7_sights_103 : decode cX7_sights 103 = .ok (.bipush (-12), 2) := by decide +kernel
theorem dX7_sights_105 : decode cX7_sights 105 = .ok (.ireturn, 1) := by decide +kernel
theorem dX7_sights_106 : decode cX7_sights 106 = .ok (.bipush 40, 2) := by decide +kernel
theorem dX7_sights_108 : decode cX7_sights 108 = .ok (.iload_n 1, 1) := by decide +kernel
theorem dX7_sights_109 : decode cX7_sights 109 = .ok (.imul, 1) := by decide +kernel
theorem dX7_sights_110 : decode cX7_sights 110 = .ok (.iload_n 3, 1) := by decide +kernel
theorem dX7_sights_111 : decode cX7_sights 111 = .ok (.iadd, 1) := by decide +kernel
theorem dX7_sights_112 : decode cX7_sights 112 = .ok (.iconst 3, 1) := by decide +kernel
theorem dX7_sights_113 : decode cX7_sights 113 = .ok (.iload 6, 2) := by decide +kernel
theorem dX7_sights_115 : decode cX7_sights 115 = .ok (.imul, 1) := by decide +kernel
theorem dX7_sights_116 : decode cX7_sights 116 = .ok (.iadd, 1) := by decide +kernel
theorem dX7_sights_117 : decode cX7_sights 117 = .ok (.istore 7, 2) := by decide +kernel
theorem dX7_sights_119 : decode cX7_sights 119 = .ok (.iload 5, 2) := by decide +kernel
theorem dX7_sights_121 : decode cX7_sights 121 = .ok (.aload_n 0, 1) := by decide +kernel
theorem dX7_sights_122 : decode cX7_sights 122 = .ok (.aload_n 0, 1) := by decide +kernel
theorem dX7_sights_123 : decode cX7_sights 123 = .ok (.getfield 60, 3) := by decide +kernel
theorem dX7_sights_126 : decode cX7_sights 126 = .ok (.iload 7, 2) := by decide +kernel
theorem dX7_sights_128 : decode cX7_sights 128 = .ok (.iaload, 1) := by decide +kernel
theorem dX7_sights_129 : decode cX7_sights 129 = .ok (.aload_n 0, 1) := by decide +kernel
theorem dX7_sights_130 : decode cX7_sights 130 = .ok (.getfield 60, 3) := by decide +kernel
theorem dX7_sights_133 : decode cX7_sights 133 = .ok (.iload 7, 2) := by decide +kernel
theorem dX7_sights_135 : decode cX7_sights 135 = .ok (.iconst 1, 1) := by decide +kernel
theorem dX7_sights_136 : decode cX7_sights 136 = .ok (.iadd, 1) := by decide +kernel
theorem dX7_sights_137 : decode cX7_sights 137 = .ok (.iaload, 1) := by decide +kernel
theorem dX7_sights_138 : decode cX7_sights 138 = .ok (.aload_n 0, 1) := by decide +kernel
theorem dX7_sights_139 : decode cX7_sights 139 = .ok (.getfield 60, 3) := by decide +kernel
theorem dX7_sights_142 : decode cX7_sights 142 = .ok (.iload 7, 2) := by decide +kernel
theorem dX7_sights_144 : decode cX7_sights 144 = .ok (.iconst 2, 1) := by decide +kernel
theorem dX7_sights_145 : decode cX7_sights 145 = .ok (.iadd, 1) := by decide +kernel
theorem dX7_sights_146 : decode cX7_sights 146 = .ok (.iaload, 1) := by decide +kernel
theorem dX7_sights_147 : decode cX7_sights 147 = .ok (.invokevirtual 354, 3) := by decide +kernel
theorem dX7_sights_150 : decode cX7_sights 150 = .ok (.ifCond .lt 7, 3) := by decide +kernel
theorem dX7_sights_153 : decode cX7_sights 153 = .ok (.iconst 1, 1) := by decide +kernel
theorem dX7_sights_154 : decode cX7_sights 154 = .ok (.goto 4, 3) := by decide +kernel
theorem dX7_sights_157 : decode cX7_sights 157 = .ok (.iconst 0, 1) := by decide +kernel
theorem dX7_sights_158 : decode cX7_sights 158 = .ok (.iadd, 1) := by decide +kernel
theorem dX7_sights_159 : decode cX7_sights 159 = .ok (.istore 5, 2) := by decide +kernel
theorem dX7_sights_161 : decode cX7_sights 161 = .ok (.iinc 6 1, 3) := by decide +kernel
theorem dX7_sights_164 : decode cX7_sights 164 = .ok (.goto (-89), 3) := by decide +kernel
theorem dX7_sights_167 : decode cX7_sights 167 = .ok (.iload 5, 2) := by decide +kernel
theorem dX7_sights_169 : decode cX7_sights 169 = .ok (.ireturn, 1) := by decide +kernel
theorem dX7_over_0 : decode cX7_over 0 = .ok (.iload_n 0, 1) := by decide +kernel
theorem dX7_over_1 : decode cX7_over 1 = .ok (.ifCond .ne 7, 3) := by decide +kernel
theorem dX7_over_4 : decode cX7_over 4 = .ok (.iconst (-1), 1) := by decide +kernel
theorem dX7_over_5 : decode cX7_over 5 = .ok (.goto 22, 3) := by decide +kernel
theorem dX7_over_8 : decode cX7_over 8 = .ok (.iload_n 0, 1) := by decide +kernel
theorem dX7_over_9 : decode cX7_over 9 = .ok (.iconst 3, 1) := by decide +kernel
theorem dX7_over_10 : decode cX7_over 10 = .ok (.if_icmp .ne 7, 3) := by decide +kernel
theorem dX7_over_13 : decode cX7_over 13 = .ok (.iconst 1, 1) := by decide +kernel
theorem dX7_over_14 : decode cX7_over 14 = .ok (.goto 13, 3) := by decide +kernel
theorem dX7_over_17 : decode cX7_over 17 = .ok (.iload_n 0, 1) := by decide +kernel
theorem dX7_over_18 : decode cX7_over 18 = .ok (.iconst 4, 1) := by decide +kernel
theorem dX7_over_19 : decode cX7_over 19 = .ok (.if_icmp .ne 7, 3) := by decide +kernel
theorem dX7_over_22 : decode cX7_over 22 = .ok (.iconst 2, 1) := by decide +kernel
theorem dX7_over_23 : decode cX7_over 23 = .ok (.goto 4, 3) := by decide +kernel
theorem dX7_over_26 : decode cX7_over 26 = .ok (.iconst 0, 1) := by decide +kernel
theorem dX7_over_27 : decode cX7_over 27 = .ok (.ireturn, 1) := by decide +kernel
theorem dX7_taken_0 : decode cX7_taken 0 = .ok (.iload_n 2, 1) := by decide +kernel
theorem dX7_taken_1 : decode cX7_taken 1 = .ok (.i2l, 1) := by decide +kernel
theorem dX7_taken_2 : decode cX7_taken 2 = .ok (.lconst 0, 1) := by decide +kernel
theorem dX7_taken_3 : decode cX7_taken 3 = .ok (.ldc2_w 94, 3) := by decide +kernel
theorem dX7_taken_6 : decode cX7_taken 6 = .ok (.invokestatic 73, 3) := by decide +kernel
theorem dX7_taken_9 : decode cX7_taken 9 = .ok (.ifCond .ne 6, 3) := by decide +kernel
theorem dX7_taken_12 : decode cX7_taken 12 = .ok (.bipush (-2), 2) := by decide +kernel
theorem dX7_taken_14 : decode cX7_taken 14 = .ok (.ireturn, 1) := by decide +kernel
theorem dX7_taken_15 : decode cX7_taken 15 = .ok (.aload_n 0, 1) := by decide +kernel
theorem dX7_taken_16 : decode cX7_taken 16 = .ok (.iload_n 1, 1) := by decide +kernel
theorem dX7_taken_17 : decode cX7_taken 17 = .ok (.invokevirtual 79, 3) := by decide +kernel
theorem dX7_taken_20 : decode cX7_taken 20 = .ok (.ifCond .ne 6, 3) := by decide +kernel
theorem dX7_taken_23 : decode cX7_taken 23 = .ok (.bipush (-11), 2) := by decide +kernel
theorem dX7_taken_25 : decode cX7_taken 25 = .ok (.ireturn, 1) := by decide +kernel
theorem dX7_taken_26 : decode cX7_taken 26 = .ok (.aload_n 0, 1) := by decide +kernel
theorem dX7_taken_27 : decode cX7_taken 27 = .ok (.getfield 26, 3) := by decide +kernel
theorem dX7_taken_30 : decode cX7_taken 30 = .ok (.iload_n 1, 1) := by decide +kernel
theorem dX7_taken_31 : decode cX7_taken 31 = .ok (.iaload, 1) := by decide +kernel
theorem dX7_taken_32 : decode cX7_taken 32 = .ok (.istore_n 3, 1) := by decide +kernel
theorem dX7_taken_33 : decode cX7_taken 33 = .ok (.iload_n 3, 1) := by decide +kernel
theorem dX7_taken_34 : decode cX7_taken 34 = .ok (.iconst (-1), 1) := by decide +kernel
theorem dX7_taken_35 : decode cX7_taken 35 = .ok (.if_icmp .eq 16, 3) := by decide +kernel
theorem dX7_taken_38 : decode cX7_taken 38 = .ok (.iload_n 3, 1) := by decide +kernel
theorem dX7_taken_39 : decode cX7_taken 39 = .ok (.iload_n 2, 1) := by decide +kernel
theorem dX7_taken_40 : decode cX7_taken 40 = .ok (.if_icmp .eq 11, 3) := by decide +kernel
theorem dX7_taken_43 : decode cX7_taken 43 = .ok (.iload_n 3, 1) := by decide +kernel
theorem dX7_taken_44 : decode cX7_taken 44 = .ok (.invokestatic 357, 3) := by decide +kernel
theorem dX7_taken_47 : decode cX7_taken 47 = .ok (.istore_n 3, 1) := by decide +kernel
theorem dX7_taken_48 : decode cX7_taken 48 = .ok (.goto (-15), 3) := by decide +kernel
theorem dX7_taken_51 : decode cX7_taken 51 = .ok (.iload_n 3, 1) := by decide +kernel
theorem dX7_taken_52 : decode cX7_taken 52 = .ok (.iload_n 2, 1) := by decide +kernel
theorem dX7_taken_53 : decode cX7_taken 53 = .ok (.if_icmp .ne 12, 3) := by decide +kernel
theorem dX7_taken_56 : decode cX7_taken 56 = .ok (.aload_n 0, 1) := by decide +kernel
theorem dX7_taken_57 : decode cX7_taken 57 = .ok (.iload_n 1, 1) := by decide +kernel
theorem dX7_taken_58 : decode cX7_taken 58 = .ok (.iconst 0, 1) := by decide +kernel
theorem dX7_taken_59 : decode cX7_taken 59 = .ok (.invokevirtual 87, 3) := by decide +kernel
theorem dX7_taken_62 : decode cX7_taken 62 = .ok (.goto 5, 3) := by decide +kernel
theorem dX7_taken_65 : decode cX7_taken 65 = .ok (.bipush (-13), 2) := by decide +kernel
theorem dX7_taken_67 : decode cX7_taken 67 = .ok (.ireturn, 1) := by decide +kernel

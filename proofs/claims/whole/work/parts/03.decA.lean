theorem dX0_init_0 : decode cX0_init 0 = .ok (.aload_n 0, 1) := by decide +kernel
theorem dX0_init_1 : decode cX0_init 1 = .ok (.invokespecial 3, 3) := by decide +kernel
theorem dX0_init_4 : decode cX0_init 4 = .ok (.aload_n 0, 1) := by decide +kernel
theorem dX0_init_5 : decode cX0_init 5 = .ok (.sipush 1334, 3) := by decide +kernel
theorem dX0_init_8 : decode cX0_init 8 = .ok (.newarray .int, 2) := by decide +kernel
theorem dX0_init_10 : decode cX0_init 10 = .ok (.putfield 9, 3) := by decide +kernel
theorem dX0_init_13 : decode cX0_init 13 = .ok (.aload_n 0, 1) := by decide +kernel
theorem dX0_init_14 : decode cX0_init 14 = .ok (.iconst (-1), 1) := by decide +kernel
theorem dX0_init_15 : decode cX0_init 15 = .ok (.putfield 15, 3) := by decide +kernel
theorem dX0_init_18 : decode cX0_init 18 = .ok (.aload_n 0, 1) := by decide +kernel
theorem dX0_init_19 : decode cX0_init 19 = .ok (.iconst 0, 1) := by decide +kernel
theorem dX0_init_20 : decode cX0_init 20 = .ok (.putfield 19, 3) := by decide +kernel
theorem dX0_init_23 : decode cX0_init 23 = .ok (.aload_n 0, 1) := by decide +kernel
theorem dX0_init_24 : decode cX0_init 24 = .ok (.iconst 0, 1) := by decide +kernel
theorem dX0_init_25 : decode cX0_init 25 = .ok (.putfield 23, 3) := by decide +kernel
theorem dX0_init_28 : decode cX0_init 28 = .ok (.aload_n 0, 1) := by decide +kernel
theorem dX0_init_29 : decode cX0_init 29 = .ok (.iconst 0, 1) := by decide +kernel
theorem dX0_init_30 : decode cX0_init 30 = .ok (.putfield 26, 3) := by decide +kernel
theorem dX0_init_33 : decode cX0_init 33 = .ok (.aload_n 0, 1) := by decide +kernel
theorem dX0_init_34 : decode cX0_init 34 = .ok (.getfield 9, 3) := by decide +kernel
theorem dX0_init_37 : decode cX0_init 37 = .ok (.sipush 640, 3) := by decide +kernel
theorem dX0_init_40 : decode cX0_init 40 = .ok (.iconst 1, 1) := by decide +kernel
theorem dX0_init_41 : decode cX0_init 41 = .ok (.iastore, 1) := by decide +kernel
theorem dX0_init_42 : decode cX0_init 42 = .ok (.return_, 1) := by decide +kernel
theorem dX0_startAct_0 : decode cX0_startAct 0 = .ok (.aload_n 0, 1) := by decide +kernel
theorem dX0_startAct_1 : decode cX0_startAct 1 = .ok (.iconst 0, 1) := by decide +kernel
theorem dX0_startAct_2 : decode cX0_startAct 2 = .ok (.putfield 23, 3) := by decide +kernel
theorem dX0_startAct_5 : decode cX0_startAct 5 = .ok (.aload_n 0, 1) := by decide +kernel
theorem dX0_startAct_6 : decode cX0_startAct 6 = .ok (.iconst 0, 1) := by decide +kernel
theorem dX0_startAct_7 : decode cX0_startAct 7 = .ok (.putfield 26, 3) := by decide +kernel
theorem dX0_startAct_10 : decode cX0_startAct 10 = .ok (.return_, 1) := by decide +kernel
theorem dX0_write_0 : decode cX0_write 0 = .ok (.aload_n 0, 1) := by decide +kernel
theorem dX0_write_1 : decode cX0_write 1 = .ok (.getfield 23, 3) := by decide +kernel
theorem dX0_write_4 : decode cX0_write 4 = .ok (.ifCond .ne 14, 3) := by decide +kernel
theorem dX0_write_7 : decode cX0_write 7 = .ok (.iload_n 1, 1) := by decide +kernel
theorem dX0_write_8 : decode cX0_write 8 = .ok (.ifCond .lt 10, 3) := by decide +kernel
theorem dX0_write_11 : decode cX0_write 11 = .ok (.iload_n 1, 1) := by decide +kernel
theorem dX0_write_12 : decode cX0_write 12 = .ok (.sipush 1334, 3) := by decide +kernel
theorem dX0_write_15 : decode cX0_write 15 = .ok (.if_icmp .lt 4, 3) := by decide +kernel
theorem dX0_write_18 : decode cX0_write 18 = .ok (.return_, 1) := by decide +kernel
theorem dX0_write_19 : decode cX0_write 19 = .ok (.aload_n 0, 1) := by decide +kernel
theorem dX0_write_20 : decode cX0_write 20 = .ok (.getfield 15, 3) := by decide +kernel
theorem dX0_write_23 : decode cX0_write 23 = .ok (.ifCond .ne 19, 3) := by decide +kernel
theorem dX0_write_26 : decode cX0_write 26 = .ok (.aload_n 0, 1) := by decide +kernel
theorem dX0_write_27 : decode cX0_write 27 = .ok (.iconst 1, 1) := by decide +kernel
theorem dX0_write_28 : decode cX0_write 28 = .ok (.putfield 23, 3) := by decide +kernel
theorem dX0_write_31 : decode cX0_write 31 = .ok (.aload_n 0, 1) := by decide +kernel
theorem dX0_write_32 : decode cX0_write 32 = .ok (.iconst 1, 1) := by decide +kernel
theorem dX0_write_33 : decode cX0_write 33 = .ok (.putfield 19, 3) := by decide +kernel
theorem dX0_write_36 : decode cX0_write 36 = .ok (.aload_n 0, 1) := by decide +kernel
theorem dX0_write_37 : decode cX0_write 37 = .ok (.iconst (-1), 1) := by decide +kernel
theorem dX0_write_38 : decode cX0_write 38 = .ok (.putfield 15, 3) := by decide +kernel
theorem dX0_write_41 : decode cX0_write 41 = .ok (.return_, 1) := by decide +kernel
theorem dX0_write_42 : decode cX0_write 42 = .ok (.aload_n 0, 1) := by decide +kernel
theorem dX0_write_43 : decode cX0_write 43 = .ok (.getfield 15, 3) := by decide +kernel
theorem dX0_write_46 : decode cX0_write 46 = .ok (.ifCond .le 13, 3) := by decide +kernel
theorem dX0_write_49 : decode cX0_write 49 = .ok (.aload_n 0, 1) := by decide +kernel
theorem dX0_write_50 : decode cX0_write 50 = .ok (.dup, 1) := by decide +kernel
theorem dX0_write_51 : decode cX0_write 51 = .ok (.getfield 15, 3) := by decide +kernel
theorem dX0_write_54 : decode cX0_write 54 = .ok (.iconst 1, 1) := by decide +kernel
theorem dX0_write_55 : decode cX0_write 55 = .ok (.isub, 1) := by decide +kernel
theorem dX0_write_56 : decode cX0_write 56 = .ok (.putfield 15, 3) := by decide +kernel
theorem dX0_write_59 : decode cX0_write 59 = .ok (.aload_n 0, 1) := by decide +kernel
theorem dX0_write_60 : decode cX0_write 60 = .ok (.getfield 9, 3) := by decide +kernel
theorem dX0_write_63 : decode cX0_write 63 = .ok (.iload_n 1, 1) := by decide +kernel
theorem dX0_write_64 : decode cX0_write 64 = .ok (.iload_n 2, 1) := by decide +kernel
theorem dX0_write_65 : decode cX0_write 65 = .ok (.iastore, 1) := by decide +kernel
theorem dX0_write_66 : decode cX0_write 66 = .ok (.aload_n 0, 1) := by decide +kernel
theorem dX0_write_67 : decode cX0_write 67 = .ok (.dup, 1) := by decide +kernel
theorem dX0_write_68 : decode cX0_write 68 = .ok (.getfield 26, 3) := by decide +kernel
theorem dX0_write_71 : decode cX0_write 71 = .ok (.iconst 1, 1) := by decide +kernel
theorem dX0_write_72 : decode cX0_write 72 = .ok (.iadd, 1) := by decide +kernel
theorem dX0_write_73 : decode cX0_write 73 = .ok (.putfield 26, 3) := by decide +kernel
theorem dX0_write_76 : decode cX0_write 76 = .ok (.return_, 1) := by decide +kernel
theorem dX0_writeEntry_0 : decode cX0_writeEntry 0 = .ok (.aload_n 0, 1) := by decide +kernel
theorem dX0_writeEntry_1 : decode cX0_writeEntry 1 = .ok (.invokevirtual 29, 3) := by decide +kernel
theorem dX0_writeEntry_4 : decode cX0_writeEntry 4 = .ok (.aload_n 2, 1) := by decide +kernel
theorem dX0_writeEntry_5 : decode cX0_writeEntry 5 = .ok (.iconst 0, 1) := by decide +kernel
theorem dX0_writeEntry_6 : decode cX0_writeEntry 6 = .ok (.aload_n 2, 1) := by decide +kernel
theorem dX0_writeEntry_7 : decode cX0_writeEntry 7 = .ok (.arraylength, 1) := by decide +kernel
theorem dX0_writeEntry_8 : decode cX0_writeEntry 8 = .ok (.invokestatic 32, 3) := by decide +kernel
theorem dX0_writeEntry_11 : decode cX0_writeEntry 11 = .ok (.istore_n 3, 1) := by decide +kernel
theorem dX0_writeEntry_12 : decode cX0_writeEntry 12 = .ok (.iconst 1, 1) := by decide +kernel
theorem dX0_writeEntry_13 : decode cX0_writeEntry 13 = .ok (.istore 4, 2) := by decide +kernel
theorem dX0_writeEntry_15 : decode cX0_writeEntry 15 = .ok (.iload 4, 2) := by decide +kernel
theorem dX0_writeEntry_17 : decode cX0_writeEntry 17 = .ok (.iload_n 3, 1) := by decide +kernel
theorem dX0_writeEntry_18 : decode cX0_writeEntry 18 = .ok (.if_icmp .ge 21, 3) := by decide +kernel
theorem dX0_writeEntry_21 : decode cX0_writeEntry 21 = .ok (.aload_n 0, 1) := by decide +kernel
theorem dX0_writeEntry_22 : decode cX0_writeEntry 22 = .ok (.iload_n 1, 1) := by decide +kernel
theorem dX0_writeEntry_23 : decode cX0_writeEntry 23 = .ok (.iload 4, 2) := by decide +kernel
theorem dX0_writeEntry_25 : decode cX0_writeEntry 25 = .ok (.iadd, 1) := by decide +kernel
theorem dX0_writeEntry_26 : decode cX0_writeEntry 26 = .ok (.aload_n 2, 1) := by decide +kernel
theorem dX0_writeEntry_27 : decode cX0_writeEntry 27 = .ok (.iload 4, 2) := by decide +kernel
theorem dX0_writeEntry_29 : decode cX0_writeEntry 29 = .ok (.iaload, 1) := by decide +kernel
theorem dX0_writeEntry_30 : decode cX0_writeEntry 30 = .ok (.invokevirtual 38, 3) := by decide +kernel
theorem dX0_writeEntry_33 : decode cX0_writeEntry 33 = .ok (.iinc 4 1, 3) := by decide +kernel
theorem dX0_writeEntry_36 : decode cX0_writeEntry 36 = .ok (.goto (-21), 3) := by decide +kernel
theorem dX0_writeEntry_39 : decode cX0_writeEntry 39 = .ok (.aload_n 0, 1) := by decide +kernel
theorem dX0_writeEntry_40 : decode cX0_writeEntry 40 = .ok (.iload_n 1, 1) := by decide +kernel
theorem dX0_writeEntry_41 : decode cX0_writeEntry 41 = .ok (.aload_n 2, 1) := by decide +kernel
theorem dX0_writeEntry_42 : decode cX0_writeEntry 42 = .ok (.iconst 0, 1) := by decide +kernel
theorem dX0_writeEntry_43 : decode cX0_writeEntry 43 = .ok (.iaload, 1) := by decide +kernel
theorem dX0_writeEntry_44 : decode cX0_writeEntry 44 = .ok (.invokevirtual 38, 3) := by decide +kernel
theorem dX0_writeEntry_47 : decode cX0_writeEntry 47 = .ok (.return_, 1) := by decide +kernel
theorem dX0_writeThroughJournal_0 : decode cX0_writeThroughJournal 0 = .ok (.aload_n 0, 1) := by decide +kernel
theorem dX0_writeThroughJournal_1 : decode cX0_writeThroughJournal 1 = .ok (.invokevirtual 29, 3) := by decide +kernel
theorem dX0_writeThroughJournal_4 : decode cX0_writeThroughJournal 4 = .ok (.iconst 1, 1) := by decide +kernel
theorem dX0_writeThroughJournal_5 : decode cX0_writeThroughJournal 5 = .ok (.iconst 2, 1) := by decide +kernel
theorem dX0_writeThroughJournal_6 : decode cX0_writeThroughJournal 6 = .ok (.aload_n 1, 1) := by decide +kernel
theorem dX0_writeThroughJournal_7 : decode cX0_writeThroughJournal 7 = .ok (.invokestatic 42, 3) := by decide +kernel
theorem dX0_writeThroughJournal_10 : decode cX0_writeThroughJournal 10 = .ok (.imul, 1) := by decide +kernel
theorem dX0_writeThroughJournal_11 : decode cX0_writeThroughJournal 11 = .ok (.iadd, 1) := by decide +kernel
theorem dX0_writeThroughJournal_12 : decode cX0_writeThroughJournal 12 = .ok (.istore_n 3, 1) := by decide +kernel
theorem dX0_writeThroughJournal_13 : decode cX0_writeThroughJournal 13 = .ok (.iconst 0, 1) := by decide +kernel
theorem dX0_writeThroughJournal_14 : decode cX0_writeThroughJournal 14 = .ok (.istore 4, 2) := by decide +kernel
theorem dX0_writeThroughJournal_16 : decode cX0_writeThroughJournal 16 = .ok (.iconst 0, 1) := by decide +kernel
theorem dX0_writeThroughJournal_17 : decode cX0_writeThroughJournal 17 = .ok (.istore 5, 2) := by decide +kernel
theorem dX0_writeThroughJournal_19 : decode cX0_writeThroughJournal 19 = .ok (.iload 5, 2) := by decide +kernel
theorem dX0_writeThroughJournal_21 : decode cX0_writeThroughJournal 21 = .ok (.bipush 10, 2) := by decide +kernel
theorem dX0_writeThroughJournal_23 : decode cX0_writeThroughJournal 23 = .ok (.if_icmp .ge 18, 3) := by decide +kernel
theorem dX0_writeThroughJournal_26 : decode cX0_writeThroughJournal 26 = .ok (.iload 4, 2) := by decide +kernel
theorem dX0_writeThroughJournal_28 : decode cX0_writeThroughJournal 28 = .ok (.aload_n 2, 1) := by decide +kernel
theorem dX0_writeThroughJournal_29 : decode cX0_writeThroughJournal 29 = .ok (.iload 5, 2) := by decide +kernel
theorem dX0_writeThroughJournal_31 : decode cX0_writeThroughJournal 31 = .ok (.iaload, 1) := by decide +kernel
theorem dX0_writeThroughJournal_32 : decode cX0_writeThroughJournal 32 = .ok (.iadd, 1) := by decide +kernel
theorem dX0_writeThroughJournal_33 : decode cX0_writeThroughJournal 33 = .ok (.istore 4, 2) := by decide +kernel
theorem dX0_writeThroughJournal_35 : decode cX0_writeThroughJournal 35 = .ok (.iinc 5 1, 3) := by decide +kernel
theorem dX0_writeThroughJournal_38 : decode cX0_writeThroughJournal 38 = .ok (.goto (-19), 3) := by decide +kernel
theorem dX0_writeThroughJournal_41 : decode cX0_writeThroughJournal 41 = .ok (.sipush 662, 3) := by decide +kernel
theorem dX0_writeThroughJournal_44 : decode cX0_writeThroughJournal 44 = .ok (.istore 5, 2) := by decide +kernel
theorem dX0_writeThroughJournal_46 : decode cX0_writeThroughJournal 46 = .ok (.aload_n 0, 1) := by decide +kernel
theorem dX0_writeThroughJournal_47 : decode cX0_writeThroughJournal 47 = .ok (.iload 5, 2) := by decide +kernel
theorem dX0_writeThroughJournal_49 : decode cX0_writeThroughJournal 49 = .ok (.iload 4, 2) := by decide +kernel
theorem dX0_writeThroughJournal_51 : decode cX0_writeThroughJournal 51 = .ok (.invokevirtual 38, 3) := by decide +kernel
theorem dX0_writeThroughJournal_54 : decode cX0_writeThroughJournal 54 = .ok (.iinc 5 1, 3) := by decide +kernel
theorem dX0_writeThroughJournal_57 : decode cX0_writeThroughJournal 57 = .ok (.iconst 0, 1) := by decide +kernel
theorem dX0_writeThroughJournal_58 : decode cX0_writeThroughJournal 58 = .ok (.istore 6, 2) := by decide +kernel
theorem dX0_writeThroughJournal_60 : decode cX0_writeThroughJournal 60 = .ok (.iload 6, 2) := by decide +kernel
theorem dX0_writeThroughJournal_62 : decode cX0_writeThroughJournal 62 = .ok (.bipush 10, 2) := by decide +kernel
theorem dX0_writeThroughJournal_64 : decode cX0_writeThroughJournal 64 = .ok (.if_icmp .ge 44, 3) := by decide +kernel
theorem dX0_writeThroughJournal_67 : decode cX0_writeThroughJournal 67 = .ok (.aload_n 2, 1) := by decide +kernel
theorem dX0_writeThroughJournal_68 : decode cX0_writeThroughJournal 68 = .ok (.iload 6, 2) := by decide +kernel
theorem dX0_writeThroughJournal_70 : decode cX0_writeThroughJournal 70 = .ok (.iaload, 1) := by decide +kernel
theorem dX0_writeThroughJournal_71 : decode cX0_writeThroughJournal 71 = .ok (.iconst 1, 1) := by decide +kernel
theorem dX0_writeThroughJournal_72 : decode cX0_writeThroughJournal 72 = .ok (.if_icmp .ne 30, 3) := by decide +kernel
theorem dX0_writeThroughJournal_75 : decode cX0_writeThroughJournal 75 = .ok (.aload_n 0, 1) := by decide +kernel
theorem dX0_writeThroughJournal_76 : decode cX0_writeThroughJournal 76 = .ok (.iload 5, 2) := by decide +kernel
theorem dX0_writeThroughJournal_78 : decode cX0_writeThroughJournal 78 = .ok (.iload 6, 2) := by decide +kernel
theorem dX0_writeThroughJournal_80 : decode cX0_writeThroughJournal 80 = .ok (.invokevirtual 38, 3) := by decide +kernel
theorem dX0_writeThroughJournal_83 : decode cX0_writeThroughJournal 83 = .ok (.aload_n 0, 1) := by decide +kernel
theorem dX0_writeThroughJournal_84 : decode cX0_writeThroughJournal 84 = .ok (.aload_n 1, 1) := by decide +kernel
theorem dX0_writeThroughJournal_85 : decode cX0_writeThroughJournal 85 = .ok (.iload 6, 2) := by decide +kernel
theorem dX0_writeThroughJournal_87 : decode cX0_writeThroughJournal 87 = .ok (.bipush 64, 2) := by decide +kernel
theorem dX0_writeThroughJournal_89 : decode cX0_writeThroughJournal 89 = .ok (.imul, 1) := by decide +kernel
theorem dX0_writeThroughJournal_90 : decode cX0_writeThroughJournal 90 = .ok (.iload 5, 2) := by decide +kernel
theorem dX0_writeThroughJournal_92 : decode cX0_writeThroughJournal 92 = .ok (.iconst 1, 1) := by decide +kernel
theorem dX0_writeThroughJournal_93 : decode cX0_writeThroughJournal 93 = .ok (.iadd, 1) := by decide +kernel
theorem dX0_writeThroughJournal_94 : decode cX0_writeThroughJournal 94 = .ok (.bipush 64, 2) := by decide +kernel
theorem dX0_writeThroughJournal_96 : decode cX0_writeThroughJournal 96 = .ok (.invokevirtual 48, 3) := by decide +kernel
theorem dX0_writeThroughJournal_99 : decode cX0_writeThroughJournal 99 = .ok (.iinc 5 65, 3) := by decide +kernel
theorem dX0_writeThroughJournal_102 : decode cX0_writeThroughJournal 102 = .ok (.iinc 6 1, 3) := by decide +kernel
theorem dX0_writeThroughJournal_105 : decode cX0_writeThroughJournal 105 = .ok (.goto (-45), 3) := by decide +kernel
theorem dX0_writeThroughJournal_108 : decode cX0_writeThroughJournal 108 = .ok (.aload_n 0, 1) := by decide +kernel
theorem dX0_writeThroughJournal_109 : decode cX0_writeThroughJournal 109 = .ok (.aload_n 1, 1) := by decide +kernel
theorem dX0_writeThroughJournal_110 : decode cX0_writeThroughJournal 110 = .ok (.sipush 640, 3) := by decide +kernel
theorem dX0_writeThroughJournal_113 : decode cX0_writeThroughJournal 113 = .ok (.iload 5, 2) := by decide +kernel
theorem dX0_writeThroughJournal_115 : decode cX0_writeThroughJournal 115 = .ok (.iload_n 3, 1) := by decide +kernel
theorem dX0_writeThroughJournal_116 : decode cX0_writeThroughJournal 116 = .ok (.invokevirtual 48, 3) := by decide +kernel
theorem dX0_writeThroughJournal_119 : decode cX0_writeThroughJournal 119 = .ok (.aload_n 0, 1) := by decide +kernel
theorem dX0_writeThroughJournal_120 : decode cX0_writeThroughJournal 120 = .ok (.sipush 661, 3) := by decide +kernel
theorem dX0_writeThroughJournal_123 : decode cX0_writeThroughJournal 123 = .ok (.iconst 1, 1) := by decide +kernel
theorem dX0_writeThroughJournal_124 : decode cX0_writeThroughJournal 124 = .ok (.invokevirtual 38, 3) := by decide +kernel
theorem dX0_writeThroughJournal_127 : decode cX0_writeThroughJournal 127 = .ok (.iconst 0, 1) := by decide +kernel
theorem dX0_writeThroughJournal_128 : decode cX0_writeThroughJournal 128 = .ok (.istore 6, 2) := by decide +kernel
theorem dX0_writeThroughJournal_130 : decode cX0_writeThroughJournal 130 = .ok (.iload 6, 2) := by decide +kernel
theorem dX0_writeThroughJournal_132 : decode cX0_writeThroughJournal 132 = .ok (.bipush 10, 2) := by decide +kernel
theorem dX0_writeThroughJournal_134 : decode cX0_writeThroughJournal 134 = .ok (.if_icmp .ge 34, 3) := by decide +kernel
theorem dX0_writeThroughJournal_137 : decode cX0_writeThroughJournal 137 = .ok (.aload_n 2, 1) := by decide +kernel
theorem dX0_writeThroughJournal_138 : decode cX0_writeThroughJournal 138 = .ok (.iload 6, 2) := by decide +kernel
theorem dX0_writeThroughJournal_140 : decode cX0_writeThroughJournal 140 = .ok (.iaload, 1) := by decide +kernel
theorem dX0_writeThroughJournal_141 : decode cX0_writeThroughJournal 141 = .ok (.iconst 1, 1) := by decide +kernel
theorem dX0_writeThroughJournal_142 : decode cX0_writeThroughJournal 142 = .ok (.if_icmp .ne 20, 3) := by decide +kernel
theorem dX0_writeThroughJournal_145 : decode cX0_writeThroughJournal 145 = .ok (.aload_n 0, 1) := by decide +kernel
theorem dX0_writeThroughJournal_146 : decode cX0_writeThroughJournal 146 = .ok (.aload_n 1, 1) := by decide +kernel
theorem dX0_writeThroughJournal_147 : decode cX0_writeThroughJournal 147 = .ok (.iload 6, 2) := by decide +kernel
theorem dX0_writeThroughJournal_149 : decode cX0_writeThroughJournal 149 = .ok (.bipush 64, 2) := by decide +kernel
theorem dX0_writeThroughJournal_151 : decode cX0_writeThroughJournal 151 = .ok (.imul, 1) := by decide +kernel
theorem dX0_writeThroughJournal_152 : decode cX0_writeThroughJournal 152 = .ok (.iload 6, 2) := by decide +kernel
theorem dX0_writeThroughJournal_154 : decode cX0_writeThroughJournal 154 = .ok (.bipush 64, 2) := by decide +kernel
theorem dX0_writeThroughJournal_156 : decode cX0_writeThroughJournal 156 = .ok (.imul, 1) := by decide +kernel
theorem dX0_writeThroughJournal_157 : decode cX0_writeThroughJournal 157 = .ok (.bipush 64, 2) := by decide +kernel
theorem dX0_writeThroughJournal_159 : decode cX0_writeThroughJournal 159 = .ok (.invokevirtual 48, 3) := by decide +kernel
theorem dX0_writeThroughJournal_162 : decode cX0_writeThroughJournal 162 = .ok (.iinc 6 1, 3) := by decide +kernel
theorem dX0_writeThroughJournal_165 : decode cX0_writeThroughJournal 165 = .ok (.goto (-35), 3) := by decide +kernel
theorem dX0_writeThroughJournal_168 : decode cX0_writeThroughJournal 168 = .ok (.aload_n 0, 1) := by decide +kernel
theorem dX0_writeThroughJournal_169 : decode cX0_writeThroughJournal 169 = .ok (.aload_n 1, 1) := by decide +kernel
theorem dX0_writeThroughJournal_170 : decode cX0_writeThroughJournal 170 = .ok (.sipush 640, 3) := by decide +kernel
theorem dX0_writeThroughJournal_173 : decode cX0_writeThroughJournal 173 = .ok (.sipush 640, 3) := by decide +kernel
theorem dX0_writeThroughJournal_176 : decode cX0_writeThroughJournal 176 = .ok (.iload_n 3, 1) := by decide +kernel
theorem dX0_writeThroughJournal_177 : decode cX0_writeThroughJournal 177 = .ok (.invokevirtual 48, 3) := by decide +kernel
theorem dX0_writeThroughJournal_180 : decode cX0_writeThroughJournal 180 = .ok (.aload_n 0, 1) := by decide +kernel
theorem dX0_writeThroughJournal_181 : decode cX0_writeThroughJournal 181 = .ok (.sipush 661, 3) := by decide +kernel
theorem dX0_writeThroughJournal_184 : decode cX0_writeThroughJournal 184 = .ok (.iconst 0, 1) := by decide +kernel
theorem dX0_writeThroughJournal_185 : decode cX0_writeThroughJournal 185 = .ok (.invokevirtual 38, 3) := by decide +kernel
theorem dX0_writeThroughJournal_188 : decode cX0_writeThroughJournal 188 = .ok (.return_, 1) := by decide +kernel
theorem dX0_copyIn_0 : decode cX0_copyIn 0 = .ok (.iconst 0, 1) := by decide +kernel
theorem dX0_copyIn_1 : decode cX0_copyIn 1 = .ok (.istore 5, 2) := by decide +kernel
theorem dX0_copyIn_3 : decode cX0_copyIn 3 = .ok (.iload 5, 2) := by decide +kernel
theorem dX0_copyIn_5 : decode cX0_copyIn 5 = .ok (.iload 4, 2) := by decide +kernel
theorem dX0_copyIn_7 : decode cX0_copyIn 7 = .ok (.if_icmp .ge 32, 3) := by decide +kernel
theorem dX0_copyIn_10 : decode cX0_copyIn 10 = .ok (.iload_n 2, 1) := by decide +kernel
theorem dX0_copyIn_11 : decode cX0_copyIn 11 = .ok (.iload 5, 2) := by decide +kernel
theorem dX0_copyIn_13 : decode cX0_copyIn 13 = .ok (.iadd, 1) := by decide +kernel
theorem dX0_copyIn_14 : decode cX0_copyIn 14 = .ok (.aload_n 1, 1) := by decide +kernel
theorem dX0_copyIn_15 : decode cX0_copyIn 15 = .ok (.arraylength, 1) := by decide +kernel
theorem dX0_copyIn_16 : decode cX0_copyIn 16 = .ok (.if_icmp .ge 23, 3) := by decide +kernel
theorem dX0_copyIn_19 : decode cX0_copyIn 19 = .ok (.aload_n 0, 1) := by decide +kernel
theorem dX0_copyIn_20 : decode cX0_copyIn 20 = .ok (.iload_n 3, 1) := by decide +kernel
theorem dX0_copyIn_21 : decode cX0_copyIn 21 = .ok (.iload 5, 2) := by decide +kernel
theorem dX0_copyIn_23 : decode cX0_copyIn 23 = .ok (.iadd, 1) := by decide +kernel
theorem dX0_copyIn_24 : decode cX0_copyIn 24 = .ok (.aload_n 1, 1) := by decide +kernel
theorem dX0_copyIn_25 : decode cX0_copyIn 25 = .ok (.iload_n 2, 1) := by decide +kernel
theorem dX0_copyIn_26 : decode cX0_copyIn 26 = .ok (.iload 5, 2) := by decide +kernel
theorem dX0_copyIn_28 : decode cX0_copyIn 28 = .ok (.iadd, 1) := by decide +kernel
theorem dX0_copyIn_29 : decode cX0_copyIn 29 = .ok (.iaload, 1) := by decide +kernel
theorem dX0_copyIn_30 : decode cX0_copyIn 30 = .ok (.invokevirtual 38, 3) := by decide +kernel
theorem dX0_copyIn_33 : decode cX0_copyIn 33 = .ok (.iinc 5 1, 3) := by decide +kernel
theorem dX0_copyIn_36 : decode cX0_copyIn 36 = .ok (.goto (-33), 3) := by decide +kernel
theorem dX0_copyIn_39 : decode cX0_copyIn 39 = .ok (.return_, 1) := by decide +kernel
theorem dX0_restoreOrder_0 : decode cX0_restoreOrder 0 = .ok (.aload_n 0, 1) := by decide +kernel
theorem dX0_restoreOrder_1 : decode cX0_restoreOrder 1 = .ok (.invokevirtual 29, 3) := by decide +kernel
theorem dX0_restoreOrder_4 : decode cX0_restoreOrder 4 = .ok (.aload_n 0, 1) := by decide +kernel
theorem dX0_restoreOrder_5 : decode cX0_restoreOrder 5 = .ok (.getfield 9, 3) := by decide +kernel
theorem dX0_restoreOrder_8 : decode cX0_restoreOrder 8 = .ok (.sipush 661, 3) := by decide +kernel
theorem dX0_restoreOrder_11 : decode cX0_restoreOrder 11 = .ok (.iaload, 1) := by decide +kernel
theorem dX0_restoreOrder_12 : decode cX0_restoreOrder 12 = .ok (.iconst 1, 1) := by decide +kernel
theorem dX0_restoreOrder_13 : decode cX0_restoreOrder 13 = .ok (.if_icmp .ne 7, 3) := by decide +kernel
theorem dX0_restoreOrder_16 : decode cX0_restoreOrder 16 = .ok (.aload_n 0, 1) := by decide +kernel
theorem dX0_restoreOrder_17 : decode cX0_restoreOrder 17 = .ok (.invokevirtual 52, 3) := by decide +kernel
theorem dX0_restoreOrder_20 : decode cX0_restoreOrder 20 = .ok (.aload_n 0, 1) := by decide +kernel
theorem dX0_restoreOrder_21 : decode cX0_restoreOrder 21 = .ok (.getfield 23, 3) := by decide +kernel
theorem dX0_restoreOrder_24 : decode cX0_restoreOrder 24 = .ok (.ifCond .ne 7, 3) := by decide +kernel
theorem dX0_restoreOrder_27 : decode cX0_restoreOrder 27 = .ok (.aload_n 0, 1) := by decide +kernel
theorem dX0_restoreOrder_28 : decode cX0_restoreOrder 28 = .ok (.invokevirtual 55, 3) := by decide +kernel
theorem dX0_restoreOrder_31 : decode cX0_restoreOrder 31 = .ok (.aload_n 0, 1) := by decide +kernel
theorem dX0_restoreOrder_32 : decode cX0_restoreOrder 32 = .ok (.getfield 23, 3) := by decide +kernel
theorem dX0_restoreOrder_35 : decode cX0_restoreOrder 35 = .ok (.ifCond .ne 8, 3) := by decide +kernel
theorem dX0_restoreOrder_38 : decode cX0_restoreOrder 38 = .ok (.aload_n 0, 1) := by decide +kernel
theorem dX0_restoreOrder_39 : decode cX0_restoreOrder 39 = .ok (.iconst 0, 1) := by decide +kernel
theorem dX0_restoreOrder_40 : decode cX0_restoreOrder 40 = .ok (.putfield 19, 3) := by decide +kernel
theorem dX0_restoreOrder_43 : decode cX0_restoreOrder 43 = .ok (.return_, 1) := by decide +kernel
theorem dX0_doJournalAgain_0 : decode cX0_doJournalAgain 0 = .ok (.iconst 0, 1) := by decide +kernel
theorem dX0_doJournalAgain_1 : decode cX0_doJournalAgain 1 = .ok (.bipush 10, 2) := by decide +kernel
theorem dX0_doJournalAgain_3 : decode cX0_doJournalAgain 3 = .ok (.aload_n 0, 1) := by decide +kernel
theorem dX0_doJournalAgain_4 : decode cX0_doJournalAgain 4 = .ok (.getfield 9, 3) := by decide +kernel
theorem dX0_doJournalAgain_7 : decode cX0_doJournalAgain 7 = .ok (.sipush 662, 3) := by decide +kernel
theorem dX0_doJournalAgain_10 : decode cX0_doJournalAgain 10 = .ok (.iaload, 1) := by decide +kernel
theorem dX0_doJournalAgain_11 : decode cX0_doJournalAgain 11 = .ok (.invokestatic 58, 3) := by decide +kernel
theorem dX0_doJournalAgain_14 : decode cX0_doJournalAgain 14 = .ok (.invokestatic 64, 3) := by decide +kernel
theorem dX0_doJournalAgain_17 : decode cX0_doJournalAgain 17 = .ok (.istore_n 1, 1) := by decide +kernel
theorem dX0_doJournalAgain_18 : decode cX0_doJournalAgain 18 = .ok (.sipush 663, 3) := by decide +kernel
theorem dX0_doJournalAgain_21 : decode cX0_doJournalAgain 21 = .ok (.istore_n 2, 1) := by decide +kernel
theorem dX0_doJournalAgain_22 : decode cX0_doJournalAgain 22 = .ok (.iconst 0, 1) := by decide +kernel
theorem dX0_doJournalAgain_23 : decode cX0_doJournalAgain 23 = .ok (.istore_n 3, 1) := by decide +kernel
theorem dX0_doJournalAgain_24 : decode cX0_doJournalAgain 24 = .ok (.iload_n 3, 1) := by decide +kernel
theorem dX0_doJournalAgain_25 : decode cX0_doJournalAgain 25 = .ok (.iload_n 1, 1) := by decide +kernel
theorem dX0_doJournalAgain_26 : decode cX0_doJournalAgain 26 = .ok (.if_icmp .ge 34, 3) := by decide +kernel
theorem dX0_doJournalAgain_29 : decode cX0_doJournalAgain 29 = .ok (.aload_n 0, 1) := by decide +kernel
theorem dX0_doJournalAgain_30 : decode cX0_doJournalAgain 30 = .ok (.aload_n 0, 1) := by decide +kernel
theorem dX0_doJournalAgain_31 : decode cX0_doJournalAgain 31 = .ok (.getfield 9, 3) := by decide +kernel
theorem dX0_doJournalAgain_34 : decode cX0_doJournalAgain 34 = .ok (.iload_n 2, 1) := by decide +kernel
theorem dX0_doJournalAgain_35 : decode cX0_doJournalAgain 35 = .ok (.iconst 1, 1) := by decide +kernel
theorem dX0_doJournalAgain_36 : decode cX0_doJournalAgain 36 = .ok (.iadd, 1) := by decide +kernel
theorem dX0_doJournalAgain_37 : decode cX0_doJournalAgain 37 = .ok (.aload_n 0, 1) := by decide +kernel
theorem dX0_doJournalAgain_38 : decode cX0_doJournalAgain 38 = .ok (.getfield 9, 3) := by decide +kernel
theorem dX0_doJournalAgain_41 : decode cX0_doJournalAgain 41 = .ok (.iload_n 2, 1) := by decide +kernel
theorem dX0_doJournalAgain_42 : decode cX0_doJournalAgain 42 = .ok (.iaload, 1) := by decide +kernel
theorem dX0_doJournalAgain_43 : decode cX0_doJournalAgain 43 = .ok (.bipush 64, 2) := by decide +kernel
theorem dX0_doJournalAgain_45 : decode cX0_doJournalAgain 45 = .ok (.imul, 1) := by decide +kernel
theorem dX0_doJournalAgain_46 : decode cX0_doJournalAgain 46 = .ok (.bipush 64, 2) := by decide +kernel
theorem dX0_doJournalAgain_48 : decode cX0_doJournalAgain 48 = .ok (.invokevirtual 48, 3) := by decide +kernel
theorem dX0_doJournalAgain_51 : decode cX0_doJournalAgain 51 = .ok (.iinc 2 65, 3) := by decide +kernel
theorem dX0_doJournalAgain_54 : decode cX0_doJournalAgain 54 = .ok (.iinc 3 1, 3) := by decide +kernel
theorem dX0_doJournalAgain_57 : decode cX0_doJournalAgain 57 = .ok (.goto (-33), 3) := by decide +kernel
theorem dX0_doJournalAgain_60 : decode cX0_doJournalAgain 60 = .ok (.aload_n 0, 1) := by decide +kernel
theorem dX0_doJournalAgain_61 : decode cX0_doJournalAgain 61 = .ok (.aload_n 0, 1) := by decide +kernel
theorem dX0_doJournalAgain_62 : decode cX0_doJournalAgain 62 = .ok (.getfield 9, 3) := by decide +kernel
theorem dX0_doJournalAgain_65 : decode cX0_doJournalAgain 65 = .ok (.iload_n 2, 1) := by decide +kernel
theorem dX0_doJournalAgain_66 : decode cX0_doJournalAgain 66 = .ok (.sipush 640, 3) := by decide +kernel
theorem dX0_doJournalAgain_69 : decode cX0_doJournalAgain 69 = .ok (.iconst 1, 1) := by decide +kernel
theorem dX0_doJournalAgain_70 : decode cX0_doJournalAgain 70 = .ok (.iconst 2, 1) := by decide +kernel
theorem dX0_doJournalAgain_71 : decode cX0_doJournalAgain 71 = .ok (.iconst 0, 1) := by decide +kernel
theorem dX0_doJournalAgain_72 : decode cX0_doJournalAgain 72 = .ok (.bipush 10, 2) := by decide +kernel
theorem dX0_doJournalAgain_74 : decode cX0_doJournalAgain 74 = .ok (.aload_n 0, 1) := by decide +kernel
theorem dX0_doJournalAgain_75 : decode cX0_doJournalAgain 75 = .ok (.getfield 9, 3) := by decide +kernel
theorem dX0_doJournalAgain_78 : decode cX0_doJournalAgain 78 = .ok (.iload_n 2, 1) := by decide +kernel
theorem dX0_doJournalAgain_79 : decode cX0_doJournalAgain 79 = .ok (.iaload, 1) := by decide +kernel
theorem dX0_doJournalAgain_80 : decode cX0_doJournalAgain 80 = .ok (.invokestatic 58, 3) := by decide +kernel
theorem dX0_doJournalAgain_83 : decode cX0_doJournalAgain 83 = .ok (.invokestatic 64, 3) := by decide +kernel
theorem dX0_doJournalAgain_86 : decode cX0_doJournalAgain 86 = .ok (.imul, 1) := by decide +kernel
theorem dX0_doJournalAgain_87 : decode cX0_doJournalAgain 87 = .ok (.iadd, 1) := by decide +kernel
theorem dX0_doJournalAgain_88 : decode cX0_doJournalAgain 88 = .ok (.invokevirtual 48, 3) := by decide +kernel
theorem dX0_doJournalAgain_91 : decode cX0_doJournalAgain 91 = .ok (.aload_n 0, 1) := by decide +kernel
theorem dX0_doJournalAgain_92 : decode cX0_doJournalAgain 92 = .ok (.sipush 661, 3) := by decide +kernel
theorem dX0_doJournalAgain_95 : decode cX0_doJournalAgain 95 = .ok (.iconst 0, 1) := by decide +kernel
theorem dX0_doJournalAgain_96 : decode cX0_doJournalAgain 96 = .ok (.invokevirtual 38, 3) := by decide +kernel
theorem dX0_doJournalAgain_99 : decode cX0_doJournalAgain 99 = .ok (.return_, 1) := by decide +kernel
theorem dX0_clearBehindLogs_0 : decode cX0_clearBehindLogs 0 = .ok (.aload_n 0, 1) := by decide +kernel
theorem dX0_clearBehindLogs_1 : decode cX0_clearBehindLogs 1 = .ok (.getfield 9, 3) := by decide +kernel
theorem dX0_clearBehindLogs_4 : decode cX0_clearBehindLogs 4 = .ok (.invokestatic 42, 3) := by decide +kernel
theorem dX0_clearBehindLogs_7 : decode cX0_clearBehindLogs 7 = .ok (.istore_n 1, 1) := by decide +kernel
theorem dX0_clearBehindLogs_8 : decode cX0_clearBehindLogs 8 = .ok (.iconst 0, 1) := by decide +kernel
theorem dX0_clearBehindLogs_9 : decode cX0_clearBehindLogs 9 = .ok (.istore_n 2, 1) := by decide +kernel
theorem dX0_clearBehindLogs_10 : decode cX0_clearBehindLogs 10 = .ok (.iload_n 2, 1) := by decide +kernel
theorem dX0_clearBehindLogs_11 : decode cX0_clearBehindLogs 11 = .ok (.iload_n 1, 1) := by decide +kernel
theorem dX0_clearBehindLogs_12 : decode cX0_clearBehindLogs 12 = .ok (.if_icmp .ge 62, 3) := by decide +kernel
theorem dX0_clearBehindLogs_15 : decode cX0_clearBehindLogs 15 = .ok (.aload_n 0, 1) := by decide +kernel
theorem dX0_clearBehindLogs_16 : decode cX0_clearBehindLogs 16 = .ok (.getfield 9, 3) := by decide +kernel
theorem dX0_clearBehindLogs_19 : decode cX0_clearBehindLogs 19 = .ok (.iload_n 2, 1) := by decide +kernel
theorem dX0_clearBehindLogs_20 : decode cX0_clearBehindLogs 20 = .ok (.invokestatic 67, 3) := by decide +kernel
theorem dX0_clearBehindLogs_23 : decode cX0_clearBehindLogs 23 = .ok (.istore_n 3, 1) := by decide +kernel
theorem dX0_clearBehindLogs_24 : decode cX0_clearBehindLogs 24 = .ok (.aload_n 0, 1) := by decide +kernel
theorem dX0_clearBehindLogs_25 : decode cX0_clearBehindLogs 25 = .ok (.getfield 9, 3) := by decide +kernel
theorem dX0_clearBehindLogs_28 : decode cX0_clearBehindLogs 28 = .ok (.iload_n 3, 1) := by decide +kernel
theorem dX0_clearBehindLogs_29 : decode cX0_clearBehindLogs 29 = .ok (.invokestatic 71, 3) := by decide +kernel
theorem dX0_clearBehindLogs_32 : decode cX0_clearBehindLogs 32 = .ok (.istore 4, 2) := by decide +kernel
theorem dX0_clearBehindLogs_34 : decode cX0_clearBehindLogs 34 = .ok (.iload 4, 2) := by decide +kernel
theorem dX0_clearBehindLogs_36 : decode cX0_clearBehindLogs 36 = .ok (.iload_n 3, 1) := by decide +kernel
theorem dX0_clearBehindLogs_37 : decode cX0_clearBehindLogs 37 = .ok (.iconst 1, 1) := by decide +kernel
theorem dX0_clearBehindLogs_38 : decode cX0_clearBehindLogs 38 = .ok (.iadd, 1) := by decide +kernel
theorem dX0_clearBehindLogs_39 : decode cX0_clearBehindLogs 39 = .ok (.bipush 64, 2) := by decide +kernel
theorem dX0_clearBehindLogs_41 : decode cX0_clearBehindLogs 41 = .ok (.imul, 1) := by decide +kernel
theorem dX0_clearBehindLogs_42 : decode cX0_clearBehindLogs 42 = .ok (.if_icmp .ge 26, 3) := by decide +kernel
theorem dX0_clearBehindLogs_45 : decode cX0_clearBehindLogs 45 = .ok (.aload_n 0, 1) := by decide +kernel
theorem dX0_clearBehindLogs_46 : decode cX0_clearBehindLogs 46 = .ok (.getfield 9, 3) := by decide +kernel
theorem dX0_clearBehindLogs_49 : decode cX0_clearBehindLogs 49 = .ok (.iload 4, 2) := by decide +kernel
theorem dX0_clearBehindLogs_51 : decode cX0_clearBehindLogs 51 = .ok (.iaload, 1) := by decide +kernel
theorem dX0_clearBehindLogs_52 : decode cX0_clearBehindLogs 52 = .ok (.ifCond .eq 10, 3) := by decide +kernel
theorem dX0_clearBehindLogs_55 : decode cX0_clearBehindLogs 55 = .ok (.aload_n 0, 1) := by decide +kernel
theorem dX0_clearBehindLogs_56 : decode cX0_clearBehindLogs 56 = .ok (.iload 4, 2) := by decide +kernel
theorem dX0_clearBehindLogs_58 : decode cX0_clearBehindLogs 58 = .ok (.iconst 0, 1) := by decide +kernel
theorem dX0_clearBehindLogs_59 : decode cX0_clearBehindLogs 59 = .ok (.invokevirtual 38, 3) := by decide +kernel
theorem dX0_clearBehindLogs_62 : decode cX0_clearBehindLogs 62 = .ok (.iinc 4 1, 3) := by decide +kernel
theorem dX0_clearBehindLogs_65 : decode cX0_clearBehindLogs 65 = .ok (.goto (-31), 3) := by decide +kernel
theorem dX0_clearBehindLogs_68 : decode cX0_clearBehindLogs 68 = .ok (.iinc 2 1, 3) := by decide +kernel
theorem dX0_clearBehindLogs_71 : decode cX0_clearBehindLogs 71 = .ok (.goto (-61), 3) := by decide +kernel
theorem dX0_clearBehindLogs_74 : decode cX0_clearBehindLogs 74 = .ok (.return_, 1) := by decide +kernel
theorem dX1_init_0 : decode cX1_init 0 = .ok (.aload_n 0, 1) := by decide +kernel
theorem dX1_init_1 : decode cX1_init 1 = .ok (.invokespecial 3, 3) := by decide +kernel
theorem dX1_init_4 : decode cX1_init 4 = .ok (.aload_n 0, 1) := by decide +kernel
theorem dX1_init_5 : decode cX1_init 5 = .ok (.sipush 661, 3) := by decide +kernel
theorem dX1_init_8 : decode cX1_init 8 = .ok (.newarray .int, 2) := by decide +kernel
theorem dX1_init_10 : decode cX1_init 10 = .ok (.putfield 9, 3) := by decide +kernel
theorem dX1_init_13 : decode cX1_init 13 = .ok (.aload_n 0, 1) := by decide +kernel
theorem dX1_init_14 : decode cX1_init 14 = .ok (.iconst 4, 1) := by decide +kernel
theorem dX1_init_15 : decode cX1_init 15 = .ok (.newarray .int, 2) := by decide +kernel
theorem dX1_init_17 : decode cX1_init 17 = .ok (.putfield 15, 3) := by decide +kernel
theorem dX1_init_20 : decode cX1_init 20 = .ok (.aload_n 0, 1) := by decide +kernel
theorem dX1_init_21 : decode cX1_init 21 = .ok (.bipush 10, 2) := by decide +kernel
theorem dX1_init_23 : decode cX1_init 23 = .ok (.newarray .int, 2) := by decide +kernel
theorem dX1_init_25 : decode cX1_init 25 = .ok (.putfield 18, 3) := by decide +kernel
theorem dX1_init_28 : decode cX1_init 28 = .ok (.aload_n 0, 1) := by decide +kernel
theorem dX1_init_29 : decode cX1_init 29 = .ok (.iconst 0, 1) := by decide +kernel
theorem dX1_init_30 : decode cX1_init 30 = .ok (.putfield 21, 3) := by decide +kernel
theorem dX1_init_33 : decode cX1_init 33 = .ok (.aload_n 0, 1) := by decide +kernel
theorem dX1_init_34 : decode cX1_init 34 = .ok (.new 25, 3) := by decide +kernel
theorem dX1_init_37 : decode cX1_init 37 = .ok (.dup, 1) := by decide +kernel
theorem dX1_init_38 : decode cX1_init 38 = .ok (.invokespecial 27, 3) := by decide +kernel
theorem dX1_init_41 : decode cX1_init 41 = .ok (.putfield 28, 3) := by decide +kernel
theorem dX1_init_44 : decode cX1_init 44 = .ok (.aload_n 0, 1) := by decide +kernel
theorem dX1_init_45 : decode cX1_init 45 = .ok (.iconst 5, 1) := by decide +kernel
theorem dX1_init_46 : decode cX1_init 46 = .ok (.newarray .int, 2) := by decide +kernel
theorem dX1_init_48 : decode cX1_init 48 = .ok (.putfield 32, 3) := by decide +kernel
theorem dX1_init_51 : decode cX1_init 51 = .ok (.aload_n 0, 1) := by decide +kernel
theorem dX1_init_52 : decode cX1_init 52 = .ok (.bipush 16, 2) := by decide +kernel
theorem dX1_init_54 : decode cX1_init 54 = .ok (.newarray .int, 2) := by decide +kernel
theorem dX1_init_56 : decode cX1_init 56 = .ok (.putfield 35, 3) := by decide +kernel
theorem dX1_init_59 : decode cX1_init 59 = .ok (.aload_n 0, 1) := by decide +kernel
theorem dX1_init_60 : decode cX1_init 60 = .ok (.iconst 0, 1) := by decide +kernel
theorem dX1_init_61 : decode cX1_init 61 = .ok (.putfield 38, 3) := by decide +kernel
theorem dX1_init_64 : decode cX1_init 64 = .ok (.return_, 1) := by decide +kernel
theorem dX1_begin_0 : decode cX1_begin 0 = .ok (.aload_n 1, 1) := by decide +kernel
theorem dX1_begin_1 : decode cX1_begin 1 = .ok (.iconst 0, 1) := by decide +kernel
theorem dX1_begin_2 : decode cX1_begin 2 = .ok (.aload_n 0, 1) := by decide +kernel
theorem dX1_begin_3 : decode cX1_begin 3 = .ok (.getfield 9, 3) := by decide +kernel
theorem dX1_begin_6 : decode cX1_begin 6 = .ok (.iconst 0, 1) := by decide +kernel
theorem dX1_begin_7 : decode cX1_begin 7 = .ok (.sipush 661, 3) := by decide +kernel
theorem dX1_begin_10 : decode cX1_begin 10 = .ok (.invokestatic 41, 3) := by decide +kernel
theorem dX1_begin_13 : decode cX1_begin 13 = .ok (.aload_n 2, 1) := by decide +kernel
theorem dX1_begin_14 : decode cX1_begin 14 = .ok (.iconst 0, 1) := by decide +kernel
theorem dX1_begin_15 : decode cX1_begin 15 = .ok (.aload_n 0, 1) := by decide +kernel
theorem dX1_begin_16 : decode cX1_begin 16 = .ok (.getfield 15, 3) := by decide +kernel
theorem dX1_begin_19 : decode cX1_begin 19 = .ok (.iconst 0, 1) := by decide +kernel
theorem dX1_begin_20 : decode cX1_begin 20 = .ok (.iconst 4, 1) := by decide +kernel
theorem dX1_begin_21 : decode cX1_begin 21 = .ok (.invokestatic 41, 3) := by decide +kernel
theorem dX1_begin_24 : decode cX1_begin 24 = .ok (.aload_n 3, 1) := by decide +kernel
theorem dX1_begin_25 : decode cX1_begin 25 = .ok (.iconst 0, 1) := by decide +kernel
theorem dX1_begin_26 : decode cX1_begin 26 = .ok (.aload_n 0, 1) := by decide +kernel
theorem dX1_begin_27 : decode cX1_begin 27 = .ok (.getfield 32, 3) := by decide +kernel
theorem dX1_begin_30 : decode cX1_begin 30 = .ok (.iconst 0, 1) := by decide +kernel
theorem dX1_begin_31 : decode cX1_begin 31 = .ok (.aload_n 0, 1) := by decide +kernel
theorem dX1_begin_32 : decode cX1_begin 32 = .ok (.getfield 32, 3) := by decide +kernel
theorem dX1_begin_35 : decode cX1_begin 35 = .ok (.arraylength, 1) := by decide +kernel
theorem dX1_begin_36 : decode cX1_begin 36 = .ok (.invokestatic 41, 3) := by decide +kernel
theorem dX1_begin_39 : decode cX1_begin 39 = .ok (.aload_n 0, 1) := by decide +kernel
theorem dX1_begin_40 : decode cX1_begin 40 = .ok (.getfield 18, 3) := by decide +kernel
theorem dX1_begin_43 : decode cX1_begin 43 = .ok (.iconst 0, 1) := by decide +kernel
theorem dX1_begin_44 : decode cX1_begin 44 = .ok (.invokestatic 47, 3) := by decide +kernel
theorem dX1_begin_47 : decode cX1_begin 47 = .ok (.return_, 1) := by decide +kernel
theorem dX1_edit_0 : decode cX1_edit 0 = .ok (.aload_n 1, 1) := by decide +kernel
theorem dX1_edit_1 : decode cX1_edit 1 = .ok (.iload_n 2, 1) := by decide +kernel
theorem dX1_edit_2 : decode cX1_edit 2 = .ok (.aload_n 1, 1) := by decide +kernel
theorem dX1_edit_3 : decode cX1_edit 3 = .ok (.arraylength, 1) := by decide +kernel
theorem dX1_edit_4 : decode cX1_edit 4 = .ok (.invokestatic 53, 3) := by decide +kernel
theorem dX1_edit_7 : decode cX1_edit 7 = .ok (.istore_n 3, 1) := by decide +kernel
theorem dX1_edit_8 : decode cX1_edit 8 = .ok (.iload_n 3, 1) := by decide +kernel
theorem dX1_edit_9 : decode cX1_edit 9 = .ok (.ifCond .ne 6, 3) := by decide +kernel
theorem dX1_edit_12 : decode cX1_edit 12 = .ok (.bipush (-6), 2) := by decide +kernel
theorem dX1_edit_14 : decode cX1_edit 14 = .ok (.ireturn, 1) := by decide +kernel
theorem dX1_edit_15 : decode cX1_edit 15 = .ok (.aload_n 0, 1) := by decide +kernel
theorem dX1_edit_16 : decode cX1_edit 16 = .ok (.getfield 9, 3) := by decide +kernel
theorem dX1_edit_19 : decode cX1_edit 19 = .ok (.aload_n 1, 1) := by decide +kernel
theorem dX1_edit_20 : decode cX1_edit 20 = .ok (.iload_n 2, 1) := by decide +kernel
theorem dX1_edit_21 : decode cX1_edit 21 = .ok (.iconst 1, 1) := by decide +kernel
theorem dX1_edit_22 : decode cX1_edit 22 = .ok (.iadd, 1) := by decide +kernel
theorem dX1_edit_23 : decode cX1_edit 23 = .ok (.iaload, 1) := by decide +kernel
theorem dX1_edit_24 : decode cX1_edit 24 = .ok (.invokestatic 59, 3) := by decide +kernel
theorem dX1_edit_27 : decode cX1_edit 27 = .ok (.istore 4, 2) := by decide +kernel
theorem dX1_edit_29 : decode cX1_edit 29 = .ok (.aload_n 0, 1) := by decide +kernel
theorem dX1_edit_30 : decode cX1_edit 30 = .ok (.getfield 9, 3) := by decide +kernel
theorem dX1_edit_33 : decode cX1_edit 33 = .ok (.iload 4, 2) := by decide +kernel
theorem dX1_edit_35 : decode cX1_edit 35 = .ok (.invokestatic 65, 3) := by decide +kernel
theorem dX1_edit_38 : decode cX1_edit 38 = .ok (.istore 5, 2) := by decide +kernel
theorem dX1_edit_40 : decode cX1_edit 40 = .ok (.aload_n 0, 1) := by decide +kernel
theorem dX1_edit_41 : decode cX1_edit 41 = .ok (.getfield 28, 3) := by decide +kernel
theorem dX1_edit_44 : decode cX1_edit 44 = .ok (.aload_n 0, 1) := by decide +kernel
theorem dX1_edit_45 : decode cX1_edit 45 = .ok (.getfield 9, 3) := by decide +kernel
theorem dX1_edit_48 : decode cX1_edit 48 = .ok (.iload 5, 2) := by decide +kernel
theorem dX1_edit_50 : decode cX1_edit 50 = .ok (.bipush 64, 2) := by decide +kernel
theorem dX1_edit_52 : decode cX1_edit 52 = .ok (.invokevirtual 68, 3) := by decide +kernel
theorem dX1_edit_55 : decode cX1_edit 55 = .ok (.aload_n 0, 1) := by decide +kernel
theorem dX1_edit_56 : decode cX1_edit 56 = .ok (.getfield 28, 3) := by decide +kernel
theorem dX1_edit_59 : decode cX1_edit 59 = .ok (.aload_n 1, 1) := by decide +kernel
theorem dX1_edit_60 : decode cX1_edit 60 = .ok (.iload_n 2, 1) := by decide +kernel
theorem dX1_edit_61 : decode cX1_edit 61 = .ok (.invokevirtual 72, 3) := by decide +kernel
theorem dX1_edit_64 : decode cX1_edit 64 = .ok (.istore 6, 2) := by decide +kernel
theorem dX1_edit_66 : decode cX1_edit 66 = .ok (.iload 6, 2) := by decide +kernel
theorem dX1_edit_68 : decode cX1_edit 68 = .ok (.ifCond .eq 6, 3) := by decide +kernel
theorem dX1_edit_71 : decode cX1_edit 71 = .ok (.iload 6, 2) := by decide +kernel
theorem dX1_edit_73 : decode cX1_edit 73 = .ok (.ireturn, 1) := by decide +kernel
theorem dX1_edit_74 : decode cX1_edit 74 = .ok (.aload_n 0, 1) := by decide +kernel
theorem dX1_edit_75 : decode cX1_edit 75 = .ok (.getfield 28, 3) := by decide +kernel
theorem dX1_edit_78 : decode cX1_edit 78 = .ok (.iconst 0, 1) := by decide +kernel
theorem dX1_edit_79 : decode cX1_edit 79 = .ok (.sipush 256, 3) := by decide +kernel
theorem dX1_edit_82 : decode cX1_edit 82 = .ok (.invokevirtual 75, 3) := by decide +kernel
theorem dX1_edit_85 : decode cX1_edit 85 = .ok (.istore 7, 2) := by decide +kernel
theorem dX1_edit_87 : decode cX1_edit 87 = .ok (.aload_n 0, 1) := by decide +kernel
theorem dX1_edit_88 : decode cX1_edit 88 = .ok (.getfield 28, 3) := by decide +kernel
theorem dX1_edit_91 : decode cX1_edit 91 = .ok (.aload_n 1, 1) := by decide +kernel
theorem dX1_edit_92 : decode cX1_edit 92 = .ok (.iload_n 2, 1) := by decide +kernel
theorem dX1_edit_93 : decode cX1_edit 93 = .ok (.invokevirtual 79, 3) := by decide +kernel
theorem dX1_edit_96 : decode cX1_edit 96 = .ok (.aload_n 0, 1) := by decide +kernel
theorem dX1_edit_97 : decode cX1_edit 97 = .ok (.getfield 28, 3) := by decide +kernel
theorem dX1_edit_100 : decode cX1_edit 100 = .ok (.iconst 0, 1) := by decide +kernel
theorem dX1_edit_101 : decode cX1_edit 101 = .ok (.sipush 256, 3) := by decide +kernel
theorem dX1_edit_104 : decode cX1_edit 104 = .ok (.invokevirtual 75, 3) := by decide +kernel
theorem dX1_edit_107 : decode cX1_edit 107 = .ok (.istore 8, 2) := by decide +kernel
theorem dX1_edit_109 : decode cX1_edit 109 = .ok (.aload_n 1, 1) := by decide +kernel
theorem dX1_edit_110 : decode cX1_edit 110 = .ok (.iload_n 2, 1) := by decide +kernel
theorem dX1_edit_111 : decode cX1_edit 111 = .ok (.iaload, 1) := by decide +kernel
theorem dX1_edit_112 : decode cX1_edit 112 = .ok (.invokestatic 82, 3) := by decide +kernel
theorem dX1_edit_115 : decode cX1_edit 115 = .ok (.iconst 2, 1) := by decide +kernel
theorem dX1_edit_116 : decode cX1_edit 116 = .ok (.if_icmp .ne 7, 3) := by decide +kernel
theorem dX1_edit_119 : decode cX1_edit 119 = .ok (.iconst 1, 1) := by decide +kernel
theorem dX1_edit_120 : decode cX1_edit 120 = .ok (.goto 4, 3) := by decide +kernel
theorem dX1_edit_123 : decode cX1_edit 123 = .ok (.iconst 0, 1) := by decide +kernel
theorem dX1_edit_124 : decode cX1_edit 124 = .ok (.istore 9, 2) := by decide +kernel
theorem dX1_edit_126 : decode cX1_edit 126 = .ok (.iload 9, 2) := by decide +kernel
theorem dX1_edit_128 : decode cX1_edit 128 = .ok (.ifCond .eq 28, 3) := by decide +kernel
theorem dX1_edit_131 : decode cX1_edit 131 = .ok (.iload 8, 2) := by decide +kernel
theorem dX1_edit_133 : decode cX1_edit 133 = .ok (.ifCond .ne 23, 3) := by decide +kernel
theorem dX1_edit_136 : decode cX1_edit 136 = .ok (.aload_n 0, 1) := by decide +kernel
theorem dX1_edit_137 : decode cX1_edit 137 = .ok (.getfield 9, 3) := by decide +kernel
theorem dX1_edit_140 : decode cX1_edit 140 = .ok (.iload 4, 2) := by decide +kernel
theorem dX1_edit_142 : decode cX1_edit 142 = .ok (.invokestatic 86, 3) := by decide +kernel
theorem dX1_edit_145 : decode cX1_edit 145 = .ok (.ifCond .eq 11, 3) := by decide +kernel
theorem dX1_edit_148 : decode cX1_edit 148 = .ok (.aload_n 0, 1) := by decide +kernel
theorem dX1_edit_149 : decode cX1_edit 149 = .ok (.iload 4, 2) := by decide +kernel
theorem dX1_edit_151 : decode cX1_edit 151 = .ok (.invokevirtual 89, 3) := by decide +kernel
theorem dX1_edit_154 : decode cX1_edit 154 = .ok (.iconst 2, 1) := by decide +kernel
theorem dX1_edit_155 : decode cX1_edit 155 = .ok (.ireturn, 1) := by decide +kernel
theorem dX1_edit_156 : decode cX1_edit 156 = .ok (.aload_n 0, 1) := by decide +kernel
theorem dX1_edit_157 : decode cX1_edit 157 = .ok (.getfield 9, 3) := by decide +kernel
theorem dX1_edit_160 : decode cX1_edit 160 = .ok (.iload 5, 2) := by decide +kernel
theorem dX1_edit_162 : decode cX1_edit 162 = .ok (.invokestatic 93, 3) := by decide +kernel
theorem dX1_edit_165 : decode cX1_edit 165 = .ok (.istore 10, 2) := by decide +kernel
theorem dX1_edit_167 : decode cX1_edit 167 = .ok (.iload 5, 2) := by decide +kernel
theorem dX1_edit_169 : decode cX1_edit 169 = .ok (.iconst 1, 1) := by decide +kernel
theorem dX1_edit_170 : decode cX1_edit 170 = .ok (.iadd, 1) := by decide +kernel
theorem dX1_edit_171 : decode cX1_edit 171 = .ok (.bipush 64, 2) := by decide +kernel
theorem dX1_edit_173 : decode cX1_edit 173 = .ok (.imul, 1) := by decide +kernel
theorem dX1_edit_174 : decode cX1_edit 174 = .ok (.iload 10, 2) := by decide +kernel
theorem dX1_edit_176 : decode cX1_edit 176 = .ok (.isub, 1) := by decide +kernel
theorem dX1_edit_177 : decode cX1_edit 177 = .ok (.iload_n 3, 1) := by decide +kernel
theorem dX1_edit_178 : decode cX1_edit 178 = .ok (.isub, 1) := by decide +kernel
theorem dX1_edit_179 : decode cX1_edit 179 = .ok (.istore 11, 2) := by decide +kernel
theorem dX1_edit_181 : decode cX1_edit 181 = .ok (.iload 11, 2) := by decide +kernel
theorem dX1_edit_183 : decode cX1_edit 183 = .ok (.iload 9, 2) := by decide +kernel
theorem dX1_edit_185 : decode cX1_edit 185 = .ok (.ifCond .eq 7, 3) := by decide +kernel
theorem dX1_edit_188 : decode cX1_edit 188 = .ok (.iconst 0, 1) := by decide +kernel
theorem dX1_edit_189 : decode cX1_edit 189 = .ok (.goto 9, 3) := by decide +kernel
theorem dX1_edit_192 : decode cX1_edit 192 = .ok (.aload_n 0, 1) := by decide +kernel
theorem dX1_edit_193 : decode cX1_edit 193 = .ok (.getfield 32, 3) := by decide +kernel
theorem dX1_edit_196 : decode cX1_edit 196 = .ok (.iconst 0, 1) := by decide +kernel
theorem dX1_edit_197 : decode cX1_edit 197 = .ok (.iaload, 1) := by decide +kernel
theorem dX1_edit_198 : decode cX1_edit 198 = .ok (.if_icmp .lt 7, 3) := by decide +kernel
theorem dX1_edit_201 : decode cX1_edit 201 = .ok (.iconst 1, 1) := by decide +kernel
theorem dX1_edit_202 : decode cX1_edit 202 = .ok (.goto 4, 3) := by decide +kernel
theorem dX1_edit_205 : decode cX1_edit 205 = .ok (.iconst 0, 1) := by decide +kernel
theorem dX1_edit_206 : decode cX1_edit 206 = .ok (.istore 12, 2) := by decide +kernel
theorem dX1_edit_208 : decode cX1_edit 208 = .ok (.iload 12, 2) := by decide +kernel
theorem dX1_edit_210 : decode cX1_edit 210 = .ok (.ifCond .eq 39, 3) := by decide +kernel
theorem dX1_edit_213 : decode cX1_edit 213 = .ok (.iload 8, 2) := by decide +kernel
theorem dX1_edit_215 : decode cX1_edit 215 = .ok (.aload_n 0, 1) := by decide +kernel
theorem dX1_edit_216 : decode cX1_edit 216 = .ok (.invokevirtual 96, 3) := by decide +kernel
theorem dX1_edit_219 : decode cX1_edit 219 = .ok (.if_icmp .le 10, 3) := by decide +kernel
theorem dX1_edit_222 : decode cX1_edit 222 = .ok (.iload 8, 2) := by decide +kernel
theorem dX1_edit_224 : decode cX1_edit 224 = .ok (.iload 7, 2) := by decide +kernel
theorem dX1_edit_226 : decode cX1_edit 226 = .ok (.if_icmp .gt 23, 3) := by decide +kernel
theorem dX1_edit_229 : decode cX1_edit 229 = .ok (.aload_n 1, 1) := by decide +kernel
theorem dX1_edit_230 : decode cX1_edit 230 = .ok (.iload_n 2, 1) := by decide +kernel
theorem dX1_edit_231 : decode cX1_edit 231 = .ok (.aload_n 0, 1) := by decide +kernel
theorem dX1_edit_232 : decode cX1_edit 232 = .ok (.getfield 9, 3) := by decide +kernel
theorem dX1_edit_235 : decode cX1_edit 235 = .ok (.iload 10, 2) := by decide +kernel
theorem dX1_edit_237 : decode cX1_edit 237 = .ok (.iload_n 3, 1) := by decide +kernel
theorem dX1_edit_238 : decode cX1_edit 238 = .ok (.invokestatic 41, 3) := by decide +kernel
theorem dX1_edit_241 : decode cX1_edit 241 = .ok (.aload_n 0, 1) := by decide +kernel
theorem dX1_edit_242 : decode cX1_edit 242 = .ok (.iload 10, 2) := by decide +kernel
theorem dX1_edit_244 : decode cX1_edit 244 = .ok (.putfield 21, 3) := by decide +kernel
theorem dX1_edit_247 : decode cX1_edit 247 = .ok (.iconst 0, 1) := by decide +kernel
theorem dX1_edit_248 : decode cX1_edit 248 = .ok (.ireturn, 1) := by decide +kernel
theorem dX1_edit_249 : decode cX1_edit 249 = .ok (.aload_n 0, 1) := by decide +kernel
theorem dX1_edit_250 : decode cX1_edit 250 = .ok (.iload 4, 2) := by decide +kernel
theorem dX1_edit_252 : decode cX1_edit 252 = .ok (.invokevirtual 100, 3) := by decide +kernel
theorem dX1_edit_255 : decode cX1_edit 255 = .ok (.ireturn, 1) := by decide +kernel
theorem dX1_full_0 : decode cX1_full 0 = .ok (.bipush 120, 2) := by decide +kernel
theorem dX1_full_2 : decode cX1_full 2 = .ok (.aload_n 0, 1) := by decide +kernel
theorem dX1_full_3 : decode cX1_full 3 = .ok (.getfield 15, 3) := by decide +kernel
theorem dX1_full_6 : decode cX1_full 6 = .ok (.iconst 0, 1) := by decide +kernel
theorem dX1_full_7 : decode cX1_full 7 = .ok (.iaload, 1) := by decide +kernel
theorem dX1_full_8 : decode cX1_full 8 = .ok (.isub, 1) := by decide +kernel
theorem dX1_full_9 : decode cX1_full 9 = .ok (.ireturn, 1) := by decide +kernel
theorem dX1_spread_0 : decode cX1_spread 0 = .ok (.iconst 0, 1) := by decide +kernel
theorem dX1_spread_1 : decode cX1_spread 1 = .ok (.istore_n 2, 1) := by decide +kernel
theorem dX1_spread_2 : decode cX1_spread 2 = .ok (.iconst 0, 1) := by decide +kernel
theorem dX1_spread_3 : decode cX1_spread 3 = .ok (.istore_n 3, 1) := by decide +kernel
theorem dX1_spread_4 : decode cX1_spread 4 = .ok (.iconst 1, 1) := by decide +kernel
theorem dX1_spread_5 : decode cX1_spread 5 = .ok (.istore 4, 2) := by decide +kernel
theorem dX1_spread_7 : decode cX1_spread 7 = .ok (.aload_n 0, 1) := by decide +kernel
theorem dX1_spread_8 : decode cX1_spread 8 = .ok (.getfield 35, 3) := by decide +kernel
theorem dX1_spread_11 : decode cX1_spread 11 = .ok (.iconst 0, 1) := by decide +kernel
theorem dX1_spread_12 : decode cX1_spread 12 = .ok (.sipush 256, 3) := by decide +kernel
theorem dX1_spread_15 : decode cX1_spread 15 = .ok (.iastore, 1) := by decide +kernel
theorem dX1_spread_16 : decode cX1_spread 16 = .ok (.iconst 0, 1) := by decide +kernel
theorem dX1_spread_17 : decode cX1_spread 17 = .ok (.istore 5, 2) := by decide +kernel
theorem dX1_spread_19 : decode cX1_spread 19 = .ok (.iload 5, 2) := by decide +kernel
theorem dX1_spread_21 : decode cX1_spread 21 = .ok (.sipush 512, 3) := by decide +kernel
theorem dX1_spread_24 : decode cX1_spread 24 = .ok (.if_icmp .ge 118, 3) := by decide +kernel
theorem dX1_spread_27 : decode cX1_spread 27 = .ok (.iload 4, 2) := by decide +kernel
theorem dX1_spread_29 : decode cX1_spread 29 = .ok (.ifCond .le 113, 3) := by decide +kernel
theorem dX1_spread_32 : decode cX1_spread 32 = .ok (.aload_n 0, 1) := by decide +kernel
theorem dX1_spread_33 : decode cX1_spread 33 = .ok (.getfield 35, 3) := by decide +kernel
theorem dX1_spread_36 : decode cX1_spread 36 = .ok (.iload 4, 2) := by decide +kernel
theorem dX1_spread_38 : decode cX1_spread 38 = .ok (.iconst 1, 1) := by decide +kernel
theorem dX1_spread_39 : decode cX1_spread 39 = .ok (.isub, 1) := by decide +kernel
theorem dX1_spread_40 : decode cX1_spread 40 = .ok (.iaload, 1) := by decide +kernel
theorem dX1_spread_41 : decode cX1_spread 41 = .ok (.istore 6, 2) := by decide +kernel
theorem dX1_spread_43 : decode cX1_spread 43 = .ok (.aload_n 0, 1) := by decide +kernel
theorem dX1_spread_44 : decode cX1_spread 44 = .ok (.iload_n 3, 1) := by decide +kernel
theorem dX1_spread_45 : decode cX1_spread 45 = .ok (.iload 6, 2) := by decide +kernel
theorem dX1_spread_47 : decode cX1_spread 47 = .ok (.invokevirtual 103, 3) := by decide +kernel
theorem dX1_spread_50 : decode cX1_spread 50 = .ok (.ifCond .eq 56, 3) := by decide +kernel
theorem dX1_spread_53 : decode cX1_spread 53 = .ok (.iload_n 2, 1) := by decide +kernel
theorem dX1_spread_54 : decode cX1_spread 54 = .ok (.ifCond .le 26, 3) := by decide +kernel
theorem dX1_spread_57 : decode cX1_spread 57 = .ok (.aload_n 0, 1) := by decide +kernel
theorem dX1_spread_58 : decode cX1_spread 58 = .ok (.iload_n 1, 1) := by decide +kernel
theorem dX1_spread_59 : decode cX1_spread 59 = .ok (.iload_n 2, 1) := by decide +kernel
theorem dX1_spread_60 : decode cX1_spread 60 = .ok (.iadd, 1) := by decide +kernel
theorem dX1_spread_61 : decode cX1_spread 61 = .ok (.aload_n 0, 1) := by decide +kernel
theorem dX1_spread_62 : decode cX1_spread 62 = .ok (.getfield 28, 3) := by decide +kernel
theorem dX1_spread_65 : decode cX1_spread 65 = .ok (.iload_n 3, 1) := by decide +kernel
theorem dX1_spread_66 : decode cX1_spread 66 = .ok (.iload 6, 2) := by decide +kernel
theorem dX1_spread_68 : decode cX1_spread 68 = .ok (.invokevirtual 107, 3) := by decide +kernel
theorem dX1_spread_71 : decode cX1_spread 71 = .ok (.invokevirtual 110, 3) := by decide +kernel
theorem dX1_spread_74 : decode cX1_spread 74 = .ok (.ifCond .ne 6, 3) := by decide +kernel
theorem dX1_spread_77 : decode cX1_spread 77 = .ok (.bipush (-5), 2) := by decide +kernel
theorem dX1_spread_79 : decode cX1_spread 79 = .ok (.ireturn, 1) := by decide +kernel
theorem dX1_spread_80 : decode cX1_spread 80 = .ok (.aload_n 0, 1) := by decide +kernel
theorem dX1_spread_81 : decode cX1_spread 81 = .ok (.aload_n 0, 1) := by decide +kernel
theorem dX1_spread_82 : decode cX1_spread 82 = .ok (.getfield 9, 3) := by decide +kernel
theorem dX1_spread_85 : decode cX1_spread 85 = .ok (.iload_n 1, 1) := by decide +kernel
theorem dX1_spread_86 : decode cX1_spread 86 = .ok (.iload_n 2, 1) := by decide +kernel
theorem dX1_spread_87 : decode cX1_spread 87 = .ok (.iadd, 1) := by decide +kernel
theorem dX1_spread_88 : decode cX1_spread 88 = .ok (.invokestatic 65, 3) := by decide +kernel
theorem dX1_spread_91 : decode cX1_spread 91 = .ok (.invokevirtual 113, 3) := by decide +kernel
theorem dX1_spread_94 : decode cX1_spread 94 = .ok (.iinc 2 1, 3) := by decide +kernel
theorem dX1_spread_97 : decode cX1_spread 97 = .ok (.iload 6, 2) := by decide +kernel
theorem dX1_spread_99 : decode cX1_spread 99 = .ok (.istore_n 3, 1) := by decide +kernel
theorem dX1_spread_100 : decode cX1_spread 100 = .ok (.iinc 4 (-1), 3) := by decide +kernel
theorem dX1_spread_103 : decode cX1_spread 103 = .ok (.goto 33, 3) := by decide +kernel
theorem dX1_spread_106 : decode cX1_spread 106 = .ok (.iload 4, 2) := by decide +kernel
theorem dX1_spread_108 : decode cX1_spread 108 = .ok (.aload_n 0, 1) := by decide +kernel
theorem dX1_spread_109 : decode cX1_spread 109 = .ok (.getfield 35, 3) := by decide +kernel
theorem dX1_spread_112 : decode cX1_spread 112 = .ok (.arraylength, 1) := by decide +kernel
theorem dX1_spread_113 : decode cX1_spread 113 = .ok (.if_icmp .ge 23, 3) := by decide +kernel
theorem dX1_spread_116 : decode cX1_spread 116 = .ok (.aload_n 0, 1) := by decide +kernel
theorem dX1_spread_117 : decode cX1_spread 117 = .ok (.getfield 35, 3) := by decide +kernel
theorem dX1_spread_120 : decode cX1_spread 120 = .ok (.iload 4, 2) := by decide +kernel
theorem dX1_spread_122 : decode cX1_spread 122 = .ok (.aload_n 0, 1) := by decide +kernel
theorem dX1_spread_123 : decode cX1_spread 123 = .ok (.getfield 28, 3) := by decide +kernel
theorem dX1_spread_126 : decode cX1_spread 126 = .ok (.iload_n 3, 1) := by decide +kernel
theorem dX1_spread_127 : decode cX1_spread 127 = .ok (.iload 6, 2) := by decide +kernel
theorem dX1_spread_129 : decode cX1_spread 129 = .ok (.invokevirtual 116, 3) := by decide +kernel
theorem dX1_spread_132 : decode cX1_spread 132 = .ok (.iastore, 1) := by decide +kernel
theorem dX1_spread_133 : decode cX1_spread 133 = .ok (.iinc 4 1, 3) := by decide +kernel
theorem dX1_spread_136 : decode cX1_spread 136 = .ok (.iinc 5 1, 3) := by decide +kernel
theorem dX1_spread_139 : decode cX1_spread 139 = .ok (.goto (-120), 3) := by decide +kernel
theorem dX1_spread_142 : decode cX1_spread 142 = .ok (.iload_n 2, 1) := by decide +kernel
theorem dX1_spread_143 : decode cX1_spread 143 = .ok (.iconst 1, 1) := by decide +kernel
theorem dX1_spread_144 : decode cX1_spread 144 = .ok (.if_icmp .ne 7, 3) := by decide +kernel
theorem dX1_spread_147 : decode cX1_spread 147 = .ok (.iconst 1, 1) := by decide +kernel
theorem dX1_spread_148 : decode cX1_spread 148 = .ok (.goto 7, 3) := by decide +kernel
theorem dX1_spread_151 : decode cX1_spread 151 = .ok (.bipush 9, 2) := by decide +kernel
theorem dX1_spread_153 : decode cX1_spread 153 = .ok (.iload_n 2, 1) := by decide +kernel
theorem dX1_spread_154 : decode cX1_spread 154 = .ok (.iadd, 1) := by decide +kernel
theorem dX1_spread_155 : decode cX1_spread 155 = .ok (.ireturn, 1) := by decide +kernel
theorem dX1_tryShape_0 : decode cX1_tryShape 0 = .ok (.aload_n 0, 1) := by decide +kernel
theorem dX1_tryShape_1 : decode cX1_tryShape 1 = .ok (.getfield 28, 3) := by decide +kernel
theorem dX1_tryShape_4 : decode cX1_tryShape 4 = .ok (.iload_n 1, 1) := by decide +kernel
theorem dX1_tryShape_5 : decode cX1_tryShape 5 = .ok (.iload_n 2, 1) := by decide +kernel
theorem dX1_tryShape_6 : decode cX1_tryShape 6 = .ok (.invokevirtual 119, 3) := by decide +kernel
theorem dX1_tryShape_9 : decode cX1_tryShape 9 = .ok (.iconst 1, 1) := by decide +kernel
theorem dX1_tryShape_10 : decode cX1_tryShape 10 = .ok (.if_icmp .gt 7, 3) := by decide +kernel
theorem dX1_tryShape_13 : decode cX1_tryShape 13 = .ok (.iconst 1, 1) := by decide +kernel
theorem dX1_tryShape_14 : decode cX1_tryShape 14 = .ok (.goto 4, 3) := by decide +kernel
theorem dX1_tryShape_17 : decode cX1_tryShape 17 = .ok (.iconst 0, 1) := by decide +kernel
theorem dX1_tryShape_18 : decode cX1_tryShape 18 = .ok (.istore_n 3, 1) := by decide +kernel
theorem dX1_tryShape_19 : decode cX1_tryShape 19 = .ok (.iload_n 3, 1) := by decide +kernel
theorem dX1_tryShape_20 : decode cX1_tryShape 20 = .ok (.ifCond .ne 21, 3) := by decide +kernel
theorem dX1_tryShape_23 : decode cX1_tryShape 23 = .ok (.aload_n 0, 1) := by decide +kernel
theorem dX1_tryShape_24 : decode cX1_tryShape 24 = .ok (.getfield 28, 3) := by decide +kernel
theorem dX1_tryShape_27 : decode cX1_tryShape 27 = .ok (.iload_n 1, 1) := by decide +kernel
theorem dX1_tryShape_28 : decode cX1_tryShape 28 = .ok (.iload_n 2, 1) := by decide +kernel
theorem dX1_tryShape_29 : decode cX1_tryShape 29 = .ok (.invokevirtual 75, 3) := by decide +kernel
theorem dX1_tryShape_32 : decode cX1_tryShape 32 = .ok (.aload_n 0, 1) := by decide +kernel
theorem dX1_tryShape_33 : decode cX1_tryShape 33 = .ok (.invokevirtual 96, 3) := by decide +kernel
theorem dX1_tryShape_36 : decode cX1_tryShape 36 = .ok (.if_icmp .le 5, 3) := by decide +kernel
theorem dX1_tryShape_39 : decode cX1_tryShape 39 = .ok (.iconst 0, 1) := by decide +kernel
theorem dX1_tryShape_40 : decode cX1_tryShape 40 = .ok (.ireturn, 1) := by decide +kernel
theorem dX1_tryShape_41 : decode cX1_tryShape 41 = .ok (.aload_n 0, 1) := by decide +kernel
theorem dX1_tryShape_42 : decode cX1_tryShape 42 = .ok (.getfield 28, 3) := by decide +kernel
theorem dX1_tryShape_45 : decode cX1_tryShape 45 = .ok (.iload_n 1, 1) := by decide +kernel
theorem dX1_tryShape_46 : decode cX1_tryShape 46 = .ok (.iload_n 2, 1) := by decide +kernel
theorem dX1_tryShape_47 : decode cX1_tryShape 47 = .ok (.invokevirtual 122, 3) := by decide +kernel
theorem dX1_tryShape_50 : decode cX1_tryShape 50 = .ok (.istore 4, 2) := by decide +kernel
theorem dX1_tryShape_52 : decode cX1_tryShape 52 = .ok (.aload_n 0, 1) := by decide +kernel
theorem dX1_tryShape_53 : decode cX1_tryShape 53 = .ok (.aload_n 0, 1) := by decide +kernel
theorem dX1_tryShape_54 : decode cX1_tryShape 54 = .ok (.getfield 28, 3) := by decide +kernel
theorem dX1_tryShape_57 : decode cX1_tryShape 57 = .ok (.getfield 125, 3) := by decide +kernel
theorem dX1_tryShape_60 : decode cX1_tryShape 60 = .ok (.aload_n 0, 1) := by decide +kernel
theorem dX1_tryShape_61 : decode cX1_tryShape 61 = .ok (.getfield 28, 3) := by decide +kernel
theorem dX1_tryShape_64 : decode cX1_tryShape 64 = .ok (.getfield 129, 3) := by decide +kernel
theorem dX1_tryShape_67 : decode cX1_tryShape 67 = .ok (.iload 4, 2) := by decide +kernel
theorem dX1_tryShape_69 : decode cX1_tryShape 69 = .ok (.invokevirtual 132, 3) := by decide +kernel
theorem dX1_tryShape_72 : decode cX1_tryShape 72 = .ok (.putfield 38, 3) := by decide +kernel
theorem dX1_tryShape_75 : decode cX1_tryShape 75 = .ok (.iload_n 3, 1) := by decide +kernel
theorem dX1_tryShape_76 : decode cX1_tryShape 76 = .ok (.ifCond .ne 14, 3) := by decide +kernel
theorem dX1_tryShape_79 : decode cX1_tryShape 79 = .ok (.aload_n 0, 1) := by decide +kernel
theorem dX1_tryShape_80 : decode cX1_tryShape 80 = .ok (.aload_n 0, 1) := by decide +kernel
theorem dX1_tryShape_81 : decode cX1_tryShape 81 = .ok (.getfield 38, 3) := by decide +kernel
theorem dX1_tryShape_84 : decode cX1_tryShape 84 = .ok (.invokevirtual 137, 3) := by decide +kernel
theorem dX1_tryShape_87 : decode cX1_tryShape 87 = .ok (.ifCond .eq 7, 3) := by decide +kernel
theorem dX1_tryShape_90 : decode cX1_tryShape 90 = .ok (.iconst 1, 1) := by decide +kernel
theorem dX1_tryShape_91 : decode cX1_tryShape 91 = .ok (.goto 4, 3) := by decide +kernel
theorem dX1_tryShape_94 : decode cX1_tryShape 94 = .ok (.iconst 0, 1) := by decide +kernel
theorem dX1_tryShape_95 : decode cX1_tryShape 95 = .ok (.istore 5, 2) := by decide +kernel
theorem dX1_tryShape_97 : decode cX1_tryShape 97 = .ok (.aload_n 0, 1) := by decide +kernel
theorem dX1_tryShape_98 : decode cX1_tryShape 98 = .ok (.iload 5, 2) := by decide +kernel
theorem dX1_tryShape_100 : decode cX1_tryShape 100 = .ok (.invokevirtual 141, 3) := by decide +kernel
theorem dX1_tryShape_103 : decode cX1_tryShape 103 = .ok (.iload 5, 2) := by decide +kernel
theorem dX1_tryShape_105 : decode cX1_tryShape 105 = .ok (.ireturn, 1) := by decide +kernel
theorem dX1_fitsWith_0 : decode cX1_fitsWith 0 = .ok (.iconst 2, 1) := by decide +kernel
theorem dX1_fitsWith_1 : decode cX1_fitsWith 1 = .ok (.iload_n 1, 1) := by decide +kernel
theorem dX1_fitsWith_2 : decode cX1_fitsWith 2 = .ok (.iadd, 1) := by decide +kernel
theorem dX1_fitsWith_3 : decode cX1_fitsWith 3 = .ok (.aload_n 0, 1) := by decide +kernel
theorem dX1_fitsWith_4 : decode cX1_fitsWith 4 = .ok (.getfield 32, 3) := by decide +kernel
theorem dX1_fitsWith_7 : decode cX1_fitsWith 7 = .ok (.iconst 0, 1) := by decide +kernel
theorem dX1_fitsWith_8 : decode cX1_fitsWith 8 = .ok (.iaload, 1) := by decide +kernel
theorem dX1_fitsWith_9 : decode cX1_fitsWith 9 = .ok (.iadd, 1) := by decide +kernel
theorem dX1_fitsWith_10 : decode cX1_fitsWith 10 = .ok (.bipush 64, 2) := by decide +kernel
theorem dX1_fitsWith_12 : decode cX1_fitsWith 12 = .ok (.if_icmp .gt 7, 3) := by decide +kernel
theorem dX1_fitsWith_15 : decode cX1_fitsWith 15 = .ok (.iconst 1, 1) := by decide +kernel
theorem dX1_fitsWith_16 : decode cX1_fitsWith 16 = .ok (.goto 4, 3) := by decide +kernel
theorem dX1_fitsWith_19 : decode cX1_fitsWith 19 = .ok (.iconst 0, 1) := by decide +kernel
theorem dX1_fitsWith_20 : decode cX1_fitsWith 20 = .ok (.ireturn, 1) := by decide +kernel
theorem dX1_learnFromTry_0 : decode cX1_learnFromTry 0 = .ok (.aload_n 0, 1) := by decide +kernel
theorem dX1_learnFromTry_1 : decode cX1_learnFromTry 1 = .ok (.getfield 15, 3) := by decide +kernel
theorem dX1_learnFromTry_4 : decode cX1_learnFromTry 4 = .ok (.iconst 1, 1) := by decide +kernel
theorem dX1_learnFromTry_5 : decode cX1_learnFromTry 5 = .ok (.dup2, 1) := by decide +kernel
theorem dX1_learnFromTry_6 : decode cX1_learnFromTry 6 = .ok (.iaload, 1) := by decide +kernel
theorem dX1_learnFromTry_7 : decode cX1_learnFromTry 7 = .ok (.iconst 1, 1) := by decide +kernel
theorem dX1_learnFromTry_8 : decode cX1_learnFromTry 8 = .ok (.iadd, 1) := by decide +kernel
theorem dX1_learnFromTry_9 : decode cX1_learnFromTry 9 = .ok (.iastore, 1) := by decide +kernel
theorem dX1_learnFromTry_10 : decode cX1_learnFromTry 10 = .ok (.iload_n 1, 1) := by decide +kernel
theorem dX1_learnFromTry_11 : decode cX1_learnFromTry 11 = .ok (.ifCond .ne 13, 3) := by decide +kernel
theorem dX1_learnFromTry_14 : decode cX1_learnFromTry 14 = .ok (.aload_n 0, 1) := by decide +kernel
theorem dX1_learnFromTry_15 : decode cX1_learnFromTry 15 = .ok (.getfield 15, 3) := by decide +kernel
theorem dX1_learnFromTry_18 : decode cX1_learnFromTry 18 = .ok (.iconst 2, 1) := by decide +kernel
theorem dX1_learnFromTry_19 : decode cX1_learnFromTry 19 = .ok (.dup2, 1) := by decide +kernel
theorem dX1_learnFromTry_20 : decode cX1_learnFromTry 20 = .ok (.iaload, 1) := by decide +kernel
theorem dX1_learnFromTry_21 : decode cX1_learnFromTry 21 = .ok (.iconst 1, 1) := by decide +kernel
theorem dX1_learnFromTry_22 : decode cX1_learnFromTry 22 = .ok (.iadd, 1) := by decide +kernel
theorem dX1_learnFromTry_23 : decode cX1_learnFromTry 23 = .ok (.iastore, 1) := by decide +kernel
theorem dX1_learnFromTry_24 : decode cX1_learnFromTry 24 = .ok (.aload_n 0, 1) := by decide +kernel
theorem dX1_learnFromTry_25 : decode cX1_learnFromTry 25 = .ok (.getfield 15, 3) := by decide +kernel
theorem dX1_learnFromTry_28 : decode cX1_learnFromTry 28 = .ok (.iconst 1, 1) := by decide +kernel
theorem dX1_learnFromTry_29 : decode cX1_learnFromTry 29 = .ok (.iaload, 1) := by decide +kernel
theorem dX1_learnFromTry_30 : decode cX1_learnFromTry 30 = .ok (.aload_n 0, 1) := by decide +kernel
theorem dX1_learnFromTry_31 : decode cX1_learnFromTry 31 = .ok (.getfield 32, 3) := by decide +kernel
theorem dX1_learnFromTry_34 : decode cX1_learnFromTry 34 = .ok (.iconst 1, 1) := by decide +kernel
theorem dX1_learnFromTry_35 : decode cX1_learnFromTry 35 = .ok (.iaload, 1) := by decide +kernel
theorem dX1_learnFromTry_36 : decode cX1_learnFromTry 36 = .ok (.if_icmp .ge 4, 3) := by decide +kernel
theorem dX1_learnFromTry_39 : decode cX1_learnFromTry 39 = .ok (.return_, 1) := by decide +kernel
theorem dX1_learnFromTry_40 : decode cX1_learnFromTry 40 = .ok (.aload_n 0, 1) := by decide +kernel
theorem dX1_learnFromTry_41 : decode cX1_learnFromTry 41 = .ok (.getfield 15, 3) := by decide +kernel
theorem dX1_learnFromTry_44 : decode cX1_learnFromTry 44 = .ok (.iconst 2, 1) := by decide +kernel
theorem dX1_learnFromTry_45 : decode cX1_learnFromTry 45 = .ok (.iaload, 1) := by decide +kernel
theorem dX1_learnFromTry_46 : decode cX1_learnFromTry 46 = .ok (.bipush 100, 2) := by decide +kernel
theorem dX1_learnFromTry_48 : decode cX1_learnFromTry 48 = .ok (.imul, 1) := by decide +kernel
theorem dX1_learnFromTry_49 : decode cX1_learnFromTry 49 = .ok (.aload_n 0, 1) := by decide +kernel
theorem dX1_learnFromTry_50 : decode cX1_learnFromTry 50 = .ok (.getfield 32, 3) := by decide +kernel
theorem dX1_learnFromTry_53 : decode cX1_learnFromTry 53 = .ok (.iconst 2, 1) := by decide +kernel
theorem dX1_learnFromTry_54 : decode cX1_learnFromTry 54 = .ok (.iaload, 1) := by decide +kernel
theorem dX1_learnFromTry_55 : decode cX1_learnFromTry 55 = .ok (.aload_n 0, 1) := by decide +kernel
theorem dX1_learnFromTry_56 : decode cX1_learnFromTry 56 = .ok (.getfield 15, 3) := by decide +kernel
theorem dX1_learnFromTry_59 : decode cX1_learnFromTry 59 = .ok (.iconst 1, 1) := by decide +kernel
theorem dX1_learnFromTry_60 : decode cX1_learnFromTry 60 = .ok (.iaload, 1) := by decide +kernel
theorem dX1_learnFromTry_61 : decode cX1_learnFromTry 61 = .ok (.imul, 1) := by decide +kernel
theorem dX1_learnFromTry_62 : decode cX1_learnFromTry 62 = .ok (.if_icmp .le 37, 3) := by decide +kernel
theorem dX1_learnFromTry_65 : decode cX1_learnFromTry 65 = .ok (.aload_n 0, 1) := by decide +kernel
theorem dX1_learnFromTry_66 : decode cX1_learnFromTry 66 = .ok (.getfield 15, 3) := by decide +kernel
theorem dX1_learnFromTry_69 : decode cX1_learnFromTry 69 = .ok (.iconst 0, 1) := by decide +kernel
theorem dX1_learnFromTry_70 : decode cX1_learnFromTry 70 = .ok (.bipush 64, 2) := by decide +kernel
theorem dX1_learnFromTry_72 : decode cX1_learnFromTry 72 = .ok (.aload_n 0, 1) := by decide +kernel
theorem dX1_learnFromTry_73 : decode cX1_learnFromTry 73 = .ok (.getfield 15, 3) := by decide +kernel
theorem dX1_learnFromTry_76 : decode cX1_learnFromTry 76 = .ok (.iconst 0, 1) := by decide +kernel
theorem dX1_learnFromTry_77 : decode cX1_learnFromTry 77 = .ok (.iaload, 1) := by decide +kernel
theorem dX1_learnFromTry_78 : decode cX1_learnFromTry 78 = .ok (.aload_n 0, 1) := by decide +kernel
theorem dX1_learnFromTry_79 : decode cX1_learnFromTry 79 = .ok (.getfield 32, 3) := by decide +kernel
theorem dX1_learnFromTry_82 : decode cX1_learnFromTry 82 = .ok (.iconst 3, 1) := by decide +kernel
theorem dX1_learnFromTry_83 : decode cX1_learnFromTry 83 = .ok (.iaload, 1) := by decide +kernel
theorem dX1_learnFromTry_84 : decode cX1_learnFromTry 84 = .ok (.iadd, 1) := by decide +kernel
theorem dX1_learnFromTry_85 : decode cX1_learnFromTry 85 = .ok (.invokestatic 145, 3) := by decide +kernel
theorem dX1_learnFromTry_88 : decode cX1_learnFromTry 88 = .ok (.iastore, 1) := by decide +kernel
theorem dX1_learnFromTry_89 : decode cX1_learnFromTry 89 = .ok (.aload_n 0, 1) := by decide +kernel
theorem dX1_learnFromTry_90 : decode cX1_learnFromTry 90 = .ok (.getfield 15, 3) := by decide +kernel
theorem dX1_learnFromTry_93 : decode cX1_learnFromTry 93 = .ok (.iconst 3, 1) := by decide +kernel
theorem dX1_learnFromTry_94 : decode cX1_learnFromTry 94 = .ok (.iconst 0, 1) := by decide +kernel
theorem dX1_learnFromTry_95 : decode cX1_learnFromTry 95 = .ok (.iastore, 1) := by decide +kernel
theorem dX1_learnFromTry_96 : decode cX1_learnFromTry 96 = .ok (.goto 13, 3) := by decide +kernel
theorem dX1_learnFromTry_99 : decode cX1_learnFromTry 99 = .ok (.aload_n 0, 1) := by decide +kernel
theorem dX1_learnFromTry_100 : decode cX1_learnFromTry 100 = .ok (.getfield 15, 3) := by decide +kernel
theorem dX1_learnFromTry_103 : decode cX1_learnFromTry 103 = .ok (.iconst 3, 1) := by decide +kernel
theorem dX1_learnFromTry_104 : decode cX1_learnFromTry 104 = .ok (.dup2, 1) := by decide +kernel
theorem dX1_learnFromTry_105 : decode cX1_learnFromTry 105 = .ok (.iaload, 1) := by decide +kernel
theorem dX1_learnFromTry_106 : decode cX1_learnFromTry 106 = .ok (.iconst 1, 1) := by decide +kernel
theorem dX1_learnFromTry_107 : decode cX1_learnFromTry 107 = .ok (.iadd, 1) := by decide +kernel
theorem dX1_learnFromTry_108 : decode cX1_learnFromTry 108 = .ok (.iastore, 1) := by decide +kernel
theorem dX1_learnFromTry_109 : decode cX1_learnFromTry 109 = .ok (.aload_n 0, 1) := by decide +kernel
theorem dX1_learnFromTry_110 : decode cX1_learnFromTry 110 = .ok (.getfield 15, 3) := by decide +kernel
theorem dX1_learnFromTry_113 : decode cX1_learnFromTry 113 = .ok (.iconst 3, 1) := by decide +kernel
theorem dX1_learnFromTry_114 : decode cX1_learnFromTry 114 = .ok (.iaload, 1) := by decide +kernel
theorem dX1_learnFromTry_115 : decode cX1_learnFromTry 115 = .ok (.iconst 3, 1) := by decide +kernel
theorem dX1_learnFromTry_116 : decode cX1_learnFromTry 116 = .ok (.if_icmp .lt 33, 3) := by decide +kernel
theorem dX1_learnFromTry_119 : decode cX1_learnFromTry 119 = .ok (.aload_n 0, 1) := by decide +kernel
theorem dX1_learnFromTry_120 : decode cX1_learnFromTry 120 = .ok (.getfield 15, 3) := by decide +kernel
theorem dX1_learnFromTry_123 : decode cX1_learnFromTry 123 = .ok (.iconst 0, 1) := by decide +kernel
theorem dX1_learnFromTry_124 : decode cX1_learnFromTry 124 = .ok (.iconst 0, 1) := by decide +kernel
theorem dX1_learnFromTry_125 : decode cX1_learnFromTry 125 = .ok (.aload_n 0, 1) := by decide +kernel
theorem dX1_learnFromTry_126 : decode cX1_learnFromTry 126 = .ok (.getfield 15, 3) := by decide +kernel
theorem dX1_learnFromTry_129 : decode cX1_learnFromTry 129 = .ok (.iconst 0, 1) := by decide +kernel
theorem dX1_learnFromTry_130 : decode cX1_learnFromTry 130 = .ok (.iaload, 1) := by decide +kernel
theorem dX1_learnFromTry_131 : decode cX1_learnFromTry 131 = .ok (.aload_n 0, 1) := by decide +kernel
theorem dX1_learnFromTry_132 : decode cX1_learnFromTry 132 = .ok (.getfield 32, 3) := by decide +kernel
theorem dX1_learnFromTry_135 : decode cX1_learnFromTry 135 = .ok (.iconst 3, 1) := by decide +kernel
theorem dX1_learnFromTry_136 : decode cX1_learnFromTry 136 = .ok (.iaload, 1) := by decide +kernel
theorem dX1_learnFromTry_137 : decode cX1_learnFromTry 137 = .ok (.isub, 1) := by decide +kernel
theorem dX1_learnFromTry_138 : decode cX1_learnFromTry 138 = .ok (.invokestatic 150, 3) := by decide +kernel
theorem dX1_learnFromTry_141 : decode cX1_learnFromTry 141 = .ok (.iastore, 1) := by decide +kernel
theorem dX1_learnFromTry_142 : decode cX1_learnFromTry 142 = .ok (.aload_n 0, 1) := by decide +kernel
theorem dX1_learnFromTry_143 : decode cX1_learnFromTry 143 = .ok (.getfield 15, 3) := by decide +kernel
theorem dX1_learnFromTry_146 : decode cX1_learnFromTry 146 = .ok (.iconst 3, 1) := by decide +kernel
theorem dX1_learnFromTry_147 : decode cX1_learnFromTry 147 = .ok (.iconst 0, 1) := by decide +kernel
theorem dX1_learnFromTry_148 : decode cX1_learnFromTry 148 = .ok (.iastore, 1) := by decide +kernel
theorem dX1_learnFromTry_149 : decode cX1_learnFromTry 149 = .ok (.aload_n 0, 1) := by decide +kernel
theorem dX1_learnFromTry_150 : decode cX1_learnFromTry 150 = .ok (.getfield 15, 3) := by decide +kernel
theorem dX1_learnFromTry_153 : decode cX1_learnFromTry 153 = .ok (.iconst 1, 1) := by decide +kernel
theorem dX1_learnFromTry_154 : decode cX1_learnFromTry 154 = .ok (.iconst 0, 1) := by decide +kernel
theorem dX1_learnFromTry_155 : decode cX1_learnFromTry 155 = .ok (.iastore, 1) := by decide +kernel
theorem dX1_learnFromTry_156 : decode cX1_learnFromTry 156 = .ok (.aload_n 0, 1) := by decide +kernel
theorem dX1_learnFromTry_157 : decode cX1_learnFromTry 157 = .ok (.getfield 15, 3) := by decide +kernel
theorem dX1_learnFromTry_160 : decode cX1_learnFromTry 160 = .ok (.iconst 2, 1) := by decide +kernel
theorem dX1_learnFromTry_161 : decode cX1_learnFromTry 161 = .ok (.iconst 0, 1) := by decide +kernel
theorem dX1_learnFromTry_162 : decode cX1_learnFromTry 162 = .ok (.iastore, 1) := by decide +kernel
theorem dX1_learnFromTry_163 : decode cX1_learnFromTry 163 = .ok (.return_, 1) := by decide +kernel
theorem dX1_writeBlock_0 : decode cX1_writeBlock 0 = .ok (.iload_n 1, 1) := by decide +kernel
theorem dX1_writeBlock_1 : decode cX1_writeBlock 1 = .ok (.bipush 64, 2) := by decide +kernel
theorem dX1_writeBlock_3 : decode cX1_writeBlock 3 = .ok (.imul, 1) := by decide +kernel
theorem dX1_writeBlock_4 : decode cX1_writeBlock 4 = .ok (.istore_n 2, 1) := by decide +kernel
theorem dX1_writeBlock_5 : decode cX1_writeBlock 5 = .ok (.aload_n 0, 1) := by decide +kernel
theorem dX1_writeBlock_6 : decode cX1_writeBlock 6 = .ok (.getfield 38, 3) := by decide +kernel
theorem dX1_writeBlock_9 : decode cX1_writeBlock 9 = .ok (.bipush 62, 2) := by decide +kernel
theorem dX1_writeBlock_11 : decode cX1_writeBlock 11 = .ok (.invokestatic 145, 3) := by decide +kernel
theorem dX1_writeBlock_14 : decode cX1_writeBlock 14 = .ok (.istore_n 3, 1) := by decide +kernel
theorem dX1_writeBlock_15 : decode cX1_writeBlock 15 = .ok (.aload_n 0, 1) := by decide +kernel
theorem dX1_writeBlock_16 : decode cX1_writeBlock 16 = .ok (.getfield 9, 3) := by decide +kernel
theorem dX1_writeBlock_19 : decode cX1_writeBlock 19 = .ok (.iload_n 2, 1) := by decide +kernel
theorem dX1_writeBlock_20 : decode cX1_writeBlock 20 = .ok (.iload_n 2, 1) := by decide +kernel
theorem dX1_writeBlock_21 : decode cX1_writeBlock 21 = .ok (.bipush 64, 2) := by decide +kernel
theorem dX1_writeBlock_23 : decode cX1_writeBlock 23 = .ok (.iadd, 1) := by decide +kernel
theorem dX1_writeBlock_24 : decode cX1_writeBlock 24 = .ok (.iconst 0, 1) := by decide +kernel
theorem dX1_writeBlock_25 : decode cX1_writeBlock 25 = .ok (.invokestatic 153, 3) := by decide +kernel
theorem dX1_writeBlock_28 : decode cX1_writeBlock 28 = .ok (.aload_n 0, 1) := by decide +kernel
theorem dX1_writeBlock_29 : decode cX1_writeBlock 29 = .ok (.getfield 9, 3) := by decide +kernel
theorem dX1_writeBlock_32 : decode cX1_writeBlock 32 = .ok (.iload_n 2, 1) := by decide +kernel
theorem dX1_writeBlock_33 : decode cX1_writeBlock 33 = .ok (.aload_n 0, 1) := by decide +kernel
theorem dX1_writeBlock_34 : decode cX1_writeBlock 34 = .ok (.getfield 28, 3) := by decide +kernel
theorem dX1_writeBlock_37 : decode cX1_writeBlock 37 = .ok (.getfield 125, 3) := by decide +kernel
theorem dX1_writeBlock_40 : decode cX1_writeBlock 40 = .ok (.getfield 156, 3) := by decide +kernel
theorem dX1_writeBlock_43 : decode cX1_writeBlock 43 = .ok (.iastore, 1) := by decide +kernel
theorem dX1_writeBlock_44 : decode cX1_writeBlock 44 = .ok (.aload_n 0, 1) := by decide +kernel
theorem dX1_writeBlock_45 : decode cX1_writeBlock 45 = .ok (.getfield 9, 3) := by decide +kernel
theorem dX1_writeBlock_48 : decode cX1_writeBlock 48 = .ok (.iload_n 2, 1) := by decide +kernel
theorem dX1_writeBlock_49 : decode cX1_writeBlock 49 = .ok (.iconst 1, 1) := by decide +kernel
theorem dX1_writeBlock_50 : decode cX1_writeBlock 50 = .ok (.iadd, 1) := by decide +kernel
theorem dX1_writeBlock_51 : decode cX1_writeBlock 51 = .ok (.iload_n 3, 1) := by decide +kernel
theorem dX1_writeBlock_52 : decode cX1_writeBlock 52 = .ok (.iastore, 1) := by decide +kernel
theorem dX1_writeBlock_53 : decode cX1_writeBlock 53 = .ok (.aload_n 0, 1) := by decide +kernel
theorem dX1_writeBlock_54 : decode cX1_writeBlock 54 = .ok (.getfield 28, 3) := by decide +kernel
theorem dX1_writeBlock_57 : decode cX1_writeBlock 57 = .ok (.getfield 125, 3) := by decide +kernel
theorem dX1_writeBlock_60 : decode cX1_writeBlock 60 = .ok (.getfield 159, 3) := by decide +kernel
theorem dX1_writeBlock_63 : decode cX1_writeBlock 63 = .ok (.iconst 0, 1) := by decide +kernel
theorem dX1_writeBlock_64 : decode cX1_writeBlock 64 = .ok (.aload_n 0, 1) := by decide +kernel
theorem dX1_writeBlock_65 : decode cX1_writeBlock 65 = .ok (.getfield 9, 3) := by decide +kernel
theorem dX1_writeBlock_68 : decode cX1_writeBlock 68 = .ok (.iload_n 2, 1) := by decide +kernel
theorem dX1_writeBlock_69 : decode cX1_writeBlock 69 = .ok (.iconst 2, 1) := by decide +kernel
theorem dX1_writeBlock_70 : decode cX1_writeBlock 70 = .ok (.iadd, 1) := by decide +kernel
theorem dX1_writeBlock_71 : decode cX1_writeBlock 71 = .ok (.iload_n 3, 1) := by decide +kernel
theorem dX1_writeBlock_72 : decode cX1_writeBlock 72 = .ok (.invokestatic 41, 3) := by decide +kernel
theorem dX1_writeBlock_75 : decode cX1_writeBlock 75 = .ok (.aload_n 0, 1) := by decide +kernel
theorem dX1_writeBlock_76 : decode cX1_writeBlock 76 = .ok (.getfield 18, 3) := by decide +kernel
theorem dX1_writeBlock_79 : decode cX1_writeBlock 79 = .ok (.iload_n 1, 1) := by decide +kernel
theorem dX1_writeBlock_80 : decode cX1_writeBlock 80 = .ok (.iconst 1, 1) := by decide +kernel
theorem dX1_writeBlock_81 : decode cX1_writeBlock 81 = .ok (.iastore, 1) := by decide +kernel
theorem dX1_writeBlock_82 : decode cX1_writeBlock 82 = .ok (.return_, 1) := by decide +kernel
theorem dX1_insertIntoDirectory_0 : decode cX1_insertIntoDirectory 0 = .ok (.aload_n 0, 1) := by decide +kernel
theorem dX1_insertIntoDirectory_1 : decode cX1_insertIntoDirectory 1 = .ok (.getfield 9, 3) := by decide +kernel
theorem dX1_insertIntoDirectory_4 : decode cX1_insertIntoDirectory 4 = .ok (.invokestatic 162, 3) := by decide +kernel
theorem dX1_insertIntoDirectory_7 : decode cX1_insertIntoDirectory 7 = .ok (.istore_n 3, 1) := by decide +kernel
theorem dX1_insertIntoDirectory_8 : decode cX1_insertIntoDirectory 8 = .ok (.aload_n 0, 1) := by decide +kernel
theorem dX1_insertIntoDirectory_9 : decode cX1_insertIntoDirectory 9 = .ok (.getfield 9, 3) := by decide +kernel
theorem dX1_insertIntoDirectory_12 : decode cX1_insertIntoDirectory 12 = .ok (.invokestatic 166, 3) := by decide +kernel
theorem dX1_insertIntoDirectory_15 : decode cX1_insertIntoDirectory 15 = .ok (.istore 4, 2) := by decide +kernel
theorem dX1_insertIntoDirectory_17 : decode cX1_insertIntoDirectory 17 = .ok (.iload 4, 2) := by decide +kernel
theorem dX1_insertIntoDirectory_19 : decode cX1_insertIntoDirectory 19 = .ok (.iconst (-1), 1) := by decide +kernel
theorem dX1_insertIntoDirectory_20 : decode cX1_insertIntoDirectory 20 = .ok (.if_icmp .eq 18, 3) := by decide +kernel
theorem dX1_insertIntoDirectory_23 : decode cX1_insertIntoDirectory 23 = .ok (.iload_n 3, 1) := by decide +kernel
theorem dX1_insertIntoDirectory_24 : decode cX1_insertIntoDirectory 24 = .ok (.bipush 10, 2) := by decide +kernel
theorem dX1_insertIntoDirectory_26 : decode cX1_insertIntoDirectory 26 = .ok (.if_icmp .ge 12, 3) := by decide +kernel
theorem dX1_insertIntoDirectory_29 : decode cX1_insertIntoDirectory 29 = .ok (.iload_n 1, 1) := by decide +kernel
theorem dX1_insertIntoDirectory_30 : decode cX1_insertIntoDirectory 30 = .ok (.ifCond .lt 8, 3) := by decide +kernel
theorem dX1_insertIntoDirectory_33 : decode cX1_insertIntoDirectory 33 = .ok (.iload_n 1, 1) := by decide +kernel
theorem dX1_insertIntoDirectory_34 : decode cX1_insertIntoDirectory 34 = .ok (.iload_n 3, 1) := by decide +kernel
theorem dX1_insertIntoDirectory_35 : decode cX1_insertIntoDirectory 35 = .ok (.if_icmp .le 5, 3) := by decide +kernel
theorem dX1_insertIntoDirectory_38 : decode cX1_insertIntoDirectory 38 = .ok (.iconst 0, 1) := by decide +kernel
theorem dX1_insertIntoDirectory_39 : decode cX1_insertIntoDirectory 39 = .ok (.ireturn, 1) := by decide +kernel
theorem dX1_insertIntoDirectory_40 : decode cX1_insertIntoDirectory 40 = .ok (.sipush 641, 3) := by decide +kernel
theorem dX1_insertIntoDirectory_43 : decode cX1_insertIntoDirectory 43 = .ok (.iconst 2, 1) := by decide +kernel
theorem dX1_insertIntoDirectory_44 : decode cX1_insertIntoDirectory 44 = .ok (.iload_n 1, 1) := by decide +kernel
theorem dX1_insertIntoDirectory_45 : decode cX1_insertIntoDirectory 45 = .ok (.imul, 1) := by decide +kernel
theorem dX1_insertIntoDirectory_46 : decode cX1_insertIntoDirectory 46 = .ok (.iadd, 1) := by decide +kernel
theorem dX1_insertIntoDirectory_47 : decode cX1_insertIntoDirectory 47 = .ok (.istore 5, 2) := by decide +kernel
theorem dX1_insertIntoDirectory_49 : decode cX1_insertIntoDirectory 49 = .ok (.aload_n 0, 1) := by decide +kernel
theorem dX1_insertIntoDirectory_50 : decode cX1_insertIntoDirectory 50 = .ok (.getfield 9, 3) := by decide +kernel
theorem dX1_insertIntoDirectory_53 : decode cX1_insertIntoDirectory 53 = .ok (.iload 5, 2) := by decide +kernel
theorem dX1_insertIntoDirectory_55 : decode cX1_insertIntoDirectory 55 = .ok (.aload_n 0, 1) := by decide +kernel
theorem dX1_insertIntoDirectory_56 : decode cX1_insertIntoDirectory 56 = .ok (.getfield 9, 3) := by decide +kernel
theorem dX1_insertIntoDirectory_59 : decode cX1_insertIntoDirectory 59 = .ok (.iload 5, 2) := by decide +kernel
theorem dX1_insertIntoDirectory_61 : decode cX1_insertIntoDirectory 61 = .ok (.iconst 2, 1) := by decide +kernel
theorem dX1_insertIntoDirectory_62 : decode cX1_insertIntoDirectory 62 = .ok (.iadd, 1) := by decide +kernel
theorem dX1_insertIntoDirectory_63 : decode cX1_insertIntoDirectory 63 = .ok (.iconst 2, 1) := by decide +kernel
theorem dX1_insertIntoDirectory_64 : decode cX1_insertIntoDirectory 64 = .ok (.iload_n 3, 1) := by decide +kernel
theorem dX1_insertIntoDirectory_65 : decode cX1_insertIntoDirectory 65 = .ok (.iload_n 1, 1) := by decide +kernel
theorem dX1_insertIntoDirectory_66 : decode cX1_insertIntoDirectory 66 = .ok (.isub, 1) := by decide +kernel
theorem dX1_insertIntoDirectory_67 : decode cX1_insertIntoDirectory 67 = .ok (.imul, 1) := by decide +kernel
theorem dX1_insertIntoDirectory_68 : decode cX1_insertIntoDirectory 68 = .ok (.invokestatic 41, 3) := by decide +kernel
theorem dX1_insertIntoDirectory_71 : decode cX1_insertIntoDirectory 71 = .ok (.aload_n 0, 1) := by decide +kernel
theorem dX1_insertIntoDirectory_72 : decode cX1_insertIntoDirectory 72 = .ok (.getfield 9, 3) := by decide +kernel
theorem dX1_insertIntoDirectory_75 : decode cX1_insertIntoDirectory 75 = .ok (.iload 5, 2) := by decide +kernel
theorem dX1_insertIntoDirectory_77 : decode cX1_insertIntoDirectory 77 = .ok (.iload 4, 2) := by decide +kernel
theorem dX1_insertIntoDirectory_79 : decode cX1_insertIntoDirectory 79 = .ok (.iastore, 1) := by decide +kernel
theorem dX1_insertIntoDirectory_80 : decode cX1_insertIntoDirectory 80 = .ok (.aload_n 0, 1) := by decide +kernel
theorem dX1_insertIntoDirectory_81 : decode cX1_insertIntoDirectory 81 = .ok (.getfield 9, 3) := by decide +kernel
theorem dX1_insertIntoDirectory_84 : decode cX1_insertIntoDirectory 84 = .ok (.iload 5, 2) := by decide +kernel
theorem dX1_insertIntoDirectory_86 : decode cX1_insertIntoDirectory 86 = .ok (.iconst 1, 1) := by decide +kernel
theorem dX1_insertIntoDirectory_87 : decode cX1_insertIntoDirectory 87 = .ok (.iadd, 1) := by decide +kernel
theorem dX1_insertIntoDirectory_88 : decode cX1_insertIntoDirectory 88 = .ok (.iload_n 2, 1) := by decide +kernel
theorem dX1_insertIntoDirectory_89 : decode cX1_insertIntoDirectory 89 = .ok (.iastore, 1) := by decide +kernel
theorem dX1_insertIntoDirectory_90 : decode cX1_insertIntoDirectory 90 = .ok (.aload_n 0, 1) := by decide +kernel
theorem dX1_insertIntoDirectory_91 : decode cX1_insertIntoDirectory 91 = .ok (.getfield 9, 3) := by decide +kernel
theorem dX1_insertIntoDirectory_94 : decode cX1_insertIntoDirectory 94 = .ok (.sipush 640, 3) := by decide +kernel
theorem dX1_insertIntoDirectory_97 : decode cX1_insertIntoDirectory 97 = .ok (.iload_n 3, 1) := by decide +kernel
theorem dX1_insertIntoDirectory_98 : decode cX1_insertIntoDirectory 98 = .ok (.iconst 1, 1) := by decide +kernel
theorem dX1_insertIntoDirectory_99 : decode cX1_insertIntoDirectory 99 = .ok (.iadd, 1) := by decide +kernel
theorem dX1_insertIntoDirectory_100 : decode cX1_insertIntoDirectory 100 = .ok (.iastore, 1) := by decide +kernel
theorem dX1_insertIntoDirectory_101 : decode cX1_insertIntoDirectory 101 = .ok (.iconst 1, 1) := by decide +kernel
theorem dX1_insertIntoDirectory_102 : decode cX1_insertIntoDirectory 102 = .ok (.ireturn, 1) := by decide +kernel
theorem dX1_removeFromDirectory_0 : decode cX1_removeFromDirectory 0 = .ok (.aload_n 0, 1) := by decide +kernel
theorem dX1_removeFromDirectory_1 : decode cX1_removeFromDirectory 1 = .ok (.getfield 9, 3) := by decide +kernel
theorem dX1_removeFromDirectory_4 : decode cX1_removeFromDirectory 4 = .ok (.invokestatic 162, 3) := by decide +kernel
theorem dX1_removeFromDirectory_7 : decode cX1_removeFromDirectory 7 = .ok (.istore_n 2, 1) := by decide +kernel
theorem dX1_removeFromDirectory_8 : decode cX1_removeFromDirectory 8 = .ok (.iload_n 1, 1) := by decide +kernel
theorem dX1_removeFromDirectory_9 : decode cX1_removeFromDirectory 9 = .ok (.ifCond .lt 8, 3) := by decide +kernel
theorem dX1_removeFromDirectory_12 : decode cX1_removeFromDirectory 12 = .ok (.iload_n 1, 1) := by decide +kernel
theorem dX1_removeFromDirectory_13 : decode cX1_removeFromDirectory 13 = .ok (.iload_n 2, 1) := by decide +kernel
theorem dX1_removeFromDirectory_14 : decode cX1_removeFromDirectory 14 = .ok (.if_icmp .lt 4, 3) := by decide +kernel
theorem dX1_removeFromDirectory_17 : decode cX1_removeFromDirectory 17 = .ok (.return_, 1) := by decide +kernel
theorem dX1_removeFromDirectory_18 : decode cX1_removeFromDirectory 18 = .ok (.sipush 641, 3) := by decide +kernel
theorem dX1_removeFromDirectory_21 : decode cX1_removeFromDirectory 21 = .ok (.iconst 2, 1) := by decide +kernel
theorem dX1_removeFromDirectory_22 : decode cX1_removeFromDirectory 22 = .ok (.iload_n 1, 1) := by decide +kernel
theorem dX1_removeFromDirectory_23 : decode cX1_removeFromDirectory 23 = .ok (.imul, 1) := by decide +kernel
theorem dX1_removeFromDirectory_24 : decode cX1_removeFromDirectory 24 = .ok (.iadd, 1) := by decide +kernel
theorem dX1_removeFromDirectory_25 : decode cX1_removeFromDirectory 25 = .ok (.istore_n 3, 1) := by decide +kernel
theorem dX1_removeFromDirectory_26 : decode cX1_removeFromDirectory 26 = .ok (.aload_n 0, 1) := by decide +kernel
theorem dX1_removeFromDirectory_27 : decode cX1_removeFromDirectory 27 = .ok (.getfield 9, 3) := by decide +kernel
theorem dX1_removeFromDirectory_30 : decode cX1_removeFromDirectory 30 = .ok (.iload_n 3, 1) := by decide +kernel
theorem dX1_removeFromDirectory_31 : decode cX1_removeFromDirectory 31 = .ok (.iconst 2, 1) := by decide +kernel
theorem dX1_removeFromDirectory_32 : decode cX1_removeFromDirectory 32 = .ok (.iadd, 1) := by decide +kernel
theorem dX1_removeFromDirectory_33 : decode cX1_removeFromDirectory 33 = .ok (.aload_n 0, 1) := by decide +kernel
theorem dX1_removeFromDirectory_34 : decode cX1_removeFromDirectory 34 = .ok (.getfield 9, 3) := by decide +kernel
theorem dX1_removeFromDirectory_37 : decode cX1_removeFromDirectory 37 = .ok (.iload_n 3, 1) := by decide +kernel
theorem dX1_removeFromDirectory_38 : decode cX1_removeFromDirectory 38 = .ok (.iconst 2, 1) := by decide +kernel
theorem dX1_removeFromDirectory_39 : decode cX1_removeFromDirectory 39 = .ok (.iload_n 2, 1) := by decide +kernel
theorem dX1_removeFromDirectory_40 : decode cX1_removeFromDirectory 40 = .ok (.iconst 1, 1) := by decide +kernel
theorem dX1_removeFromDirectory_41 : decode cX1_removeFromDirectory 41 = .ok (.isub, 1) := by decide +kernel
theorem dX1_removeFromDirectory_42 : decode cX1_removeFromDirectory 42 = .ok (.iload_n 1, 1) := by decide +kernel
theorem dX1_removeFromDirectory_43 : decode cX1_removeFromDirectory 43 = .ok (.isub, 1) := by decide +kernel
theorem dX1_removeFromDirectory_44 : decode cX1_removeFromDirectory 44 = .ok (.imul, 1) := by decide +kernel
theorem dX1_removeFromDirectory_45 : decode cX1_removeFromDirectory 45 = .ok (.invokestatic 41, 3) := by decide +kernel
theorem dX1_removeFromDirectory_48 : decode cX1_removeFromDirectory 48 = .ok (.aload_n 0, 1) := by decide +kernel
theorem dX1_removeFromDirectory_49 : decode cX1_removeFromDirectory 49 = .ok (.getfield 9, 3) := by decide +kernel
theorem dX1_removeFromDirectory_52 : decode cX1_removeFromDirectory 52 = .ok (.sipush 640, 3) := by decide +kernel
theorem dX1_removeFromDirectory_55 : decode cX1_removeFromDirectory 55 = .ok (.iload_n 2, 1) := by decide +kernel
theorem dX1_removeFromDirectory_56 : decode cX1_removeFromDirectory 56 = .ok (.iconst 1, 1) := by decide +kernel
theorem dX1_removeFromDirectory_57 : decode cX1_removeFromDirectory 57 = .ok (.isub, 1) := by decide +kernel
theorem dX1_removeFromDirectory_58 : decode cX1_removeFromDirectory 58 = .ok (.iastore, 1) := by decide +kernel
theorem dX1_removeFromDirectory_59 : decode cX1_removeFromDirectory 59 = .ok (.return_, 1) := by decide +kernel
theorem dX1_compactAll_0 : decode cX1_compactAll 0 = .ok (.aload_n 0, 1) := by decide +kernel
theorem dX1_compactAll_1 : decode cX1_compactAll 1 = .ok (.getfield 28, 3) := by decide +kernel
theorem dX1_compactAll_4 : decode cX1_compactAll 4 = .ok (.aload_n 0, 1) := by decide +kernel
theorem dX1_compactAll_5 : decode cX1_compactAll 5 = .ok (.getfield 9, 3) := by decide +kernel
theorem dX1_compactAll_8 : decode cX1_compactAll 8 = .ok (.invokevirtual 169, 3) := by decide +kernel
theorem dX1_compactAll_11 : decode cX1_compactAll 11 = .ok (.iconst 0, 1) := by decide +kernel
theorem dX1_compactAll_12 : decode cX1_compactAll 12 = .ok (.istore_n 1, 1) := by decide +kernel
theorem dX1_compactAll_13 : decode cX1_compactAll 13 = .ok (.iconst 0, 1) := by decide +kernel
theorem dX1_compactAll_14 : decode cX1_compactAll 14 = .ok (.istore_n 2, 1) := by decide +kernel
theorem dX1_compactAll_15 : decode cX1_compactAll 15 = .ok (.iload_n 2, 1) := by decide +kernel
theorem dX1_compactAll_16 : decode cX1_compactAll 16 = .ok (.bipush 10, 2) := by decide +kernel
theorem dX1_compactAll_18 : decode cX1_compactAll 18 = .ok (.if_icmp .ge 128, 3) := by decide +kernel
theorem dX1_compactAll_21 : decode cX1_compactAll 21 = .ok (.aload_n 0, 1) := by decide +kernel
theorem dX1_compactAll_22 : decode cX1_compactAll 22 = .ok (.iload_n 1, 1) := by decide +kernel
theorem dX1_compactAll_23 : decode cX1_compactAll 23 = .ok (.invokevirtual 173, 3) := by decide +kernel
theorem dX1_compactAll_26 : decode cX1_compactAll 26 = .ok (.istore_n 3, 1) := by decide +kernel
theorem dX1_compactAll_27 : decode cX1_compactAll 27 = .ok (.aload_n 0, 1) := by decide +kernel
theorem dX1_compactAll_28 : decode cX1_compactAll 28 = .ok (.getfield 28, 3) := by decide +kernel
theorem dX1_compactAll_31 : decode cX1_compactAll 31 = .ok (.iload_n 1, 1) := by decide +kernel
theorem dX1_compactAll_32 : decode cX1_compactAll 32 = .ok (.iload_n 3, 1) := by decide +kernel
theorem dX1_compactAll_33 : decode cX1_compactAll 33 = .ok (.invokevirtual 122, 3) := by decide +kernel
theorem dX1_compactAll_36 : decode cX1_compactAll 36 = .ok (.istore 4, 2) := by decide +kernel
theorem dX1_compactAll_38 : decode cX1_compactAll 38 = .ok (.aload_n 0, 1) := by decide +kernel
theorem dX1_compactAll_39 : decode cX1_compactAll 39 = .ok (.aload_n 0, 1) := by decide +kernel
theorem dX1_compactAll_40 : decode cX1_compactAll 40 = .ok (.getfield 28, 3) := by decide +kernel
theorem dX1_compactAll_43 : decode cX1_compactAll 43 = .ok (.getfield 125, 3) := by decide +kernel
theorem dX1_compactAll_46 : decode cX1_compactAll 46 = .ok (.aload_n 0, 1) := by decide +kernel
theorem dX1_compactAll_47 : decode cX1_compactAll 47 = .ok (.getfield 28, 3) := by decide +kernel
theorem dX1_compactAll_50 : decode cX1_compactAll 50 = .ok (.getfield 129, 3) := by decide +kernel
theorem dX1_compactAll_53 : decode cX1_compactAll 53 = .ok (.iload 4, 2) := by decide +kernel
theorem dX1_compactAll_55 : decode cX1_compactAll 55 = .ok (.invokevirtual 132, 3) := by decide +kernel
theorem dX1_compactAll_58 : decode cX1_compactAll 58 = .ok (.putfield 38, 3) := by decide +kernel
theorem dX1_compactAll_61 : decode cX1_compactAll 61 = .ok (.aload_n 0, 1) := by decide +kernel
theorem dX1_compactAll_62 : decode cX1_compactAll 62 = .ok (.iload_n 2, 1) := by decide +kernel
theorem dX1_compactAll_63 : decode cX1_compactAll 63 = .ok (.invokevirtual 113, 3) := by decide +kernel
theorem dX1_compactAll_66 : decode cX1_compactAll 66 = .ok (.aload_n 0, 1) := by decide +kernel
theorem dX1_compactAll_67 : decode cX1_compactAll 67 = .ok (.getfield 9, 3) := by decide +kernel
theorem dX1_compactAll_70 : decode cX1_compactAll 70 = .ok (.sipush 640, 3) := by decide +kernel
theorem dX1_compactAll_73 : decode cX1_compactAll 73 = .ok (.iload_n 2, 1) := by decide +kernel
theorem dX1_compactAll_74 : decode cX1_compactAll 74 = .ok (.iconst 1, 1) := by decide +kernel
theorem dX1_compactAll_75 : decode cX1_compactAll 75 = .ok (.iadd, 1) := by decide +kernel
theorem dX1_compactAll_76 : decode cX1_compactAll 76 = .ok (.iastore, 1) := by decide +kernel
theorem dX1_compactAll_77 : decode cX1_compactAll 77 = .ok (.aload_n 0, 1) := by decide +kernel
theorem dX1_compactAll_78 : decode cX1_compactAll 78 = .ok (.getfield 9, 3) := by decide +kernel
theorem dX1_compactAll_81 : decode cX1_compactAll 81 = .ok (.sipush 641, 3) := by decide +kernel
theorem dX1_compactAll_84 : decode cX1_compactAll 84 = .ok (.iconst 2, 1) := by decide +kernel
theorem dX1_compactAll_85 : decode cX1_compactAll 85 = .ok (.iload_n 2, 1) := by decide +kernel
theorem dX1_compactAll_86 : decode cX1_compactAll 86 = .ok (.imul, 1) := by decide +kernel
theorem dX1_compactAll_87 : decode cX1_compactAll 87 = .ok (.iadd, 1) := by decide +kernel
theorem dX1_compactAll_88 : decode cX1_compactAll 88 = .ok (.iload_n 2, 1) := by decide +kernel
theorem dX1_compactAll_89 : decode cX1_compactAll 89 = .ok (.iastore, 1) := by decide +kernel
theorem dX1_compactAll_90 : decode cX1_compactAll 90 = .ok (.aload_n 0, 1) := by decide +kernel
theorem dX1_compactAll_91 : decode cX1_compactAll 91 = .ok (.getfield 9, 3) := by decide +kernel
theorem dX1_compactAll_94 : decode cX1_compactAll 94 = .ok (.sipush 642, 3) := by decide +kernel
theorem dX1_compactAll_97 : decode cX1_compactAll 97 = .ok (.iconst 2, 1) := by decide +kernel
theorem dX1_compactAll_98 : decode cX1_compactAll 98 = .ok (.iload_n 2, 1) := by decide +kernel
theorem dX1_compactAll_99 : decode cX1_compactAll 99 = .ok (.imul, 1) := by decide +kernel
theorem dX1_compactAll_100 : decode cX1_compactAll 100 = .ok (.iadd, 1) := by decide +kernel
theorem dX1_compactAll_101 : decode cX1_compactAll 101 = .ok (.iload_n 2, 1) := by decide +kernel
theorem dX1_compactAll_102 : decode cX1_compactAll 102 = .ok (.ifCond .ne 7, 3) := by decide +kernel
theorem dX1_compactAll_105 : decode cX1_compactAll 105 = .ok (.iconst 0, 1) := by decide +kernel
theorem dX1_compactAll_106 : decode cX1_compactAll 106 = .ok (.goto 12, 3) := by decide +kernel
theorem dX1_compactAll_109 : decode cX1_compactAll 109 = .ok (.aload_n 0, 1) := by decide +kernel
theorem dX1_compactAll_110 : decode cX1_compactAll 110 = .ok (.getfield 28, 3) := by decide +kernel
theorem dX1_compactAll_113 : decode cX1_compactAll 113 = .ok (.iload_n 1, 1) := by decide +kernel
theorem dX1_compactAll_114 : decode cX1_compactAll 114 = .ok (.iload_n 3, 1) := by decide +kernel
theorem dX1_compactAll_115 : decode cX1_compactAll 115 = .ok (.invokevirtual 107, 3) := by decide +kernel
theorem dX1_compactAll_118 : decode cX1_compactAll 118 = .ok (.iastore, 1) := by decide +kernel
theorem dX1_compactAll_119 : decode cX1_compactAll 119 = .ok (.aload_n 0, 1) := by decide +kernel
theorem dX1_compactAll_120 : decode cX1_compactAll 120 = .ok (.getfield 28, 3) := by decide +kernel
theorem dX1_compactAll_123 : decode cX1_compactAll 123 = .ok (.iload_n 3, 1) := by decide +kernel
theorem dX1_compactAll_124 : decode cX1_compactAll 124 = .ok (.sipush 256, 3) := by decide +kernel
theorem dX1_compactAll_127 : decode cX1_compactAll 127 = .ok (.invokevirtual 107, 3) := by decide +kernel
theorem dX1_compactAll_130 : decode cX1_compactAll 130 = .ok (.iconst (-1), 1) := by decide +kernel
theorem dX1_compactAll_131 : decode cX1_compactAll 131 = .ok (.if_icmp .ne 7, 3) := by decide +kernel
theorem dX1_compactAll_134 : decode cX1_compactAll 134 = .ok (.iload_n 2, 1) := by decide +kernel
theorem dX1_compactAll_135 : decode cX1_compactAll 135 = .ok (.iconst 1, 1) := by decide +kernel
theorem dX1_compactAll_136 : decode cX1_compactAll 136 = .ok (.iadd, 1) := by decide +kernel
theorem dX1_compactAll_137 : decode cX1_compactAll 137 = .ok (.ireturn, 1) := by decide +kernel
theorem dX1_compactAll_138 : decode cX1_compactAll 138 = .ok (.iload_n 3, 1) := by decide +kernel
theorem dX1_compactAll_139 : decode cX1_compactAll 139 = .ok (.istore_n 1, 1) := by decide +kernel
theorem dX1_compactAll_140 : decode cX1_compactAll 140 = .ok (.iinc 2 1, 3) := by decide +kernel
theorem dX1_compactAll_143 : decode cX1_compactAll 143 = .ok (.goto (-128), 3) := by decide +kernel
theorem dX1_compactAll_146 : decode cX1_compactAll 146 = .ok (.bipush (-5), 2) := by decide +kernel
theorem dX1_compactAll_148 : decode cX1_compactAll 148 = .ok (.ireturn, 1) := by decide +kernel
theorem dX1_farthestEnd_0 : decode cX1_farthestEnd 0 = .ok (.aload_n 0, 1) := by decide +kernel
theorem dX1_farthestEnd_1 : decode cX1_farthestEnd 1 = .ok (.getfield 28, 3) := by decide +kernel
theorem dX1_farthestEnd_4 : decode cX1_farthestEnd 4 = .ok (.iload_n 1, 1) := by decide +kernel
theorem dX1_farthestEnd_5 : decode cX1_farthestEnd 5 = .ok (.sipush 256, 3) := by decide +kernel
theorem dX1_farthestEnd_8 : decode cX1_farthestEnd 8 = .ok (.invokevirtual 107, 3) := by decide +kernel
theorem dX1_farthestEnd_11 : decode cX1_farthestEnd 11 = .ok (.istore_n 2, 1) := by decide +kernel
theorem dX1_farthestEnd_12 : decode cX1_farthestEnd 12 = .ok (.iload_n 2, 1) := by decide +kernel
theorem dX1_farthestEnd_13 : decode cX1_farthestEnd 13 = .ok (.iconst (-1), 1) := by decide +kernel
theorem dX1_farthestEnd_14 : decode cX1_farthestEnd 14 = .ok (.if_icmp .ne 7, 3) := by decide +kernel
theorem dX1_farthestEnd_17 : decode cX1_farthestEnd 17 = .ok (.sipush 256, 3) := by decide +kernel
theorem dX1_farthestEnd_20 : decode cX1_farthestEnd 20 = .ok (.ireturn, 1) := by decide +kernel
theorem dX1_farthestEnd_21 : decode cX1_farthestEnd 21 = .ok (.iload_n 2, 1) := by decide +kernel
theorem dX1_farthestEnd_22 : decode cX1_farthestEnd 22 = .ok (.iconst 1, 1) := by decide +kernel
theorem dX1_farthestEnd_23 : decode cX1_farthestEnd 23 = .ok (.iadd, 1) := by decide +kernel
theorem dX1_farthestEnd_24 : decode cX1_farthestEnd 24 = .ok (.istore_n 3, 1) := by decide +kernel
theorem dX1_farthestEnd_25 : decode cX1_farthestEnd 25 = .ok (.iload_n 3, 1) := by decide +kernel
theorem dX1_farthestEnd_26 : decode cX1_farthestEnd 26 = .ok (.istore 4, 2) := by decide +kernel
theorem dX1_farthestEnd_28 : decode cX1_farthestEnd 28 = .ok (.iload 4, 2) := by decide +kernel
theorem dX1_farthestEnd_30 : decode cX1_farthestEnd 30 = .ok (.sipush 256, 3) := by decide +kernel
theorem dX1_farthestEnd_33 : decode cX1_farthestEnd 33 = .ok (.if_icmp .ge 64, 3) := by decide +kernel
theorem dX1_farthestEnd_36 : decode cX1_farthestEnd 36 = .ok (.aload_n 0, 1) := by decide +kernel
theorem dX1_farthestEnd_37 : decode cX1_farthestEnd 37 = .ok (.getfield 28, 3) := by decide +kernel
theorem dX1_farthestEnd_40 : decode cX1_farthestEnd 40 = .ok (.iload 4, 2) := by decide +kernel
theorem dX1_farthestEnd_42 : decode cX1_farthestEnd 42 = .ok (.invokevirtual 176, 3) := by decide +kernel
theorem dX1_farthestEnd_45 : decode cX1_farthestEnd 45 = .ok (.iconst (-1), 1) := by decide +kernel
theorem dX1_farthestEnd_46 : decode cX1_farthestEnd 46 = .ok (.if_icmp .ne 6, 3) := by decide +kernel
theorem dX1_farthestEnd_49 : decode cX1_farthestEnd 49 = .ok (.goto 42, 3) := by decide +kernel
theorem dX1_farthestEnd_52 : decode cX1_farthestEnd 52 = .ok (.aload_n 0, 1) := by decide +kernel
theorem dX1_farthestEnd_53 : decode cX1_farthestEnd 53 = .ok (.getfield 28, 3) := by decide +kernel
theorem dX1_farthestEnd_56 : decode cX1_farthestEnd 56 = .ok (.iload_n 1, 1) := by decide +kernel
theorem dX1_farthestEnd_57 : decode cX1_farthestEnd 57 = .ok (.iload 4, 2) := by decide +kernel
theorem dX1_farthestEnd_59 : decode cX1_farthestEnd 59 = .ok (.iconst 1, 1) := by decide +kernel
theorem dX1_farthestEnd_60 : decode cX1_farthestEnd 60 = .ok (.iadd, 1) := by decide +kernel
theorem dX1_farthestEnd_61 : decode cX1_farthestEnd 61 = .ok (.invokevirtual 75, 3) := by decide +kernel
theorem dX1_farthestEnd_64 : decode cX1_farthestEnd 64 = .ok (.aload_n 0, 1) := by decide +kernel
theorem dX1_farthestEnd_65 : decode cX1_farthestEnd 65 = .ok (.invokevirtual 96, 3) := by decide +kernel
theorem dX1_farthestEnd_68 : decode cX1_farthestEnd 68 = .ok (.if_icmp .gt 29, 3) := by decide +kernel
theorem dX1_farthestEnd_71 : decode cX1_farthestEnd 71 = .ok (.aload_n 0, 1) := by decide +kernel
theorem dX1_farthestEnd_72 : decode cX1_farthestEnd 72 = .ok (.iload_n 1, 1) := by decide +kernel
theorem dX1_farthestEnd_73 : decode cX1_farthestEnd 73 = .ok (.iload 4, 2) := by decide +kernel
theorem dX1_farthestEnd_75 : decode cX1_farthestEnd 75 = .ok (.iconst 1, 1) := by decide +kernel
theorem dX1_farthestEnd_76 : decode cX1_farthestEnd 76 = .ok (.iadd, 1) := by decide +kernel
theorem dX1_farthestEnd_77 : decode cX1_farthestEnd 77 = .ok (.invokevirtual 179, 3) := by decide +kernel
theorem dX1_farthestEnd_80 : decode cX1_farthestEnd 80 = .ok (.ifCond .ne 6, 3) := by decide +kernel
theorem dX1_farthestEnd_83 : decode cX1_farthestEnd 83 = .ok (.goto 14, 3) := by decide +kernel
theorem dX1_farthestEnd_86 : decode cX1_farthestEnd 86 = .ok (.iload 4, 2) := by decide +kernel
theorem dX1_farthestEnd_88 : decode cX1_farthestEnd 88 = .ok (.iconst 1, 1) := by decide +kernel
theorem dX1_farthestEnd_89 : decode cX1_farthestEnd 89 = .ok (.iadd, 1) := by decide +kernel
theorem dX1_farthestEnd_90 : decode cX1_farthestEnd 90 = .ok (.istore_n 3, 1) := by decide +kernel
theorem dX1_farthestEnd_91 : decode cX1_farthestEnd 91 = .ok (.iinc 4 1, 3) := by decide +kernel
theorem dX1_farthestEnd_94 : decode cX1_farthestEnd 94 = .ok (.goto (-66), 3) := by decide +kernel
theorem dX1_farthestEnd_97 : decode cX1_farthestEnd 97 = .ok (.iload_n 3, 1) := by decide +kernel
theorem dX1_farthestEnd_98 : decode cX1_farthestEnd 98 = .ok (.ireturn, 1) := by decide +kernel
theorem dX1_fitsByAny_0 : decode cX1_fitsByAny 0 = .ok (.aload_n 0, 1) := by decide +kernel
theorem dX1_fitsByAny_1 : decode cX1_fitsByAny 1 = .ok (.getfield 28, 3) := by decide +kernel
theorem dX1_fitsByAny_4 : decode cX1_fitsByAny 4 = .ok (.iload_n 1, 1) := by decide +kernel
theorem dX1_fitsByAny_5 : decode cX1_fitsByAny 5 = .ok (.iload_n 2, 1) := by decide +kernel
theorem dX1_fitsByAny_6 : decode cX1_fitsByAny 6 = .ok (.invokevirtual 122, 3) := by decide +kernel
theorem dX1_fitsByAny_9 : decode cX1_fitsByAny 9 = .ok (.istore_n 3, 1) := by decide +kernel
theorem dX1_fitsByAny_10 : decode cX1_fitsByAny 10 = .ok (.iconst 0, 1) := by decide +kernel
theorem dX1_fitsByAny_11 : decode cX1_fitsByAny 11 = .ok (.istore 4, 2) := by decide +kernel
theorem dX1_fitsByAny_13 : decode cX1_fitsByAny 13 = .ok (.iload 4, 2) := by decide +kernel
theorem dX1_fitsByAny_15 : decode cX1_fitsByAny 15 = .ok (.iconst 4, 1) := by decide +kernel
theorem dX1_fitsByAny_16 : decode cX1_fitsByAny 16 = .ok (.if_icmp .ge 38, 3) := by decide +kernel
theorem dX1_fitsByAny_19 : decode cX1_fitsByAny 19 = .ok (.aload_n 0, 1) := by decide +kernel
theorem dX1_fitsByAny_20 : decode cX1_fitsByAny 20 = .ok (.aload_n 0, 1) := by decide +kernel
theorem dX1_fitsByAny_21 : decode cX1_fitsByAny 21 = .ok (.getfield 28, 3) := by decide +kernel
theorem dX1_fitsByAny_24 : decode cX1_fitsByAny 24 = .ok (.getfield 125, 3) := by decide +kernel
theorem dX1_fitsByAny_27 : decode cX1_fitsByAny 27 = .ok (.aload_n 0, 1) := by decide +kernel
theorem dX1_fitsByAny_28 : decode cX1_fitsByAny 28 = .ok (.getfield 28, 3) := by decide +kernel
theorem dX1_fitsByAny_31 : decode cX1_fitsByAny 31 = .ok (.getfield 129, 3) := by decide +kernel
theorem dX1_fitsByAny_34 : decode cX1_fitsByAny 34 = .ok (.iload_n 3, 1) := by decide +kernel
theorem dX1_fitsByAny_35 : decode cX1_fitsByAny 35 = .ok (.iload 4, 2) := by decide +kernel
theorem dX1_fitsByAny_37 : decode cX1_fitsByAny 37 = .ok (.invokevirtual 182, 3) := by decide +kernel
theorem dX1_fitsByAny_40 : decode cX1_fitsByAny 40 = .ok (.invokevirtual 137, 3) := by decide +kernel
theorem dX1_fitsByAny_43 : decode cX1_fitsByAny 43 = .ok (.ifCond .eq 5, 3) := by decide +kernel
theorem dX1_fitsByAny_46 : decode cX1_fitsByAny 46 = .ok (.iconst 1, 1) := by decide +kernel
theorem dX1_fitsByAny_47 : decode cX1_fitsByAny 47 = .ok (.ireturn, 1) := by decide +kernel
theorem dX1_fitsByAny_48 : decode cX1_fitsByAny 48 = .ok (.iinc 4 1, 3) := by decide +kernel
theorem dX1_fitsByAny_51 : decode cX1_fitsByAny 51 = .ok (.goto (-38), 3) := by decide +kernel
theorem dX1_fitsByAny_54 : decode cX1_fitsByAny 54 = .ok (.iconst 0, 1) := by decide +kernel
theorem dX1_fitsByAny_55 : decode cX1_fitsByAny 55 = .ok (.ireturn, 1) := by decide +kernel
theorem dX1_markDifferent_0 : decode cX1_markDifferent 0 = .ok (.iconst 0, 1) := by decide +kernel
theorem dX1_markDifferent_1 : decode cX1_markDifferent 1 = .ok (.istore_n 2, 1) := by decide +kernel
theorem dX1_markDifferent_2 : decode cX1_markDifferent 2 = .ok (.iload_n 2, 1) := by decide +kernel
theorem dX1_markDifferent_3 : decode cX1_markDifferent 3 = .ok (.bipush 10, 2) := by decide +kernel
theorem dX1_markDifferent_5 : decode cX1_markDifferent 5 = .ok (.if_icmp .ge 56, 3) := by decide +kernel
theorem dX1_markDifferent_8 : decode cX1_markDifferent 8 = .ok (.aload_n 0, 1) := by decide +kernel
theorem dX1_markDifferent_9 : decode cX1_markDifferent 9 = .ok (.getfield 18, 3) := by decide +kernel
theorem dX1_markDifferent_12 : decode cX1_markDifferent 12 = .ok (.iload_n 2, 1) := by decide +kernel
theorem dX1_markDifferent_13 : decode cX1_markDifferent 13 = .ok (.iconst 0, 1) := by decide +kernel
theorem dX1_markDifferent_14 : decode cX1_markDifferent 14 = .ok (.iastore, 1) := by decide +kernel
theorem dX1_markDifferent_15 : decode cX1_markDifferent 15 = .ok (.iload_n 2, 1) := by decide +kernel
theorem dX1_markDifferent_16 : decode cX1_markDifferent 16 = .ok (.bipush 64, 2) := by decide +kernel
theorem dX1_markDifferent_18 : decode cX1_markDifferent 18 = .ok (.imul, 1) := by decide +kernel
theorem dX1_markDifferent_19 : decode cX1_markDifferent 19 = .ok (.istore_n 3, 1) := by decide +kernel
theorem dX1_markDifferent_20 : decode cX1_markDifferent 20 = .ok (.iload_n 3, 1) := by decide +kernel
theorem dX1_markDifferent_21 : decode cX1_markDifferent 21 = .ok (.iload_n 2, 1) := by decide +kernel
theorem dX1_markDifferent_22 : decode cX1_markDifferent 22 = .ok (.iconst 1, 1) := by decide +kernel
theorem dX1_markDifferent_23 : decode cX1_markDifferent 23 = .ok (.iadd, 1) := by decide +kernel
theorem dX1_markDifferent_24 : decode cX1_markDifferent 24 = .ok (.bipush 64, 2) := by decide +kernel
theorem dX1_markDifferent_26 : decode cX1_markDifferent 26 = .ok (.imul, 1) := by decide +kernel
theorem dX1_markDifferent_27 : decode cX1_markDifferent 27 = .ok (.if_icmp .ge 28, 3) := by decide +kernel
theorem dX1_markDifferent_30 : decode cX1_markDifferent 30 = .ok (.aload_n 0, 1) := by decide +kernel
theorem dX1_markDifferent_31 : decode cX1_markDifferent 31 = .ok (.getfield 9, 3) := by decide +kernel
theorem dX1_markDifferent_34 : decode cX1_markDifferent 34 = .ok (.iload_n 3, 1) := by decide +kernel
theorem dX1_markDifferent_35 : decode cX1_markDifferent 35 = .ok (.iaload, 1) := by decide +kernel
theorem dX1_markDifferent_36 : decode cX1_markDifferent 36 = .ok (.aload_n 1, 1) := by decide +kernel
theorem dX1_markDifferent_37 : decode cX1_markDifferent 37 = .ok (.iload_n 3, 1) := by decide +kernel
theorem dX1_markDifferent_38 : decode cX1_markDifferent 38 = .ok (.iaload, 1) := by decide +kernel
theorem dX1_markDifferent_39 : decode cX1_markDifferent 39 = .ok (.if_icmp .eq 10, 3) := by decide +kernel
theorem dX1_markDifferent_42 : decode cX1_markDifferent 42 = .ok (.aload_n 0, 1) := by decide +kernel
theorem dX1_markDifferent_43 : decode cX1_markDifferent 43 = .ok (.getfield 18, 3) := by decide +kernel
theorem dX1_markDifferent_46 : decode cX1_markDifferent 46 = .ok (.iload_n 2, 1) := by decide +kernel
theorem dX1_markDifferent_47 : decode cX1_markDifferent 47 = .ok (.iconst 1, 1) := by decide +kernel
theorem dX1_markDifferent_48 : decode cX1_markDifferent 48 = .ok (.iastore, 1) := by decide +kernel
theorem dX1_markDifferent_49 : decode cX1_markDifferent 49 = .ok (.iinc 3 1, 3) := by decide +kernel
theorem dX1_markDifferent_52 : decode cX1_markDifferent 52 = .ok (.goto (-32), 3) := by decide +kernel
theorem dX1_markDifferent_55 : decode cX1_markDifferent 55 = .ok (.iinc 2 1, 3) := by decide +kernel
theorem dX1_markDifferent_58 : decode cX1_markDifferent 58 = .ok (.goto (-56), 3) := by decide +kernel
theorem dX1_markDifferent_61 : decode cX1_markDifferent 61 = .ok (.return_, 1) := by decide +kernel
theorem dX1_bytesThroughJournal_0 : decode cX1_bytesThroughJournal 0 = .ok (.iconst 0, 1) := by decide +kernel
theorem dX1_bytesThroughJournal_1 : decode cX1_bytesThroughJournal 1 = .ok (.istore_n 1, 1) := by decide +kernel
theorem dX1_bytesThroughJournal_2 : decode cX1_bytesThroughJournal 2 = .ok (.iconst 0, 1) := by decide +kernel
theorem dX1_bytesThroughJournal_3 : decode cX1_bytesThroughJournal 3 = .ok (.istore_n 2, 1) := by decide +kernel
theorem dX1_bytesThroughJournal_4 : decode cX1_bytesThroughJournal 4 = .ok (.iload_n 2, 1) := by decide +kernel
theorem dX1_bytesThroughJournal_5 : decode cX1_bytesThroughJournal 5 = .ok (.bipush 10, 2) := by decide +kernel
theorem dX1_bytesThroughJournal_7 : decode cX1_bytesThroughJournal 7 = .ok (.if_icmp .ge 18, 3) := by decide +kernel
theorem dX1_bytesThroughJournal_10 : decode cX1_bytesThroughJournal 10 = .ok (.iload_n 1, 1) := by decide +kernel
theorem dX1_bytesThroughJournal_11 : decode cX1_bytesThroughJournal 11 = .ok (.aload_n 0, 1) := by decide +kernel
theorem dX1_bytesThroughJournal_12 : decode cX1_bytesThroughJournal 12 = .ok (.getfield 18, 3) := by decide +kernel
theorem dX1_bytesThroughJournal_15 : decode cX1_bytesThroughJournal 15 = .ok (.iload_n 2, 1) := by decide +kernel
theorem dX1_bytesThroughJournal_16 : decode cX1_bytesThroughJournal 16 = .ok (.iaload, 1) := by decide +kernel
theorem dX1_bytesThroughJournal_17 : decode cX1_bytesThroughJournal 17 = .ok (.iadd, 1) := by decide +kernel
theorem dX1_bytesThroughJournal_18 : decode cX1_bytesThroughJournal 18 = .ok (.istore_n 1, 1) := by decide +kernel
theorem dX1_bytesThroughJournal_19 : decode cX1_bytesThroughJournal 19 = .ok (.iinc 2 1, 3) := by decide +kernel
theorem dX1_bytesThroughJournal_22 : decode cX1_bytesThroughJournal 22 = .ok (.goto (-18), 3) := by decide +kernel
theorem dX1_bytesThroughJournal_25 : decode cX1_bytesThroughJournal 25 = .ok (.iconst 1, 1) := by decide +kernel
theorem dX1_bytesThroughJournal_26 : decode cX1_bytesThroughJournal 26 = .ok (.iconst 2, 1) := by decide +kernel
theorem dX1_bytesThroughJournal_27 : decode cX1_bytesThroughJournal 27 = .ok (.aload_n 0, 1) := by decide +kernel
theorem dX1_bytesThroughJournal_28 : decode cX1_bytesThroughJournal 28 = .ok (.getfield 9, 3) := by decide +kernel
theorem dX1_bytesThroughJournal_31 : decode cX1_bytesThroughJournal 31 = .ok (.invokestatic 162, 3) := by decide +kernel
theorem dX1_bytesThroughJournal_34 : decode cX1_bytesThroughJournal 34 = .ok (.imul, 1) := by decide +kernel
theorem dX1_bytesThroughJournal_35 : decode cX1_bytesThroughJournal 35 = .ok (.iadd, 1) := by decide +kernel
theorem dX1_bytesThroughJournal_36 : decode cX1_bytesThroughJournal 36 = .ok (.istore_n 2, 1) := by decide +kernel
theorem dX1_bytesThroughJournal_37 : decode cX1_bytesThroughJournal 37 = .ok (.iconst 1, 1) := by decide +kernel
theorem dX1_bytesThroughJournal_38 : decode cX1_bytesThroughJournal 38 = .ok (.iload_n 1, 1) := by decide +kernel
theorem dX1_bytesThroughJournal_39 : decode cX1_bytesThroughJournal 39 = .ok (.bipush 65, 2) := by decide +kernel
theorem dX1_bytesThroughJournal_41 : decode cX1_bytesThroughJournal 41 = .ok (.imul, 1) := by decide +kernel
theorem dX1_bytesThroughJournal_42 : decode cX1_bytesThroughJournal 42 = .ok (.iadd, 1) := by decide +kernel
theorem dX1_bytesThroughJournal_43 : decode cX1_bytesThroughJournal 43 = .ok (.iload_n 2, 1) := by decide +kernel
theorem dX1_bytesThroughJournal_44 : decode cX1_bytesThroughJournal 44 = .ok (.iadd, 1) := by decide +kernel
theorem dX1_bytesThroughJournal_45 : decode cX1_bytesThroughJournal 45 = .ok (.istore_n 3, 1) := by decide +kernel
theorem dX1_bytesThroughJournal_46 : decode cX1_bytesThroughJournal 46 = .ok (.iload_n 1, 1) := by decide +kernel
theorem dX1_bytesThroughJournal_47 : decode cX1_bytesThroughJournal 47 = .ok (.bipush 64, 2) := by decide +kernel
theorem dX1_bytesThroughJournal_49 : decode cX1_bytesThroughJournal 49 = .ok (.imul, 1) := by decide +kernel
theorem dX1_bytesThroughJournal_50 : decode cX1_bytesThroughJournal 50 = .ok (.iload_n 2, 1) := by decide +kernel
theorem dX1_bytesThroughJournal_51 : decode cX1_bytesThroughJournal 51 = .ok (.iadd, 1) := by decide +kernel
theorem dX1_bytesThroughJournal_52 : decode cX1_bytesThroughJournal 52 = .ok (.istore 4, 2) := by decide +kernel
theorem dX1_bytesThroughJournal_54 : decode cX1_bytesThroughJournal 54 = .ok (.iload_n 3, 1) := by decide +kernel
theorem dX1_bytesThroughJournal_55 : decode cX1_bytesThroughJournal 55 = .ok (.iconst 1, 1) := by decide +kernel
theorem dX1_bytesThroughJournal_56 : decode cX1_bytesThroughJournal 56 = .ok (.iadd, 1) := by decide +kernel
theorem dX1_bytesThroughJournal_57 : decode cX1_bytesThroughJournal 57 = .ok (.iload 4, 2) := by decide +kernel
theorem dX1_bytesThroughJournal_59 : decode cX1_bytesThroughJournal 59 = .ok (.iadd, 1) := by decide +kernel
theorem dX1_bytesThroughJournal_60 : decode cX1_bytesThroughJournal 60 = .ok (.iconst 1, 1) := by decide +kernel
theorem dX1_bytesThroughJournal_61 : decode cX1_bytesThroughJournal 61 = .ok (.iadd, 1) := by decide +kernel
theorem dX1_bytesThroughJournal_62 : decode cX1_bytesThroughJournal 62 = .ok (.ireturn, 1) := by decide +kernel
theorem dX2_kindOf_0 : decode cX2_kindOf 0 = .ok (.iload_n 0, 1) := by decide +kernel
theorem dX2_kindOf_1 : decode cX2_kindOf 1 = .ok (.iconst 4, 1) := by decide +kernel
theorem dX2_kindOf_2 : decode cX2_kindOf 2 = .ok (.ishr, 1) := by decide +kernel
theorem dX2_kindOf_3 : decode cX2_kindOf 3 = .ok (.ireturn, 1) := by decide +kernel
theorem dX2_numberOf_0 : decode cX2_numberOf 0 = .ok (.iload_n 0, 1) := by decide +kernel
theorem dX2_numberOf_1 : decode cX2_numberOf 1 = .ok (.bipush 15, 2) := by decide +kernel
theorem dX2_numberOf_3 : decode cX2_numberOf 3 = .ok (.iand, 1) := by decide +kernel
theorem dX2_numberOf_4 : decode cX2_numberOf 4 = .ok (.ireturn, 1) := by decide +kernel
theorem dX2_sizeBy_0 : decode cX2_sizeBy 0 = .ok (.iload_n 0, 1) := by decide +kernel
theorem dX2_sizeBy_1 : decode cX2_sizeBy 1 = .ok (.invokestatic 9, 3) := by decide +kernel
theorem dX2_sizeBy_4 : decode cX2_sizeBy 4 = .ok (.istore_n 1, 1) := by decide +kernel
theorem dX2_sizeBy_5 : decode cX2_sizeBy 5 = .ok (.iload_n 0, 1) := by decide +kernel
theorem dX2_sizeBy_6 : decode cX2_sizeBy 6 = .ok (.invokestatic 15, 3) := by decide +kernel
theorem dX2_sizeBy_9 : decode cX2_sizeBy 9 = .ok (.tableswitch 86 1 4 #[31, 45, 55, 67], 31) := by decide +kernel
theorem dX2_sizeBy_40 : decode cX2_sizeBy 40 = .ok (.iload_n 1, 1) := by decide +kernel
theorem dX2_sizeBy_41 : decode cX2_sizeBy 41 = .ok (.bipush 8, 2) := by decide +kernel
theorem dX2_sizeBy_43 : decode cX2_sizeBy 43 = .ok (.if_icmp .gt 9, 3) := by decide +kernel
theorem dX2_sizeBy_46 : decode cX2_sizeBy 46 = .ok (.iconst 2, 1) := by decide +kernel
theorem dX2_sizeBy_47 : decode cX2_sizeBy 47 = .ok (.iload_n 1, 1) := by decide +kernel
theorem dX2_sizeBy_48 : decode cX2_sizeBy 48 = .ok (.iadd, 1) := by decide +kernel
theorem dX2_sizeBy_49 : decode cX2_sizeBy 49 = .ok (.goto 4, 3) := by decide +kernel
theorem dX2_sizeBy_52 : decode cX2_sizeBy 52 = .ok (.iconst 0, 1) := by decide +kernel
theorem dX2_sizeBy_53 : decode cX2_sizeBy 53 = .ok (.ireturn, 1) := by decide +kernel
theorem dX2_sizeBy_54 : decode cX2_sizeBy 54 = .ok (.iload_n 1, 1) := by decide +kernel
theorem dX2_sizeBy_55 : decode cX2_sizeBy 55 = .ok (.ifCond .ne 7, 3) := by decide +kernel
theorem dX2_sizeBy_58 : decode cX2_sizeBy 58 = .ok (.iconst 2, 1) := by decide +kernel
theorem dX2_sizeBy_59 : decode cX2_sizeBy 59 = .ok (.goto 4, 3) := by decide +kernel
theorem dX2_sizeBy_62 : decode cX2_sizeBy 62 = .ok (.iconst 0, 1) := by decide +kernel
theorem dX2_sizeBy_63 : decode cX2_sizeBy 63 = .ok (.ireturn, 1) := by decide +kernel
theorem dX2_sizeBy_64 : decode cX2_sizeBy 64 = .ok (.iload_n 1, 1) := by decide +kernel
theorem dX2_sizeBy_65 : decode cX2_sizeBy 65 = .ok (.bipush 8, 2) := by decide +kernel
theorem dX2_sizeBy_67 : decode cX2_sizeBy 67 = .ok (.if_icmp .ge 7, 3) := by decide +kernel
theorem dX2_sizeBy_70 : decode cX2_sizeBy 70 = .ok (.iconst 3, 1) := by decide +kernel
theorem dX2_sizeBy_71 : decode cX2_sizeBy 71 = .ok (.goto 4, 3) := by decide +kernel
theorem dX2_sizeBy_74 : decode cX2_sizeBy 74 = .ok (.iconst 0, 1) := by decide +kernel
theorem dX2_sizeBy_75 : decode cX2_sizeBy 75 = .ok (.ireturn, 1) := by decide +kernel
theorem dX2_sizeBy_76 : decode cX2_sizeBy 76 = .ok (.iload_n 1, 1) := by decide +kernel
theorem dX2_sizeBy_77 : decode cX2_sizeBy 77 = .ok (.iconst 1, 1) := by decide +kernel
theorem dX2_sizeBy_78 : decode cX2_sizeBy 78 = .ok (.if_icmp .lt 15, 3) := by decide +kernel
theorem dX2_sizeBy_81 : decode cX2_sizeBy 81 = .ok (.iload_n 1, 1) := by decide +kernel
theorem dX2_sizeBy_82 : decode cX2_sizeBy 82 = .ok (.bipush 8, 2) := by decide +kernel
theorem dX2_sizeBy_84 : decode cX2_sizeBy 84 = .ok (.if_icmp .gt 9, 3) := by decide +kernel
theorem dX2_sizeBy_87 : decode cX2_sizeBy 87 = .ok (.iconst 2, 1) := by decide +kernel
theorem dX2_sizeBy_88 : decode cX2_sizeBy 88 = .ok (.iload_n 1, 1) := by decide +kernel
theorem dX2_sizeBy_89 : decode cX2_sizeBy 89 = .ok (.iadd, 1) := by decide +kernel
theorem dX2_sizeBy_90 : decode cX2_sizeBy 90 = .ok (.goto 4, 3) := by decide +kernel
theorem dX2_sizeBy_93 : decode cX2_sizeBy 93 = .ok (.iconst 0, 1) := by decide +kernel
theorem dX2_sizeBy_94 : decode cX2_sizeBy 94 = .ok (.ireturn, 1) := by decide +kernel
theorem dX2_sizeBy_95 : decode cX2_sizeBy 95 = .ok (.iconst 0, 1) := by decide +kernel
theorem dX2_sizeBy_96 : decode cX2_sizeBy 96 = .ok (.ireturn, 1) := by decide +kernel
theorem dX2_sizeAt_0 : decode cX2_sizeAt 0 = .ok (.iload_n 1, 1) := by decide +kernel
theorem dX2_sizeAt_1 : decode cX2_sizeAt 1 = .ok (.ifCond .lt 14, 3) := by decide +kernel
theorem dX2_sizeAt_4 : decode cX2_sizeAt 4 = .ok (.iload_n 1, 1) := by decide +kernel
theorem dX2_sizeAt_5 : decode cX2_sizeAt 5 = .ok (.iload_n 2, 1) := by decide +kernel
theorem dX2_sizeAt_6 : decode cX2_sizeAt 6 = .ok (.if_icmp .ge 9, 3) := by decide +kernel
theorem dX2_sizeAt_9 : decode cX2_sizeAt 9 = .ok (.iload_n 2, 1) := by decide +kernel
theorem dX2_sizeAt_10 : decode cX2_sizeAt 10 = .ok (.aload_n 0, 1) := by decide +kernel
theorem dX2_sizeAt_11 : decode cX2_sizeAt 11 = .ok (.arraylength, 1) := by decide +kernel
theorem dX2_sizeAt_12 : decode cX2_sizeAt 12 = .ok (.if_icmp .le 5, 3) := by decide +kernel
theorem dX2_sizeAt_15 : decode cX2_sizeAt 15 = .ok (.iconst 0, 1) := by decide +kernel
theorem dX2_sizeAt_16 : decode cX2_sizeAt 16 = .ok (.ireturn, 1) := by decide +kernel
theorem dX2_sizeAt_17 : decode cX2_sizeAt 17 = .ok (.aload_n 0, 1) := by decide +kernel
theorem dX2_sizeAt_18 : decode cX2_sizeAt 18 = .ok (.iload_n 1, 1) := by decide +kernel
theorem dX2_sizeAt_19 : decode cX2_sizeAt 19 = .ok (.iaload, 1) := by decide +kernel
theorem dX2_sizeAt_20 : decode cX2_sizeAt 20 = .ok (.invokestatic 18, 3) := by decide +kernel
theorem dX2_sizeAt_23 : decode cX2_sizeAt 23 = .ok (.istore_n 3, 1) := by decide +kernel
theorem dX2_sizeAt_24 : decode cX2_sizeAt 24 = .ok (.iload_n 1, 1) := by decide +kernel
theorem dX2_sizeAt_25 : decode cX2_sizeAt 25 = .ok (.iload_n 3, 1) := by decide +kernel
theorem dX2_sizeAt_26 : decode cX2_sizeAt 26 = .ok (.iadd, 1) := by decide +kernel
theorem dX2_sizeAt_27 : decode cX2_sizeAt 27 = .ok (.iload_n 2, 1) := by decide +kernel
theorem dX2_sizeAt_28 : decode cX2_sizeAt 28 = .ok (.if_icmp .gt 7, 3) := by decide +kernel
theorem dX2_sizeAt_31 : decode cX2_sizeAt 31 = .ok (.iload_n 3, 1) := by decide +kernel
theorem dX2_sizeAt_32 : decode cX2_sizeAt 32 = .ok (.goto 4, 3) := by decide +kernel
theorem dX2_sizeAt_35 : decode cX2_sizeAt 35 = .ok (.iconst 0, 1) := by decide +kernel
theorem dX2_sizeAt_36 : decode cX2_sizeAt 36 = .ok (.ireturn, 1) := by decide +kernel
theorem dX3_init_0 : decode cX3_init 0 = .ok (.aload_n 0, 1) := by decide +kernel
theorem dX3_init_1 : decode cX3_init 1 = .ok (.invokespecial 3, 3) := by decide +kernel
theorem dX3_init_4 : decode cX3_init 4 = .ok (.aload_n 0, 1) := by decide +kernel
theorem dX3_init_5 : decode cX3_init 5 = .ok (.iconst 0, 1) := by decide +kernel
theorem dX3_init_6 : decode cX3_init 6 = .ok (.putfield 9, 3) := by decide +kernel
theorem dX3_init_9 : decode cX3_init 9 = .ok (.aload_n 0, 1) := by decide +kernel
theorem dX3_init_10 : decode cX3_init 10 = .ok (.iconst 0, 1) := by decide +kernel
theorem dX3_init_11 : decode cX3_init 11 = .ok (.putfield 15, 3) := by decide +kernel
theorem dX3_init_14 : decode cX3_init 14 = .ok (.aload_n 0, 1) := by decide +kernel
theorem dX3_init_15 : decode cX3_init 15 = .ok (.iconst 4, 1) := by decide +kernel
theorem dX3_init_16 : decode cX3_init 16 = .ok (.newarray .int, 2) := by decide +kernel
theorem dX3_init_18 : decode cX3_init 18 = .ok (.putfield 18, 3) := by decide +kernel
theorem dX3_init_21 : decode cX3_init 21 = .ok (.return_, 1) := by decide +kernel
theorem dX3_holds_0 : decode cX3_holds 0 = .ok (.aload_n 0, 1) := by decide +kernel
theorem dX3_holds_1 : decode cX3_holds 1 = .ok (.iload_n 1, 1) := by decide +kernel
theorem dX3_holds_2 : decode cX3_holds 2 = .ok (.invokevirtual 22, 3) := by decide +kernel
theorem dX3_holds_5 : decode cX3_holds 5 = .ok (.iconst (-1), 1) := by decide +kernel
theorem dX3_holds_6 : decode cX3_holds 6 = .ok (.if_icmp .eq 7, 3) := by decide +kernel
theorem dX3_holds_9 : decode cX3_holds 9 = .ok (.iconst 1, 1) := by decide +kernel
theorem dX3_holds_10 : decode cX3_holds 10 = .ok (.goto 4, 3) := by decide +kernel
theorem dX3_holds_13 : decode cX3_holds 13 = .ok (.iconst 0, 1) := by decide +kernel
theorem dX3_holds_14 : decode cX3_holds 14 = .ok (.ireturn, 1) := by decide +kernel
theorem dX3_placeOf_0 : decode cX3_placeOf 0 = .ok (.iconst 0, 1) := by decide +kernel
theorem dX3_placeOf_1 : decode cX3_placeOf 1 = .ok (.istore_n 2, 1) := by decide +kernel
theorem dX3_placeOf_2 : decode cX3_placeOf 2 = .ok (.iload_n 2, 1) := by decide +kernel
theorem dX3_placeOf_3 : decode cX3_placeOf 3 = .ok (.aload_n 0, 1) := by decide +kernel
theorem dX3_placeOf_4 : decode cX3_placeOf 4 = .ok (.getfield 9, 3) := by decide +kernel
theorem dX3_placeOf_7 : decode cX3_placeOf 7 = .ok (.if_icmp .ge 21, 3) := by decide +kernel
theorem dX3_placeOf_10 : decode cX3_placeOf 10 = .ok (.aload_n 0, 1) := by decide +kernel
theorem dX3_placeOf_11 : decode cX3_placeOf 11 = .ok (.getfield 18, 3) := by decide +kernel
theorem dX3_placeOf_14 : decode cX3_placeOf 14 = .ok (.iload_n 2, 1) := by decide +kernel
theorem dX3_placeOf_15 : decode cX3_placeOf 15 = .ok (.iaload, 1) := by decide +kernel
theorem dX3_placeOf_16 : decode cX3_placeOf 16 = .ok (.iload_n 1, 1) := by decide +kernel
theorem dX3_placeOf_17 : decode cX3_placeOf 17 = .ok (.if_icmp .ne 5, 3) := by decide +kernel
theorem dX3_placeOf_20 : decode cX3_placeOf 20 = .ok (.iload_n 2, 1) := by decide +kernel
theorem dX3_placeOf_21 : decode cX3_placeOf 21 = .ok (.ireturn, 1) := by decide +kernel
theorem dX3_placeOf_22 : decode cX3_placeOf 22 = .ok (.iinc 2 1, 3) := by decide +kernel
theorem dX3_placeOf_25 : decode cX3_placeOf 25 = .ok (.goto (-23), 3) := by decide +kernel
theorem dX3_placeOf_28 : decode cX3_placeOf 28 = .ok (.iconst (-1), 1) := by decide +kernel
theorem dX3_placeOf_29 : decode cX3_placeOf 29 = .ok (.ireturn, 1) := by decide +kernel
theorem dX3_hold_0 : decode cX3_hold 0 = .ok (.aload_n 0, 1) := by decide +kernel
theorem dX3_hold_1 : decode cX3_hold 1 = .ok (.iload_n 1, 1) := by decide +kernel
theorem dX3_hold_2 : decode cX3_hold 2 = .ok (.invokevirtual 22, 3) := by decide +kernel
theorem dX3_hold_5 : decode cX3_hold 5 = .ok (.istore_n 3, 1) := by decide +kernel
theorem dX3_hold_6 : decode cX3_hold 6 = .ok (.iload_n 3, 1) := by decide +kernel
theorem dX3_hold_7 : decode cX3_hold 7 = .ok (.iconst (-1), 1) := by decide +kernel
theorem dX3_hold_8 : decode cX3_hold 8 = .ok (.if_icmp .ne 23, 3) := by decide +kernel
theorem dX3_hold_11 : decode cX3_hold 11 = .ok (.aload_n 0, 1) := by decide +kernel
theorem dX3_hold_12 : decode cX3_hold 12 = .ok (.dup, 1) := by decide +kernel
theorem dX3_hold_13 : decode cX3_hold 13 = .ok (.getfield 15, 3) := by decide +kernel
theorem dX3_hold_16 : decode cX3_hold 16 = .ok (.iconst 1, 1) := by decide +kernel
theorem dX3_hold_17 : decode cX3_hold 17 = .ok (.iadd, 1) := by decide +kernel
theorem dX3_hold_18 : decode cX3_hold 18 = .ok (.putfield 15, 3) := by decide +kernel
theorem dX3_hold_21 : decode cX3_hold 21 = .ok (.aload_n 0, 1) := by decide +kernel
theorem dX3_hold_22 : decode cX3_hold 22 = .ok (.iload_n 2, 1) := by decide +kernel
theorem dX3_hold_23 : decode cX3_hold 23 = .ok (.iconst 1, 1) := by decide +kernel
theorem dX3_hold_24 : decode cX3_hold 24 = .ok (.isub, 1) := by decide +kernel
theorem dX3_hold_25 : decode cX3_hold 25 = .ok (.invokevirtual 26, 3) := by decide +kernel
theorem dX3_hold_28 : decode cX3_hold 28 = .ok (.goto 8, 3) := by decide +kernel
theorem dX3_hold_31 : decode cX3_hold 31 = .ok (.aload_n 0, 1) := by decide +kernel
theorem dX3_hold_32 : decode cX3_hold 32 = .ok (.iload_n 3, 1) := by decide +kernel
theorem dX3_hold_33 : decode cX3_hold 33 = .ok (.invokevirtual 30, 3) := by decide +kernel
theorem dX3_hold_36 : decode cX3_hold 36 = .ok (.aload_n 0, 1) := by decide +kernel
theorem dX3_hold_37 : decode cX3_hold 37 = .ok (.getfield 9, 3) := by decide +kernel
theorem dX3_hold_40 : decode cX3_hold 40 = .ok (.aload_n 0, 1) := by decide +kernel
theorem dX3_hold_41 : decode cX3_hold 41 = .ok (.getfield 18, 3) := by decide +kernel
theorem dX3_hold_44 : decode cX3_hold 44 = .ok (.arraylength, 1) := by decide +kernel
theorem dX3_hold_45 : decode cX3_hold 45 = .ok (.if_icmp .ge 23, 3) := by decide +kernel
theorem dX3_hold_48 : decode cX3_hold 48 = .ok (.aload_n 0, 1) := by decide +kernel
theorem dX3_hold_49 : decode cX3_hold 49 = .ok (.getfield 18, 3) := by decide +kernel
theorem dX3_hold_52 : decode cX3_hold 52 = .ok (.aload_n 0, 1) := by decide +kernel
theorem dX3_hold_53 : decode cX3_hold 53 = .ok (.getfield 9, 3) := by decide +kernel
theorem dX3_hold_56 : decode cX3_hold 56 = .ok (.iload_n 1, 1) := by decide +kernel
theorem dX3_hold_57 : decode cX3_hold 57 = .ok (.iastore, 1) := by decide +kernel
theorem dX3_hold_58 : decode cX3_hold 58 = .ok (.aload_n 0, 1) := by decide +kernel
theorem dX3_hold_59 : decode cX3_hold 59 = .ok (.dup, 1) := by decide +kernel
theorem dX3_hold_60 : decode cX3_hold 60 = .ok (.getfield 9, 3) := by decide +kernel
theorem dX3_hold_63 : decode cX3_hold 63 = .ok (.iconst 1, 1) := by decide +kernel
theorem dX3_hold_64 : decode cX3_hold 64 = .ok (.iadd, 1) := by decide +kernel
theorem dX3_hold_65 : decode cX3_hold 65 = .ok (.putfield 9, 3) := by decide +kernel
theorem dX3_hold_68 : decode cX3_hold 68 = .ok (.return_, 1) := by decide +kernel
theorem dX3_giveUp_0 : decode cX3_giveUp 0 = .ok (.iload_n 1, 1) := by decide +kernel
theorem dX3_giveUp_1 : decode cX3_giveUp 1 = .ok (.ifCond .lt 44, 3) := by decide +kernel
theorem dX3_giveUp_4 : decode cX3_giveUp 4 = .ok (.iload_n 1, 1) := by decide +kernel
theorem dX3_giveUp_5 : decode cX3_giveUp 5 = .ok (.aload_n 0, 1) := by decide +kernel
theorem dX3_giveUp_6 : decode cX3_giveUp 6 = .ok (.getfield 9, 3) := by decide +kernel
theorem dX3_giveUp_9 : decode cX3_giveUp 9 = .ok (.if_icmp .ge 36, 3) := by decide +kernel
theorem dX3_giveUp_12 : decode cX3_giveUp 12 = .ok (.aload_n 0, 1) := by decide +kernel
theorem dX3_giveUp_13 : decode cX3_giveUp 13 = .ok (.getfield 18, 3) := by decide +kernel
theorem dX3_giveUp_16 : decode cX3_giveUp 16 = .ok (.iload_n 1, 1) := by decide +kernel
theorem dX3_giveUp_17 : decode cX3_giveUp 17 = .ok (.iconst 1, 1) := by decide +kernel
theorem dX3_giveUp_18 : decode cX3_giveUp 18 = .ok (.iadd, 1) := by decide +kernel
theorem dX3_giveUp_19 : decode cX3_giveUp 19 = .ok (.aload_n 0, 1) := by decide +kernel
theorem dX3_giveUp_20 : decode cX3_giveUp 20 = .ok (.getfield 18, 3) := by decide +kernel
theorem dX3_giveUp_23 : decode cX3_giveUp 23 = .ok (.iload_n 1, 1) := by decide +kernel
theorem dX3_giveUp_24 : decode cX3_giveUp 24 = .ok (.aload_n 0, 1) := by decide +kernel
theorem dX3_giveUp_25 : decode cX3_giveUp 25 = .ok (.getfield 9, 3) := by decide +kernel
theorem dX3_giveUp_28 : decode cX3_giveUp 28 = .ok (.iconst 1, 1) := by decide +kernel
theorem dX3_giveUp_29 : decode cX3_giveUp 29 = .ok (.isub, 1) := by decide +kernel
theorem dX3_giveUp_30 : decode cX3_giveUp 30 = .ok (.iload_n 1, 1) := by decide +kernel
theorem dX3_giveUp_31 : decode cX3_giveUp 31 = .ok (.isub, 1) := by decide +kernel
theorem dX3_giveUp_32 : decode cX3_giveUp 32 = .ok (.invokestatic 33, 3) := by decide +kernel
theorem dX3_giveUp_35 : decode cX3_giveUp 35 = .ok (.aload_n 0, 1) := by decide +kernel
theorem dX3_giveUp_36 : decode cX3_giveUp 36 = .ok (.dup, 1) := by decide +kernel
theorem dX3_giveUp_37 : decode cX3_giveUp 37 = .ok (.getfield 9, 3) := by decide +kernel
theorem dX3_giveUp_40 : decode cX3_giveUp 40 = .ok (.iconst 1, 1) := by decide +kernel
theorem dX3_giveUp_41 : decode cX3_giveUp 41 = .ok (.isub, 1) := by decide +kernel
theorem dX3_giveUp_42 : decode cX3_giveUp 42 = .ok (.putfield 9, 3) := by decide +kernel
theorem dX3_giveUp_45 : decode cX3_giveUp 45 = .ok (.return_, 1) := by decide +kernel
theorem dX3_shrinkTo_0 : decode cX3_shrinkTo 0 = .ok (.iconst 0, 1) := by decide +kernel
theorem dX3_shrinkTo_1 : decode cX3_shrinkTo 1 = .ok (.istore_n 2, 1) := by decide +kernel
theorem dX3_shrinkTo_2 : decode cX3_shrinkTo 2 = .ok (.iload_n 2, 1) := by decide +kernel
theorem dX3_shrinkTo_3 : decode cX3_shrinkTo 3 = .ok (.aload_n 0, 1) := by decide +kernel
theorem dX3_shrinkTo_4 : decode cX3_shrinkTo 4 = .ok (.getfield 18, 3) := by decide +kernel
theorem dX3_shrinkTo_7 : decode cX3_shrinkTo 7 = .ok (.arraylength, 1) := by decide +kernel
theorem dX3_shrinkTo_8 : decode cX3_shrinkTo 8 = .ok (.if_icmp .ge 22, 3) := by decide +kernel
theorem dX3_shrinkTo_11 : decode cX3_shrinkTo 11 = .ok (.aload_n 0, 1) := by decide +kernel
theorem dX3_shrinkTo_12 : decode cX3_shrinkTo 12 = .ok (.getfield 9, 3) := by decide +kernel
theorem dX3_shrinkTo_15 : decode cX3_shrinkTo 15 = .ok (.iload_n 1, 1) := by decide +kernel
theorem dX3_shrinkTo_16 : decode cX3_shrinkTo 16 = .ok (.if_icmp .le 14, 3) := by decide +kernel
theorem dX3_shrinkTo_19 : decode cX3_shrinkTo 19 = .ok (.aload_n 0, 1) := by decide +kernel
theorem dX3_shrinkTo_20 : decode cX3_shrinkTo 20 = .ok (.iconst 0, 1) := by decide +kernel
theorem dX3_shrinkTo_21 : decode cX3_shrinkTo 21 = .ok (.invokevirtual 30, 3) := by decide +kernel
theorem dX3_shrinkTo_24 : decode cX3_shrinkTo 24 = .ok (.iinc 2 1, 3) := by decide +kernel
theorem dX3_shrinkTo_27 : decode cX3_shrinkTo 27 = .ok (.goto (-25), 3) := by decide +kernel
theorem dX3_shrinkTo_30 : decode cX3_shrinkTo 30 = .ok (.return_, 1) := by decide +kernel
theorem dX3_giveUpFree_0 : decode cX3_giveUpFree 0 = .ok (.aload_n 0, 1) := by decide +kernel
theorem dX3_giveUpFree_1 : decode cX3_giveUpFree 1 = .ok (.getfield 9, 3) := by decide +kernel
theorem dX3_giveUpFree_4 : decode cX3_giveUpFree 4 = .ok (.iconst 1, 1) := by decide +kernel
theorem dX3_giveUpFree_5 : decode cX3_giveUpFree 5 = .ok (.isub, 1) := by decide +kernel
theorem dX3_giveUpFree_6 : decode cX3_giveUpFree 6 = .ok (.istore_n 2, 1) := by decide +kernel
theorem dX3_giveUpFree_7 : decode cX3_giveUpFree 7 = .ok (.iload_n 2, 1) := by decide +kernel
theorem dX3_giveUpFree_8 : decode cX3_giveUpFree 8 = .ok (.ifCond .lt 27, 3) := by decide +kernel
theorem dX3_giveUpFree_11 : decode cX3_giveUpFree 11 = .ok (.aload_n 1, 1) := by decide +kernel
theorem dX3_giveUpFree_12 : decode cX3_giveUpFree 12 = .ok (.aload_n 0, 1) := by decide +kernel
theorem dX3_giveUpFree_13 : decode cX3_giveUpFree 13 = .ok (.getfield 18, 3) := by decide +kernel
theorem dX3_giveUpFree_16 : decode cX3_giveUpFree 16 = .ok (.iload_n 2, 1) := by decide +kernel
theorem dX3_giveUpFree_17 : decode cX3_giveUpFree 17 = .ok (.iaload, 1) := by decide +kernel
theorem dX3_giveUpFree_18 : decode cX3_giveUpFree 18 = .ok (.invokestatic 39, 3) := by decide +kernel
theorem dX3_giveUpFree_21 : decode cX3_giveUpFree 21 = .ok (.ifCond .ne 8, 3) := by decide +kernel
theorem dX3_giveUpFree_24 : decode cX3_giveUpFree 24 = .ok (.aload_n 0, 1) := by decide +kernel
theorem dX3_giveUpFree_25 : decode cX3_giveUpFree 25 = .ok (.iload_n 2, 1) := by decide +kernel
theorem dX3_giveUpFree_26 : decode cX3_giveUpFree 26 = .ok (.invokevirtual 30, 3) := by decide +kernel
theorem dX3_giveUpFree_29 : decode cX3_giveUpFree 29 = .ok (.iinc 2 (-1), 3) := by decide +kernel
theorem dX3_giveUpFree_32 : decode cX3_giveUpFree 32 = .ok (.goto (-25), 3) := by decide +kernel
theorem dX3_giveUpFree_35 : decode cX3_giveUpFree 35 = .ok (.return_, 1) := by decide +kernel
theorem dX3_giveUpAll_0 : decode cX3_giveUpAll 0 = .ok (.aload_n 0, 1) := by decide +kernel
theorem dX3_giveUpAll_1 : decode cX3_giveUpAll 1 = .ok (.iconst 0, 1) := by decide +kernel
theorem dX3_giveUpAll_2 : decode cX3_giveUpAll 2 = .ok (.putfield 9, 3) := by decide +kernel
theorem dX3_giveUpAll_5 : decode cX3_giveUpAll 5 = .ok (.return_, 1) := by decide +kernel
theorem dX4_inUse_0 : decode cX4_inUse 0 = .ok (.aload_n 0, 1) := by decide +kernel
theorem dX4_inUse_1 : decode cX4_inUse 1 = .ok (.sipush 640, 3) := by decide +kernel
theorem dX4_inUse_4 : decode cX4_inUse 4 = .ok (.iaload, 1) := by decide +kernel
theorem dX4_inUse_5 : decode cX4_inUse 5 = .ok (.istore_n 1, 1) := by decide +kernel
theorem dX4_inUse_6 : decode cX4_inUse 6 = .ok (.iload_n 1, 1) := by decide +kernel
theorem dX4_inUse_7 : decode cX4_inUse 7 = .ok (.ifCond .lt 13, 3) := by decide +kernel
theorem dX4_inUse_10 : decode cX4_inUse 10 = .ok (.iload_n 1, 1) := by decide +kernel
theorem dX4_inUse_11 : decode cX4_inUse 11 = .ok (.bipush 10, 2) := by decide +kernel
theorem dX4_inUse_13 : decode cX4_inUse 13 = .ok (.if_icmp .gt 7, 3) := by decide +kernel
theorem dX4_inUse_16 : decode cX4_inUse 16 = .ok (.iload_n 1, 1) := by decide +kernel
theorem dX4_inUse_17 : decode cX4_inUse 17 = .ok (.goto 4, 3) := by decide +kernel
theorem dX4_inUse_20 : decode cX4_inUse 20 = .ok (.iconst 0, 1) := by decide +kernel
theorem dX4_inUse_21 : decode cX4_inUse 21 = .ok (.ireturn, 1) := by decide +kernel
theorem dX4_pageAt_0 : decode cX4_pageAt 0 = .ok (.iload_n 1, 1) := by decide +kernel
theorem dX4_pageAt_1 : decode cX4_pageAt 1 = .ok (.ifCond .lt 21, 3) := by decide +kernel
theorem dX4_pageAt_4 : decode cX4_pageAt 4 = .ok (.iload_n 1, 1) := by decide +kernel
theorem dX4_pageAt_5 : decode cX4_pageAt 5 = .ok (.bipush 10, 2) := by decide +kernel
theorem dX4_pageAt_7 : decode cX4_pageAt 7 = .ok (.if_icmp .ge 15, 3) := by decide +kernel
theorem dX4_pageAt_10 : decode cX4_pageAt 10 = .ok (.aload_n 0, 1) := by decide +kernel
theorem dX4_pageAt_11 : decode cX4_pageAt 11 = .ok (.sipush 641, 3) := by decide +kernel
theorem dX4_pageAt_14 : decode cX4_pageAt 14 = .ok (.iconst 2, 1) := by decide +kernel
theorem dX4_pageAt_15 : decode cX4_pageAt 15 = .ok (.iload_n 1, 1) := by decide +kernel
theorem dX4_pageAt_16 : decode cX4_pageAt 16 = .ok (.imul, 1) := by decide +kernel
theorem dX4_pageAt_17 : decode cX4_pageAt 17 = .ok (.iadd, 1) := by decide +kernel
theorem dX4_pageAt_18 : decode cX4_pageAt 18 = .ok (.iaload, 1) := by decide +kernel
theorem dX4_pageAt_19 : decode cX4_pageAt 19 = .ok (.goto 4, 3) := by decide +kernel
theorem dX4_pageAt_22 : decode cX4_pageAt 22 = .ok (.iconst 0, 1) := by decide +kernel
theorem dX4_pageAt_23 : decode cX4_pageAt 23 = .ok (.istore_n 2, 1) := by decide +kernel
theorem dX4_pageAt_24 : decode cX4_pageAt 24 = .ok (.iload_n 2, 1) := by decide +kernel
theorem dX4_pageAt_25 : decode cX4_pageAt 25 = .ok (.ifCond .lt 13, 3) := by decide +kernel
theorem dX4_pageAt_28 : decode cX4_pageAt 28 = .ok (.iload_n 2, 1) := by decide +kernel
theorem dX4_pageAt_29 : decode cX4_pageAt 29 = .ok (.bipush 10, 2) := by decide +kernel
theorem dX4_pageAt_31 : decode cX4_pageAt 31 = .ok (.if_icmp .ge 7, 3) := by decide +kernel
theorem dX4_pageAt_34 : decode cX4_pageAt 34 = .ok (.iload_n 2, 1) := by decide +kernel
theorem dX4_pageAt_35 : decode cX4_pageAt 35 = .ok (.goto 4, 3) := by decide +kernel
theorem dX4_pageAt_38 : decode cX4_pageAt 38 = .ok (.iconst 0, 1) := by decide +kernel
theorem dX4_pageAt_39 : decode cX4_pageAt 39 = .ok (.ireturn, 1) := by decide +kernel
theorem dX4_fenceAt_0 : decode cX4_fenceAt 0 = .ok (.iload_n 1, 1) := by decide +kernel
theorem dX4_fenceAt_1 : decode cX4_fenceAt 1 = .ok (.ifCond .lt 21, 3) := by decide +kernel
theorem dX4_fenceAt_4 : decode cX4_fenceAt 4 = .ok (.iload_n 1, 1) := by decide +kernel
theorem dX4_fenceAt_5 : decode cX4_fenceAt 5 = .ok (.bipush 10, 2) := by decide +kernel
theorem dX4_fenceAt_7 : decode cX4_fenceAt 7 = .ok (.if_icmp .ge 15, 3) := by decide +kernel
theorem dX4_fenceAt_10 : decode cX4_fenceAt 10 = .ok (.aload_n 0, 1) := by decide +kernel
theorem dX4_fenceAt_11 : decode cX4_fenceAt 11 = .ok (.sipush 642, 3) := by decide +kernel
theorem dX4_fenceAt_14 : decode cX4_fenceAt 14 = .ok (.iconst 2, 1) := by decide +kernel
theorem dX4_fenceAt_15 : decode cX4_fenceAt 15 = .ok (.iload_n 1, 1) := by decide +kernel
theorem dX4_fenceAt_16 : decode cX4_fenceAt 16 = .ok (.imul, 1) := by decide +kernel
theorem dX4_fenceAt_17 : decode cX4_fenceAt 17 = .ok (.iadd, 1) := by decide +kernel
theorem dX4_fenceAt_18 : decode cX4_fenceAt 18 = .ok (.iaload, 1) := by decide +kernel
theorem dX4_fenceAt_19 : decode cX4_fenceAt 19 = .ok (.goto 4, 3) := by decide +kernel
theorem dX4_fenceAt_22 : decode cX4_fenceAt 22 = .ok (.iconst 0, 1) := by decide +kernel
theorem dX4_fenceAt_23 : decode cX4_fenceAt 23 = .ok (.ireturn, 1) := by decide +kernel
theorem dX4_orderFor_0 : decode cX4_orderFor 0 = .ok (.iconst 0, 1) := by decide +kernel
theorem dX4_orderFor_1 : decode cX4_orderFor 1 = .ok (.istore_n 2, 1) := by decide +kernel
theorem dX4_orderFor_2 : decode cX4_orderFor 2 = .ok (.aload_n 0, 1) := by decide +kernel
theorem dX4_orderFor_3 : decode cX4_orderFor 3 = .ok (.invokestatic 9, 3) := by decide +kernel
theorem dX4_orderFor_6 : decode cX4_orderFor 6 = .ok (.istore_n 3, 1) := by decide +kernel
theorem dX4_orderFor_7 : decode cX4_orderFor 7 = .ok (.iconst 1, 1) := by decide +kernel
theorem dX4_orderFor_8 : decode cX4_orderFor 8 = .ok (.istore 4, 2) := by decide +kernel
theorem dX4_orderFor_10 : decode cX4_orderFor 10 = .ok (.iload 4, 2) := by decide +kernel
theorem dX4_orderFor_12 : decode cX4_orderFor 12 = .ok (.iload_n 3, 1) := by decide +kernel
theorem dX4_orderFor_13 : decode cX4_orderFor 13 = .ok (.if_icmp .ge 22, 3) := by decide +kernel
theorem dX4_orderFor_16 : decode cX4_orderFor 16 = .ok (.aload_n 0, 1) := by decide +kernel
theorem dX4_orderFor_17 : decode cX4_orderFor 17 = .ok (.iload 4, 2) := by decide +kernel
theorem dX4_orderFor_19 : decode cX4_orderFor 19 = .ok (.invokestatic 15, 3) := by decide +kernel
theorem dX4_orderFor_22 : decode cX4_orderFor 22 = .ok (.iload_n 1, 1) := by decide +kernel
theorem dX4_orderFor_23 : decode cX4_orderFor 23 = .ok (.if_icmp .gt 6, 3) := by decide +kernel
theorem dX4_orderFor_26 : decode cX4_orderFor 26 = .ok (.iload 4, 2) := by decide +kernel
theorem dX4_orderFor_28 : decode cX4_orderFor 28 = .ok (.istore_n 2, 1) := by decide +kernel
theorem dX4_orderFor_29 : decode cX4_orderFor 29 = .ok (.iinc 4 1, 3) := by decide +kernel
theorem dX4_orderFor_32 : decode cX4_orderFor 32 = .ok (.goto (-22), 3) := by decide +kernel
theorem dX4_orderFor_35 : decode cX4_orderFor 35 = .ok (.iload_n 2, 1) := by decide +kernel
theorem dX4_orderFor_36 : decode cX4_orderFor 36 = .ok (.ireturn, 1) := by decide +kernel
theorem dX4_isUsed_0 : decode cX4_isUsed 0 = .ok (.aload_n 0, 1) := by decide +kernel
theorem dX4_isUsed_1 : decode cX4_isUsed 1 = .ok (.invokestatic 9, 3) := by decide +kernel
theorem dX4_isUsed_4 : decode cX4_isUsed 4 = .ok (.istore_n 2, 1) := by decide +kernel
theorem dX4_isUsed_5 : decode cX4_isUsed 5 = .ok (.iconst 0, 1) := by decide +kernel
theorem dX4_isUsed_6 : decode cX4_isUsed 6 = .ok (.istore_n 3, 1) := by decide +kernel
theorem dX4_isUsed_7 : decode cX4_isUsed 7 = .ok (.iload_n 3, 1) := by decide +kernel
theorem dX4_isUsed_8 : decode cX4_isUsed 8 = .ok (.iload_n 2, 1) := by decide +kernel
theorem dX4_isUsed_9 : decode cX4_isUsed 9 = .ok (.if_icmp .ge 20, 3) := by decide +kernel
theorem dX4_isUsed_12 : decode cX4_isUsed 12 = .ok (.aload_n 0, 1) := by decide +kernel
theorem dX4_isUsed_13 : decode cX4_isUsed 13 = .ok (.iload_n 3, 1) := by decide +kernel
theorem dX4_isUsed_14 : decode cX4_isUsed 14 = .ok (.invokestatic 19, 3) := by decide +kernel
theorem dX4_isUsed_17 : decode cX4_isUsed 17 = .ok (.iload_n 1, 1) := by decide +kernel
theorem dX4_isUsed_18 : decode cX4_isUsed 18 = .ok (.if_icmp .ne 5, 3) := by decide +kernel
theorem dX4_isUsed_21 : decode cX4_isUsed 21 = .ok (.iconst 1, 1) := by decide +kernel
theorem dX4_isUsed_22 : decode cX4_isUsed 22 = .ok (.ireturn, 1) := by decide +kernel
theorem dX4_isUsed_23 : decode cX4_isUsed 23 = .ok (.iinc 3 1, 3) := by decide +kernel
theorem dX4_isUsed_26 : decode cX4_isUsed 26 = .ok (.goto (-19), 3) := by decide +kernel
theorem dX4_isUsed_29 : decode cX4_isUsed 29 = .ok (.iconst 0, 1) := by decide +kernel
theorem dX4_isUsed_30 : decode cX4_isUsed 30 = .ok (.ireturn, 1) := by decide +kernel
theorem dX4_lowestFree_0 : decode cX4_lowestFree 0 = .ok (.iconst 0, 1) := by decide +kernel
theorem dX4_lowestFree_1 : decode cX4_lowestFree 1 = .ok (.istore_n 1, 1) := by decide +kernel
theorem dX4_lowestFree_2 : decode cX4_lowestFree 2 = .ok (.iload_n 1, 1) := by decide +kernel
theorem dX4_lowestFree_3 : decode cX4_lowestFree 3 = .ok (.bipush 10, 2) := by decide +kernel
theorem dX4_lowestFree_5 : decode cX4_lowestFree 5 = .ok (.if_icmp .ge 19, 3) := by decide +kernel
theorem dX4_lowestFree_8 : decode cX4_lowestFree 8 = .ok (.aload_n 0, 1) := by decide +kernel
theorem dX4_lowestFree_9 : decode cX4_lowestFree 9 = .ok (.iload_n 1, 1) := by decide +kernel
theorem dX4_lowestFree_10 : decode cX4_lowestFree 10 = .ok (.invokestatic 22, 3) := by decide +kernel
theorem dX4_lowestFree_13 : decode cX4_lowestFree 13 = .ok (.ifCond .ne 5, 3) := by decide +kernel
theorem dX4_lowestFree_16 : decode cX4_lowestFree 16 = .ok (.iload_n 1, 1) := by decide +kernel
theorem dX4_lowestFree_17 : decode cX4_lowestFree 17 = .ok (.ireturn, 1) := by decide +kernel
theorem dX4_lowestFree_18 : decode cX4_lowestFree 18 = .ok (.iinc 1 1, 3) := by decide +kernel
theorem dX4_lowestFree_21 : decode cX4_lowestFree 21 = .ok (.goto (-19), 3) := by decide +kernel
theorem dX4_lowestFree_24 : decode cX4_lowestFree 24 = .ok (.iconst (-1), 1) := by decide +kernel
theorem dX4_lowestFree_25 : decode cX4_lowestFree 25 = .ok (.ireturn, 1) := by decide +kernel
theorem dX4_packedSize_0 : decode cX4_packedSize 0 = .ok (.iconst 0, 1) := by decide +kernel
theorem dX4_packedSize_1 : decode cX4_packedSize 1 = .ok (.bipush 62, 2) := by decide +kernel
theorem dX4_packedSize_3 : decode cX4_packedSize 3 = .ok (.aload_n 0, 1) := by decide +kernel
theorem dX4_packedSize_4 : decode cX4_packedSize 4 = .ok (.iload_n 1, 1) := by decide +kernel
theorem dX4_packedSize_5 : decode cX4_packedSize 5 = .ok (.bipush 64, 2) := by decide +kernel
theorem dX4_packedSize_7 : decode cX4_packedSize 7 = .ok (.imul, 1) := by decide +kernel
theorem dX4_packedSize_8 : decode cX4_packedSize 8 = .ok (.iconst 1, 1) := by decide +kernel
theorem dX4_packedSize_9 : decode cX4_packedSize 9 = .ok (.iadd, 1) := by decide +kernel
theorem dX4_packedSize_10 : decode cX4_packedSize 10 = .ok (.iaload, 1) := by decide +kernel
theorem dX4_packedSize_11 : decode cX4_packedSize 11 = .ok (.invokestatic 26, 3) := by decide +kernel
theorem dX4_packedSize_14 : decode cX4_packedSize 14 = .ok (.invokestatic 32, 3) := by decide +kernel
theorem dX4_packedSize_17 : decode cX4_packedSize 17 = .ok (.ireturn, 1) := by decide +kernel
theorem dX4_logStart_0 : decode cX4_logStart 0 = .ok (.iload_n 1, 1) := by decide +kernel
theorem dX4_logStart_1 : decode cX4_logStart 1 = .ok (.bipush 64, 2) := by decide +kernel
theorem dX4_logStart_3 : decode cX4_logStart 3 = .ok (.imul, 1) := by decide +kernel
theorem dX4_logStart_4 : decode cX4_logStart 4 = .ok (.iconst 2, 1) := by decide +kernel
theorem dX4_logStart_5 : decode cX4_logStart 5 = .ok (.iadd, 1) := by decide +kernel
theorem dX4_logStart_6 : decode cX4_logStart 6 = .ok (.aload_n 0, 1) := by decide +kernel
theorem dX4_logStart_7 : decode cX4_logStart 7 = .ok (.iload_n 1, 1) := by decide +kernel
theorem dX4_logStart_8 : decode cX4_logStart 8 = .ok (.invokestatic 35, 3) := by decide +kernel
theorem dX4_logStart_11 : decode cX4_logStart 11 = .ok (.iadd, 1) := by decide +kernel
theorem dX4_logStart_12 : decode cX4_logStart 12 = .ok (.ireturn, 1) := by decide +kernel
theorem dX4_logEnd_0 : decode cX4_logEnd 0 = .ok (.aload_n 0, 1) := by decide +kernel
theorem dX4_logEnd_1 : decode cX4_logEnd 1 = .ok (.iload_n 1, 1) := by decide +kernel
theorem dX4_logEnd_2 : decode cX4_logEnd 2 = .ok (.bipush 64, 2) := by decide +kernel
theorem dX4_logEnd_4 : decode cX4_logEnd 4 = .ok (.invokestatic 38, 3) := by decide +kernel
theorem dX4_logEnd_7 : decode cX4_logEnd 7 = .ok (.ireturn, 1) := by decide +kernel
theorem dX4_placeBehind_0 : decode cX4_placeBehind 0 = .ok (.aload_n 0, 1) := by decide +kernel
theorem dX4_placeBehind_1 : decode cX4_placeBehind 1 = .ok (.iload_n 1, 1) := by decide +kernel
theorem dX4_placeBehind_2 : decode cX4_placeBehind 2 = .ok (.invokestatic 42, 3) := by decide +kernel
theorem dX4_placeBehind_5 : decode cX4_placeBehind 5 = .ok (.istore_n 3, 1) := by decide +kernel
theorem dX4_placeBehind_6 : decode cX4_placeBehind 6 = .ok (.iload_n 1, 1) := by decide +kernel
theorem dX4_placeBehind_7 : decode cX4_placeBehind 7 = .ok (.iconst 1, 1) := by decide +kernel
theorem dX4_placeBehind_8 : decode cX4_placeBehind 8 = .ok (.iadd, 1) := by decide +kernel
theorem dX4_placeBehind_9 : decode cX4_placeBehind 9 = .ok (.bipush 64, 2) := by decide +kernel
theorem dX4_placeBehind_11 : decode cX4_placeBehind 11 = .ok (.imul, 1) := by decide +kernel
theorem dX4_placeBehind_12 : decode cX4_placeBehind 12 = .ok (.istore 4, 2) := by decide +kernel
theorem dX4_placeBehind_14 : decode cX4_placeBehind 14 = .ok (.iconst 0, 1) := by decide +kernel
theorem dX4_placeBehind_15 : decode cX4_placeBehind 15 = .ok (.istore 5, 2) := by decide +kernel
theorem dX4_placeBehind_17 : decode cX4_placeBehind 17 = .ok (.iload 5, 2) := by decide +kernel
theorem dX4_placeBehind_19 : decode cX4_placeBehind 19 = .ok (.bipush 64, 2) := by decide +kernel
theorem dX4_placeBehind_21 : decode cX4_placeBehind 21 = .ok (.if_icmp .ge 37, 3) := by decide +kernel
theorem dX4_placeBehind_24 : decode cX4_placeBehind 24 = .ok (.iload 5, 2) := by decide +kernel
theorem dX4_placeBehind_26 : decode cX4_placeBehind 26 = .ok (.iload_n 2, 1) := by decide +kernel
theorem dX4_placeBehind_27 : decode cX4_placeBehind 27 = .ok (.if_icmp .ge 31, 3) := by decide +kernel
theorem dX4_placeBehind_30 : decode cX4_placeBehind 30 = .ok (.aload_n 0, 1) := by decide +kernel
theorem dX4_placeBehind_31 : decode cX4_placeBehind 31 = .ok (.iload_n 3, 1) := by decide +kernel
theorem dX4_placeBehind_32 : decode cX4_placeBehind 32 = .ok (.iload 4, 2) := by decide +kernel
theorem dX4_placeBehind_34 : decode cX4_placeBehind 34 = .ok (.invokestatic 45, 3) := by decide +kernel
theorem dX4_placeBehind_37 : decode cX4_placeBehind 37 = .ok (.istore 6, 2) := by decide +kernel
theorem dX4_placeBehind_39 : decode cX4_placeBehind 39 = .ok (.iload 6, 2) := by decide +kernel
theorem dX4_placeBehind_41 : decode cX4_placeBehind 41 = .ok (.ifCond .ne 6, 3) := by decide +kernel
theorem dX4_placeBehind_44 : decode cX4_placeBehind 44 = .ok (.goto 14, 3) := by decide +kernel
theorem dX4_placeBehind_47 : decode cX4_placeBehind 47 = .ok (.iload_n 3, 1) := by decide +kernel
theorem dX4_placeBehind_48 : decode cX4_placeBehind 48 = .ok (.iload 6, 2) := by decide +kernel
theorem dX4_placeBehind_50 : decode cX4_placeBehind 50 = .ok (.iadd, 1) := by decide +kernel
theorem dX4_placeBehind_51 : decode cX4_placeBehind 51 = .ok (.istore_n 3, 1) := by decide +kernel
theorem dX4_placeBehind_52 : decode cX4_placeBehind 52 = .ok (.iinc 5 1, 3) := by decide +kernel
theorem dX4_placeBehind_55 : decode cX4_placeBehind 55 = .ok (.goto (-38), 3) := by decide +kernel
theorem dX4_placeBehind_58 : decode cX4_placeBehind 58 = .ok (.iload_n 3, 1) := by decide +kernel
theorem dX4_placeBehind_59 : decode cX4_placeBehind 59 = .ok (.ireturn, 1) := by decide +kernel
theorem dX4_entryCount_0 : decode cX4_entryCount 0 = .ok (.aload_n 0, 1) := by decide +kernel
theorem dX4_entryCount_1 : decode cX4_entryCount 1 = .ok (.iload_n 1, 1) := by decide +kernel
theorem dX4_entryCount_2 : decode cX4_entryCount 2 = .ok (.invokestatic 42, 3) := by decide +kernel
theorem dX4_entryCount_5 : decode cX4_entryCount 5 = .ok (.istore_n 2, 1) := by decide +kernel
theorem dX4_entryCount_6 : decode cX4_entryCount 6 = .ok (.iload_n 1, 1) := by decide +kernel
theorem dX4_entryCount_7 : decode cX4_entryCount 7 = .ok (.iconst 1, 1) := by decide +kernel
theorem dX4_entryCount_8 : decode cX4_entryCount 8 = .ok (.iadd, 1) := by decide +kernel
theorem dX4_entryCount_9 : decode cX4_entryCount 9 = .ok (.bipush 64, 2) := by decide +kernel
theorem dX4_entryCount_11 : decode cX4_entryCount 11 = .ok (.imul, 1) := by decide +kernel
theorem dX4_entryCount_12 : decode cX4_entryCount 12 = .ok (.istore_n 3, 1) := by decide +kernel
theorem dX4_entryCount_13 : decode cX4_entryCount 13 = .ok (.iconst 0, 1) := by decide +kernel
theorem dX4_entryCount_14 : decode cX4_entryCount 14 = .ok (.istore 4, 2) := by decide +kernel
theorem dX4_entryCount_16 : decode cX4_entryCount 16 = .ok (.iload 4, 2) := by decide +kernel
theorem dX4_entryCount_18 : decode cX4_entryCount 18 = .ok (.bipush 64, 2) := by decide +kernel
theorem dX4_entryCount_20 : decode cX4_entryCount 20 = .ok (.if_icmp .ge 27, 3) := by decide +kernel
theorem dX4_entryCount_23 : decode cX4_entryCount 23 = .ok (.aload_n 0, 1) := by decide +kernel
theorem dX4_entryCount_24 : decode cX4_entryCount 24 = .ok (.iload_n 2, 1) := by decide +kernel
theorem dX4_entryCount_25 : decode cX4_entryCount 25 = .ok (.iload_n 3, 1) := by decide +kernel
theorem dX4_entryCount_26 : decode cX4_entryCount 26 = .ok (.invokestatic 45, 3) := by decide +kernel
theorem dX4_entryCount_29 : decode cX4_entryCount 29 = .ok (.ifCond .le 18, 3) := by decide +kernel
theorem dX4_entryCount_32 : decode cX4_entryCount 32 = .ok (.iload_n 2, 1) := by decide +kernel
theorem dX4_entryCount_33 : decode cX4_entryCount 33 = .ok (.aload_n 0, 1) := by decide +kernel
theorem dX4_entryCount_34 : decode cX4_entryCount 34 = .ok (.iload_n 2, 1) := by decide +kernel
theorem dX4_entryCount_35 : decode cX4_entryCount 35 = .ok (.iaload, 1) := by decide +kernel
theorem dX4_entryCount_36 : decode cX4_entryCount 36 = .ok (.invokestatic 50, 3) := by decide +kernel
theorem dX4_entryCount_39 : decode cX4_entryCount 39 = .ok (.iadd, 1) := by decide +kernel
theorem dX4_entryCount_40 : decode cX4_entryCount 40 = .ok (.istore_n 2, 1) := by decide +kernel
theorem dX4_entryCount_41 : decode cX4_entryCount 41 = .ok (.iinc 4 1, 3) := by decide +kernel
theorem dX4_entryCount_44 : decode cX4_entryCount 44 = .ok (.goto (-28), 3) := by decide +kernel
theorem dX4_entryCount_47 : decode cX4_entryCount 47 = .ok (.iload 4, 2) := by decide +kernel
theorem dX4_entryCount_49 : decode cX4_entryCount 49 = .ok (.ireturn, 1) := by decide +kernel
theorem dX5_init_0 : decode cX5_init 0 = .ok (.aload_n 0, 1) := by decide +kernel
theorem dX5_init_1 : decode cX5_init 1 = .ok (.invokespecial 3, 3) := by decide +kernel
theorem dX5_init_4 : decode cX5_init 4 = .ok (.aload_n 0, 1) := by decide +kernel
theorem dX5_init_5 : decode cX5_init 5 = .ok (.iconst 0, 1) := by decide +kernel
theorem dX5_init_6 : decode cX5_init 6 = .ok (.putfield 9, 3) := by decide +kernel
theorem dX5_init_9 : decode cX5_init 9 = .ok (.aload_n 0, 1) := by decide +kernel
theorem dX5_init_10 : decode cX5_init 10 = .ok (.iconst 0, 1) := by decide +kernel
theorem dX5_init_11 : decode cX5_init 11 = .ok (.putfield 15, 3) := by decide +kernel
theorem dX5_init_14 : decode cX5_init 14 = .ok (.aload_n 0, 1) := by decide +kernel
theorem dX5_init_15 : decode cX5_init 15 = .ok (.sipush 1334, 3) := by decide +kernel
theorem dX5_init_18 : decode cX5_init 18 = .ok (.newarray .int, 2) := by decide +kernel
theorem dX5_init_20 : decode cX5_init 20 = .ok (.putfield 19, 3) := by decide +kernel
theorem dX5_init_23 : decode cX5_init 23 = .ok (.aload_n 0, 1) := by decide +kernel
theorem dX5_init_24 : decode cX5_init 24 = .ok (.iconst 4, 1) := by decide +kernel
theorem dX5_init_25 : decode cX5_init 25 = .ok (.newarray .int, 2) := by decide +kernel
theorem dX5_init_27 : decode cX5_init 27 = .ok (.putfield 23, 3) := by decide +kernel
theorem dX5_init_30 : decode cX5_init 30 = .ok (.return_, 1) := by decide +kernel
theorem dX6_init_0 : decode cX6_init 0 = .ok (.aload_n 0, 1) := by decide +kernel
theorem dX6_init_1 : decode cX6_init 1 = .ok (.invokespecial 3, 3) := by decide +kernel
theorem dX6_init_4 : decode cX6_init 4 = .ok (.aload_n 0, 1) := by decide +kernel
theorem dX6_init_5 : decode cX6_init 5 = .ok (.sipush 408, 3) := by decide +kernel
theorem dX6_init_8 : decode cX6_init 8 = .ok (.newarray .int, 2) := by decide +kernel
theorem dX6_init_10 : decode cX6_init 10 = .ok (.putfield 9, 3) := by decide +kernel
theorem dX6_init_13 : decode cX6_init 13 = .ok (.aload_n 0, 1) := by decide +kernel
theorem dX6_init_14 : decode cX6_init 14 = .ok (.sipush 400, 3) := by decide +kernel
theorem dX6_init_17 : decode cX6_init 17 = .ok (.newarray .int, 2) := by decide +kernel
theorem dX6_init_19 : decode cX6_init 19 = .ok (.putfield 15, 3) := by decide +kernel
theorem dX6_init_22 : decode cX6_init 22 = .ok (.aload_n 0, 1) := by decide +kernel
theorem dX6_init_23 : decode cX6_init 23 = .ok (.iconst (-1), 1) := by decide +kernel
theorem dX6_init_24 : decode cX6_init 24 = .ok (.putfield 18, 3) := by decide +kernel
theorem dX6_init_27 : decode cX6_init 27 = .ok (.aload_n 0, 1) := by decide +kernel
theorem dX6_init_28 : decode cX6_init 28 = .ok (.iconst 0, 1) := by decide +kernel
theorem dX6_init_29 : decode cX6_init 29 = .ok (.putfield 22, 3) := by decide +kernel
theorem dX6_init_32 : decode cX6_init 32 = .ok (.aload_n 0, 1) := by decide +kernel
theorem dX6_init_33 : decode cX6_init 33 = .ok (.sipush 400, 3) := by decide +kernel
theorem dX6_init_36 : decode cX6_init 36 = .ok (.newarray .int, 2) := by decide +kernel
theorem dX6_init_38 : decode cX6_init 38 = .ok (.putfield 25, 3) := by decide +kernel
theorem dX6_init_41 : decode cX6_init 41 = .ok (.aload_n 0, 1) := by decide +kernel
theorem dX6_init_42 : decode cX6_init 42 = .ok (.sipush 400, 3) := by decide +kernel
theorem dX6_init_45 : decode cX6_init 45 = .ok (.newarray .int, 2) := by decide +kernel
theorem dX6_init_47 : decode cX6_init 47 = .ok (.putfield 28, 3) := by decide +kernel
theorem dX6_init_50 : decode cX6_init 50 = .ok (.aload_n 0, 1) := by decide +kernel
theorem dX6_init_51 : decode cX6_init 51 = .ok (.sipush 256, 3) := by decide +kernel
theorem dX6_init_54 : decode cX6_init 54 = .ok (.newarray .int, 2) := by decide +kernel
theorem dX6_init_56 : decode cX6_init 56 = .ok (.putfield 31, 3) := by decide +kernel
theorem dX6_init_59 : decode cX6_init 59 = .ok (.aload_n 0, 1) := by decide +kernel
theorem dX6_init_60 : decode cX6_init 60 = .ok (.iconst 0, 1) := by decide +kernel
theorem dX6_init_61 : decode cX6_init 61 = .ok (.putfield 34, 3) := by decide +kernel
theorem dX6_init_64 : decode cX6_init 64 = .ok (.return_, 1) := by decide +kernel
theorem dX6_packBest_0 : decode cX6_packBest 0 = .ok (.aload_n 0, 1) := by decide +kernel
theorem dX6_packBest_1 : decode cX6_packBest 1 = .ok (.aload_n 1, 1) := by decide +kernel
theorem dX6_packBest_2 : decode cX6_packBest 2 = .ok (.iload_n 2, 1) := by decide +kernel
theorem dX6_packBest_3 : decode cX6_packBest 3 = .ok (.iconst 0, 1) := by decide +kernel
theorem dX6_packBest_4 : decode cX6_packBest 4 = .ok (.invokevirtual 37, 3) := by decide +kernel
theorem dX6_packBest_7 : decode cX6_packBest 7 = .ok (.istore_n 3, 1) := by decide +kernel
theorem dX6_packBest_8 : decode cX6_packBest 8 = .ok (.aload_n 0, 1) := by decide +kernel
theorem dX6_packBest_9 : decode cX6_packBest 9 = .ok (.iconst 0, 1) := by decide +kernel
theorem dX6_packBest_10 : decode cX6_packBest 10 = .ok (.putfield 22, 3) := by decide +kernel
theorem dX6_packBest_13 : decode cX6_packBest 13 = .ok (.iconst 1, 1) := by decide +kernel
theorem dX6_packBest_14 : decode cX6_packBest 14 = .ok (.istore 4, 2) := by decide +kernel
theorem dX6_packBest_16 : decode cX6_packBest 16 = .ok (.iload 4, 2) := by decide +kernel
theorem dX6_packBest_18 : decode cX6_packBest 18 = .ok (.iconst 4, 1) := by decide +kernel
theorem dX6_packBest_19 : decode cX6_packBest 19 = .ok (.if_icmp .ge 34, 3) := by decide +kernel
theorem dX6_packBest_22 : decode cX6_packBest 22 = .ok (.aload_n 0, 1) := by decide +kernel
theorem dX6_packBest_23 : decode cX6_packBest 23 = .ok (.aload_n 1, 1) := by decide +kernel
theorem dX6_packBest_24 : decode cX6_packBest 24 = .ok (.iload_n 2, 1) := by decide +kernel
theorem dX6_packBest_25 : decode cX6_packBest 25 = .ok (.iload 4, 2) := by decide +kernel
theorem dX6_packBest_27 : decode cX6_packBest 27 = .ok (.invokevirtual 37, 3) := by decide +kernel
theorem dX6_packBest_30 : decode cX6_packBest 30 = .ok (.istore 5, 2) := by decide +kernel
theorem dX6_packBest_32 : decode cX6_packBest 32 = .ok (.iload 5, 2) := by decide +kernel
theorem dX6_packBest_34 : decode cX6_packBest 34 = .ok (.iload_n 3, 1) := by decide +kernel
theorem dX6_packBest_35 : decode cX6_packBest 35 = .ok (.if_icmp .ge 12, 3) := by decide +kernel
theorem dX6_packBest_38 : decode cX6_packBest 38 = .ok (.iload 5, 2) := by decide +kernel
theorem dX6_packBest_40 : decode cX6_packBest 40 = .ok (.istore_n 3, 1) := by decide +kernel
theorem dX6_packBest_41 : decode cX6_packBest 41 = .ok (.aload_n 0, 1) := by decide +kernel
theorem dX6_packBest_42 : decode cX6_packBest 42 = .ok (.iload 4, 2) := by decide +kernel
theorem dX6_packBest_44 : decode cX6_packBest 44 = .ok (.putfield 22, 3) := by decide +kernel
theorem dX6_packBest_47 : decode cX6_packBest 47 = .ok (.iinc 4 1, 3) := by decide +kernel
theorem dX6_packBest_50 : decode cX6_packBest 50 = .ok (.goto (-34), 3) := by decide +kernel
theorem dX6_packBest_53 : decode cX6_packBest 53 = .ok (.aload_n 0, 1) := by decide +kernel
theorem dX6_packBest_54 : decode cX6_packBest 54 = .ok (.aload_n 1, 1) := by decide +kernel
theorem dX6_packBest_55 : decode cX6_packBest 55 = .ok (.iload_n 2, 1) := by decide +kernel
theorem dX6_packBest_56 : decode cX6_packBest 56 = .ok (.aload_n 0, 1) := by decide +kernel
theorem dX6_packBest_57 : decode cX6_packBest 57 = .ok (.getfield 22, 3) := by decide +kernel
theorem dX6_packBest_60 : decode cX6_packBest 60 = .ok (.invokevirtual 37, 3) := by decide +kernel
theorem dX6_packBest_63 : decode cX6_packBest 63 = .ok (.ireturn, 1) := by decide +kernel
theorem dX6_packRow_0 : decode cX6_packRow 0 = .ok (.iload_n 2, 1) := by decide +kernel
theorem dX6_packRow_1 : decode cX6_packRow 1 = .ok (.aload_n 1, 1) := by decide +kernel
theorem dX6_packRow_2 : decode cX6_packRow 2 = .ok (.arraylength, 1) := by decide +kernel
theorem dX6_packRow_3 : decode cX6_packRow 3 = .ok (.sipush 400, 3) := by decide +kernel
theorem dX6_packRow_6 : decode cX6_packRow 6 = .ok (.invokestatic 41, 3) := by decide +kernel
theorem dX6_packRow_9 : decode cX6_packRow 9 = .ok (.invokestatic 41, 3) := by decide +kernel
theorem dX6_packRow_12 : decode cX6_packRow 12 = .ok (.istore 4, 2) := by decide +kernel
theorem dX6_packRow_14 : decode cX6_packRow 14 = .ok (.aload_n 0, 1) := by decide +kernel
theorem dX6_packRow_15 : decode cX6_packRow 15 = .ok (.aload_n 1, 1) := by decide +kernel
theorem dX6_packRow_16 : decode cX6_packRow 16 = .ok (.iload 4, 2) := by decide +kernel
theorem dX6_packRow_18 : decode cX6_packRow 18 = .ok (.iload_n 3, 1) := by decide +kernel
theorem dX6_packRow_19 : decode cX6_packRow 19 = .ok (.invokevirtual 47, 3) := by decide +kernel
theorem dX6_packRow_22 : decode cX6_packRow 22 = .ok (.aload_n 0, 1) := by decide +kernel
theorem dX6_packRow_23 : decode cX6_packRow 23 = .ok (.getfield 31, 3) := by decide +kernel
theorem dX6_packRow_26 : decode cX6_packRow 26 = .ok (.iconst (-1), 1) := by decide +kernel
theorem dX6_packRow_27 : decode cX6_packRow 27 = .ok (.invokestatic 51, 3) := by decide +kernel
theorem dX6_packRow_30 : decode cX6_packRow 30 = .ok (.aload_n 0, 1) := by decide +kernel
theorem dX6_packRow_31 : decode cX6_packRow 31 = .ok (.iload 4, 2) := by decide +kernel
theorem dX6_packRow_33 : decode cX6_packRow 33 = .ok (.invokevirtual 57, 3) := by decide +kernel
theorem dX6_packRow_36 : decode cX6_packRow 36 = .ok (.iconst 0, 1) := by decide +kernel
theorem dX6_packRow_37 : decode cX6_packRow 37 = .ok (.istore 5, 2) := by decide +kernel
theorem dX6_packRow_39 : decode cX6_packRow 39 = .ok (.iconst 0, 1) := by decide +kernel
theorem dX6_packRow_40 : decode cX6_packRow 40 = .ok (.istore 6, 2) := by decide +kernel
theorem dX6_packRow_42 : decode cX6_packRow 42 = .ok (.iconst 0, 1) := by decide +kernel
theorem dX6_packRow_43 : decode cX6_packRow 43 = .ok (.istore 7, 2) := by decide +kernel
theorem dX6_packRow_45 : decode cX6_packRow 45 = .ok (.iconst 0, 1) := by decide +kernel
theorem dX6_packRow_46 : decode cX6_packRow 46 = .ok (.istore 8, 2) := by decide +kernel
theorem dX6_packRow_48 : decode cX6_packRow 48 = .ok (.iload 8, 2) := by decide +kernel
theorem dX6_packRow_50 : decode cX6_packRow 50 = .ok (.sipush 400, 3) := by decide +kernel
theorem dX6_packRow_53 : decode cX6_packRow 53 = .ok (.if_icmp .ge 100, 3) := by decide +kernel
theorem dX6_packRow_56 : decode cX6_packRow 56 = .ok (.iload 6, 2) := by decide +kernel
theorem dX6_packRow_58 : decode cX6_packRow 58 = .ok (.iload 4, 2) := by decide +kernel
theorem dX6_packRow_60 : decode cX6_packRow 60 = .ok (.if_icmp .ge 93, 3) := by decide +kernel
theorem dX6_packRow_63 : decode cX6_packRow 63 = .ok (.aload_n 0, 1) := by decide +kernel
theorem dX6_packRow_64 : decode cX6_packRow 64 = .ok (.iload 6, 2) := by decide +kernel
theorem dX6_packRow_66 : decode cX6_packRow 66 = .ok (.iload 4, 2) := by decide +kernel
theorem dX6_packRow_68 : decode cX6_packRow 68 = .ok (.invokevirtual 61, 3) := by decide +kernel
theorem dX6_packRow_71 : decode cX6_packRow 71 = .ok (.istore 9, 2) := by decide +kernel
theorem dX6_packRow_73 : decode cX6_packRow 73 = .ok (.iload 9, 2) := by decide +kernel
theorem dX6_packRow_75 : decode cX6_packRow 75 = .ok (.ifCond .ne 9, 3) := by decide +kernel
theorem dX6_packRow_78 : decode cX6_packRow 78 = .ok (.iinc 6 1, 3) := by decide +kernel
theorem dX6_packRow_81 : decode cX6_packRow 81 = .ok (.goto 66, 3) := by decide +kernel
theorem dX6_packRow_84 : decode cX6_packRow 84 = .ok (.aload_n 0, 1) := by decide +kernel
theorem dX6_packRow_85 : decode cX6_packRow 85 = .ok (.iload 7, 2) := by decide +kernel
theorem dX6_packRow_87 : decode cX6_packRow 87 = .ok (.iload 6, 2) := by decide +kernel
theorem dX6_packRow_89 : decode cX6_packRow 89 = .ok (.iload 5, 2) := by decide +kernel
theorem dX6_packRow_91 : decode cX6_packRow 91 = .ok (.invokevirtual 64, 3) := by decide +kernel
theorem dX6_packRow_94 : decode cX6_packRow 94 = .ok (.istore 5, 2) := by decide +kernel
theorem dX6_packRow_96 : decode cX6_packRow 96 = .ok (.iload 5, 2) := by decide +kernel
theorem dX6_packRow_98 : decode cX6_packRow 98 = .ok (.iconst 2, 1) := by decide +kernel
theorem dX6_packRow_99 : decode cX6_packRow 99 = .ok (.iadd, 1) := by decide +kernel
theorem dX6_packRow_100 : decode cX6_packRow 100 = .ok (.aload_n 0, 1) := by decide +kernel
theorem dX6_packRow_101 : decode cX6_packRow 101 = .ok (.getfield 9, 3) := by decide +kernel
theorem dX6_packRow_104 : decode cX6_packRow 104 = .ok (.arraylength, 1) := by decide +kernel
theorem dX6_packRow_105 : decode cX6_packRow 105 = .ok (.if_icmp .gt 31, 3) := by decide +kernel
theorem dX6_packRow_108 : decode cX6_packRow 108 = .ok (.aload_n 0, 1) := by decide +kernel
theorem dX6_packRow_109 : decode cX6_packRow 109 = .ok (.getfield 9, 3) := by decide +kernel
theorem dX6_packRow_112 : decode cX6_packRow 112 = .ok (.iload 5, 2) := by decide +kernel
theorem dX6_packRow_114 : decode cX6_packRow 114 = .ok (.bipush 125, 2) := by decide +kernel
theorem dX6_packRow_116 : decode cX6_packRow 116 = .ok (.iload 9, 2) := by decide +kernel
theorem dX6_packRow_118 : decode cX6_packRow 118 = .ok (.iadd, 1) := by decide +kernel
theorem dX6_packRow_119 : decode cX6_packRow 119 = .ok (.iastore, 1) := by decide +kernel
theorem dX6_packRow_120 : decode cX6_packRow 120 = .ok (.aload_n 0, 1) := by decide +kernel
theorem dX6_packRow_121 : decode cX6_packRow 121 = .ok (.getfield 9, 3) := by decide +kernel
theorem dX6_packRow_124 : decode cX6_packRow 124 = .ok (.iload 5, 2) := by decide +kernel
theorem dX6_packRow_126 : decode cX6_packRow 126 = .ok (.iconst 1, 1) := by decide +kernel
theorem dX6_packRow_127 : decode cX6_packRow 127 = .ok (.iadd, 1) := by decide +kernel
theorem dX6_packRow_128 : decode cX6_packRow 128 = .ok (.aload_n 0, 1) := by decide +kernel
theorem dX6_packRow_129 : decode cX6_packRow 129 = .ok (.getfield 34, 3) := by decide +kernel
theorem dX6_packRow_132 : decode cX6_packRow 132 = .ok (.iastore, 1) := by decide +kernel
theorem dX6_packRow_133 : decode cX6_packRow 133 = .ok (.iinc 5 2, 3) := by decide +kernel
theorem dX6_packRow_136 : decode cX6_packRow 136 = .ok (.iload 6, 2) := by decide +kernel
theorem dX6_packRow_138 : decode cX6_packRow 138 = .ok (.iload 9, 2) := by decide +kernel
theorem dX6_packRow_140 : decode cX6_packRow 140 = .ok (.iadd, 1) := by decide +kernel
theorem dX6_packRow_141 : decode cX6_packRow 141 = .ok (.istore 6, 2) := by decide +kernel
theorem dX6_packRow_143 : decode cX6_packRow 143 = .ok (.iload 6, 2) := by decide +kernel
theorem dX6_packRow_145 : decode cX6_packRow 145 = .ok (.istore 7, 2) := by decide +kernel
theorem dX6_packRow_147 : decode cX6_packRow 147 = .ok (.iinc 8 1, 3) := by decide +kernel
theorem dX6_packRow_150 : decode cX6_packRow 150 = .ok (.goto (-102), 3) := by decide +kernel
theorem dX6_packRow_153 : decode cX6_packRow 153 = .ok (.aload_n 0, 1) := by decide +kernel
theorem dX6_packRow_154 : decode cX6_packRow 154 = .ok (.iload 7, 2) := by decide +kernel
theorem dX6_packRow_156 : decode cX6_packRow 156 = .ok (.iload 4, 2) := by decide +kernel
theorem dX6_packRow_158 : decode cX6_packRow 158 = .ok (.iload 5, 2) := by decide +kernel
theorem dX6_packRow_160 : decode cX6_packRow 160 = .ok (.invokevirtual 64, 3) := by decide +kernel
theorem dX6_packRow_163 : decode cX6_packRow 163 = .ok (.ireturn, 1) := by decide +kernel
theorem dX6_filterRow_0 : decode cX6_filterRow 0 = .ok (.iconst 0, 1) := by decide +kernel
theorem dX6_filterRow_1 : decode cX6_filterRow 1 = .ok (.istore 4, 2) := by decide +kernel
theorem dX6_filterRow_3 : decode cX6_filterRow 3 = .ok (.iload 4, 2) := by decide +kernel
theorem dX6_filterRow_5 : decode cX6_filterRow 5 = .ok (.iload_n 2, 1) := by decide +kernel
theorem dX6_filterRow_6 : decode cX6_filterRow 6 = .ok (.if_icmp .ge 106, 3) := by decide +kernel
theorem dX6_filterRow_9 : decode cX6_filterRow 9 = .ok (.iload 4, 2) := by decide +kernel
theorem dX6_filterRow_11 : decode cX6_filterRow 11 = .ok (.iconst 1, 1) := by decide +kernel
theorem dX6_filterRow_12 : decode cX6_filterRow 12 = .ok (.if_icmp .lt 12, 3) := by decide +kernel
theorem dX6_filterRow_15 : decode cX6_filterRow 15 = .ok (.aload_n 1, 1) := by decide +kernel
theorem dX6_filterRow_16 : decode cX6_filterRow 16 = .ok (.iload 4, 2) := by decide +kernel
theorem dX6_filterRow_18 : decode cX6_filterRow 18 = .ok (.iconst 1, 1) := by decide +kernel
theorem dX6_filterRow_19 : decode cX6_filterRow 19 = .ok (.isub, 1) := by decide +kernel
theorem dX6_filterRow_20 : decode cX6_filterRow 20 = .ok (.iaload, 1) := by decide +kernel
theorem dX6_filterRow_21 : decode cX6_filterRow 21 = .ok (.goto 4, 3) := by decide +kernel
theorem dX6_filterRow_24 : decode cX6_filterRow 24 = .ok (.iconst 0, 1) := by decide +kernel
theorem dX6_filterRow_25 : decode cX6_filterRow 25 = .ok (.istore 5, 2) := by decide +kernel
theorem dX6_filterRow_27 : decode cX6_filterRow 27 = .ok (.iload 4, 2) := by decide +kernel
theorem dX6_filterRow_29 : decode cX6_filterRow 29 = .ok (.iconst 2, 1) := by decide +kernel
theorem dX6_filterRow_30 : decode cX6_filterRow 30 = .ok (.if_icmp .lt 12, 3) := by decide +kernel
theorem dX6_filterRow_33 : decode cX6_filterRow 33 = .ok (.aload_n 1, 1) := by decide +kernel
theorem dX6_filterRow_34 : decode cX6_filterRow 34 = .ok (.iload 4, 2) := by decide +kernel
theorem dX6_filterRow_36 : decode cX6_filterRow 36 = .ok (.iconst 2, 1) := by decide +kernel
theorem dX6_filterRow_37 : decode cX6_filterRow 37 = .ok (.isub, 1) := by decide +kernel
theorem dX6_filterRow_38 : decode cX6_filterRow 38 = .ok (.iaload, 1) := by decide +kernel
theorem dX6_filterRow_39 : decode cX6_filterRow 39 = .ok (.goto 4, 3) := by decide +kernel
theorem dX6_filterRow_42 : decode cX6_filterRow 42 = .ok (.iconst 0, 1) := by decide +kernel
theorem dX6_filterRow_43 : decode cX6_filterRow 43 = .ok (.istore 6, 2) := by decide +kernel
theorem dX6_filterRow_45 : decode cX6_filterRow 45 = .ok (.aload_n 1, 1) := by decide +kernel
theorem dX6_filterRow_46 : decode cX6_filterRow 46 = .ok (.iload 4, 2) := by decide +kernel
theorem dX6_filterRow_48 : decode cX6_filterRow 48 = .ok (.iaload, 1) := by decide +kernel
theorem dX6_filterRow_49 : decode cX6_filterRow 49 = .ok (.istore 7, 2) := by decide +kernel
theorem dX6_filterRow_51 : decode cX6_filterRow 51 = .ok (.iload_n 3, 1) := by decide +kernel
theorem dX6_filterRow_52 : decode cX6_filterRow 52 = .ok (.iconst 1, 1) := by decide +kernel
theorem dX6_filterRow_53 : decode cX6_filterRow 53 = .ok (.if_icmp .ne 13, 3) := by decide +kernel
theorem dX6_filterRow_56 : decode cX6_filterRow 56 = .ok (.iload 7, 2) := by decide +kernel
theorem dX6_filterRow_58 : decode cX6_filterRow 58 = .ok (.iload 5, 2) := by decide +kernel
theorem dX6_filterRow_60 : decode cX6_filterRow 60 = .ok (.isub, 1) := by decide +kernel
theorem dX6_filterRow_61 : decode cX6_filterRow 61 = .ok (.istore 7, 2) := by decide +kernel
theorem dX6_filterRow_63 : decode cX6_filterRow 63 = .ok (.goto 30, 3) := by decide +kernel
theorem dX6_filterRow_66 : decode cX6_filterRow 66 = .ok (.iload_n 3, 1) := by decide +kernel
theorem dX6_filterRow_67 : decode cX6_filterRow 67 = .ok (.iconst 2, 1) := by decide +kernel
theorem dX6_filterRow_68 : decode cX6_filterRow 68 = .ok (.if_icmp .ne 13, 3) := by decide +kernel
theorem dX6_filterRow_71 : decode cX6_filterRow 71 = .ok (.iload 7, 2) := by decide +kernel
theorem dX6_filterRow_73 : decode cX6_filterRow 73 = .ok (.iload 5, 2) := by decide +kernel
theorem dX6_filterRow_75 : decode cX6_filterRow 75 = .ok (.ixor, 1) := by decide +kernel
theorem dX6_filterRow_76 : decode cX6_filterRow 76 = .ok (.istore 7, 2) := by decide +kernel
theorem dX6_filterRow_78 : decode cX6_filterRow 78 = .ok (.goto 15, 3) := by decide +kernel
theorem dX6_filterRow_81 : decode cX6_filterRow 81 = .ok (.iload_n 3, 1) := by decide +kernel
theorem dX6_filterRow_82 : decode cX6_filterRow 82 = .ok (.iconst 3, 1) := by decide +kernel
theorem dX6_filterRow_83 : decode cX6_filterRow 83 = .ok (.if_icmp .ne 10, 3) := by decide +kernel
theorem dX6_filterRow_86 : decode cX6_filterRow 86 = .ok (.iload 7, 2) := by decide +kernel
theorem dX6_filterRow_88 : decode cX6_filterRow 88 = .ok (.iload 6, 2) := by decide +kernel
theorem dX6_filterRow_90 : decode cX6_filterRow 90 = .ok (.isub, 1) := by decide +kernel
theorem dX6_filterRow_91 : decode cX6_filterRow 91 = .ok (.istore 7, 2) := by decide +kernel
theorem dX6_filterRow_93 : decode cX6_filterRow 93 = .ok (.aload_n 0, 1) := by decide +kernel
theorem dX6_filterRow_94 : decode cX6_filterRow 94 = .ok (.getfield 25, 3) := by decide +kernel
theorem dX6_filterRow_97 : decode cX6_filterRow 97 = .ok (.iload 4, 2) := by decide +kernel
theorem dX6_filterRow_99 : decode cX6_filterRow 99 = .ok (.iload 7, 2) := by decide +kernel
theorem dX6_filterRow_101 : decode cX6_filterRow 101 = .ok (.sipush 255, 3) := by decide +kernel
theorem dX6_filterRow_104 : decode cX6_filterRow 104 = .ok (.iand, 1) := by decide +kernel
theorem dX6_filterRow_105 : decode cX6_filterRow 105 = .ok (.iastore, 1) := by decide +kernel
theorem dX6_filterRow_106 : decode cX6_filterRow 106 = .ok (.iinc 4 1, 3) := by decide +kernel
theorem dX6_filterRow_109 : decode cX6_filterRow 109 = .ok (.goto (-106), 3) := by decide +kernel
theorem dX6_filterRow_112 : decode cX6_filterRow 112 = .ok (.return_, 1) := by decide +kernel
theorem dX6_linkSame_0 : decode cX6_linkSame 0 = .ok (.iconst 0, 1) := by decide +kernel
theorem dX6_linkSame_1 : decode cX6_linkSame 1 = .ok (.istore_n 2, 1) := by decide +kernel
theorem dX6_linkSame_2 : decode cX6_linkSame 2 = .ok (.iload_n 2, 1) := by decide +kernel
theorem dX6_linkSame_3 : decode cX6_linkSame 3 = .ok (.iload_n 1, 1) := by decide +kernel
theorem dX6_linkSame_4 : decode cX6_linkSame 4 = .ok (.if_icmp .ge 38, 3) := by decide +kernel
theorem dX6_linkSame_7 : decode cX6_linkSame 7 = .ok (.aload_n 0, 1) := by decide +kernel
theorem dX6_linkSame_8 : decode cX6_linkSame 8 = .ok (.getfield 28, 3) := by decide +kernel
theorem dX6_linkSame_11 : decode cX6_linkSame 11 = .ok (.iload_n 2, 1) := by decide +kernel
theorem dX6_linkSame_12 : decode cX6_linkSame 12 = .ok (.aload_n 0, 1) := by decide +kernel
theorem dX6_linkSame_13 : decode cX6_linkSame 13 = .ok (.getfield 31, 3) := by decide +kernel
theorem dX6_linkSame_16 : decode cX6_linkSame 16 = .ok (.aload_n 0, 1) := by decide +kernel
theorem dX6_linkSame_17 : decode cX6_linkSame 17 = .ok (.getfield 25, 3) := by decide +kernel
theorem dX6_linkSame_20 : decode cX6_linkSame 20 = .ok (.iload_n 2, 1) := by decide +kernel
theorem dX6_linkSame_21 : decode cX6_linkSame 21 = .ok (.iaload, 1) := by decide +kernel
theorem dX6_linkSame_22 : decode cX6_linkSame 22 = .ok (.iaload, 1) := by decide +kernel
theorem dX6_linkSame_23 : decode cX6_linkSame 23 = .ok (.iastore, 1) := by decide +kernel
theorem dX6_linkSame_24 : decode cX6_linkSame 24 = .ok (.aload_n 0, 1) := by decide +kernel
theorem dX6_linkSame_25 : decode cX6_linkSame 25 = .ok (.getfield 31, 3) := by decide +kernel
theorem dX6_linkSame_28 : decode cX6_linkSame 28 = .ok (.aload_n 0, 1) := by decide +kernel
theorem dX6_linkSame_29 : decode cX6_linkSame 29 = .ok (.getfield 25, 3) := by decide +kernel
theorem dX6_linkSame_32 : decode cX6_linkSame 32 = .ok (.iload_n 2, 1) := by decide +kernel
theorem dX6_linkSame_33 : decode cX6_linkSame 33 = .ok (.iaload, 1) := by decide +kernel
theorem dX6_linkSame_34 : decode cX6_linkSame 34 = .ok (.iload_n 2, 1) := by decide +kernel
theorem dX6_linkSame_35 : decode cX6_linkSame 35 = .ok (.iastore, 1) := by decide +kernel
theorem dX6_linkSame_36 : decode cX6_linkSame 36 = .ok (.iinc 2 1, 3) := by decide +kernel
theorem dX6_linkSame_39 : decode cX6_linkSame 39 = .ok (.goto (-37), 3) := by decide +kernel
theorem dX6_linkSame_42 : decode cX6_linkSame 42 = .ok (.return_, 1) := by decide +kernel
theorem dX6_longestLike_0 : decode cX6_longestLike 0 = .ok (.iload_n 2, 1) := by decide +kernel
theorem dX6_longestLike_1 : decode cX6_longestLike 1 = .ok (.iload_n 1, 1) := by decide +kernel
theorem dX6_longestLike_2 : decode cX6_longestLike 2 = .ok (.isub, 1) := by decide +kernel
theorem dX6_longestLike_3 : decode cX6_longestLike 3 = .ok (.sipush 130, 3) := by decide +kernel
theorem dX6_longestLike_6 : decode cX6_longestLike 6 = .ok (.if_icmp .ge 9, 3) := by decide +kernel
theorem dX6_longestLike_9 : decode cX6_longestLike 9 = .ok (.iload_n 2, 1) := by decide +kernel
theorem dX6_longestLike_10 : decode cX6_longestLike 10 = .ok (.iload_n 1, 1) := by decide +kernel
theorem dX6_longestLike_11 : decode cX6_longestLike 11 = .ok (.isub, 1) := by decide +kernel
theorem dX6_longestLike_12 : decode cX6_longestLike 12 = .ok (.goto 6, 3) := by decide +kernel
theorem dX6_longestLike_15 : decode cX6_longestLike 15 = .ok (.sipush 130, 3) := by decide +kernel
theorem dX6_longestLike_18 : decode cX6_longestLike 18 = .ok (.istore_n 3, 1) := by decide +kernel
theorem dX6_longestLike_19 : decode cX6_longestLike 19 = .ok (.iconst 2, 1) := by decide +kernel
theorem dX6_longestLike_20 : decode cX6_longestLike 20 = .ok (.istore 4, 2) := by decide +kernel
theorem dX6_longestLike_22 : decode cX6_longestLike 22 = .ok (.aload_n 0, 1) := by decide +kernel
theorem dX6_longestLike_23 : decode cX6_longestLike 23 = .ok (.getfield 28, 3) := by decide +kernel
theorem dX6_longestLike_26 : decode cX6_longestLike 26 = .ok (.iload_n 1, 1) := by decide +kernel
theorem dX6_longestLike_27 : decode cX6_longestLike 27 = .ok (.iaload, 1) := by decide +kernel
theorem dX6_longestLike_28 : decode cX6_longestLike 28 = .ok (.istore 5, 2) := by decide +kernel
theorem dX6_longestLike_30 : decode cX6_longestLike 30 = .ok (.iconst 0, 1) := by decide +kernel
theorem dX6_longestLike_31 : decode cX6_longestLike 31 = .ok (.istore 6, 2) := by decide +kernel
theorem dX6_longestLike_33 : decode cX6_longestLike 33 = .ok (.iload 6, 2) := by decide +kernel
theorem dX6_longestLike_35 : decode cX6_longestLike 35 = .ok (.bipush 127, 2) := by decide +kernel
theorem dX6_longestLike_37 : decode cX6_longestLike 37 = .ok (.if_icmp .ge 94, 3) := by decide +kernel
theorem dX6_longestLike_40 : decode cX6_longestLike 40 = .ok (.iload 5, 2) := by decide +kernel
theorem dX6_longestLike_42 : decode cX6_longestLike 42 = .ok (.ifCond .lt 89, 3) := by decide +kernel
theorem dX6_longestLike_45 : decode cX6_longestLike 45 = .ok (.iload_n 1, 1) := by decide +kernel
theorem dX6_longestLike_46 : decode cX6_longestLike 46 = .ok (.iload 5, 2) := by decide +kernel
theorem dX6_longestLike_48 : decode cX6_longestLike 48 = .ok (.isub, 1) := by decide +kernel
theorem dX6_longestLike_49 : decode cX6_longestLike 49 = .ok (.bipush 127, 2) := by decide +kernel
theorem dX6_longestLike_51 : decode cX6_longestLike 51 = .ok (.if_icmp .gt 80, 3) := by decide +kernel
theorem dX6_longestLike_54 : decode cX6_longestLike 54 = .ok (.iload 4, 2) := by decide +kernel
theorem dX6_longestLike_56 : decode cX6_longestLike 56 = .ok (.iload_n 3, 1) := by decide +kernel
theorem dX6_longestLike_57 : decode cX6_longestLike 57 = .ok (.if_icmp .ge 74, 3) := by decide +kernel
theorem dX6_longestLike_60 : decode cX6_longestLike 60 = .ok (.iconst 1, 1) := by decide +kernel
theorem dX6_longestLike_61 : decode cX6_longestLike 61 = .ok (.istore 7, 2) := by decide +kernel
theorem dX6_longestLike_63 : decode cX6_longestLike 63 = .ok (.iload 7, 2) := by decide +kernel
theorem dX6_longestLike_65 : decode cX6_longestLike 65 = .ok (.iload_n 3, 1) := by decide +kernel
theorem dX6_longestLike_66 : decode cX6_longestLike 66 = .ok (.if_icmp .ge 31, 3) := by decide +kernel
theorem dX6_longestLike_69 : decode cX6_longestLike 69 = .ok (.aload_n 0, 1) := by decide +kernel
theorem dX6_longestLike_70 : decode cX6_longestLike 70 = .ok (.getfield 25, 3) := by decide +kernel
theorem dX6_longestLike_73 : decode cX6_longestLike 73 = .ok (.iload_n 1, 1) := by decide +kernel
theorem dX6_longestLike_74 : decode cX6_longestLike 74 = .ok (.iload 7, 2) := by decide +kernel
theorem dX6_longestLike_76 : decode cX6_longestLike 76 = .ok (.iadd, 1) := by decide +kernel
theorem dX6_longestLike_77 : decode cX6_longestLike 77 = .ok (.iaload, 1) := by decide +kernel
theorem dX6_longestLike_78 : decode cX6_longestLike 78 = .ok (.aload_n 0, 1) := by decide +kernel
theorem dX6_longestLike_79 : decode cX6_longestLike 79 = .ok (.getfield 25, 3) := by decide +kernel
theorem dX6_longestLike_82 : decode cX6_longestLike 82 = .ok (.iload 5, 2) := by decide +kernel
theorem dX6_longestLike_84 : decode cX6_longestLike 84 = .ok (.iload 7, 2) := by decide +kernel
theorem dX6_longestLike_86 : decode cX6_longestLike 86 = .ok (.iadd, 1) := by decide +kernel
theorem dX6_longestLike_87 : decode cX6_longestLike 87 = .ok (.iaload, 1) := by decide +kernel
theorem dX6_longestLike_88 : decode cX6_longestLike 88 = .ok (.if_icmp .ne 9, 3) := by decide +kernel
theorem dX6_longestLike_91 : decode cX6_longestLike 91 = .ok (.iinc 7 1, 3) := by decide +kernel
theorem dX6_longestLike_94 : decode cX6_longestLike 94 = .ok (.goto (-31), 3) := by decide +kernel
theorem dX6_longestLike_97 : decode cX6_longestLike 97 = .ok (.iload 7, 2) := by decide +kernel
theorem dX6_longestLike_99 : decode cX6_longestLike 99 = .ok (.iload 4, 2) := by decide +kernel
theorem dX6_longestLike_101 : decode cX6_longestLike 101 = .ok (.if_icmp .le 15, 3) := by decide +kernel
theorem dX6_longestLike_104 : decode cX6_longestLike 104 = .ok (.iload 7, 2) := by decide +kernel
theorem dX6_longestLike_106 : decode cX6_longestLike 106 = .ok (.istore 4, 2) := by decide +kernel
theorem dX6_longestLike_108 : decode cX6_longestLike 108 = .ok (.aload_n 0, 1) := by decide +kernel
theorem dX6_longestLike_109 : decode cX6_longestLike 109 = .ok (.iload_n 1, 1) := by decide +kernel
theorem dX6_longestLike_110 : decode cX6_longestLike 110 = .ok (.iload 5, 2) := by decide +kernel
theorem dX6_longestLike_112 : decode cX6_longestLike 112 = .ok (.isub, 1) := by decide +kernel
theorem dX6_longestLike_113 : decode cX6_longestLike 113 = .ok (.putfield 34, 3) := by decide +kernel
theorem dX6_longestLike_116 : decode cX6_longestLike 116 = .ok (.aload_n 0, 1) := by decide +kernel
theorem dX6_longestLike_117 : decode cX6_longestLike 117 = .ok (.getfield 28, 3) := by decide +kernel
theorem dX6_longestLike_120 : decode cX6_longestLike 120 = .ok (.iload 5, 2) := by decide +kernel
theorem dX6_longestLike_122 : decode cX6_longestLike 122 = .ok (.iaload, 1) := by decide +kernel
theorem dX6_longestLike_123 : decode cX6_longestLike 123 = .ok (.istore 5, 2) := by decide +kernel
theorem dX6_longestLike_125 : decode cX6_longestLike 125 = .ok (.iinc 6 1, 3) := by decide +kernel
theorem dX6_longestLike_128 : decode cX6_longestLike 128 = .ok (.goto (-95), 3) := by decide +kernel
theorem dX6_longestLike_131 : decode cX6_longestLike 131 = .ok (.iload 4, 2) := by decide +kernel
theorem dX6_longestLike_133 : decode cX6_longestLike 133 = .ok (.iconst 3, 1) := by decide +kernel
theorem dX6_longestLike_134 : decode cX6_longestLike 134 = .ok (.if_icmp .ge 7, 3) := by decide +kernel
theorem dX6_longestLike_137 : decode cX6_longestLike 137 = .ok (.iconst 0, 1) := by decide +kernel
theorem dX6_longestLike_138 : decode cX6_longestLike 138 = .ok (.goto 5, 3) := by decide +kernel
theorem dX6_longestLike_141 : decode cX6_longestLike 141 = .ok (.iload 4, 2) := by decide +kernel
theorem dX6_longestLike_143 : decode cX6_longestLike 143 = .ok (.ireturn, 1) := by decide +kernel
theorem dX6_tellSingles_0 : decode cX6_tellSingles 0 = .ok (.iload_n 3, 1) := by decide +kernel
theorem dX6_tellSingles_1 : decode cX6_tellSingles 1 = .ok (.istore 4, 2) := by decide +kernel
theorem dX6_tellSingles_3 : decode cX6_tellSingles 3 = .ok (.iload_n 1, 1) := by decide +kernel
theorem dX6_tellSingles_4 : decode cX6_tellSingles 4 = .ok (.istore 5, 2) := by decide +kernel
theorem dX6_tellSingles_6 : decode cX6_tellSingles 6 = .ok (.iload 5, 2) := by decide +kernel
theorem dX6_tellSingles_8 : decode cX6_tellSingles 8 = .ok (.iload_n 2, 1) := by decide +kernel
theorem dX6_tellSingles_9 : decode cX6_tellSingles 9 = .ok (.if_icmp .ge 81, 3) := by decide +kernel
theorem dX6_tellSingles_12 : decode cX6_tellSingles 12 = .ok (.iload 4, 2) := by decide +kernel
theorem dX6_tellSingles_14 : decode cX6_tellSingles 14 = .ok (.iconst 2, 1) := by decide +kernel
theorem dX6_tellSingles_15 : decode cX6_tellSingles 15 = .ok (.iadd, 1) := by decide +kernel
theorem dX6_tellSingles_16 : decode cX6_tellSingles 16 = .ok (.aload_n 0, 1) := by decide +kernel
theorem dX6_tellSingles_17 : decode cX6_tellSingles 17 = .ok (.getfield 9, 3) := by decide +kernel
theorem dX6_tellSingles_20 : decode cX6_tellSingles 20 = .ok (.arraylength, 1) := by decide +kernel
theorem dX6_tellSingles_21 : decode cX6_tellSingles 21 = .ok (.if_icmp .gt 69, 3) := by decide +kernel
theorem dX6_tellSingles_24 : decode cX6_tellSingles 24 = .ok (.iload 5, 2) := by decide +kernel
theorem dX6_tellSingles_26 : decode cX6_tellSingles 26 = .ok (.iload_n 1, 1) := by decide +kernel
theorem dX6_tellSingles_27 : decode cX6_tellSingles 27 = .ok (.isub, 1) := by decide +kernel
theorem dX6_tellSingles_28 : decode cX6_tellSingles 28 = .ok (.sipush 128, 3) := by decide +kernel
theorem dX6_tellSingles_31 : decode cX6_tellSingles 31 = .ok (.irem, 1) := by decide +kernel
theorem dX6_tellSingles_32 : decode cX6_tellSingles 32 = .ok (.ifCond .ne 35, 3) := by decide +kernel
theorem dX6_tellSingles_35 : decode cX6_tellSingles 35 = .ok (.aload_n 0, 1) := by decide +kernel
theorem dX6_tellSingles_36 : decode cX6_tellSingles 36 = .ok (.getfield 9, 3) := by decide +kernel
theorem dX6_tellSingles_39 : decode cX6_tellSingles 39 = .ok (.iload 4, 2) := by decide +kernel
theorem dX6_tellSingles_41 : decode cX6_tellSingles 41 = .ok (.iload_n 2, 1) := by decide +kernel
theorem dX6_tellSingles_42 : decode cX6_tellSingles 42 = .ok (.iload 5, 2) := by decide +kernel
theorem dX6_tellSingles_44 : decode cX6_tellSingles 44 = .ok (.isub, 1) := by decide +kernel
theorem dX6_tellSingles_45 : decode cX6_tellSingles 45 = .ok (.sipush 128, 3) := by decide +kernel
theorem dX6_tellSingles_48 : decode cX6_tellSingles 48 = .ok (.if_icmp .ge 10, 3) := by decide +kernel
theorem dX6_tellSingles_51 : decode cX6_tellSingles 51 = .ok (.iload_n 2, 1) := by decide +kernel
theorem dX6_tellSingles_52 : decode cX6_tellSingles 52 = .ok (.iload 5, 2) := by decide +kernel
theorem dX6_tellSingles_54 : decode cX6_tellSingles 54 = .ok (.isub, 1) := by decide +kernel
theorem dX6_tellSingles_55 : decode cX6_tellSingles 55 = .ok (.goto 6, 3) := by decide +kernel
theorem dX6_tellSingles_58 : decode cX6_tellSingles 58 = .ok (.sipush 128, 3) := by decide +kernel
theorem dX6_tellSingles_61 : decode cX6_tellSingles 61 = .ok (.iconst 1, 1) := by decide +kernel
theorem dX6_tellSingles_62 : decode cX6_tellSingles 62 = .ok (.isub, 1) := by decide +kernel
theorem dX6_tellSingles_63 : decode cX6_tellSingles 63 = .ok (.iastore, 1) := by decide +kernel
theorem dX6_tellSingles_64 : decode cX6_tellSingles 64 = .ok (.iinc 4 1, 3) := by decide +kernel
theorem dX6_tellSingles_67 : decode cX6_tellSingles 67 = .ok (.aload_n 0, 1) := by decide +kernel
theorem dX6_tellSingles_68 : decode cX6_tellSingles 68 = .ok (.getfield 9, 3) := by decide +kernel
theorem dX6_tellSingles_71 : decode cX6_tellSingles 71 = .ok (.iload 4, 2) := by decide +kernel
theorem dX6_tellSingles_73 : decode cX6_tellSingles 73 = .ok (.aload_n 0, 1) := by decide +kernel
theorem dX6_tellSingles_74 : decode cX6_tellSingles 74 = .ok (.getfield 25, 3) := by decide +kernel
theorem dX6_tellSingles_77 : decode cX6_tellSingles 77 = .ok (.iload 5, 2) := by decide +kernel
theorem dX6_tellSingles_79 : decode cX6_tellSingles 79 = .ok (.iaload, 1) := by decide +kernel
theorem dX6_tellSingles_80 : decode cX6_tellSingles 80 = .ok (.iastore, 1) := by decide +kernel
theorem dX6_tellSingles_81 : decode cX6_tellSingles 81 = .ok (.iinc 4 1, 3) := by decide +kernel
theorem dX6_tellSingles_84 : decode cX6_tellSingles 84 = .ok (.iinc 5 1, 3) := by decide +kernel
theorem dX6_tellSingles_87 : decode cX6_tellSingles 87 = .ok (.goto (-81), 3) := by decide +kernel
theorem dX6_tellSingles_90 : decode cX6_tellSingles 90 = .ok (.iload 4, 2) := by decide +kernel
theorem dX6_tellSingles_92 : decode cX6_tellSingles 92 = .ok (.ireturn, 1) := by decide +kernel
theorem dX6_unpackRow_0 : decode cX6_unpackRow 0 = .ok (.aload_n 0, 1) := by decide +kernel
theorem dX6_unpackRow_1 : decode cX6_unpackRow 1 = .ok (.iconst (-1), 1) := by decide +kernel
theorem dX6_unpackRow_2 : decode cX6_unpackRow 2 = .ok (.putfield 18, 3) := by decide +kernel
theorem dX6_unpackRow_5 : decode cX6_unpackRow 5 = .ok (.aload_n 1, 1) := by decide +kernel
theorem dX6_unpackRow_6 : decode cX6_unpackRow 6 = .ok (.arraylength, 1) := by decide +kernel
theorem dX6_unpackRow_7 : decode cX6_unpackRow 7 = .ok (.iload_n 2, 1) := by decide +kernel
theorem dX6_unpackRow_8 : decode cX6_unpackRow 8 = .ok (.iload_n 3, 1) := by decide +kernel
theorem dX6_unpackRow_9 : decode cX6_unpackRow 9 = .ok (.iadd, 1) := by decide +kernel
theorem dX6_unpackRow_10 : decode cX6_unpackRow 10 = .ok (.invokestatic 41, 3) := by decide +kernel
theorem dX6_unpackRow_13 : decode cX6_unpackRow 13 = .ok (.istore 5, 2) := by decide +kernel
theorem dX6_unpackRow_15 : decode cX6_unpackRow 15 = .ok (.iload_n 2, 1) := by decide +kernel
theorem dX6_unpackRow_16 : decode cX6_unpackRow 16 = .ok (.istore 6, 2) := by decide +kernel
theorem dX6_unpackRow_18 : decode cX6_unpackRow 18 = .ok (.iconst 0, 1) := by decide +kernel
theorem dX6_unpackRow_19 : decode cX6_unpackRow 19 = .ok (.istore 7, 2) := by decide +kernel
theorem dX6_unpackRow_21 : decode cX6_unpackRow 21 = .ok (.iconst 0, 1) := by decide +kernel
theorem dX6_unpackRow_22 : decode cX6_unpackRow 22 = .ok (.istore 8, 2) := by decide +kernel
theorem dX6_unpackRow_24 : decode cX6_unpackRow 24 = .ok (.iload 8, 2) := by decide +kernel
theorem dX6_unpackRow_26 : decode cX6_unpackRow 26 = .ok (.sipush 400, 3) := by decide +kernel
theorem dX6_unpackRow_29 : decode cX6_unpackRow 29 = .ok (.if_icmp .ge 84, 3) := by decide +kernel
theorem dX6_unpackRow_32 : decode cX6_unpackRow 32 = .ok (.iload 6, 2) := by decide +kernel
theorem dX6_unpackRow_34 : decode cX6_unpackRow 34 = .ok (.ifCond .lt 79, 3) := by decide +kernel
theorem dX6_unpackRow_37 : decode cX6_unpackRow 37 = .ok (.iload 6, 2) := by decide +kernel
theorem dX6_unpackRow_39 : decode cX6_unpackRow 39 = .ok (.iload 5, 2) := by decide +kernel
theorem dX6_unpackRow_41 : decode cX6_unpackRow 41 = .ok (.if_icmp .ge 72, 3) := by decide +kernel
theorem dX6_unpackRow_44 : decode cX6_unpackRow 44 = .ok (.aload_n 0, 1) := by decide +kernel
theorem dX6_unpackRow_45 : decode cX6_unpackRow 45 = .ok (.getfield 18, 3) := by decide +kernel
theorem dX6_unpackRow_48 : decode cX6_unpackRow 48 = .ok (.iconst (-1), 1) := by decide +kernel
theorem dX6_unpackRow_49 : decode cX6_unpackRow 49 = .ok (.if_icmp .ne 64, 3) := by decide +kernel
theorem dX6_unpackRow_52 : decode cX6_unpackRow 52 = .ok (.aload_n 1, 1) := by decide +kernel
theorem dX6_unpackRow_53 : decode cX6_unpackRow 53 = .ok (.iload 6, 2) := by decide +kernel
theorem dX6_unpackRow_55 : decode cX6_unpackRow 55 = .ok (.iaload, 1) := by decide +kernel
theorem dX6_unpackRow_56 : decode cX6_unpackRow 56 = .ok (.istore 9, 2) := by decide +kernel
theorem dX6_unpackRow_58 : decode cX6_unpackRow 58 = .ok (.iload 9, 2) := by decide +kernel
theorem dX6_unpackRow_60 : decode cX6_unpackRow 60 = .ok (.sipush 128, 3) := by decide +kernel
theorem dX6_unpackRow_63 : decode cX6_unpackRow 63 = .ok (.if_icmp .ge 28, 3) := by decide +kernel
theorem dX6_unpackRow_66 : decode cX6_unpackRow 66 = .ok (.aload_n 0, 1) := by decide +kernel
theorem dX6_unpackRow_67 : decode cX6_unpackRow 67 = .ok (.aload_n 1, 1) := by decide +kernel
theorem dX6_unpackRow_68 : decode cX6_unpackRow 68 = .ok (.iload 6, 2) := by decide +kernel
theorem dX6_unpackRow_70 : decode cX6_unpackRow 70 = .ok (.iload 5, 2) := by decide +kernel
theorem dX6_unpackRow_72 : decode cX6_unpackRow 72 = .ok (.iload 7, 2) := by decide +kernel
theorem dX6_unpackRow_74 : decode cX6_unpackRow 74 = .ok (.invokevirtual 68, 3) := by decide +kernel
theorem dX6_unpackRow_77 : decode cX6_unpackRow 77 = .ok (.istore 7, 2) := by decide +kernel
theorem dX6_unpackRow_79 : decode cX6_unpackRow 79 = .ok (.iload 6, 2) := by decide +kernel
theorem dX6_unpackRow_81 : decode cX6_unpackRow 81 = .ok (.iconst 2, 1) := by decide +kernel
theorem dX6_unpackRow_82 : decode cX6_unpackRow 82 = .ok (.iload 9, 2) := by decide +kernel
theorem dX6_unpackRow_84 : decode cX6_unpackRow 84 = .ok (.iadd, 1) := by decide +kernel
theorem dX6_unpackRow_85 : decode cX6_unpackRow 85 = .ok (.iadd, 1) := by decide +kernel
theorem dX6_unpackRow_86 : decode cX6_unpackRow 86 = .ok (.istore 6, 2) := by decide +kernel
theorem dX6_unpackRow_88 : decode cX6_unpackRow 88 = .ok (.goto 19, 3) := by decide +kernel
theorem dX6_unpackRow_91 : decode cX6_unpackRow 91 = .ok (.aload_n 0, 1) := by decide +kernel
theorem dX6_unpackRow_92 : decode cX6_unpackRow 92 = .ok (.aload_n 1, 1) := by decide +kernel
theorem dX6_unpackRow_93 : decode cX6_unpackRow 93 = .ok (.iload 6, 2) := by decide +kernel
theorem dX6_unpackRow_95 : decode cX6_unpackRow 95 = .ok (.iload 5, 2) := by decide +kernel
theorem dX6_unpackRow_97 : decode cX6_unpackRow 97 = .ok (.iload 7, 2) := by decide +kernel
theorem dX6_unpackRow_99 : decode cX6_unpackRow 99 = .ok (.invokevirtual 72, 3) := by decide +kernel
theorem dX6_unpackRow_102 : decode cX6_unpackRow 102 = .ok (.istore 7, 2) := by decide +kernel
theorem dX6_unpackRow_104 : decode cX6_unpackRow 104 = .ok (.iinc 6 2, 3) := by decide +kernel
theorem dX6_unpackRow_107 : decode cX6_unpackRow 107 = .ok (.iinc 8 1, 3) := by decide +kernel
theorem dX6_unpackRow_110 : decode cX6_unpackRow 110 = .ok (.goto (-86), 3) := by decide +kernel
theorem dX6_unpackRow_113 : decode cX6_unpackRow 113 = .ok (.aload_n 0, 1) := by decide +kernel
theorem dX6_unpackRow_114 : decode cX6_unpackRow 114 = .ok (.getfield 18, 3) := by decide +kernel
theorem dX6_unpackRow_117 : decode cX6_unpackRow 117 = .ok (.iconst (-1), 1) := by decide +kernel
theorem dX6_unpackRow_118 : decode cX6_unpackRow 118 = .ok (.if_icmp .eq 15, 3) := by decide +kernel
theorem dX6_unpackRow_121 : decode cX6_unpackRow 121 = .ok (.aload_n 0, 1) := by decide +kernel
theorem dX6_unpackRow_122 : decode cX6_unpackRow 122 = .ok (.dup, 1) := by decide +kernel
theorem dX6_unpackRow_123 : decode cX6_unpackRow 123 = .ok (.getfield 18, 3) := by decide +kernel
theorem dX6_unpackRow_126 : decode cX6_unpackRow 126 = .ok (.iload_n 2, 1) := by decide +kernel
theorem dX6_unpackRow_127 : decode cX6_unpackRow 127 = .ok (.isub, 1) := by decide +kernel
theorem dX6_unpackRow_128 : decode cX6_unpackRow 128 = .ok (.putfield 18, 3) := by decide +kernel
theorem dX6_unpackRow_131 : decode cX6_unpackRow 131 = .ok (.iconst (-1), 1) := by decide +kernel
theorem dX6_unpackRow_132 : decode cX6_unpackRow 132 = .ok (.ireturn, 1) := by decide +kernel
theorem dX6_unpackRow_133 : decode cX6_unpackRow 133 = .ok (.aload_n 0, 1) := by decide +kernel
theorem dX6_unpackRow_134 : decode cX6_unpackRow 134 = .ok (.iload 7, 2) := by decide +kernel
theorem dX6_unpackRow_136 : decode cX6_unpackRow 136 = .ok (.iload 4, 2) := by decide +kernel
theorem dX6_unpackRow_138 : decode cX6_unpackRow 138 = .ok (.invokevirtual 75, 3) := by decide +kernel
theorem dX6_unpackRow_141 : decode cX6_unpackRow 141 = .ok (.iload 7, 2) := by decide +kernel
theorem dX6_unpackRow_143 : decode cX6_unpackRow 143 = .ok (.ireturn, 1) := by decide +kernel
theorem dX6_unpackSingles_0 : decode cX6_unpackSingles 0 = .ok (.aload_n 1, 1) := by decide +kernel
theorem dX6_unpackSingles_1 : decode cX6_unpackSingles 1 = .ok (.iload_n 2, 1) := by decide +kernel
theorem dX6_unpackSingles_2 : decode cX6_unpackSingles 2 = .ok (.iaload, 1) := by decide +kernel
theorem dX6_unpackSingles_3 : decode cX6_unpackSingles 3 = .ok (.iconst 1, 1) := by decide +kernel
theorem dX6_unpackSingles_4 : decode cX6_unpackSingles 4 = .ok (.iadd, 1) := by decide +kernel
theorem dX6_unpackSingles_5 : decode cX6_unpackSingles 5 = .ok (.istore 5, 2) := by decide +kernel
theorem dX6_unpackSingles_7 : decode cX6_unpackSingles 7 = .ok (.iload 5, 2) := by decide +kernel
theorem dX6_unpackSingles_9 : decode cX6_unpackSingles 9 = .ok (.iconst 1, 1) := by decide +kernel
theorem dX6_unpackSingles_10 : decode cX6_unpackSingles 10 = .ok (.if_icmp .lt 14, 3) := by decide +kernel
theorem dX6_unpackSingles_13 : decode cX6_unpackSingles 13 = .ok (.iload 4, 2) := by decide +kernel
theorem dX6_unpackSingles_15 : decode cX6_unpackSingles 15 = .ok (.iload 5, 2) := by decide +kernel
theorem dX6_unpackSingles_17 : decode cX6_unpackSingles 17 = .ok (.iadd, 1) := by decide +kernel
theorem dX6_unpackSingles_18 : decode cX6_unpackSingles 18 = .ok (.sipush 400, 3) := by decide +kernel
theorem dX6_unpackSingles_21 : decode cX6_unpackSingles 21 = .ok (.if_icmp .le 11, 3) := by decide +kernel
theorem dX6_unpackSingles_24 : decode cX6_unpackSingles 24 = .ok (.aload_n 0, 1) := by decide +kernel
theorem dX6_unpackSingles_25 : decode cX6_unpackSingles 25 = .ok (.iload_n 2, 1) := by decide +kernel
theorem dX6_unpackSingles_26 : decode cX6_unpackSingles 26 = .ok (.putfield 18, 3) := by decide +kernel
theorem dX6_unpackSingles_29 : decode cX6_unpackSingles 29 = .ok (.iload 4, 2) := by decide +kernel
theorem dX6_unpackSingles_31 : decode cX6_unpackSingles 31 = .ok (.ireturn, 1) := by decide +kernel
theorem dX6_unpackSingles_32 : decode cX6_unpackSingles 32 = .ok (.iload_n 2, 1) := by decide +kernel
theorem dX6_unpackSingles_33 : decode cX6_unpackSingles 33 = .ok (.iconst 1, 1) := by decide +kernel
theorem dX6_unpackSingles_34 : decode cX6_unpackSingles 34 = .ok (.iadd, 1) := by decide +kernel
theorem dX6_unpackSingles_35 : decode cX6_unpackSingles 35 = .ok (.iload 5, 2) := by decide +kernel
theorem dX6_unpackSingles_37 : decode cX6_unpackSingles 37 = .ok (.iadd, 1) := by decide +kernel
theorem dX6_unpackSingles_38 : decode cX6_unpackSingles 38 = .ok (.iload_n 3, 1) := by decide +kernel
theorem dX6_unpackSingles_39 : decode cX6_unpackSingles 39 = .ok (.if_icmp .le 11, 3) := by decide +kernel
theorem dX6_unpackSingles_42 : decode cX6_unpackSingles 42 = .ok (.aload_n 0, 1) := by decide +kernel
theorem dX6_unpackSingles_43 : decode cX6_unpackSingles 43 = .ok (.iload_n 3, 1) := by decide +kernel
theorem dX6_unpackSingles_44 : decode cX6_unpackSingles 44 = .ok (.putfield 18, 3) := by decide +kernel
theorem dX6_unpackSingles_47 : decode cX6_unpackSingles 47 = .ok (.iload 4, 2) := by decide +kernel
theorem dX6_unpackSingles_49 : decode cX6_unpackSingles 49 = .ok (.ireturn, 1) := by decide +kernel
theorem dX6_unpackSingles_50 : decode cX6_unpackSingles 50 = .ok (.aload_n 1, 1) := by decide +kernel
theorem dX6_unpackSingles_51 : decode cX6_unpackSingles 51 = .ok (.iload_n 2, 1) := by decide +kernel
theorem dX6_unpackSingles_52 : decode cX6_unpackSingles 52 = .ok (.iconst 1, 1) := by decide +kernel
theorem dX6_unpackSingles_53 : decode cX6_unpackSingles 53 = .ok (.iadd, 1) := by decide +kernel
theorem dX6_unpackSingles_54 : decode cX6_unpackSingles 54 = .ok (.aload_n 0, 1) := by decide +kernel
theorem dX6_unpackSingles_55 : decode cX6_unpackSingles 55 = .ok (.getfield 15, 3) := by decide +kernel
theorem dX6_unpackSingles_58 : decode cX6_unpackSingles 58 = .ok (.iload 4, 2) := by decide +kernel
theorem dX6_unpackSingles_60 : decode cX6_unpackSingles 60 = .ok (.iload 5, 2) := by decide +kernel
theorem dX6_unpackSingles_62 : decode cX6_unpackSingles 62 = .ok (.invokestatic 79, 3) := by decide +kernel
theorem dX6_unpackSingles_65 : decode cX6_unpackSingles 65 = .ok (.iload 4, 2) := by decide +kernel
theorem dX6_unpackSingles_67 : decode cX6_unpackSingles 67 = .ok (.iload 5, 2) := by decide +kernel
theorem dX6_unpackSingles_69 : decode cX6_unpackSingles 69 = .ok (.iadd, 1) := by decide +kernel
theorem dX6_unpackSingles_70 : decode cX6_unpackSingles 70 = .ok (.ireturn, 1) := by decide +kernel
theorem dX6_unpackLike_0 : decode cX6_unpackLike 0 = .ok (.aload_n 1, 1) := by decide +kernel
theorem dX6_unpackLike_1 : decode cX6_unpackLike 1 = .ok (.iload_n 2, 1) := by decide +kernel
theorem dX6_unpackLike_2 : decode cX6_unpackLike 2 = .ok (.iaload, 1) := by decide +kernel
theorem dX6_unpackLike_3 : decode cX6_unpackLike 3 = .ok (.bipush 125, 2) := by decide +kernel
theorem dX6_unpackLike_5 : decode cX6_unpackLike 5 = .ok (.isub, 1) := by decide +kernel
theorem dX6_unpackLike_6 : decode cX6_unpackLike 6 = .ok (.istore 5, 2) := by decide +kernel
theorem dX6_unpackLike_8 : decode cX6_unpackLike 8 = .ok (.iload 4, 2) := by decide +kernel
theorem dX6_unpackLike_10 : decode cX6_unpackLike 10 = .ok (.iload 5, 2) := by decide +kernel
theorem dX6_unpackLike_12 : decode cX6_unpackLike 12 = .ok (.iadd, 1) := by decide +kernel
theorem dX6_unpackLike_13 : decode cX6_unpackLike 13 = .ok (.sipush 400, 3) := by decide +kernel
theorem dX6_unpackLike_16 : decode cX6_unpackLike 16 = .ok (.if_icmp .le 11, 3) := by decide +kernel
theorem dX6_unpackLike_19 : decode cX6_unpackLike 19 = .ok (.aload_n 0, 1) := by decide +kernel
theorem dX6_unpackLike_20 : decode cX6_unpackLike 20 = .ok (.iload_n 2, 1) := by decide +kernel
theorem dX6_unpackLike_21 : decode cX6_unpackLike 21 = .ok (.putfield 18, 3) := by decide +kernel
theorem dX6_unpackLike_24 : decode cX6_unpackLike 24 = .ok (.iload 4, 2) := by decide +kernel
theorem dX6_unpackLike_26 : decode cX6_unpackLike 26 = .ok (.ireturn, 1) := by decide +kernel
theorem dX6_unpackLike_27 : decode cX6_unpackLike 27 = .ok (.iload_n 2, 1) := by decide +kernel
theorem dX6_unpackLike_28 : decode cX6_unpackLike 28 = .ok (.iconst 1, 1) := by decide +kernel
theorem dX6_unpackLike_29 : decode cX6_unpackLike 29 = .ok (.iadd, 1) := by decide +kernel
theorem dX6_unpackLike_30 : decode cX6_unpackLike 30 = .ok (.iload_n 3, 1) := by decide +kernel
theorem dX6_unpackLike_31 : decode cX6_unpackLike 31 = .ok (.if_icmp .ge 11, 3) := by decide +kernel
theorem dX6_unpackLike_34 : decode cX6_unpackLike 34 = .ok (.aload_n 1, 1) := by decide +kernel
theorem dX6_unpackLike_35 : decode cX6_unpackLike 35 = .ok (.iload_n 2, 1) := by decide +kernel
theorem dX6_unpackLike_36 : decode cX6_unpackLike 36 = .ok (.iconst 1, 1) := by decide +kernel
theorem dX6_unpackLike_37 : decode cX6_unpackLike 37 = .ok (.iadd, 1) := by decide +kernel
theorem dX6_unpackLike_38 : decode cX6_unpackLike 38 = .ok (.iaload, 1) := by decide +kernel
theorem dX6_unpackLike_39 : decode cX6_unpackLike 39 = .ok (.goto 4, 3) := by decide +kernel
theorem dX6_unpackLike_42 : decode cX6_unpackLike 42 = .ok (.iconst 0, 1) := by decide +kernel
theorem dX6_unpackLike_43 : decode cX6_unpackLike 43 = .ok (.istore 6, 2) := by decide +kernel
theorem dX6_unpackLike_45 : decode cX6_unpackLike 45 = .ok (.iload 6, 2) := by decide +kernel
theorem dX6_unpackLike_47 : decode cX6_unpackLike 47 = .ok (.iconst 1, 1) := by decide +kernel
theorem dX6_unpackLike_48 : decode cX6_unpackLike 48 = .ok (.if_icmp .lt 17, 3) := by decide +kernel
theorem dX6_unpackLike_51 : decode cX6_unpackLike 51 = .ok (.iload 6, 2) := by decide +kernel
theorem dX6_unpackLike_53 : decode cX6_unpackLike 53 = .ok (.bipush 127, 2) := by decide +kernel
theorem dX6_unpackLike_55 : decode cX6_unpackLike 55 = .ok (.if_icmp .gt 10, 3) := by decide +kernel
theorem dX6_unpackLike_58 : decode cX6_unpackLike 58 = .ok (.iload 6, 2) := by decide +kernel
theorem dX6_unpackLike_60 : decode cX6_unpackLike 60 = .ok (.iload 4, 2) := by decide +kernel
theorem dX6_unpackLike_62 : decode cX6_unpackLike 62 = .ok (.if_icmp .le 13, 3) := by decide +kernel
theorem dX6_unpackLike_65 : decode cX6_unpackLike 65 = .ok (.aload_n 0, 1) := by decide +kernel
theorem dX6_unpackLike_66 : decode cX6_unpackLike 66 = .ok (.iload_n 2, 1) := by decide +kernel
theorem dX6_unpackLike_67 : decode cX6_unpackLike 67 = .ok (.iconst 1, 1) := by decide +kernel
theorem dX6_unpackLike_68 : decode cX6_unpackLike 68 = .ok (.iadd, 1) := by decide +kernel
theorem dX6_unpackLike_69 : decode cX6_unpackLike 69 = .ok (.putfield 18, 3) := by decide +kernel
theorem dX6_unpackLike_72 : decode cX6_unpackLike 72 = .ok (.iload 4, 2) := by decide +kernel
theorem dX6_unpackLike_74 : decode cX6_unpackLike 74 = .ok (.ireturn, 1) := by decide +kernel
theorem dX6_unpackLike_75 : decode cX6_unpackLike 75 = .ok (.iload 4, 2) := by decide +kernel
theorem dX6_unpackLike_77 : decode cX6_unpackLike 77 = .ok (.istore 7, 2) := by decide +kernel
theorem dX6_unpackLike_79 : decode cX6_unpackLike 79 = .ok (.iload 7, 2) := by decide +kernel
theorem dX6_unpackLike_81 : decode cX6_unpackLike 81 = .ok (.iload 4, 2) := by decide +kernel
theorem dX6_unpackLike_83 : decode cX6_unpackLike 83 = .ok (.iload 5, 2) := by decide +kernel
theorem dX6_unpackLike_85 : decode cX6_unpackLike 85 = .ok (.iadd, 1) := by decide +kernel
theorem dX6_unpackLike_86 : decode cX6_unpackLike 86 = .ok (.if_icmp .ge 26, 3) := by decide +kernel
theorem dX6_unpackLike_89 : decode cX6_unpackLike 89 = .ok (.aload_n 0, 1) := by decide +kernel
theorem dX6_unpackLike_90 : decode cX6_unpackLike 90 = .ok (.getfield 15, 3) := by decide +kernel
theorem dX6_unpackLike_93 : decode cX6_unpackLike 93 = .ok (.iload 7, 2) := by decide +kernel
theorem dX6_unpackLike_95 : decode cX6_unpackLike 95 = .ok (.aload_n 0, 1) := by decide +kernel
theorem dX6_unpackLike_96 : decode cX6_unpackLike 96 = .ok (.getfield 15, 3) := by decide +kernel
theorem dX6_unpackLike_99 : decode cX6_unpackLike 99 = .ok (.iload 7, 2) := by decide +kernel
theorem dX6_unpackLike_101 : decode cX6_unpackLike 101 = .ok (.iload 6, 2) := by decide +kernel
theorem dX6_unpackLike_103 : decode cX6_unpackLike 103 = .ok (.isub, 1) := by decide +kernel
theorem dX6_unpackLike_104 : decode cX6_unpackLike 104 = .ok (.iaload, 1) := by decide +kernel
theorem dX6_unpackLike_105 : decode cX6_unpackLike 105 = .ok (.iastore, 1) := by decide +kernel
theorem dX6_unpackLike_106 : decode cX6_unpackLike 106 = .ok (.iinc 7 1, 3) := by decide +kernel
theorem dX6_unpackLike_109 : decode cX6_unpackLike 109 = .ok (.goto (-30), 3) := by decide +kernel
theorem dX6_unpackLike_112 : decode cX6_unpackLike 112 = .ok (.iload 4, 2) := by decide +kernel
theorem dX6_unpackLike_114 : decode cX6_unpackLike 114 = .ok (.iload 5, 2) := by decide +kernel
theorem dX6_unpackLike_116 : decode cX6_unpackLike 116 = .ok (.iadd, 1) := by decide +kernel
theorem dX6_unpackLike_117 : decode cX6_unpackLike 117 = .ok (.ireturn, 1) := by decide +kernel
theorem dX6_turnBack_0 : decode cX6_turnBack 0 = .ok (.iconst 0, 1) := by decide +kernel
theorem dX6_turnBack_1 : decode cX6_turnBack 1 = .ok (.istore_n 3, 1) := by decide +kernel
theorem dX6_turnBack_2 : decode cX6_turnBack 2 = .ok (.iload_n 3, 1) := by decide +kernel
theorem dX6_turnBack_3 : decode cX6_turnBack 3 = .ok (.iload_n 1, 1) := by decide +kernel
theorem dX6_turnBack_4 : decode cX6_turnBack 4 = .ok (.if_icmp .ge 109, 3) := by decide +kernel
theorem dX6_turnBack_7 : decode cX6_turnBack 7 = .ok (.iload_n 3, 1) := by decide +kernel
theorem dX6_turnBack_8 : decode cX6_turnBack 8 = .ok (.iconst 1, 1) := by decide +kernel
theorem dX6_turnBack_9 : decode cX6_turnBack 9 = .ok (.if_icmp .lt 14, 3) := by decide +kernel
theorem dX6_turnBack_12 : decode cX6_turnBack 12 = .ok (.aload_n 0, 1) := by decide +kernel
theorem dX6_turnBack_13 : decode cX6_turnBack 13 = .ok (.getfield 15, 3) := by decide +kernel
theorem dX6_turnBack_16 : decode cX6_turnBack 16 = .ok (.iload_n 3, 1) := by decide +kernel
theorem dX6_turnBack_17 : decode cX6_turnBack 17 = .ok (.iconst 1, 1) := by decide +kernel
theorem dX6_turnBack_18 : decode cX6_turnBack 18 = .ok (.isub, 1) := by decide +kernel
theorem dX6_turnBack_19 : decode cX6_turnBack 19 = .ok (.iaload, 1) := by decide +kernel
theorem dX6_turnBack_20 : decode cX6_turnBack 20 = .ok (.goto 4, 3) := by decide +kernel
theorem dX6_turnBack_23 : decode cX6_turnBack 23 = .ok (.iconst 0, 1) := by decide +kernel
theorem dX6_turnBack_24 : decode cX6_turnBack 24 = .ok (.istore 4, 2) := by decide +kernel
theorem dX6_turnBack_26 : decode cX6_turnBack 26 = .ok (.iload_n 3, 1) := by decide +kernel
theorem dX6_turnBack_27 : decode cX6_turnBack 27 = .ok (.iconst 2, 1) := by decide +kernel
theorem dX6_turnBack_28 : decode cX6_turnBack 28 = .ok (.if_icmp .lt 14, 3) := by decide +kernel
theorem dX6_turnBack_31 : decode cX6_turnBack 31 = .ok (.aload_n 0, 1) := by decide +kernel
theorem dX6_turnBack_32 : decode cX6_turnBack 32 = .ok (.getfield 15, 3) := by decide +kernel
theorem dX6_turnBack_35 : decode cX6_turnBack 35 = .ok (.iload_n 3, 1) := by decide +kernel
theorem dX6_turnBack_36 : decode cX6_turnBack 36 = .ok (.iconst 2, 1) := by decide +kernel
theorem dX6_turnBack_37 : decode cX6_turnBack 37 = .ok (.isub, 1) := by decide +kernel
theorem dX6_turnBack_38 : decode cX6_turnBack 38 = .ok (.iaload, 1) := by decide +kernel
theorem dX6_turnBack_39 : decode cX6_turnBack 39 = .ok (.goto 4, 3) := by decide +kernel
theorem dX6_turnBack_42 : decode cX6_turnBack 42 = .ok (.iconst 0, 1) := by decide +kernel
theorem dX6_turnBack_43 : decode cX6_turnBack 43 = .ok (.istore 5, 2) := by decide +kernel
theorem dX6_turnBack_45 : decode cX6_turnBack 45 = .ok (.aload_n 0, 1) := by decide +kernel
theorem dX6_turnBack_46 : decode cX6_turnBack 46 = .ok (.getfield 15, 3) := by decide +kernel
theorem dX6_turnBack_49 : decode cX6_turnBack 49 = .ok (.iload_n 3, 1) := by decide +kernel
theorem dX6_turnBack_50 : decode cX6_turnBack 50 = .ok (.iaload, 1) := by decide +kernel
theorem dX6_turnBack_51 : decode cX6_turnBack 51 = .ok (.istore 6, 2) := by decide +kernel
theorem dX6_turnBack_53 : decode cX6_turnBack 53 = .ok (.iload_n 2, 1) := by decide +kernel
theorem dX6_turnBack_54 : decode cX6_turnBack 54 = .ok (.iconst 1, 1) := by decide +kernel
theorem dX6_turnBack_55 : decode cX6_turnBack 55 = .ok (.if_icmp .ne 13, 3) := by decide +kernel
theorem dX6_turnBack_58 : decode cX6_turnBack 58 = .ok (.iload 6, 2) := by decide +kernel
theorem dX6_turnBack_60 : decode cX6_turnBack 60 = .ok (.iload 4, 2) := by decide +kernel
theorem dX6_turnBack_62 : decode cX6_turnBack 62 = .ok (.iadd, 1) := by decide +kernel
theorem dX6_turnBack_63 : decode cX6_turnBack 63 = .ok (.istore 6, 2) := by decide +kernel
theorem dX6_turnBack_65 : decode cX6_turnBack 65 = .ok (.goto 30, 3) := by decide +kernel
theorem dX6_turnBack_68 : decode cX6_turnBack 68 = .ok (.iload_n 2, 1) := by decide +kernel
theorem dX6_turnBack_69 : decode cX6_turnBack 69 = .ok (.iconst 2, 1) := by decide +kernel
theorem dX6_turnBack_70 : decode cX6_turnBack 70 = .ok (.if_icmp .ne 13, 3) := by decide +kernel
theorem dX6_turnBack_73 : decode cX6_turnBack 73 = .ok (.iload 6, 2) := by decide +kernel
theorem dX6_turnBack_75 : decode cX6_turnBack 75 = .ok (.iload 4, 2) := by decide +kernel
theorem dX6_turnBack_77 : decode cX6_turnBack 77 = .ok (.ixor, 1) := by decide +kernel
theorem dX6_turnBack_78 : decode cX6_turnBack 78 = .ok (.istore 6, 2) := by decide +kernel
theorem dX6_turnBack_80 : decode cX6_turnBack 80 = .ok (.goto 15, 3) := by decide +kernel
theorem dX6_turnBack_83 : decode cX6_turnBack 83 = .ok (.iload_n 2, 1) := by decide +kernel
theorem dX6_turnBack_84 : decode cX6_turnBack 84 = .ok (.iconst 3, 1) := by decide +kernel
theorem dX6_turnBack_85 : decode cX6_turnBack 85 = .ok (.if_icmp .ne 10, 3) := by decide +kernel
theorem dX6_turnBack_88 : decode cX6_turnBack 88 = .ok (.iload 6, 2) := by decide +kernel
theorem dX6_turnBack_90 : decode cX6_turnBack 90 = .ok (.iload 5, 2) := by decide +kernel
theorem dX6_turnBack_92 : decode cX6_turnBack 92 = .ok (.iadd, 1) := by decide +kernel
theorem dX6_turnBack_93 : decode cX6_turnBack 93 = .ok (.istore 6, 2) := by decide +kernel
theorem dX6_turnBack_95 : decode cX6_turnBack 95 = .ok (.aload_n 0, 1) := by decide +kernel
theorem dX6_turnBack_96 : decode cX6_turnBack 96 = .ok (.getfield 15, 3) := by decide +kernel
theorem dX6_turnBack_99 : decode cX6_turnBack 99 = .ok (.iload_n 3, 1) := by decide +kernel
theorem dX6_turnBack_100 : decode cX6_turnBack 100 = .ok (.iload 6, 2) := by decide +kernel
theorem dX6_turnBack_102 : decode cX6_turnBack 102 = .ok (.sipush 255, 3) := by decide +kernel
theorem dX6_turnBack_105 : decode cX6_turnBack 105 = .ok (.iand, 1) := by decide +kernel
theorem dX6_turnBack_106 : decode cX6_turnBack 106 = .ok (.iastore, 1) := by decide +kernel
theorem dX6_turnBack_107 : decode cX6_turnBack 107 = .ok (.iinc 3 1, 3) := by decide +kernel
theorem dX6_turnBack_110 : decode cX6_turnBack 110 = .ok (.goto (-108), 3) := by decide +kernel
theorem dX6_turnBack_113 : decode cX6_turnBack 113 = .ok (.return_, 1) := by decide +kernel
theorem dX7_init_0 : decode cX7_init 0 = .ok (.aload_n 0, 1) := by decide +kernel
theorem dX7_init_1 : decode cX7_init 1 = .ok (.invokespecial 3, 3) := by decide +kernel
theorem dX7_init_4 : decode cX7_init 4 = .ok (.aload_n 0, 1) := by decide +kernel
theorem dX7_init_5 : decode cX7_init 5 = .ok (.iconst 0, 1) := by decide +kernel
theorem dX7_init_6 : decode cX7_init 6 = .ok (.putfield 9, 3) := by decide +kernel
theorem dX7_init_9 : decode cX7_init 9 = .ok (.aload_n 0, 1) := by decide +kernel
theorem dX7_init_10 : decode cX7_init 10 = .ok (.bipush 16, 2) := by decide +kernel
theorem dX7_init_12 : decode cX7_init 12 = .ok (.anewarray 15, 3) := by decide +kernel
theorem dX7_init_15 : decode cX7_init 15 = .ok (.putfield 17, 3) := by decide +kernel
theorem dX7_init_18 : decode cX7_init 18 = .ok (.aload_n 0, 1) := by decide +kernel
theorem dX7_init_19 : decode cX7_init 19 = .ok (.iconst 0, 1) := by decide +kernel
theorem dX7_init_20 : decode cX7_init 20 = .ok (.putfield 21, 3) := by decide +kernel
theorem dX7_init_23 : decode cX7_init 23 = .ok (.return_, 1) := by decide +kernel
theorem dX7_keep_0 : decode cX7_keep 0 = .ok (.aload_n 0, 1) := by decide +kernel
theorem dX7_keep_1 : decode cX7_keep 1 = .ok (.getfield 17, 3) := by decide +kernel
theorem dX7_keep_4 : decode cX7_keep 4 = .ok (.aload_n 0, 1) := by decide +kernel
theorem dX7_keep_5 : decode cX7_keep 5 = .ok (.getfield 21, 3) := by decide +kernel
theorem dX7_keep_8 : decode cX7_keep 8 = .ok (.aaload, 1) := by decide +kernel
theorem dX7_keep_9 : decode cX7_keep 9 = .ok (.astore 4, 2) := by decide +kernel
theorem dX7_keep_11 : decode cX7_keep 11 = .ok (.aload 4, 2) := by decide +kernel
theorem dX7_keep_13 : decode cX7_keep 13 = .ok (.ifnonnull 23, 3) := by decide +kernel
theorem dX7_keep_16 : decode cX7_keep 16 = .ok (.new 15, 3) := by decide +kernel
theorem dX7_keep_19 : decode cX7_keep 19 = .ok (.dup, 1) := by decide +kernel
theorem dX7_keep_20 : decode cX7_keep 20 = .ok (.invokespecial 24, 3) := by decide +kernel
theorem dX7_keep_23 : decode cX7_keep 23 = .ok (.astore 4, 2) := by decide +kernel
theorem dX7_keep_25 : decode cX7_keep 25 = .ok (.aload_n 0, 1) := by decide +kernel
theorem dX7_keep_26 : decode cX7_keep 26 = .ok (.getfield 17, 3) := by decide +kernel
theorem dX7_keep_29 : decode cX7_keep 29 = .ok (.aload_n 0, 1) := by decide +kernel
theorem dX7_keep_30 : decode cX7_keep 30 = .ok (.getfield 21, 3) := by decide +kernel
theorem dX7_keep_33 : decode cX7_keep 33 = .ok (.aload 4, 2) := by decide +kernel
theorem dX7_keep_35 : decode cX7_keep 35 = .ok (.aastore, 1) := by decide +kernel
theorem dX7_keep_36 : decode cX7_keep 36 = .ok (.aload 4, 2) := by decide +kernel
theorem dX7_keep_38 : decode cX7_keep 38 = .ok (.iload_n 1, 1) := by decide +kernel
theorem dX7_keep_39 : decode cX7_keep 39 = .ok (.putfield 25, 3) := by decide +kernel
theorem dX7_keep_42 : decode cX7_keep 42 = .ok (.aload 4, 2) := by decide +kernel
theorem dX7_keep_44 : decode cX7_keep 44 = .ok (.aload_n 2, 1) := by decide +kernel
theorem dX7_keep_45 : decode cX7_keep 45 = .ok (.getfield 28, 3) := by decide +kernel
theorem dX7_keep_48 : decode cX7_keep 48 = .ok (.putfield 34, 3) := by decide +kernel
theorem dX7_keep_51 : decode cX7_keep 51 = .ok (.aload_n 2, 1) := by decide +kernel
theorem dX7_keep_52 : decode cX7_keep 52 = .ok (.getfield 35, 3) := by decide +kernel
theorem dX7_keep_55 : decode cX7_keep 55 = .ok (.iconst 0, 1) := by decide +kernel
theorem dX7_keep_56 : decode cX7_keep 56 = .ok (.aload 4, 2) := by decide +kernel
theorem dX7_keep_58 : decode cX7_keep 58 = .ok (.getfield 39, 3) := by decide +kernel
theorem dX7_keep_61 : decode cX7_keep 61 = .ok (.iconst 0, 1) := by decide +kernel
theorem dX7_keep_62 : decode cX7_keep 62 = .ok (.sipush 1334, 3) := by decide +kernel
theorem dX7_keep_65 : decode cX7_keep 65 = .ok (.invokestatic 40, 3) := by decide +kernel
theorem dX7_keep_68 : decode cX7_keep 68 = .ok (.aload_n 3, 1) := by decide +kernel
theorem dX7_keep_69 : decode cX7_keep 69 = .ok (.iconst 0, 1) := by decide +kernel
theorem dX7_keep_70 : decode cX7_keep 70 = .ok (.aload 4, 2) := by decide +kernel
theorem dX7_keep_72 : decode cX7_keep 72 = .ok (.getfield 46, 3) := by decide +kernel
theorem dX7_keep_75 : decode cX7_keep 75 = .ok (.iconst 0, 1) := by decide +kernel
theorem dX7_keep_76 : decode cX7_keep 76 = .ok (.iconst 4, 1) := by decide +kernel
theorem dX7_keep_77 : decode cX7_keep 77 = .ok (.invokestatic 40, 3) := by decide +kernel
theorem dX7_keep_80 : decode cX7_keep 80 = .ok (.aload_n 0, 1) := by decide +kernel
theorem dX7_keep_81 : decode cX7_keep 81 = .ok (.aload_n 0, 1) := by decide +kernel
theorem dX7_keep_82 : decode cX7_keep 82 = .ok (.getfield 21, 3) := by decide +kernel
theorem dX7_keep_85 : decode cX7_keep 85 = .ok (.iconst 1, 1) := by decide +kernel
theorem dX7_keep_86 : decode cX7_keep 86 = .ok (.iadd, 1) := by decide +kernel
theorem dX7_keep_87 : decode cX7_keep 87 = .ok (.bipush 16, 2) := by decide +kernel
theorem dX7_keep_89 : decode cX7_keep 89 = .ok (.irem, 1) := by decide +kernel
theorem dX7_keep_90 : decode cX7_keep 90 = .ok (.putfield 21, 3) := by decide +kernel
theorem dX7_keep_93 : decode cX7_keep 93 = .ok (.aload_n 0, 1) := by decide +kernel
theorem dX7_keep_94 : decode cX7_keep 94 = .ok (.bipush 16, 2) := by decide +kernel
theorem dX7_keep_96 : decode cX7_keep 96 = .ok (.aload_n 0, 1) := by decide +kernel
theorem dX7_keep_97 : decode cX7_keep 97 = .ok (.getfield 9, 3) := by decide +kernel
theorem dX7_keep_100 : decode cX7_keep 100 = .ok (.iconst 1, 1) := by decide +kernel
theorem dX7_keep_101 : decode cX7_keep 101 = .ok (.iadd, 1) := by decide +kernel
theorem dX7_keep_102 : decode cX7_keep 102 = .ok (.invokestatic 49, 3) := by decide +kernel
theorem dX7_keep_105 : decode cX7_keep 105 = .ok (.putfield 9, 3) := by decide +kernel
theorem dX7_keep_108 : decode cX7_keep 108 = .ok (.return_, 1) := by decide +kernel
theorem dX7_takeBack_0 : decode cX7_takeBack 0 = .ok (.aload_n 0, 1) := by decide +kernel
theorem dX7_takeBack_1 : decode cX7_takeBack 1 = .ok (.getfield 21, 3) := by decide +kernel
theorem dX7_takeBack_4 : decode cX7_takeBack 4 = .ok (.bipush 16, 2) := by decide +kernel
theorem dX7_takeBack_6 : decode cX7_takeBack 6 = .ok (.iadd, 1) := by decide +kernel
theorem dX7_takeBack_7 : decode cX7_takeBack 7 = .ok (.iconst 1, 1) := by decide +kernel
theorem dX7_takeBack_8 : decode cX7_takeBack 8 = .ok (.isub, 1) := by decide +kernel
theorem dX7_takeBack_9 : decode cX7_takeBack 9 = .ok (.bipush 16, 2) := by decide +kernel
theorem dX7_takeBack_11 : decode cX7_takeBack 11 = .ok (.irem, 1) := by decide +kernel
theorem dX7_takeBack_12 : decode cX7_takeBack 12 = .ok (.istore_n 3, 1) := by decide +kernel
theorem dX7_takeBack_13 : decode cX7_takeBack 13 = .ok (.aload_n 0, 1) := by decide +kernel
theorem dX7_takeBack_14 : decode cX7_takeBack 14 = .ok (.getfield 17, 3) := by decide +kernel
theorem dX7_takeBack_17 : decode cX7_takeBack 17 = .ok (.iload_n 3, 1) := by decide +kernel
theorem dX7_takeBack_18 : decode cX7_takeBack 18 = .ok (.aaload, 1) := by decide +kernel
theorem dX7_takeBack_19 : decode cX7_takeBack 19 = .ok (.astore 4, 2) := by decide +kernel
theorem dX7_takeBack_21 : decode cX7_takeBack 21 = .ok (.aload_n 0, 1) := by decide +kernel
theorem dX7_takeBack_22 : decode cX7_takeBack 22 = .ok (.getfield 9, 3) := by decide +kernel
theorem dX7_takeBack_25 : decode cX7_takeBack 25 = .ok (.ifCond .eq 8, 3) := by decide +kernel
theorem dX7_takeBack_28 : decode cX7_takeBack 28 = .ok (.aload 4, 2) := by decide +kernel
theorem dX7_takeBack_30 : decode cX7_takeBack 30 = .ok (.ifnonnull 5, 3) := by decide +kernel
theorem dX7_takeBack_33 : decode cX7_takeBack 33 = .ok (.iconst (-1), 1) := by decide +kernel
theorem dX7_takeBack_34 : decode cX7_takeBack 34 = .ok (.ireturn, 1) := by decide +kernel
theorem dX7_takeBack_35 : decode cX7_takeBack 35 = .ok (.aload_n 0, 1) := by decide +kernel
theorem dX7_takeBack_36 : decode cX7_takeBack 36 = .ok (.iload_n 3, 1) := by decide +kernel
theorem dX7_takeBack_37 : decode cX7_takeBack 37 = .ok (.putfield 21, 3) := by decide +kernel
theorem dX7_takeBack_40 : decode cX7_takeBack 40 = .ok (.aload_n 0, 1) := by decide +kernel
theorem dX7_takeBack_41 : decode cX7_takeBack 41 = .ok (.dup, 1) := by decide +kernel
theorem dX7_takeBack_42 : decode cX7_takeBack 42 = .ok (.getfield 9, 3) := by decide +kernel
theorem dX7_takeBack_45 : decode cX7_takeBack 45 = .ok (.iconst 1, 1) := by decide +kernel
theorem dX7_takeBack_46 : decode cX7_takeBack 46 = .ok (.isub, 1) := by decide +kernel
theorem dX7_takeBack_47 : decode cX7_takeBack 47 = .ok (.putfield 9, 3) := by decide +kernel
theorem dX7_takeBack_50 : decode cX7_takeBack 50 = .ok (.aload_n 1, 1) := by decide +kernel
theorem dX7_takeBack_51 : decode cX7_takeBack 51 = .ok (.aload 4, 2) := by decide +kernel
theorem dX7_takeBack_53 : decode cX7_takeBack 53 = .ok (.getfield 34, 3) := by decide +kernel
theorem dX7_takeBack_56 : decode cX7_takeBack 56 = .ok (.putfield 28, 3) := by decide +kernel
theorem dX7_takeBack_59 : decode cX7_takeBack 59 = .ok (.aload 4, 2) := by decide +kernel
theorem dX7_takeBack_61 : decode cX7_takeBack 61 = .ok (.getfield 39, 3) := by decide +kernel
theorem dX7_takeBack_64 : decode cX7_takeBack 64 = .ok (.iconst 0, 1) := by decide +kernel
theorem dX7_takeBack_65 : decode cX7_takeBack 65 = .ok (.aload_n 1, 1) := by decide +kernel
theorem dX7_takeBack_66 : decode cX7_takeBack 66 = .ok (.getfield 35, 3) := by decide +kernel
theorem dX7_takeBack_69 : decode cX7_takeBack 69 = .ok (.iconst 0, 1) := by decide +kernel
theorem dX7_takeBack_70 : decode cX7_takeBack 70 = .ok (.sipush 1334, 3) := by decide +kernel
theorem dX7_takeBack_73 : decode cX7_takeBack 73 = .ok (.invokestatic 40, 3) := by decide +kernel
theorem dX7_takeBack_76 : decode cX7_takeBack 76 = .ok (.aload 4, 2) := by decide +kernel
theorem dX7_takeBack_78 : decode cX7_takeBack 78 = .ok (.getfield 46, 3) := by decide +kernel
theorem dX7_takeBack_81 : decode cX7_takeBack 81 = .ok (.iconst 0, 1) := by decide +kernel
theorem dX7_takeBack_82 : decode cX7_takeBack 82 = .ok (.aload_n 2, 1) := by decide +kernel
theorem dX7_takeBack_83 : decode cX7_takeBack 83 = .ok (.iconst 0, 1) := by decide +kernel
theorem dX7_takeBack_84 : decode cX7_takeBack 84 = .ok (.iconst 4, 1) := by decide +kernel
theorem dX7_takeBack_85 : decode cX7_takeBack 85 = .ok (.invokestatic 40, 3) := by decide +kernel
theorem dX7_takeBack_88 : decode cX7_takeBack 88 = .ok (.aload 4, 2) := by decide +kernel
theorem dX7_takeBack_90 : decode cX7_takeBack 90 = .ok (.getfield 25, 3) := by decide +kernel
theorem dX7_takeBack_93 : decode cX7_takeBack 93 = .ok (.ireturn, 1) := by decide +kernel
theorem dX8_init_0 : decode cX8_init 0 = .ok (.aload_n 0, 1) := by decide +kernel
theorem dX8_init_1 : decode cX8_init 1 = .ok (.invokespecial 3, 3) := by decide +kernel
theorem dX8_init_4 : decode cX8_init 4 = .ok (.aload_n 0, 1) := by decide +kernel
theorem dX8_init_5 : decode cX8_init 5 = .ok (.new 9, 3) := by decide +kernel
theorem dX8_init_8 : decode cX8_init 8 = .ok (.dup, 1) := by decide +kernel
theorem dX8_init_9 : decode cX8_init 9 = .ok (.invokespecial 11, 3) := by decide +kernel
theorem dX8_init_12 : decode cX8_init 12 = .ok (.putfield 12, 3) := by decide +kernel
theorem dX8_init_15 : decode cX8_init 15 = .ok (.aload_n 0, 1) := by decide +kernel
theorem dX8_init_16 : decode cX8_init 16 = .ok (.sipush 400, 3) := by decide +kernel
theorem dX8_init_19 : decode cX8_init 19 = .ok (.newarray .int, 2) := by decide +kernel
theorem dX8_init_21 : decode cX8_init 21 = .ok (.putfield 18, 3) := by decide +kernel
theorem dX8_init_24 : decode cX8_init 24 = .ok (.aload_n 0, 1) := by decide +kernel
theorem dX8_init_25 : decode cX8_init 25 = .ok (.sipush 256, 3) := by decide +kernel
theorem dX8_init_28 : decode cX8_init 28 = .ok (.newarray .int, 2) := by decide +kernel
theorem dX8_init_30 : decode cX8_init 30 = .ok (.putfield 22, 3) := by decide +kernel
theorem dX8_init_33 : decode cX8_init 33 = .ok (.aload_n 0, 1) := by decide +kernel
theorem dX8_init_34 : decode cX8_init 34 = .ok (.sipush 2048, 3) := by decide +kernel
theorem dX8_init_37 : decode cX8_init 37 = .ok (.newarray .int, 2) := by decide +kernel
theorem dX8_init_39 : decode cX8_init 39 = .ok (.putfield 25, 3) := by decide +kernel
theorem dX8_init_42 : decode cX8_init 42 = .ok (.return_, 1) := by decide +kernel
theorem dX8_loadOnly_0 : decode cX8_loadOnly 0 = .ok (.aload_n 0, 1) := by decide +kernel
theorem dX8_loadOnly_1 : decode cX8_loadOnly 1 = .ok (.getfield 22, 3) := by decide +kernel
theorem dX8_loadOnly_4 : decode cX8_loadOnly 4 = .ok (.iconst (-1), 1) := by decide +kernel
theorem dX8_loadOnly_5 : decode cX8_loadOnly 5 = .ok (.invokestatic 28, 3) := by decide +kernel
theorem dX8_loadOnly_8 : decode cX8_loadOnly 8 = .ok (.aload_n 0, 1) := by decide +kernel
theorem dX8_loadOnly_9 : decode cX8_loadOnly 9 = .ok (.aload_n 1, 1) := by decide +kernel
theorem dX8_loadOnly_10 : decode cX8_loadOnly 10 = .ok (.iload_n 2, 1) := by decide +kernel
theorem dX8_loadOnly_11 : decode cX8_loadOnly 11 = .ok (.iload_n 3, 1) := by decide +kernel
theorem dX8_loadOnly_12 : decode cX8_loadOnly 12 = .ok (.invokevirtual 34, 3) := by decide +kernel
theorem dX8_loadOnly_15 : decode cX8_loadOnly 15 = .ok (.return_, 1) := by decide +kernel
theorem dX8_loadAll_0 : decode cX8_loadAll 0 = .ok (.aload_n 0, 1) := by decide +kernel
theorem dX8_loadAll_1 : decode cX8_loadAll 1 = .ok (.getfield 22, 3) := by decide +kernel
theorem dX8_loadAll_4 : decode cX8_loadAll 4 = .ok (.iconst (-1), 1) := by decide +kernel
theorem dX8_loadAll_5 : decode cX8_loadAll 5 = .ok (.invokestatic 28, 3) := by decide +kernel
theorem dX8_loadAll_8 : decode cX8_loadAll 8 = .ok (.aload_n 1, 1) := by decide +kernel
theorem dX8_loadAll_9 : decode cX8_loadAll 9 = .ok (.invokestatic 38, 3) := by decide +kernel
theorem dX8_loadAll_12 : decode cX8_loadAll 12 = .ok (.istore_n 2, 1) := by decide +kernel
theorem dX8_loadAll_13 : decode cX8_loadAll 13 = .ok (.iconst 0, 1) := by decide +kernel
theorem dX8_loadAll_14 : decode cX8_loadAll 14 = .ok (.istore_n 3, 1) := by decide +kernel
theorem dX8_loadAll_15 : decode cX8_loadAll 15 = .ok (.iload_n 3, 1) := by decide +kernel
theorem dX8_loadAll_16 : decode cX8_loadAll 16 = .ok (.iload_n 2, 1) := by decide +kernel
theorem dX8_loadAll_17 : decode cX8_loadAll 17 = .ok (.if_icmp .ge 21, 3) := by decide +kernel
theorem dX8_loadAll_20 : decode cX8_loadAll 20 = .ok (.aload_n 0, 1) := by decide +kernel
theorem dX8_loadAll_21 : decode cX8_loadAll 21 = .ok (.aload_n 1, 1) := by decide +kernel
theorem dX8_loadAll_22 : decode cX8_loadAll 22 = .ok (.aload_n 1, 1) := by decide +kernel
theorem dX8_loadAll_23 : decode cX8_loadAll 23 = .ok (.iload_n 3, 1) := by decide +kernel
theorem dX8_loadAll_24 : decode cX8_loadAll 24 = .ok (.invokestatic 44, 3) := by decide +kernel
theorem dX8_loadAll_27 : decode cX8_loadAll 27 = .ok (.bipush 64, 2) := by decide +kernel
theorem dX8_loadAll_29 : decode cX8_loadAll 29 = .ok (.invokevirtual 34, 3) := by decide +kernel
theorem dX8_loadAll_32 : decode cX8_loadAll 32 = .ok (.iinc 3 1, 3) := by decide +kernel
theorem dX8_loadAll_35 : decode cX8_loadAll 35 = .ok (.goto (-20), 3) := by decide +kernel
theorem dX8_loadAll_38 : decode cX8_loadAll 38 = .ok (.return_, 1) := by decide +kernel
theorem dX8_addPage_0 : decode cX8_addPage 0 = .ok (.aload_n 0, 1) := by decide +kernel
theorem dX8_addPage_1 : decode cX8_addPage 1 = .ok (.getfield 12, 3) := by decide +kernel
theorem dX8_addPage_4 : decode cX8_addPage 4 = .ok (.aload_n 1, 1) := by decide +kernel
theorem dX8_addPage_5 : decode cX8_addPage 5 = .ok (.iload_n 2, 1) := by decide +kernel
theorem dX8_addPage_6 : decode cX8_addPage 6 = .ok (.bipush 64, 2) := by decide +kernel
theorem dX8_addPage_8 : decode cX8_addPage 8 = .ok (.imul, 1) := by decide +kernel
theorem dX8_addPage_9 : decode cX8_addPage 9 = .ok (.iconst 2, 1) := by decide +kernel
theorem dX8_addPage_10 : decode cX8_addPage 10 = .ok (.iadd, 1) := by decide +kernel
theorem dX8_addPage_11 : decode cX8_addPage 11 = .ok (.aload_n 1, 1) := by decide +kernel
theorem dX8_addPage_12 : decode cX8_addPage 12 = .ok (.iload_n 2, 1) := by decide +kernel
theorem dX8_addPage_13 : decode cX8_addPage 13 = .ok (.invokestatic 48, 3) := by decide +kernel
theorem dX8_addPage_16 : decode cX8_addPage 16 = .ok (.aload_n 1, 1) := by decide +kernel
theorem dX8_addPage_17 : decode cX8_addPage 17 = .ok (.iload_n 2, 1) := by decide +kernel
theorem dX8_addPage_18 : decode cX8_addPage 18 = .ok (.bipush 64, 2) := by decide +kernel
theorem dX8_addPage_20 : decode cX8_addPage 20 = .ok (.imul, 1) := by decide +kernel
theorem dX8_addPage_21 : decode cX8_addPage 21 = .ok (.iaload, 1) := by decide +kernel
theorem dX8_addPage_22 : decode cX8_addPage 22 = .ok (.invokevirtual 51, 3) := by decide +kernel
theorem dX8_addPage_25 : decode cX8_addPage 25 = .ok (.istore 4, 2) := by decide +kernel
theorem dX8_addPage_27 : decode cX8_addPage 27 = .ok (.aload_n 0, 1) := by decide +kernel
theorem dX8_addPage_28 : decode cX8_addPage 28 = .ok (.iload 4, 2) := by decide +kernel
theorem dX8_addPage_30 : decode cX8_addPage 30 = .ok (.invokevirtual 55, 3) := by decide +kernel
theorem dX8_addPage_33 : decode cX8_addPage 33 = .ok (.aload_n 1, 1) := by decide +kernel
theorem dX8_addPage_34 : decode cX8_addPage 34 = .ok (.iload_n 2, 1) := by decide +kernel
theorem dX8_addPage_35 : decode cX8_addPage 35 = .ok (.invokestatic 59, 3) := by decide +kernel
theorem dX8_addPage_38 : decode cX8_addPage 38 = .ok (.istore 5, 2) := by decide +kernel
theorem dX8_addPage_40 : decode cX8_addPage 40 = .ok (.iload_n 2, 1) := by decide +kernel
theorem dX8_addPage_41 : decode cX8_addPage 41 = .ok (.iconst 1, 1) := by decide +kernel
theorem dX8_addPage_42 : decode cX8_addPage 42 = .ok (.iadd, 1) := by decide +kernel
theorem dX8_addPage_43 : decode cX8_addPage 43 = .ok (.bipush 64, 2) := by decide +kernel
theorem dX8_addPage_45 : decode cX8_addPage 45 = .ok (.imul, 1) := by decide +kernel
theorem dX8_addPage_46 : decode cX8_addPage 46 = .ok (.istore 6, 2) := by decide +kernel
theorem dX8_addPage_48 : decode cX8_addPage 48 = .ok (.iconst 0, 1) := by decide +kernel
theorem dX8_addPage_49 : decode cX8_addPage 49 = .ok (.istore 7, 2) := by decide +kernel
theorem dX8_addPage_51 : decode cX8_addPage 51 = .ok (.iload 7, 2) := by decide +kernel
theorem dX8_addPage_53 : decode cX8_addPage 53 = .ok (.bipush 64, 2) := by decide +kernel
theorem dX8_addPage_55 : decode cX8_addPage 55 = .ok (.if_icmp .ge 47, 3) := by decide +kernel
theorem dX8_addPage_58 : decode cX8_addPage 58 = .ok (.iload 7, 2) := by decide +kernel
theorem dX8_addPage_60 : decode cX8_addPage 60 = .ok (.iload_n 3, 1) := by decide +kernel
theorem dX8_addPage_61 : decode cX8_addPage 61 = .ok (.if_icmp .ge 41, 3) := by decide +kernel
theorem dX8_addPage_64 : decode cX8_addPage 64 = .ok (.aload_n 1, 1) := by decide +kernel
theorem dX8_addPage_65 : decode cX8_addPage 65 = .ok (.iload 5, 2) := by decide +kernel
theorem dX8_addPage_67 : decode cX8_addPage 67 = .ok (.iload 6, 2) := by decide +kernel
theorem dX8_addPage_69 : decode cX8_addPage 69 = .ok (.invokestatic 62, 3) := by decide +kernel
theorem dX8_addPage_72 : decode cX8_addPage 72 = .ok (.istore 8, 2) := by decide +kernel
theorem dX8_addPage_74 : decode cX8_addPage 74 = .ok (.iload 8, 2) := by decide +kernel
theorem dX8_addPage_76 : decode cX8_addPage 76 = .ok (.ifCond .ne 6, 3) := by decide +kernel
theorem dX8_addPage_79 : decode cX8_addPage 79 = .ok (.goto 23, 3) := by decide +kernel
theorem dX8_addPage_82 : decode cX8_addPage 82 = .ok (.aload_n 0, 1) := by decide +kernel
theorem dX8_addPage_83 : decode cX8_addPage 83 = .ok (.aload_n 1, 1) := by decide +kernel
theorem dX8_addPage_84 : decode cX8_addPage 84 = .ok (.iload 5, 2) := by decide +kernel
theorem dX8_addPage_86 : decode cX8_addPage 86 = .ok (.invokevirtual 68, 3) := by decide +kernel
theorem dX8_addPage_89 : decode cX8_addPage 89 = .ok (.iload 5, 2) := by decide +kernel
theorem dX8_addPage_91 : decode cX8_addPage 91 = .ok (.iload 8, 2) := by decide +kernel
theorem dX8_addPage_93 : decode cX8_addPage 93 = .ok (.iadd, 1) := by decide +kernel
theorem dX8_addPage_94 : decode cX8_addPage 94 = .ok (.istore 5, 2) := by decide +kernel
theorem dX8_addPage_96 : decode cX8_addPage 96 = .ok (.iinc 7 1, 3) := by decide +kernel
theorem dX8_addPage_99 : decode cX8_addPage 99 = .ok (.goto (-48), 3) := by decide +kernel
theorem dX8_addPage_102 : decode cX8_addPage 102 = .ok (.return_, 1) := by decide +kernel
theorem dX8_takePlain_0 : decode cX8_takePlain 0 = .ok (.aload_n 0, 1) := by decide +kernel
theorem dX8_takePlain_1 : decode cX8_takePlain 1 = .ok (.getfield 12, 3) := by decide +kernel
theorem dX8_takePlain_4 : decode cX8_takePlain 4 = .ok (.getfield 71, 3) := by decide +kernel
theorem dX8_takePlain_7 : decode cX8_takePlain 7 = .ok (.astore_n 2, 1) := by decide +kernel
theorem dX8_takePlain_8 : decode cX8_takePlain 8 = .ok (.iconst 0, 1) := by decide +kernel
theorem dX8_takePlain_9 : decode cX8_takePlain 9 = .ok (.istore_n 3, 1) := by decide +kernel
theorem dX8_takePlain_10 : decode cX8_takePlain 10 = .ok (.iconst 0, 1) := by decide +kernel
theorem dX8_takePlain_11 : decode cX8_takePlain 11 = .ok (.istore 4, 2) := by decide +kernel
theorem dX8_takePlain_13 : decode cX8_takePlain 13 = .ok (.iload 4, 2) := by decide +kernel
theorem dX8_takePlain_15 : decode cX8_takePlain 15 = .ok (.sipush 256, 3) := by decide +kernel
theorem dX8_takePlain_18 : decode cX8_takePlain 18 = .ok (.if_icmp .ge 95, 3) := by decide +kernel
theorem dX8_takePlain_21 : decode cX8_takePlain 21 = .ok (.iload_n 3, 1) := by decide +kernel
theorem dX8_takePlain_22 : decode cX8_takePlain 22 = .ok (.iconst 1, 1) := by decide +kernel
theorem dX8_takePlain_23 : decode cX8_takePlain 23 = .ok (.iadd, 1) := by decide +kernel
theorem dX8_takePlain_24 : decode cX8_takePlain 24 = .ok (.iload_n 1, 1) := by decide +kernel
theorem dX8_takePlain_25 : decode cX8_takePlain 25 = .ok (.if_icmp .ge 88, 3) := by decide +kernel
theorem dX8_takePlain_28 : decode cX8_takePlain 28 = .ok (.aload_n 2, 1) := by decide +kernel
theorem dX8_takePlain_29 : decode cX8_takePlain 29 = .ok (.iload_n 3, 1) := by decide +kernel
theorem dX8_takePlain_30 : decode cX8_takePlain 30 = .ok (.iaload, 1) := by decide +kernel
theorem dX8_takePlain_31 : decode cX8_takePlain 31 = .ok (.istore 5, 2) := by decide +kernel
theorem dX8_takePlain_33 : decode cX8_takePlain 33 = .ok (.aload_n 2, 1) := by decide +kernel
theorem dX8_takePlain_34 : decode cX8_takePlain 34 = .ok (.iload_n 3, 1) := by decide +kernel
theorem dX8_takePlain_35 : decode cX8_takePlain 35 = .ok (.iconst 1, 1) := by decide +kernel
theorem dX8_takePlain_36 : decode cX8_takePlain 36 = .ok (.iadd, 1) := by decide +kernel
theorem dX8_takePlain_37 : decode cX8_takePlain 37 = .ok (.iaload, 1) := by decide +kernel
theorem dX8_takePlain_38 : decode cX8_takePlain 38 = .ok (.istore 6, 2) := by decide +kernel
theorem dX8_takePlain_40 : decode cX8_takePlain 40 = .ok (.iload 5, 2) := by decide +kernel
theorem dX8_takePlain_42 : decode cX8_takePlain 42 = .ok (.invokestatic 74, 3) := by decide +kernel
theorem dX8_takePlain_45 : decode cX8_takePlain 45 = .ok (.ifCond .eq 68, 3) := by decide +kernel
theorem dX8_takePlain_48 : decode cX8_takePlain 48 = .ok (.iload 6, 2) := by decide +kernel
theorem dX8_takePlain_50 : decode cX8_takePlain 50 = .ok (.ifCond .lt 63, 3) := by decide +kernel
theorem dX8_takePlain_53 : decode cX8_takePlain 53 = .ok (.iload 6, 2) := by decide +kernel
theorem dX8_takePlain_55 : decode cX8_takePlain 55 = .ok (.bipush 8, 2) := by decide +kernel
theorem dX8_takePlain_57 : decode cX8_takePlain 57 = .ok (.if_icmp .gt 56, 3) := by decide +kernel
theorem dX8_takePlain_60 : decode cX8_takePlain 60 = .ok (.iload_n 3, 1) := by decide +kernel
theorem dX8_takePlain_61 : decode cX8_takePlain 61 = .ok (.iconst 2, 1) := by decide +kernel
theorem dX8_takePlain_62 : decode cX8_takePlain 62 = .ok (.iadd, 1) := by decide +kernel
theorem dX8_takePlain_63 : decode cX8_takePlain 63 = .ok (.iload 6, 2) := by decide +kernel
theorem dX8_takePlain_65 : decode cX8_takePlain 65 = .ok (.iadd, 1) := by decide +kernel
theorem dX8_takePlain_66 : decode cX8_takePlain 66 = .ok (.iload_n 1, 1) := by decide +kernel
theorem dX8_takePlain_67 : decode cX8_takePlain 67 = .ok (.if_icmp .le 6, 3) := by decide +kernel
theorem dX8_takePlain_70 : decode cX8_takePlain 70 = .ok (.goto 43, 3) := by decide +kernel
theorem dX8_takePlain_73 : decode cX8_takePlain 73 = .ok (.aload_n 0, 1) := by decide +kernel
theorem dX8_takePlain_74 : decode cX8_takePlain 74 = .ok (.getfield 22, 3) := by decide +kernel
theorem dX8_takePlain_77 : decode cX8_takePlain 77 = .ok (.iload 5, 2) := by decide +kernel
theorem dX8_takePlain_79 : decode cX8_takePlain 79 = .ok (.iload 6, 2) := by decide +kernel
theorem dX8_takePlain_81 : decode cX8_takePlain 81 = .ok (.iastore, 1) := by decide +kernel
theorem dX8_takePlain_82 : decode cX8_takePlain 82 = .ok (.aload_n 2, 1) := by decide +kernel
theorem dX8_takePlain_83 : decode cX8_takePlain 83 = .ok (.iload_n 3, 1) := by decide +kernel
theorem dX8_takePlain_84 : decode cX8_takePlain 84 = .ok (.iconst 2, 1) := by decide +kernel
theorem dX8_takePlain_85 : decode cX8_takePlain 85 = .ok (.iadd, 1) := by decide +kernel
theorem dX8_takePlain_86 : decode cX8_takePlain 86 = .ok (.aload_n 0, 1) := by decide +kernel
theorem dX8_takePlain_87 : decode cX8_takePlain 87 = .ok (.getfield 25, 3) := by decide +kernel
theorem dX8_takePlain_90 : decode cX8_takePlain 90 = .ok (.iload 5, 2) := by decide +kernel
theorem dX8_takePlain_92 : decode cX8_takePlain 92 = .ok (.bipush 8, 2) := by decide +kernel
theorem dX8_takePlain_94 : decode cX8_takePlain 94 = .ok (.imul, 1) := by decide +kernel
theorem dX8_takePlain_95 : decode cX8_takePlain 95 = .ok (.iload 6, 2) := by decide +kernel
theorem dX8_takePlain_97 : decode cX8_takePlain 97 = .ok (.invokestatic 78, 3) := by decide +kernel
theorem dX8_takePlain_100 : decode cX8_takePlain 100 = .ok (.iload_n 3, 1) := by decide +kernel
theorem dX8_takePlain_101 : decode cX8_takePlain 101 = .ok (.iconst 2, 1) := by decide +kernel
theorem dX8_takePlain_102 : decode cX8_takePlain 102 = .ok (.iload 6, 2) := by decide +kernel
theorem dX8_takePlain_104 : decode cX8_takePlain 104 = .ok (.iadd, 1) := by decide +kernel
theorem dX8_takePlain_105 : decode cX8_takePlain 105 = .ok (.iadd, 1) := by decide +kernel
theorem dX8_takePlain_106 : decode cX8_takePlain 106 = .ok (.istore_n 3, 1) := by decide +kernel
theorem dX8_takePlain_107 : decode cX8_takePlain 107 = .ok (.iinc 4 1, 3) := by decide +kernel
theorem dX8_takePlain_110 : decode cX8_takePlain 110 = .ok (.goto (-97), 3) := by decide +kernel
theorem dX8_takePlain_113 : decode cX8_takePlain 113 = .ok (.return_, 1) := by decide +kernel
theorem dX8_refusalOf_0 : decode cX8_refusalOf 0 = .ok (.aload_n 1, 1) := by decide +kernel
theorem dX8_refusalOf_1 : decode cX8_refusalOf 1 = .ok (.iload_n 2, 1) := by decide +kernel
theorem dX8_refusalOf_2 : decode cX8_refusalOf 2 = .ok (.iaload, 1) := by decide +kernel
theorem dX8_refusalOf_3 : decode cX8_refusalOf 3 = .ok (.invokestatic 84, 3) := by decide +kernel
theorem dX8_refusalOf_6 : decode cX8_refusalOf 6 = .ok (.istore_n 3, 1) := by decide +kernel
theorem dX8_refusalOf_7 : decode cX8_refusalOf 7 = .ok (.aload_n 1, 1) := by decide +kernel
theorem dX8_refusalOf_8 : decode cX8_refusalOf 8 = .ok (.iload_n 2, 1) := by decide +kernel
theorem dX8_refusalOf_9 : decode cX8_refusalOf 9 = .ok (.iaload, 1) := by decide +kernel
theorem dX8_refusalOf_10 : decode cX8_refusalOf 10 = .ok (.invokestatic 88, 3) := by decide +kernel
theorem dX8_refusalOf_13 : decode cX8_refusalOf 13 = .ok (.istore 4, 2) := by decide +kernel
theorem dX8_refusalOf_15 : decode cX8_refusalOf 15 = .ok (.aload_n 1, 1) := by decide +kernel
theorem dX8_refusalOf_16 : decode cX8_refusalOf 16 = .ok (.iload_n 2, 1) := by decide +kernel
theorem dX8_refusalOf_17 : decode cX8_refusalOf 17 = .ok (.iconst 1, 1) := by decide +kernel
theorem dX8_refusalOf_18 : decode cX8_refusalOf 18 = .ok (.iadd, 1) := by decide +kernel
theorem dX8_refusalOf_19 : decode cX8_refusalOf 19 = .ok (.iaload, 1) := by decide +kernel
theorem dX8_refusalOf_20 : decode cX8_refusalOf 20 = .ok (.sipush 255, 3) := by decide +kernel
theorem dX8_refusalOf_23 : decode cX8_refusalOf 23 = .ok (.iand, 1) := by decide +kernel
theorem dX8_refusalOf_24 : decode cX8_refusalOf 24 = .ok (.istore 5, 2) := by decide +kernel
theorem dX8_refusalOf_26 : decode cX8_refusalOf 26 = .ok (.aload_n 0, 1) := by decide +kernel
theorem dX8_refusalOf_27 : decode cX8_refusalOf 27 = .ok (.getfield 22, 3) := by decide +kernel
theorem dX8_refusalOf_30 : decode cX8_refusalOf 30 = .ok (.iload 5, 2) := by decide +kernel
theorem dX8_refusalOf_32 : decode cX8_refusalOf 32 = .ok (.iaload, 1) := by decide +kernel
theorem dX8_refusalOf_33 : decode cX8_refusalOf 33 = .ok (.istore 6, 2) := by decide +kernel
theorem dX8_refusalOf_35 : decode cX8_refusalOf 35 = .ok (.iload_n 3, 1) := by decide +kernel
theorem dX8_refusalOf_36 : decode cX8_refusalOf 36 = .ok (.iconst 1, 1) := by decide +kernel
theorem dX8_refusalOf_37 : decode cX8_refusalOf 37 = .ok (.if_icmp .ne 30, 3) := by decide +kernel
theorem dX8_refusalOf_40 : decode cX8_refusalOf 40 = .ok (.iload 6, 2) := by decide +kernel
theorem dX8_refusalOf_42 : decode cX8_refusalOf 42 = .ok (.iload 4, 2) := by decide +kernel
theorem dX8_refusalOf_44 : decode cX8_refusalOf 44 = .ok (.if_icmp .ne 21, 3) := by decide +kernel
theorem dX8_refusalOf_47 : decode cX8_refusalOf 47 = .ok (.aload_n 0, 1) := by decide +kernel
theorem dX8_refusalOf_48 : decode cX8_refusalOf 48 = .ok (.iload 5, 2) := by decide +kernel
theorem dX8_refusalOf_50 : decode cX8_refusalOf 50 = .ok (.aload_n 1, 1) := by decide +kernel
theorem dX8_refusalOf_51 : decode cX8_refusalOf 51 = .ok (.iload_n 2, 1) := by decide +kernel
theorem dX8_refusalOf_52 : decode cX8_refusalOf 52 = .ok (.iconst 2, 1) := by decide +kernel
theorem dX8_refusalOf_53 : decode cX8_refusalOf 53 = .ok (.iadd, 1) := by decide +kernel
theorem dX8_refusalOf_54 : decode cX8_refusalOf 54 = .ok (.invokevirtual 91, 3) := by decide +kernel
theorem dX8_refusalOf_57 : decode cX8_refusalOf 57 = .ok (.ifCond .eq 8, 3) := by decide +kernel
theorem dX8_refusalOf_60 : decode cX8_refusalOf 60 = .ok (.bipush (-4), 2) := by decide +kernel
theorem dX8_refusalOf_62 : decode cX8_refusalOf 62 = .ok (.goto 4, 3) := by decide +kernel
theorem dX8_refusalOf_65 : decode cX8_refusalOf 65 = .ok (.iconst 0, 1) := by decide +kernel
theorem dX8_refusalOf_66 : decode cX8_refusalOf 66 = .ok (.ireturn, 1) := by decide +kernel
theorem dX8_refusalOf_67 : decode cX8_refusalOf 67 = .ok (.iload 6, 2) := by decide +kernel
theorem dX8_refusalOf_69 : decode cX8_refusalOf 69 = .ok (.iconst (-1), 1) := by decide +kernel
theorem dX8_refusalOf_70 : decode cX8_refusalOf 70 = .ok (.if_icmp .ne 6, 3) := by decide +kernel
theorem dX8_refusalOf_73 : decode cX8_refusalOf 73 = .ok (.bipush (-2), 2) := by decide +kernel
theorem dX8_refusalOf_75 : decode cX8_refusalOf 75 = .ok (.ireturn, 1) := by decide +kernel
theorem dX8_refusalOf_76 : decode cX8_refusalOf 76 = .ok (.iload_n 3, 1) := by decide +kernel
theorem dX8_refusalOf_77 : decode cX8_refusalOf 77 = .ok (.iconst 3, 1) := by decide +kernel
theorem dX8_refusalOf_78 : decode cX8_refusalOf 78 = .ok (.if_icmp .ne 38, 3) := by decide +kernel
theorem dX8_refusalOf_81 : decode cX8_refusalOf 81 = .ok (.iload 4, 2) := by decide +kernel
theorem dX8_refusalOf_83 : decode cX8_refusalOf 83 = .ok (.iload 6, 2) := by decide +kernel
theorem dX8_refusalOf_85 : decode cX8_refusalOf 85 = .ok (.if_icmp .ge 24, 3) := by decide +kernel
theorem dX8_refusalOf_88 : decode cX8_refusalOf 88 = .ok (.aload_n 0, 1) := by decide +kernel
theorem dX8_refusalOf_89 : decode cX8_refusalOf 89 = .ok (.getfield 25, 3) := by decide +kernel
theorem dX8_refusalOf_92 : decode cX8_refusalOf 92 = .ok (.iload 5, 2) := by decide +kernel
theorem dX8_refusalOf_94 : decode cX8_refusalOf 94 = .ok (.bipush 8, 2) := by decide +kernel
theorem dX8_refusalOf_96 : decode cX8_refusalOf 96 = .ok (.imul, 1) := by decide +kernel
theorem dX8_refusalOf_97 : decode cX8_refusalOf 97 = .ok (.iload 4, 2) := by decide +kernel
theorem dX8_refusalOf_99 : decode cX8_refusalOf 99 = .ok (.iadd, 1) := by decide +kernel
theorem dX8_refusalOf_100 : decode cX8_refusalOf 100 = .ok (.iaload, 1) := by decide +kernel
theorem dX8_refusalOf_101 : decode cX8_refusalOf 101 = .ok (.aload_n 1, 1) := by decide +kernel
theorem dX8_refusalOf_102 : decode cX8_refusalOf 102 = .ok (.iload_n 2, 1) := by decide +kernel
theorem dX8_refusalOf_103 : decode cX8_refusalOf 103 = .ok (.iconst 2, 1) := by decide +kernel
theorem dX8_refusalOf_104 : decode cX8_refusalOf 104 = .ok (.iadd, 1) := by decide +kernel
theorem dX8_refusalOf_105 : decode cX8_refusalOf 105 = .ok (.iaload, 1) := by decide +kernel
theorem dX8_refusalOf_106 : decode cX8_refusalOf 106 = .ok (.if_icmp .ne 8, 3) := by decide +kernel
theorem dX8_refusalOf_109 : decode cX8_refusalOf 109 = .ok (.bipush (-4), 2) := by decide +kernel
theorem dX8_refusalOf_111 : decode cX8_refusalOf 111 = .ok (.goto 4, 3) := by decide +kernel
theorem dX8_refusalOf_114 : decode cX8_refusalOf 114 = .ok (.iconst 0, 1) := by decide +kernel
theorem dX8_refusalOf_115 : decode cX8_refusalOf 115 = .ok (.ireturn, 1) := by decide +kernel
theorem dX8_refusalOf_116 : decode cX8_refusalOf 116 = .ok (.iload_n 3, 1) := by decide +kernel
theorem dX8_refusalOf_117 : decode cX8_refusalOf 117 = .ok (.iconst 4, 1) := by decide +kernel
theorem dX8_refusalOf_118 : decode cX8_refusalOf 118 = .ok (.if_icmp .ne 18, 3) := by decide +kernel
theorem dX8_refusalOf_121 : decode cX8_refusalOf 121 = .ok (.iload 6, 2) := by decide +kernel
theorem dX8_refusalOf_123 : decode cX8_refusalOf 123 = .ok (.iload 4, 2) := by decide +kernel
theorem dX8_refusalOf_125 : decode cX8_refusalOf 125 = .ok (.iadd, 1) := by decide +kernel
theorem dX8_refusalOf_126 : decode cX8_refusalOf 126 = .ok (.bipush 8, 2) := by decide +kernel
theorem dX8_refusalOf_128 : decode cX8_refusalOf 128 = .ok (.if_icmp .le 8, 3) := by decide +kernel
theorem dX8_refusalOf_131 : decode cX8_refusalOf 131 = .ok (.bipush (-4), 2) := by decide +kernel
theorem dX8_refusalOf_133 : decode cX8_refusalOf 133 = .ok (.goto 4, 3) := by decide +kernel
theorem dX8_refusalOf_136 : decode cX8_refusalOf 136 = .ok (.iconst 0, 1) := by decide +kernel
theorem dX8_refusalOf_137 : decode cX8_refusalOf 137 = .ok (.ireturn, 1) := by decide +kernel
theorem dX8_holdsBytes_0 : decode cX8_holdsBytes 0 = .ok (.iconst 0, 1) := by decide +kernel
theorem dX8_holdsBytes_1 : decode cX8_holdsBytes 1 = .ok (.istore 4, 2) := by decide +kernel
theorem dX8_holdsBytes_3 : decode cX8_holdsBytes 3 = .ok (.iload 4, 2) := by decide +kernel
theorem dX8_holdsBytes_5 : decode cX8_holdsBytes 5 = .ok (.aload_n 0, 1) := by decide +kernel
theorem dX8_holdsBytes_6 : decode cX8_holdsBytes 6 = .ok (.getfield 22, 3) := by decide +kernel
theorem dX8_holdsBytes_9 : decode cX8_holdsBytes 9 = .ok (.iload_n 1, 1) := by decide +kernel
theorem dX8_holdsBytes_10 : decode cX8_holdsBytes 10 = .ok (.iaload, 1) := by decide +kernel
theorem dX8_holdsBytes_11 : decode cX8_holdsBytes 11 = .ok (.if_icmp .ge 32, 3) := by decide +kernel
theorem dX8_holdsBytes_14 : decode cX8_holdsBytes 14 = .ok (.aload_n 0, 1) := by decide +kernel
theorem dX8_holdsBytes_15 : decode cX8_holdsBytes 15 = .ok (.getfield 25, 3) := by decide +kernel
theorem dX8_holdsBytes_18 : decode cX8_holdsBytes 18 = .ok (.iload_n 1, 1) := by decide +kernel
theorem dX8_holdsBytes_19 : decode cX8_holdsBytes 19 = .ok (.bipush 8, 2) := by decide +kernel
theorem dX8_holdsBytes_21 : decode cX8_holdsBytes 21 = .ok (.imul, 1) := by decide +kernel
theorem dX8_holdsBytes_22 : decode cX8_holdsBytes 22 = .ok (.iload 4, 2) := by decide +kernel
theorem dX8_holdsBytes_24 : decode cX8_holdsBytes 24 = .ok (.iadd, 1) := by decide +kernel
theorem dX8_holdsBytes_25 : decode cX8_holdsBytes 25 = .ok (.iaload, 1) := by decide +kernel
theorem dX8_holdsBytes_26 : decode cX8_holdsBytes 26 = .ok (.aload_n 2, 1) := by decide +kernel
theorem dX8_holdsBytes_27 : decode cX8_holdsBytes 27 = .ok (.iload_n 3, 1) := by decide +kernel
theorem dX8_holdsBytes_28 : decode cX8_holdsBytes 28 = .ok (.iload 4, 2) := by decide +kernel
theorem dX8_holdsBytes_30 : decode cX8_holdsBytes 30 = .ok (.iadd, 1) := by decide +kernel
theorem dX8_holdsBytes_31 : decode cX8_holdsBytes 31 = .ok (.iaload, 1) := by decide +kernel
theorem dX8_holdsBytes_32 : decode cX8_holdsBytes 32 = .ok (.if_icmp .eq 5, 3) := by decide +kernel
theorem dX8_holdsBytes_35 : decode cX8_holdsBytes 35 = .ok (.iconst 0, 1) := by decide +kernel
theorem dX8_holdsBytes_36 : decode cX8_holdsBytes 36 = .ok (.ireturn, 1) := by decide +kernel
theorem dX8_holdsBytes_37 : decode cX8_holdsBytes 37 = .ok (.iinc 4 1, 3) := by decide +kernel
theorem dX8_holdsBytes_40 : decode cX8_holdsBytes 40 = .ok (.goto (-37), 3) := by decide +kernel
theorem dX8_holdsBytes_43 : decode cX8_holdsBytes 43 = .ok (.iconst 1, 1) := by decide +kernel
theorem dX8_holdsBytes_44 : decode cX8_holdsBytes 44 = .ok (.ireturn, 1) := by decide +kernel
theorem dX8_apply_0 : decode cX8_apply 0 = .ok (.aload_n 1, 1) := by decide +kernel
theorem dX8_apply_1 : decode cX8_apply 1 = .ok (.iload_n 2, 1) := by decide +kernel
theorem dX8_apply_2 : decode cX8_apply 2 = .ok (.iaload, 1) := by decide +kernel
theorem dX8_apply_3 : decode cX8_apply 3 = .ok (.invokestatic 84, 3) := by decide +kernel
theorem dX8_apply_6 : decode cX8_apply 6 = .ok (.istore_n 3, 1) := by decide +kernel
theorem dX8_apply_7 : decode cX8_apply 7 = .ok (.aload_n 1, 1) := by decide +kernel
theorem dX8_apply_8 : decode cX8_apply 8 = .ok (.iload_n 2, 1) := by decide +kernel
theorem dX8_apply_9 : decode cX8_apply 9 = .ok (.iaload, 1) := by decide +kernel
theorem dX8_apply_10 : decode cX8_apply 10 = .ok (.invokestatic 88, 3) := by decide +kernel
theorem dX8_apply_13 : decode cX8_apply 13 = .ok (.istore 4, 2) := by decide +kernel
theorem dX8_apply_15 : decode cX8_apply 15 = .ok (.aload_n 1, 1) := by decide +kernel
theorem dX8_apply_16 : decode cX8_apply 16 = .ok (.iload_n 2, 1) := by decide +kernel
theorem dX8_apply_17 : decode cX8_apply 17 = .ok (.iconst 1, 1) := by decide +kernel
theorem dX8_apply_18 : decode cX8_apply 18 = .ok (.iadd, 1) := by decide +kernel
theorem dX8_apply_19 : decode cX8_apply 19 = .ok (.iaload, 1) := by decide +kernel
theorem dX8_apply_20 : decode cX8_apply 20 = .ok (.sipush 255, 3) := by decide +kernel
theorem dX8_apply_23 : decode cX8_apply 23 = .ok (.iand, 1) := by decide +kernel
theorem dX8_apply_24 : decode cX8_apply 24 = .ok (.istore 5, 2) := by decide +kernel
theorem dX8_apply_26 : decode cX8_apply 26 = .ok (.iload 5, 2) := by decide +kernel
theorem dX8_apply_28 : decode cX8_apply 28 = .ok (.bipush 8, 2) := by decide +kernel
theorem dX8_apply_30 : decode cX8_apply 30 = .ok (.imul, 1) := by decide +kernel
theorem dX8_apply_31 : decode cX8_apply 31 = .ok (.istore 6, 2) := by decide +kernel
theorem dX8_apply_33 : decode cX8_apply 33 = .ok (.iload_n 3, 1) := by decide +kernel
theorem dX8_apply_34 : decode cX8_apply 34 = .ok (.iconst 1, 1) := by decide +kernel
theorem dX8_apply_35 : decode cX8_apply 35 = .ok (.if_icmp .ne 30, 3) := by decide +kernel
theorem dX8_apply_38 : decode cX8_apply 38 = .ok (.aload_n 1, 1) := by decide +kernel
theorem dX8_apply_39 : decode cX8_apply 39 = .ok (.iload_n 2, 1) := by decide +kernel
theorem dX8_apply_40 : decode cX8_apply 40 = .ok (.iconst 2, 1) := by decide +kernel
theorem dX8_apply_41 : decode cX8_apply 41 = .ok (.iadd, 1) := by decide +kernel
theorem dX8_apply_42 : decode cX8_apply 42 = .ok (.aload_n 0, 1) := by decide +kernel
theorem dX8_apply_43 : decode cX8_apply 43 = .ok (.getfield 25, 3) := by decide +kernel
theorem dX8_apply_46 : decode cX8_apply 46 = .ok (.iload 6, 2) := by decide +kernel
theorem dX8_apply_48 : decode cX8_apply 48 = .ok (.iload 4, 2) := by decide +kernel
theorem dX8_apply_50 : decode cX8_apply 50 = .ok (.invokestatic 78, 3) := by decide +kernel
theorem dX8_apply_53 : decode cX8_apply 53 = .ok (.aload_n 0, 1) := by decide +kernel
theorem dX8_apply_54 : decode cX8_apply 54 = .ok (.getfield 22, 3) := by decide +kernel
theorem dX8_apply_57 : decode cX8_apply 57 = .ok (.iload 5, 2) := by decide +kernel
theorem dX8_apply_59 : decode cX8_apply 59 = .ok (.iload 4, 2) := by decide +kernel
theorem dX8_apply_61 : decode cX8_apply 61 = .ok (.iastore, 1) := by decide +kernel
theorem dX8_apply_62 : decode cX8_apply 62 = .ok (.goto 120, 3) := by decide +kernel
theorem dX8_apply_65 : decode cX8_apply 65 = .ok (.iload_n 3, 1) := by decide +kernel
theorem dX8_apply_66 : decode cX8_apply 66 = .ok (.iconst 2, 1) := by decide +kernel
theorem dX8_apply_67 : decode cX8_apply 67 = .ok (.if_icmp .ne 14, 3) := by decide +kernel
theorem dX8_apply_70 : decode cX8_apply 70 = .ok (.aload_n 0, 1) := by decide +kernel
theorem dX8_apply_71 : decode cX8_apply 71 = .ok (.getfield 22, 3) := by decide +kernel
theorem dX8_apply_74 : decode cX8_apply 74 = .ok (.iload 5, 2) := by decide +kernel
theorem dX8_apply_76 : decode cX8_apply 76 = .ok (.iconst (-1), 1) := by decide +kernel
theorem dX8_apply_77 : decode cX8_apply 77 = .ok (.iastore, 1) := by decide +kernel
theorem dX8_apply_78 : decode cX8_apply 78 = .ok (.goto 104, 3) := by decide +kernel
theorem dX8_apply_81 : decode cX8_apply 81 = .ok (.iload_n 3, 1) := by decide +kernel
theorem dX8_apply_82 : decode cX8_apply 82 = .ok (.iconst 3, 1) := by decide +kernel
theorem dX8_apply_83 : decode cX8_apply 83 = .ok (.if_icmp .ne 33, 3) := by decide +kernel
theorem dX8_apply_86 : decode cX8_apply 86 = .ok (.iload 4, 2) := by decide +kernel
theorem dX8_apply_88 : decode cX8_apply 88 = .ok (.aload_n 0, 1) := by decide +kernel
theorem dX8_apply_89 : decode cX8_apply 89 = .ok (.getfield 22, 3) := by decide +kernel
theorem dX8_apply_92 : decode cX8_apply 92 = .ok (.iload 5, 2) := by decide +kernel
theorem dX8_apply_94 : decode cX8_apply 94 = .ok (.iaload, 1) := by decide +kernel
theorem dX8_apply_95 : decode cX8_apply 95 = .ok (.if_icmp .ge 21, 3) := by decide +kernel
theorem dX8_apply_98 : decode cX8_apply 98 = .ok (.aload_n 0, 1) := by decide +kernel
theorem dX8_apply_99 : decode cX8_apply 99 = .ok (.getfield 25, 3) := by decide +kernel
theorem dX8_apply_102 : decode cX8_apply 102 = .ok (.iload 6, 2) := by decide +kernel
theorem dX8_apply_104 : decode cX8_apply 104 = .ok (.iload 4, 2) := by decide +kernel
theorem dX8_apply_106 : decode cX8_apply 106 = .ok (.iadd, 1) := by decide +kernel
theorem dX8_apply_107 : decode cX8_apply 107 = .ok (.aload_n 1, 1) := by decide +kernel
theorem dX8_apply_108 : decode cX8_apply 108 = .ok (.iload_n 2, 1) := by decide +kernel
theorem dX8_apply_109 : decode cX8_apply 109 = .ok (.iconst 2, 1) := by decide +kernel
theorem dX8_apply_110 : decode cX8_apply 110 = .ok (.iadd, 1) := by decide +kernel
theorem dX8_apply_111 : decode cX8_apply 111 = .ok (.iaload, 1) := by decide +kernel
theorem dX8_apply_112 : decode cX8_apply 112 = .ok (.iastore, 1) := by decide +kernel
theorem dX8_apply_113 : decode cX8_apply 113 = .ok (.goto 69, 3) := by decide +kernel
theorem dX8_apply_116 : decode cX8_apply 116 = .ok (.iload_n 3, 1) := by decide +kernel
theorem dX8_apply_117 : decode cX8_apply 117 = .ok (.iconst 4, 1) := by decide +kernel
theorem dX8_apply_118 : decode cX8_apply 118 = .ok (.if_icmp .ne 64, 3) := by decide +kernel
theorem dX8_apply_121 : decode cX8_apply 121 = .ok (.aload_n 0, 1) := by decide +kernel
theorem dX8_apply_122 : decode cX8_apply 122 = .ok (.getfield 22, 3) := by decide +kernel
theorem dX8_apply_125 : decode cX8_apply 125 = .ok (.iload 5, 2) := by decide +kernel
theorem dX8_apply_127 : decode cX8_apply 127 = .ok (.iaload, 1) := by decide +kernel
theorem dX8_apply_128 : decode cX8_apply 128 = .ok (.iconst (-1), 1) := by decide +kernel
theorem dX8_apply_129 : decode cX8_apply 129 = .ok (.if_icmp .eq 53, 3) := by decide +kernel
theorem dX8_apply_132 : decode cX8_apply 132 = .ok (.aload_n 0, 1) := by decide +kernel
theorem dX8_apply_133 : decode cX8_apply 133 = .ok (.getfield 22, 3) := by decide +kernel
theorem dX8_apply_136 : decode cX8_apply 136 = .ok (.iload 5, 2) := by decide +kernel
theorem dX8_apply_138 : decode cX8_apply 138 = .ok (.iaload, 1) := by decide +kernel
theorem dX8_apply_139 : decode cX8_apply 139 = .ok (.iload 4, 2) := by decide +kernel
theorem dX8_apply_141 : decode cX8_apply 141 = .ok (.iadd, 1) := by decide +kernel
theorem dX8_apply_142 : decode cX8_apply 142 = .ok (.bipush 8, 2) := by decide +kernel
theorem dX8_apply_144 : decode cX8_apply 144 = .ok (.if_icmp .gt 38, 3) := by decide +kernel
theorem dX8_apply_147 : decode cX8_apply 147 = .ok (.aload_n 1, 1) := by decide +kernel
theorem dX8_apply_148 : decode cX8_apply 148 = .ok (.iload_n 2, 1) := by decide +kernel
theorem dX8_apply_149 : decode cX8_apply 149 = .ok (.iconst 2, 1) := by decide +kernel
theorem dX8_apply_150 : decode cX8_apply 150 = .ok (.iadd, 1) := by decide +kernel
theorem dX8_apply_151 : decode cX8_apply 151 = .ok (.aload_n 0, 1) := by decide +kernel
theorem dX8_apply_152 : decode cX8_apply 152 = .ok (.getfield 25, 3) := by decide +kernel
theorem dX8_apply_155 : decode cX8_apply 155 = .ok (.iload 6, 2) := by decide +kernel
theorem dX8_apply_157 : decode cX8_apply 157 = .ok (.aload_n 0, 1) := by decide +kernel
theorem dX8_apply_158 : decode cX8_apply 158 = .ok (.getfield 22, 3) := by decide +kernel
theorem dX8_apply_161 : decode cX8_apply 161 = .ok (.iload 5, 2) := by decide +kernel
theorem dX8_apply_163 : decode cX8_apply 163 = .ok (.iaload, 1) := by decide +kernel
theorem dX8_apply_164 : decode cX8_apply 164 = .ok (.iadd, 1) := by decide +kernel
theorem dX8_apply_165 : decode cX8_apply 165 = .ok (.iload 4, 2) := by decide +kernel
theorem dX8_apply_167 : decode cX8_apply 167 = .ok (.invokestatic 78, 3) := by decide +kernel
theorem dX8_apply_170 : decode cX8_apply 170 = .ok (.aload_n 0, 1) := by decide +kernel
theorem dX8_apply_171 : decode cX8_apply 171 = .ok (.getfield 22, 3) := by decide +kernel
theorem dX8_apply_174 : decode cX8_apply 174 = .ok (.iload 5, 2) := by decide +kernel
theorem dX8_apply_176 : decode cX8_apply 176 = .ok (.dup2, 1) := by decide +kernel
theorem dX8_apply_177 : decode cX8_apply 177 = .ok (.iaload, 1) := by decide +kernel
theorem dX8_apply_178 : decode cX8_apply 178 = .ok (.iload 4, 2) := by decide +kernel
theorem dX8_apply_180 : decode cX8_apply 180 = .ok (.iadd, 1) := by decide +kernel
theorem dX8_apply_181 : decode cX8_apply 181 = .ok (.iastore, 1) := by decide +kernel
theorem dX8_apply_182 : decode cX8_apply 182 = .ok (.return_, 1) := by decide +kernel
theorem dX8_sizeOf_0 : decode cX8_sizeOf 0 = .ok (.iload_n 1, 1) := by decide +kernel
theorem dX8_sizeOf_1 : decode cX8_sizeOf 1 = .ok (.invokestatic 74, 3) := by decide +kernel
theorem dX8_sizeOf_4 : decode cX8_sizeOf 4 = .ok (.ifCond .eq 12, 3) := by decide +kernel
theorem dX8_sizeOf_7 : decode cX8_sizeOf 7 = .ok (.aload_n 0, 1) := by decide +kernel
theorem dX8_sizeOf_8 : decode cX8_sizeOf 8 = .ok (.getfield 22, 3) := by decide +kernel
theorem dX8_sizeOf_11 : decode cX8_sizeOf 11 = .ok (.iload_n 1, 1) := by decide +kernel
theorem dX8_sizeOf_12 : decode cX8_sizeOf 12 = .ok (.iaload, 1) := by decide +kernel
theorem dX8_sizeOf_13 : decode cX8_sizeOf 13 = .ok (.goto 4, 3) := by decide +kernel
theorem dX8_sizeOf_16 : decode cX8_sizeOf 16 = .ok (.iconst (-1), 1) := by decide +kernel
theorem dX8_sizeOf_17 : decode cX8_sizeOf 17 = .ok (.ireturn, 1) := by decide +kernel
theorem dX8_byteOf_0 : decode cX8_byteOf 0 = .ok (.iload_n 2, 1) := by decide +kernel
theorem dX8_byteOf_1 : decode cX8_byteOf 1 = .ok (.ifCond .lt 26, 3) := by decide +kernel
theorem dX8_byteOf_4 : decode cX8_byteOf 4 = .ok (.iload_n 2, 1) := by decide +kernel
theorem dX8_byteOf_5 : decode cX8_byteOf 5 = .ok (.aload_n 0, 1) := by decide +kernel
theorem dX8_byteOf_6 : decode cX8_byteOf 6 = .ok (.iload_n 1, 1) := by decide +kernel
theorem dX8_byteOf_7 : decode cX8_byteOf 7 = .ok (.invokevirtual 95, 3) := by decide +kernel
theorem dX8_byteOf_10 : decode cX8_byteOf 10 = .ok (.if_icmp .ge 17, 3) := by decide +kernel
theorem dX8_byteOf_13 : decode cX8_byteOf 13 = .ok (.aload_n 0, 1) := by decide +kernel
theorem dX8_byteOf_14 : decode cX8_byteOf 14 = .ok (.getfield 25, 3) := by decide +kernel
theorem dX8_byteOf_17 : decode cX8_byteOf 17 = .ok (.iload_n 1, 1) := by decide +kernel
theorem dX8_byteOf_18 : decode cX8_byteOf 18 = .ok (.bipush 8, 2) := by decide +kernel
theorem dX8_byteOf_20 : decode cX8_byteOf 20 = .ok (.imul, 1) := by decide +kernel
theorem dX8_byteOf_21 : decode cX8_byteOf 21 = .ok (.iload_n 2, 1) := by decide +kernel
theorem dX8_byteOf_22 : decode cX8_byteOf 22 = .ok (.iadd, 1) := by decide +kernel
theorem dX8_byteOf_23 : decode cX8_byteOf 23 = .ok (.iaload, 1) := by decide +kernel
theorem dX8_byteOf_24 : decode cX8_byteOf 24 = .ok (.goto 4, 3) := by decide +kernel
theorem dX8_byteOf_27 : decode cX8_byteOf 27 = .ok (.iconst (-1), 1) := by decide +kernel
theorem dX8_byteOf_28 : decode cX8_byteOf 28 = .ok (.ireturn, 1) := by decide +kernel
theorem dX8_countIn_0 : decode cX8_countIn 0 = .ok (.iconst 0, 1) := by decide +kernel
theorem dX8_countIn_1 : decode cX8_countIn 1 = .ok (.istore_n 3, 1) := by decide +kernel
theorem dX8_countIn_2 : decode cX8_countIn 2 = .ok (.iload_n 1, 1) := by decide +kernel
theorem dX8_countIn_3 : decode cX8_countIn 3 = .ok (.istore 4, 2) := by decide +kernel
theorem dX8_countIn_5 : decode cX8_countIn 5 = .ok (.iload 4, 2) := by decide +kernel
theorem dX8_countIn_7 : decode cX8_countIn 7 = .ok (.iload_n 2, 1) := by decide +kernel
theorem dX8_countIn_8 : decode cX8_countIn 8 = .ok (.if_icmp .ge 23, 3) := by decide +kernel
theorem dX8_countIn_11 : decode cX8_countIn 11 = .ok (.aload_n 0, 1) := by decide +kernel
theorem dX8_countIn_12 : decode cX8_countIn 12 = .ok (.getfield 22, 3) := by decide +kernel
theorem dX8_countIn_15 : decode cX8_countIn 15 = .ok (.iload 4, 2) := by decide +kernel
theorem dX8_countIn_17 : decode cX8_countIn 17 = .ok (.iaload, 1) := by decide +kernel
theorem dX8_countIn_18 : decode cX8_countIn 18 = .ok (.iconst (-1), 1) := by decide +kernel
theorem dX8_countIn_19 : decode cX8_countIn 19 = .ok (.if_icmp .eq 6, 3) := by decide +kernel
theorem dX8_countIn_22 : decode cX8_countIn 22 = .ok (.iinc 3 1, 3) := by decide +kernel
theorem dX8_countIn_25 : decode cX8_countIn 25 = .ok (.iinc 4 1, 3) := by decide +kernel
theorem dX8_countIn_28 : decode cX8_countIn 28 = .ok (.goto (-23), 3) := by decide +kernel
theorem dX8_countIn_31 : decode cX8_countIn 31 = .ok (.iload_n 3, 1) := by decide +kernel
theorem dX8_countIn_32 : decode cX8_countIn 32 = .ok (.ireturn, 1) := by decide +kernel
theorem dX8_plainSize_0 : decode cX8_plainSize 0 = .ok (.iconst 0, 1) := by decide +kernel
theorem dX8_plainSize_1 : decode cX8_plainSize 1 = .ok (.istore_n 3, 1) := by decide +kernel
theorem dX8_plainSize_2 : decode cX8_plainSize 2 = .ok (.iload_n 1, 1) := by decide +kernel
theorem dX8_plainSize_3 : decode cX8_plainSize 3 = .ok (.istore 4, 2) := by decide +kernel
theorem dX8_plainSize_5 : decode cX8_plainSize 5 = .ok (.iload 4, 2) := by decide +kernel
theorem dX8_plainSize_7 : decode cX8_plainSize 7 = .ok (.iload_n 2, 1) := by decide +kernel
theorem dX8_plainSize_8 : decode cX8_plainSize 8 = .ok (.if_icmp .ge 32, 3) := by decide +kernel
theorem dX8_plainSize_11 : decode cX8_plainSize 11 = .ok (.aload_n 0, 1) := by decide +kernel
theorem dX8_plainSize_12 : decode cX8_plainSize 12 = .ok (.getfield 22, 3) := by decide +kernel
theorem dX8_plainSize_15 : decode cX8_plainSize 15 = .ok (.iload 4, 2) := by decide +kernel
theorem dX8_plainSize_17 : decode cX8_plainSize 17 = .ok (.iaload, 1) := by decide +kernel
theorem dX8_plainSize_18 : decode cX8_plainSize 18 = .ok (.iconst (-1), 1) := by decide +kernel
theorem dX8_plainSize_19 : decode cX8_plainSize 19 = .ok (.if_icmp .eq 15, 3) := by decide +kernel
theorem dX8_plainSize_22 : decode cX8_plainSize 22 = .ok (.iload_n 3, 1) := by decide +kernel
theorem dX8_plainSize_23 : decode cX8_plainSize 23 = .ok (.iconst 2, 1) := by decide +kernel
theorem dX8_plainSize_24 : decode cX8_plainSize 24 = .ok (.aload_n 0, 1) := by decide +kernel
theorem dX8_plainSize_25 : decode cX8_plainSize 25 = .ok (.getfield 22, 3) := by decide +kernel
theorem dX8_plainSize_28 : decode cX8_plainSize 28 = .ok (.iload 4, 2) := by decide +kernel
theorem dX8_plainSize_30 : decode cX8_plainSize 30 = .ok (.iaload, 1) := by decide +kernel
theorem dX8_plainSize_31 : decode cX8_plainSize 31 = .ok (.iadd, 1) := by decide +kernel
theorem dX8_plainSize_32 : decode cX8_plainSize 32 = .ok (.iadd, 1) := by decide +kernel
theorem dX8_plainSize_33 : decode cX8_plainSize 33 = .ok (.istore_n 3, 1) := by decide +kernel
theorem dX8_plainSize_34 : decode cX8_plainSize 34 = .ok (.iinc 4 1, 3) := by decide +kernel
theorem dX8_plainSize_37 : decode cX8_plainSize 37 = .ok (.goto (-32), 3) := by decide +kernel
theorem dX8_plainSize_40 : decode cX8_plainSize 40 = .ok (.iload_n 3, 1) := by decide +kernel
theorem dX8_plainSize_41 : decode cX8_plainSize 41 = .ok (.ireturn, 1) := by decide +kernel
theorem dX8_lowestIn_0 : decode cX8_lowestIn 0 = .ok (.iload_n 1, 1) := by decide +kernel
theorem dX8_lowestIn_1 : decode cX8_lowestIn 1 = .ok (.istore_n 3, 1) := by decide +kernel
theorem dX8_lowestIn_2 : decode cX8_lowestIn 2 = .ok (.iload_n 3, 1) := by decide +kernel
theorem dX8_lowestIn_3 : decode cX8_lowestIn 3 = .ok (.iload_n 2, 1) := by decide +kernel
theorem dX8_lowestIn_4 : decode cX8_lowestIn 4 = .ok (.if_icmp .ge 21, 3) := by decide +kernel
theorem dX8_lowestIn_7 : decode cX8_lowestIn 7 = .ok (.aload_n 0, 1) := by decide +kernel
theorem dX8_lowestIn_8 : decode cX8_lowestIn 8 = .ok (.getfield 22, 3) := by decide +kernel
theorem dX8_lowestIn_11 : decode cX8_lowestIn 11 = .ok (.iload_n 3, 1) := by decide +kernel
theorem dX8_lowestIn_12 : decode cX8_lowestIn 12 = .ok (.iaload, 1) := by decide +kernel
theorem dX8_lowestIn_13 : decode cX8_lowestIn 13 = .ok (.iconst (-1), 1) := by decide +kernel
theorem dX8_lowestIn_14 : decode cX8_lowestIn 14 = .ok (.if_icmp .eq 5, 3) := by decide +kernel
theorem dX8_lowestIn_17 : decode cX8_lowestIn 17 = .ok (.iload_n 3, 1) := by decide +kernel
theorem dX8_lowestIn_18 : decode cX8_lowestIn 18 = .ok (.ireturn, 1) := by decide +kernel
theorem dX8_lowestIn_19 : decode cX8_lowestIn 19 = .ok (.iinc 3 1, 3) := by decide +kernel
theorem dX8_lowestIn_22 : decode cX8_lowestIn 22 = .ok (.goto (-20), 3) := by decide +kernel
theorem dX8_lowestIn_25 : decode cX8_lowestIn 25 = .ok (.iconst (-1), 1) := by decide +kernel
theorem dX8_lowestIn_26 : decode cX8_lowestIn 26 = .ok (.ireturn, 1) := by decide +kernel
theorem dX8_cutOf_0 : decode cX8_cutOf 0 = .ok (.aload_n 0, 1) := by decide +kernel
theorem dX8_cutOf_1 : decode cX8_cutOf 1 = .ok (.iload_n 1, 1) := by decide +kernel
theorem dX8_cutOf_2 : decode cX8_cutOf 2 = .ok (.iload_n 2, 1) := by decide +kernel
theorem dX8_cutOf_3 : decode cX8_cutOf 3 = .ok (.invokevirtual 98, 3) := by decide +kernel
theorem dX8_cutOf_6 : decode cX8_cutOf 6 = .ok (.iconst 2, 1) := by decide +kernel
theorem dX8_cutOf_7 : decode cX8_cutOf 7 = .ok (.idiv, 1) := by decide +kernel
theorem dX8_cutOf_8 : decode cX8_cutOf 8 = .ok (.istore_n 3, 1) := by decide +kernel
theorem dX8_cutOf_9 : decode cX8_cutOf 9 = .ok (.iconst 0, 1) := by decide +kernel
theorem dX8_cutOf_10 : decode cX8_cutOf 10 = .ok (.istore 4, 2) := by decide +kernel
theorem dX8_cutOf_12 : decode cX8_cutOf 12 = .ok (.iload_n 1, 1) := by decide +kernel
theorem dX8_cutOf_13 : decode cX8_cutOf 13 = .ok (.istore 5, 2) := by decide +kernel
theorem dX8_cutOf_15 : decode cX8_cutOf 15 = .ok (.iload 5, 2) := by decide +kernel
theorem dX8_cutOf_17 : decode cX8_cutOf 17 = .ok (.iload_n 2, 1) := by decide +kernel
theorem dX8_cutOf_18 : decode cX8_cutOf 18 = .ok (.if_icmp .ge 32, 3) := by decide +kernel
theorem dX8_cutOf_21 : decode cX8_cutOf 21 = .ok (.aload_n 0, 1) := by decide +kernel
theorem dX8_cutOf_22 : decode cX8_cutOf 22 = .ok (.getfield 22, 3) := by decide +kernel
theorem dX8_cutOf_25 : decode cX8_cutOf 25 = .ok (.iload 5, 2) := by decide +kernel
theorem dX8_cutOf_27 : decode cX8_cutOf 27 = .ok (.iaload, 1) := by decide +kernel
theorem dX8_cutOf_28 : decode cX8_cutOf 28 = .ok (.iconst (-1), 1) := by decide +kernel
theorem dX8_cutOf_29 : decode cX8_cutOf 29 = .ok (.if_icmp .eq 15, 3) := by decide +kernel
theorem dX8_cutOf_32 : decode cX8_cutOf 32 = .ok (.iload 4, 2) := by decide +kernel
theorem dX8_cutOf_34 : decode cX8_cutOf 34 = .ok (.iload_n 3, 1) := by decide +kernel
theorem dX8_cutOf_35 : decode cX8_cutOf 35 = .ok (.if_icmp .ne 6, 3) := by decide +kernel
theorem dX8_cutOf_38 : decode cX8_cutOf 38 = .ok (.iload 5, 2) := by decide +kernel
theorem dX8_cutOf_40 : decode cX8_cutOf 40 = .ok (.ireturn, 1) := by decide +kernel
theorem dX8_cutOf_41 : decode cX8_cutOf 41 = .ok (.iinc 4 1, 3) := by decide +kernel
theorem dX8_cutOf_44 : decode cX8_cutOf 44 = .ok (.iinc 5 1, 3) := by decide +kernel
theorem dX8_cutOf_47 : decode cX8_cutOf 47 = .ok (.goto (-32), 3) := by decide +kernel
theorem dX8_cutOf_50 : decode cX8_cutOf 50 = .ok (.iload_n 2, 1) := by decide +kernel
theorem dX8_cutOf_51 : decode cX8_cutOf 51 = .ok (.ireturn, 1) := by decide +kernel
theorem dX8_layOut_0 : decode cX8_layOut 0 = .ok (.iconst 0, 1) := by decide +kernel
theorem dX8_layOut_1 : decode cX8_layOut 1 = .ok (.istore_n 3, 1) := by decide +kernel
theorem dX8_layOut_2 : decode cX8_layOut 2 = .ok (.iload_n 1, 1) := by decide +kernel
theorem dX8_layOut_3 : decode cX8_layOut 3 = .ok (.istore 4, 2) := by decide +kernel
theorem dX8_layOut_5 : decode cX8_layOut 5 = .ok (.iload 4, 2) := by decide +kernel
theorem dX8_layOut_7 : decode cX8_layOut 7 = .ok (.iload_n 2, 1) := by decide +kernel
theorem dX8_layOut_8 : decode cX8_layOut 8 = .ok (.if_icmp .ge 84, 3) := by decide +kernel
theorem dX8_layOut_11 : decode cX8_layOut 11 = .ok (.aload_n 0, 1) := by decide +kernel
theorem dX8_layOut_12 : decode cX8_layOut 12 = .ok (.getfield 22, 3) := by decide +kernel
theorem dX8_layOut_15 : decode cX8_layOut 15 = .ok (.iload 4, 2) := by decide +kernel
theorem dX8_layOut_17 : decode cX8_layOut 17 = .ok (.iaload, 1) := by decide +kernel
theorem dX8_layOut_18 : decode cX8_layOut 18 = .ok (.istore 5, 2) := by decide +kernel
theorem dX8_layOut_20 : decode cX8_layOut 20 = .ok (.iload 5, 2) := by decide +kernel
theorem dX8_layOut_22 : decode cX8_layOut 22 = .ok (.iconst (-1), 1) := by decide +kernel
theorem dX8_layOut_23 : decode cX8_layOut 23 = .ok (.if_icmp .eq 63, 3) := by decide +kernel
theorem dX8_layOut_26 : decode cX8_layOut 26 = .ok (.iload_n 3, 1) := by decide +kernel
theorem dX8_layOut_27 : decode cX8_layOut 27 = .ok (.iconst 2, 1) := by decide +kernel
theorem dX8_layOut_28 : decode cX8_layOut 28 = .ok (.iadd, 1) := by decide +kernel
theorem dX8_layOut_29 : decode cX8_layOut 29 = .ok (.iload 5, 2) := by decide +kernel
theorem dX8_layOut_31 : decode cX8_layOut 31 = .ok (.iadd, 1) := by decide +kernel
theorem dX8_layOut_32 : decode cX8_layOut 32 = .ok (.aload_n 0, 1) := by decide +kernel
theorem dX8_layOut_33 : decode cX8_layOut 33 = .ok (.getfield 18, 3) := by decide +kernel
theorem dX8_layOut_36 : decode cX8_layOut 36 = .ok (.arraylength, 1) := by decide +kernel
theorem dX8_layOut_37 : decode cX8_layOut 37 = .ok (.if_icmp .gt 49, 3) := by decide +kernel
theorem dX8_layOut_40 : decode cX8_layOut 40 = .ok (.aload_n 0, 1) := by decide +kernel
theorem dX8_layOut_41 : decode cX8_layOut 41 = .ok (.getfield 18, 3) := by decide +kernel
theorem dX8_layOut_44 : decode cX8_layOut 44 = .ok (.iload_n 3, 1) := by decide +kernel
theorem dX8_layOut_45 : decode cX8_layOut 45 = .ok (.iload 4, 2) := by decide +kernel
theorem dX8_layOut_47 : decode cX8_layOut 47 = .ok (.iastore, 1) := by decide +kernel
theorem dX8_layOut_48 : decode cX8_layOut 48 = .ok (.aload_n 0, 1) := by decide +kernel
theorem dX8_layOut_49 : decode cX8_layOut 49 = .ok (.getfield 18, 3) := by decide +kernel
theorem dX8_layOut_52 : decode cX8_layOut 52 = .ok (.iload_n 3, 1) := by decide +kernel
theorem dX8_layOut_53 : decode cX8_layOut 53 = .ok (.iconst 1, 1) := by decide +kernel
theorem dX8_layOut_54 : decode cX8_layOut 54 = .ok (.iadd, 1) := by decide +kernel
theorem dX8_layOut_55 : decode cX8_layOut 55 = .ok (.iload 5, 2) := by decide +kernel
theorem dX8_layOut_57 : decode cX8_layOut 57 = .ok (.iastore, 1) := by decide +kernel
theorem dX8_layOut_58 : decode cX8_layOut 58 = .ok (.aload_n 0, 1) := by decide +kernel
theorem dX8_layOut_59 : decode cX8_layOut 59 = .ok (.getfield 25, 3) := by decide +kernel
theorem dX8_layOut_62 : decode cX8_layOut 62 = .ok (.iload 4, 2) := by decide +kernel
theorem dX8_layOut_64 : decode cX8_layOut 64 = .ok (.bipush 8, 2) := by decide +kernel
theorem dX8_layOut_66 : decode cX8_layOut 66 = .ok (.imul, 1) := by decide +kernel
theorem dX8_layOut_67 : decode cX8_layOut 67 = .ok (.aload_n 0, 1) := by decide +kernel
theorem dX8_layOut_68 : decode cX8_layOut 68 = .ok (.getfield 18, 3) := by decide +kernel
theorem dX8_layOut_71 : decode cX8_layOut 71 = .ok (.iload_n 3, 1) := by decide +kernel
theorem dX8_layOut_72 : decode cX8_layOut 72 = .ok (.iconst 2, 1) := by decide +kernel
theorem dX8_layOut_73 : decode cX8_layOut 73 = .ok (.iadd, 1) := by decide +kernel
theorem dX8_layOut_74 : decode cX8_layOut 74 = .ok (.iload 5, 2) := by decide +kernel
theorem dX8_layOut_76 : decode cX8_layOut 76 = .ok (.invokestatic 78, 3) := by decide +kernel
theorem dX8_layOut_79 : decode cX8_layOut 79 = .ok (.iload_n 3, 1) := by decide +kernel
theorem dX8_layOut_80 : decode cX8_layOut 80 = .ok (.iconst 2, 1) := by decide +kernel
theorem dX8_layOut_81 : decode cX8_layOut 81 = .ok (.iload 5, 2) := by decide +kernel
theorem dX8_layOut_83 : decode cX8_layOut 83 = .ok (.iadd, 1) := by decide +kernel
theorem dX8_layOut_84 : decode cX8_layOut 84 = .ok (.iadd, 1) := by decide +kernel
theorem dX8_layOut_85 : decode cX8_layOut 85 = .ok (.istore_n 3, 1) := by decide +kernel
theorem dX8_layOut_86 : decode cX8_layOut 86 = .ok (.iinc 4 1, 3) := by decide +kernel
theorem dX8_layOut_89 : decode cX8_layOut 89 = .ok (.goto (-84), 3) := by decide +kernel
theorem dX8_layOut_92 : decode cX8_layOut 92 = .ok (.iload_n 3, 1) := by decide +kernel
theorem dX8_layOut_93 : decode cX8_layOut 93 = .ok (.ireturn, 1) := by decide +kernel
theorem dX9_init_0 : decode cX9_init 0 = .ok (.aload_n 0, 1) := by decide +kernel
theorem dX9_init_1 : decode cX9_init 1 = .ok (.invokespecial 3, 3) := by decide +kernel
theorem dX9_init_4 : decode cX9_init 4 = .ok (.aload_n 0, 1) := by decide +kernel
theorem dX9_init_5 : decode cX9_init 5 = .ok (.iconst 5, 1) := by decide +kernel
theorem dX9_init_6 : decode cX9_init 6 = .ok (.newarray .int, 2) := by decide +kernel
theorem dX9_init_8 : decode cX9_init 8 = .ok (.dup, 1) := by decide +kernel
theorem dX9_init_9 : decode cX9_init 9 = .ok (.iconst 0, 1) := by decide +kernel
theorem dX9_init_10 : decode cX9_init 10 = .ok (.iconst 4, 1) := by decide +kernel
theorem dX9_init_11 : decode cX9_init 11 = .ok (.iastore, 1) := by decide +kernel
theorem dX9_init_12 : decode cX9_init 12 = .ok (.dup, 1) := by decide +kernel
theorem dX9_init_13 : decode cX9_init 13 = .ok (.iconst 1, 1) := by decide +kernel
theorem dX9_init_14 : decode cX9_init 14 = .ok (.bipush 8, 2) := by decide +kernel
theorem dX9_init_16 : decode cX9_init 16 = .ok (.iastore, 1) := by decide +kernel
theorem dX9_init_17 : decode cX9_init 17 = .ok (.dup, 1) := by decide +kernel
theorem dX9_init_18 : decode cX9_init 18 = .ok (.iconst 2, 1) := by decide +kernel
theorem dX9_init_19 : decode cX9_init 19 = .ok (.bipush 25, 2) := by decide +kernel
theorem dX9_init_21 : decode cX9_init 21 = .ok (.iastore, 1) := by decide +kernel
theorem dX9_init_22 : decode cX9_init 22 = .ok (.dup, 1) := by decide +kernel
theorem dX9_init_23 : decode cX9_init 23 = .ok (.iconst 3, 1) := by decide +kernel
theorem dX9_init_24 : decode cX9_init 24 = .ok (.bipush 8, 2) := by decide +kernel
theorem dX9_init_26 : decode cX9_init 26 = .ok (.iastore, 1) := by decide +kernel
theorem dX9_init_27 : decode cX9_init 27 = .ok (.dup, 1) := by decide +kernel
theorem dX9_init_28 : decode cX9_init 28 = .ok (.iconst 4, 1) := by decide +kernel
theorem dX9_init_29 : decode cX9_init 29 = .ok (.iconst 2, 1) := by decide +kernel
theorem dX9_init_30 : decode cX9_init 30 = .ok (.iastore, 1) := by decide +kernel
theorem dX9_init_31 : decode cX9_init 31 = .ok (.putfield 9, 3) := by decide +kernel
theorem dX9_init_34 : decode cX9_init 34 = .ok (.aload_n 0, 1) := by decide +kernel
theorem dX9_init_35 : decode cX9_init 35 = .ok (.iconst 4, 1) := by decide +kernel
theorem dX9_init_36 : decode cX9_init 36 = .ok (.newarray .int, 2) := by decide +kernel
theorem dX9_init_38 : decode cX9_init 38 = .ok (.putfield 13, 3) := by decide +kernel
theorem dX9_init_41 : decode cX9_init 41 = .ok (.aload_n 0, 1) := by decide +kernel
theorem dX9_init_42 : decode cX9_init 42 = .ok (.sipush 400, 3) := by decide +kernel
theorem dX9_init_45 : decode cX9_init 45 = .ok (.newarray .int, 2) := by decide +kernel
theorem dX9_init_47 : decode cX9_init 47 = .ok (.putfield 16, 3) := by decide +kernel
theorem dX9_init_50 : decode cX9_init 50 = .ok (.aload_n 0, 1) := by decide +kernel
theorem dX9_init_51 : decode cX9_init 51 = .ok (.iconst 0, 1) := by decide +kernel
theorem dX9_init_52 : decode cX9_init 52 = .ok (.putfield 19, 3) := by decide +kernel
theorem dX9_init_55 : decode cX9_init 55 = .ok (.aload_n 0, 1) := by decide +kernel
theorem dX9_init_56 : decode cX9_init 56 = .ok (.bipush 10, 2) := by decide +kernel
theorem dX9_init_58 : decode cX9_init 58 = .ok (.newarray .int, 2) := by decide +kernel
theorem dX9_init_60 : decode cX9_init 60 = .ok (.putfield 25, 3) := by decide +kernel
theorem dX9_init_63 : decode cX9_init 63 = .ok (.aload_n 0, 1) := by decide +kernel
theorem dX9_init_64 : decode cX9_init 64 = .ok (.bipush 7, 2) := by decide +kernel
theorem dX9_init_66 : decode cX9_init 66 = .ok (.newarray .int, 2) := by decide +kernel
theorem dX9_init_68 : decode cX9_init 68 = .ok (.putfield 28, 3) := by decide +kernel
theorem dX9_init_71 : decode cX9_init 71 = .ok (.aload_n 0, 1) := by decide +kernel
theorem dX9_init_72 : decode cX9_init 72 = .ok (.iconst 0, 1) := by decide +kernel
theorem dX9_init_73 : decode cX9_init 73 = .ok (.putfield 31, 3) := by decide +kernel
theorem dX9_init_76 : decode cX9_init 76 = .ok (.aload_n 0, 1) := by decide +kernel
theorem dX9_init_77 : decode cX9_init 77 = .ok (.iconst (-1), 1) := by decide +kernel
theorem dX9_init_78 : decode cX9_init 78 = .ok (.putfield 34, 3) := by decide +kernel
theorem dX9_init_81 : decode cX9_init 81 = .ok (.aload_n 0, 1) := by decide +kernel
theorem dX9_init_82 : decode cX9_init 82 = .ok (.iconst (-1), 1) := by decide +kernel
theorem dX9_init_83 : decode cX9_init 83 = .ok (.putfield 37, 3) := by decide +kernel
theorem dX9_init_86 : decode cX9_init 86 = .ok (.aload_n 0, 1) := by decide +kernel
theorem dX9_init_87 : decode cX9_init 87 = .ok (.new 40, 3) := by decide +kernel
theorem dX9_init_90 : decode cX9_init 90 = .ok (.dup, 1) := by decide +kernel
theorem dX9_init_91 : decode cX9_init 91 = .ok (.invokespecial 42, 3) := by decide +kernel
theorem dX9_init_94 : decode cX9_init 94 = .ok (.putfield 43, 3) := by decide +kernel
theorem dX9_init_97 : decode cX9_init 97 = .ok (.aload_n 0, 1) := by decide +kernel
theorem dX9_init_98 : decode cX9_init 98 = .ok (.new 47, 3) := by decide +kernel
theorem dX9_init_101 : decode cX9_init 101 = .ok (.dup, 1) := by decide +kernel
theorem dX9_init_102 : decode cX9_init 102 = .ok (.invokespecial 49, 3) := by decide +kernel
theorem dX9_init_105 : decode cX9_init 105 = .ok (.putfield 50, 3) := by decide +kernel
theorem dX9_init_108 : decode cX9_init 108 = .ok (.aload_n 0, 1) := by decide +kernel
theorem dX9_init_109 : decode cX9_init 109 = .ok (.new 54, 3) := by decide +kernel
theorem dX9_init_112 : decode cX9_init 112 = .ok (.dup, 1) := by decide +kernel
theorem dX9_init_113 : decode cX9_init 113 = .ok (.invokespecial 56, 3) := by decide +kernel
theorem dX9_init_116 : decode cX9_init 116 = .ok (.putfield 57, 3) := by decide +kernel
theorem dX9_init_119 : decode cX9_init 119 = .ok (.aload_n 0, 1) := by decide +kernel
theorem dX9_init_120 : decode cX9_init 120 = .ok (.new 61, 3) := by decide +kernel
theorem dX9_init_123 : decode cX9_init 123 = .ok (.dup, 1) := by decide +kernel
theorem dX9_init_124 : decode cX9_init 124 = .ok (.invokespecial 63, 3) := by decide +kernel
theorem dX9_init_127 : decode cX9_init 127 = .ok (.putfield 64, 3) := by decide +kernel
theorem dX9_init_130 : decode cX9_init 130 = .ok (.aload_n 0, 1) := by decide +kernel
theorem dX9_init_131 : decode cX9_init 131 = .ok (.new 68, 3) := by decide +kernel
theorem dX9_init_134 : decode cX9_init 134 = .ok (.dup, 1) := by decide +kernel
theorem dX9_init_135 : decode cX9_init 135 = .ok (.invokespecial 70, 3) := by decide +kernel
theorem dX9_init_138 : decode cX9_init 138 = .ok (.putfield 71, 3) := by decide +kernel
theorem dX9_init_141 : decode cX9_init 141 = .ok (.return_, 1) := by decide +kernel
theorem dX9_terms_0 : decode cX9_terms 0 = .ok (.iload_n 1, 1) := by decide +kernel
theorem dX9_terms_1 : decode cX9_terms 1 = .ok (.ifCond .lt 30, 3) := by decide +kernel
theorem dX9_terms_4 : decode cX9_terms 4 = .ok (.iload_n 1, 1) := by decide +kernel
theorem dX9_terms_5 : decode cX9_terms 5 = .ok (.aload_n 0, 1) := by decide +kernel
theorem dX9_terms_6 : decode cX9_terms 6 = .ok (.getfield 9, 3) := by decide +kernel
theorem dX9_terms_9 : decode cX9_terms 9 = .ok (.arraylength, 1) := by decide +kernel
theorem dX9_terms_10 : decode cX9_terms 10 = .ok (.if_icmp .ge 21, 3) := by decide +kernel
theorem dX9_terms_13 : decode cX9_terms 13 = .ok (.iload_n 2, 1) := by decide +kernel
theorem dX9_terms_14 : decode cX9_terms 14 = .ok (.getstatic 75, 3) := by decide +kernel
theorem dX9_terms_17 : decode cX9_terms 17 = .ok (.iload_n 1, 1) := by decide +kernel
theorem dX9_terms_18 : decode cX9_terms 18 = .ok (.iaload, 1) := by decide +kernel
theorem dX9_terms_19 : decode cX9_terms 19 = .ok (.if_icmp .lt 12, 3) := by decide +kernel
theorem dX9_terms_22 : decode cX9_terms 22 = .ok (.iload_n 2, 1) := by decide +kernel
theorem dX9_terms_23 : decode cX9_terms 23 = .ok (.getstatic 78, 3) := by decide +kernel
theorem dX9_terms_26 : decode cX9_terms 26 = .ok (.iload_n 1, 1) := by decide +kernel
theorem dX9_terms_27 : decode cX9_terms 27 = .ok (.iaload, 1) := by decide +kernel
theorem dX9_terms_28 : decode cX9_terms 28 = .ok (.if_icmp .le 9, 3) := by decide +kernel
theorem dX9_terms_31 : decode cX9_terms 31 = .ok (.aload_n 0, 1) := by decide +kernel
theorem dX9_terms_32 : decode cX9_terms 32 = .ok (.iconst (-1), 1) := by decide +kernel
theorem dX9_terms_33 : decode cX9_terms 33 = .ok (.invokevirtual 81, 3) := by decide +kernel
theorem dX9_terms_36 : decode cX9_terms 36 = .ok (.ireturn, 1) := by decide +kernel
theorem dX9_terms_37 : decode cX9_terms 37 = .ok (.aload_n 0, 1) := by decide +kernel
theorem dX9_terms_38 : decode cX9_terms 38 = .ok (.getfield 9, 3) := by decide +kernel
theorem dX9_terms_41 : decode cX9_terms 41 = .ok (.iload_n 1, 1) := by decide +kernel
theorem dX9_terms_42 : decode cX9_terms 42 = .ok (.iaload, 1) := by decide +kernel
theorem dX9_terms_43 : decode cX9_terms 43 = .ok (.istore_n 3, 1) := by decide +kernel
theorem dX9_terms_44 : decode cX9_terms 44 = .ok (.aload_n 0, 1) := by decide +kernel
theorem dX9_terms_45 : decode cX9_terms 45 = .ok (.getfield 9, 3) := by decide +kernel
theorem dX9_terms_48 : decode cX9_terms 48 = .ok (.iload_n 1, 1) := by decide +kernel
theorem dX9_terms_49 : decode cX9_terms 49 = .ok (.iload_n 2, 1) := by decide +kernel
theorem dX9_terms_50 : decode cX9_terms 50 = .ok (.iastore, 1) := by decide +kernel
theorem dX9_terms_51 : decode cX9_terms 51 = .ok (.aload_n 0, 1) := by decide +kernel
theorem dX9_terms_52 : decode cX9_terms 52 = .ok (.getfield 64, 3) := by decide +kernel
theorem dX9_terms_55 : decode cX9_terms 55 = .ok (.aload_n 0, 1) := by decide +kernel
theorem dX9_terms_56 : decode cX9_terms 56 = .ok (.getfield 9, 3) := by decide +kernel
theorem dX9_terms_59 : decode cX9_terms 59 = .ok (.iconst 4, 1) := by decide +kernel
theorem dX9_terms_60 : decode cX9_terms 60 = .ok (.iaload, 1) := by decide +kernel
theorem dX9_terms_61 : decode cX9_terms 61 = .ok (.invokevirtual 85, 3) := by decide +kernel
theorem dX9_terms_64 : decode cX9_terms 64 = .ok (.aload_n 0, 1) := by decide +kernel
theorem dX9_terms_65 : decode cX9_terms 65 = .ok (.iload_n 3, 1) := by decide +kernel
theorem dX9_terms_66 : decode cX9_terms 66 = .ok (.invokevirtual 89, 3) := by decide +kernel
theorem dX9_terms_69 : decode cX9_terms 69 = .ok (.ireturn, 1) := by decide +kernel
theorem dX9_feed_0 : decode cX9_feed 0 = .ok (.aload_n 0, 1) := by decide +kernel
theorem dX9_feed_1 : decode cX9_feed 1 = .ok (.getfield 19, 3) := by decide +kernel
theorem dX9_feed_4 : decode cX9_feed 4 = .ok (.bipush 20, 2) := by decide +kernel
theorem dX9_feed_6 : decode cX9_feed 6 = .ok (.iadd, 1) := by decide +kernel
theorem dX9_feed_7 : decode cX9_feed 7 = .ok (.sipush 400, 3) := by decide +kernel
theorem dX9_feed_10 : decode cX9_feed 10 = .ok (.if_icmp .le 5, 3) := by decide +kernel
theorem dX9_feed_13 : decode cX9_feed 13 = .ok (.iconst (-1), 1) := by decide +kernel
theorem dX9_feed_14 : decode cX9_feed 14 = .ok (.ireturn, 1) := by decide +kernel
theorem dX9_feed_15 : decode cX9_feed 15 = .ok (.aload_n 0, 1) := by decide +kernel
theorem dX9_feed_16 : decode cX9_feed 16 = .ok (.iload_n 1, 1) := by decide +kernel
theorem dX9_feed_17 : decode cX9_feed 17 = .ok (.invokevirtual 92, 3) := by decide +kernel
theorem dX9_feed_20 : decode cX9_feed 20 = .ok (.aload_n 0, 1) := by decide +kernel
theorem dX9_feed_21 : decode cX9_feed 21 = .ok (.iload_n 2, 1) := by decide +kernel
theorem dX9_feed_22 : decode cX9_feed 22 = .ok (.invokevirtual 92, 3) := by decide +kernel
theorem dX9_feed_25 : decode cX9_feed 25 = .ok (.aload_n 0, 1) := by decide +kernel
theorem dX9_feed_26 : decode cX9_feed 26 = .ok (.iload_n 3, 1) := by decide +kernel
theorem dX9_feed_27 : decode cX9_feed 27 = .ok (.invokevirtual 92, 3) := by decide +kernel
theorem dX9_feed_30 : decode cX9_feed 30 = .ok (.aload_n 0, 1) := by decide +kernel
theorem dX9_feed_31 : decode cX9_feed 31 = .ok (.iload 4, 2) := by decide +kernel
theorem dX9_feed_33 : decode cX9_feed 33 = .ok (.invokevirtual 92, 3) := by decide +kernel
theorem dX9_feed_36 : decode cX9_feed 36 = .ok (.aload_n 0, 1) := by decide +kernel
theorem dX9_feed_37 : decode cX9_feed 37 = .ok (.iload 5, 2) := by decide +kernel
theorem dX9_feed_39 : decode cX9_feed 39 = .ok (.invokevirtual 92, 3) := by decide +kernel
theorem dX9_feed_42 : decode cX9_feed 42 = .ok (.aload_n 0, 1) := by decide +kernel
theorem dX9_feed_43 : decode cX9_feed 43 = .ok (.getfield 19, 3) := by decide +kernel
theorem dX9_feed_46 : decode cX9_feed 46 = .ok (.ireturn, 1) := by decide +kernel
theorem dX9_end_0 : decode cX9_end 0 = .ok (.iload_n 1, 1) := by decide +kernel
theorem dX9_end_1 : decode cX9_end 1 = .ok (.ifCond .lt 11, 3) := by decide +kernel
theorem dX9_end_4 : decode cX9_end 4 = .ok (.iload_n 1, 1) := by decide +kernel
theorem dX9_end_5 : decode cX9_end 5 = .ok (.aload_n 0, 1) := by decide +kernel
theorem dX9_end_6 : decode cX9_end 6 = .ok (.getfield 19, 3) := by decide +kernel
theorem dX9_end_9 : decode cX9_end 9 = .ok (.if_icmp .le 5, 3) := by decide +kernel
theorem dX9_end_12 : decode cX9_end 12 = .ok (.iconst (-1), 1) := by decide +kernel
theorem dX9_end_13 : decode cX9_end 13 = .ok (.ireturn, 1) := by decide +kernel
theorem dX9_end_14 : decode cX9_end 14 = .ok (.aload_n 0, 1) := by decide +kernel
theorem dX9_end_15 : decode cX9_end 15 = .ok (.iload_n 1, 1) := by decide +kernel
theorem dX9_end_16 : decode cX9_end 16 = .ok (.putfield 19, 3) := by decide +kernel
theorem dX9_end_19 : decode cX9_end 19 = .ok (.iload_n 1, 1) := by decide +kernel
theorem dX9_end_20 : decode cX9_end 20 = .ok (.ireturn, 1) := by decide +kernel
theorem dX9_tape_0 : decode cX9_tape 0 = .ok (.iload_n 1, 1) := by decide +kernel
theorem dX9_tape_1 : decode cX9_tape 1 = .ok (.ifCond .lt 20, 3) := by decide +kernel
theorem dX9_tape_4 : decode cX9_tape 4 = .ok (.iload_n 1, 1) := by decide +kernel
theorem dX9_tape_5 : decode cX9_tape 5 = .ok (.aload_n 0, 1) := by decide +kernel
theorem dX9_tape_6 : decode cX9_tape 6 = .ok (.getfield 19, 3) := by decide +kernel
theorem dX9_tape_9 : decode cX9_tape 9 = .ok (.if_icmp .ge 12, 3) := by decide +kernel
theorem dX9_tape_12 : decode cX9_tape 12 = .ok (.aload_n 0, 1) := by decide +kernel
theorem dX9_tape_13 : decode cX9_tape 13 = .ok (.getfield 16, 3) := by decide +kernel
theorem dX9_tape_16 : decode cX9_tape 16 = .ok (.iload_n 1, 1) := by decide +kernel
theorem dX9_tape_17 : decode cX9_tape 17 = .ok (.iaload, 1) := by decide +kernel
theorem dX9_tape_18 : decode cX9_tape 18 = .ok (.goto 4, 3) := by decide +kernel
theorem dX9_tape_21 : decode cX9_tape 21 = .ok (.iconst (-1), 1) := by decide +kernel
theorem dX9_tape_22 : decode cX9_tape 22 = .ok (.ireturn, 1) := by decide +kernel
theorem dX9_pack_0 : decode cX9_pack 0 = .ok (.iload_n 1, 1) := by decide +kernel
theorem dX9_pack_1 : decode cX9_pack 1 = .ok (.iconst (-1), 1) := by decide +kernel
theorem dX9_pack_2 : decode cX9_pack 2 = .ok (.if_icmp .lt 8, 3) := by decide +kernel
theorem dX9_pack_5 : decode cX9_pack 5 = .ok (.iload_n 1, 1) := by decide +kernel
theorem dX9_pack_6 : decode cX9_pack 6 = .ok (.iconst 4, 1) := by decide +kernel
theorem dX9_pack_7 : decode cX9_pack 7 = .ok (.if_icmp .lt 9, 3) := by decide +kernel
theorem dX9_pack_10 : decode cX9_pack 10 = .ok (.aload_n 0, 1) := by decide +kernel
theorem dX9_pack_11 : decode cX9_pack 11 = .ok (.iconst (-1), 1) := by decide +kernel
theorem dX9_pack_12 : decode cX9_pack 12 = .ok (.invokevirtual 81, 3) := by decide +kernel
theorem dX9_pack_15 : decode cX9_pack 15 = .ok (.ireturn, 1) := by decide +kernel
theorem dX9_pack_16 : decode cX9_pack 16 = .ok (.aload_n 0, 1) := by decide +kernel
theorem dX9_pack_17 : decode cX9_pack 17 = .ok (.getfield 57, 3) := by decide +kernel
theorem dX9_pack_20 : decode cX9_pack 20 = .ok (.getfield 95, 3) := by decide +kernel
theorem dX9_pack_23 : decode cX9_pack 23 = .ok (.astore_n 2, 1) := by decide +kernel
theorem dX9_pack_24 : decode cX9_pack 24 = .ok (.iload_n 1, 1) := by decide +kernel
theorem dX9_pack_25 : decode cX9_pack 25 = .ok (.iconst (-1), 1) := by decide +kernel
theorem dX9_pack_26 : decode cX9_pack 26 = .ok (.if_icmp .ne 18, 3) := by decide +kernel
theorem dX9_pack_29 : decode cX9_pack 29 = .ok (.aload_n 2, 1) := by decide +kernel
theorem dX9_pack_30 : decode cX9_pack 30 = .ok (.aload_n 0, 1) := by decide +kernel
theorem dX9_pack_31 : decode cX9_pack 31 = .ok (.getfield 16, 3) := by decide +kernel
theorem dX9_pack_34 : decode cX9_pack 34 = .ok (.aload_n 0, 1) := by decide +kernel
theorem dX9_pack_35 : decode cX9_pack 35 = .ok (.getfield 19, 3) := by decide +kernel
theorem dX9_pack_38 : decode cX9_pack 38 = .ok (.invokevirtual 99, 3) := by decide +kernel
theorem dX9_pack_41 : decode cX9_pack 41 = .ok (.goto 16, 3) := by decide +kernel
theorem dX9_pack_44 : decode cX9_pack 44 = .ok (.aload_n 2, 1) := by decide +kernel
theorem dX9_pack_45 : decode cX9_pack 45 = .ok (.aload_n 0, 1) := by decide +kernel
theorem dX9_pack_46 : decode cX9_pack 46 = .ok (.getfield 16, 3) := by decide +kernel
theorem dX9_pack_49 : decode cX9_pack 49 = .ok (.aload_n 0, 1) := by decide +kernel
theorem dX9_pack_50 : decode cX9_pack 50 = .ok (.getfield 19, 3) := by decide +kernel
theorem dX9_pack_53 : decode cX9_pack 53 = .ok (.iload_n 1, 1) := by decide +kernel
theorem dX9_pack_54 : decode cX9_pack 54 = .ok (.invokevirtual 105, 3) := by decide +kernel
theorem dX9_pack_57 : decode cX9_pack 57 = .ok (.istore_n 3, 1) := by decide +kernel
theorem dX9_pack_58 : decode cX9_pack 58 = .ok (.iload_n 3, 1) := by decide +kernel
theorem dX9_pack_59 : decode cX9_pack 59 = .ok (.sipush 400, 3) := by decide +kernel
theorem dX9_pack_62 : decode cX9_pack 62 = .ok (.if_icmp .le 10, 3) := by decide +kernel
theorem dX9_pack_65 : decode cX9_pack 65 = .ok (.aload_n 0, 1) := by decide +kernel
theorem dX9_pack_66 : decode cX9_pack 66 = .ok (.bipush (-5), 2) := by decide +kernel
theorem dX9_pack_68 : decode cX9_pack 68 = .ok (.invokevirtual 81, 3) := by decide +kernel
theorem dX9_pack_71 : decode cX9_pack 71 = .ok (.ireturn, 1) := by decide +kernel
theorem dX9_pack_72 : decode cX9_pack 72 = .ok (.aload_n 0, 1) := by decide +kernel
theorem dX9_pack_73 : decode cX9_pack 73 = .ok (.aload_n 2, 1) := by decide +kernel
theorem dX9_pack_74 : decode cX9_pack 74 = .ok (.getfield 109, 3) := by decide +kernel
theorem dX9_pack_77 : decode cX9_pack 77 = .ok (.iload_n 3, 1) := by decide +kernel
theorem dX9_pack_78 : decode cX9_pack 78 = .ok (.invokevirtual 112, 3) := by decide +kernel
theorem dX9_pack_81 : decode cX9_pack 81 = .ok (.aload_n 0, 1) := by decide +kernel
theorem dX9_pack_82 : decode cX9_pack 82 = .ok (.iload_n 3, 1) := by decide +kernel
theorem dX9_pack_83 : decode cX9_pack 83 = .ok (.invokevirtual 89, 3) := by decide +kernel
theorem dX9_pack_86 : decode cX9_pack 86 = .ok (.ireturn, 1) := by decide +kernel
theorem dX9_unpack_0 : decode cX9_unpack 0 = .ok (.iload_n 1, 1) := by decide +kernel
theorem dX9_unpack_1 : decode cX9_unpack 1 = .ok (.ifCond .lt 8, 3) := by decide +kernel
theorem dX9_unpack_4 : decode cX9_unpack 4 = .ok (.iload_n 1, 1) := by decide +kernel
theorem dX9_unpack_5 : decode cX9_unpack 5 = .ok (.iconst 4, 1) := by decide +kernel
theorem dX9_unpack_6 : decode cX9_unpack 6 = .ok (.if_icmp .lt 9, 3) := by decide +kernel
theorem dX9_unpack_9 : decode cX9_unpack 9 = .ok (.aload_n 0, 1) := by decide +kernel
theorem dX9_unpack_10 : decode cX9_unpack 10 = .ok (.iconst (-1), 1) := by decide +kernel
theorem dX9_unpack_11 : decode cX9_unpack 11 = .ok (.invokevirtual 81, 3) := by decide +kernel
theorem dX9_unpack_14 : decode cX9_unpack 14 = .ok (.ireturn, 1) := by decide +kernel
theorem dX9_unpack_15 : decode cX9_unpack 15 = .ok (.aload_n 0, 1) := by decide +kernel
theorem dX9_unpack_16 : decode cX9_unpack 16 = .ok (.getfield 57, 3) := by decide +kernel
theorem dX9_unpack_19 : decode cX9_unpack 19 = .ok (.getfield 95, 3) := by decide +kernel
theorem dX9_unpack_22 : decode cX9_unpack 22 = .ok (.astore_n 2, 1) := by decide +kernel
theorem dX9_unpack_23 : decode cX9_unpack 23 = .ok (.aload_n 2, 1) := by decide +kernel
theorem dX9_unpack_24 : decode cX9_unpack 24 = .ok (.aload_n 0, 1) := by decide +kernel
theorem dX9_unpack_25 : decode cX9_unpack 25 = .ok (.getfield 16, 3) := by decide +kernel
theorem dX9_unpack_28 : decode cX9_unpack 28 = .ok (.iconst 0, 1) := by decide +kernel
theorem dX9_unpack_29 : decode cX9_unpack 29 = .ok (.aload_n 0, 1) := by decide +kernel
theorem dX9_unpack_30 : decode cX9_unpack 30 = .ok (.getfield 19, 3) := by decide +kernel
theorem dX9_unpack_33 : decode cX9_unpack 33 = .ok (.iload_n 1, 1) := by decide +kernel
theorem dX9_unpack_34 : decode cX9_unpack 34 = .ok (.invokevirtual 116, 3) := by decide +kernel
theorem dX9_unpack_37 : decode cX9_unpack 37 = .ok (.istore_n 3, 1) := by decide +kernel
theorem dX9_unpack_38 : decode cX9_unpack 38 = .ok (.aload_n 0, 1) := by decide +kernel
theorem dX9_unpack_39 : decode cX9_unpack 39 = .ok (.aload_n 2, 1) := by decide +kernel
theorem dX9_unpack_40 : decode cX9_unpack 40 = .ok (.getfield 120, 3) := by decide +kernel
theorem dX9_unpack_43 : decode cX9_unpack 43 = .ok (.putfield 34, 3) := by decide +kernel
theorem dX9_unpack_46 : decode cX9_unpack 46 = .ok (.iload_n 3, 1) := by decide +kernel
theorem dX9_unpack_47 : decode cX9_unpack 47 = .ok (.iconst (-1), 1) := by decide +kernel
theorem dX9_unpack_48 : decode cX9_unpack 48 = .ok (.if_icmp .ne 10, 3) := by decide +kernel
theorem dX9_unpack_51 : decode cX9_unpack 51 = .ok (.aload_n 0, 1) := by decide +kernel
theorem dX9_unpack_52 : decode cX9_unpack 52 = .ok (.bipush (-6), 2) := by decide +kernel
theorem dX9_unpack_54 : decode cX9_unpack 54 = .ok (.invokevirtual 81, 3) := by decide +kernel
theorem dX9_unpack_57 : decode cX9_unpack 57 = .ok (.ireturn, 1) := by decide +kernel
theorem dX9_unpack_58 : decode cX9_unpack 58 = .ok (.aload_n 0, 1) := by decide +kernel
theorem dX9_unpack_59 : decode cX9_unpack 59 = .ok (.aload_n 2, 1) := by decide +kernel
theorem dX9_unpack_60 : decode cX9_unpack 60 = .ok (.getfield 123, 3) := by decide +kernel
theorem dX9_unpack_63 : decode cX9_unpack 63 = .ok (.iload_n 3, 1) := by decide +kernel
theorem dX9_unpack_64 : decode cX9_unpack 64 = .ok (.invokevirtual 112, 3) := by decide +kernel
theorem dX9_unpack_67 : decode cX9_unpack 67 = .ok (.aload_n 0, 1) := by decide +kernel
theorem dX9_unpack_68 : decode cX9_unpack 68 = .ok (.iload_n 3, 1) := by decide +kernel
theorem dX9_unpack_69 : decode cX9_unpack 69 = .ok (.invokevirtual 89, 3) := by decide +kernel
theorem dX9_unpack_72 : decode cX9_unpack 72 = .ok (.ireturn, 1) := by decide +kernel
theorem dX9_flaw_0 : decode cX9_flaw 0 = .ok (.aload_n 0, 1) := by decide +kernel
theorem dX9_flaw_1 : decode cX9_flaw 1 = .ok (.getfield 34, 3) := by decide +kernel
theorem dX9_flaw_4 : decode cX9_flaw 4 = .ok (.ireturn, 1) := by decide +kernel
theorem dX9_put_0 : decode cX9_put 0 = .ok (.iload_n 1, 1) := by decide +kernel
theorem dX9_put_1 : decode cX9_put 1 = .ok (.invokestatic 126, 3) := by decide +kernel
theorem dX9_put_4 : decode cX9_put 4 = .ok (.ifCond .eq 12, 3) := by decide +kernel
theorem dX9_put_7 : decode cX9_put 7 = .ok (.aload_n 0, 1) := by decide +kernel
theorem dX9_put_8 : decode cX9_put 8 = .ok (.getfield 19, 3) := by decide +kernel
theorem dX9_put_11 : decode cX9_put 11 = .ok (.bipush 8, 2) := by decide +kernel
theorem dX9_put_13 : decode cX9_put 13 = .ok (.if_icmp .le 9, 3) := by decide +kernel
theorem dX9_put_16 : decode cX9_put 16 = .ok (.aload_n 0, 1) := by decide +kernel
theorem dX9_put_17 : decode cX9_put 17 = .ok (.iconst (-1), 1) := by decide +kernel
theorem dX9_put_18 : decode cX9_put 18 = .ok (.invokevirtual 81, 3) := by decide +kernel
theorem dX9_put_21 : decode cX9_put 21 = .ok (.ireturn, 1) := by decide +kernel
theorem dX9_put_22 : decode cX9_put 22 = .ok (.aload_n 0, 1) := by decide +kernel
theorem dX9_put_23 : decode cX9_put 23 = .ok (.iconst 1, 1) := by decide +kernel
theorem dX9_put_24 : decode cX9_put 24 = .ok (.iload_n 1, 1) := by decide +kernel
theorem dX9_put_25 : decode cX9_put 25 = .ok (.invokevirtual 130, 3) := by decide +kernel
theorem dX9_put_28 : decode cX9_put 28 = .ok (.aload_n 0, 1) := by decide +kernel
theorem dX9_put_29 : decode cX9_put 29 = .ok (.iload_n 1, 1) := by decide +kernel
theorem dX9_put_30 : decode cX9_put 30 = .ok (.iconst 0, 1) := by decide +kernel
theorem dX9_put_31 : decode cX9_put 31 = .ok (.invokevirtual 134, 3) := by decide +kernel
theorem dX9_put_34 : decode cX9_put 34 = .ok (.ireturn, 1) := by decide +kernel
theorem dX9_grow_0 : decode cX9_grow 0 = .ok (.iload_n 1, 1) := by decide +kernel
theorem dX9_grow_1 : decode cX9_grow 1 = .ok (.invokestatic 126, 3) := by decide +kernel
theorem dX9_grow_4 : decode cX9_grow 4 = .ok (.ifCond .eq 19, 3) := by decide +kernel
theorem dX9_grow_7 : decode cX9_grow 7 = .ok (.aload_n 0, 1) := by decide +kernel
theorem dX9_grow_8 : decode cX9_grow 8 = .ok (.getfield 19, 3) := by decide +kernel
theorem dX9_grow_11 : decode cX9_grow 11 = .ok (.ifCond .eq 12, 3) := by decide +kernel
theorem dX9_grow_14 : decode cX9_grow 14 = .ok (.aload_n 0, 1) := by decide +kernel
theorem dX9_grow_15 : decode cX9_grow 15 = .ok (.getfield 19, 3) := by decide +kernel
theorem dX9_grow_18 : decode cX9_grow 18 = .ok (.bipush 8, 2) := by decide +kernel
theorem dX9_grow_20 : decode cX9_grow 20 = .ok (.if_icmp .le 9, 3) := by decide +kernel
theorem dX9_grow_23 : decode cX9_grow 23 = .ok (.aload_n 0, 1) := by decide +kernel
theorem dX9_grow_24 : decode cX9_grow 24 = .ok (.iconst (-1), 1) := by decide +kernel
theorem dX9_grow_25 : decode cX9_grow 25 = .ok (.invokevirtual 81, 3) := by decide +kernel
theorem dX9_grow_28 : decode cX9_grow 28 = .ok (.ireturn, 1) := by decide +kernel
theorem dX9_grow_29 : decode cX9_grow 29 = .ok (.aload_n 0, 1) := by decide +kernel
theorem dX9_grow_30 : decode cX9_grow 30 = .ok (.iconst 4, 1) := by decide +kernel
theorem dX9_grow_31 : decode cX9_grow 31 = .ok (.iload_n 1, 1) := by decide +kernel
theorem dX9_grow_32 : decode cX9_grow 32 = .ok (.invokevirtual 130, 3) := by decide +kernel
theorem dX9_grow_35 : decode cX9_grow 35 = .ok (.aload_n 0, 1) := by decide +kernel
theorem dX9_grow_36 : decode cX9_grow 36 = .ok (.iload_n 1, 1) := by decide +kernel
theorem dX9_grow_37 : decode cX9_grow 37 = .ok (.iconst 1, 1) := by decide +kernel
theorem dX9_grow_38 : decode cX9_grow 38 = .ok (.invokevirtual 134, 3) := by decide +kernel
theorem dX9_grow_41 : decode cX9_grow 41 = .ok (.ireturn, 1) := by decide +kernel
theorem dX9_alter_0 : decode cX9_alter 0 = .ok (.iload_n 1, 1) := by decide +kernel
theorem dX9_alter_1 : decode cX9_alter 1 = .ok (.invokestatic 126, 3) := by decide +kernel
theorem dX9_alter_4 : decode cX9_alter 4 = .ok (.ifCond .eq 20, 3) := by decide +kernel
theorem dX9_alter_7 : decode cX9_alter 7 = .ok (.iload_n 2, 1) := by decide +kernel
theorem dX9_alter_8 : decode cX9_alter 8 = .ok (.ifCond .lt 16, 3) := by decide +kernel
theorem dX9_alter_11 : decode cX9_alter 11 = .ok (.iload_n 2, 1) := by decide +kernel
theorem dX9_alter_12 : decode cX9_alter 12 = .ok (.bipush 8, 2) := by decide +kernel
theorem dX9_alter_14 : decode cX9_alter 14 = .ok (.if_icmp .ge 10, 3) := by decide +kernel
theorem dX9_alter_17 : decode cX9_alter 17 = .ok (.iload_n 3, 1) := by decide +kernel
theorem dX9_alter_18 : decode cX9_alter 18 = .ok (.invokestatic 126, 3) := by decide +kernel
theorem dX9_alter_21 : decode cX9_alter 21 = .ok (.ifCond .ne 9, 3) := by decide +kernel
theorem dX9_alter_24 : decode cX9_alter 24 = .ok (.aload_n 0, 1) := by decide +kernel
theorem dX9_alter_25 : decode cX9_alter 25 = .ok (.iconst (-1), 1) := by decide +kernel
theorem dX9_alter_26 : decode cX9_alter 26 = .ok (.invokevirtual 81, 3) := by decide +kernel
theorem dX9_alter_29 : decode cX9_alter 29 = .ok (.ireturn, 1) := by decide +kernel
theorem dX9_alter_30 : decode cX9_alter 30 = .ok (.aload_n 0, 1) := by decide +kernel
theorem dX9_alter_31 : decode cX9_alter 31 = .ok (.getfield 25, 3) := by decide +kernel
theorem dX9_alter_34 : decode cX9_alter 34 = .ok (.iconst 0, 1) := by decide +kernel
theorem dX9_alter_35 : decode cX9_alter 35 = .ok (.bipush 48, 2) := by decide +kernel
theorem dX9_alter_37 : decode cX9_alter 37 = .ok (.iload_n 2, 1) := by decide +kernel
theorem dX9_alter_38 : decode cX9_alter 38 = .ok (.iadd, 1) := by decide +kernel
theorem dX9_alter_39 : decode cX9_alter 39 = .ok (.iastore, 1) := by decide +kernel
theorem dX9_alter_40 : decode cX9_alter 40 = .ok (.aload_n 0, 1) := by decide +kernel
theorem dX9_alter_41 : decode cX9_alter 41 = .ok (.getfield 25, 3) := by decide +kernel
theorem dX9_alter_44 : decode cX9_alter 44 = .ok (.iconst 1, 1) := by decide +kernel
theorem dX9_alter_45 : decode cX9_alter 45 = .ok (.iload_n 1, 1) := by decide +kernel
theorem dX9_alter_46 : decode cX9_alter 46 = .ok (.iastore, 1) := by decide +kernel
theorem dX9_alter_47 : decode cX9_alter 47 = .ok (.aload_n 0, 1) := by decide +kernel
theorem dX9_alter_48 : decode cX9_alter 48 = .ok (.getfield 25, 3) := by decide +kernel
theorem dX9_alter_51 : decode cX9_alter 51 = .ok (.iconst 2, 1) := by decide +kernel
theorem dX9_alter_52 : decode cX9_alter 52 = .ok (.iload_n 3, 1) := by decide +kernel
theorem dX9_alter_53 : decode cX9_alter 53 = .ok (.iastore, 1) := by decide +kernel
theorem dX9_alter_54 : decode cX9_alter 54 = .ok (.aload_n 0, 1) := by decide +kernel
theorem dX9_alter_55 : decode cX9_alter 55 = .ok (.iload_n 1, 1) := by decide +kernel
theorem dX9_alter_56 : decode cX9_alter 56 = .ok (.iconst 2, 1) := by decide +kernel
theorem dX9_alter_57 : decode cX9_alter 57 = .ok (.invokevirtual 134, 3) := by decide +kernel
theorem dX9_alter_60 : decode cX9_alter 60 = .ok (.ireturn, 1) := by decide +kernel
theorem dX9_erase_0 : decode cX9_erase 0 = .ok (.iload_n 1, 1) := by decide +kernel
theorem dX9_erase_1 : decode cX9_erase 1 = .ok (.invokestatic 126, 3) := by decide +kernel
theorem dX9_erase_4 : decode cX9_erase 4 = .ok (.ifCond .ne 9, 3) := by decide +kernel
theorem dX9_erase_7 : decode cX9_erase 7 = .ok (.aload_n 0, 1) := by decide +kernel
theorem dX9_erase_8 : decode cX9_erase 8 = .ok (.iconst (-1), 1) := by decide +kernel
theorem dX9_erase_9 : decode cX9_erase 9 = .ok (.invokevirtual 81, 3) := by decide +kernel
theorem dX9_erase_12 : decode cX9_erase 12 = .ok (.ireturn, 1) := by decide +kernel
theorem dX9_erase_13 : decode cX9_erase 13 = .ok (.aload_n 0, 1) := by decide +kernel
theorem dX9_erase_14 : decode cX9_erase 14 = .ok (.getfield 25, 3) := by decide +kernel
theorem dX9_erase_17 : decode cX9_erase 17 = .ok (.iconst 0, 1) := by decide +kernel
theorem dX9_erase_18 : decode cX9_erase 18 = .ok (.bipush 32, 2) := by decide +kernel
theorem dX9_erase_20 : decode cX9_erase 20 = .ok (.iastore, 1) := by decide +kernel
theorem dX9_erase_21 : decode cX9_erase 21 = .ok (.aload_n 0, 1) := by decide +kernel
theorem dX9_erase_22 : decode cX9_erase 22 = .ok (.getfield 25, 3) := by decide +kernel
theorem dX9_erase_25 : decode cX9_erase 25 = .ok (.iconst 1, 1) := by decide +kernel
theorem dX9_erase_26 : decode cX9_erase 26 = .ok (.iload_n 1, 1) := by decide +kernel
theorem dX9_erase_27 : decode cX9_erase 27 = .ok (.iastore, 1) := by decide +kernel
theorem dX9_erase_28 : decode cX9_erase 28 = .ok (.aload_n 0, 1) := by decide +kernel
theorem dX9_erase_29 : decode cX9_erase 29 = .ok (.iload_n 1, 1) := by decide +kernel
theorem dX9_erase_30 : decode cX9_erase 30 = .ok (.iconst 3, 1) := by decide +kernel
theorem dX9_erase_31 : decode cX9_erase 31 = .ok (.invokevirtual 134, 3) := by decide +kernel
theorem dX9_erase_34 : decode cX9_erase 34 = .ok (.ireturn, 1) := by decide +kernel
theorem dX9_group_0 : decode cX9_group 0 = .ok (.aload_n 0, 1) := by decide +kernel
theorem dX9_group_1 : decode cX9_group 1 = .ok (.getfield 43, 3) := by decide +kernel
theorem dX9_group_4 : decode cX9_group 4 = .ok (.getfield 138, 3) := by decide +kernel
theorem dX9_group_7 : decode cX9_group 7 = .ok (.ifCond .eq 10, 3) := by decide +kernel
theorem dX9_group_10 : decode cX9_group 10 = .ok (.aload_n 0, 1) := by decide +kernel
theorem dX9_group_11 : decode cX9_group 11 = .ok (.bipush (-3), 2) := by decide +kernel
theorem dX9_group_13 : decode cX9_group 13 = .ok (.invokevirtual 81, 3) := by decide +kernel
theorem dX9_group_16 : decode cX9_group 16 = .ok (.ireturn, 1) := by decide +kernel
theorem dX9_group_17 : decode cX9_group 17 = .ok (.aload_n 0, 1) := by decide +kernel
theorem dX9_group_18 : decode cX9_group 18 = .ok (.invokevirtual 142, 3) := by decide +kernel
theorem dX9_group_21 : decode cX9_group 21 = .ok (.istore_n 1, 1) := by decide +kernel
theorem dX9_group_22 : decode cX9_group 22 = .ok (.aload_n 0, 1) := by decide +kernel
theorem dX9_group_23 : decode cX9_group 23 = .ok (.aload_n 0, 1) := by decide +kernel
theorem dX9_group_24 : decode cX9_group 24 = .ok (.getfield 37, 3) := by decide +kernel
theorem dX9_group_27 : decode cX9_group 27 = .ok (.putfield 34, 3) := by decide +kernel
theorem dX9_group_30 : decode cX9_group 30 = .ok (.aload_n 0, 1) := by decide +kernel
theorem dX9_group_31 : decode cX9_group 31 = .ok (.iconst 0, 1) := by decide +kernel
theorem dX9_group_32 : decode cX9_group 32 = .ok (.putfield 19, 3) := by decide +kernel
theorem dX9_group_35 : decode cX9_group 35 = .ok (.iload_n 1, 1) := by decide +kernel
theorem dX9_group_36 : decode cX9_group 36 = .ok (.ifCond .ge 11, 3) := by decide +kernel
theorem dX9_group_39 : decode cX9_group 39 = .ok (.aload_n 0, 1) := by decide +kernel
theorem dX9_group_40 : decode cX9_group 40 = .ok (.iload_n 1, 1) := by decide +kernel
theorem dX9_group_41 : decode cX9_group 41 = .ok (.invokevirtual 81, 3) := by decide +kernel
theorem dX9_group_44 : decode cX9_group 44 = .ok (.goto 9, 3) := by decide +kernel
theorem dX9_group_47 : decode cX9_group 47 = .ok (.aload_n 0, 1) := by decide +kernel
theorem dX9_group_48 : decode cX9_group 48 = .ok (.iconst 4, 1) := by decide +kernel
theorem dX9_group_49 : decode cX9_group 49 = .ok (.iload_n 1, 1) := by decide +kernel
theorem dX9_group_50 : decode cX9_group 50 = .ok (.invokevirtual 146, 3) := by decide +kernel
theorem dX9_group_53 : decode cX9_group 53 = .ok (.ireturn, 1) := by decide +kernel
theorem dX9_compact_0 : decode cX9_compact 0 = .ok (.aload_n 0, 1) := by decide +kernel
theorem dX9_compact_1 : decode cX9_compact 1 = .ok (.getfield 43, 3) := by decide +kernel
theorem dX9_compact_4 : decode cX9_compact 4 = .ok (.getfield 138, 3) := by decide +kernel
theorem dX9_compact_7 : decode cX9_compact 7 = .ok (.ifCond .eq 10, 3) := by decide +kernel
theorem dX9_compact_10 : decode cX9_compact 10 = .ok (.aload_n 0, 1) := by decide +kernel
theorem dX9_compact_11 : decode cX9_compact 11 = .ok (.bipush (-3), 2) := by decide +kernel
theorem dX9_compact_13 : decode cX9_compact 13 = .ok (.invokevirtual 81, 3) := by decide +kernel
theorem dX9_compact_16 : decode cX9_compact 16 = .ok (.ireturn, 1) := by decide +kernel
theorem dX9_compact_17 : decode cX9_compact 17 = .ok (.aload_n 0, 1) := by decide +kernel
theorem dX9_compact_18 : decode cX9_compact 18 = .ok (.getfield 50, 3) := by decide +kernel
theorem dX9_compact_21 : decode cX9_compact 21 = .ok (.aload_n 0, 1) := by decide +kernel
theorem dX9_compact_22 : decode cX9_compact 22 = .ok (.getfield 43, 3) := by decide +kernel
theorem dX9_compact_25 : decode cX9_compact 25 = .ok (.getfield 149, 3) := by decide +kernel
theorem dX9_compact_28 : decode cX9_compact 28 = .ok (.aload_n 0, 1) := by decide +kernel
theorem dX9_compact_29 : decode cX9_compact 29 = .ok (.getfield 13, 3) := by decide +kernel
theorem dX9_compact_32 : decode cX9_compact 32 = .ok (.aload_n 0, 1) := by decide +kernel
theorem dX9_compact_33 : decode cX9_compact 33 = .ok (.getfield 9, 3) := by decide +kernel
theorem dX9_compact_36 : decode cX9_compact 36 = .ok (.invokevirtual 152, 3) := by decide +kernel
theorem dX9_compact_39 : decode cX9_compact 39 = .ok (.aload_n 0, 1) := by decide +kernel
theorem dX9_compact_40 : decode cX9_compact 40 = .ok (.getfield 50, 3) := by decide +kernel
theorem dX9_compact_43 : decode cX9_compact 43 = .ok (.invokevirtual 156, 3) := by decide +kernel
theorem dX9_compact_46 : decode cX9_compact 46 = .ok (.istore_n 1, 1) := by decide +kernel
theorem dX9_compact_47 : decode cX9_compact 47 = .ok (.iload_n 1, 1) := by decide +kernel
theorem dX9_compact_48 : decode cX9_compact 48 = .ok (.ifCond .ge 11, 3) := by decide +kernel
theorem dX9_compact_51 : decode cX9_compact 51 = .ok (.aload_n 0, 1) := by decide +kernel
theorem dX9_compact_52 : decode cX9_compact 52 = .ok (.iload_n 1, 1) := by decide +kernel
theorem dX9_compact_53 : decode cX9_compact 53 = .ok (.invokevirtual 81, 3) := by decide +kernel
theorem dX9_compact_56 : decode cX9_compact 56 = .ok (.goto 9, 3) := by decide +kernel
theorem dX9_compact_59 : decode cX9_compact 59 = .ok (.aload_n 0, 1) := by decide +kernel
theorem dX9_compact_60 : decode cX9_compact 60 = .ok (.iconst 5, 1) := by decide +kernel
theorem dX9_compact_61 : decode cX9_compact 61 = .ok (.iload_n 1, 1) := by decide +kernel
theorem dX9_compact_62 : decode cX9_compact 62 = .ok (.invokevirtual 146, 3) := by decide +kernel
theorem dX9_compact_65 : decode cX9_compact 65 = .ok (.ireturn, 1) := by decide +kernel
theorem dX9_fuse_0 : decode cX9_fuse 0 = .ok (.iload_n 1, 1) := by decide +kernel
theorem dX9_fuse_1 : decode cX9_fuse 1 = .ok (.iconst (-1), 1) := by decide +kernel
theorem dX9_fuse_2 : decode cX9_fuse 2 = .ok (.if_icmp .ge 9, 3) := by decide +kernel
theorem dX9_fuse_5 : decode cX9_fuse 5 = .ok (.aload_n 0, 1) := by decide +kernel
theorem dX9_fuse_6 : decode cX9_fuse 6 = .ok (.iconst (-1), 1) := by decide +kernel
theorem dX9_fuse_7 : decode cX9_fuse 7 = .ok (.invokevirtual 81, 3) := by decide +kernel
theorem dX9_fuse_10 : decode cX9_fuse 10 = .ok (.ireturn, 1) := by decide +kernel
theorem dX9_fuse_11 : decode cX9_fuse 11 = .ok (.aload_n 0, 1) := by decide +kernel
theorem dX9_fuse_12 : decode cX9_fuse 12 = .ok (.getfield 43, 3) := by decide +kernel
theorem dX9_fuse_15 : decode cX9_fuse 15 = .ok (.getfield 159, 3) := by decide +kernel
theorem dX9_fuse_18 : decode cX9_fuse 18 = .ok (.istore_n 2, 1) := by decide +kernel
theorem dX9_fuse_19 : decode cX9_fuse 19 = .ok (.aload_n 0, 1) := by decide +kernel
theorem dX9_fuse_20 : decode cX9_fuse 20 = .ok (.getfield 43, 3) := by decide +kernel
theorem dX9_fuse_23 : decode cX9_fuse 23 = .ok (.iload_n 1, 1) := by decide +kernel
theorem dX9_fuse_24 : decode cX9_fuse 24 = .ok (.putfield 159, 3) := by decide +kernel
theorem dX9_fuse_27 : decode cX9_fuse 27 = .ok (.aload_n 0, 1) := by decide +kernel
theorem dX9_fuse_28 : decode cX9_fuse 28 = .ok (.iload_n 2, 1) := by decide +kernel
theorem dX9_fuse_29 : decode cX9_fuse 29 = .ok (.invokevirtual 89, 3) := by decide +kernel
theorem dX9_fuse_32 : decode cX9_fuse 32 = .ok (.ireturn, 1) := by decide +kernel
theorem dX9_recover_0 : decode cX9_recover 0 = .ok (.aload_n 0, 1) := by decide +kernel
theorem dX9_recover_1 : decode cX9_recover 1 = .ok (.getfield 43, 3) := by decide +kernel
theorem dX9_recover_4 : decode cX9_recover 4 = .ok (.getfield 138, 3) := by decide +kernel
theorem dX9_recover_7 : decode cX9_recover 7 = .ok (.ifCond .ne 10, 3) := by decide +kernel
theorem dX9_recover_10 : decode cX9_recover 10 = .ok (.aload_n 0, 1) := by decide +kernel
theorem dX9_recover_11 : decode cX9_recover 11 = .ok (.bipush (-3), 2) := by decide +kernel
theorem dX9_recover_13 : decode cX9_recover 13 = .ok (.invokevirtual 81, 3) := by decide +kernel
theorem dX9_recover_16 : decode cX9_recover 16 = .ok (.ireturn, 1) := by decide +kernel
theorem dX9_recover_17 : decode cX9_recover 17 = .ok (.aload_n 0, 1) := by decide +kernel
theorem dX9_recover_18 : decode cX9_recover 18 = .ok (.getfield 71, 3) := by decide +kernel
theorem dX9_recover_21 : decode cX9_recover 21 = .ok (.bipush 6, 2) := by decide +kernel
theorem dX9_recover_23 : decode cX9_recover 23 = .ok (.aload_n 0, 1) := by decide +kernel
theorem dX9_recover_24 : decode cX9_recover 24 = .ok (.getfield 43, 3) := by decide +kernel
theorem dX9_recover_27 : decode cX9_recover 27 = .ok (.aload_n 0, 1) := by decide +kernel
theorem dX9_recover_28 : decode cX9_recover 28 = .ok (.getfield 13, 3) := by decide +kernel
theorem dX9_recover_31 : decode cX9_recover 31 = .ok (.invokevirtual 162, 3) := by decide +kernel
theorem dX9_recover_34 : decode cX9_recover 34 = .ok (.aload_n 0, 1) := by decide +kernel
theorem dX9_recover_35 : decode cX9_recover 35 = .ok (.getfield 43, 3) := by decide +kernel
theorem dX9_recover_38 : decode cX9_recover 38 = .ok (.invokevirtual 166, 3) := by decide +kernel
theorem dX9_recover_41 : decode cX9_recover 41 = .ok (.aload_n 0, 1) := by decide +kernel
theorem dX9_recover_42 : decode cX9_recover 42 = .ok (.getfield 64, 3) := by decide +kernel
theorem dX9_recover_45 : decode cX9_recover 45 = .ok (.invokevirtual 169, 3) := by decide +kernel
theorem dX9_recover_48 : decode cX9_recover 48 = .ok (.aload_n 0, 1) := by decide +kernel
theorem dX9_recover_49 : decode cX9_recover 49 = .ok (.getfield 43, 3) := by decide +kernel
theorem dX9_recover_52 : decode cX9_recover 52 = .ok (.getfield 172, 3) := by decide +kernel
theorem dX9_recover_55 : decode cX9_recover 55 = .ok (.ifCond .eq 10, 3) := by decide +kernel
theorem dX9_recover_58 : decode cX9_recover 58 = .ok (.aload_n 0, 1) := by decide +kernel
theorem dX9_recover_59 : decode cX9_recover 59 = .ok (.invokevirtual 175, 3) := by decide +kernel
theorem dX9_recover_62 : decode cX9_recover 62 = .ok (.goto 14, 3) := by decide +kernel
theorem dX9_recover_65 : decode cX9_recover 65 = .ok (.aload_n 0, 1) := by decide +kernel
theorem dX9_recover_66 : decode cX9_recover 66 = .ok (.aload_n 0, 1) := by decide +kernel
theorem dX9_recover_67 : decode cX9_recover 67 = .ok (.getfield 43, 3) := by decide +kernel
theorem dX9_recover_70 : decode cX9_recover 70 = .ok (.getfield 178, 3) := by decide +kernel
theorem dX9_recover_73 : decode cX9_recover 73 = .ok (.invokevirtual 89, 3) := by decide +kernel
theorem dX9_recover_76 : decode cX9_recover 76 = .ok (.ireturn, 1) := by decide +kernel
theorem dX9_written_0 : decode cX9_written 0 = .ok (.aload_n 0, 1) := by decide +kernel
theorem dX9_written_1 : decode cX9_written 1 = .ok (.getfield 43, 3) := by decide +kernel
theorem dX9_written_4 : decode cX9_written 4 = .ok (.getfield 178, 3) := by decide +kernel
theorem dX9_written_7 : decode cX9_written 7 = .ok (.ireturn, 1) := by decide +kernel
theorem dX9_fetch_0 : decode cX9_fetch 0 = .ok (.iload_n 1, 1) := by decide +kernel
theorem dX9_fetch_1 : decode cX9_fetch 1 = .ok (.invokestatic 126, 3) := by decide +kernel
theorem dX9_fetch_4 : decode cX9_fetch 4 = .ok (.ifCond .ne 9, 3) := by decide +kernel
theorem dX9_fetch_7 : decode cX9_fetch 7 = .ok (.aload_n 0, 1) := by decide +kernel
theorem dX9_fetch_8 : decode cX9_fetch 8 = .ok (.iconst (-1), 1) := by decide +kernel
theorem dX9_fetch_9 : decode cX9_fetch 9 = .ok (.invokevirtual 81, 3) := by decide +kernel
theorem dX9_fetch_12 : decode cX9_fetch 12 = .ok (.ireturn, 1) := by decide +kernel
theorem dX9_fetch_13 : decode cX9_fetch 13 = .ok (.aload_n 0, 1) := by decide +kernel
theorem dX9_fetch_14 : decode cX9_fetch 14 = .ok (.getfield 43, 3) := by decide +kernel
theorem dX9_fetch_17 : decode cX9_fetch 17 = .ok (.getfield 138, 3) := by decide +kernel
theorem dX9_fetch_20 : decode cX9_fetch 20 = .ok (.ifCond .eq 10, 3) := by decide +kernel
theorem dX9_fetch_23 : decode cX9_fetch 23 = .ok (.aload_n 0, 1) := by decide +kernel
theorem dX9_fetch_24 : decode cX9_fetch 24 = .ok (.bipush (-3), 2) := by decide +kernel
theorem dX9_fetch_26 : decode cX9_fetch 26 = .ok (.invokevirtual 81, 3) := by decide +kernel
theorem dX9_fetch_29 : decode cX9_fetch 29 = .ok (.ireturn, 1) := by decide +kernel
theorem dX9_fetch_30 : decode cX9_fetch 30 = .ok (.aload_n 0, 1) := by decide +kernel
theorem dX9_fetch_31 : decode cX9_fetch 31 = .ok (.iload_n 1, 1) := by decide +kernel
theorem dX9_fetch_32 : decode cX9_fetch 32 = .ok (.invokevirtual 181, 3) := by decide +kernel
theorem dX9_fetch_35 : decode cX9_fetch 35 = .ok (.istore_n 2, 1) := by decide +kernel
theorem dX9_fetch_36 : decode cX9_fetch 36 = .ok (.aload_n 0, 1) := by decide +kernel
theorem dX9_fetch_37 : decode cX9_fetch 37 = .ok (.getfield 64, 3) := by decide +kernel
theorem dX9_fetch_40 : decode cX9_fetch 40 = .ok (.iload_n 2, 1) := by decide +kernel
theorem dX9_fetch_41 : decode cX9_fetch 41 = .ok (.aload_n 0, 1) := by decide +kernel
theorem dX9_fetch_42 : decode cX9_fetch 42 = .ok (.getfield 9, 3) := by decide +kernel
theorem dX9_fetch_45 : decode cX9_fetch 45 = .ok (.iconst 4, 1) := by decide +kernel
theorem dX9_fetch_46 : decode cX9_fetch 46 = .ok (.iaload, 1) := by decide +kernel
theorem dX9_fetch_47 : decode cX9_fetch 47 = .ok (.invokevirtual 184, 3) := by decide +kernel
theorem dX9_fetch_50 : decode cX9_fetch 50 = .ok (.aload_n 0, 1) := by decide +kernel
theorem dX9_fetch_51 : decode cX9_fetch 51 = .ok (.getfield 57, 3) := by decide +kernel
theorem dX9_fetch_54 : decode cX9_fetch 54 = .ok (.aload_n 0, 1) := by decide +kernel
theorem dX9_fetch_55 : decode cX9_fetch 55 = .ok (.getfield 43, 3) := by decide +kernel
theorem dX9_fetch_58 : decode cX9_fetch 58 = .ok (.getfield 149, 3) := by decide +kernel
theorem dX9_fetch_61 : decode cX9_fetch 61 = .ok (.iload_n 2, 1) := by decide +kernel
theorem dX9_fetch_62 : decode cX9_fetch 62 = .ok (.bipush 64, 2) := by decide +kernel
theorem dX9_fetch_64 : decode cX9_fetch 64 = .ok (.invokevirtual 187, 3) := by decide +kernel
theorem dX9_fetch_67 : decode cX9_fetch 67 = .ok (.aload_n 0, 1) := by decide +kernel
theorem dX9_fetch_68 : decode cX9_fetch 68 = .ok (.getfield 57, 3) := by decide +kernel
theorem dX9_fetch_71 : decode cX9_fetch 71 = .ok (.iload_n 1, 1) := by decide +kernel
theorem dX9_fetch_72 : decode cX9_fetch 72 = .ok (.invokevirtual 191, 3) := by decide +kernel
theorem dX9_fetch_75 : decode cX9_fetch 75 = .ok (.istore_n 3, 1) := by decide +kernel
theorem dX9_fetch_76 : decode cX9_fetch 76 = .ok (.iload_n 3, 1) := by decide +kernel
theorem dX9_fetch_77 : decode cX9_fetch 77 = .ok (.iconst (-1), 1) := by decide +kernel
theorem dX9_fetch_78 : decode cX9_fetch 78 = .ok (.if_icmp .ne 10, 3) := by decide +kernel
theorem dX9_fetch_81 : decode cX9_fetch 81 = .ok (.aload_n 0, 1) := by decide +kernel
theorem dX9_fetch_82 : decode cX9_fetch 82 = .ok (.bipush (-2), 2) := by decide +kernel
theorem dX9_fetch_84 : decode cX9_fetch 84 = .ok (.invokevirtual 81, 3) := by decide +kernel
theorem dX9_fetch_87 : decode cX9_fetch 87 = .ok (.ireturn, 1) := by decide +kernel
theorem dX9_fetch_88 : decode cX9_fetch 88 = .ok (.iconst 0, 1) := by decide +kernel
theorem dX9_fetch_89 : decode cX9_fetch 89 = .ok (.istore 4, 2) := by decide +kernel
theorem dX9_fetch_91 : decode cX9_fetch 91 = .ok (.iload 4, 2) := by decide +kernel
theorem dX9_fetch_93 : decode cX9_fetch 93 = .ok (.iload_n 3, 1) := by decide +kernel
theorem dX9_fetch_94 : decode cX9_fetch 94 = .ok (.if_icmp .ge 26, 3) := by decide +kernel
theorem dX9_fetch_97 : decode cX9_fetch 97 = .ok (.aload_n 0, 1) := by decide +kernel
theorem dX9_fetch_98 : decode cX9_fetch 98 = .ok (.getfield 16, 3) := by decide +kernel
theorem dX9_fetch_101 : decode cX9_fetch 101 = .ok (.iload 4, 2) := by decide +kernel
theorem dX9_fetch_103 : decode cX9_fetch 103 = .ok (.aload_n 0, 1) := by decide +kernel
theorem dX9_fetch_104 : decode cX9_fetch 104 = .ok (.getfield 57, 3) := by decide +kernel
theorem dX9_fetch_107 : decode cX9_fetch 107 = .ok (.iload_n 1, 1) := by decide +kernel
theorem dX9_fetch_108 : decode cX9_fetch 108 = .ok (.iload 4, 2) := by decide +kernel
theorem dX9_fetch_110 : decode cX9_fetch 110 = .ok (.invokevirtual 194, 3) := by decide +kernel
theorem dX9_fetch_113 : decode cX9_fetch 113 = .ok (.iastore, 1) := by decide +kernel
theorem dX9_fetch_114 : decode cX9_fetch 114 = .ok (.iinc 4 1, 3) := by decide +kernel
theorem dX9_fetch_117 : decode cX9_fetch 117 = .ok (.goto (-26), 3) := by decide +kernel
theorem dX9_fetch_120 : decode cX9_fetch 120 = .ok (.aload_n 0, 1) := by decide +kernel
theorem dX9_fetch_121 : decode cX9_fetch 121 = .ok (.iload_n 3, 1) := by decide +kernel
theorem dX9_fetch_122 : decode cX9_fetch 122 = .ok (.putfield 19, 3) := by decide +kernel
theorem dX9_fetch_125 : decode cX9_fetch 125 = .ok (.aload_n 0, 1) := by decide +kernel
theorem dX9_fetch_126 : decode cX9_fetch 126 = .ok (.iload_n 3, 1) := by decide +kernel
theorem dX9_fetch_127 : decode cX9_fetch 127 = .ok (.invokevirtual 89, 3) := by decide +kernel
theorem dX9_fetch_130 : decode cX9_fetch 130 = .ok (.ireturn, 1) := by decide +kernel
theorem dX9_undo_0 : decode cX9_undo 0 = .ok (.aload_n 0, 1) := by decide +kernel
theorem dX9_undo_1 : decode cX9_undo 1 = .ok (.getfield 71, 3) := by decide +kernel
theorem dX9_undo_4 : decode cX9_undo 4 = .ok (.getfield 197, 3) := by decide +kernel
theorem dX9_undo_7 : decode cX9_undo 7 = .ok (.ifCond .ne 10, 3) := by decide +kernel
theorem dX9_undo_10 : decode cX9_undo 10 = .ok (.aload_n 0, 1) := by decide +kernel
theorem dX9_undo_11 : decode cX9_undo 11 = .ok (.bipush (-4), 2) := by decide +kernel
theorem dX9_undo_13 : decode cX9_undo 13 = .ok (.invokevirtual 81, 3) := by decide +kernel
theorem dX9_undo_16 : decode cX9_undo 16 = .ok (.ireturn, 1) := by decide +kernel
theorem dX9_undo_17 : decode cX9_undo 17 = .ok (.aload_n 0, 1) := by decide +kernel
theorem dX9_undo_18 : decode cX9_undo 18 = .ok (.getfield 71, 3) := by decide +kernel
theorem dX9_undo_21 : decode cX9_undo 21 = .ok (.aload_n 0, 1) := by decide +kernel
theorem dX9_undo_22 : decode cX9_undo 22 = .ok (.getfield 43, 3) := by decide +kernel
theorem dX9_undo_25 : decode cX9_undo 25 = .ok (.aload_n 0, 1) := by decide +kernel
theorem dX9_undo_26 : decode cX9_undo 26 = .ok (.getfield 13, 3) := by decide +kernel
theorem dX9_undo_29 : decode cX9_undo 29 = .ok (.invokevirtual 200, 3) := by decide +kernel
theorem dX9_undo_32 : decode cX9_undo 32 = .ok (.istore_n 1, 1) := by decide +kernel
theorem dX9_undo_33 : decode cX9_undo 33 = .ok (.aload_n 0, 1) := by decide +kernel
theorem dX9_undo_34 : decode cX9_undo 34 = .ok (.getfield 64, 3) := by decide +kernel
theorem dX9_undo_37 : decode cX9_undo 37 = .ok (.invokevirtual 169, 3) := by decide +kernel
theorem dX9_undo_40 : decode cX9_undo 40 = .ok (.aload_n 0, 1) := by decide +kernel
theorem dX9_undo_41 : decode cX9_undo 41 = .ok (.iload_n 1, 1) := by decide +kernel
theorem dX9_undo_42 : decode cX9_undo 42 = .ok (.invokevirtual 89, 3) := by decide +kernel
theorem dX9_undo_45 : decode cX9_undo 45 = .ok (.ireturn, 1) := by decide +kernel
theorem dX9_value_0 : decode cX9_value 0 = .ok (.aload_n 0, 1) := by decide +kernel
theorem dX9_value_1 : decode cX9_value 1 = .ok (.getfield 43, 3) := by decide +kernel
theorem dX9_value_4 : decode cX9_value 4 = .ok (.getfield 138, 3) := by decide +kernel
theorem dX9_value_7 : decode cX9_value 7 = .ok (.ifCond .ne 14, 3) := by decide +kernel
theorem dX9_value_10 : decode cX9_value 10 = .ok (.iload_n 1, 1) := by decide +kernel
theorem dX9_value_11 : decode cX9_value 11 = .ok (.invokestatic 126, 3) := by decide +kernel
theorem dX9_value_14 : decode cX9_value 14 = .ok (.ifCond .eq 7, 3) := by decide +kernel
theorem dX9_value_17 : decode cX9_value 17 = .ok (.iload_n 2, 1) := by decide +kernel
theorem dX9_value_18 : decode cX9_value 18 = .ok (.ifCond .ge 5, 3) := by decide +kernel
theorem dX9_value_21 : decode cX9_value 21 = .ok (.iconst (-1), 1) := by decide +kernel
theorem dX9_value_22 : decode cX9_value 22 = .ok (.ireturn, 1) := by decide +kernel
theorem dX9_value_23 : decode cX9_value 23 = .ok (.aload_n 0, 1) := by decide +kernel
theorem dX9_value_24 : decode cX9_value 24 = .ok (.iload_n 1, 1) := by decide +kernel
theorem dX9_value_25 : decode cX9_value 25 = .ok (.invokevirtual 181, 3) := by decide +kernel
theorem dX9_value_28 : decode cX9_value 28 = .ok (.istore_n 3, 1) := by decide +kernel
theorem dX9_value_29 : decode cX9_value 29 = .ok (.iload_n 2, 1) := by decide +kernel
theorem dX9_value_30 : decode cX9_value 30 = .ok (.iconst 1, 1) := by decide +kernel
theorem dX9_value_31 : decode cX9_value 31 = .ok (.if_icmp .ne 5, 3) := by decide +kernel
theorem dX9_value_34 : decode cX9_value 34 = .ok (.iload_n 3, 1) := by decide +kernel
theorem dX9_value_35 : decode cX9_value 35 = .ok (.ireturn, 1) := by decide +kernel
theorem dX9_value_36 : decode cX9_value 36 = .ok (.aload_n 0, 1) := by decide +kernel
theorem dX9_value_37 : decode cX9_value 37 = .ok (.getfield 57, 3) := by decide +kernel
theorem dX9_value_40 : decode cX9_value 40 = .ok (.aload_n 0, 1) := by decide +kernel
theorem dX9_value_41 : decode cX9_value 41 = .ok (.getfield 43, 3) := by decide +kernel
theorem dX9_value_44 : decode cX9_value 44 = .ok (.getfield 149, 3) := by decide +kernel
theorem dX9_value_47 : decode cX9_value 47 = .ok (.iload_n 3, 1) := by decide +kernel
theorem dX9_value_48 : decode cX9_value 48 = .ok (.bipush 64, 2) := by decide +kernel
theorem dX9_value_50 : decode cX9_value 50 = .ok (.invokevirtual 187, 3) := by decide +kernel
theorem dX9_value_53 : decode cX9_value 53 = .ok (.iload_n 2, 1) := by decide +kernel
theorem dX9_value_54 : decode cX9_value 54 = .ok (.ifCond .ne 14, 3) := by decide +kernel
theorem dX9_value_57 : decode cX9_value 57 = .ok (.aload_n 0, 1) := by decide +kernel
theorem dX9_value_58 : decode cX9_value 58 = .ok (.getfield 57, 3) := by decide +kernel
theorem dX9_value_61 : decode cX9_value 61 = .ok (.iload_n 1, 1) := by decide +kernel
theorem dX9_value_62 : decode cX9_value 62 = .ok (.invokevirtual 191, 3) := by decide +kernel
theorem dX9_value_65 : decode cX9_value 65 = .ok (.goto 14, 3) := by decide +kernel
theorem dX9_value_68 : decode cX9_value 68 = .ok (.aload_n 0, 1) := by decide +kernel
theorem dX9_value_69 : decode cX9_value 69 = .ok (.getfield 57, 3) := by decide +kernel
theorem dX9_value_72 : decode cX9_value 72 = .ok (.iload_n 1, 1) := by decide +kernel
theorem dX9_value_73 : decode cX9_value 73 = .ok (.iload_n 2, 1) := by decide +kernel
theorem dX9_value_74 : decode cX9_value 74 = .ok (.iconst 2, 1) := by decide +kernel
theorem dX9_value_75 : decode cX9_value 75 = .ok (.isub, 1) := by decide +kernel
theorem dX9_value_76 : decode cX9_value 76 = .ok (.invokevirtual 194, 3) := by decide +kernel
theorem dX9_value_79 : decode cX9_value 79 = .ok (.ireturn, 1) := by decide +kernel
theorem dX9_next_0 : decode cX9_next 0 = .ok (.aload_n 0, 1) := by decide +kernel
theorem dX9_next_1 : decode cX9_next 1 = .ok (.getfield 43, 3) := by decide +kernel
theorem dX9_next_4 : decode cX9_next 4 = .ok (.getfield 138, 3) := by decide +kernel
theorem dX9_next_7 : decode cX9_next 7 = .ok (.ifCond .ne 10, 3) := by decide +kernel
theorem dX9_next_10 : decode cX9_next 10 = .ok (.iload_n 1, 1) := by decide +kernel
theorem dX9_next_11 : decode cX9_next 11 = .ok (.invokestatic 126, 3) := by decide +kernel
theorem dX9_next_14 : decode cX9_next 14 = .ok (.ifCond .ne 5, 3) := by decide +kernel
theorem dX9_next_17 : decode cX9_next 17 = .ok (.iconst (-1), 1) := by decide +kernel
theorem dX9_next_18 : decode cX9_next 18 = .ok (.ireturn, 1) := by decide +kernel
theorem dX9_next_19 : decode cX9_next 19 = .ok (.aload_n 0, 1) := by decide +kernel
theorem dX9_next_20 : decode cX9_next 20 = .ok (.getfield 57, 3) := by decide +kernel
theorem dX9_next_23 : decode cX9_next 23 = .ok (.aload_n 0, 1) := by decide +kernel
theorem dX9_next_24 : decode cX9_next 24 = .ok (.getfield 43, 3) := by decide +kernel
theorem dX9_next_27 : decode cX9_next 27 = .ok (.getfield 149, 3) := by decide +kernel
theorem dX9_next_30 : decode cX9_next 30 = .ok (.invokevirtual 204, 3) := by decide +kernel
theorem dX9_next_33 : decode cX9_next 33 = .ok (.aload_n 0, 1) := by decide +kernel
theorem dX9_next_34 : decode cX9_next 34 = .ok (.getfield 57, 3) := by decide +kernel
theorem dX9_next_37 : decode cX9_next 37 = .ok (.iload_n 1, 1) := by decide +kernel
theorem dX9_next_38 : decode cX9_next 38 = .ok (.sipush 256, 3) := by decide +kernel
theorem dX9_next_41 : decode cX9_next 41 = .ok (.invokevirtual 208, 3) := by decide +kernel
theorem dX9_next_44 : decode cX9_next 44 = .ok (.ireturn, 1) := by decide +kernel
theorem dX9_page_0 : decode cX9_page 0 = .ok (.aload_n 0, 1) := by decide +kernel
theorem dX9_page_1 : decode cX9_page 1 = .ok (.iload_n 1, 1) := by decide +kernel
theorem dX9_page_2 : decode cX9_page 2 = .ok (.invokevirtual 211, 3) := by decide +kernel
theorem dX9_page_5 : decode cX9_page 5 = .ok (.ifCond .ne 5, 3) := by decide +kernel
theorem dX9_page_8 : decode cX9_page 8 = .ok (.iconst (-1), 1) := by decide +kernel
theorem dX9_page_9 : decode cX9_page 9 = .ok (.ireturn, 1) := by decide +kernel
theorem dX9_page_10 : decode cX9_page 10 = .ok (.aload_n 0, 1) := by decide +kernel
theorem dX9_page_11 : decode cX9_page 11 = .ok (.getfield 43, 3) := by decide +kernel
theorem dX9_page_14 : decode cX9_page 14 = .ok (.getfield 149, 3) := by decide +kernel
theorem dX9_page_17 : decode cX9_page 17 = .ok (.iload_n 1, 1) := by decide +kernel
theorem dX9_page_18 : decode cX9_page 18 = .ok (.invokestatic 214, 3) := by decide +kernel
theorem dX9_page_21 : decode cX9_page 21 = .ok (.istore_n 3, 1) := by decide +kernel
theorem dX9_page_22 : decode cX9_page 22 = .ok (.iload_n 2, 1) := by decide +kernel
theorem dX9_page_23 : decode cX9_page 23 = .ok (.tableswitch 204 0 9 #[53, 55, 67, 67, 115, 115, 132, 144, 168, 187], 53) := by decide +kernel
theorem dX9_page_76 : decode cX9_page 76 = .ok (.iload_n 3, 1) := by decide +kernel
theorem dX9_page_77 : decode cX9_page 77 = .ok (.ireturn, 1) := by decide +kernel
theorem dX9_page_78 : decode cX9_page 78 = .ok (.aload_n 0, 1) := by decide +kernel
theorem dX9_page_79 : decode cX9_page 79 = .ok (.getfield 43, 3) := by decide +kernel
theorem dX9_page_82 : decode cX9_page 82 = .ok (.getfield 149, 3) := by decide +kernel
theorem dX9_page_85 : decode cX9_page 85 = .ok (.iload_n 1, 1) := by decide +kernel
theorem dX9_page_86 : decode cX9_page 86 = .ok (.invokestatic 219, 3) := by decide +kernel
theorem dX9_page_89 : decode cX9_page 89 = .ok (.ireturn, 1) := by decide +kernel
theorem dX9_page_90 : decode cX9_page 90 = .ok (.aload_n 0, 1) := by decide +kernel
theorem dX9_page_91 : decode cX9_page 91 = .ok (.getfield 57, 3) := by decide +kernel
theorem dX9_page_94 : decode cX9_page 94 = .ok (.aload_n 0, 1) := by decide +kernel
theorem dX9_page_95 : decode cX9_page 95 = .ok (.getfield 43, 3) := by decide +kernel
theorem dX9_page_98 : decode cX9_page 98 = .ok (.getfield 149, 3) := by decide +kernel
theorem dX9_page_101 : decode cX9_page 101 = .ok (.iload_n 3, 1) := by decide +kernel
theorem dX9_page_102 : decode cX9_page 102 = .ok (.bipush 64, 2) := by decide +kernel
theorem dX9_page_104 : decode cX9_page 104 = .ok (.invokevirtual 187, 3) := by decide +kernel
theorem dX9_page_107 : decode cX9_page 107 = .ok (.iload_n 2, 1) := by decide +kernel
theorem dX9_page_108 : decode cX9_page 108 = .ok (.iconst 2, 1) := by decide +kernel
theorem dX9_page_109 : decode cX9_page 109 = .ok (.if_icmp .ne 17, 3) := by decide +kernel
theorem dX9_page_112 : decode cX9_page 112 = .ok (.aload_n 0, 1) := by decide +kernel
theorem dX9_page_113 : decode cX9_page 113 = .ok (.getfield 57, 3) := by decide +kernel
theorem dX9_page_116 : decode cX9_page 116 = .ok (.iconst 0, 1) := by decide +kernel
theorem dX9_page_117 : decode cX9_page 117 = .ok (.sipush 256, 3) := by decide +kernel
theorem dX9_page_120 : decode cX9_page 120 = .ok (.invokevirtual 222, 3) := by decide +kernel
theorem dX9_page_123 : decode cX9_page 123 = .ok (.goto 14, 3) := by decide +kernel
theorem dX9_page_126 : decode cX9_page 126 = .ok (.aload_n 0, 1) := by decide +kernel
theorem dX9_page_127 : decode cX9_page 127 = .ok (.getfield 57, 3) := by decide +kernel
theorem dX9_page_130 : decode cX9_page 130 = .ok (.iconst 0, 1) := by decide +kernel
theorem dX9_page_131 : decode cX9_page 131 = .ok (.sipush 256, 3) := by decide +kernel
theorem dX9_page_134 : decode cX9_page 134 = .ok (.invokevirtual 225, 3) := by decide +kernel
theorem dX9_page_137 : decode cX9_page 137 = .ok (.ireturn, 1) := by decide +kernel
theorem dX9_page_138 : decode cX9_page 138 = .ok (.aload_n 0, 1) := by decide +kernel
theorem dX9_page_139 : decode cX9_page 139 = .ok (.getfield 43, 3) := by decide +kernel
theorem dX9_page_142 : decode cX9_page 142 = .ok (.getfield 149, 3) := by decide +kernel
theorem dX9_page_145 : decode cX9_page 145 = .ok (.iload_n 3, 1) := by decide +kernel
theorem dX9_page_146 : decode cX9_page 146 = .ok (.bipush 64, 2) := by decide +kernel
theorem dX9_page_148 : decode cX9_page 148 = .ok (.imul, 1) := by decide +kernel
theorem dX9_page_149 : decode cX9_page 149 = .ok (.iload_n 2, 1) := by decide +kernel
theorem dX9_page_150 : decode cX9_page 150 = .ok (.iadd, 1) := by decide +kernel
theorem dX9_page_151 : decode cX9_page 151 = .ok (.iconst 4, 1) := by decide +kernel
theorem dX9_page_152 : decode cX9_page 152 = .ok (.isub, 1) := by decide +kernel
theorem dX9_page_153 : decode cX9_page 153 = .ok (.iaload, 1) := by decide +kernel
theorem dX9_page_154 : decode cX9_page 154 = .ok (.ireturn, 1) := by decide +kernel
theorem dX9_page_155 : decode cX9_page 155 = .ok (.aload_n 0, 1) := by decide +kernel
theorem dX9_page_156 : decode cX9_page 156 = .ok (.getfield 43, 3) := by decide +kernel
theorem dX9_page_159 : decode cX9_page 159 = .ok (.getfield 149, 3) := by decide +kernel
theorem dX9_page_162 : decode cX9_page 162 = .ok (.iload_n 3, 1) := by decide +kernel
theorem dX9_page_163 : decode cX9_page 163 = .ok (.invokestatic 228, 3) := by decide +kernel
theorem dX9_page_166 : decode cX9_page 166 = .ok (.ireturn, 1) := by decide +kernel
theorem dX9_page_167 : decode cX9_page 167 = .ok (.aload_n 0, 1) := by decide +kernel
theorem dX9_page_168 : decode cX9_page 168 = .ok (.getfield 43, 3) := by decide +kernel
theorem dX9_page_171 : decode cX9_page 171 = .ok (.getfield 149, 3) := by decide +kernel
theorem dX9_page_174 : decode cX9_page 174 = .ok (.iload_n 3, 1) := by decide +kernel
theorem dX9_page_175 : decode cX9_page 175 = .ok (.invokestatic 231, 3) := by decide +kernel
theorem dX9_page_178 : decode cX9_page 178 = .ok (.aload_n 0, 1) := by decide +kernel
theorem dX9_page_179 : decode cX9_page 179 = .ok (.getfield 43, 3) := by decide +kernel
theorem dX9_page_182 : decode cX9_page 182 = .ok (.getfield 149, 3) := by decide +kernel
theorem dX9_page_185 : decode cX9_page 185 = .ok (.iload_n 3, 1) := by decide +kernel
theorem dX9_page_186 : decode cX9_page 186 = .ok (.invokestatic 234, 3) := by decide +kernel
theorem dX9_page_189 : decode cX9_page 189 = .ok (.isub, 1) := by decide +kernel
theorem dX9_page_190 : decode cX9_page 190 = .ok (.ireturn, 1) := by decide +kernel
theorem dX9_page_191 : decode cX9_page 191 = .ok (.iload_n 3, 1) := by decide +kernel
theorem dX9_page_192 : decode cX9_page 192 = .ok (.iconst 1, 1) := by decide +kernel
theorem dX9_page_193 : decode cX9_page 193 = .ok (.iadd, 1) := by decide +kernel
theorem dX9_page_194 : decode cX9_page 194 = .ok (.bipush 64, 2) := by decide +kernel
theorem dX9_page_196 : decode cX9_page 196 = .ok (.imul, 1) := by decide +kernel
theorem dX9_page_197 : decode cX9_page 197 = .ok (.aload_n 0, 1) := by decide +kernel
theorem dX9_page_198 : decode cX9_page 198 = .ok (.getfield 43, 3) := by decide +kernel
theorem dX9_page_201 : decode cX9_page 201 = .ok (.getfield 149, 3) := by decide +kernel
theorem dX9_page_204 : decode cX9_page 204 = .ok (.iload_n 3, 1) := by decide +kernel
theorem dX9_page_205 : decode cX9_page 205 = .ok (.invokestatic 231, 3) := by decide +kernel
theorem dX9_page_208 : decode cX9_page 208 = .ok (.isub, 1) := by decide +kernel
theorem dX9_page_209 : decode cX9_page 209 = .ok (.ireturn, 1) := by decide +kernel
theorem dX9_page_210 : decode cX9_page 210 = .ok (.aload_n 0, 1) := by decide +kernel
theorem dX9_page_211 : decode cX9_page 211 = .ok (.getfield 64, 3) := by decide +kernel
theorem dX9_page_214 : decode cX9_page 214 = .ok (.iload_n 3, 1) := by decide +kernel
theorem dX9_page_215 : decode cX9_page 215 = .ok (.invokevirtual 237, 3) := by decide +kernel
theorem dX9_page_218 : decode cX9_page 218 = .ok (.ifCond .eq 7, 3) := by decide +kernel
theorem dX9_page_221 : decode cX9_page 221 = .ok (.iconst 1, 1) := by decide +kernel
theorem dX9_page_222 : decode cX9_page 222 = .ok (.goto 4, 3) := by decide +kernel
theorem dX9_page_225 : decode cX9_page 225 = .ok (.iconst 0, 1) := by decide +kernel
theorem dX9_page_226 : decode cX9_page 226 = .ok (.ireturn, 1) := by decide +kernel
theorem dX9_page_227 : decode cX9_page 227 = .ok (.iconst (-1), 1) := by decide +kernel
theorem dX9_page_228 : decode cX9_page 228 = .ok (.ireturn, 1) := by decide +kernel
theorem dX9_packing_0 : decode cX9_packing 0 = .ok (.aload_n 0, 1) := by decide +kernel
theorem dX9_packing_1 : decode cX9_packing 1 = .ok (.iload_n 1, 1) := by decide +kernel
theorem dX9_packing_2 : decode cX9_packing 2 = .ok (.invokevirtual 211, 3) := by decide +kernel
theorem dX9_packing_5 : decode cX9_packing 5 = .ok (.ifCond .eq 12, 3) := by decide +kernel
theorem dX9_packing_8 : decode cX9_packing 8 = .ok (.iload_n 2, 1) := by decide +kernel
theorem dX9_packing_9 : decode cX9_packing 9 = .ok (.ifCond .lt 8, 3) := by decide +kernel
theorem dX9_packing_12 : decode cX9_packing 12 = .ok (.iload_n 2, 1) := by decide +kernel
theorem dX9_packing_13 : decode cX9_packing 13 = .ok (.iconst 4, 1) := by decide +kernel
theorem dX9_packing_14 : decode cX9_packing 14 = .ok (.if_icmp .lt 5, 3) := by decide +kernel
theorem dX9_packing_17 : decode cX9_packing 17 = .ok (.iconst (-1), 1) := by decide +kernel
theorem dX9_packing_18 : decode cX9_packing 18 = .ok (.ireturn, 1) := by decide +kernel
theorem dX9_packing_19 : decode cX9_packing 19 = .ok (.aload_n 0, 1) := by decide +kernel
theorem dX9_packing_20 : decode cX9_packing 20 = .ok (.getfield 57, 3) := by decide +kernel
theorem dX9_packing_23 : decode cX9_packing 23 = .ok (.aload_n 0, 1) := by decide +kernel
theorem dX9_packing_24 : decode cX9_packing 24 = .ok (.getfield 43, 3) := by decide +kernel
theorem dX9_packing_27 : decode cX9_packing 27 = .ok (.getfield 149, 3) := by decide +kernel
theorem dX9_packing_30 : decode cX9_packing 30 = .ok (.aload_n 0, 1) := by decide +kernel
theorem dX9_packing_31 : decode cX9_packing 31 = .ok (.getfield 43, 3) := by decide +kernel
theorem dX9_packing_34 : decode cX9_packing 34 = .ok (.getfield 149, 3) := by decide +kernel
theorem dX9_packing_37 : decode cX9_packing 37 = .ok (.iload_n 1, 1) := by decide +kernel
theorem dX9_packing_38 : decode cX9_packing 38 = .ok (.invokestatic 214, 3) := by decide +kernel
theorem dX9_packing_41 : decode cX9_packing 41 = .ok (.bipush 64, 2) := by decide +kernel
theorem dX9_packing_43 : decode cX9_packing 43 = .ok (.invokevirtual 187, 3) := by decide +kernel
theorem dX9_packing_46 : decode cX9_packing 46 = .ok (.aload_n 0, 1) := by decide +kernel
theorem dX9_packing_47 : decode cX9_packing 47 = .ok (.getfield 57, 3) := by decide +kernel
theorem dX9_packing_50 : decode cX9_packing 50 = .ok (.iconst 0, 1) := by decide +kernel
theorem dX9_packing_51 : decode cX9_packing 51 = .ok (.sipush 256, 3) := by decide +kernel
theorem dX9_packing_54 : decode cX9_packing 54 = .ok (.invokevirtual 240, 3) := by decide +kernel
theorem dX9_packing_57 : decode cX9_packing 57 = .ok (.istore_n 3, 1) := by decide +kernel
theorem dX9_packing_58 : decode cX9_packing 58 = .ok (.aload_n 0, 1) := by decide +kernel
theorem dX9_packing_59 : decode cX9_packing 59 = .ok (.getfield 57, 3) := by decide +kernel
theorem dX9_packing_62 : decode cX9_packing 62 = .ok (.getfield 95, 3) := by decide +kernel
theorem dX9_packing_65 : decode cX9_packing 65 = .ok (.aload_n 0, 1) := by decide +kernel
theorem dX9_packing_66 : decode cX9_packing 66 = .ok (.getfield 57, 3) := by decide +kernel
theorem dX9_packing_69 : decode cX9_packing 69 = .ok (.getfield 243, 3) := by decide +kernel
theorem dX9_packing_72 : decode cX9_packing 72 = .ok (.iload_n 3, 1) := by decide +kernel
theorem dX9_packing_73 : decode cX9_packing 73 = .ok (.iload_n 2, 1) := by decide +kernel
theorem dX9_packing_74 : decode cX9_packing 74 = .ok (.invokevirtual 105, 3) := by decide +kernel
theorem dX9_packing_77 : decode cX9_packing 77 = .ok (.ireturn, 1) := by decide +kernel
theorem dX9_entry_0 : decode cX9_entry 0 = .ok (.aload_n 0, 1) := by decide +kernel
theorem dX9_entry_1 : decode cX9_entry 1 = .ok (.iload_n 1, 1) := by decide +kernel
theorem dX9_entry_2 : decode cX9_entry 2 = .ok (.invokevirtual 211, 3) := by decide +kernel
theorem dX9_entry_5 : decode cX9_entry 5 = .ok (.ifCond .eq 11, 3) := by decide +kernel
theorem dX9_entry_8 : decode cX9_entry 8 = .ok (.iload_n 2, 1) := by decide +kernel
theorem dX9_entry_9 : decode cX9_entry 9 = .ok (.ifCond .lt 7, 3) := by decide +kernel
theorem dX9_entry_12 : decode cX9_entry 12 = .ok (.iload_n 3, 1) := by decide +kernel
theorem dX9_entry_13 : decode cX9_entry 13 = .ok (.ifCond .ge 5, 3) := by decide +kernel
theorem dX9_entry_16 : decode cX9_entry 16 = .ok (.iconst (-1), 1) := by decide +kernel
theorem dX9_entry_17 : decode cX9_entry 17 = .ok (.ireturn, 1) := by decide +kernel
theorem dX9_entry_18 : decode cX9_entry 18 = .ok (.aload_n 0, 1) := by decide +kernel
theorem dX9_entry_19 : decode cX9_entry 19 = .ok (.getfield 43, 3) := by decide +kernel
theorem dX9_entry_22 : decode cX9_entry 22 = .ok (.getfield 149, 3) := by decide +kernel
theorem dX9_entry_25 : decode cX9_entry 25 = .ok (.iload_n 1, 1) := by decide +kernel
theorem dX9_entry_26 : decode cX9_entry 26 = .ok (.invokestatic 214, 3) := by decide +kernel
theorem dX9_entry_29 : decode cX9_entry 29 = .ok (.istore 4, 2) := by decide +kernel
theorem dX9_entry_31 : decode cX9_entry 31 = .ok (.aload_n 0, 1) := by decide +kernel
theorem dX9_entry_32 : decode cX9_entry 32 = .ok (.getfield 43, 3) := by decide +kernel
theorem dX9_entry_35 : decode cX9_entry 35 = .ok (.getfield 149, 3) := by decide +kernel
theorem dX9_entry_38 : decode cX9_entry 38 = .ok (.iload 4, 2) := by decide +kernel
theorem dX9_entry_40 : decode cX9_entry 40 = .ok (.iload_n 2, 1) := by decide +kernel
theorem dX9_entry_41 : decode cX9_entry 41 = .ok (.invokestatic 246, 3) := by decide +kernel
theorem dX9_entry_44 : decode cX9_entry 44 = .ok (.istore 5, 2) := by decide +kernel
theorem dX9_entry_46 : decode cX9_entry 46 = .ok (.iload_n 2, 1) := by decide +kernel
theorem dX9_entry_47 : decode cX9_entry 47 = .ok (.bipush 64, 2) := by decide +kernel
theorem dX9_entry_49 : decode cX9_entry 49 = .ok (.if_icmp .ge 20, 3) := by decide +kernel
theorem dX9_entry_52 : decode cX9_entry 52 = .ok (.iload 5, 2) := by decide +kernel
theorem dX9_entry_54 : decode cX9_entry 54 = .ok (.aload_n 0, 1) := by decide +kernel
theorem dX9_entry_55 : decode cX9_entry 55 = .ok (.getfield 43, 3) := by decide +kernel
theorem dX9_entry_58 : decode cX9_entry 58 = .ok (.getfield 149, 3) := by decide +kernel
theorem dX9_entry_61 : decode cX9_entry 61 = .ok (.iload 4, 2) := by decide +kernel
theorem dX9_entry_63 : decode cX9_entry 63 = .ok (.invokestatic 231, 3) := by decide +kernel
theorem dX9_entry_66 : decode cX9_entry 66 = .ok (.if_icmp .lt 5, 3) := by decide +kernel
theorem dX9_entry_69 : decode cX9_entry 69 = .ok (.iconst (-1), 1) := by decide +kernel
theorem dX9_entry_70 : decode cX9_entry 70 = .ok (.ireturn, 1) := by decide +kernel
theorem dX9_entry_71 : decode cX9_entry 71 = .ok (.aload_n 0, 1) := by decide +kernel
theorem dX9_entry_72 : decode cX9_entry 72 = .ok (.getfield 43, 3) := by decide +kernel
theorem dX9_entry_75 : decode cX9_entry 75 = .ok (.getfield 149, 3) := by decide +kernel
theorem dX9_entry_78 : decode cX9_entry 78 = .ok (.iload 5, 2) := by decide +kernel
theorem dX9_entry_80 : decode cX9_entry 80 = .ok (.iaload, 1) := by decide +kernel
theorem dX9_entry_81 : decode cX9_entry 81 = .ok (.istore 6, 2) := by decide +kernel
theorem dX9_entry_83 : decode cX9_entry 83 = .ok (.iload_n 3, 1) := by decide +kernel
theorem dX9_entry_84 : decode cX9_entry 84 = .ok (.ifCond .ne 9, 3) := by decide +kernel
theorem dX9_entry_87 : decode cX9_entry 87 = .ok (.iload 6, 2) := by decide +kernel
theorem dX9_entry_89 : decode cX9_entry 89 = .ok (.invokestatic 249, 3) := by decide +kernel
theorem dX9_entry_92 : decode cX9_entry 92 = .ok (.ireturn, 1) := by decide +kernel
theorem dX9_entry_93 : decode cX9_entry 93 = .ok (.iload_n 3, 1) := by decide +kernel
theorem dX9_entry_94 : decode cX9_entry 94 = .ok (.iconst 1, 1) := by decide +kernel
theorem dX9_entry_95 : decode cX9_entry 95 = .ok (.if_icmp .ne 9, 3) := by decide +kernel
theorem dX9_entry_98 : decode cX9_entry 98 = .ok (.iload 6, 2) := by decide +kernel
theorem dX9_entry_100 : decode cX9_entry 100 = .ok (.invokestatic 252, 3) := by decide +kernel
theorem dX9_entry_103 : decode cX9_entry 103 = .ok (.ireturn, 1) := by decide +kernel
theorem dX9_entry_104 : decode cX9_entry 104 = .ok (.iload_n 3, 1) := by decide +kernel
theorem dX9_entry_105 : decode cX9_entry 105 = .ok (.iconst 1, 1) := by decide +kernel
theorem dX9_entry_106 : decode cX9_entry 106 = .ok (.isub, 1) := by decide +kernel
theorem dX9_entry_107 : decode cX9_entry 107 = .ok (.iload 6, 2) := by decide +kernel
theorem dX9_entry_109 : decode cX9_entry 109 = .ok (.invokestatic 255, 3) := by decide +kernel
theorem dX9_entry_112 : decode cX9_entry 112 = .ok (.if_icmp .ge 20, 3) := by decide +kernel
theorem dX9_entry_115 : decode cX9_entry 115 = .ok (.aload_n 0, 1) := by decide +kernel
theorem dX9_entry_116 : decode cX9_entry 116 = .ok (.getfield 43, 3) := by decide +kernel
theorem dX9_entry_119 : decode cX9_entry 119 = .ok (.getfield 149, 3) := by decide +kernel
theorem dX9_entry_122 : decode cX9_entry 122 = .ok (.iload 5, 2) := by decide +kernel
theorem dX9_entry_124 : decode cX9_entry 124 = .ok (.iload_n 3, 1) := by decide +kernel
theorem dX9_entry_125 : decode cX9_entry 125 = .ok (.iadd, 1) := by decide +kernel
theorem dX9_entry_126 : decode cX9_entry 126 = .ok (.iconst 1, 1) := by decide +kernel
theorem dX9_entry_127 : decode cX9_entry 127 = .ok (.isub, 1) := by decide +kernel
theorem dX9_entry_128 : decode cX9_entry 128 = .ok (.iaload, 1) := by decide +kernel
theorem dX9_entry_129 : decode cX9_entry 129 = .ok (.goto 4, 3) := by decide +kernel
theorem dX9_entry_132 : decode cX9_entry 132 = .ok (.iconst (-1), 1) := by decide +kernel
theorem dX9_entry_133 : decode cX9_entry 133 = .ok (.ireturn, 1) := by decide +kernel
theorem dX9_behind_0 : decode cX9_behind 0 = .ok (.aload_n 0, 1) := by decide +kernel
theorem dX9_behind_1 : decode cX9_behind 1 = .ok (.iload_n 1, 1) := by decide +kernel
theorem dX9_behind_2 : decode cX9_behind 2 = .ok (.invokevirtual 211, 3) := by decide +kernel
theorem dX9_behind_5 : decode cX9_behind 5 = .ok (.ifCond .eq 7, 3) := by decide +kernel
theorem dX9_behind_8 : decode cX9_behind 8 = .ok (.iload_n 2, 1) := by decide +kernel
theorem dX9_behind_9 : decode cX9_behind 9 = .ok (.ifCond .ge 5, 3) := by decide +kernel
theorem dX9_behind_12 : decode cX9_behind 12 = .ok (.iconst (-1), 1) := by decide +kernel
theorem dX9_behind_13 : decode cX9_behind 13 = .ok (.ireturn, 1) := by decide +kernel
theorem dX9_behind_14 : decode cX9_behind 14 = .ok (.aload_n 0, 1) := by decide +kernel
theorem dX9_behind_15 : decode cX9_behind 15 = .ok (.getfield 43, 3) := by decide +kernel
theorem dX9_behind_18 : decode cX9_behind 18 = .ok (.getfield 149, 3) := by decide +kernel
theorem dX9_behind_21 : decode cX9_behind 21 = .ok (.iload_n 1, 1) := by decide +kernel
theorem dX9_behind_22 : decode cX9_behind 22 = .ok (.invokestatic 214, 3) := by decide +kernel
theorem dX9_behind_25 : decode cX9_behind 25 = .ok (.istore 4, 2) := by decide +kernel
theorem dX9_behind_27 : decode cX9_behind 27 = .ok (.iload_n 2, 1) := by decide +kernel
theorem dX9_behind_28 : decode cX9_behind 28 = .ok (.aload_n 0, 1) := by decide +kernel
theorem dX9_behind_29 : decode cX9_behind 29 = .ok (.getfield 43, 3) := by decide +kernel
theorem dX9_behind_32 : decode cX9_behind 32 = .ok (.getfield 149, 3) := by decide +kernel
theorem dX9_behind_35 : decode cX9_behind 35 = .ok (.iload 4, 2) := by decide +kernel
theorem dX9_behind_37 : decode cX9_behind 37 = .ok (.invokestatic 228, 3) := by decide +kernel
theorem dX9_behind_40 : decode cX9_behind 40 = .ok (.if_icmp .le 5, 3) := by decide +kernel
theorem dX9_behind_43 : decode cX9_behind 43 = .ok (.iconst (-1), 1) := by decide +kernel
theorem dX9_behind_44 : decode cX9_behind 44 = .ok (.ireturn, 1) := by decide +kernel
theorem dX9_behind_45 : decode cX9_behind 45 = .ok (.aload_n 0, 1) := by decide +kernel
theorem dX9_behind_46 : decode cX9_behind 46 = .ok (.getfield 57, 3) := by decide +kernel
theorem dX9_behind_49 : decode cX9_behind 49 = .ok (.aload_n 0, 1) := by decide +kernel
theorem dX9_behind_50 : decode cX9_behind 50 = .ok (.getfield 43, 3) := by decide +kernel
theorem dX9_behind_53 : decode cX9_behind 53 = .ok (.getfield 149, 3) := by decide +kernel
theorem dX9_behind_56 : decode cX9_behind 56 = .ok (.iload 4, 2) := by decide +kernel
theorem dX9_behind_58 : decode cX9_behind 58 = .ok (.iload_n 2, 1) := by decide +kernel
theorem dX9_behind_59 : decode cX9_behind 59 = .ok (.invokevirtual 187, 3) := by decide +kernel
theorem dX9_behind_62 : decode cX9_behind 62 = .ok (.iload_n 3, 1) := by decide +kernel
theorem dX9_behind_63 : decode cX9_behind 63 = .ok (.iconst (-1), 1) := by decide +kernel
theorem dX9_behind_64 : decode cX9_behind 64 = .ok (.if_icmp .ne 17, 3) := by decide +kernel
theorem dX9_behind_67 : decode cX9_behind 67 = .ok (.aload_n 0, 1) := by decide +kernel
theorem dX9_behind_68 : decode cX9_behind 68 = .ok (.getfield 57, 3) := by decide +kernel
theorem dX9_behind_71 : decode cX9_behind 71 = .ok (.iconst 0, 1) := by decide +kernel
theorem dX9_behind_72 : decode cX9_behind 72 = .ok (.sipush 256, 3) := by decide +kernel
theorem dX9_behind_75 : decode cX9_behind 75 = .ok (.invokevirtual 222, 3) := by decide +kernel
theorem dX9_behind_78 : decode cX9_behind 78 = .ok (.goto 11, 3) := by decide +kernel
theorem dX9_behind_81 : decode cX9_behind 81 = .ok (.aload_n 0, 1) := by decide +kernel
theorem dX9_behind_82 : decode cX9_behind 82 = .ok (.getfield 57, 3) := by decide +kernel
theorem dX9_behind_85 : decode cX9_behind 85 = .ok (.iload_n 3, 1) := by decide +kernel
theorem dX9_behind_86 : decode cX9_behind 86 = .ok (.invokevirtual 191, 3) := by decide +kernel
theorem dX9_behind_89 : decode cX9_behind 89 = .ok (.ireturn, 1) := by decide +kernel
theorem dX9_would_0 : decode cX9_would 0 = .ok (.aload_n 0, 1) := by decide +kernel
theorem dX9_would_1 : decode cX9_would 1 = .ok (.getfield 43, 3) := by decide +kernel
theorem dX9_would_4 : decode cX9_would 4 = .ok (.getfield 138, 3) := by decide +kernel
theorem dX9_would_7 : decode cX9_would 7 = .ok (.ifCond .ne 12, 3) := by decide +kernel
theorem dX9_would_10 : decode cX9_would 10 = .ok (.iload_n 1, 1) := by decide +kernel
theorem dX9_would_11 : decode cX9_would 11 = .ok (.ifCond .lt 8, 3) := by decide +kernel
theorem dX9_would_14 : decode cX9_would 14 = .ok (.iload_n 1, 1) := by decide +kernel
theorem dX9_would_15 : decode cX9_would 15 = .ok (.iconst 3, 1) := by decide +kernel
theorem dX9_would_16 : decode cX9_would 16 = .ok (.if_icmp .le 5, 3) := by decide +kernel
theorem dX9_would_19 : decode cX9_would 19 = .ok (.iconst (-1), 1) := by decide +kernel
theorem dX9_would_20 : decode cX9_would 20 = .ok (.ireturn, 1) := by decide +kernel
theorem dX9_would_21 : decode cX9_would 21 = .ok (.aload_n 0, 1) := by decide +kernel
theorem dX9_would_22 : decode cX9_would 22 = .ok (.invokevirtual 142, 3) := by decide +kernel
theorem dX9_would_25 : decode cX9_would 25 = .ok (.istore_n 2, 1) := by decide +kernel
theorem dX9_would_26 : decode cX9_would 26 = .ok (.iload_n 2, 1) := by decide +kernel
theorem dX9_would_27 : decode cX9_would 27 = .ok (.ifCond .ge 7, 3) := by decide +kernel
theorem dX9_would_30 : decode cX9_would 30 = .ok (.iconst 1, 1) := by decide +kernel
theorem dX9_would_31 : decode cX9_would 31 = .ok (.goto 4, 3) := by decide +kernel
theorem dX9_would_34 : decode cX9_would 34 = .ok (.iconst 0, 1) := by decide +kernel
theorem dX9_would_35 : decode cX9_would 35 = .ok (.istore_n 3, 1) := by decide +kernel
theorem dX9_would_36 : decode cX9_would 36 = .ok (.iload_n 1, 1) := by decide +kernel
theorem dX9_would_37 : decode cX9_would 37 = .ok (.tableswitch 68 0 2 #[27, 29, 45], 27) := by decide +kernel
theorem dX9_would_64 : decode cX9_would 64 = .ok (.iload_n 2, 1) := by decide +kernel
theorem dX9_would_65 : decode cX9_would 65 = .ok (.ireturn, 1) := by decide +kernel
theorem dX9_would_66 : decode cX9_would 66 = .ok (.iload_n 3, 1) := by decide +kernel
theorem dX9_would_67 : decode cX9_would 67 = .ok (.ifCond .eq 7, 3) := by decide +kernel
theorem dX9_would_70 : decode cX9_would 70 = .ok (.iconst 0, 1) := by decide +kernel
theorem dX9_would_71 : decode cX9_would 71 = .ok (.goto 10, 3) := by decide +kernel
theorem dX9_would_74 : decode cX9_would 74 = .ok (.aload_n 0, 1) := by decide +kernel
theorem dX9_would_75 : decode cX9_would 75 = .ok (.getfield 50, 3) := by decide +kernel
theorem dX9_would_78 : decode cX9_would 78 = .ok (.invokevirtual 258, 3) := by decide +kernel
theorem dX9_would_81 : decode cX9_would 81 = .ok (.ireturn, 1) := by decide +kernel
theorem dX9_would_82 : decode cX9_would 82 = .ok (.iload_n 3, 1) := by decide +kernel
theorem dX9_would_83 : decode cX9_would 83 = .ok (.ifCond .eq 12, 3) := by decide +kernel
theorem dX9_would_86 : decode cX9_would 86 = .ok (.aload_n 0, 1) := by decide +kernel
theorem dX9_would_87 : decode cX9_would 87 = .ok (.getfield 13, 3) := by decide +kernel
theorem dX9_would_90 : decode cX9_would 90 = .ok (.iconst 0, 1) := by decide +kernel
theorem dX9_would_91 : decode cX9_would 91 = .ok (.iaload, 1) := by decide +kernel
theorem dX9_would_92 : decode cX9_would 92 = .ok (.goto 12, 3) := by decide +kernel
theorem dX9_would_95 : decode cX9_would 95 = .ok (.aload_n 0, 1) := by decide +kernel
theorem dX9_would_96 : decode cX9_would 96 = .ok (.getfield 50, 3) := by decide +kernel
theorem dX9_would_99 : decode cX9_would 99 = .ok (.getfield 261, 3) := by decide +kernel
theorem dX9_would_102 : decode cX9_would 102 = .ok (.iconst 0, 1) := by decide +kernel
theorem dX9_would_103 : decode cX9_would 103 = .ok (.iaload, 1) := by decide +kernel
theorem dX9_would_104 : decode cX9_would 104 = .ok (.ireturn, 1) := by decide +kernel
theorem dX9_would_105 : decode cX9_would 105 = .ok (.iload_n 3, 1) := by decide +kernel
theorem dX9_would_106 : decode cX9_would 106 = .ok (.ifCond .eq 13, 3) := by decide +kernel
theorem dX9_would_109 : decode cX9_would 109 = .ok (.aload_n 0, 1) := by decide +kernel
theorem dX9_would_110 : decode cX9_would 110 = .ok (.getfield 43, 3) := by decide +kernel
theorem dX9_would_113 : decode cX9_would 113 = .ok (.getfield 149, 3) := by decide +kernel
theorem dX9_would_116 : decode cX9_would 116 = .ok (.goto 10, 3) := by decide +kernel
theorem dX9_would_119 : decode cX9_would 119 = .ok (.aload_n 0, 1) := by decide +kernel
theorem dX9_would_120 : decode cX9_would 120 = .ok (.getfield 50, 3) := by decide +kernel
theorem dX9_would_123 : decode cX9_would 123 = .ok (.getfield 262, 3) := by decide +kernel
theorem dX9_would_126 : decode cX9_would 126 = .ok (.invokestatic 263, 3) := by decide +kernel
theorem dX9_would_129 : decode cX9_would 129 = .ok (.ireturn, 1) := by decide +kernel
theorem dX9_block_0 : decode cX9_block 0 = .ok (.iload_n 1, 1) := by decide +kernel
theorem dX9_block_1 : decode cX9_block 1 = .ok (.ifCond .lt 19, 3) := by decide +kernel
theorem dX9_block_4 : decode cX9_block 4 = .ok (.iload_n 1, 1) := by decide +kernel
theorem dX9_block_5 : decode cX9_block 5 = .ok (.bipush 10, 2) := by decide +kernel
theorem dX9_block_7 : decode cX9_block 7 = .ok (.if_icmp .ge 13, 3) := by decide +kernel
theorem dX9_block_10 : decode cX9_block 10 = .ok (.iload_n 2, 1) := by decide +kernel
theorem dX9_block_11 : decode cX9_block 11 = .ok (.ifCond .lt 9, 3) := by decide +kernel
theorem dX9_block_14 : decode cX9_block 14 = .ok (.iload_n 2, 1) := by decide +kernel
theorem dX9_block_15 : decode cX9_block 15 = .ok (.bipush 64, 2) := by decide +kernel
theorem dX9_block_17 : decode cX9_block 17 = .ok (.if_icmp .lt 5, 3) := by decide +kernel
theorem dX9_block_20 : decode cX9_block 20 = .ok (.iconst (-1), 1) := by decide +kernel
theorem dX9_block_21 : decode cX9_block 21 = .ok (.ireturn, 1) := by decide +kernel
theorem dX9_block_22 : decode cX9_block 22 = .ok (.aload_n 0, 1) := by decide +kernel
theorem dX9_block_23 : decode cX9_block 23 = .ok (.getfield 43, 3) := by decide +kernel
theorem dX9_block_26 : decode cX9_block 26 = .ok (.getfield 149, 3) := by decide +kernel
theorem dX9_block_29 : decode cX9_block 29 = .ok (.iload_n 1, 1) := by decide +kernel
theorem dX9_block_30 : decode cX9_block 30 = .ok (.bipush 64, 2) := by decide +kernel
theorem dX9_block_32 : decode cX9_block 32 = .ok (.imul, 1) := by decide +kernel
theorem dX9_block_33 : decode cX9_block 33 = .ok (.iload_n 2, 1) := by decide +kernel
theorem dX9_block_34 : decode cX9_block 34 = .ok (.iadd, 1) := by decide +kernel
theorem dX9_block_35 : decode cX9_block 35 = .ok (.iaload, 1) := by decide +kernel
theorem dX9_block_36 : decode cX9_block 36 = .ok (.ireturn, 1) := by decide +kernel
theorem dX9_directory_0 : decode cX9_directory 0 = .ok (.iload_n 1, 1) := by decide +kernel
theorem dX9_directory_1 : decode cX9_directory 1 = .ok (.ifCond .lt 25, 3) := by decide +kernel
theorem dX9_directory_4 : decode cX9_directory 4 = .ok (.iload_n 1, 1) := by decide +kernel
theorem dX9_directory_5 : decode cX9_directory 5 = .ok (.bipush 21, 2) := by decide +kernel
theorem dX9_directory_7 : decode cX9_directory 7 = .ok (.if_icmp .ge 19, 3) := by decide +kernel
theorem dX9_directory_10 : decode cX9_directory 10 = .ok (.aload_n 0, 1) := by decide +kernel
theorem dX9_directory_11 : decode cX9_directory 11 = .ok (.getfield 43, 3) := by decide +kernel
theorem dX9_directory_14 : decode cX9_directory 14 = .ok (.getfield 149, 3) := by decide +kernel
theorem dX9_directory_17 : decode cX9_directory 17 = .ok (.sipush 640, 3) := by decide +kernel
theorem dX9_directory_20 : decode cX9_directory 20 = .ok (.iload_n 1, 1) := by decide +kernel
theorem dX9_directory_21 : decode cX9_directory 21 = .ok (.iadd, 1) := by decide +kernel
theorem dX9_directory_22 : decode cX9_directory 22 = .ok (.iaload, 1) := by decide +kernel
theorem dX9_directory_23 : decode cX9_directory 23 = .ok (.goto 4, 3) := by decide +kernel
theorem dX9_directory_26 : decode cX9_directory 26 = .ok (.iconst (-1), 1) := by decide +kernel
theorem dX9_directory_27 : decode cX9_directory 27 = .ok (.ireturn, 1) := by decide +kernel
theorem dX9_journal_0 : decode cX9_journal 0 = .ok (.iload_n 1, 1) := by decide +kernel
theorem dX9_journal_1 : decode cX9_journal 1 = .ok (.ifCond .lt 26, 3) := by decide +kernel
theorem dX9_journal_4 : decode cX9_journal 4 = .ok (.iload_n 1, 1) := by decide +kernel
theorem dX9_journal_5 : decode cX9_journal 5 = .ok (.sipush 673, 3) := by decide +kernel
theorem dX9_journal_8 : decode cX9_journal 8 = .ok (.if_icmp .ge 19, 3) := by decide +kernel
theorem dX9_journal_11 : decode cX9_journal 11 = .ok (.aload_n 0, 1) := by decide +kernel
theorem dX9_journal_12 : decode cX9_journal 12 = .ok (.getfield 43, 3) := by decide +kernel
theorem dX9_journal_15 : decode cX9_journal 15 = .ok (.getfield 149, 3) := by decide +kernel
theorem dX9_journal_18 : decode cX9_journal 18 = .ok (.sipush 661, 3) := by decide +kernel
theorem dX9_journal_21 : decode cX9_journal 21 = .ok (.iload_n 1, 1) := by decide +kernel
theorem dX9_journal_22 : decode cX9_journal 22 = .ok (.iadd, 1) := by decide +kernel
theorem dX9_journal_23 : decode cX9_journal 23 = .ok (.iaload, 1) := by decide +kernel
theorem dX9_journal_24 : decode cX9_journal 24 = .ok (.goto 4, 3) := by decide +kernel
theorem dX9_journal_27 : decode cX9_journal 27 = .ok (.iconst (-1), 1) := by decide +kernel
theorem dX9_journal_28 : decode cX9_journal 28 = .ok (.ireturn, 1) := by decide +kernel
theorem dX9_count_0 : decode cX9_count 0 = .ok (.iload_n 1, 1) := by decide +kernel
theorem dX9_count_1 : decode cX9_count 1 = .ok (.ifCond .lt 14, 3) := by decide +kernel
theorem dX9_count_4 : decode cX9_count 4 = .ok (.iload_n 1, 1) := by decide +kernel
theorem dX9_count_5 : decode cX9_count 5 = .ok (.iconst 2, 1) := by decide +kernel
theorem dX9_count_6 : decode cX9_count 6 = .ok (.if_icmp .gt 9, 3) := by decide +kernel
theorem dX9_count_9 : decode cX9_count 9 = .ok (.aload_n 0, 1) := by decide +kernel
theorem dX9_count_10 : decode cX9_count 10 = .ok (.iload_n 1, 1) := by decide +kernel
theorem dX9_count_11 : decode cX9_count 11 = .ok (.invokevirtual 267, 3) := by decide +kernel
theorem dX9_count_14 : decode cX9_count 14 = .ok (.ireturn, 1) := by decide +kernel
theorem dX9_count_15 : decode cX9_count 15 = .ok (.iload_n 1, 1) := by decide +kernel
theorem dX9_count_16 : decode cX9_count 16 = .ok (.iconst 3, 1) := by decide +kernel
theorem dX9_count_17 : decode cX9_count 17 = .ok (.if_icmp .lt 18, 3) := by decide +kernel
theorem dX9_count_20 : decode cX9_count 20 = .ok (.iload_n 1, 1) := by decide +kernel
theorem dX9_count_21 : decode cX9_count 21 = .ok (.bipush 6, 2) := by decide +kernel
theorem dX9_count_23 : decode cX9_count 23 = .ok (.if_icmp .gt 12, 3) := by decide +kernel
theorem dX9_count_26 : decode cX9_count 26 = .ok (.aload_n 0, 1) := by decide +kernel
theorem dX9_count_27 : decode cX9_count 27 = .ok (.getfield 13, 3) := by decide +kernel
theorem dX9_count_30 : decode cX9_count 30 = .ok (.iload_n 1, 1) := by decide +kernel
theorem dX9_count_31 : decode cX9_count 31 = .ok (.iconst 3, 1) := by decide +kernel
theorem dX9_count_32 : decode cX9_count 32 = .ok (.isub, 1) := by decide +kernel
theorem dX9_count_33 : decode cX9_count 33 = .ok (.iaload, 1) := by decide +kernel
theorem dX9_count_34 : decode cX9_count 34 = .ok (.ireturn, 1) := by decide +kernel
theorem dX9_count_35 : decode cX9_count 35 = .ok (.iload_n 1, 1) := by decide +kernel
theorem dX9_count_36 : decode cX9_count 36 = .ok (.bipush 13, 2) := by decide +kernel
theorem dX9_count_38 : decode cX9_count 38 = .ok (.if_icmp .lt 19, 3) := by decide +kernel
theorem dX9_count_41 : decode cX9_count 41 = .ok (.iload_n 1, 1) := by decide +kernel
theorem dX9_count_42 : decode cX9_count 42 = .ok (.bipush 19, 2) := by decide +kernel
theorem dX9_count_44 : decode cX9_count 44 = .ok (.if_icmp .gt 13, 3) := by decide +kernel
theorem dX9_count_47 : decode cX9_count 47 = .ok (.aload_n 0, 1) := by decide +kernel
theorem dX9_count_48 : decode cX9_count 48 = .ok (.getfield 28, 3) := by decide +kernel
theorem dX9_count_51 : decode cX9_count 51 = .ok (.iload_n 1, 1) := by decide +kernel
theorem dX9_count_52 : decode cX9_count 52 = .ok (.bipush 13, 2) := by decide +kernel
theorem dX9_count_54 : decode cX9_count 54 = .ok (.isub, 1) := by decide +kernel
theorem dX9_count_55 : decode cX9_count 55 = .ok (.iaload, 1) := by decide +kernel
theorem dX9_count_56 : decode cX9_count 56 = .ok (.ireturn, 1) := by decide +kernel
theorem dX9_count_57 : decode cX9_count 57 = .ok (.iload_n 1, 1) := by decide +kernel
theorem dX9_count_58 : decode cX9_count 58 = .ok (.bipush 20, 2) := by decide +kernel
theorem dX9_count_60 : decode cX9_count 60 = .ok (.if_icmp .lt 19, 3) := by decide +kernel
theorem dX9_count_63 : decode cX9_count 63 = .ok (.iload_n 1, 1) := by decide +kernel
theorem dX9_count_64 : decode cX9_count 64 = .ok (.bipush 24, 2) := by decide +kernel
theorem dX9_count_66 : decode cX9_count 66 = .ok (.if_icmp .gt 13, 3) := by decide +kernel
theorem dX9_count_69 : decode cX9_count 69 = .ok (.aload_n 0, 1) := by decide +kernel
theorem dX9_count_70 : decode cX9_count 70 = .ok (.getfield 9, 3) := by decide +kernel
theorem dX9_count_73 : decode cX9_count 73 = .ok (.iload_n 1, 1) := by decide +kernel
theorem dX9_count_74 : decode cX9_count 74 = .ok (.bipush 20, 2) := by decide +kernel
theorem dX9_count_76 : decode cX9_count 76 = .ok (.isub, 1) := by decide +kernel
theorem dX9_count_77 : decode cX9_count 77 = .ok (.iaload, 1) := by decide +kernel
theorem dX9_count_78 : decode cX9_count 78 = .ok (.ireturn, 1) := by decide +kernel
theorem dX9_count_79 : decode cX9_count 79 = .ok (.iload_n 1, 1) := by decide +kernel
theorem dX9_count_80 : decode cX9_count 80 = .ok (.tableswitch 93 7 12 #[40, 48, 56, 64, 80, 88], 40) := by decide +kernel
theorem dX9_count_120 : decode cX9_count 120 = .ok (.aload_n 0, 1) := by decide +kernel
theorem dX9_count_121 : decode cX9_count 121 = .ok (.getfield 64, 3) := by decide +kernel
theorem dX9_count_124 : decode cX9_count 124 = .ok (.getfield 270, 3) := by decide +kernel
theorem dX9_count_127 : decode cX9_count 127 = .ok (.ireturn, 1) := by decide +kernel
theorem dX9_count_128 : decode cX9_count 128 = .ok (.aload_n 0, 1) := by decide +kernel
theorem dX9_count_129 : decode cX9_count 129 = .ok (.getfield 64, 3) := by decide +kernel
theorem dX9_count_132 : decode cX9_count 132 = .ok (.getfield 271, 3) := by decide +kernel
theorem dX9_count_135 : decode cX9_count 135 = .ok (.ireturn, 1) := by decide +kernel
theorem dX9_count_136 : decode cX9_count 136 = .ok (.aload_n 0, 1) := by decide +kernel
theorem dX9_count_137 : decode cX9_count 137 = .ok (.getfield 43, 3) := by decide +kernel
theorem dX9_count_140 : decode cX9_count 140 = .ok (.getfield 159, 3) := by decide +kernel
theorem dX9_count_143 : decode cX9_count 143 = .ok (.ireturn, 1) := by decide +kernel
theorem dX9_count_144 : decode cX9_count 144 = .ok (.aload_n 0, 1) := by decide +kernel
theorem dX9_count_145 : decode cX9_count 145 = .ok (.getfield 43, 3) := by decide +kernel
theorem dX9_count_148 : decode cX9_count 148 = .ok (.getfield 138, 3) := by decide +kernel
theorem dX9_count_151 : decode cX9_count 151 = .ok (.ifCond .eq 7, 3) := by decide +kernel
theorem dX9_count_154 : decode cX9_count 154 = .ok (.iconst 1, 1) := by decide +kernel
theorem dX9_count_155 : decode cX9_count 155 = .ok (.goto 4, 3) := by decide +kernel
theorem dX9_count_158 : decode cX9_count 158 = .ok (.iconst 0, 1) := by decide +kernel
theorem dX9_count_159 : decode cX9_count 159 = .ok (.ireturn, 1) := by decide +kernel
theorem dX9_count_160 : decode cX9_count 160 = .ok (.aload_n 0, 1) := by decide +kernel
theorem dX9_count_161 : decode cX9_count 161 = .ok (.getfield 71, 3) := by decide +kernel
theorem dX9_count_164 : decode cX9_count 164 = .ok (.getfield 197, 3) := by decide +kernel
theorem dX9_count_167 : decode cX9_count 167 = .ok (.ireturn, 1) := by decide +kernel
theorem dX9_count_168 : decode cX9_count 168 = .ok (.aload_n 0, 1) := by decide +kernel
theorem dX9_count_169 : decode cX9_count 169 = .ok (.getfield 19, 3) := by decide +kernel
theorem dX9_count_172 : decode cX9_count 172 = .ok (.ireturn, 1) := by decide +kernel
theorem dX9_count_173 : decode cX9_count 173 = .ok (.iconst (-1), 1) := by decide +kernel
theorem dX9_count_174 : decode cX9_count 174 = .ok (.ireturn, 1) := by decide +kernel
theorem dX9_status_0 : decode cX9_status 0 = .ok (.aload_n 0, 1) := by decide +kernel
theorem dX9_status_1 : decode cX9_status 1 = .ok (.getfield 31, 3) := by decide +kernel
theorem dX9_status_4 : decode cX9_status 4 = .ok (.ireturn, 1) := by decide +kernel
theorem dX9_isByte_0 : decode cX9_isByte 0 = .ok (.iload_n 0, 1) := by decide +kernel
theorem dX9_isByte_1 : decode cX9_isByte 1 = .ok (.ifCond .lt 14, 3) := by decide +kernel
theorem dX9_isByte_4 : decode cX9_isByte 4 = .ok (.iload_n 0, 1) := by decide +kernel
theorem dX9_isByte_5 : decode cX9_isByte 5 = .ok (.sipush 255, 3) := by decide +kernel
theorem dX9_isByte_8 : decode cX9_isByte 8 = .ok (.if_icmp .gt 7, 3) := by decide +kernel
theorem dX9_isByte_11 : decode cX9_isByte 11 = .ok (.iconst 1, 1) := by decide +kernel
theorem dX9_isByte_12 : decode cX9_isByte 12 = .ok (.goto 4, 3) := by decide +kernel
theorem dX9_isByte_15 : decode cX9_isByte 15 = .ok (.iconst 0, 1) := by decide +kernel
theorem dX9_isByte_16 : decode cX9_isByte 16 = .ok (.ireturn, 1) := by decide +kernel
theorem dX9_isOrder_0 : decode cX9_isOrder 0 = .ok (.aload_n 0, 1) := by decide +kernel
theorem dX9_isOrder_1 : decode cX9_isOrder 1 = .ok (.getfield 43, 3) := by decide +kernel
theorem dX9_isOrder_4 : decode cX9_isOrder 4 = .ok (.getfield 138, 3) := by decide +kernel
theorem dX9_isOrder_7 : decode cX9_isOrder 7 = .ok (.ifCond .ne 25, 3) := by decide +kernel
theorem dX9_isOrder_10 : decode cX9_isOrder 10 = .ok (.iload_n 1, 1) := by decide +kernel
theorem dX9_isOrder_11 : decode cX9_isOrder 11 = .ok (.ifCond .lt 21, 3) := by decide +kernel
theorem dX9_isOrder_14 : decode cX9_isOrder 14 = .ok (.iload_n 1, 1) := by decide +kernel
theorem dX9_isOrder_15 : decode cX9_isOrder 15 = .ok (.aload_n 0, 1) := by decide +kernel
theorem dX9_isOrder_16 : decode cX9_isOrder 16 = .ok (.getfield 43, 3) := by decide +kernel
theorem dX9_isOrder_19 : decode cX9_isOrder 19 = .ok (.getfield 149, 3) := by decide +kernel
theorem dX9_isOrder_22 : decode cX9_isOrder 22 = .ok (.invokestatic 263, 3) := by decide +kernel
theorem dX9_isOrder_25 : decode cX9_isOrder 25 = .ok (.if_icmp .ge 7, 3) := by decide +kernel
theorem dX9_isOrder_28 : decode cX9_isOrder 28 = .ok (.iconst 1, 1) := by decide +kernel
theorem dX9_isOrder_29 : decode cX9_isOrder 29 = .ok (.goto 4, 3) := by decide +kernel
theorem dX9_isOrder_32 : decode cX9_isOrder 32 = .ok (.iconst 0, 1) := by decide +kernel
theorem dX9_isOrder_33 : decode cX9_isOrder 33 = .ok (.ireturn, 1) := by decide +kernel
theorem dX9_pageFor_0 : decode cX9_pageFor 0 = .ok (.aload_n 0, 1) := by decide +kernel
theorem dX9_pageFor_1 : decode cX9_pageFor 1 = .ok (.getfield 43, 3) := by decide +kernel
theorem dX9_pageFor_4 : decode cX9_pageFor 4 = .ok (.getfield 149, 3) := by decide +kernel
theorem dX9_pageFor_7 : decode cX9_pageFor 7 = .ok (.aload_n 0, 1) := by decide +kernel
theorem dX9_pageFor_8 : decode cX9_pageFor 8 = .ok (.getfield 43, 3) := by decide +kernel
theorem dX9_pageFor_11 : decode cX9_pageFor 11 = .ok (.getfield 149, 3) := by decide +kernel
theorem dX9_pageFor_14 : decode cX9_pageFor 14 = .ok (.iload_n 1, 1) := by decide +kernel
theorem dX9_pageFor_15 : decode cX9_pageFor 15 = .ok (.invokestatic 274, 3) := by decide +kernel
theorem dX9_pageFor_18 : decode cX9_pageFor 18 = .ok (.invokestatic 214, 3) := by decide +kernel
theorem dX9_pageFor_21 : decode cX9_pageFor 21 = .ok (.ireturn, 1) := by decide +kernel
theorem dX9_accept_0 : decode cX9_accept 0 = .ok (.aload_n 0, 1) := by decide +kernel
theorem dX9_accept_1 : decode cX9_accept 1 = .ok (.iconst 0, 1) := by decide +kernel
theorem dX9_accept_2 : decode cX9_accept 2 = .ok (.putfield 31, 3) := by decide +kernel
theorem dX9_accept_5 : decode cX9_accept 5 = .ok (.iload_n 1, 1) := by decide +kernel
theorem dX9_accept_6 : decode cX9_accept 6 = .ok (.ireturn, 1) := by decide +kernel
theorem dX9_refuse_0 : decode cX9_refuse 0 = .ok (.aload_n 0, 1) := by decide +kernel
theorem dX9_refuse_1 : decode cX9_refuse 1 = .ok (.iload_n 1, 1) := by decide +kernel
theorem dX9_refuse_2 : decode cX9_refuse 2 = .ok (.putfield 31, 3) := by decide +kernel
theorem dX9_refuse_5 : decode cX9_refuse 5 = .ok (.iconst (-1), 1) := by decide +kernel
theorem dX9_refuse_6 : decode cX9_refuse 6 = .ok (.iload_n 1, 1) := by decide +kernel
theorem dX9_refuse_7 : decode cX9_refuse 7 = .ok (.isub, 1) := by decide +kernel
theorem dX9_refuse_8 : decode cX9_refuse 8 = .ok (.istore_n 2, 1) := by decide +kernel
theorem dX9_refuse_9 : decode cX9_refuse 9 = .ok (.iload_n 2, 1) := by decide +kernel
theorem dX9_refuse_10 : decode cX9_refuse 10 = .ok (.ifCond .lt 22, 3) := by decide +kernel
theorem dX9_refuse_13 : decode cX9_refuse 13 = .ok (.iload_n 2, 1) := by decide +kernel
theorem dX9_refuse_14 : decode cX9_refuse 14 = .ok (.aload_n 0, 1) := by decide +kernel
theorem dX9_refuse_15 : decode cX9_refuse 15 = .ok (.getfield 28, 3) := by decide +kernel
theorem dX9_refuse_18 : decode cX9_refuse 18 = .ok (.arraylength, 1) := by decide +kernel
theorem dX9_refuse_19 : decode cX9_refuse 19 = .ok (.if_icmp .ge 13, 3) := by decide +kernel
theorem dX9_refuse_22 : decode cX9_refuse 22 = .ok (.aload_n 0, 1) := by decide +kernel
theorem dX9_refuse_23 : decode cX9_refuse 23 = .ok (.getfield 28, 3) := by decide +kernel
theorem dX9_refuse_26 : decode cX9_refuse 26 = .ok (.iload_n 2, 1) := by decide +kernel
theorem dX9_refuse_27 : decode cX9_refuse 27 = .ok (.dup2, 1) := by decide +kernel
theorem dX9_refuse_28 : decode cX9_refuse 28 = .ok (.iaload, 1) := by decide +kernel
theorem dX9_refuse_29 : decode cX9_refuse 29 = .ok (.iconst 1, 1) := by decide +kernel
theorem dX9_refuse_30 : decode cX9_refuse 30 = .ok (.iadd, 1) := by decide +kernel
theorem dX9_refuse_31 : decode cX9_refuse 31 = .ok (.iastore, 1) := by decide +kernel
theorem dX9_refuse_32 : decode cX9_refuse 32 = .ok (.iload_n 1, 1) := by decide +kernel
theorem dX9_refuse_33 : decode cX9_refuse 33 = .ok (.ireturn, 1) := by decide +kernel
theorem dX9_tellCutOff_0 : decode cX9_tellCutOff 0 = .ok (.aload_n 0, 1) := by decide +kernel
theorem dX9_tellCutOff_1 : decode cX9_tellCutOff 1 = .ok (.bipush (-7), 2) := by decide +kernel
theorem dX9_tellCutOff_3 : decode cX9_tellCutOff 3 = .ok (.invokevirtual 81, 3) := by decide +kernel
theorem dX9_tellCutOff_6 : decode cX9_tellCutOff 6 = .ok (.ireturn, 1) := by decide +kernel
theorem dX9_addFour_0 : decode cX9_addFour 0 = .ok (.bipush 24, 2) := by decide +kernel
theorem dX9_addFour_2 : decode cX9_addFour 2 = .ok (.istore_n 2, 1) := by decide +kernel
theorem dX9_addFour_3 : decode cX9_addFour 3 = .ok (.iload_n 2, 1) := by decide +kernel
theorem dX9_addFour_4 : decode cX9_addFour 4 = .ok (.ifCond .lt 45, 3) := by decide +kernel
theorem dX9_addFour_7 : decode cX9_addFour 7 = .ok (.aload_n 0, 1) := by decide +kernel
theorem dX9_addFour_8 : decode cX9_addFour 8 = .ok (.getfield 19, 3) := by decide +kernel
theorem dX9_addFour_11 : decode cX9_addFour 11 = .ok (.sipush 400, 3) := by decide +kernel
theorem dX9_addFour_14 : decode cX9_addFour 14 = .ok (.if_icmp .ge 35, 3) := by decide +kernel
theorem dX9_addFour_17 : decode cX9_addFour 17 = .ok (.aload_n 0, 1) := by decide +kernel
theorem dX9_addFour_18 : decode cX9_addFour 18 = .ok (.getfield 16, 3) := by decide +kernel
theorem dX9_addFour_21 : decode cX9_addFour 21 = .ok (.aload_n 0, 1) := by decide +kernel
theorem dX9_addFour_22 : decode cX9_addFour 22 = .ok (.getfield 19, 3) := by decide +kernel
theorem dX9_addFour_25 : decode cX9_addFour 25 = .ok (.iload_n 1, 1) := by decide +kernel
theorem dX9_addFour_26 : decode cX9_addFour 26 = .ok (.iload_n 2, 1) := by decide +kernel
theorem dX9_addFour_27 : decode cX9_addFour 27 = .ok (.iushr, 1) := by decide +kernel
theorem dX9_addFour_28 : decode cX9_addFour 28 = .ok (.sipush 255, 3) := by decide +kernel
theorem dX9_addFour_31 : decode cX9_addFour 31 = .ok (.iand, 1) := by decide +kernel
theorem dX9_addFour_32 : decode cX9_addFour 32 = .ok (.iastore, 1) := by decide +kernel
theorem dX9_addFour_33 : decode cX9_addFour 33 = .ok (.aload_n 0, 1) := by decide +kernel
theorem dX9_addFour_34 : decode cX9_addFour 34 = .ok (.dup, 1) := by decide +kernel
theorem dX9_addFour_35 : decode cX9_addFour 35 = .ok (.getfield 19, 3) := by decide +kernel
theorem dX9_addFour_38 : decode cX9_addFour 38 = .ok (.iconst 1, 1) := by decide +kernel
theorem dX9_addFour_39 : decode cX9_addFour 39 = .ok (.iadd, 1) := by decide +kernel
theorem dX9_addFour_40 : decode cX9_addFour 40 = .ok (.putfield 19, 3) := by decide +kernel
theorem dX9_addFour_43 : decode cX9_addFour 43 = .ok (.iinc 2 (-8), 3) := by decide +kernel
theorem dX9_addFour_46 : decode cX9_addFour 46 = .ok (.goto (-43), 3) := by decide +kernel
theorem dX9_addFour_49 : decode cX9_addFour 49 = .ok (.return_, 1) := by decide +kernel
theorem dX9_takeTape_0 : decode cX9_takeTape 0 = .ok (.iload_n 2, 1) := by decide +kernel
theorem dX9_takeTape_1 : decode cX9_takeTape 1 = .ok (.ifCond .lt 32, 3) := by decide +kernel
theorem dX9_takeTape_4 : decode cX9_takeTape 4 = .ok (.iload_n 2, 1) := by decide +kernel
theorem dX9_takeTape_5 : decode cX9_takeTape 5 = .ok (.sipush 400, 3) := by decide +kernel
theorem dX9_takeTape_8 : decode cX9_takeTape 8 = .ok (.if_icmp .gt 25, 3) := by decide +kernel
theorem dX9_takeTape_11 : decode cX9_takeTape 11 = .ok (.iload_n 2, 1) := by decide +kernel
theorem dX9_takeTape_12 : decode cX9_takeTape 12 = .ok (.aload_n 1, 1) := by decide +kernel
theorem dX9_takeTape_13 : decode cX9_takeTape 13 = .ok (.arraylength, 1) := by decide +kernel
theorem dX9_takeTape_14 : decode cX9_takeTape 14 = .ok (.if_icmp .gt 19, 3) := by decide +kernel
theorem dX9_takeTape_17 : decode cX9_takeTape 17 = .ok (.aload_n 1, 1) := by decide +kernel
theorem dX9_takeTape_18 : decode cX9_takeTape 18 = .ok (.iconst 0, 1) := by decide +kernel
theorem dX9_takeTape_19 : decode cX9_takeTape 19 = .ok (.aload_n 0, 1) := by decide +kernel
theorem dX9_takeTape_20 : decode cX9_takeTape 20 = .ok (.getfield 16, 3) := by decide +kernel
theorem dX9_takeTape_23 : decode cX9_takeTape 23 = .ok (.iconst 0, 1) := by decide +kernel
theorem dX9_takeTape_24 : decode cX9_takeTape 24 = .ok (.iload_n 2, 1) := by decide +kernel
theorem dX9_takeTape_25 : decode cX9_takeTape 25 = .ok (.invokestatic 277, 3) := by decide +kernel
theorem dX9_takeTape_28 : decode cX9_takeTape 28 = .ok (.aload_n 0, 1) := by decide +kernel
theorem dX9_takeTape_29 : decode cX9_takeTape 29 = .ok (.iload_n 2, 1) := by decide +kernel
theorem dX9_takeTape_30 : decode cX9_takeTape 30 = .ok (.putfield 19, 3) := by decide +kernel
theorem dX9_takeTape_33 : decode cX9_takeTape 33 = .ok (.return_, 1) := by decide +kernel
theorem dX9_layFromTape_0 : decode cX9_layFromTape 0 = .ok (.aload_n 0, 1) := by decide +kernel
theorem dX9_layFromTape_1 : decode cX9_layFromTape 1 = .ok (.getfield 19, 3) := by decide +kernel
theorem dX9_layFromTape_4 : decode cX9_layFromTape 4 = .ok (.bipush 8, 2) := by decide +kernel
theorem dX9_layFromTape_6 : decode cX9_layFromTape 6 = .ok (.invokestatic 283, 3) := by decide +kernel
theorem dX9_layFromTape_9 : decode cX9_layFromTape 9 = .ok (.istore_n 3, 1) := by decide +kernel
theorem dX9_layFromTape_10 : decode cX9_layFromTape 10 = .ok (.aload_n 0, 1) := by decide +kernel
theorem dX9_layFromTape_11 : decode cX9_layFromTape 11 = .ok (.getfield 25, 3) := by decide +kernel
theorem dX9_layFromTape_14 : decode cX9_layFromTape 14 = .ok (.iconst 0, 1) := by decide +kernel
theorem dX9_layFromTape_15 : decode cX9_layFromTape 15 = .ok (.bipush 16, 2) := by decide +kernel
theorem dX9_layFromTape_17 : decode cX9_layFromTape 17 = .ok (.iload_n 1, 1) := by decide +kernel
theorem dX9_layFromTape_18 : decode cX9_layFromTape 18 = .ok (.imul, 1) := by decide +kernel
theorem dX9_layFromTape_19 : decode cX9_layFromTape 19 = .ok (.iload_n 3, 1) := by decide +kernel
theorem dX9_layFromTape_20 : decode cX9_layFromTape 20 = .ok (.iadd, 1) := by decide +kernel
theorem dX9_layFromTape_21 : decode cX9_layFromTape 21 = .ok (.iastore, 1) := by decide +kernel
theorem dX9_layFromTape_22 : decode cX9_layFromTape 22 = .ok (.aload_n 0, 1) := by decide +kernel
theorem dX9_layFromTape_23 : decode cX9_layFromTape 23 = .ok (.getfield 25, 3) := by decide +kernel
theorem dX9_layFromTape_26 : decode cX9_layFromTape 26 = .ok (.iconst 1, 1) := by decide +kernel
theorem dX9_layFromTape_27 : decode cX9_layFromTape 27 = .ok (.iload_n 2, 1) := by decide +kernel
theorem dX9_layFromTape_28 : decode cX9_layFromTape 28 = .ok (.iastore, 1) := by decide +kernel
theorem dX9_layFromTape_29 : decode cX9_layFromTape 29 = .ok (.aload_n 0, 1) := by decide +kernel
theorem dX9_layFromTape_30 : decode cX9_layFromTape 30 = .ok (.getfield 16, 3) := by decide +kernel
theorem dX9_layFromTape_33 : decode cX9_layFromTape 33 = .ok (.iconst 0, 1) := by decide +kernel
theorem dX9_layFromTape_34 : decode cX9_layFromTape 34 = .ok (.aload_n 0, 1) := by decide +kernel
theorem dX9_layFromTape_35 : decode cX9_layFromTape 35 = .ok (.getfield 25, 3) := by decide +kernel
theorem dX9_layFromTape_38 : decode cX9_layFromTape 38 = .ok (.iconst 2, 1) := by decide +kernel
theorem dX9_layFromTape_39 : decode cX9_layFromTape 39 = .ok (.iload_n 3, 1) := by decide +kernel
theorem dX9_layFromTape_40 : decode cX9_layFromTape 40 = .ok (.invokestatic 277, 3) := by decide +kernel
theorem dX9_layFromTape_43 : decode cX9_layFromTape 43 = .ok (.return_, 1) := by decide +kernel
theorem dX9_editAlone_0 : decode cX9_editAlone 0 = .ok (.aload_n 0, 1) := by decide +kernel
theorem dX9_editAlone_1 : decode cX9_editAlone 1 = .ok (.getfield 43, 3) := by decide +kernel
theorem dX9_editAlone_4 : decode cX9_editAlone 4 = .ok (.getfield 138, 3) := by decide +kernel
theorem dX9_editAlone_7 : decode cX9_editAlone 7 = .ok (.ifCond .eq 10, 3) := by decide +kernel
theorem dX9_editAlone_10 : decode cX9_editAlone 10 = .ok (.aload_n 0, 1) := by decide +kernel
theorem dX9_editAlone_11 : decode cX9_editAlone 11 = .ok (.bipush (-3), 2) := by decide +kernel
theorem dX9_editAlone_13 : decode cX9_editAlone 13 = .ok (.invokevirtual 81, 3) := by decide +kernel
theorem dX9_editAlone_16 : decode cX9_editAlone 16 = .ok (.ireturn, 1) := by decide +kernel
theorem dX9_editAlone_17 : decode cX9_editAlone 17 = .ok (.aload_n 0, 1) := by decide +kernel
theorem dX9_editAlone_18 : decode cX9_editAlone 18 = .ok (.getfield 64, 3) := by decide +kernel
theorem dX9_editAlone_21 : decode cX9_editAlone 21 = .ok (.aload_n 0, 1) := by decide +kernel
theorem dX9_editAlone_22 : decode cX9_editAlone 22 = .ok (.iload_n 1, 1) := by decide +kernel
theorem dX9_editAlone_23 : decode cX9_editAlone 23 = .ok (.invokevirtual 181, 3) := by decide +kernel
theorem dX9_editAlone_26 : decode cX9_editAlone 26 = .ok (.aload_n 0, 1) := by decide +kernel
theorem dX9_editAlone_27 : decode cX9_editAlone 27 = .ok (.getfield 9, 3) := by decide +kernel
theorem dX9_editAlone_30 : decode cX9_editAlone 30 = .ok (.iconst 4, 1) := by decide +kernel
theorem dX9_editAlone_31 : decode cX9_editAlone 31 = .ok (.iaload, 1) := by decide +kernel
theorem dX9_editAlone_32 : decode cX9_editAlone 32 = .ok (.invokevirtual 184, 3) := by decide +kernel
theorem dX9_editAlone_35 : decode cX9_editAlone 35 = .ok (.aload_n 0, 1) := by decide +kernel
theorem dX9_editAlone_36 : decode cX9_editAlone 36 = .ok (.getfield 50, 3) := by decide +kernel
theorem dX9_editAlone_39 : decode cX9_editAlone 39 = .ok (.aload_n 0, 1) := by decide +kernel
theorem dX9_editAlone_40 : decode cX9_editAlone 40 = .ok (.getfield 43, 3) := by decide +kernel
theorem dX9_editAlone_43 : decode cX9_editAlone 43 = .ok (.getfield 149, 3) := by decide +kernel
theorem dX9_editAlone_46 : decode cX9_editAlone 46 = .ok (.aload_n 0, 1) := by decide +kernel
theorem dX9_editAlone_47 : decode cX9_editAlone 47 = .ok (.getfield 13, 3) := by decide +kernel
theorem dX9_editAlone_50 : decode cX9_editAlone 50 = .ok (.aload_n 0, 1) := by decide +kernel
theorem dX9_editAlone_51 : decode cX9_editAlone 51 = .ok (.getfield 9, 3) := by decide +kernel
theorem dX9_editAlone_54 : decode cX9_editAlone 54 = .ok (.invokevirtual 152, 3) := by decide +kernel
theorem dX9_editAlone_57 : decode cX9_editAlone 57 = .ok (.aload_n 0, 1) := by decide +kernel
theorem dX9_editAlone_58 : decode cX9_editAlone 58 = .ok (.getfield 50, 3) := by decide +kernel
theorem dX9_editAlone_61 : decode cX9_editAlone 61 = .ok (.aload_n 0, 1) := by decide +kernel
theorem dX9_editAlone_62 : decode cX9_editAlone 62 = .ok (.getfield 25, 3) := by decide +kernel
theorem dX9_editAlone_65 : decode cX9_editAlone 65 = .ok (.iconst 0, 1) := by decide +kernel
theorem dX9_editAlone_66 : decode cX9_editAlone 66 = .ok (.invokevirtual 288, 3) := by decide +kernel
theorem dX9_editAlone_69 : decode cX9_editAlone 69 = .ok (.istore_n 3, 1) := by decide +kernel
theorem dX9_editAlone_70 : decode cX9_editAlone 70 = .ok (.iload_n 3, 1) := by decide +kernel
theorem dX9_editAlone_71 : decode cX9_editAlone 71 = .ok (.ifCond .ge 9, 3) := by decide +kernel
theorem dX9_editAlone_74 : decode cX9_editAlone 74 = .ok (.aload_n 0, 1) := by decide +kernel
theorem dX9_editAlone_75 : decode cX9_editAlone 75 = .ok (.iload_n 3, 1) := by decide +kernel
theorem dX9_editAlone_76 : decode cX9_editAlone 76 = .ok (.invokevirtual 81, 3) := by decide +kernel
theorem dX9_editAlone_79 : decode cX9_editAlone 79 = .ok (.ireturn, 1) := by decide +kernel
theorem dX9_editAlone_80 : decode cX9_editAlone 80 = .ok (.iload_n 2, 1) := by decide +kernel
theorem dX9_editAlone_81 : decode cX9_editAlone 81 = .ok (.ifCond .eq 8, 3) := by decide +kernel
theorem dX9_editAlone_84 : decode cX9_editAlone 84 = .ok (.iload_n 2, 1) := by decide +kernel
theorem dX9_editAlone_85 : decode cX9_editAlone 85 = .ok (.iconst 1, 1) := by decide +kernel
theorem dX9_editAlone_86 : decode cX9_editAlone 86 = .ok (.if_icmp .ne 8, 3) := by decide +kernel
theorem dX9_editAlone_89 : decode cX9_editAlone 89 = .ok (.aload_n 0, 1) := by decide +kernel
theorem dX9_editAlone_90 : decode cX9_editAlone 90 = .ok (.iconst 0, 1) := by decide +kernel
theorem dX9_editAlone_91 : decode cX9_editAlone 91 = .ok (.putfield 19, 3) := by decide +kernel
theorem dX9_editAlone_94 : decode cX9_editAlone 94 = .ok (.iload_n 3, 1) := by decide +kernel
theorem dX9_editAlone_95 : decode cX9_editAlone 95 = .ok (.ifCond .eq 10, 3) := by decide +kernel
theorem dX9_editAlone_98 : decode cX9_editAlone 98 = .ok (.aload_n 0, 1) := by decide +kernel
theorem dX9_editAlone_99 : decode cX9_editAlone 99 = .ok (.iload_n 2, 1) := by decide +kernel
theorem dX9_editAlone_100 : decode cX9_editAlone 100 = .ok (.iload_n 3, 1) := by decide +kernel
theorem dX9_editAlone_101 : decode cX9_editAlone 101 = .ok (.invokevirtual 146, 3) := by decide +kernel
theorem dX9_editAlone_104 : decode cX9_editAlone 104 = .ok (.ireturn, 1) := by decide +kernel
theorem dX9_editAlone_105 : decode cX9_editAlone 105 = .ok (.aload_n 0, 1) := by decide +kernel
theorem dX9_editAlone_106 : decode cX9_editAlone 106 = .ok (.iload_n 2, 1) := by decide +kernel
theorem dX9_editAlone_107 : decode cX9_editAlone 107 = .ok (.invokevirtual 291, 3) := by decide +kernel
theorem dX9_editAlone_110 : decode cX9_editAlone 110 = .ok (.aload_n 0, 1) := by decide +kernel
theorem dX9_editAlone_111 : decode cX9_editAlone 111 = .ok (.getfield 43, 3) := by decide +kernel
theorem dX9_editAlone_114 : decode cX9_editAlone 114 = .ok (.aload_n 0, 1) := by decide +kernel
theorem dX9_editAlone_115 : decode cX9_editAlone 115 = .ok (.getfield 50, 3) := by decide +kernel
theorem dX9_editAlone_118 : decode cX9_editAlone 118 = .ok (.getfield 294, 3) := by decide +kernel
theorem dX9_editAlone_121 : decode cX9_editAlone 121 = .ok (.aload_n 0, 1) := by decide +kernel
theorem dX9_editAlone_122 : decode cX9_editAlone 122 = .ok (.getfield 25, 3) := by decide +kernel
theorem dX9_editAlone_125 : decode cX9_editAlone 125 = .ok (.invokevirtual 297, 3) := by decide +kernel
theorem dX9_editAlone_128 : decode cX9_editAlone 128 = .ok (.aload_n 0, 1) := by decide +kernel
theorem dX9_editAlone_129 : decode cX9_editAlone 129 = .ok (.iload_n 2, 1) := by decide +kernel
theorem dX9_editAlone_130 : decode cX9_editAlone 130 = .ok (.iload_n 3, 1) := by decide +kernel
theorem dX9_editAlone_131 : decode cX9_editAlone 131 = .ok (.invokevirtual 301, 3) := by decide +kernel
theorem dX9_editAlone_134 : decode cX9_editAlone 134 = .ok (.ireturn, 1) := by decide +kernel
theorem dX9_carryOut_0 : decode cX9_carryOut 0 = .ok (.aload_n 0, 1) := by decide +kernel
theorem dX9_carryOut_1 : decode cX9_carryOut 1 = .ok (.iload_n 1, 1) := by decide +kernel
theorem dX9_carryOut_2 : decode cX9_carryOut 2 = .ok (.invokevirtual 291, 3) := by decide +kernel
theorem dX9_carryOut_5 : decode cX9_carryOut 5 = .ok (.aload_n 0, 1) := by decide +kernel
theorem dX9_carryOut_6 : decode cX9_carryOut 6 = .ok (.getfield 43, 3) := by decide +kernel
theorem dX9_carryOut_9 : decode cX9_carryOut 9 = .ok (.aload_n 0, 1) := by decide +kernel
theorem dX9_carryOut_10 : decode cX9_carryOut 10 = .ok (.getfield 50, 3) := by decide +kernel
theorem dX9_carryOut_13 : decode cX9_carryOut 13 = .ok (.getfield 262, 3) := by decide +kernel
theorem dX9_carryOut_16 : decode cX9_carryOut 16 = .ok (.aload_n 0, 1) := by decide +kernel
theorem dX9_carryOut_17 : decode cX9_carryOut 17 = .ok (.getfield 50, 3) := by decide +kernel
theorem dX9_carryOut_20 : decode cX9_carryOut 20 = .ok (.getfield 304, 3) := by decide +kernel
theorem dX9_carryOut_23 : decode cX9_carryOut 23 = .ok (.invokevirtual 307, 3) := by decide +kernel
theorem dX9_carryOut_26 : decode cX9_carryOut 26 = .ok (.aload_n 0, 1) := by decide +kernel
theorem dX9_carryOut_27 : decode cX9_carryOut 27 = .ok (.iload_n 1, 1) := by decide +kernel
theorem dX9_carryOut_28 : decode cX9_carryOut 28 = .ok (.iload_n 2, 1) := by decide +kernel
theorem dX9_carryOut_29 : decode cX9_carryOut 29 = .ok (.invokevirtual 301, 3) := by decide +kernel
theorem dX9_carryOut_32 : decode cX9_carryOut 32 = .ok (.ireturn, 1) := by decide +kernel
theorem dX9_keepAndLearn_0 : decode cX9_keepAndLearn 0 = .ok (.aload_n 0, 1) := by decide +kernel
theorem dX9_keepAndLearn_1 : decode cX9_keepAndLearn 1 = .ok (.getfield 71, 3) := by decide +kernel
theorem dX9_keepAndLearn_4 : decode cX9_keepAndLearn 4 = .ok (.iload_n 1, 1) := by decide +kernel
theorem dX9_keepAndLearn_5 : decode cX9_keepAndLearn 5 = .ok (.aload_n 0, 1) := by decide +kernel
theorem dX9_keepAndLearn_6 : decode cX9_keepAndLearn 6 = .ok (.getfield 43, 3) := by decide +kernel
theorem dX9_keepAndLearn_9 : decode cX9_keepAndLearn 9 = .ok (.aload_n 0, 1) := by decide +kernel
theorem dX9_keepAndLearn_10 : decode cX9_keepAndLearn 10 = .ok (.getfield 13, 3) := by decide +kernel
theorem dX9_keepAndLearn_13 : decode cX9_keepAndLearn 13 = .ok (.invokevirtual 162, 3) := by decide +kernel
theorem dX9_keepAndLearn_16 : decode cX9_keepAndLearn 16 = .ok (.aload_n 0, 1) := by decide +kernel
theorem dX9_keepAndLearn_17 : decode cX9_keepAndLearn 17 = .ok (.getfield 50, 3) := by decide +kernel
theorem dX9_keepAndLearn_20 : decode cX9_keepAndLearn 20 = .ok (.getfield 261, 3) := by decide +kernel
theorem dX9_keepAndLearn_23 : decode cX9_keepAndLearn 23 = .ok (.iconst 0, 1) := by decide +kernel
theorem dX9_keepAndLearn_24 : decode cX9_keepAndLearn 24 = .ok (.aload_n 0, 1) := by decide +kernel
theorem dX9_keepAndLearn_25 : decode cX9_keepAndLearn 25 = .ok (.getfield 13, 3) := by decide +kernel
theorem dX9_keepAndLearn_28 : decode cX9_keepAndLearn 28 = .ok (.iconst 0, 1) := by decide +kernel
theorem dX9_keepAndLearn_29 : decode cX9_keepAndLearn 29 = .ok (.iconst 4, 1) := by decide +kernel
theorem dX9_keepAndLearn_30 : decode cX9_keepAndLearn 30 = .ok (.invokestatic 277, 3) := by decide +kernel
theorem dX9_keepAndLearn_33 : decode cX9_keepAndLearn 33 = .ok (.return_, 1) := by decide +kernel
theorem dX9_tellOutcome_0 : decode cX9_tellOutcome 0 = .ok (.aload_n 0, 1) := by decide +kernel
theorem dX9_tellOutcome_1 : decode cX9_tellOutcome 1 = .ok (.getfield 43, 3) := by decide +kernel
theorem dX9_tellOutcome_4 : decode cX9_tellOutcome 4 = .ok (.getfield 172, 3) := by decide +kernel
theorem dX9_tellOutcome_7 : decode cX9_tellOutcome 7 = .ok (.ifCond .eq 15, 3) := by decide +kernel
theorem dX9_tellOutcome_10 : decode cX9_tellOutcome 10 = .ok (.aload_n 0, 1) := by decide +kernel
theorem dX9_tellOutcome_11 : decode cX9_tellOutcome 11 = .ok (.getfield 64, 3) := by decide +kernel
theorem dX9_tellOutcome_14 : decode cX9_tellOutcome 14 = .ok (.invokevirtual 169, 3) := by decide +kernel
theorem dX9_tellOutcome_17 : decode cX9_tellOutcome 17 = .ok (.aload_n 0, 1) := by decide +kernel
theorem dX9_tellOutcome_18 : decode cX9_tellOutcome 18 = .ok (.invokevirtual 175, 3) := by decide +kernel
theorem dX9_tellOutcome_21 : decode cX9_tellOutcome 21 = .ok (.ireturn, 1) := by decide +kernel
theorem dX9_tellOutcome_22 : decode cX9_tellOutcome 22 = .ok (.iload_n 1, 1) := by decide +kernel
theorem dX9_tellOutcome_23 : decode cX9_tellOutcome 23 = .ok (.iconst 4, 1) := by decide +kernel
theorem dX9_tellOutcome_24 : decode cX9_tellOutcome 24 = .ok (.if_icmp .eq 8, 3) := by decide +kernel
theorem dX9_tellOutcome_27 : decode cX9_tellOutcome 27 = .ok (.iload_n 1, 1) := by decide +kernel
theorem dX9_tellOutcome_28 : decode cX9_tellOutcome 28 = .ok (.iconst 5, 1) := by decide +kernel
theorem dX9_tellOutcome_29 : decode cX9_tellOutcome 29 = .ok (.if_icmp .ne 13, 3) := by decide +kernel
theorem dX9_tellOutcome_32 : decode cX9_tellOutcome 32 = .ok (.aload_n 0, 1) := by decide +kernel
theorem dX9_tellOutcome_33 : decode cX9_tellOutcome 33 = .ok (.getfield 64, 3) := by decide +kernel
theorem dX9_tellOutcome_36 : decode cX9_tellOutcome 36 = .ok (.invokevirtual 169, 3) := by decide +kernel
theorem dX9_tellOutcome_39 : decode cX9_tellOutcome 39 = .ok (.goto 17, 3) := by decide +kernel
theorem dX9_tellOutcome_42 : decode cX9_tellOutcome 42 = .ok (.aload_n 0, 1) := by decide +kernel
theorem dX9_tellOutcome_43 : decode cX9_tellOutcome 43 = .ok (.getfield 64, 3) := by decide +kernel
theorem dX9_tellOutcome_46 : decode cX9_tellOutcome 46 = .ok (.aload_n 0, 1) := by decide +kernel
theorem dX9_tellOutcome_47 : decode cX9_tellOutcome 47 = .ok (.getfield 43, 3) := by decide +kernel
theorem dX9_tellOutcome_50 : decode cX9_tellOutcome 50 = .ok (.getfield 149, 3) := by decide +kernel
theorem dX9_tellOutcome_53 : decode cX9_tellOutcome 53 = .ok (.invokevirtual 311, 3) := by decide +kernel
theorem dX9_tellOutcome_56 : decode cX9_tellOutcome 56 = .ok (.aload_n 0, 1) := by decide +kernel
theorem dX9_tellOutcome_57 : decode cX9_tellOutcome 57 = .ok (.iload_n 2, 1) := by decide +kernel
theorem dX9_tellOutcome_58 : decode cX9_tellOutcome 58 = .ok (.invokevirtual 89, 3) := by decide +kernel
theorem dX9_tellOutcome_61 : decode cX9_tellOutcome 61 = .ok (.ireturn, 1) := by decide +kernel
theorem dX9_rehearse_0 : decode cX9_rehearse 0 = .ok (.aload_n 0, 1) := by decide +kernel
theorem dX9_rehearse_1 : decode cX9_rehearse 1 = .ok (.aload_n 0, 1) := by decide +kernel
theorem dX9_rehearse_2 : decode cX9_rehearse 2 = .ok (.invokevirtual 314, 3) := by decide +kernel
theorem dX9_rehearse_5 : decode cX9_rehearse 5 = .ok (.putfield 37, 3) := by decide +kernel
theorem dX9_rehearse_8 : decode cX9_rehearse 8 = .ok (.aload_n 0, 1) := by decide +kernel
theorem dX9_rehearse_9 : decode cX9_rehearse 9 = .ok (.getfield 37, 3) := by decide +kernel
theorem dX9_rehearse_12 : decode cX9_rehearse 12 = .ok (.iconst (-1), 1) := by decide +kernel
theorem dX9_rehearse_13 : decode cX9_rehearse 13 = .ok (.if_icmp .eq 6, 3) := by decide +kernel
theorem dX9_rehearse_16 : decode cX9_rehearse 16 = .ok (.bipush (-6), 2) := by decide +kernel
theorem dX9_rehearse_18 : decode cX9_rehearse 18 = .ok (.ireturn, 1) := by decide +kernel
theorem dX9_rehearse_19 : decode cX9_rehearse 19 = .ok (.aload_n 0, 1) := by decide +kernel
theorem dX9_rehearse_20 : decode cX9_rehearse 20 = .ok (.getfield 50, 3) := by decide +kernel
theorem dX9_rehearse_23 : decode cX9_rehearse 23 = .ok (.aload_n 0, 1) := by decide +kernel
theorem dX9_rehearse_24 : decode cX9_rehearse 24 = .ok (.getfield 43, 3) := by decide +kernel
theorem dX9_rehearse_27 : decode cX9_rehearse 27 = .ok (.getfield 149, 3) := by decide +kernel
theorem dX9_rehearse_30 : decode cX9_rehearse 30 = .ok (.aload_n 0, 1) := by decide +kernel
theorem dX9_rehearse_31 : decode cX9_rehearse 31 = .ok (.getfield 13, 3) := by decide +kernel
theorem dX9_rehearse_34 : decode cX9_rehearse 34 = .ok (.aload_n 0, 1) := by decide +kernel
theorem dX9_rehearse_35 : decode cX9_rehearse 35 = .ok (.getfield 9, 3) := by decide +kernel
theorem dX9_rehearse_38 : decode cX9_rehearse 38 = .ok (.invokevirtual 152, 3) := by decide +kernel
theorem dX9_rehearse_41 : decode cX9_rehearse 41 = .ok (.iconst 0, 1) := by decide +kernel
theorem dX9_rehearse_42 : decode cX9_rehearse 42 = .ok (.istore_n 1, 1) := by decide +kernel
theorem dX9_rehearse_43 : decode cX9_rehearse 43 = .ok (.iconst 0, 1) := by decide +kernel
theorem dX9_rehearse_44 : decode cX9_rehearse 44 = .ok (.istore_n 2, 1) := by decide +kernel
theorem dX9_rehearse_45 : decode cX9_rehearse 45 = .ok (.iload_n 2, 1) := by decide +kernel
theorem dX9_rehearse_46 : decode cX9_rehearse 46 = .ok (.sipush 400, 3) := by decide +kernel
theorem dX9_rehearse_49 : decode cX9_rehearse 49 = .ok (.if_icmp .ge 53, 3) := by decide +kernel
theorem dX9_rehearse_52 : decode cX9_rehearse 52 = .ok (.iload_n 1, 1) := by decide +kernel
theorem dX9_rehearse_53 : decode cX9_rehearse 53 = .ok (.aload_n 0, 1) := by decide +kernel
theorem dX9_rehearse_54 : decode cX9_rehearse 54 = .ok (.getfield 19, 3) := by decide +kernel
theorem dX9_rehearse_57 : decode cX9_rehearse 57 = .ok (.if_icmp .ge 45, 3) := by decide +kernel
theorem dX9_rehearse_60 : decode cX9_rehearse 60 = .ok (.aload_n 0, 1) := by decide +kernel
theorem dX9_rehearse_61 : decode cX9_rehearse 61 = .ok (.getfield 50, 3) := by decide +kernel
theorem dX9_rehearse_64 : decode cX9_rehearse 64 = .ok (.aload_n 0, 1) := by decide +kernel
theorem dX9_rehearse_65 : decode cX9_rehearse 65 = .ok (.getfield 16, 3) := by decide +kernel
theorem dX9_rehearse_68 : decode cX9_rehearse 68 = .ok (.iload_n 1, 1) := by decide +kernel
theorem dX9_rehearse_69 : decode cX9_rehearse 69 = .ok (.invokevirtual 288, 3) := by decide +kernel
theorem dX9_rehearse_72 : decode cX9_rehearse 72 = .ok (.istore_n 3, 1) := by decide +kernel
theorem dX9_rehearse_73 : decode cX9_rehearse 73 = .ok (.iload_n 3, 1) := by decide +kernel
theorem dX9_rehearse_74 : decode cX9_rehearse 74 = .ok (.ifCond .ge 10, 3) := by decide +kernel
theorem dX9_rehearse_77 : decode cX9_rehearse 77 = .ok (.aload_n 0, 1) := by decide +kernel
theorem dX9_rehearse_78 : decode cX9_rehearse 78 = .ok (.iload_n 1, 1) := by decide +kernel
theorem dX9_rehearse_79 : decode cX9_rehearse 79 = .ok (.putfield 37, 3) := by decide +kernel
theorem dX9_rehearse_82 : decode cX9_rehearse 82 = .ok (.iload_n 3, 1) := by decide +kernel
theorem dX9_rehearse_83 : decode cX9_rehearse 83 = .ok (.ireturn, 1) := by decide +kernel
theorem dX9_rehearse_84 : decode cX9_rehearse 84 = .ok (.iload_n 1, 1) := by decide +kernel
theorem dX9_rehearse_85 : decode cX9_rehearse 85 = .ok (.aload_n 0, 1) := by decide +kernel
theorem dX9_rehearse_86 : decode cX9_rehearse 86 = .ok (.getfield 16, 3) := by decide +kernel
theorem dX9_rehearse_89 : decode cX9_rehearse 89 = .ok (.iload_n 1, 1) := by decide +kernel
theorem dX9_rehearse_90 : decode cX9_rehearse 90 = .ok (.iaload, 1) := by decide +kernel
theorem dX9_rehearse_91 : decode cX9_rehearse 91 = .ok (.invokestatic 255, 3) := by decide +kernel
theorem dX9_rehearse_94 : decode cX9_rehearse 94 = .ok (.iadd, 1) := by decide +kernel
theorem dX9_rehearse_95 : decode cX9_rehearse 95 = .ok (.istore_n 1, 1) := by decide +kernel
theorem dX9_rehearse_96 : decode cX9_rehearse 96 = .ok (.iinc 2 1, 3) := by decide +kernel
theorem dX9_rehearse_99 : decode cX9_rehearse 99 = .ok (.goto (-54), 3) := by decide +kernel
theorem dX9_rehearse_102 : decode cX9_rehearse 102 = .ok (.aload_n 0, 1) := by decide +kernel
theorem dX9_rehearse_103 : decode cX9_rehearse 103 = .ok (.getfield 50, 3) := by decide +kernel
theorem dX9_rehearse_106 : decode cX9_rehearse 106 = .ok (.aload_n 0, 1) := by decide +kernel
theorem dX9_rehearse_107 : decode cX9_rehearse 107 = .ok (.getfield 43, 3) := by decide +kernel
theorem dX9_rehearse_110 : decode cX9_rehearse 110 = .ok (.getfield 149, 3) := by decide +kernel
theorem dX9_rehearse_113 : decode cX9_rehearse 113 = .ok (.invokevirtual 317, 3) := by decide +kernel
theorem dX9_rehearse_116 : decode cX9_rehearse 116 = .ok (.iload_n 2, 1) := by decide +kernel
theorem dX9_rehearse_117 : decode cX9_rehearse 117 = .ok (.ireturn, 1) := by decide +kernel
theorem dX9_firstUnreadable_0 : decode cX9_firstUnreadable 0 = .ok (.aload_n 0, 1) := by decide +kernel
theorem dX9_firstUnreadable_1 : decode cX9_firstUnreadable 1 = .ok (.getfield 19, 3) := by decide +kernel
theorem dX9_firstUnreadable_4 : decode cX9_firstUnreadable 4 = .ok (.ifCond .ne 5, 3) := by decide +kernel
theorem dX9_firstUnreadable_7 : decode cX9_firstUnreadable 7 = .ok (.iconst 0, 1) := by decide +kernel
theorem dX9_firstUnreadable_8 : decode cX9_firstUnreadable 8 = .ok (.ireturn, 1) := by decide +kernel
theorem dX9_firstUnreadable_9 : decode cX9_firstUnreadable 9 = .ok (.iconst 0, 1) := by decide +kernel
theorem dX9_firstUnreadable_10 : decode cX9_firstUnreadable 10 = .ok (.istore_n 1, 1) := by decide +kernel
theorem dX9_firstUnreadable_11 : decode cX9_firstUnreadable 11 = .ok (.iconst 0, 1) := by decide +kernel
theorem dX9_firstUnreadable_12 : decode cX9_firstUnreadable 12 = .ok (.istore_n 2, 1) := by decide +kernel
theorem dX9_firstUnreadable_13 : decode cX9_firstUnreadable 13 = .ok (.iload_n 2, 1) := by decide +kernel
theorem dX9_firstUnreadable_14 : decode cX9_firstUnreadable 14 = .ok (.sipush 400, 3) := by decide +kernel
theorem dX9_firstUnreadable_17 : decode cX9_firstUnreadable 17 = .ok (.if_icmp .ge 40, 3) := by decide +kernel
theorem dX9_firstUnreadable_20 : decode cX9_firstUnreadable 20 = .ok (.iload_n 1, 1) := by decide +kernel
theorem dX9_firstUnreadable_21 : decode cX9_firstUnreadable 21 = .ok (.aload_n 0, 1) := by decide +kernel
theorem dX9_firstUnreadable_22 : decode cX9_firstUnreadable 22 = .ok (.getfield 19, 3) := by decide +kernel
theorem dX9_firstUnreadable_25 : decode cX9_firstUnreadable 25 = .ok (.if_icmp .ge 32, 3) := by decide +kernel
theorem dX9_firstUnreadable_28 : decode cX9_firstUnreadable 28 = .ok (.aload_n 0, 1) := by decide +kernel
theorem dX9_firstUnreadable_29 : decode cX9_firstUnreadable 29 = .ok (.getfield 16, 3) := by decide +kernel
theorem dX9_firstUnreadable_32 : decode cX9_firstUnreadable 32 = .ok (.iload_n 1, 1) := by decide +kernel
theorem dX9_firstUnreadable_33 : decode cX9_firstUnreadable 33 = .ok (.aload_n 0, 1) := by decide +kernel
theorem dX9_firstUnreadable_34 : decode cX9_firstUnreadable 34 = .ok (.getfield 19, 3) := by decide +kernel
theorem dX9_firstUnreadable_37 : decode cX9_firstUnreadable 37 = .ok (.invokestatic 320, 3) := by decide +kernel
theorem dX9_firstUnreadable_40 : decode cX9_firstUnreadable 40 = .ok (.istore_n 3, 1) := by decide +kernel
theorem dX9_firstUnreadable_41 : decode cX9_firstUnreadable 41 = .ok (.iload_n 3, 1) := by decide +kernel
theorem dX9_firstUnreadable_42 : decode cX9_firstUnreadable 42 = .ok (.ifCond .ne 5, 3) := by decide +kernel
theorem dX9_firstUnreadable_45 : decode cX9_firstUnreadable 45 = .ok (.iload_n 1, 1) := by decide +kernel
theorem dX9_firstUnreadable_46 : decode cX9_firstUnreadable 46 = .ok (.ireturn, 1) := by decide +kernel
theorem dX9_firstUnreadable_47 : decode cX9_firstUnreadable 47 = .ok (.iload_n 1, 1) := by decide +kernel
theorem dX9_firstUnreadable_48 : decode cX9_firstUnreadable 48 = .ok (.iload_n 3, 1) := by decide +kernel
theorem dX9_firstUnreadable_49 : decode cX9_firstUnreadable 49 = .ok (.iadd, 1) := by decide +kernel
theorem dX9_firstUnreadable_50 : decode cX9_firstUnreadable 50 = .ok (.istore_n 1, 1) := by decide +kernel
theorem dX9_firstUnreadable_51 : decode cX9_firstUnreadable 51 = .ok (.iinc 2 1, 3) := by decide +kernel
theorem dX9_firstUnreadable_54 : decode cX9_firstUnreadable 54 = .ok (.goto (-41), 3) := by decide +kernel
theorem dX9_firstUnreadable_57 : decode cX9_firstUnreadable 57 = .ok (.iconst (-1), 1) := by decide +kernel
theorem dX9_firstUnreadable_58 : decode cX9_firstUnreadable 58 = .ok (.ireturn, 1) := by decide +kernel
theorem dX9_countOnDisk_0 : decode cX9_countOnDisk 0 = .ok (.aload_n 0, 1) := by decide +kernel
theorem dX9_countOnDisk_1 : decode cX9_countOnDisk 1 = .ok (.getfield 43, 3) := by decide +kernel
theorem dX9_countOnDisk_4 : decode cX9_countOnDisk 4 = .ok (.getfield 138, 3) := by decide +kernel
theorem dX9_countOnDisk_7 : decode cX9_countOnDisk 7 = .ok (.ifCond .eq 5, 3) := by decide +kernel
theorem dX9_countOnDisk_10 : decode cX9_countOnDisk 10 = .ok (.iconst (-1), 1) := by decide +kernel
theorem dX9_countOnDisk_11 : decode cX9_countOnDisk 11 = .ok (.ireturn, 1) := by decide +kernel
theorem dX9_countOnDisk_12 : decode cX9_countOnDisk 12 = .ok (.aload_n 0, 1) := by decide +kernel
theorem dX9_countOnDisk_13 : decode cX9_countOnDisk 13 = .ok (.getfield 43, 3) := by decide +kernel
theorem dX9_countOnDisk_16 : decode cX9_countOnDisk 16 = .ok (.getfield 149, 3) := by decide +kernel
theorem dX9_countOnDisk_19 : decode cX9_countOnDisk 19 = .ok (.invokestatic 263, 3) := by decide +kernel
theorem dX9_countOnDisk_22 : decode cX9_countOnDisk 22 = .ok (.istore_n 2, 1) := by decide +kernel
theorem dX9_countOnDisk_23 : decode cX9_countOnDisk 23 = .ok (.iload_n 1, 1) := by decide +kernel
theorem dX9_countOnDisk_24 : decode cX9_countOnDisk 24 = .ok (.iconst 1, 1) := by decide +kernel
theorem dX9_countOnDisk_25 : decode cX9_countOnDisk 25 = .ok (.if_icmp .ne 5, 3) := by decide +kernel
theorem dX9_countOnDisk_28 : decode cX9_countOnDisk 28 = .ok (.iload_n 2, 1) := by decide +kernel
theorem dX9_countOnDisk_29 : decode cX9_countOnDisk 29 = .ok (.ireturn, 1) := by decide +kernel
theorem dX9_countOnDisk_30 : decode cX9_countOnDisk 30 = .ok (.iload_n 1, 1) := by decide +kernel
theorem dX9_countOnDisk_31 : decode cX9_countOnDisk 31 = .ok (.ifCond .ne 29, 3) := by decide +kernel
theorem dX9_countOnDisk_34 : decode cX9_countOnDisk 34 = .ok (.aload_n 0, 1) := by decide +kernel
theorem dX9_countOnDisk_35 : decode cX9_countOnDisk 35 = .ok (.getfield 57, 3) := by decide +kernel
theorem dX9_countOnDisk_38 : decode cX9_countOnDisk 38 = .ok (.aload_n 0, 1) := by decide +kernel
theorem dX9_countOnDisk_39 : decode cX9_countOnDisk 39 = .ok (.getfield 43, 3) := by decide +kernel
theorem dX9_countOnDisk_42 : decode cX9_countOnDisk 42 = .ok (.getfield 149, 3) := by decide +kernel
theorem dX9_countOnDisk_45 : decode cX9_countOnDisk 45 = .ok (.invokevirtual 204, 3) := by decide +kernel
theorem dX9_countOnDisk_48 : decode cX9_countOnDisk 48 = .ok (.aload_n 0, 1) := by decide +kernel
theorem dX9_countOnDisk_49 : decode cX9_countOnDisk 49 = .ok (.getfield 57, 3) := by decide +kernel
theorem dX9_countOnDisk_52 : decode cX9_countOnDisk 52 = .ok (.iconst 0, 1) := by decide +kernel
theorem dX9_countOnDisk_53 : decode cX9_countOnDisk 53 = .ok (.sipush 256, 3) := by decide +kernel
theorem dX9_countOnDisk_56 : decode cX9_countOnDisk 56 = .ok (.invokevirtual 222, 3) := by decide +kernel
theorem dX9_countOnDisk_59 : decode cX9_countOnDisk 59 = .ok (.ireturn, 1) := by decide +kernel
theorem dX9_countOnDisk_60 : decode cX9_countOnDisk 60 = .ok (.iconst 0, 1) := by decide +kernel
theorem dX9_countOnDisk_61 : decode cX9_countOnDisk 61 = .ok (.istore_n 3, 1) := by decide +kernel
theorem dX9_countOnDisk_62 : decode cX9_countOnDisk 62 = .ok (.iconst 0, 1) := by decide +kernel
theorem dX9_countOnDisk_63 : decode cX9_countOnDisk 63 = .ok (.istore 4, 2) := by decide +kernel
theorem dX9_countOnDisk_65 : decode cX9_countOnDisk 65 = .ok (.iload 4, 2) := by decide +kernel
theorem dX9_countOnDisk_67 : decode cX9_countOnDisk 67 = .ok (.iload_n 2, 1) := by decide +kernel
theorem dX9_countOnDisk_68 : decode cX9_countOnDisk 68 = .ok (.if_icmp .ge 34, 3) := by decide +kernel
theorem dX9_countOnDisk_71 : decode cX9_countOnDisk 71 = .ok (.iload_n 3, 1) := by decide +kernel
theorem dX9_countOnDisk_72 : decode cX9_countOnDisk 72 = .ok (.aload_n 0, 1) := by decide +kernel
theorem dX9_countOnDisk_73 : decode cX9_countOnDisk 73 = .ok (.getfield 43, 3) := by decide +kernel
theorem dX9_countOnDisk_76 : decode cX9_countOnDisk 76 = .ok (.getfield 149, 3) := by decide +kernel
theorem dX9_countOnDisk_79 : decode cX9_countOnDisk 79 = .ok (.aload_n 0, 1) := by decide +kernel
theorem dX9_countOnDisk_80 : decode cX9_countOnDisk 80 = .ok (.getfield 43, 3) := by decide +kernel
theorem dX9_countOnDisk_83 : decode cX9_countOnDisk 83 = .ok (.getfield 149, 3) := by decide +kernel
theorem dX9_countOnDisk_86 : decode cX9_countOnDisk 86 = .ok (.iload 4, 2) := by decide +kernel
theorem dX9_countOnDisk_88 : decode cX9_countOnDisk 88 = .ok (.invokestatic 214, 3) := by decide +kernel
theorem dX9_countOnDisk_91 : decode cX9_countOnDisk 91 = .ok (.invokestatic 228, 3) := by decide +kernel
theorem dX9_countOnDisk_94 : decode cX9_countOnDisk 94 = .ok (.iadd, 1) := by decide +kernel
theorem dX9_countOnDisk_95 : decode cX9_countOnDisk 95 = .ok (.istore_n 3, 1) := by decide +kernel
theorem dX9_countOnDisk_96 : decode cX9_countOnDisk 96 = .ok (.iinc 4 1, 3) := by decide +kernel
theorem dX9_countOnDisk_99 : decode cX9_countOnDisk 99 = .ok (.goto (-34), 3) := by decide +kernel
theorem dX9_countOnDisk_102 : decode cX9_countOnDisk 102 = .ok (.iload_n 3, 1) := by decide +kernel
theorem dX9_countOnDisk_103 : decode cX9_countOnDisk 103 = .ok (.ireturn, 1) := by decide +kernel
theorem dJ7_rangeCheck_23922_0 : decode cJ7_rangeCheck_23922 0 = .ok (.iload_n 1, 1) := by decide +kernel
theorem dJ7_rangeCheck_23922_1 : decode cJ7_rangeCheck_23922 1 = .ok (.iload_n 2, 1) := by decide +kernel
theorem dJ7_rangeCheck_23922_2 : decode cJ7_rangeCheck_23922 2 = .ok (.if_icmp .le 44, 3) := by decide +kernel
theorem dJ7_rangeCheck_23922_5 : decode cJ7_rangeCheck_23922 5 = .ok (.new 43, 3) := by decide +kernel
theorem dJ7_rangeCheck_23922_8 : decode cJ7_rangeCheck_23922 8 = .ok (.dup, 1) := by decide +kernel
theorem dJ7_rangeCheck_23922_9 : decode cJ7_rangeCheck_23922 9 = .ok (.new 45, 3) := by decide +kernel
theorem dJ7_rangeCheck_23922_12 : decode cJ7_rangeCheck_23922 12 = .ok (.dup, 1) := by decide +kernel
theorem dJ7_rangeCheck_23922_13 : decode cJ7_rangeCheck_23922 13 = .ok (.invokespecial 47, 3) := by decide +kernel
theorem dJ7_rangeCheck_23922_16 : decode cJ7_rangeCheck_23922 16 = .ok (.ldc 48, 2) := by decide +kernel
theorem dJ7_rangeCheck_23922_18 : decode cJ7_rangeCheck_23922 18 = .ok (.invokevirtual 50, 3) := by decide +kernel
theorem dJ7_rangeCheck_23922_21 : decode cJ7_rangeCheck_23922 21 = .ok (.iload_n 1, 1) := by decide +kernel
theorem dJ7_rangeCheck_23922_22 : decode cJ7_rangeCheck_23922 22 = .ok (.invokevirtual 54, 3) := by decide +kernel
theorem dJ7_rangeCheck_23922_25 : decode cJ7_rangeCheck_23922 25 = .ok (.ldc 57, 2) := by decide +kernel
theorem dJ7_rangeCheck_23922_27 : decode cJ7_rangeCheck_23922 27 = .ok (.invokevirtual 50, 3) := by decide +kernel
theorem dJ7_rangeCheck_23922_30 : decode cJ7_rangeCheck_23922 30 = .ok (.iload_n 2, 1) := by decide +kernel
theorem dJ7_rangeCheck_23922_31 : decode cJ7_rangeCheck_23922 31 = .ok (.invokevirtual 54, 3) := by decide +kernel
theorem dJ7_rangeCheck_23922_34 : decode cJ7_rangeCheck_23922 34 = .ok (.ldc 59, 2) := by decide +kernel
theorem dJ7_rangeCheck_23922_36 : decode cJ7_rangeCheck_23922 36 = .ok (.invokevirtual 50, 3) := by decide +kernel
theorem dJ7_rangeCheck_23922_39 : decode cJ7_rangeCheck_23922 39 = .ok (.invokevirtual 61, 3) := by decide +kernel
theorem dJ7_rangeCheck_23922_42 : decode cJ7_rangeCheck_23922 42 = .ok (.invokespecial 65, 3) := by decide +kernel
theorem dJ7_rangeCheck_23922_45 : decode cJ7_rangeCheck_23922 45 = .ok (.athrow, 1) := by decide +kernel
theorem dJ7_rangeCheck_23922_46 : decode cJ7_rangeCheck_23922 46 = .ok (.iload_n 1, 1) := by decide +kernel
theorem dJ7_rangeCheck_23922_47 : decode cJ7_rangeCheck_23922 47 = .ok (.ifCond .ge 12, 3) := by decide +kernel
theorem dJ7_rangeCheck_23922_50 : decode cJ7_rangeCheck_23922 50 = .ok (.new 68, 3) := by decide +kernel
theorem dJ7_rangeCheck_23922_53 : decode cJ7_rangeCheck_23922 53 = .ok (.dup, 1) := by decide +kernel
theorem dJ7_rangeCheck_23922_54 : decode cJ7_rangeCheck_23922 54 = .ok (.iload_n 1, 1) := by decide +kernel
theorem dJ7_rangeCheck_23922_55 : decode cJ7_rangeCheck_23922 55 = .ok (.invokespecial 70, 3) := by decide +kernel
theorem dJ7_rangeCheck_23922_58 : decode cJ7_rangeCheck_23922 58 = .ok (.athrow, 1) := by decide +kernel
theorem dJ7_rangeCheck_23922_59 : decode cJ7_rangeCheck_23922 59 = .ok (.iload_n 2, 1) := by decide +kernel
theorem dJ7_rangeCheck_23922_60 : decode cJ7_rangeCheck_23922 60 = .ok (.iload_n 0, 1) := by decide +kernel
theorem dJ7_rangeCheck_23922_61 : decode cJ7_rangeCheck_23922 61 = .ok (.if_icmp .le 12, 3) := by decide +kernel
theorem dJ7_rangeCheck_23922_64 : decode cJ7_rangeCheck_23922 64 = .ok (.new 68, 3) := by decide +kernel
theorem dJ7_rangeCheck_23922_67 : decode cJ7_rangeCheck_23922 67 = .ok (.dup, 1) := by decide +kernel
theorem dJ7_rangeCheck_23922_68 : decode cJ7_rangeCheck_23922 68 = .ok (.iload_n 2, 1) := by decide +kernel
theorem dJ7_rangeCheck_23922_69 : decode cJ7_rangeCheck_23922 69 = .ok (.invokespecial 70, 3) := by decide +kernel
theorem dJ7_rangeCheck_23922_72 : decode cJ7_rangeCheck_23922 72 = .ok (.athrow, 1) := by decide +kernel
theorem dJ7_rangeCheck_23922_73 : decode cJ7_rangeCheck_23922 73 = .ok (.return_, 1) := by decide +kernel
theorem dJ7_fill_53178_0 : decode cJ7_fill_53178 0 = .ok (.iconst 0, 1) := by decide +kernel
theorem dJ7_fill_53178_1 : decode cJ7_fill_53178 1 = .ok (.istore_n 2, 1) := by decide +kernel
theorem dJ7_fill_53178_2 : decode cJ7_fill_53178 2 = .ok (.aload_n 0, 1) := by decide +kernel
theorem dJ7_fill_53178_3 : decode cJ7_fill_53178 3 = .ok (.arraylength, 1) := by decide +kernel
theorem dJ7_fill_53178_4 : decode cJ7_fill_53178 4 = .ok (.istore_n 3, 1) := by decide +kernel
theorem dJ7_fill_53178_5 : decode cJ7_fill_53178 5 = .ok (.iload_n 2, 1) := by decide +kernel
theorem dJ7_fill_53178_6 : decode cJ7_fill_53178 6 = .ok (.iload_n 3, 1) := by decide +kernel
theorem dJ7_fill_53178_7 : decode cJ7_fill_53178 7 = .ok (.if_icmp .ge 13, 3) := by decide +kernel
theorem dJ7_fill_53178_10 : decode cJ7_fill_53178 10 = .ok (.aload_n 0, 1) := by decide +kernel
theorem dJ7_fill_53178_11 : decode cJ7_fill_53178 11 = .ok (.iload_n 2, 1) := by decide +kernel
theorem dJ7_fill_53178_12 : decode cJ7_fill_53178 12 = .ok (.iload_n 1, 1) := by decide +kernel
theorem dJ7_fill_53178_13 : decode cJ7_fill_53178 13 = .ok (.iastore, 1) := by decide +kernel
theorem dJ7_fill_53178_14 : decode cJ7_fill_53178 14 = .ok (.iinc 2 1, 3) := by decide +kernel
theorem dJ7_fill_53178_17 : decode cJ7_fill_53178 17 = .ok (.goto (-12), 3) := by decide +kernel
theorem dJ7_fill_53178_20 : decode cJ7_fill_53178 20 = .ok (.return_, 1) := by decide +kernel
theorem dJ7_fill_fda19_0 : decode cJ7_fill_fda19 0 = .ok (.aload_n 0, 1) := by decide +kernel
theorem dJ7_fill_fda19_1 : decode cJ7_fill_fda19 1 = .ok (.arraylength, 1) := by decide +kernel
theorem dJ7_fill_fda19_2 : decode cJ7_fill_fda19 2 = .ok (.iload_n 1, 1) := by decide +kernel
theorem dJ7_fill_fda19_3 : decode cJ7_fill_fda19 3 = .ok (.iload_n 2, 1) := by decide +kernel
theorem dJ7_fill_fda19_4 : decode cJ7_fill_fda19 4 = .ok (.invokestatic 13, 3) := by decide +kernel
theorem dJ7_fill_fda19_7 : decode cJ7_fill_fda19 7 = .ok (.iload_n 1, 1) := by decide +kernel
theorem dJ7_fill_fda19_8 : decode cJ7_fill_fda19 8 = .ok (.istore 4, 2) := by decide +kernel
theorem dJ7_fill_fda19_10 : decode cJ7_fill_fda19 10 = .ok (.iload 4, 2) := by decide +kernel
theorem dJ7_fill_fda19_12 : decode cJ7_fill_fda19 12 = .ok (.iload_n 2, 1) := by decide +kernel
theorem dJ7_fill_fda19_13 : decode cJ7_fill_fda19 13 = .ok (.if_icmp .ge 14, 3) := by decide +kernel
theorem dJ7_fill_fda19_16 : decode cJ7_fill_fda19 16 = .ok (.aload_n 0, 1) := by decide +kernel
theorem dJ7_fill_fda19_17 : decode cJ7_fill_fda19 17 = .ok (.iload 4, 2) := by decide +kernel
theorem dJ7_fill_fda19_19 : decode cJ7_fill_fda19 19 = .ok (.iload_n 3, 1) := by decide +kernel
theorem dJ7_fill_fda19_20 : decode cJ7_fill_fda19 20 = .ok (.iastore, 1) := by decide +kernel
theorem dJ7_fill_fda19_21 : decode cJ7_fill_fda19 21 = .ok (.iinc 4 1, 3) := by decide +kernel
theorem dJ7_fill_fda19_24 : decode cJ7_fill_fda19 24 = .ok (.goto (-14), 3) := by decide +kernel
theorem dJ7_fill_fda19_27 : decode cJ7_fill_fda19 27 = .ok (.return_, 1) := by decide +kernel

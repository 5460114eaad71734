theorem dX0_init_0 : decode cX0_init 0 = .ok (.aload_n 0, 1) := by decide +kernel
theorem dX0_init_1 : decode cX0_init 1 = .ok (.invokespecial 3, 3) := by decide +kernel
theorem dX0_init_4 : decode cX0_init 4 = .ok (.return_, 1) := by decide +kernel
theorem dX0_mustShow_0 : decode cX0_mustShow 0 = .ok (.aload_n 0, 1) := by decide +kernel
theorem dX0_mustShow_1 : decode cX0_mustShow 1 = .ok (.getfield 9, 3) := by decide +kernel
theorem dX0_mustShow_4 : decode cX0_mustShow 4 = .ok (.iload_n 1, 1) := by decide +kernel
theorem dX0_mustShow_5 : decode cX0_mustShow 5 = .ok (.ishr, 1) := by decide +kernel
theorem dX0_mustShow_6 : decode cX0_mustShow 6 = .ok (.iconst 1, 1) := by decide +kernel
theorem dX0_mustShow_7 : decode cX0_mustShow 7 = .ok (.iand, 1) := by decide +kernel
theorem dX0_mustShow_8 : decode cX0_mustShow 8 = .ok (.ifCond .eq 7, 3) := by decide +kernel
theorem dX0_mustShow_11 : decode cX0_mustShow 11 = .ok (.iconst 1, 1) := by decide +kernel
theorem dX0_mustShow_12 : decode cX0_mustShow 12 = .ok (.goto 4, 3) := by decide +kernel
theorem dX0_mustShow_15 : decode cX0_mustShow 15 = .ok (.iconst 0, 1) := by decide +kernel
theorem dX0_mustShow_16 : decode cX0_mustShow 16 = .ok (.ireturn, 1) := by decide +kernel
theorem dX0_partner_0 : decode cX0_partner 0 = .ok (.iconst 0, 1) := by decide +kernel
theorem dX0_partner_1 : decode cX0_partner 1 = .ok (.istore_n 1, 1) := by decide +kernel
theorem dX0_partner_2 : decode cX0_partner 2 = .ok (.iload_n 1, 1) := by decide +kernel
theorem dX0_partner_3 : decode cX0_partner 3 = .ok (.bipush 6, 2) := by decide +kernel
theorem dX0_partner_5 : decode cX0_partner 5 = .ok (.if_icmp .ge 27, 3) := by decide +kernel
theorem dX0_partner_8 : decode cX0_partner 8 = .ok (.iload_n 1, 1) := by decide +kernel
theorem dX0_partner_9 : decode cX0_partner 9 = .ok (.aload_n 0, 1) := by decide +kernel
theorem dX0_partner_10 : decode cX0_partner 10 = .ok (.getfield 15, 3) := by decide +kernel
theorem dX0_partner_13 : decode cX0_partner 13 = .ok (.if_icmp .eq 13, 3) := by decide +kernel
theorem dX0_partner_16 : decode cX0_partner 16 = .ok (.aload_n 0, 1) := by decide +kernel
theorem dX0_partner_17 : decode cX0_partner 17 = .ok (.iload_n 1, 1) := by decide +kernel
theorem dX0_partner_18 : decode cX0_partner 18 = .ok (.invokevirtual 18, 3) := by decide +kernel
theorem dX0_partner_21 : decode cX0_partner 21 = .ok (.ifCond .eq 5, 3) := by decide +kernel
theorem dX0_partner_24 : decode cX0_partner 24 = .ok (.iload_n 1, 1) := by decide +kernel
theorem dX0_partner_25 : decode cX0_partner 25 = .ok (.ireturn, 1) := by decide +kernel
theorem dX0_partner_26 : decode cX0_partner 26 = .ok (.iinc 1 1, 3) := by decide +kernel
theorem dX0_partner_29 : decode cX0_partner 29 = .ok (.goto (-27), 3) := by decide +kernel
theorem dX0_partner_32 : decode cX0_partner 32 = .ok (.aload_n 0, 1) := by decide +kernel
theorem dX0_partner_33 : decode cX0_partner 33 = .ok (.getfield 15, 3) := by decide +kernel
theorem dX0_partner_36 : decode cX0_partner 36 = .ok (.ireturn, 1) := by decide +kernel
theorem dX0_speakers_0 : decode cX0_speakers 0 = .ok (.iconst 1, 1) := by decide +kernel
theorem dX0_speakers_1 : decode cX0_speakers 1 = .ok (.aload_n 0, 1) := by decide +kernel
theorem dX0_speakers_2 : decode cX0_speakers 2 = .ok (.getfield 15, 3) := by decide +kernel
theorem dX0_speakers_5 : decode cX0_speakers 5 = .ok (.ishl, 1) := by decide +kernel
theorem dX0_speakers_6 : decode cX0_speakers 6 = .ok (.iconst 1, 1) := by decide +kernel
theorem dX0_speakers_7 : decode cX0_speakers 7 = .ok (.aload_n 0, 1) := by decide +kernel
theorem dX0_speakers_8 : decode cX0_speakers 8 = .ok (.invokevirtual 22, 3) := by decide +kernel
theorem dX0_speakers_11 : decode cX0_speakers 11 = .ok (.ishl, 1) := by decide +kernel
theorem dX0_speakers_12 : decode cX0_speakers 12 = .ok (.ior, 1) := by decide +kernel
theorem dX0_speakers_13 : decode cX0_speakers 13 = .ok (.ireturn, 1) := by decide +kernel
theorem dX1_init_0 : decode cX1_init 0 = .ok (.aload_n 0, 1) := by decide +kernel
theorem dX1_init_1 : decode cX1_init 1 = .ok (.invokespecial 3, 3) := by decide +kernel
theorem dX1_init_4 : decode cX1_init 4 = .ok (.aload_n 0, 1) := by decide +kernel
theorem dX1_init_5 : decode cX1_init 5 = .ok (.aload_n 1, 1) := by decide +kernel
theorem dX1_init_6 : decode cX1_init 6 = .ok (.putfield 9, 3) := by decide +kernel
theorem dX1_init_9 : decode cX1_init 9 = .ok (.return_, 1) := by decide +kernel
theorem dX1_fault_0 : decode cX1_fault 0 = .ok (.aload_n 2, 1) := by decide +kernel
theorem dX1_fault_1 : decode cX1_fault 1 = .ok (.getfield 15, 3) := by decide +kernel
theorem dX1_fault_4 : decode cX1_fault 4 = .ok (.istore_n 3, 1) := by decide +kernel
theorem dX1_fault_5 : decode cX1_fault 5 = .ok (.iload_n 3, 1) := by decide +kernel
theorem dX1_fault_6 : decode cX1_fault 6 = .ok (.aload_n 2, 1) := by decide +kernel
theorem dX1_fault_7 : decode cX1_fault 7 = .ok (.getfield 21, 3) := by decide +kernel
theorem dX1_fault_10 : decode cX1_fault 10 = .ok (.if_icmp .gt 66, 3) := by decide +kernel
theorem dX1_fault_13 : decode cX1_fault 13 = .ok (.iload_n 3, 1) := by decide +kernel
theorem dX1_fault_14 : decode cX1_fault 14 = .ok (.aload_n 2, 1) := by decide +kernel
theorem dX1_fault_15 : decode cX1_fault 15 = .ok (.getfield 15, 3) := by decide +kernel
theorem dX1_fault_18 : decode cX1_fault 18 = .ok (.if_icmp .eq 14, 3) := by decide +kernel
theorem dX1_fault_21 : decode cX1_fault 21 = .ok (.aload_n 0, 1) := by decide +kernel
theorem dX1_fault_22 : decode cX1_fault 22 = .ok (.getfield 9, 3) := by decide +kernel
theorem dX1_fault_25 : decode cX1_fault 25 = .ok (.iload_n 3, 1) := by decide +kernel
theorem dX1_fault_26 : decode cX1_fault 26 = .ok (.invokevirtual 24, 3) := by decide +kernel
theorem dX1_fault_29 : decode cX1_fault 29 = .ok (.ifCond .eq 7, 3) := by decide +kernel
theorem dX1_fault_32 : decode cX1_fault 32 = .ok (.iconst 1, 1) := by decide +kernel
theorem dX1_fault_33 : decode cX1_fault 33 = .ok (.goto 4, 3) := by decide +kernel
theorem dX1_fault_36 : decode cX1_fault 36 = .ok (.iconst 0, 1) := by decide +kernel
theorem dX1_fault_37 : decode cX1_fault 37 = .ok (.istore 4, 2) := by decide +kernel
theorem dX1_fault_39 : decode cX1_fault 39 = .ok (.iload 4, 2) := by decide +kernel
theorem dX1_fault_41 : decode cX1_fault 41 = .ok (.ifCond .eq 13, 3) := by decide +kernel
theorem dX1_fault_44 : decode cX1_fault 44 = .ok (.aload_n 0, 1) := by decide +kernel
theorem dX1_fault_45 : decode cX1_fault 45 = .ok (.iload_n 1, 1) := by decide +kernel
theorem dX1_fault_46 : decode cX1_fault 46 = .ok (.aload_n 2, 1) := by decide +kernel
theorem dX1_fault_47 : decode cX1_fault 47 = .ok (.iload_n 3, 1) := by decide +kernel
theorem dX1_fault_48 : decode cX1_fault 48 = .ok (.invokevirtual 30, 3) := by decide +kernel
theorem dX1_fault_51 : decode cX1_fault 51 = .ok (.goto 4, 3) := by decide +kernel
theorem dX1_fault_54 : decode cX1_fault 54 = .ok (.iconst 0, 1) := by decide +kernel
theorem dX1_fault_55 : decode cX1_fault 55 = .ok (.istore 5, 2) := by decide +kernel
theorem dX1_fault_57 : decode cX1_fault 57 = .ok (.iload 5, 2) := by decide +kernel
theorem dX1_fault_59 : decode cX1_fault 59 = .ok (.ifCond .eq 11, 3) := by decide +kernel
theorem dX1_fault_62 : decode cX1_fault 62 = .ok (.bipush 100, 2) := by decide +kernel
theorem dX1_fault_64 : decode cX1_fault 64 = .ok (.iload_n 3, 1) := by decide +kernel
theorem dX1_fault_65 : decode cX1_fault 65 = .ok (.imul, 1) := by decide +kernel
theorem dX1_fault_66 : decode cX1_fault 66 = .ok (.iload 5, 2) := by decide +kernel
theorem dX1_fault_68 : decode cX1_fault 68 = .ok (.iadd, 1) := by decide +kernel
theorem dX1_fault_69 : decode cX1_fault 69 = .ok (.ireturn, 1) := by decide +kernel
theorem dX1_fault_70 : decode cX1_fault 70 = .ok (.iinc 3 1, 3) := by decide +kernel
theorem dX1_fault_73 : decode cX1_fault 73 = .ok (.goto (-68), 3) := by decide +kernel
theorem dX1_fault_76 : decode cX1_fault 76 = .ok (.iconst 0, 1) := by decide +kernel
theorem dX1_fault_77 : decode cX1_fault 77 = .ok (.ireturn, 1) := by decide +kernel
theorem dX1_faultAt_0 : decode cX1_faultAt 0 = .ok (.iconst 0, 1) := by decide +kernel
theorem dX1_faultAt_1 : decode cX1_faultAt 1 = .ok (.istore 4, 2) := by decide +kernel
theorem dX1_faultAt_3 : decode cX1_faultAt 3 = .ok (.iload 4, 2) := by decide +kernel
theorem dX1_faultAt_5 : decode cX1_faultAt 5 = .ok (.aload_n 0, 1) := by decide +kernel
theorem dX1_faultAt_6 : decode cX1_faultAt 6 = .ok (.getfield 9, 3) := by decide +kernel
theorem dX1_faultAt_9 : decode cX1_faultAt 9 = .ok (.getfield 34, 3) := by decide +kernel
theorem dX1_faultAt_12 : decode cX1_faultAt 12 = .ok (.if_icmp .ge 38, 3) := by decide +kernel
theorem dX1_faultAt_15 : decode cX1_faultAt 15 = .ok (.aload_n 2, 1) := by decide +kernel
theorem dX1_faultAt_16 : decode cX1_faultAt 16 = .ok (.iload 4, 2) := by decide +kernel
theorem dX1_faultAt_18 : decode cX1_faultAt 18 = .ok (.invokevirtual 37, 3) := by decide +kernel
theorem dX1_faultAt_21 : decode cX1_faultAt 21 = .ok (.ifCond .eq 23, 3) := by decide +kernel
theorem dX1_faultAt_24 : decode cX1_faultAt 24 = .ok (.aload_n 0, 1) := by decide +kernel
theorem dX1_faultAt_25 : decode cX1_faultAt 25 = .ok (.getfield 9, 3) := by decide +kernel
theorem dX1_faultAt_28 : decode cX1_faultAt 28 = .ok (.iload 4, 2) := by decide +kernel
theorem dX1_faultAt_30 : decode cX1_faultAt 30 = .ok (.iload_n 3, 1) := by decide +kernel
theorem dX1_faultAt_31 : decode cX1_faultAt 31 = .ok (.iload_n 1, 1) := by decide +kernel
theorem dX1_faultAt_32 : decode cX1_faultAt 32 = .ok (.invokevirtual 40, 3) := by decide +kernel
theorem dX1_faultAt_35 : decode cX1_faultAt 35 = .ok (.ifCond .eq 9, 3) := by decide +kernel
theorem dX1_faultAt_38 : decode cX1_faultAt 38 = .ok (.bipush 10, 2) := by decide +kernel
theorem dX1_faultAt_40 : decode cX1_faultAt 40 = .ok (.iload 4, 2) := by decide +kernel
theorem dX1_faultAt_42 : decode cX1_faultAt 42 = .ok (.iadd, 1) := by decide +kernel
theorem dX1_faultAt_43 : decode cX1_faultAt 43 = .ok (.ireturn, 1) := by decide +kernel
theorem dX1_faultAt_44 : decode cX1_faultAt 44 = .ok (.iinc 4 1, 3) := by decide +kernel
theorem dX1_faultAt_47 : decode cX1_faultAt 47 = .ok (.goto (-44), 3) := by decide +kernel
theorem dX1_faultAt_50 : decode cX1_faultAt 50 = .ok (.aload_n 0, 1) := by decide +kernel
theorem dX1_faultAt_51 : decode cX1_faultAt 51 = .ok (.getfield 9, 3) := by decide +kernel
theorem dX1_faultAt_54 : decode cX1_faultAt 54 = .ok (.aload_n 2, 1) := by decide +kernel
theorem dX1_faultAt_55 : decode cX1_faultAt 55 = .ok (.getfield 44, 3) := by decide +kernel
theorem dX1_faultAt_58 : decode cX1_faultAt 58 = .ok (.iload_n 3, 1) := by decide +kernel
theorem dX1_faultAt_59 : decode cX1_faultAt 59 = .ok (.invokevirtual 47, 3) := by decide +kernel
theorem dX1_faultAt_62 : decode cX1_faultAt 62 = .ok (.istore 4, 2) := by decide +kernel
theorem dX1_faultAt_64 : decode cX1_faultAt 64 = .ok (.iconst 0, 1) := by decide +kernel
theorem dX1_faultAt_65 : decode cX1_faultAt 65 = .ok (.istore 5, 2) := by decide +kernel
theorem dX1_faultAt_67 : decode cX1_faultAt 67 = .ok (.iload 5, 2) := by decide +kernel
theorem dX1_faultAt_69 : decode cX1_faultAt 69 = .ok (.aload_n 0, 1) := by decide +kernel
theorem dX1_faultAt_70 : decode cX1_faultAt 70 = .ok (.getfield 9, 3) := by decide +kernel
theorem dX1_faultAt_73 : decode cX1_faultAt 73 = .ok (.getfield 34, 3) := by decide +kernel
theorem dX1_faultAt_76 : decode cX1_faultAt 76 = .ok (.if_icmp .ge 43, 3) := by decide +kernel
theorem dX1_faultAt_79 : decode cX1_faultAt 79 = .ok (.aload_n 2, 1) := by decide +kernel
theorem dX1_faultAt_80 : decode cX1_faultAt 80 = .ok (.iload 5, 2) := by decide +kernel
theorem dX1_faultAt_82 : decode cX1_faultAt 82 = .ok (.invokevirtual 37, 3) := by decide +kernel
theorem dX1_faultAt_85 : decode cX1_faultAt 85 = .ok (.ifCond .eq 28, 3) := by decide +kernel
theorem dX1_faultAt_88 : decode cX1_faultAt 88 = .ok (.iload_n 1, 1) := by decide +kernel
theorem dX1_faultAt_89 : decode cX1_faultAt 89 = .ok (.iload 4, 2) := by decide +kernel
theorem dX1_faultAt_91 : decode cX1_faultAt 91 = .ok (.aload_n 0, 1) := by decide +kernel
theorem dX1_faultAt_92 : decode cX1_faultAt 92 = .ok (.getfield 9, 3) := by decide +kernel
theorem dX1_faultAt_95 : decode cX1_faultAt 95 = .ok (.iload 5, 2) := by decide +kernel
theorem dX1_faultAt_97 : decode cX1_faultAt 97 = .ok (.iload_n 3, 1) := by decide +kernel
theorem dX1_faultAt_98 : decode cX1_faultAt 98 = .ok (.invokevirtual 47, 3) := by decide +kernel
theorem dX1_faultAt_101 : decode cX1_faultAt 101 = .ok (.invokestatic 51, 3) := by decide +kernel
theorem dX1_faultAt_104 : decode cX1_faultAt 104 = .ok (.ifCond .ne 9, 3) := by decide +kernel
theorem dX1_faultAt_107 : decode cX1_faultAt 107 = .ok (.bipush 20, 2) := by decide +kernel
theorem dX1_faultAt_109 : decode cX1_faultAt 109 = .ok (.iload 5, 2) := by decide +kernel
theorem dX1_faultAt_111 : decode cX1_faultAt 111 = .ok (.iadd, 1) := by decide +kernel
theorem dX1_faultAt_112 : decode cX1_faultAt 112 = .ok (.ireturn, 1) := by decide +kernel
theorem dX1_faultAt_113 : decode cX1_faultAt 113 = .ok (.iinc 5 1, 3) := by decide +kernel
theorem dX1_faultAt_116 : decode cX1_faultAt 116 = .ok (.goto (-49), 3) := by decide +kernel
theorem dX1_faultAt_119 : decode cX1_faultAt 119 = .ok (.aload_n 2, 1) := by decide +kernel
theorem dX1_faultAt_120 : decode cX1_faultAt 120 = .ok (.getfield 56, 3) := by decide +kernel
theorem dX1_faultAt_123 : decode cX1_faultAt 123 = .ok (.iload_n 1, 1) := by decide +kernel
theorem dX1_faultAt_124 : decode cX1_faultAt 124 = .ok (.iload 4, 2) := by decide +kernel
theorem dX1_faultAt_126 : decode cX1_faultAt 126 = .ok (.invokestatic 59, 3) := by decide +kernel
theorem dX1_faultAt_129 : decode cX1_faultAt 129 = .ok (.ishr, 1) := by decide +kernel
theorem dX1_faultAt_130 : decode cX1_faultAt 130 = .ok (.iconst 1, 1) := by decide +kernel
theorem dX1_faultAt_131 : decode cX1_faultAt 131 = .ok (.iand, 1) := by decide +kernel
theorem dX1_faultAt_132 : decode cX1_faultAt 132 = .ok (.ifCond .ne 6, 3) := by decide +kernel
theorem dX1_faultAt_135 : decode cX1_faultAt 135 = .ok (.bipush 30, 2) := by decide +kernel
theorem dX1_faultAt_137 : decode cX1_faultAt 137 = .ok (.ireturn, 1) := by decide +kernel
theorem dX1_faultAt_138 : decode cX1_faultAt 138 = .ok (.aload_n 2, 1) := by decide +kernel
theorem dX1_faultAt_139 : decode cX1_faultAt 139 = .ok (.getfield 62, 3) := by decide +kernel
theorem dX1_faultAt_142 : decode cX1_faultAt 142 = .ok (.iconst 2, 1) := by decide +kernel
theorem dX1_faultAt_143 : decode cX1_faultAt 143 = .ok (.if_icmp .ne 15, 3) := by decide +kernel
theorem dX1_faultAt_146 : decode cX1_faultAt 146 = .ok (.iload_n 3, 1) := by decide +kernel
theorem dX1_faultAt_147 : decode cX1_faultAt 147 = .ok (.aload_n 2, 1) := by decide +kernel
theorem dX1_faultAt_148 : decode cX1_faultAt 148 = .ok (.getfield 15, 3) := by decide +kernel
theorem dX1_faultAt_151 : decode cX1_faultAt 151 = .ok (.if_icmp .le 7, 3) := by decide +kernel
theorem dX1_faultAt_154 : decode cX1_faultAt 154 = .ok (.iconst 1, 1) := by decide +kernel
theorem dX1_faultAt_155 : decode cX1_faultAt 155 = .ok (.goto 4, 3) := by decide +kernel
theorem dX1_faultAt_158 : decode cX1_faultAt 158 = .ok (.iconst 0, 1) := by decide +kernel
theorem dX1_faultAt_159 : decode cX1_faultAt 159 = .ok (.istore 5, 2) := by decide +kernel
theorem dX1_faultAt_161 : decode cX1_faultAt 161 = .ok (.iload 5, 2) := by decide +kernel
theorem dX1_faultAt_163 : decode cX1_faultAt 163 = .ok (.ifCond .eq 18, 3) := by decide +kernel
theorem dX1_faultAt_166 : decode cX1_faultAt 166 = .ok (.aload_n 0, 1) := by decide +kernel
theorem dX1_faultAt_167 : decode cX1_faultAt 167 = .ok (.iload_n 1, 1) := by decide +kernel
theorem dX1_faultAt_168 : decode cX1_faultAt 168 = .ok (.aload_n 2, 1) := by decide +kernel
theorem dX1_faultAt_169 : decode cX1_faultAt 169 = .ok (.iload_n 3, 1) := by decide +kernel
theorem dX1_faultAt_170 : decode cX1_faultAt 170 = .ok (.invokevirtual 65, 3) := by decide +kernel
theorem dX1_faultAt_173 : decode cX1_faultAt 173 = .ok (.ifCond .eq 8, 3) := by decide +kernel
theorem dX1_faultAt_176 : decode cX1_faultAt 176 = .ok (.bipush 40, 2) := by decide +kernel
theorem dX1_faultAt_178 : decode cX1_faultAt 178 = .ok (.goto 4, 3) := by decide +kernel
theorem dX1_faultAt_181 : decode cX1_faultAt 181 = .ok (.iconst 0, 1) := by decide +kernel
theorem dX1_faultAt_182 : decode cX1_faultAt 182 = .ok (.ireturn, 1) := by decide +kernel
theorem dX1_someoneChangesSide_0 : decode cX1_someoneChangesSide 0 = .ok (.aload_n 0, 1) := by decide +kernel
theorem dX1_someoneChangesSide_1 : decode cX1_someoneChangesSide 1 = .ok (.getfield 9, 3) := by decide +kernel
theorem dX1_someoneChangesSide_4 : decode cX1_someoneChangesSide 4 = .ok (.aload_n 2, 1) := by decide +kernel
theorem dX1_someoneChangesSide_5 : decode cX1_someoneChangesSide 5 = .ok (.getfield 44, 3) := by decide +kernel
theorem dX1_someoneChangesSide_8 : decode cX1_someoneChangesSide 8 = .ok (.iload_n 3, 1) := by decide +kernel
theorem dX1_someoneChangesSide_9 : decode cX1_someoneChangesSide 9 = .ok (.iconst 1, 1) := by decide +kernel
theorem dX1_someoneChangesSide_10 : decode cX1_someoneChangesSide 10 = .ok (.isub, 1) := by decide +kernel
theorem dX1_someoneChangesSide_11 : decode cX1_someoneChangesSide 11 = .ok (.invokevirtual 47, 3) := by decide +kernel
theorem dX1_someoneChangesSide_14 : decode cX1_someoneChangesSide 14 = .ok (.istore 4, 2) := by decide +kernel
theorem dX1_someoneChangesSide_16 : decode cX1_someoneChangesSide 16 = .ok (.aload_n 0, 1) := by decide +kernel
theorem dX1_someoneChangesSide_17 : decode cX1_someoneChangesSide 17 = .ok (.getfield 9, 3) := by decide +kernel
theorem dX1_someoneChangesSide_20 : decode cX1_someoneChangesSide 20 = .ok (.aload_n 2, 1) := by decide +kernel
theorem dX1_someoneChangesSide_21 : decode cX1_someoneChangesSide 21 = .ok (.getfield 44, 3) := by decide +kernel
theorem dX1_someoneChangesSide_24 : decode cX1_someoneChangesSide 24 = .ok (.iload_n 3, 1) := by decide +kernel
theorem dX1_someoneChangesSide_25 : decode cX1_someoneChangesSide 25 = .ok (.invokevirtual 47, 3) := by decide +kernel
theorem dX1_someoneChangesSide_28 : decode cX1_someoneChangesSide 28 = .ok (.istore 5, 2) := by decide +kernel
theorem dX1_someoneChangesSide_30 : decode cX1_someoneChangesSide 30 = .ok (.iconst 0, 1) := by decide +kernel
theorem dX1_someoneChangesSide_31 : decode cX1_someoneChangesSide 31 = .ok (.istore 6, 2) := by decide +kernel
theorem dX1_someoneChangesSide_33 : decode cX1_someoneChangesSide 33 = .ok (.iload 6, 2) := by decide +kernel
theorem dX1_someoneChangesSide_35 : decode cX1_someoneChangesSide 35 = .ok (.aload_n 0, 1) := by decide +kernel
theorem dX1_someoneChangesSide_36 : decode cX1_someoneChangesSide 36 = .ok (.getfield 9, 3) := by decide +kernel
theorem dX1_someoneChangesSide_39 : decode cX1_someoneChangesSide 39 = .ok (.getfield 34, 3) := by decide +kernel
theorem dX1_someoneChangesSide_42 : decode cX1_someoneChangesSide 42 = .ok (.if_icmp .ge 66, 3) := by decide +kernel
theorem dX1_someoneChangesSide_45 : decode cX1_someoneChangesSide 45 = .ok (.aload_n 2, 1) := by decide +kernel
theorem dX1_someoneChangesSide_46 : decode cX1_someoneChangesSide 46 = .ok (.iload 6, 2) := by decide +kernel
theorem dX1_someoneChangesSide_48 : decode cX1_someoneChangesSide 48 = .ok (.invokevirtual 37, 3) := by decide +kernel
theorem dX1_someoneChangesSide_51 : decode cX1_someoneChangesSide 51 = .ok (.ifCond .eq 51, 3) := by decide +kernel
theorem dX1_someoneChangesSide_54 : decode cX1_someoneChangesSide 54 = .ok (.iload_n 1, 1) := by decide +kernel
theorem dX1_someoneChangesSide_55 : decode cX1_someoneChangesSide 55 = .ok (.iload 4, 2) := by decide +kernel
theorem dX1_someoneChangesSide_57 : decode cX1_someoneChangesSide 57 = .ok (.aload_n 0, 1) := by decide +kernel
theorem dX1_someoneChangesSide_58 : decode cX1_someoneChangesSide 58 = .ok (.getfield 9, 3) := by decide +kernel
theorem dX1_someoneChangesSide_61 : decode cX1_someoneChangesSide 61 = .ok (.iload 6, 2) := by decide +kernel
theorem dX1_someoneChangesSide_63 : decode cX1_someoneChangesSide 63 = .ok (.iload_n 3, 1) := by decide +kernel
theorem dX1_someoneChangesSide_64 : decode cX1_someoneChangesSide 64 = .ok (.iconst 1, 1) := by decide +kernel
theorem dX1_someoneChangesSide_65 : decode cX1_someoneChangesSide 65 = .ok (.isub, 1) := by decide +kernel
theorem dX1_someoneChangesSide_66 : decode cX1_someoneChangesSide 66 = .ok (.invokevirtual 47, 3) := by decide +kernel
theorem dX1_someoneChangesSide_69 : decode cX1_someoneChangesSide 69 = .ok (.invokestatic 69, 3) := by decide +kernel
theorem dX1_someoneChangesSide_72 : decode cX1_someoneChangesSide 72 = .ok (.istore 7, 2) := by decide +kernel
theorem dX1_someoneChangesSide_74 : decode cX1_someoneChangesSide 74 = .ok (.iload_n 1, 1) := by decide +kernel
theorem dX1_someoneChangesSide_75 : decode cX1_someoneChangesSide 75 = .ok (.iload 5, 2) := by decide +kernel
theorem dX1_someoneChangesSide_77 : decode cX1_someoneChangesSide 77 = .ok (.aload_n 0, 1) := by decide +kernel
theorem dX1_someoneChangesSide_78 : decode cX1_someoneChangesSide 78 = .ok (.getfield 9, 3) := by decide +kernel
theorem dX1_someoneChangesSide_81 : decode cX1_someoneChangesSide 81 = .ok (.iload 6, 2) := by decide +kernel
theorem dX1_someoneChangesSide_83 : decode cX1_someoneChangesSide 83 = .ok (.iload_n 3, 1) := by decide +kernel
theorem dX1_someoneChangesSide_84 : decode cX1_someoneChangesSide 84 = .ok (.invokevirtual 47, 3) := by decide +kernel
theorem dX1_someoneChangesSide_87 : decode cX1_someoneChangesSide 87 = .ok (.invokestatic 69, 3) := by decide +kernel
theorem dX1_someoneChangesSide_90 : decode cX1_someoneChangesSide 90 = .ok (.istore 8, 2) := by decide +kernel
theorem dX1_someoneChangesSide_92 : decode cX1_someoneChangesSide 92 = .ok (.iload 7, 2) := by decide +kernel
theorem dX1_someoneChangesSide_94 : decode cX1_someoneChangesSide 94 = .ok (.iload 8, 2) := by decide +kernel
theorem dX1_someoneChangesSide_96 : decode cX1_someoneChangesSide 96 = .ok (.imul, 1) := by decide +kernel
theorem dX1_someoneChangesSide_97 : decode cX1_someoneChangesSide 97 = .ok (.ifCond .ge 5, 3) := by decide +kernel
theorem dX1_someoneChangesSide_100 : decode cX1_someoneChangesSide 100 = .ok (.iconst 1, 1) := by decide +kernel
theorem dX1_someoneChangesSide_101 : decode cX1_someoneChangesSide 101 = .ok (.ireturn, 1) := by decide +kernel
theorem dX1_someoneChangesSide_102 : decode cX1_someoneChangesSide 102 = .ok (.iinc 6 1, 3) := by decide +kernel
theorem dX1_someoneChangesSide_105 : decode cX1_someoneChangesSide 105 = .ok (.goto (-72), 3) := by decide +kernel
theorem dX1_someoneChangesSide_108 : decode cX1_someoneChangesSide 108 = .ok (.iconst 0, 1) := by decide +kernel
theorem dX1_someoneChangesSide_109 : decode cX1_someoneChangesSide 109 = .ok (.ireturn, 1) := by decide +kernel
theorem dX1_sideOfMain_0 : decode cX1_sideOfMain 0 = .ok (.aload_n 0, 1) := by decide +kernel
theorem dX1_sideOfMain_1 : decode cX1_sideOfMain 1 = .ok (.getfield 9, 3) := by decide +kernel
theorem dX1_sideOfMain_4 : decode cX1_sideOfMain 4 = .ok (.aload_n 2, 1) := by decide +kernel
theorem dX1_sideOfMain_5 : decode cX1_sideOfMain 5 = .ok (.getfield 44, 3) := by decide +kernel
theorem dX1_sideOfMain_8 : decode cX1_sideOfMain 8 = .ok (.aload_n 2, 1) := by decide +kernel
theorem dX1_sideOfMain_9 : decode cX1_sideOfMain 9 = .ok (.getfield 15, 3) := by decide +kernel
theorem dX1_sideOfMain_12 : decode cX1_sideOfMain 12 = .ok (.invokevirtual 47, 3) := by decide +kernel
theorem dX1_sideOfMain_15 : decode cX1_sideOfMain 15 = .ok (.istore_n 3, 1) := by decide +kernel
theorem dX1_sideOfMain_16 : decode cX1_sideOfMain 16 = .ok (.aload_n 0, 1) := by decide +kernel
theorem dX1_sideOfMain_17 : decode cX1_sideOfMain 17 = .ok (.getfield 9, 3) := by decide +kernel
theorem dX1_sideOfMain_20 : decode cX1_sideOfMain 20 = .ok (.aload_n 2, 1) := by decide +kernel
theorem dX1_sideOfMain_21 : decode cX1_sideOfMain 21 = .ok (.invokevirtual 73, 3) := by decide +kernel
theorem dX1_sideOfMain_24 : decode cX1_sideOfMain 24 = .ok (.aload_n 2, 1) := by decide +kernel
theorem dX1_sideOfMain_25 : decode cX1_sideOfMain 25 = .ok (.getfield 15, 3) := by decide +kernel
theorem dX1_sideOfMain_28 : decode cX1_sideOfMain 28 = .ok (.invokevirtual 47, 3) := by decide +kernel
theorem dX1_sideOfMain_31 : decode cX1_sideOfMain 31 = .ok (.istore 4, 2) := by decide +kernel
theorem dX1_sideOfMain_33 : decode cX1_sideOfMain 33 = .ok (.iload_n 3, 1) := by decide +kernel
theorem dX1_sideOfMain_34 : decode cX1_sideOfMain 34 = .ok (.iload 4, 2) := by decide +kernel
theorem dX1_sideOfMain_36 : decode cX1_sideOfMain 36 = .ok (.iload_n 1, 1) := by decide +kernel
theorem dX1_sideOfMain_37 : decode cX1_sideOfMain 37 = .ok (.invokestatic 69, 3) := by decide +kernel
theorem dX1_sideOfMain_40 : decode cX1_sideOfMain 40 = .ok (.invokestatic 77, 3) := by decide +kernel
theorem dX1_sideOfMain_43 : decode cX1_sideOfMain 43 = .ok (.ireturn, 1) := by decide +kernel
theorem dX1_sideOfLesser_0 : decode cX1_sideOfLesser 0 = .ok (.aload_n 0, 1) := by decide +kernel
theorem dX1_sideOfLesser_1 : decode cX1_sideOfLesser 1 = .ok (.iload_n 1, 1) := by decide +kernel
theorem dX1_sideOfLesser_2 : decode cX1_sideOfLesser 2 = .ok (.aload_n 2, 1) := by decide +kernel
theorem dX1_sideOfLesser_3 : decode cX1_sideOfLesser 3 = .ok (.invokevirtual 83, 3) := by decide +kernel
theorem dX1_sideOfLesser_6 : decode cX1_sideOfLesser 6 = .ok (.istore_n 3, 1) := by decide +kernel
theorem dX1_sideOfLesser_7 : decode cX1_sideOfLesser 7 = .ok (.aload_n 2, 1) := by decide +kernel
theorem dX1_sideOfLesser_8 : decode cX1_sideOfLesser 8 = .ok (.getfield 44, 3) := by decide +kernel
theorem dX1_sideOfLesser_11 : decode cX1_sideOfLesser 11 = .ok (.aload_n 2, 1) := by decide +kernel
theorem dX1_sideOfLesser_12 : decode cX1_sideOfLesser 12 = .ok (.invokevirtual 73, 3) := by decide +kernel
theorem dX1_sideOfLesser_15 : decode cX1_sideOfLesser 15 = .ok (.if_icmp .ge 7, 3) := by decide +kernel
theorem dX1_sideOfLesser_18 : decode cX1_sideOfLesser 18 = .ok (.iload_n 3, 1) := by decide +kernel
theorem dX1_sideOfLesser_19 : decode cX1_sideOfLesser 19 = .ok (.goto 5, 3) := by decide +kernel
theorem dX1_sideOfLesser_22 : decode cX1_sideOfLesser 22 = .ok (.iload_n 3, 1) := by decide +kernel
theorem dX1_sideOfLesser_23 : decode cX1_sideOfLesser 23 = .ok (.ineg, 1) := by decide +kernel
theorem dX1_sideOfLesser_24 : decode cX1_sideOfLesser 24 = .ok (.ireturn, 1) := by decide +kernel
theorem dX2_cross_0 : decode cX2_cross 0 = .ok (.iload_n 0, 1) := by decide +kernel
theorem dX2_cross_1 : decode cX2_cross 1 = .ok (.bipush 100, 2) := by decide +kernel
theorem dX2_cross_3 : decode cX2_cross 3 = .ok (.idiv, 1) := by decide +kernel
theorem dX2_cross_4 : decode cX2_cross 4 = .ok (.istore_n 3, 1) := by decide +kernel
theorem dX2_cross_5 : decode cX2_cross 5 = .ok (.iload_n 0, 1) := by decide +kernel
theorem dX2_cross_6 : decode cX2_cross 6 = .ok (.bipush 100, 2) := by decide +kernel
theorem dX2_cross_8 : decode cX2_cross 8 = .ok (.irem, 1) := by decide +kernel
theorem dX2_cross_9 : decode cX2_cross 9 = .ok (.istore 4, 2) := by decide +kernel
theorem dX2_cross_11 : decode cX2_cross 11 = .ok (.iload_n 1, 1) := by decide +kernel
theorem dX2_cross_12 : decode cX2_cross 12 = .ok (.bipush 100, 2) := by decide +kernel
theorem dX2_cross_14 : decode cX2_cross 14 = .ok (.idiv, 1) := by decide +kernel
theorem dX2_cross_15 : decode cX2_cross 15 = .ok (.iload_n 3, 1) := by decide +kernel
theorem dX2_cross_16 : decode cX2_cross 16 = .ok (.isub, 1) := by decide +kernel
theorem dX2_cross_17 : decode cX2_cross 17 = .ok (.iload_n 2, 1) := by decide +kernel
theorem dX2_cross_18 : decode cX2_cross 18 = .ok (.bipush 100, 2) := by decide +kernel
theorem dX2_cross_20 : decode cX2_cross 20 = .ok (.irem, 1) := by decide +kernel
theorem dX2_cross_21 : decode cX2_cross 21 = .ok (.iload 4, 2) := by decide +kernel
theorem dX2_cross_23 : decode cX2_cross 23 = .ok (.isub, 1) := by decide +kernel
theorem dX2_cross_24 : decode cX2_cross 24 = .ok (.imul, 1) := by decide +kernel
theorem dX2_cross_25 : decode cX2_cross 25 = .ok (.iload_n 1, 1) := by decide +kernel
theorem dX2_cross_26 : decode cX2_cross 26 = .ok (.bipush 100, 2) := by decide +kernel
theorem dX2_cross_28 : decode cX2_cross 28 = .ok (.irem, 1) := by decide +kernel
theorem dX2_cross_29 : decode cX2_cross 29 = .ok (.iload 4, 2) := by decide +kernel
theorem dX2_cross_31 : decode cX2_cross 31 = .ok (.isub, 1) := by decide +kernel
theorem dX2_cross_32 : decode cX2_cross 32 = .ok (.iload_n 2, 1) := by decide +kernel
theorem dX2_cross_33 : decode cX2_cross 33 = .ok (.bipush 100, 2) := by decide +kernel
theorem dX2_cross_35 : decode cX2_cross 35 = .ok (.idiv, 1) := by decide +kernel
theorem dX2_cross_36 : decode cX2_cross 36 = .ok (.iload_n 3, 1) := by decide +kernel
theorem dX2_cross_37 : decode cX2_cross 37 = .ok (.isub, 1) := by decide +kernel
theorem dX2_cross_38 : decode cX2_cross 38 = .ok (.imul, 1) := by decide +kernel
theorem dX2_cross_39 : decode cX2_cross 39 = .ok (.isub, 1) := by decide +kernel
theorem dX2_cross_40 : decode cX2_cross 40 = .ok (.ireturn, 1) := by decide +kernel
theorem dX2_dot_0 : decode cX2_dot 0 = .ok (.iload_n 0, 1) := by decide +kernel
theorem dX2_dot_1 : decode cX2_dot 1 = .ok (.bipush 100, 2) := by decide +kernel
theorem dX2_dot_3 : decode cX2_dot 3 = .ok (.idiv, 1) := by decide +kernel
theorem dX2_dot_4 : decode cX2_dot 4 = .ok (.istore_n 3, 1) := by decide +kernel
theorem dX2_dot_5 : decode cX2_dot 5 = .ok (.iload_n 0, 1) := by decide +kernel
theorem dX2_dot_6 : decode cX2_dot 6 = .ok (.bipush 100, 2) := by decide +kernel
theorem dX2_dot_8 : decode cX2_dot 8 = .ok (.irem, 1) := by decide +kernel
theorem dX2_dot_9 : decode cX2_dot 9 = .ok (.istore 4, 2) := by decide +kernel
theorem dX2_dot_11 : decode cX2_dot 11 = .ok (.iload_n 1, 1) := by decide +kernel
theorem dX2_dot_12 : decode cX2_dot 12 = .ok (.bipush 100, 2) := by decide +kernel
theorem dX2_dot_14 : decode cX2_dot 14 = .ok (.idiv, 1) := by decide +kernel
theorem dX2_dot_15 : decode cX2_dot 15 = .ok (.iload_n 3, 1) := by decide +kernel
theorem dX2_dot_16 : decode cX2_dot 16 = .ok (.isub, 1) := by decide +kernel
theorem dX2_dot_17 : decode cX2_dot 17 = .ok (.iload_n 2, 1) := by decide +kernel
theorem dX2_dot_18 : decode cX2_dot 18 = .ok (.bipush 100, 2) := by decide +kernel
theorem dX2_dot_20 : decode cX2_dot 20 = .ok (.idiv, 1) := by decide +kernel
theorem dX2_dot_21 : decode cX2_dot 21 = .ok (.iload_n 3, 1) := by decide +kernel
theorem dX2_dot_22 : decode cX2_dot 22 = .ok (.isub, 1) := by decide +kernel
theorem dX2_dot_23 : decode cX2_dot 23 = .ok (.imul, 1) := by decide +kernel
theorem dX2_dot_24 : decode cX2_dot 24 = .ok (.iload_n 1, 1) := by decide +kernel
theorem dX2_dot_25 : decode cX2_dot 25 = .ok (.bipush 100, 2) := by decide +kernel
theorem dX2_dot_27 : decode cX2_dot 27 = .ok (.irem, 1) := by decide +kernel
theorem dX2_dot_28 : decode cX2_dot 28 = .ok (.iload 4, 2) := by decide +kernel
theorem dX2_dot_30 : decode cX2_dot 30 = .ok (.isub, 1) := by decide +kernel
theorem dX2_dot_31 : decode cX2_dot 31 = .ok (.iload_n 2, 1) := by decide +kernel
theorem dX2_dot_32 : decode cX2_dot 32 = .ok (.bipush 100, 2) := by decide +kernel
theorem dX2_dot_34 : decode cX2_dot 34 = .ok (.irem, 1) := by decide +kernel
theorem dX2_dot_35 : decode cX2_dot 35 = .ok (.iload 4, 2) := by decide +kernel
theorem dX2_dot_37 : decode cX2_dot 37 = .ok (.isub, 1) := by decide +kernel
theorem dX2_dot_38 : decode cX2_dot 38 = .ok (.imul, 1) := by decide +kernel
theorem dX2_dot_39 : decode cX2_dot 39 = .ok (.iadd, 1) := by decide +kernel
theorem dX2_dot_40 : decode cX2_dot 40 = .ok (.ireturn, 1) := by decide +kernel
theorem dX2_isBetween_0 : decode cX2_isBetween 0 = .ok (.iload_n 0, 1) := by decide +kernel
theorem dX2_isBetween_1 : decode cX2_isBetween 1 = .ok (.iload_n 1, 1) := by decide +kernel
theorem dX2_isBetween_2 : decode cX2_isBetween 2 = .ok (.iload_n 2, 1) := by decide +kernel
theorem dX2_isBetween_3 : decode cX2_isBetween 3 = .ok (.invokestatic 7, 3) := by decide +kernel
theorem dX2_isBetween_6 : decode cX2_isBetween 6 = .ok (.ifCond .ne 16, 3) := by decide +kernel
theorem dX2_isBetween_9 : decode cX2_isBetween 9 = .ok (.iload_n 0, 1) := by decide +kernel
theorem dX2_isBetween_10 : decode cX2_isBetween 10 = .ok (.iload_n 1, 1) := by decide +kernel
theorem dX2_isBetween_11 : decode cX2_isBetween 11 = .ok (.iload_n 2, 1) := by decide +kernel
theorem dX2_isBetween_12 : decode cX2_isBetween 12 = .ok (.invokestatic 13, 3) := by decide +kernel
theorem dX2_isBetween_15 : decode cX2_isBetween 15 = .ok (.ifCond .ge 7, 3) := by decide +kernel
theorem dX2_isBetween_18 : decode cX2_isBetween 18 = .ok (.iconst 1, 1) := by decide +kernel
theorem dX2_isBetween_19 : decode cX2_isBetween 19 = .ok (.goto 4, 3) := by decide +kernel
theorem dX2_isBetween_22 : decode cX2_isBetween 22 = .ok (.iconst 0, 1) := by decide +kernel
theorem dX2_isBetween_23 : decode cX2_isBetween 23 = .ok (.ireturn, 1) := by decide +kernel
theorem dX2_meet_0 : decode cX2_meet 0 = .ok (.iload_n 0, 1) := by decide +kernel
theorem dX2_meet_1 : decode cX2_meet 1 = .ok (.iload_n 1, 1) := by decide +kernel
theorem dX2_meet_2 : decode cX2_meet 2 = .ok (.iload_n 2, 1) := by decide +kernel
theorem dX2_meet_3 : decode cX2_meet 3 = .ok (.invokestatic 7, 3) := by decide +kernel
theorem dX2_meet_6 : decode cX2_meet 6 = .ok (.istore 4, 2) := by decide +kernel
theorem dX2_meet_8 : decode cX2_meet 8 = .ok (.iload_n 0, 1) := by decide +kernel
theorem dX2_meet_9 : decode cX2_meet 9 = .ok (.iload_n 1, 1) := by decide +kernel
theorem dX2_meet_10 : decode cX2_meet 10 = .ok (.iload_n 3, 1) := by decide +kernel
theorem dX2_meet_11 : decode cX2_meet 11 = .ok (.invokestatic 7, 3) := by decide +kernel
theorem dX2_meet_14 : decode cX2_meet 14 = .ok (.istore 5, 2) := by decide +kernel
theorem dX2_meet_16 : decode cX2_meet 16 = .ok (.iload 4, 2) := by decide +kernel
theorem dX2_meet_18 : decode cX2_meet 18 = .ok (.iload 5, 2) := by decide +kernel
theorem dX2_meet_20 : decode cX2_meet 20 = .ok (.imul, 1) := by decide +kernel
theorem dX2_meet_21 : decode cX2_meet 21 = .ok (.ifCond .gt 19, 3) := by decide +kernel
theorem dX2_meet_24 : decode cX2_meet 24 = .ok (.iload_n 2, 1) := by decide +kernel
theorem dX2_meet_25 : decode cX2_meet 25 = .ok (.iload_n 3, 1) := by decide +kernel
theorem dX2_meet_26 : decode cX2_meet 26 = .ok (.iload_n 0, 1) := by decide +kernel
theorem dX2_meet_27 : decode cX2_meet 27 = .ok (.invokestatic 7, 3) := by decide +kernel
theorem dX2_meet_30 : decode cX2_meet 30 = .ok (.iload_n 2, 1) := by decide +kernel
theorem dX2_meet_31 : decode cX2_meet 31 = .ok (.iload_n 3, 1) := by decide +kernel
theorem dX2_meet_32 : decode cX2_meet 32 = .ok (.iload_n 1, 1) := by decide +kernel
theorem dX2_meet_33 : decode cX2_meet 33 = .ok (.invokestatic 7, 3) := by decide +kernel
theorem dX2_meet_36 : decode cX2_meet 36 = .ok (.imul, 1) := by decide +kernel
theorem dX2_meet_37 : decode cX2_meet 37 = .ok (.ifCond .le 5, 3) := by decide +kernel
theorem dX2_meet_40 : decode cX2_meet 40 = .ok (.iconst 0, 1) := by decide +kernel
theorem dX2_meet_41 : decode cX2_meet 41 = .ok (.ireturn, 1) := by decide +kernel
theorem dX2_meet_42 : decode cX2_meet 42 = .ok (.iload 4, 2) := by decide +kernel
theorem dX2_meet_44 : decode cX2_meet 44 = .ok (.ifCond .ne 8, 3) := by decide +kernel
theorem dX2_meet_47 : decode cX2_meet 47 = .ok (.iload 5, 2) := by decide +kernel
theorem dX2_meet_49 : decode cX2_meet 49 = .ok (.ifCond .eq 5, 3) := by decide +kernel
theorem dX2_meet_52 : decode cX2_meet 52 = .ok (.iconst 1, 1) := by decide +kernel
theorem dX2_meet_53 : decode cX2_meet 53 = .ok (.ireturn, 1) := by decide +kernel
theorem dX2_meet_54 : decode cX2_meet 54 = .ok (.iload_n 2, 1) := by decide +kernel
theorem dX2_meet_55 : decode cX2_meet 55 = .ok (.iload_n 0, 1) := by decide +kernel
theorem dX2_meet_56 : decode cX2_meet 56 = .ok (.iload_n 1, 1) := by decide +kernel
theorem dX2_meet_57 : decode cX2_meet 57 = .ok (.invokestatic 13, 3) := by decide +kernel
theorem dX2_meet_60 : decode cX2_meet 60 = .ok (.ifCond .le 21, 3) := by decide +kernel
theorem dX2_meet_63 : decode cX2_meet 63 = .ok (.iload_n 3, 1) := by decide +kernel
theorem dX2_meet_64 : decode cX2_meet 64 = .ok (.iload_n 0, 1) := by decide +kernel
theorem dX2_meet_65 : decode cX2_meet 65 = .ok (.iload_n 1, 1) := by decide +kernel
theorem dX2_meet_66 : decode cX2_meet 66 = .ok (.invokestatic 13, 3) := by decide +kernel
theorem dX2_meet_69 : decode cX2_meet 69 = .ok (.ifCond .le 12, 3) := by decide +kernel
theorem dX2_meet_72 : decode cX2_meet 72 = .ok (.iload_n 0, 1) := by decide +kernel
theorem dX2_meet_73 : decode cX2_meet 73 = .ok (.iload_n 2, 1) := by decide +kernel
theorem dX2_meet_74 : decode cX2_meet 74 = .ok (.iload_n 3, 1) := by decide +kernel
theorem dX2_meet_75 : decode cX2_meet 75 = .ok (.invokestatic 13, 3) := by decide +kernel
theorem dX2_meet_78 : decode cX2_meet 78 = .ok (.ifCond .gt 7, 3) := by decide +kernel
theorem dX2_meet_81 : decode cX2_meet 81 = .ok (.iconst 1, 1) := by decide +kernel
theorem dX2_meet_82 : decode cX2_meet 82 = .ok (.goto 4, 3) := by decide +kernel
theorem dX2_meet_85 : decode cX2_meet 85 = .ok (.iconst 0, 1) := by decide +kernel
theorem dX2_meet_86 : decode cX2_meet 86 = .ok (.ireturn, 1) := by decide +kernel
theorem dX2_inCone_0 : decode cX2_inCone 0 = .ok (.iload_n 0, 1) := by decide +kernel
theorem dX2_inCone_1 : decode cX2_inCone 1 = .ok (.iload_n 1, 1) := by decide +kernel
theorem dX2_inCone_2 : decode cX2_inCone 2 = .ok (.iload_n 2, 1) := by decide +kernel
theorem dX2_inCone_3 : decode cX2_inCone 3 = .ok (.invokestatic 13, 3) := by decide +kernel
theorem dX2_inCone_6 : decode cX2_inCone 6 = .ok (.istore_n 3, 1) := by decide +kernel
theorem dX2_inCone_7 : decode cX2_inCone 7 = .ok (.iload_n 3, 1) := by decide +kernel
theorem dX2_inCone_8 : decode cX2_inCone 8 = .ok (.ifCond .le 28, 3) := by decide +kernel
theorem dX2_inCone_11 : decode cX2_inCone 11 = .ok (.iconst 2, 1) := by decide +kernel
theorem dX2_inCone_12 : decode cX2_inCone 12 = .ok (.iload_n 3, 1) := by decide +kernel
theorem dX2_inCone_13 : decode cX2_inCone 13 = .ok (.imul, 1) := by decide +kernel
theorem dX2_inCone_14 : decode cX2_inCone 14 = .ok (.iload_n 3, 1) := by decide +kernel
theorem dX2_inCone_15 : decode cX2_inCone 15 = .ok (.imul, 1) := by decide +kernel
theorem dX2_inCone_16 : decode cX2_inCone 16 = .ok (.iload_n 0, 1) := by decide +kernel
theorem dX2_inCone_17 : decode cX2_inCone 17 = .ok (.iload_n 1, 1) := by decide +kernel
theorem dX2_inCone_18 : decode cX2_inCone 18 = .ok (.iload_n 1, 1) := by decide +kernel
theorem dX2_inCone_19 : decode cX2_inCone 19 = .ok (.invokestatic 13, 3) := by decide +kernel
theorem dX2_inCone_22 : decode cX2_inCone 22 = .ok (.iload_n 0, 1) := by decide +kernel
theorem dX2_inCone_23 : decode cX2_inCone 23 = .ok (.iload_n 2, 1) := by decide +kernel
theorem dX2_inCone_24 : decode cX2_inCone 24 = .ok (.iload_n 2, 1) := by decide +kernel
theorem dX2_inCone_25 : decode cX2_inCone 25 = .ok (.invokestatic 13, 3) := by decide +kernel
theorem dX2_inCone_28 : decode cX2_inCone 28 = .ok (.imul, 1) := by decide +kernel
theorem dX2_inCone_29 : decode cX2_inCone 29 = .ok (.if_icmp .lt 7, 3) := by decide +kernel
theorem dX2_inCone_32 : decode cX2_inCone 32 = .ok (.iconst 1, 1) := by decide +kernel
theorem dX2_inCone_33 : decode cX2_inCone 33 = .ok (.goto 4, 3) := by decide +kernel
theorem dX2_inCone_36 : decode cX2_inCone 36 = .ok (.iconst 0, 1) := by decide +kernel
theorem dX2_inCone_37 : decode cX2_inCone 37 = .ok (.ireturn, 1) := by decide +kernel
theorem dX2_sizeSeen_0 : decode cX2_sizeSeen 0 = .ok (.iload_n 0, 1) := by decide +kernel
theorem dX2_sizeSeen_1 : decode cX2_sizeSeen 1 = .ok (.iload_n 1, 1) := by decide +kernel
theorem dX2_sizeSeen_2 : decode cX2_sizeSeen 2 = .ok (.iload_n 1, 1) := by decide +kernel
theorem dX2_sizeSeen_3 : decode cX2_sizeSeen 3 = .ok (.invokestatic 13, 3) := by decide +kernel
theorem dX2_sizeSeen_6 : decode cX2_sizeSeen 6 = .ok (.istore_n 2, 1) := by decide +kernel
theorem dX2_sizeSeen_7 : decode cX2_sizeSeen 7 = .ok (.iload_n 2, 1) := by decide +kernel
theorem dX2_sizeSeen_8 : decode cX2_sizeSeen 8 = .ok (.bipush 16, 2) := by decide +kernel
theorem dX2_sizeSeen_10 : decode cX2_sizeSeen 10 = .ok (.if_icmp .gt 7, 3) := by decide +kernel
theorem dX2_sizeSeen_13 : decode cX2_sizeSeen 13 = .ok (.iconst 0, 1) := by decide +kernel
theorem dX2_sizeSeen_14 : decode cX2_sizeSeen 14 = .ok (.goto 14, 3) := by decide +kernel
theorem dX2_sizeSeen_17 : decode cX2_sizeSeen 17 = .ok (.iload_n 2, 1) := by decide +kernel
theorem dX2_sizeSeen_18 : decode cX2_sizeSeen 18 = .ok (.bipush 100, 2) := by decide +kernel
theorem dX2_sizeSeen_20 : decode cX2_sizeSeen 20 = .ok (.if_icmp .gt 7, 3) := by decide +kernel
theorem dX2_sizeSeen_23 : decode cX2_sizeSeen 23 = .ok (.iconst 1, 1) := by decide +kernel
theorem dX2_sizeSeen_24 : decode cX2_sizeSeen 24 = .ok (.goto 4, 3) := by decide +kernel
theorem dX2_sizeSeen_27 : decode cX2_sizeSeen 27 = .ok (.iconst 2, 1) := by decide +kernel
theorem dX2_sizeSeen_28 : decode cX2_sizeSeen 28 = .ok (.ireturn, 1) := by decide +kernel
theorem dX3_init_0 : decode cX3_init 0 = .ok (.aload_n 0, 1) := by decide +kernel
theorem dX3_init_1 : decode cX3_init 1 = .ok (.invokespecial 3, 3) := by decide +kernel
theorem dX3_init_4 : decode cX3_init 4 = .ok (.aload_n 0, 1) := by decide +kernel
theorem dX3_init_5 : decode cX3_init 5 = .ok (.bipush 8, 2) := by decide +kernel
theorem dX3_init_7 : decode cX3_init 7 = .ok (.newarray .int, 2) := by decide +kernel
theorem dX3_init_9 : decode cX3_init 9 = .ok (.putfield 9, 3) := by decide +kernel
theorem dX3_init_12 : decode cX3_init 12 = .ok (.aload_n 0, 1) := by decide +kernel
theorem dX3_init_13 : decode cX3_init 13 = .ok (.bipush 80, 2) := by decide +kernel
theorem dX3_init_15 : decode cX3_init 15 = .ok (.newarray .int, 2) := by decide +kernel
theorem dX3_init_17 : decode cX3_init 17 = .ok (.putfield 15, 3) := by decide +kernel
theorem dX3_init_20 : decode cX3_init 20 = .ok (.aload_n 0, 1) := by decide +kernel
theorem dX3_init_21 : decode cX3_init 21 = .ok (.bipush 27, 2) := by decide +kernel
theorem dX3_init_23 : decode cX3_init 23 = .ok (.newarray .boolean, 2) := by decide +kernel
theorem dX3_init_25 : decode cX3_init 25 = .ok (.putfield 18, 3) := by decide +kernel
theorem dX3_init_28 : decode cX3_init 28 = .ok (.aload_n 0, 1) := by decide +kernel
theorem dX3_init_29 : decode cX3_init 29 = .ok (.bipush 8, 2) := by decide +kernel
theorem dX3_init_31 : decode cX3_init 31 = .ok (.newarray .int, 2) := by decide +kernel
theorem dX3_init_33 : decode cX3_init 33 = .ok (.putfield 22, 3) := by decide +kernel
theorem dX3_init_36 : decode cX3_init 36 = .ok (.aload_n 0, 1) := by decide +kernel
theorem dX3_init_37 : decode cX3_init 37 = .ok (.bipush 10, 2) := by decide +kernel
theorem dX3_init_39 : decode cX3_init 39 = .ok (.newarray .int, 2) := by decide +kernel
theorem dX3_init_41 : decode cX3_init 41 = .ok (.putfield 25, 3) := by decide +kernel
theorem dX3_init_44 : decode cX3_init 44 = .ok (.aload_n 0, 1) := by decide +kernel
theorem dX3_init_45 : decode cX3_init 45 = .ok (.aload_n 1, 1) := by decide +kernel
theorem dX3_init_46 : decode cX3_init 46 = .ok (.putfield 28, 3) := by decide +kernel
theorem dX3_init_49 : decode cX3_init 49 = .ok (.aload_n 0, 1) := by decide +kernel
theorem dX3_init_50 : decode cX3_init 50 = .ok (.aload_n 2, 1) := by decide +kernel
theorem dX3_init_51 : decode cX3_init 51 = .ok (.putfield 32, 3) := by decide +kernel
theorem dX3_init_54 : decode cX3_init 54 = .ok (.aload_n 0, 1) := by decide +kernel
theorem dX3_init_55 : decode cX3_init 55 = .ok (.aload_n 3, 1) := by decide +kernel
theorem dX3_init_56 : decode cX3_init 56 = .ok (.putfield 36, 3) := by decide +kernel
theorem dX3_init_59 : decode cX3_init 59 = .ok (.return_, 1) := by decide +kernel
theorem dX3_forget_0 : decode cX3_forget 0 = .ok (.aload_n 0, 1) := by decide +kernel
theorem dX3_forget_1 : decode cX3_forget 1 = .ok (.iconst 0, 1) := by decide +kernel
theorem dX3_forget_2 : decode cX3_forget 2 = .ok (.putfield 40, 3) := by decide +kernel
theorem dX3_forget_5 : decode cX3_forget 5 = .ok (.return_, 1) := by decide +kernel
theorem dX3_refresh_0 : decode cX3_refresh 0 = .ok (.aload_n 0, 1) := by decide +kernel
theorem dX3_refresh_1 : decode cX3_refresh 1 = .ok (.getfield 40, 3) := by decide +kernel
theorem dX3_refresh_4 : decode cX3_refresh 4 = .ok (.ifCond .eq 4, 3) := by decide +kernel
theorem dX3_refresh_7 : decode cX3_refresh 7 = .ok (.return_, 1) := by decide +kernel
theorem dX3_refresh_8 : decode cX3_refresh 8 = .ok (.aload_n 0, 1) := by decide +kernel
theorem dX3_refresh_9 : decode cX3_refresh 9 = .ok (.iconst 1, 1) := by decide +kernel
theorem dX3_refresh_10 : decode cX3_refresh 10 = .ok (.putfield 40, 3) := by decide +kernel
theorem dX3_refresh_13 : decode cX3_refresh 13 = .ok (.iconst 0, 1) := by decide +kernel
theorem dX3_refresh_14 : decode cX3_refresh 14 = .ok (.istore_n 1, 1) := by decide +kernel
theorem dX3_refresh_15 : decode cX3_refresh 15 = .ok (.iload_n 1, 1) := by decide +kernel
theorem dX3_refresh_16 : decode cX3_refresh 16 = .ok (.aload_n 0, 1) := by decide +kernel
theorem dX3_refresh_17 : decode cX3_refresh 17 = .ok (.getfield 36, 3) := by decide +kernel
theorem dX3_refresh_20 : decode cX3_refresh 20 = .ok (.getfield 44, 3) := by decide +kernel
theorem dX3_refresh_23 : decode cX3_refresh 23 = .ok (.if_icmp .ge 118, 3) := by decide +kernel
theorem dX3_refresh_26 : decode cX3_refresh 26 = .ok (.aload_n 0, 1) := by decide +kernel
theorem dX3_refresh_27 : decode cX3_refresh 27 = .ok (.getfield 36, 3) := by decide +kernel
theorem dX3_refresh_30 : decode cX3_refresh 30 = .ok (.getfield 50, 3) := by decide +kernel
theorem dX3_refresh_33 : decode cX3_refresh 33 = .ok (.iload_n 1, 1) := by decide +kernel
theorem dX3_refresh_34 : decode cX3_refresh 34 = .ok (.aaload, 1) := by decide +kernel
theorem dX3_refresh_35 : decode cX3_refresh 35 = .ok (.astore_n 2, 1) := by decide +kernel
theorem dX3_refresh_36 : decode cX3_refresh 36 = .ok (.aload_n 0, 1) := by decide +kernel
theorem dX3_refresh_37 : decode cX3_refresh 37 = .ok (.getfield 9, 3) := by decide +kernel
theorem dX3_refresh_40 : decode cX3_refresh 40 = .ok (.iload_n 1, 1) := by decide +kernel
theorem dX3_refresh_41 : decode cX3_refresh 41 = .ok (.iconst 0, 1) := by decide +kernel
theorem dX3_refresh_42 : decode cX3_refresh 42 = .ok (.iastore, 1) := by decide +kernel
theorem dX3_refresh_43 : decode cX3_refresh 43 = .ok (.iconst 0, 1) := by decide +kernel
theorem dX3_refresh_44 : decode cX3_refresh 44 = .ok (.istore_n 3, 1) := by decide +kernel
theorem dX3_refresh_45 : decode cX3_refresh 45 = .ok (.iload_n 3, 1) := by decide +kernel
theorem dX3_refresh_46 : decode cX3_refresh 46 = .ok (.aload_n 0, 1) := by decide +kernel
theorem dX3_refresh_47 : decode cX3_refresh 47 = .ok (.getfield 32, 3) := by decide +kernel
theorem dX3_refresh_50 : decode cX3_refresh 50 = .ok (.getfield 54, 3) := by decide +kernel
theorem dX3_refresh_53 : decode cX3_refresh 53 = .ok (.if_icmp .ge 82, 3) := by decide +kernel
theorem dX3_refresh_56 : decode cX3_refresh 56 = .ok (.aload_n 0, 1) := by decide +kernel
theorem dX3_refresh_57 : decode cX3_refresh 57 = .ok (.getfield 32, 3) := by decide +kernel
theorem dX3_refresh_60 : decode cX3_refresh 60 = .ok (.getfield 59, 3) := by decide +kernel
theorem dX3_refresh_63 : decode cX3_refresh 63 = .ok (.iload_n 3, 1) := by decide +kernel
theorem dX3_refresh_64 : decode cX3_refresh 64 = .ok (.iaload, 1) := by decide +kernel
theorem dX3_refresh_65 : decode cX3_refresh 65 = .ok (.istore 4, 2) := by decide +kernel
theorem dX3_refresh_67 : decode cX3_refresh 67 = .ok (.aload_n 0, 1) := by decide +kernel
theorem dX3_refresh_68 : decode cX3_refresh 68 = .ok (.getfield 9, 3) := by decide +kernel
theorem dX3_refresh_71 : decode cX3_refresh 71 = .ok (.iload_n 1, 1) := by decide +kernel
theorem dX3_refresh_72 : decode cX3_refresh 72 = .ok (.dup2, 1) := by decide +kernel
theorem dX3_refresh_73 : decode cX3_refresh 73 = .ok (.iaload, 1) := by decide +kernel
theorem dX3_refresh_74 : decode cX3_refresh 74 = .ok (.aload_n 0, 1) := by decide +kernel
theorem dX3_refresh_75 : decode cX3_refresh 75 = .ok (.getfield 28, 3) := by decide +kernel
theorem dX3_refresh_78 : decode cX3_refresh 78 = .ok (.iload 4, 2) := by decide +kernel
theorem dX3_refresh_80 : decode cX3_refresh 80 = .ok (.aload_n 2, 1) := by decide +kernel
theorem dX3_refresh_81 : decode cX3_refresh 81 = .ok (.invokevirtual 62, 3) := by decide +kernel
theorem dX3_refresh_84 : decode cX3_refresh 84 = .ok (.ifCond .ne 9, 3) := by decide +kernel
theorem dX3_refresh_87 : decode cX3_refresh 87 = .ok (.iconst 1, 1) := by decide +kernel
theorem dX3_refresh_88 : decode cX3_refresh 88 = .ok (.iload_n 3, 1) := by decide +kernel
theorem dX3_refresh_89 : decode cX3_refresh 89 = .ok (.ishl, 1) := by decide +kernel
theorem dX3_refresh_90 : decode cX3_refresh 90 = .ok (.goto 4, 3) := by decide +kernel
theorem dX3_refresh_93 : decode cX3_refresh 93 = .ok (.iconst 0, 1) := by decide +kernel
theorem dX3_refresh_94 : decode cX3_refresh 94 = .ok (.ior, 1) := by decide +kernel
theorem dX3_refresh_95 : decode cX3_refresh 95 = .ok (.iastore, 1) := by decide +kernel
theorem dX3_refresh_96 : decode cX3_refresh 96 = .ok (.aload_n 0, 1) := by decide +kernel
theorem dX3_refresh_97 : decode cX3_refresh 97 = .ok (.getfield 15, 3) := by decide +kernel
theorem dX3_refresh_100 : decode cX3_refresh 100 = .ok (.iload_n 1, 1) := by decide +kernel
theorem dX3_refresh_101 : decode cX3_refresh 101 = .ok (.bipush 10, 2) := by decide +kernel
theorem dX3_refresh_103 : decode cX3_refresh 103 = .ok (.imul, 1) := by decide +kernel
theorem dX3_refresh_104 : decode cX3_refresh 104 = .ok (.iload_n 3, 1) := by decide +kernel
theorem dX3_refresh_105 : decode cX3_refresh 105 = .ok (.iadd, 1) := by decide +kernel
theorem dX3_refresh_106 : decode cX3_refresh 106 = .ok (.aload_n 2, 1) := by decide +kernel
theorem dX3_refresh_107 : decode cX3_refresh 107 = .ok (.getfield 68, 3) := by decide +kernel
theorem dX3_refresh_110 : decode cX3_refresh 110 = .ok (.iconst 1, 1) := by decide +kernel
theorem dX3_refresh_111 : decode cX3_refresh 111 = .ok (.if_icmp .ne 16, 3) := by decide +kernel
theorem dX3_refresh_114 : decode cX3_refresh 114 = .ok (.aload_n 0, 1) := by decide +kernel
theorem dX3_refresh_115 : decode cX3_refresh 115 = .ok (.getfield 28, 3) := by decide +kernel
theorem dX3_refresh_118 : decode cX3_refresh 118 = .ok (.iload 4, 2) := by decide +kernel
theorem dX3_refresh_120 : decode cX3_refresh 120 = .ok (.aload_n 2, 1) := by decide +kernel
theorem dX3_refresh_121 : decode cX3_refresh 121 = .ok (.invokevirtual 73, 3) := by decide +kernel
theorem dX3_refresh_124 : decode cX3_refresh 124 = .ok (.goto 4, 3) := by decide +kernel
theorem dX3_refresh_127 : decode cX3_refresh 127 = .ok (.iconst 0, 1) := by decide +kernel
theorem dX3_refresh_128 : decode cX3_refresh 128 = .ok (.iastore, 1) := by decide +kernel
theorem dX3_refresh_129 : decode cX3_refresh 129 = .ok (.iinc 3 1, 3) := by decide +kernel
theorem dX3_refresh_132 : decode cX3_refresh 132 = .ok (.goto (-87), 3) := by decide +kernel
theorem dX3_refresh_135 : decode cX3_refresh 135 = .ok (.iinc 1 1, 3) := by decide +kernel
theorem dX3_refresh_138 : decode cX3_refresh 138 = .ok (.goto (-123), 3) := by decide +kernel
theorem dX3_refresh_141 : decode cX3_refresh 141 = .ok (.aload_n 0, 1) := by decide +kernel
theorem dX3_refresh_142 : decode cX3_refresh 142 = .ok (.aload_n 0, 1) := by decide +kernel
theorem dX3_refresh_143 : decode cX3_refresh 143 = .ok (.invokevirtual 76, 3) := by decide +kernel
theorem dX3_refresh_146 : decode cX3_refresh 146 = .ok (.putfield 80, 3) := by decide +kernel
theorem dX3_refresh_149 : decode cX3_refresh 149 = .ok (.aload_n 0, 1) := by decide +kernel
theorem dX3_refresh_150 : decode cX3_refresh 150 = .ok (.getfield 80, 3) := by decide +kernel
theorem dX3_refresh_153 : decode cX3_refresh 153 = .ok (.ifCond .lt 11, 3) := by decide +kernel
theorem dX3_refresh_156 : decode cX3_refresh 156 = .ok (.aload_n 0, 1) := by decide +kernel
theorem dX3_refresh_157 : decode cX3_refresh 157 = .ok (.invokevirtual 83, 3) := by decide +kernel
theorem dX3_refresh_160 : decode cX3_refresh 160 = .ok (.aload_n 0, 1) := by decide +kernel
theorem dX3_refresh_161 : decode cX3_refresh 161 = .ok (.invokevirtual 86, 3) := by decide +kernel
theorem dX3_refresh_164 : decode cX3_refresh 164 = .ok (.return_, 1) := by decide +kernel
theorem dX3_search_0 : decode cX3_search 0 = .ok (.iconst 1, 1) := by decide +kernel
theorem dX3_search_1 : decode cX3_search 1 = .ok (.aload_n 0, 1) := by decide +kernel
theorem dX3_search_2 : decode cX3_search 2 = .ok (.getfield 32, 3) := by decide +kernel
theorem dX3_search_5 : decode cX3_search 5 = .ok (.getfield 54, 3) := by decide +kernel
theorem dX3_search_8 : decode cX3_search 8 = .ok (.ishl, 1) := by decide +kernel
theorem dX3_search_9 : decode cX3_search 9 = .ok (.iconst 1, 1) := by decide +kernel
theorem dX3_search_10 : decode cX3_search 10 = .ok (.isub, 1) := by decide +kernel
theorem dX3_search_11 : decode cX3_search 11 = .ok (.istore_n 1, 1) := by decide +kernel
theorem dX3_search_12 : decode cX3_search 12 = .ok (.aload_n 0, 1) := by decide +kernel
theorem dX3_search_13 : decode cX3_search 13 = .ok (.iload_n 1, 1) := by decide +kernel
theorem dX3_search_14 : decode cX3_search 14 = .ok (.invokevirtual 89, 3) := by decide +kernel
theorem dX3_search_17 : decode cX3_search 17 = .ok (.ifCond .ne 6, 3) := by decide +kernel
theorem dX3_search_20 : decode cX3_search 20 = .ok (.bipush (-5), 2) := by decide +kernel
theorem dX3_search_22 : decode cX3_search 22 = .ok (.ireturn, 1) := by decide +kernel
theorem dX3_search_23 : decode cX3_search 23 = .ok (.iconst 0, 1) := by decide +kernel
theorem dX3_search_24 : decode cX3_search 24 = .ok (.istore_n 2, 1) := by decide +kernel
theorem dX3_search_25 : decode cX3_search 25 = .ok (.iload_n 2, 1) := by decide +kernel
theorem dX3_search_26 : decode cX3_search 26 = .ok (.aload_n 0, 1) := by decide +kernel
theorem dX3_search_27 : decode cX3_search 27 = .ok (.getfield 32, 3) := by decide +kernel
theorem dX3_search_30 : decode cX3_search 30 = .ok (.getfield 54, 3) := by decide +kernel
theorem dX3_search_33 : decode cX3_search 33 = .ok (.if_icmp .gt 45, 3) := by decide +kernel
theorem dX3_search_36 : decode cX3_search 36 = .ok (.iconst 0, 1) := by decide +kernel
theorem dX3_search_37 : decode cX3_search 37 = .ok (.istore_n 3, 1) := by decide +kernel
theorem dX3_search_38 : decode cX3_search 38 = .ok (.iload_n 3, 1) := by decide +kernel
theorem dX3_search_39 : decode cX3_search 39 = .ok (.iload_n 1, 1) := by decide +kernel
theorem dX3_search_40 : decode cX3_search 40 = .ok (.if_icmp .gt 32, 3) := by decide +kernel
theorem dX3_search_43 : decode cX3_search 43 = .ok (.iload_n 3, 1) := by decide +kernel
theorem dX3_search_44 : decode cX3_search 44 = .ok (.invokestatic 93, 3) := by decide +kernel
theorem dX3_search_47 : decode cX3_search 47 = .ok (.iload_n 2, 1) := by decide +kernel
theorem dX3_search_48 : decode cX3_search 48 = .ok (.if_icmp .ne 18, 3) := by decide +kernel
theorem dX3_search_51 : decode cX3_search 51 = .ok (.aload_n 0, 1) := by decide +kernel
theorem dX3_search_52 : decode cX3_search 52 = .ok (.iload_n 3, 1) := by decide +kernel
theorem dX3_search_53 : decode cX3_search 53 = .ok (.invokevirtual 89, 3) := by decide +kernel
theorem dX3_search_56 : decode cX3_search 56 = .ok (.ifCond .eq 10, 3) := by decide +kernel
theorem dX3_search_59 : decode cX3_search 59 = .ok (.aload_n 0, 1) := by decide +kernel
theorem dX3_search_60 : decode cX3_search 60 = .ok (.iload_n 3, 1) := by decide +kernel
theorem dX3_search_61 : decode cX3_search 61 = .ok (.putfield 99, 3) := by decide +kernel
theorem dX3_search_64 : decode cX3_search 64 = .ok (.iload_n 2, 1) := by decide +kernel
theorem dX3_search_65 : decode cX3_search 65 = .ok (.ireturn, 1) := by decide +kernel
theorem dX3_search_66 : decode cX3_search 66 = .ok (.iinc 3 1, 3) := by decide +kernel
theorem dX3_search_69 : decode cX3_search 69 = .ok (.goto (-31), 3) := by decide +kernel
theorem dX3_search_72 : decode cX3_search 72 = .ok (.iinc 2 1, 3) := by decide +kernel
theorem dX3_search_75 : decode cX3_search 75 = .ok (.goto (-50), 3) := by decide +kernel
theorem dX3_search_78 : decode cX3_search 78 = .ok (.bipush (-5), 2) := by decide +kernel
theorem dX3_search_80 : decode cX3_search 80 = .ok (.ireturn, 1) := by decide +kernel
theorem dX3_canFilm_0 : decode cX3_canFilm 0 = .ok (.aload_n 0, 1) := by decide +kernel
theorem dX3_canFilm_1 : decode cX3_canFilm 1 = .ok (.getfield 36, 3) := by decide +kernel
theorem dX3_canFilm_4 : decode cX3_canFilm 4 = .ok (.getfield 44, 3) := by decide +kernel
theorem dX3_canFilm_7 : decode cX3_canFilm 7 = .ok (.iconst 3, 1) := by decide +kernel
theorem dX3_canFilm_8 : decode cX3_canFilm 8 = .ok (.imul, 1) := by decide +kernel
theorem dX3_canFilm_9 : decode cX3_canFilm 9 = .ok (.istore_n 2, 1) := by decide +kernel
theorem dX3_canFilm_10 : decode cX3_canFilm 10 = .ok (.aload_n 0, 1) := by decide +kernel
theorem dX3_canFilm_11 : decode cX3_canFilm 11 = .ok (.getfield 18, 3) := by decide +kernel
theorem dX3_canFilm_14 : decode cX3_canFilm 14 = .ok (.iload_n 2, 1) := by decide +kernel
theorem dX3_canFilm_15 : decode cX3_canFilm 15 = .ok (.iconst 1, 1) := by decide +kernel
theorem dX3_canFilm_16 : decode cX3_canFilm 16 = .ok (.bastore, 1) := by decide +kernel
theorem dX3_canFilm_17 : decode cX3_canFilm 17 = .ok (.aload_n 0, 1) := by decide +kernel
theorem dX3_canFilm_18 : decode cX3_canFilm 18 = .ok (.getfield 18, 3) := by decide +kernel
theorem dX3_canFilm_21 : decode cX3_canFilm 21 = .ok (.iload_n 2, 1) := by decide +kernel
theorem dX3_canFilm_22 : decode cX3_canFilm 22 = .ok (.iconst 1, 1) := by decide +kernel
theorem dX3_canFilm_23 : decode cX3_canFilm 23 = .ok (.iadd, 1) := by decide +kernel
theorem dX3_canFilm_24 : decode cX3_canFilm 24 = .ok (.iconst 1, 1) := by decide +kernel
theorem dX3_canFilm_25 : decode cX3_canFilm 25 = .ok (.bastore, 1) := by decide +kernel
theorem dX3_canFilm_26 : decode cX3_canFilm 26 = .ok (.aload_n 0, 1) := by decide +kernel
theorem dX3_canFilm_27 : decode cX3_canFilm 27 = .ok (.getfield 18, 3) := by decide +kernel
theorem dX3_canFilm_30 : decode cX3_canFilm 30 = .ok (.iload_n 2, 1) := by decide +kernel
theorem dX3_canFilm_31 : decode cX3_canFilm 31 = .ok (.iconst 2, 1) := by decide +kernel
theorem dX3_canFilm_32 : decode cX3_canFilm 32 = .ok (.iadd, 1) := by decide +kernel
theorem dX3_canFilm_33 : decode cX3_canFilm 33 = .ok (.iconst 1, 1) := by decide +kernel
theorem dX3_canFilm_34 : decode cX3_canFilm 34 = .ok (.bastore, 1) := by decide +kernel
theorem dX3_canFilm_35 : decode cX3_canFilm 35 = .ok (.aload_n 0, 1) := by decide +kernel
theorem dX3_canFilm_36 : decode cX3_canFilm 36 = .ok (.getfield 36, 3) := by decide +kernel
theorem dX3_canFilm_39 : decode cX3_canFilm 39 = .ok (.getfield 44, 3) := by decide +kernel
theorem dX3_canFilm_42 : decode cX3_canFilm 42 = .ok (.iconst 1, 1) := by decide +kernel
theorem dX3_canFilm_43 : decode cX3_canFilm 43 = .ok (.isub, 1) := by decide +kernel
theorem dX3_canFilm_44 : decode cX3_canFilm 44 = .ok (.istore_n 3, 1) := by decide +kernel
theorem dX3_canFilm_45 : decode cX3_canFilm 45 = .ok (.iload_n 3, 1) := by decide +kernel
theorem dX3_canFilm_46 : decode cX3_canFilm 46 = .ok (.ifCond .lt 53, 3) := by decide +kernel
theorem dX3_canFilm_49 : decode cX3_canFilm 49 = .ok (.iconst (-1), 1) := by decide +kernel
theorem dX3_canFilm_50 : decode cX3_canFilm 50 = .ok (.istore 4, 2) := by decide +kernel
theorem dX3_canFilm_52 : decode cX3_canFilm 52 = .ok (.iload 4, 2) := by decide +kernel
theorem dX3_canFilm_54 : decode cX3_canFilm 54 = .ok (.iconst 1, 1) := by decide +kernel
theorem dX3_canFilm_55 : decode cX3_canFilm 55 = .ok (.if_icmp .gt 38, 3) := by decide +kernel
theorem dX3_canFilm_58 : decode cX3_canFilm 58 = .ok (.aload_n 0, 1) := by decide +kernel
theorem dX3_canFilm_59 : decode cX3_canFilm 59 = .ok (.getfield 18, 3) := by decide +kernel
theorem dX3_canFilm_62 : decode cX3_canFilm 62 = .ok (.iload_n 3, 1) := by decide +kernel
theorem dX3_canFilm_63 : decode cX3_canFilm 63 = .ok (.iconst 3, 1) := by decide +kernel
theorem dX3_canFilm_64 : decode cX3_canFilm 64 = .ok (.imul, 1) := by decide +kernel
theorem dX3_canFilm_65 : decode cX3_canFilm 65 = .ok (.iload 4, 2) := by decide +kernel
theorem dX3_canFilm_67 : decode cX3_canFilm 67 = .ok (.iadd, 1) := by decide +kernel
theorem dX3_canFilm_68 : decode cX3_canFilm 68 = .ok (.iconst 1, 1) := by decide +kernel
theorem dX3_canFilm_69 : decode cX3_canFilm 69 = .ok (.iadd, 1) := by decide +kernel
theorem dX3_canFilm_70 : decode cX3_canFilm 70 = .ok (.aload_n 0, 1) := by decide +kernel
theorem dX3_canFilm_71 : decode cX3_canFilm 71 = .ok (.iload_n 3, 1) := by decide +kernel
theorem dX3_canFilm_72 : decode cX3_canFilm 72 = .ok (.iload 4, 2) := by decide +kernel
theorem dX3_canFilm_74 : decode cX3_canFilm 74 = .ok (.iload_n 1, 1) := by decide +kernel
theorem dX3_canFilm_75 : decode cX3_canFilm 75 = .ok (.invokevirtual 102, 3) := by decide +kernel
theorem dX3_canFilm_78 : decode cX3_canFilm 78 = .ok (.ifCond .lt 7, 3) := by decide +kernel
theorem dX3_canFilm_81 : decode cX3_canFilm 81 = .ok (.iconst 1, 1) := by decide +kernel
theorem dX3_canFilm_82 : decode cX3_canFilm 82 = .ok (.goto 4, 3) := by decide +kernel
theorem dX3_canFilm_85 : decode cX3_canFilm 85 = .ok (.iconst 0, 1) := by decide +kernel
theorem dX3_canFilm_86 : decode cX3_canFilm 86 = .ok (.bastore, 1) := by decide +kernel
theorem dX3_canFilm_87 : decode cX3_canFilm 87 = .ok (.iinc 4 1, 3) := by decide +kernel
theorem dX3_canFilm_90 : decode cX3_canFilm 90 = .ok (.goto (-38), 3) := by decide +kernel
theorem dX3_canFilm_93 : decode cX3_canFilm 93 = .ok (.iinc 3 (-1), 3) := by decide +kernel
theorem dX3_canFilm_96 : decode cX3_canFilm 96 = .ok (.goto (-51), 3) := by decide +kernel
theorem dX3_canFilm_99 : decode cX3_canFilm 99 = .ok (.aload_n 0, 1) := by decide +kernel
theorem dX3_canFilm_100 : decode cX3_canFilm 100 = .ok (.getfield 18, 3) := by decide +kernel
theorem dX3_canFilm_103 : decode cX3_canFilm 103 = .ok (.iconst 1, 1) := by decide +kernel
theorem dX3_canFilm_104 : decode cX3_canFilm 104 = .ok (.baload, 1) := by decide +kernel
theorem dX3_canFilm_105 : decode cX3_canFilm 105 = .ok (.ireturn, 1) := by decide +kernel
theorem dX3_firstFor_0 : decode cX3_firstFor 0 = .ok (.iconst 0, 1) := by decide +kernel
theorem dX3_firstFor_1 : decode cX3_firstFor 1 = .ok (.istore 4, 2) := by decide +kernel
theorem dX3_firstFor_3 : decode cX3_firstFor 3 = .ok (.iload 4, 2) := by decide +kernel
theorem dX3_firstFor_5 : decode cX3_firstFor 5 = .ok (.aload_n 0, 1) := by decide +kernel
theorem dX3_firstFor_6 : decode cX3_firstFor 6 = .ok (.getfield 32, 3) := by decide +kernel
theorem dX3_firstFor_9 : decode cX3_firstFor 9 = .ok (.getfield 54, 3) := by decide +kernel
theorem dX3_firstFor_12 : decode cX3_firstFor 12 = .ok (.if_icmp .ge 39, 3) := by decide +kernel
theorem dX3_firstFor_15 : decode cX3_firstFor 15 = .ok (.iload_n 3, 1) := by decide +kernel
theorem dX3_firstFor_16 : decode cX3_firstFor 16 = .ok (.aload_n 0, 1) := by decide +kernel
theorem dX3_firstFor_17 : decode cX3_firstFor 17 = .ok (.getfield 9, 3) := by decide +kernel
theorem dX3_firstFor_20 : decode cX3_firstFor 20 = .ok (.iload_n 1, 1) := by decide +kernel
theorem dX3_firstFor_21 : decode cX3_firstFor 21 = .ok (.iaload, 1) := by decide +kernel
theorem dX3_firstFor_22 : decode cX3_firstFor 22 = .ok (.iand, 1) := by decide +kernel
theorem dX3_firstFor_23 : decode cX3_firstFor 23 = .ok (.iconst 1, 1) := by decide +kernel
theorem dX3_firstFor_24 : decode cX3_firstFor 24 = .ok (.iload 4, 2) := by decide +kernel
theorem dX3_firstFor_26 : decode cX3_firstFor 26 = .ok (.ishl, 1) := by decide +kernel
theorem dX3_firstFor_27 : decode cX3_firstFor 27 = .ok (.iand, 1) := by decide +kernel
theorem dX3_firstFor_28 : decode cX3_firstFor 28 = .ok (.ifCond .eq 17, 3) := by decide +kernel
theorem dX3_firstFor_31 : decode cX3_firstFor 31 = .ok (.aload_n 0, 1) := by decide +kernel
theorem dX3_firstFor_32 : decode cX3_firstFor 32 = .ok (.iload_n 1, 1) := by decide +kernel
theorem dX3_firstFor_33 : decode cX3_firstFor 33 = .ok (.iload_n 2, 1) := by decide +kernel
theorem dX3_firstFor_34 : decode cX3_firstFor 34 = .ok (.iload 4, 2) := by decide +kernel
theorem dX3_firstFor_36 : decode cX3_firstFor 36 = .ok (.invokevirtual 106, 3) := by decide +kernel
theorem dX3_firstFor_39 : decode cX3_firstFor 39 = .ok (.ifCond .eq 6, 3) := by decide +kernel
theorem dX3_firstFor_42 : decode cX3_firstFor 42 = .ok (.iload 4, 2) := by decide +kernel
theorem dX3_firstFor_44 : decode cX3_firstFor 44 = .ok (.ireturn, 1) := by decide +kernel
theorem dX3_firstFor_45 : decode cX3_firstFor 45 = .ok (.iinc 4 1, 3) := by decide +kernel
theorem dX3_firstFor_48 : decode cX3_firstFor 48 = .ok (.goto (-45), 3) := by decide +kernel
theorem dX3_firstFor_51 : decode cX3_firstFor 51 = .ok (.iconst (-1), 1) := by decide +kernel
theorem dX3_firstFor_52 : decode cX3_firstFor 52 = .ok (.ireturn, 1) := by decide +kernel
theorem dX3_fits_0 : decode cX3_fits 0 = .ok (.aload_n 0, 1) := by decide +kernel
theorem dX3_fits_1 : decode cX3_fits 1 = .ok (.getfield 15, 3) := by decide +kernel
theorem dX3_fits_4 : decode cX3_fits 4 = .ok (.iload_n 1, 1) := by decide +kernel
theorem dX3_fits_5 : decode cX3_fits 5 = .ok (.bipush 10, 2) := by decide +kernel
theorem dX3_fits_7 : decode cX3_fits 7 = .ok (.imul, 1) := by decide +kernel
theorem dX3_fits_8 : decode cX3_fits 8 = .ok (.iload_n 3, 1) := by decide +kernel
theorem dX3_fits_9 : decode cX3_fits 9 = .ok (.iadd, 1) := by decide +kernel
theorem dX3_fits_10 : decode cX3_fits 10 = .ok (.iaload, 1) := by decide +kernel
theorem dX3_fits_11 : decode cX3_fits 11 = .ok (.istore 4, 2) := by decide +kernel
theorem dX3_fits_13 : decode cX3_fits 13 = .ok (.aload_n 0, 1) := by decide +kernel
theorem dX3_fits_14 : decode cX3_fits 14 = .ok (.getfield 36, 3) := by decide +kernel
theorem dX3_fits_17 : decode cX3_fits 17 = .ok (.getfield 50, 3) := by decide +kernel
theorem dX3_fits_20 : decode cX3_fits 20 = .ok (.iload_n 1, 1) := by decide +kernel
theorem dX3_fits_21 : decode cX3_fits 21 = .ok (.aaload, 1) := by decide +kernel
theorem dX3_fits_22 : decode cX3_fits 22 = .ok (.getfield 110, 3) := by decide +kernel
theorem dX3_fits_25 : decode cX3_fits 25 = .ok (.ifCond .eq 14, 3) := by decide +kernel
theorem dX3_fits_28 : decode cX3_fits 28 = .ok (.iload_n 2, 1) := by decide +kernel
theorem dX3_fits_29 : decode cX3_fits 29 = .ok (.iload 4, 2) := by decide +kernel
theorem dX3_fits_31 : decode cX3_fits 31 = .ok (.imul, 1) := by decide +kernel
theorem dX3_fits_32 : decode cX3_fits 32 = .ok (.ifCond .ge 7, 3) := by decide +kernel
theorem dX3_fits_35 : decode cX3_fits 35 = .ok (.iconst 1, 1) := by decide +kernel
theorem dX3_fits_36 : decode cX3_fits 36 = .ok (.goto 4, 3) := by decide +kernel
theorem dX3_fits_39 : decode cX3_fits 39 = .ok (.iconst 0, 1) := by decide +kernel
theorem dX3_fits_40 : decode cX3_fits 40 = .ok (.istore 5, 2) := by decide +kernel
theorem dX3_fits_42 : decode cX3_fits 42 = .ok (.iload 5, 2) := by decide +kernel
theorem dX3_fits_44 : decode cX3_fits 44 = .ok (.ifCond .ne 30, 3) := by decide +kernel
theorem dX3_fits_47 : decode cX3_fits 47 = .ok (.aload_n 0, 1) := by decide +kernel
theorem dX3_fits_48 : decode cX3_fits 48 = .ok (.getfield 18, 3) := by decide +kernel
theorem dX3_fits_51 : decode cX3_fits 51 = .ok (.iload_n 1, 1) := by decide +kernel
theorem dX3_fits_52 : decode cX3_fits 52 = .ok (.iconst 1, 1) := by decide +kernel
theorem dX3_fits_53 : decode cX3_fits 53 = .ok (.iadd, 1) := by decide +kernel
theorem dX3_fits_54 : decode cX3_fits 54 = .ok (.iconst 3, 1) := by decide +kernel
theorem dX3_fits_55 : decode cX3_fits 55 = .ok (.imul, 1) := by decide +kernel
theorem dX3_fits_56 : decode cX3_fits 56 = .ok (.iconst 1, 1) := by decide +kernel
theorem dX3_fits_57 : decode cX3_fits 57 = .ok (.iadd, 1) := by decide +kernel
theorem dX3_fits_58 : decode cX3_fits 58 = .ok (.aload_n 0, 1) := by decide +kernel
theorem dX3_fits_59 : decode cX3_fits 59 = .ok (.iload_n 1, 1) := by decide +kernel
theorem dX3_fits_60 : decode cX3_fits 60 = .ok (.iload_n 2, 1) := by decide +kernel
theorem dX3_fits_61 : decode cX3_fits 61 = .ok (.iload_n 3, 1) := by decide +kernel
theorem dX3_fits_62 : decode cX3_fits 62 = .ok (.invokevirtual 113, 3) := by decide +kernel
theorem dX3_fits_65 : decode cX3_fits 65 = .ok (.iadd, 1) := by decide +kernel
theorem dX3_fits_66 : decode cX3_fits 66 = .ok (.baload, 1) := by decide +kernel
theorem dX3_fits_67 : decode cX3_fits 67 = .ok (.ifCond .eq 7, 3) := by decide +kernel
theorem dX3_fits_70 : decode cX3_fits 70 = .ok (.iconst 1, 1) := by decide +kernel
theorem dX3_fits_71 : decode cX3_fits 71 = .ok (.goto 4, 3) := by decide +kernel
theorem dX3_fits_74 : decode cX3_fits 74 = .ok (.iconst 0, 1) := by decide +kernel
theorem dX3_fits_75 : decode cX3_fits 75 = .ok (.ireturn, 1) := by decide +kernel
theorem dX3_sideAfter_0 : decode cX3_sideAfter 0 = .ok (.aload_n 0, 1) := by decide +kernel
theorem dX3_sideAfter_1 : decode cX3_sideAfter 1 = .ok (.getfield 36, 3) := by decide +kernel
theorem dX3_sideAfter_4 : decode cX3_sideAfter 4 = .ok (.getfield 50, 3) := by decide +kernel
theorem dX3_sideAfter_7 : decode cX3_sideAfter 7 = .ok (.iload_n 1, 1) := by decide +kernel
theorem dX3_sideAfter_8 : decode cX3_sideAfter 8 = .ok (.aaload, 1) := by decide +kernel
theorem dX3_sideAfter_9 : decode cX3_sideAfter 9 = .ok (.getfield 68, 3) := by decide +kernel
theorem dX3_sideAfter_12 : decode cX3_sideAfter 12 = .ok (.iconst 1, 1) := by decide +kernel
theorem dX3_sideAfter_13 : decode cX3_sideAfter 13 = .ok (.if_icmp .ne 17, 3) := by decide +kernel
theorem dX3_sideAfter_16 : decode cX3_sideAfter 16 = .ok (.aload_n 0, 1) := by decide +kernel
theorem dX3_sideAfter_17 : decode cX3_sideAfter 17 = .ok (.getfield 15, 3) := by decide +kernel
theorem dX3_sideAfter_20 : decode cX3_sideAfter 20 = .ok (.iload_n 1, 1) := by decide +kernel
theorem dX3_sideAfter_21 : decode cX3_sideAfter 21 = .ok (.bipush 10, 2) := by decide +kernel
theorem dX3_sideAfter_23 : decode cX3_sideAfter 23 = .ok (.imul, 1) := by decide +kernel
theorem dX3_sideAfter_24 : decode cX3_sideAfter 24 = .ok (.iload_n 3, 1) := by decide +kernel
theorem dX3_sideAfter_25 : decode cX3_sideAfter 25 = .ok (.iadd, 1) := by decide +kernel
theorem dX3_sideAfter_26 : decode cX3_sideAfter 26 = .ok (.iaload, 1) := by decide +kernel
theorem dX3_sideAfter_27 : decode cX3_sideAfter 27 = .ok (.goto 4, 3) := by decide +kernel
theorem dX3_sideAfter_30 : decode cX3_sideAfter 30 = .ok (.iload_n 2, 1) := by decide +kernel
theorem dX3_sideAfter_31 : decode cX3_sideAfter 31 = .ok (.ireturn, 1) := by decide +kernel
theorem dX3_writeRow_0 : decode cX3_writeRow 0 = .ok (.iconst 0, 1) := by decide +kernel
theorem dX3_writeRow_1 : decode cX3_writeRow 1 = .ok (.istore_n 1, 1) := by decide +kernel
theorem dX3_writeRow_2 : decode cX3_writeRow 2 = .ok (.iconst 0, 1) := by decide +kernel
theorem dX3_writeRow_3 : decode cX3_writeRow 3 = .ok (.istore_n 2, 1) := by decide +kernel
theorem dX3_writeRow_4 : decode cX3_writeRow 4 = .ok (.iload_n 2, 1) := by decide +kernel
theorem dX3_writeRow_5 : decode cX3_writeRow 5 = .ok (.aload_n 0, 1) := by decide +kernel
theorem dX3_writeRow_6 : decode cX3_writeRow 6 = .ok (.getfield 36, 3) := by decide +kernel
theorem dX3_writeRow_9 : decode cX3_writeRow 9 = .ok (.getfield 44, 3) := by decide +kernel
theorem dX3_writeRow_12 : decode cX3_writeRow 12 = .ok (.if_icmp .ge 39, 3) := by decide +kernel
theorem dX3_writeRow_15 : decode cX3_writeRow 15 = .ok (.iconst 0, 1) := by decide +kernel
theorem dX3_writeRow_16 : decode cX3_writeRow 16 = .ok (.aload_n 0, 1) := by decide +kernel
theorem dX3_writeRow_17 : decode cX3_writeRow 17 = .ok (.iload_n 2, 1) := by decide +kernel
theorem dX3_writeRow_18 : decode cX3_writeRow 18 = .ok (.iload_n 1, 1) := by decide +kernel
theorem dX3_writeRow_19 : decode cX3_writeRow 19 = .ok (.aload_n 0, 1) := by decide +kernel
theorem dX3_writeRow_20 : decode cX3_writeRow 20 = .ok (.getfield 99, 3) := by decide +kernel
theorem dX3_writeRow_23 : decode cX3_writeRow 23 = .ok (.invokevirtual 102, 3) := by decide +kernel
theorem dX3_writeRow_26 : decode cX3_writeRow 26 = .ok (.invokestatic 116, 3) := by decide +kernel
theorem dX3_writeRow_29 : decode cX3_writeRow 29 = .ok (.istore_n 3, 1) := by decide +kernel
theorem dX3_writeRow_30 : decode cX3_writeRow 30 = .ok (.aload_n 0, 1) := by decide +kernel
theorem dX3_writeRow_31 : decode cX3_writeRow 31 = .ok (.getfield 22, 3) := by decide +kernel
theorem dX3_writeRow_34 : decode cX3_writeRow 34 = .ok (.iload_n 2, 1) := by decide +kernel
theorem dX3_writeRow_35 : decode cX3_writeRow 35 = .ok (.iload_n 3, 1) := by decide +kernel
theorem dX3_writeRow_36 : decode cX3_writeRow 36 = .ok (.iastore, 1) := by decide +kernel
theorem dX3_writeRow_37 : decode cX3_writeRow 37 = .ok (.aload_n 0, 1) := by decide +kernel
theorem dX3_writeRow_38 : decode cX3_writeRow 38 = .ok (.iload_n 2, 1) := by decide +kernel
theorem dX3_writeRow_39 : decode cX3_writeRow 39 = .ok (.iload_n 1, 1) := by decide +kernel
theorem dX3_writeRow_40 : decode cX3_writeRow 40 = .ok (.iload_n 3, 1) := by decide +kernel
theorem dX3_writeRow_41 : decode cX3_writeRow 41 = .ok (.invokevirtual 113, 3) := by decide +kernel
theorem dX3_writeRow_44 : decode cX3_writeRow 44 = .ok (.istore_n 1, 1) := by decide +kernel
theorem dX3_writeRow_45 : decode cX3_writeRow 45 = .ok (.iinc 2 1, 3) := by decide +kernel
theorem dX3_writeRow_48 : decode cX3_writeRow 48 = .ok (.goto (-44), 3) := by decide +kernel
theorem dX3_writeRow_51 : decode cX3_writeRow 51 = .ok (.return_, 1) := by decide +kernel
theorem dX3_writeSequence_0 : decode cX3_writeSequence 0 = .ok (.aload_n 0, 1) := by decide +kernel
theorem dX3_writeSequence_1 : decode cX3_writeSequence 1 = .ok (.getfield 99, 3) := by decide +kernel
theorem dX3_writeSequence_4 : decode cX3_writeSequence 4 = .ok (.istore_n 1, 1) := by decide +kernel
theorem dX3_writeSequence_5 : decode cX3_writeSequence 5 = .ok (.iconst (-1), 1) := by decide +kernel
theorem dX3_writeSequence_6 : decode cX3_writeSequence 6 = .ok (.istore_n 2, 1) := by decide +kernel
theorem dX3_writeSequence_7 : decode cX3_writeSequence 7 = .ok (.iconst 0, 1) := by decide +kernel
theorem dX3_writeSequence_8 : decode cX3_writeSequence 8 = .ok (.istore_n 3, 1) := by decide +kernel
theorem dX3_writeSequence_9 : decode cX3_writeSequence 9 = .ok (.iload_n 3, 1) := by decide +kernel
theorem dX3_writeSequence_10 : decode cX3_writeSequence 10 = .ok (.aload_n 0, 1) := by decide +kernel
theorem dX3_writeSequence_11 : decode cX3_writeSequence 11 = .ok (.getfield 80, 3) := by decide +kernel
theorem dX3_writeSequence_14 : decode cX3_writeSequence 14 = .ok (.if_icmp .ge 62, 3) := by decide +kernel
theorem dX3_writeSequence_17 : decode cX3_writeSequence 17 = .ok (.aload_n 0, 1) := by decide +kernel
theorem dX3_writeSequence_18 : decode cX3_writeSequence 18 = .ok (.iload_n 1, 1) := by decide +kernel
theorem dX3_writeSequence_19 : decode cX3_writeSequence 19 = .ok (.iload_n 2, 1) := by decide +kernel
theorem dX3_writeSequence_20 : decode cX3_writeSequence 20 = .ok (.invokevirtual 122, 3) := by decide +kernel
theorem dX3_writeSequence_23 : decode cX3_writeSequence 23 = .ok (.istore 4, 2) := by decide +kernel
theorem dX3_writeSequence_25 : decode cX3_writeSequence 25 = .ok (.iload 4, 2) := by decide +kernel
theorem dX3_writeSequence_27 : decode cX3_writeSequence 27 = .ok (.ifCond .ge 15, 3) := by decide +kernel
theorem dX3_writeSequence_30 : decode cX3_writeSequence 30 = .ok (.iconst 0, 1) := by decide +kernel
theorem dX3_writeSequence_31 : decode cX3_writeSequence 31 = .ok (.aload_n 0, 1) := by decide +kernel
theorem dX3_writeSequence_32 : decode cX3_writeSequence 32 = .ok (.iload_n 1, 1) := by decide +kernel
theorem dX3_writeSequence_33 : decode cX3_writeSequence 33 = .ok (.iconst (-1), 1) := by decide +kernel
theorem dX3_writeSequence_34 : decode cX3_writeSequence 34 = .ok (.invokevirtual 122, 3) := by decide +kernel
theorem dX3_writeSequence_37 : decode cX3_writeSequence 37 = .ok (.invokestatic 116, 3) := by decide +kernel
theorem dX3_writeSequence_40 : decode cX3_writeSequence 40 = .ok (.istore 4, 2) := by decide +kernel
theorem dX3_writeSequence_42 : decode cX3_writeSequence 42 = .ok (.aload_n 0, 1) := by decide +kernel
theorem dX3_writeSequence_43 : decode cX3_writeSequence 43 = .ok (.getfield 25, 3) := by decide +kernel
theorem dX3_writeSequence_46 : decode cX3_writeSequence 46 = .ok (.iload_n 3, 1) := by decide +kernel
theorem dX3_writeSequence_47 : decode cX3_writeSequence 47 = .ok (.iload 4, 2) := by decide +kernel
theorem dX3_writeSequence_49 : decode cX3_writeSequence 49 = .ok (.iastore, 1) := by decide +kernel
theorem dX3_writeSequence_50 : decode cX3_writeSequence 50 = .ok (.aload_n 0, 1) := by decide +kernel
theorem dX3_writeSequence_51 : decode cX3_writeSequence 51 = .ok (.getfield 32, 3) := by decide +kernel
theorem dX3_writeSequence_54 : decode cX3_writeSequence 54 = .ok (.getfield 125, 3) := by decide +kernel
theorem dX3_writeSequence_57 : decode cX3_writeSequence 57 = .ok (.iload 4, 2) := by decide +kernel
theorem dX3_writeSequence_59 : decode cX3_writeSequence 59 = .ok (.iaload, 1) := by decide +kernel
theorem dX3_writeSequence_60 : decode cX3_writeSequence 60 = .ok (.istore_n 2, 1) := by decide +kernel
theorem dX3_writeSequence_61 : decode cX3_writeSequence 61 = .ok (.iload_n 1, 1) := by decide +kernel
theorem dX3_writeSequence_62 : decode cX3_writeSequence 62 = .ok (.iconst 1, 1) := by decide +kernel
theorem dX3_writeSequence_63 : decode cX3_writeSequence 63 = .ok (.iload 4, 2) := by decide +kernel
theorem dX3_writeSequence_65 : decode cX3_writeSequence 65 = .ok (.ishl, 1) := by decide +kernel
theorem dX3_writeSequence_66 : decode cX3_writeSequence 66 = .ok (.iconst (-1), 1) := by decide +kernel
theorem dX3_writeSequence_67 : decode cX3_writeSequence 67 = .ok (.ixor, 1) := by decide +kernel
theorem dX3_writeSequence_68 : decode cX3_writeSequence 68 = .ok (.iand, 1) := by decide +kernel
theorem dX3_writeSequence_69 : decode cX3_writeSequence 69 = .ok (.istore_n 1, 1) := by decide +kernel
theorem dX3_writeSequence_70 : decode cX3_writeSequence 70 = .ok (.iinc 3 1, 3) := by decide +kernel
theorem dX3_writeSequence_73 : decode cX3_writeSequence 73 = .ok (.goto (-64), 3) := by decide +kernel
theorem dX3_writeSequence_76 : decode cX3_writeSequence 76 = .ok (.return_, 1) := by decide +kernel
theorem dX3_leastOf_0 : decode cX3_leastOf 0 = .ok (.iconst 0, 1) := by decide +kernel
theorem dX3_leastOf_1 : decode cX3_leastOf 1 = .ok (.istore_n 3, 1) := by decide +kernel
theorem dX3_leastOf_2 : decode cX3_leastOf 2 = .ok (.iload_n 3, 1) := by decide +kernel
theorem dX3_leastOf_3 : decode cX3_leastOf 3 = .ok (.aload_n 0, 1) := by decide +kernel
theorem dX3_leastOf_4 : decode cX3_leastOf 4 = .ok (.getfield 32, 3) := by decide +kernel
theorem dX3_leastOf_7 : decode cX3_leastOf 7 = .ok (.getfield 54, 3) := by decide +kernel
theorem dX3_leastOf_10 : decode cX3_leastOf 10 = .ok (.if_icmp .ge 36, 3) := by decide +kernel
theorem dX3_leastOf_13 : decode cX3_leastOf 13 = .ok (.iload_n 1, 1) := by decide +kernel
theorem dX3_leastOf_14 : decode cX3_leastOf 14 = .ok (.iload_n 3, 1) := by decide +kernel
theorem dX3_leastOf_15 : decode cX3_leastOf 15 = .ok (.ishr, 1) := by decide +kernel
theorem dX3_leastOf_16 : decode cX3_leastOf 16 = .ok (.iconst 1, 1) := by decide +kernel
theorem dX3_leastOf_17 : decode cX3_leastOf 17 = .ok (.iand, 1) := by decide +kernel
theorem dX3_leastOf_18 : decode cX3_leastOf 18 = .ok (.ifCond .eq 22, 3) := by decide +kernel
theorem dX3_leastOf_21 : decode cX3_leastOf 21 = .ok (.iload_n 2, 1) := by decide +kernel
theorem dX3_leastOf_22 : decode cX3_leastOf 22 = .ok (.ifCond .lt 16, 3) := by decide +kernel
theorem dX3_leastOf_25 : decode cX3_leastOf 25 = .ok (.aload_n 0, 1) := by decide +kernel
theorem dX3_leastOf_26 : decode cX3_leastOf 26 = .ok (.getfield 32, 3) := by decide +kernel
theorem dX3_leastOf_29 : decode cX3_leastOf 29 = .ok (.getfield 125, 3) := by decide +kernel
theorem dX3_leastOf_32 : decode cX3_leastOf 32 = .ok (.iload_n 3, 1) := by decide +kernel
theorem dX3_leastOf_33 : decode cX3_leastOf 33 = .ok (.iaload, 1) := by decide +kernel
theorem dX3_leastOf_34 : decode cX3_leastOf 34 = .ok (.iload_n 2, 1) := by decide +kernel
theorem dX3_leastOf_35 : decode cX3_leastOf 35 = .ok (.if_icmp .ne 5, 3) := by decide +kernel
theorem dX3_leastOf_38 : decode cX3_leastOf 38 = .ok (.iload_n 3, 1) := by decide +kernel
theorem dX3_leastOf_39 : decode cX3_leastOf 39 = .ok (.ireturn, 1) := by decide +kernel
theorem dX3_leastOf_40 : decode cX3_leastOf 40 = .ok (.iinc 3 1, 3) := by decide +kernel
theorem dX3_leastOf_43 : decode cX3_leastOf 43 = .ok (.goto (-41), 3) := by decide +kernel
theorem dX3_leastOf_46 : decode cX3_leastOf 46 = .ok (.iconst (-1), 1) := by decide +kernel
theorem dX3_leastOf_47 : decode cX3_leastOf 47 = .ok (.ireturn, 1) := by decide +kernel
theorem dX3_turns_0 : decode cX3_turns 0 = .ok (.iconst 0, 1) := by decide +kernel
theorem dX3_turns_1 : decode cX3_turns 1 = .ok (.istore_n 1, 1) := by decide +kernel
theorem dX3_turns_2 : decode cX3_turns 2 = .ok (.iconst 1, 1) := by decide +kernel
theorem dX3_turns_3 : decode cX3_turns 3 = .ok (.istore_n 2, 1) := by decide +kernel
theorem dX3_turns_4 : decode cX3_turns 4 = .ok (.iload_n 2, 1) := by decide +kernel
theorem dX3_turns_5 : decode cX3_turns 5 = .ok (.aload_n 0, 1) := by decide +kernel
theorem dX3_turns_6 : decode cX3_turns 6 = .ok (.getfield 36, 3) := by decide +kernel
theorem dX3_turns_9 : decode cX3_turns 9 = .ok (.getfield 44, 3) := by decide +kernel
theorem dX3_turns_12 : decode cX3_turns 12 = .ok (.if_icmp .ge 45, 3) := by decide +kernel
theorem dX3_turns_15 : decode cX3_turns 15 = .ok (.aload_n 0, 1) := by decide +kernel
theorem dX3_turns_16 : decode cX3_turns 16 = .ok (.getfield 32, 3) := by decide +kernel
theorem dX3_turns_19 : decode cX3_turns 19 = .ok (.getfield 125, 3) := by decide +kernel
theorem dX3_turns_22 : decode cX3_turns 22 = .ok (.aload_n 0, 1) := by decide +kernel
theorem dX3_turns_23 : decode cX3_turns 23 = .ok (.getfield 22, 3) := by decide +kernel
theorem dX3_turns_26 : decode cX3_turns 26 = .ok (.iload_n 2, 1) := by decide +kernel
theorem dX3_turns_27 : decode cX3_turns 27 = .ok (.iaload, 1) := by decide +kernel
theorem dX3_turns_28 : decode cX3_turns 28 = .ok (.iaload, 1) := by decide +kernel
theorem dX3_turns_29 : decode cX3_turns 29 = .ok (.aload_n 0, 1) := by decide +kernel
theorem dX3_turns_30 : decode cX3_turns 30 = .ok (.getfield 32, 3) := by decide +kernel
theorem dX3_turns_33 : decode cX3_turns 33 = .ok (.getfield 125, 3) := by decide +kernel
theorem dX3_turns_36 : decode cX3_turns 36 = .ok (.aload_n 0, 1) := by decide +kernel
theorem dX3_turns_37 : decode cX3_turns 37 = .ok (.getfield 22, 3) := by decide +kernel
theorem dX3_turns_40 : decode cX3_turns 40 = .ok (.iload_n 2, 1) := by decide +kernel
theorem dX3_turns_41 : decode cX3_turns 41 = .ok (.iconst 1, 1) := by decide +kernel
theorem dX3_turns_42 : decode cX3_turns 42 = .ok (.isub, 1) := by decide +kernel
theorem dX3_turns_43 : decode cX3_turns 43 = .ok (.iaload, 1) := by decide +kernel
theorem dX3_turns_44 : decode cX3_turns 44 = .ok (.iaload, 1) := by decide +kernel
theorem dX3_turns_45 : decode cX3_turns 45 = .ok (.if_icmp .eq 6, 3) := by decide +kernel
theorem dX3_turns_48 : decode cX3_turns 48 = .ok (.iinc 1 1, 3) := by decide +kernel
theorem dX3_turns_51 : decode cX3_turns 51 = .ok (.iinc 2 1, 3) := by decide +kernel
theorem dX3_turns_54 : decode cX3_turns 54 = .ok (.goto (-50), 3) := by decide +kernel
theorem dX3_turns_57 : decode cX3_turns 57 = .ok (.iload_n 1, 1) := by decide +kernel
theorem dX3_turns_58 : decode cX3_turns 58 = .ok (.ireturn, 1) := by decide +kernel
theorem dX4_init_0 : decode cX4_init 0 = .ok (.aload_n 0, 1) := by decide +kernel
theorem dX4_init_1 : decode cX4_init 1 = .ok (.invokespecial 3, 3) := by decide +kernel
theorem dX4_init_4 : decode cX4_init 4 = .ok (.aload_n 0, 1) := by decide +kernel
theorem dX4_init_5 : decode cX4_init 5 = .ok (.bipush 10, 2) := by decide +kernel
theorem dX4_init_7 : decode cX4_init 7 = .ok (.newarray .int, 2) := by decide +kernel
theorem dX4_init_9 : decode cX4_init 9 = .ok (.putfield 9, 3) := by decide +kernel
theorem dX4_init_12 : decode cX4_init 12 = .ok (.aload_n 0, 1) := by decide +kernel
theorem dX4_init_13 : decode cX4_init 13 = .ok (.bipush 10, 2) := by decide +kernel
theorem dX4_init_15 : decode cX4_init 15 = .ok (.newarray .int, 2) := by decide +kernel
theorem dX4_init_17 : decode cX4_init 17 = .ok (.putfield 15, 3) := by decide +kernel
theorem dX4_init_20 : decode cX4_init 20 = .ok (.return_, 1) := by decide +kernel
theorem dX4_add_0 : decode cX4_add 0 = .ok (.aload_n 0, 1) := by decide +kernel
theorem dX4_add_1 : decode cX4_add 1 = .ok (.getfield 9, 3) := by decide +kernel
theorem dX4_add_4 : decode cX4_add 4 = .ok (.aload_n 0, 1) := by decide +kernel
theorem dX4_add_5 : decode cX4_add 5 = .ok (.getfield 18, 3) := by decide +kernel
theorem dX4_add_8 : decode cX4_add 8 = .ok (.iload_n 1, 1) := by decide +kernel
theorem dX4_add_9 : decode cX4_add 9 = .ok (.iastore, 1) := by decide +kernel
theorem dX4_add_10 : decode cX4_add 10 = .ok (.aload_n 0, 1) := by decide +kernel
theorem dX4_add_11 : decode cX4_add 11 = .ok (.getfield 15, 3) := by decide +kernel
theorem dX4_add_14 : decode cX4_add 14 = .ok (.aload_n 0, 1) := by decide +kernel
theorem dX4_add_15 : decode cX4_add 15 = .ok (.getfield 18, 3) := by decide +kernel
theorem dX4_add_18 : decode cX4_add 18 = .ok (.iload_n 2, 1) := by decide +kernel
theorem dX4_add_19 : decode cX4_add 19 = .ok (.iastore, 1) := by decide +kernel
theorem dX4_add_20 : decode cX4_add 20 = .ok (.aload_n 0, 1) := by decide +kernel
theorem dX4_add_21 : decode cX4_add 21 = .ok (.dup, 1) := by decide +kernel
theorem dX4_add_22 : decode cX4_add 22 = .ok (.getfield 18, 3) := by decide +kernel
theorem dX4_add_25 : decode cX4_add 25 = .ok (.iconst 1, 1) := by decide +kernel
theorem dX4_add_26 : decode cX4_add 26 = .ok (.iadd, 1) := by decide +kernel
theorem dX4_add_27 : decode cX4_add 27 = .ok (.putfield 18, 3) := by decide +kernel
theorem dX4_add_30 : decode cX4_add 30 = .ok (.aload_n 0, 1) := by decide +kernel
theorem dX4_add_31 : decode cX4_add 31 = .ok (.getfield 18, 3) := by decide +kernel
theorem dX4_add_34 : decode cX4_add 34 = .ok (.iconst 1, 1) := by decide +kernel
theorem dX4_add_35 : decode cX4_add 35 = .ok (.isub, 1) := by decide +kernel
theorem dX4_add_36 : decode cX4_add 36 = .ok (.ireturn, 1) := by decide +kernel
theorem dX5_init_0 : decode cX5_init 0 = .ok (.aload_n 0, 1) := by decide +kernel
theorem dX5_init_1 : decode cX5_init 1 = .ok (.invokespecial 3, 3) := by decide +kernel
theorem dX5_init_4 : decode cX5_init 4 = .ok (.aload_n 0, 1) := by decide +kernel
theorem dX5_init_5 : decode cX5_init 5 = .ok (.bipush 8, 2) := by decide +kernel
theorem dX5_init_7 : decode cX5_init 7 = .ok (.anewarray 9, 3) := by decide +kernel
theorem dX5_init_10 : decode cX5_init 10 = .ok (.putfield 11, 3) := by decide +kernel
theorem dX5_init_13 : decode cX5_init 13 = .ok (.aload_n 0, 1) := by decide +kernel
theorem dX5_init_14 : decode cX5_init 14 = .ok (.iconst 3, 1) := by decide +kernel
theorem dX5_init_15 : decode cX5_init 15 = .ok (.putfield 17, 3) := by decide +kernel
theorem dX5_init_18 : decode cX5_init 18 = .ok (.iconst 0, 1) := by decide +kernel
theorem dX5_init_19 : decode cX5_init 19 = .ok (.istore_n 1, 1) := by decide +kernel
theorem dX5_init_20 : decode cX5_init 20 = .ok (.iload_n 1, 1) := by decide +kernel
theorem dX5_init_21 : decode cX5_init 21 = .ok (.bipush 8, 2) := by decide +kernel
theorem dX5_init_23 : decode cX5_init 23 = .ok (.if_icmp .ge 22, 3) := by decide +kernel
theorem dX5_init_26 : decode cX5_init 26 = .ok (.aload_n 0, 1) := by decide +kernel
theorem dX5_init_27 : decode cX5_init 27 = .ok (.getfield 11, 3) := by decide +kernel
theorem dX5_init_30 : decode cX5_init 30 = .ok (.iload_n 1, 1) := by decide +kernel
theorem dX5_init_31 : decode cX5_init 31 = .ok (.new 9, 3) := by decide +kernel
theorem dX5_init_34 : decode cX5_init 34 = .ok (.dup, 1) := by decide +kernel
theorem dX5_init_35 : decode cX5_init 35 = .ok (.invokespecial 21, 3) := by decide +kernel
theorem dX5_init_38 : decode cX5_init 38 = .ok (.aastore, 1) := by decide +kernel
theorem dX5_init_39 : decode cX5_init 39 = .ok (.iinc 1 1, 3) := by decide +kernel
theorem dX5_init_42 : decode cX5_init 42 = .ok (.goto (-22), 3) := by decide +kernel
theorem dX5_init_45 : decode cX5_init 45 = .ok (.return_, 1) := by decide +kernel
theorem dX5_add_0 : decode cX5_add 0 = .ok (.aload_n 0, 1) := by decide +kernel
theorem dX5_add_1 : decode cX5_add 1 = .ok (.getfield 11, 3) := by decide +kernel
theorem dX5_add_4 : decode cX5_add 4 = .ok (.aload_n 0, 1) := by decide +kernel
theorem dX5_add_5 : decode cX5_add 5 = .ok (.getfield 22, 3) := by decide +kernel
theorem dX5_add_8 : decode cX5_add 8 = .ok (.aaload, 1) := by decide +kernel
theorem dX5_add_9 : decode cX5_add 9 = .ok (.astore 5, 2) := by decide +kernel
theorem dX5_add_11 : decode cX5_add 11 = .ok (.aload 5, 2) := by decide +kernel
theorem dX5_add_13 : decode cX5_add 13 = .ok (.iload_n 1, 1) := by decide +kernel
theorem dX5_add_14 : decode cX5_add 14 = .ok (.sipush 1000, 3) := by decide +kernel
theorem dX5_add_17 : decode cX5_add 17 = .ok (.idiv, 1) := by decide +kernel
theorem dX5_add_18 : decode cX5_add 18 = .ok (.putfield 25, 3) := by decide +kernel
theorem dX5_add_21 : decode cX5_add 21 = .ok (.aload 5, 2) := by decide +kernel
theorem dX5_add_23 : decode cX5_add 23 = .ok (.iload_n 1, 1) := by decide +kernel
theorem dX5_add_24 : decode cX5_add 24 = .ok (.bipush 100, 2) := by decide +kernel
theorem dX5_add_26 : decode cX5_add 26 = .ok (.idiv, 1) := by decide +kernel
theorem dX5_add_27 : decode cX5_add 27 = .ok (.bipush 10, 2) := by decide +kernel
theorem dX5_add_29 : decode cX5_add 29 = .ok (.irem, 1) := by decide +kernel
theorem dX5_add_30 : decode cX5_add 30 = .ok (.putfield 28, 3) := by decide +kernel
theorem dX5_add_33 : decode cX5_add 33 = .ok (.aload 5, 2) := by decide +kernel
theorem dX5_add_35 : decode cX5_add 35 = .ok (.iload_n 1, 1) := by decide +kernel
theorem dX5_add_36 : decode cX5_add 36 = .ok (.bipush 100, 2) := by decide +kernel
theorem dX5_add_38 : decode cX5_add 38 = .ok (.irem, 1) := by decide +kernel
theorem dX5_add_39 : decode cX5_add 39 = .ok (.iconst 1, 1) := by decide +kernel
theorem dX5_add_40 : decode cX5_add 40 = .ok (.aload 5, 2) := by decide +kernel
theorem dX5_add_42 : decode cX5_add 42 = .ok (.getfield 28, 3) := by decide +kernel
theorem dX5_add_45 : decode cX5_add 45 = .ok (.ishl, 1) := by decide +kernel
theorem dX5_add_46 : decode cX5_add 46 = .ok (.ior, 1) := by decide +kernel
theorem dX5_add_47 : decode cX5_add 47 = .ok (.putfield 31, 3) := by decide +kernel
theorem dX5_add_50 : decode cX5_add 50 = .ok (.aload 5, 2) := by decide +kernel
theorem dX5_add_52 : decode cX5_add 52 = .ok (.iload_n 2, 1) := by decide +kernel
theorem dX5_add_53 : decode cX5_add 53 = .ok (.putfield 34, 3) := by decide +kernel
theorem dX5_add_56 : decode cX5_add 56 = .ok (.aload 5, 2) := by decide +kernel
theorem dX5_add_58 : decode cX5_add 58 = .ok (.iload_n 3, 1) := by decide +kernel
theorem dX5_add_59 : decode cX5_add 59 = .ok (.bipush 100, 2) := by decide +kernel
theorem dX5_add_61 : decode cX5_add 61 = .ok (.idiv, 1) := by decide +kernel
theorem dX5_add_62 : decode cX5_add 62 = .ok (.putfield 37, 3) := by decide +kernel
theorem dX5_add_65 : decode cX5_add 65 = .ok (.aload 5, 2) := by decide +kernel
theorem dX5_add_67 : decode cX5_add 67 = .ok (.iload_n 3, 1) := by decide +kernel
theorem dX5_add_68 : decode cX5_add 68 = .ok (.bipush 100, 2) := by decide +kernel
theorem dX5_add_70 : decode cX5_add 70 = .ok (.irem, 1) := by decide +kernel
theorem dX5_add_71 : decode cX5_add 71 = .ok (.putfield 40, 3) := by decide +kernel
theorem dX5_add_74 : decode cX5_add 74 = .ok (.aload 5, 2) := by decide +kernel
theorem dX5_add_76 : decode cX5_add 76 = .ok (.iload 4, 2) := by decide +kernel
theorem dX5_add_78 : decode cX5_add 78 = .ok (.putfield 43, 3) := by decide +kernel
theorem dX5_add_81 : decode cX5_add 81 = .ok (.aload 5, 2) := by decide +kernel
theorem dX5_add_83 : decode cX5_add 83 = .ok (.aload 5, 2) := by decide +kernel
theorem dX5_add_85 : decode cX5_add 85 = .ok (.getfield 25, 3) := by decide +kernel
theorem dX5_add_88 : decode cX5_add 88 = .ok (.iconst 1, 1) := by decide +kernel
theorem dX5_add_89 : decode cX5_add 89 = .ok (.if_icmp .ne 19, 3) := by decide +kernel
theorem dX5_add_92 : decode cX5_add 92 = .ok (.aload_n 0, 1) := by decide +kernel
theorem dX5_add_93 : decode cX5_add 93 = .ok (.invokevirtual 46, 3) := by decide +kernel
theorem dX5_add_96 : decode cX5_add 96 = .ok (.aload 5, 2) := by decide +kernel
theorem dX5_add_98 : decode cX5_add 98 = .ok (.invokevirtual 50, 3) := by decide +kernel
theorem dX5_add_101 : decode cX5_add 101 = .ok (.if_icmp .ne 7, 3) := by decide +kernel
theorem dX5_add_104 : decode cX5_add 104 = .ok (.iconst 1, 1) := by decide +kernel
theorem dX5_add_105 : decode cX5_add 105 = .ok (.goto 4, 3) := by decide +kernel
theorem dX5_add_108 : decode cX5_add 108 = .ok (.iconst 0, 1) := by decide +kernel
theorem dX5_add_109 : decode cX5_add 109 = .ok (.putfield 53, 3) := by decide +kernel
theorem dX5_add_112 : decode cX5_add 112 = .ok (.aload_n 0, 1) := by decide +kernel
theorem dX5_add_113 : decode cX5_add 113 = .ok (.dup, 1) := by decide +kernel
theorem dX5_add_114 : decode cX5_add 114 = .ok (.getfield 22, 3) := by decide +kernel
theorem dX5_add_117 : decode cX5_add 117 = .ok (.iconst 1, 1) := by decide +kernel
theorem dX5_add_118 : decode cX5_add 118 = .ok (.iadd, 1) := by decide +kernel
theorem dX5_add_119 : decode cX5_add 119 = .ok (.putfield 22, 3) := by decide +kernel
theorem dX5_add_122 : decode cX5_add 122 = .ok (.aload_n 0, 1) := by decide +kernel
theorem dX5_add_123 : decode cX5_add 123 = .ok (.getfield 22, 3) := by decide +kernel
theorem dX5_add_126 : decode cX5_add 126 = .ok (.iconst 1, 1) := by decide +kernel

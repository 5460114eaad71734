theorem dX7_isSpan_29 : decode cX7_isSpan 29 = .ok (.iconst 0, 1) := by decide +kernel
theorem dX7_isSpan_30 : decode cX7_isSpan 30 = .ok (.ireturn, 1) := by decide +kernel
theorem dX7_isPerson_0 : decode cX7_isPerson 0 = .ok (.iload_n 1, 1) := by decide +kernel
theorem dX7_isPerson_1 : decode cX7_isPerson 1 = .ok (.ifCond .lt 18, 3) := by decide +kernel
theorem dX7_isPerson_4 : decode cX7_isPerson 4 = .ok (.iload_n 1, 1) := by decide +kernel
theorem dX7_isPerson_5 : decode cX7_isPerson 5 = .ok (.aload_n 0, 1) := by decide +kernel
theorem dX7_isPerson_6 : decode cX7_isPerson 6 = .ok (.getfield 10, 3) := by decide +kernel
theorem dX7_isPerson_9 : decode cX7_isPerson 9 = .ok (.getfield 56, 3) := by decide +kernel
theorem dX7_isPerson_12 : decode cX7_isPerson 12 = .ok (.if_icmp .ge 7, 3) := by decide +kernel
theorem dX7_isPerson_15 : decode cX7_isPerson 15 = .ok (.iconst 1, 1) := by decide +kernel
theorem dX7_isPerson_16 : decode cX7_isPerson 16 = .ok (.goto 4, 3) := by decide +kernel
theorem dX7_isPerson_19 : decode cX7_isPerson 19 = .ok (.iconst 0, 1) := by decide +kernel
theorem dX7_isPerson_20 : decode cX7_isPerson 20 = .ok (.ireturn, 1) := by decide +kernel
theorem dX7_isCamera_0 : decode cX7_isCamera 0 = .ok (.iload_n 1, 1) := by decide +kernel
theorem dX7_isCamera_1 : decode cX7_isCamera 1 = .ok (.ifCond .lt 18, 3) := by decide +kernel
theorem dX7_isCamera_4 : decode cX7_isCamera 4 = .ok (.iload_n 1, 1) := by decide +kernel
theorem dX7_isCamera_5 : decode cX7_isCamera 5 = .ok (.aload_n 0, 1) := by decide +kernel
theorem dX7_isCamera_6 : decode cX7_isCamera 6 = .ok (.getfield 19, 3) := by decide +kernel
theorem dX7_isCamera_9 : decode cX7_isCamera 9 = .ok (.getfield 91, 3) := by decide +kernel
theorem dX7_isCamera_12 : decode cX7_isCamera 12 = .ok (.if_icmp .ge 7, 3) := by decide +kernel
theorem dX7_isCamera_15 : decode cX7_isCamera 15 = .ok (.iconst 1, 1) := by decide +kernel
theorem dX7_isCamera_16 : decode cX7_isCamera 16 = .ok (.goto 4, 3) := by decide +kernel
theorem dX7_isCamera_19 : decode cX7_isCamera 19 = .ok (.iconst 0, 1) := by decide +kernel
theorem dX7_isCamera_20 : decode cX7_isCamera 20 = .ok (.ireturn, 1) := by decide +kernel
theorem dX7_isBoard_0 : decode cX7_isBoard 0 = .ok (.iload_n 1, 1) := by decide +kernel
theorem dX7_isBoard_1 : decode cX7_isBoard 1 = .ok (.ifCond .lt 18, 3) := by decide +kernel
theorem dX7_isBoard_4 : decode cX7_isBoard 4 = .ok (.iload_n 1, 1) := by decide +kernel
theorem dX7_isBoard_5 : decode cX7_isBoard 5 = .ok (.aload_n 0, 1) := by decide +kernel
theorem dX7_isBoard_6 : decode cX7_isBoard 6 = .ok (.getfield 26, 3) := by decide +kernel
theorem dX7_isBoard_9 : decode cX7_isBoard 9 = .ok (.getfield 103, 3) := by decide +kernel
theorem dX7_isBoard_12 : decode cX7_isBoard 12 = .ok (.if_icmp .ge 7, 3) := by decide +kernel
theorem dX7_isBoard_15 : decode cX7_isBoard 15 = .ok (.iconst 1, 1) := by decide +kernel
theorem dX7_isBoard_16 : decode cX7_isBoard 16 = .ok (.goto 4, 3) := by decide +kernel
theorem dX7_isBoard_19 : decode cX7_isBoard 19 = .ok (.iconst 0, 1) := by decide +kernel
theorem dX7_isBoard_20 : decode cX7_isBoard 20 = .ok (.ireturn, 1) := by decide +kernel
theorem dX7_isWho_0 : decode cX7_isWho 0 = .ok (.iload_n 1, 1) := by decide +kernel
theorem dX7_isWho_1 : decode cX7_isWho 1 = .ok (.ifCond .lt 12, 3) := by decide +kernel
theorem dX7_isWho_4 : decode cX7_isWho 4 = .ok (.iload_n 1, 1) := by decide +kernel
theorem dX7_isWho_5 : decode cX7_isWho 5 = .ok (.sipush 1000, 3) := by decide +kernel
theorem dX7_isWho_8 : decode cX7_isWho 8 = .ok (.idiv, 1) := by decide +kernel
theorem dX7_isWho_9 : decode cX7_isWho 9 = .ok (.iconst 2, 1) := by decide +kernel
theorem dX7_isWho_10 : decode cX7_isWho 10 = .ok (.if_icmp .le 5, 3) := by decide +kernel
theorem dX7_isWho_13 : decode cX7_isWho 13 = .ok (.iconst 0, 1) := by decide +kernel
theorem dX7_isWho_14 : decode cX7_isWho 14 = .ok (.ireturn, 1) := by decide +kernel
theorem dX7_isWho_15 : decode cX7_isWho 15 = .ok (.iload_n 1, 1) := by decide +kernel
theorem dX7_isWho_16 : decode cX7_isWho 16 = .ok (.bipush 100, 2) := by decide +kernel
theorem dX7_isWho_18 : decode cX7_isWho 18 = .ok (.idiv, 1) := by decide +kernel
theorem dX7_isWho_19 : decode cX7_isWho 19 = .ok (.bipush 10, 2) := by decide +kernel
theorem dX7_isWho_21 : decode cX7_isWho 21 = .ok (.irem, 1) := by decide +kernel
theorem dX7_isWho_22 : decode cX7_isWho 22 = .ok (.istore_n 2, 1) := by decide +kernel
theorem dX7_isWho_23 : decode cX7_isWho 23 = .ok (.iload_n 1, 1) := by decide +kernel
theorem dX7_isWho_24 : decode cX7_isWho 24 = .ok (.bipush 100, 2) := by decide +kernel
theorem dX7_isWho_26 : decode cX7_isWho 26 = .ok (.irem, 1) := by decide +kernel
theorem dX7_isWho_27 : decode cX7_isWho 27 = .ok (.istore_n 3, 1) := by decide +kernel
theorem dX7_isWho_28 : decode cX7_isWho 28 = .ok (.aload_n 0, 1) := by decide +kernel
theorem dX7_isWho_29 : decode cX7_isWho 29 = .ok (.iload_n 2, 1) := by decide +kernel
theorem dX7_isWho_30 : decode cX7_isWho 30 = .ok (.invokevirtual 67, 3) := by decide +kernel
theorem dX7_isWho_33 : decode cX7_isWho 33 = .ok (.ifCond .eq 16, 3) := by decide +kernel
theorem dX7_isWho_36 : decode cX7_isWho 36 = .ok (.iload_n 3, 1) := by decide +kernel
theorem dX7_isWho_37 : decode cX7_isWho 37 = .ok (.iconst 1, 1) := by decide +kernel
theorem dX7_isWho_38 : decode cX7_isWho 38 = .ok (.aload_n 0, 1) := by decide +kernel
theorem dX7_isWho_39 : decode cX7_isWho 39 = .ok (.getfield 10, 3) := by decide +kernel
theorem dX7_isWho_42 : decode cX7_isWho 42 = .ok (.getfield 56, 3) := by decide +kernel
theorem dX7_isWho_45 : decode cX7_isWho 45 = .ok (.ishl, 1) := by decide +kernel
theorem dX7_isWho_46 : decode cX7_isWho 46 = .ok (.if_icmp .lt 5, 3) := by decide +kernel
theorem dX7_isWho_49 : decode cX7_isWho 49 = .ok (.iconst 0, 1) := by decide +kernel
theorem dX7_isWho_50 : decode cX7_isWho 50 = .ok (.ireturn, 1) := by decide +kernel
theorem dX7_isWho_51 : decode cX7_isWho 51 = .ok (.iload_n 1, 1) := by decide +kernel
theorem dX7_isWho_52 : decode cX7_isWho 52 = .ok (.sipush 1000, 3) := by decide +kernel
theorem dX7_isWho_55 : decode cX7_isWho 55 = .ok (.idiv, 1) := by decide +kernel
theorem dX7_isWho_56 : decode cX7_isWho 56 = .ok (.iconst 1, 1) := by decide +kernel
theorem dX7_isWho_57 : decode cX7_isWho 57 = .ok (.if_icmp .ne 13, 3) := by decide +kernel
theorem dX7_isWho_60 : decode cX7_isWho 60 = .ok (.iload_n 3, 1) := by decide +kernel
theorem dX7_isWho_61 : decode cX7_isWho 61 = .ok (.iconst 1, 1) := by decide +kernel
theorem dX7_isWho_62 : decode cX7_isWho 62 = .ok (.iload_n 2, 1) := by decide +kernel
theorem dX7_isWho_63 : decode cX7_isWho 63 = .ok (.ishl, 1) := by decide +kernel
theorem dX7_isWho_64 : decode cX7_isWho 64 = .ok (.iconst (-1), 1) := by decide +kernel
theorem dX7_isWho_65 : decode cX7_isWho 65 = .ok (.ixor, 1) := by decide +kernel
theorem dX7_isWho_66 : decode cX7_isWho 66 = .ok (.iand, 1) := by decide +kernel
theorem dX7_isWho_67 : decode cX7_isWho 67 = .ok (.ifCond .eq 7, 3) := by decide +kernel
theorem dX7_isWho_70 : decode cX7_isWho 70 = .ok (.iconst 1, 1) := by decide +kernel
theorem dX7_isWho_71 : decode cX7_isWho 71 = .ok (.goto 4, 3) := by decide +kernel
theorem dX7_isWho_74 : decode cX7_isWho 74 = .ok (.iconst 0, 1) := by decide +kernel
theorem dX7_isWho_75 : decode cX7_isWho 75 = .ok (.ireturn, 1) := by decide +kernel
theorem dX8_init_0 : decode cX8_init 0 = .ok (.aload_n 0, 1) := by decide +kernel
theorem dX8_init_1 : decode cX8_init 1 = .ok (.invokespecial 1, 3) := by decide +kernel
theorem dX8_init_4 : decode cX8_init 4 = .ok (.aload_n 0, 1) := by decide +kernel
theorem dX8_init_5 : decode cX8_init 5 = .ok (.bipush 6, 2) := by decide +kernel
theorem dX8_init_7 : decode cX8_init 7 = .ok (.newarray .int, 2) := by decide +kernel
theorem dX8_init_9 : decode cX8_init 9 = .ok (.putfield 7, 3) := by decide +kernel
theorem dX8_init_12 : decode cX8_init 12 = .ok (.aload_n 0, 1) := by decide +kernel
theorem dX8_init_13 : decode cX8_init 13 = .ok (.bipush 6, 2) := by decide +kernel
theorem dX8_init_15 : decode cX8_init 15 = .ok (.newarray .int, 2) := by decide +kernel
theorem dX8_init_17 : decode cX8_init 17 = .ok (.putfield 13, 3) := by decide +kernel
theorem dX8_init_20 : decode cX8_init 20 = .ok (.aload_n 0, 1) := by decide +kernel
theorem dX8_init_21 : decode cX8_init 21 = .ok (.bipush 72, 2) := by decide +kernel
theorem dX8_init_23 : decode cX8_init 23 = .ok (.newarray .int, 2) := by decide +kernel
theorem dX8_init_25 : decode cX8_init 25 = .ok (.putfield 16, 3) := by decide +kernel
theorem dX8_init_28 : decode cX8_init 28 = .ok (.aload_n 0, 1) := by decide +kernel
theorem dX8_init_29 : decode cX8_init 29 = .ok (.bipush 72, 2) := by decide +kernel
theorem dX8_init_31 : decode cX8_init 31 = .ok (.newarray .int, 2) := by decide +kernel
theorem dX8_init_33 : decode cX8_init 33 = .ok (.putfield 19, 3) := by decide +kernel
theorem dX8_init_36 : decode cX8_init 36 = .ok (.aload_n 0, 1) := by decide +kernel
theorem dX8_init_37 : decode cX8_init 37 = .ok (.bipush 12, 2) := by decide +kernel
theorem dX8_init_39 : decode cX8_init 39 = .ok (.newarray .int, 2) := by decide +kernel
theorem dX8_init_41 : decode cX8_init 41 = .ok (.putfield 22, 3) := by decide +kernel
theorem dX8_init_44 : decode cX8_init 44 = .ok (.aload_n 0, 1) := by decide +kernel
theorem dX8_init_45 : decode cX8_init 45 = .ok (.bipush 12, 2) := by decide +kernel
theorem dX8_init_47 : decode cX8_init 47 = .ok (.newarray .int, 2) := by decide +kernel
theorem dX8_init_49 : decode cX8_init 49 = .ok (.putfield 25, 3) := by decide +kernel
theorem dX8_init_52 : decode cX8_init 52 = .ok (.aload_n 0, 1) := by decide +kernel
theorem dX8_init_53 : decode cX8_init 53 = .ok (.bipush 10, 2) := by decide +kernel
theorem dX8_init_55 : decode cX8_init 55 = .ok (.newarray .int, 2) := by decide +kernel
theorem dX8_init_57 : decode cX8_init 57 = .ok (.putfield 28, 3) := by decide +kernel
theorem dX8_init_60 : decode cX8_init 60 = .ok (.aload_n 0, 1) := by decide +kernel
theorem dX8_init_61 : decode cX8_init 61 = .ok (.bipush 10, 2) := by decide +kernel
theorem dX8_init_63 : decode cX8_init 63 = .ok (.newarray .int, 2) := by decide +kernel
theorem dX8_init_65 : decode cX8_init 65 = .ok (.putfield 31, 3) := by decide +kernel
theorem dX8_init_68 : decode cX8_init 68 = .ok (.aload_n 0, 1) := by decide +kernel
theorem dX8_init_69 : decode cX8_init 69 = .ok (.bipush 8, 2) := by decide +kernel
theorem dX8_init_71 : decode cX8_init 71 = .ok (.newarray .int, 2) := by decide +kernel
theorem dX8_init_73 : decode cX8_init 73 = .ok (.putfield 34, 3) := by decide +kernel
theorem dX8_init_76 : decode cX8_init 76 = .ok (.aload_n 0, 1) := by decide +kernel
theorem dX8_init_77 : decode cX8_init 77 = .ok (.bipush 8, 2) := by decide +kernel
theorem dX8_init_79 : decode cX8_init 79 = .ok (.newarray .int, 2) := by decide +kernel
theorem dX8_init_81 : decode cX8_init 81 = .ok (.putfield 37, 3) := by decide +kernel
theorem dX8_init_84 : decode cX8_init 84 = .ok (.aload_n 0, 1) := by decide +kernel
theorem dX8_init_85 : decode cX8_init 85 = .ok (.bipush 8, 2) := by decide +kernel
theorem dX8_init_87 : decode cX8_init 87 = .ok (.newarray .int, 2) := by decide +kernel
theorem dX8_init_89 : decode cX8_init 89 = .ok (.putfield 40, 3) := by decide +kernel
theorem dX8_init_92 : decode cX8_init 92 = .ok (.aload_n 0, 1) := by decide +kernel
theorem dX8_init_93 : decode cX8_init 93 = .ok (.bipush 8, 2) := by decide +kernel
theorem dX8_init_95 : decode cX8_init 95 = .ok (.newarray .int, 2) := by decide +kernel
theorem dX8_init_97 : decode cX8_init 97 = .ok (.putfield 43, 3) := by decide +kernel
theorem dX8_init_100 : decode cX8_init 100 = .ok (.aload_n 0, 1) := by decide +kernel
theorem dX8_init_101 : decode cX8_init 101 = .ok (.bipush 8, 2) := by decide +kernel
theorem dX8_init_103 : decode cX8_init 103 = .ok (.newarray .int, 2) := by decide +kernel
theorem dX8_init_105 : decode cX8_init 105 = .ok (.putfield 46, 3) := by decide +kernel
theorem dX8_init_108 : decode cX8_init 108 = .ok (.aload_n 0, 1) := by decide +kernel
theorem dX8_init_109 : decode cX8_init 109 = .ok (.bipush 8, 2) := by decide +kernel
theorem dX8_init_111 : decode cX8_init 111 = .ok (.newarray .int, 2) := by decide +kernel
theorem dX8_init_113 : decode cX8_init 113 = .ok (.putfield 49, 3) := by decide +kernel
theorem dX8_init_116 : decode cX8_init 116 = .ok (.aload_n 0, 1) := by decide +kernel
theorem dX8_init_117 : decode cX8_init 117 = .ok (.bipush 8, 2) := by decide +kernel
theorem dX8_init_119 : decode cX8_init 119 = .ok (.newarray .int, 2) := by decide +kernel
theorem dX8_init_121 : decode cX8_init 121 = .ok (.putfield 52, 3) := by decide +kernel
theorem dX8_init_124 : decode cX8_init 124 = .ok (.aload_n 0, 1) := by decide +kernel
theorem dX8_init_125 : decode cX8_init 125 = .ok (.iconst 3, 1) := by decide +kernel
theorem dX8_init_126 : decode cX8_init 126 = .ok (.putfield 55, 3) := by decide +kernel
theorem dX8_init_129 : decode cX8_init 129 = .ok (.aload_n 0, 1) := by decide +kernel
theorem dX8_init_130 : decode cX8_init 130 = .ok (.bipush 8, 2) := by decide +kernel
theorem dX8_init_132 : decode cX8_init 132 = .ok (.newarray .int, 2) := by decide +kernel
theorem dX8_init_134 : decode cX8_init 134 = .ok (.putfield 59, 3) := by decide +kernel
theorem dX8_init_137 : decode cX8_init 137 = .ok (.aload_n 0, 1) := by decide +kernel
theorem dX8_init_138 : decode cX8_init 138 = .ok (.bipush 80, 2) := by decide +kernel
theorem dX8_init_140 : decode cX8_init 140 = .ok (.newarray .boolean, 2) := by decide +kernel
theorem dX8_init_142 : decode cX8_init 142 = .ok (.putfield 62, 3) := by decide +kernel
theorem dX8_init_145 : decode cX8_init 145 = .ok (.aload_n 0, 1) := by decide +kernel
theorem dX8_init_146 : decode cX8_init 146 = .ok (.bipush 99, 2) := by decide +kernel
theorem dX8_init_148 : decode cX8_init 148 = .ok (.newarray .boolean, 2) := by decide +kernel
theorem dX8_init_150 : decode cX8_init 150 = .ok (.putfield 66, 3) := by decide +kernel
theorem dX8_init_153 : decode cX8_init 153 = .ok (.aload_n 0, 1) := by decide +kernel
theorem dX8_init_154 : decode cX8_init 154 = .ok (.bipush 8, 2) := by decide +kernel
theorem dX8_init_156 : decode cX8_init 156 = .ok (.newarray .int, 2) := by decide +kernel
theorem dX8_init_158 : decode cX8_init 158 = .ok (.putfield 69, 3) := by decide +kernel
theorem dX8_init_161 : decode cX8_init 161 = .ok (.return_, 1) := by decide +kernel
theorem dX8_in_0 : decode cX8_in 0 = .ok (.iload_n 0, 1) := by decide +kernel
theorem dX8_in_1 : decode cX8_in 1 = .ok (.iload_n 1, 1) := by decide +kernel
theorem dX8_in_2 : decode cX8_in 2 = .ok (.if_icmp .lt 12, 3) := by decide +kernel
theorem dX8_in_5 : decode cX8_in 5 = .ok (.iload_n 0, 1) := by decide +kernel
theorem dX8_in_6 : decode cX8_in 6 = .ok (.iload_n 2, 1) := by decide +kernel
theorem dX8_in_7 : decode cX8_in 7 = .ok (.if_icmp .gt 7, 3) := by decide +kernel
theorem dX8_in_10 : decode cX8_in 10 = .ok (.iconst 1, 1) := by decide +kernel
theorem dX8_in_11 : decode cX8_in 11 = .ok (.goto 4, 3) := by decide +kernel
theorem dX8_in_14 : decode cX8_in 14 = .ok (.iconst 0, 1) := by decide +kernel
theorem dX8_in_15 : decode cX8_in 15 = .ok (.ireturn, 1) := by decide +kernel
theorem dX8_isPlace_0 : decode cX8_isPlace 0 = .ok (.iload_n 0, 1) := by decide +kernel
theorem dX8_isPlace_1 : decode cX8_isPlace 1 = .ok (.ifCond .lt 25, 3) := by decide +kernel
theorem dX8_isPlace_4 : decode cX8_isPlace 4 = .ok (.iload_n 0, 1) := by decide +kernel
theorem dX8_isPlace_5 : decode cX8_isPlace 5 = .ok (.bipush 100, 2) := by decide +kernel
theorem dX8_isPlace_7 : decode cX8_isPlace 7 = .ok (.idiv, 1) := by decide +kernel
theorem dX8_isPlace_8 : decode cX8_isPlace 8 = .ok (.bipush 32, 2) := by decide +kernel
theorem dX8_isPlace_10 : decode cX8_isPlace 10 = .ok (.if_icmp .ge 16, 3) := by decide +kernel
theorem dX8_isPlace_13 : decode cX8_isPlace 13 = .ok (.iload_n 0, 1) := by decide +kernel
theorem dX8_isPlace_14 : decode cX8_isPlace 14 = .ok (.bipush 100, 2) := by decide +kernel
theorem dX8_isPlace_16 : decode cX8_isPlace 16 = .ok (.irem, 1) := by decide +kernel
theorem dX8_isPlace_17 : decode cX8_isPlace 17 = .ok (.bipush 32, 2) := by decide +kernel
theorem dX8_isPlace_19 : decode cX8_isPlace 19 = .ok (.if_icmp .ge 7, 3) := by decide +kernel
theorem dX8_isPlace_22 : decode cX8_isPlace 22 = .ok (.iconst 1, 1) := by decide +kernel
theorem dX8_isPlace_23 : decode cX8_isPlace 23 = .ok (.goto 4, 3) := by decide +kernel
theorem dX8_isPlace_26 : decode cX8_isPlace 26 = .ok (.iconst 0, 1) := by decide +kernel
theorem dX8_isPlace_27 : decode cX8_isPlace 27 = .ok (.ireturn, 1) := by decide +kernel
theorem dX8_isPerson_0 : decode cX8_isPerson 0 = .ok (.iload_n 1, 1) := by decide +kernel
theorem dX8_isPerson_1 : decode cX8_isPerson 1 = .ok (.iconst 0, 1) := by decide +kernel
theorem dX8_isPerson_2 : decode cX8_isPerson 2 = .ok (.aload_n 0, 1) := by decide +kernel
theorem dX8_isPerson_3 : decode cX8_isPerson 3 = .ok (.getfield 72, 3) := by decide +kernel
theorem dX8_isPerson_6 : decode cX8_isPerson 6 = .ok (.iconst 1, 1) := by decide +kernel
theorem dX8_isPerson_7 : decode cX8_isPerson 7 = .ok (.isub, 1) := by decide +kernel
theorem dX8_isPerson_8 : decode cX8_isPerson 8 = .ok (.invokestatic 75, 3) := by decide +kernel
theorem dX8_isPerson_11 : decode cX8_isPerson 11 = .ok (.ireturn, 1) := by decide +kernel
theorem dX8_isCamera_0 : decode cX8_isCamera 0 = .ok (.iload_n 1, 1) := by decide +kernel
theorem dX8_isCamera_1 : decode cX8_isCamera 1 = .ok (.iconst 0, 1) := by decide +kernel
theorem dX8_isCamera_2 : decode cX8_isCamera 2 = .ok (.aload_n 0, 1) := by decide +kernel
theorem dX8_isCamera_3 : decode cX8_isCamera 3 = .ok (.getfield 79, 3) := by decide +kernel
theorem dX8_isCamera_6 : decode cX8_isCamera 6 = .ok (.iconst 1, 1) := by decide +kernel
theorem dX8_isCamera_7 : decode cX8_isCamera 7 = .ok (.isub, 1) := by decide +kernel
theorem dX8_isCamera_8 : decode cX8_isCamera 8 = .ok (.invokestatic 75, 3) := by decide +kernel
theorem dX8_isCamera_11 : decode cX8_isCamera 11 = .ok (.ireturn, 1) := by decide +kernel
theorem dX8_isBoard_0 : decode cX8_isBoard 0 = .ok (.iload_n 1, 1) := by decide +kernel
theorem dX8_isBoard_1 : decode cX8_isBoard 1 = .ok (.iconst 0, 1) := by decide +kernel
theorem dX8_isBoard_2 : decode cX8_isBoard 2 = .ok (.aload_n 0, 1) := by decide +kernel
theorem dX8_isBoard_3 : decode cX8_isBoard 3 = .ok (.getfield 82, 3) := by decide +kernel
theorem dX8_isBoard_6 : decode cX8_isBoard 6 = .ok (.iconst 1, 1) := by decide +kernel
theorem dX8_isBoard_7 : decode cX8_isBoard 7 = .ok (.isub, 1) := by decide +kernel
theorem dX8_isBoard_8 : decode cX8_isBoard 8 = .ok (.invokestatic 75, 3) := by decide +kernel
theorem dX8_isBoard_11 : decode cX8_isBoard 11 = .ok (.ireturn, 1) := by decide +kernel
theorem dX8_isTick_0 : decode cX8_isTick 0 = .ok (.iload_n 0, 1) := by decide +kernel
theorem dX8_isTick_1 : decode cX8_isTick 1 = .ok (.iconst 0, 1) := by decide +kernel
theorem dX8_isTick_2 : decode cX8_isTick 2 = .ok (.bipush 59, 2) := by decide +kernel
theorem dX8_isTick_4 : decode cX8_isTick 4 = .ok (.invokestatic 75, 3) := by decide +kernel
theorem dX8_isTick_7 : decode cX8_isTick 7 = .ok (.ireturn, 1) := by decide +kernel
theorem dX8_person_0 : decode cX8_person 0 = .ok (.iload_n 1, 1) := by decide +kernel
theorem dX8_person_1 : decode cX8_person 1 = .ok (.invokestatic 85, 3) := by decide +kernel
theorem dX8_person_4 : decode cX8_person 4 = .ok (.ifCond .ne 5, 3) := by decide +kernel
theorem dX8_person_7 : decode cX8_person 7 = .ok (.iconst (-1), 1) := by decide +kernel
theorem dX8_person_8 : decode cX8_person 8 = .ok (.ireturn, 1) := by decide +kernel
theorem dX8_person_9 : decode cX8_person 9 = .ok (.aload_n 0, 1) := by decide +kernel
theorem dX8_person_10 : decode cX8_person 10 = .ok (.getfield 72, 3) := by decide +kernel
theorem dX8_person_13 : decode cX8_person 13 = .ok (.bipush 6, 2) := by decide +kernel
theorem dX8_person_15 : decode cX8_person 15 = .ok (.if_icmp .ne 6, 3) := by decide +kernel
theorem dX8_person_18 : decode cX8_person 18 = .ok (.bipush (-2), 2) := by decide +kernel
theorem dX8_person_20 : decode cX8_person 20 = .ok (.ireturn, 1) := by decide +kernel
theorem dX8_person_21 : decode cX8_person 21 = .ok (.aload_n 0, 1) := by decide +kernel
theorem dX8_person_22 : decode cX8_person 22 = .ok (.getfield 7, 3) := by decide +kernel
theorem dX8_person_25 : decode cX8_person 25 = .ok (.aload_n 0, 1) := by decide +kernel
theorem dX8_person_26 : decode cX8_person 26 = .ok (.getfield 72, 3) := by decide +kernel
theorem dX8_person_29 : decode cX8_person 29 = .ok (.iload_n 1, 1) := by decide +kernel
theorem dX8_person_30 : decode cX8_person 30 = .ok (.iastore, 1) := by decide +kernel
theorem dX8_person_31 : decode cX8_person 31 = .ok (.aload_n 0, 1) := by decide +kernel
theorem dX8_person_32 : decode cX8_person 32 = .ok (.dup, 1) := by decide +kernel
theorem dX8_person_33 : decode cX8_person 33 = .ok (.getfield 72, 3) := by decide +kernel
theorem dX8_person_36 : decode cX8_person 36 = .ok (.iconst 1, 1) := by decide +kernel
theorem dX8_person_37 : decode cX8_person 37 = .ok (.iadd, 1) := by decide +kernel
theorem dX8_person_38 : decode cX8_person 38 = .ok (.putfield 72, 3) := by decide +kernel
theorem dX8_person_41 : decode cX8_person 41 = .ok (.aload_n 0, 1) := by decide +kernel
theorem dX8_person_42 : decode cX8_person 42 = .ok (.getfield 72, 3) := by decide +kernel
theorem dX8_person_45 : decode cX8_person 45 = .ok (.iconst 1, 1) := by decide +kernel
theorem dX8_person_46 : decode cX8_person 46 = .ok (.isub, 1) := by decide +kernel
theorem dX8_person_47 : decode cX8_person 47 = .ok (.ireturn, 1) := by decide +kernel
theorem dX8_step_0 : decode cX8_step 0 = .ok (.aload_n 0, 1) := by decide +kernel
theorem dX8_step_1 : decode cX8_step 1 = .ok (.iload_n 1, 1) := by decide +kernel
theorem dX8_step_2 : decode cX8_step 2 = .ok (.invokevirtual 89, 3) := by decide +kernel
theorem dX8_step_5 : decode cX8_step 5 = .ok (.ifCond .eq 20, 3) := by decide +kernel
theorem dX8_step_8 : decode cX8_step 8 = .ok (.iload_n 2, 1) := by decide +kernel
theorem dX8_step_9 : decode cX8_step 9 = .ok (.iconst 1, 1) := by decide +kernel
theorem dX8_step_10 : decode cX8_step 10 = .ok (.bipush 59, 2) := by decide +kernel
theorem dX8_step_12 : decode cX8_step 12 = .ok (.invokestatic 75, 3) := by decide +kernel
theorem dX8_step_15 : decode cX8_step 15 = .ok (.ifCond .eq 10, 3) := by decide +kernel
theorem dX8_step_18 : decode cX8_step 18 = .ok (.iload_n 3, 1) := by decide +kernel
theorem dX8_step_19 : decode cX8_step 19 = .ok (.invokestatic 85, 3) := by decide +kernel
theorem dX8_step_22 : decode cX8_step 22 = .ok (.ifCond .ne 5, 3) := by decide +kernel
theorem dX8_step_25 : decode cX8_step 25 = .ok (.iconst (-1), 1) := by decide +kernel
theorem dX8_step_26 : decode cX8_step 26 = .ok (.ireturn, 1) := by decide +kernel
theorem dX8_step_27 : decode cX8_step 27 = .ok (.bipush 12, 2) := by decide +kernel
theorem dX8_step_29 : decode cX8_step 29 = .ok (.iload_n 1, 1) := by decide +kernel
theorem dX8_step_30 : decode cX8_step 30 = .ok (.imul, 1) := by decide +kernel
theorem dX8_step_31 : decode cX8_step 31 = .ok (.istore 4, 2) := by decide +kernel
theorem dX8_step_33 : decode cX8_step 33 = .ok (.iload 4, 2) := by decide +kernel
theorem dX8_step_35 : decode cX8_step 35 = .ok (.bipush 12, 2) := by decide +kernel
theorem dX8_step_37 : decode cX8_step 37 = .ok (.iload_n 1, 1) := by decide +kernel
theorem dX8_step_38 : decode cX8_step 38 = .ok (.imul, 1) := by decide +kernel
theorem dX8_step_39 : decode cX8_step 39 = .ok (.aload_n 0, 1) := by decide +kernel
theorem dX8_step_40 : decode cX8_step 40 = .ok (.getfield 13, 3) := by decide +kernel
theorem dX8_step_43 : decode cX8_step 43 = .ok (.iload_n 1, 1) := by decide +kernel
theorem dX8_step_44 : decode cX8_step 44 = .ok (.iaload, 1) := by decide +kernel
theorem dX8_step_45 : decode cX8_step 45 = .ok (.iadd, 1) := by decide +kernel
theorem dX8_step_46 : decode cX8_step 46 = .ok (.if_icmp .ge 35, 3) := by decide +kernel
theorem dX8_step_49 : decode cX8_step 49 = .ok (.aload_n 0, 1) := by decide +kernel
theorem dX8_step_50 : decode cX8_step 50 = .ok (.getfield 16, 3) := by decide +kernel
theorem dX8_step_53 : decode cX8_step 53 = .ok (.iload 4, 2) := by decide +kernel
theorem dX8_step_55 : decode cX8_step 55 = .ok (.iaload, 1) := by decide +kernel
theorem dX8_step_56 : decode cX8_step 56 = .ok (.iload_n 2, 1) := by decide +kernel
theorem dX8_step_57 : decode cX8_step 57 = .ok (.if_icmp .ne 18, 3) := by decide +kernel
theorem dX8_step_60 : decode cX8_step 60 = .ok (.aload_n 0, 1) := by decide +kernel
theorem dX8_step_61 : decode cX8_step 61 = .ok (.getfield 19, 3) := by decide +kernel
theorem dX8_step_64 : decode cX8_step 64 = .ok (.iload 4, 2) := by decide +kernel
theorem dX8_step_66 : decode cX8_step 66 = .ok (.iload_n 3, 1) := by decide +kernel
theorem dX8_step_67 : decode cX8_step 67 = .ok (.iastore, 1) := by decide +kernel
theorem dX8_step_68 : decode cX8_step 68 = .ok (.aload_n 0, 1) := by decide +kernel
theorem dX8_step_69 : decode cX8_step 69 = .ok (.getfield 13, 3) := by decide +kernel
theorem dX8_step_72 : decode cX8_step 72 = .ok (.iload_n 1, 1) := by decide +kernel
theorem dX8_step_73 : decode cX8_step 73 = .ok (.iaload, 1) := by decide +kernel
theorem dX8_step_74 : decode cX8_step 74 = .ok (.ireturn, 1) := by decide +kernel
theorem dX8_step_75 : decode cX8_step 75 = .ok (.iinc 4 1, 3) := by decide +kernel
theorem dX8_step_78 : decode cX8_step 78 = .ok (.goto (-45), 3) := by decide +kernel
theorem dX8_step_81 : decode cX8_step 81 = .ok (.aload_n 0, 1) := by decide +kernel
theorem dX8_step_82 : decode cX8_step 82 = .ok (.getfield 13, 3) := by decide +kernel
theorem dX8_step_85 : decode cX8_step 85 = .ok (.iload_n 1, 1) := by decide +kernel
theorem dX8_step_86 : decode cX8_step 86 = .ok (.iaload, 1) := by decide +kernel
theorem dX8_step_87 : decode cX8_step 87 = .ok (.bipush 12, 2) := by decide +kernel
theorem dX8_step_89 : decode cX8_step 89 = .ok (.if_icmp .ne 6, 3) := by decide +kernel
theorem dX8_step_92 : decode cX8_step 92 = .ok (.bipush (-2), 2) := by decide +kernel
theorem dX8_step_94 : decode cX8_step 94 = .ok (.ireturn, 1) := by decide +kernel
theorem dX8_step_95 : decode cX8_step 95 = .ok (.aload_n 0, 1) := by decide +kernel
theorem dX8_step_96 : decode cX8_step 96 = .ok (.getfield 16, 3) := by decide +kernel
theorem dX8_step_99 : decode cX8_step 99 = .ok (.bipush 12, 2) := by decide +kernel
theorem dX8_step_101 : decode cX8_step 101 = .ok (.iload_n 1, 1) := by decide +kernel
theorem dX8_step_102 : decode cX8_step 102 = .ok (.imul, 1) := by decide +kernel
theorem dX8_step_103 : decode cX8_step 103 = .ok (.aload_n 0, 1) := by decide +kernel
theorem dX8_step_104 : decode cX8_step 104 = .ok (.getfield 13, 3) := by decide +kernel
theorem dX8_step_107 : decode cX8_step 107 = .ok (.iload_n 1, 1) := by decide +kernel
theorem dX8_step_108 : decode cX8_step 108 = .ok (.iaload, 1) := by decide +kernel
theorem dX8_step_109 : decode cX8_step 109 = .ok (.iadd, 1) := by decide +kernel
theorem dX8_step_110 : decode cX8_step 110 = .ok (.iload_n 2, 1) := by decide +kernel
theorem dX8_step_111 : decode cX8_step 111 = .ok (.iastore, 1) := by decide +kernel
theorem dX8_step_112 : decode cX8_step 112 = .ok (.aload_n 0, 1) := by decide +kernel
theorem dX8_step_113 : decode cX8_step 113 = .ok (.getfield 19, 3) := by decide +kernel
theorem dX8_step_116 : decode cX8_step 116 = .ok (.bipush 12, 2) := by decide +kernel
theorem dX8_step_118 : decode cX8_step 118 = .ok (.iload_n 1, 1) := by decide +kernel
theorem dX8_step_119 : decode cX8_step 119 = .ok (.imul, 1) := by decide +kernel
theorem dX8_step_120 : decode cX8_step 120 = .ok (.aload_n 0, 1) := by decide +kernel
theorem dX8_step_121 : decode cX8_step 121 = .ok (.getfield 13, 3) := by decide +kernel
theorem dX8_step_124 : decode cX8_step 124 = .ok (.iload_n 1, 1) := by decide +kernel
theorem dX8_step_125 : decode cX8_step 125 = .ok (.iaload, 1) := by decide +kernel
theorem dX8_step_126 : decode cX8_step 126 = .ok (.iadd, 1) := by decide +kernel
theorem dX8_step_127 : decode cX8_step 127 = .ok (.iload_n 3, 1) := by decide +kernel
theorem dX8_step_128 : decode cX8_step 128 = .ok (.iastore, 1) := by decide +kernel
theorem dX8_step_129 : decode cX8_step 129 = .ok (.aload_n 0, 1) := by decide +kernel
theorem dX8_step_130 : decode cX8_step 130 = .ok (.getfield 13, 3) := by decide +kernel
theorem dX8_step_133 : decode cX8_step 133 = .ok (.iload_n 1, 1) := by decide +kernel
theorem dX8_step_134 : decode cX8_step 134 = .ok (.dup2, 1) := by decide +kernel
theorem dX8_step_135 : decode cX8_step 135 = .ok (.iaload, 1) := by decide +kernel
theorem dX8_step_136 : decode cX8_step 136 = .ok (.iconst 1, 1) := by decide +kernel
theorem dX8_step_137 : decode cX8_step 137 = .ok (.iadd, 1) := by decide +kernel
theorem dX8_step_138 : decode cX8_step 138 = .ok (.iastore, 1) := by decide +kernel
theorem dX8_step_139 : decode cX8_step 139 = .ok (.aload_n 0, 1) := by decide +kernel
theorem dX8_step_140 : decode cX8_step 140 = .ok (.getfield 13, 3) := by decide +kernel
theorem dX8_step_143 : decode cX8_step 143 = .ok (.iload_n 1, 1) := by decide +kernel
theorem dX8_step_144 : decode cX8_step 144 = .ok (.iaload, 1) := by decide +kernel
theorem dX8_step_145 : decode cX8_step 145 = .ok (.ireturn, 1) := by decide +kernel
theorem dX8_wall_0 : decode cX8_wall 0 = .ok (.iload_n 1, 1) := by decide +kernel
theorem dX8_wall_1 : decode cX8_wall 1 = .ok (.invokestatic 85, 3) := by decide +kernel
theorem dX8_wall_4 : decode cX8_wall 4 = .ok (.ifCond .eq 15, 3) := by decide +kernel
theorem dX8_wall_7 : decode cX8_wall 7 = .ok (.iload_n 2, 1) := by decide +kernel
theorem dX8_wall_8 : decode cX8_wall 8 = .ok (.invokestatic 85, 3) := by decide +kernel
theorem dX8_wall_11 : decode cX8_wall 11 = .ok (.ifCond .eq 8, 3) := by decide +kernel
theorem dX8_wall_14 : decode cX8_wall 14 = .ok (.iload_n 1, 1) := by decide +kernel
theorem dX8_wall_15 : decode cX8_wall 15 = .ok (.iload_n 2, 1) := by decide +kernel
theorem dX8_wall_16 : decode cX8_wall 16 = .ok (.if_icmp .ne 5, 3) := by decide +kernel
theorem dX8_wall_19 : decode cX8_wall 19 = .ok (.iconst (-1), 1) := by decide +kernel
theorem dX8_wall_20 : decode cX8_wall 20 = .ok (.ireturn, 1) := by decide +kernel
theorem dX8_wall_21 : decode cX8_wall 21 = .ok (.aload_n 0, 1) := by decide +kernel
theorem dX8_wall_22 : decode cX8_wall 22 = .ok (.getfield 92, 3) := by decide +kernel
theorem dX8_wall_25 : decode cX8_wall 25 = .ok (.bipush 12, 2) := by decide +kernel
theorem dX8_wall_27 : decode cX8_wall 27 = .ok (.if_icmp .ne 6, 3) := by decide +kernel
theorem dX8_wall_30 : decode cX8_wall 30 = .ok (.bipush (-2), 2) := by decide +kernel
theorem dX8_wall_32 : decode cX8_wall 32 = .ok (.ireturn, 1) := by decide +kernel
theorem dX8_wall_33 : decode cX8_wall 33 = .ok (.aload_n 0, 1) := by decide +kernel
theorem dX8_wall_34 : decode cX8_wall 34 = .ok (.getfield 22, 3) := by decide +kernel
theorem dX8_wall_37 : decode cX8_wall 37 = .ok (.aload_n 0, 1) := by decide +kernel
theorem dX8_wall_38 : decode cX8_wall 38 = .ok (.getfield 92, 3) := by decide +kernel
theorem dX8_wall_41 : decode cX8_wall 41 = .ok (.iload_n 1, 1) := by decide +kernel
theorem dX8_wall_42 : decode cX8_wall 42 = .ok (.iastore, 1) := by decide +kernel
theorem dX8_wall_43 : decode cX8_wall 43 = .ok (.aload_n 0, 1) := by decide +kernel
theorem dX8_wall_44 : decode cX8_wall 44 = .ok (.getfield 25, 3) := by decide +kernel
theorem dX8_wall_47 : decode cX8_wall 47 = .ok (.aload_n 0, 1) := by decide +kernel
theorem dX8_wall_48 : decode cX8_wall 48 = .ok (.getfield 92, 3) := by decide +kernel
theorem dX8_wall_51 : decode cX8_wall 51 = .ok (.iload_n 2, 1) := by decide +kernel
theorem dX8_wall_52 : decode cX8_wall 52 = .ok (.iastore, 1) := by decide +kernel
theorem dX8_wall_53 : decode cX8_wall 53 = .ok (.aload_n 0, 1) := by decide +kernel
theorem dX8_wall_54 : decode cX8_wall 54 = .ok (.dup, 1) := by decide +kernel
theorem dX8_wall_55 : decode cX8_wall 55 = .ok (.getfield 92, 3) := by decide +kernel
theorem dX8_wall_58 : decode cX8_wall 58 = .ok (.iconst 1, 1) := by decide +kernel
theorem dX8_wall_59 : decode cX8_wall 59 = .ok (.iadd, 1) := by decide +kernel
theorem dX8_wall_60 : decode cX8_wall 60 = .ok (.putfield 92, 3) := by decide +kernel
theorem dX8_wall_63 : decode cX8_wall 63 = .ok (.aload_n 0, 1) := by decide +kernel
theorem dX8_wall_64 : decode cX8_wall 64 = .ok (.getfield 92, 3) := by decide +kernel
theorem dX8_wall_67 : decode cX8_wall 67 = .ok (.iconst 1, 1) := by decide +kernel
theorem dX8_wall_68 : decode cX8_wall 68 = .ok (.isub, 1) := by decide +kernel
theorem dX8_wall_69 : decode cX8_wall 69 = .ok (.ireturn, 1) := by decide +kernel
theorem dX8_open_0 : decode cX8_open 0 = .ok (.aload_n 0, 1) := by decide +kernel
theorem dX8_open_1 : decode cX8_open 1 = .ok (.getfield 92, 3) := by decide +kernel
theorem dX8_open_4 : decode cX8_open 4 = .ok (.ifCond .ne 6, 3) := by decide +kernel
theorem dX8_open_7 : decode cX8_open 7 = .ok (.bipush (-3), 2) := by decide +kernel
theorem dX8_open_9 : decode cX8_open 9 = .ok (.ireturn, 1) := by decide +kernel
theorem dX8_open_10 : decode cX8_open 10 = .ok (.aload_n 0, 1) := by decide +kernel
theorem dX8_open_11 : decode cX8_open 11 = .ok (.dup, 1) := by decide +kernel
theorem dX8_open_12 : decode cX8_open 12 = .ok (.getfield 92, 3) := by decide +kernel
theorem dX8_open_15 : decode cX8_open 15 = .ok (.iconst 1, 1) := by decide +kernel
theorem dX8_open_16 : decode cX8_open 16 = .ok (.isub, 1) := by decide +kernel
theorem dX8_open_17 : decode cX8_open 17 = .ok (.putfield 92, 3) := by decide +kernel
theorem dX8_open_20 : decode cX8_open 20 = .ok (.aload_n 0, 1) := by decide +kernel
theorem dX8_open_21 : decode cX8_open 21 = .ok (.getfield 92, 3) := by decide +kernel
theorem dX8_open_24 : decode cX8_open 24 = .ok (.ireturn, 1) := by decide +kernel
theorem dX8_camera_0 : decode cX8_camera 0 = .ok (.iload_n 1, 1) := by decide +kernel
theorem dX8_camera_1 : decode cX8_camera 1 = .ok (.invokestatic 85, 3) := by decide +kernel
theorem dX8_camera_4 : decode cX8_camera 4 = .ok (.ifCond .eq 12, 3) := by decide +kernel
theorem dX8_camera_7 : decode cX8_camera 7 = .ok (.iload_n 2, 1) := by decide +kernel
theorem dX8_camera_8 : decode cX8_camera 8 = .ok (.iconst 0, 1) := by decide +kernel
theorem dX8_camera_9 : decode cX8_camera 9 = .ok (.iconst 3, 1) := by decide +kernel
theorem dX8_camera_10 : decode cX8_camera 10 = .ok (.invokestatic 75, 3) := by decide +kernel
theorem dX8_camera_13 : decode cX8_camera 13 = .ok (.ifCond .ne 5, 3) := by decide +kernel
theorem dX8_camera_16 : decode cX8_camera 16 = .ok (.iconst (-1), 1) := by decide +kernel
theorem dX8_camera_17 : decode cX8_camera 17 = .ok (.ireturn, 1) := by decide +kernel
theorem dX8_camera_18 : decode cX8_camera 18 = .ok (.aload_n 0, 1) := by decide +kernel
theorem dX8_camera_19 : decode cX8_camera 19 = .ok (.getfield 79, 3) := by decide +kernel
theorem dX8_camera_22 : decode cX8_camera 22 = .ok (.bipush 10, 2) := by decide +kernel
theorem dX8_camera_24 : decode cX8_camera 24 = .ok (.if_icmp .ne 6, 3) := by decide +kernel
theorem dX8_camera_27 : decode cX8_camera 27 = .ok (.bipush (-2), 2) := by decide +kernel
theorem dX8_camera_29 : decode cX8_camera 29 = .ok (.ireturn, 1) := by decide +kernel
theorem dX8_camera_30 : decode cX8_camera 30 = .ok (.aload_n 0, 1) := by decide +kernel
theorem dX8_camera_31 : decode cX8_camera 31 = .ok (.getfield 28, 3) := by decide +kernel
theorem dX8_camera_34 : decode cX8_camera 34 = .ok (.aload_n 0, 1) := by decide +kernel
theorem dX8_camera_35 : decode cX8_camera 35 = .ok (.getfield 79, 3) := by decide +kernel
theorem dX8_camera_38 : decode cX8_camera 38 = .ok (.iload_n 1, 1) := by decide +kernel
theorem dX8_camera_39 : decode cX8_camera 39 = .ok (.iastore, 1) := by decide +kernel
theorem dX8_camera_40 : decode cX8_camera 40 = .ok (.aload_n 0, 1) := by decide +kernel
theorem dX8_camera_41 : decode cX8_camera 41 = .ok (.getfield 31, 3) := by decide +kernel
theorem dX8_camera_44 : decode cX8_camera 44 = .ok (.aload_n 0, 1) := by decide +kernel
theorem dX8_camera_45 : decode cX8_camera 45 = .ok (.getfield 79, 3) := by decide +kernel
theorem dX8_camera_48 : decode cX8_camera 48 = .ok (.iload_n 2, 1) := by decide +kernel
theorem dX8_camera_49 : decode cX8_camera 49 = .ok (.iastore, 1) := by decide +kernel
theorem dX8_camera_50 : decode cX8_camera 50 = .ok (.aload_n 0, 1) := by decide +kernel
theorem dX8_camera_51 : decode cX8_camera 51 = .ok (.dup, 1) := by decide +kernel
theorem dX8_camera_52 : decode cX8_camera 52 = .ok (.getfield 79, 3) := by decide +kernel
theorem dX8_camera_55 : decode cX8_camera 55 = .ok (.iconst 1, 1) := by decide +kernel
theorem dX8_camera_56 : decode cX8_camera 56 = .ok (.iadd, 1) := by decide +kernel
theorem dX8_camera_57 : decode cX8_camera 57 = .ok (.putfield 79, 3) := by decide +kernel
theorem dX8_camera_60 : decode cX8_camera 60 = .ok (.aload_n 0, 1) := by decide +kernel
theorem dX8_camera_61 : decode cX8_camera 61 = .ok (.getfield 79, 3) := by decide +kernel
theorem dX8_camera_64 : decode cX8_camera 64 = .ok (.iconst 1, 1) := by decide +kernel
theorem dX8_camera_65 : decode cX8_camera 65 = .ok (.isub, 1) := by decide +kernel
theorem dX8_camera_66 : decode cX8_camera 66 = .ok (.ireturn, 1) := by decide +kernel
theorem dX8_board_0 : decode cX8_board 0 = .ok (.iload_n 1, 1) := by decide +kernel
theorem dX8_board_1 : decode cX8_board 1 = .ok (.sipush 1000, 3) := by decide +kernel
theorem dX8_board_4 : decode cX8_board 4 = .ok (.idiv, 1) := by decide +kernel
theorem dX8_board_5 : decode cX8_board 5 = .ok (.istore 5, 2) := by decide +kernel
theorem dX8_board_7 : decode cX8_board 7 = .ok (.iload_n 1, 1) := by decide +kernel
theorem dX8_board_8 : decode cX8_board 8 = .ok (.bipush 100, 2) := by decide +kernel
theorem dX8_board_10 : decode cX8_board 10 = .ok (.idiv, 1) := by decide +kernel
theorem dX8_board_11 : decode cX8_board 11 = .ok (.bipush 10, 2) := by decide +kernel
theorem dX8_board_13 : decode cX8_board 13 = .ok (.irem, 1) := by decide +kernel
theorem dX8_board_14 : decode cX8_board 14 = .ok (.istore 6, 2) := by decide +kernel
theorem dX8_board_16 : decode cX8_board 16 = .ok (.iload_n 1, 1) := by decide +kernel
theorem dX8_board_17 : decode cX8_board 17 = .ok (.bipush 100, 2) := by decide +kernel
theorem dX8_board_19 : decode cX8_board 19 = .ok (.irem, 1) := by decide +kernel
theorem dX8_board_20 : decode cX8_board 20 = .ok (.istore 7, 2) := by decide +kernel
theorem dX8_board_22 : decode cX8_board 22 = .ok (.iload_n 1, 1) := by decide +kernel
theorem dX8_board_23 : decode cX8_board 23 = .ok (.ifCond .lt 59, 3) := by decide +kernel
theorem dX8_board_26 : decode cX8_board 26 = .ok (.iload 5, 2) := by decide +kernel
theorem dX8_board_28 : decode cX8_board 28 = .ok (.iconst 0, 1) := by decide +kernel
theorem dX8_board_29 : decode cX8_board 29 = .ok (.iconst 2, 1) := by decide +kernel
theorem dX8_board_30 : decode cX8_board 30 = .ok (.invokestatic 75, 3) := by decide +kernel
theorem dX8_board_33 : decode cX8_board 33 = .ok (.ifCond .eq 49, 3) := by decide +kernel
theorem dX8_board_36 : decode cX8_board 36 = .ok (.aload_n 0, 1) := by decide +kernel
theorem dX8_board_37 : decode cX8_board 37 = .ok (.iload 6, 2) := by decide +kernel
theorem dX8_board_39 : decode cX8_board 39 = .ok (.invokevirtual 89, 3) := by decide +kernel
theorem dX8_board_42 : decode cX8_board 42 = .ok (.ifCond .eq 40, 3) := by decide +kernel
theorem dX8_board_45 : decode cX8_board 45 = .ok (.iload 7, 2) := by decide +kernel
theorem dX8_board_47 : decode cX8_board 47 = .ok (.iconst 1, 1) := by decide +kernel
theorem dX8_board_48 : decode cX8_board 48 = .ok (.aload_n 0, 1) := by decide +kernel
theorem dX8_board_49 : decode cX8_board 49 = .ok (.getfield 72, 3) := by decide +kernel
theorem dX8_board_52 : decode cX8_board 52 = .ok (.ishl, 1) := by decide +kernel
theorem dX8_board_53 : decode cX8_board 53 = .ok (.if_icmp .ge 29, 3) := by decide +kernel
theorem dX8_board_56 : decode cX8_board 56 = .ok (.iload_n 2, 1) := by decide +kernel
theorem dX8_board_57 : decode cX8_board 57 = .ok (.iconst 1, 1) := by decide +kernel
theorem dX8_board_58 : decode cX8_board 58 = .ok (.bipush 7, 2) := by decide +kernel
theorem dX8_board_60 : decode cX8_board 60 = .ok (.invokestatic 75, 3) := by decide +kernel
theorem dX8_board_63 : decode cX8_board 63 = .ok (.ifCond .eq 19, 3) := by decide +kernel
theorem dX8_board_66 : decode cX8_board 66 = .ok (.iload 4, 2) := by decide +kernel
theorem dX8_board_68 : decode cX8_board 68 = .ok (.iconst 0, 1) := by decide +kernel
theorem dX8_board_69 : decode cX8_board 69 = .ok (.sipush 200, 3) := by decide +kernel
theorem dX8_board_72 : decode cX8_board 72 = .ok (.invokestatic 75, 3) := by decide +kernel
theorem dX8_board_75 : decode cX8_board 75 = .ok (.ifCond .eq 7, 3) := by decide +kernel
theorem dX8_board_78 : decode cX8_board 78 = .ok (.iconst 1, 1) := by decide +kernel
theorem dX8_board_79 : decode cX8_board 79 = .ok (.goto 4, 3) := by decide +kernel
theorem dX8_board_82 : decode cX8_board 82 = .ok (.iconst 0, 1) := by decide +kernel
theorem dX8_board_83 : decode cX8_board 83 = .ok (.istore 8, 2) := by decide +kernel
theorem dX8_board_85 : decode cX8_board 85 = .ok (.iload 8, 2) := by decide +kernel
theorem dX8_board_87 : decode cX8_board 87 = .ok (.ifCond .eq 42, 3) := by decide +kernel
theorem dX8_board_90 : decode cX8_board 90 = .ok (.iload_n 3, 1) := by decide +kernel
theorem dX8_board_91 : decode cX8_board 91 = .ok (.ifCond .lt 38, 3) := by decide +kernel
theorem dX8_board_94 : decode cX8_board 94 = .ok (.iload_n 3, 1) := by decide +kernel
theorem dX8_board_95 : decode cX8_board 95 = .ok (.bipush 100, 2) := by decide +kernel
theorem dX8_board_97 : decode cX8_board 97 = .ok (.idiv, 1) := by decide +kernel
theorem dX8_board_98 : decode cX8_board 98 = .ok (.iload_n 3, 1) := by decide +kernel
theorem dX8_board_99 : decode cX8_board 99 = .ok (.bipush 100, 2) := by decide +kernel
theorem dX8_board_101 : decode cX8_board 101 = .ok (.irem, 1) := by decide +kernel
theorem dX8_board_102 : decode cX8_board 102 = .ok (.if_icmp .gt 27, 3) := by decide +kernel
theorem dX8_board_105 : decode cX8_board 105 = .ok (.iload_n 3, 1) := by decide +kernel
theorem dX8_board_106 : decode cX8_board 106 = .ok (.bipush 100, 2) := by decide +kernel
theorem dX8_board_108 : decode cX8_board 108 = .ok (.idiv, 1) := by decide +kernel
theorem dX8_board_109 : decode cX8_board 109 = .ok (.invokestatic 95, 3) := by decide +kernel
theorem dX8_board_112 : decode cX8_board 112 = .ok (.ifCond .eq 17, 3) := by decide +kernel
theorem dX8_board_115 : decode cX8_board 115 = .ok (.iload_n 3, 1) := by decide +kernel
theorem dX8_board_116 : decode cX8_board 116 = .ok (.bipush 100, 2) := by decide +kernel
theorem dX8_board_118 : decode cX8_board 118 = .ok (.irem, 1) := by decide +kernel
theorem dX8_board_119 : decode cX8_board 119 = .ok (.invokestatic 95, 3) := by decide +kernel
theorem dX8_board_122 : decode cX8_board 122 = .ok (.ifCond .eq 7, 3) := by decide +kernel
theorem dX8_board_125 : decode cX8_board 125 = .ok (.iconst 1, 1) := by decide +kernel
theorem dX8_board_126 : decode cX8_board 126 = .ok (.goto 4, 3) := by decide +kernel
theorem dX8_board_129 : decode cX8_board 129 = .ok (.iconst 0, 1) := by decide +kernel
theorem dX8_board_130 : decode cX8_board 130 = .ok (.istore 8, 2) := by decide +kernel
theorem dX8_board_132 : decode cX8_board 132 = .ok (.iload 8, 2) := by decide +kernel
theorem dX8_board_134 : decode cX8_board 134 = .ok (.ifCond .eq 25, 3) := by decide +kernel
theorem dX8_board_137 : decode cX8_board 137 = .ok (.iload 5, 2) := by decide +kernel
theorem dX8_board_139 : decode cX8_board 139 = .ok (.iconst 1, 1) := by decide +kernel
theorem dX8_board_140 : decode cX8_board 140 = .ok (.if_icmp .ne 15, 3) := by decide +kernel
theorem dX8_board_143 : decode cX8_board 143 = .ok (.iload 7, 2) := by decide +kernel
theorem dX8_board_145 : decode cX8_board 145 = .ok (.iconst 1, 1) := by decide +kernel
theorem dX8_board_146 : decode cX8_board 146 = .ok (.iload 6, 2) := by decide +kernel
theorem dX8_board_148 : decode cX8_board 148 = .ok (.ishl, 1) := by decide +kernel
theorem dX8_board_149 : decode cX8_board 149 = .ok (.iconst (-1), 1) := by decide +kernel
theorem dX8_board_150 : decode cX8_board 150 = .ok (.ixor, 1) := by decide +kernel
theorem dX8_board_151 : decode cX8_board 151 = .ok (.iand, 1) := by decide +kernel
theorem dX8_board_152 : decode cX8_board 152 = .ok (.ifCond .eq 7, 3) := by decide +kernel
theorem dX8_board_155 : decode cX8_board 155 = .ok (.iconst 1, 1) := by decide +kernel
theorem dX8_board_156 : decode cX8_board 156 = .ok (.goto 4, 3) := by decide +kernel
theorem dX8_board_159 : decode cX8_board 159 = .ok (.iconst 0, 1) := by decide +kernel
theorem dX8_board_160 : decode cX8_board 160 = .ok (.istore 8, 2) := by decide +kernel
theorem dX8_board_162 : decode cX8_board 162 = .ok (.iload 8, 2) := by decide +kernel
theorem dX8_board_164 : decode cX8_board 164 = .ok (.ifCond .ne 5, 3) := by decide +kernel
theorem dX8_board_167 : decode cX8_board 167 = .ok (.iconst (-1), 1) := by decide +kernel
theorem dX8_board_168 : decode cX8_board 168 = .ok (.ireturn, 1) := by decide +kernel
theorem dX8_board_169 : decode cX8_board 169 = .ok (.aload_n 0, 1) := by decide +kernel
theorem dX8_board_170 : decode cX8_board 170 = .ok (.getfield 82, 3) := by decide +kernel
theorem dX8_board_173 : decode cX8_board 173 = .ok (.bipush 8, 2) := by decide +kernel
theorem dX8_board_175 : decode cX8_board 175 = .ok (.if_icmp .ne 6, 3) := by decide +kernel
theorem dX8_board_178 : decode cX8_board 178 = .ok (.bipush (-2), 2) := by decide +kernel
theorem dX8_board_180 : decode cX8_board 180 = .ok (.ireturn, 1) := by decide +kernel
theorem dX8_board_181 : decode cX8_board 181 = .ok (.aload_n 0, 1) := by decide +kernel
theorem dX8_board_182 : decode cX8_board 182 = .ok (.getfield 34, 3) := by decide +kernel
theorem dX8_board_185 : decode cX8_board 185 = .ok (.aload_n 0, 1) := by decide +kernel
theorem dX8_board_186 : decode cX8_board 186 = .ok (.getfield 82, 3) := by decide +kernel
theorem dX8_board_189 : decode cX8_board 189 = .ok (.iload 5, 2) := by decide +kernel
theorem dX8_board_191 : decode cX8_board 191 = .ok (.iastore, 1) := by decide +kernel
theorem dX8_board_192 : decode cX8_board 192 = .ok (.aload_n 0, 1) := by decide +kernel
theorem dX8_board_193 : decode cX8_board 193 = .ok (.getfield 37, 3) := by decide +kernel
theorem dX8_board_196 : decode cX8_board 196 = .ok (.aload_n 0, 1) := by decide +kernel
theorem dX8_board_197 : decode cX8_board 197 = .ok (.getfield 82, 3) := by decide +kernel
theorem dX8_board_200 : decode cX8_board 200 = .ok (.iload 6, 2) := by decide +kernel
theorem dX8_board_202 : decode cX8_board 202 = .ok (.iastore, 1) := by decide +kernel
theorem dX8_board_203 : decode cX8_board 203 = .ok (.aload_n 0, 1) := by decide +kernel
theorem dX8_board_204 : decode cX8_board 204 = .ok (.getfield 40, 3) := by decide +kernel
theorem dX8_board_207 : decode cX8_board 207 = .ok (.aload_n 0, 1) := by decide +kernel
theorem dX8_board_208 : decode cX8_board 208 = .ok (.getfield 82, 3) := by decide +kernel
theorem dX8_board_211 : decode cX8_board 211 = .ok (.iload 7, 2) := by decide +kernel
theorem dX8_board_213 : decode cX8_board 213 = .ok (.iconst 1, 1) := by decide +kernel
theorem dX8_board_214 : decode cX8_board 214 = .ok (.iload 6, 2) := by decide +kernel
theorem dX8_board_216 : decode cX8_board 216 = .ok (.ishl, 1) := by decide +kernel
theorem dX8_board_217 : decode cX8_board 217 = .ok (.ior, 1) := by decide +kernel
theorem dX8_board_218 : decode cX8_board 218 = .ok (.iastore, 1) := by decide +kernel
theorem dX8_board_219 : decode cX8_board 219 = .ok (.aload_n 0, 1) := by decide +kernel
theorem dX8_board_220 : decode cX8_board 220 = .ok (.getfield 43, 3) := by decide +kernel
theorem dX8_board_223 : decode cX8_board 223 = .ok (.aload_n 0, 1) := by decide +kernel
theorem dX8_board_224 : decode cX8_board 224 = .ok (.getfield 82, 3) := by decide +kernel
theorem dX8_board_227 : decode cX8_board 227 = .ok (.iload_n 2, 1) := by decide +kernel
theorem dX8_board_228 : decode cX8_board 228 = .ok (.iastore, 1) := by decide +kernel
theorem dX8_board_229 : decode cX8_board 229 = .ok (.aload_n 0, 1) := by decide +kernel
theorem dX8_board_230 : decode cX8_board 230 = .ok (.getfield 46, 3) := by decide +kernel
theorem dX8_board_233 : decode cX8_board 233 = .ok (.aload_n 0, 1) := by decide +kernel
theorem dX8_board_234 : decode cX8_board 234 = .ok (.getfield 82, 3) := by decide +kernel
theorem dX8_board_237 : decode cX8_board 237 = .ok (.iload_n 3, 1) := by decide +kernel
theorem dX8_board_238 : decode cX8_board 238 = .ok (.bipush 100, 2) := by decide +kernel
theorem dX8_board_240 : decode cX8_board 240 = .ok (.idiv, 1) := by decide +kernel
theorem dX8_board_241 : decode cX8_board 241 = .ok (.iastore, 1) := by decide +kernel
theorem dX8_board_242 : decode cX8_board 242 = .ok (.aload_n 0, 1) := by decide +kernel
theorem dX8_board_243 : decode cX8_board 243 = .ok (.getfield 49, 3) := by decide +kernel
theorem dX8_board_246 : decode cX8_board 246 = .ok (.aload_n 0, 1) := by decide +kernel
theorem dX8_board_247 : decode cX8_board 247 = .ok (.getfield 82, 3) := by decide +kernel
theorem dX8_board_250 : decode cX8_board 250 = .ok (.iload_n 3, 1) := by decide +kernel
theorem dX8_board_251 : decode cX8_board 251 = .ok (.bipush 100, 2) := by decide +kernel
theorem dX8_board_253 : decode cX8_board 253 = .ok (.irem, 1) := by decide +kernel
theorem dX8_board_254 : decode cX8_board 254 = .ok (.iastore, 1) := by decide +kernel
theorem dX8_board_255 : decode cX8_board 255 = .ok (.aload_n 0, 1) := by decide +kernel
theorem dX8_board_256 : decode cX8_board 256 = .ok (.getfield 52, 3) := by decide +kernel
theorem dX8_board_259 : decode cX8_board 259 = .ok (.aload_n 0, 1) := by decide +kernel
theorem dX8_board_260 : decode cX8_board 260 = .ok (.getfield 82, 3) := by decide +kernel
theorem dX8_board_263 : decode cX8_board 263 = .ok (.iload 4, 2) := by decide +kernel
theorem dX8_board_265 : decode cX8_board 265 = .ok (.iastore, 1) := by decide +kernel
theorem dX8_board_266 : decode cX8_board 266 = .ok (.aload_n 0, 1) := by decide +kernel
theorem dX8_board_267 : decode cX8_board 267 = .ok (.dup, 1) := by decide +kernel
theorem dX8_board_268 : decode cX8_board 268 = .ok (.getfield 82, 3) := by decide +kernel
theorem dX8_board_271 : decode cX8_board 271 = .ok (.iconst 1, 1) := by decide +kernel
theorem dX8_board_272 : decode cX8_board 272 = .ok (.iadd, 1) := by decide +kernel
theorem dX8_board_273 : decode cX8_board 273 = .ok (.putfield 82, 3) := by decide +kernel
theorem dX8_board_276 : decode cX8_board 276 = .ok (.aload_n 0, 1) := by decide +kernel
theorem dX8_board_277 : decode cX8_board 277 = .ok (.getfield 82, 3) := by decide +kernel
theorem dX8_board_280 : decode cX8_board 280 = .ok (.iconst 1, 1) := by decide +kernel
theorem dX8_board_281 : decode cX8_board 281 = .ok (.isub, 1) := by decide +kernel
theorem dX8_board_282 : decode cX8_board 282 = .ok (.ireturn, 1) := by decide +kernel
theorem dX8_drop_0 : decode cX8_drop 0 = .ok (.aload_n 0, 1) := by decide +kernel
theorem dX8_drop_1 : decode cX8_drop 1 = .ok (.getfield 82, 3) := by decide +kernel
theorem dX8_drop_4 : decode cX8_drop 4 = .ok (.ifCond .ne 6, 3) := by decide +kernel
theorem dX8_drop_7 : decode cX8_drop 7 = .ok (.bipush (-3), 2) := by decide +kernel
theorem dX8_drop_9 : decode cX8_drop 9 = .ok (.ireturn, 1) := by decide +kernel
theorem dX8_drop_10 : decode cX8_drop 10 = .ok (.aload_n 0, 1) := by decide +kernel
theorem dX8_drop_11 : decode cX8_drop 11 = .ok (.dup, 1) := by decide +kernel
theorem dX8_drop_12 : decode cX8_drop 12 = .ok (.getfield 82, 3) := by decide +kernel
theorem dX8_drop_15 : decode cX8_drop 15 = .ok (.iconst 1, 1) := by decide +kernel
theorem dX8_drop_16 : decode cX8_drop 16 = .ok (.isub, 1) := by decide +kernel
theorem dX8_drop_17 : decode cX8_drop 17 = .ok (.putfield 82, 3) := by decide +kernel
theorem dX8_drop_20 : decode cX8_drop 20 = .ok (.aload_n 0, 1) := by decide +kernel
theorem dX8_drop_21 : decode cX8_drop 21 = .ok (.getfield 82, 3) := by decide +kernel
theorem dX8_drop_24 : decode cX8_drop 24 = .ok (.ireturn, 1) := by decide +kernel
theorem dX8_rate_0 : decode cX8_rate 0 = .ok (.iload_n 1, 1) := by decide +kernel
theorem dX8_rate_1 : decode cX8_rate 1 = .ok (.iconst 1, 1) := by decide +kernel
theorem dX8_rate_2 : decode cX8_rate 2 = .ok (.bipush 20, 2) := by decide +kernel
theorem dX8_rate_4 : decode cX8_rate 4 = .ok (.invokestatic 75, 3) := by decide +kernel
theorem dX8_rate_7 : decode cX8_rate 7 = .ok (.ifCond .ne 5, 3) := by decide +kernel
theorem dX8_rate_10 : decode cX8_rate 10 = .ok (.iconst (-1), 1) := by decide +kernel
theorem dX8_rate_11 : decode cX8_rate 11 = .ok (.ireturn, 1) := by decide +kernel
theorem dX8_rate_12 : decode cX8_rate 12 = .ok (.aload_n 0, 1) := by decide +kernel
theorem dX8_rate_13 : decode cX8_rate 13 = .ok (.getfield 55, 3) := by decide +kernel
theorem dX8_rate_16 : decode cX8_rate 16 = .ok (.istore_n 2, 1) := by decide +kernel
theorem dX8_rate_17 : decode cX8_rate 17 = .ok (.aload_n 0, 1) := by decide +kernel
theorem dX8_rate_18 : decode cX8_rate 18 = .ok (.iload_n 1, 1) := by decide +kernel
theorem dX8_rate_19 : decode cX8_rate 19 = .ok (.putfield 55, 3) := by decide +kernel
theorem dX8_rate_22 : decode cX8_rate 22 = .ok (.iload_n 2, 1) := by decide +kernel
theorem dX8_rate_23 : decode cX8_rate 23 = .ok (.ireturn, 1) := by decide +kernel
theorem dX8_placeOf_0 : decode cX8_placeOf 0 = .ok (.iconst 0, 1) := by decide +kernel
theorem dX8_placeOf_1 : decode cX8_placeOf 1 = .ok (.istore_n 3, 1) := by decide +kernel
theorem dX8_placeOf_2 : decode cX8_placeOf 2 = .ok (.aload_n 0, 1) := by decide +kernel
theorem dX8_placeOf_3 : decode cX8_placeOf 3 = .ok (.getfield 7, 3) := by decide +kernel
theorem dX8_placeOf_6 : decode cX8_placeOf 6 = .ok (.iload_n 1, 1) := by decide +kernel
theorem dX8_placeOf_7 : decode cX8_placeOf 7 = .ok (.iaload, 1) := by decide +kernel
theorem dX8_placeOf_8 : decode cX8_placeOf 8 = .ok (.istore 4, 2) := by decide +kernel
theorem dX8_placeOf_10 : decode cX8_placeOf 10 = .ok (.bipush 12, 2) := by decide +kernel
theorem dX8_placeOf_12 : decode cX8_placeOf 12 = .ok (.iload_n 1, 1) := by decide +kernel
theorem dX8_placeOf_13 : decode cX8_placeOf 13 = .ok (.imul, 1) := by decide +kernel
theorem dX8_placeOf_14 : decode cX8_placeOf 14 = .ok (.istore 5, 2) := by decide +kernel
theorem dX8_placeOf_16 : decode cX8_placeOf 16 = .ok (.iload 5, 2) := by decide +kernel
theorem dX8_placeOf_18 : decode cX8_placeOf 18 = .ok (.bipush 12, 2) := by decide +kernel
theorem dX8_placeOf_20 : decode cX8_placeOf 20 = .ok (.iload_n 1, 1) := by decide +kernel
theorem dX8_placeOf_21 : decode cX8_placeOf 21 = .ok (.imul, 1) := by decide +kernel
theorem dX8_placeOf_22 : decode cX8_placeOf 22 = .ok (.aload_n 0, 1) := by decide +kernel
theorem dX8_placeOf_23 : decode cX8_placeOf 23 = .ok (.getfield 13, 3) := by decide +kernel
theorem dX8_placeOf_26 : decode cX8_placeOf 26 = .ok (.iload_n 1, 1) := by decide +kernel
theorem dX8_placeOf_27 : decode cX8_placeOf 27 = .ok (.iaload, 1) := by decide +kernel
theorem dX8_placeOf_28 : decode cX8_placeOf 28 = .ok (.iadd, 1) := by decide +kernel
theorem dX8_placeOf_29 : decode cX8_placeOf 29 = .ok (.if_icmp .ge 48, 3) := by decide +kernel
theorem dX8_placeOf_32 : decode cX8_placeOf 32 = .ok (.aload_n 0, 1) := by decide +kernel
theorem dX8_placeOf_33 : decode cX8_placeOf 33 = .ok (.getfield 16, 3) := by decide +kernel
theorem dX8_placeOf_36 : decode cX8_placeOf 36 = .ok (.iload 5, 2) := by decide +kernel
theorem dX8_placeOf_38 : decode cX8_placeOf 38 = .ok (.iaload, 1) := by decide +kernel
theorem dX8_placeOf_39 : decode cX8_placeOf 39 = .ok (.iload_n 2, 1) := by decide +kernel
theorem dX8_placeOf_40 : decode cX8_placeOf 40 = .ok (.if_icmp .gt 31, 3) := by decide +kernel
theorem dX8_placeOf_43 : decode cX8_placeOf 43 = .ok (.aload_n 0, 1) := by decide +kernel
theorem dX8_placeOf_44 : decode cX8_placeOf 44 = .ok (.getfield 16, 3) := by decide +kernel
theorem dX8_placeOf_47 : decode cX8_placeOf 47 = .ok (.iload 5, 2) := by decide +kernel
theorem dX8_placeOf_49 : decode cX8_placeOf 49 = .ok (.iaload, 1) := by decide +kernel
theorem dX8_placeOf_50 : decode cX8_placeOf 50 = .ok (.iload_n 3, 1) := by decide +kernel
theorem dX8_placeOf_51 : decode cX8_placeOf 51 = .ok (.if_icmp .le 20, 3) := by decide +kernel
theorem dX8_placeOf_54 : decode cX8_placeOf 54 = .ok (.aload_n 0, 1) := by decide +kernel
theorem dX8_placeOf_55 : decode cX8_placeOf 55 = .ok (.getfield 16, 3) := by decide +kernel
theorem dX8_placeOf_58 : decode cX8_placeOf 58 = .ok (.iload 5, 2) := by decide +kernel
theorem dX8_placeOf_60 : decode cX8_placeOf 60 = .ok (.iaload, 1) := by decide +kernel
theorem dX8_placeOf_61 : decode cX8_placeOf 61 = .ok (.istore_n 3, 1) := by decide +kernel
theorem dX8_placeOf_62 : decode cX8_placeOf 62 = .ok (.aload_n 0, 1) := by decide +kernel
theorem dX8_placeOf_63 : decode cX8_placeOf 63 = .ok (.getfield 19, 3) := by decide +kernel
theorem dX8_placeOf_66 : decode cX8_placeOf 66 = .ok (.iload 5, 2) := by decide +kernel
theorem dX8_placeOf_68 : decode cX8_placeOf 68 = .ok (.iaload, 1) := by decide +kernel
theorem dX8_placeOf_69 : decode cX8_placeOf 69 = .ok (.istore 4, 2) := by decide +kernel
theorem dX8_placeOf_71 : decode cX8_placeOf 71 = .ok (.iinc 5 1, 3) := by decide +kernel
theorem dX8_placeOf_74 : decode cX8_placeOf 74 = .ok (.goto (-58), 3) := by decide +kernel
theorem dX8_placeOf_77 : decode cX8_placeOf 77 = .ok (.iload 4, 2) := by decide +kernel
theorem dX8_placeOf_79 : decode cX8_placeOf 79 = .ok (.ireturn, 1) := by decide +kernel
theorem dX8_where_0 : decode cX8_where 0 = .ok (.aload_n 0, 1) := by decide +kernel
theorem dX8_where_1 : decode cX8_where 1 = .ok (.iload_n 1, 1) := by decide +kernel
theorem dX8_where_2 : decode cX8_where 2 = .ok (.invokevirtual 89, 3) := by decide +kernel
theorem dX8_where_5 : decode cX8_where 5 = .ok (.ifCond .eq 19, 3) := by decide +kernel
theorem dX8_where_8 : decode cX8_where 8 = .ok (.iload_n 2, 1) := by decide +kernel
theorem dX8_where_9 : decode cX8_where 9 = .ok (.invokestatic 95, 3) := by decide +kernel
theorem dX8_where_12 : decode cX8_where 12 = .ok (.ifCond .eq 12, 3) := by decide +kernel
theorem dX8_where_15 : decode cX8_where 15 = .ok (.aload_n 0, 1) := by decide +kernel
theorem dX8_where_16 : decode cX8_where 16 = .ok (.iload_n 1, 1) := by decide +kernel
theorem dX8_where_17 : decode cX8_where 17 = .ok (.iload_n 2, 1) := by decide +kernel
theorem dX8_where_18 : decode cX8_where 18 = .ok (.invokevirtual 98, 3) := by decide +kernel
theorem dX8_where_21 : decode cX8_where 21 = .ok (.goto 4, 3) := by decide +kernel
theorem dX8_where_24 : decode cX8_where 24 = .ok (.iconst (-1), 1) := by decide +kernel
theorem dX8_where_25 : decode cX8_where 25 = .ok (.ireturn, 1) := by decide +kernel
theorem dX8_x_0 : decode cX8_x 0 = .ok (.iload_n 0, 1) := by decide +kernel
theorem dX8_x_1 : decode cX8_x 1 = .ok (.bipush 100, 2) := by decide +kernel
theorem dX8_x_3 : decode cX8_x 3 = .ok (.idiv, 1) := by decide +kernel
theorem dX8_x_4 : decode cX8_x 4 = .ok (.ireturn, 1) := by decide +kernel
theorem dX8_y_0 : decode cX8_y 0 = .ok (.iload_n 0, 1) := by decide +kernel
theorem dX8_y_1 : decode cX8_y 1 = .ok (.bipush 100, 2) := by decide +kernel
theorem dX8_y_3 : decode cX8_y 3 = .ok (.irem, 1) := by decide +kernel
theorem dX8_y_4 : decode cX8_y 4 = .ok (.ireturn, 1) := by decide +kernel
theorem dX8_turn_0 : decode cX8_turn 0 = .ok (.iload_n 1, 1) := by decide +kernel
theorem dX8_turn_1 : decode cX8_turn 1 = .ok (.invokestatic 102, 3) := by decide +kernel
theorem dX8_turn_4 : decode cX8_turn 4 = .ok (.iload_n 0, 1) := by decide +kernel
theorem dX8_turn_5 : decode cX8_turn 5 = .ok (.invokestatic 102, 3) := by decide +kernel
theorem dX8_turn_8 : decode cX8_turn 8 = .ok (.isub, 1) := by decide +kernel
theorem dX8_turn_9 : decode cX8_turn 9 = .ok (.iload_n 2, 1) := by decide +kernel
theorem dX8_turn_10 : decode cX8_turn 10 = .ok (.invokestatic 106, 3) := by decide +kernel
theorem dX8_turn_13 : decode cX8_turn 13 = .ok (.iload_n 0, 1) := by decide +kernel
theorem dX8_turn_14 : decode cX8_turn 14 = .ok (.invokestatic 106, 3) := by decide +kernel
theorem dX8_turn_17 : decode cX8_turn 17 = .ok (.isub, 1) := by decide +kernel
theorem dX8_turn_18 : decode cX8_turn 18 = .ok (.imul, 1) := by decide +kernel
theorem dX8_turn_19 : decode cX8_turn 19 = .ok (.iload_n 1, 1) := by decide +kernel
theorem dX8_turn_20 : decode cX8_turn 20 = .ok (.invokestatic 106, 3) := by decide +kernel
theorem dX8_turn_23 : decode cX8_turn 23 = .ok (.iload_n 0, 1) := by decide +kernel
theorem dX8_turn_24 : decode cX8_turn 24 = .ok (.invokestatic 106, 3) := by decide +kernel
theorem dX8_turn_27 : decode cX8_turn 27 = .ok (.isub, 1) := by decide +kernel
theorem dX8_turn_28 : decode cX8_turn 28 = .ok (.iload_n 2, 1) := by decide +kernel
theorem dX8_turn_29 : decode cX8_turn 29 = .ok (.invokestatic 102, 3) := by decide +kernel
theorem dX8_turn_32 : decode cX8_turn 32 = .ok (.iload_n 0, 1) := by decide +kernel
theorem dX8_turn_33 : decode cX8_turn 33 = .ok (.invokestatic 102, 3) := by decide +kernel
theorem dX8_turn_36 : decode cX8_turn 36 = .ok (.isub, 1) := by decide +kernel
theorem dX8_turn_37 : decode cX8_turn 37 = .ok (.imul, 1) := by decide +kernel
theorem dX8_turn_38 : decode cX8_turn 38 = .ok (.isub, 1) := by decide +kernel
theorem dX8_turn_39 : decode cX8_turn 39 = .ok (.istore_n 3, 1) := by decide +kernel
theorem dX8_turn_40 : decode cX8_turn 40 = .ok (.iload_n 3, 1) := by decide +kernel
theorem dX8_turn_41 : decode cX8_turn 41 = .ok (.ifCond .le 7, 3) := by decide +kernel
theorem dX8_turn_44 : decode cX8_turn 44 = .ok (.iconst 1, 1) := by decide +kernel
theorem dX8_turn_45 : decode cX8_turn 45 = .ok (.goto 12, 3) := by decide +kernel
theorem dX8_turn_48 : decode cX8_turn 48 = .ok (.iload_n 3, 1) := by decide +kernel
theorem dX8_turn_49 : decode cX8_turn 49 = .ok (.ifCond .ge 7, 3) := by decide +kernel
theorem dX8_turn_52 : decode cX8_turn 52 = .ok (.iconst (-1), 1) := by decide +kernel
theorem dX8_turn_53 : decode cX8_turn 53 = .ok (.goto 4, 3) := by decide +kernel
theorem dX8_turn_56 : decode cX8_turn 56 = .ok (.iconst 0, 1) := by decide +kernel
theorem dX8_turn_57 : decode cX8_turn 57 = .ok (.ireturn, 1) := by decide +kernel
theorem dX8_isBetween_0 : decode cX8_isBetween 0 = .ok (.iload_n 1, 1) := by decide +kernel
theorem dX8_isBetween_1 : decode cX8_isBetween 1 = .ok (.iload_n 2, 1) := by decide +kernel
theorem dX8_isBetween_2 : decode cX8_isBetween 2 = .ok (.if_icmp .ge 12, 3) := by decide +kernel
theorem dX8_isBetween_5 : decode cX8_isBetween 5 = .ok (.iload_n 0, 1) := by decide +kernel
theorem dX8_isBetween_6 : decode cX8_isBetween 6 = .ok (.iload_n 1, 1) := by decide +kernel
theorem dX8_isBetween_7 : decode cX8_isBetween 7 = .ok (.iload_n 2, 1) := by decide +kernel
theorem dX8_isBetween_8 : decode cX8_isBetween 8 = .ok (.invokestatic 75, 3) := by decide +kernel
theorem dX8_isBetween_11 : decode cX8_isBetween 11 = .ok (.goto 9, 3) := by decide +kernel
theorem dX8_isBetween_14 : decode cX8_isBetween 14 = .ok (.iload_n 0, 1) := by decide +kernel
theorem dX8_isBetween_15 : decode cX8_isBetween 15 = .ok (.iload_n 2, 1) := by decide +kernel
theorem dX8_isBetween_16 : decode cX8_isBetween 16 = .ok (.iload_n 1, 1) := by decide +kernel
theorem dX8_isBetween_17 : decode cX8_isBetween 17 = .ok (.invokestatic 75, 3) := by decide +kernel
theorem dX8_isBetween_20 : decode cX8_isBetween 20 = .ok (.ireturn, 1) := by decide +kernel
theorem dX8_isOn_0 : decode cX8_isOn 0 = .ok (.iload_n 1, 1) := by decide +kernel
theorem dX8_isOn_1 : decode cX8_isOn 1 = .ok (.iload_n 2, 1) := by decide +kernel
theorem dX8_isOn_2 : decode cX8_isOn 2 = .ok (.iload_n 0, 1) := by decide +kernel
theorem dX8_isOn_3 : decode cX8_isOn 3 = .ok (.invokestatic 109, 3) := by decide +kernel
theorem dX8_isOn_6 : decode cX8_isOn 6 = .ok (.ifCond .ne 43, 3) := by decide +kernel
theorem dX8_isOn_9 : decode cX8_isOn 9 = .ok (.iload_n 0, 1) := by decide +kernel
theorem dX8_isOn_10 : decode cX8_isOn 10 = .ok (.invokestatic 102, 3) := by decide +kernel
theorem dX8_isOn_13 : decode cX8_isOn 13 = .ok (.iload_n 1, 1) := by decide +kernel
theorem dX8_isOn_14 : decode cX8_isOn 14 = .ok (.invokestatic 102, 3) := by decide +kernel
theorem dX8_isOn_17 : decode cX8_isOn 17 = .ok (.iload_n 2, 1) := by decide +kernel
theorem dX8_isOn_18 : decode cX8_isOn 18 = .ok (.invokestatic 102, 3) := by decide +kernel
theorem dX8_isOn_21 : decode cX8_isOn 21 = .ok (.invokestatic 113, 3) := by decide +kernel
theorem dX8_isOn_24 : decode cX8_isOn 24 = .ok (.ifCond .eq 25, 3) := by decide +kernel
theorem dX8_isOn_27 : decode cX8_isOn 27 = .ok (.iload_n 0, 1) := by decide +kernel
theorem dX8_isOn_28 : decode cX8_isOn 28 = .ok (.invokestatic 106, 3) := by decide +kernel
theorem dX8_isOn_31 : decode cX8_isOn 31 = .ok (.iload_n 1, 1) := by decide +kernel
theorem dX8_isOn_32 : decode cX8_isOn 32 = .ok (.invokestatic 106, 3) := by decide +kernel
theorem dX8_isOn_35 : decode cX8_isOn 35 = .ok (.iload_n 2, 1) := by decide +kernel
theorem dX8_isOn_36 : decode cX8_isOn 36 = .ok (.invokestatic 106, 3) := by decide +kernel
theorem dX8_isOn_39 : decode cX8_isOn 39 = .ok (.invokestatic 113, 3) := by decide +kernel
theorem dX8_isOn_42 : decode cX8_isOn 42 = .ok (.ifCond .eq 7, 3) := by decide +kernel
theorem dX8_isOn_45 : decode cX8_isOn 45 = .ok (.iconst 1, 1) := by decide +kernel
theorem dX8_isOn_46 : decode cX8_isOn 46 = .ok (.goto 4, 3) := by decide +kernel
theorem dX8_isOn_49 : decode cX8_isOn 49 = .ok (.iconst 0, 1) := by decide +kernel
theorem dX8_isOn_50 : decode cX8_isOn 50 = .ok (.ireturn, 1) := by decide +kernel
theorem dX8_meet_0 : decode cX8_meet 0 = .ok (.iload_n 0, 1) := by decide +kernel
theorem dX8_meet_1 : decode cX8_meet 1 = .ok (.iload_n 1, 1) := by decide +kernel
theorem dX8_meet_2 : decode cX8_meet 2 = .ok (.iload_n 2, 1) := by decide +kernel
theorem dX8_meet_3 : decode cX8_meet 3 = .ok (.invokestatic 109, 3) := by decide +kernel
theorem dX8_meet_6 : decode cX8_meet 6 = .ok (.iload_n 0, 1) := by decide +kernel
theorem dX8_meet_7 : decode cX8_meet 7 = .ok (.iload_n 1, 1) := by decide +kernel
theorem dX8_meet_8 : decode cX8_meet 8 = .ok (.iload_n 3, 1) := by decide +kernel
theorem dX8_meet_9 : decode cX8_meet 9 = .ok (.invokestatic 109, 3) := by decide +kernel
theorem dX8_meet_12 : decode cX8_meet 12 = .ok (.imul, 1) := by decide +kernel
theorem dX8_meet_13 : decode cX8_meet 13 = .ok (.ifCond .ge 23, 3) := by decide +kernel
theorem dX8_meet_16 : decode cX8_meet 16 = .ok (.iload_n 2, 1) := by decide +kernel
theorem dX8_meet_17 : decode cX8_meet 17 = .ok (.iload_n 3, 1) := by decide +kernel
theorem dX8_meet_18 : decode cX8_meet 18 = .ok (.iload_n 0, 1) := by decide +kernel
theorem dX8_meet_19 : decode cX8_meet 19 = .ok (.invokestatic 109, 3) := by decide +kernel
theorem dX8_meet_22 : decode cX8_meet 22 = .ok (.iload_n 2, 1) := by decide +kernel
theorem dX8_meet_23 : decode cX8_meet 23 = .ok (.iload_n 3, 1) := by decide +kernel
theorem dX8_meet_24 : decode cX8_meet 24 = .ok (.iload_n 1, 1) := by decide +kernel
theorem dX8_meet_25 : decode cX8_meet 25 = .ok (.invokestatic 109, 3) := by decide +kernel
theorem dX8_meet_28 : decode cX8_meet 28 = .ok (.imul, 1) := by decide +kernel
theorem dX8_meet_29 : decode cX8_meet 29 = .ok (.ifCond .ge 7, 3) := by decide +kernel
theorem dX8_meet_32 : decode cX8_meet 32 = .ok (.iconst 1, 1) := by decide +kernel
theorem dX8_meet_33 : decode cX8_meet 33 = .ok (.goto 4, 3) := by decide +kernel
theorem dX8_meet_36 : decode cX8_meet 36 = .ok (.iconst 0, 1) := by decide +kernel
theorem dX8_meet_37 : decode cX8_meet 37 = .ok (.istore 4, 2) := by decide +kernel
theorem dX8_meet_39 : decode cX8_meet 39 = .ok (.iload 4, 2) := by decide +kernel
theorem dX8_meet_41 : decode cX8_meet 41 = .ok (.ifCond .ne 39, 3) := by decide +kernel
theorem dX8_meet_44 : decode cX8_meet 44 = .ok (.iload_n 2, 1) := by decide +kernel
theorem dX8_meet_45 : decode cX8_meet 45 = .ok (.iload_n 0, 1) := by decide +kernel
theorem dX8_meet_46 : decode cX8_meet 46 = .ok (.iload_n 1, 1) := by decide +kernel
theorem dX8_meet_47 : decode cX8_meet 47 = .ok (.invokestatic 116, 3) := by decide +kernel
theorem dX8_meet_50 : decode cX8_meet 50 = .ok (.ifCond .ne 30, 3) := by decide +kernel
theorem dX8_meet_53 : decode cX8_meet 53 = .ok (.iload_n 3, 1) := by decide +kernel
theorem dX8_meet_54 : decode cX8_meet 54 = .ok (.iload_n 0, 1) := by decide +kernel
theorem dX8_meet_55 : decode cX8_meet 55 = .ok (.iload_n 1, 1) := by decide +kernel
theorem dX8_meet_56 : decode cX8_meet 56 = .ok (.invokestatic 116, 3) := by decide +kernel
theorem dX8_meet_59 : decode cX8_meet 59 = .ok (.ifCond .ne 21, 3) := by decide +kernel
theorem dX8_meet_62 : decode cX8_meet 62 = .ok (.iload_n 0, 1) := by decide +kernel
theorem dX8_meet_63 : decode cX8_meet 63 = .ok (.iload_n 2, 1) := by decide +kernel
theorem dX8_meet_64 : decode cX8_meet 64 = .ok (.iload_n 3, 1) := by decide +kernel
theorem dX8_meet_65 : decode cX8_meet 65 = .ok (.invokestatic 116, 3) := by decide +kernel
theorem dX8_meet_68 : decode cX8_meet 68 = .ok (.ifCond .ne 12, 3) := by decide +kernel
theorem dX8_meet_71 : decode cX8_meet 71 = .ok (.iload_n 1, 1) := by decide +kernel
theorem dX8_meet_72 : decode cX8_meet 72 = .ok (.iload_n 2, 1) := by decide +kernel
theorem dX8_meet_73 : decode cX8_meet 73 = .ok (.iload_n 3, 1) := by decide +kernel
theorem dX8_meet_74 : decode cX8_meet 74 = .ok (.invokestatic 116, 3) := by decide +kernel
theorem dX8_meet_77 : decode cX8_meet 77 = .ok (.ifCond .eq 7, 3) := by decide +kernel
theorem dX8_meet_80 : decode cX8_meet 80 = .ok (.iconst 1, 1) := by decide +kernel
theorem dX8_meet_81 : decode cX8_meet 81 = .ok (.goto 4, 3) := by decide +kernel
theorem dX8_meet_84 : decode cX8_meet 84 = .ok (.iconst 0, 1) := by decide +kernel
theorem dX8_meet_85 : decode cX8_meet 85 = .ok (.ireturn, 1) := by decide +kernel
theorem dX8_isHidden_0 : decode cX8_isHidden 0 = .ok (.aload_n 0, 1) := by decide +kernel
theorem dX8_isHidden_1 : decode cX8_isHidden 1 = .ok (.iload_n 1, 1) := by decide +kernel
theorem dX8_isHidden_2 : decode cX8_isHidden 2 = .ok (.iload_n 2, 1) := by decide +kernel
theorem dX8_isHidden_3 : decode cX8_isHidden 3 = .ok (.invokevirtual 98, 3) := by decide +kernel
theorem dX8_isHidden_6 : decode cX8_isHidden 6 = .ok (.istore 4, 2) := by decide +kernel
theorem dX8_isHidden_8 : decode cX8_isHidden 8 = .ok (.iload 4, 2) := by decide +kernel
theorem dX8_isHidden_10 : decode cX8_isHidden 10 = .ok (.iload_n 3, 1) := by decide +kernel
theorem dX8_isHidden_11 : decode cX8_isHidden 11 = .ok (.if_icmp .ne 5, 3) := by decide +kernel
theorem dX8_isHidden_14 : decode cX8_isHidden 14 = .ok (.iconst 1, 1) := by decide +kernel
theorem dX8_isHidden_15 : decode cX8_isHidden 15 = .ok (.ireturn, 1) := by decide +kernel
theorem dX8_isHidden_16 : decode cX8_isHidden 16 = .ok (.iconst 0, 1) := by decide +kernel
theorem dX8_isHidden_17 : decode cX8_isHidden 17 = .ok (.istore 5, 2) := by decide +kernel
theorem dX8_isHidden_19 : decode cX8_isHidden 19 = .ok (.iload 5, 2) := by decide +kernel
theorem dX8_isHidden_21 : decode cX8_isHidden 21 = .ok (.aload_n 0, 1) := by decide +kernel
theorem dX8_isHidden_22 : decode cX8_isHidden 22 = .ok (.getfield 92, 3) := by decide +kernel
theorem dX8_isHidden_25 : decode cX8_isHidden 25 = .ok (.if_icmp .ge 34, 3) := by decide +kernel
theorem dX8_isHidden_28 : decode cX8_isHidden 28 = .ok (.iload_n 3, 1) := by decide +kernel
theorem dX8_isHidden_29 : decode cX8_isHidden 29 = .ok (.iload 4, 2) := by decide +kernel
theorem dX8_isHidden_31 : decode cX8_isHidden 31 = .ok (.aload_n 0, 1) := by decide +kernel
theorem dX8_isHidden_32 : decode cX8_isHidden 32 = .ok (.getfield 22, 3) := by decide +kernel
theorem dX8_isHidden_35 : decode cX8_isHidden 35 = .ok (.iload 5, 2) := by decide +kernel
theorem dX8_isHidden_37 : decode cX8_isHidden 37 = .ok (.iaload, 1) := by decide +kernel
theorem dX8_isHidden_38 : decode cX8_isHidden 38 = .ok (.aload_n 0, 1) := by decide +kernel
theorem dX8_isHidden_39 : decode cX8_isHidden 39 = .ok (.getfield 25, 3) := by decide +kernel
theorem dX8_isHidden_42 : decode cX8_isHidden 42 = .ok (.iload 5, 2) := by decide +kernel
theorem dX8_isHidden_44 : decode cX8_isHidden 44 = .ok (.iaload, 1) := by decide +kernel
theorem dX8_isHidden_45 : decode cX8_isHidden 45 = .ok (.invokestatic 119, 3) := by decide +kernel
theorem dX8_isHidden_48 : decode cX8_isHidden 48 = .ok (.ifCond .eq 5, 3) := by decide +kernel
theorem dX8_isHidden_51 : decode cX8_isHidden 51 = .ok (.iconst 1, 1) := by decide +kernel
theorem dX8_isHidden_52 : decode cX8_isHidden 52 = .ok (.ireturn, 1) := by decide +kernel
theorem dX8_isHidden_53 : decode cX8_isHidden 53 = .ok (.iinc 5 1, 3) := by decide +kernel
theorem dX8_isHidden_56 : decode cX8_isHidden 56 = .ok (.goto (-37), 3) := by decide +kernel
theorem dX8_isHidden_59 : decode cX8_isHidden 59 = .ok (.iconst 0, 1) := by decide +kernel
theorem dX8_isHidden_60 : decode cX8_isHidden 60 = .ok (.istore 5, 2) := by decide +kernel
theorem dX8_isHidden_62 : decode cX8_isHidden 62 = .ok (.iload 5, 2) := by decide +kernel
theorem dX8_isHidden_64 : decode cX8_isHidden 64 = .ok (.aload_n 0, 1) := by decide +kernel
theorem dX8_isHidden_65 : decode cX8_isHidden 65 = .ok (.getfield 72, 3) := by decide +kernel
theorem dX8_isHidden_68 : decode cX8_isHidden 68 = .ok (.if_icmp .ge 50, 3) := by decide +kernel
theorem dX8_isHidden_71 : decode cX8_isHidden 71 = .ok (.aload_n 0, 1) := by decide +kernel
theorem dX8_isHidden_72 : decode cX8_isHidden 72 = .ok (.iload 5, 2) := by decide +kernel
theorem dX8_isHidden_74 : decode cX8_isHidden 74 = .ok (.iload_n 2, 1) := by decide +kernel
theorem dX8_isHidden_75 : decode cX8_isHidden 75 = .ok (.invokevirtual 98, 3) := by decide +kernel
theorem dX8_isHidden_78 : decode cX8_isHidden 78 = .ok (.istore 6, 2) := by decide +kernel
theorem dX8_isHidden_80 : decode cX8_isHidden 80 = .ok (.iload 5, 2) := by decide +kernel
theorem dX8_isHidden_82 : decode cX8_isHidden 82 = .ok (.iload_n 1, 1) := by decide +kernel
theorem dX8_isHidden_83 : decode cX8_isHidden 83 = .ok (.if_icmp .eq 29, 3) := by decide +kernel
theorem dX8_isHidden_86 : decode cX8_isHidden 86 = .ok (.iload 6, 2) := by decide +kernel
theorem dX8_isHidden_88 : decode cX8_isHidden 88 = .ok (.iload_n 3, 1) := by decide +kernel
theorem dX8_isHidden_89 : decode cX8_isHidden 89 = .ok (.if_icmp .eq 23, 3) := by decide +kernel
theorem dX8_isHidden_92 : decode cX8_isHidden 92 = .ok (.iload 6, 2) := by decide +kernel
theorem dX8_isHidden_94 : decode cX8_isHidden 94 = .ok (.iload 4, 2) := by decide +kernel
theorem dX8_isHidden_96 : decode cX8_isHidden 96 = .ok (.if_icmp .eq 16, 3) := by decide +kernel
theorem dX8_isHidden_99 : decode cX8_isHidden 99 = .ok (.iload 6, 2) := by decide +kernel
theorem dX8_isHidden_101 : decode cX8_isHidden 101 = .ok (.iload_n 3, 1) := by decide +kernel
theorem dX8_isHidden_102 : decode cX8_isHidden 102 = .ok (.iload 4, 2) := by decide +kernel
theorem dX8_isHidden_104 : decode cX8_isHidden 104 = .ok (.invokestatic 116, 3) := by decide +kernel
theorem dX8_isHidden_107 : decode cX8_isHidden 107 = .ok (.ifCond .eq 5, 3) := by decide +kernel
theorem dX8_isHidden_110 : decode cX8_isHidden 110 = .ok (.iconst 1, 1) := by decide +kernel
theorem dX8_isHidden_111 : decode cX8_isHidden 111 = .ok (.ireturn, 1) := by decide +kernel
theorem dX8_isHidden_112 : decode cX8_isHidden 112 = .ok (.iinc 5 1, 3) := by decide +kernel
theorem dX8_isHidden_115 : decode cX8_isHidden 115 = .ok (.goto (-53), 3) := by decide +kernel
theorem dX8_isHidden_118 : decode cX8_isHidden 118 = .ok (.iconst 0, 1) := by decide +kernel
theorem dX8_isHidden_119 : decode cX8_isHidden 119 = .ok (.ireturn, 1) := by decide +kernel
theorem dX8_hidden_0 : decode cX8_hidden 0 = .ok (.aload_n 0, 1) := by decide +kernel
theorem dX8_hidden_1 : decode cX8_hidden 1 = .ok (.iload_n 1, 1) := by decide +kernel
theorem dX8_hidden_2 : decode cX8_hidden 2 = .ok (.invokevirtual 89, 3) := by decide +kernel
theorem dX8_hidden_5 : decode cX8_hidden 5 = .ok (.ifCond .eq 17, 3) := by decide +kernel
theorem dX8_hidden_8 : decode cX8_hidden 8 = .ok (.iload_n 2, 1) := by decide +kernel
theorem dX8_hidden_9 : decode cX8_hidden 9 = .ok (.invokestatic 95, 3) := by decide +kernel
theorem dX8_hidden_12 : decode cX8_hidden 12 = .ok (.ifCond .eq 10, 3) := by decide +kernel
theorem dX8_hidden_15 : decode cX8_hidden 15 = .ok (.iload_n 3, 1) := by decide +kernel
theorem dX8_hidden_16 : decode cX8_hidden 16 = .ok (.invokestatic 85, 3) := by decide +kernel
theorem dX8_hidden_19 : decode cX8_hidden 19 = .ok (.ifCond .ne 5, 3) := by decide +kernel
theorem dX8_hidden_22 : decode cX8_hidden 22 = .ok (.iconst (-1), 1) := by decide +kernel
theorem dX8_hidden_23 : decode cX8_hidden 23 = .ok (.ireturn, 1) := by decide +kernel
theorem dX8_hidden_24 : decode cX8_hidden 24 = .ok (.aload_n 0, 1) := by decide +kernel
theorem dX8_hidden_25 : decode cX8_hidden 25 = .ok (.iload_n 1, 1) := by decide +kernel
theorem dX8_hidden_26 : decode cX8_hidden 26 = .ok (.iload_n 2, 1) := by decide +kernel
theorem dX8_hidden_27 : decode cX8_hidden 27 = .ok (.iload_n 3, 1) := by decide +kernel
theorem dX8_hidden_28 : decode cX8_hidden 28 = .ok (.invokevirtual 123, 3) := by decide +kernel
theorem dX8_hidden_31 : decode cX8_hidden 31 = .ok (.ifCond .eq 7, 3) := by decide +kernel
theorem dX8_hidden_34 : decode cX8_hidden 34 = .ok (.iconst 1, 1) := by decide +kernel
theorem dX8_hidden_35 : decode cX8_hidden 35 = .ok (.goto 4, 3) := by decide +kernel
theorem dX8_hidden_38 : decode cX8_hidden 38 = .ok (.iconst 0, 1) := by decide +kernel
theorem dX8_hidden_39 : decode cX8_hidden 39 = .ok (.ireturn, 1) := by decide +kernel
theorem dX8_isBefore_0 : decode cX8_isBefore 0 = .ok (.aload_n 0, 1) := by decide +kernel
theorem dX8_isBefore_1 : decode cX8_isBefore 1 = .ok (.iload_n 2, 1) := by decide +kernel
theorem dX8_isBefore_2 : decode cX8_isBefore 2 = .ok (.iload 4, 2) := by decide +kernel
theorem dX8_isBefore_4 : decode cX8_isBefore 4 = .ok (.invokevirtual 98, 3) := by decide +kernel
theorem dX8_isBefore_7 : decode cX8_isBefore 7 = .ok (.istore 5, 2) := by decide +kernel
theorem dX8_isBefore_9 : decode cX8_isBefore 9 = .ok (.aload_n 0, 1) := by decide +kernel
theorem dX8_isBefore_10 : decode cX8_isBefore 10 = .ok (.iload_n 3, 1) := by decide +kernel
theorem dX8_isBefore_11 : decode cX8_isBefore 11 = .ok (.iload 4, 2) := by decide +kernel
theorem dX8_isBefore_13 : decode cX8_isBefore 13 = .ok (.invokevirtual 98, 3) := by decide +kernel
theorem dX8_isBefore_16 : decode cX8_isBefore 16 = .ok (.istore 6, 2) := by decide +kernel
theorem dX8_isBefore_18 : decode cX8_isBefore 18 = .ok (.iload 5, 2) := by decide +kernel
theorem dX8_isBefore_20 : decode cX8_isBefore 20 = .ok (.invokestatic 102, 3) := by decide +kernel
theorem dX8_isBefore_23 : decode cX8_isBefore 23 = .ok (.aload_n 0, 1) := by decide +kernel
theorem dX8_isBefore_24 : decode cX8_isBefore 24 = .ok (.getfield 28, 3) := by decide +kernel
theorem dX8_isBefore_27 : decode cX8_isBefore 27 = .ok (.iload_n 1, 1) := by decide +kernel
theorem dX8_isBefore_28 : decode cX8_isBefore 28 = .ok (.iaload, 1) := by decide +kernel
theorem dX8_isBefore_29 : decode cX8_isBefore 29 = .ok (.invokestatic 102, 3) := by decide +kernel
theorem dX8_isBefore_32 : decode cX8_isBefore 32 = .ok (.isub, 1) := by decide +kernel
theorem dX8_isBefore_33 : decode cX8_isBefore 33 = .ok (.istore 7, 2) := by decide +kernel
theorem dX8_isBefore_35 : decode cX8_isBefore 35 = .ok (.iload 5, 2) := by decide +kernel
theorem dX8_isBefore_37 : decode cX8_isBefore 37 = .ok (.invokestatic 106, 3) := by decide +kernel
theorem dX8_isBefore_40 : decode cX8_isBefore 40 = .ok (.aload_n 0, 1) := by decide +kernel
theorem dX8_isBefore_41 : decode cX8_isBefore 41 = .ok (.getfield 28, 3) := by decide +kernel
theorem dX8_isBefore_44 : decode cX8_isBefore 44 = .ok (.iload_n 1, 1) := by decide +kernel
theorem dX8_isBefore_45 : decode cX8_isBefore 45 = .ok (.iaload, 1) := by decide +kernel
theorem dX8_isBefore_46 : decode cX8_isBefore 46 = .ok (.invokestatic 106, 3) := by decide +kernel
theorem dX8_isBefore_49 : decode cX8_isBefore 49 = .ok (.isub, 1) := by decide +kernel
theorem dX8_isBefore_50 : decode cX8_isBefore 50 = .ok (.istore 8, 2) := by decide +kernel
theorem dX8_isBefore_52 : decode cX8_isBefore 52 = .ok (.iload 6, 2) := by decide +kernel
theorem dX8_isBefore_54 : decode cX8_isBefore 54 = .ok (.invokestatic 102, 3) := by decide +kernel
theorem dX8_isBefore_57 : decode cX8_isBefore 57 = .ok (.aload_n 0, 1) := by decide +kernel
theorem dX8_isBefore_58 : decode cX8_isBefore 58 = .ok (.getfield 28, 3) := by decide +kernel
theorem dX8_isBefore_61 : decode cX8_isBefore 61 = .ok (.iload_n 1, 1) := by decide +kernel
theorem dX8_isBefore_62 : decode cX8_isBefore 62 = .ok (.iaload, 1) := by decide +kernel
theorem dX8_isBefore_63 : decode cX8_isBefore 63 = .ok (.invokestatic 102, 3) := by decide +kernel
theorem dX8_isBefore_66 : decode cX8_isBefore 66 = .ok (.isub, 1) := by decide +kernel
theorem dX8_isBefore_67 : decode cX8_isBefore 67 = .ok (.istore 9, 2) := by decide +kernel
theorem dX8_isBefore_69 : decode cX8_isBefore 69 = .ok (.iload 6, 2) := by decide +kernel
theorem dX8_isBefore_71 : decode cX8_isBefore 71 = .ok (.invokestatic 106, 3) := by decide +kernel
theorem dX8_isBefore_74 : decode cX8_isBefore 74 = .ok (.aload_n 0, 1) := by decide +kernel
theorem dX8_isBefore_75 : decode cX8_isBefore 75 = .ok (.getfield 28, 3) := by decide +kernel
theorem dX8_isBefore_78 : decode cX8_isBefore 78 = .ok (.iload_n 1, 1) := by decide +kernel
theorem dX8_isBefore_79 : decode cX8_isBefore 79 = .ok (.iaload, 1) := by decide +kernel
theorem dX8_isBefore_80 : decode cX8_isBefore 80 = .ok (.invokestatic 106, 3) := by decide +kernel
theorem dX8_isBefore_83 : decode cX8_isBefore 83 = .ok (.isub, 1) := by decide +kernel
theorem dX8_isBefore_84 : decode cX8_isBefore 84 = .ok (.istore 10, 2) := by decide +kernel
theorem dX8_isBefore_86 : decode cX8_isBefore 86 = .ok (.iload 7, 2) := by decide +kernel
theorem dX8_isBefore_88 : decode cX8_isBefore 88 = .ok (.iload 9, 2) := by decide +kernel
theorem dX8_isBefore_90 : decode cX8_isBefore 90 = .ok (.imul, 1) := by decide +kernel
theorem dX8_isBefore_91 : decode cX8_isBefore 91 = .ok (.iload 8, 2) := by decide +kernel
theorem dX8_isBefore_93 : decode cX8_isBefore 93 = .ok (.iload 10, 2) := by decide +kernel
theorem dX8_isBefore_95 : decode cX8_isBefore 95 = .ok (.imul, 1) := by decide +kernel
theorem dX8_isBefore_96 : decode cX8_isBefore 96 = .ok (.iadd, 1) := by decide +kernel
theorem dX8_isBefore_97 : decode cX8_isBefore 97 = .ok (.istore 11, 2) := by decide +kernel
theorem dX8_isBefore_99 : decode cX8_isBefore 99 = .ok (.iload 11, 2) := by decide +kernel
theorem dX8_isBefore_101 : decode cX8_isBefore 101 = .ok (.ifCond .le 40, 3) := by decide +kernel
theorem dX8_isBefore_104 : decode cX8_isBefore 104 = .ok (.iconst 2, 1) := by decide +kernel
theorem dX8_isBefore_105 : decode cX8_isBefore 105 = .ok (.iload 11, 2) := by decide +kernel
theorem dX8_isBefore_107 : decode cX8_isBefore 107 = .ok (.imul, 1) := by decide +kernel
theorem dX8_isBefore_108 : decode cX8_isBefore 108 = .ok (.iload 11, 2) := by decide +kernel
theorem dX8_isBefore_110 : decode cX8_isBefore 110 = .ok (.imul, 1) := by decide +kernel
theorem dX8_isBefore_111 : decode cX8_isBefore 111 = .ok (.iload 7, 2) := by decide +kernel
theorem dX8_isBefore_113 : decode cX8_isBefore 113 = .ok (.iload 7, 2) := by decide +kernel
theorem dX8_isBefore_115 : decode cX8_isBefore 115 = .ok (.imul, 1) := by decide +kernel
theorem dX8_isBefore_116 : decode cX8_isBefore 116 = .ok (.iload 8, 2) := by decide +kernel
theorem dX8_isBefore_118 : decode cX8_isBefore 118 = .ok (.iload 8, 2) := by decide +kernel
theorem dX8_isBefore_120 : decode cX8_isBefore 120 = .ok (.imul, 1) := by decide +kernel
theorem dX8_isBefore_121 : decode cX8_isBefore 121 = .ok (.iadd, 1) := by decide +kernel
theorem dX8_isBefore_122 : decode cX8_isBefore 122 = .ok (.iload 9, 2) := by decide +kernel
theorem dX8_isBefore_124 : decode cX8_isBefore 124 = .ok (.iload 9, 2) := by decide +kernel
theorem dX8_isBefore_126 : decode cX8_isBefore 126 = .ok (.imul, 1) := by decide +kernel
theorem dX8_isBefore_127 : decode cX8_isBefore 127 = .ok (.iload 10, 2) := by decide +kernel
theorem dX8_isBefore_129 : decode cX8_isBefore 129 = .ok (.iload 10, 2) := by decide +kernel
theorem dX8_isBefore_131 : decode cX8_isBefore 131 = .ok (.imul, 1) := by decide +kernel
theorem dX8_isBefore_132 : decode cX8_isBefore 132 = .ok (.iadd, 1) := by decide +kernel
theorem dX8_isBefore_133 : decode cX8_isBefore 133 = .ok (.imul, 1) := by decide +kernel
theorem dX8_isBefore_134 : decode cX8_isBefore 134 = .ok (.if_icmp .lt 7, 3) := by decide +kernel
theorem dX8_isBefore_137 : decode cX8_isBefore 137 = .ok (.iconst 1, 1) := by decide +kernel
theorem dX8_isBefore_138 : decode cX8_isBefore 138 = .ok (.goto 4, 3) := by decide +kernel
theorem dX8_isBefore_141 : decode cX8_isBefore 141 = .ok (.iconst 0, 1) := by decide +kernel
theorem dX8_isBefore_142 : decode cX8_isBefore 142 = .ok (.ireturn, 1) := by decide +kernel
theorem dX8_sees_0 : decode cX8_sees 0 = .ok (.aload_n 0, 1) := by decide +kernel
theorem dX8_sees_1 : decode cX8_sees 1 = .ok (.iload_n 1, 1) := by decide +kernel
theorem dX8_sees_2 : decode cX8_sees 2 = .ok (.invokevirtual 126, 3) := by decide +kernel
theorem dX8_sees_5 : decode cX8_sees 5 = .ok (.ifCond .eq 27, 3) := by decide +kernel
theorem dX8_sees_8 : decode cX8_sees 8 = .ok (.aload_n 0, 1) := by decide +kernel
theorem dX8_sees_9 : decode cX8_sees 9 = .ok (.iload_n 2, 1) := by decide +kernel
theorem dX8_sees_10 : decode cX8_sees 10 = .ok (.invokevirtual 89, 3) := by decide +kernel
theorem dX8_sees_13 : decode cX8_sees 13 = .ok (.ifCond .eq 19, 3) := by decide +kernel
theorem dX8_sees_16 : decode cX8_sees 16 = .ok (.aload_n 0, 1) := by decide +kernel
theorem dX8_sees_17 : decode cX8_sees 17 = .ok (.iload_n 3, 1) := by decide +kernel
theorem dX8_sees_18 : decode cX8_sees 18 = .ok (.invokevirtual 89, 3) := by decide +kernel
theorem dX8_sees_21 : decode cX8_sees 21 = .ok (.ifCond .eq 11, 3) := by decide +kernel
theorem dX8_sees_24 : decode cX8_sees 24 = .ok (.iload 4, 2) := by decide +kernel
theorem dX8_sees_26 : decode cX8_sees 26 = .ok (.invokestatic 95, 3) := by decide +kernel
theorem dX8_sees_29 : decode cX8_sees 29 = .ok (.ifCond .ne 5, 3) := by decide +kernel
theorem dX8_sees_32 : decode cX8_sees 32 = .ok (.iconst (-1), 1) := by decide +kernel
theorem dX8_sees_33 : decode cX8_sees 33 = .ok (.ireturn, 1) := by decide +kernel
theorem dX8_sees_34 : decode cX8_sees 34 = .ok (.aload_n 0, 1) := by decide +kernel
theorem dX8_sees_35 : decode cX8_sees 35 = .ok (.iload_n 3, 1) := by decide +kernel
theorem dX8_sees_36 : decode cX8_sees 36 = .ok (.iload 4, 2) := by decide +kernel
theorem dX8_sees_38 : decode cX8_sees 38 = .ok (.aload_n 0, 1) := by decide +kernel
theorem dX8_sees_39 : decode cX8_sees 39 = .ok (.getfield 28, 3) := by decide +kernel
theorem dX8_sees_42 : decode cX8_sees 42 = .ok (.iload_n 1, 1) := by decide +kernel
theorem dX8_sees_43 : decode cX8_sees 43 = .ok (.iaload, 1) := by decide +kernel
theorem dX8_sees_44 : decode cX8_sees 44 = .ok (.invokevirtual 123, 3) := by decide +kernel
theorem dX8_sees_47 : decode cX8_sees 47 = .ok (.ifCond .ne 19, 3) := by decide +kernel
theorem dX8_sees_50 : decode cX8_sees 50 = .ok (.aload_n 0, 1) := by decide +kernel
theorem dX8_sees_51 : decode cX8_sees 51 = .ok (.iload_n 1, 1) := by decide +kernel
theorem dX8_sees_52 : decode cX8_sees 52 = .ok (.iload_n 2, 1) := by decide +kernel
theorem dX8_sees_53 : decode cX8_sees 53 = .ok (.iload_n 3, 1) := by decide +kernel
theorem dX8_sees_54 : decode cX8_sees 54 = .ok (.iload 4, 2) := by decide +kernel
theorem dX8_sees_56 : decode cX8_sees 56 = .ok (.invokevirtual 129, 3) := by decide +kernel
theorem dX8_sees_59 : decode cX8_sees 59 = .ok (.ifCond .eq 7, 3) := by decide +kernel
theorem dX8_sees_62 : decode cX8_sees 62 = .ok (.iconst 1, 1) := by decide +kernel
theorem dX8_sees_63 : decode cX8_sees 63 = .ok (.goto 4, 3) := by decide +kernel
theorem dX8_sees_66 : decode cX8_sees 66 = .ok (.iconst 0, 1) := by decide +kernel
theorem dX8_sees_67 : decode cX8_sees 67 = .ok (.ireturn, 1) := by decide +kernel
theorem dX8_sizeOf_0 : decode cX8_sizeOf 0 = .ok (.aload_n 0, 1) := by decide +kernel
theorem dX8_sizeOf_1 : decode cX8_sizeOf 1 = .ok (.iload_n 2, 1) := by decide +kernel
theorem dX8_sizeOf_2 : decode cX8_sizeOf 2 = .ok (.iload_n 3, 1) := by decide +kernel
theorem dX8_sizeOf_3 : decode cX8_sizeOf 3 = .ok (.invokevirtual 98, 3) := by decide +kernel
theorem dX8_sizeOf_6 : decode cX8_sizeOf 6 = .ok (.invokestatic 102, 3) := by decide +kernel
theorem dX8_sizeOf_9 : decode cX8_sizeOf 9 = .ok (.aload_n 0, 1) := by decide +kernel
theorem dX8_sizeOf_10 : decode cX8_sizeOf 10 = .ok (.getfield 28, 3) := by decide +kernel
theorem dX8_sizeOf_13 : decode cX8_sizeOf 13 = .ok (.iload_n 1, 1) := by decide +kernel
theorem dX8_sizeOf_14 : decode cX8_sizeOf 14 = .ok (.iaload, 1) := by decide +kernel
theorem dX8_sizeOf_15 : decode cX8_sizeOf 15 = .ok (.invokestatic 102, 3) := by decide +kernel
theorem dX8_sizeOf_18 : decode cX8_sizeOf 18 = .ok (.isub, 1) := by decide +kernel
theorem dX8_sizeOf_19 : decode cX8_sizeOf 19 = .ok (.istore 4, 2) := by decide +kernel
theorem dX8_sizeOf_21 : decode cX8_sizeOf 21 = .ok (.aload_n 0, 1) := by decide +kernel
theorem dX8_sizeOf_22 : decode cX8_sizeOf 22 = .ok (.iload_n 2, 1) := by decide +kernel
theorem dX8_sizeOf_23 : decode cX8_sizeOf 23 = .ok (.iload_n 3, 1) := by decide +kernel
theorem dX8_sizeOf_24 : decode cX8_sizeOf 24 = .ok (.invokevirtual 98, 3) := by decide +kernel
theorem dX8_sizeOf_27 : decode cX8_sizeOf 27 = .ok (.invokestatic 106, 3) := by decide +kernel
theorem dX8_sizeOf_30 : decode cX8_sizeOf 30 = .ok (.aload_n 0, 1) := by decide +kernel
theorem dX8_sizeOf_31 : decode cX8_sizeOf 31 = .ok (.getfield 28, 3) := by decide +kernel
theorem dX8_sizeOf_34 : decode cX8_sizeOf 34 = .ok (.iload_n 1, 1) := by decide +kernel
theorem dX8_sizeOf_35 : decode cX8_sizeOf 35 = .ok (.iaload, 1) := by decide +kernel
theorem dX8_sizeOf_36 : decode cX8_sizeOf 36 = .ok (.invokestatic 106, 3) := by decide +kernel
theorem dX8_sizeOf_39 : decode cX8_sizeOf 39 = .ok (.isub, 1) := by decide +kernel
theorem dX8_sizeOf_40 : decode cX8_sizeOf 40 = .ok (.istore 5, 2) := by decide +kernel
theorem dX8_sizeOf_42 : decode cX8_sizeOf 42 = .ok (.iload 4, 2) := by decide +kernel
theorem dX8_sizeOf_44 : decode cX8_sizeOf 44 = .ok (.iload 4, 2) := by decide +kernel
theorem dX8_sizeOf_46 : decode cX8_sizeOf 46 = .ok (.imul, 1) := by decide +kernel
theorem dX8_sizeOf_47 : decode cX8_sizeOf 47 = .ok (.iload 5, 2) := by decide +kernel
theorem dX8_sizeOf_49 : decode cX8_sizeOf 49 = .ok (.iload 5, 2) := by decide +kernel
theorem dX8_sizeOf_51 : decode cX8_sizeOf 51 = .ok (.imul, 1) := by decide +kernel
theorem dX8_sizeOf_52 : decode cX8_sizeOf 52 = .ok (.iadd, 1) := by decide +kernel
theorem dX8_sizeOf_53 : decode cX8_sizeOf 53 = .ok (.istore 6, 2) := by decide +kernel
theorem dX8_sizeOf_55 : decode cX8_sizeOf 55 = .ok (.iload 6, 2) := by decide +kernel
theorem dX8_sizeOf_57 : decode cX8_sizeOf 57 = .ok (.bipush 16, 2) := by decide +kernel
theorem dX8_sizeOf_59 : decode cX8_sizeOf 59 = .ok (.if_icmp .gt 7, 3) := by decide +kernel
theorem dX8_sizeOf_62 : decode cX8_sizeOf 62 = .ok (.iconst 0, 1) := by decide +kernel

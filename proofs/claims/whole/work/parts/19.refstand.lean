/-! ===== the reference: stand, better, ring ===== -/
section SB
variable {G : mG} {l : Launch} {d : Nat} {σ : mS}
theorem dX11_standOf_0 : decode cX11_standOf 0 = .ok (.aload_n 0, 1) := by decide +kernel
theorem dX11_standOf_1 : decode cX11_standOf 1 = .ok (.invokevirtual 270, 3) := by decide +kernel
theorem dX11_standOf_4 : decode cX11_standOf 4 = .ok (.aload_n 0, 1) := by decide +kernel
theorem dX11_standOf_5 : decode cX11_standOf 5 = .ok (.getfield 19, 3) := by decide +kernel
theorem dX11_standOf_8 : decode cX11_standOf 8 = .ok (.iload_n 1, 1) := by decide +kernel
theorem dX11_standOf_9 : decode cX11_standOf 9 = .ok (.iaload, 1) := by decide +kernel
theorem dX11_standOf_10 : decode cX11_standOf 10 = .ok (.istore_n 3, 1) := by decide +kernel
theorem dX11_standOf_11 : decode cX11_standOf 11 = .ok (.aload_n 0, 1) := by decide +kernel
theorem dX11_standOf_12 : decode cX11_standOf 12 = .ok (.getfield 22, 3) := by decide +kernel
theorem dX11_standOf_15 : decode cX11_standOf 15 = .ok (.iload_n 1, 1) := by decide +kernel
theorem dX11_standOf_16 : decode cX11_standOf 16 = .ok (.iaload, 1) := by decide +kernel
theorem dX11_standOf_17 : decode cX11_standOf 17 = .ok (.istore 4, 2) := by decide +kernel
theorem dX11_standOf_19 : decode cX11_standOf 19 = .ok (.iconst (-1), 1) := by decide +kernel
theorem dX11_standOf_20 : decode cX11_standOf 20 = .ok (.istore 5, 2) := by decide +kernel
theorem dX11_standOf_22 : decode cX11_standOf 22 = .ok (.iconst (-1), 1) := by decide +kernel
theorem dX11_standOf_23 : decode cX11_standOf 23 = .ok (.istore 6, 2) := by decide +kernel
theorem dX11_standOf_25 : decode cX11_standOf 25 = .ok (.iconst 0, 1) := by decide +kernel
theorem dX11_standOf_26 : decode cX11_standOf 26 = .ok (.istore 7, 2) := by decide +kernel
theorem dX11_standOf_28 : decode cX11_standOf 28 = .ok (.iload 7, 2) := by decide +kernel
theorem dX11_standOf_30 : decode cX11_standOf 30 = .ok (.bipush 36, 2) := by decide +kernel
theorem dX11_standOf_32 : decode cX11_standOf 32 = .ok (.if_icmp .ge 97, 3) := by decide +kernel
theorem dX11_standOf_35 : decode cX11_standOf 35 = .ok (.aload_n 0, 1) := by decide +kernel
theorem dX11_standOf_36 : decode cX11_standOf 36 = .ok (.iload_n 1, 1) := by decide +kernel
theorem dX11_standOf_37 : decode cX11_standOf 37 = .ok (.iload 7, 2) := by decide +kernel
theorem dX11_standOf_39 : decode cX11_standOf 39 = .ok (.bipush 6, 2) := by decide +kernel
theorem dX11_standOf_41 : decode cX11_standOf 41 = .ok (.idiv, 1) := by decide +kernel
theorem dX11_standOf_42 : decode cX11_standOf 42 = .ok (.iload 7, 2) := by decide +kernel
theorem dX11_standOf_44 : decode cX11_standOf 44 = .ok (.bipush 6, 2) := by decide +kernel
theorem dX11_standOf_46 : decode cX11_standOf 46 = .ok (.irem, 1) := by decide +kernel
theorem dX11_standOf_47 : decode cX11_standOf 47 = .ok (.invokevirtual 313, 3) := by decide +kernel
theorem dX11_standOf_50 : decode cX11_standOf 50 = .ok (.ifCond .ne 73, 3) := by decide +kernel
theorem dX11_standOf_53 : decode cX11_standOf 53 = .ok (.aload_n 0, 1) := by decide +kernel
theorem dX11_standOf_54 : decode cX11_standOf 54 = .ok (.getfield 19, 3) := by decide +kernel
theorem dX11_standOf_57 : decode cX11_standOf 57 = .ok (.iload_n 1, 1) := by decide +kernel
theorem dX11_standOf_58 : decode cX11_standOf 58 = .ok (.iload 7, 2) := by decide +kernel
theorem dX11_standOf_60 : decode cX11_standOf 60 = .ok (.bipush 6, 2) := by decide +kernel
theorem dX11_standOf_62 : decode cX11_standOf 62 = .ok (.idiv, 1) := by decide +kernel
theorem dX11_standOf_63 : decode cX11_standOf 63 = .ok (.iastore, 1) := by decide +kernel
theorem dX11_standOf_64 : decode cX11_standOf 64 = .ok (.aload_n 0, 1) := by decide +kernel
theorem dX11_standOf_65 : decode cX11_standOf 65 = .ok (.getfield 22, 3) := by decide +kernel
theorem dX11_standOf_68 : decode cX11_standOf 68 = .ok (.iload_n 1, 1) := by decide +kernel
theorem dX11_standOf_69 : decode cX11_standOf 69 = .ok (.iload 7, 2) := by decide +kernel
theorem dX11_standOf_71 : decode cX11_standOf 71 = .ok (.bipush 6, 2) := by decide +kernel
theorem dX11_standOf_73 : decode cX11_standOf 73 = .ok (.irem, 1) := by decide +kernel
theorem dX11_standOf_74 : decode cX11_standOf 74 = .ok (.iastore, 1) := by decide +kernel
theorem dX11_standOf_75 : decode cX11_standOf 75 = .ok (.aload_n 0, 1) := by decide +kernel
theorem dX11_standOf_76 : decode cX11_standOf 76 = .ok (.invokevirtual 273, 3) := by decide +kernel
theorem dX11_standOf_79 : decode cX11_standOf 79 = .ok (.aload_n 0, 1) := by decide +kernel
theorem dX11_standOf_80 : decode cX11_standOf 80 = .ok (.getfield 67, 3) := by decide +kernel
theorem dX11_standOf_83 : decode cX11_standOf 83 = .ok (.iload_n 1, 1) := by decide +kernel
theorem dX11_standOf_84 : decode cX11_standOf 84 = .ok (.iaload, 1) := by decide +kernel
theorem dX11_standOf_85 : decode cX11_standOf 85 = .ok (.iload 6, 2) := by decide +kernel
theorem dX11_standOf_87 : decode cX11_standOf 87 = .ok (.if_icmp .le 8, 3) := by decide +kernel
theorem dX11_standOf_90 : decode cX11_standOf 90 = .ok (.iload 7, 2) := by decide +kernel
theorem dX11_standOf_92 : decode cX11_standOf 92 = .ok (.goto 5, 3) := by decide +kernel
theorem dX11_standOf_95 : decode cX11_standOf 95 = .ok (.iload 5, 2) := by decide +kernel
theorem dX11_standOf_97 : decode cX11_standOf 97 = .ok (.istore 5, 2) := by decide +kernel
theorem dX11_standOf_99 : decode cX11_standOf 99 = .ok (.aload_n 0, 1) := by decide +kernel
theorem dX11_standOf_100 : decode cX11_standOf 100 = .ok (.getfield 67, 3) := by decide +kernel
theorem dX11_standOf_103 : decode cX11_standOf 103 = .ok (.iload_n 1, 1) := by decide +kernel
theorem dX11_standOf_104 : decode cX11_standOf 104 = .ok (.iaload, 1) := by decide +kernel
theorem dX11_standOf_105 : decode cX11_standOf 105 = .ok (.iload 6, 2) := by decide +kernel
theorem dX11_standOf_107 : decode cX11_standOf 107 = .ok (.if_icmp .le 12, 3) := by decide +kernel
theorem dX11_standOf_110 : decode cX11_standOf 110 = .ok (.aload_n 0, 1) := by decide +kernel
theorem dX11_standOf_111 : decode cX11_standOf 111 = .ok (.getfield 67, 3) := by decide +kernel
theorem dX11_standOf_114 : decode cX11_standOf 114 = .ok (.iload_n 1, 1) := by decide +kernel
theorem dX11_standOf_115 : decode cX11_standOf 115 = .ok (.iaload, 1) := by decide +kernel
theorem dX11_standOf_116 : decode cX11_standOf 116 = .ok (.goto 5, 3) := by decide +kernel
theorem dX11_standOf_119 : decode cX11_standOf 119 = .ok (.iload 6, 2) := by decide +kernel
theorem dX11_standOf_121 : decode cX11_standOf 121 = .ok (.istore 6, 2) := by decide +kernel
theorem dX11_standOf_123 : decode cX11_standOf 123 = .ok (.iinc 7 1, 3) := by decide +kernel
theorem dX11_standOf_126 : decode cX11_standOf 126 = .ok (.goto (-98), 3) := by decide +kernel
theorem dX11_standOf_129 : decode cX11_standOf 129 = .ok (.aload_n 0, 1) := by decide +kernel
theorem dX11_standOf_130 : decode cX11_standOf 130 = .ok (.getfield 19, 3) := by decide +kernel
theorem dX11_standOf_133 : decode cX11_standOf 133 = .ok (.iload_n 1, 1) := by decide +kernel
theorem dX11_standOf_134 : decode cX11_standOf 134 = .ok (.iload_n 3, 1) := by decide +kernel
theorem dX11_standOf_135 : decode cX11_standOf 135 = .ok (.iastore, 1) := by decide +kernel
theorem dX11_standOf_136 : decode cX11_standOf 136 = .ok (.aload_n 0, 1) := by decide +kernel
theorem dX11_standOf_137 : decode cX11_standOf 137 = .ok (.getfield 22, 3) := by decide +kernel
theorem dX11_standOf_140 : decode cX11_standOf 140 = .ok (.iload_n 1, 1) := by decide +kernel
theorem dX11_standOf_141 : decode cX11_standOf 141 = .ok (.iload 4, 2) := by decide +kernel
theorem dX11_standOf_143 : decode cX11_standOf 143 = .ok (.iastore, 1) := by decide +kernel
theorem dX11_standOf_144 : decode cX11_standOf 144 = .ok (.iload_n 2, 1) := by decide +kernel
theorem dX11_standOf_145 : decode cX11_standOf 145 = .ok (.ifCond .ne 11, 3) := by decide +kernel
theorem dX11_standOf_148 : decode cX11_standOf 148 = .ok (.iload 5, 2) := by decide +kernel
theorem dX11_standOf_150 : decode cX11_standOf 150 = .ok (.bipush 6, 2) := by decide +kernel
theorem dX11_standOf_152 : decode cX11_standOf 152 = .ok (.idiv, 1) := by decide +kernel
theorem dX11_standOf_153 : decode cX11_standOf 153 = .ok (.goto 18, 3) := by decide +kernel
theorem dX11_standOf_156 : decode cX11_standOf 156 = .ok (.iload_n 2, 1) := by decide +kernel
theorem dX11_standOf_157 : decode cX11_standOf 157 = .ok (.iconst 1, 1) := by decide +kernel
theorem dX11_standOf_158 : decode cX11_standOf 158 = .ok (.if_icmp .ne 11, 3) := by decide +kernel
theorem dX11_standOf_161 : decode cX11_standOf 161 = .ok (.iload 5, 2) := by decide +kernel
theorem dX11_standOf_163 : decode cX11_standOf 163 = .ok (.bipush 6, 2) := by decide +kernel
theorem dX11_standOf_165 : decode cX11_standOf 165 = .ok (.irem, 1) := by decide +kernel
theorem dX11_standOf_166 : decode cX11_standOf 166 = .ok (.goto 5, 3) := by decide +kernel
theorem dX11_standOf_169 : decode cX11_standOf 169 = .ok (.iload 6, 2) := by decide +kernel
theorem dX11_standOf_171 : decode cX11_standOf 171 = .ok (.ireturn, 1) := by decide +kernel
theorem dX11_betterOf_0 : decode cX11_betterOf 0 = .ok (.aload_n 0, 1) := by decide +kernel
theorem dX11_betterOf_1 : decode cX11_betterOf 1 = .ok (.invokevirtual 270, 3) := by decide +kernel
theorem dX11_betterOf_4 : decode cX11_betterOf 4 = .ok (.iconst (-1), 1) := by decide +kernel
theorem dX11_betterOf_5 : decode cX11_betterOf 5 = .ok (.istore 4, 2) := by decide +kernel
theorem dX11_betterOf_7 : decode cX11_betterOf 7 = .ok (.iconst (-1), 1) := by decide +kernel
theorem dX11_betterOf_8 : decode cX11_betterOf 8 = .ok (.istore 5, 2) := by decide +kernel
theorem dX11_betterOf_10 : decode cX11_betterOf 10 = .ok (.aload_n 0, 1) := by decide +kernel
theorem dX11_betterOf_11 : decode cX11_betterOf 11 = .ok (.getfield 31, 3) := by decide +kernel
theorem dX11_betterOf_14 : decode cX11_betterOf 14 = .ok (.aload_n 0, 1) := by decide +kernel
theorem dX11_betterOf_15 : decode cX11_betterOf 15 = .ok (.getfield 165, 3) := by decide +kernel
theorem dX11_betterOf_18 : decode cX11_betterOf 18 = .ok (.iload_n 2, 1) := by decide +kernel
theorem dX11_betterOf_19 : decode cX11_betterOf 19 = .ok (.iastore, 1) := by decide +kernel
theorem dX11_betterOf_20 : decode cX11_betterOf 20 = .ok (.aload_n 0, 1) := by decide +kernel
theorem dX11_betterOf_21 : decode cX11_betterOf 21 = .ok (.getfield 34, 3) := by decide +kernel
theorem dX11_betterOf_24 : decode cX11_betterOf 24 = .ok (.aload_n 0, 1) := by decide +kernel
theorem dX11_betterOf_25 : decode cX11_betterOf 25 = .ok (.getfield 165, 3) := by decide +kernel
theorem dX11_betterOf_28 : decode cX11_betterOf 28 = .ok (.iload_n 1, 1) := by decide +kernel
theorem dX11_betterOf_29 : decode cX11_betterOf 29 = .ok (.iastore, 1) := by decide +kernel
theorem dX11_betterOf_30 : decode cX11_betterOf 30 = .ok (.iconst 0, 1) := by decide +kernel
theorem dX11_betterOf_31 : decode cX11_betterOf 31 = .ok (.istore 6, 2) := by decide +kernel
theorem dX11_betterOf_33 : decode cX11_betterOf 33 = .ok (.iload 6, 2) := by decide +kernel
theorem dX11_betterOf_35 : decode cX11_betterOf 35 = .ok (.iconst 3, 1) := by decide +kernel
theorem dX11_betterOf_36 : decode cX11_betterOf 36 = .ok (.if_icmp .ge 90, 3) := by decide +kernel
theorem dX11_betterOf_39 : decode cX11_betterOf 39 = .ok (.aload_n 0, 1) := by decide +kernel
theorem dX11_betterOf_40 : decode cX11_betterOf 40 = .ok (.getfield 37, 3) := by decide +kernel
theorem dX11_betterOf_43 : decode cX11_betterOf 43 = .ok (.aload_n 0, 1) := by decide +kernel
theorem dX11_betterOf_44 : decode cX11_betterOf 44 = .ok (.getfield 165, 3) := by decide +kernel
theorem dX11_betterOf_47 : decode cX11_betterOf 47 = .ok (.iload 6, 2) := by decide +kernel
theorem dX11_betterOf_49 : decode cX11_betterOf 49 = .ok (.iastore, 1) := by decide +kernel
theorem dX11_betterOf_50 : decode cX11_betterOf 50 = .ok (.aload_n 0, 1) := by decide +kernel
theorem dX11_betterOf_51 : decode cX11_betterOf 51 = .ok (.iload 6, 2) := by decide +kernel
theorem dX11_betterOf_53 : decode cX11_betterOf 53 = .ok (.ifCond .ne 10, 3) := by decide +kernel
theorem dX11_betterOf_56 : decode cX11_betterOf 56 = .ok (.aload_n 0, 1) := by decide +kernel
theorem dX11_betterOf_57 : decode cX11_betterOf 57 = .ok (.getfield 165, 3) := by decide +kernel
theorem dX11_betterOf_60 : decode cX11_betterOf 60 = .ok (.goto 9, 3) := by decide +kernel
theorem dX11_betterOf_63 : decode cX11_betterOf 63 = .ok (.aload_n 0, 1) := by decide +kernel
theorem dX11_betterOf_64 : decode cX11_betterOf 64 = .ok (.getfield 165, 3) := by decide +kernel
theorem dX11_betterOf_67 : decode cX11_betterOf 67 = .ok (.iconst 1, 1) := by decide +kernel
theorem dX11_betterOf_68 : decode cX11_betterOf 68 = .ok (.iadd, 1) := by decide +kernel
theorem dX11_betterOf_69 : decode cX11_betterOf 69 = .ok (.putfield 217, 3) := by decide +kernel
theorem dX11_betterOf_72 : decode cX11_betterOf 72 = .ok (.aload_n 0, 1) := by decide +kernel
theorem dX11_betterOf_73 : decode cX11_betterOf 73 = .ok (.invokevirtual 273, 3) := by decide +kernel
theorem dX11_betterOf_76 : decode cX11_betterOf 76 = .ok (.aload_n 0, 1) := by decide +kernel
theorem dX11_betterOf_77 : decode cX11_betterOf 77 = .ok (.getfield 67, 3) := by decide +kernel
theorem dX11_betterOf_80 : decode cX11_betterOf 80 = .ok (.iload_n 1, 1) := by decide +kernel
theorem dX11_betterOf_81 : decode cX11_betterOf 81 = .ok (.iaload, 1) := by decide +kernel
theorem dX11_betterOf_82 : decode cX11_betterOf 82 = .ok (.iload 5, 2) := by decide +kernel
theorem dX11_betterOf_84 : decode cX11_betterOf 84 = .ok (.if_icmp .le 8, 3) := by decide +kernel
theorem dX11_betterOf_87 : decode cX11_betterOf 87 = .ok (.iload 6, 2) := by decide +kernel
theorem dX11_betterOf_89 : decode cX11_betterOf 89 = .ok (.goto 5, 3) := by decide +kernel
theorem dX11_betterOf_92 : decode cX11_betterOf 92 = .ok (.iload 4, 2) := by decide +kernel
theorem dX11_betterOf_94 : decode cX11_betterOf 94 = .ok (.istore 4, 2) := by decide +kernel
theorem dX11_betterOf_96 : decode cX11_betterOf 96 = .ok (.aload_n 0, 1) := by decide +kernel
theorem dX11_betterOf_97 : decode cX11_betterOf 97 = .ok (.getfield 67, 3) := by decide +kernel
theorem dX11_betterOf_100 : decode cX11_betterOf 100 = .ok (.iload_n 1, 1) := by decide +kernel
theorem dX11_betterOf_101 : decode cX11_betterOf 101 = .ok (.iaload, 1) := by decide +kernel
theorem dX11_betterOf_102 : decode cX11_betterOf 102 = .ok (.iload 5, 2) := by decide +kernel
theorem dX11_betterOf_104 : decode cX11_betterOf 104 = .ok (.if_icmp .le 12, 3) := by decide +kernel
theorem dX11_betterOf_107 : decode cX11_betterOf 107 = .ok (.aload_n 0, 1) := by decide +kernel
theorem dX11_betterOf_108 : decode cX11_betterOf 108 = .ok (.getfield 67, 3) := by decide +kernel
theorem dX11_betterOf_111 : decode cX11_betterOf 111 = .ok (.iload_n 1, 1) := by decide +kernel
theorem dX11_betterOf_112 : decode cX11_betterOf 112 = .ok (.iaload, 1) := by decide +kernel
theorem dX11_betterOf_113 : decode cX11_betterOf 113 = .ok (.goto 5, 3) := by decide +kernel
theorem dX11_betterOf_116 : decode cX11_betterOf 116 = .ok (.iload 5, 2) := by decide +kernel
theorem dX11_betterOf_118 : decode cX11_betterOf 118 = .ok (.istore 5, 2) := by decide +kernel
theorem dX11_betterOf_120 : decode cX11_betterOf 120 = .ok (.iinc 6 1, 3) := by decide +kernel
theorem dX11_betterOf_123 : decode cX11_betterOf 123 = .ok (.goto (-90), 3) := by decide +kernel
theorem dX11_betterOf_126 : decode cX11_betterOf 126 = .ok (.iload_n 3, 1) := by decide +kernel
theorem dX11_betterOf_127 : decode cX11_betterOf 127 = .ok (.ifCond .ne 8, 3) := by decide +kernel
theorem dX11_betterOf_130 : decode cX11_betterOf 130 = .ok (.iload 4, 2) := by decide +kernel
theorem dX11_betterOf_132 : decode cX11_betterOf 132 = .ok (.goto 5, 3) := by decide +kernel
theorem dX11_betterOf_135 : decode cX11_betterOf 135 = .ok (.iload 5, 2) := by decide +kernel
theorem dX11_betterOf_137 : decode cX11_betterOf 137 = .ok (.ireturn, 1) := by decide +kernel
theorem dX11_ringOf_0 : decode cX11_ringOf 0 = .ok (.aload_n 0, 1) := by decide +kernel
theorem dX11_ringOf_1 : decode cX11_ringOf 1 = .ok (.invokevirtual 270, 3) := by decide +kernel
theorem dX11_ringOf_4 : decode cX11_ringOf 4 = .ok (.iconst (-1), 1) := by decide +kernel
theorem dX11_ringOf_5 : decode cX11_ringOf 5 = .ok (.istore_n 2, 1) := by decide +kernel
theorem dX11_ringOf_6 : decode cX11_ringOf 6 = .ok (.iconst (-1), 1) := by decide +kernel
theorem dX11_ringOf_7 : decode cX11_ringOf 7 = .ok (.istore_n 3, 1) := by decide +kernel
theorem dX11_ringOf_8 : decode cX11_ringOf 8 = .ok (.aload_n 0, 1) := by decide +kernel
theorem dX11_ringOf_9 : decode cX11_ringOf 9 = .ok (.aload_n 0, 1) := by decide +kernel
theorem dX11_ringOf_10 : decode cX11_ringOf 10 = .ok (.getfield 204, 3) := by decide +kernel
theorem dX11_ringOf_13 : decode cX11_ringOf 13 = .ok (.iconst 1, 1) := by decide +kernel
theorem dX11_ringOf_14 : decode cX11_ringOf 14 = .ok (.iadd, 1) := by decide +kernel
theorem dX11_ringOf_15 : decode cX11_ringOf 15 = .ok (.putfield 220, 3) := by decide +kernel
theorem dX11_ringOf_18 : decode cX11_ringOf 18 = .ok (.aload_n 0, 1) := by decide +kernel
theorem dX11_ringOf_19 : decode cX11_ringOf 19 = .ok (.getfield 49, 3) := by decide +kernel
theorem dX11_ringOf_22 : decode cX11_ringOf 22 = .ok (.aload_n 0, 1) := by decide +kernel
theorem dX11_ringOf_23 : decode cX11_ringOf 23 = .ok (.getfield 204, 3) := by decide +kernel
theorem dX11_ringOf_26 : decode cX11_ringOf 26 = .ok (.iconst 0, 1) := by decide +kernel
theorem dX11_ringOf_27 : decode cX11_ringOf 27 = .ok (.iastore, 1) := by decide +kernel
theorem dX11_ringOf_28 : decode cX11_ringOf 28 = .ok (.aload_n 0, 1) := by decide +kernel
theorem dX11_ringOf_29 : decode cX11_ringOf 29 = .ok (.getfield 55, 3) := by decide +kernel
theorem dX11_ringOf_32 : decode cX11_ringOf 32 = .ok (.aload_n 0, 1) := by decide +kernel
theorem dX11_ringOf_33 : decode cX11_ringOf 33 = .ok (.getfield 204, 3) := by decide +kernel
theorem dX11_ringOf_36 : decode cX11_ringOf 36 = .ok (.iconst 0, 1) := by decide +kernel
theorem dX11_ringOf_37 : decode cX11_ringOf 37 = .ok (.iastore, 1) := by decide +kernel
theorem dX11_ringOf_38 : decode cX11_ringOf 38 = .ok (.iconst 0, 1) := by decide +kernel
theorem dX11_ringOf_39 : decode cX11_ringOf 39 = .ok (.istore 4, 2) := by decide +kernel
theorem dX11_ringOf_41 : decode cX11_ringOf 41 = .ok (.iload 4, 2) := by decide +kernel
theorem dX11_ringOf_43 : decode cX11_ringOf 43 = .ok (.bipush 24, 2) := by decide +kernel
theorem dX11_ringOf_45 : decode cX11_ringOf 45 = .ok (.if_icmp .ge 58, 3) := by decide +kernel
theorem dX11_ringOf_48 : decode cX11_ringOf 48 = .ok (.aload_n 0, 1) := by decide +kernel
theorem dX11_ringOf_49 : decode cX11_ringOf 49 = .ok (.getfield 52, 3) := by decide +kernel
theorem dX11_ringOf_52 : decode cX11_ringOf 52 = .ok (.aload_n 0, 1) := by decide +kernel
theorem dX11_ringOf_53 : decode cX11_ringOf 53 = .ok (.getfield 204, 3) := by decide +kernel
theorem dX11_ringOf_56 : decode cX11_ringOf 56 = .ok (.iload 4, 2) := by decide +kernel
theorem dX11_ringOf_58 : decode cX11_ringOf 58 = .ok (.iastore, 1) := by decide +kernel
theorem dX11_ringOf_59 : decode cX11_ringOf 59 = .ok (.aload_n 0, 1) := by decide +kernel
theorem dX11_ringOf_60 : decode cX11_ringOf 60 = .ok (.invokevirtual 273, 3) := by decide +kernel
theorem dX11_ringOf_63 : decode cX11_ringOf 63 = .ok (.aload_n 0, 1) := by decide +kernel
theorem dX11_ringOf_64 : decode cX11_ringOf 64 = .ok (.iload 4, 2) := by decide +kernel
theorem dX11_ringOf_66 : decode cX11_ringOf 66 = .ok (.invokevirtual 285, 3) := by decide +kernel
theorem dX11_ringOf_69 : decode cX11_ringOf 69 = .ok (.istore 5, 2) := by decide +kernel
theorem dX11_ringOf_71 : decode cX11_ringOf 71 = .ok (.iload 5, 2) := by decide +kernel
theorem dX11_ringOf_73 : decode cX11_ringOf 73 = .ok (.iload_n 3, 1) := by decide +kernel
theorem dX11_ringOf_74 : decode cX11_ringOf 74 = .ok (.if_icmp .le 8, 3) := by decide +kernel
theorem dX11_ringOf_77 : decode cX11_ringOf 77 = .ok (.iload 4, 2) := by decide +kernel
theorem dX11_ringOf_79 : decode cX11_ringOf 79 = .ok (.goto 4, 3) := by decide +kernel
theorem dX11_ringOf_82 : decode cX11_ringOf 82 = .ok (.iload_n 2, 1) := by decide +kernel
theorem dX11_ringOf_83 : decode cX11_ringOf 83 = .ok (.istore_n 2, 1) := by decide +kernel
theorem dX11_ringOf_84 : decode cX11_ringOf 84 = .ok (.iload 5, 2) := by decide +kernel
theorem dX11_ringOf_86 : decode cX11_ringOf 86 = .ok (.iload_n 3, 1) := by decide +kernel
theorem dX11_ringOf_87 : decode cX11_ringOf 87 = .ok (.if_icmp .le 8, 3) := by decide +kernel
theorem dX11_ringOf_90 : decode cX11_ringOf 90 = .ok (.iload 5, 2) := by decide +kernel
theorem dX11_ringOf_92 : decode cX11_ringOf 92 = .ok (.goto 4, 3) := by decide +kernel
theorem dX11_ringOf_95 : decode cX11_ringOf 95 = .ok (.iload_n 3, 1) := by decide +kernel
theorem dX11_ringOf_96 : decode cX11_ringOf 96 = .ok (.istore_n 3, 1) := by decide +kernel
theorem dX11_ringOf_97 : decode cX11_ringOf 97 = .ok (.iinc 4 1, 3) := by decide +kernel
theorem dX11_ringOf_100 : decode cX11_ringOf 100 = .ok (.goto (-59), 3) := by decide +kernel
theorem dX11_ringOf_103 : decode cX11_ringOf 103 = .ok (.iload_n 1, 1) := by decide +kernel
theorem dX11_ringOf_104 : decode cX11_ringOf 104 = .ok (.ifCond .ne 7, 3) := by decide +kernel
theorem dX11_ringOf_107 : decode cX11_ringOf 107 = .ok (.iload_n 2, 1) := by decide +kernel
theorem dX11_ringOf_108 : decode cX11_ringOf 108 = .ok (.goto 4, 3) := by decide +kernel
theorem dX11_ringOf_111 : decode cX11_ringOf 111 = .ok (.iload_n 3, 1) := by decide +kernel
theorem dX11_ringOf_112 : decode cX11_ringOf 112 = .ok (.ireturn, 1) := by decide +kernel
theorem nd6 (c : Nat) (hc : c < 1000) : nI c / 6 = nI (c / 6) := pk_div (d := 6) (by omega) (by decide) (by decide)
theorem nr6 (c : Nat) (hc : c < 1000) : nI c - nI c / 6 * 6 = nI (c % 6) := pk_rem (d := 6) (by omega) (by decide) (by decide)
theorem rep_XY0 {s : mS} {D : Deb} {k : Nat} (h : repR s D) : repR s (setXY D k (D.1.2 k 1) (D.1.2 k 2)) := by
  obtain ⟨h1, h2, h3, h4, h5, h6, h7, h8, h9, h10, h11⟩ := h
  refine ⟨h1, h2, h3, h4, h5, h6, h7, fun i hi j hj => ?_, h9, h10, h11⟩
  have h8' := h8 i hi j hj
  unfold setXY
  show _ = (if i = k ∧ j = 1 then _ else if i = k ∧ j = 2 then _ else _)
  by_cases e1 : i = k ∧ j = 1
  · rw [if_pos e1]; obtain ⟨rfl, rfl⟩ := e1; exact h8'
  · rw [if_neg e1]
    by_cases e2 : i = k ∧ j = 2
    · rw [if_pos e2]; obtain ⟨rfl, rfl⟩ := e2; exact h8'
    · rw [if_neg e2]; exact h8'
def stA (D : Deb) (k : Nat) (w : Int32) : Int32 := if w = 0 then (stP D k 36).1 / 6 else if w = 1 then (stP D k 36).1 - (stP D k 36).1 / 6 * 6 else (stP D k 36).2
theorem c_standOf (hd : 8 ≤ d) (L0 L1 e : Nat) (ok : okR σ L0 L1 e) (k : Nat) (hk : k < (Dt σ L0 L1 e).1.1) (w : Int32) : mMet G l d kX11_standOf [.ref 111, .int (nI k), .int w] σ (qIP (fun r s => r = stA (Dt σ L0 L1 e) k w ∧ s.1 111 2 = nI (Dt σ L0 L1 e).1.1 ∧ fW wScr σ s)) := by
  have hn : (Dt σ L0 L1 e).1.1 ≤ 8 := parC_n L0 (tx σ 0)
  refine mMet.of cm_X11_standOf rfl (Nat.le_of_ble_eq_true rfl) rfl (fun v1 σ1 h => by obtain ⟨r, h1, -⟩ := h; rw [h1]; rfl) ?_
  refine m_aload_n dX11_standOf_0 0 rfl ?_
  refine m_callV (As := []) dX11_standOf_1 cv_X11_270 (by first | assumption | rfl) (by decide) (by omega) rfl rfl (Nat.le_of_ble_eq_true rfl) (c_asTold (d := d - 1) (by omega) L0 L1 e ok) (fun v1 σ1 hv1 => ?_)
  refine m_qVP hv1 (fun ha => ?_)
  clear hv1 v1
  rename mS => s0
  obtain ⟨a1, a2, a3⟩ := ha
  generalize Dt σ L0 L1 e = D at *
  have hk8 : k < 8 := by omega
  refine m_aload_n dX11_standOf_4 0 rfl ?_
  refine m_getR 4 115 dX11_standOf_5 fl_X11_19_10 rfl (by decide) rfl (by first | assumption | rfl) ?_
  refine m_iload_n dX11_standOf_8 1 rfl ?_
  refine m_iald dX11_standOf_9 (by first | assumption | rfl) k rfl (by first | assumption | omega | decide) ?_
  refine m_istore_n (ls1 := [(3, _), (0, _), (1, _), (2, _)]) dX11_standOf_10 (by decide) rfl ?_
  refine m_aload_n dX11_standOf_11 1 rfl ?_
  refine m_getR 5 116 dX11_standOf_12 fl_X11_22_10 rfl (by decide) rfl (by first | assumption | rfl) ?_
  refine m_iload_n dX11_standOf_15 2 rfl ?_
  refine m_iald dX11_standOf_16 (by first | assumption | rfl) k rfl (by first | assumption | omega | decide) ?_
  refine m_istore (ls1 := [(4, _), (3, _), (0, _), (1, _), (2, _)]) dX11_standOf_17 (by decide) rfl ?_
  refine m_iconst (v := -1) dX11_standOf_19 (by decide) ?_
  refine m_istore (ls1 := [(5, _), (4, _), (3, _), (0, _), (1, _), (2, _)]) dX11_standOf_20 (by decide) rfl ?_
  refine m_iconst (v := -1) dX11_standOf_22 (by decide) ?_
  refine m_istore (ls1 := [(6, _), (5, _), (4, _), (3, _), (0, _), (1, _), (2, _)]) dX11_standOf_23 (by decide) rfl ?_
  refine m_iconst (v := 0) dX11_standOf_25 (by decide) ?_
  refine m_istore (ls1 := [(7, _), (6, _), (5, _), (4, _), (3, _), (0, _), (1, _), (2, _)]) dX11_standOf_26 (by decide) rfl ?_
  refine down (N := 36) (fun c (q : mS × Int32 × Int32) => (∃ x y, repR q.1 (setXY D k x y)) ∧ q.2 = stP D k c ∧ fW wScr σ q.1) (fun c q => mW G l d kX11_standOf 28 [(7, .int (nI c)), (6, .int q.2.2), (5, .int q.2.1), (4, .int (s0.1 116 k)), (3, .int (s0.1 115 k)), (0, .ref 111), (1, .int (nI k)), (2, .int w)] [] q.1 _) ?_ ?_ 0 (s0, -1, -1) (Nat.zero_le _) ⟨⟨_, _, rep_XY0 a1⟩, rfl, a3⟩
  · rintro ⟨s, b, m⟩ ⟨⟨x, y, r⟩, hq, f⟩
    have hb : b = (stP D k 36).1 := congrArg Prod.fst hq
    have hm : m = (stP D k 36).2 := congrArg Prod.snd hq
    show mW G l d kX11_standOf 28 [(7, .int (nI 36)), (6, .int m), (5, .int b), (4, .int (s0.1 116 k)), (3, .int (s0.1 115 k)), (0, .ref 111), (1, .int (nI k)), (2, .int w)] [] s _
    refine m_iload dX11_standOf_28 0 rfl ?_
    refine m_bipush (v := 36) dX11_standOf_30 (by decide) ?_
    refine m_icmp_ge dX11_standOf_32 129 (by decide) (fun h => ?_) (fun h => ?_)
    · refine m_aload_n dX11_standOf_129 5 rfl ?_
      refine m_getR 4 115 dX11_standOf_130 fl_X11_19_10 rfl (by decide) rfl (by first | assumption | rfl) ?_
      refine m_iload_n dX11_standOf_133 6 rfl ?_
      refine m_iload_n dX11_standOf_134 4 rfl ?_
      refine m_iast dX11_standOf_135 (by first | assumption | rfl) k rfl (by first | assumption | omega | decide) ?_
      refine m_aload_n dX11_standOf_136 5 rfl ?_
      refine m_getR 5 116 dX11_standOf_137 fl_X11_22_10 rfl (by decide) rfl (by first | assumption | rfl) ?_
      refine m_iload_n dX11_standOf_140 6 rfl ?_
      refine m_iload dX11_standOf_141 3 rfl ?_
      refine m_iast dX11_standOf_143 (by first | assumption | rfl) k rfl (by first | assumption | omega | decide) ?_
      refine m_iload_n dX11_standOf_144 7 rfl ?_
      refine m_sel (pcJ := 171) ?_ (fun kt0 kf0 => m_if_ne dX11_standOf_145 156 (by decide) (fun h => (m_iload_n dX11_standOf_156 7 rfl (m_iconst (v := 1) dX11_standOf_157 (by decide) (m_sel (pcJ := 171) (kf0 h) (fun kt1 kf1 => m_icmp_ne dX11_standOf_158 169 (by decide) (fun h => (m_iload dX11_standOf_169 1 rfl (kf1 h))) (fun h => (m_iload dX11_standOf_161 2 rfl (m_bipush (v := 6) dX11_standOf_163 (by decide) (m_irem dX11_standOf_165 (by decide) (m_goto dX11_standOf_166 171 (by decide) (kt1 h))))))))))) (fun h => (m_iload dX11_standOf_148 2 rfl (m_bipush (v := 6) dX11_standOf_150 (by decide) (m_idiv dX11_standOf_152 (by decide) (m_goto dX11_standOf_153 171 (by decide) (kt0 h)))))))
      refine m_ireturn dX11_standOf_171 ⟨_, rfl, ?_, ?_, fW.us (by omega) (fW.us (by omega) f)⟩
      · rw [hb, hm]; rfl
      · simp [us_at]; exact r.2.2.2.1
    · exact absurd (Int32.le_refl _) h
  · rintro c ⟨s, b, m⟩ hc ⟨⟨x, y, r⟩, hq, f⟩ ih
    have hb : b = (stP D k c).1 := congrArg Prod.fst hq
    have hm : m = (stP D k c).2 := congrArg Prod.snd hq
    show mW G l d kX11_standOf 28 [(7, .int (nI c)), (6, .int m), (5, .int b), (4, .int (s0.1 116 k)), (3, .int (s0.1 115 k)), (0, .ref 111), (1, .int (nI k)), (2, .int w)] [] s _
    have hoth : othP (s.1 115) (s.1 116) k (nI (c / 6)) (nI (c % 6)) D.1.1 = othP (fun i => D.1.2 i 1) (fun i => D.1.2 i 2) k (nI (c / 6)) (nI (c % 6)) D.1.1 := othP_cong _ (fun i hi hik => by
      have g1 := r.2.2.2.2.2.2.2.1 i hi 1 (by decide)
      have g2 := r.2.2.2.2.2.2.2.1 i hi 2 (by decide)
      unfold setXY at g1 g2
      simp [hik] at g1 g2
      exact ⟨g1, g2⟩)
    refine m_iload dX11_standOf_28 0 rfl ?_
    refine m_bipush (v := 36) dX11_standOf_30 (by decide) ?_
    refine m_icmp_ge dX11_standOf_32 129 (by decide) (fun h => ?_) (fun h => ?_)
    · exact absurd ((nle (a := 36) (by omega) (by omega)).mp h) (by omega)
    · clear h
      refine m_aload_n dX11_standOf_35 5 rfl ?_
      refine m_iload_n dX11_standOf_36 6 rfl ?_
      refine m_iload dX11_standOf_37 0 rfl ?_
      refine m_bipush (v := 6) dX11_standOf_39 (by decide) ?_
      refine m_idiv dX11_standOf_41 (by decide) ?_
      refine mW.top (nd6 c (by omega)) ?_
      refine m_iload dX11_standOf_42 0 rfl ?_
      refine m_bipush (v := 6) dX11_standOf_44 (by decide) ?_
      refine m_irem dX11_standOf_46 (by decide) ?_
      refine mW.top (nr6 c (by omega)) ?_
      refine m_callV (As := [_, _, _]) dX11_standOf_47 cv_X11_313 (by first | assumption | rfl) (by decide) (by omega) rfl rfl (Nat.le_of_ble_eq_true rfl) (c_isOther (d := d - 1) D.1.1 hn r.2.2.2.1 k hk8 _ _) (fun v1 σ1 hv1 => ?_)
      refine m_qI hv1 ?_
      clear hv1 v1 σ1
      rw [hoth]
      refine m_if_ne dX11_standOf_50 123 (by decide) (fun h50 => ?_) (fun h50 => ?_)
      · refine m_iinc (v := nI (c + 1)) (ls1 := [(7, _), (6, _), (5, _), (4, _), (3, _), (0, _), (1, _), (2, _)]) dX11_standOf_123 0 rfl (nI_1 c) (by decide) rfl ?_
        refine m_goto dX11_standOf_126 28 (by decide) ?_
        exact ih (s, b, m) ⟨⟨x, y, r⟩, by rw [hq, stP, if_pos (bI_ne.mp h50)], f⟩
      · refine m_aload_n dX11_standOf_53 5 rfl ?_
        refine m_getR 4 115 dX11_standOf_54 fl_X11_19_10 rfl (by decide) rfl (by first | assumption | rfl) ?_
        refine m_iload_n dX11_standOf_57 6 rfl ?_
        refine m_iload dX11_standOf_58 0 rfl ?_
        refine m_bipush (v := 6) dX11_standOf_60 (by decide) ?_
        refine m_idiv dX11_standOf_62 (by decide) ?_
        refine mW.top (nd6 c (by omega)) ?_
        refine m_iast dX11_standOf_63 (by first | assumption | rfl) k rfl (by first | assumption | omega | decide) ?_
        refine m_aload_n dX11_standOf_64 5 rfl ?_
        refine m_getR 5 116 dX11_standOf_65 fl_X11_22_10 rfl (by decide) rfl (by first | assumption | rfl) ?_
        refine m_iload_n dX11_standOf_68 6 rfl ?_
        refine m_iload dX11_standOf_69 0 rfl ?_
        refine m_bipush (v := 6) dX11_standOf_71 (by decide) ?_
        refine m_irem dX11_standOf_73 (by decide) ?_
        refine mW.top (nr6 c (by omega)) ?_
        refine m_iast dX11_standOf_74 (by first | assumption | rfl) k rfl (by first | assumption | omega | decide) ?_
        have r1 := rep_XY (x1 := nI (c / 6)) (y1 := nI (c % 6)) hk r
        have f1 : fW wScr σ (us (us s 115 k (nI (c / 6))) 116 k (nI (c % 6))) := fW.us (by omega) (fW.us (by omega) f)
        refine m_aload_n dX11_standOf_75 5 rfl ?_
        refine m_callV (As := []) dX11_standOf_76 cv_X11_273 (by first | assumption | rfl) (by decide) (by omega) rfl rfl (Nat.le_of_ble_eq_true rfl) (c_runsD (d := d - 1) (by omega) _ r1) (fun v1 σ1 hv1 => ?_)
        refine m_qVP hv1 (fun hz => ?_)
        clear hv1 v1
        rename mS => s2
        obtain ⟨z1, z2⟩ := hz
        have hp : s2.1 131 k = ptsD (setXY D k (nI (c / 6)) (nI (c % 6))) k := (z1.2.1 k hk).2.2.2.1
        generalize hP : ptsD (setXY D k (nI (c / 6)) (nI (c % 6))) k = P at hp
        have r2 := r1.run z2
        have f2 : fW wScr σ s2 := f1.tr (z2.mono (fun y z h => by omega))
        refine m_aload_n dX11_standOf_79 5 rfl ?_
        refine m_getR 25 131 dX11_standOf_80 fl_X11_67_10 rfl (by decide) rfl (by first | assumption | rfl) ?_
        refine m_iload_n dX11_standOf_83 6 rfl ?_
        refine m_iald dX11_standOf_84 (by first | assumption | rfl) k rfl (by first | assumption | omega | decide) ?_
        refine mW.top hp ?_
        refine m_iload dX11_standOf_85 1 rfl ?_
        refine m_sel (pcJ := 97) ?_ (fun kt0 kf0 => m_icmp_le dX11_standOf_87 95 (by decide) (fun h => (m_iload dX11_standOf_95 2 rfl (kt0 h))) (fun h => (m_iload dX11_standOf_90 0 rfl (m_goto dX11_standOf_92 97 (by decide) (kf0 h)))))
        refine m_istore (ls1 := [(5, _), (7, _), (6, _), (4, _), (3, _), (0, _), (1, _), (2, _)]) dX11_standOf_97 (by decide) rfl ?_
        refine m_aload_n dX11_standOf_99 5 rfl ?_
        refine m_getR 25 131 dX11_standOf_100 fl_X11_67_10 rfl (by decide) rfl (by first | assumption | rfl) ?_
        refine m_iload_n dX11_standOf_103 6 rfl ?_
        refine m_iald dX11_standOf_104 (by first | assumption | rfl) k rfl (by first | assumption | omega | decide) ?_
        refine mW.top hp ?_
        refine m_iload dX11_standOf_105 2 rfl ?_
        refine m_sel (pcJ := 121) ?_ (fun kt0 kf0 => m_icmp_le dX11_standOf_107 119 (by decide) (fun h => (m_iload dX11_standOf_119 2 rfl (kt0 h))) (fun h => (m_aload_n dX11_standOf_110 5 rfl (m_getR 25 131 dX11_standOf_111 fl_X11_67_10 rfl (by decide) rfl (by first | assumption | rfl) (m_iload_n dX11_standOf_114 6 rfl (m_iald dX11_standOf_115 (by first | assumption | rfl) k rfl (by first | assumption | omega | decide) (mW.top hp (m_goto dX11_standOf_116 121 (by decide) (kf0 h)))))))))
        refine m_istore (ls1 := [(6, _), (5, _), (7, _), (4, _), (3, _), (0, _), (1, _), (2, _)]) dX11_standOf_121 (by decide) rfl ?_
        refine m_iinc (v := nI (c + 1)) (ls1 := [(7, _), (6, _), (5, _), (4, _), (3, _), (0, _), (1, _), (2, _)]) dX11_standOf_123 2 rfl (nI_1 c) (by decide) rfl ?_
        refine m_goto dX11_standOf_126 28 (by decide) ?_
        refine ih (s2, (if P ≤ m then b else nI c), (if P ≤ m then m else P)) ⟨⟨_, _, r2⟩, ?_, f2⟩
        have hst : stP D k (c + 1) = if P ≤ m then (b, m) else (nI c, P) := by
          rw [stP, if_neg (fun q => by rw [q] at h50; exact absurd h50 (by decide)), hP, hm]
          rw [show (b, (stP D k c).2) = stP D k c by rw [← hm]; exact hq]
        rw [hst]
        show ((if P ≤ m then b else nI c), (if P ≤ m then m else P)) = _
        by_cases hle : P ≤ m
        · rw [if_pos hle, if_pos hle, if_pos hle]
        · rw [if_neg hle, if_neg hle, if_neg hle]
/-- what the trials change: the counts, the places behind the told, the run -/
abbrev wTry (ns e : Nat) : Nat → Nat → Prop := fun y z => (y = 111 ∧ (z = 16 ∨ z = 17 ∨ z = 21 ∨ (28 ≤ z ∧ z ≤ 31))) ∨ (119 ≤ y ∧ y ≤ 121 ∧ z = ns) ∨ (125 ≤ y ∧ y ≤ 127 ∧ z = e) ∨ (128 ≤ y ∧ y ≤ 142)
theorem rep_try {s0 s : mS} {D : Deb} (h : repR s0 D) (f : fW (wTry D.2.1.1 D.2.2.1.1) s0 s) {m : Int32} (h16 : s.1 111 16 = nI D.2.1.1) (h17 : s.1 111 17 = nI D.2.2.1.1) (h21 : s.1 111 21 = m) : repR s (maskD D m) := by
  obtain ⟨h1, h2, h3, h4, h5, h6, h7, h8, h9, h10, h11⟩ := h
  exact ⟨h1, h2, h3, (f.at (by omega)).trans h4, h16, h17, h21, fun i hi j hj => (f.at (by omega)).trans (h8 i hi j hj), fun i (hi : i < D.2.1.1) j hj => (f.at (by omega)).trans (h9 i hi j hj), fun i (hi : i < D.2.2.1.1) j hj => (f.at (by omega)).trans (h10 i hi j hj), h11⟩
theorem rep_tryS {s0 s : mS} {D : Deb} (h : repR s0 D) (f : fW (wTry D.2.1.1 D.2.2.1.1) s0 s) {mo k v : Nat} (hs : D.2.1.1 ≤ 12) (hk : k < 8) (h16 : s.1 111 16 = nI (D.2.1.1 + 1)) (h17 : s.1 111 17 = nI D.2.2.1.1) (h21 : s.1 111 21 = D.2.2.2) (h119 : s.1 119 D.2.1.1 = nI mo) (h120 : s.1 120 D.2.1.1 = nI k) (h121 : s.1 121 D.2.1.1 = nI v) : repR s (addS D (nI mo) (nI k) (nI v)) := by
  obtain ⟨h1, h2, h3, h4, h5, h6, h7, h8, h9, h10, h11⟩ := h
  refine ⟨h1, by show D.2.1.1 + 1 ≤ 13; omega, h3, (f.at (by omega)).trans h4, h16, h17, h21, fun i hi j hj => (f.at (by omega)).trans (h8 i hi j hj), fun i hi j hj => ?_, fun i (hi : i < D.2.2.1.1) j hj => (f.at (by omega)).trans (h10 i hi j hj), fun i hi => ?_⟩
  · have hi' : i < D.2.1.1 + 1 := hi
    show _ = if i = D.2.1.1 then (if j = 0 then nI mo else if j = 1 then nI k else nI v) else D.2.1.2 i j
    by_cases e : i = D.2.1.1
    · subst e
      rw [if_pos rfl]
      rcases (show j = 0 ∨ j = 1 ∨ j = 2 by omega) with rfl | rfl | rfl
      · exact h119
      · exact h120
      · exact h121
    · rw [if_neg e]
      exact (f.at (by omega)).trans (h9 i (by omega) j hj)
  · have hi' : i < D.2.1.1 + 1 := hi
    show ∃ j, j < 8 ∧ (if i = D.2.1.1 then (if (1 : Nat) = 0 then nI mo else if (1 : Nat) = 1 then nI k else nI v) else D.2.1.2 i 1) = nI j
    by_cases e : i = D.2.1.1
    · rw [if_pos e]; exact ⟨k, hk, rfl⟩
    · rw [if_neg e]; exact h11 i (by omega)
theorem rep_tryE {s0 s : mS} {D : Deb} (h : repR s0 D) (f : fW (wTry D.2.1.1 D.2.2.1.1) s0 s) {t : Nat} (he : D.2.2.1.1 ≤ 8) (h16 : s.1 111 16 = nI D.2.1.1) (h17 : s.1 111 17 = nI (D.2.2.1.1 + 1)) (h21 : s.1 111 21 = D.2.2.2) (h125 : s.1 125 D.2.2.1.1 = 0) (h126 : s.1 126 D.2.2.1.1 = nI t) (h127 : s.1 127 D.2.2.1.1 = 0) : repR s (addE D (nI t)) := by
  obtain ⟨h1, h2, h3, h4, h5, h6, h7, h8, h9, h10, h11⟩ := h
  refine ⟨h1, h2, by show D.2.2.1.1 + 1 ≤ 9; omega, (f.at (by omega)).trans h4, h16, h17, h21, fun i hi j hj => (f.at (by omega)).trans (h8 i hi j hj), fun i (hi : i < D.2.1.1) j hj => (f.at (by omega)).trans (h9 i hi j hj), fun i hi j hj => ?_, h11⟩
  have hi' : i < D.2.2.1.1 + 1 := hi
  show _ = if i = D.2.2.1.1 then (if j = 1 then nI t else 0) else D.2.2.1.2 i j
  by_cases e : i = D.2.2.1.1
  · subst e
    rw [if_pos rfl]
    rcases (show j = 0 ∨ j = 1 ∨ j = 2 by omega) with rfl | rfl | rfl
    · exact h125
    · exact h126
    · exact h127
  · rw [if_neg e]
    exact (f.at (by omega)).trans (h10 i (by omega) j hj)
theorem maskD_id (D : Deb) : maskD D D.2.2.2 = D := rfl
def btA (D : Deb) (k mo : Nat) (w : Int32) : Int32 := if w = 0 then (btP D k mo 3).1 else (btP D k mo 3).2
theorem c_betterOf (hd : 8 ≤ d) (L0 L1 e : Nat) (ok : okR σ L0 L1 e) (k mo : Nat) (hk : k < (Dt σ L0 L1 e).1.1) (hmo : mo < 24) (w : Int32) : mMet G l d kX11_betterOf [.ref 111, .int (nI k), .int (nI mo), .int w] σ (qIP (fun r s => r = btA (Dt σ L0 L1 e) k mo w ∧ s.1 111 2 = nI (Dt σ L0 L1 e).1.1 ∧ fW wScr σ s)) := by
  have hn : (Dt σ L0 L1 e).1.1 ≤ 8 := parC_n L0 (tx σ 0)
  have hs12 : (Dt σ L0 L1 e).2.1.1 ≤ 12 := parS_n L1 (tx σ 1)
  refine mMet.of cm_X11_betterOf rfl (Nat.le_of_ble_eq_true rfl) rfl (fun v1 σ1 h => by obtain ⟨r, h1, -⟩ := h; rw [h1]; rfl) ?_
  refine m_aload_n dX11_betterOf_0 0 rfl ?_
  refine m_callV (As := []) dX11_betterOf_1 cv_X11_270 (by first | assumption | rfl) (by decide) (by omega) rfl rfl (Nat.le_of_ble_eq_true rfl) (c_asTold (d := d - 1) (by omega) L0 L1 e ok) (fun v1 σ1 hv1 => ?_)
  refine m_qVP hv1 (fun ha => ?_)
  clear hv1 v1
  rename mS => s0
  obtain ⟨a1, a2, a3⟩ := ha
  generalize Dt σ L0 L1 e = D at *
  have hk8 : k < 8 := by omega
  have hs13 : D.2.1.1 < 13 := by omega
  refine m_iconst (v := -1) dX11_betterOf_4 (by decide) ?_
  refine m_istore (ls1 := [(4, _), (0, _), (1, _), (2, _), (3, _)]) dX11_betterOf_5 (by decide) rfl ?_
  refine m_iconst (v := -1) dX11_betterOf_7 (by decide) ?_
  refine m_istore (ls1 := [(5, _), (4, _), (0, _), (1, _), (2, _), (3, _)]) dX11_betterOf_8 (by decide) rfl ?_
  refine m_aload_n dX11_betterOf_10 2 rfl ?_
  refine m_getR 9 119 dX11_betterOf_11 fl_X11_31_10 rfl (by decide) rfl (by first | assumption | rfl) ?_
  refine m_aload_n dX11_betterOf_14 2 rfl ?_
  refine m_getI 8 dX11_betterOf_15 fl_X11_165_10 rfl (by decide) (by first | assumption | rfl) ?_
  refine mW.top a2 ?_
  refine m_iload_n dX11_betterOf_18 4 rfl ?_
  refine m_iast dX11_betterOf_19 (by first | assumption | rfl) D.2.1.1 rfl (by first | assumption | omega | decide) ?_
  refine m_aload_n dX11_betterOf_20 2 rfl ?_
  refine m_getR 10 120 dX11_betterOf_21 fl_X11_34_10 rfl (by decide) rfl (by first | assumption | rfl) ?_
  refine m_aload_n dX11_betterOf_24 2 rfl ?_
  refine m_getI 8 dX11_betterOf_25 fl_X11_165_10 rfl (by decide) (by first | assumption | rfl) ?_
  refine mW.top a2 ?_
  refine m_iload_n dX11_betterOf_28 3 rfl ?_
  refine m_iast dX11_betterOf_29 (by first | assumption | rfl) D.2.1.1 rfl (by first | assumption | omega | decide) ?_
  refine m_iconst (v := 0) dX11_betterOf_30 (by decide) ?_
  refine m_istore (ls1 := [(6, _), (5, _), (4, _), (0, _), (1, _), (2, _), (3, _)]) dX11_betterOf_31 (by decide) rfl ?_
  refine down (N := 3) (fun v (q : mS × Int32 × Int32) => fW (wTry D.2.1.1 D.2.2.1.1) s0 q.1 ∧ q.1.1 111 17 = nI D.2.2.1.1 ∧ q.1.1 111 21 = D.2.2.2 ∧ q.1.1 119 D.2.1.1 = nI mo ∧ q.1.1 120 D.2.1.1 = nI k ∧ q.2 = btP D k mo v) (fun v q => mW G l d kX11_betterOf 33 [(6, .int (nI v)), (5, .int q.2.2), (4, .int q.2.1), (0, .ref 111), (1, .int (nI k)), (2, .int (nI mo)), (3, .int w)] [] q.1 _) ?_ ?_ 0 (us (us s0 119 D.2.1.1 (nI mo)) 120 D.2.1.1 (nI k), -1, -1) (Nat.zero_le _) ⟨fW.us (by omega) (fW.us (by omega) fW.rf), ?_, ?_, ?_, ?_, rfl⟩
  · rintro ⟨s, b, m⟩ ⟨f, q17, q21, q9, q10, hq⟩
    have hb : b = (btP D k mo 3).1 := congrArg Prod.fst hq
    have hm : m = (btP D k mo 3).2 := congrArg Prod.snd hq
    show mW G l d kX11_betterOf 33 [(6, .int (nI 3)), (5, .int m), (4, .int b), (0, .ref 111), (1, .int (nI k)), (2, .int (nI mo)), (3, .int w)] [] s _
    refine m_iload dX11_betterOf_33 0 rfl ?_
    refine m_iconst (v := 3) dX11_betterOf_35 (by decide) ?_
    refine m_icmp_ge dX11_betterOf_36 126 (by decide) (fun h => ?_) (fun h => ?_)
    · refine m_iload_n dX11_betterOf_126 6 rfl ?_
      refine m_sel (pcJ := 137) ?_ (fun kt0 kf0 => m_if_ne dX11_betterOf_127 135 (by decide) (fun h => (m_iload dX11_betterOf_135 1 rfl (kf0 h))) (fun h => (m_iload dX11_betterOf_130 2 rfl (m_goto dX11_betterOf_132 137 (by decide) (kt0 h)))))
      refine m_ireturn dX11_betterOf_137 ⟨_, rfl, ?_, (f.at (by omega)).trans a1.2.2.2.1, a3.tr (f.mono (fun y z h => by omega))⟩
      rw [hb, hm]; rfl
    · exact absurd (Int32.le_refl _) h
  · rintro v ⟨s, b, m⟩ hv ⟨f, q17, q21, q9, q10, hq⟩ ih
    have hb : b = (btP D k mo v).1 := congrArg Prod.fst hq
    have hm : m = (btP D k mo v).2 := congrArg Prod.snd hq
    have q8' : s.1 111 8 = nI D.2.1.1 := (f.at (by omega)).trans a2
    show mW G l d kX11_betterOf 33 [(6, .int (nI v)), (5, .int m), (4, .int b), (0, .ref 111), (1, .int (nI k)), (2, .int (nI mo)), (3, .int w)] [] s _
    refine m_iload dX11_betterOf_33 0 rfl ?_
    refine m_iconst (v := 3) dX11_betterOf_35 (by decide) ?_
    refine m_icmp_ge dX11_betterOf_36 126 (by decide) (fun h => ?_) (fun h => ?_)
    · exact absurd ((nle (a := 3) (by omega) (by omega)).mp h) (by omega)
    · clear h
      refine m_aload_n dX11_betterOf_39 3 rfl ?_
      refine m_getR 11 121 dX11_betterOf_40 fl_X11_37_10 rfl (by decide) rfl (by first | assumption | rfl) ?_
      refine m_aload_n dX11_betterOf_43 3 rfl ?_
      refine m_getI 8 dX11_betterOf_44 fl_X11_165_10 rfl (by decide) (by first | assumption | rfl) ?_
      refine mW.top q8' ?_
      refine m_iload dX11_betterOf_47 0 rfl ?_
      refine m_iast dX11_betterOf_49 (by first | assumption | rfl) D.2.1.1 rfl (by first | assumption | omega | decide) ?_
      refine m_aload_n dX11_betterOf_50 3 rfl ?_
      refine m_iload dX11_betterOf_51 0 rfl ?_
      refine m_sel (pcJ := 69) ?_ (fun kt0 kf0 => m_if_ne dX11_betterOf_53 63 (by decide) (fun h => (m_aload_n dX11_betterOf_63 3 rfl (m_getI 8 dX11_betterOf_64 fl_X11_165_10 rfl (by decide) (by first | assumption | rfl) (mW.top q8' (m_iconst (v := 1) dX11_betterOf_67 (by decide) (m_iadd dX11_betterOf_68 (kf0 h))))))) (fun h => (m_aload_n dX11_betterOf_56 3 rfl (m_getI 8 dX11_betterOf_57 fl_X11_165_10 rfl (by decide) (by first | assumption | rfl) (mW.top q8' (m_goto dX11_betterOf_60 69 (by decide) (kt0 h)))))))
      refine mW.top (w := nI (btD D k mo v).2.1.1) ?_ ?_
      · unfold btD
        by_cases e0 : v = 0
        · subst e0; rw [if_pos rfl]; rfl
        · have e1 : ¬ nI v = 0 := fun z => e0 ((neq (b := 0) (by omega) (by omega)).mp z)
          rw [if_neg e1, if_neg e0]; exact nI_1 _
      refine m_putI 16 dX11_betterOf_69 fw_X11_217_10 rfl (by decide) rfl rfl (by first | assumption | rfl) ?_
      refine mW.cut (fun s1 => repR s1 (btD D k mo v) ∧ s1.1 111 17 = nI D.2.2.1.1 ∧ s1.1 111 21 = D.2.2.2 ∧ s1.1 119 D.2.1.1 = nI mo ∧ s1.1 120 D.2.1.1 = nI k ∧ fW (wTry D.2.1.1 D.2.2.1.1) s0 s1) ⟨?_, ?_, ?_, ?_, ?_, fW.us (by omega) (fW.us (by omega) f)⟩ (fun s1 hs1 => ?_)
      · have f1 : fW (wTry D.2.1.1 D.2.2.1.1) s0 (us (us s 121 D.2.1.1 (nI v)) 111 16 (nI (btD D k mo v).2.1.1)) := fW.us (by omega) (fW.us (by omega) f)
        unfold btD at f1 ⊢
        by_cases e0 : v = 0
        · subst e0
          rw [if_pos rfl] at f1 ⊢
          exact rep_try (m := D.2.2.2) a1 f1 (by simp [us_at]) (by simp [us_at]; exact q17) (by simp [us_at]; exact q21)
        · rw [if_neg e0] at f1 ⊢
          exact rep_tryS a1 f1 (by omega) hk8 (by simp [us_at]; rfl) (by simp [us_at]; exact q17) (by simp [us_at]; exact q21) (by simp [us_at]; exact q9) (by simp [us_at]; exact q10) (by simp [us_at])
      · simp [us_at]; exact q17
      · simp [us_at]; exact q21
      · simp [us_at]; exact q9
      · simp [us_at]; exact q10
      obtain ⟨c1, c2, c3, c4, c5, c6⟩ := hs1
      refine m_aload_n dX11_betterOf_72 3 rfl ?_
      refine m_callV (As := []) dX11_betterOf_73 cv_X11_273 (by first | assumption | rfl) (by decide) (by omega) rfl rfl (Nat.le_of_ble_eq_true rfl) (c_runsD (d := d - 1) (by omega) _ c1) (fun v1 σ1 hv1 => ?_)
      refine m_qVP hv1 (fun hz => ?_)
      clear hv1 v1
      rename mS => s2
      obtain ⟨z1, z2⟩ := hz
      have hkb : k < (btD D k mo v).1.1 := by
        unfold btD; split <;> exact hk
      have hp : s2.1 131 k = ptsD (btD D k mo v) k := (z1.2.1 k hkb).2.2.2.1
      generalize hP : ptsD (btD D k mo v) k = P at hp
      refine m_aload_n dX11_betterOf_76 3 rfl ?_
      refine m_getR 25 131 dX11_betterOf_77 fl_X11_67_10 rfl (by decide) rfl (by first | assumption | rfl) ?_
      refine m_iload_n dX11_betterOf_80 4 rfl ?_
      refine m_iald dX11_betterOf_81 (by first | assumption | rfl) k rfl (by first | assumption | omega | decide) ?_
      refine mW.top hp ?_
      refine m_iload dX11_betterOf_82 1 rfl ?_
      refine m_sel (pcJ := 94) ?_ (fun kt0 kf0 => m_icmp_le dX11_betterOf_84 92 (by decide) (fun h => (m_iload dX11_betterOf_92 2 rfl (kt0 h))) (fun h => (m_iload dX11_betterOf_87 0 rfl (m_goto dX11_betterOf_89 94 (by decide) (kf0 h)))))
      refine m_istore (ls1 := [(4, _), (6, _), (5, _), (0, _), (1, _), (2, _), (3, _)]) dX11_betterOf_94 (by decide) rfl ?_
      refine m_aload_n dX11_betterOf_96 3 rfl ?_
      refine m_getR 25 131 dX11_betterOf_97 fl_X11_67_10 rfl (by decide) rfl (by first | assumption | rfl) ?_
      refine m_iload_n dX11_betterOf_100 4 rfl ?_
      refine m_iald dX11_betterOf_101 (by first | assumption | rfl) k rfl (by first | assumption | omega | decide) ?_
      refine mW.top hp ?_
      refine m_iload dX11_betterOf_102 2 rfl ?_
      refine m_sel (pcJ := 118) ?_ (fun kt0 kf0 => m_icmp_le dX11_betterOf_104 116 (by decide) (fun h => (m_iload dX11_betterOf_116 2 rfl (kt0 h))) (fun h => (m_aload_n dX11_betterOf_107 3 rfl (m_getR 25 131 dX11_betterOf_108 fl_X11_67_10 rfl (by decide) rfl (by first | assumption | rfl) (m_iload_n dX11_betterOf_111 4 rfl (m_iald dX11_betterOf_112 (by first | assumption | rfl) k rfl (by first | assumption | omega | decide) (mW.top hp (m_goto dX11_betterOf_113 118 (by decide) (kf0 h)))))))))
      refine m_istore (ls1 := [(5, _), (4, _), (6, _), (0, _), (1, _), (2, _), (3, _)]) dX11_betterOf_118 (by decide) rfl ?_
      refine m_iinc (v := nI (v + 1)) (ls1 := [(6, _), (5, _), (4, _), (0, _), (1, _), (2, _), (3, _)]) dX11_betterOf_120 2 rfl (nI_1 v) (by decide) rfl ?_
      refine m_goto dX11_betterOf_123 33 (by decide) ?_
      refine ih (s2, (if P ≤ m then b else nI v), (if P ≤ m then m else P)) ⟨c6.tr (z2.mono (fun y z h => by omega)), (z2.at (by omega)).trans c2, (z2.at (by omega)).trans c3, (z2.at (by omega)).trans c4, (z2.at (by omega)).trans c5, ?_⟩
      have hst : btP D k mo (v + 1) = if P ≤ m then (b, m) else (nI v, P) := by
        rw [btP, hP, hm]
        rw [show (b, (btP D k mo v).2) = btP D k mo v by rw [← hm]; exact hq]
      rw [hst]
      show ((if P ≤ m then b else nI v), (if P ≤ m then m else P)) = _
      by_cases hle : P ≤ m
      · rw [if_pos hle, if_pos hle, if_pos hle]
      · rw [if_neg hle, if_neg hle, if_neg hle]
  · simp [us_at]; exact a1.2.2.2.2.2.1
  · simp [us_at]; exact a1.2.2.2.2.2.2.1
  · simp [us_at]
  · simp [us_at]
def rgA (D : Deb) (w : Int32) : Int32 := if w = 0 then (rgP D 24).1 else (rgP D 24).2
theorem c_ringOf (hd : 8 ≤ d) (L0 L1 e : Nat) (ok : okR σ L0 L1 e) (w : Int32) : mMet G l d kX11_ringOf [.ref 111, .int w] σ (qIP (fun r s => r = rgA (Dt σ L0 L1 e) w ∧ fW wScr σ s)) := by
  have hn : (Dt σ L0 L1 e).1.1 ≤ 8 := parC_n L0 (tx σ 0)
  have he8 : (Dt σ L0 L1 e).2.2.1.1 ≤ 8 := ok.2.2.2.2.2
  have hev : σ.1 111 12 = nI (Dt σ L0 L1 e).2.2.1.1 := ok.2.2.2.2.1
  refine mMet.of cm_X11_ringOf rfl (Nat.le_of_ble_eq_true rfl) rfl (fun v1 σ1 h => by obtain ⟨r, h1, -⟩ := h; rw [h1]; rfl) ?_
  refine m_aload_n dX11_ringOf_0 0 rfl ?_
  refine m_callV (As := []) dX11_ringOf_1 cv_X11_270 (by first | assumption | rfl) (by decide) (by omega) rfl rfl (Nat.le_of_ble_eq_true rfl) (c_asTold (d := d - 1) (by omega) L0 L1 e ok) (fun v1 σ1 hv1 => ?_)
  refine m_qVP hv1 (fun ha => ?_)
  clear hv1 v1
  rename mS => s0
  obtain ⟨a1, a2, a3⟩ := ha
  generalize Dt σ L0 L1 e = D at *
  have he9 : D.2.2.1.1 < 9 := by omega
  have q12 : s0.1 111 12 = nI D.2.2.1.1 := (a3.at (by omega)).trans hev
  refine m_iconst (v := -1) dX11_ringOf_4 (by decide) ?_
  refine m_istore_n (ls1 := [(2, _), (0, _), (1, _)]) dX11_ringOf_5 (by decide) rfl ?_
  refine m_iconst (v := -1) dX11_ringOf_6 (by decide) ?_
  refine m_istore_n (ls1 := [(3, _), (2, _), (0, _), (1, _)]) dX11_ringOf_7 (by decide) rfl ?_
  refine m_aload_n dX11_ringOf_8 2 rfl ?_
  refine m_aload_n dX11_ringOf_9 2 rfl ?_
  refine m_getI 12 dX11_ringOf_10 fl_X11_204_10 rfl (by decide) (by first | assumption | rfl) ?_
  refine mW.top q12 ?_
  refine m_iconst (v := 1) dX11_ringOf_13 (by decide) ?_
  refine m_iadd dX11_ringOf_14 ?_
  refine mW.top (w := nI (D.2.2.1.1 + 1)) (nI_1 _) ?_
  refine m_putI 17 dX11_ringOf_15 fw_X11_220_10 rfl (by decide) rfl rfl (by first | assumption | rfl) ?_
  refine m_aload_n dX11_ringOf_18 2 rfl ?_
  refine m_getR 18 125 dX11_ringOf_19 fl_X11_49_10 rfl (by decide) rfl (by first | assumption | rfl) ?_
  refine m_aload_n dX11_ringOf_22 2 rfl ?_
  refine m_getI 12 dX11_ringOf_23 fl_X11_204_10 rfl (by decide) (by first | assumption | rfl) ?_
  refine mW.top q12 ?_
  refine m_iconst (v := 0) dX11_ringOf_26 (by decide) ?_
  refine m_iast dX11_ringOf_27 (by first | assumption | rfl) D.2.2.1.1 rfl (by first | assumption | omega | decide) ?_
  refine m_aload_n dX11_ringOf_28 2 rfl ?_
  refine m_getR 20 127 dX11_ringOf_29 fl_X11_55_10 rfl (by decide) rfl (by first | assumption | rfl) ?_
  refine m_aload_n dX11_ringOf_32 2 rfl ?_
  refine m_getI 12 dX11_ringOf_33 fl_X11_204_10 rfl (by decide) (by first | assumption | rfl) ?_
  refine mW.top q12 ?_
  refine m_iconst (v := 0) dX11_ringOf_36 (by decide) ?_
  refine m_iast dX11_ringOf_37 (by first | assumption | rfl) D.2.2.1.1 rfl (by first | assumption | omega | decide) ?_
  refine m_iconst (v := 0) dX11_ringOf_38 (by decide) ?_
  refine m_istore (ls1 := [(4, _), (3, _), (2, _), (0, _), (1, _)]) dX11_ringOf_39 (by decide) rfl ?_
  refine down (N := 24) (fun t (q : mS × Int32 × Int32) => fW (wTry D.2.1.1 D.2.2.1.1) s0 q.1 ∧ q.1.1 111 16 = nI D.2.1.1 ∧ q.1.1 111 17 = nI (D.2.2.1.1 + 1) ∧ q.1.1 111 21 = D.2.2.2 ∧ q.1.1 125 D.2.2.1.1 = 0 ∧ q.1.1 127 D.2.2.1.1 = 0 ∧ q.2 = rgP D t) (fun t q => mW G l d kX11_ringOf 41 [(4, .int (nI t)), (3, .int q.2.2), (2, .int q.2.1), (0, .ref 111), (1, .int w)] [] q.1 _) ?_ ?_ 0 (_, -1, -1) (Nat.zero_le _) ⟨fW.us (by omega) (fW.us (by omega) (fW.us (by omega) fW.rf)), ?_, ?_, ?_, ?_, ?_, rfl⟩
  · rintro ⟨s, b, m⟩ ⟨f, q16, q17, q21, q25, q27, hq⟩
    have hb : b = (rgP D 24).1 := congrArg Prod.fst hq
    have hm : m = (rgP D 24).2 := congrArg Prod.snd hq
    show mW G l d kX11_ringOf 41 [(4, .int (nI 24)), (3, .int m), (2, .int b), (0, .ref 111), (1, .int w)] [] s _
    refine m_iload dX11_ringOf_41 0 rfl ?_
    refine m_bipush (v := 24) dX11_ringOf_43 (by decide) ?_
    refine m_icmp_ge dX11_ringOf_45 103 (by decide) (fun h => ?_) (fun h => ?_)
    · refine m_iload_n dX11_ringOf_103 4 rfl ?_
      refine m_sel (pcJ := 112) ?_ (fun kt0 kf0 => m_if_ne dX11_ringOf_104 111 (by decide) (fun h => (m_iload_n dX11_ringOf_111 1 rfl (kf0 h))) (fun h => (m_iload_n dX11_ringOf_107 2 rfl (m_goto dX11_ringOf_108 112 (by decide) (kt0 h)))))
      refine m_ireturn dX11_ringOf_112 ⟨_, rfl, ?_, a3.tr (f.mono (fun y z h => by omega))⟩
      rw [hb, hm]; rfl
    · exact absurd (Int32.le_refl _) h
  · rintro t ⟨s, b, m⟩ ht ⟨f, q16, q17, q21, q25, q27, hq⟩ ih
    have hb : b = (rgP D t).1 := congrArg Prod.fst hq
    have hm : m = (rgP D t).2 := congrArg Prod.snd hq
    have q12' : s.1 111 12 = nI D.2.2.1.1 := (f.at (by omega)).trans q12
    show mW G l d kX11_ringOf 41 [(4, .int (nI t)), (3, .int m), (2, .int b), (0, .ref 111), (1, .int w)] [] s _
    refine m_iload dX11_ringOf_41 0 rfl ?_
    refine m_bipush (v := 24) dX11_ringOf_43 (by decide) ?_
    refine m_icmp_ge dX11_ringOf_45 103 (by decide) (fun h => ?_) (fun h => ?_)
    · exact absurd ((nle (a := 24) (by omega) (by omega)).mp h) (by omega)
    · clear h
      refine m_aload_n dX11_ringOf_48 3 rfl ?_
      refine m_getR 19 126 dX11_ringOf_49 fl_X11_52_10 rfl (by decide) rfl (by first | assumption | rfl) ?_
      refine m_aload_n dX11_ringOf_52 3 rfl ?_
      refine m_getI 12 dX11_ringOf_53 fl_X11_204_10 rfl (by decide) (by first | assumption | rfl) ?_
      refine mW.top q12' ?_
      refine m_iload dX11_ringOf_56 0 rfl ?_
      refine m_iast dX11_ringOf_58 (by first | assumption | rfl) D.2.2.1.1 rfl (by first | assumption | omega | decide) ?_
      have f1 : fW (wTry D.2.1.1 D.2.2.1.1) s0 (us s 126 D.2.2.1.1 (nI t)) := fW.us (by omega) f
      have c1 : repR (us s 126 D.2.2.1.1 (nI t)) (addE D (nI t)) := rep_tryE a1 f1 he8 (by simp [us_at]; exact q16) (by simp [us_at]; exact q17) (by simp [us_at]; exact q21) (by simp [us_at]; exact q25) (by simp [us_at]) (by simp [us_at]; exact q27)
      refine m_aload_n dX11_ringOf_59 3 rfl ?_
      refine m_callV (As := []) dX11_ringOf_60 cv_X11_273 (by first | assumption | rfl) (by decide) (by omega) rfl rfl (Nat.le_of_ble_eq_true rfl) (c_runsD (d := d - 1) (by omega) _ c1) (fun v1 σ1 hv1 => ?_)
      refine m_qVP hv1 (fun hz => ?_)
      clear hv1 v1
      rename mS => s2
      obtain ⟨z1, z2⟩ := hz
      have c2 := c1.run z2
      refine m_aload_n dX11_ringOf_63 3 rfl ?_
      refine m_iload dX11_ringOf_64 0 rfl ?_
      refine m_callV (As := [_]) dX11_ringOf_66 cv_X11_285 (by first | assumption | rfl) (by decide) (by omega) rfl rfl (Nat.le_of_ble_eq_true rfl) (c_ayesAt (d := d - 1) _ c2.1 z1 c2.2.2.2.1 t ht) (fun v1 σ1 hv1 => ?_)
      refine m_qI hv1 ?_
      clear hv1 v1 σ1
      refine m_istore (ls1 := [(5, _), (4, _), (3, _), (2, _), (0, _), (1, _)]) dX11_ringOf_69 (by decide) rfl ?_
      refine m_iload dX11_ringOf_71 0 rfl ?_
      refine m_iload_n dX11_ringOf_73 2 rfl ?_
      generalize hP : nI (ayD (addE D (nI t)) t) = P
      refine m_sel (pcJ := 83) ?_ (fun kt0 kf0 => m_icmp_le dX11_ringOf_74 82 (by decide) (fun h => (m_iload_n dX11_ringOf_82 3 rfl (kt0 h))) (fun h => (m_iload dX11_ringOf_77 1 rfl (m_goto dX11_ringOf_79 83 (by decide) (kf0 h)))))
      refine m_istore_n (ls1 := [(2, _), (5, _), (4, _), (3, _), (0, _), (1, _)]) dX11_ringOf_83 (by decide) rfl ?_
      refine m_iload dX11_ringOf_84 1 rfl ?_
      refine m_iload_n dX11_ringOf_86 3 rfl ?_
      refine m_sel (pcJ := 96) ?_ (fun kt0 kf0 => m_icmp_le dX11_ringOf_87 95 (by decide) (fun h => (m_iload_n dX11_ringOf_95 3 rfl (kt0 h))) (fun h => (m_iload dX11_ringOf_90 1 rfl (m_goto dX11_ringOf_92 96 (by decide) (kf0 h)))))
      refine m_istore_n (ls1 := [(3, _), (2, _), (5, _), (4, _), (0, _), (1, _)]) dX11_ringOf_96 (by decide) rfl ?_
      refine m_iinc (v := nI (t + 1)) (ls1 := [(4, _), (3, _), (2, _), (5, _), (0, _), (1, _)]) dX11_ringOf_97 3 rfl (nI_1 t) (by decide) rfl ?_
      refine m_goto dX11_ringOf_100 41 (by decide) ?_
      refine mW.sub (ls1 := [(4, _), (3, _), (2, _), (0, _), (1, _)]) [0, 1, 2, 4, 5] rfl ?_
      refine ih (s2, (if P ≤ m then b else nI t), (if P ≤ m then m else P)) ⟨f1.tr (z2.mono (fun y z h => by omega)), c2.2.2.2.2.1, c2.2.2.2.2.2.1, c2.2.2.2.2.2.2.1, (z2.at (by omega)).trans (by simp [us_at]; exact q25), (z2.at (by omega)).trans (by simp [us_at]; exact q27), ?_⟩
      have hst : rgP D (t + 1) = if P ≤ m then (b, m) else (nI t, P) := by
        rw [rgP, hP, hm]
        rw [show (b, (rgP D t).2) = rgP D t by rw [← hm]; exact hq]
      rw [hst]
      show ((if P ≤ m then b else nI t), (if P ≤ m then m else P)) = _
      by_cases hle : P ≤ m
      · rw [if_pos hle, if_pos hle, if_pos hle]
      · rw [if_neg hle, if_neg hle, if_neg hle]
  · simp [us_at]; exact a1.2.2.2.2.1
  · simp [us_at]
  · simp [us_at]; exact a1.2.2.2.2.2.2.1
  · simp [us_at]
  · first | exact pk_us | simp [us_at, pk_us]
end SB


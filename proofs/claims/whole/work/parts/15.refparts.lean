/-! ===== the reference reads both texts ===== -/
section RP
variable {G : mG} {l : Launch} {d : Nat} {σ : mS}
theorem dX11_readsSteer_0 : decode cX11_readsSteer 0 = .ok (.aload_n 0, 1) := by decide +kernel
theorem dX11_readsSteer_1 : decode cX11_readsSteer 1 = .ok (.iconst 1, 1) := by decide +kernel
theorem dX11_readsSteer_2 : decode cX11_readsSteer 2 = .ok (.iload_n 2, 1) := by decide +kernel
theorem dX11_readsSteer_3 : decode cX11_readsSteer 3 = .ok (.invokevirtual 144, 3) := by decide +kernel
theorem dX11_readsSteer_6 : decode cX11_readsSteer 6 = .ok (.istore_n 3, 1) := by decide +kernel
theorem dX11_readsSteer_7 : decode cX11_readsSteer 7 = .ok (.aload_n 0, 1) := by decide +kernel
theorem dX11_readsSteer_8 : decode cX11_readsSteer 8 = .ok (.iconst 1, 1) := by decide +kernel
theorem dX11_readsSteer_9 : decode cX11_readsSteer 9 = .ok (.iload_n 2, 1) := by decide +kernel
theorem dX11_readsSteer_10 : decode cX11_readsSteer 10 = .ok (.iconst 1, 1) := by decide +kernel
theorem dX11_readsSteer_11 : decode cX11_readsSteer 11 = .ok (.iadd, 1) := by decide +kernel
theorem dX11_readsSteer_12 : decode cX11_readsSteer 12 = .ok (.invokevirtual 144, 3) := by decide +kernel
theorem dX11_readsSteer_15 : decode cX11_readsSteer 15 = .ok (.istore 4, 2) := by decide +kernel
theorem dX11_readsSteer_17 : decode cX11_readsSteer 17 = .ok (.aload_n 0, 1) := by decide +kernel
theorem dX11_readsSteer_18 : decode cX11_readsSteer 18 = .ok (.iconst 1, 1) := by decide +kernel
theorem dX11_readsSteer_19 : decode cX11_readsSteer 19 = .ok (.iload_n 2, 1) := by decide +kernel
theorem dX11_readsSteer_20 : decode cX11_readsSteer 20 = .ok (.iconst 2, 1) := by decide +kernel
theorem dX11_readsSteer_21 : decode cX11_readsSteer 21 = .ok (.iadd, 1) := by decide +kernel
theorem dX11_readsSteer_22 : decode cX11_readsSteer 22 = .ok (.invokevirtual 144, 3) := by decide +kernel
theorem dX11_readsSteer_25 : decode cX11_readsSteer 25 = .ok (.istore 5, 2) := by decide +kernel
theorem dX11_readsSteer_27 : decode cX11_readsSteer 27 = .ok (.iload_n 1, 1) := by decide +kernel
theorem dX11_readsSteer_28 : decode cX11_readsSteer 28 = .ok (.bipush 12, 2) := by decide +kernel
theorem dX11_readsSteer_30 : decode cX11_readsSteer 30 = .ok (.if_icmp .eq 14, 3) := by decide +kernel
theorem dX11_readsSteer_33 : decode cX11_readsSteer 33 = .ok (.iload_n 3, 1) := by decide +kernel
theorem dX11_readsSteer_34 : decode cX11_readsSteer 34 = .ok (.bipush 97, 2) := by decide +kernel
theorem dX11_readsSteer_36 : decode cX11_readsSteer 36 = .ok (.bipush 120, 2) := by decide +kernel
theorem dX11_readsSteer_38 : decode cX11_readsSteer 38 = .ok (.invokestatic 136, 3) := by decide +kernel
theorem dX11_readsSteer_41 : decode cX11_readsSteer 41 = .ok (.ifCond .ne 5, 3) := by decide +kernel
theorem dX11_readsSteer_44 : decode cX11_readsSteer 44 = .ok (.iconst 0, 1) := by decide +kernel
theorem dX11_readsSteer_45 : decode cX11_readsSteer 45 = .ok (.ireturn, 1) := by decide +kernel
theorem dX11_readsSteer_46 : decode cX11_readsSteer 46 = .ok (.iload 4, 2) := by decide +kernel
theorem dX11_readsSteer_48 : decode cX11_readsSteer 48 = .ok (.bipush 48, 2) := by decide +kernel
theorem dX11_readsSteer_50 : decode cX11_readsSteer 50 = .ok (.bipush 55, 2) := by decide +kernel
theorem dX11_readsSteer_52 : decode cX11_readsSteer 52 = .ok (.invokestatic 136, 3) := by decide +kernel
theorem dX11_readsSteer_55 : decode cX11_readsSteer 55 = .ok (.ifCond .ne 5, 3) := by decide +kernel
theorem dX11_readsSteer_58 : decode cX11_readsSteer 58 = .ok (.iconst 1, 1) := by decide +kernel
theorem dX11_readsSteer_59 : decode cX11_readsSteer 59 = .ok (.ireturn, 1) := by decide +kernel
theorem dX11_readsSteer_60 : decode cX11_readsSteer 60 = .ok (.iload 5, 2) := by decide +kernel
theorem dX11_readsSteer_62 : decode cX11_readsSteer 62 = .ok (.bipush 108, 2) := by decide +kernel
theorem dX11_readsSteer_64 : decode cX11_readsSteer 64 = .ok (.if_icmp .eq 12, 3) := by decide +kernel
theorem dX11_readsSteer_67 : decode cX11_readsSteer 67 = .ok (.iload 5, 2) := by decide +kernel
theorem dX11_readsSteer_69 : decode cX11_readsSteer 69 = .ok (.bipush 114, 2) := by decide +kernel
theorem dX11_readsSteer_71 : decode cX11_readsSteer 71 = .ok (.if_icmp .eq 5, 3) := by decide +kernel
theorem dX11_readsSteer_74 : decode cX11_readsSteer 74 = .ok (.iconst 2, 1) := by decide +kernel
theorem dX11_readsSteer_75 : decode cX11_readsSteer 75 = .ok (.ireturn, 1) := by decide +kernel
theorem dX11_readsSteer_76 : decode cX11_readsSteer 76 = .ok (.aload_n 0, 1) := by decide +kernel
theorem dX11_readsSteer_77 : decode cX11_readsSteer 77 = .ok (.getfield 31, 3) := by decide +kernel
theorem dX11_readsSteer_80 : decode cX11_readsSteer 80 = .ok (.iload_n 1, 1) := by decide +kernel
theorem dX11_readsSteer_81 : decode cX11_readsSteer 81 = .ok (.iload_n 3, 1) := by decide +kernel
theorem dX11_readsSteer_82 : decode cX11_readsSteer 82 = .ok (.bipush 97, 2) := by decide +kernel
theorem dX11_readsSteer_84 : decode cX11_readsSteer 84 = .ok (.isub, 1) := by decide +kernel
theorem dX11_readsSteer_85 : decode cX11_readsSteer 85 = .ok (.iastore, 1) := by decide +kernel
theorem dX11_readsSteer_86 : decode cX11_readsSteer 86 = .ok (.aload_n 0, 1) := by decide +kernel
theorem dX11_readsSteer_87 : decode cX11_readsSteer 87 = .ok (.getfield 34, 3) := by decide +kernel
theorem dX11_readsSteer_90 : decode cX11_readsSteer 90 = .ok (.iload_n 1, 1) := by decide +kernel
theorem dX11_readsSteer_91 : decode cX11_readsSteer 91 = .ok (.iload 4, 2) := by decide +kernel
theorem dX11_readsSteer_93 : decode cX11_readsSteer 93 = .ok (.bipush 48, 2) := by decide +kernel
theorem dX11_readsSteer_95 : decode cX11_readsSteer 95 = .ok (.isub, 1) := by decide +kernel
theorem dX11_readsSteer_96 : decode cX11_readsSteer 96 = .ok (.iastore, 1) := by decide +kernel
theorem dX11_readsSteer_97 : decode cX11_readsSteer 97 = .ok (.aload_n 0, 1) := by decide +kernel
theorem dX11_readsSteer_98 : decode cX11_readsSteer 98 = .ok (.getfield 37, 3) := by decide +kernel
theorem dX11_readsSteer_101 : decode cX11_readsSteer 101 = .ok (.iload_n 1, 1) := by decide +kernel
theorem dX11_readsSteer_102 : decode cX11_readsSteer 102 = .ok (.iload 5, 2) := by decide +kernel
theorem dX11_readsSteer_104 : decode cX11_readsSteer 104 = .ok (.bipush 108, 2) := by decide +kernel
theorem dX11_readsSteer_106 : decode cX11_readsSteer 106 = .ok (.if_icmp .ne 7, 3) := by decide +kernel
theorem dX11_readsSteer_109 : decode cX11_readsSteer 109 = .ok (.iconst 1, 1) := by decide +kernel
theorem dX11_readsSteer_110 : decode cX11_readsSteer 110 = .ok (.goto 4, 3) := by decide +kernel
theorem dX11_readsSteer_113 : decode cX11_readsSteer 113 = .ok (.iconst 2, 1) := by decide +kernel
theorem dX11_readsSteer_114 : decode cX11_readsSteer 114 = .ok (.iastore, 1) := by decide +kernel
theorem dX11_readsSteer_115 : decode cX11_readsSteer 115 = .ok (.iconst 3, 1) := by decide +kernel
theorem dX11_readsSteer_116 : decode cX11_readsSteer 116 = .ok (.ireturn, 1) := by decide +kernel
theorem dX11_readsParts_0 : decode cX11_readsParts 0 = .ok (.iload_n 1, 1) := by decide +kernel
theorem dX11_readsParts_1 : decode cX11_readsParts 1 = .ok (.ifCond .ne 7, 3) := by decide +kernel
theorem dX11_readsParts_4 : decode cX11_readsParts 4 = .ok (.iconst 5, 1) := by decide +kernel
theorem dX11_readsParts_5 : decode cX11_readsParts 5 = .ok (.goto 4, 3) := by decide +kernel
theorem dX11_readsParts_8 : decode cX11_readsParts 8 = .ok (.iconst 3, 1) := by decide +kernel
theorem dX11_readsParts_9 : decode cX11_readsParts 9 = .ok (.istore_n 2, 1) := by decide +kernel
theorem dX11_readsParts_10 : decode cX11_readsParts 10 = .ok (.iconst 0, 1) := by decide +kernel
theorem dX11_readsParts_11 : decode cX11_readsParts 11 = .ok (.istore_n 3, 1) := by decide +kernel
theorem dX11_readsParts_12 : decode cX11_readsParts 12 = .ok (.iconst 0, 1) := by decide +kernel
theorem dX11_readsParts_13 : decode cX11_readsParts 13 = .ok (.istore 4, 2) := by decide +kernel
theorem dX11_readsParts_15 : decode cX11_readsParts 15 = .ok (.aload_n 0, 1) := by decide +kernel
theorem dX11_readsParts_16 : decode cX11_readsParts 16 = .ok (.iload_n 1, 1) := by decide +kernel
theorem dX11_readsParts_17 : decode cX11_readsParts 17 = .ok (.ifCond .ne 7, 3) := by decide +kernel
theorem dX11_readsParts_20 : decode cX11_readsParts 20 = .ok (.iconst 0, 1) := by decide +kernel
theorem dX11_readsParts_21 : decode cX11_readsParts 21 = .ok (.goto 7, 3) := by decide +kernel
theorem dX11_readsParts_24 : decode cX11_readsParts 24 = .ok (.aload_n 0, 1) := by decide +kernel
theorem dX11_readsParts_25 : decode cX11_readsParts 25 = .ok (.getfield 161, 3) := by decide +kernel
theorem dX11_readsParts_28 : decode cX11_readsParts 28 = .ok (.putfield 161, 3) := by decide +kernel
theorem dX11_readsParts_31 : decode cX11_readsParts 31 = .ok (.aload_n 0, 1) := by decide +kernel
theorem dX11_readsParts_32 : decode cX11_readsParts 32 = .ok (.iload_n 1, 1) := by decide +kernel
theorem dX11_readsParts_33 : decode cX11_readsParts 33 = .ok (.iconst 1, 1) := by decide +kernel
theorem dX11_readsParts_34 : decode cX11_readsParts 34 = .ok (.if_icmp .ne 7, 3) := by decide +kernel
theorem dX11_readsParts_37 : decode cX11_readsParts 37 = .ok (.iconst 0, 1) := by decide +kernel
theorem dX11_readsParts_38 : decode cX11_readsParts 38 = .ok (.goto 7, 3) := by decide +kernel
theorem dX11_readsParts_41 : decode cX11_readsParts 41 = .ok (.aload_n 0, 1) := by decide +kernel
theorem dX11_readsParts_42 : decode cX11_readsParts 42 = .ok (.getfield 165, 3) := by decide +kernel
theorem dX11_readsParts_45 : decode cX11_readsParts 45 = .ok (.putfield 165, 3) := by decide +kernel
theorem dX11_readsParts_48 : decode cX11_readsParts 48 = .ok (.iload 4, 2) := by decide +kernel
theorem dX11_readsParts_50 : decode cX11_readsParts 50 = .ok (.aload_n 0, 1) := by decide +kernel
theorem dX11_readsParts_51 : decode cX11_readsParts 51 = .ok (.getfield 7, 3) := by decide +kernel
theorem dX11_readsParts_54 : decode cX11_readsParts 54 = .ok (.iload_n 1, 1) := by decide +kernel
theorem dX11_readsParts_55 : decode cX11_readsParts 55 = .ok (.iaload, 1) := by decide +kernel
theorem dX11_readsParts_56 : decode cX11_readsParts 56 = .ok (.if_icmp .lt 8, 3) := by decide +kernel
theorem dX11_readsParts_59 : decode cX11_readsParts 59 = .ok (.iload 4, 2) := by decide +kernel
theorem dX11_readsParts_61 : decode cX11_readsParts 61 = .ok (.ifCond .le 114, 3) := by decide +kernel
theorem dX11_readsParts_64 : decode cX11_readsParts 64 = .ok (.iload_n 1, 1) := by decide +kernel
theorem dX11_readsParts_65 : decode cX11_readsParts 65 = .ok (.ifCond .ne 13, 3) := by decide +kernel
theorem dX11_readsParts_68 : decode cX11_readsParts 68 = .ok (.aload_n 0, 1) := by decide +kernel
theorem dX11_readsParts_69 : decode cX11_readsParts 69 = .ok (.iload_n 3, 1) := by decide +kernel
theorem dX11_readsParts_70 : decode cX11_readsParts 70 = .ok (.iload 4, 2) := by decide +kernel
theorem dX11_readsParts_72 : decode cX11_readsParts 72 = .ok (.invokevirtual 168, 3) := by decide +kernel
theorem dX11_readsParts_75 : decode cX11_readsParts 75 = .ok (.goto 10, 3) := by decide +kernel
theorem dX11_readsParts_78 : decode cX11_readsParts 78 = .ok (.aload_n 0, 1) := by decide +kernel
theorem dX11_readsParts_79 : decode cX11_readsParts 79 = .ok (.iload_n 3, 1) := by decide +kernel
theorem dX11_readsParts_80 : decode cX11_readsParts 80 = .ok (.iload 4, 2) := by decide +kernel
theorem dX11_readsParts_82 : decode cX11_readsParts 82 = .ok (.invokevirtual 171, 3) := by decide +kernel
theorem dX11_readsParts_85 : decode cX11_readsParts 85 = .ok (.istore 5, 2) := by decide +kernel
theorem dX11_readsParts_87 : decode cX11_readsParts 87 = .ok (.iload 5, 2) := by decide +kernel
theorem dX11_readsParts_89 : decode cX11_readsParts 89 = .ok (.iload_n 2, 1) := by decide +kernel
theorem dX11_readsParts_90 : decode cX11_readsParts 90 = .ok (.if_icmp .ge 9, 3) := by decide +kernel
theorem dX11_readsParts_93 : decode cX11_readsParts 93 = .ok (.iload 4, 2) := by decide +kernel
theorem dX11_readsParts_95 : decode cX11_readsParts 95 = .ok (.iload 5, 2) := by decide +kernel
theorem dX11_readsParts_97 : decode cX11_readsParts 97 = .ok (.iadd, 1) := by decide +kernel
theorem dX11_readsParts_98 : decode cX11_readsParts 98 = .ok (.ireturn, 1) := by decide +kernel
theorem dX11_readsParts_99 : decode cX11_readsParts 99 = .ok (.iinc 3 1, 3) := by decide +kernel
theorem dX11_readsParts_102 : decode cX11_readsParts 102 = .ok (.iload 4, 2) := by decide +kernel
theorem dX11_readsParts_104 : decode cX11_readsParts 104 = .ok (.iload_n 2, 1) := by decide +kernel
theorem dX11_readsParts_105 : decode cX11_readsParts 105 = .ok (.iadd, 1) := by decide +kernel
theorem dX11_readsParts_106 : decode cX11_readsParts 106 = .ok (.istore 4, 2) := by decide +kernel
theorem dX11_readsParts_108 : decode cX11_readsParts 108 = .ok (.iload 4, 2) := by decide +kernel
theorem dX11_readsParts_110 : decode cX11_readsParts 110 = .ok (.aload_n 0, 1) := by decide +kernel
theorem dX11_readsParts_111 : decode cX11_readsParts 111 = .ok (.getfield 7, 3) := by decide +kernel
theorem dX11_readsParts_114 : decode cX11_readsParts 114 = .ok (.iload_n 1, 1) := by decide +kernel
theorem dX11_readsParts_115 : decode cX11_readsParts 115 = .ok (.iaload, 1) := by decide +kernel
theorem dX11_readsParts_116 : decode cX11_readsParts 116 = .ok (.if_icmp .ne 38, 3) := by decide +kernel
theorem dX11_readsParts_119 : decode cX11_readsParts 119 = .ok (.aload_n 0, 1) := by decide +kernel
theorem dX11_readsParts_120 : decode cX11_readsParts 120 = .ok (.iload_n 1, 1) := by decide +kernel
theorem dX11_readsParts_121 : decode cX11_readsParts 121 = .ok (.ifCond .ne 7, 3) := by decide +kernel
theorem dX11_readsParts_124 : decode cX11_readsParts 124 = .ok (.iload_n 3, 1) := by decide +kernel
theorem dX11_readsParts_125 : decode cX11_readsParts 125 = .ok (.goto 7, 3) := by decide +kernel
theorem dX11_readsParts_128 : decode cX11_readsParts 128 = .ok (.aload_n 0, 1) := by decide +kernel
theorem dX11_readsParts_129 : decode cX11_readsParts 129 = .ok (.getfield 161, 3) := by decide +kernel
theorem dX11_readsParts_132 : decode cX11_readsParts 132 = .ok (.putfield 161, 3) := by decide +kernel
theorem dX11_readsParts_135 : decode cX11_readsParts 135 = .ok (.aload_n 0, 1) := by decide +kernel
theorem dX11_readsParts_136 : decode cX11_readsParts 136 = .ok (.iload_n 1, 1) := by decide +kernel
theorem dX11_readsParts_137 : decode cX11_readsParts 137 = .ok (.iconst 1, 1) := by decide +kernel
theorem dX11_readsParts_138 : decode cX11_readsParts 138 = .ok (.if_icmp .ne 7, 3) := by decide +kernel
theorem dX11_readsParts_141 : decode cX11_readsParts 141 = .ok (.iload_n 3, 1) := by decide +kernel
theorem dX11_readsParts_142 : decode cX11_readsParts 142 = .ok (.goto 7, 3) := by decide +kernel
theorem dX11_readsParts_145 : decode cX11_readsParts 145 = .ok (.aload_n 0, 1) := by decide +kernel
theorem dX11_readsParts_146 : decode cX11_readsParts 146 = .ok (.getfield 165, 3) := by decide +kernel
theorem dX11_readsParts_149 : decode cX11_readsParts 149 = .ok (.putfield 165, 3) := by decide +kernel
theorem dX11_readsParts_152 : decode cX11_readsParts 152 = .ok (.iconst (-1), 1) := by decide +kernel
theorem dX11_readsParts_153 : decode cX11_readsParts 153 = .ok (.ireturn, 1) := by decide +kernel
theorem dX11_readsParts_154 : decode cX11_readsParts 154 = .ok (.aload_n 0, 1) := by decide +kernel
theorem dX11_readsParts_155 : decode cX11_readsParts 155 = .ok (.iload_n 1, 1) := by decide +kernel
theorem dX11_readsParts_156 : decode cX11_readsParts 156 = .ok (.iload 4, 2) := by decide +kernel
theorem dX11_readsParts_158 : decode cX11_readsParts 158 = .ok (.invokevirtual 144, 3) := by decide +kernel
theorem dX11_readsParts_161 : decode cX11_readsParts 161 = .ok (.bipush 59, 2) := by decide +kernel
theorem dX11_readsParts_163 : decode cX11_readsParts 163 = .ok (.if_icmp .eq 6, 3) := by decide +kernel
theorem dX11_readsParts_166 : decode cX11_readsParts 166 = .ok (.iload 4, 2) := by decide +kernel
theorem dX11_readsParts_168 : decode cX11_readsParts 168 = .ok (.ireturn, 1) := by decide +kernel
theorem dX11_readsParts_169 : decode cX11_readsParts 169 = .ok (.iinc 4 1, 3) := by decide +kernel
theorem dX11_readsParts_172 : decode cX11_readsParts 172 = .ok (.goto (-124), 3) := by decide +kernel
theorem dX11_readsParts_175 : decode cX11_readsParts 175 = .ok (.iconst (-1), 1) := by decide +kernel
theorem dX11_readsParts_176 : decode cX11_readsParts 176 = .ok (.ireturn, 1) := by decide +kernel
theorem dX11_faultOf_0 : decode cX11_faultOf 0 = .ok (.aload_n 0, 1) := by decide +kernel
theorem dX11_faultOf_1 : decode cX11_faultOf 1 = .ok (.iconst 0, 1) := by decide +kernel
theorem dX11_faultOf_2 : decode cX11_faultOf 2 = .ok (.invokevirtual 174, 3) := by decide +kernel
theorem dX11_faultOf_5 : decode cX11_faultOf 5 = .ok (.istore_n 2, 1) := by decide +kernel
theorem dX11_faultOf_6 : decode cX11_faultOf 6 = .ok (.aload_n 0, 1) := by decide +kernel
theorem dX11_faultOf_7 : decode cX11_faultOf 7 = .ok (.iconst 1, 1) := by decide +kernel
theorem dX11_faultOf_8 : decode cX11_faultOf 8 = .ok (.invokevirtual 174, 3) := by decide +kernel
theorem dX11_faultOf_11 : decode cX11_faultOf 11 = .ok (.istore_n 3, 1) := by decide +kernel
theorem dX11_faultOf_12 : decode cX11_faultOf 12 = .ok (.iload_n 1, 1) := by decide +kernel
theorem dX11_faultOf_13 : decode cX11_faultOf 13 = .ok (.ifCond .ne 7, 3) := by decide +kernel
theorem dX11_faultOf_16 : decode cX11_faultOf 16 = .ok (.iload_n 2, 1) := by decide +kernel
theorem dX11_faultOf_17 : decode cX11_faultOf 17 = .ok (.goto 4, 3) := by decide +kernel
theorem dX11_faultOf_20 : decode cX11_faultOf 20 = .ok (.iload_n 3, 1) := by decide +kernel
theorem dX11_faultOf_21 : decode cX11_faultOf 21 = .ok (.ireturn, 1) := by decide +kernel
theorem dX11_reads_0 : decode cX11_reads 0 = .ok (.aload_n 0, 1) := by decide +kernel
theorem dX11_reads_1 : decode cX11_reads 1 = .ok (.iconst 0, 1) := by decide +kernel
theorem dX11_reads_2 : decode cX11_reads 2 = .ok (.invokevirtual 177, 3) := by decide +kernel
theorem dX11_reads_5 : decode cX11_reads 5 = .ok (.istore_n 1, 1) := by decide +kernel
theorem dX11_reads_6 : decode cX11_reads 6 = .ok (.return_, 1) := by decide +kernel
theorem f_ref8 {W : Nat → Nat → Prop} {s : mS} {v : Int32} (h : W 111 2) (k : fW W σ s) : fW W σ (us (us s 111 2 v) 111 8 ((us s 111 2 v).1 111 8)) := by
  refine ⟨k.1, fun y z => ?_⟩
  rw [us_at, us_at, us_at]
  by_cases h2 : y = 111 ∧ z = 8
  · obtain ⟨rfl, rfl⟩ := h2; rw [if_pos ⟨rfl, rfl⟩, if_neg (by omega)]; exact k.2 _ _
  · rw [if_neg h2]
    by_cases h3 : y = 111 ∧ z = 2
    · obtain ⟨rfl, rfl⟩ := h3; exact Or.inl h
    · rw [if_neg h3]; exact k.2 y z
theorem f_ref2 {W : Nat → Nat → Prop} {s : mS} {v : Int32} (h : W 111 8) (k : fW W σ s) : fW W σ (us (us s 111 2 (s.1 111 2)) 111 8 v) := by
  refine ⟨k.1, fun y z => ?_⟩
  rw [us_at, us_at]
  by_cases h2 : y = 111 ∧ z = 8
  · obtain ⟨rfl, rfl⟩ := h2; exact Or.inl h
  · rw [if_neg h2]
    by_cases h3 : y = 111 ∧ z = 2
    · obtain ⟨rfl, rfl⟩ := h3; rw [if_pos ⟨rfl, rfl⟩]; exact k.2 _ _
    · rw [if_neg h3]; exact k.2 y z

theorem c_readsCars (hd : 3 ≤ d) (L : Nat) (hL : σ.1 112 0 = nI L) (hL47 : L ≤ 47) : mMet G l d kX11_readsParts [.ref 111, .int 0] σ (qIP (fun r s => r = (parC L (tx σ 0)).1 ∧ s.1 111 2 = nI (parC L (tx σ 0)).2 ∧ (∀ k, k < (parC L (tx σ 0)).2 → s.1 114 k = carB L (tx σ 0) k 0 ∧ s.1 115 k = carB L (tx σ 0) k 1 ∧ s.1 116 k = carB L (tx σ 0) k 2 ∧ s.1 117 k = carB L (tx σ 0) k 3 ∧ s.1 118 k = carB L (tx σ 0) k 4) ∧ fW (fun y z => (y = 111 ∧ z = 2) ∨ (114 ≤ y ∧ y ≤ 118 ∧ z < 8)) σ s)) := by
  refine mMet.of cm_X11_readsParts rfl (Nat.le_of_ble_eq_true rfl) rfl (fun v1 σ1 h => by obtain ⟨r, h1, -⟩ := h; rw [h1]; rfl) ?_
  generalize hb : (tx σ 0) = b
  have key : ∀ f k (s : mS), f + k = 9 → k ≤ 8 → ((∀ i, i < k → s.1 114 i = carB L b i 0 ∧ s.1 115 i = carB L b i 1 ∧ s.1 116 i = carB L b i 2 ∧ s.1 117 i = carB L b i 3 ∧ s.1 118 i = carB L b i 4) ∧ s.1 111 2 = 0 ∧ fW (fun y z => (y = 111 ∧ z = 2) ∨ (114 ≤ y ∧ y ≤ 118 ∧ z < 8)) σ s) → L ≠ 0 → parC L b = parT 5 (goodC L b) L b f k → mW G l d kX11_readsParts 64 [(4, .int (nI (6 * k))), (3, .int (nI k)), (2, .int 5), (0, .ref 111), (1, .int 0)] [] s (qIP (fun r s => r = (parC L b).1 ∧ s.1 111 2 = nI (parC L b).2 ∧ (∀ k, k < (parC L b).2 → s.1 114 k = carB L b k 0 ∧ s.1 115 k = carB L b k 1 ∧ s.1 116 k = carB L b k 2 ∧ s.1 117 k = carB L b k 3 ∧ s.1 118 k = carB L b k 4) ∧ fW (fun y z => (y = 111 ∧ z = 2) ∨ (114 ≤ y ∧ y ≤ 118 ∧ z < 8)) σ s)) := by
    intro f
    induction f with
    | zero => intro k s h1 h2; omega
    | succ f ih =>
      rintro k s hf hk ⟨i1, i2, i3⟩ hL0 hpar
      have hL1 : s.1 112 0 = nI L := (i3.at (by omega)).trans hL
      have hb1 : tx s 0 = b := by rw [← hb]; funext i; exact i3.at (by omega)
      have hgl := goodC_le L b k
      refine m_iload_n dX11_readsParts_64 4 rfl ?_
      refine m_if_ne dX11_readsParts_65 78 (by decide) (fun h65 => ?_) (fun h65 => ?_)
      · exact absurd rfl h65
      refine m_aload_n dX11_readsParts_68 3 rfl ?_
      refine m_iload_n dX11_readsParts_69 1 rfl ?_
      refine m_iload dX11_readsParts_70 0 rfl ?_
      refine m_callV (As := [_, _]) dX11_readsParts_72 cv_X11_168 (by first | assumption | rfl) (by decide) (by omega) rfl rfl (Nat.le_of_ble_eq_true rfl) (c_readsCar (d := d - 1) (σ := s) (by omega) L k hL1 hL47 hk (by rw [hb1]; exact fun i hi => ⟨(i1 i hi).2.1, (i1 i hi).2.2.1⟩)) (fun v1 σ1 hv1 => ?_)
      refine m_qIP hv1 (fun rg hp => ?_)
      clear hv1 v1
      refine m_goto dX11_readsParts_75 85 (by decide) ?_
      skip
      rename mS => s1
      rw [hb1] at hp
      obtain ⟨rfl, p2, p3⟩ := hp
      have hL2 : s1.1 112 0 = nI L := (p3.at (by omega)).trans hL1
      have hb2 : tx s1 0 = b := by rw [← hb1]; funext i; exact p3.at (by omega)
      refine m_istore (ls1 := [(5, _), (4, _), (3, _), (2, _), (0, _), (1, _)]) dX11_readsParts_85 (by decide) rfl ?_
      refine m_iload dX11_readsParts_87 0 rfl ?_
      refine m_iload_n dX11_readsParts_89 3 rfl ?_
      refine m_icmp_ge dX11_readsParts_90 99 (by decide) (fun h90 => ?_) (fun h90 => ?_)
      · have hg : goodC L b k = 5 := by have := (nle (a := 5) (by omega) (by omega)).mp h90; omega
        have hkN : k < 8 := by
          have : k ≠ 8 := fun e => by rw [e] at hg; unfold goodC at hg; rw [if_pos (Or.inl rfl)] at hg; exact absurd hg (by decide)
          omega
        have hp2 := p2 hg
        have i1' : ∀ i, i < k + 1 → s1.1 114 i = carB L b i 0 ∧ s1.1 115 i = carB L b i 1 ∧ s1.1 116 i = carB L b i 2 ∧ s1.1 117 i = carB L b i 3 ∧ s1.1 118 i = carB L b i 4 := by
          intro i hi
          rcases Nat.lt_succ_iff_lt_or_eq.mp hi with h | rfl
          · rw [p3.at (y := 114) (z := i) (by omega), p3.at (y := 115) (z := i) (by omega), p3.at (y := 116) (z := i) (by omega), p3.at (y := 117) (z := i) (by omega), p3.at (y := 118) (z := i) (by omega)]
            exact i1 i h
          · exact hp2
        have i3' : fW (fun y z => (y = 111 ∧ z = 2) ∨ (114 ≤ y ∧ y ≤ 118 ∧ z < 8)) σ s1 := i3.tr (p3.mono (fun y z h => by omega))
        have i2' : s1.1 111 2 = 0 := (p3.at (by omega)).trans i2
        refine m_iinc (v := nI (k + 1)) (ls1 := [(3, _), (5, _), (4, _), (2, _), (0, _), (1, _)]) dX11_readsParts_99 2 rfl (nI_1 k) (by decide) rfl ?_
        refine m_iload dX11_readsParts_102 2 rfl ?_
        refine m_iload_n dX11_readsParts_104 3 rfl ?_
        refine m_iadd dX11_readsParts_105 ?_
        refine mW.top (w := nI (6 * k + 5)) (naddL 5 rfl rfl) ?_
        refine m_istore (ls1 := [(4, _), (3, _), (5, _), (2, _), (0, _), (1, _)]) dX11_readsParts_106 (by decide) rfl ?_
        refine m_iload dX11_readsParts_108 0 rfl ?_
        refine m_aload_n dX11_readsParts_110 4 rfl ?_
        refine m_getR 0 112 dX11_readsParts_111 fl_X11_7_10 rfl (by decide) rfl (by first | assumption | rfl) ?_
        refine m_iload_n dX11_readsParts_114 5 rfl ?_
        refine m_iald dX11_readsParts_115 (by first | assumption | rfl) 0 rfl (by first | assumption | omega | decide) ?_
        refine mW.top hL2 ?_
        refine m_icmp_ne dX11_readsParts_116 154 (by decide) (fun h116 => ?_) (fun h116 => ?_)
        · have hB : mMet G l (d - 1) kX11_byteAt [.ref 111, .int 0, .int (nI (6 * k + 5))] s1 (qI (btE L b (6 * k + 5)) s1) := by
            have hB0 := c_byteAt (G := G) (l := l) (d := d - 1) (σ := s1) 0 L (6 * k + 5) (by decide) hL2 hL47 (by omega)
            rw [hb2] at hB0
            exact hB0
          refine m_aload_n dX11_readsParts_154 4 rfl ?_
          refine m_iload_n dX11_readsParts_155 5 rfl ?_
          refine m_iload dX11_readsParts_156 0 rfl ?_
          refine m_callV (As := [_, _]) dX11_readsParts_158 cv_X11_144 (by first | assumption | rfl) (by decide) (by omega) rfl rfl (Nat.le_of_ble_eq_true rfl) hB (fun v1 σ1 hv1 => ?_)
          refine m_qI hv1 ?_
          clear hv1 v1 σ1
          refine m_bipush (v := 59) dX11_readsParts_161 (by decide) ?_
          have hne : (6 * k + 5) ≠ L := fun e => h116 (by rw [e])
          refine m_icmp_eq dX11_readsParts_163 169 (by decide) (fun h163 => ?_) (fun h163 => ?_)
          · refine m_iinc (v := nI (6 * (k + 1))) (ls1 := [(4, _), (3, _), (5, _), (2, _), (0, _), (1, _)]) dX11_readsParts_169 0 rfl (naddL 1 rfl (by omega)) (by decide) rfl ?_
            refine m_goto dX11_readsParts_172 48 (by decide) ?_
            have hpar2 : parC L b = parT 5 (goodC L b) L b f (k + 1) := by
              rw [hpar]
              show (if goodC L b k < 5 then _ else if 6 * k + 5 = L then _ else if btE L b (6 * k + 5) ≠ 59 then _ else parT 5 (goodC L b) L b f (k + 1)) = _
              rw [if_neg (by omega), if_neg hne, if_neg (fun q => q h163)]
            have K := ih (k + 1) s1 (by omega) (by omega) ⟨i1', i2', i3'⟩ hL0 hpar2
            refine m_iload dX11_readsParts_48 0 rfl ?_
            refine m_aload_n dX11_readsParts_50 4 rfl ?_
            refine m_getR 0 112 dX11_readsParts_51 fl_X11_7_10 rfl (by decide) rfl (by first | assumption | rfl) ?_
            refine m_iload_n dX11_readsParts_54 5 rfl ?_
            refine m_iald dX11_readsParts_55 (by first | assumption | rfl) 0 rfl (by first | assumption | omega | decide) ?_
            refine mW.top hL2 ?_
            refine m_icmp_lt dX11_readsParts_56 64 (by decide) (fun h56 => ?_) (fun h56 => ?_)
            · refine mW.sub (ls1 := [(4, _), (3, _), (2, _), (0, _), (1, _)]) [0, 1, 3, 4, 5] rfl ?_
              exact K
            · refine m_iload dX11_readsParts_59 0 rfl ?_
              refine m_if_le dX11_readsParts_61 175 (by decide) (fun h61 => ?_) (fun h61 => ?_)
              · exact absurd ((nle (b := 0) (by omega) (by omega)).mp h61) (by omega)
              · refine mW.sub (ls1 := [(4, _), (3, _), (2, _), (0, _), (1, _)]) [0, 1, 3, 4, 5] rfl ?_
                exact K
          · refine m_iload dX11_readsParts_166 0 rfl ?_
            refine m_ireturn dX11_readsParts_168 ⟨_, rfl, ?_⟩
            have e : parC L b = (nI (6 * k + 5), 0) := by
              rw [hpar]
              show (if goodC L b k < 5 then _ else if 6 * k + 5 = L then _ else if btE L b (6 * k + 5) ≠ 59 then (nI (6 * k + 5), 0) else _) = _
              rw [if_neg (by omega), if_neg hne, if_pos h163]
            rw [e]
            exact ⟨rfl, i2', fun k hk => absurd hk (Nat.not_lt_zero _), i3'⟩
        · have hLk : 6 * k + 5 = L := (neq (by omega) (by omega)).mp h116
          refine m_aload_n dX11_readsParts_119 4 rfl ?_
          refine m_iload_n dX11_readsParts_120 5 rfl ?_
          refine m_if_ne dX11_readsParts_121 128 (by decide) (fun h121 => ?_) (fun h121 => ?_)
          · exact absurd rfl h121
          refine m_iload_n dX11_readsParts_124 1 rfl ?_
          refine m_goto dX11_readsParts_125 132 (by decide) ?_
          refine m_putI 2 dX11_readsParts_132 fw_X11_161_10 rfl (by decide) rfl rfl (by first | assumption | rfl) ?_
          refine m_aload_n dX11_readsParts_135 4 rfl ?_
          refine m_iload_n dX11_readsParts_136 5 rfl ?_
          refine m_iconst (v := 1) dX11_readsParts_137 (by decide) ?_
          refine m_icmp_ne dX11_readsParts_138 145 (by decide) (fun h138 => ?_) (fun h138 => ?_)
          rotate_left
          · exact absurd h138 (by decide)
          refine m_aload_n dX11_readsParts_145 4 rfl ?_
          refine m_getI 8 dX11_readsParts_146 fl_X11_165_10 rfl (by decide) (by first | assumption | rfl) ?_
          refine m_putI 8 dX11_readsParts_149 fw_X11_165_10 rfl (by decide) rfl rfl (by first | assumption | rfl) ?_
          refine m_iconst (v := -1) dX11_readsParts_152 (by decide) ?_
          refine m_ireturn dX11_readsParts_153 ?_
          refine ⟨_, rfl, ?_⟩
          have e : parC L b = (-1, k + 1) := by rw [hpar]; show (if goodC L b k < 5 then _ else if 6 * k + 5 = L then (-1, k + 1) else _) = _; rw [if_neg (by omega), if_pos hLk]
          rw [e]
          exact ⟨rfl, by simp [us_at], fun i hi => by simp only [us_at]; simp; exact i1' i hi, f_ref8 (by omega) i3'⟩
      · have hg : goodC L b k < 5 := by
          by_cases q : goodC L b k < 5
          · exact q
          · exact absurd ((nle (a := 5) (by omega) (by omega)).mpr (by omega)) h90
        refine m_iload dX11_readsParts_93 1 rfl ?_
        refine m_iload dX11_readsParts_95 0 rfl ?_
        refine m_iadd dX11_readsParts_97 ?_
        refine mW.top (w := nI (6 * k + goodC L b k)) (nadd rfl) ?_
        refine m_ireturn dX11_readsParts_98 ⟨_, rfl, ?_⟩
        have e : parC L b = (nI (6 * k + goodC L b k), 0) := by
          rw [hpar]
          show (if goodC L b k < 5 then (nI (6 * k + goodC L b k), 0) else _) = _
          rw [if_pos hg]
        rw [e]
        exact ⟨rfl, (p3.at (by omega)).trans i2, fun k hk => absurd hk (Nat.not_lt_zero _), i3.tr (p3.mono (fun y z h => by omega))⟩
  refine m_iload_n dX11_readsParts_0 1 rfl ?_
  refine m_if_ne dX11_readsParts_1 8 (by decide) (fun h1 => ?_) (fun h1 => ?_)
  · exact absurd rfl h1
  refine m_iconst (v := 5) dX11_readsParts_4 (by decide) ?_
  refine m_goto dX11_readsParts_5 9 (by decide) ?_
  refine m_istore_n (ls1 := [(2, _), (0, _), (1, _)]) dX11_readsParts_9 (by decide) rfl ?_
  refine m_iconst (v := 0) dX11_readsParts_10 (by decide) ?_
  refine m_istore_n (ls1 := [(3, _), (2, _), (0, _), (1, _)]) dX11_readsParts_11 (by decide) rfl ?_
  refine m_iconst (v := 0) dX11_readsParts_12 (by decide) ?_
  refine m_istore (ls1 := [(4, _), (3, _), (2, _), (0, _), (1, _)]) dX11_readsParts_13 (by decide) rfl ?_
  refine m_aload_n dX11_readsParts_15 3 rfl ?_
  refine m_iload_n dX11_readsParts_16 4 rfl ?_
  refine m_if_ne dX11_readsParts_17 24 (by decide) (fun h17 => ?_) (fun h17 => ?_)
  · exact absurd rfl h17
  refine m_iconst (v := 0) dX11_readsParts_20 (by decide) ?_
  refine m_goto dX11_readsParts_21 28 (by decide) ?_
  refine m_putI 2 dX11_readsParts_28 fw_X11_161_10 rfl (by decide) rfl rfl (by first | assumption | rfl) ?_
  refine m_aload_n dX11_readsParts_31 3 rfl ?_
  refine m_iload_n dX11_readsParts_32 4 rfl ?_
  refine m_iconst (v := 1) dX11_readsParts_33 (by decide) ?_
  refine m_icmp_ne dX11_readsParts_34 41 (by decide) (fun h34 => ?_) (fun h34 => ?_)
  rotate_left
  · exact absurd h34 (by decide)
  refine m_aload_n dX11_readsParts_41 3 rfl ?_
  refine m_getI 8 dX11_readsParts_42 fl_X11_165_10 rfl (by decide) (by first | assumption | rfl) ?_
  refine m_putI 8 dX11_readsParts_45 fw_X11_165_10 rfl (by decide) rfl rfl (by first | assumption | rfl) ?_
  skip
  have i3 : fW (fun y z => (y = 111 ∧ z = 2) ∨ (114 ≤ y ∧ y ≤ 118 ∧ z < 8)) σ (us (us σ 111 2 0) 111 8 ((us σ 111 2 0).1 111 8)) := f_ref8 (by omega) fW.rf
  have i2 : (us (us σ 111 2 0) 111 8 ((us σ 111 2 0).1 111 8)).1 111 2 = 0 := by simp [us_at]
  generalize (us (us σ 111 2 0) 111 8 ((us σ 111 2 0).1 111 8)) = s at i3 i2 ⊢
  have hL1 : s.1 112 0 = nI L := (i3.at (by omega)).trans hL
  refine m_iload dX11_readsParts_48 0 rfl ?_
  refine m_aload_n dX11_readsParts_50 3 rfl ?_
  refine m_getR 0 112 dX11_readsParts_51 fl_X11_7_10 rfl (by decide) rfl (by first | assumption | rfl) ?_
  refine m_iload_n dX11_readsParts_54 4 rfl ?_
  refine m_iald dX11_readsParts_55 (by first | assumption | rfl) 0 rfl (by first | assumption | omega | decide) ?_
  refine mW.top hL1 ?_
  refine m_icmp_lt dX11_readsParts_56 64 (by decide) (fun h56 => ?_) (fun h56 => ?_)
  · have hL0 : L ≠ 0 := by
      have := (nlt (a := 0) (by omega) (by omega)).mp h56
      omega
    exact key 9 0 s rfl (by omega) ⟨fun i hi => absurd hi (Nat.not_lt_zero _), i2, i3⟩ hL0 (by unfold parC; rw [if_neg hL0])
  · have hL0 : L = 0 := by
      by_cases q : L = 0
      · exact q
      · exact absurd ((nlt (a := 0) (by omega) (by omega)).mpr (by omega)) h56
    refine m_iload dX11_readsParts_59 0 rfl ?_
    refine m_if_le dX11_readsParts_61 175 (by decide) (fun h61 => ?_) (fun h61 => ?_)
    · refine m_iconst (v := -1) dX11_readsParts_175 (by decide) ?_
      refine m_ireturn dX11_readsParts_176 ⟨_, rfl, ?_⟩
      have e : parC L b = (-1, 0) := by unfold parC; rw [if_pos hL0]
      rw [e]
      exact ⟨rfl, i2, fun k hk => absurd hk (Nat.not_lt_zero _), i3⟩
    · exact absurd (Int32.le_refl _) h61

theorem c_readsSteer (hd : 2 ≤ d) (L k : Nat) (hL : σ.1 112 1 = nI L) (hL47 : L ≤ 47) (hk : k ≤ 12) : mMet G l d kX11_readsSteer [.ref 111, .int (nI k), .int (nI (4 * k))] σ (qIP (fun r s => r = nI (goodS L (tx σ 1) k) ∧ (goodS L (tx σ 1) k = 3 → s.1 119 k = steB L (tx σ 1) k 0 ∧ s.1 120 k = steB L (tx σ 1) k 1 ∧ s.1 121 k = steB L (tx σ 1) k 2) ∧ fW (fun y z => 119 ≤ y ∧ y ≤ 121 ∧ z = k ∧ k < 12) σ s)) := by
  refine mMet.of cm_X11_readsSteer rfl (Nat.le_of_ble_eq_true rfl) rfl (fun v1 σ1 h => by obtain ⟨r, h1, -⟩ := h; rw [h1]; rfl) ?_
  generalize hb : tx σ 1 = b
  have hB : ∀ i, i < 1000 → mMet G l (d - 1) kX11_byteAt [.ref 111, .int 1, .int (nI i)] σ (qI (btE L b i) σ) := fun i hi => by rw [← hb]; exact c_byteAt 1 L i (by decide) hL hL47 hi
  refine m_aload_n dX11_readsSteer_0 0 rfl ?_
  refine m_iconst (v := 1) dX11_readsSteer_1 (by decide) ?_
  refine m_iload_n dX11_readsSteer_2 2 rfl ?_
  refine m_callV (As := [_, _]) dX11_readsSteer_3 cv_X11_144 (by first | assumption | rfl) (by decide) (by omega) rfl rfl (Nat.le_of_ble_eq_true rfl) (hB (4 * k) (by omega)) (fun v1 σ1 hv1 => ?_)
  refine m_qI hv1 ?_
  clear hv1 v1 σ1
  refine m_istore_n (ls1 := [(3, _), (0, _), (1, _), (2, _)]) dX11_readsSteer_6 (by decide) rfl ?_
  refine m_aload_n dX11_readsSteer_7 1 rfl ?_
  refine m_iconst (v := 1) dX11_readsSteer_8 (by decide) ?_
  refine m_iload_n dX11_readsSteer_9 3 rfl ?_
  refine m_iconst (v := 1) dX11_readsSteer_10 (by decide) ?_
  refine m_iadd dX11_readsSteer_11 ?_
  refine mW.top (w := nI (4 * k + 1)) (naddL 1 rfl rfl) ?_
  refine m_callV (As := [_, _]) dX11_readsSteer_12 cv_X11_144 (by first | assumption | rfl) (by decide) (by omega) rfl rfl (Nat.le_of_ble_eq_true rfl) (hB (4 * k + 1) (by omega)) (fun v1 σ1 hv1 => ?_)
  refine m_qI hv1 ?_
  clear hv1 v1 σ1
  refine m_istore (ls1 := [(4, _), (3, _), (0, _), (1, _), (2, _)]) dX11_readsSteer_15 (by decide) rfl ?_
  refine m_aload_n dX11_readsSteer_17 2 rfl ?_
  refine m_iconst (v := 1) dX11_readsSteer_18 (by decide) ?_
  refine m_iload_n dX11_readsSteer_19 4 rfl ?_
  refine m_iconst (v := 2) dX11_readsSteer_20 (by decide) ?_
  refine m_iadd dX11_readsSteer_21 ?_
  refine mW.top (w := nI (4 * k + 2)) (naddL 2 rfl rfl) ?_
  refine m_callV (As := [_, _]) dX11_readsSteer_22 cv_X11_144 (by first | assumption | rfl) (by decide) (by omega) rfl rfl (Nat.le_of_ble_eq_true rfl) (hB (4 * k + 2) (by omega)) (fun v1 σ1 hv1 => ?_)
  refine m_qI hv1 ?_
  clear hv1 v1 σ1
  refine m_istore (ls1 := [(5, _), (4, _), (3, _), (0, _), (1, _), (2, _)]) dX11_readsSteer_25 (by decide) rfl ?_
  refine m_iload_n dX11_readsSteer_27 4 rfl ?_
  refine m_bipush (v := 12) dX11_readsSteer_28 (by decide) ?_
  have h12 : nI k = 12 ↔ k = 12 := neq (b := 12) (by omega) (by omega)
  refine m_icmp_eq dX11_readsSteer_30 44 (by decide) (fun h30 => ?_) (fun h30 => ?_)
  · refine m_iconst (v := 0) dX11_readsSteer_44 (by decide) ?_
    refine m_ireturn dX11_readsSteer_45 ⟨_, rfl, ?_, ?_, fW.rf⟩
    all_goals (have hg : goodS L b k = 0 := by unfold goodS; first | exact if_pos (Or.inl (h12.mp h30)) | exact if_pos (Or.inr (bI0 h41)))
    · rw [hg]; rfl
    · rw [hg]; intro q; exact absurd q (by decide)
  · refine m_iload_n dX11_readsSteer_33 2 rfl ?_
    refine m_bipush (v := 97) dX11_readsSteer_34 (by decide) ?_
    refine m_bipush (v := 120) dX11_readsSteer_36 (by decide) ?_
    refine m_callS (As := [_, _, _]) dX11_readsSteer_38 cs_X11_136 (by omega) rfl rfl (Nat.le_of_ble_eq_true rfl) (c_in (d := d - 1) _ 97 120) (fun v1 σ1 hv1 => ?_)
    refine m_qI hv1 ?_
    clear hv1 v1 σ1
    refine m_if_ne dX11_readsSteer_41 46 (by decide) (fun h41 => ?_) (fun h41 => ?_)
    · refine m_iload dX11_readsSteer_46 1 rfl ?_
      refine m_bipush (v := 48) dX11_readsSteer_48 (by decide) ?_
      refine m_bipush (v := 55) dX11_readsSteer_50 (by decide) ?_
      refine m_callS (As := [_, _, _]) dX11_readsSteer_52 cs_X11_136 (by omega) rfl rfl (Nat.le_of_ble_eq_true rfl) (c_in (d := d - 1) _ 48 55) (fun v1 σ1 hv1 => ?_)
      refine m_qI hv1 ?_
      clear hv1 v1 σ1
      refine m_if_ne dX11_readsSteer_55 60 (by decide) (fun h55 => ?_) (fun h55 => ?_)
      · refine m_iload dX11_readsSteer_60 0 rfl ?_
        refine m_bipush (v := 108) dX11_readsSteer_62 (by decide) ?_
        refine m_icmp_eq dX11_readsSteer_64 76 (by decide) (fun h64 => ?_) (fun h64 => ?_)
        · refine m_aload_n dX11_readsSteer_76 3 rfl ?_
          refine m_getR 9 119 dX11_readsSteer_77 fl_X11_31_10 rfl (by decide) rfl (by first | assumption | rfl) ?_
          refine m_iload_n dX11_readsSteer_80 4 rfl ?_
          refine m_iload_n dX11_readsSteer_81 2 rfl ?_
          refine m_bipush (v := 97) dX11_readsSteer_82 (by decide) ?_
          refine m_isub dX11_readsSteer_84 ?_
          refine m_iast dX11_readsSteer_85 (by first | assumption | rfl) k rfl (by have hne : k ≠ 12 := fun e => h30 (h12.mpr e); omega) ?_
          refine m_aload_n dX11_readsSteer_86 3 rfl ?_
          refine m_getR 10 120 dX11_readsSteer_87 fl_X11_34_10 rfl (by decide) rfl (by first | assumption | rfl) ?_
          refine m_iload_n dX11_readsSteer_90 4 rfl ?_
          refine m_iload dX11_readsSteer_91 1 rfl ?_
          refine m_bipush (v := 48) dX11_readsSteer_93 (by decide) ?_
          refine m_isub dX11_readsSteer_95 ?_
          refine m_iast dX11_readsSteer_96 (by first | assumption | rfl) k rfl (by have hne : k ≠ 12 := fun e => h30 (h12.mpr e); omega) ?_
          refine m_aload_n dX11_readsSteer_97 3 rfl ?_
          refine m_getR 11 121 dX11_readsSteer_98 fl_X11_37_10 rfl (by decide) rfl (by first | assumption | rfl) ?_
          refine m_iload_n dX11_readsSteer_101 4 rfl ?_
          refine m_iload dX11_readsSteer_102 0 rfl ?_
          refine m_bipush (v := 108) dX11_readsSteer_104 (by decide) ?_
          refine m_icmp_ne dX11_readsSteer_106 113 (by decide) (fun h106 => ?_) (fun h106 => ?_)
          · refine m_iconst (v := 2) dX11_readsSteer_113 (by decide) ?_
            refine m_iast dX11_readsSteer_114 (by first | assumption | rfl) k rfl (by have hne : k ≠ 12 := fun e => h30 (h12.mpr e); omega) ?_
            refine m_iconst (v := 3) dX11_readsSteer_115 (by decide) ?_
            have hk12 : k < 12 := by have hne : k ≠ 12 := fun e => h30 (h12.mpr e); omega
            have hg : goodS L b k = 3 := by unfold goodS; rw [if_neg (by rintro (q | q); exact h30 (h12.mpr q); exact q (bI1 h41)), if_neg (fun q => q (bI1 h55))]; exact if_neg (fun q => by first | exact absurd h64 q.1 | exact absurd h71 q.2)
            refine m_ireturn dX11_readsSteer_116 ⟨_, rfl, by rw [hg]; rfl, fun _ => ?_, fW.us ⟨by omega, by omega, rfl, hk12⟩ (fW.us ⟨by omega, by omega, rfl, hk12⟩ (fW.us ⟨by omega, by omega, rfl, hk12⟩ fW.rf))⟩
            simp only [us_at]
            simp [steB]
            first | exact fun q => absurd h106 q | exact fun q => absurd q h106 | (rw [if_pos h106]) | (rw [if_neg h106]) | trivial
          · refine m_iconst (v := 1) dX11_readsSteer_109 (by decide) ?_
            refine m_goto dX11_readsSteer_110 114 (by decide) ?_
            refine m_iast dX11_readsSteer_114 (by first | assumption | rfl) k rfl (by have hne : k ≠ 12 := fun e => h30 (h12.mpr e); omega) ?_
            refine m_iconst (v := 3) dX11_readsSteer_115 (by decide) ?_
            have hk12 : k < 12 := by have hne : k ≠ 12 := fun e => h30 (h12.mpr e); omega
            have hg : goodS L b k = 3 := by unfold goodS; rw [if_neg (by rintro (q | q); exact h30 (h12.mpr q); exact q (bI1 h41)), if_neg (fun q => q (bI1 h55))]; exact if_neg (fun q => by first | exact absurd h64 q.1 | exact absurd h71 q.2)
            refine m_ireturn dX11_readsSteer_116 ⟨_, rfl, by rw [hg]; rfl, fun _ => ?_, fW.us ⟨by omega, by omega, rfl, hk12⟩ (fW.us ⟨by omega, by omega, rfl, hk12⟩ (fW.us ⟨by omega, by omega, rfl, hk12⟩ fW.rf))⟩
            simp only [us_at]
            simp [steB]
            first | exact fun q => absurd h106 q | exact fun q => absurd q h106 | (rw [if_pos h106]) | (rw [if_neg h106]) | trivial
        · refine m_iload dX11_readsSteer_67 0 rfl ?_
          refine m_bipush (v := 114) dX11_readsSteer_69 (by decide) ?_
          refine m_icmp_eq dX11_readsSteer_71 76 (by decide) (fun h71 => ?_) (fun h71 => ?_)
          · refine m_aload_n dX11_readsSteer_76 3 rfl ?_
            refine m_getR 9 119 dX11_readsSteer_77 fl_X11_31_10 rfl (by decide) rfl (by first | assumption | rfl) ?_
            refine m_iload_n dX11_readsSteer_80 4 rfl ?_
            refine m_iload_n dX11_readsSteer_81 2 rfl ?_
            refine m_bipush (v := 97) dX11_readsSteer_82 (by decide) ?_
            refine m_isub dX11_readsSteer_84 ?_
            refine m_iast dX11_readsSteer_85 (by first | assumption | rfl) k rfl (by have hne : k ≠ 12 := fun e => h30 (h12.mpr e); omega) ?_
            refine m_aload_n dX11_readsSteer_86 3 rfl ?_
            refine m_getR 10 120 dX11_readsSteer_87 fl_X11_34_10 rfl (by decide) rfl (by first | assumption | rfl) ?_
            refine m_iload_n dX11_readsSteer_90 4 rfl ?_
            refine m_iload dX11_readsSteer_91 1 rfl ?_
            refine m_bipush (v := 48) dX11_readsSteer_93 (by decide) ?_
            refine m_isub dX11_readsSteer_95 ?_
            refine m_iast dX11_readsSteer_96 (by first | assumption | rfl) k rfl (by have hne : k ≠ 12 := fun e => h30 (h12.mpr e); omega) ?_
            refine m_aload_n dX11_readsSteer_97 3 rfl ?_
            refine m_getR 11 121 dX11_readsSteer_98 fl_X11_37_10 rfl (by decide) rfl (by first | assumption | rfl) ?_
            refine m_iload_n dX11_readsSteer_101 4 rfl ?_
            refine m_iload dX11_readsSteer_102 0 rfl ?_
            refine m_bipush (v := 108) dX11_readsSteer_104 (by decide) ?_
            refine m_icmp_ne dX11_readsSteer_106 113 (by decide) (fun h106 => ?_) (fun h106 => ?_)
            · refine m_iconst (v := 2) dX11_readsSteer_113 (by decide) ?_
              refine m_iast dX11_readsSteer_114 (by first | assumption | rfl) k rfl (by have hne : k ≠ 12 := fun e => h30 (h12.mpr e); omega) ?_
              refine m_iconst (v := 3) dX11_readsSteer_115 (by decide) ?_
              have hk12 : k < 12 := by have hne : k ≠ 12 := fun e => h30 (h12.mpr e); omega
              have hg : goodS L b k = 3 := by unfold goodS; rw [if_neg (by rintro (q | q); exact h30 (h12.mpr q); exact q (bI1 h41)), if_neg (fun q => q (bI1 h55))]; exact if_neg (fun q => by first | exact absurd h64 q.1 | exact absurd h71 q.2)
              refine m_ireturn dX11_readsSteer_116 ⟨_, rfl, by rw [hg]; rfl, fun _ => ?_, fW.us ⟨by omega, by omega, rfl, hk12⟩ (fW.us ⟨by omega, by omega, rfl, hk12⟩ (fW.us ⟨by omega, by omega, rfl, hk12⟩ fW.rf))⟩
              simp only [us_at]
              simp [steB]
              first | exact fun q => absurd h106 q | exact fun q => absurd q h106 | (rw [if_pos h106]) | (rw [if_neg h106]) | trivial
            · refine m_iconst (v := 1) dX11_readsSteer_109 (by decide) ?_
              refine m_goto dX11_readsSteer_110 114 (by decide) ?_
              refine m_iast dX11_readsSteer_114 (by first | assumption | rfl) k rfl (by have hne : k ≠ 12 := fun e => h30 (h12.mpr e); omega) ?_
              refine m_iconst (v := 3) dX11_readsSteer_115 (by decide) ?_
              have hk12 : k < 12 := by have hne : k ≠ 12 := fun e => h30 (h12.mpr e); omega
              have hg : goodS L b k = 3 := by unfold goodS; rw [if_neg (by rintro (q | q); exact h30 (h12.mpr q); exact q (bI1 h41)), if_neg (fun q => q (bI1 h55))]; exact if_neg (fun q => by first | exact absurd h64 q.1 | exact absurd h71 q.2)
              refine m_ireturn dX11_readsSteer_116 ⟨_, rfl, by rw [hg]; rfl, fun _ => ?_, fW.us ⟨by omega, by omega, rfl, hk12⟩ (fW.us ⟨by omega, by omega, rfl, hk12⟩ (fW.us ⟨by omega, by omega, rfl, hk12⟩ fW.rf))⟩
              simp only [us_at]
              simp [steB]
              first | exact fun q => absurd h106 q | exact fun q => absurd q h106 | (rw [if_pos h106]) | (rw [if_neg h106]) | trivial
          · refine m_iconst (v := 2) dX11_readsSteer_74 (by decide) ?_
            refine m_ireturn dX11_readsSteer_75 ⟨_, rfl, ?_, ?_, fW.rf⟩
            all_goals (have hg : goodS L b k = 2 := by unfold goodS; rw [if_neg (by rintro (q | q); exact h30 (h12.mpr q); exact q (bI1 h41)), if_neg (fun q => q (bI1 h55))]; exact if_pos ⟨h64, h71⟩)
            · rw [hg]; rfl
            · rw [hg]; intro q; exact absurd q (by decide)
      · refine m_iconst (v := 1) dX11_readsSteer_58 (by decide) ?_
        refine m_ireturn dX11_readsSteer_59 ⟨_, rfl, ?_, ?_, fW.rf⟩
        all_goals (have hg : goodS L b k = 1 := by unfold goodS; rw [if_neg (by rintro (q | q); exact h30 (h12.mpr q); exact q (bI1 h41))]; exact if_pos (bI0 h55))
        · rw [hg]; rfl
        · rw [hg]; intro q; exact absurd q (by decide)
    · refine m_iconst (v := 0) dX11_readsSteer_44 (by decide) ?_
      refine m_ireturn dX11_readsSteer_45 ⟨_, rfl, ?_, ?_, fW.rf⟩
      all_goals (have hg : goodS L b k = 0 := by unfold goodS; first | exact if_pos (Or.inl (h12.mp h30)) | exact if_pos (Or.inr (bI0 h41)))
      · rw [hg]; rfl
      · rw [hg]; intro q; exact absurd q (by decide)
theorem c_readsSteers (hd : 3 ≤ d) (L : Nat) (hL : σ.1 112 1 = nI L) (hL47 : L ≤ 47) : mMet G l d kX11_readsParts [.ref 111, .int 1] σ (qIP (fun r s => r = (parS L (tx σ 1)).1 ∧ s.1 111 8 = nI (parS L (tx σ 1)).2 ∧ (∀ k, k < (parS L (tx σ 1)).2 → s.1 119 k = steB L (tx σ 1) k 0 ∧ s.1 120 k = steB L (tx σ 1) k 1 ∧ s.1 121 k = steB L (tx σ 1) k 2) ∧ fW (fun y z => (y = 111 ∧ z = 8) ∨ (119 ≤ y ∧ y ≤ 121 ∧ z < 12)) σ s)) := by
  refine mMet.of cm_X11_readsParts rfl (Nat.le_of_ble_eq_true rfl) rfl (fun v1 σ1 h => by obtain ⟨r, h1, -⟩ := h; rw [h1]; rfl) ?_
  generalize hb : (tx σ 1) = b
  have key : ∀ f k (s : mS), f + k = 13 → k ≤ 12 → ((∀ i, i < k → s.1 119 i = steB L b i 0 ∧ s.1 120 i = steB L b i 1 ∧ s.1 121 i = steB L b i 2) ∧ s.1 111 8 = 0 ∧ fW (fun y z => (y = 111 ∧ z = 8) ∨ (119 ≤ y ∧ y ≤ 121 ∧ z < 12)) σ s) → L ≠ 0 → parS L b = parT 3 (goodS L b) L b f k → mW G l d kX11_readsParts 64 [(4, .int (nI (4 * k))), (3, .int (nI k)), (2, .int 3), (0, .ref 111), (1, .int 1)] [] s (qIP (fun r s => r = (parS L b).1 ∧ s.1 111 8 = nI (parS L b).2 ∧ (∀ k, k < (parS L b).2 → s.1 119 k = steB L b k 0 ∧ s.1 120 k = steB L b k 1 ∧ s.1 121 k = steB L b k 2) ∧ fW (fun y z => (y = 111 ∧ z = 8) ∨ (119 ≤ y ∧ y ≤ 121 ∧ z < 12)) σ s)) := by
    intro f
    induction f with
    | zero => intro k s h1 h2; omega
    | succ f ih =>
      rintro k s hf hk ⟨i1, i2, i3⟩ hL0 hpar
      have hL1 : s.1 112 1 = nI L := (i3.at (by omega)).trans hL
      have hb1 : tx s 1 = b := by rw [← hb]; funext i; exact i3.at (by omega)
      have hgl := goodS_le L b k
      refine m_iload_n dX11_readsParts_64 4 rfl ?_
      refine m_if_ne dX11_readsParts_65 78 (by decide) (fun h65 => ?_) (fun h65 => ?_)
      rotate_left
      · exact absurd h65 (by decide)
      refine m_aload_n dX11_readsParts_78 3 rfl ?_
      refine m_iload_n dX11_readsParts_79 1 rfl ?_
      refine m_iload dX11_readsParts_80 0 rfl ?_
      refine m_callV (As := [_, _]) dX11_readsParts_82 cv_X11_171 (by first | assumption | rfl) (by decide) (by omega) rfl rfl (Nat.le_of_ble_eq_true rfl) (c_readsSteer (d := d - 1) (σ := s) (by omega) L k hL1 hL47 hk) (fun v1 σ1 hv1 => ?_)
      refine m_qIP hv1 (fun rg hp => ?_)
      clear hv1 v1
      skip
      rename mS => s1
      rw [hb1] at hp
      obtain ⟨rfl, p2, p3⟩ := hp
      have hL2 : s1.1 112 1 = nI L := (p3.at (by omega)).trans hL1
      have hb2 : tx s1 1 = b := by rw [← hb1]; funext i; exact p3.at (by omega)
      refine m_istore (ls1 := [(5, _), (4, _), (3, _), (2, _), (0, _), (1, _)]) dX11_readsParts_85 (by decide) rfl ?_
      refine m_iload dX11_readsParts_87 0 rfl ?_
      refine m_iload_n dX11_readsParts_89 3 rfl ?_
      refine m_icmp_ge dX11_readsParts_90 99 (by decide) (fun h90 => ?_) (fun h90 => ?_)
      · have hg : goodS L b k = 3 := by have := (nle (a := 3) (by omega) (by omega)).mp h90; omega
        have hkN : k < 12 := by
          have : k ≠ 12 := fun e => by rw [e] at hg; unfold goodS at hg; rw [if_pos (Or.inl rfl)] at hg; exact absurd hg (by decide)
          omega
        have hp2 := p2 hg
        have i1' : ∀ i, i < k + 1 → s1.1 119 i = steB L b i 0 ∧ s1.1 120 i = steB L b i 1 ∧ s1.1 121 i = steB L b i 2 := by
          intro i hi
          rcases Nat.lt_succ_iff_lt_or_eq.mp hi with h | rfl
          · rw [p3.at (y := 119) (z := i) (by omega), p3.at (y := 120) (z := i) (by omega), p3.at (y := 121) (z := i) (by omega)]
            exact i1 i h
          · exact hp2
        have i3' : fW (fun y z => (y = 111 ∧ z = 8) ∨ (119 ≤ y ∧ y ≤ 121 ∧ z < 12)) σ s1 := i3.tr (p3.mono (fun y z h => by omega))
        have i2' : s1.1 111 8 = 0 := (p3.at (by omega)).trans i2
        refine m_iinc (v := nI (k + 1)) (ls1 := [(3, _), (5, _), (4, _), (2, _), (0, _), (1, _)]) dX11_readsParts_99 2 rfl (nI_1 k) (by decide) rfl ?_
        refine m_iload dX11_readsParts_102 2 rfl ?_
        refine m_iload_n dX11_readsParts_104 3 rfl ?_
        refine m_iadd dX11_readsParts_105 ?_
        refine mW.top (w := nI (4 * k + 3)) (naddL 3 rfl rfl) ?_
        refine m_istore (ls1 := [(4, _), (3, _), (5, _), (2, _), (0, _), (1, _)]) dX11_readsParts_106 (by decide) rfl ?_
        refine m_iload dX11_readsParts_108 0 rfl ?_
        refine m_aload_n dX11_readsParts_110 4 rfl ?_
        refine m_getR 0 112 dX11_readsParts_111 fl_X11_7_10 rfl (by decide) rfl (by first | assumption | rfl) ?_
        refine m_iload_n dX11_readsParts_114 5 rfl ?_
        refine m_iald dX11_readsParts_115 (by first | assumption | rfl) 1 rfl (by first | assumption | omega | decide) ?_
        refine mW.top hL2 ?_
        refine m_icmp_ne dX11_readsParts_116 154 (by decide) (fun h116 => ?_) (fun h116 => ?_)
        · have hB : mMet G l (d - 1) kX11_byteAt [.ref 111, .int 1, .int (nI (4 * k + 3))] s1 (qI (btE L b (4 * k + 3)) s1) := by
            have hB0 := c_byteAt (G := G) (l := l) (d := d - 1) (σ := s1) 1 L (4 * k + 3) (by decide) hL2 hL47 (by omega)
            rw [hb2] at hB0
            exact hB0
          refine m_aload_n dX11_readsParts_154 4 rfl ?_
          refine m_iload_n dX11_readsParts_155 5 rfl ?_
          refine m_iload dX11_readsParts_156 0 rfl ?_
          refine m_callV (As := [_, _]) dX11_readsParts_158 cv_X11_144 (by first | assumption | rfl) (by decide) (by omega) rfl rfl (Nat.le_of_ble_eq_true rfl) hB (fun v1 σ1 hv1 => ?_)
          refine m_qI hv1 ?_
          clear hv1 v1 σ1
          refine m_bipush (v := 59) dX11_readsParts_161 (by decide) ?_
          have hne : (4 * k + 3) ≠ L := fun e => h116 (by rw [e])
          refine m_icmp_eq dX11_readsParts_163 169 (by decide) (fun h163 => ?_) (fun h163 => ?_)
          · refine m_iinc (v := nI (4 * (k + 1))) (ls1 := [(4, _), (3, _), (5, _), (2, _), (0, _), (1, _)]) dX11_readsParts_169 0 rfl (naddL 1 rfl (by omega)) (by decide) rfl ?_
            refine m_goto dX11_readsParts_172 48 (by decide) ?_
            have hpar2 : parS L b = parT 3 (goodS L b) L b f (k + 1) := by
              rw [hpar]
              show (if goodS L b k < 3 then _ else if 4 * k + 3 = L then _ else if btE L b (4 * k + 3) ≠ 59 then _ else parT 3 (goodS L b) L b f (k + 1)) = _
              rw [if_neg (by omega), if_neg hne, if_neg (fun q => q h163)]
            have K := ih (k + 1) s1 (by omega) (by omega) ⟨i1', i2', i3'⟩ hL0 hpar2
            refine m_iload dX11_readsParts_48 0 rfl ?_
            refine m_aload_n dX11_readsParts_50 4 rfl ?_
            refine m_getR 0 112 dX11_readsParts_51 fl_X11_7_10 rfl (by decide) rfl (by first | assumption | rfl) ?_
            refine m_iload_n dX11_readsParts_54 5 rfl ?_
            refine m_iald dX11_readsParts_55 (by first | assumption | rfl) 1 rfl (by first | assumption | omega | decide) ?_
            refine mW.top hL2 ?_
            refine m_icmp_lt dX11_readsParts_56 64 (by decide) (fun h56 => ?_) (fun h56 => ?_)
            · refine mW.sub (ls1 := [(4, _), (3, _), (2, _), (0, _), (1, _)]) [0, 1, 3, 4, 5] rfl ?_
              exact K
            · refine m_iload dX11_readsParts_59 0 rfl ?_
              refine m_if_le dX11_readsParts_61 175 (by decide) (fun h61 => ?_) (fun h61 => ?_)
              · exact absurd ((nle (b := 0) (by omega) (by omega)).mp h61) (by omega)
              · refine mW.sub (ls1 := [(4, _), (3, _), (2, _), (0, _), (1, _)]) [0, 1, 3, 4, 5] rfl ?_
                exact K
          · refine m_iload dX11_readsParts_166 0 rfl ?_
            refine m_ireturn dX11_readsParts_168 ⟨_, rfl, ?_⟩
            have e : parS L b = (nI (4 * k + 3), 0) := by
              rw [hpar]
              show (if goodS L b k < 3 then _ else if 4 * k + 3 = L then _ else if btE L b (4 * k + 3) ≠ 59 then (nI (4 * k + 3), 0) else _) = _
              rw [if_neg (by omega), if_neg hne, if_pos h163]
            rw [e]
            exact ⟨rfl, i2', fun k hk => absurd hk (Nat.not_lt_zero _), i3'⟩
        · have hLk : 4 * k + 3 = L := (neq (by omega) (by omega)).mp h116
          refine m_aload_n dX11_readsParts_119 4 rfl ?_
          refine m_iload_n dX11_readsParts_120 5 rfl ?_
          refine m_if_ne dX11_readsParts_121 128 (by decide) (fun h121 => ?_) (fun h121 => ?_)
          rotate_left
          · exact absurd h121 (by decide)
          refine m_aload_n dX11_readsParts_128 4 rfl ?_
          refine m_getI 2 dX11_readsParts_129 fl_X11_161_10 rfl (by decide) (by first | assumption | rfl) ?_
          refine m_putI 2 dX11_readsParts_132 fw_X11_161_10 rfl (by decide) rfl rfl (by first | assumption | rfl) ?_
          refine m_aload_n dX11_readsParts_135 4 rfl ?_
          refine m_iload_n dX11_readsParts_136 5 rfl ?_
          refine m_iconst (v := 1) dX11_readsParts_137 (by decide) ?_
          refine m_icmp_ne dX11_readsParts_138 145 (by decide) (fun h138 => ?_) (fun h138 => ?_)
          · exact absurd rfl h138
          refine m_iload_n dX11_readsParts_141 1 rfl ?_
          refine m_goto dX11_readsParts_142 149 (by decide) ?_
          refine m_putI 8 dX11_readsParts_149 fw_X11_165_10 rfl (by decide) rfl rfl (by first | assumption | rfl) ?_
          refine m_iconst (v := -1) dX11_readsParts_152 (by decide) ?_
          refine m_ireturn dX11_readsParts_153 ?_
          refine ⟨_, rfl, ?_⟩
          have e : parS L b = (-1, k + 1) := by rw [hpar]; show (if goodS L b k < 3 then _ else if 4 * k + 3 = L then (-1, k + 1) else _) = _; rw [if_neg (by omega), if_pos hLk]
          rw [e]
          exact ⟨rfl, by simp [us_at], fun i hi => by simp only [us_at]; simp; exact i1' i hi, f_ref2 (by omega) i3'⟩
      · have hg : goodS L b k < 3 := by
          by_cases q : goodS L b k < 3
          · exact q
          · exact absurd ((nle (a := 3) (by omega) (by omega)).mpr (by omega)) h90
        refine m_iload dX11_readsParts_93 1 rfl ?_
        refine m_iload dX11_readsParts_95 0 rfl ?_
        refine m_iadd dX11_readsParts_97 ?_
        refine mW.top (w := nI (4 * k + goodS L b k)) (nadd rfl) ?_
        refine m_ireturn dX11_readsParts_98 ⟨_, rfl, ?_⟩
        have e : parS L b = (nI (4 * k + goodS L b k), 0) := by
          rw [hpar]
          show (if goodS L b k < 3 then (nI (4 * k + goodS L b k), 0) else _) = _
          rw [if_pos hg]
        rw [e]
        exact ⟨rfl, (p3.at (by omega)).trans i2, fun k hk => absurd hk (Nat.not_lt_zero _), i3.tr (p3.mono (fun y z h => by omega))⟩
  refine m_iload_n dX11_readsParts_0 1 rfl ?_
  refine m_if_ne dX11_readsParts_1 8 (by decide) (fun h1 => ?_) (fun h1 => ?_)
  rotate_left
  · exact absurd h1 (by decide)
  refine m_iconst (v := 3) dX11_readsParts_8 (by decide) ?_
  refine m_istore_n (ls1 := [(2, _), (0, _), (1, _)]) dX11_readsParts_9 (by decide) rfl ?_
  refine m_iconst (v := 0) dX11_readsParts_10 (by decide) ?_
  refine m_istore_n (ls1 := [(3, _), (2, _), (0, _), (1, _)]) dX11_readsParts_11 (by decide) rfl ?_
  refine m_iconst (v := 0) dX11_readsParts_12 (by decide) ?_
  refine m_istore (ls1 := [(4, _), (3, _), (2, _), (0, _), (1, _)]) dX11_readsParts_13 (by decide) rfl ?_
  refine m_aload_n dX11_readsParts_15 3 rfl ?_
  refine m_iload_n dX11_readsParts_16 4 rfl ?_
  refine m_if_ne dX11_readsParts_17 24 (by decide) (fun h17 => ?_) (fun h17 => ?_)
  rotate_left
  · exact absurd h17 (by decide)
  refine m_aload_n dX11_readsParts_24 3 rfl ?_
  refine m_getI 2 dX11_readsParts_25 fl_X11_161_10 rfl (by decide) (by first | assumption | rfl) ?_
  refine m_putI 2 dX11_readsParts_28 fw_X11_161_10 rfl (by decide) rfl rfl (by first | assumption | rfl) ?_
  refine m_aload_n dX11_readsParts_31 3 rfl ?_
  refine m_iload_n dX11_readsParts_32 4 rfl ?_
  refine m_iconst (v := 1) dX11_readsParts_33 (by decide) ?_
  refine m_icmp_ne dX11_readsParts_34 41 (by decide) (fun h34 => ?_) (fun h34 => ?_)
  · exact absurd rfl h34
  refine m_iconst (v := 0) dX11_readsParts_37 (by decide) ?_
  refine m_goto dX11_readsParts_38 45 (by decide) ?_
  refine m_putI 8 dX11_readsParts_45 fw_X11_165_10 rfl (by decide) rfl rfl (by first | assumption | rfl) ?_
  skip
  have i3 : fW (fun y z => (y = 111 ∧ z = 8) ∨ (119 ≤ y ∧ y ≤ 121 ∧ z < 12)) σ (us (us σ 111 2 (σ.1 111 2)) 111 8 0) := f_ref2 (by omega) fW.rf
  have i2 : (us (us σ 111 2 (σ.1 111 2)) 111 8 0).1 111 8 = 0 := by simp [us_at]
  generalize (us (us σ 111 2 (σ.1 111 2)) 111 8 0) = s at i3 i2 ⊢
  have hL1 : s.1 112 1 = nI L := (i3.at (by omega)).trans hL
  refine m_iload dX11_readsParts_48 0 rfl ?_
  refine m_aload_n dX11_readsParts_50 3 rfl ?_
  refine m_getR 0 112 dX11_readsParts_51 fl_X11_7_10 rfl (by decide) rfl (by first | assumption | rfl) ?_
  refine m_iload_n dX11_readsParts_54 4 rfl ?_
  refine m_iald dX11_readsParts_55 (by first | assumption | rfl) 1 rfl (by first | assumption | omega | decide) ?_
  refine mW.top hL1 ?_
  refine m_icmp_lt dX11_readsParts_56 64 (by decide) (fun h56 => ?_) (fun h56 => ?_)
  · have hL0 : L ≠ 0 := by
      have := (nlt (a := 0) (by omega) (by omega)).mp h56
      omega
    exact key 13 0 s rfl (by omega) ⟨fun i hi => absurd hi (Nat.not_lt_zero _), i2, i3⟩ hL0 (by unfold parS; rw [if_neg hL0])
  · have hL0 : L = 0 := by
      by_cases q : L = 0
      · exact q
      · exact absurd ((nlt (a := 0) (by omega) (by omega)).mpr (by omega)) h56
    refine m_iload dX11_readsParts_59 0 rfl ?_
    refine m_if_le dX11_readsParts_61 175 (by decide) (fun h61 => ?_) (fun h61 => ?_)
    · refine m_iconst (v := -1) dX11_readsParts_175 (by decide) ?_
      refine m_ireturn dX11_readsParts_176 ⟨_, rfl, ?_⟩
      have e : parS L b = (-1, 0) := by unfold parS; rw [if_pos hL0]
      rw [e]
      exact ⟨rfl, i2, fun k hk => absurd hk (Nat.not_lt_zero _), i3⟩
    · exact absurd (Int32.le_refl _) h61

/-- the reference's texts: how long, and that they fit -/
abbrev wRead : Nat → Nat → Prop := fun y z => (y = 111 ∧ (z = 2 ∨ z = 8)) ∨ (114 ≤ y ∧ y ≤ 118 ∧ z < 8) ∨ (119 ≤ y ∧ y ≤ 121 ∧ z < 12)
/-- what was read stands in the reference's rows -/
def readR (L0 L1 : Nat) (σ s : mS) : Prop :=
  s.1 111 2 = nI (parC L0 (tx σ 0)).2 ∧ (∀ k, k < (parC L0 (tx σ 0)).2 → s.1 114 k = carB L0 (tx σ 0) k 0 ∧ s.1 115 k = carB L0 (tx σ 0) k 1 ∧ s.1 116 k = carB L0 (tx σ 0) k 2 ∧ s.1 117 k = carB L0 (tx σ 0) k 3 ∧ s.1 118 k = carB L0 (tx σ 0) k 4) ∧
  s.1 111 8 = nI (parS L1 (tx σ 1)).2 ∧ (∀ k, k < (parS L1 (tx σ 1)).2 → s.1 119 k = steB L1 (tx σ 1) k 0 ∧ s.1 120 k = steB L1 (tx σ 1) k 1 ∧ s.1 121 k = steB L1 (tx σ 1) k 2)
theorem c_faultOf (hd : 4 ≤ d) (L0 L1 : Nat) (h0 : σ.1 112 0 = nI L0) (h1 : σ.1 112 1 = nI L1) (l0 : L0 ≤ 47) (l1 : L1 ≤ 47) (t : Int32) : mMet G l d kX11_faultOf [.ref 111, .int t] σ (qIP (fun r s => r = (if t = 0 then (parC L0 (tx σ 0)).1 else (parS L1 (tx σ 1)).1) ∧ readR L0 L1 σ s ∧ fW wRead σ s)) := by
  refine mMet.of cm_X11_faultOf rfl (Nat.le_of_ble_eq_true rfl) rfl (fun v1 σ1 h => by obtain ⟨r, h1, -⟩ := h; rw [h1]; rfl) ?_
  refine m_aload_n dX11_faultOf_0 0 rfl ?_
  refine m_iconst (v := 0) dX11_faultOf_1 (by decide) ?_
  refine m_callV (As := [_]) dX11_faultOf_2 cv_X11_174 (by first | assumption | rfl) (by decide) (by omega) rfl rfl (Nat.le_of_ble_eq_true rfl) (c_readsCars (d := d - 1) (by omega) L0 h0 l0) (fun v1 σ1 hv1 => ?_)
  refine m_qIP hv1 (fun ra ha => ?_)
  clear hv1 v1
  rename mS => s1
  obtain ⟨rfl, a2, a3, a4⟩ := ha
  refine m_istore_n (ls1 := [(2, _), (0, _), (1, _)]) dX11_faultOf_5 (by decide) rfl ?_
  refine m_aload_n dX11_faultOf_6 1 rfl ?_
  refine m_iconst (v := 1) dX11_faultOf_7 (by decide) ?_
  refine m_callV (As := [_]) dX11_faultOf_8 cv_X11_174 (by first | assumption | rfl) (by decide) (by omega) rfl rfl (Nat.le_of_ble_eq_true rfl) (c_readsSteers (d := d - 1) (by omega) L1 ((a4.at (by omega)).trans h1) l1) (fun v1 σ1 hv1 => ?_)
  refine m_qIP hv1 (fun rb hb => ?_)
  clear hv1 v1
  rename mS => s2
  have e : tx s1 1 = tx σ 1 := funext fun i => a4.at (by omega)
  rw [e] at hb
  obtain ⟨rfl, b2, b3, b4⟩ := hb
  refine m_istore_n (ls1 := [(3, _), (2, _), (0, _), (1, _)]) dX11_faultOf_11 (by decide) rfl ?_
  refine m_iload_n dX11_faultOf_12 3 rfl ?_
  refine m_sel (pcJ := 21) ?_ (fun kt0 kf0 => m_if_ne dX11_faultOf_13 20 (by decide) (fun h => (m_iload_n dX11_faultOf_20 0 rfl (kf0 h))) (fun h => (m_iload_n dX11_faultOf_16 1 rfl (m_goto dX11_faultOf_17 21 (by decide) (kt0 h)))))
  refine m_ireturn dX11_faultOf_21 ⟨_, rfl, rfl, ⟨(b4.at (by omega)).trans a2, fun k hk => ?_, b2, b3⟩, (a4.mono (fun y z h => by omega)).tr (b4.mono (fun y z h => by omega))⟩
  rw [b4.at (y := 114) (by omega), b4.at (y := 115) (by omega), b4.at (y := 116) (by omega), b4.at (y := 117) (by omega), b4.at (y := 118) (by omega)]
  exact a3 k hk
theorem c_reads (hd : 5 ≤ d) (L0 L1 : Nat) (h0 : σ.1 112 0 = nI L0) (h1 : σ.1 112 1 = nI L1) (l0 : L0 ≤ 47) (l1 : L1 ≤ 47) : mMet G l d kX11_reads [.ref 111] σ (qVP (fun s => readR L0 L1 σ s ∧ fW wRead σ s)) := by
  refine mMet.of cm_X11_reads rfl (Nat.le_of_ble_eq_true rfl) rfl (fun v1 σ1 h => by rw [h.1]; trivial) ?_
  refine m_aload_n dX11_reads_0 0 rfl ?_
  refine m_iconst (v := 0) dX11_reads_1 (by decide) ?_
  refine m_callV (As := [_]) dX11_reads_2 cv_X11_177 (by first | assumption | rfl) (by decide) (by omega) rfl rfl (Nat.le_of_ble_eq_true rfl) (c_faultOf (d := d - 1) (by omega) L0 L1 h0 h1 l0 l1 0) (fun v1 σ1 hv1 => ?_)
  refine m_qIP hv1 (fun ra ha => ?_)
  clear hv1 v1
  refine m_istore_n (ls1 := [(1, _), (0, _)]) dX11_reads_5 (by decide) rfl ?_
  exact m_return dX11_reads_6 ⟨rfl, ha.2⟩

end RP


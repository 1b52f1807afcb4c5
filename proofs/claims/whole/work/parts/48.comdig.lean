/-! ===== the class's digest ===== -/
/-- settled, the hash at v, nothing told changed since σ0 -/
def hS (a : PA) (σ0 : mS) (v : Int64) (s : mS) : Prop := tolC a s ∧ setA a s ∧ (∀ y z, wQ y z ∨ s.1 y z = σ0.1 y z) ∧ s.2 = v
theorem hS.add {a : PA} {σ0 s : mS} {v x : Int64} (h : hS a σ0 v s) : hS a σ0 (ad v x) (s.1, ad s.2 x) := ⟨h.1, h.2.1, h.2.2.1, congrArg (fun q => ad q x) h.2.2.2⟩
theorem hS.fr {a : PA} {σ0 s s1 : mS} {v : Int64} (h : hS a σ0 v s) (f : fW wQ s s1) : (∀ y z, wQ y z ∨ s1.1 y z = σ0.1 y z) ∧ s1.2 = v :=
  ⟨fun y z => (f.2 y z).elim Or.inl (fun q => (h.2.2.1 y z).imp_right (fun r => q.trans r)), f.1.trans h.2.2.2⟩
theorem hS.q {a : PA} {σ0 s s1 : mS} {v : Int64} (h : hS a σ0 v s) (A : cA False a s1) (f : fW wQ s s1) : hS a σ0 v s1 := by
  obtain ⟨B, ⟨n, -⟩ | S⟩ := A
  · exact n.elim
  · exact ⟨B, S, h.fr f⟩
theorem hS.tr {a : PA} {σ0 s s1 : mS} {v : Int64} (h : hS a σ0 v s) (f : fW (wTr (aD a).2.1.1) s s1) : hS a σ0 v s1 :=
  ⟨h.1.tr (wTr_Q h.2.1.s12 f), h.2.1.tr f, h.fr (wTr_Q h.2.1.s12 f)⟩
theorem hS.fs {a : PA} {σ0 s s1 : mS} {v : Int64} (h : hS a σ0 v s) (f : fW wFs s s1) (h9 : s1.1 65 9 = 1) (kn : knS (aD a) s1) : hS a σ0 v s1 :=
  ⟨h.1.tr (wFs_Q f), h.2.1.fs f h9 kn, h.fr (wFs_Q f)⟩
theorem hS.cA {a : PA} {σ0 s : mS} {v : Int64} (h : hS a σ0 v s) : cA False a s := ⟨h.1, Or.inr h.2.1⟩
def mtN (i : Nat) : Nat := [0, 7, 15, 23].getD i 0
theorem mtN_I : ∀ i, i < 4 → ([0, 7, 15, 23] : List Int32).getD i 0 = nI (mtN i) := by decide
theorem mtN_lt : ∀ i, i < 4 → mtN i < 24 := by decide
section DG
variable {G : mG} {l : Launch} {d : Nat} {σ σ0 : mS} {a : PA} {p : Prop}
theorem dX2_add_0 : decode cX2_add 0 = .ok (.aload_n 0, 1) := by decide +kernel
theorem dX2_add_1 : decode cX2_add 1 = .ok (.ldc2_w 7, 3) := by decide +kernel
theorem dX2_add_4 : decode cX2_add 4 = .ok (.aload_n 0, 1) := by decide +kernel
theorem dX2_add_5 : decode cX2_add 5 = .ok (.getfield 9, 3) := by decide +kernel
theorem dX2_add_8 : decode cX2_add 8 = .ok (.lmul, 1) := by decide +kernel
theorem dX2_add_9 : decode cX2_add 9 = .ok (.lload_n 1, 1) := by decide +kernel
theorem dX2_add_10 : decode cX2_add 10 = .ok (.ladd, 1) := by decide +kernel
theorem dX2_add_11 : decode cX2_add 11 = .ok (.putfield 9, 3) := by decide +kernel
theorem dX2_add_14 : decode cX2_add 14 = .ok (.return_, 1) := by decide +kernel
theorem dX10_addTold_0 : decode cX10_addTold 0 = .ok (.iconst 0, 1) := by decide +kernel
theorem dX10_addTold_1 : decode cX10_addTold 1 = .ok (.istore_n 1, 1) := by decide +kernel
theorem dX10_addTold_2 : decode cX10_addTold 2 = .ok (.iload_n 1, 1) := by decide +kernel
theorem dX10_addTold_3 : decode cX10_addTold 3 = .ok (.bipush 7, 2) := by decide +kernel
theorem dX10_addTold_5 : decode cX10_addTold 5 = .ok (.if_icmp .gt 22, 3) := by decide +kernel
theorem dX10_addTold_8 : decode cX10_addTold 8 = .ok (.aload_n 0, 1) := by decide +kernel
theorem dX10_addTold_9 : decode cX10_addTold 9 = .ok (.getfield 73, 3) := by decide +kernel
theorem dX10_addTold_12 : decode cX10_addTold 12 = .ok (.aload_n 0, 1) := by decide +kernel
theorem dX10_addTold_13 : decode cX10_addTold 13 = .ok (.iload_n 1, 1) := by decide +kernel
theorem dX10_addTold_14 : decode cX10_addTold 14 = .ok (.invokevirtual 260, 3) := by decide +kernel
theorem dX10_addTold_17 : decode cX10_addTold 17 = .ok (.i2l, 1) := by decide +kernel
theorem dX10_addTold_18 : decode cX10_addTold 18 = .ok (.invokevirtual 285, 3) := by decide +kernel
theorem dX10_addTold_21 : decode cX10_addTold 21 = .ok (.iinc 1 1, 3) := by decide +kernel
theorem dX10_addTold_24 : decode cX10_addTold 24 = .ok (.goto (-22), 3) := by decide +kernel
theorem dX10_addTold_27 : decode cX10_addTold 27 = .ok (.aload_n 0, 1) := by decide +kernel
theorem dX10_addTold_28 : decode cX10_addTold 28 = .ok (.getfield 73, 3) := by decide +kernel
theorem dX10_addTold_31 : decode cX10_addTold 31 = .ok (.aload_n 0, 1) := by decide +kernel
theorem dX10_addTold_32 : decode cX10_addTold 32 = .ok (.getfield 22, 3) := by decide +kernel
theorem dX10_addTold_35 : decode cX10_addTold 35 = .ok (.getfield 100, 3) := by decide +kernel
theorem dX10_addTold_38 : decode cX10_addTold 38 = .ok (.i2l, 1) := by decide +kernel
theorem dX10_addTold_39 : decode cX10_addTold 39 = .ok (.invokevirtual 285, 3) := by decide +kernel
theorem dX10_addTold_42 : decode cX10_addTold 42 = .ok (.aload_n 0, 1) := by decide +kernel
theorem dX10_addTold_43 : decode cX10_addTold 43 = .ok (.getfield 73, 3) := by decide +kernel
theorem dX10_addTold_46 : decode cX10_addTold 46 = .ok (.aload_n 0, 1) := by decide +kernel
theorem dX10_addTold_47 : decode cX10_addTold 47 = .ok (.getfield 29, 3) := by decide +kernel
theorem dX10_addTold_50 : decode cX10_addTold 50 = .ok (.getfield 103, 3) := by decide +kernel
theorem dX10_addTold_53 : decode cX10_addTold 53 = .ok (.i2l, 1) := by decide +kernel
theorem dX10_addTold_54 : decode cX10_addTold 54 = .ok (.invokevirtual 285, 3) := by decide +kernel
theorem dX10_addTold_57 : decode cX10_addTold 57 = .ok (.iconst 0, 1) := by decide +kernel
theorem dX10_addTold_58 : decode cX10_addTold 58 = .ok (.istore_n 1, 1) := by decide +kernel
theorem dX10_addTold_59 : decode cX10_addTold 59 = .ok (.iload_n 1, 1) := by decide +kernel
theorem dX10_addTold_60 : decode cX10_addTold 60 = .ok (.bipush 12, 2) := by decide +kernel
theorem dX10_addTold_62 : decode cX10_addTold 62 = .ok (.if_icmp .ge 39, 3) := by decide +kernel
theorem dX10_addTold_65 : decode cX10_addTold 65 = .ok (.iconst 0, 1) := by decide +kernel
theorem dX10_addTold_66 : decode cX10_addTold 66 = .ok (.istore_n 2, 1) := by decide +kernel
theorem dX10_addTold_67 : decode cX10_addTold 67 = .ok (.iload_n 2, 1) := by decide +kernel
theorem dX10_addTold_68 : decode cX10_addTold 68 = .ok (.iconst 3, 1) := by decide +kernel
theorem dX10_addTold_69 : decode cX10_addTold 69 = .ok (.if_icmp .ge 26, 3) := by decide +kernel
theorem dX10_addTold_72 : decode cX10_addTold 72 = .ok (.aload_n 0, 1) := by decide +kernel
theorem dX10_addTold_73 : decode cX10_addTold 73 = .ok (.getfield 73, 3) := by decide +kernel
theorem dX10_addTold_76 : decode cX10_addTold 76 = .ok (.aload_n 0, 1) := by decide +kernel
theorem dX10_addTold_77 : decode cX10_addTold 77 = .ok (.getfield 29, 3) := by decide +kernel
theorem dX10_addTold_80 : decode cX10_addTold 80 = .ok (.iload_n 1, 1) := by decide +kernel
theorem dX10_addTold_81 : decode cX10_addTold 81 = .ok (.iload_n 2, 1) := by decide +kernel
theorem dX10_addTold_82 : decode cX10_addTold 82 = .ok (.invokevirtual 111, 3) := by decide +kernel
theorem dX10_addTold_85 : decode cX10_addTold 85 = .ok (.i2l, 1) := by decide +kernel
theorem dX10_addTold_86 : decode cX10_addTold 86 = .ok (.invokevirtual 285, 3) := by decide +kernel
theorem dX10_addTold_89 : decode cX10_addTold 89 = .ok (.iinc 2 1, 3) := by decide +kernel
theorem dX10_addTold_92 : decode cX10_addTold 92 = .ok (.goto (-25), 3) := by decide +kernel
theorem dX10_addTold_95 : decode cX10_addTold 95 = .ok (.iinc 1 1, 3) := by decide +kernel
theorem dX10_addTold_98 : decode cX10_addTold 98 = .ok (.goto (-39), 3) := by decide +kernel
theorem dX10_addTold_101 : decode cX10_addTold 101 = .ok (.return_, 1) := by decide +kernel
theorem dX10_addCar_0 : decode cX10_addCar 0 = .ok (.iconst 0, 1) := by decide +kernel
theorem dX10_addCar_1 : decode cX10_addCar 1 = .ok (.istore_n 2, 1) := by decide +kernel
theorem dX10_addCar_2 : decode cX10_addCar 2 = .ok (.iload_n 2, 1) := by decide +kernel
theorem dX10_addCar_3 : decode cX10_addCar 3 = .ok (.iconst 5, 1) := by decide +kernel
theorem dX10_addCar_4 : decode cX10_addCar 4 = .ok (.if_icmp .ge 28, 3) := by decide +kernel
theorem dX10_addCar_7 : decode cX10_addCar 7 = .ok (.aload_n 0, 1) := by decide +kernel
theorem dX10_addCar_8 : decode cX10_addCar 8 = .ok (.getfield 73, 3) := by decide +kernel
theorem dX10_addCar_11 : decode cX10_addCar 11 = .ok (.aload_n 0, 1) := by decide +kernel
theorem dX10_addCar_12 : decode cX10_addCar 12 = .ok (.getfield 22, 3) := by decide +kernel
theorem dX10_addCar_15 : decode cX10_addCar 15 = .ok (.getfield 107, 3) := by decide +kernel
theorem dX10_addCar_18 : decode cX10_addCar 18 = .ok (.iload_n 1, 1) := by decide +kernel
theorem dX10_addCar_19 : decode cX10_addCar 19 = .ok (.aaload, 1) := by decide +kernel
theorem dX10_addCar_20 : decode cX10_addCar 20 = .ok (.iload_n 2, 1) := by decide +kernel
theorem dX10_addCar_21 : decode cX10_addCar 21 = .ok (.iaload, 1) := by decide +kernel
theorem dX10_addCar_22 : decode cX10_addCar 22 = .ok (.i2l, 1) := by decide +kernel
theorem dX10_addCar_23 : decode cX10_addCar 23 = .ok (.invokevirtual 285, 3) := by decide +kernel
theorem dX10_addCar_26 : decode cX10_addCar 26 = .ok (.iinc 2 1, 3) := by decide +kernel
theorem dX10_addCar_29 : decode cX10_addCar 29 = .ok (.goto (-27), 3) := by decide +kernel
theorem dX10_addCar_32 : decode cX10_addCar 32 = .ok (.getstatic 289, 3) := by decide +kernel
theorem dX10_addCar_35 : decode cX10_addCar 35 = .ok (.astore_n 2, 1) := by decide +kernel
theorem dX10_addCar_36 : decode cX10_addCar 36 = .ok (.aload_n 2, 1) := by decide +kernel
theorem dX10_addCar_37 : decode cX10_addCar 37 = .ok (.arraylength, 1) := by decide +kernel
theorem dX10_addCar_38 : decode cX10_addCar 38 = .ok (.istore_n 3, 1) := by decide +kernel
theorem dX10_addCar_39 : decode cX10_addCar 39 = .ok (.iconst 0, 1) := by decide +kernel
theorem dX10_addCar_40 : decode cX10_addCar 40 = .ok (.istore 4, 2) := by decide +kernel
theorem dX10_addCar_42 : decode cX10_addCar 42 = .ok (.iload 4, 2) := by decide +kernel
theorem dX10_addCar_44 : decode cX10_addCar 44 = .ok (.iload_n 3, 1) := by decide +kernel
theorem dX10_addCar_45 : decode cX10_addCar 45 = .ok (.if_icmp .ge 51, 3) := by decide +kernel
theorem dX10_addCar_48 : decode cX10_addCar 48 = .ok (.aload_n 2, 1) := by decide +kernel
theorem dX10_addCar_49 : decode cX10_addCar 49 = .ok (.iload 4, 2) := by decide +kernel
theorem dX10_addCar_51 : decode cX10_addCar 51 = .ok (.iaload, 1) := by decide +kernel
theorem dX10_addCar_52 : decode cX10_addCar 52 = .ok (.istore 5, 2) := by decide +kernel
theorem dX10_addCar_54 : decode cX10_addCar 54 = .ok (.iconst 0, 1) := by decide +kernel
theorem dX10_addCar_55 : decode cX10_addCar 55 = .ok (.istore 6, 2) := by decide +kernel
theorem dX10_addCar_57 : decode cX10_addCar 57 = .ok (.iload 6, 2) := by decide +kernel
theorem dX10_addCar_59 : decode cX10_addCar 59 = .ok (.bipush 6, 2) := by decide +kernel
theorem dX10_addCar_61 : decode cX10_addCar 61 = .ok (.if_icmp .ge 29, 3) := by decide +kernel
theorem dX10_addCar_64 : decode cX10_addCar 64 = .ok (.aload_n 0, 1) := by decide +kernel
theorem dX10_addCar_65 : decode cX10_addCar 65 = .ok (.getfield 73, 3) := by decide +kernel
theorem dX10_addCar_68 : decode cX10_addCar 68 = .ok (.aload_n 0, 1) := by decide +kernel
theorem dX10_addCar_69 : decode cX10_addCar 69 = .ok (.getfield 57, 3) := by decide +kernel
theorem dX10_addCar_72 : decode cX10_addCar 72 = .ok (.iload 5, 2) := by decide +kernel
theorem dX10_addCar_74 : decode cX10_addCar 74 = .ok (.iload_n 1, 1) := by decide +kernel
theorem dX10_addCar_75 : decode cX10_addCar 75 = .ok (.iload 6, 2) := by decide +kernel
theorem dX10_addCar_77 : decode cX10_addCar 77 = .ok (.invokevirtual 137, 3) := by decide +kernel
theorem dX10_addCar_80 : decode cX10_addCar 80 = .ok (.i2l, 1) := by decide +kernel
theorem dX10_addCar_81 : decode cX10_addCar 81 = .ok (.invokevirtual 285, 3) := by decide +kernel
theorem dX10_addCar_84 : decode cX10_addCar 84 = .ok (.iinc 6 1, 3) := by decide +kernel
theorem dX10_addCar_87 : decode cX10_addCar 87 = .ok (.goto (-30), 3) := by decide +kernel
theorem dX10_addCar_90 : decode cX10_addCar 90 = .ok (.iinc 4 1, 3) := by decide +kernel
theorem dX10_addCar_93 : decode cX10_addCar 93 = .ok (.goto (-51), 3) := by decide +kernel
theorem dX10_addCar_96 : decode cX10_addCar 96 = .ok (.aload_n 0, 1) := by decide +kernel
theorem dX10_addCar_97 : decode cX10_addCar 97 = .ok (.getfield 66, 3) := by decide +kernel
theorem dX10_addCar_100 : decode cX10_addCar 100 = .ok (.iload_n 1, 1) := by decide +kernel
theorem dX10_addCar_101 : decode cX10_addCar 101 = .ok (.invokevirtual 175, 3) := by decide +kernel
theorem dX10_addCar_104 : decode cX10_addCar 104 = .ok (.istore_n 2, 1) := by decide +kernel
theorem dX10_addCar_105 : decode cX10_addCar 105 = .ok (.iconst 0, 1) := by decide +kernel
theorem dX10_addCar_106 : decode cX10_addCar 106 = .ok (.istore_n 3, 1) := by decide +kernel
theorem dX10_addCar_107 : decode cX10_addCar 107 = .ok (.iload_n 3, 1) := by decide +kernel
theorem dX10_addCar_108 : decode cX10_addCar 108 = .ok (.iconst 3, 1) := by decide +kernel
theorem dX10_addCar_109 : decode cX10_addCar 109 = .ok (.if_icmp .ge 22, 3) := by decide +kernel
theorem dX10_addCar_112 : decode cX10_addCar 112 = .ok (.aload_n 0, 1) := by decide +kernel
theorem dX10_addCar_113 : decode cX10_addCar 113 = .ok (.getfield 73, 3) := by decide +kernel
theorem dX10_addCar_116 : decode cX10_addCar 116 = .ok (.iload_n 2, 1) := by decide +kernel
theorem dX10_addCar_117 : decode cX10_addCar 117 = .ok (.iload_n 3, 1) := by decide +kernel
theorem dX10_addCar_118 : decode cX10_addCar 118 = .ok (.invokestatic 178, 3) := by decide +kernel
theorem dX10_addCar_121 : decode cX10_addCar 121 = .ok (.i2l, 1) := by decide +kernel
theorem dX10_addCar_122 : decode cX10_addCar 122 = .ok (.invokevirtual 285, 3) := by decide +kernel
theorem dX10_addCar_125 : decode cX10_addCar 125 = .ok (.iinc 3 1, 3) := by decide +kernel
theorem dX10_addCar_128 : decode cX10_addCar 128 = .ok (.goto (-21), 3) := by decide +kernel
theorem dX10_addCar_131 : decode cX10_addCar 131 = .ok (.aload_n 0, 1) := by decide +kernel
theorem dX10_addCar_132 : decode cX10_addCar 132 = .ok (.getfield 66, 3) := by decide +kernel
theorem dX10_addCar_135 : decode cX10_addCar 135 = .ok (.iload_n 1, 1) := by decide +kernel
theorem dX10_addCar_136 : decode cX10_addCar 136 = .ok (.bipush 9, 2) := by decide +kernel
theorem dX10_addCar_138 : decode cX10_addCar 138 = .ok (.invokevirtual 181, 3) := by decide +kernel
theorem dX10_addCar_141 : decode cX10_addCar 141 = .ok (.istore_n 3, 1) := by decide +kernel
theorem dX10_addCar_142 : decode cX10_addCar 142 = .ok (.aload_n 0, 1) := by decide +kernel
theorem dX10_addCar_143 : decode cX10_addCar 143 = .ok (.getfield 73, 3) := by decide +kernel
theorem dX10_addCar_146 : decode cX10_addCar 146 = .ok (.iload_n 3, 1) := by decide +kernel
theorem dX10_addCar_147 : decode cX10_addCar 147 = .ok (.iconst 0, 1) := by decide +kernel
theorem dX10_addCar_148 : decode cX10_addCar 148 = .ok (.invokestatic 184, 3) := by decide +kernel
theorem dX10_addCar_151 : decode cX10_addCar 151 = .ok (.i2l, 1) := by decide +kernel
theorem dX10_addCar_152 : decode cX10_addCar 152 = .ok (.invokevirtual 285, 3) := by decide +kernel
theorem dX10_addCar_155 : decode cX10_addCar 155 = .ok (.aload_n 0, 1) := by decide +kernel
theorem dX10_addCar_156 : decode cX10_addCar 156 = .ok (.getfield 73, 3) := by decide +kernel
theorem dX10_addCar_159 : decode cX10_addCar 159 = .ok (.iload_n 3, 1) := by decide +kernel
theorem dX10_addCar_160 : decode cX10_addCar 160 = .ok (.iconst 1, 1) := by decide +kernel
theorem dX10_addCar_161 : decode cX10_addCar 161 = .ok (.invokestatic 184, 3) := by decide +kernel
theorem dX10_addCar_164 : decode cX10_addCar 164 = .ok (.i2l, 1) := by decide +kernel
theorem dX10_addCar_165 : decode cX10_addCar 165 = .ok (.invokevirtual 285, 3) := by decide +kernel
theorem dX10_addCar_168 : decode cX10_addCar 168 = .ok (.aload_n 0, 1) := by decide +kernel
theorem dX10_addCar_169 : decode cX10_addCar 169 = .ok (.getfield 73, 3) := by decide +kernel
theorem dX10_addCar_172 : decode cX10_addCar 172 = .ok (.aload_n 0, 1) := by decide +kernel
theorem dX10_addCar_173 : decode cX10_addCar 173 = .ok (.getfield 66, 3) := by decide +kernel
theorem dX10_addCar_176 : decode cX10_addCar 176 = .ok (.iload_n 1, 1) := by decide +kernel
theorem dX10_addCar_177 : decode cX10_addCar 177 = .ok (.invokevirtual 206, 3) := by decide +kernel
theorem dX10_addCar_180 : decode cX10_addCar 180 = .ok (.i2l, 1) := by decide +kernel
theorem dX10_addCar_181 : decode cX10_addCar 181 = .ok (.invokevirtual 285, 3) := by decide +kernel
theorem dX10_addCar_184 : decode cX10_addCar 184 = .ok (.aload_n 0, 1) := by decide +kernel
theorem dX10_addCar_185 : decode cX10_addCar 185 = .ok (.getfield 73, 3) := by decide +kernel
theorem dX10_addCar_188 : decode cX10_addCar 188 = .ok (.aload_n 0, 1) := by decide +kernel
theorem dX10_addCar_189 : decode cX10_addCar 189 = .ok (.getfield 66, 3) := by decide +kernel
theorem dX10_addCar_192 : decode cX10_addCar 192 = .ok (.iload_n 1, 1) := by decide +kernel
theorem dX10_addCar_193 : decode cX10_addCar 193 = .ok (.invokevirtual 209, 3) := by decide +kernel
theorem dX10_addCar_196 : decode cX10_addCar 196 = .ok (.i2l, 1) := by decide +kernel
theorem dX10_addCar_197 : decode cX10_addCar 197 = .ok (.invokevirtual 285, 3) := by decide +kernel
theorem dX10_addCar_200 : decode cX10_addCar 200 = .ok (.aload_n 0, 1) := by decide +kernel
theorem dX10_addCar_201 : decode cX10_addCar 201 = .ok (.getfield 73, 3) := by decide +kernel
theorem dX10_addCar_204 : decode cX10_addCar 204 = .ok (.aload_n 0, 1) := by decide +kernel
theorem dX10_addCar_205 : decode cX10_addCar 205 = .ok (.getfield 66, 3) := by decide +kernel
theorem dX10_addCar_208 : decode cX10_addCar 208 = .ok (.iload_n 1, 1) := by decide +kernel
theorem dX10_addCar_209 : decode cX10_addCar 209 = .ok (.invokevirtual 212, 3) := by decide +kernel
theorem dX10_addCar_212 : decode cX10_addCar 212 = .ok (.i2l, 1) := by decide +kernel
theorem dX10_addCar_213 : decode cX10_addCar 213 = .ok (.invokevirtual 285, 3) := by decide +kernel
theorem dX10_addCar_216 : decode cX10_addCar 216 = .ok (.aload_n 0, 1) := by decide +kernel
theorem dX10_addCar_217 : decode cX10_addCar 217 = .ok (.getfield 66, 3) := by decide +kernel
theorem dX10_addCar_220 : decode cX10_addCar 220 = .ok (.iconst 5, 1) := by decide +kernel
theorem dX10_addCar_221 : decode cX10_addCar 221 = .ok (.iload_n 1, 1) := by decide +kernel
theorem dX10_addCar_222 : decode cX10_addCar 222 = .ok (.invokevirtual 217, 3) := by decide +kernel
theorem dX10_addCar_225 : decode cX10_addCar 225 = .ok (.lstore 4, 2) := by decide +kernel
theorem dX10_addCar_227 : decode cX10_addCar 227 = .ok (.aload_n 0, 1) := by decide +kernel
theorem dX10_addCar_228 : decode cX10_addCar 228 = .ok (.getfield 73, 3) := by decide +kernel
theorem dX10_addCar_231 : decode cX10_addCar 231 = .ok (.aload_n 0, 1) := by decide +kernel
theorem dX10_addCar_232 : decode cX10_addCar 232 = .ok (.lload 4, 2) := by decide +kernel
theorem dX10_addCar_234 : decode cX10_addCar 234 = .ok (.iconst 0, 1) := by decide +kernel
theorem dX10_addCar_235 : decode cX10_addCar 235 = .ok (.invokevirtual 221, 3) := by decide +kernel
theorem dX10_addCar_238 : decode cX10_addCar 238 = .ok (.invokevirtual 285, 3) := by decide +kernel
theorem dX10_addCar_241 : decode cX10_addCar 241 = .ok (.aload_n 0, 1) := by decide +kernel
theorem dX10_addCar_242 : decode cX10_addCar 242 = .ok (.getfield 73, 3) := by decide +kernel
theorem dX10_addCar_245 : decode cX10_addCar 245 = .ok (.aload_n 0, 1) := by decide +kernel
theorem dX10_addCar_246 : decode cX10_addCar 246 = .ok (.lload 4, 2) := by decide +kernel
theorem dX10_addCar_248 : decode cX10_addCar 248 = .ok (.iconst 1, 1) := by decide +kernel
theorem dX10_addCar_249 : decode cX10_addCar 249 = .ok (.invokevirtual 221, 3) := by decide +kernel
theorem dX10_addCar_252 : decode cX10_addCar 252 = .ok (.invokevirtual 285, 3) := by decide +kernel
theorem dX10_addCar_255 : decode cX10_addCar 255 = .ok (.return_, 1) := by decide +kernel
theorem dX10_addHouse_0 : decode cX10_addHouse 0 = .ok (.iconst 0, 1) := by decide +kernel
theorem dX10_addHouse_1 : decode cX10_addHouse 1 = .ok (.istore_n 1, 1) := by decide +kernel
theorem dX10_addHouse_2 : decode cX10_addHouse 2 = .ok (.iload_n 1, 1) := by decide +kernel
theorem dX10_addHouse_3 : decode cX10_addHouse 3 = .ok (.bipush 24, 2) := by decide +kernel
theorem dX10_addHouse_5 : decode cX10_addHouse 5 = .ok (.if_icmp .ge 39, 3) := by decide +kernel
theorem dX10_addHouse_8 : decode cX10_addHouse 8 = .ok (.iconst 0, 1) := by decide +kernel
theorem dX10_addHouse_9 : decode cX10_addHouse 9 = .ok (.istore_n 2, 1) := by decide +kernel
theorem dX10_addHouse_10 : decode cX10_addHouse 10 = .ok (.iload_n 2, 1) := by decide +kernel
theorem dX10_addHouse_11 : decode cX10_addHouse 11 = .ok (.iconst 3, 1) := by decide +kernel
theorem dX10_addHouse_12 : decode cX10_addHouse 12 = .ok (.if_icmp .ge 26, 3) := by decide +kernel
theorem dX10_addHouse_15 : decode cX10_addHouse 15 = .ok (.aload_n 0, 1) := by decide +kernel
theorem dX10_addHouse_16 : decode cX10_addHouse 16 = .ok (.getfield 73, 3) := by decide +kernel
theorem dX10_addHouse_19 : decode cX10_addHouse 19 = .ok (.aload_n 0, 1) := by decide +kernel
theorem dX10_addHouse_20 : decode cX10_addHouse 20 = .ok (.getfield 57, 3) := by decide +kernel
theorem dX10_addHouse_23 : decode cX10_addHouse 23 = .ok (.iload_n 1, 1) := by decide +kernel
theorem dX10_addHouse_24 : decode cX10_addHouse 24 = .ok (.iload_n 2, 1) := by decide +kernel
theorem dX10_addHouse_25 : decode cX10_addHouse 25 = .ok (.invokevirtual 147, 3) := by decide +kernel
theorem dX10_addHouse_28 : decode cX10_addHouse 28 = .ok (.i2l, 1) := by decide +kernel
theorem dX10_addHouse_29 : decode cX10_addHouse 29 = .ok (.invokevirtual 285, 3) := by decide +kernel
theorem dX10_addHouse_32 : decode cX10_addHouse 32 = .ok (.iinc 2 1, 3) := by decide +kernel
theorem dX10_addHouse_35 : decode cX10_addHouse 35 = .ok (.goto (-25), 3) := by decide +kernel
theorem dX10_addHouse_38 : decode cX10_addHouse 38 = .ok (.iinc 1 1, 3) := by decide +kernel
theorem dX10_addHouse_41 : decode cX10_addHouse 41 = .ok (.goto (-39), 3) := by decide +kernel
theorem dX10_addHouse_44 : decode cX10_addHouse 44 = .ok (.return_, 1) := by decide +kernel
theorem dX10_addWhole_0 : decode cX10_addWhole 0 = .ok (.aload_n 0, 1) := by decide +kernel
theorem dX10_addWhole_1 : decode cX10_addWhole 1 = .ok (.getfield 73, 3) := by decide +kernel
theorem dX10_addWhole_4 : decode cX10_addWhole 4 = .ok (.aload_n 0, 1) := by decide +kernel
theorem dX10_addWhole_5 : decode cX10_addWhole 5 = .ok (.getfield 57, 3) := by decide +kernel
theorem dX10_addWhole_8 : decode cX10_addWhole 8 = .ok (.getfield 153, 3) := by decide +kernel
theorem dX10_addWhole_11 : decode cX10_addWhole 11 = .ok (.i2l, 1) := by decide +kernel
theorem dX10_addWhole_12 : decode cX10_addWhole 12 = .ok (.invokevirtual 285, 3) := by decide +kernel
theorem dX10_addWhole_15 : decode cX10_addWhole 15 = .ok (.aload_n 0, 1) := by decide +kernel
theorem dX10_addWhole_16 : decode cX10_addWhole 16 = .ok (.getfield 73, 3) := by decide +kernel
theorem dX10_addWhole_19 : decode cX10_addWhole 19 = .ok (.aload_n 0, 1) := by decide +kernel
theorem dX10_addWhole_20 : decode cX10_addWhole 20 = .ok (.getfield 57, 3) := by decide +kernel
theorem dX10_addWhole_23 : decode cX10_addWhole 23 = .ok (.getfield 156, 3) := by decide +kernel
theorem dX10_addWhole_26 : decode cX10_addWhole 26 = .ok (.i2l, 1) := by decide +kernel
theorem dX10_addWhole_27 : decode cX10_addWhole 27 = .ok (.invokevirtual 285, 3) := by decide +kernel
theorem dX10_addWhole_30 : decode cX10_addWhole 30 = .ok (.aload_n 0, 1) := by decide +kernel
theorem dX10_addWhole_31 : decode cX10_addWhole 31 = .ok (.getfield 73, 3) := by decide +kernel
theorem dX10_addWhole_34 : decode cX10_addWhole 34 = .ok (.aload_n 0, 1) := by decide +kernel
theorem dX10_addWhole_35 : decode cX10_addWhole 35 = .ok (.getfield 57, 3) := by decide +kernel
theorem dX10_addWhole_38 : decode cX10_addWhole 38 = .ok (.invokevirtual 159, 3) := by decide +kernel
theorem dX10_addWhole_41 : decode cX10_addWhole 41 = .ok (.i2l, 1) := by decide +kernel
theorem dX10_addWhole_42 : decode cX10_addWhole 42 = .ok (.invokevirtual 285, 3) := by decide +kernel
theorem dX10_addWhole_45 : decode cX10_addWhole 45 = .ok (.aload_n 0, 1) := by decide +kernel
theorem dX10_addWhole_46 : decode cX10_addWhole 46 = .ok (.getfield 73, 3) := by decide +kernel
theorem dX10_addWhole_49 : decode cX10_addWhole 49 = .ok (.aload_n 0, 1) := by decide +kernel
theorem dX10_addWhole_50 : decode cX10_addWhole 50 = .ok (.getfield 57, 3) := by decide +kernel
theorem dX10_addWhole_53 : decode cX10_addWhole 53 = .ok (.invokevirtual 163, 3) := by decide +kernel
theorem dX10_addWhole_56 : decode cX10_addWhole 56 = .ok (.i2l, 1) := by decide +kernel
theorem dX10_addWhole_57 : decode cX10_addWhole 57 = .ok (.invokevirtual 285, 3) := by decide +kernel
theorem dX10_addWhole_60 : decode cX10_addWhole 60 = .ok (.aload_n 0, 1) := by decide +kernel
theorem dX10_addWhole_61 : decode cX10_addWhole 61 = .ok (.getfield 57, 3) := by decide +kernel
theorem dX10_addWhole_64 : decode cX10_addWhole 64 = .ok (.invokevirtual 166, 3) := by decide +kernel
theorem dX10_addWhole_67 : decode cX10_addWhole 67 = .ok (.istore_n 1, 1) := by decide +kernel
theorem dX10_addWhole_68 : decode cX10_addWhole 68 = .ok (.aload_n 0, 1) := by decide +kernel
theorem dX10_addWhole_69 : decode cX10_addWhole 69 = .ok (.getfield 73, 3) := by decide +kernel
theorem dX10_addWhole_72 : decode cX10_addWhole 72 = .ok (.iload_n 1, 1) := by decide +kernel
theorem dX10_addWhole_73 : decode cX10_addWhole 73 = .ok (.i2l, 1) := by decide +kernel
theorem dX10_addWhole_74 : decode cX10_addWhole 74 = .ok (.invokevirtual 285, 3) := by decide +kernel
theorem dX10_addWhole_77 : decode cX10_addWhole 77 = .ok (.aload_n 0, 1) := by decide +kernel
theorem dX10_addWhole_78 : decode cX10_addWhole 78 = .ok (.getfield 73, 3) := by decide +kernel
theorem dX10_addWhole_81 : decode cX10_addWhole 81 = .ok (.aload_n 0, 1) := by decide +kernel
theorem dX10_addWhole_82 : decode cX10_addWhole 82 = .ok (.getfield 57, 3) := by decide +kernel
theorem dX10_addWhole_85 : decode cX10_addWhole 85 = .ok (.getfield 169, 3) := by decide +kernel
theorem dX10_addWhole_88 : decode cX10_addWhole 88 = .ok (.iload_n 1, 1) := by decide +kernel
theorem dX10_addWhole_89 : decode cX10_addWhole 89 = .ok (.iaload, 1) := by decide +kernel
theorem dX10_addWhole_90 : decode cX10_addWhole 90 = .ok (.i2l, 1) := by decide +kernel
theorem dX10_addWhole_91 : decode cX10_addWhole 91 = .ok (.invokevirtual 285, 3) := by decide +kernel
theorem dX10_addWhole_94 : decode cX10_addWhole 94 = .ok (.aload_n 0, 1) := by decide +kernel
theorem dX10_addWhole_95 : decode cX10_addWhole 95 = .ok (.getfield 73, 3) := by decide +kernel
theorem dX10_addWhole_98 : decode cX10_addWhole 98 = .ok (.aload_n 0, 1) := by decide +kernel
theorem dX10_addWhole_99 : decode cX10_addWhole 99 = .ok (.getfield 57, 3) := by decide +kernel
theorem dX10_addWhole_102 : decode cX10_addWhole 102 = .ok (.invokevirtual 172, 3) := by decide +kernel
theorem dX10_addWhole_105 : decode cX10_addWhole 105 = .ok (.i2l, 1) := by decide +kernel
theorem dX10_addWhole_106 : decode cX10_addWhole 106 = .ok (.invokevirtual 285, 3) := by decide +kernel
theorem dX10_addWhole_109 : decode cX10_addWhole 109 = .ok (.aload_n 0, 1) := by decide +kernel
theorem dX10_addWhole_110 : decode cX10_addWhole 110 = .ok (.invokevirtual 187, 3) := by decide +kernel
theorem dX10_addWhole_113 : decode cX10_addWhole 113 = .ok (.istore_n 2, 1) := by decide +kernel
theorem dX10_addWhole_114 : decode cX10_addWhole 114 = .ok (.aload_n 0, 1) := by decide +kernel
theorem dX10_addWhole_115 : decode cX10_addWhole 115 = .ok (.getfield 73, 3) := by decide +kernel
theorem dX10_addWhole_118 : decode cX10_addWhole 118 = .ok (.iload_n 2, 1) := by decide +kernel
theorem dX10_addWhole_119 : decode cX10_addWhole 119 = .ok (.i2l, 1) := by decide +kernel
theorem dX10_addWhole_120 : decode cX10_addWhole 120 = .ok (.invokevirtual 285, 3) := by decide +kernel
theorem dX10_addWhole_123 : decode cX10_addWhole 123 = .ok (.aload_n 0, 1) := by decide +kernel
theorem dX10_addWhole_124 : decode cX10_addWhole 124 = .ok (.getfield 73, 3) := by decide +kernel
theorem dX10_addWhole_127 : decode cX10_addWhole 127 = .ok (.aload_n 0, 1) := by decide +kernel
theorem dX10_addWhole_128 : decode cX10_addWhole 128 = .ok (.iload_n 2, 1) := by decide +kernel
theorem dX10_addWhole_129 : decode cX10_addWhole 129 = .ok (.invokevirtual 190, 3) := by decide +kernel
theorem dX10_addWhole_132 : decode cX10_addWhole 132 = .ok (.i2l, 1) := by decide +kernel
theorem dX10_addWhole_133 : decode cX10_addWhole 133 = .ok (.invokevirtual 285, 3) := by decide +kernel
theorem dX10_addWhole_136 : decode cX10_addWhole 136 = .ok (.aload_n 0, 1) := by decide +kernel
theorem dX10_addWhole_137 : decode cX10_addWhole 137 = .ok (.getfield 66, 3) := by decide +kernel
theorem dX10_addWhole_140 : decode cX10_addWhole 140 = .ok (.invokevirtual 193, 3) := by decide +kernel
theorem dX10_addWhole_143 : decode cX10_addWhole 143 = .ok (.istore_n 3, 1) := by decide +kernel
theorem dX10_addWhole_144 : decode cX10_addWhole 144 = .ok (.aload_n 0, 1) := by decide +kernel
theorem dX10_addWhole_145 : decode cX10_addWhole 145 = .ok (.getfield 73, 3) := by decide +kernel
theorem dX10_addWhole_148 : decode cX10_addWhole 148 = .ok (.iload_n 3, 1) := by decide +kernel
theorem dX10_addWhole_149 : decode cX10_addWhole 149 = .ok (.iconst (-1), 1) := by decide +kernel
theorem dX10_addWhole_150 : decode cX10_addWhole 150 = .ok (.invokestatic 196, 3) := by decide +kernel
theorem dX10_addWhole_153 : decode cX10_addWhole 153 = .ok (.i2l, 1) := by decide +kernel
theorem dX10_addWhole_154 : decode cX10_addWhole 154 = .ok (.invokevirtual 285, 3) := by decide +kernel
theorem dX10_addWhole_157 : decode cX10_addWhole 157 = .ok (.aload_n 0, 1) := by decide +kernel
theorem dX10_addWhole_158 : decode cX10_addWhole 158 = .ok (.getfield 73, 3) := by decide +kernel
theorem dX10_addWhole_161 : decode cX10_addWhole 161 = .ok (.iload_n 3, 1) := by decide +kernel
theorem dX10_addWhole_162 : decode cX10_addWhole 162 = .ok (.iconst 0, 1) := by decide +kernel
theorem dX10_addWhole_163 : decode cX10_addWhole 163 = .ok (.invokestatic 196, 3) := by decide +kernel
theorem dX10_addWhole_166 : decode cX10_addWhole 166 = .ok (.i2l, 1) := by decide +kernel
theorem dX10_addWhole_167 : decode cX10_addWhole 167 = .ok (.invokevirtual 285, 3) := by decide +kernel
theorem dX10_addWhole_170 : decode cX10_addWhole 170 = .ok (.aload_n 0, 1) := by decide +kernel
theorem dX10_addWhole_171 : decode cX10_addWhole 171 = .ok (.getfield 73, 3) := by decide +kernel
theorem dX10_addWhole_174 : decode cX10_addWhole 174 = .ok (.aload_n 0, 1) := by decide +kernel
theorem dX10_addWhole_175 : decode cX10_addWhole 175 = .ok (.getfield 66, 3) := by decide +kernel
theorem dX10_addWhole_178 : decode cX10_addWhole 178 = .ok (.invokevirtual 203, 3) := by decide +kernel
theorem dX10_addWhole_181 : decode cX10_addWhole 181 = .ok (.i2l, 1) := by decide +kernel
theorem dX10_addWhole_182 : decode cX10_addWhole 182 = .ok (.invokevirtual 285, 3) := by decide +kernel
theorem dX10_addWhole_185 : decode cX10_addWhole 185 = .ok (.aload_n 0, 1) := by decide +kernel
theorem dX10_addWhole_186 : decode cX10_addWhole 186 = .ok (.getfield 66, 3) := by decide +kernel
theorem dX10_addWhole_189 : decode cX10_addWhole 189 = .ok (.bipush 7, 2) := by decide +kernel
theorem dX10_addWhole_191 : decode cX10_addWhole 191 = .ok (.bipush 6, 2) := by decide +kernel
theorem dX10_addWhole_193 : decode cX10_addWhole 193 = .ok (.invokevirtual 225, 3) := by decide +kernel
theorem dX10_addWhole_196 : decode cX10_addWhole 196 = .ok (.aload_n 0, 1) := by decide +kernel
theorem dX10_addWhole_197 : decode cX10_addWhole 197 = .ok (.getfield 73, 3) := by decide +kernel
theorem dX10_addWhole_200 : decode cX10_addWhole 200 = .ok (.aload_n 0, 1) := by decide +kernel
theorem dX10_addWhole_201 : decode cX10_addWhole 201 = .ok (.getfield 66, 3) := by decide +kernel
theorem dX10_addWhole_204 : decode cX10_addWhole 204 = .ok (.getfield 229, 3) := by decide +kernel
theorem dX10_addWhole_207 : decode cX10_addWhole 207 = .ok (.getfield 150, 3) := by decide +kernel
theorem dX10_addWhole_210 : decode cX10_addWhole 210 = .ok (.i2l, 1) := by decide +kernel
theorem dX10_addWhole_211 : decode cX10_addWhole 211 = .ok (.invokevirtual 285, 3) := by decide +kernel
theorem dX10_addWhole_214 : decode cX10_addWhole 214 = .ok (.aload_n 0, 1) := by decide +kernel
theorem dX10_addWhole_215 : decode cX10_addWhole 215 = .ok (.getfield 73, 3) := by decide +kernel
theorem dX10_addWhole_218 : decode cX10_addWhole 218 = .ok (.aload_n 0, 1) := by decide +kernel
theorem dX10_addWhole_219 : decode cX10_addWhole 219 = .ok (.getfield 66, 3) := by decide +kernel
theorem dX10_addWhole_222 : decode cX10_addWhole 222 = .ok (.getfield 229, 3) := by decide +kernel
theorem dX10_addWhole_225 : decode cX10_addWhole 225 = .ok (.invokevirtual 230, 3) := by decide +kernel
theorem dX10_addWhole_228 : decode cX10_addWhole 228 = .ok (.i2l, 1) := by decide +kernel
theorem dX10_addWhole_229 : decode cX10_addWhole 229 = .ok (.invokevirtual 285, 3) := by decide +kernel
theorem dX10_addWhole_232 : decode cX10_addWhole 232 = .ok (.return_, 1) := by decide +kernel
theorem dX10_digest_0 : decode cX10_digest 0 = .ok (.aload_n 0, 1) := by decide +kernel
theorem dX10_digest_1 : decode cX10_digest 1 = .ok (.invokevirtual 97, 3) := by decide +kernel
theorem dX10_digest_4 : decode cX10_digest 4 = .ok (.aload_n 0, 1) := by decide +kernel
theorem dX10_digest_5 : decode cX10_digest 5 = .ok (.getfield 73, 3) := by decide +kernel
theorem dX10_digest_8 : decode cX10_digest 8 = .ok (.ldc2_w 263, 3) := by decide +kernel
theorem dX10_digest_11 : decode cX10_digest 11 = .ok (.putfield 265, 3) := by decide +kernel
theorem dX10_digest_14 : decode cX10_digest 14 = .ok (.aload_n 0, 1) := by decide +kernel
theorem dX10_digest_15 : decode cX10_digest 15 = .ok (.invokevirtual 269, 3) := by decide +kernel
theorem dX10_digest_18 : decode cX10_digest 18 = .ok (.iconst 0, 1) := by decide +kernel
theorem dX10_digest_19 : decode cX10_digest 19 = .ok (.istore_n 1, 1) := by decide +kernel
theorem dX10_digest_20 : decode cX10_digest 20 = .ok (.iload_n 1, 1) := by decide +kernel
theorem dX10_digest_21 : decode cX10_digest 21 = .ok (.aload_n 0, 1) := by decide +kernel
theorem dX10_digest_22 : decode cX10_digest 22 = .ok (.getfield 22, 3) := by decide +kernel
theorem dX10_digest_25 : decode cX10_digest 25 = .ok (.getfield 104, 3) := by decide +kernel
theorem dX10_digest_28 : decode cX10_digest 28 = .ok (.if_icmp .ge 14, 3) := by decide +kernel
theorem dX10_digest_31 : decode cX10_digest 31 = .ok (.aload_n 0, 1) := by decide +kernel
theorem dX10_digest_32 : decode cX10_digest 32 = .ok (.iload_n 1, 1) := by decide +kernel
theorem dX10_digest_33 : decode cX10_digest 33 = .ok (.invokevirtual 272, 3) := by decide +kernel
theorem dX10_digest_36 : decode cX10_digest 36 = .ok (.iinc 1 1, 3) := by decide +kernel
theorem dX10_digest_39 : decode cX10_digest 39 = .ok (.goto (-19), 3) := by decide +kernel
theorem dX10_digest_42 : decode cX10_digest 42 = .ok (.aload_n 0, 1) := by decide +kernel
theorem dX10_digest_43 : decode cX10_digest 43 = .ok (.invokevirtual 275, 3) := by decide +kernel
theorem dX10_digest_46 : decode cX10_digest 46 = .ok (.aload_n 0, 1) := by decide +kernel
theorem dX10_digest_47 : decode cX10_digest 47 = .ok (.invokevirtual 278, 3) := by decide +kernel
theorem dX10_digest_50 : decode cX10_digest 50 = .ok (.aload_n 0, 1) := by decide +kernel
theorem dX10_digest_51 : decode cX10_digest 51 = .ok (.getfield 73, 3) := by decide +kernel
theorem dX10_digest_54 : decode cX10_digest 54 = .ok (.getfield 265, 3) := by decide +kernel
theorem dX10_digest_57 : decode cX10_digest 57 = .ok (.lreturn, 1) := by decide +kernel
theorem c_add (x : Int64) : mMet G l d kX2_add [.ref 110, .long x] σ (qV (σ.1, ad σ.2 x)) := by
  refine mMet.of cm_X2_add rfl (Nat.le_of_ble_eq_true rfl) rfl (fun v1 σ1 h => by rw [h.1]; trivial) ?_
  refine m_aload_n dX2_add_0 0 rfl ?_
  refine m_ldc2_w dX2_add_1 kl_X2_7 ?_
  refine m_aload_n dX2_add_4 0 rfl ?_
  refine m_getL 0 dX2_add_5 fl_X2_9_2 rfl (by decide) (by first | assumption | rfl) ?_
  refine m_lmul dX2_add_8 ?_
  refine m_lload_n dX2_add_9 1 rfl ?_
  refine m_ladd dX2_add_10 ?_
  refine m_putL dX2_add_11 fw_X2_9_2 ?_
  exact m_return dX2_add_14 ⟨rfl, rfl⟩
theorem c_addTold (hd : 10 ≤ d) (H0 : hS a σ0 17 σ) : mMet G l d kX10_addTold [.ref 0] σ (qVP (fun s => hS a σ0 (dg3 a) s)) := by
  refine mMet.of cm_X10_addTold rfl (Nat.le_of_ble_eq_true rfl) rfl (fun v1 σ1 h => by rw [h.1]; trivial) ?_
  refine m_iconst (v := 0) dX10_addTold_0 (by decide) ?_
  refine m_istore_n (ls1 := [(1, _), (0, _)]) dX10_addTold_1 (by decide) rfl ?_
  refine down (N := 8) (fun i (s : mS) => hS a σ0 (fo (fun w => (cnB a (nI w)).toInt64) 17 i) s) (fun i s => mW G l d kX10_addTold 2 [(1, .int (nI i)), (0, .ref 0)] [] s _) ?_ ?_ 0 σ (Nat.zero_le _) H0
  · rintro s H
    have H : hS a σ0 (dg1 a) s := H
    refine m_iload_n dX10_addTold_2 0 rfl ?_
    refine m_bipush (v := 7) dX10_addTold_3 (by decide) ?_
    refine m_icmp_gt dX10_addTold_5 27 (by decide) (fun h => ?_) (fun h => ?_)
    rotate_left
    · exact absurd (show (7 : Int32) < nI 8 by decide) h
    clear h
    refine m_aload_n dX10_addTold_27 1 rfl ?_
    refine m_getR 9 110 dX10_addTold_28 fl_X10_73_9 rfl (by decide) rfl (by first | assumption | rfl) ?_
    refine m_aload_n dX10_addTold_31 1 rfl ?_
    refine m_getR 2 5 dX10_addTold_32 fl_X10_22_9 rfl (by decide) rfl (by first | assumption | rfl) ?_
    refine m_getI 4 dX10_addTold_35 fl_X10_100_0 rfl (by decide) (by first | assumption | rfl) ?_
    refine mW.top H.2.1.2.1 ?_
    refine m_i2l dX10_addTold_38 ?_
    refine m_callV (As := [_]) dX10_addTold_39 cv_X10_285 (by first | assumption | rfl) (by decide) (by omega) rfl rfl (Nat.le_of_ble_eq_true rfl) (c_add (d := d - 1) _) (fun v1 σ1 hv1 => ?_)
    refine m_qV hv1 ?_
    clear hv1 v1 σ1
    refine mW.cut (fun s => hS a σ0 (ad (dg1 a) a.2.2.2.1.toInt64) s) H.add (fun s1 H1 => ?_)
    clear H
    refine m_aload_n dX10_addTold_42 1 rfl ?_
    refine m_getR 9 110 dX10_addTold_43 fl_X10_73_9 rfl (by decide) rfl (by first | assumption | rfl) ?_
    refine m_aload_n dX10_addTold_46 1 rfl ?_
    refine m_getR 3 15 dX10_addTold_47 fl_X10_29_9 rfl (by decide) rfl (by first | assumption | rfl) ?_
    refine m_getI 4 dX10_addTold_50 fl_X10_103_6 rfl (by decide) (by first | assumption | rfl) ?_
    refine mW.top H1.2.1.2.2.1 ?_
    refine m_i2l dX10_addTold_53 ?_
    refine m_callV (As := [_]) dX10_addTold_54 cv_X10_285 (by first | assumption | rfl) (by decide) (by omega) rfl rfl (Nat.le_of_ble_eq_true rfl) (c_add (d := d - 1) _) (fun v1 σ1 hv1 => ?_)
    refine m_qV hv1 ?_
    clear hv1 v1 σ1
    refine mW.cut (fun s => hS a σ0 (dg2 a) s) H1.add (fun s2 H2 => ?_)
    clear H1
    refine m_iconst (v := 0) dX10_addTold_57 (by decide) ?_
    refine m_istore_n (ls1 := [(1, _), (0, _)]) dX10_addTold_58 (by decide) rfl ?_
    refine down (N := 12) (fun i (s : mS) => hS a σ0 (foo (fun i h => fo (fun w => (slA (aD a) i w).toInt64) h 3) (dg2 a) i) s) (fun i s => mW G l d kX10_addTold 59 [(1, .int (nI i)), (0, .ref 0)] [] s _) ?_ ?_ 0 s2 (Nat.zero_le _) H2
    · rintro s H
      refine m_iload_n dX10_addTold_59 0 rfl ?_
      refine m_bipush (v := 12) dX10_addTold_60 (by decide) ?_
      refine m_icmp_ge dX10_addTold_62 101 (by decide) (fun h => ?_) (fun h => ?_)
      · exact m_return dX10_addTold_101 ⟨rfl, H⟩
      · exact absurd (Int32.le_refl _) h
    · rintro i s hi H ih
      refine m_iload_n dX10_addTold_59 0 rfl ?_
      refine m_bipush (v := 12) dX10_addTold_60 (by decide) ?_
      refine m_icmp_ge dX10_addTold_62 101 (by decide) (fun h => ?_) (fun h => ?_)
      · exact absurd ((nle (a := 12) (by omega) (by omega)).mp h) (by omega)
      clear h
      refine m_iconst (v := 0) dX10_addTold_65 (by decide) ?_
      refine m_istore_n (ls1 := [(2, _), (1, _), (0, _)]) dX10_addTold_66 (by decide) rfl ?_
      refine down (N := 3) (fun j (s : mS) => hS a σ0 (fo (fun w => (slA (aD a) i w).toInt64) (foo (fun i h => fo (fun w => (slA (aD a) i w).toInt64) h 3) (dg2 a) i) j) s) (fun j s => mW G l d kX10_addTold 67 [(2, .int (nI j)), (1, .int (nI i)), (0, .ref 0)] [] s _) ?_ ?_ 0 s (Nat.zero_le _) H
      · rintro s H
        refine m_iload_n dX10_addTold_67 0 rfl ?_
        refine m_iconst (v := 3) dX10_addTold_68 (by decide) ?_
        refine m_icmp_ge dX10_addTold_69 95 (by decide) (fun h => ?_) (fun h => ?_)
        rotate_left
        · exact absurd (Int32.le_refl _) h
        clear h
        refine m_iinc (v := nI (i + 1)) (ls1 := [(1, _), (2, _), (0, _)]) dX10_addTold_95 1 rfl (nI_1 i) (by decide) rfl ?_
        refine m_goto dX10_addTold_98 59 (by decide) ?_
        refine mW.sub (ls1 := [(1, _), (0, _)]) [0, 2] rfl ?_
        exact ih s H
      · rintro j s hj H ihJ
        refine m_iload_n dX10_addTold_67 0 rfl ?_
        refine m_iconst (v := 3) dX10_addTold_68 (by decide) ?_
        refine m_icmp_ge dX10_addTold_69 95 (by decide) (fun h => ?_) (fun h => ?_)
        · exact absurd ((nle (a := 3) (by omega) (by omega)).mp h) (by omega)
        clear h
        refine m_aload_n dX10_addTold_72 2 rfl ?_
        refine m_getR 9 110 dX10_addTold_73 fl_X10_73_9 rfl (by decide) rfl (by first | assumption | rfl) ?_
        refine m_aload_n dX10_addTold_76 2 rfl ?_
        refine m_getR 3 15 dX10_addTold_77 fl_X10_29_9 rfl (by decide) rfl (by first | assumption | rfl) ?_
        refine m_iload_n dX10_addTold_80 1 rfl ?_
        refine m_iload_n dX10_addTold_81 0 rfl ?_
        refine m_callV (As := [_, _]) dX10_addTold_82 cv_X10_111 rfl (by decide) (by omega) rfl rfl (Nat.le_of_ble_eq_true rfl) (c_partOf (d := d - 1) (aD a) H.2.1 i j hi hj) (fun v1 σ1 hv1 => ?_)
        refine m_qI hv1 ?_
        clear hv1 v1 σ1
        refine m_i2l dX10_addTold_85 ?_
        refine m_callV (As := [_]) dX10_addTold_86 cv_X10_285 (by first | assumption | rfl) (by decide) (by omega) rfl rfl (Nat.le_of_ble_eq_true rfl) (c_add (d := d - 1) _) (fun v1 σ1 hv1 => ?_)
        refine m_qV hv1 ?_
        clear hv1 v1 σ1
        refine mW.cut (fun s => hS a σ0 (fo (fun w => (slA (aD a) i w).toInt64) (foo (fun i h => fo (fun w => (slA (aD a) i w).toInt64) h 3) (dg2 a) i) (j + 1)) s) H.add (fun s2 H2 => ?_)
        refine m_iinc (v := nI (j + 1)) (ls1 := [(2, _), (1, _), (0, _)]) dX10_addTold_89 0 rfl (nI_1 j) (by decide) rfl ?_
        refine m_goto dX10_addTold_92 67 (by decide) ?_
        refine mW.sub (ls1 := [(2, _), (1, _), (0, _)]) [0, 1, 2] rfl ?_
        exact ihJ s2 H2
  · rintro i s hi H ih
    refine m_iload_n dX10_addTold_2 0 rfl ?_
    refine m_bipush (v := 7) dX10_addTold_3 (by decide) ?_
    refine m_icmp_gt dX10_addTold_5 27 (by decide) (fun h => ?_) (fun h => ?_)
    · exact absurd ((nlt (a := 7) (by omega) (by omega)).mp h) (by omega)
    clear h
    refine m_aload_n dX10_addTold_8 1 rfl ?_
    refine m_getR 9 110 dX10_addTold_9 fl_X10_73_9 rfl (by decide) rfl (by first | assumption | rfl) ?_
    refine m_aload_n dX10_addTold_12 1 rfl ?_
    refine m_iload_n dX10_addTold_13 0 rfl ?_
    refine m_callV (As := [_]) dX10_addTold_14 cv_X10_260 rfl (by decide) (by omega) rfl rfl (Nat.le_of_ble_eq_true rfl) (c_tally (d := d - 1) (by omega) H.1 H.2.1 (nI i)) (fun v1 σ1 hv1 => ?_)
    refine m_qI hv1 ?_
    clear hv1 v1 σ1
    refine m_i2l dX10_addTold_17 ?_
    refine m_callV (As := [_]) dX10_addTold_18 cv_X10_285 (by first | assumption | rfl) (by decide) (by omega) rfl rfl (Nat.le_of_ble_eq_true rfl) (c_add (d := d - 1) _) (fun v1 σ1 hv1 => ?_)
    refine m_qV hv1 ?_
    clear hv1 v1 σ1
    refine mW.cut (fun s => hS a σ0 (fo (fun w => (cnB a (nI w)).toInt64) 17 (i + 1)) s) H.add (fun s2 H2 => ?_)
    refine m_iinc (v := nI (i + 1)) (ls1 := [(1, _), (0, _)]) dX10_addTold_21 0 rfl (nI_1 i) (by decide) rfl ?_
    refine m_goto dX10_addTold_24 2 (by decide) ?_
    refine mW.sub (ls1 := [(1, _), (0, _)]) [0, 1] rfl ?_
    exact ih s2 H2
theorem c_addHouse (hd : 10 ≤ d) (v0 : Int64) (H0 : hS a σ0 v0 σ) : mMet G l d kX10_addHouse [.ref 0] σ (qVP (fun s => hS a σ0 (foo (fun t h => fo (fun w => (hoA (aD a) t (nI w)).toInt64) h 3) v0 24) s)) := by
  refine mMet.of cm_X10_addHouse rfl (Nat.le_of_ble_eq_true rfl) rfl (fun v1 σ1 h => by rw [h.1]; trivial) ?_
  refine m_iconst (v := 0) dX10_addHouse_0 (by decide) ?_
  refine m_istore_n (ls1 := [(1, _), (0, _)]) dX10_addHouse_1 (by decide) rfl ?_
  refine down (N := 24) (fun i (s : mS) => hS a σ0 (foo (fun t h => fo (fun w => (hoA (aD a) t (nI w)).toInt64) h 3) v0 i) s) (fun i s => mW G l d kX10_addHouse 2 [(1, .int (nI i)), (0, .ref 0)] [] s _) ?_ ?_ 0 σ (Nat.zero_le _) H0
  · rintro s H
    refine m_iload_n dX10_addHouse_2 0 rfl ?_
    refine m_bipush (v := 24) dX10_addHouse_3 (by decide) ?_
    refine m_icmp_ge dX10_addHouse_5 44 (by decide) (fun h => ?_) (fun h => ?_)
    · exact m_return dX10_addHouse_44 ⟨rfl, H⟩
    · exact absurd (Int32.le_refl _) h
  · rintro i s hi H ih
    refine m_iload_n dX10_addHouse_2 0 rfl ?_
    refine m_bipush (v := 24) dX10_addHouse_3 (by decide) ?_
    refine m_icmp_ge dX10_addHouse_5 44 (by decide) (fun h => ?_) (fun h => ?_)
    · exact absurd ((nle (a := 24) (by omega) (by omega)).mp h) (by omega)
    clear h
    refine m_iconst (v := 0) dX10_addHouse_8 (by decide) ?_
    refine m_istore_n (ls1 := [(2, _), (1, _), (0, _)]) dX10_addHouse_9 (by decide) rfl ?_
    refine down (N := 3) (fun j (s : mS) => hS a σ0 (fo (fun w => (hoA (aD a) i (nI w)).toInt64) (foo (fun t h => fo (fun w => (hoA (aD a) t (nI w)).toInt64) h 3) v0 i) j) s) (fun j s => mW G l d kX10_addHouse 10 [(2, .int (nI j)), (1, .int (nI i)), (0, .ref 0)] [] s _) ?_ ?_ 0 s (Nat.zero_le _) H
    · rintro s H
      refine m_iload_n dX10_addHouse_10 0 rfl ?_
      refine m_iconst (v := 3) dX10_addHouse_11 (by decide) ?_
      refine m_icmp_ge dX10_addHouse_12 38 (by decide) (fun h => ?_) (fun h => ?_)
      rotate_left
      · exact absurd (Int32.le_refl _) h
      clear h
      refine m_iinc (v := nI (i + 1)) (ls1 := [(1, _), (2, _), (0, _)]) dX10_addHouse_38 1 rfl (nI_1 i) (by decide) rfl ?_
      refine m_goto dX10_addHouse_41 2 (by decide) ?_
      refine mW.sub (ls1 := [(1, _), (0, _)]) [0, 2] rfl ?_
      exact ih s H
    · rintro j s hj H ihJ
      refine m_iload_n dX10_addHouse_10 0 rfl ?_
      refine m_iconst (v := 3) dX10_addHouse_11 (by decide) ?_
      refine m_icmp_ge dX10_addHouse_12 38 (by decide) (fun h => ?_) (fun h => ?_)
      · exact absurd ((nle (a := 3) (by omega) (by omega)).mp h) (by omega)
      clear h
      refine m_aload_n dX10_addHouse_15 2 rfl ?_
      refine m_getR 9 110 dX10_addHouse_16 fl_X10_73_9 rfl (by decide) rfl (by first | assumption | rfl) ?_
      refine m_aload_n dX10_addHouse_19 2 rfl ?_
      refine m_getR 7 47 dX10_addHouse_20 fl_X10_57_9 rfl (by decide) rfl (by first | assumption | rfl) ?_
      refine m_iload_n dX10_addHouse_23 1 rfl ?_
      refine m_iload_n dX10_addHouse_24 0 rfl ?_
      refine m_callV (As := [_, _]) dX10_addHouse_25 cv_X10_147 rfl (by decide) (by omega) rfl rfl (Nat.le_of_ble_eq_true rfl) (c_division (d := d - 1) (by omega) (aD a) H.2.1 i hi (nI j) (wI_nI (by decide) hj)) (fun v1 σ1 hv1 => ?_)
      refine m_qI hv1 ?_
      clear hv1 v1 σ1
      refine m_i2l dX10_addHouse_28 ?_
      refine m_callV (As := [_]) dX10_addHouse_29 cv_X10_285 (by first | assumption | rfl) (by decide) (by omega) rfl rfl (Nat.le_of_ble_eq_true rfl) (c_add (d := d - 1) _) (fun v1 σ1 hv1 => ?_)
      refine m_qV hv1 ?_
      clear hv1 v1 σ1
      refine mW.cut (fun s => hS a σ0 (fo (fun w => (hoA (aD a) i (nI w)).toInt64) (foo (fun t h => fo (fun w => (hoA (aD a) t (nI w)).toInt64) h 3) v0 i) (j + 1)) s) H.add (fun s2 H2 => ?_)
      refine m_iinc (v := nI (j + 1)) (ls1 := [(2, _), (1, _), (0, _)]) dX10_addHouse_32 0 rfl (nI_1 j) (by decide) rfl ?_
      refine m_goto dX10_addHouse_35 10 (by decide) ?_
      refine mW.sub (ls1 := [(2, _), (1, _), (0, _)]) [0, 1, 2] rfl ?_
      exact ihJ s2 H2
/-- the rest of a car's digest: turns, what is seen, chances -/
def cE (a : PA) (k : Nat) (h : Int64) : Int64 := ad (ad (ad (ad (ad (ad (ad h (btA (aD a) k 9 0).toInt64) (btA (aD a) k 9 1).toInt64) (soP (aD a) k (aZ a) (aW a) 3).toInt64) (hvP (aD a) k (aZ a) (aW a) 9).toInt64) (akP (aD a) k (aZ a) (aW a)).toInt64) (chA (aD a) 5 k 0)) (chA (aD a) 5 k 1)
theorem cdP_eq (a : PA) (k : Nat) (v : Int64) : cdP a k v = cE a k (fo (fun w => (stA (aD a) k (nI w)).toInt64) (foo (fun i h => mdP (aD a) (mtN i) k h) (fo (fun w => ((aD a).1.2 k w).toInt64) v 5) 4) 3) := by
  unfold cdP cd5 cd4 cd3 cd2 cE
  rfl
def cE3 (a : PA) (k : Nat) (h : Int64) : Int64 := ad (ad h (chA (aD a) 5 k 0)) (chA (aD a) 5 k 1)
def cE2 (a : PA) (k : Nat) (h : Int64) : Int64 := cE3 a k (ad (ad (ad h (soP (aD a) k (aZ a) (aW a) 3).toInt64) (hvP (aD a) k (aZ a) (aW a) 9).toInt64) (akP (aD a) k (aZ a) (aW a)).toInt64)
theorem cE_eq (a : PA) (k : Nat) (h : Int64) : cE a k h = cE2 a k (ad (ad h (btA (aD a) k 9 0).toInt64) (btA (aD a) k 9 1).toInt64) := by
  unfold cE cE2 cE3
  rfl
theorem w_addCar5 (hd : 8 ≤ d) (h0 : Int64) (H : hS a σ0 h0 σ) (k : Nat) (hk : k < (aD a).1.1) (x3 : Int32) (x2 : Int32) : mW G l d kX10_addCar 216 [(3, .int x3), (2, .int x2), (0, .ref 0), (1, .int (nI k))] [] σ (qVP (fun s => hS a σ0 (cE3 a k h0) s)) := by
  have he8 := H.2.1.set.2.2.2.2.2.2.2.1.1
  refine m_aload_n dX10_addCar_216 2 rfl ?_
  refine m_getR 8 65 dX10_addCar_217 fl_X10_66_9 rfl (by decide) rfl (by first | assumption | rfl) ?_
  refine m_iconst (v := 5) dX10_addCar_220 (by decide) ?_
  refine m_iload_n dX10_addCar_221 3 rfl ?_
  refine m_callV (As := [_, _]) dX10_addCar_222 cv_X10_217 rfl (by decide) (by omega) rfl rfl (Nat.le_of_ble_eq_true rfl) (c_weighStruck (d := d - 1) (by omega) (aD a) H.2.1.set H.2.1.2.2.2.2.2 5 k (by decide) hk) (fun v1 σ1 hv1 => ?_)
  refine m_qLP hv1 (fun x1 hq => ?_)
  clear hv1 v1
  rename mS => s10
  obtain ⟨e9, k1, kn, f10⟩ := hq
  refine mW.topL e9 ?_
  clear e9
  have hfl := chN_le (aD a) 5 k (by decide) (2 ^ (aD a).2.2.1.1)
  have hfl2 : chN (aD a) 5 k (2 ^ (aD a).2.2.1.1) < 2 ^ 60 := Nat.lt_of_le_of_lt (Nat.le_trans hfl (Nat.mul_le_mul (p2 _ he8) (p16 _ he8))) (by decide)
  have H9 := H.fs f10 k1 kn
  clear H hfl k1 kn f10
  unfold cE3 chA
  generalize chN (aD a) 5 k (2 ^ (aD a).2.2.1.1) = F at *
  refine m_lstore (ls1 := [(4, _), (3, _), (2, _), (0, _), (1, _)]) dX10_addCar_225 (by decide) rfl ?_
  refine m_aload_n dX10_addCar_227 3 rfl ?_
  refine m_getR 9 110 dX10_addCar_228 fl_X10_73_9 rfl (by decide) rfl (by first | assumption | rfl) ?_
  refine m_aload_n dX10_addCar_231 3 rfl ?_
  refine m_lload dX10_addCar_232 0 rfl ?_
  refine m_iconst (v := 0) dX10_addCar_234 (by decide) ?_
  refine m_callV (As := [_, _]) dX10_addCar_235 cv_X10_221 rfl (by decide) (by omega) rfl rfl (Nat.le_of_ble_eq_true rfl) (c_fractionPart (d := d - 1) (aD a).2.2.1.1 _ he8 H9.2.1.set.2.2.2.2.2.2.2.2.1 hfl2 0) (fun v1 σ1 hv1 => ?_)
  refine m_qL hv1 ?_
  clear hv1 v1 σ1
  refine m_callV (As := [_]) dX10_addCar_238 cv_X10_285 (by first | assumption | rfl) (by decide) (by omega) rfl rfl (Nat.le_of_ble_eq_true rfl) (c_add (d := d - 1) _) (fun v1 σ1 hv1 => ?_)
  refine m_qV hv1 ?_
  clear hv1 v1 σ1
  refine mW.cut (fun s => hS a σ0 (ad h0 _) s) H9.add (fun s11 H11 => ?_)
  refine m_aload_n dX10_addCar_241 3 rfl ?_
  refine m_getR 9 110 dX10_addCar_242 fl_X10_73_9 rfl (by decide) rfl (by first | assumption | rfl) ?_
  refine m_aload_n dX10_addCar_245 3 rfl ?_
  refine m_lload dX10_addCar_246 0 rfl ?_
  refine m_iconst (v := 1) dX10_addCar_248 (by decide) ?_
  refine m_callV (As := [_, _]) dX10_addCar_249 cv_X10_221 rfl (by decide) (by omega) rfl rfl (Nat.le_of_ble_eq_true rfl) (c_fractionPart (d := d - 1) (aD a).2.2.1.1 _ he8 H11.2.1.set.2.2.2.2.2.2.2.2.1 hfl2 1) (fun v1 σ1 hv1 => ?_)
  refine m_qL hv1 ?_
  clear hv1 v1 σ1
  refine m_callV (As := [_]) dX10_addCar_252 cv_X10_285 (by first | assumption | rfl) (by decide) (by omega) rfl rfl (Nat.le_of_ble_eq_true rfl) (c_add (d := d - 1) _) (fun v1 σ1 hv1 => ?_)
  refine m_qV hv1 ?_
  clear hv1 v1 σ1
  exact m_return dX10_addCar_255 ⟨rfl, H11.add⟩
theorem w_addCar4 (hd : 8 ≤ d) (h0 : Int64) (H : hS a σ0 h0 σ) (k : Nat) (hk : k < (aD a).1.1) (x3 : Int32) (x2 : Int32) : mW G l d kX10_addCar 168 [(3, .int x3), (2, .int x2), (0, .ref 0), (1, .int (nI k))] [] σ (qVP (fun s => hS a σ0 (cE2 a k h0) s)) := by
  unfold cE2
  have se := H.1.2.2.2.2.2.2.2.1
  refine m_aload_n dX10_addCar_168 2 rfl ?_
  refine m_getR 9 110 dX10_addCar_169 fl_X10_73_9 rfl (by decide) rfl (by first | assumption | rfl) ?_
  refine m_aload_n dX10_addCar_172 2 rfl ?_
  refine m_getR 8 65 dX10_addCar_173 fl_X10_66_9 rfl (by decide) rfl (by first | assumption | rfl) ?_
  refine m_iload_n dX10_addCar_176 3 rfl ?_
  refine m_callV (As := [_]) dX10_addCar_177 cv_X10_206 rfl (by decide) (by omega) rfl rfl (Nat.le_of_ble_eq_true rfl) (c_sortsOf (d := d - 1) (by omega) (aD a) H.2.1.set (aZ a) (aW a) se k hk) (fun v1 σ1 hv1 => ?_)
  refine m_qIP hv1 (fun x1 hq => ?_)
  clear hv1 v1
  rename mS => s4
  obtain ⟨e9, f4⟩ := hq
  refine mW.top e9 ?_
  clear e9
  refine m_i2l dX10_addCar_180 ?_
  refine m_callV (As := [_]) dX10_addCar_181 cv_X10_285 (by first | assumption | rfl) (by decide) (by omega) rfl rfl (Nat.le_of_ble_eq_true rfl) (c_add (d := d - 1) _) (fun v1 σ1 hv1 => ?_)
  refine m_qV hv1 ?_
  clear hv1 v1 σ1
  refine mW.cut (fun s => hS a σ0 (ad h0 (soP (aD a) k (aZ a) (aW a) 3).toInt64) s) (H.tr f4).add (fun s5 H5 => ?_)
  clear se f4 H
  have se := H5.1.2.2.2.2.2.2.2.1
  refine m_aload_n dX10_addCar_184 2 rfl ?_
  refine m_getR 9 110 dX10_addCar_185 fl_X10_73_9 rfl (by decide) rfl (by first | assumption | rfl) ?_
  refine m_aload_n dX10_addCar_188 2 rfl ?_
  refine m_getR 8 65 dX10_addCar_189 fl_X10_66_9 rfl (by decide) rfl (by first | assumption | rfl) ?_
  refine m_iload_n dX10_addCar_192 3 rfl ?_
  refine m_callV (As := [_]) dX10_addCar_193 cv_X10_209 rfl (by decide) (by omega) rfl rfl (Nat.le_of_ble_eq_true rfl) (c_weightsOf (d := d - 1) (by omega) (aD a) H5.2.1.set (aZ a) (aW a) se k hk) (fun v1 σ1 hv1 => ?_)
  refine m_qIP hv1 (fun x1 hq => ?_)
  clear hv1 v1
  rename mS => s6
  obtain ⟨e9, f6⟩ := hq
  refine mW.top e9 ?_
  clear e9
  refine m_i2l dX10_addCar_196 ?_
  refine m_callV (As := [_]) dX10_addCar_197 cv_X10_285 (by first | assumption | rfl) (by decide) (by omega) rfl rfl (Nat.le_of_ble_eq_true rfl) (c_add (d := d - 1) _) (fun v1 σ1 hv1 => ?_)
  refine m_qV hv1 ?_
  clear hv1 v1 σ1
  refine mW.cut (fun s => hS a σ0 (ad (ad h0 (soP (aD a) k (aZ a) (aW a) 3).toInt64) (hvP (aD a) k (aZ a) (aW a) 9).toInt64) s) (H5.tr f6).add (fun s7 H7 => ?_)
  clear se f6 H5
  have se := H7.1.2.2.2.2.2.2.2.1
  refine m_aload_n dX10_addCar_200 2 rfl ?_
  refine m_getR 9 110 dX10_addCar_201 fl_X10_73_9 rfl (by decide) rfl (by first | assumption | rfl) ?_
  refine m_aload_n dX10_addCar_204 2 rfl ?_
  refine m_getR 8 65 dX10_addCar_205 fl_X10_66_9 rfl (by decide) rfl (by first | assumption | rfl) ?_
  refine m_iload_n dX10_addCar_208 3 rfl ?_
  refine m_callV (As := [_]) dX10_addCar_209 cv_X10_212 rfl (by decide) (by omega) rfl rfl (Nat.le_of_ble_eq_true rfl) (c_momentToLook (d := d - 1) (by omega) (aD a) H7.2.1.set (aZ a) (aW a) se k hk) (fun v1 σ1 hv1 => ?_)
  refine m_qIP hv1 (fun x1 hq => ?_)
  clear hv1 v1
  rename mS => s8
  obtain ⟨e9, f8⟩ := hq
  refine mW.top e9 ?_
  clear e9
  refine m_i2l dX10_addCar_212 ?_
  refine m_callV (As := [_]) dX10_addCar_213 cv_X10_285 (by first | assumption | rfl) (by decide) (by omega) rfl rfl (Nat.le_of_ble_eq_true rfl) (c_add (d := d - 1) _) (fun v1 σ1 hv1 => ?_)
  refine m_qV hv1 ?_
  clear hv1 v1 σ1
  exact w_addCar5 hd _ (H7.tr f8).add k hk _ _
theorem w_addCar3 (hd : 8 ≤ d) (h0 : Int64) (H : hS a σ0 h0 σ) (k : Nat) (hk : k < (aD a).1.1) (x3 : Int32) (x2 : Int32) : mW G l d kX10_addCar 131 [(3, .int x3), (2, .int x2), (0, .ref 0), (1, .int (nI k))] [] σ (qVP (fun s => hS a σ0 (cE a k h0) s)) := by
  have wf := H.2.1.wf
  rw [cE_eq]
  refine m_aload_n dX10_addCar_131 2 rfl ?_
  refine m_getR 8 65 dX10_addCar_132 fl_X10_66_9 rfl (by decide) rfl (by first | assumption | rfl) ?_
  refine m_iload_n dX10_addCar_135 3 rfl ?_
  refine m_bipush (v := 9) dX10_addCar_136 (by decide) ?_
  refine m_callV (As := [_, _]) dX10_addCar_138 cv_X10_181 rfl (by decide) (by omega) rfl rfl (Nat.le_of_ble_eq_true rfl) (c_bestTurn (d := d - 1) (by omega) (aD a) H.2.1.set k 9 hk (by decide)) (fun v1 σ1 hv1 => ?_)
  refine m_qIP hv1 (fun x1 hq => ?_)
  clear hv1 v1
  rename mS => s1
  obtain ⟨e9, f1⟩ := hq
  refine mW.top e9 ?_
  clear e9
  have H1 := H.tr f1
  clear H
  refine m_istore_n (ls1 := [(3, _), (2, _), (0, _), (1, _)]) dX10_addCar_141 (by decide) rfl ?_
  refine m_aload_n dX10_addCar_142 2 rfl ?_
  refine m_getR 9 110 dX10_addCar_143 fl_X10_73_9 rfl (by decide) rfl (by first | assumption | rfl) ?_
  refine m_iload_n dX10_addCar_146 0 rfl ?_
  refine m_iconst (v := 0) dX10_addCar_147 (by decide) ?_
  refine m_callS (As := [_, _]) dX10_addCar_148 cs_X10_184 (by omega) rfl rfl (Nat.le_of_ble_eq_true rfl) (c_turnA (d := d - 1) (aD a) wf k 9 hk 0) (fun v1 σ1 hv1 => ?_)
  refine m_qI hv1 ?_
  clear hv1 v1 σ1
  refine m_i2l dX10_addCar_151 ?_
  refine m_callV (As := [_]) dX10_addCar_152 cv_X10_285 (by first | assumption | rfl) (by decide) (by omega) rfl rfl (Nat.le_of_ble_eq_true rfl) (c_add (d := d - 1) _) (fun v1 σ1 hv1 => ?_)
  refine m_qV hv1 ?_
  clear hv1 v1 σ1
  refine mW.cut (fun s => hS a σ0 (ad h0 (btA (aD a) k 9 0).toInt64) s) H1.add (fun s2 H2 => ?_)
  refine m_aload_n dX10_addCar_155 2 rfl ?_
  refine m_getR 9 110 dX10_addCar_156 fl_X10_73_9 rfl (by decide) rfl (by first | assumption | rfl) ?_
  refine m_iload_n dX10_addCar_159 0 rfl ?_
  refine m_iconst (v := 1) dX10_addCar_160 (by decide) ?_
  refine m_callS (As := [_, _]) dX10_addCar_161 cs_X10_184 (by omega) rfl rfl (Nat.le_of_ble_eq_true rfl) (c_turnA (d := d - 1) (aD a) wf k 9 hk 1) (fun v1 σ1 hv1 => ?_)
  refine m_qI hv1 ?_
  clear hv1 v1 σ1
  refine m_i2l dX10_addCar_164 ?_
  refine m_callV (As := [_]) dX10_addCar_165 cv_X10_285 (by first | assumption | rfl) (by decide) (by omega) rfl rfl (Nat.le_of_ble_eq_true rfl) (c_add (d := d - 1) _) (fun v1 σ1 hv1 => ?_)
  refine m_qV hv1 ?_
  clear hv1 v1 σ1
  exact w_addCar4 hd _ H2.add k hk _ _
theorem w_addCar2 (hd : 8 ≤ d) (h0 : Int64) (H : hS a σ0 h0 σ) (k : Nat) (hk : k < (aD a).1.1) (x4 x3 : Int32) (x2 : Nat) : mW G l d kX10_addCar 96 [(4, .int x4), (3, .int x3), (2, .ref x2), (0, .ref 0), (1, .int (nI k))] [] σ (qVP (fun s => hS a σ0 (cE a k (fo (fun w => (stA (aD a) k (nI w)).toInt64) h0 3)) s)) := by
  have hn := H.2.1.n8
  have wf := H.2.1.wf
  refine m_aload_n dX10_addCar_96 3 rfl ?_
  refine m_getR 8 65 dX10_addCar_97 fl_X10_66_9 rfl (by decide) rfl (by first | assumption | rfl) ?_
  refine m_iload_n dX10_addCar_100 4 rfl ?_
  refine m_callV (As := [_]) dX10_addCar_101 cv_X10_175 rfl (by decide) (by omega) rfl rfl (Nat.le_of_ble_eq_true rfl) (c_bestStand (d := d - 1) (by omega) (aD a) H.2.1.set k hk) (fun v1 σ1 hv1 => ?_)
  refine m_qIP hv1 (fun x1 hq => ?_)
  clear hv1 v1
  rename mS => s1
  obtain ⟨e9, f1⟩ := hq
  subst e9
  refine m_istore_n (ls1 := [(2, _), (4, _), (3, _), (0, _), (1, _)]) dX10_addCar_104 (by decide) rfl ?_
  refine m_iconst (v := 0) dX10_addCar_105 (by decide) ?_
  refine m_istore_n (ls1 := [(3, _), (2, _), (4, _), (0, _), (1, _)]) dX10_addCar_106 (by decide) rfl ?_
  refine mW.sub (ls1 := [(3, _), (2, _), (0, _), (1, _)]) [0, 1, 3, 4] rfl ?_
  refine down (N := 3) (fun i (s : mS) => hS a σ0 (fo (fun w => (stA (aD a) k (nI w)).toInt64) h0 i) s) (fun i s => mW G l d kX10_addCar 107 [(3, .int (nI i)), (2, .int ((stP (aD a) k 36).2 * 36 + (stP (aD a) k 36).1)), (0, .ref 0), (1, .int (nI k))] [] s _) ?_ ?_ 0 s1 (Nat.zero_le _) (by rw [fo]; exact H.tr f1)
  rotate_left
  · rintro i s hi H ih
    refine m_iload_n dX10_addCar_107 0 rfl ?_
    refine m_iconst (v := 3) dX10_addCar_108 (by decide) ?_
    refine m_icmp_ge dX10_addCar_109 131 (by decide) (fun h => ?_) (fun h => ?_)
    · exact absurd ((nle (a := 3) (by omega) (by omega)).mp h) (by omega)
    clear h
    refine m_aload_n dX10_addCar_112 2 rfl ?_
    refine m_getR 9 110 dX10_addCar_113 fl_X10_73_9 rfl (by decide) rfl (by first | assumption | rfl) ?_
    refine m_iload_n dX10_addCar_116 1 rfl ?_
    refine m_iload_n dX10_addCar_117 0 rfl ?_
    refine m_callS (As := [_, _]) dX10_addCar_118 cs_X10_178 (by omega) rfl rfl (Nat.le_of_ble_eq_true rfl) (c_standA (d := d - 1) (aD a) wf k hk (nI i) (wI_nI (by decide) hi)) (fun v1 σ1 hv1 => ?_)
    refine m_qI hv1 ?_
    clear hv1 v1 σ1
    refine m_i2l dX10_addCar_121 ?_
    refine m_callV (As := [_]) dX10_addCar_122 cv_X10_285 (by first | assumption | rfl) (by decide) (by omega) rfl rfl (Nat.le_of_ble_eq_true rfl) (c_add (d := d - 1) _) (fun v1 σ1 hv1 => ?_)
    refine m_qV hv1 ?_
    clear hv1 v1 σ1
    refine mW.cut (fun s => hS a σ0 (ad (fo (fun w => (stA (aD a) k (nI w)).toInt64) h0 i) (stA (aD a) k (nI i)).toInt64) s) H.add (fun s2 H2 => ?_)
    refine m_iinc (v := nI (i + 1)) (ls1 := [(3, _), (2, _), (0, _), (1, _)]) dX10_addCar_125 0 rfl (nI_1 i) (by decide) rfl ?_
    refine m_goto dX10_addCar_128 107 (by decide) ?_
    exact ih s2 (by rw [fo]; exact H2)
  rintro s H
  refine m_iload_n dX10_addCar_107 0 rfl ?_
  refine m_iconst (v := 3) dX10_addCar_108 (by decide) ?_
  refine m_icmp_ge dX10_addCar_109 131 (by decide) (fun h => ?_) (fun h => ?_)
  rotate_left
  · exact absurd (Int32.le_refl _) h
  clear h
  exact w_addCar3 hd _ H k hk _ _
theorem c_addCar (hd : 8 ≤ d) (v : Int64) (H0 : hS a σ0 v σ) (k : Nat) (hk : k < (aD a).1.1) : mMet G l d kX10_addCar [.ref 0, .int (nI k)] σ (qVP (fun s => hS a σ0 (cdP a k v) s)) := by
  have hn := H0.2.1.n8
  have hs := sh_car (k := k) (Or.inl rfl) (show k < 8 by omega)
  rw [cdP_eq]
  refine mMet.of cm_X10_addCar rfl (Nat.le_of_ble_eq_true rfl) rfl (fun v1 σ1 h => by rw [h.1]; trivial) ?_
  refine m_iconst (v := 0) dX10_addCar_0 (by decide) ?_
  refine m_istore_n (ls1 := [(2, _), (0, _), (1, _)]) dX10_addCar_1 (by decide) rfl ?_
  refine down (N := 5) (fun i (s : mS) => hS a σ0 (fo (fun w => ((aD a).1.2 k w).toInt64) v i) s) (fun i s => mW G l d kX10_addCar 2 [(2, .int (nI i)), (0, .ref 0), (1, .int (nI k))] [] s _) ?_ ?_ 0 σ (Nat.zero_le _) (by rw [fo]; exact H0)
  rotate_left
  · rintro i s hi H ih
    have e1 : s.1 (6 + 1 + k) i = (aD a).1.2 k i := H.2.1.row hk hi
    refine m_iload_n dX10_addCar_2 0 rfl ?_
    refine m_iconst (v := 5) dX10_addCar_3 (by decide) ?_
    refine m_icmp_ge dX10_addCar_4 32 (by decide) (fun h => ?_) (fun h => ?_)
    · exact absurd ((nle (a := 5) (by omega) (by omega)).mp h) (by omega)
    clear h
    refine m_aload_n dX10_addCar_7 1 rfl ?_
    refine m_getR 9 110 dX10_addCar_8 fl_X10_73_9 rfl (by decide) rfl (by first | assumption | rfl) ?_
    refine m_aload_n dX10_addCar_11 1 rfl ?_
    refine m_getR 2 5 dX10_addCar_12 fl_X10_22_9 rfl (by decide) rfl (by first | assumption | rfl) ?_
    refine m_getR 0 6 dX10_addCar_15 fl_X10_107_0 rfl (by decide) rfl (by first | assumption | rfl) ?_
    refine m_iload_n dX10_addCar_18 2 rfl ?_
    refine m_aald dX10_addCar_19 (by first | assumption | rfl) k rfl (by omega) ?_
    refine m_iload_n dX10_addCar_20 0 rfl ?_
    refine m_iald dX10_addCar_21 (by first | assumption | rfl) i rfl hi ?_
    refine mW.top e1 ?_
    refine m_i2l dX10_addCar_22 ?_
    refine m_callV (As := [_]) dX10_addCar_23 cv_X10_285 (by first | assumption | rfl) (by decide) (by omega) rfl rfl (Nat.le_of_ble_eq_true rfl) (c_add (d := d - 1) _) (fun v1 σ1 hv1 => ?_)
    refine m_qV hv1 ?_
    clear hv1 v1 σ1
    refine mW.cut (fun s => hS a σ0 (ad (fo (fun w => ((aD a).1.2 k w).toInt64) v i) ((aD a).1.2 k i).toInt64) s) H.add (fun s2 H2 => ?_)
    refine m_iinc (v := nI (i + 1)) (ls1 := [(2, _), (0, _), (1, _)]) dX10_addCar_26 0 rfl (nI_1 i) (by decide) rfl ?_
    refine m_goto dX10_addCar_29 2 (by decide) ?_
    exact ih s2 (by rw [fo]; exact H2)
  generalize fo (fun w => ((aD a).1.2 k w).toInt64) v 5 = v1
  rintro s H
  refine m_iload_n dX10_addCar_2 0 rfl ?_
  refine m_iconst (v := 5) dX10_addCar_3 (by decide) ?_
  refine m_icmp_ge dX10_addCar_4 32 (by decide) (fun h => ?_) (fun h => ?_)
  rotate_left
  · exact absurd (Int32.le_refl _) h
  clear h
  refine m_gets (i := 2) dX10_addCar_32 _ rfl (Or.inl fs_DIGEST_MOMENTS) ?_
  refine m_astore_n (ls1 := [(2, _), (0, _), (1, _)]) dX10_addCar_35 (by decide) rfl ?_
  refine m_aload_n dX10_addCar_36 0 rfl ?_
  refine m_xlen (i := 2) dX10_addCar_37 _ rfl ?_
  refine m_istore_n (ls1 := [(3, _), (2, _), (0, _), (1, _)]) dX10_addCar_38 (by decide) rfl ?_
  refine m_iconst (v := 0) dX10_addCar_39 (by decide) ?_
  refine m_istore (ls1 := [(4, _), (3, _), (2, _), (0, _), (1, _)]) dX10_addCar_40 (by decide) rfl ?_
  refine down (N := 4) (fun i (s : mS) => hS a σ0 (foo (fun i h => mdP (aD a) (mtN i) k h) v1 i) s) (fun i s => mW G l d kX10_addCar 42 [(4, .int (nI i)), (3, .int (nI 4)), (2, .ref 1002), (0, .ref 0), (1, .int (nI k))] [] s _) ?_ ?_ 0 s (Nat.zero_le _) (by rw [foo]; exact H)
  rotate_left
  · rintro i s hi H ih
    have hm := mtN_lt i hi
    refine m_iload dX10_addCar_42 0 rfl ?_
    refine m_iload_n dX10_addCar_44 1 rfl ?_
    refine m_icmp_ge dX10_addCar_45 96 (by decide) (fun h => ?_) (fun h => ?_)
    · exact absurd ((nle (a := 4) (by omega) (by omega)).mp h) (by omega)
    clear h
    refine m_aload_n dX10_addCar_48 2 rfl ?_
    refine m_iload dX10_addCar_49 0 rfl ?_
    refine m_xald (i := 2) (j := i) dX10_addCar_51 _ rfl rfl hi (by decide) ?_
    refine mW.top (w := nI (mtN i)) (mtN_I i hi) ?_
    refine m_istore (ls1 := [(5, _), (4, _), (3, _), (2, _), (0, _), (1, _)]) dX10_addCar_52 (by decide) rfl ?_
    refine m_iconst (v := 0) dX10_addCar_54 (by decide) ?_
    refine m_istore (ls1 := [(6, _), (5, _), (4, _), (3, _), (2, _), (0, _), (1, _)]) dX10_addCar_55 (by decide) rfl ?_
    refine down (N := 6) (fun j (s : mS) => hS a σ0 (fo (fun w => (aAt (RSt (aD a) (mtN i + 1)) k w).toInt64) (foo (fun i h => mdP (aD a) (mtN i) k h) v1 i) j) s) (fun j s => mW G l d kX10_addCar 57 [(6, .int (nI j)), (5, .int (nI (mtN i))), (4, .int (nI i)), (3, .int (nI 4)), (2, .ref 1002), (0, .ref 0), (1, .int (nI k))] [] s _) ?_ ?_ 0 s (Nat.zero_le _) (by rw [fo]; exact H)
    · rintro s H
      refine m_iload dX10_addCar_57 0 rfl ?_
      refine m_bipush (v := 6) dX10_addCar_59 (by decide) ?_
      refine m_icmp_ge dX10_addCar_61 90 (by decide) (fun h => ?_) (fun h => ?_)
      rotate_left
      · exact absurd (Int32.le_refl _) h
      clear h
      refine m_iinc (v := nI (i + 1)) (ls1 := [(4, _), (6, _), (5, _), (3, _), (2, _), (0, _), (1, _)]) dX10_addCar_90 2 rfl (nI_1 i) (by decide) rfl ?_
      refine m_goto dX10_addCar_93 42 (by decide) ?_
      refine mW.sub (ls1 := [(4, _), (3, _), (2, _), (0, _), (1, _)]) [0, 3, 4, 5, 6] rfl ?_
      exact ih s (by rw [foo]; exact H)
    · rintro j s hj H ihJ
      refine m_iload dX10_addCar_57 0 rfl ?_
      refine m_bipush (v := 6) dX10_addCar_59 (by decide) ?_
      refine m_icmp_ge dX10_addCar_61 90 (by decide) (fun h => ?_) (fun h => ?_)
      · exact absurd ((nle (a := 6) (by omega) (by omega)).mp h) (by omega)
      clear h
      refine m_aload_n dX10_addCar_64 5 rfl ?_
      refine m_getR 9 110 dX10_addCar_65 fl_X10_73_9 rfl (by decide) rfl (by first | assumption | rfl) ?_
      refine m_aload_n dX10_addCar_68 5 rfl ?_
      refine m_getR 7 47 dX10_addCar_69 fl_X10_57_9 rfl (by decide) rfl (by first | assumption | rfl) ?_
      refine m_iload dX10_addCar_72 1 rfl ?_
      refine m_iload_n dX10_addCar_74 6 rfl ?_
      refine m_iload dX10_addCar_75 0 rfl ?_
      refine m_callV (As := [_, _, _]) dX10_addCar_77 cv_X10_137 rfl (by decide) (by omega) rfl rfl (Nat.le_of_ble_eq_true rfl) (c_behindD (d := d - 1) (Or.inl rfl) (aD a) hn H.2.1.out (mtN i) k j hm hk hj) (fun v1 σ1 hv1 => ?_)
      refine m_qI hv1 ?_
      clear hv1 v1 σ1
      refine m_i2l dX10_addCar_80 ?_
      refine m_callV (As := [_]) dX10_addCar_81 cv_X10_285 (by first | assumption | rfl) (by decide) (by omega) rfl rfl (Nat.le_of_ble_eq_true rfl) (c_add (d := d - 1) _) (fun v1 σ1 hv1 => ?_)
      refine m_qV hv1 ?_
      clear hv1 v1 σ1
      refine mW.cut (fun s => hS a σ0 (ad (fo (fun w => (aAt (RSt (aD a) (mtN i + 1)) k w).toInt64) (foo (fun i h => mdP (aD a) (mtN i) k h) v1 i) j) (aAt (RSt (aD a) (mtN i + 1)) k j).toInt64) s) H.add (fun s2 H2 => ?_)
      refine m_iinc (v := nI (j + 1)) (ls1 := [(6, _), (5, _), (4, _), (3, _), (2, _), (0, _), (1, _)]) dX10_addCar_84 0 rfl (nI_1 j) (by decide) rfl ?_
      refine m_goto dX10_addCar_87 57 (by decide) ?_
      exact ihJ s2 (by rw [fo]; exact H2)
  rintro s H
  refine m_iload dX10_addCar_42 0 rfl ?_
  refine m_iload_n dX10_addCar_44 1 rfl ?_
  refine m_icmp_ge dX10_addCar_45 96 (by decide) (fun h => ?_) (fun h => ?_)
  rotate_left
  · exact absurd (Int32.le_refl _) h
  clear h
  exact w_addCar2 hd _ H k hk _ _ _
theorem c_addWhole (hd : 10 ≤ d) (H0 : hS a σ0 (dg5 a) σ) : mMet G l d kX10_addWhole [.ref 0] σ (qVP (fun s => hS a σ0 (dgA a) s)) := by
  have hn := H0.2.1.n8
  refine mMet.of cm_X10_addWhole rfl (Nat.le_of_ble_eq_true rfl) rfl (fun v1 σ1 h => by rw [h.1]; trivial) ?_
  obtain ⟨v0, hv0⟩ : ∃ v, v = dg5 a := ⟨_, rfl⟩
  have H : hS a σ0 v0 σ := by rw [hv0]; exact H0
  have rg := rgP_eq (aD a) H0.2.1.set.2.1 H0.2.1.set.2.2.2.2.2.2.2.1.1 hn 23 (by decide)
  clear H0
  obtain ⟨J, hJ⟩ : ∃ J : Nat → Int32, J = fun u => nI (agh (aD a) u) := ⟨_, rfl⟩
  have hJt : ∀ u, nI (agh (aD a) u) = J u := fun u => by rw [hJ]
  rw [← hJ, hJt] at rg
  clear hJ
  have hb := jmP_le (jmD (aD a)) 23
  have hj := jmP_le J 23
  have j0 : nI (jmP (jmD (aD a)) 23) = jaA (aD a) 0 := by unfold jaA; rw [if_pos rfl]
  have j1 : jmD (aD a) (jmP (jmD (aD a)) 23) = jaA (aD a) 1 := by unfold jaA; rw [if_neg (by decide)]
  have r0 : nI (jmP J 23) = rgA (aD a) 0 := by unfold rgA; rw [if_pos rfl, rg]
  have r1 : J (jmP J 23) = rgA (aD a) 1 := by unfold rgA; rw [if_neg (by decide), rg]
  clear rg
  refine m_aload_n dX10_addWhole_0 0 rfl ?_
  refine m_getR 9 110 dX10_addWhole_1 fl_X10_73_9 rfl (by decide) rfl (by first | assumption | rfl) ?_
  refine m_aload_n dX10_addWhole_4 0 rfl ?_
  refine m_getR 7 47 dX10_addWhole_5 fl_X10_57_9 rfl (by decide) rfl (by first | assumption | rfl) ?_
  refine m_getI 7 dX10_addWhole_8 fl_X10_153_3 rfl (by decide) (by first | assumption | rfl) ?_
  refine mW.top H.2.1.out.1.2.2.1 ?_
  refine m_i2l dX10_addWhole_11 ?_
  refine m_callV (As := [_]) dX10_addWhole_12 cv_X10_285 (by first | assumption | rfl) (by decide) (by omega) rfl rfl (Nat.le_of_ble_eq_true rfl) (c_add (d := d - 1) _) (fun v1 σ1 hv1 => ?_)
  refine m_qV hv1 ?_
  clear hv1 v1 σ1
  refine mW.cut (fun s => hS a σ0 (ad (v0) (fiA (aD a) 0).toInt64) s) H.add (fun s1 H1 => ?_)
  clear H
  have H := H1
  clear H1
  refine m_aload_n dX10_addWhole_15 0 rfl ?_
  refine m_getR 9 110 dX10_addWhole_16 fl_X10_73_9 rfl (by decide) rfl (by first | assumption | rfl) ?_
  refine m_aload_n dX10_addWhole_19 0 rfl ?_
  refine m_getR 7 47 dX10_addWhole_20 fl_X10_57_9 rfl (by decide) rfl (by first | assumption | rfl) ?_
  refine m_getI 8 dX10_addWhole_23 fl_X10_156_3 rfl (by decide) (by first | assumption | rfl) ?_
  refine mW.top H.2.1.out.1.2.2.2.1 ?_
  refine m_i2l dX10_addWhole_26 ?_
  refine m_callV (As := [_]) dX10_addWhole_27 cv_X10_285 (by first | assumption | rfl) (by decide) (by omega) rfl rfl (Nat.le_of_ble_eq_true rfl) (c_add (d := d - 1) _) (fun v1 σ1 hv1 => ?_)
  refine m_qV hv1 ?_
  clear hv1 v1 σ1
  refine mW.cut (fun s => hS a σ0 (ad (ad (v0) (fiA (aD a) 0).toInt64) (fiA (aD a) 1).toInt64) s) H.add (fun s1 H1 => ?_)
  clear H
  have H := H1
  clear H1
  refine m_aload_n dX10_addWhole_30 0 rfl ?_
  refine m_getR 9 110 dX10_addWhole_31 fl_X10_73_9 rfl (by decide) rfl (by first | assumption | rfl) ?_
  refine m_aload_n dX10_addWhole_34 0 rfl ?_
  refine m_getR 7 47 dX10_addWhole_35 fl_X10_57_9 rfl (by decide) rfl (by first | assumption | rfl) ?_
  refine m_callV (As := []) dX10_addWhole_38 cv_X10_159 rfl (by decide) (by omega) rfl rfl (Nat.le_of_ble_eq_true rfl) (c_leader (d := d - 1) (Or.inl rfl) (aD a) hn H.2.1.out) (fun v1 σ1 hv1 => ?_)
  refine m_qI hv1 ?_
  clear hv1 v1 σ1
  refine m_i2l dX10_addWhole_41 ?_
  refine m_callV (As := [_]) dX10_addWhole_42 cv_X10_285 (by first | assumption | rfl) (by decide) (by omega) rfl rfl (Nat.le_of_ble_eq_true rfl) (c_add (d := d - 1) _) (fun v1 σ1 hv1 => ?_)
  refine m_qV hv1 ?_
  clear hv1 v1 σ1
  refine mW.cut (fun s => hS a σ0 (ad (ad (ad (v0) (fiA (aD a) 0).toInt64) (fiA (aD a) 1).toInt64) (beA (aD a)).toInt64) s) H.add (fun s1 H1 => ?_)
  clear H
  have H := H1
  clear H1
  refine m_aload_n dX10_addWhole_45 0 rfl ?_
  refine m_getR 9 110 dX10_addWhole_46 fl_X10_73_9 rfl (by decide) rfl (by first | assumption | rfl) ?_
  refine m_aload_n dX10_addWhole_49 0 rfl ?_
  refine m_getR 7 47 dX10_addWhole_50 fl_X10_57_9 rfl (by decide) rfl (by first | assumption | rfl) ?_
  refine m_callV (As := []) dX10_addWhole_53 cv_X10_163 rfl (by decide) (by omega) rfl rfl (Nat.le_of_ble_eq_true rfl) (c_untouched (d := d - 1) (Or.inl rfl) (aD a) hn H.2.1.out) (fun v1 σ1 hv1 => ?_)
  refine m_qI hv1 ?_
  clear hv1 v1 σ1
  refine m_i2l dX10_addWhole_56 ?_
  refine m_callV (As := [_]) dX10_addWhole_57 cv_X10_285 (by first | assumption | rfl) (by decide) (by omega) rfl rfl (Nat.le_of_ble_eq_true rfl) (c_add (d := d - 1) _) (fun v1 σ1 hv1 => ?_)
  refine m_qV hv1 ?_
  clear hv1 v1 σ1
  refine mW.cut (fun s => hS a σ0 (ad (ad (ad (ad (v0) (fiA (aD a) 0).toInt64) (fiA (aD a) 1).toInt64) (beA (aD a)).toInt64) (meekD (aD a)).toInt64) s) H.add (fun s1 H1 => ?_)
  clear H
  have H := H1
  clear H1
  refine m_aload_n dX10_addWhole_60 0 rfl ?_
  refine m_getR 7 47 dX10_addWhole_61 fl_X10_57_9 rfl (by decide) rfl (by first | assumption | rfl) ?_
  refine m_callV (As := []) dX10_addWhole_64 cv_X10_166 rfl (by decide) (by omega) rfl rfl (Nat.le_of_ble_eq_true rfl) (c_worstJam (d := d - 1) (Or.inl rfl) (aD a) H.2.1.out) (fun v1 σ1 hv1 => ?_)
  refine m_qI hv1 ?_
  clear hv1 v1 σ1
  refine m_istore_n (ls1 := [(1, _), (0, _)]) dX10_addWhole_67 (by decide) rfl ?_
  refine m_aload_n dX10_addWhole_68 1 rfl ?_
  refine m_getR 9 110 dX10_addWhole_69 fl_X10_73_9 rfl (by decide) rfl (by first | assumption | rfl) ?_
  refine m_iload_n dX10_addWhole_72 0 rfl ?_
  refine mW.top j0 ?_
  refine m_i2l dX10_addWhole_73 ?_
  refine m_callV (As := [_]) dX10_addWhole_74 cv_X10_285 (by first | assumption | rfl) (by decide) (by omega) rfl rfl (Nat.le_of_ble_eq_true rfl) (c_add (d := d - 1) _) (fun v1 σ1 hv1 => ?_)
  refine m_qV hv1 ?_
  clear hv1 v1 σ1
  refine mW.cut (fun s => hS a σ0 (ad (ad (ad (ad (ad (v0) (fiA (aD a) 0).toInt64) (fiA (aD a) 1).toInt64) (beA (aD a)).toInt64) (meekD (aD a)).toInt64) (jaA (aD a) 0).toInt64) s) H.add (fun s1 H1 => ?_)
  clear H
  have H := H1
  clear H1
  have e1 : s1.1 (47 + 17) (jmP (jmD (aD a)) 23) = jmD (aD a) (jmP (jmD (aD a)) 23) := (H.2.1.out.2 _ (by omega)).2.1
  refine m_aload_n dX10_addWhole_77 1 rfl ?_
  refine m_getR 9 110 dX10_addWhole_78 fl_X10_73_9 rfl (by decide) rfl (by first | assumption | rfl) ?_
  refine m_aload_n dX10_addWhole_81 1 rfl ?_
  refine m_getR 7 47 dX10_addWhole_82 fl_X10_57_9 rfl (by decide) rfl (by first | assumption | rfl) ?_
  refine m_getR 4 (_ + 17) dX10_addWhole_85 fl_X10_169_3 rfl (by decide) rfl (by first | assumption | rfl) ?_
  refine m_iload_n dX10_addWhole_88 0 rfl ?_
  refine m_iald dX10_addWhole_89 (by first | assumption | rfl) _ rfl (show jmP (jmD (aD a)) 23 < 24 by omega) ?_
  refine mW.top e1 ?_
  refine mW.top j1 ?_
  refine m_i2l dX10_addWhole_90 ?_
  refine m_callV (As := [_]) dX10_addWhole_91 cv_X10_285 (by first | assumption | rfl) (by decide) (by omega) rfl rfl (Nat.le_of_ble_eq_true rfl) (c_add (d := d - 1) _) (fun v1 σ1 hv1 => ?_)
  refine m_qV hv1 ?_
  clear hv1 v1 σ1
  refine mW.cut (fun s => hS a σ0 (ad (ad (ad (ad (ad (ad (v0) (fiA (aD a) 0).toInt64) (fiA (aD a) 1).toInt64) (beA (aD a)).toInt64) (meekD (aD a)).toInt64) (jaA (aD a) 0).toInt64) (jaA (aD a) 1).toInt64) s) H.add (fun s1 H1 => ?_)
  clear H
  have H := H1
  clear H1
  clear e1
  refine m_aload_n dX10_addWhole_94 1 rfl ?_
  refine m_getR 9 110 dX10_addWhole_95 fl_X10_73_9 rfl (by decide) rfl (by first | assumption | rfl) ?_
  refine m_aload_n dX10_addWhole_98 1 rfl ?_
  refine m_getR 7 47 dX10_addWhole_99 fl_X10_57_9 rfl (by decide) rfl (by first | assumption | rfl) ?_
  refine m_callV (As := []) dX10_addWhole_102 cv_X10_172 rfl (by decide) (by omega) rfl rfl (Nat.le_of_ble_eq_true rfl) (c_divisionsCarried (d := d - 1) (by omega) (aD a) H.2.1) (fun v1 σ1 hv1 => ?_)
  refine m_qI hv1 ?_
  clear hv1 v1 σ1
  refine m_i2l dX10_addWhole_105 ?_
  refine m_callV (As := [_]) dX10_addWhole_106 cv_X10_285 (by first | assumption | rfl) (by decide) (by omega) rfl rfl (Nat.le_of_ble_eq_true rfl) (c_add (d := d - 1) _) (fun v1 σ1 hv1 => ?_)
  refine m_qV hv1 ?_
  clear hv1 v1 σ1
  refine mW.cut (fun s => hS a σ0 (ad (ad (ad (ad (ad (ad (ad (v0) (fiA (aD a) 0).toInt64) (fiA (aD a) 1).toInt64) (beA (aD a)).toInt64) (meekD (aD a)).toInt64) (jaA (aD a) 0).toInt64) (jaA (aD a) 1).toInt64) (caA (aD a)).toInt64) s) H.add (fun s1 H1 => ?_)
  clear H
  have H := H1
  clear H1
  refine m_aload_n dX10_addWhole_109 1 rfl ?_
  refine m_callV (As := []) dX10_addWhole_110 cv_X10_187 rfl (by decide) (by omega) rfl rfl (Nat.le_of_ble_eq_true rfl) (c_bestBell (d := d - 1) (by omega) (aD a) H.2.1 J hJt) (fun v1 σ1 hv1 => ?_)
  refine m_qI hv1 ?_
  clear hv1 v1 σ1
  refine m_istore_n (ls1 := [(2, _), (1, _), (0, _)]) dX10_addWhole_113 (by decide) rfl ?_
  refine m_aload_n dX10_addWhole_114 2 rfl ?_
  refine m_getR 9 110 dX10_addWhole_115 fl_X10_73_9 rfl (by decide) rfl (by first | assumption | rfl) ?_
  refine m_iload_n dX10_addWhole_118 0 rfl ?_
  refine mW.top r0 ?_
  refine m_i2l dX10_addWhole_119 ?_
  refine m_callV (As := [_]) dX10_addWhole_120 cv_X10_285 (by first | assumption | rfl) (by decide) (by omega) rfl rfl (Nat.le_of_ble_eq_true rfl) (c_add (d := d - 1) _) (fun v1 σ1 hv1 => ?_)
  refine m_qV hv1 ?_
  clear hv1 v1 σ1
  refine mW.cut (fun s => hS a σ0 (ad (ad (ad (ad (ad (ad (ad (ad (v0) (fiA (aD a) 0).toInt64) (fiA (aD a) 1).toInt64) (beA (aD a)).toInt64) (meekD (aD a)).toInt64) (jaA (aD a) 0).toInt64) (jaA (aD a) 1).toInt64) (caA (aD a)).toInt64) (rgA (aD a) 0).toInt64) s) H.add (fun s1 H1 => ?_)
  clear H
  have H := H1
  clear H1
  refine m_aload_n dX10_addWhole_123 2 rfl ?_
  refine m_getR 9 110 dX10_addWhole_124 fl_X10_73_9 rfl (by decide) rfl (by first | assumption | rfl) ?_
  refine m_aload_n dX10_addWhole_127 2 rfl ?_
  refine m_iload_n dX10_addWhole_128 0 rfl ?_
  refine m_callV (As := [_]) dX10_addWhole_129 cv_X10_190 rfl (by decide) (by omega) rfl rfl (Nat.le_of_ble_eq_true rfl) (c_ayesAhead (d := d - 1) (by omega) (aD a) H.2.1 (jmP J 23) (by omega)) (fun v1 σ1 hv1 => ?_)
  refine m_qI hv1 ?_
  clear hv1 v1 σ1
  refine mW.top (hJt _) ?_
  refine mW.top r1 ?_
  refine m_i2l dX10_addWhole_132 ?_
  refine m_callV (As := [_]) dX10_addWhole_133 cv_X10_285 (by first | assumption | rfl) (by decide) (by omega) rfl rfl (Nat.le_of_ble_eq_true rfl) (c_add (d := d - 1) _) (fun v1 σ1 hv1 => ?_)
  refine m_qV hv1 ?_
  clear hv1 v1 σ1
  refine mW.cut (fun s => hS a σ0 (ad (ad (ad (ad (ad (ad (ad (ad (ad (v0) (fiA (aD a) 0).toInt64) (fiA (aD a) 1).toInt64) (beA (aD a)).toInt64) (meekD (aD a)).toInt64) (jaA (aD a) 0).toInt64) (jaA (aD a) 1).toInt64) (caA (aD a)).toInt64) (rgA (aD a) 0).toInt64) (rgA (aD a) 1).toInt64) s) H.add (fun s1 H1 => ?_)
  clear H
  have H := H1
  clear H1
  refine m_aload_n dX10_addWhole_136 2 rfl ?_
  refine m_getR 8 65 dX10_addWhole_137 fl_X10_66_9 rfl (by decide) rfl (by first | assumption | rfl) ?_
  refine m_callV (As := []) dX10_addWhole_140 cv_X10_193 rfl (by decide) (by omega) rfl rfl (Nat.le_of_ble_eq_true rfl) (c_fewestSpared (d := d - 1) (by omega) (aD a) H.2.1.set) (fun v1 σ1 hv1 => ?_)
  refine m_qIP hv1 (fun x1 hq => ?_)
  clear hv1 v1
  rename mS => s2
  obtain ⟨e1, f1⟩ := hq
  have H1 := H.tr f1
  clear H f1
  have H := H1
  clear H1
  refine m_istore_n (ls1 := [(3, _), (2, _), (1, _), (0, _)]) dX10_addWhole_143 (by decide) rfl ?_
  refine m_aload_n dX10_addWhole_144 3 rfl ?_
  refine m_getR 9 110 dX10_addWhole_145 fl_X10_73_9 rfl (by decide) rfl (by first | assumption | rfl) ?_
  refine m_iload_n dX10_addWhole_148 0 rfl ?_
  refine m_iconst (v := -1) dX10_addWhole_149 (by decide) ?_
  refine m_callS (As := [_, _]) dX10_addWhole_150 cs_X10_196 (by omega) rfl rfl (Nat.le_of_ble_eq_true rfl) (c_sparePart (d := d - 1) (by omega) x1 (-1)) (fun v1 σ1 hv1 => ?_)
  refine m_qI hv1 ?_
  clear hv1 v1 σ1
  refine mW.top (spM_A e1 (-1) (Or.inl rfl)) ?_
  refine m_i2l dX10_addWhole_153 ?_
  refine m_callV (As := [_]) dX10_addWhole_154 cv_X10_285 (by first | assumption | rfl) (by decide) (by omega) rfl rfl (Nat.le_of_ble_eq_true rfl) (c_add (d := d - 1) _) (fun v1 σ1 hv1 => ?_)
  refine m_qV hv1 ?_
  clear hv1 v1 σ1
  refine mW.cut (fun s => hS a σ0 (ad (ad (ad (ad (ad (ad (ad (ad (ad (ad (v0) (fiA (aD a) 0).toInt64) (fiA (aD a) 1).toInt64) (beA (aD a)).toInt64) (meekD (aD a)).toInt64) (jaA (aD a) 0).toInt64) (jaA (aD a) 1).toInt64) (caA (aD a)).toInt64) (rgA (aD a) 0).toInt64) (rgA (aD a) 1).toInt64) (spA (aD a) (-1)).toInt64) s) H.add (fun s1 H1 => ?_)
  clear H
  have H := H1
  clear H1
  refine m_aload_n dX10_addWhole_157 3 rfl ?_
  refine m_getR 9 110 dX10_addWhole_158 fl_X10_73_9 rfl (by decide) rfl (by first | assumption | rfl) ?_
  refine m_iload_n dX10_addWhole_161 0 rfl ?_
  refine m_iconst (v := 0) dX10_addWhole_162 (by decide) ?_
  refine m_callS (As := [_, _]) dX10_addWhole_163 cs_X10_196 (by omega) rfl rfl (Nat.le_of_ble_eq_true rfl) (c_sparePart (d := d - 1) (by omega) x1 0) (fun v1 σ1 hv1 => ?_)
  refine m_qI hv1 ?_
  clear hv1 v1 σ1
  refine mW.top (spM_A e1 0 (Or.inr (Or.inl rfl))) ?_
  refine m_i2l dX10_addWhole_166 ?_
  refine m_callV (As := [_]) dX10_addWhole_167 cv_X10_285 (by first | assumption | rfl) (by decide) (by omega) rfl rfl (Nat.le_of_ble_eq_true rfl) (c_add (d := d - 1) _) (fun v1 σ1 hv1 => ?_)
  refine m_qV hv1 ?_
  clear hv1 v1 σ1
  refine mW.cut (fun s => hS a σ0 (ad (ad (ad (ad (ad (ad (ad (ad (ad (ad (ad (v0) (fiA (aD a) 0).toInt64) (fiA (aD a) 1).toInt64) (beA (aD a)).toInt64) (meekD (aD a)).toInt64) (jaA (aD a) 0).toInt64) (jaA (aD a) 1).toInt64) (caA (aD a)).toInt64) (rgA (aD a) 0).toInt64) (rgA (aD a) 1).toInt64) (spA (aD a) (-1)).toInt64) (spA (aD a) 0).toInt64) s) H.add (fun s1 H1 => ?_)
  clear H
  have H := H1
  clear H1
  refine m_aload_n dX10_addWhole_170 3 rfl ?_
  refine m_getR 9 110 dX10_addWhole_171 fl_X10_73_9 rfl (by decide) rfl (by first | assumption | rfl) ?_
  refine m_aload_n dX10_addWhole_174 3 rfl ?_
  refine m_getR 8 65 dX10_addWhole_175 fl_X10_66_9 rfl (by decide) rfl (by first | assumption | rfl) ?_
  refine m_callV (As := []) dX10_addWhole_178 cv_X10_203 rfl (by decide) (by omega) rfl rfl (Nat.le_of_ble_eq_true rfl) (c_neverC (d := d - 1) (by omega) (aD a) H.2.1.set (aZ a) (aW a) H.1.2.2.2.2.2.2.2.1) (fun v1 σ1 hv1 => ?_)
  refine m_qIP hv1 (fun x2 hq => ?_)
  clear hv1 v1
  rename mS => s2
  obtain ⟨rfl, f1⟩ := hq
  have H1 := H.tr f1
  clear H f1
  have H := H1
  clear H1
  have ee := H.1.2.2.2.2.2.1.2.2.1
  refine mW.top (w := nvP (aD a) (aZ a) (aW a) (aE a)) (by rw [ee]) ?_
  refine m_i2l dX10_addWhole_181 ?_
  refine m_callV (As := [_]) dX10_addWhole_182 cv_X10_285 (by first | assumption | rfl) (by decide) (by omega) rfl rfl (Nat.le_of_ble_eq_true rfl) (c_add (d := d - 1) _) (fun v1 σ1 hv1 => ?_)
  refine m_qV hv1 ?_
  clear hv1 v1 σ1
  refine mW.cut (fun s => hS a σ0 (ad (ad (ad (ad (ad (ad (ad (ad (ad (ad (ad (ad (v0) (fiA (aD a) 0).toInt64) (fiA (aD a) 1).toInt64) (beA (aD a)).toInt64) (meekD (aD a)).toInt64) (jaA (aD a) 0).toInt64) (jaA (aD a) 1).toInt64) (caA (aD a)).toInt64) (rgA (aD a) 0).toInt64) (rgA (aD a) 1).toInt64) (spA (aD a) (-1)).toInt64) (spA (aD a) 0).toInt64) (nvP (aD a) (aZ a) (aW a) (aE a)).toInt64) s) H.add (fun s1 H1 => ?_)
  clear H
  refine m_aload_n dX10_addWhole_185 3 rfl ?_
  refine m_getR 8 65 dX10_addWhole_186 fl_X10_66_9 rfl (by decide) rfl (by first | assumption | rfl) ?_
  refine m_bipush (v := 7) dX10_addWhole_189 (by decide) ?_
  refine m_bipush (v := 6) dX10_addWhole_191 (by decide) ?_
  refine m_callV (As := [_, _]) dX10_addWhole_193 cv_X10_225 rfl (by decide) (by omega) rfl rfl (Nat.le_of_ble_eq_true rfl) (c_playAges (d := d - 1) (by omega) (aD a) H1.2.1.set 7 6 (by decide)) (fun v1 σ1 hv1 => ?_)
  refine m_qVP hv1 (fun hq => ?_)
  clear hv1 v1
  rename mS => s2
  obtain ⟨o1, f1⟩ := hq
  have H := H1.tr f1
  clear H1
  refine m_aload_n dX10_addWhole_196 3 rfl ?_
  refine m_getR 9 110 dX10_addWhole_197 fl_X10_73_9 rfl (by decide) rfl (by first | assumption | rfl) ?_
  refine m_aload_n dX10_addWhole_200 3 rfl ?_
  refine m_getR 8 65 dX10_addWhole_201 fl_X10_66_9 rfl (by decide) rfl (by first | assumption | rfl) ?_
  refine m_getR 6 80 dX10_addWhole_204 fl_X10_229_8 rfl (by decide) rfl (by first | assumption | rfl) ?_
  refine m_getI 6 dX10_addWhole_207 fl_X10_150_3 rfl (by decide) (by first | assumption | rfl) ?_
  refine mW.top o1.1.2.1 ?_
  refine m_i2l dX10_addWhole_210 ?_
  refine m_callV (As := [_]) dX10_addWhole_211 cv_X10_285 (by first | assumption | rfl) (by decide) (by omega) rfl rfl (Nat.le_of_ble_eq_true rfl) (c_add (d := d - 1) _) (fun v1 σ1 hv1 => ?_)
  refine m_qV hv1 ?_
  clear hv1 v1 σ1
  refine mW.cut (fun s => hS a σ0 (ad (ad (ad (ad (ad (ad (ad (ad (ad (ad (ad (ad (ad (v0) (fiA (aD a) 0).toInt64) (fiA (aD a) 1).toInt64) (beA (aD a)).toInt64) (meekD (aD a)).toInt64) (jaA (aD a) 0).toInt64) (jaA (aD a) 1).toInt64) (caA (aD a)).toInt64) (rgA (aD a) 0).toInt64) (rgA (aD a) 1).toInt64) (spA (aD a) (-1)).toInt64) (spA (aD a) 0).toInt64) (nvP (aD a) (aZ a) (aW a) (aE a)).toInt64) (agA (aD a) 7 6 0).toInt64) s ∧ outC 80 (agD (aD a) 7 6) s) ⟨H.add, o1⟩ (fun s1 H1 => ?_)
  clear H o1
  obtain ⟨H, o1⟩ := H1
  refine m_aload_n dX10_addWhole_214 3 rfl ?_
  refine m_getR 9 110 dX10_addWhole_215 fl_X10_73_9 rfl (by decide) rfl (by first | assumption | rfl) ?_
  refine m_aload_n dX10_addWhole_218 3 rfl ?_
  refine m_getR 8 65 dX10_addWhole_219 fl_X10_66_9 rfl (by decide) rfl (by first | assumption | rfl) ?_
  refine m_getR 6 80 dX10_addWhole_222 fl_X10_229_8 rfl (by decide) rfl (by first | assumption | rfl) ?_
  refine m_callV (As := []) dX10_addWhole_225 cv_X10_230 rfl (by decide) (by omega) rfl rfl (Nat.le_of_ble_eq_true rfl) (c_allPoints (d := d - 1) (Or.inr rfl) (agD (aD a) 7 6) hn o1) (fun v1 σ1 hv1 => ?_)
  refine m_qI hv1 ?_
  clear hv1 v1 σ1
  refine m_i2l dX10_addWhole_228 ?_
  refine m_callV (As := [_]) dX10_addWhole_229 cv_X10_285 (by first | assumption | rfl) (by decide) (by omega) rfl rfl (Nat.le_of_ble_eq_true rfl) (c_add (d := d - 1) _) (fun v1 σ1 hv1 => ?_)
  refine m_qV hv1 ?_
  clear hv1 v1 σ1
  rw [hv0] at H
  exact m_return dX10_addWhole_232 ⟨rfl, H.add⟩
theorem k_digest (hd : 11 ≤ d) (A : cA p a σ) : mMet G l d kX10_digest [.ref 0] σ (qLP (fun r s => r = dgA a ∧ cA p a s ∧ ∀ y z, wQ y z ∨ s.1 y z = σ.1 y z)) := by
  refine mMet.of cm_X10_digest rfl (Nat.le_of_ble_eq_true rfl) rfl (fun v1 σ1 h => by obtain ⟨r, h1, -⟩ := h; rw [h1]; trivial) ?_
  refine m_aload_n dX10_digest_0 0 rfl ?_
  refine m_callV (As := []) dX10_digest_1 cv_X10_97 (by first | assumption | rfl) (by decide) (by omega) rfl rfl (Nat.le_of_ble_eq_true rfl) (c_settle (d := d - 1) (by omega) A) (fun v1 σ1 hv1 => ?_)
  refine m_qVP hv1 (fun hq => ?_)
  clear hv1 v1
  rename mS => s1
  obtain ⟨B, S, f⟩ := hq
  refine m_aload_n dX10_digest_4 0 rfl ?_
  refine m_getR 9 110 dX10_digest_5 fl_X10_73_9 rfl (by decide) rfl (by first | assumption | rfl) ?_
  refine m_ldc2_w dX10_digest_8 kl_X10_263 ?_
  refine m_putL dX10_digest_11 fw_X10_265_2 ?_
  refine mW.cut (fun s => hS a σ 17 s) ⟨B, S, f.2, rfl⟩ (fun s2 H => ?_)
  clear B S f s1
  refine m_aload_n dX10_digest_14 0 rfl ?_
  refine m_callV (As := []) dX10_digest_15 cv_X10_269 (by first | assumption | rfl) (by decide) (by omega) rfl rfl (Nat.le_of_ble_eq_true rfl) (c_addTold (d := d - 1) (by omega) H) (fun v1 σ1 hv1 => ?_)
  refine m_qVP hv1 (fun hq => ?_)
  clear hv1 v1
  rename mS => s3
  refine m_iconst (v := 0) dX10_digest_18 (by decide) ?_
  refine m_istore_n (ls1 := [(1, _), (0, _)]) dX10_digest_19 (by decide) rfl ?_
  refine down (N := (aD a).1.1) (fun i (s : mS) => hS a σ (foo (fun k h => cdP a k h) (dg3 a) i) s) (fun i s => mW G l d kX10_digest 20 [(1, .int (nI i)), (0, .ref 0)] [] s _) ?_ ?_ 0 s3 (Nat.zero_le _) (by rw [foo]; exact hq)
  rotate_left
  · rintro i s hi H ih
    have hn := H.2.1.n8
    refine m_iload_n dX10_digest_20 0 rfl ?_
    refine m_aload_n dX10_digest_21 1 rfl ?_
    refine m_getR 2 5 dX10_digest_22 fl_X10_22_9 rfl (by decide) rfl (by first | assumption | rfl) ?_
    refine m_getI 3 dX10_digest_25 fl_X10_104_0 rfl (by decide) (by first | assumption | rfl) ?_
    refine mW.top H.2.1.n ?_
    refine m_icmp_ge dX10_digest_28 42 (by decide) (fun h => ?_) (fun h => ?_)
    · exact absurd ((nle (by omega) (by omega)).mp h) (by omega)
    clear h
    refine m_aload_n dX10_digest_31 1 rfl ?_
    refine m_iload_n dX10_digest_32 0 rfl ?_
    refine m_callV (As := [_]) dX10_digest_33 cv_X10_272 rfl (by decide) (by omega) rfl rfl (Nat.le_of_ble_eq_true rfl) (c_addCar (d := d - 1) (by omega) _ H i hi) (fun v1 σ1 hv1 => ?_)
    refine m_qVP hv1 (fun hq => ?_)
    clear hv1 v1
    rename mS => s4
    refine m_iinc (v := nI (i + 1)) (ls1 := [(1, _), (0, _)]) dX10_digest_36 0 rfl (nI_1 i) (by decide) rfl ?_
    refine m_goto dX10_digest_39 20 (by decide) ?_
    exact ih s4 (by rw [foo]; exact hq)
  clear hq H
  rintro s H
  have H : hS a σ (dg4 a) s := H
  refine m_iload_n dX10_digest_20 0 rfl ?_
  refine m_aload_n dX10_digest_21 1 rfl ?_
  refine m_getR 2 5 dX10_digest_22 fl_X10_22_9 rfl (by decide) rfl (by first | assumption | rfl) ?_
  refine m_getI 3 dX10_digest_25 fl_X10_104_0 rfl (by decide) (by first | assumption | rfl) ?_
  refine mW.top H.2.1.n ?_
  refine m_icmp_ge dX10_digest_28 42 (by decide) (fun h => ?_) (fun h => ?_)
  rotate_left
  · exact absurd (Int32.le_refl _) h
  clear h
  refine m_aload_n dX10_digest_42 1 rfl ?_
  refine m_callV (As := []) dX10_digest_43 cv_X10_275 rfl (by decide) (by omega) rfl rfl (Nat.le_of_ble_eq_true rfl) (c_addHouse (d := d - 1) (by omega) (dg4 a) H) (fun v1 σ1 hv1 => ?_)
  refine m_qVP hv1 (fun hq => ?_)
  clear hv1 v1
  rename mS => s5
  have hq : hS a σ (dg5 a) s5 := hq
  refine m_aload_n dX10_digest_46 1 rfl ?_
  refine m_callV (As := []) dX10_digest_47 cv_X10_278 rfl (by decide) (by omega) rfl rfl (Nat.le_of_ble_eq_true rfl) (c_addWhole (d := d - 1) (by omega) hq) (fun v1 σ1 hv1 => ?_)
  refine m_qVP hv1 (fun hr => ?_)
  clear hv1 v1
  rename mS => s6
  refine m_aload_n dX10_digest_50 1 rfl ?_
  refine m_getR 9 110 dX10_digest_51 fl_X10_73_9 rfl (by decide) rfl (by first | assumption | rfl) ?_
  refine m_getL 0 dX10_digest_54 fl_X10_265_2 rfl (by decide) (by first | assumption | rfl) ?_
  exact m_lreturn dX10_digest_57 ⟨_, rfl, hr.2.2.2, ⟨hr.1, Or.inr hr.2.1⟩, hr.2.2.1⟩
end DG


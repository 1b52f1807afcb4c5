/-! ===== the reference: the digest ===== -/
def ad (h v : Int64) : Int64 := 31 * h + v
def mdP (D : Deb) (t k : Nat) (h : Int64) : Int64 := fo (fun w => (aAt (RSt D (t + 1)) k w).toInt64) h 6
def cd2 (D : Deb) (k : Nat) (h : Int64) : Int64 := mdP D 23 k (mdP D 15 k (mdP D 7 k (mdP D 0 k (fo (fun w => (D.1.2 k w).toInt64) h 5))))
def cd3 (D : Deb) (k : Nat) (h : Int64) : Int64 := fo (fun w => (stA D k (nI w)).toInt64) (cd2 D k h) 3
def cd4 (D : Deb) (k : Nat) (h : Int64) : Int64 := ad (ad (cd3 D k h) (btA D k 9 0).toInt64) (btA D k 9 1).toInt64
def cd5 (a : PA) (k : Nat) (h : Int64) : Int64 := ad (ad (ad (cd4 (aD a) k h) (soP (aD a) k (aZ a) (aW a) 3).toInt64) (hvP (aD a) k (aZ a) (aW a) 9).toInt64) (akP (aD a) k (aZ a) (aW a)).toInt64
def cdP (a : PA) (k : Nat) (h : Int64) : Int64 := ad (ad (cd5 a k h) (chA (aD a) 5 k 0)) (chA (aD a) 5 k 1)
def dg1 (a : PA) : Int64 := fo (fun w => (cnB a (nI w)).toInt64) 17 8
def dg2 (a : PA) : Int64 := ad (ad (dg1 a) a.2.2.2.1.toInt64) a.2.2.2.2.1.toInt64
def dg3 (a : PA) : Int64 := foo (fun i h => fo (fun w => (slA (aD a) i w).toInt64) h 3) (dg2 a) 12
def dg4 (a : PA) : Int64 := foo (fun k h => cdP a k h) (dg3 a) (aD a).1.1
def dg5 (a : PA) : Int64 := foo (fun t h => fo (fun w => (hoA (aD a) t (nI w)).toInt64) h 3) (dg4 a) 24
def dg6 (a : PA) : Int64 := ad (ad (ad (ad (ad (ad (ad (ad (ad (dg5 a) (fiA (aD a) 0).toInt64) (fiA (aD a) 1).toInt64) (beA (aD a)).toInt64) (meekD (aD a)).toInt64) (jaA (aD a) 0).toInt64) (jaA (aD a) 1).toInt64) (caA (aD a)).toInt64) (rgA (aD a) 0).toInt64) (rgA (aD a) 1).toInt64
def dg7 (a : PA) : Int64 := ad (ad (ad (dg6 a) (spA (aD a) (-1)).toInt64) (spA (aD a) 0).toInt64) (nvP (aD a) (aZ a) (aW a) (aE a)).toInt64
def dgA (a : PA) : Int64 := ad (ad (dg7 a) (agA (aD a) 7 6 0).toInt64) (agA (aD a) 7 6 1).toInt64
section DG
variable {G : mG} {l : Launch} {d : Nat} {σ : mS} {a : PA}
theorem dX11_momentDigest_0 : decode cX11_momentDigest 0 = .ok (.lload_n 1, 1) := by decide +kernel
theorem dX11_momentDigest_1 : decode cX11_momentDigest 1 = .ok (.lstore 5, 2) := by decide +kernel
theorem dX11_momentDigest_3 : decode cX11_momentDigest 3 = .ok (.iconst 0, 1) := by decide +kernel
theorem dX11_momentDigest_4 : decode cX11_momentDigest 4 = .ok (.istore 7, 2) := by decide +kernel
theorem dX11_momentDigest_6 : decode cX11_momentDigest 6 = .ok (.iload 7, 2) := by decide +kernel
theorem dX11_momentDigest_8 : decode cX11_momentDigest 8 = .ok (.bipush 6, 2) := by decide +kernel
theorem dX11_momentDigest_10 : decode cX11_momentDigest 10 = .ok (.if_icmp .ge 28, 3) := by decide +kernel
theorem dX11_momentDigest_13 : decode cX11_momentDigest 13 = .ok (.ldc2_w 385, 3) := by decide +kernel
theorem dX11_momentDigest_16 : decode cX11_momentDigest 16 = .ok (.lload 5, 2) := by decide +kernel
theorem dX11_momentDigest_18 : decode cX11_momentDigest 18 = .ok (.lmul, 1) := by decide +kernel
theorem dX11_momentDigest_19 : decode cX11_momentDigest 19 = .ok (.aload_n 0, 1) := by decide +kernel
theorem dX11_momentDigest_20 : decode cX11_momentDigest 20 = .ok (.iload_n 3, 1) := by decide +kernel
theorem dX11_momentDigest_21 : decode cX11_momentDigest 21 = .ok (.iload 4, 2) := by decide +kernel
theorem dX11_momentDigest_23 : decode cX11_momentDigest 23 = .ok (.iload 7, 2) := by decide +kernel
theorem dX11_momentDigest_25 : decode cX11_momentDigest 25 = .ok (.invokevirtual 279, 3) := by decide +kernel
theorem dX11_momentDigest_28 : decode cX11_momentDigest 28 = .ok (.i2l, 1) := by decide +kernel
theorem dX11_momentDigest_29 : decode cX11_momentDigest 29 = .ok (.ladd, 1) := by decide +kernel
theorem dX11_momentDigest_30 : decode cX11_momentDigest 30 = .ok (.lstore 5, 2) := by decide +kernel
theorem dX11_momentDigest_32 : decode cX11_momentDigest 32 = .ok (.iinc 7 1, 3) := by decide +kernel
theorem dX11_momentDigest_35 : decode cX11_momentDigest 35 = .ok (.goto (-29), 3) := by decide +kernel
theorem dX11_momentDigest_38 : decode cX11_momentDigest 38 = .ok (.lload 5, 2) := by decide +kernel
theorem dX11_momentDigest_40 : decode cX11_momentDigest 40 = .ok (.lreturn, 1) := by decide +kernel
theorem dX11_carDigest_0 : decode cX11_carDigest 0 = .ok (.lload_n 1, 1) := by decide +kernel
theorem dX11_carDigest_1 : decode cX11_carDigest 1 = .ok (.lstore 4, 2) := by decide +kernel
theorem dX11_carDigest_3 : decode cX11_carDigest 3 = .ok (.iconst 0, 1) := by decide +kernel
theorem dX11_carDigest_4 : decode cX11_carDigest 4 = .ok (.istore 6, 2) := by decide +kernel
theorem dX11_carDigest_6 : decode cX11_carDigest 6 = .ok (.iload 6, 2) := by decide +kernel
theorem dX11_carDigest_8 : decode cX11_carDigest 8 = .ok (.iconst 5, 1) := by decide +kernel
theorem dX11_carDigest_9 : decode cX11_carDigest 9 = .ok (.if_icmp .ge 26, 3) := by decide +kernel
theorem dX11_carDigest_12 : decode cX11_carDigest 12 = .ok (.ldc2_w 385, 3) := by decide +kernel
theorem dX11_carDigest_15 : decode cX11_carDigest 15 = .ok (.lload 4, 2) := by decide +kernel
theorem dX11_carDigest_17 : decode cX11_carDigest 17 = .ok (.lmul, 1) := by decide +kernel
theorem dX11_carDigest_18 : decode cX11_carDigest 18 = .ok (.aload_n 0, 1) := by decide +kernel
theorem dX11_carDigest_19 : decode cX11_carDigest 19 = .ok (.iload_n 3, 1) := by decide +kernel
theorem dX11_carDigest_20 : decode cX11_carDigest 20 = .ok (.iload 6, 2) := by decide +kernel
theorem dX11_carDigest_22 : decode cX11_carDigest 22 = .ok (.invokevirtual 186, 3) := by decide +kernel
theorem dX11_carDigest_25 : decode cX11_carDigest 25 = .ok (.i2l, 1) := by decide +kernel
theorem dX11_carDigest_26 : decode cX11_carDigest 26 = .ok (.ladd, 1) := by decide +kernel
theorem dX11_carDigest_27 : decode cX11_carDigest 27 = .ok (.lstore 4, 2) := by decide +kernel
theorem dX11_carDigest_29 : decode cX11_carDigest 29 = .ok (.iinc 6 1, 3) := by decide +kernel
theorem dX11_carDigest_32 : decode cX11_carDigest 32 = .ok (.goto (-26), 3) := by decide +kernel
theorem dX11_carDigest_35 : decode cX11_carDigest 35 = .ok (.aload_n 0, 1) := by decide +kernel
theorem dX11_carDigest_36 : decode cX11_carDigest 36 = .ok (.lload 4, 2) := by decide +kernel
theorem dX11_carDigest_38 : decode cX11_carDigest 38 = .ok (.iconst 0, 1) := by decide +kernel
theorem dX11_carDigest_39 : decode cX11_carDigest 39 = .ok (.iload_n 3, 1) := by decide +kernel
theorem dX11_carDigest_40 : decode cX11_carDigest 40 = .ok (.invokevirtual 387, 3) := by decide +kernel
theorem dX11_carDigest_43 : decode cX11_carDigest 43 = .ok (.lstore 4, 2) := by decide +kernel
theorem dX11_carDigest_45 : decode cX11_carDigest 45 = .ok (.aload_n 0, 1) := by decide +kernel
theorem dX11_carDigest_46 : decode cX11_carDigest 46 = .ok (.lload 4, 2) := by decide +kernel
theorem dX11_carDigest_48 : decode cX11_carDigest 48 = .ok (.bipush 7, 2) := by decide +kernel
theorem dX11_carDigest_50 : decode cX11_carDigest 50 = .ok (.iload_n 3, 1) := by decide +kernel
theorem dX11_carDigest_51 : decode cX11_carDigest 51 = .ok (.invokevirtual 387, 3) := by decide +kernel
theorem dX11_carDigest_54 : decode cX11_carDigest 54 = .ok (.lstore 4, 2) := by decide +kernel
theorem dX11_carDigest_56 : decode cX11_carDigest 56 = .ok (.aload_n 0, 1) := by decide +kernel
theorem dX11_carDigest_57 : decode cX11_carDigest 57 = .ok (.lload 4, 2) := by decide +kernel
theorem dX11_carDigest_59 : decode cX11_carDigest 59 = .ok (.bipush 15, 2) := by decide +kernel
theorem dX11_carDigest_61 : decode cX11_carDigest 61 = .ok (.iload_n 3, 1) := by decide +kernel
theorem dX11_carDigest_62 : decode cX11_carDigest 62 = .ok (.invokevirtual 387, 3) := by decide +kernel
theorem dX11_carDigest_65 : decode cX11_carDigest 65 = .ok (.lstore 4, 2) := by decide +kernel
theorem dX11_carDigest_67 : decode cX11_carDigest 67 = .ok (.aload_n 0, 1) := by decide +kernel
theorem dX11_carDigest_68 : decode cX11_carDigest 68 = .ok (.lload 4, 2) := by decide +kernel
theorem dX11_carDigest_70 : decode cX11_carDigest 70 = .ok (.bipush 23, 2) := by decide +kernel
theorem dX11_carDigest_72 : decode cX11_carDigest 72 = .ok (.iload_n 3, 1) := by decide +kernel
theorem dX11_carDigest_73 : decode cX11_carDigest 73 = .ok (.invokevirtual 387, 3) := by decide +kernel
theorem dX11_carDigest_76 : decode cX11_carDigest 76 = .ok (.lstore 4, 2) := by decide +kernel
theorem dX11_carDigest_78 : decode cX11_carDigest 78 = .ok (.iconst 0, 1) := by decide +kernel
theorem dX11_carDigest_79 : decode cX11_carDigest 79 = .ok (.istore 6, 2) := by decide +kernel
theorem dX11_carDigest_81 : decode cX11_carDigest 81 = .ok (.iload 6, 2) := by decide +kernel
theorem dX11_carDigest_83 : decode cX11_carDigest 83 = .ok (.iconst 3, 1) := by decide +kernel
theorem dX11_carDigest_84 : decode cX11_carDigest 84 = .ok (.if_icmp .ge 26, 3) := by decide +kernel
theorem dX11_carDigest_87 : decode cX11_carDigest 87 = .ok (.ldc2_w 385, 3) := by decide +kernel
theorem dX11_carDigest_90 : decode cX11_carDigest 90 = .ok (.lload 4, 2) := by decide +kernel
theorem dX11_carDigest_92 : decode cX11_carDigest 92 = .ok (.lmul, 1) := by decide +kernel
theorem dX11_carDigest_93 : decode cX11_carDigest 93 = .ok (.aload_n 0, 1) := by decide +kernel
theorem dX11_carDigest_94 : decode cX11_carDigest 94 = .ok (.iload_n 3, 1) := by decide +kernel
theorem dX11_carDigest_95 : decode cX11_carDigest 95 = .ok (.iload 6, 2) := by decide +kernel
theorem dX11_carDigest_97 : decode cX11_carDigest 97 = .ok (.invokevirtual 316, 3) := by decide +kernel
theorem dX11_carDigest_100 : decode cX11_carDigest 100 = .ok (.i2l, 1) := by decide +kernel
theorem dX11_carDigest_101 : decode cX11_carDigest 101 = .ok (.ladd, 1) := by decide +kernel
theorem dX11_carDigest_102 : decode cX11_carDigest 102 = .ok (.lstore 4, 2) := by decide +kernel
theorem dX11_carDigest_104 : decode cX11_carDigest 104 = .ok (.iinc 6 1, 3) := by decide +kernel
theorem dX11_carDigest_107 : decode cX11_carDigest 107 = .ok (.goto (-26), 3) := by decide +kernel
theorem dX11_carDigest_110 : decode cX11_carDigest 110 = .ok (.ldc2_w 385, 3) := by decide +kernel
theorem dX11_carDigest_113 : decode cX11_carDigest 113 = .ok (.lload 4, 2) := by decide +kernel
theorem dX11_carDigest_115 : decode cX11_carDigest 115 = .ok (.lmul, 1) := by decide +kernel
theorem dX11_carDigest_116 : decode cX11_carDigest 116 = .ok (.aload_n 0, 1) := by decide +kernel
theorem dX11_carDigest_117 : decode cX11_carDigest 117 = .ok (.iload_n 3, 1) := by decide +kernel
theorem dX11_carDigest_118 : decode cX11_carDigest 118 = .ok (.bipush 9, 2) := by decide +kernel
theorem dX11_carDigest_120 : decode cX11_carDigest 120 = .ok (.iconst 0, 1) := by decide +kernel
theorem dX11_carDigest_121 : decode cX11_carDigest 121 = .ok (.invokevirtual 319, 3) := by decide +kernel
theorem dX11_carDigest_124 : decode cX11_carDigest 124 = .ok (.i2l, 1) := by decide +kernel
theorem dX11_carDigest_125 : decode cX11_carDigest 125 = .ok (.ladd, 1) := by decide +kernel
theorem dX11_carDigest_126 : decode cX11_carDigest 126 = .ok (.lstore 4, 2) := by decide +kernel
theorem dX11_carDigest_128 : decode cX11_carDigest 128 = .ok (.ldc2_w 385, 3) := by decide +kernel
theorem dX11_carDigest_131 : decode cX11_carDigest 131 = .ok (.lload 4, 2) := by decide +kernel
theorem dX11_carDigest_133 : decode cX11_carDigest 133 = .ok (.lmul, 1) := by decide +kernel
theorem dX11_carDigest_134 : decode cX11_carDigest 134 = .ok (.aload_n 0, 1) := by decide +kernel
theorem dX11_carDigest_135 : decode cX11_carDigest 135 = .ok (.iload_n 3, 1) := by decide +kernel
theorem dX11_carDigest_136 : decode cX11_carDigest 136 = .ok (.bipush 9, 2) := by decide +kernel
theorem dX11_carDigest_138 : decode cX11_carDigest 138 = .ok (.iconst 1, 1) := by decide +kernel
theorem dX11_carDigest_139 : decode cX11_carDigest 139 = .ok (.invokevirtual 319, 3) := by decide +kernel
theorem dX11_carDigest_142 : decode cX11_carDigest 142 = .ok (.i2l, 1) := by decide +kernel
theorem dX11_carDigest_143 : decode cX11_carDigest 143 = .ok (.ladd, 1) := by decide +kernel
theorem dX11_carDigest_144 : decode cX11_carDigest 144 = .ok (.lstore 4, 2) := by decide +kernel
theorem dX11_carDigest_146 : decode cX11_carDigest 146 = .ok (.ldc2_w 385, 3) := by decide +kernel
theorem dX11_carDigest_149 : decode cX11_carDigest 149 = .ok (.lload 4, 2) := by decide +kernel
theorem dX11_carDigest_151 : decode cX11_carDigest 151 = .ok (.lmul, 1) := by decide +kernel
theorem dX11_carDigest_152 : decode cX11_carDigest 152 = .ok (.aload_n 0, 1) := by decide +kernel
theorem dX11_carDigest_153 : decode cX11_carDigest 153 = .ok (.iload_n 3, 1) := by decide +kernel
theorem dX11_carDigest_154 : decode cX11_carDigest 154 = .ok (.invokevirtual 344, 3) := by decide +kernel
theorem dX11_carDigest_157 : decode cX11_carDigest 157 = .ok (.i2l, 1) := by decide +kernel
theorem dX11_carDigest_158 : decode cX11_carDigest 158 = .ok (.ladd, 1) := by decide +kernel
theorem dX11_carDigest_159 : decode cX11_carDigest 159 = .ok (.lstore 4, 2) := by decide +kernel
theorem dX11_carDigest_161 : decode cX11_carDigest 161 = .ok (.ldc2_w 385, 3) := by decide +kernel
theorem dX11_carDigest_164 : decode cX11_carDigest 164 = .ok (.lload 4, 2) := by decide +kernel
theorem dX11_carDigest_166 : decode cX11_carDigest 166 = .ok (.lmul, 1) := by decide +kernel
theorem dX11_carDigest_167 : decode cX11_carDigest 167 = .ok (.aload_n 0, 1) := by decide +kernel
theorem dX11_carDigest_168 : decode cX11_carDigest 168 = .ok (.iload_n 3, 1) := by decide +kernel
theorem dX11_carDigest_169 : decode cX11_carDigest 169 = .ok (.invokevirtual 347, 3) := by decide +kernel
theorem dX11_carDigest_172 : decode cX11_carDigest 172 = .ok (.i2l, 1) := by decide +kernel
theorem dX11_carDigest_173 : decode cX11_carDigest 173 = .ok (.ladd, 1) := by decide +kernel
theorem dX11_carDigest_174 : decode cX11_carDigest 174 = .ok (.lstore 4, 2) := by decide +kernel
theorem dX11_carDigest_176 : decode cX11_carDigest 176 = .ok (.ldc2_w 385, 3) := by decide +kernel
theorem dX11_carDigest_179 : decode cX11_carDigest 179 = .ok (.lload 4, 2) := by decide +kernel
theorem dX11_carDigest_181 : decode cX11_carDigest 181 = .ok (.lmul, 1) := by decide +kernel
theorem dX11_carDigest_182 : decode cX11_carDigest 182 = .ok (.aload_n 0, 1) := by decide +kernel
theorem dX11_carDigest_183 : decode cX11_carDigest 183 = .ok (.iload_n 3, 1) := by decide +kernel
theorem dX11_carDigest_184 : decode cX11_carDigest 184 = .ok (.invokevirtual 350, 3) := by decide +kernel
theorem dX11_carDigest_187 : decode cX11_carDigest 187 = .ok (.i2l, 1) := by decide +kernel
theorem dX11_carDigest_188 : decode cX11_carDigest 188 = .ok (.ladd, 1) := by decide +kernel
theorem dX11_carDigest_189 : decode cX11_carDigest 189 = .ok (.lstore 4, 2) := by decide +kernel
theorem dX11_carDigest_191 : decode cX11_carDigest 191 = .ok (.ldc2_w 385, 3) := by decide +kernel
theorem dX11_carDigest_194 : decode cX11_carDigest 194 = .ok (.lload 4, 2) := by decide +kernel
theorem dX11_carDigest_196 : decode cX11_carDigest 196 = .ok (.lmul, 1) := by decide +kernel
theorem dX11_carDigest_197 : decode cX11_carDigest 197 = .ok (.aload_n 0, 1) := by decide +kernel
theorem dX11_carDigest_198 : decode cX11_carDigest 198 = .ok (.iconst 5, 1) := by decide +kernel
theorem dX11_carDigest_199 : decode cX11_carDigest 199 = .ok (.iload_n 3, 1) := by decide +kernel
theorem dX11_carDigest_200 : decode cX11_carDigest 200 = .ok (.iconst 0, 1) := by decide +kernel
theorem dX11_carDigest_201 : decode cX11_carDigest 201 = .ok (.invokevirtual 357, 3) := by decide +kernel
theorem dX11_carDigest_204 : decode cX11_carDigest 204 = .ok (.ladd, 1) := by decide +kernel
theorem dX11_carDigest_205 : decode cX11_carDigest 205 = .ok (.lstore 4, 2) := by decide +kernel
theorem dX11_carDigest_207 : decode cX11_carDigest 207 = .ok (.ldc2_w 385, 3) := by decide +kernel
theorem dX11_carDigest_210 : decode cX11_carDigest 210 = .ok (.lload 4, 2) := by decide +kernel
theorem dX11_carDigest_212 : decode cX11_carDigest 212 = .ok (.lmul, 1) := by decide +kernel
theorem dX11_carDigest_213 : decode cX11_carDigest 213 = .ok (.aload_n 0, 1) := by decide +kernel
theorem dX11_carDigest_214 : decode cX11_carDigest 214 = .ok (.iconst 5, 1) := by decide +kernel
theorem dX11_carDigest_215 : decode cX11_carDigest 215 = .ok (.iload_n 3, 1) := by decide +kernel
theorem dX11_carDigest_216 : decode cX11_carDigest 216 = .ok (.iconst 1, 1) := by decide +kernel
theorem dX11_carDigest_217 : decode cX11_carDigest 217 = .ok (.invokevirtual 357, 3) := by decide +kernel
theorem dX11_carDigest_220 : decode cX11_carDigest 220 = .ok (.ladd, 1) := by decide +kernel
theorem dX11_carDigest_221 : decode cX11_carDigest 221 = .ok (.lreturn, 1) := by decide +kernel
theorem dX11_digest_0 : decode cX11_digest 0 = .ok (.ldc2_w 391, 3) := by decide +kernel
theorem dX11_digest_3 : decode cX11_digest 3 = .ok (.lstore_n 1, 1) := by decide +kernel
theorem dX11_digest_4 : decode cX11_digest 4 = .ok (.iconst 0, 1) := by decide +kernel
theorem dX11_digest_5 : decode cX11_digest 5 = .ok (.istore_n 3, 1) := by decide +kernel
theorem dX11_digest_6 : decode cX11_digest 6 = .ok (.iload_n 3, 1) := by decide +kernel
theorem dX11_digest_7 : decode cX11_digest 7 = .ok (.bipush 8, 2) := by decide +kernel
theorem dX11_digest_9 : decode cX11_digest 9 = .ok (.if_icmp .ge 22, 3) := by decide +kernel
theorem dX11_digest_12 : decode cX11_digest 12 = .ok (.ldc2_w 385, 3) := by decide +kernel
theorem dX11_digest_15 : decode cX11_digest 15 = .ok (.lload_n 1, 1) := by decide +kernel
theorem dX11_digest_16 : decode cX11_digest 16 = .ok (.lmul, 1) := by decide +kernel
theorem dX11_digest_17 : decode cX11_digest 17 = .ok (.aload_n 0, 1) := by decide +kernel
theorem dX11_digest_18 : decode cX11_digest 18 = .ok (.iload_n 3, 1) := by decide +kernel
theorem dX11_digest_19 : decode cX11_digest 19 = .ok (.invokevirtual 393, 3) := by decide +kernel
theorem dX11_digest_22 : decode cX11_digest 22 = .ok (.i2l, 1) := by decide +kernel
theorem dX11_digest_23 : decode cX11_digest 23 = .ok (.ladd, 1) := by decide +kernel
theorem dX11_digest_24 : decode cX11_digest 24 = .ok (.lstore_n 1, 1) := by decide +kernel
theorem dX11_digest_25 : decode cX11_digest 25 = .ok (.iinc 3 1, 3) := by decide +kernel
theorem dX11_digest_28 : decode cX11_digest 28 = .ok (.goto (-22), 3) := by decide +kernel
theorem dX11_digest_31 : decode cX11_digest 31 = .ok (.ldc2_w 385, 3) := by decide +kernel
theorem dX11_digest_34 : decode cX11_digest 34 = .ok (.lload_n 1, 1) := by decide +kernel
theorem dX11_digest_35 : decode cX11_digest 35 = .ok (.lmul, 1) := by decide +kernel
theorem dX11_digest_36 : decode cX11_digest 36 = .ok (.aload_n 0, 1) := by decide +kernel
theorem dX11_digest_37 : decode cX11_digest 37 = .ok (.iconst 0, 1) := by decide +kernel
theorem dX11_digest_38 : decode cX11_digest 38 = .ok (.invokevirtual 177, 3) := by decide +kernel
theorem dX11_digest_41 : decode cX11_digest 41 = .ok (.i2l, 1) := by decide +kernel
theorem dX11_digest_42 : decode cX11_digest 42 = .ok (.ladd, 1) := by decide +kernel
theorem dX11_digest_43 : decode cX11_digest 43 = .ok (.lstore_n 1, 1) := by decide +kernel
theorem dX11_digest_44 : decode cX11_digest 44 = .ok (.ldc2_w 385, 3) := by decide +kernel
theorem dX11_digest_47 : decode cX11_digest 47 = .ok (.lload_n 1, 1) := by decide +kernel
theorem dX11_digest_48 : decode cX11_digest 48 = .ok (.lmul, 1) := by decide +kernel
theorem dX11_digest_49 : decode cX11_digest 49 = .ok (.aload_n 0, 1) := by decide +kernel
theorem dX11_digest_50 : decode cX11_digest 50 = .ok (.iconst 1, 1) := by decide +kernel
theorem dX11_digest_51 : decode cX11_digest 51 = .ok (.invokevirtual 177, 3) := by decide +kernel
theorem dX11_digest_54 : decode cX11_digest 54 = .ok (.i2l, 1) := by decide +kernel
theorem dX11_digest_55 : decode cX11_digest 55 = .ok (.ladd, 1) := by decide +kernel
theorem dX11_digest_56 : decode cX11_digest 56 = .ok (.lstore_n 1, 1) := by decide +kernel
theorem dX11_digest_57 : decode cX11_digest 57 = .ok (.iconst 0, 1) := by decide +kernel
theorem dX11_digest_58 : decode cX11_digest 58 = .ok (.istore_n 3, 1) := by decide +kernel
theorem dX11_digest_59 : decode cX11_digest 59 = .ok (.iload_n 3, 1) := by decide +kernel
theorem dX11_digest_60 : decode cX11_digest 60 = .ok (.bipush 12, 2) := by decide +kernel
theorem dX11_digest_62 : decode cX11_digest 62 = .ok (.if_icmp .ge 39, 3) := by decide +kernel
theorem dX11_digest_65 : decode cX11_digest 65 = .ok (.iconst 0, 1) := by decide +kernel
theorem dX11_digest_66 : decode cX11_digest 66 = .ok (.istore 4, 2) := by decide +kernel
theorem dX11_digest_68 : decode cX11_digest 68 = .ok (.iload 4, 2) := by decide +kernel
theorem dX11_digest_70 : decode cX11_digest 70 = .ok (.iconst 3, 1) := by decide +kernel
theorem dX11_digest_71 : decode cX11_digest 71 = .ok (.if_icmp .ge 24, 3) := by decide +kernel
theorem dX11_digest_74 : decode cX11_digest 74 = .ok (.ldc2_w 385, 3) := by decide +kernel
theorem dX11_digest_77 : decode cX11_digest 77 = .ok (.lload_n 1, 1) := by decide +kernel
theorem dX11_digest_78 : decode cX11_digest 78 = .ok (.lmul, 1) := by decide +kernel
theorem dX11_digest_79 : decode cX11_digest 79 = .ok (.aload_n 0, 1) := by decide +kernel
theorem dX11_digest_80 : decode cX11_digest 80 = .ok (.iload_n 3, 1) := by decide +kernel
theorem dX11_digest_81 : decode cX11_digest 81 = .ok (.iload 4, 2) := by decide +kernel
theorem dX11_digest_83 : decode cX11_digest 83 = .ok (.invokevirtual 192, 3) := by decide +kernel
theorem dX11_digest_86 : decode cX11_digest 86 = .ok (.i2l, 1) := by decide +kernel
theorem dX11_digest_87 : decode cX11_digest 87 = .ok (.ladd, 1) := by decide +kernel
theorem dX11_digest_88 : decode cX11_digest 88 = .ok (.lstore_n 1, 1) := by decide +kernel
theorem dX11_digest_89 : decode cX11_digest 89 = .ok (.iinc 4 1, 3) := by decide +kernel
theorem dX11_digest_92 : decode cX11_digest 92 = .ok (.goto (-24), 3) := by decide +kernel
theorem dX11_digest_95 : decode cX11_digest 95 = .ok (.iinc 3 1, 3) := by decide +kernel
theorem dX11_digest_98 : decode cX11_digest 98 = .ok (.goto (-39), 3) := by decide +kernel
theorem dX11_digest_101 : decode cX11_digest 101 = .ok (.iconst 0, 1) := by decide +kernel
theorem dX11_digest_102 : decode cX11_digest 102 = .ok (.istore_n 3, 1) := by decide +kernel
theorem dX11_digest_103 : decode cX11_digest 103 = .ok (.iload_n 3, 1) := by decide +kernel
theorem dX11_digest_104 : decode cX11_digest 104 = .ok (.aload_n 0, 1) := by decide +kernel
theorem dX11_digest_105 : decode cX11_digest 105 = .ok (.getfield 161, 3) := by decide +kernel
theorem dX11_digest_108 : decode cX11_digest 108 = .ok (.if_icmp .ge 16, 3) := by decide +kernel
theorem dX11_digest_111 : decode cX11_digest 111 = .ok (.aload_n 0, 1) := by decide +kernel
theorem dX11_digest_112 : decode cX11_digest 112 = .ok (.lload_n 1, 1) := by decide +kernel
theorem dX11_digest_113 : decode cX11_digest 113 = .ok (.iload_n 3, 1) := by decide +kernel
theorem dX11_digest_114 : decode cX11_digest 114 = .ok (.invokevirtual 396, 3) := by decide +kernel
theorem dX11_digest_117 : decode cX11_digest 117 = .ok (.lstore_n 1, 1) := by decide +kernel
theorem dX11_digest_118 : decode cX11_digest 118 = .ok (.iinc 3 1, 3) := by decide +kernel
theorem dX11_digest_121 : decode cX11_digest 121 = .ok (.goto (-18), 3) := by decide +kernel
theorem dX11_digest_124 : decode cX11_digest 124 = .ok (.iconst 0, 1) := by decide +kernel
theorem dX11_digest_125 : decode cX11_digest 125 = .ok (.istore_n 3, 1) := by decide +kernel
theorem dX11_digest_126 : decode cX11_digest 126 = .ok (.iload_n 3, 1) := by decide +kernel
theorem dX11_digest_127 : decode cX11_digest 127 = .ok (.bipush 24, 2) := by decide +kernel
theorem dX11_digest_129 : decode cX11_digest 129 = .ok (.if_icmp .ge 39, 3) := by decide +kernel
theorem dX11_digest_132 : decode cX11_digest 132 = .ok (.iconst 0, 1) := by decide +kernel
theorem dX11_digest_133 : decode cX11_digest 133 = .ok (.istore 4, 2) := by decide +kernel
theorem dX11_digest_135 : decode cX11_digest 135 = .ok (.iload 4, 2) := by decide +kernel
theorem dX11_digest_137 : decode cX11_digest 137 = .ok (.iconst 3, 1) := by decide +kernel
theorem dX11_digest_138 : decode cX11_digest 138 = .ok (.if_icmp .ge 24, 3) := by decide +kernel
theorem dX11_digest_141 : decode cX11_digest 141 = .ok (.ldc2_w 385, 3) := by decide +kernel
theorem dX11_digest_144 : decode cX11_digest 144 = .ok (.lload_n 1, 1) := by decide +kernel
theorem dX11_digest_145 : decode cX11_digest 145 = .ok (.lmul, 1) := by decide +kernel
theorem dX11_digest_146 : decode cX11_digest 146 = .ok (.aload_n 0, 1) := by decide +kernel
theorem dX11_digest_147 : decode cX11_digest 147 = .ok (.iload_n 3, 1) := by decide +kernel
theorem dX11_digest_148 : decode cX11_digest 148 = .ok (.iload 4, 2) := by decide +kernel
theorem dX11_digest_150 : decode cX11_digest 150 = .ok (.invokevirtual 288, 3) := by decide +kernel
theorem dX11_digest_153 : decode cX11_digest 153 = .ok (.i2l, 1) := by decide +kernel
theorem dX11_digest_154 : decode cX11_digest 154 = .ok (.ladd, 1) := by decide +kernel
theorem dX11_digest_155 : decode cX11_digest 155 = .ok (.lstore_n 1, 1) := by decide +kernel
theorem dX11_digest_156 : decode cX11_digest 156 = .ok (.iinc 4 1, 3) := by decide +kernel
theorem dX11_digest_159 : decode cX11_digest 159 = .ok (.goto (-24), 3) := by decide +kernel
theorem dX11_digest_162 : decode cX11_digest 162 = .ok (.iinc 3 1, 3) := by decide +kernel
theorem dX11_digest_165 : decode cX11_digest 165 = .ok (.goto (-39), 3) := by decide +kernel
theorem dX11_digest_168 : decode cX11_digest 168 = .ok (.ldc2_w 385, 3) := by decide +kernel
theorem dX11_digest_171 : decode cX11_digest 171 = .ok (.lload_n 1, 1) := by decide +kernel
theorem dX11_digest_172 : decode cX11_digest 172 = .ok (.lmul, 1) := by decide +kernel
theorem dX11_digest_173 : decode cX11_digest 173 = .ok (.aload_n 0, 1) := by decide +kernel
theorem dX11_digest_174 : decode cX11_digest 174 = .ok (.iconst 0, 1) := by decide +kernel
theorem dX11_digest_175 : decode cX11_digest 175 = .ok (.invokevirtual 295, 3) := by decide +kernel
theorem dX11_digest_178 : decode cX11_digest 178 = .ok (.i2l, 1) := by decide +kernel
theorem dX11_digest_179 : decode cX11_digest 179 = .ok (.ladd, 1) := by decide +kernel
theorem dX11_digest_180 : decode cX11_digest 180 = .ok (.lstore_n 1, 1) := by decide +kernel
theorem dX11_digest_181 : decode cX11_digest 181 = .ok (.ldc2_w 385, 3) := by decide +kernel
theorem dX11_digest_184 : decode cX11_digest 184 = .ok (.lload_n 1, 1) := by decide +kernel
theorem dX11_digest_185 : decode cX11_digest 185 = .ok (.lmul, 1) := by decide +kernel
theorem dX11_digest_186 : decode cX11_digest 186 = .ok (.aload_n 0, 1) := by decide +kernel
theorem dX11_digest_187 : decode cX11_digest 187 = .ok (.iconst 1, 1) := by decide +kernel
theorem dX11_digest_188 : decode cX11_digest 188 = .ok (.invokevirtual 295, 3) := by decide +kernel
theorem dX11_digest_191 : decode cX11_digest 191 = .ok (.i2l, 1) := by decide +kernel
theorem dX11_digest_192 : decode cX11_digest 192 = .ok (.ladd, 1) := by decide +kernel
theorem dX11_digest_193 : decode cX11_digest 193 = .ok (.lstore_n 1, 1) := by decide +kernel
theorem dX11_digest_194 : decode cX11_digest 194 = .ok (.ldc2_w 385, 3) := by decide +kernel
theorem dX11_digest_197 : decode cX11_digest 197 = .ok (.lload_n 1, 1) := by decide +kernel
theorem dX11_digest_198 : decode cX11_digest 198 = .ok (.lmul, 1) := by decide +kernel
theorem dX11_digest_199 : decode cX11_digest 199 = .ok (.aload_n 0, 1) := by decide +kernel
theorem dX11_digest_200 : decode cX11_digest 200 = .ok (.invokevirtual 298, 3) := by decide +kernel
theorem dX11_digest_203 : decode cX11_digest 203 = .ok (.i2l, 1) := by decide +kernel
theorem dX11_digest_204 : decode cX11_digest 204 = .ok (.ladd, 1) := by decide +kernel
theorem dX11_digest_205 : decode cX11_digest 205 = .ok (.lstore_n 1, 1) := by decide +kernel
theorem dX11_digest_206 : decode cX11_digest 206 = .ok (.ldc2_w 385, 3) := by decide +kernel
theorem dX11_digest_209 : decode cX11_digest 209 = .ok (.lload_n 1, 1) := by decide +kernel
theorem dX11_digest_210 : decode cX11_digest 210 = .ok (.lmul, 1) := by decide +kernel
theorem dX11_digest_211 : decode cX11_digest 211 = .ok (.aload_n 0, 1) := by decide +kernel
theorem dX11_digest_212 : decode cX11_digest 212 = .ok (.invokevirtual 304, 3) := by decide +kernel
theorem dX11_digest_215 : decode cX11_digest 215 = .ok (.i2l, 1) := by decide +kernel
theorem dX11_digest_216 : decode cX11_digest 216 = .ok (.ladd, 1) := by decide +kernel
theorem dX11_digest_217 : decode cX11_digest 217 = .ok (.lstore_n 1, 1) := by decide +kernel
theorem dX11_digest_218 : decode cX11_digest 218 = .ok (.ldc2_w 385, 3) := by decide +kernel
theorem dX11_digest_221 : decode cX11_digest 221 = .ok (.lload_n 1, 1) := by decide +kernel
theorem dX11_digest_222 : decode cX11_digest 222 = .ok (.lmul, 1) := by decide +kernel
theorem dX11_digest_223 : decode cX11_digest 223 = .ok (.aload_n 0, 1) := by decide +kernel
theorem dX11_digest_224 : decode cX11_digest 224 = .ok (.iconst 0, 1) := by decide +kernel
theorem dX11_digest_225 : decode cX11_digest 225 = .ok (.invokevirtual 307, 3) := by decide +kernel
theorem dX11_digest_228 : decode cX11_digest 228 = .ok (.i2l, 1) := by decide +kernel
theorem dX11_digest_229 : decode cX11_digest 229 = .ok (.ladd, 1) := by decide +kernel
theorem dX11_digest_230 : decode cX11_digest 230 = .ok (.lstore_n 1, 1) := by decide +kernel
theorem dX11_digest_231 : decode cX11_digest 231 = .ok (.ldc2_w 385, 3) := by decide +kernel
theorem dX11_digest_234 : decode cX11_digest 234 = .ok (.lload_n 1, 1) := by decide +kernel
theorem dX11_digest_235 : decode cX11_digest 235 = .ok (.lmul, 1) := by decide +kernel
theorem dX11_digest_236 : decode cX11_digest 236 = .ok (.aload_n 0, 1) := by decide +kernel
theorem dX11_digest_237 : decode cX11_digest 237 = .ok (.iconst 1, 1) := by decide +kernel
theorem dX11_digest_238 : decode cX11_digest 238 = .ok (.invokevirtual 307, 3) := by decide +kernel
theorem dX11_digest_241 : decode cX11_digest 241 = .ok (.i2l, 1) := by decide +kernel
theorem dX11_digest_242 : decode cX11_digest 242 = .ok (.ladd, 1) := by decide +kernel
theorem dX11_digest_243 : decode cX11_digest 243 = .ok (.lstore_n 1, 1) := by decide +kernel
theorem dX11_digest_244 : decode cX11_digest 244 = .ok (.ldc2_w 385, 3) := by decide +kernel
theorem dX11_digest_247 : decode cX11_digest 247 = .ok (.lload_n 1, 1) := by decide +kernel
theorem dX11_digest_248 : decode cX11_digest 248 = .ok (.lmul, 1) := by decide +kernel
theorem dX11_digest_249 : decode cX11_digest 249 = .ok (.aload_n 0, 1) := by decide +kernel
theorem dX11_digest_250 : decode cX11_digest 250 = .ok (.invokevirtual 310, 3) := by decide +kernel
theorem dX11_digest_253 : decode cX11_digest 253 = .ok (.i2l, 1) := by decide +kernel
theorem dX11_digest_254 : decode cX11_digest 254 = .ok (.ladd, 1) := by decide +kernel
theorem dX11_digest_255 : decode cX11_digest 255 = .ok (.lstore_n 1, 1) := by decide +kernel
theorem dX11_digest_256 : decode cX11_digest 256 = .ok (.ldc2_w 385, 3) := by decide +kernel
theorem dX11_digest_259 : decode cX11_digest 259 = .ok (.lload_n 1, 1) := by decide +kernel
theorem dX11_digest_260 : decode cX11_digest 260 = .ok (.lmul, 1) := by decide +kernel
theorem dX11_digest_261 : decode cX11_digest 261 = .ok (.aload_n 0, 1) := by decide +kernel
theorem dX11_digest_262 : decode cX11_digest 262 = .ok (.iconst 0, 1) := by decide +kernel
theorem dX11_digest_263 : decode cX11_digest 263 = .ok (.invokevirtual 322, 3) := by decide +kernel
theorem dX11_digest_266 : decode cX11_digest 266 = .ok (.i2l, 1) := by decide +kernel
theorem dX11_digest_267 : decode cX11_digest 267 = .ok (.ladd, 1) := by decide +kernel
theorem dX11_digest_268 : decode cX11_digest 268 = .ok (.lstore_n 1, 1) := by decide +kernel
theorem dX11_digest_269 : decode cX11_digest 269 = .ok (.ldc2_w 385, 3) := by decide +kernel
theorem dX11_digest_272 : decode cX11_digest 272 = .ok (.lload_n 1, 1) := by decide +kernel
theorem dX11_digest_273 : decode cX11_digest 273 = .ok (.lmul, 1) := by decide +kernel
theorem dX11_digest_274 : decode cX11_digest 274 = .ok (.aload_n 0, 1) := by decide +kernel
theorem dX11_digest_275 : decode cX11_digest 275 = .ok (.iconst 1, 1) := by decide +kernel
theorem dX11_digest_276 : decode cX11_digest 276 = .ok (.invokevirtual 322, 3) := by decide +kernel
theorem dX11_digest_279 : decode cX11_digest 279 = .ok (.i2l, 1) := by decide +kernel
theorem dX11_digest_280 : decode cX11_digest 280 = .ok (.ladd, 1) := by decide +kernel
theorem dX11_digest_281 : decode cX11_digest 281 = .ok (.lstore_n 1, 1) := by decide +kernel
theorem dX11_digest_282 : decode cX11_digest 282 = .ok (.aload_n 0, 1) := by decide +kernel
theorem dX11_digest_283 : decode cX11_digest 283 = .ok (.invokevirtual 328, 3) := by decide +kernel
theorem dX11_digest_286 : decode cX11_digest 286 = .ok (.istore_n 3, 1) := by decide +kernel
theorem dX11_digest_287 : decode cX11_digest 287 = .ok (.ldc2_w 385, 3) := by decide +kernel
theorem dX11_digest_290 : decode cX11_digest 290 = .ok (.lload_n 1, 1) := by decide +kernel
theorem dX11_digest_291 : decode cX11_digest 291 = .ok (.lmul, 1) := by decide +kernel
theorem dX11_digest_292 : decode cX11_digest 292 = .ok (.iload_n 3, 1) := by decide +kernel
theorem dX11_digest_293 : decode cX11_digest 293 = .ok (.i2l, 1) := by decide +kernel
theorem dX11_digest_294 : decode cX11_digest 294 = .ok (.ladd, 1) := by decide +kernel
theorem dX11_digest_295 : decode cX11_digest 295 = .ok (.lstore_n 1, 1) := by decide +kernel
theorem dX11_digest_296 : decode cX11_digest 296 = .ok (.ldc2_w 385, 3) := by decide +kernel
theorem dX11_digest_299 : decode cX11_digest 299 = .ok (.lload_n 1, 1) := by decide +kernel
theorem dX11_digest_300 : decode cX11_digest 300 = .ok (.lmul, 1) := by decide +kernel
theorem dX11_digest_301 : decode cX11_digest 301 = .ok (.aload_n 0, 1) := by decide +kernel
theorem dX11_digest_302 : decode cX11_digest 302 = .ok (.iload_n 3, 1) := by decide +kernel
theorem dX11_digest_303 : decode cX11_digest 303 = .ok (.iconst 0, 1) := by decide +kernel
theorem dX11_digest_304 : decode cX11_digest 304 = .ok (.invokevirtual 331, 3) := by decide +kernel
theorem dX11_digest_307 : decode cX11_digest 307 = .ok (.i2l, 1) := by decide +kernel
theorem dX11_digest_308 : decode cX11_digest 308 = .ok (.ladd, 1) := by decide +kernel
theorem dX11_digest_309 : decode cX11_digest 309 = .ok (.lstore_n 1, 1) := by decide +kernel
theorem dX11_digest_310 : decode cX11_digest 310 = .ok (.ldc2_w 385, 3) := by decide +kernel
theorem dX11_digest_313 : decode cX11_digest 313 = .ok (.lload_n 1, 1) := by decide +kernel
theorem dX11_digest_314 : decode cX11_digest 314 = .ok (.lmul, 1) := by decide +kernel
theorem dX11_digest_315 : decode cX11_digest 315 = .ok (.aload_n 0, 1) := by decide +kernel
theorem dX11_digest_316 : decode cX11_digest 316 = .ok (.invokevirtual 341, 3) := by decide +kernel
theorem dX11_digest_319 : decode cX11_digest 319 = .ok (.i2l, 1) := by decide +kernel
theorem dX11_digest_320 : decode cX11_digest 320 = .ok (.ladd, 1) := by decide +kernel
theorem dX11_digest_321 : decode cX11_digest 321 = .ok (.lstore_n 1, 1) := by decide +kernel
theorem dX11_digest_322 : decode cX11_digest 322 = .ok (.ldc2_w 385, 3) := by decide +kernel
theorem dX11_digest_325 : decode cX11_digest 325 = .ok (.lload_n 1, 1) := by decide +kernel
theorem dX11_digest_326 : decode cX11_digest 326 = .ok (.lmul, 1) := by decide +kernel
theorem dX11_digest_327 : decode cX11_digest 327 = .ok (.aload_n 0, 1) := by decide +kernel
theorem dX11_digest_328 : decode cX11_digest 328 = .ok (.bipush 7, 2) := by decide +kernel
theorem dX11_digest_330 : decode cX11_digest 330 = .ok (.bipush 6, 2) := by decide +kernel
theorem dX11_digest_332 : decode cX11_digest 332 = .ok (.iconst 0, 1) := by decide +kernel
theorem dX11_digest_333 : decode cX11_digest 333 = .ok (.invokevirtual 369, 3) := by decide +kernel
theorem dX11_digest_336 : decode cX11_digest 336 = .ok (.i2l, 1) := by decide +kernel
theorem dX11_digest_337 : decode cX11_digest 337 = .ok (.ladd, 1) := by decide +kernel
theorem dX11_digest_338 : decode cX11_digest 338 = .ok (.lstore_n 1, 1) := by decide +kernel
theorem dX11_digest_339 : decode cX11_digest 339 = .ok (.ldc2_w 385, 3) := by decide +kernel
theorem dX11_digest_342 : decode cX11_digest 342 = .ok (.lload_n 1, 1) := by decide +kernel
theorem dX11_digest_343 : decode cX11_digest 343 = .ok (.lmul, 1) := by decide +kernel
theorem dX11_digest_344 : decode cX11_digest 344 = .ok (.aload_n 0, 1) := by decide +kernel
theorem dX11_digest_345 : decode cX11_digest 345 = .ok (.bipush 7, 2) := by decide +kernel
theorem dX11_digest_347 : decode cX11_digest 347 = .ok (.bipush 6, 2) := by decide +kernel
theorem dX11_digest_349 : decode cX11_digest 349 = .ok (.iconst 1, 1) := by decide +kernel
theorem dX11_digest_350 : decode cX11_digest 350 = .ok (.invokevirtual 369, 3) := by decide +kernel
theorem dX11_digest_353 : decode cX11_digest 353 = .ok (.i2l, 1) := by decide +kernel
theorem dX11_digest_354 : decode cX11_digest 354 = .ok (.ladd, 1) := by decide +kernel
theorem dX11_digest_355 : decode cX11_digest 355 = .ok (.lreturn, 1) := by decide +kernel
theorem a_momentDigest (hd : 9 ≤ d) (A : oA a σ) (h0 : Int64) (t k : Nat) (ht : t < 24) (hk : k < (aD a).1.1) : mMet G l d kX11_momentDigest [.ref 111, .long h0, .int (nI t), .int (nI k)] σ (qLA a σ (mdP (aD a) t k h0)) := by
  refine mMet.of cm_X11_momentDigest rfl (Nat.le_of_ble_eq_true rfl) rfl (fun v1 σ1 h => by obtain ⟨r, h1, -⟩ := h; rw [h1]; trivial) ?_
  refine m_lload_n dX11_momentDigest_0 1 rfl ?_
  refine m_lstore (ls1 := [(5, _), (0, _), (1, _), (3, _), (4, _)]) dX11_momentDigest_1 (by decide) rfl ?_
  refine m_iconst (v := 0) dX11_momentDigest_3 (by decide) ?_
  refine m_istore (ls1 := [(7, _), (5, _), (0, _), (1, _), (3, _), (4, _)]) dX11_momentDigest_4 (by decide) rfl ?_
  refine down (N := 6) (fun w (q : mS × Int64) => q.2 = fo (fun w => (aAt (RSt (aD a) (t + 1)) k w).toInt64) h0 w ∧ oA a q.1 ∧ fW wScr σ q.1) (fun w q => mW G l d kX11_momentDigest 6 [(7, .int (nI w)), (5, .long q.2), (0, .ref 111), (1, .long h0), (3, .int (nI t)), (4, .int (nI k))] [] q.1 _) ?_ ?_ 0 (σ, h0) (Nat.zero_le _) ⟨rfl, A, fW.rf⟩
  · rintro ⟨s, y⟩ ⟨hy, B, f⟩
    show mW G l d kX11_momentDigest 6 [(7, .int (nI 6)), (5, .long y), (0, .ref 111), (1, .long h0), (3, .int (nI t)), (4, .int (nI k))] [] s _
    refine m_iload dX11_momentDigest_6 0 rfl ?_
    refine m_bipush (v := 6) dX11_momentDigest_8 (by decide) ?_
    refine m_icmp_ge dX11_momentDigest_10 38 (by decide) (fun h => ?_) (fun h => ?_)
    · refine m_lload dX11_momentDigest_38 1 rfl ?_
      exact m_lreturn dX11_momentDigest_40 ⟨_, rfl, hy, B, f⟩
    · exact absurd (Int32.le_refl _) h
  · rintro w ⟨s, y⟩ hw ⟨hy, B, f⟩ ih
    show mW G l d kX11_momentDigest 6 [(7, .int (nI w)), (5, .long y), (0, .ref 111), (1, .long h0), (3, .int (nI t)), (4, .int (nI k))] [] s _
    refine m_iload dX11_momentDigest_6 0 rfl ?_
    refine m_bipush (v := 6) dX11_momentDigest_8 (by decide) ?_
    refine m_icmp_ge dX11_momentDigest_10 38 (by decide) (fun h => ?_) (fun h => ?_)
    · exact absurd ((nle (a := 6) (by omega) (by omega)).mp h) (by omega)
    · clear h
      refine m_ldc2_w dX11_momentDigest_13 kl_X11_385 ?_
      refine m_lload dX11_momentDigest_16 1 rfl ?_
      refine m_lmul dX11_momentDigest_18 ?_
      refine m_aload_n dX11_momentDigest_19 2 rfl ?_
      refine m_iload_n dX11_momentDigest_20 4 rfl ?_
      refine m_iload dX11_momentDigest_21 5 rfl ?_
      refine m_iload dX11_momentDigest_23 0 rfl ?_
      refine m_callV (As := [_, _, _]) dX11_momentDigest_25 cv_X11_279 (by first | assumption | rfl) (by decide) (by omega) rfl rfl (Nat.le_of_ble_eq_true rfl) (a_atOf (d := d - 1) (by omega) B t k w ht hk (by omega)) (fun v1 σ1 hv1 => ?_)
      refine m_qIP hv1 (fun x1 hq => ?_)
      clear hv1 v1
      rename mS => s1
      obtain ⟨e1, B1, f1⟩ := hq
      refine m_i2l dX11_momentDigest_28 ?_
      refine m_ladd dX11_momentDigest_29 ?_
      refine m_lstore (ls1 := [(5, _), (7, _), (0, _), (1, _), (3, _), (4, _)]) dX11_momentDigest_30 (by decide) rfl ?_
      refine m_iinc (v := nI (w + 1)) (ls1 := [(7, _), (5, _), (0, _), (1, _), (3, _), (4, _)]) dX11_momentDigest_32 1 rfl (nI_1 w) (by decide) rfl ?_
      refine m_goto dX11_momentDigest_35 6 (by decide) ?_
      refine mW.sub (ls1 := [(7, _), (5, _), (0, _), (1, _), (3, _), (4, _)]) [0, 1, 2, 3, 4, 5] rfl ?_
      exact ih (s1, _) ⟨by rw [fo, ← hy, e1], B1, f.tr f1⟩
theorem a_carDigest (hd : 10 ≤ d) (A : oA a σ) (hrd : rdR σ (aD a)) (h0 : Int64) (k : Nat) (hk : k < (aD a).1.1) : mMet G l d kX11_carDigest [.ref 111, .long h0, .int (nI k)] σ (qLB a σ (cdP a k h0)) := by
  have hn : (aD a).1.1 ≤ 8 := by rw [← A.2.2.1]; exact parC_n _ _
  refine mMet.of cm_X11_carDigest rfl (Nat.le_of_ble_eq_true rfl) rfl (fun v1 σ1 h => by obtain ⟨r, h1, -⟩ := h; rw [h1]; trivial) ?_
  refine m_lload_n dX11_carDigest_0 1 rfl ?_
  refine m_lstore (ls1 := [(4, _), (0, _), (1, _), (3, _)]) dX11_carDigest_1 (by decide) rfl ?_
  refine m_iconst (v := 0) dX11_carDigest_3 (by decide) ?_
  refine m_istore (ls1 := [(6, _), (4, _), (0, _), (1, _), (3, _)]) dX11_carDigest_4 (by decide) rfl ?_
  refine down (N := 5) (fun w (y : Int64) => y = fo (fun w => ((aD a).1.2 k w).toInt64) h0 w) (fun w y => mW G l d kX11_carDigest 6 [(6, .int (nI w)), (4, .long y), (0, .ref 111), (1, .long h0), (3, .int (nI k))] [] σ _) ?_ ?_ 0 h0 (Nat.zero_le _) rfl
  rotate_left
  · rintro w y hw hy ih
    refine m_iload dX11_carDigest_6 0 rfl ?_
    refine m_iconst (v := 5) dX11_carDigest_8 (by decide) ?_
    refine m_icmp_ge dX11_carDigest_9 35 (by decide) (fun h => ?_) (fun h => ?_)
    · exact absurd ((nle (a := 5) (by omega) (by omega)).mp h) (by omega)
    · clear h
      refine m_ldc2_w dX11_carDigest_12 kl_X11_385 ?_
      refine m_lload dX11_carDigest_15 1 rfl ?_
      refine m_lmul dX11_carDigest_17 ?_
      refine m_aload_n dX11_carDigest_18 2 rfl ?_
      refine m_iload_n dX11_carDigest_19 4 rfl ?_
      refine m_iload dX11_carDigest_20 0 rfl ?_
      refine m_callV (As := [_, _]) dX11_carDigest_22 cv_X11_186 (by first | assumption | rfl) (by decide) (by omega) rfl rfl (Nat.le_of_ble_eq_true rfl) (c_carOf (d := d - 1) k w (by omega) (by omega)) (fun v1 σ1 hv1 => ?_)
      refine m_qI hv1 ?_
      clear hv1 v1 σ1
      refine mW.top (hrd.2 k hk w (by omega)) ?_
      refine m_i2l dX11_carDigest_25 ?_
      refine m_ladd dX11_carDigest_26 ?_
      refine m_lstore (ls1 := [(4, _), (6, _), (0, _), (1, _), (3, _)]) dX11_carDigest_27 (by decide) rfl ?_
      refine m_iinc (v := nI (w + 1)) (ls1 := [(6, _), (4, _), (0, _), (1, _), (3, _)]) dX11_carDigest_29 1 rfl (nI_1 w) (by decide) rfl ?_
      refine m_goto dX11_carDigest_32 6 (by decide) ?_
      exact ih _ (by rw [fo, ← hy])
  rintro y hy
  refine m_iload dX11_carDigest_6 0 rfl ?_
  refine m_iconst (v := 5) dX11_carDigest_8 (by decide) ?_
  refine m_icmp_ge dX11_carDigest_9 35 (by decide) (fun h => ?_) (fun h => ?_)
  rotate_left
  · exact absurd (Int32.le_refl _) h
  clear h
  refine m_aload_n dX11_carDigest_35 2 rfl ?_
  refine m_lload dX11_carDigest_36 1 rfl ?_
  refine m_iconst (v := 0) dX11_carDigest_38 (by decide) ?_
  refine m_iload_n dX11_carDigest_39 4 rfl ?_
  refine m_callV (As := [_, _, _]) dX11_carDigest_40 cv_X11_387 (by first | assumption | rfl) (by decide) (by omega) rfl rfl (Nat.le_of_ble_eq_true rfl) (a_momentDigest (d := d - 1) (by omega) A _ 0 k (by decide) hk) (fun v1 σ1 hv1 => ?_)
  refine m_qLP hv1 (fun x1 hq => ?_)
  clear hv1 v1
  rename mS => s1
  obtain ⟨e1, A1, g1⟩ := hq
  have f1 : fW wScr σ s1 := g1
  refine m_lstore (ls1 := [(4, _), (6, _), (0, _), (1, _), (3, _)]) dX11_carDigest_43 (by decide) rfl ?_
  refine m_aload_n dX11_carDigest_45 2 rfl ?_
  refine m_lload dX11_carDigest_46 0 rfl ?_
  refine m_bipush (v := 7) dX11_carDigest_48 (by decide) ?_
  refine m_iload_n dX11_carDigest_50 4 rfl ?_
  refine m_callV (As := [_, _, _]) dX11_carDigest_51 cv_X11_387 (by first | assumption | rfl) (by decide) (by omega) rfl rfl (Nat.le_of_ble_eq_true rfl) (a_momentDigest (d := d - 1) (by omega) A1 _ 7 k (by decide) hk) (fun v1 σ1 hv1 => ?_)
  refine m_qLP hv1 (fun x2 hq => ?_)
  clear hv1 v1
  rename mS => s2
  obtain ⟨e2, A2, g2⟩ := hq
  have f2 : fW wScr σ s2 := f1.tr g2
  refine m_lstore (ls1 := [(4, _), (6, _), (0, _), (1, _), (3, _)]) dX11_carDigest_54 (by decide) rfl ?_
  refine m_aload_n dX11_carDigest_56 2 rfl ?_
  refine m_lload dX11_carDigest_57 0 rfl ?_
  refine m_bipush (v := 15) dX11_carDigest_59 (by decide) ?_
  refine m_iload_n dX11_carDigest_61 4 rfl ?_
  refine m_callV (As := [_, _, _]) dX11_carDigest_62 cv_X11_387 (by first | assumption | rfl) (by decide) (by omega) rfl rfl (Nat.le_of_ble_eq_true rfl) (a_momentDigest (d := d - 1) (by omega) A2 _ 15 k (by decide) hk) (fun v1 σ1 hv1 => ?_)
  refine m_qLP hv1 (fun x3 hq => ?_)
  clear hv1 v1
  rename mS => s3
  obtain ⟨e3, A3, g3⟩ := hq
  have f3 : fW wScr σ s3 := f2.tr g3
  refine m_lstore (ls1 := [(4, _), (6, _), (0, _), (1, _), (3, _)]) dX11_carDigest_65 (by decide) rfl ?_
  refine m_aload_n dX11_carDigest_67 2 rfl ?_
  refine m_lload dX11_carDigest_68 0 rfl ?_
  refine m_bipush (v := 23) dX11_carDigest_70 (by decide) ?_
  refine m_iload_n dX11_carDigest_72 4 rfl ?_
  refine m_callV (As := [_, _, _]) dX11_carDigest_73 cv_X11_387 (by first | assumption | rfl) (by decide) (by omega) rfl rfl (Nat.le_of_ble_eq_true rfl) (a_momentDigest (d := d - 1) (by omega) A3 _ 23 k (by decide) hk) (fun v1 σ1 hv1 => ?_)
  refine m_qLP hv1 (fun x4 hq => ?_)
  clear hv1 v1
  rename mS => s4
  obtain ⟨e4, A4, g4⟩ := hq
  have f4 : fW wScr σ s4 := f3.tr g4
  refine m_lstore (ls1 := [(4, _), (6, _), (0, _), (1, _), (3, _)]) dX11_carDigest_76 (by decide) rfl ?_
  refine m_iconst (v := 0) dX11_carDigest_78 (by decide) ?_
  refine m_istore (ls1 := [(6, _), (4, _), (0, _), (1, _), (3, _)]) dX11_carDigest_79 (by decide) rfl ?_
  have hz : x4 = cd2 (aD a) k h0 := by rw [e4, e3, e2, e1, hy, cd2]
  clear e1 e2 e3 e4
  subst hz
  refine mW.sub (ls1 := [(6, _), (4, _), (0, _), (1, _), (3, _)]) [0, 1, 2, 3, 4] rfl ?_
  refine down (N := 3) (fun w (q : mS × Int64) => q.2 = fo (fun w => (stA (aD a) k (nI w)).toInt64) (cd2 (aD a) k h0) w ∧ oA a q.1 ∧ fW wScr σ q.1) (fun w q => mW G l d kX11_carDigest 81 [(6, .int (nI w)), (4, .long q.2), (0, .ref 111), (1, .long h0), (3, .int (nI k))] [] q.1 _) ?_ ?_ 0 (s4, cd2 (aD a) k h0) (Nat.zero_le _) ⟨rfl, A4, f4⟩
  rotate_left
  · rintro w ⟨s, y⟩ hw ⟨hy, B, f⟩ ih
    show mW G l d kX11_carDigest 81 [(6, .int (nI w)), (4, .long y), (0, .ref 111), (1, .long h0), (3, .int (nI k))] [] s _
    refine m_iload dX11_carDigest_81 0 rfl ?_
    refine m_iconst (v := 3) dX11_carDigest_83 (by decide) ?_
    refine m_icmp_ge dX11_carDigest_84 110 (by decide) (fun h => ?_) (fun h => ?_)
    · exact absurd ((nle (a := 3) (by omega) (by omega)).mp h) (by omega)
    · clear h
      refine m_ldc2_w dX11_carDigest_87 kl_X11_385 ?_
      refine m_lload dX11_carDigest_90 1 rfl ?_
      refine m_lmul dX11_carDigest_92 ?_
      refine m_aload_n dX11_carDigest_93 2 rfl ?_
      refine m_iload_n dX11_carDigest_94 4 rfl ?_
      refine m_iload dX11_carDigest_95 0 rfl ?_
      refine m_callV (As := [_, _]) dX11_carDigest_97 cv_X11_316 (by first | assumption | rfl) (by decide) (by omega) rfl rfl (Nat.le_of_ble_eq_true rfl) (a_standOf (d := d - 1) (by omega) B k hk (nI w)) (fun v1 σ1 hv1 => ?_)
      refine m_qIP hv1 (fun x1 hq => ?_)
      clear hv1 v1
      rename mS => s1
      obtain ⟨e1, B1, f1⟩ := hq
      refine m_i2l dX11_carDigest_100 ?_
      refine m_ladd dX11_carDigest_101 ?_
      refine m_lstore (ls1 := [(4, _), (6, _), (0, _), (1, _), (3, _)]) dX11_carDigest_102 (by decide) rfl ?_
      refine m_iinc (v := nI (w + 1)) (ls1 := [(6, _), (4, _), (0, _), (1, _), (3, _)]) dX11_carDigest_104 1 rfl (nI_1 w) (by decide) rfl ?_
      refine m_goto dX11_carDigest_107 81 (by decide) ?_
      refine mW.sub (ls1 := [(6, _), (4, _), (0, _), (1, _), (3, _)]) [0, 1, 2, 3, 4] rfl ?_
      exact ih (s1, _) ⟨by rw [fo, ← hy, e1], B1, f.tr f1⟩
  clear f1 f2 f3 f4 g1 g2 g3 g4 A1 A2 A3 A4 hy
  clear s1 s2 s3 s4
  rintro ⟨s5, y5⟩ ⟨hy5, A5, f5⟩
  have hz : y5 = cd3 (aD a) k h0 := hy5
  clear hy5
  subst hz
  show mW G l d kX11_carDigest 81 [(6, .int (nI 3)), (4, .long (cd3 (aD a) k h0)), (0, .ref 111), (1, .long h0), (3, .int (nI k))] [] s5 _
  refine m_iload dX11_carDigest_81 0 rfl ?_
  refine m_iconst (v := 3) dX11_carDigest_83 (by decide) ?_
  refine m_icmp_ge dX11_carDigest_84 110 (by decide) (fun h => ?_) (fun h => ?_)
  rotate_left
  · exact absurd (Int32.le_refl _) h
  clear h
  refine m_ldc2_w dX11_carDigest_110 kl_X11_385 ?_
  refine m_lload dX11_carDigest_113 1 rfl ?_
  refine m_lmul dX11_carDigest_115 ?_
  refine m_aload_n dX11_carDigest_116 2 rfl ?_
  refine m_iload_n dX11_carDigest_117 4 rfl ?_
  refine m_bipush (v := 9) dX11_carDigest_118 (by decide) ?_
  refine m_iconst (v := 0) dX11_carDigest_120 (by decide) ?_
  refine m_callV (As := [_, _, _]) dX11_carDigest_121 cv_X11_319 (by first | assumption | rfl) (by decide) (by omega) rfl rfl (Nat.le_of_ble_eq_true rfl) (a_betterOf (d := d - 1) (by omega) A5 k 9 hk (by decide) 0) (fun v1 σ1 hv1 => ?_)
  refine m_qIP hv1 (fun x6 hq => ?_)
  clear hv1 v1
  rename mS => s6
  obtain ⟨e6, A6, g6⟩ := hq
  have f6 : fW wScr σ s6 := f5.tr g6
  refine m_i2l dX11_carDigest_124 ?_
  refine m_ladd dX11_carDigest_125 ?_
  refine m_lstore (ls1 := [(4, _), (6, _), (0, _), (1, _), (3, _)]) dX11_carDigest_126 (by decide) rfl ?_
  refine m_ldc2_w dX11_carDigest_128 kl_X11_385 ?_
  refine m_lload dX11_carDigest_131 0 rfl ?_
  refine m_lmul dX11_carDigest_133 ?_
  refine m_aload_n dX11_carDigest_134 2 rfl ?_
  refine m_iload_n dX11_carDigest_135 4 rfl ?_
  refine m_bipush (v := 9) dX11_carDigest_136 (by decide) ?_
  refine m_iconst (v := 1) dX11_carDigest_138 (by decide) ?_
  refine m_callV (As := [_, _, _]) dX11_carDigest_139 cv_X11_319 (by first | assumption | rfl) (by decide) (by omega) rfl rfl (Nat.le_of_ble_eq_true rfl) (a_betterOf (d := d - 1) (by omega) A6 k 9 hk (by decide) 1) (fun v1 σ1 hv1 => ?_)
  refine m_qIP hv1 (fun x7 hq => ?_)
  clear hv1 v1
  rename mS => s7
  obtain ⟨e7, A7, g7⟩ := hq
  have f7 : fW wScr σ s7 := f6.tr g7
  refine m_i2l dX11_carDigest_142 ?_
  refine m_ladd dX11_carDigest_143 ?_
  refine m_lstore (ls1 := [(4, _), (6, _), (0, _), (1, _), (3, _)]) dX11_carDigest_144 (by decide) rfl ?_
  refine m_ldc2_w dX11_carDigest_146 kl_X11_385 ?_
  refine m_lload dX11_carDigest_149 0 rfl ?_
  refine m_lmul dX11_carDigest_151 ?_
  refine m_aload_n dX11_carDigest_152 2 rfl ?_
  refine m_iload_n dX11_carDigest_153 4 rfl ?_
  refine m_callV (As := [_]) dX11_carDigest_154 cv_X11_344 (by first | assumption | rfl) (by decide) (by omega) rfl rfl (Nat.le_of_ble_eq_true rfl) (a_sortsBy (d := d - 1) (by omega) A7 k hk) (fun v1 σ1 hv1 => ?_)
  refine m_qIP hv1 (fun x8 hq => ?_)
  clear hv1 v1
  rename mS => s8
  obtain ⟨e8, A8, g8⟩ := hq
  have f8 : fW wScr σ s8 := f7.tr g8
  refine m_i2l dX11_carDigest_157 ?_
  refine m_ladd dX11_carDigest_158 ?_
  refine m_lstore (ls1 := [(4, _), (6, _), (0, _), (1, _), (3, _)]) dX11_carDigest_159 (by decide) rfl ?_
  refine m_ldc2_w dX11_carDigest_161 kl_X11_385 ?_
  refine m_lload dX11_carDigest_164 0 rfl ?_
  refine m_lmul dX11_carDigest_166 ?_
  refine m_aload_n dX11_carDigest_167 2 rfl ?_
  refine m_iload_n dX11_carDigest_168 4 rfl ?_
  refine m_callV (As := [_]) dX11_carDigest_169 cv_X11_347 (by first | assumption | rfl) (by decide) (by omega) rfl rfl (Nat.le_of_ble_eq_true rfl) (a_heavyBy (d := d - 1) (by omega) A8 k hk) (fun v1 σ1 hv1 => ?_)
  refine m_qIP hv1 (fun x9 hq => ?_)
  clear hv1 v1
  rename mS => s9
  obtain ⟨e9, A9, g9⟩ := hq
  have f9 : fW wScr σ s9 := f8.tr g9
  refine m_i2l dX11_carDigest_172 ?_
  refine m_ladd dX11_carDigest_173 ?_
  refine m_lstore (ls1 := [(4, _), (6, _), (0, _), (1, _), (3, _)]) dX11_carDigest_174 (by decide) rfl ?_
  refine m_ldc2_w dX11_carDigest_176 kl_X11_385 ?_
  refine m_lload dX11_carDigest_179 0 rfl ?_
  refine m_lmul dX11_carDigest_181 ?_
  refine m_aload_n dX11_carDigest_182 2 rfl ?_
  refine m_iload_n dX11_carDigest_183 4 rfl ?_
  refine m_callV (As := [_]) dX11_carDigest_184 cv_X11_350 (by first | assumption | rfl) (by decide) (by omega) rfl rfl (Nat.le_of_ble_eq_true rfl) (a_askOf (d := d - 1) (by omega) A9 k hk) (fun v1 σ1 hv1 => ?_)
  refine m_qIP hv1 (fun x10 hq => ?_)
  clear hv1 v1
  rename mS => s10
  obtain ⟨e10, A10, g10⟩ := hq
  have f10 : fW wScr σ s10 := f9.tr g10
  refine m_i2l dX11_carDigest_187 ?_
  refine m_ladd dX11_carDigest_188 ?_
  refine m_lstore (ls1 := [(4, _), (6, _), (0, _), (1, _), (3, _)]) dX11_carDigest_189 (by decide) rfl ?_
  refine m_ldc2_w dX11_carDigest_191 kl_X11_385 ?_
  refine m_lload dX11_carDigest_194 0 rfl ?_
  refine m_lmul dX11_carDigest_196 ?_
  refine m_aload_n dX11_carDigest_197 2 rfl ?_
  refine m_iconst (v := 5) dX11_carDigest_198 (by decide) ?_
  refine m_iload_n dX11_carDigest_199 4 rfl ?_
  refine m_iconst (v := 0) dX11_carDigest_200 (by decide) ?_
  refine m_callV (As := [_, _, _]) dX11_carDigest_201 cv_X11_357 (by first | assumption | rfl) (by decide) (by omega) rfl rfl (Nat.le_of_ble_eq_true rfl) (a_chanceOf (d := d - 1) (by omega) A10 5 k (by decide) hk 0) (fun v1 σ1 hv1 => ?_)
  refine m_qLP hv1 (fun x11 hq => ?_)
  clear hv1 v1
  rename mS => s11
  obtain ⟨e11, A11, r6, g11⟩ := hq
  have f11 : fW wScr σ s11 := f10.tr g11
  refine m_ladd dX11_carDigest_204 ?_
  refine m_lstore (ls1 := [(4, _), (6, _), (0, _), (1, _), (3, _)]) dX11_carDigest_205 (by decide) rfl ?_
  refine m_ldc2_w dX11_carDigest_207 kl_X11_385 ?_
  refine m_lload dX11_carDigest_210 0 rfl ?_
  refine m_lmul dX11_carDigest_212 ?_
  refine m_aload_n dX11_carDigest_213 2 rfl ?_
  refine m_iconst (v := 5) dX11_carDigest_214 (by decide) ?_
  refine m_iload_n dX11_carDigest_215 4 rfl ?_
  refine m_iconst (v := 1) dX11_carDigest_216 (by decide) ?_
  refine m_callV (As := [_, _, _]) dX11_carDigest_217 cv_X11_357 (by first | assumption | rfl) (by decide) (by omega) rfl rfl (Nat.le_of_ble_eq_true rfl) (a_chanceOf (d := d - 1) (by omega) A11 5 k (by decide) hk 1) (fun v1 σ1 hv1 => ?_)
  refine m_qLP hv1 (fun x12 hq => ?_)
  clear hv1 v1
  rename mS => s12
  obtain ⟨e12, A12, r7, g12⟩ := hq
  have f12 : fW wScr σ s12 := f11.tr g12
  refine m_ladd dX11_carDigest_220 ?_
  refine m_lreturn dX11_carDigest_221 ⟨_, rfl, ?_, A12, r7, f12⟩
  rw [cdP, cd5, cd4, e6, e7, e8, e9, e10, e11, e12]
  rfl
theorem a_digest (hd : 11 ≤ d) (A : oA a σ) : mMet G l d kX11_digest [.ref 111] σ (qLA a σ (dgA a)) := by
  have hn : (aD a).1.1 ≤ 8 := by rw [← A.2.2.1]; exact parC_n _ _
  refine mMet.of cm_X11_digest rfl (Nat.le_of_ble_eq_true rfl) rfl (fun v1 σ1 h => by obtain ⟨r, h1, -⟩ := h; rw [h1]; trivial) ?_
  refine m_ldc2_w dX11_digest_0 kl_X11_391 ?_
  refine m_lstore_n (ls1 := [(1, _), (0, _)]) dX11_digest_3 (by decide) rfl ?_
  refine m_iconst (v := 0) dX11_digest_4 (by decide) ?_
  refine m_istore_n (ls1 := [(3, _), (1, _), (0, _)]) dX11_digest_5 (by decide) rfl ?_
  refine down (N := 8) (fun w (q : mS × Int64) => q.2 = fo (fun w => (cnB a (nI w)).toInt64) 17 w ∧ oA a q.1 ∧ fW wScr σ q.1) (fun w q => mW G l d kX11_digest 6 [(3, .int (nI w)), (1, .long q.2), (0, .ref 111)] [] q.1 _) ?_ ?_ 0 (σ, 17) (Nat.zero_le _) ⟨rfl, A, fW.rf⟩
  rotate_left
  · rintro w ⟨s, y⟩ hw ⟨hy, B, f⟩ ih
    show mW G l d kX11_digest 6 [(3, .int (nI w)), (1, .long y), (0, .ref 111)] [] s _
    refine m_iload_n dX11_digest_6 0 rfl ?_
    refine m_bipush (v := 8) dX11_digest_7 (by decide) ?_
    refine m_icmp_ge dX11_digest_9 31 (by decide) (fun h => ?_) (fun h => ?_)
    · exact absurd ((nle (a := 8) (by omega) (by omega)).mp h) (by omega)
    · clear h
      refine m_ldc2_w dX11_digest_12 kl_X11_385 ?_
      refine m_lload_n dX11_digest_15 1 rfl ?_
      refine m_lmul dX11_digest_16 ?_
      refine m_aload_n dX11_digest_17 2 rfl ?_
      refine m_iload_n dX11_digest_18 0 rfl ?_
      refine m_callV (As := [_]) dX11_digest_19 cv_X11_393 (by first | assumption | rfl) (by decide) (by omega) rfl rfl (Nat.le_of_ble_eq_true rfl) (a_count (d := d - 1) (by omega) B (nI w)) (fun v1 σ1 hv1 => ?_)
      refine m_qIP hv1 (fun x1 hq => ?_)
      clear hv1 v1
      rename mS => s1
      obtain ⟨e1, B1, f1⟩ := hq
      refine m_i2l dX11_digest_22 ?_
      refine m_ladd dX11_digest_23 ?_
      refine m_lstore_n (ls1 := [(1, _), (3, _), (0, _)]) dX11_digest_24 (by decide) rfl ?_
      refine m_iinc (v := nI (w + 1)) (ls1 := [(3, _), (1, _), (0, _)]) dX11_digest_25 1 rfl (nI_1 w) (by decide) rfl ?_
      refine m_goto dX11_digest_28 6 (by decide) ?_
      refine mW.sub (ls1 := [(3, _), (1, _), (0, _)]) [0, 1, 2] rfl ?_
      exact ih (s1, _) ⟨by rw [fo, ← hy, e1], B1, f.tr f1⟩
  rintro ⟨s1, y1⟩ ⟨hy1, A1, f1⟩
  have hz : y1 = dg1 a := hy1
  clear hy1
  subst hz
  show mW G l d kX11_digest 6 [(3, .int (nI 8)), (1, .long (dg1 a)), (0, .ref 111)] [] s1 _
  refine m_iload_n dX11_digest_6 0 rfl ?_
  refine m_bipush (v := 8) dX11_digest_7 (by decide) ?_
  refine m_icmp_ge dX11_digest_9 31 (by decide) (fun h => ?_) (fun h => ?_)
  rotate_left
  · exact absurd (Int32.le_refl _) h
  clear h
  refine m_ldc2_w dX11_digest_31 kl_X11_385 ?_
  refine m_lload_n dX11_digest_34 1 rfl ?_
  refine m_lmul dX11_digest_35 ?_
  refine m_aload_n dX11_digest_36 2 rfl ?_
  refine m_iconst (v := 0) dX11_digest_37 (by decide) ?_
  refine m_callV (As := [_]) dX11_digest_38 cv_X11_177 (by first | assumption | rfl) (by decide) (by omega) rfl rfl (Nat.le_of_ble_eq_true rfl) (a_faultOf (d := d - 1) (by omega) A1 0) (fun v1 σ1 hv1 => ?_)
  refine m_qIP hv1 (fun x2 hq => ?_)
  clear hv1 v1
  rename mS => s2
  obtain ⟨e2, A2, -, g2⟩ := hq
  have f2 : fW wScr σ s2 := f1.tr g2
  refine m_i2l dX11_digest_41 ?_
  refine m_ladd dX11_digest_42 ?_
  refine m_lstore_n (ls1 := [(1, _), (3, _), (0, _)]) dX11_digest_43 (by decide) rfl ?_
  refine m_ldc2_w dX11_digest_44 kl_X11_385 ?_
  refine m_lload_n dX11_digest_47 0 rfl ?_
  refine m_lmul dX11_digest_48 ?_
  refine m_aload_n dX11_digest_49 2 rfl ?_
  refine m_iconst (v := 1) dX11_digest_50 (by decide) ?_
  refine m_callV (As := [_]) dX11_digest_51 cv_X11_177 (by first | assumption | rfl) (by decide) (by omega) rfl rfl (Nat.le_of_ble_eq_true rfl) (a_faultOf (d := d - 1) (by omega) A2 1) (fun v1 σ1 hv1 => ?_)
  refine m_qIP hv1 (fun x3 hq => ?_)
  clear hv1 v1
  rename mS => s3
  obtain ⟨e3, A3, r3, g3⟩ := hq
  have f3 : fW wScr σ s3 := f2.tr g3
  refine m_i2l dX11_digest_54 ?_
  refine m_ladd dX11_digest_55 ?_
  refine m_lstore_n (ls1 := [(1, _), (3, _), (0, _)]) dX11_digest_56 (by decide) rfl ?_
  refine m_iconst (v := 0) dX11_digest_57 (by decide) ?_
  refine m_istore_n (ls1 := [(3, _), (1, _), (0, _)]) dX11_digest_58 (by decide) rfl ?_
  have hz : 31 * (31 * dg1 a + x2.toInt64) + x3.toInt64 = dg2 a := by rw [e2, e3, if_pos rfl, if_neg (by decide), dg2, ad, ad]
  rw [hz]
  clear e2 e3 hz
  refine down (N := 12) (fun i (q : mS × Int64) => q.2 = foo (fun i h => fo (fun w => (slA (aD a) i w).toInt64) h 3) (dg2 a) i ∧ oA a q.1 ∧ rdR q.1 (aD a) ∧ fW wScr σ q.1) (fun i q => mW G l d kX11_digest 59 [(3, .int (nI i)), (1, .long q.2), (0, .ref 111)] [] q.1 _) ?_ ?_ 0 (s3, dg2 a) (Nat.zero_le _) ⟨rfl, A3, r3, f3⟩
  rotate_left
  · rintro i ⟨s, y⟩ hi ⟨hy, B, rb, f⟩ ih
    show mW G l d kX11_digest 59 [(3, .int (nI i)), (1, .long y), (0, .ref 111)] [] s _
    refine m_iload_n dX11_digest_59 0 rfl ?_
    refine m_bipush (v := 12) dX11_digest_60 (by decide) ?_
    refine m_icmp_ge dX11_digest_62 101 (by decide) (fun h => ?_) (fun h => ?_)
    · exact absurd ((nle (a := 12) (by omega) (by omega)).mp h) (by omega)
    · clear h
      refine m_iconst (v := 0) dX11_digest_65 (by decide) ?_
      refine m_istore (ls1 := [(4, _), (3, _), (1, _), (0, _)]) dX11_digest_66 (by decide) rfl ?_
      refine down (N := 3) (fun w (q : mS × Int64) => q.2 = fo (fun w => (slA (aD a) i w).toInt64) y w ∧ oA a q.1 ∧ rdR q.1 (aD a) ∧ fW wScr σ q.1) (fun w q => mW G l d kX11_digest 68 [(4, .int (nI w)), (3, .int (nI i)), (1, .long q.2), (0, .ref 111)] [] q.1 _) ?_ ?_ 0 (s, y) (Nat.zero_le _) ⟨rfl, B, rb, f⟩
      · rintro ⟨s1, y1⟩ ⟨hy1, B1, rb1, f1⟩
        show mW G l d kX11_digest 68 [(4, .int (nI 3)), (3, .int (nI i)), (1, .long y1), (0, .ref 111)] [] s1 _
        refine m_iload dX11_digest_68 0 rfl ?_
        refine m_iconst (v := 3) dX11_digest_70 (by decide) ?_
        refine m_icmp_ge dX11_digest_71 95 (by decide) (fun h => ?_) (fun h => ?_)
        · refine m_iinc (v := nI (i + 1)) (ls1 := [(3, _), (4, _), (1, _), (0, _)]) dX11_digest_95 1 rfl (nI_1 i) (by decide) rfl ?_
          refine m_goto dX11_digest_98 59 (by decide) ?_
          refine mW.sub (ls1 := [(3, _), (1, _), (0, _)]) [0, 2, 3] rfl ?_
          exact ih (s1, y1) ⟨by rw [foo, ← hy]; exact hy1, B1, rb1, f1⟩
        · exact absurd (Int32.le_refl _) h
      · rintro w ⟨s1, y1⟩ hw ⟨hy1, B1, rb1, f1⟩ ihW
        show mW G l d kX11_digest 68 [(4, .int (nI w)), (3, .int (nI i)), (1, .long y1), (0, .ref 111)] [] s1 _
        refine m_iload dX11_digest_68 0 rfl ?_
        refine m_iconst (v := 3) dX11_digest_70 (by decide) ?_
        refine m_icmp_ge dX11_digest_71 95 (by decide) (fun h => ?_) (fun h => ?_)
        · exact absurd ((nle (a := 3) (by omega) (by omega)).mp h) (by omega)
        · clear h
          refine m_ldc2_w dX11_digest_74 kl_X11_385 ?_
          refine m_lload_n dX11_digest_77 2 rfl ?_
          refine m_lmul dX11_digest_78 ?_
          refine m_aload_n dX11_digest_79 3 rfl ?_
          refine m_iload_n dX11_digest_80 1 rfl ?_
          refine m_iload dX11_digest_81 0 rfl ?_
          refine m_callV (As := [_, _]) dX11_digest_83 cv_X11_192 (by first | assumption | rfl) (by decide) (by omega) rfl rfl (Nat.le_of_ble_eq_true rfl) (a_steerTold (d := d - 1) (by omega) B1 i w hi hw) (fun v1 σ1 hv1 => ?_)
          refine m_qIP hv1 (fun x1 hq => ?_)
          clear hv1 v1
          rename mS => s2
          obtain ⟨e1, B2, rb2, f2⟩ := hq
          refine m_i2l dX11_digest_86 ?_
          refine m_ladd dX11_digest_87 ?_
          refine m_lstore_n (ls1 := [(1, _), (4, _), (3, _), (0, _)]) dX11_digest_88 (by decide) rfl ?_
          refine m_iinc (v := nI (w + 1)) (ls1 := [(4, _), (1, _), (3, _), (0, _)]) dX11_digest_89 1 rfl (nI_1 w) (by decide) rfl ?_
          refine m_goto dX11_digest_92 68 (by decide) ?_
          refine mW.sub (ls1 := [(4, _), (3, _), (1, _), (0, _)]) [0, 2, 1, 3] rfl ?_
          exact ihW (s2, _) ⟨by rw [fo, ← hy1, e1], B2, rb2, f1.tr f2⟩
  clear f1 f2 f3 g2 g3 A1 A2 A3 r3
  clear s1 s2 s3
  rintro ⟨s4, y4⟩ ⟨hy4, A4, r4, f4⟩
  have hz : y4 = dg3 a := hy4
  clear hy4
  subst hz
  show mW G l d kX11_digest 59 [(3, .int (nI 12)), (1, .long (dg3 a)), (0, .ref 111)] [] s4 _
  refine m_iload_n dX11_digest_59 0 rfl ?_
  refine m_bipush (v := 12) dX11_digest_60 (by decide) ?_
  refine m_icmp_ge dX11_digest_62 101 (by decide) (fun h => ?_) (fun h => ?_)
  rotate_left
  · exact absurd (Int32.le_refl _) h
  clear h
  refine m_iconst (v := 0) dX11_digest_101 (by decide) ?_
  refine m_istore_n (ls1 := [(3, _), (1, _), (0, _)]) dX11_digest_102 (by decide) rfl ?_
  refine down (N := (aD a).1.1) (fun k (q : mS × Int64) => q.2 = foo (fun k h => cdP a k h) (dg3 a) k ∧ oA a q.1 ∧ rdR q.1 (aD a) ∧ fW wScr σ q.1) (fun k q => mW G l d kX11_digest 103 [(3, .int (nI k)), (1, .long q.2), (0, .ref 111)] [] q.1 _) ?_ ?_ 0 (s4, dg3 a) (Nat.zero_le _) ⟨rfl, A4, r4, f4⟩
  rotate_left
  · rintro k ⟨s, y⟩ hk ⟨hy, B, rb, f⟩ ih
    show mW G l d kX11_digest 103 [(3, .int (nI k)), (1, .long y), (0, .ref 111)] [] s _
    refine m_iload_n dX11_digest_103 0 rfl ?_
    refine m_aload_n dX11_digest_104 2 rfl ?_
    refine m_getI 2 dX11_digest_105 fl_X11_161_10 rfl (by decide) (by first | assumption | rfl) ?_
    refine mW.top rb.1 ?_
    refine m_icmp_ge dX11_digest_108 124 (by decide) (fun h => ?_) (fun h => ?_)
    · exact absurd ((nle (by omega) (by omega)).mp h) (by omega)
    · clear h
      refine m_aload_n dX11_digest_111 2 rfl ?_
      refine m_lload_n dX11_digest_112 1 rfl ?_
      refine m_iload_n dX11_digest_113 0 rfl ?_
      refine m_callV (As := [_, _]) dX11_digest_114 cv_X11_396 (by first | assumption | rfl) (by decide) (by omega) rfl rfl (Nat.le_of_ble_eq_true rfl) (a_carDigest (d := d - 1) (by omega) B rb y k hk) (fun v1 σ1 hv1 => ?_)
      refine m_qLP hv1 (fun x1 hq => ?_)
      clear hv1 v1
      rename mS => s1
      obtain ⟨e1, B1, rb1, f1⟩ := hq
      refine m_lstore_n (ls1 := [(1, _), (3, _), (0, _)]) dX11_digest_117 (by decide) rfl ?_
      refine m_iinc (v := nI (k + 1)) (ls1 := [(3, _), (1, _), (0, _)]) dX11_digest_118 1 rfl (nI_1 k) (by decide) rfl ?_
      refine m_goto dX11_digest_121 103 (by decide) ?_
      exact ih (s1, _) ⟨by rw [foo, ← hy, e1], B1, rb1, f.tr f1⟩
  clear f4 A4 r4
  clear s4
  rintro ⟨s5, y5⟩ ⟨hy5, A5, r5, f5⟩
  have hz : y5 = dg4 a := hy5
  clear hy5
  subst hz
  show mW G l d kX11_digest 103 [(3, .int (nI (aD a).1.1)), (1, .long (dg4 a)), (0, .ref 111)] [] s5 _
  refine m_iload_n dX11_digest_103 0 rfl ?_
  refine m_aload_n dX11_digest_104 2 rfl ?_
  refine m_getI 2 dX11_digest_105 fl_X11_161_10 rfl (by decide) (by first | assumption | rfl) ?_
  refine mW.top r5.1 ?_
  refine m_icmp_ge dX11_digest_108 124 (by decide) (fun h => ?_) (fun h => ?_)
  rotate_left
  · exact absurd (Int32.le_refl _) h
  clear h
  refine m_iconst (v := 0) dX11_digest_124 (by decide) ?_
  refine m_istore_n (ls1 := [(3, _), (1, _), (0, _)]) dX11_digest_125 (by decide) rfl ?_
  refine down (N := 24) (fun t (q : mS × Int64) => q.2 = foo (fun t h => fo (fun w => (hoA (aD a) t (nI w)).toInt64) h 3) (dg4 a) t ∧ oA a q.1 ∧ fW wScr σ q.1) (fun t q => mW G l d kX11_digest 126 [(3, .int (nI t)), (1, .long q.2), (0, .ref 111)] [] q.1 _) ?_ ?_ 0 (s5, dg4 a) (Nat.zero_le _) ⟨rfl, A5, f5⟩
  rotate_left
  · rintro t ⟨s, y⟩ ht ⟨hy, B, f⟩ ih
    show mW G l d kX11_digest 126 [(3, .int (nI t)), (1, .long y), (0, .ref 111)] [] s _
    refine m_iload_n dX11_digest_126 0 rfl ?_
    refine m_bipush (v := 24) dX11_digest_127 (by decide) ?_
    refine m_icmp_ge dX11_digest_129 168 (by decide) (fun h => ?_) (fun h => ?_)
    · exact absurd ((nle (a := 24) (by omega) (by omega)).mp h) (by omega)
    · clear h
      refine m_iconst (v := 0) dX11_digest_132 (by decide) ?_
      refine m_istore (ls1 := [(4, _), (3, _), (1, _), (0, _)]) dX11_digest_133 (by decide) rfl ?_
      refine down (N := 3) (fun w (q : mS × Int64) => q.2 = fo (fun w => (hoA (aD a) t (nI w)).toInt64) y w ∧ oA a q.1 ∧ fW wScr σ q.1) (fun w q => mW G l d kX11_digest 135 [(4, .int (nI w)), (3, .int (nI t)), (1, .long q.2), (0, .ref 111)] [] q.1 _) ?_ ?_ 0 (s, y) (Nat.zero_le _) ⟨rfl, B, f⟩
      · rintro ⟨s1, y1⟩ ⟨hy1, B1, f1⟩
        show mW G l d kX11_digest 135 [(4, .int (nI 3)), (3, .int (nI t)), (1, .long y1), (0, .ref 111)] [] s1 _
        refine m_iload dX11_digest_135 0 rfl ?_
        refine m_iconst (v := 3) dX11_digest_137 (by decide) ?_
        refine m_icmp_ge dX11_digest_138 162 (by decide) (fun h => ?_) (fun h => ?_)
        · refine m_iinc (v := nI (t + 1)) (ls1 := [(3, _), (4, _), (1, _), (0, _)]) dX11_digest_162 1 rfl (nI_1 t) (by decide) rfl ?_
          refine m_goto dX11_digest_165 126 (by decide) ?_
          refine mW.sub (ls1 := [(3, _), (1, _), (0, _)]) [0, 2, 3] rfl ?_
          exact ih (s1, y1) ⟨by rw [foo, ← hy]; exact hy1, B1, f1⟩
        · exact absurd (Int32.le_refl _) h
      · rintro w ⟨s1, y1⟩ hw ⟨hy1, B1, f1⟩ ihW
        show mW G l d kX11_digest 135 [(4, .int (nI w)), (3, .int (nI t)), (1, .long y1), (0, .ref 111)] [] s1 _
        refine m_iload dX11_digest_135 0 rfl ?_
        refine m_iconst (v := 3) dX11_digest_137 (by decide) ?_
        refine m_icmp_ge dX11_digest_138 162 (by decide) (fun h => ?_) (fun h => ?_)
        · exact absurd ((nle (a := 3) (by omega) (by omega)).mp h) (by omega)
        · clear h
          refine m_ldc2_w dX11_digest_141 kl_X11_385 ?_
          refine m_lload_n dX11_digest_144 2 rfl ?_
          refine m_lmul dX11_digest_145 ?_
          refine m_aload_n dX11_digest_146 3 rfl ?_
          refine m_iload_n dX11_digest_147 1 rfl ?_
          refine m_iload dX11_digest_148 0 rfl ?_
          refine m_callV (As := [_, _]) dX11_digest_150 cv_X11_288 (by first | assumption | rfl) (by decide) (by omega) rfl rfl (Nat.le_of_ble_eq_true rfl) (a_houseOf (d := d - 1) (by omega) B1 t ht (nI w)) (fun v1 σ1 hv1 => ?_)
          refine m_qIP hv1 (fun x1 hq => ?_)
          clear hv1 v1
          rename mS => s2
          obtain ⟨e1, B2, f2⟩ := hq
          refine m_i2l dX11_digest_153 ?_
          refine m_ladd dX11_digest_154 ?_
          refine m_lstore_n (ls1 := [(1, _), (4, _), (3, _), (0, _)]) dX11_digest_155 (by decide) rfl ?_
          refine m_iinc (v := nI (w + 1)) (ls1 := [(4, _), (1, _), (3, _), (0, _)]) dX11_digest_156 1 rfl (nI_1 w) (by decide) rfl ?_
          refine m_goto dX11_digest_159 135 (by decide) ?_
          refine mW.sub (ls1 := [(4, _), (3, _), (1, _), (0, _)]) [0, 2, 1, 3] rfl ?_
          exact ihW (s2, _) ⟨by rw [fo, ← hy1, e1], B2, f1.tr f2⟩
  clear f5 A5 r5
  clear s5
  rintro ⟨s6, y6⟩ ⟨hy6, A6, f6⟩
  have hz : y6 = dg5 a := hy6
  clear hy6
  subst hz
  show mW G l d kX11_digest 126 [(3, .int (nI 24)), (1, .long (dg5 a)), (0, .ref 111)] [] s6 _
  refine m_iload_n dX11_digest_126 0 rfl ?_
  refine m_bipush (v := 24) dX11_digest_127 (by decide) ?_
  refine m_icmp_ge dX11_digest_129 168 (by decide) (fun h => ?_) (fun h => ?_)
  rotate_left
  · exact absurd (Int32.le_refl _) h
  clear h
  refine m_ldc2_w dX11_digest_168 kl_X11_385 ?_
  refine m_lload_n dX11_digest_171 1 rfl ?_
  refine m_lmul dX11_digest_172 ?_
  refine m_aload_n dX11_digest_173 2 rfl ?_
  refine m_iconst (v := 0) dX11_digest_174 (by decide) ?_
  refine m_callV (As := [_]) dX11_digest_175 cv_X11_295 (by first | assumption | rfl) (by decide) (by omega) rfl rfl (Nat.le_of_ble_eq_true rfl) (a_firstOf (d := d - 1) (by omega) A6 0) (fun v1 σ1 hv1 => ?_)
  refine m_qIP hv1 (fun x7 hq => ?_)
  clear hv1 v1
  rename mS => s7
  obtain ⟨e7, A7, g7⟩ := hq
  have f7 : fW wScr σ s7 := f6.tr g7
  refine m_i2l dX11_digest_178 ?_
  refine m_ladd dX11_digest_179 ?_
  refine m_lstore_n (ls1 := [(1, _), (3, _), (0, _)]) dX11_digest_180 (by decide) rfl ?_
  refine m_ldc2_w dX11_digest_181 kl_X11_385 ?_
  refine m_lload_n dX11_digest_184 0 rfl ?_
  refine m_lmul dX11_digest_185 ?_
  refine m_aload_n dX11_digest_186 2 rfl ?_
  refine m_iconst (v := 1) dX11_digest_187 (by decide) ?_
  refine m_callV (As := [_]) dX11_digest_188 cv_X11_295 (by first | assumption | rfl) (by decide) (by omega) rfl rfl (Nat.le_of_ble_eq_true rfl) (a_firstOf (d := d - 1) (by omega) A7 1) (fun v1 σ1 hv1 => ?_)
  refine m_qIP hv1 (fun x8 hq => ?_)
  clear hv1 v1
  rename mS => s8
  obtain ⟨e8, A8, g8⟩ := hq
  have f8 : fW wScr σ s8 := f7.tr g8
  refine m_i2l dX11_digest_191 ?_
  refine m_ladd dX11_digest_192 ?_
  refine m_lstore_n (ls1 := [(1, _), (3, _), (0, _)]) dX11_digest_193 (by decide) rfl ?_
  refine m_ldc2_w dX11_digest_194 kl_X11_385 ?_
  refine m_lload_n dX11_digest_197 0 rfl ?_
  refine m_lmul dX11_digest_198 ?_
  refine m_aload_n dX11_digest_199 2 rfl ?_
  refine m_callV (As := []) dX11_digest_200 cv_X11_298 (by first | assumption | rfl) (by decide) (by omega) rfl rfl (Nat.le_of_ble_eq_true rfl) (a_bestOf (d := d - 1) (by omega) A8) (fun v1 σ1 hv1 => ?_)
  refine m_qIP hv1 (fun x9 hq => ?_)
  clear hv1 v1
  rename mS => s9
  obtain ⟨e9, A9, g9⟩ := hq
  have f9 : fW wScr σ s9 := f8.tr g9
  refine m_i2l dX11_digest_203 ?_
  refine m_ladd dX11_digest_204 ?_
  refine m_lstore_n (ls1 := [(1, _), (3, _), (0, _)]) dX11_digest_205 (by decide) rfl ?_
  refine m_ldc2_w dX11_digest_206 kl_X11_385 ?_
  refine m_lload_n dX11_digest_209 0 rfl ?_
  refine m_lmul dX11_digest_210 ?_
  refine m_aload_n dX11_digest_211 2 rfl ?_
  refine m_callV (As := []) dX11_digest_212 cv_X11_304 (by first | assumption | rfl) (by decide) (by omega) rfl rfl (Nat.le_of_ble_eq_true rfl) (a_meekOf (d := d - 1) (by omega) A9) (fun v1 σ1 hv1 => ?_)
  refine m_qIP hv1 (fun x10 hq => ?_)
  clear hv1 v1
  rename mS => s10
  obtain ⟨e10, A10, g10⟩ := hq
  have f10 : fW wScr σ s10 := f9.tr g10
  refine m_i2l dX11_digest_215 ?_
  refine m_ladd dX11_digest_216 ?_
  refine m_lstore_n (ls1 := [(1, _), (3, _), (0, _)]) dX11_digest_217 (by decide) rfl ?_
  refine m_ldc2_w dX11_digest_218 kl_X11_385 ?_
  refine m_lload_n dX11_digest_221 0 rfl ?_
  refine m_lmul dX11_digest_222 ?_
  refine m_aload_n dX11_digest_223 2 rfl ?_
  refine m_iconst (v := 0) dX11_digest_224 (by decide) ?_
  refine m_callV (As := [_]) dX11_digest_225 cv_X11_307 (by first | assumption | rfl) (by decide) (by omega) rfl rfl (Nat.le_of_ble_eq_true rfl) (a_jamOf (d := d - 1) (by omega) A10 0) (fun v1 σ1 hv1 => ?_)
  refine m_qIP hv1 (fun x11 hq => ?_)
  clear hv1 v1
  rename mS => s11
  obtain ⟨e11, A11, g11⟩ := hq
  have f11 : fW wScr σ s11 := f10.tr g11
  refine m_i2l dX11_digest_228 ?_
  refine m_ladd dX11_digest_229 ?_
  refine m_lstore_n (ls1 := [(1, _), (3, _), (0, _)]) dX11_digest_230 (by decide) rfl ?_
  refine m_ldc2_w dX11_digest_231 kl_X11_385 ?_
  refine m_lload_n dX11_digest_234 0 rfl ?_
  refine m_lmul dX11_digest_235 ?_
  refine m_aload_n dX11_digest_236 2 rfl ?_
  refine m_iconst (v := 1) dX11_digest_237 (by decide) ?_
  refine m_callV (As := [_]) dX11_digest_238 cv_X11_307 (by first | assumption | rfl) (by decide) (by omega) rfl rfl (Nat.le_of_ble_eq_true rfl) (a_jamOf (d := d - 1) (by omega) A11 1) (fun v1 σ1 hv1 => ?_)
  refine m_qIP hv1 (fun x12 hq => ?_)
  clear hv1 v1
  rename mS => s12
  obtain ⟨e12, A12, g12⟩ := hq
  have f12 : fW wScr σ s12 := f11.tr g12
  refine m_i2l dX11_digest_241 ?_
  refine m_ladd dX11_digest_242 ?_
  refine m_lstore_n (ls1 := [(1, _), (3, _), (0, _)]) dX11_digest_243 (by decide) rfl ?_
  refine m_ldc2_w dX11_digest_244 kl_X11_385 ?_
  refine m_lload_n dX11_digest_247 0 rfl ?_
  refine m_lmul dX11_digest_248 ?_
  refine m_aload_n dX11_digest_249 2 rfl ?_
  refine m_callV (As := []) dX11_digest_250 cv_X11_310 (by first | assumption | rfl) (by decide) (by omega) rfl rfl (Nat.le_of_ble_eq_true rfl) (a_carriedOf (d := d - 1) (by omega) A12) (fun v1 σ1 hv1 => ?_)
  refine m_qIP hv1 (fun x13 hq => ?_)
  clear hv1 v1
  rename mS => s13
  obtain ⟨e13, A13, g13⟩ := hq
  have f13 : fW wScr σ s13 := f12.tr g13
  refine m_i2l dX11_digest_253 ?_
  refine m_ladd dX11_digest_254 ?_
  refine m_lstore_n (ls1 := [(1, _), (3, _), (0, _)]) dX11_digest_255 (by decide) rfl ?_
  refine m_ldc2_w dX11_digest_256 kl_X11_385 ?_
  refine m_lload_n dX11_digest_259 0 rfl ?_
  refine m_lmul dX11_digest_260 ?_
  refine m_aload_n dX11_digest_261 2 rfl ?_
  refine m_iconst (v := 0) dX11_digest_262 (by decide) ?_
  refine m_callV (As := [_]) dX11_digest_263 cv_X11_322 (by first | assumption | rfl) (by decide) (by omega) rfl rfl (Nat.le_of_ble_eq_true rfl) (a_ringOf (d := d - 1) (by omega) A13 0) (fun v1 σ1 hv1 => ?_)
  refine m_qIP hv1 (fun x14 hq => ?_)
  clear hv1 v1
  rename mS => s14
  obtain ⟨e14, A14, g14⟩ := hq
  have f14 : fW wScr σ s14 := f13.tr g14
  refine m_i2l dX11_digest_266 ?_
  refine m_ladd dX11_digest_267 ?_
  refine m_lstore_n (ls1 := [(1, _), (3, _), (0, _)]) dX11_digest_268 (by decide) rfl ?_
  refine m_ldc2_w dX11_digest_269 kl_X11_385 ?_
  refine m_lload_n dX11_digest_272 0 rfl ?_
  refine m_lmul dX11_digest_273 ?_
  refine m_aload_n dX11_digest_274 2 rfl ?_
  refine m_iconst (v := 1) dX11_digest_275 (by decide) ?_
  refine m_callV (As := [_]) dX11_digest_276 cv_X11_322 (by first | assumption | rfl) (by decide) (by omega) rfl rfl (Nat.le_of_ble_eq_true rfl) (a_ringOf (d := d - 1) (by omega) A14 1) (fun v1 σ1 hv1 => ?_)
  refine m_qIP hv1 (fun x15 hq => ?_)
  clear hv1 v1
  rename mS => s15
  obtain ⟨e15, A15, g15⟩ := hq
  have f15 : fW wScr σ s15 := f14.tr g15
  refine m_i2l dX11_digest_279 ?_
  refine m_ladd dX11_digest_280 ?_
  refine m_lstore_n (ls1 := [(1, _), (3, _), (0, _)]) dX11_digest_281 (by decide) rfl ?_
  refine m_aload_n dX11_digest_282 2 rfl ?_
  refine m_callV (As := []) dX11_digest_283 cv_X11_328 (by first | assumption | rfl) (by decide) (by omega) rfl rfl (Nat.le_of_ble_eq_true rfl) (a_spareBy (d := d - 1) (by omega) A15) (fun v1 σ1 hv1 => ?_)
  refine m_qIP hv1 (fun r1 hq => ?_)
  clear hv1 v1
  rename mS => s16
  obtain ⟨e16, p1, p2, A16, g16⟩ := hq
  subst e16
  have f16 : fW wScr σ s16 := f15.tr g16
  refine m_istore_n (ls1 := [(3, _), (1, _), (0, _)]) dX11_digest_286 (by decide) rfl ?_
  refine m_ldc2_w dX11_digest_287 kl_X11_385 ?_
  refine m_lload_n dX11_digest_290 1 rfl ?_
  refine m_lmul dX11_digest_291 ?_
  refine m_iload_n dX11_digest_292 0 rfl ?_
  refine m_i2l dX11_digest_293 ?_
  refine m_ladd dX11_digest_294 ?_
  refine m_lstore_n (ls1 := [(1, _), (3, _), (0, _)]) dX11_digest_295 (by decide) rfl ?_
  refine m_ldc2_w dX11_digest_296 kl_X11_385 ?_
  refine m_lload_n dX11_digest_299 0 rfl ?_
  refine m_lmul dX11_digest_300 ?_
  refine m_aload_n dX11_digest_301 2 rfl ?_
  refine m_iload_n dX11_digest_302 1 rfl ?_
  refine m_iconst (v := 0) dX11_digest_303 (by decide) ?_
  refine m_callV (As := [_, _]) dX11_digest_304 cv_X11_331 (by first | assumption | rfl) (by decide) (by omega) rfl rfl (Nat.le_of_ble_eq_true rfl) (a_ofRow (d := d - 1) 0 (Or.inr (Or.inl rfl)) (aD a) p1 p2) (fun v1 σ1 hv1 => ?_)
  refine m_qI hv1 ?_
  clear hv1 v1 σ1
  refine m_i2l dX11_digest_307 ?_
  refine m_ladd dX11_digest_308 ?_
  refine m_lstore_n (ls1 := [(1, _), (3, _), (0, _)]) dX11_digest_309 (by decide) rfl ?_
  refine m_ldc2_w dX11_digest_310 kl_X11_385 ?_
  refine m_lload_n dX11_digest_313 0 rfl ?_
  refine m_lmul dX11_digest_314 ?_
  refine m_aload_n dX11_digest_315 2 rfl ?_
  refine m_callV (As := []) dX11_digest_316 cv_X11_341 (by first | assumption | rfl) (by decide) (by omega) rfl rfl (Nat.le_of_ble_eq_true rfl) (a_neverNow (d := d - 1) (by omega) A16) (fun v1 σ1 hv1 => ?_)
  refine m_qIP hv1 (fun xn hq => ?_)
  clear hv1 v1
  rename mS => s17
  obtain ⟨e17, A17, g17⟩ := hq
  have f17 : fW wScr σ s17 := f16.tr g17
  refine m_i2l dX11_digest_319 ?_
  refine m_ladd dX11_digest_320 ?_
  refine m_lstore_n (ls1 := [(1, _), (3, _), (0, _)]) dX11_digest_321 (by decide) rfl ?_
  refine m_ldc2_w dX11_digest_322 kl_X11_385 ?_
  refine m_lload_n dX11_digest_325 0 rfl ?_
  refine m_lmul dX11_digest_326 ?_
  refine m_aload_n dX11_digest_327 2 rfl ?_
  refine m_bipush (v := 7) dX11_digest_328 (by decide) ?_
  refine m_bipush (v := 6) dX11_digest_330 (by decide) ?_
  refine m_iconst (v := 0) dX11_digest_332 (by decide) ?_
  refine m_callV (As := [_, _, _]) dX11_digest_333 cv_X11_369 (by first | assumption | rfl) (by decide) (by omega) rfl rfl (Nat.le_of_ble_eq_true rfl) (a_agesOf (d := d - 1) (by omega) A17 7 6 (by decide) 0) (fun v1 σ1 hv1 => ?_)
  refine m_qIP hv1 (fun x18 hq => ?_)
  clear hv1 v1
  rename mS => s18
  obtain ⟨e18, A18, g18⟩ := hq
  have f18 : fW wScr σ s18 := f17.tr g18
  refine m_i2l dX11_digest_336 ?_
  refine m_ladd dX11_digest_337 ?_
  refine m_lstore_n (ls1 := [(1, _), (3, _), (0, _)]) dX11_digest_338 (by decide) rfl ?_
  refine m_ldc2_w dX11_digest_339 kl_X11_385 ?_
  refine m_lload_n dX11_digest_342 0 rfl ?_
  refine m_lmul dX11_digest_343 ?_
  refine m_aload_n dX11_digest_344 2 rfl ?_
  refine m_bipush (v := 7) dX11_digest_345 (by decide) ?_
  refine m_bipush (v := 6) dX11_digest_347 (by decide) ?_
  refine m_iconst (v := 1) dX11_digest_349 (by decide) ?_
  refine m_callV (As := [_, _, _]) dX11_digest_350 cv_X11_369 (by first | assumption | rfl) (by decide) (by omega) rfl rfl (Nat.le_of_ble_eq_true rfl) (a_agesOf (d := d - 1) (by omega) A18 7 6 (by decide) 1) (fun v1 σ1 hv1 => ?_)
  refine m_qIP hv1 (fun x19 hq => ?_)
  clear hv1 v1
  rename mS => s19
  obtain ⟨e19, A19, g19⟩ := hq
  have f19 : fW wScr σ s19 := f18.tr g19
  refine m_i2l dX11_digest_353 ?_
  refine m_ladd dX11_digest_354 ?_
  refine m_lreturn dX11_digest_355 ⟨_, rfl, ?_, A19, f19⟩
  rw [dgA, dg7, dg6, e7, e8, e9, e10, e11, e12, e13, e14, e15, e17, e18, e19]
  rfl
end DG


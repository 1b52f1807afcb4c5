/-! ===== the reference: copy, read, write ===== -/
abbrev cpOK (i n : Int32) (S : Nat) : Prop := 0 ≤ i ∧ 0 ≤ n ∧ cN i + cN n ≤ S
def cpF (ths tht fs ft : Int32) (Ss St : Nat) (i j n : Int32) : Int32 := if ths = 0 ∨ tht = 0 then 1 else if fs = ft then (if cpOK i n Ss ∧ cpOK j n St then 0 else 2) else 4
def cyS (th f0 : Nat → Int32) (S : Nat → Nat) (s i t j n : Int32) : Int32 := cpF (th (cN s)) (th (cN t)) (f0 (cN s)) (f0 (cN t)) (S (cN s)) (S (cN t)) i j n
def cyR (th f0 : Nat → Int32) (S : Nat → Nat) (s i t j n : Int32) : Int32 := if wI s 4 ∧ wI t 4 then (if cyS th f0 S s i t j n = 0 then 1 else -10 - cyS th f0 S s i t j n) else -2
theorem lcmp_gt {x y : Int64} : 0 < lg_cmp x y ↔ y < x := by
  have h := lcmp_le (x := x) (y := y)
  constructor
  · intro q; exact Decidable.not_not.mp (fun z => absurd q (Int32.not_lt.mpr (h.mpr z)))
  · intro q; exact Int32.not_le.mp (fun z => h.mp z q)
abbrev fitE (k m c : Int32) : Prop := wI k 2 ∧ wI m 24 ∧ wI c 8
/-- how many events are read -/
def rdK (n e : Nat) (it : Nat → Int32) : Nat → Nat → Nat
  | 0, k => k
  | f + 1, k => if 3 * k + 2 < n ∧ fitE (it (3 * k)) (it (3 * k + 1)) (it (3 * k + 2)) ∧ e + k < 8 then rdK n e it f (k + 1) else k
def reR (th : Nat → Int32) (S : Nat → Nat) (it : Nat → Int32) (e : Nat) (s : Int32) : Int32 := if wI s 4 then (if th (cN s) = 0 then -11 else nI (rdK (S (cN s)) e (fun i => it (60 * cN s + i)) 9 0)) else -2
def wrR (n : Nat) (th : Nat → Int32) (S : Nat → Nat) (k s : Int32) : Int32 := if wI k n ∧ wI s 4 then (if th (cN s) = 0 then -11 else nI (min (S (cN s)) 24)) else -2
section CY
variable {G : mG} {l : Launch} {d : Nat} {σ : mS} {a : PA}
theorem dX11_copy_0 : decode cX11_copy 0 = .ok (.iload_n 1, 1) := by decide +kernel
theorem dX11_copy_1 : decode cX11_copy 1 = .ok (.invokestatic 207, 3) := by decide +kernel
theorem dX11_copy_4 : decode cX11_copy 4 = .ok (.ifCond .eq 10, 3) := by decide +kernel
theorem dX11_copy_7 : decode cX11_copy 7 = .ok (.iload_n 3, 1) := by decide +kernel
theorem dX11_copy_8 : decode cX11_copy 8 = .ok (.invokestatic 207, 3) := by decide +kernel
theorem dX11_copy_11 : decode cX11_copy 11 = .ok (.ifCond .ne 6, 3) := by decide +kernel
theorem dX11_copy_14 : decode cX11_copy 14 = .ok (.bipush (-2), 2) := by decide +kernel
theorem dX11_copy_16 : decode cX11_copy 16 = .ok (.ireturn, 1) := by decide +kernel
theorem dX11_copy_17 : decode cX11_copy 17 = .ok (.aload_n 0, 1) := by decide +kernel
theorem dX11_copy_18 : decode cX11_copy 18 = .ok (.getfield 118, 3) := by decide +kernel
theorem dX11_copy_21 : decode cX11_copy 21 = .ok (.iload_n 1, 1) := by decide +kernel
theorem dX11_copy_22 : decode cX11_copy 22 = .ok (.baload, 1) := by decide +kernel
theorem dX11_copy_23 : decode cX11_copy 23 = .ok (.ifCond .eq 12, 3) := by decide +kernel
theorem dX11_copy_26 : decode cX11_copy 26 = .ok (.aload_n 0, 1) := by decide +kernel
theorem dX11_copy_27 : decode cX11_copy 27 = .ok (.getfield 118, 3) := by decide +kernel
theorem dX11_copy_30 : decode cX11_copy 30 = .ok (.iload_n 3, 1) := by decide +kernel
theorem dX11_copy_31 : decode cX11_copy 31 = .ok (.baload, 1) := by decide +kernel
theorem dX11_copy_32 : decode cX11_copy 32 = .ok (.ifCond .ne 9, 3) := by decide +kernel
theorem dX11_copy_35 : decode cX11_copy 35 = .ok (.aload_n 0, 1) := by decide +kernel
theorem dX11_copy_36 : decode cX11_copy 36 = .ok (.iconst 1, 1) := by decide +kernel
theorem dX11_copy_37 : decode cX11_copy 37 = .ok (.invokevirtual 210, 3) := by decide +kernel
theorem dX11_copy_40 : decode cX11_copy 40 = .ok (.ireturn, 1) := by decide +kernel
theorem dX11_copy_41 : decode cX11_copy 41 = .ok (.aload_n 0, 1) := by decide +kernel
theorem dX11_copy_42 : decode cX11_copy 42 = .ok (.getfield 122, 3) := by decide +kernel
theorem dX11_copy_45 : decode cX11_copy 45 = .ok (.iload_n 1, 1) := by decide +kernel
theorem dX11_copy_46 : decode cX11_copy 46 = .ok (.iaload, 1) := by decide +kernel
theorem dX11_copy_47 : decode cX11_copy 47 = .ok (.aload_n 0, 1) := by decide +kernel
theorem dX11_copy_48 : decode cX11_copy 48 = .ok (.getfield 122, 3) := by decide +kernel
theorem dX11_copy_51 : decode cX11_copy 51 = .ok (.iload_n 3, 1) := by decide +kernel
theorem dX11_copy_52 : decode cX11_copy 52 = .ok (.iaload, 1) := by decide +kernel
theorem dX11_copy_53 : decode cX11_copy 53 = .ok (.if_icmp .eq 9, 3) := by decide +kernel
theorem dX11_copy_56 : decode cX11_copy 56 = .ok (.aload_n 0, 1) := by decide +kernel
theorem dX11_copy_57 : decode cX11_copy 57 = .ok (.iconst 4, 1) := by decide +kernel
theorem dX11_copy_58 : decode cX11_copy 58 = .ok (.invokevirtual 210, 3) := by decide +kernel
theorem dX11_copy_61 : decode cX11_copy 61 = .ok (.ireturn, 1) := by decide +kernel
theorem dX11_copy_62 : decode cX11_copy 62 = .ok (.iload_n 2, 1) := by decide +kernel
theorem dX11_copy_63 : decode cX11_copy 63 = .ok (.ifCond .lt 48, 3) := by decide +kernel
theorem dX11_copy_66 : decode cX11_copy 66 = .ok (.iload 4, 2) := by decide +kernel
theorem dX11_copy_68 : decode cX11_copy 68 = .ok (.ifCond .lt 43, 3) := by decide +kernel
theorem dX11_copy_71 : decode cX11_copy 71 = .ok (.iload 5, 2) := by decide +kernel
theorem dX11_copy_73 : decode cX11_copy 73 = .ok (.ifCond .lt 38, 3) := by decide +kernel
theorem dX11_copy_76 : decode cX11_copy 76 = .ok (.iload_n 2, 1) := by decide +kernel
theorem dX11_copy_77 : decode cX11_copy 77 = .ok (.i2l, 1) := by decide +kernel
theorem dX11_copy_78 : decode cX11_copy 78 = .ok (.iload 5, 2) := by decide +kernel
theorem dX11_copy_80 : decode cX11_copy 80 = .ok (.i2l, 1) := by decide +kernel
theorem dX11_copy_81 : decode cX11_copy 81 = .ok (.ladd, 1) := by decide +kernel
theorem dX11_copy_82 : decode cX11_copy 82 = .ok (.aload_n 0, 1) := by decide +kernel
theorem dX11_copy_83 : decode cX11_copy 83 = .ok (.getfield 125, 3) := by decide +kernel
theorem dX11_copy_86 : decode cX11_copy 86 = .ok (.iload_n 1, 1) := by decide +kernel
theorem dX11_copy_87 : decode cX11_copy 87 = .ok (.iaload, 1) := by decide +kernel
theorem dX11_copy_88 : decode cX11_copy 88 = .ok (.i2l, 1) := by decide +kernel
theorem dX11_copy_89 : decode cX11_copy 89 = .ok (.lcmp, 1) := by decide +kernel
theorem dX11_copy_90 : decode cX11_copy 90 = .ok (.ifCond .gt 21, 3) := by decide +kernel
theorem dX11_copy_93 : decode cX11_copy 93 = .ok (.iload 4, 2) := by decide +kernel
theorem dX11_copy_95 : decode cX11_copy 95 = .ok (.i2l, 1) := by decide +kernel
theorem dX11_copy_96 : decode cX11_copy 96 = .ok (.iload 5, 2) := by decide +kernel
theorem dX11_copy_98 : decode cX11_copy 98 = .ok (.i2l, 1) := by decide +kernel
theorem dX11_copy_99 : decode cX11_copy 99 = .ok (.ladd, 1) := by decide +kernel
theorem dX11_copy_100 : decode cX11_copy 100 = .ok (.aload_n 0, 1) := by decide +kernel
theorem dX11_copy_101 : decode cX11_copy 101 = .ok (.getfield 125, 3) := by decide +kernel
theorem dX11_copy_104 : decode cX11_copy 104 = .ok (.iload_n 3, 1) := by decide +kernel
theorem dX11_copy_105 : decode cX11_copy 105 = .ok (.iaload, 1) := by decide +kernel
theorem dX11_copy_106 : decode cX11_copy 106 = .ok (.i2l, 1) := by decide +kernel
theorem dX11_copy_107 : decode cX11_copy 107 = .ok (.lcmp, 1) := by decide +kernel
theorem dX11_copy_108 : decode cX11_copy 108 = .ok (.ifCond .le 9, 3) := by decide +kernel
theorem dX11_copy_111 : decode cX11_copy 111 = .ok (.aload_n 0, 1) := by decide +kernel
theorem dX11_copy_112 : decode cX11_copy 112 = .ok (.iconst 2, 1) := by decide +kernel
theorem dX11_copy_113 : decode cX11_copy 113 = .ok (.invokevirtual 210, 3) := by decide +kernel
theorem dX11_copy_116 : decode cX11_copy 116 = .ok (.ireturn, 1) := by decide +kernel
theorem dX11_copy_117 : decode cX11_copy 117 = .ok (.iconst 0, 1) := by decide +kernel
theorem dX11_copy_118 : decode cX11_copy 118 = .ok (.istore 6, 2) := by decide +kernel
theorem dX11_copy_120 : decode cX11_copy 120 = .ok (.iload 6, 2) := by decide +kernel
theorem dX11_copy_122 : decode cX11_copy 122 = .ok (.iload 5, 2) := by decide +kernel
theorem dX11_copy_124 : decode cX11_copy 124 = .ok (.if_icmp .ge 30, 3) := by decide +kernel
theorem dX11_copy_127 : decode cX11_copy 127 = .ok (.aload_n 0, 1) := by decide +kernel
theorem dX11_copy_128 : decode cX11_copy 128 = .ok (.getfield 131, 3) := by decide +kernel
theorem dX11_copy_131 : decode cX11_copy 131 = .ok (.iload 6, 2) := by decide +kernel
theorem dX11_copy_133 : decode cX11_copy 133 = .ok (.aload_n 0, 1) := by decide +kernel
theorem dX11_copy_134 : decode cX11_copy 134 = .ok (.getfield 128, 3) := by decide +kernel
theorem dX11_copy_137 : decode cX11_copy 137 = .ok (.bipush 60, 2) := by decide +kernel
theorem dX11_copy_139 : decode cX11_copy 139 = .ok (.iload_n 1, 1) := by decide +kernel
theorem dX11_copy_140 : decode cX11_copy 140 = .ok (.imul, 1) := by decide +kernel
theorem dX11_copy_141 : decode cX11_copy 141 = .ok (.iload_n 2, 1) := by decide +kernel
theorem dX11_copy_142 : decode cX11_copy 142 = .ok (.iadd, 1) := by decide +kernel
theorem dX11_copy_143 : decode cX11_copy 143 = .ok (.iload 6, 2) := by decide +kernel
theorem dX11_copy_145 : decode cX11_copy 145 = .ok (.iadd, 1) := by decide +kernel
theorem dX11_copy_146 : decode cX11_copy 146 = .ok (.iaload, 1) := by decide +kernel
theorem dX11_copy_147 : decode cX11_copy 147 = .ok (.iastore, 1) := by decide +kernel
theorem dX11_copy_148 : decode cX11_copy 148 = .ok (.iinc 6 1, 3) := by decide +kernel
theorem dX11_copy_151 : decode cX11_copy 151 = .ok (.goto (-31), 3) := by decide +kernel
theorem dX11_copy_154 : decode cX11_copy 154 = .ok (.iconst 0, 1) := by decide +kernel
theorem dX11_copy_155 : decode cX11_copy 155 = .ok (.istore 6, 2) := by decide +kernel
theorem dX11_copy_157 : decode cX11_copy 157 = .ok (.iload 6, 2) := by decide +kernel
theorem dX11_copy_159 : decode cX11_copy 159 = .ok (.iload 5, 2) := by decide +kernel
theorem dX11_copy_161 : decode cX11_copy 161 = .ok (.if_icmp .ge 31, 3) := by decide +kernel
theorem dX11_copy_164 : decode cX11_copy 164 = .ok (.aload_n 0, 1) := by decide +kernel
theorem dX11_copy_165 : decode cX11_copy 165 = .ok (.getfield 128, 3) := by decide +kernel
theorem dX11_copy_168 : decode cX11_copy 168 = .ok (.bipush 60, 2) := by decide +kernel
theorem dX11_copy_170 : decode cX11_copy 170 = .ok (.iload_n 3, 1) := by decide +kernel
theorem dX11_copy_171 : decode cX11_copy 171 = .ok (.imul, 1) := by decide +kernel
theorem dX11_copy_172 : decode cX11_copy 172 = .ok (.iload 4, 2) := by decide +kernel
theorem dX11_copy_174 : decode cX11_copy 174 = .ok (.iadd, 1) := by decide +kernel
theorem dX11_copy_175 : decode cX11_copy 175 = .ok (.iload 6, 2) := by decide +kernel
theorem dX11_copy_177 : decode cX11_copy 177 = .ok (.iadd, 1) := by decide +kernel
theorem dX11_copy_178 : decode cX11_copy 178 = .ok (.aload_n 0, 1) := by decide +kernel
theorem dX11_copy_179 : decode cX11_copy 179 = .ok (.getfield 131, 3) := by decide +kernel
theorem dX11_copy_182 : decode cX11_copy 182 = .ok (.iload 6, 2) := by decide +kernel
theorem dX11_copy_184 : decode cX11_copy 184 = .ok (.iaload, 1) := by decide +kernel
theorem dX11_copy_185 : decode cX11_copy 185 = .ok (.iastore, 1) := by decide +kernel
theorem dX11_copy_186 : decode cX11_copy 186 = .ok (.iinc 6 1, 3) := by decide +kernel
theorem dX11_copy_189 : decode cX11_copy 189 = .ok (.goto (-32), 3) := by decide +kernel
theorem dX11_copy_192 : decode cX11_copy 192 = .ok (.iconst 1, 1) := by decide +kernel
theorem dX11_copy_193 : decode cX11_copy 193 = .ok (.ireturn, 1) := by decide +kernel
theorem dX11_read_0 : decode cX11_read 0 = .ok (.iload_n 1, 1) := by decide +kernel
theorem dX11_read_1 : decode cX11_read 1 = .ok (.invokestatic 207, 3) := by decide +kernel
theorem dX11_read_4 : decode cX11_read 4 = .ok (.ifCond .ne 6, 3) := by decide +kernel
theorem dX11_read_7 : decode cX11_read 7 = .ok (.bipush (-2), 2) := by decide +kernel
theorem dX11_read_9 : decode cX11_read 9 = .ok (.ireturn, 1) := by decide +kernel
theorem dX11_read_10 : decode cX11_read 10 = .ok (.aload_n 0, 1) := by decide +kernel
theorem dX11_read_11 : decode cX11_read 11 = .ok (.getfield 118, 3) := by decide +kernel
theorem dX11_read_14 : decode cX11_read 14 = .ok (.iload_n 1, 1) := by decide +kernel
theorem dX11_read_15 : decode cX11_read 15 = .ok (.baload, 1) := by decide +kernel
theorem dX11_read_16 : decode cX11_read 16 = .ok (.ifCond .ne 9, 3) := by decide +kernel
theorem dX11_read_19 : decode cX11_read 19 = .ok (.aload_n 0, 1) := by decide +kernel
theorem dX11_read_20 : decode cX11_read 20 = .ok (.iconst 1, 1) := by decide +kernel
theorem dX11_read_21 : decode cX11_read 21 = .ok (.invokevirtual 210, 3) := by decide +kernel
theorem dX11_read_24 : decode cX11_read 24 = .ok (.ireturn, 1) := by decide +kernel
theorem dX11_read_25 : decode cX11_read 25 = .ok (.iconst 0, 1) := by decide +kernel
theorem dX11_read_26 : decode cX11_read 26 = .ok (.istore_n 2, 1) := by decide +kernel
theorem dX11_read_27 : decode cX11_read 27 = .ok (.bipush 60, 2) := by decide +kernel
theorem dX11_read_29 : decode cX11_read 29 = .ok (.iload_n 1, 1) := by decide +kernel
theorem dX11_read_30 : decode cX11_read 30 = .ok (.imul, 1) := by decide +kernel
theorem dX11_read_31 : decode cX11_read 31 = .ok (.istore_n 3, 1) := by decide +kernel
theorem dX11_read_32 : decode cX11_read 32 = .ok (.iconst 3, 1) := by decide +kernel
theorem dX11_read_33 : decode cX11_read 33 = .ok (.iload_n 2, 1) := by decide +kernel
theorem dX11_read_34 : decode cX11_read 34 = .ok (.imul, 1) := by decide +kernel
theorem dX11_read_35 : decode cX11_read 35 = .ok (.iconst 2, 1) := by decide +kernel
theorem dX11_read_36 : decode cX11_read 36 = .ok (.iadd, 1) := by decide +kernel
theorem dX11_read_37 : decode cX11_read 37 = .ok (.aload_n 0, 1) := by decide +kernel
theorem dX11_read_38 : decode cX11_read 38 = .ok (.getfield 125, 3) := by decide +kernel
theorem dX11_read_41 : decode cX11_read 41 = .ok (.iload_n 1, 1) := by decide +kernel
theorem dX11_read_42 : decode cX11_read 42 = .ok (.iaload, 1) := by decide +kernel
theorem dX11_read_43 : decode cX11_read 43 = .ok (.if_icmp .ge 50, 3) := by decide +kernel
theorem dX11_read_46 : decode cX11_read 46 = .ok (.aload_n 0, 1) := by decide +kernel
theorem dX11_read_47 : decode cX11_read 47 = .ok (.aload_n 0, 1) := by decide +kernel
theorem dX11_read_48 : decode cX11_read 48 = .ok (.getfield 128, 3) := by decide +kernel
theorem dX11_read_51 : decode cX11_read 51 = .ok (.iload_n 3, 1) := by decide +kernel
theorem dX11_read_52 : decode cX11_read 52 = .ok (.iconst 3, 1) := by decide +kernel
theorem dX11_read_53 : decode cX11_read 53 = .ok (.iload_n 2, 1) := by decide +kernel
theorem dX11_read_54 : decode cX11_read 54 = .ok (.imul, 1) := by decide +kernel
theorem dX11_read_55 : decode cX11_read 55 = .ok (.iadd, 1) := by decide +kernel
theorem dX11_read_56 : decode cX11_read 56 = .ok (.iaload, 1) := by decide +kernel
theorem dX11_read_57 : decode cX11_read 57 = .ok (.aload_n 0, 1) := by decide +kernel
theorem dX11_read_58 : decode cX11_read 58 = .ok (.getfield 128, 3) := by decide +kernel
theorem dX11_read_61 : decode cX11_read 61 = .ok (.iload_n 3, 1) := by decide +kernel
theorem dX11_read_62 : decode cX11_read 62 = .ok (.iconst 3, 1) := by decide +kernel
theorem dX11_read_63 : decode cX11_read 63 = .ok (.iload_n 2, 1) := by decide +kernel
theorem dX11_read_64 : decode cX11_read 64 = .ok (.imul, 1) := by decide +kernel
theorem dX11_read_65 : decode cX11_read 65 = .ok (.iadd, 1) := by decide +kernel
theorem dX11_read_66 : decode cX11_read 66 = .ok (.iconst 1, 1) := by decide +kernel
theorem dX11_read_67 : decode cX11_read 67 = .ok (.iadd, 1) := by decide +kernel
theorem dX11_read_68 : decode cX11_read 68 = .ok (.iaload, 1) := by decide +kernel
theorem dX11_read_69 : decode cX11_read 69 = .ok (.aload_n 0, 1) := by decide +kernel
theorem dX11_read_70 : decode cX11_read 70 = .ok (.getfield 128, 3) := by decide +kernel
theorem dX11_read_73 : decode cX11_read 73 = .ok (.iload_n 3, 1) := by decide +kernel
theorem dX11_read_74 : decode cX11_read 74 = .ok (.iconst 3, 1) := by decide +kernel
theorem dX11_read_75 : decode cX11_read 75 = .ok (.iload_n 2, 1) := by decide +kernel
theorem dX11_read_76 : decode cX11_read 76 = .ok (.imul, 1) := by decide +kernel
theorem dX11_read_77 : decode cX11_read 77 = .ok (.iadd, 1) := by decide +kernel
theorem dX11_read_78 : decode cX11_read 78 = .ok (.iconst 2, 1) := by decide +kernel
theorem dX11_read_79 : decode cX11_read 79 = .ok (.iadd, 1) := by decide +kernel
theorem dX11_read_80 : decode cX11_read 80 = .ok (.iaload, 1) := by decide +kernel
theorem dX11_read_81 : decode cX11_read 81 = .ok (.invokevirtual 213, 3) := by decide +kernel
theorem dX11_read_84 : decode cX11_read 84 = .ok (.ifCond .le 9, 3) := by decide +kernel
theorem dX11_read_87 : decode cX11_read 87 = .ok (.iinc 2 1, 3) := by decide +kernel
theorem dX11_read_90 : decode cX11_read 90 = .ok (.goto (-58), 3) := by decide +kernel
theorem dX11_read_93 : decode cX11_read 93 = .ok (.iload_n 2, 1) := by decide +kernel
theorem dX11_read_94 : decode cX11_read 94 = .ok (.ireturn, 1) := by decide +kernel
theorem dX11_write_0 : decode cX11_write 0 = .ok (.aload_n 0, 1) := by decide +kernel
theorem dX11_write_1 : decode cX11_write 1 = .ok (.iload_n 1, 1) := by decide +kernel
theorem dX11_write_2 : decode cX11_write 2 = .ok (.invokevirtual 183, 3) := by decide +kernel
theorem dX11_write_5 : decode cX11_write 5 = .ok (.ifCond .eq 10, 3) := by decide +kernel
theorem dX11_write_8 : decode cX11_write 8 = .ok (.iload_n 2, 1) := by decide +kernel
theorem dX11_write_9 : decode cX11_write 9 = .ok (.invokestatic 207, 3) := by decide +kernel
theorem dX11_write_12 : decode cX11_write 12 = .ok (.ifCond .ne 6, 3) := by decide +kernel
theorem dX11_write_15 : decode cX11_write 15 = .ok (.bipush (-2), 2) := by decide +kernel
theorem dX11_write_17 : decode cX11_write 17 = .ok (.ireturn, 1) := by decide +kernel
theorem dX11_write_18 : decode cX11_write 18 = .ok (.aload_n 0, 1) := by decide +kernel
theorem dX11_write_19 : decode cX11_write 19 = .ok (.getfield 118, 3) := by decide +kernel
theorem dX11_write_22 : decode cX11_write 22 = .ok (.iload_n 2, 1) := by decide +kernel
theorem dX11_write_23 : decode cX11_write 23 = .ok (.baload, 1) := by decide +kernel
theorem dX11_write_24 : decode cX11_write 24 = .ok (.ifCond .ne 9, 3) := by decide +kernel
theorem dX11_write_27 : decode cX11_write 27 = .ok (.aload_n 0, 1) := by decide +kernel
theorem dX11_write_28 : decode cX11_write 28 = .ok (.iconst 1, 1) := by decide +kernel
theorem dX11_write_29 : decode cX11_write 29 = .ok (.invokevirtual 210, 3) := by decide +kernel
theorem dX11_write_32 : decode cX11_write 32 = .ok (.ireturn, 1) := by decide +kernel
theorem dX11_write_33 : decode cX11_write 33 = .ok (.aload_n 0, 1) := by decide +kernel
theorem dX11_write_34 : decode cX11_write 34 = .ok (.invokevirtual 276, 3) := by decide +kernel
theorem dX11_write_37 : decode cX11_write 37 = .ok (.iconst 0, 1) := by decide +kernel
theorem dX11_write_38 : decode cX11_write 38 = .ok (.istore_n 3, 1) := by decide +kernel
theorem dX11_write_39 : decode cX11_write 39 = .ok (.iload_n 3, 1) := by decide +kernel
theorem dX11_write_40 : decode cX11_write 40 = .ok (.aload_n 0, 1) := by decide +kernel
theorem dX11_write_41 : decode cX11_write 41 = .ok (.getfield 125, 3) := by decide +kernel
theorem dX11_write_44 : decode cX11_write 44 = .ok (.iload_n 2, 1) := by decide +kernel
theorem dX11_write_45 : decode cX11_write 45 = .ok (.iaload, 1) := by decide +kernel
theorem dX11_write_46 : decode cX11_write 46 = .ok (.if_icmp .ge 32, 3) := by decide +kernel
theorem dX11_write_49 : decode cX11_write 49 = .ok (.iload_n 3, 1) := by decide +kernel
theorem dX11_write_50 : decode cX11_write 50 = .ok (.bipush 24, 2) := by decide +kernel
theorem dX11_write_52 : decode cX11_write 52 = .ok (.if_icmp .ge 26, 3) := by decide +kernel
theorem dX11_write_55 : decode cX11_write 55 = .ok (.aload_n 0, 1) := by decide +kernel
theorem dX11_write_56 : decode cX11_write 56 = .ok (.iload_n 2, 1) := by decide +kernel
theorem dX11_write_57 : decode cX11_write 57 = .ok (.iload_n 3, 1) := by decide +kernel
theorem dX11_write_58 : decode cX11_write 58 = .ok (.aload_n 0, 1) := by decide +kernel
theorem dX11_write_59 : decode cX11_write 59 = .ok (.getfield 85, 3) := by decide +kernel
theorem dX11_write_62 : decode cX11_write 62 = .ok (.bipush 8, 2) := by decide +kernel
theorem dX11_write_64 : decode cX11_write 64 = .ok (.iload_n 3, 1) := by decide +kernel
theorem dX11_write_65 : decode cX11_write 65 = .ok (.imul, 1) := by decide +kernel
theorem dX11_write_66 : decode cX11_write 66 = .ok (.iload_n 1, 1) := by decide +kernel
theorem dX11_write_67 : decode cX11_write 67 = .ok (.iadd, 1) := by decide +kernel
theorem dX11_write_68 : decode cX11_write 68 = .ok (.iaload, 1) := by decide +kernel
theorem dX11_write_69 : decode cX11_write 69 = .ok (.invokevirtual 378, 3) := by decide +kernel
theorem dX11_write_72 : decode cX11_write 72 = .ok (.iinc 3 1, 3) := by decide +kernel
theorem dX11_write_75 : decode cX11_write 75 = .ok (.goto (-36), 3) := by decide +kernel
theorem dX11_write_78 : decode cX11_write 78 = .ok (.iload_n 3, 1) := by decide +kernel
theorem dX11_write_79 : decode cX11_write 79 = .ok (.ireturn, 1) := by decide +kernel
theorem r_copy (hd : 2 ≤ d) (S : Nat → Nat) (hS : okH σ S) (s i t j n : Int32) : mMet G l d kX11_copy [.ref 111, .int s, .int i, .int t, .int j, .int n] σ (qIP (fun r s1 => r = cyR (σ.1 148) (σ.1 149) S s i t j n ∧ (¬ (wI s 4 ∧ wI t 4) → s1 = σ) ∧ ((wI s 4 ∧ wI t 4) → cyS (σ.1 148) (σ.1 149) S s i t j n ≠ 0 → s1 = us σ 111 52 (cyS (σ.1 148) (σ.1 149) S s i t j n)) ∧ ((wI s 4 ∧ wI t 4) → cyS (σ.1 148) (σ.1 149) S s i t j n = 0 → (∀ k, k < cN n → s1.1 151 (60 * cN t + cN j + k) = σ.1 151 (60 * cN s + cN i + k)) ∧ fW (fun y z => y = 152 ∨ (y = 151 ∧ 60 * cN t + cN j ≤ z ∧ z < 60 * cN t + cN j + cN n)) σ s1))) := by
  refine mMet.of cm_X11_copy rfl (Nat.le_of_ble_eq_true rfl) rfl (fun v1 σ1 h => by obtain ⟨r, h1, -⟩ := h; rw [h1]; rfl) ?_
  unfold cyR cyS
  refine m_iload_n dX11_copy_0 1 rfl ?_
  refine m_callS (As := [_]) dX11_copy_1 cs_X11_207 (by omega) rfl rfl (Nat.le_of_ble_eq_true rfl) (c_isSheet (d := d - 1) (by omega) s) (fun v1 σ1 hv1 => ?_)
  refine m_qI hv1 ?_
  clear hv1 v1 σ1
  refine m_if_eq dX11_copy_4 14 (by decide) (fun h0 => ?_) (fun h0 => ?_)
  · have g0 : ¬ (wI s 4 ∧ wI t 4) := fun q => bI0 h0 ((wI_le (n := 3) (by decide)).mpr q.1)
    refine m_bipush (v := -2) dX11_copy_14 (by decide) ?_
    exact m_ireturn dX11_copy_16 ⟨_, rfl, by rw [if_neg g0], fun _ => rfl, fun q => absurd q g0, fun q => absurd q g0⟩
  have w0 : wI s 4 := (wI_le (n := 3) (by decide)).mp (bI1 h0)
  refine m_iload_n dX11_copy_7 3 rfl ?_
  refine m_callS (As := [_]) dX11_copy_8 cs_X11_207 (by omega) rfl rfl (Nat.le_of_ble_eq_true rfl) (c_isSheet (d := d - 1) (by omega) t) (fun v1 σ1 hv1 => ?_)
  refine m_qI hv1 ?_
  clear hv1 v1 σ1
  refine m_if_ne dX11_copy_11 17 (by decide) (fun h1 => ?_) (fun h1 => ?_)
  rotate_left
  · have g0 : ¬ (wI s 4 ∧ wI t 4) := fun q => bI0 h1 ((wI_le (n := 3) (by decide)).mpr q.2)
    refine m_bipush (v := -2) dX11_copy_14 (by decide) ?_
    exact m_ireturn dX11_copy_16 ⟨_, rfl, by rw [if_neg g0], fun _ => rfl, fun q => absurd q g0, fun q => absurd q g0⟩
  have w1 : wI t 4 := (wI_le (n := 3) (by decide)).mp (bI1 h1)
  have gg : wI s 4 ∧ wI t 4 := ⟨w0, w1⟩
  rw [if_pos gg]
  clear h0 h1
  obtain ⟨u, hu, rfl⟩ := wI_of (by omega) w0
  obtain ⟨v, hv, rfl⟩ := wI_of (by omega) w1
  rw [clN (show u < 1000 by omega), clN (show v < 1000 by omega)]
  obtain ⟨u1, u2, u3⟩ := hS u hu
  obtain ⟨v1, v2, v3⟩ := hS v hv
  have fin : ∀ c : Int32, c ≠ 0 → cpF (σ.1 148 u) (σ.1 148 v) (σ.1 149 u) (σ.1 149 v) (S u) (S v) i j n = c → qIP (fun r s1 => r = (if cpF (σ.1 148 u) (σ.1 148 v) (σ.1 149 u) (σ.1 149 v) (S u) (S v) i j n = 0 then 1 else -10 - cpF (σ.1 148 u) (σ.1 148 v) (σ.1 149 u) (σ.1 149 v) (S u) (S v) i j n) ∧ (¬ (wI (nI u) 4 ∧ wI (nI v) 4) → s1 = σ) ∧ ((wI (nI u) 4 ∧ wI (nI v) 4) → cpF (σ.1 148 u) (σ.1 148 v) (σ.1 149 u) (σ.1 149 v) (S u) (S v) i j n ≠ 0 → s1 = us σ 111 52 (cpF (σ.1 148 u) (σ.1 148 v) (σ.1 149 u) (σ.1 149 v) (S u) (S v) i j n)) ∧ ((wI (nI u) 4 ∧ wI (nI v) 4) → cpF (σ.1 148 u) (σ.1 148 v) (σ.1 149 u) (σ.1 149 v) (S u) (S v) i j n = 0 → (∀ k, k < cN n → s1.1 151 (60 * v + cN j + k) = σ.1 151 (60 * u + cN i + k)) ∧ fW (fun y z => y = 152 ∨ (y = 151 ∧ 60 * v + cN j ≤ z ∧ z < 60 * v + cN j + cN n)) σ s1)) (some (.int (-10 - c))) (us σ 111 52 c) := by
    intro c hc e
    rw [e]
    exact ⟨_, rfl, by rw [if_neg hc], fun q => absurd gg q, fun _ _ => rfl, fun _ q => absurd q hc⟩
  have k1 : (σ.1 148 u = 0 ∨ σ.1 148 v = 0) → cpF (σ.1 148 u) (σ.1 148 v) (σ.1 149 u) (σ.1 149 v) (S u) (S v) i j n = 1 := fun q => by unfold cpF; rw [if_pos q]
  have k4 : ¬ (σ.1 148 u = 0 ∨ σ.1 148 v = 0) → ¬ σ.1 149 u = σ.1 149 v → cpF (σ.1 148 u) (σ.1 148 v) (σ.1 149 u) (σ.1 149 v) (S u) (S v) i j n = 4 := fun q q1 => by unfold cpF; rw [if_neg q, if_neg q1]
  have k2 : ¬ (σ.1 148 u = 0 ∨ σ.1 148 v = 0) → σ.1 149 u = σ.1 149 v → ¬ (cpOK i n (S u) ∧ cpOK j n (S v)) → cpF (σ.1 148 u) (σ.1 148 v) (σ.1 149 u) (σ.1 149 v) (S u) (S v) i j n = 2 := fun q q1 q2 => by unfold cpF; rw [if_neg q, if_pos q1, if_neg q2]
  have k0 : ¬ (σ.1 148 u = 0 ∨ σ.1 148 v = 0) → σ.1 149 u = σ.1 149 v → (cpOK i n (S u) ∧ cpOK j n (S v)) → cpF (σ.1 148 u) (σ.1 148 v) (σ.1 149 u) (σ.1 149 v) (S u) (S v) i j n = 0 := fun q q1 q2 => by unfold cpF; rw [if_neg q, if_pos q1, if_pos q2]
  refine m_aload_n dX11_copy_17 0 rfl ?_
  refine m_getR 47 148 dX11_copy_18 fl_X11_118_10 rfl (by decide) rfl (by first | assumption | rfl) ?_
  refine m_iload_n dX11_copy_21 1 rfl ?_
  refine m_zald dX11_copy_22 (by first | assumption | rfl) u rfl (by first | assumption | omega)  ?_
  refine m_if_eq dX11_copy_23 35 (by decide) (fun h2 => ?_) (fun h2 => ?_)
  · refine m_aload_n dX11_copy_35 0 rfl ?_
    refine m_iconst (v := 1) dX11_copy_36 (by decide) ?_
    refine m_callV (As := [_]) dX11_copy_37 cv_X11_210 (by first | assumption | rfl) (by decide) (by omega) rfl rfl (Nat.le_of_ble_eq_true rfl) (c_meets (d := d - 1) 1) (fun v1 σ1 hv1 => ?_)
    refine m_qI hv1 ?_
    clear hv1 v1 σ1
    exact m_ireturn dX11_copy_40 (fin 1 (by decide) (k1 (Or.inl h2)))
  refine m_aload_n dX11_copy_26 0 rfl ?_
  refine m_getR 47 148 dX11_copy_27 fl_X11_118_10 rfl (by decide) rfl (by first | assumption | rfl) ?_
  refine m_iload_n dX11_copy_30 3 rfl ?_
  refine m_zald dX11_copy_31 (by first | assumption | rfl) v rfl (by first | assumption | omega)  ?_
  refine m_if_ne dX11_copy_32 41 (by decide) (fun h3 => ?_) (fun h3 => ?_)
  rotate_left
  · refine m_aload_n dX11_copy_35 0 rfl ?_
    refine m_iconst (v := 1) dX11_copy_36 (by decide) ?_
    refine m_callV (As := [_]) dX11_copy_37 cv_X11_210 (by first | assumption | rfl) (by decide) (by omega) rfl rfl (Nat.le_of_ble_eq_true rfl) (c_meets (d := d - 1) 1) (fun v1 σ1 hv1 => ?_)
    refine m_qI hv1 ?_
    clear hv1 v1 σ1
    exact m_ireturn dX11_copy_40 (fin 1 (by decide) (k1 (Or.inr h3)))
  have n1 : ¬ (σ.1 148 u = 0 ∨ σ.1 148 v = 0) := fun q => q.elim h2 h3
  refine m_aload_n dX11_copy_41 0 rfl ?_
  refine m_getR 48 149 dX11_copy_42 fl_X11_122_10 rfl (by decide) rfl (by first | assumption | rfl) ?_
  refine m_iload_n dX11_copy_45 1 rfl ?_
  refine m_iald dX11_copy_46 (by first | assumption | rfl) u rfl (by first | assumption | omega | decide) ?_
  refine m_aload_n dX11_copy_47 0 rfl ?_
  refine m_getR 48 149 dX11_copy_48 fl_X11_122_10 rfl (by decide) rfl (by first | assumption | rfl) ?_
  refine m_iload_n dX11_copy_51 3 rfl ?_
  refine m_iald dX11_copy_52 (by first | assumption | rfl) v rfl (by first | assumption | omega | decide) ?_
  refine m_icmp_eq dX11_copy_53 62 (by decide) (fun h4 => ?_) (fun h4 => ?_)
  rotate_left
  · refine m_aload_n dX11_copy_56 0 rfl ?_
    refine m_iconst (v := 4) dX11_copy_57 (by decide) ?_
    refine m_callV (As := [_]) dX11_copy_58 cv_X11_210 (by first | assumption | rfl) (by decide) (by omega) rfl rfl (Nat.le_of_ble_eq_true rfl) (c_meets (d := d - 1) 4) (fun v1 σ1 hv1 => ?_)
    refine m_qI hv1 ?_
    clear hv1 v1 σ1
    exact m_ireturn dX11_copy_61 (fin 4 (by decide) (k4 n1 h4))
  have bad : ∀ {Q : Option Value → mS → Prop}, Q (some (.int (-10 - 2))) (us σ 111 52 2) → mW G l d kX11_copy 111 [(0, .ref 111), (1, .int (nI u)), (2, .int i), (3, .int (nI v)), (4, .int j), (5, .int n)] [] σ Q := fun q => by
    refine m_aload_n dX11_copy_111 0 rfl ?_
    refine m_iconst (v := 2) dX11_copy_112 (by decide) ?_
    refine m_callV (As := [_]) dX11_copy_113 cv_X11_210 (by first | assumption | rfl) (by decide) (by omega) rfl rfl (Nat.le_of_ble_eq_true rfl) (c_meets (d := d - 1) 2) (fun v1 σ1 hv1 => ?_)
    refine m_qI hv1 ?_
    clear hv1 v1 σ1
    exact m_ireturn dX11_copy_116 q
  refine m_iload_n dX11_copy_62 2 rfl ?_
  refine m_if_lt dX11_copy_63 111 (by decide) (fun h5 => ?_) (fun h5 => ?_)
  · exact bad (fin 2 (by decide) (k2 n1 h4 (fun q => absurd h5 (Int32.not_lt.mpr q.1.1))))
  refine m_iload dX11_copy_66 4 rfl ?_
  refine m_if_lt dX11_copy_68 111 (by decide) (fun h6 => ?_) (fun h6 => ?_)
  · exact bad (fin 2 (by decide) (k2 n1 h4 (fun q => absurd h6 (Int32.not_lt.mpr q.2.1))))
  refine m_iload dX11_copy_71 5 rfl ?_
  refine m_if_lt dX11_copy_73 111 (by decide) (fun h7 => ?_) (fun h7 => ?_)
  · exact bad (fin 2 (by decide) (k2 n1 h4 (fun q => absurd h7 (Int32.not_lt.mpr q.1.2.1))))
  obtain ⟨x, hx, rfl⟩ := nI_of h5
  obtain ⟨y, hy, rfl⟩ := nI_of h6
  obtain ⟨m, hm, rfl⟩ := nI_of h7
  have cx : cN (nI x) = x := nI_clamp hx
  have cy : cN (nI y) = y := nI_clamp hy
  have cm : cN (nI m) = m := nI_clamp hm
  refine m_iload_n dX11_copy_76 2 rfl ?_
  refine m_i2l dX11_copy_77 ?_
  refine mW.topL (nI_l hx) ?_
  refine m_iload dX11_copy_78 5 rfl ?_
  refine m_i2l dX11_copy_80 ?_
  refine mW.topL (nI_l hm) ?_
  refine m_ladd dX11_copy_81 ?_
  refine mW.topL (lN_add x m) ?_
  refine m_aload_n dX11_copy_82 0 rfl ?_
  refine m_getR 49 150 dX11_copy_83 fl_X11_125_10 rfl (by decide) rfl (by first | assumption | rfl) ?_
  refine m_iload_n dX11_copy_86 1 rfl ?_
  refine m_iald dX11_copy_87 (by first | assumption | rfl) u rfl (by first | assumption | omega | decide) ?_
  refine mW.top u2 ?_
  refine m_i2l dX11_copy_88 ?_
  refine mW.topL (nI_l (by omega)) ?_
  refine m_lcmp dX11_copy_89 ?_
  refine m_if_gt dX11_copy_90 111 (by decide) (fun h8 => ?_) (fun h8 => ?_)
  · refine bad (fin 2 (by decide) (k2 n1 h4 (fun q => ?_)))
    have q1 := (pk_lLT (by omega) (by omega)).mp (lcmp_gt.mp h8)
    have q2 := q.1.2.2
    rw [cx, cm] at q2
    omega
  refine m_iload dX11_copy_93 4 rfl ?_
  refine m_i2l dX11_copy_95 ?_
  refine mW.topL (nI_l hy) ?_
  refine m_iload dX11_copy_96 5 rfl ?_
  refine m_i2l dX11_copy_98 ?_
  refine mW.topL (nI_l hm) ?_
  refine m_ladd dX11_copy_99 ?_
  refine mW.topL (lN_add y m) ?_
  refine m_aload_n dX11_copy_100 0 rfl ?_
  refine m_getR 49 150 dX11_copy_101 fl_X11_125_10 rfl (by decide) rfl (by first | assumption | rfl) ?_
  refine m_iload_n dX11_copy_104 3 rfl ?_
  refine m_iald dX11_copy_105 (by first | assumption | rfl) v rfl (by first | assumption | omega | decide) ?_
  refine mW.top v2 ?_
  refine m_i2l dX11_copy_106 ?_
  refine mW.topL (nI_l (by omega)) ?_
  refine m_lcmp dX11_copy_107 ?_
  refine m_if_le dX11_copy_108 117 (by decide) (fun h9 => ?_) (fun h9 => ?_)
  rotate_left
  · refine bad (fin 2 (by decide) (k2 n1 h4 (fun q => h9 (lcmp_le.mpr (fun z => ?_)))))
    have q1 := (pk_lLT (by omega) (by omega)).mp z
    have q2 := q.2.2.2
    rw [cy, cm] at q2
    omega
  have q8 : x + m ≤ S u := Nat.le_of_not_lt (fun z => h8 (lcmp_gt.mpr ((pk_lLT (by omega) (by omega)).mpr z)))
  have q9 : y + m ≤ S v := Nat.le_of_not_lt (fun z => lcmp_le.mp h9 ((pk_lLT (by omega) (by omega)).mpr z))
  have hz := k0 n1 h4 ⟨⟨Int32.not_lt.mp h5, Int32.not_lt.mp h7, by rw [cx, cm]; exact q8⟩, Int32.not_lt.mp h6, Int32.not_lt.mp h7, by rw [cy, cm]; exact q9⟩
  rw [hz, cx, cy, cm]
  clear bad fin k0 k1 k2 k4 h8 h9
  refine m_iconst (v := 0) dX11_copy_117 (by decide) ?_
  refine m_istore (ls1 := [(6, _), (0, _), (1, _), (2, _), (3, _), (4, _), (5, _)]) dX11_copy_118 (by decide) rfl ?_
  refine down (N := m) (fun k (q : mS) => (∀ b, b < k → q.1 152 b = σ.1 151 (60 * u + x + b)) ∧ fW (fun y z => y = 152) σ q) (fun k q => mW G l d kX11_copy 120 [(6, .int (nI k)), (0, .ref 111), (1, .int (nI u)), (2, .int (nI x)), (3, .int (nI v)), (4, .int (nI y)), (5, .int (nI m))] [] q _) ?_ ?_ 0 σ (Nat.zero_le _) ⟨fun b hb => absurd hb (Nat.not_lt_zero _), fW.rf⟩
  rotate_left
  · rintro k q hk ⟨b1, b2⟩ ih
    have e1 : q.1 151 (60 * u + x + k) = σ.1 151 (60 * u + x + k) := b2.at (by omega)
    refine m_iload dX11_copy_120 0 rfl ?_
    refine m_iload dX11_copy_122 6 rfl ?_
    refine m_icmp_ge dX11_copy_124 154 (by decide) (fun h => ?_) (fun h => ?_)
    · exact absurd ((nle (by omega) (by omega)).mp h) (by omega)
    · clear h
      refine m_aload_n dX11_copy_127 1 rfl ?_
      refine m_getR 51 152 dX11_copy_128 fl_X11_131_10 rfl (by decide) rfl (by first | assumption | rfl) ?_
      refine m_iload dX11_copy_131 0 rfl ?_
      refine m_aload_n dX11_copy_133 1 rfl ?_
      refine m_getR 50 151 dX11_copy_134 fl_X11_128_10 rfl (by decide) rfl (by first | assumption | rfl) ?_
      refine m_bipush (v := 60) dX11_copy_137 (by decide) ?_
      refine m_iload_n dX11_copy_139 2 rfl ?_
      refine m_imul dX11_copy_140 ?_
      refine mW.top (w := nI (60 * u)) (pk_mul 60 u) ?_
      refine m_iload_n dX11_copy_141 3 rfl ?_
      refine m_iadd dX11_copy_142 ?_
      refine mW.top (w := nI (60 * u + x)) (nadd rfl) ?_
      refine m_iload dX11_copy_143 0 rfl ?_
      refine m_iadd dX11_copy_145 ?_
      refine mW.top (w := nI (60 * u + x + k)) (nadd rfl) ?_
      refine m_iald dX11_copy_146 (by first | assumption | rfl) (60 * u + x + k) rfl (by first | assumption | omega | decide) ?_
      refine mW.top e1 ?_
      refine m_iast dX11_copy_147 (by first | assumption | rfl) k rfl (by first | assumption | omega | decide) ?_
      refine m_iinc (v := nI (k + 1)) (ls1 := [(6, _), (0, _), (1, _), (2, _), (3, _), (4, _), (5, _)]) dX11_copy_148 0 rfl (nI_1 k) (by decide) rfl ?_
      refine m_goto dX11_copy_151 120 (by decide) ?_
      refine ih _ ⟨fun b hb => ?_, fW.us (by omega) b2⟩
      rcases Nat.lt_succ_iff_lt_or_eq.mp hb with h | rfl
      · rw [us_at, if_neg (by omega)]; exact b1 b h
      · rw [us_at, if_pos ⟨rfl, rfl⟩]
  rintro s2 ⟨b1, b2⟩
  refine m_iload dX11_copy_120 0 rfl ?_
  refine m_iload dX11_copy_122 6 rfl ?_
  refine m_icmp_ge dX11_copy_124 154 (by decide) (fun h => ?_) (fun h => ?_)
  rotate_left
  · exact absurd (Int32.le_refl _) h
  clear h
  refine m_iconst (v := 0) dX11_copy_154 (by decide) ?_
  refine m_istore (ls1 := [(6, _), (0, _), (1, _), (2, _), (3, _), (4, _), (5, _)]) dX11_copy_155 (by decide) rfl ?_
  refine down (N := m) (fun k (q : mS) => (∀ b, b < k → q.1 151 (60 * v + y + b) = σ.1 151 (60 * u + x + b)) ∧ (∀ b, b < m → q.1 152 b = σ.1 151 (60 * u + x + b)) ∧ fW (fun a z => a = 152 ∨ (a = 151 ∧ 60 * v + y ≤ z ∧ z < 60 * v + y + m)) σ q) (fun k q => mW G l d kX11_copy 157 [(6, .int (nI k)), (0, .ref 111), (1, .int (nI u)), (2, .int (nI x)), (3, .int (nI v)), (4, .int (nI y)), (5, .int (nI m))] [] q _) ?_ ?_ 0 s2 (Nat.zero_le _) ⟨fun b hb => absurd hb (Nat.not_lt_zero _), b1, b2.mono (fun y z h => Or.inl h)⟩
  · rintro q ⟨d1, d2, d3⟩
    refine m_iload dX11_copy_157 0 rfl ?_
    refine m_iload dX11_copy_159 6 rfl ?_
    refine m_icmp_ge dX11_copy_161 192 (by decide) (fun h => ?_) (fun h => ?_)
    · refine m_iconst (v := 1) dX11_copy_192 (by decide) ?_
      exact m_ireturn dX11_copy_193 ⟨_, rfl, rfl, fun q => absurd gg q, fun _ q => absurd rfl q, fun _ _ => ⟨d1, d3⟩⟩
    · exact absurd (Int32.le_refl _) h
  · rintro k q hk ⟨d1, d2, d3⟩ ih
    refine m_iload dX11_copy_157 0 rfl ?_
    refine m_iload dX11_copy_159 6 rfl ?_
    refine m_icmp_ge dX11_copy_161 192 (by decide) (fun h => ?_) (fun h => ?_)
    · exact absurd ((nle (by omega) (by omega)).mp h) (by omega)
    · clear h
      refine m_aload_n dX11_copy_164 1 rfl ?_
      refine m_getR 50 151 dX11_copy_165 fl_X11_128_10 rfl (by decide) rfl (by first | assumption | rfl) ?_
      refine m_bipush (v := 60) dX11_copy_168 (by decide) ?_
      refine m_iload_n dX11_copy_170 4 rfl ?_
      refine m_imul dX11_copy_171 ?_
      refine mW.top (w := nI (60 * v)) (pk_mul 60 v) ?_
      refine m_iload dX11_copy_172 5 rfl ?_
      refine m_iadd dX11_copy_174 ?_
      refine mW.top (w := nI (60 * v + y)) (nadd rfl) ?_
      refine m_iload dX11_copy_175 0 rfl ?_
      refine m_iadd dX11_copy_177 ?_
      refine mW.top (w := nI (60 * v + y + k)) (nadd rfl) ?_
      refine m_aload_n dX11_copy_178 1 rfl ?_
      refine m_getR 51 152 dX11_copy_179 fl_X11_131_10 rfl (by decide) rfl (by first | assumption | rfl) ?_
      refine m_iload dX11_copy_182 0 rfl ?_
      refine m_iald dX11_copy_184 (by first | assumption | rfl) k rfl (by first | assumption | omega | decide) ?_
      refine mW.top (d2 k hk) ?_
      refine m_iast dX11_copy_185 (by first | assumption | rfl) (60 * v + y + k) rfl (by first | assumption | omega | decide) ?_
      refine m_iinc (v := nI (k + 1)) (ls1 := [(6, _), (0, _), (1, _), (2, _), (3, _), (4, _), (5, _)]) dX11_copy_186 0 rfl (nI_1 k) (by decide) rfl ?_
      refine m_goto dX11_copy_189 157 (by decide) ?_
      refine ih _ ⟨fun b hb => ?_, fun b hb => ?_, fW.us (by omega) d3⟩
      · rcases Nat.lt_succ_iff_lt_or_eq.mp hb with h | rfl
        · rw [us_at, if_neg (by omega)]; exact d1 b h
        · rw [us_at, if_pos ⟨rfl, rfl⟩]
      · rw [us_at, if_neg (by omega)]; exact d2 b hb
theorem evR_pos {e : Nat} {k m c : Int32} (he : e ≤ 8) : ¬ evR e k m c ≤ 0 ↔ fitE k m c ∧ e < 8 := by
  unfold evR
  by_cases g : wI k 2 ∧ wI m 24 ∧ wI c 8
  · rw [if_pos g]
    by_cases q : e = 8
    · rw [if_pos q]; exact ⟨fun z => absurd (by decide) z, fun z => absurd z.2 (by omega)⟩
    · rw [if_neg q]
      exact ⟨fun _ => ⟨g, by omega⟩, fun _ z => absurd ((nle (b := 0) (by omega) (by omega)).mp z) (by omega)⟩
  · rw [if_neg g]; exact ⟨fun z => absurd (by decide) z, fun z => absurd z.1 g⟩
theorem r_read (hd : 3 ≤ d) (S : Nat → Nat) (hS : okH σ S) (e : Nat) (he : σ.1 111 12 = nI e) (he8 : e ≤ 8) (s : Int32) : mMet G l d kX11_read [.ref 111, .int s] σ (qIP (fun r s1 => r = reR (σ.1 148) S (σ.1 151) e s ∧ (¬ wI s 4 → s1 = σ) ∧ (wI s 4 → σ.1 148 (cN s) = 0 → s1 = us σ 111 52 1) ∧ (wI s 4 → ¬ σ.1 148 (cN s) = 0 → e + rdK (S (cN s)) e (fun i => σ.1 151 (60 * cN s + i)) 9 0 ≤ 8 ∧ s1.1 111 12 = nI (e + rdK (S (cN s)) e (fun i => σ.1 151 (60 * cN s + i)) 9 0) ∧ (∀ i, i < rdK (S (cN s)) e (fun i => σ.1 151 (60 * cN s + i)) 9 0 → s1.1 122 (e + i) = σ.1 151 (60 * cN s + 3 * i) ∧ s1.1 123 (e + i) = σ.1 151 (60 * cN s + (3 * i + 1)) ∧ s1.1 124 (e + i) = σ.1 151 (60 * cN s + (3 * i + 2)) ∧ fitE (σ.1 151 (60 * cN s + 3 * i)) (σ.1 151 (60 * cN s + (3 * i + 1))) (σ.1 151 (60 * cN s + (3 * i + 2)))) ∧ fW (fun y z => (y = 111 ∧ z = 12) ∨ (122 ≤ y ∧ y ≤ 124 ∧ e ≤ z)) σ s1))) := by
  refine mMet.of cm_X11_read rfl (Nat.le_of_ble_eq_true rfl) rfl (fun v1 σ1 h => by obtain ⟨r, h1, -⟩ := h; rw [h1]; rfl) ?_
  unfold reR
  refine m_iload_n dX11_read_0 1 rfl ?_
  refine m_callS (As := [_]) dX11_read_1 cs_X11_207 (by omega) rfl rfl (Nat.le_of_ble_eq_true rfl) (c_isSheet (d := d - 1) (by omega) s) (fun v1 σ1 hv1 => ?_)
  refine m_qI hv1 ?_
  clear hv1 v1 σ1
  refine m_if_ne dX11_read_4 10 (by decide) (fun h0 => ?_) (fun h0 => ?_)
  rotate_left
  · have g0 : ¬ wI s 4 := fun q => bI0 h0 ((wI_le (n := 3) (by decide)).mpr q)
    refine m_bipush (v := -2) dX11_read_7 (by decide) ?_
    exact m_ireturn dX11_read_9 ⟨_, rfl, by rw [if_neg g0], fun _ => rfl, fun q => absurd q g0, fun q => absurd q g0⟩
  have w0 : wI s 4 := (wI_le (n := 3) (by decide)).mp (bI1 h0)
  obtain ⟨j, hj, rfl⟩ := wI_of (by omega) w0
  obtain ⟨q1, q2, q3⟩ := hS j hj
  rw [clN (show j < 1000 by omega), if_pos w0]
  clear h0
  refine m_aload_n dX11_read_10 0 rfl ?_
  refine m_getR 47 148 dX11_read_11 fl_X11_118_10 rfl (by decide) rfl (by first | assumption | rfl) ?_
  refine m_iload_n dX11_read_14 1 rfl ?_
  refine m_zald dX11_read_15 (by first | assumption | rfl) j rfl (by first | assumption | omega)  ?_
  refine m_if_ne dX11_read_16 25 (by decide) (fun h2 => ?_) (fun h2 => ?_)
  rotate_left
  · refine m_aload_n dX11_read_19 0 rfl ?_
    refine m_iconst (v := 1) dX11_read_20 (by decide) ?_
    refine m_callV (As := [_]) dX11_read_21 cv_X11_210 (by first | assumption | rfl) (by decide) (by omega) rfl rfl (Nat.le_of_ble_eq_true rfl) (c_meets (d := d - 1) 1) (fun v1 σ1 hv1 => ?_)
    refine m_qI hv1 ?_
    clear hv1 v1 σ1
    exact m_ireturn dX11_read_24 ⟨_, rfl, by rw [if_pos h2]; rfl, fun q => absurd w0 q, fun _ _ => rfl, fun _ q => absurd h2 q⟩
  rw [if_neg h2]
  refine m_iconst (v := 0) dX11_read_25 (by decide) ?_
  refine m_istore_n (ls1 := [(2, _), (0, _), (1, _)]) dX11_read_26 (by decide) rfl ?_
  refine m_bipush (v := 60) dX11_read_27 (by decide) ?_
  refine m_iload_n dX11_read_29 2 rfl ?_
  refine m_imul dX11_read_30 ?_
  refine mW.top (w := nI (60 * j)) (pk_mul 60 j) ?_
  refine m_istore_n (ls1 := [(3, _), (2, _), (0, _), (1, _)]) dX11_read_31 (by decide) rfl ?_
  generalize hit : (fun i => σ.1 151 (60 * j + i)) = it
  have hit' : ∀ i, σ.1 151 (60 * j + i) = it i := fun i => by rw [← hit]
  simp only [hit']
  generalize hK : rdK (S j) e it 9 0 = K
  have key : ∀ f k (q : mS), 9 ≤ e + k + f → e + k ≤ 8 → rdK (S j) e it f k = K → q.1 111 12 = nI (e + k) → (∀ i, i < k → q.1 122 (e + i) = it (3 * i) ∧ q.1 123 (e + i) = it (3 * i + 1) ∧ q.1 124 (e + i) = it (3 * i + 2) ∧ fitE (it (3 * i)) (it (3 * i + 1)) (it (3 * i + 2))) → fW (fun y z => (y = 111 ∧ z = 12) ∨ (122 ≤ y ∧ y ≤ 124 ∧ e ≤ z)) σ q → mW G l d kX11_read 32 [(3, .int (nI (60 * j))), (2, .int (nI k)), (0, .ref 111), (1, .int (nI j))] [] q (qIP (fun r s1 => r = nI K ∧ (¬ wI (nI j) 4 → s1 = σ) ∧ (wI (nI j) 4 → σ.1 148 j = 0 → s1 = us σ 111 52 1) ∧ (wI (nI j) 4 → ¬ σ.1 148 j = 0 → e + K ≤ 8 ∧ s1.1 111 12 = nI (e + K) ∧ (∀ i, i < K → s1.1 122 (e + i) = it (3 * i) ∧ s1.1 123 (e + i) = it (3 * i + 1) ∧ s1.1 124 (e + i) = it (3 * i + 2) ∧ fitE (it (3 * i)) (it (3 * i + 1)) (it (3 * i + 2))) ∧ fW (fun y z => (y = 111 ∧ z = 12) ∨ (122 ≤ y ∧ y ≤ 124 ∧ e ≤ z)) σ s1))) := by
    intro f
    induction f with
    | zero => intro k q h1 h2; omega
    | succ f ih =>
      intro k q g1 g2 g3 g4 g5 g6
      have hsz : q.1 150 j = nI (S j) := (g6.at (by omega)).trans q2
      have done : k = K → mW G l d kX11_read 93 [(3, .int (nI (60 * j))), (2, .int (nI k)), (0, .ref 111), (1, .int (nI j))] [] q (qIP (fun r s1 => r = nI K ∧ (¬ wI (nI j) 4 → s1 = σ) ∧ (wI (nI j) 4 → σ.1 148 j = 0 → s1 = us σ 111 52 1) ∧ (wI (nI j) 4 → ¬ σ.1 148 j = 0 → e + K ≤ 8 ∧ s1.1 111 12 = nI (e + K) ∧ (∀ i, i < K → s1.1 122 (e + i) = it (3 * i) ∧ s1.1 123 (e + i) = it (3 * i + 1) ∧ s1.1 124 (e + i) = it (3 * i + 2) ∧ fitE (it (3 * i)) (it (3 * i + 1)) (it (3 * i + 2))) ∧ fW (fun y z => (y = 111 ∧ z = 12) ∨ (122 ≤ y ∧ y ≤ 124 ∧ e ≤ z)) σ s1))) := by
        intro hk
        subst hk
        refine m_iload_n dX11_read_93 1 rfl ?_
        exact m_ireturn dX11_read_94 ⟨_, rfl, rfl, fun q => absurd w0 q, fun _ q => absurd q h2, fun _ _ => ⟨g2, g4, g5, g6⟩⟩
      rw [rdK] at g3
      refine m_iconst (v := 3) dX11_read_32 (by decide) ?_
      refine m_iload_n dX11_read_33 1 rfl ?_
      refine m_imul dX11_read_34 ?_
      refine mW.top (w := nI (3 * k)) (pk_mul 3 k) ?_
      refine m_iconst (v := 2) dX11_read_35 (by decide) ?_
      refine m_iadd dX11_read_36 ?_
      refine mW.top (w := nI (3 * k + 2)) (nadd rfl) ?_
      refine m_aload_n dX11_read_37 2 rfl ?_
      refine m_getR 49 150 dX11_read_38 fl_X11_125_10 rfl (by decide) rfl (by first | assumption | rfl) ?_
      refine m_iload_n dX11_read_41 3 rfl ?_
      refine m_iald dX11_read_42 (by first | assumption | rfl) j rfl (by first | assumption | omega | decide) ?_
      refine mW.top hsz ?_
      refine m_icmp_ge dX11_read_43 93 (by decide) (fun h3 => ?_) (fun h3 => ?_)
      · have h4 := (nle (by omega) (by omega)).mp h3
        rw [if_neg (fun z => by omega)] at g3
        exact done g3
      · have h4 : 3 * k + 2 < S j := Nat.lt_of_not_le (fun z => h3 ((nle (by omega) (by omega)).mpr z))
        clear h3
        have i0 : q.1 151 (60 * j + 3 * k) = it (3 * k) := (g6.at (by omega)).trans (hit' _)
        have i1 : q.1 151 (60 * j + 3 * k + 1) = it (3 * k + 1) := (g6.at (by omega)).trans (hit' (3 * k + 1))
        have i2 : q.1 151 (60 * j + 3 * k + 2) = it (3 * k + 2) := (g6.at (by omega)).trans (hit' (3 * k + 2))
        refine m_aload_n dX11_read_46 2 rfl ?_
        refine m_aload_n dX11_read_47 2 rfl ?_
        refine m_getR 50 151 dX11_read_48 fl_X11_128_10 rfl (by decide) rfl (by first | assumption | rfl) ?_
        refine m_iload_n dX11_read_51 0 rfl ?_
        refine m_iconst (v := 3) dX11_read_52 (by decide) ?_
        refine m_iload_n dX11_read_53 1 rfl ?_
        refine m_imul dX11_read_54 ?_
        refine mW.top (w := nI (3 * k)) (pk_mul 3 k) ?_
        refine m_iadd dX11_read_55 ?_
        refine mW.top (w := nI (60 * j + 3 * k)) (nadd rfl) ?_
        refine m_iald dX11_read_56 (by first | assumption | rfl) (60 * j + 3 * k) rfl (by first | assumption | omega | decide) ?_
        refine mW.top i0 ?_
        refine m_aload_n dX11_read_57 2 rfl ?_
        refine m_getR 50 151 dX11_read_58 fl_X11_128_10 rfl (by decide) rfl (by first | assumption | rfl) ?_
        refine m_iload_n dX11_read_61 0 rfl ?_
        refine m_iconst (v := 3) dX11_read_62 (by decide) ?_
        refine m_iload_n dX11_read_63 1 rfl ?_
        refine m_imul dX11_read_64 ?_
        refine mW.top (w := nI (3 * k)) (pk_mul 3 k) ?_
        refine m_iadd dX11_read_65 ?_
        refine mW.top (w := nI (60 * j + 3 * k)) (nadd rfl) ?_
        refine m_iconst (v := 1) dX11_read_66 (by decide) ?_
        refine m_iadd dX11_read_67 ?_
        refine mW.top (w := nI (60 * j + 3 * k + 1)) (nI_1 _) ?_
        refine m_iald dX11_read_68 (by first | assumption | rfl) (60 * j + 3 * k + 1) rfl (by first | assumption | omega | decide) ?_
        refine mW.top i1 ?_
        refine m_aload_n dX11_read_69 2 rfl ?_
        refine m_getR 50 151 dX11_read_70 fl_X11_128_10 rfl (by decide) rfl (by first | assumption | rfl) ?_
        refine m_iload_n dX11_read_73 0 rfl ?_
        refine m_iconst (v := 3) dX11_read_74 (by decide) ?_
        refine m_iload_n dX11_read_75 1 rfl ?_
        refine m_imul dX11_read_76 ?_
        refine mW.top (w := nI (3 * k)) (pk_mul 3 k) ?_
        refine m_iadd dX11_read_77 ?_
        refine mW.top (w := nI (60 * j + 3 * k)) (nadd rfl) ?_
        refine m_iconst (v := 2) dX11_read_78 (by decide) ?_
        refine m_iadd dX11_read_79 ?_
        refine mW.top (w := nI (60 * j + 3 * k + 2)) (nadd rfl) ?_
        refine m_iald dX11_read_80 (by first | assumption | rfl) (60 * j + 3 * k + 2) rfl (by first | assumption | omega | decide) ?_
        refine mW.top i2 ?_
        refine m_callV (As := [_, _, _]) dX11_read_81 cv_X11_213 (by first | assumption | rfl) (by decide) (by omega) rfl rfl (Nat.le_of_ble_eq_true rfl) (r_event (d := d - 1) (by omega) (e + k) g4 g2 (it (3 * k)) (it (3 * k + 1)) (it (3 * k + 2))) (fun v1 σ1 hv1 => ?_)
        refine m_qIP hv1 (fun x1 hq => ?_)
        clear hv1 v1
        rename mS => q'
        obtain ⟨e1, e2⟩ := hq
        have hev := evR_pos (e := e + k) (k := it (3 * k)) (m := it (3 * k + 1)) (c := it (3 * k + 2)) g2
        refine m_if_le dX11_read_84 93 (by decide) (fun h5 => ?_) (fun h5 => ?_)
        · have h6 : ¬ (fitE (it (3 * k)) (it (3 * k + 1)) (it (3 * k + 2)) ∧ e + k < 8) := fun z => hev.mpr z (by rw [← e1]; exact h5)
          rw [if_neg (fun z => h6 ⟨z.1, by omega⟩)] at e2
          subst e2
          rw [if_neg (fun z => h6 z.2)] at g3
          exact done g3
        · have h6 : fitE (it (3 * k)) (it (3 * k + 1)) (it (3 * k + 2)) ∧ e + k < 8 := hev.mp (by rw [← e1]; exact h5)
          rw [if_pos (And.intro h6.1 (by omega))] at e2
          rw [if_pos (And.intro h4 h6)] at g3
          refine m_iinc (v := nI (k + 1)) (ls1 := [(2, _), (3, _), (0, _), (1, _)]) dX11_read_87 1 rfl (nI_1 k) (by decide) rfl ?_
          refine m_goto dX11_read_90 32 (by decide) ?_
          refine mW.sub (ls1 := [(3, _), (2, _), (0, _), (1, _)]) [1, 0, 2, 3] rfl ?_
          subst e2
          refine ih (k + 1) _ (by omega) (by omega) g3 ?_ (fun i hi => ?_) (fW.us (by omega) (fW.us (by omega) (fW.us (by omega) (fW.us (by omega) g6))))
          · rw [us_at, if_pos ⟨rfl, rfl⟩]; rfl
          · rcases Nat.lt_succ_iff_lt_or_eq.mp hi with h | rfl
            · have hg := g5 i h
              have en : ¬ i = k := by omega
              simp [us_at, en]
              exact hg
            · simp [us_at]
              exact h6.1
  exact key 9 0 σ (by omega) (by omega) hK he (fun i hi => absurd hi (Nat.not_lt_zero _)) fW.rf
theorem r_write (hd : 9 ≤ d) (A : oA a σ) (S : Nat → Nat) (hS : okH σ S) (k s : Int32) : mMet G l d kX11_write [.ref 111, .int k, .int s] σ (qIP (fun r s1 => r = wrR (aD a).1.1 (σ.1 148) S k s ∧ (¬ (wI k (aD a).1.1 ∧ wI s 4) → fW wScr σ s1) ∧ ((wI k (aD a).1.1 ∧ wI s 4) → σ.1 148 (cN s) = 0 → ∃ s2, fW wScr σ s2 ∧ s1 = us s2 111 52 1) ∧ ((wI k (aD a).1.1 ∧ wI s 4) → ¬ σ.1 148 (cN s) = 0 → (∀ i, i < min (S (cN s)) 24 → s1.1 151 (60 * cN s + i) = narF (σ.1 149 (cN s)) ((RSt (aD a) (i + 1)).2.2.2.1 (cN k))) ∧ fW (fun y z => wScr y z ∨ (y = 151 ∧ 60 * cN s ≤ z ∧ z < 60 * cN s + min (S (cN s)) 24)) σ s1))) := by
  have hn := A.n8
  refine mMet.of cm_X11_write rfl (Nat.le_of_ble_eq_true rfl) rfl (fun v1 σ1 h => by obtain ⟨r, h1, -⟩ := h; rw [h1]; rfl) ?_
  unfold wrR
  refine m_aload_n dX11_write_0 0 rfl ?_
  refine m_iload_n dX11_write_1 1 rfl ?_
  refine m_callV (As := [_]) dX11_write_2 cv_X11_183 (by first | assumption | rfl) (by decide) (by omega) rfl rfl (Nat.le_of_ble_eq_true rfl) (a_isCar (d := d - 1) (by omega) A k) (fun v1 σ1 hv1 => ?_)
  refine m_qIP hv1 (fun x0 hq => ?_)
  clear hv1 v1
  rename mS => s1
  obtain ⟨rfl, A1, rd1, f1⟩ := hq
  refine m_if_eq dX11_write_5 15 (by decide) (fun h0 => ?_) (fun h0 => ?_)
  · have g0 : ¬ (wI k (aD a).1.1 ∧ wI s 4) := fun q => bI0 h0 q.1
    refine m_bipush (v := -2) dX11_write_15 (by decide) ?_
    exact m_ireturn dX11_write_17 ⟨_, rfl, by rw [if_neg g0], fun _ => f1, fun q => absurd q g0, fun q => absurd q g0⟩
  have w0 : wI k (aD a).1.1 := bI1 h0
  refine m_iload_n dX11_write_8 2 rfl ?_
  refine m_callS (As := [_]) dX11_write_9 cs_X11_207 (by omega) rfl rfl (Nat.le_of_ble_eq_true rfl) (c_isSheet (d := d - 1) (by omega) s) (fun v1 σ1 hv1 => ?_)
  refine m_qI hv1 ?_
  clear hv1 v1 σ1
  refine m_if_ne dX11_write_12 18 (by decide) (fun h1 => ?_) (fun h1 => ?_)
  rotate_left
  · have g0 : ¬ (wI k (aD a).1.1 ∧ wI s 4) := fun q => bI0 h1 ((wI_le (n := 3) (by decide)).mpr q.2)
    refine m_bipush (v := -2) dX11_write_15 (by decide) ?_
    exact m_ireturn dX11_write_17 ⟨_, rfl, by rw [if_neg g0], fun _ => f1, fun q => absurd q g0, fun q => absurd q g0⟩
  have w1 : wI s 4 := (wI_le (n := 3) (by decide)).mp (bI1 h1)
  have gg : wI k (aD a).1.1 ∧ wI s 4 := ⟨w0, w1⟩
  obtain ⟨u, hu, rfl⟩ := wI_of (by omega) w0
  obtain ⟨j, hj, rfl⟩ := wI_of (by omega) w1
  obtain ⟨q1, q2, q3⟩ := hS j hj
  rw [clN (show u < 1000 by omega), clN (show j < 1000 by omega), if_pos gg]
  clear h0 h1
  refine m_aload_n dX11_write_18 0 rfl ?_
  refine m_getR 47 148 dX11_write_19 fl_X11_118_10 rfl (by decide) rfl (by first | assumption | rfl) ?_
  refine m_iload_n dX11_write_22 2 rfl ?_
  refine m_zald dX11_write_23 (by first | assumption | rfl) j rfl (by first | assumption | omega)  ?_
  refine mW.top (f1.at (by omega)) ?_
  refine m_if_ne dX11_write_24 33 (by decide) (fun h2 => ?_) (fun h2 => ?_)
  rotate_left
  · refine m_aload_n dX11_write_27 0 rfl ?_
    refine m_iconst (v := 1) dX11_write_28 (by decide) ?_
    refine m_callV (As := [_]) dX11_write_29 cv_X11_210 (by first | assumption | rfl) (by decide) (by omega) rfl rfl (Nat.le_of_ble_eq_true rfl) (c_meets (d := d - 1) 1) (fun v1 σ1 hv1 => ?_)
    refine m_qI hv1 ?_
    clear hv1 v1 σ1
    exact m_ireturn dX11_write_32 ⟨_, rfl, by rw [if_pos h2]; rfl, fun q => absurd gg q, fun _ _ => ⟨s1, f1, rfl⟩, fun _ q => absurd h2 q⟩
  rw [if_neg h2]
  refine m_aload_n dX11_write_33 0 rfl ?_
  refine m_callV (As := []) dX11_write_34 cv_X11_276 (by first | assumption | rfl) (by decide) (by omega) rfl rfl (Nat.le_of_ble_eq_true rfl) (c_runsTold (d := d - 1) (by omega) _ _ _ A1.1) (fun v1 σ1 hv1 => ?_)
  refine m_qVP hv1 (fun hz => ?_)
  clear hv1 v1
  rename mS => s2
  rw [A1.2.2.1] at hz
  obtain ⟨z1, z2, z3, z4⟩ := hz
  have f2 := f1.tr z4
  have hf : s2.1 149 j = σ.1 149 j := f2.at (by omega)
  have hsz : s2.1 150 j = nI (S j) := (f2.at (by omega)).trans q2
  refine m_iconst (v := 0) dX11_write_37 (by decide) ?_
  refine m_istore_n (ls1 := [(3, _), (0, _), (1, _), (2, _)]) dX11_write_38 (by decide) rfl ?_
  refine down (N := min (S j) 24) (fun i (q : mS) => (∀ b, b < i → q.1 151 (60 * j + b) = narF (σ.1 149 j) ((RSt (aD a) (b + 1)).2.2.2.1 u)) ∧ fW (fun y z => y = 151 ∧ 60 * j ≤ z ∧ z < 60 * j + min (S j) 24) s2 q) (fun i q => mW G l d kX11_write 39 [(3, .int (nI i)), (0, .ref 111), (1, .int (nI u)), (2, .int (nI j))] [] q _) ?_ ?_ 0 s2 (Nat.zero_le _) ⟨fun b hb => absurd hb (Nat.not_lt_zero _), fW.rf⟩
  · rintro q ⟨b1, b2⟩
    have hsz' : q.1 150 j = nI (S j) := (b2.at (by omega)).trans hsz
    have fin : ∀ {Q : Option Value → mS → Prop}, Q (some (.int (nI (min (S j) 24)))) q → mW G l d kX11_write 78 [(3, .int (nI (min (S j) 24))), (0, .ref 111), (1, .int (nI u)), (2, .int (nI j))] [] q Q := fun z => by
      refine m_iload_n dX11_write_78 0 rfl ?_
      exact m_ireturn dX11_write_79 z
    have fin2 : fW (fun y z => wScr y z ∨ (y = 151 ∧ 60 * j ≤ z ∧ z < 60 * j + min (S j) 24)) σ q := (f2.mono (fun y z h => Or.inl h)).tr (b2.mono (fun y z h => Or.inr h))
    refine m_iload_n dX11_write_39 0 rfl ?_
    refine m_aload_n dX11_write_40 1 rfl ?_
    refine m_getR 49 150 dX11_write_41 fl_X11_125_10 rfl (by decide) rfl (by first | assumption | rfl) ?_
    refine m_iload_n dX11_write_44 3 rfl ?_
    refine m_iald dX11_write_45 (by first | assumption | rfl) j rfl (by first | assumption | omega | decide) ?_
    refine mW.top hsz' ?_
    refine m_icmp_ge dX11_write_46 78 (by decide) (fun h3 => ?_) (fun h3 => ?_)
    · exact fin ⟨_, rfl, rfl, fun q => absurd gg q, fun _ q => absurd q h2, fun _ _ => ⟨b1, fin2⟩⟩
    · have h4 : ¬ S j ≤ min (S j) 24 := fun z => h3 ((nle (by omega) (by omega)).mpr z)
      refine m_iload_n dX11_write_49 0 rfl ?_
      refine m_bipush (v := 24) dX11_write_50 (by decide) ?_
      refine m_icmp_ge dX11_write_52 78 (by decide) (fun h5 => ?_) (fun h5 => ?_)
      · exact fin ⟨_, rfl, rfl, fun q => absurd gg q, fun _ q => absurd q h2, fun _ _ => ⟨b1, fin2⟩⟩
      · exact absurd ((nle (a := 24) (by omega) (by omega)).mpr (by omega)) h5
  · rintro i q hi ⟨b1, b2⟩ ih
    have hsz' : q.1 150 j = nI (S j) := (b2.at (by omega)).trans hsz
    have hf' : q.1 149 j = σ.1 149 j := (b2.at (by omega)).trans hf
    have hp : q.1 137 (8 * i + u) = (RSt (aD a) (i + 1)).2.2.2.1 u := (b2.at (by omega)).trans ((z1.1 i (by omega)).2.2.2 u hu).2.2.2.1
    have hk := c_keep (G := G) (l := l) (d := d - 1) (σ := q) j i hj (by omega) ((RSt (aD a) (i + 1)).2.2.2.1 u)
    rw [hf'] at hk
    refine m_iload_n dX11_write_39 0 rfl ?_
    refine m_aload_n dX11_write_40 1 rfl ?_
    refine m_getR 49 150 dX11_write_41 fl_X11_125_10 rfl (by decide) rfl (by first | assumption | rfl) ?_
    refine m_iload_n dX11_write_44 3 rfl ?_
    refine m_iald dX11_write_45 (by first | assumption | rfl) j rfl (by first | assumption | omega | decide) ?_
    refine mW.top hsz' ?_
    refine m_icmp_ge dX11_write_46 78 (by decide) (fun h3 => ?_) (fun h3 => ?_)
    · exact absurd ((nle (by omega) (by omega)).mp h3) (by omega)
    · clear h3
      refine m_iload_n dX11_write_49 0 rfl ?_
      refine m_bipush (v := 24) dX11_write_50 (by decide) ?_
      refine m_icmp_ge dX11_write_52 78 (by decide) (fun h5 => ?_) (fun h5 => ?_)
      · exact absurd ((nle (a := 24) (by omega) (by omega)).mp h5) (by omega)
      · clear h5
        refine m_aload_n dX11_write_55 1 rfl ?_
        refine m_iload_n dX11_write_56 3 rfl ?_
        refine m_iload_n dX11_write_57 0 rfl ?_
        refine m_aload_n dX11_write_58 1 rfl ?_
        refine m_getR 35 137 dX11_write_59 fl_X11_85_10 rfl (by decide) rfl (by first | assumption | rfl) ?_
        refine m_bipush (v := 8) dX11_write_62 (by decide) ?_
        refine m_iload_n dX11_write_64 0 rfl ?_
        refine m_imul dX11_write_65 ?_
        refine mW.top (w := nI (8 * i)) (pk_mul 8 i) ?_
        refine m_iload_n dX11_write_66 2 rfl ?_
        refine m_iadd dX11_write_67 ?_
        refine mW.top (w := nI (8 * i + u)) (nadd rfl) ?_
        refine m_iald dX11_write_68 (by first | assumption | rfl) (8 * i + u) rfl (by first | assumption | omega | decide) ?_
        refine mW.top hp ?_
        refine m_callV (As := [_, _, _]) dX11_write_69 cv_X11_378 (by first | assumption | rfl) (by decide) (by omega) rfl rfl (Nat.le_of_ble_eq_true rfl) hk (fun v1 σ1 hv1 => ?_)
        refine m_qV hv1 ?_
        clear hv1 v1 σ1
        refine m_iinc (v := nI (i + 1)) (ls1 := [(3, _), (0, _), (1, _), (2, _)]) dX11_write_72 0 rfl (nI_1 i) (by decide) rfl ?_
        refine m_goto dX11_write_75 39 (by decide) ?_
        refine ih _ ⟨fun b hb => ?_, fW.us (by omega) b2⟩
        rcases Nat.lt_succ_iff_lt_or_eq.mp hb with h | rfl
        · rw [us_at, if_neg (by omega)]; exact b1 b h
        · rw [us_at, if_pos ⟨rfl, rfl⟩]
end CY


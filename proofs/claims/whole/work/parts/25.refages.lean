/-! ===== the reference: ages, count, car, steer ===== -/
def lcg (x : Int32) : Int32 := 1103515245 * x + 12345
def ush (x : Int32) : Int32 := (x.toUInt32 >>> ((16 : Int32).toUInt32 &&& Int32.toUInt32 31)).toInt32
def lot (x m : Int32) : Int32 := ush x - ush x / m * m
/-- the seed behind i drawn events -/
def sdP (x : Int32) : Nat → Int32
  | 0 => x
  | i + 1 => lcg (lcg (lcg (sdP x i)))
def agF (x m : Int32) : Nat → Nat → Int32 := fun i j => if j = 0 then lot (lcg (sdP x i)) 2 else if j = 1 then lot (lcg (lcg (sdP x i))) 24 else lot (lcg (lcg (lcg (sdP x i)))) m
def agN (D : Deb) (n : Nat) : Nat := if D.1.1 = 0 then 0 else n
def agD (D : Deb) (x : Int32) (n : Nat) : Deb := (D.1, D.2.1, (agN D n, agF x (nI D.1.1)), D.2.2.2)
def agA (D : Deb) (x : Int32) (n : Nat) (w : Int32) : Int32 := if w = 0 then (RSt (agD D x n) 24).2.2.2.2.2.2.2.1 else sumP (RSt (agD D x n) 24).2.2.2.1 D.1.1
def suA (D : Deb) (w : Int32) : Int32 := if w = 0 then nI D.1.1 else if w = 1 then nI D.2.1.1 else if w = 5 then (RSt D 24).2.2.2.2.2.2.2.1 else sumP (RSt D 24).2.2.2.1 D.1.1
def cnA (D : Deb) (L0 L1 z : Nat) (f w : Int32) : Int32 := if w = 2 then nI L0 else if w = 3 then nI L1 else if w = 4 then nI D.2.2.1.1 else if w = 7 then nI z else if w = 8 then f else if w = 0 ∨ w = 1 ∨ w = 5 ∨ w = 6 then suA D w else -2
def slA (D : Deb) (i w : Nat) : Int32 := if D.2.1.1 ≤ i then -1 else D.2.1.2 i w
section AG
variable {G : mG} {l : Launch} {d : Nat} {σ : mS}
theorem dX11_agesOf_0 : decode cX11_agesOf 0 = .ok (.aload_n 0, 1) := by decide +kernel
theorem dX11_agesOf_1 : decode cX11_agesOf 1 = .ok (.invokevirtual 270, 3) := by decide +kernel
theorem dX11_agesOf_4 : decode cX11_agesOf 4 = .ok (.iload_n 1, 1) := by decide +kernel
theorem dX11_agesOf_5 : decode cX11_agesOf 5 = .ok (.istore 4, 2) := by decide +kernel
theorem dX11_agesOf_7 : decode cX11_agesOf 7 = .ok (.aload_n 0, 1) := by decide +kernel
theorem dX11_agesOf_8 : decode cX11_agesOf 8 = .ok (.aload_n 0, 1) := by decide +kernel
theorem dX11_agesOf_9 : decode cX11_agesOf 9 = .ok (.getfield 161, 3) := by decide +kernel
theorem dX11_agesOf_12 : decode cX11_agesOf 12 = .ok (.ifCond .ne 7, 3) := by decide +kernel
theorem dX11_agesOf_15 : decode cX11_agesOf 15 = .ok (.iconst 0, 1) := by decide +kernel
theorem dX11_agesOf_16 : decode cX11_agesOf 16 = .ok (.goto 4, 3) := by decide +kernel
theorem dX11_agesOf_19 : decode cX11_agesOf 19 = .ok (.iload_n 2, 1) := by decide +kernel
theorem dX11_agesOf_20 : decode cX11_agesOf 20 = .ok (.putfield 220, 3) := by decide +kernel
theorem dX11_agesOf_23 : decode cX11_agesOf 23 = .ok (.iconst 0, 1) := by decide +kernel
theorem dX11_agesOf_24 : decode cX11_agesOf 24 = .ok (.istore 5, 2) := by decide +kernel
theorem dX11_agesOf_26 : decode cX11_agesOf 26 = .ok (.iload 5, 2) := by decide +kernel
theorem dX11_agesOf_28 : decode cX11_agesOf 28 = .ok (.aload_n 0, 1) := by decide +kernel
theorem dX11_agesOf_29 : decode cX11_agesOf 29 = .ok (.getfield 220, 3) := by decide +kernel
theorem dX11_agesOf_32 : decode cX11_agesOf 32 = .ok (.if_icmp .ge 91, 3) := by decide +kernel
theorem dX11_agesOf_35 : decode cX11_agesOf 35 = .ok (.ldc_w 365, 3) := by decide +kernel
theorem dX11_agesOf_38 : decode cX11_agesOf 38 = .ok (.iload 4, 2) := by decide +kernel
theorem dX11_agesOf_40 : decode cX11_agesOf 40 = .ok (.imul, 1) := by decide +kernel
theorem dX11_agesOf_41 : decode cX11_agesOf 41 = .ok (.sipush 12345, 3) := by decide +kernel
theorem dX11_agesOf_44 : decode cX11_agesOf 44 = .ok (.iadd, 1) := by decide +kernel
theorem dX11_agesOf_45 : decode cX11_agesOf 45 = .ok (.istore 4, 2) := by decide +kernel
theorem dX11_agesOf_47 : decode cX11_agesOf 47 = .ok (.aload_n 0, 1) := by decide +kernel
theorem dX11_agesOf_48 : decode cX11_agesOf 48 = .ok (.getfield 49, 3) := by decide +kernel
theorem dX11_agesOf_51 : decode cX11_agesOf 51 = .ok (.iload 5, 2) := by decide +kernel
theorem dX11_agesOf_53 : decode cX11_agesOf 53 = .ok (.iload 4, 2) := by decide +kernel
theorem dX11_agesOf_55 : decode cX11_agesOf 55 = .ok (.bipush 16, 2) := by decide +kernel
theorem dX11_agesOf_57 : decode cX11_agesOf 57 = .ok (.iushr, 1) := by decide +kernel
theorem dX11_agesOf_58 : decode cX11_agesOf 58 = .ok (.iconst 2, 1) := by decide +kernel
theorem dX11_agesOf_59 : decode cX11_agesOf 59 = .ok (.irem, 1) := by decide +kernel
theorem dX11_agesOf_60 : decode cX11_agesOf 60 = .ok (.iastore, 1) := by decide +kernel
theorem dX11_agesOf_61 : decode cX11_agesOf 61 = .ok (.ldc_w 365, 3) := by decide +kernel
theorem dX11_agesOf_64 : decode cX11_agesOf 64 = .ok (.iload 4, 2) := by decide +kernel
theorem dX11_agesOf_66 : decode cX11_agesOf 66 = .ok (.imul, 1) := by decide +kernel
theorem dX11_agesOf_67 : decode cX11_agesOf 67 = .ok (.sipush 12345, 3) := by decide +kernel
theorem dX11_agesOf_70 : decode cX11_agesOf 70 = .ok (.iadd, 1) := by decide +kernel
theorem dX11_agesOf_71 : decode cX11_agesOf 71 = .ok (.istore 4, 2) := by decide +kernel
theorem dX11_agesOf_73 : decode cX11_agesOf 73 = .ok (.aload_n 0, 1) := by decide +kernel
theorem dX11_agesOf_74 : decode cX11_agesOf 74 = .ok (.getfield 52, 3) := by decide +kernel
theorem dX11_agesOf_77 : decode cX11_agesOf 77 = .ok (.iload 5, 2) := by decide +kernel
theorem dX11_agesOf_79 : decode cX11_agesOf 79 = .ok (.iload 4, 2) := by decide +kernel
theorem dX11_agesOf_81 : decode cX11_agesOf 81 = .ok (.bipush 16, 2) := by decide +kernel
theorem dX11_agesOf_83 : decode cX11_agesOf 83 = .ok (.iushr, 1) := by decide +kernel
theorem dX11_agesOf_84 : decode cX11_agesOf 84 = .ok (.bipush 24, 2) := by decide +kernel
theorem dX11_agesOf_86 : decode cX11_agesOf 86 = .ok (.irem, 1) := by decide +kernel
theorem dX11_agesOf_87 : decode cX11_agesOf 87 = .ok (.iastore, 1) := by decide +kernel
theorem dX11_agesOf_88 : decode cX11_agesOf 88 = .ok (.ldc_w 365, 3) := by decide +kernel
theorem dX11_agesOf_91 : decode cX11_agesOf 91 = .ok (.iload 4, 2) := by decide +kernel
theorem dX11_agesOf_93 : decode cX11_agesOf 93 = .ok (.imul, 1) := by decide +kernel
theorem dX11_agesOf_94 : decode cX11_agesOf 94 = .ok (.sipush 12345, 3) := by decide +kernel
theorem dX11_agesOf_97 : decode cX11_agesOf 97 = .ok (.iadd, 1) := by decide +kernel
theorem dX11_agesOf_98 : decode cX11_agesOf 98 = .ok (.istore 4, 2) := by decide +kernel
theorem dX11_agesOf_100 : decode cX11_agesOf 100 = .ok (.aload_n 0, 1) := by decide +kernel
theorem dX11_agesOf_101 : decode cX11_agesOf 101 = .ok (.getfield 55, 3) := by decide +kernel
theorem dX11_agesOf_104 : decode cX11_agesOf 104 = .ok (.iload 5, 2) := by decide +kernel
theorem dX11_agesOf_106 : decode cX11_agesOf 106 = .ok (.iload 4, 2) := by decide +kernel
theorem dX11_agesOf_108 : decode cX11_agesOf 108 = .ok (.bipush 16, 2) := by decide +kernel
theorem dX11_agesOf_110 : decode cX11_agesOf 110 = .ok (.iushr, 1) := by decide +kernel
theorem dX11_agesOf_111 : decode cX11_agesOf 111 = .ok (.aload_n 0, 1) := by decide +kernel
theorem dX11_agesOf_112 : decode cX11_agesOf 112 = .ok (.getfield 161, 3) := by decide +kernel
theorem dX11_agesOf_115 : decode cX11_agesOf 115 = .ok (.irem, 1) := by decide +kernel
theorem dX11_agesOf_116 : decode cX11_agesOf 116 = .ok (.iastore, 1) := by decide +kernel
theorem dX11_agesOf_117 : decode cX11_agesOf 117 = .ok (.iinc 5 1, 3) := by decide +kernel
theorem dX11_agesOf_120 : decode cX11_agesOf 120 = .ok (.goto (-94), 3) := by decide +kernel
theorem dX11_agesOf_123 : decode cX11_agesOf 123 = .ok (.aload_n 0, 1) := by decide +kernel
theorem dX11_agesOf_124 : decode cX11_agesOf 124 = .ok (.invokevirtual 273, 3) := by decide +kernel
theorem dX11_agesOf_127 : decode cX11_agesOf 127 = .ok (.iload_n 3, 1) := by decide +kernel
theorem dX11_agesOf_128 : decode cX11_agesOf 128 = .ok (.ifCond .ne 10, 3) := by decide +kernel
theorem dX11_agesOf_131 : decode cX11_agesOf 131 = .ok (.aload_n 0, 1) := by decide +kernel
theorem dX11_agesOf_132 : decode cX11_agesOf 132 = .ok (.getfield 226, 3) := by decide +kernel
theorem dX11_agesOf_135 : decode cX11_agesOf 135 = .ok (.goto 7, 3) := by decide +kernel
theorem dX11_agesOf_138 : decode cX11_agesOf 138 = .ok (.aload_n 0, 1) := by decide +kernel
theorem dX11_agesOf_139 : decode cX11_agesOf 139 = .ok (.invokevirtual 366, 3) := by decide +kernel
theorem dX11_agesOf_142 : decode cX11_agesOf 142 = .ok (.ireturn, 1) := by decide +kernel
theorem dX11_sumOf_0 : decode cX11_sumOf 0 = .ok (.aload_n 0, 1) := by decide +kernel
theorem dX11_sumOf_1 : decode cX11_sumOf 1 = .ok (.invokevirtual 276, 3) := by decide +kernel
theorem dX11_sumOf_4 : decode cX11_sumOf 4 = .ok (.iload_n 1, 1) := by decide +kernel
theorem dX11_sumOf_5 : decode cX11_sumOf 5 = .ok (.ifCond .ne 10, 3) := by decide +kernel
theorem dX11_sumOf_8 : decode cX11_sumOf 8 = .ok (.aload_n 0, 1) := by decide +kernel
theorem dX11_sumOf_9 : decode cX11_sumOf 9 = .ok (.getfield 161, 3) := by decide +kernel
theorem dX11_sumOf_12 : decode cX11_sumOf 12 = .ok (.goto 31, 3) := by decide +kernel
theorem dX11_sumOf_15 : decode cX11_sumOf 15 = .ok (.iload_n 1, 1) := by decide +kernel
theorem dX11_sumOf_16 : decode cX11_sumOf 16 = .ok (.iconst 1, 1) := by decide +kernel
theorem dX11_sumOf_17 : decode cX11_sumOf 17 = .ok (.if_icmp .ne 10, 3) := by decide +kernel
theorem dX11_sumOf_20 : decode cX11_sumOf 20 = .ok (.aload_n 0, 1) := by decide +kernel
theorem dX11_sumOf_21 : decode cX11_sumOf 21 = .ok (.getfield 165, 3) := by decide +kernel
theorem dX11_sumOf_24 : decode cX11_sumOf 24 = .ok (.goto 19, 3) := by decide +kernel
theorem dX11_sumOf_27 : decode cX11_sumOf 27 = .ok (.iload_n 1, 1) := by decide +kernel
theorem dX11_sumOf_28 : decode cX11_sumOf 28 = .ok (.iconst 5, 1) := by decide +kernel
theorem dX11_sumOf_29 : decode cX11_sumOf 29 = .ok (.if_icmp .ne 10, 3) := by decide +kernel
theorem dX11_sumOf_32 : decode cX11_sumOf 32 = .ok (.aload_n 0, 1) := by decide +kernel
theorem dX11_sumOf_33 : decode cX11_sumOf 33 = .ok (.getfield 226, 3) := by decide +kernel
theorem dX11_sumOf_36 : decode cX11_sumOf 36 = .ok (.goto 7, 3) := by decide +kernel
theorem dX11_sumOf_39 : decode cX11_sumOf 39 = .ok (.aload_n 0, 1) := by decide +kernel
theorem dX11_sumOf_40 : decode cX11_sumOf 40 = .ok (.invokevirtual 366, 3) := by decide +kernel
theorem dX11_sumOf_43 : decode cX11_sumOf 43 = .ok (.ireturn, 1) := by decide +kernel
theorem dX11_count_0 : decode cX11_count 0 = .ok (.iload_n 1, 1) := by decide +kernel
theorem dX11_count_1 : decode cX11_count 1 = .ok (.tableswitch 81 0 8 #[51, 51, 57, 57, 66, 51, 51, 71, 76], 51) := by decide +kernel
theorem dX11_count_52 : decode cX11_count 52 = .ok (.aload_n 0, 1) := by decide +kernel
theorem dX11_count_53 : decode cX11_count 53 = .ok (.iload_n 1, 1) := by decide +kernel
theorem dX11_count_54 : decode cX11_count 54 = .ok (.invokevirtual 382, 3) := by decide +kernel
theorem dX11_count_57 : decode cX11_count 57 = .ok (.ireturn, 1) := by decide +kernel
theorem dX11_count_58 : decode cX11_count 58 = .ok (.aload_n 0, 1) := by decide +kernel
theorem dX11_count_59 : decode cX11_count 59 = .ok (.getfield 7, 3) := by decide +kernel
theorem dX11_count_62 : decode cX11_count 62 = .ok (.iload_n 1, 1) := by decide +kernel
theorem dX11_count_63 : decode cX11_count 63 = .ok (.iconst 2, 1) := by decide +kernel
theorem dX11_count_64 : decode cX11_count 64 = .ok (.isub, 1) := by decide +kernel
theorem dX11_count_65 : decode cX11_count 65 = .ok (.iaload, 1) := by decide +kernel
theorem dX11_count_66 : decode cX11_count 66 = .ok (.ireturn, 1) := by decide +kernel
theorem dX11_count_67 : decode cX11_count 67 = .ok (.aload_n 0, 1) := by decide +kernel
theorem dX11_count_68 : decode cX11_count 68 = .ok (.getfield 204, 3) := by decide +kernel
theorem dX11_count_71 : decode cX11_count 71 = .ok (.ireturn, 1) := by decide +kernel
theorem dX11_count_72 : decode cX11_count 72 = .ok (.aload_n 0, 1) := by decide +kernel
theorem dX11_count_73 : decode cX11_count 73 = .ok (.getfield 334, 3) := by decide +kernel
theorem dX11_count_76 : decode cX11_count 76 = .ok (.ireturn, 1) := by decide +kernel
theorem dX11_count_77 : decode cX11_count 77 = .ok (.aload_n 0, 1) := by decide +kernel
theorem dX11_count_78 : decode cX11_count 78 = .ok (.getfield 372, 3) := by decide +kernel
theorem dX11_count_81 : decode cX11_count 81 = .ok (.ireturn, 1) := by decide +kernel
theorem dX11_count_82 : decode cX11_count 82 = .ok (.bipush (-2), 2) := by decide +kernel
theorem dX11_count_84 : decode cX11_count 84 = .ok (.ireturn, 1) := by decide +kernel
theorem dX11_carOf_0 : decode cX11_carOf 0 = .ok (.iload_n 2, 1) := by decide +kernel
theorem dX11_carOf_1 : decode cX11_carOf 1 = .ok (.ifCond .ne 12, 3) := by decide +kernel
theorem dX11_carOf_4 : decode cX11_carOf 4 = .ok (.aload_n 0, 1) := by decide +kernel
theorem dX11_carOf_5 : decode cX11_carOf 5 = .ok (.getfield 16, 3) := by decide +kernel
theorem dX11_carOf_8 : decode cX11_carOf 8 = .ok (.iload_n 1, 1) := by decide +kernel
theorem dX11_carOf_9 : decode cX11_carOf 9 = .ok (.iaload, 1) := by decide +kernel
theorem dX11_carOf_10 : decode cX11_carOf 10 = .ok (.goto 51, 3) := by decide +kernel
theorem dX11_carOf_13 : decode cX11_carOf 13 = .ok (.iload_n 2, 1) := by decide +kernel
theorem dX11_carOf_14 : decode cX11_carOf 14 = .ok (.iconst 1, 1) := by decide +kernel
theorem dX11_carOf_15 : decode cX11_carOf 15 = .ok (.if_icmp .ne 12, 3) := by decide +kernel
theorem dX11_carOf_18 : decode cX11_carOf 18 = .ok (.aload_n 0, 1) := by decide +kernel
theorem dX11_carOf_19 : decode cX11_carOf 19 = .ok (.getfield 19, 3) := by decide +kernel
theorem dX11_carOf_22 : decode cX11_carOf 22 = .ok (.iload_n 1, 1) := by decide +kernel
theorem dX11_carOf_23 : decode cX11_carOf 23 = .ok (.iaload, 1) := by decide +kernel
theorem dX11_carOf_24 : decode cX11_carOf 24 = .ok (.goto 37, 3) := by decide +kernel
theorem dX11_carOf_27 : decode cX11_carOf 27 = .ok (.iload_n 2, 1) := by decide +kernel
theorem dX11_carOf_28 : decode cX11_carOf 28 = .ok (.iconst 2, 1) := by decide +kernel
theorem dX11_carOf_29 : decode cX11_carOf 29 = .ok (.if_icmp .ne 12, 3) := by decide +kernel
theorem dX11_carOf_32 : decode cX11_carOf 32 = .ok (.aload_n 0, 1) := by decide +kernel
theorem dX11_carOf_33 : decode cX11_carOf 33 = .ok (.getfield 22, 3) := by decide +kernel
theorem dX11_carOf_36 : decode cX11_carOf 36 = .ok (.iload_n 1, 1) := by decide +kernel
theorem dX11_carOf_37 : decode cX11_carOf 37 = .ok (.iaload, 1) := by decide +kernel
theorem dX11_carOf_38 : decode cX11_carOf 38 = .ok (.goto 23, 3) := by decide +kernel
theorem dX11_carOf_41 : decode cX11_carOf 41 = .ok (.iload_n 2, 1) := by decide +kernel
theorem dX11_carOf_42 : decode cX11_carOf 42 = .ok (.iconst 3, 1) := by decide +kernel
theorem dX11_carOf_43 : decode cX11_carOf 43 = .ok (.if_icmp .ne 12, 3) := by decide +kernel
theorem dX11_carOf_46 : decode cX11_carOf 46 = .ok (.aload_n 0, 1) := by decide +kernel
theorem dX11_carOf_47 : decode cX11_carOf 47 = .ok (.getfield 25, 3) := by decide +kernel
theorem dX11_carOf_50 : decode cX11_carOf 50 = .ok (.iload_n 1, 1) := by decide +kernel
theorem dX11_carOf_51 : decode cX11_carOf 51 = .ok (.iaload, 1) := by decide +kernel
theorem dX11_carOf_52 : decode cX11_carOf 52 = .ok (.goto 9, 3) := by decide +kernel
theorem dX11_carOf_55 : decode cX11_carOf 55 = .ok (.aload_n 0, 1) := by decide +kernel
theorem dX11_carOf_56 : decode cX11_carOf 56 = .ok (.getfield 28, 3) := by decide +kernel
theorem dX11_carOf_59 : decode cX11_carOf 59 = .ok (.iload_n 1, 1) := by decide +kernel
theorem dX11_carOf_60 : decode cX11_carOf 60 = .ok (.iaload, 1) := by decide +kernel
theorem dX11_carOf_61 : decode cX11_carOf 61 = .ok (.ireturn, 1) := by decide +kernel
theorem dX11_steerTold_0 : decode cX11_steerTold 0 = .ok (.aload_n 0, 1) := by decide +kernel
theorem dX11_steerTold_1 : decode cX11_steerTold 1 = .ok (.invokevirtual 180, 3) := by decide +kernel
theorem dX11_steerTold_4 : decode cX11_steerTold 4 = .ok (.iload_n 1, 1) := by decide +kernel
theorem dX11_steerTold_5 : decode cX11_steerTold 5 = .ok (.aload_n 0, 1) := by decide +kernel
theorem dX11_steerTold_6 : decode cX11_steerTold 6 = .ok (.getfield 165, 3) := by decide +kernel
theorem dX11_steerTold_9 : decode cX11_steerTold 9 = .ok (.if_icmp .lt 7, 3) := by decide +kernel
theorem dX11_steerTold_12 : decode cX11_steerTold 12 = .ok (.iconst (-1), 1) := by decide +kernel
theorem dX11_steerTold_13 : decode cX11_steerTold 13 = .ok (.goto 36, 3) := by decide +kernel
theorem dX11_steerTold_16 : decode cX11_steerTold 16 = .ok (.iload_n 2, 1) := by decide +kernel
theorem dX11_steerTold_17 : decode cX11_steerTold 17 = .ok (.ifCond .ne 12, 3) := by decide +kernel
theorem dX11_steerTold_20 : decode cX11_steerTold 20 = .ok (.aload_n 0, 1) := by decide +kernel
theorem dX11_steerTold_21 : decode cX11_steerTold 21 = .ok (.getfield 31, 3) := by decide +kernel
theorem dX11_steerTold_24 : decode cX11_steerTold 24 = .ok (.iload_n 1, 1) := by decide +kernel
theorem dX11_steerTold_25 : decode cX11_steerTold 25 = .ok (.iaload, 1) := by decide +kernel
theorem dX11_steerTold_26 : decode cX11_steerTold 26 = .ok (.goto 23, 3) := by decide +kernel
theorem dX11_steerTold_29 : decode cX11_steerTold 29 = .ok (.iload_n 2, 1) := by decide +kernel
theorem dX11_steerTold_30 : decode cX11_steerTold 30 = .ok (.iconst 1, 1) := by decide +kernel
theorem dX11_steerTold_31 : decode cX11_steerTold 31 = .ok (.if_icmp .ne 12, 3) := by decide +kernel
theorem dX11_steerTold_34 : decode cX11_steerTold 34 = .ok (.aload_n 0, 1) := by decide +kernel
theorem dX11_steerTold_35 : decode cX11_steerTold 35 = .ok (.getfield 34, 3) := by decide +kernel
theorem dX11_steerTold_38 : decode cX11_steerTold 38 = .ok (.iload_n 1, 1) := by decide +kernel
theorem dX11_steerTold_39 : decode cX11_steerTold 39 = .ok (.iaload, 1) := by decide +kernel
theorem dX11_steerTold_40 : decode cX11_steerTold 40 = .ok (.goto 9, 3) := by decide +kernel
theorem dX11_steerTold_43 : decode cX11_steerTold 43 = .ok (.aload_n 0, 1) := by decide +kernel
theorem dX11_steerTold_44 : decode cX11_steerTold 44 = .ok (.getfield 37, 3) := by decide +kernel
theorem dX11_steerTold_47 : decode cX11_steerTold 47 = .ok (.iload_n 1, 1) := by decide +kernel
theorem dX11_steerTold_48 : decode cX11_steerTold 48 = .ok (.iaload, 1) := by decide +kernel
theorem dX11_steerTold_49 : decode cX11_steerTold 49 = .ok (.ireturn, 1) := by decide +kernel
abbrev wAg : Nat → Nat → Prop := fun y z => (y = 111 ∧ z = 17) ∨ (125 ≤ y ∧ y ≤ 127)
theorem c_agesOf (hd : 8 ≤ d) (L0 L1 e : Nat) (ok : okR σ L0 L1 e) (x : Int32) (n : Nat) (hn8 : n ≤ 8) (w : Int32) : mMet G l d kX11_agesOf [.ref 111, .int x, .int (nI n), .int w] σ (qIP (fun r s => r = agA (Dt σ L0 L1 e) x n w ∧ fW wScr σ s)) := by
  have hn : (Dt σ L0 L1 e).1.1 ≤ 8 := parC_n L0 (tx σ 0)
  refine mMet.of cm_X11_agesOf rfl (Nat.le_of_ble_eq_true rfl) rfl (fun v1 σ1 h => by obtain ⟨r, h1, -⟩ := h; rw [h1]; rfl) ?_
  refine m_aload_n dX11_agesOf_0 0 rfl ?_
  refine m_callV (As := []) dX11_agesOf_1 cv_X11_270 (by first | assumption | rfl) (by decide) (by omega) rfl rfl (Nat.le_of_ble_eq_true rfl) (c_asTold (d := d - 1) (by omega) L0 L1 e ok) (fun v1 σ1 hv1 => ?_)
  refine m_qVP hv1 (fun ha => ?_)
  clear hv1 v1
  rename mS => s0
  obtain ⟨a1, a2, a3⟩ := ha
  generalize Dt σ L0 L1 e = D at *
  have hN : agN D n ≤ 8 := by unfold agN; split <;> omega
  have hc0 : 0 < agN D n → D.1.1 ≠ 0 := fun q z => by unfold agN at q; rw [if_pos z] at q; omega
  have q2 := a1.2.2.2.1
  refine m_iload_n dX11_agesOf_4 1 rfl ?_
  refine m_istore (ls1 := [(4, _), (0, _), (1, _), (2, _), (3, _)]) dX11_agesOf_5 (by decide) rfl ?_
  refine m_aload_n dX11_agesOf_7 1 rfl ?_
  refine m_aload_n dX11_agesOf_8 1 rfl ?_
  refine m_getI 2 dX11_agesOf_9 fl_X11_161_10 rfl (by decide) (by first | assumption | rfl) ?_
  refine mW.top q2 ?_
  refine m_sel (pcJ := 20) ?_ (fun kt0 kf0 => m_if_ne dX11_agesOf_12 19 (by decide) (fun h => (m_iload_n dX11_agesOf_19 3 rfl (kf0 h))) (fun h => (m_iconst (v := 0) dX11_agesOf_15 (by decide) (m_goto dX11_agesOf_16 20 (by decide) (kt0 h)))))
  refine mW.top (w := nI (agN D n)) ?_ ?_
  · unfold agN
    by_cases q : D.1.1 = 0
    · rw [if_pos q, q]; rfl
    · have q1 : ¬ nI D.1.1 = 0 := fun z => q ((neq (b := 0) (by omega) (by omega)).mp z)
      rw [if_neg q, if_neg q1]
  refine m_putI 17 dX11_agesOf_20 fw_X11_220_10 rfl (by decide) rfl rfl (by first | assumption | rfl) ?_
  refine m_iconst (v := 0) dX11_agesOf_23 (by decide) ?_
  refine m_istore (ls1 := [(5, _), (4, _), (0, _), (1, _), (2, _), (3, _)]) dX11_agesOf_24 (by decide) rfl ?_
  refine down (N := agN D n) (fun i (q : mS × Int32) => q.2 = sdP x i ∧ q.1.1 111 17 = nI (agN D n) ∧ (∀ a, a < i → ∀ j, j < 3 → q.1.1 (125 + j) a = agF x (nI D.1.1) a j) ∧ fW wAg s0 q.1) (fun i q => mW G l d kX11_agesOf 26 [(5, .int (nI i)), (4, .int q.2), (0, .ref 111), (1, .int x), (2, .int (nI n)), (3, .int w)] [] q.1 _) ?_ ?_ 0 (us s0 111 17 (nI (agN D n)), x) (Nat.zero_le _) ⟨rfl, by simp [us_at], fun a h => absurd h (Nat.not_lt_zero _), fW.us (by omega) fW.rf⟩
  · rintro ⟨s, y⟩ ⟨hy, b1, b2, b3⟩
    have b1 : s.1 111 17 = nI (agN D n) := b1
    have b2 : ∀ a, a < agN D n → ∀ j, j < 3 → s.1 (125 + j) a = agF x (nI D.1.1) a j := b2
    have b3 : fW wAg s0 s := b3
    have r1 : repR s (agD D x n) := by
      obtain ⟨h1, h2, h3, h4, h5, h6, h7, h8, h9, h10, h11⟩ := a1
      exact ⟨h1, h2, Nat.le_trans hN (by decide), (b3.at (by omega)).trans h4, (b3.at (by omega)).trans h5, b1, (b3.at (by omega)).trans h7, fun i hi j hj => (b3.at (by omega)).trans (h8 i hi j hj), fun i hi j hj => (b3.at (by omega)).trans (h9 i hi j hj), b2, h11⟩
    show mW G l d kX11_agesOf 26 [(5, .int (nI (agN D n))), (4, .int y), (0, .ref 111), (1, .int x), (2, .int (nI n)), (3, .int w)] [] s _
    refine m_iload dX11_agesOf_26 0 rfl ?_
    refine m_aload_n dX11_agesOf_28 2 rfl ?_
    refine m_getI 17 dX11_agesOf_29 fl_X11_220_10 rfl (by decide) (by first | assumption | rfl) ?_
    refine mW.top b1 ?_
    refine m_icmp_ge dX11_agesOf_32 123 (by decide) (fun h => ?_) (fun h => ?_)
    · clear h
      refine m_aload_n dX11_agesOf_123 2 rfl ?_
      refine m_callV (As := []) dX11_agesOf_124 cv_X11_273 (by first | assumption | rfl) (by decide) (by omega) rfl rfl (Nat.le_of_ble_eq_true rfl) (c_runsD (d := d - 1) (by omega) _ r1) (fun v1 σ1 hv1 => ?_)
      refine m_qVP hv1 (fun hz => ?_)
      clear hv1 v1
      rename mS => s2
      obtain ⟨z1, z2⟩ := hz
      have r2 := r1.run z2
      have f2 : fW wScr σ s2 := (a3.tr (b3.mono (fun y z h => by omega))).tr (z2.mono (fun y z h => by omega))
      refine m_iload_n dX11_agesOf_127 5 rfl ?_
      refine m_if_ne dX11_agesOf_128 138 (by decide) (fun h => ?_) (fun h => ?_)
      · refine m_aload_n dX11_agesOf_138 2 rfl ?_
        refine m_callV (As := []) dX11_agesOf_139 cv_X11_366 (by first | assumption | rfl) (by decide) (by omega) rfl rfl (Nat.le_of_ble_eq_true rfl) (c_pointsAll (d := d - 1) D.1.1 hn r2.2.2.2.1) (fun v1 σ1 hv1 => ?_)
        refine m_qI hv1 ?_
        clear hv1 v1 σ1
        refine m_ireturn dX11_agesOf_142 ⟨_, rfl, ?_, f2⟩
        unfold agA
        rw [if_neg h]
        exact sumP_cong _ (fun k hk => (z1.2.1 k hk).2.2.2.1)
      · refine m_aload_n dX11_agesOf_131 2 rfl ?_
        refine m_getI 29 dX11_agesOf_132 fl_X11_226_10 rfl (by decide) (by first | assumption | rfl) ?_
        refine m_goto dX11_agesOf_135 142 (by decide) ?_
        refine m_ireturn dX11_agesOf_142 ⟨_, rfl, ?_, f2⟩
        unfold agA
        rw [if_pos h]
        exact z1.2.2.2.1
    · exact absurd (Int32.le_refl _) h
  · rintro i ⟨s, y⟩ hi ⟨hy, b1, b2, b3⟩ ih
    have hy' : y = sdP x i := hy
    have hi9 : i < 9 := by omega
    have q2' : s.1 111 2 = nI D.1.1 := (b3.at (by omega)).trans q2
    have hne : ¬ nI D.1.1 = 0 := fun z => hc0 (by omega) ((neq (b := 0) (by omega) (by omega)).mp z)
    show mW G l d kX11_agesOf 26 [(5, .int (nI i)), (4, .int y), (0, .ref 111), (1, .int x), (2, .int (nI n)), (3, .int w)] [] s _
    refine m_iload dX11_agesOf_26 0 rfl ?_
    refine m_aload_n dX11_agesOf_28 2 rfl ?_
    refine m_getI 17 dX11_agesOf_29 fl_X11_220_10 rfl (by decide) (by first | assumption | rfl) ?_
    refine mW.top b1 ?_
    refine m_icmp_ge dX11_agesOf_32 123 (by decide) (fun h => ?_) (fun h => ?_)
    · exact absurd ((nle (by omega) (by omega)).mp h) (by omega)
    · clear h
      refine m_ldc_w dX11_agesOf_35 kc_X11_365 ?_
      refine m_iload dX11_agesOf_38 1 rfl ?_
      refine m_imul dX11_agesOf_40 ?_
      refine m_sipush (v := 12345) dX11_agesOf_41 (by decide) ?_
      refine m_iadd dX11_agesOf_44 ?_
      refine m_istore (ls1 := [(4, _), (5, _), (0, _), (1, _), (2, _), (3, _)]) dX11_agesOf_45 (by decide) rfl ?_
      refine m_aload_n dX11_agesOf_47 2 rfl ?_
      refine m_getR 18 125 dX11_agesOf_48 fl_X11_49_10 rfl (by decide) rfl (by first | assumption | rfl) ?_
      refine m_iload dX11_agesOf_51 1 rfl ?_
      refine m_iload dX11_agesOf_53 0 rfl ?_
      refine m_bipush (v := 16) dX11_agesOf_55 (by decide) ?_
      refine m_iushr (v := _) dX11_agesOf_57 rfl ?_
      refine m_iconst (v := 2) dX11_agesOf_58 (by decide) ?_
      refine m_irem dX11_agesOf_59 (by decide) ?_
      refine m_iast dX11_agesOf_60 (by first | assumption | rfl) i rfl (by first | assumption | omega | decide) ?_
      refine m_ldc_w dX11_agesOf_61 kc_X11_365 ?_
      refine m_iload dX11_agesOf_64 0 rfl ?_
      refine m_imul dX11_agesOf_66 ?_
      refine m_sipush (v := 12345) dX11_agesOf_67 (by decide) ?_
      refine m_iadd dX11_agesOf_70 ?_
      refine m_istore (ls1 := [(4, _), (5, _), (0, _), (1, _), (2, _), (3, _)]) dX11_agesOf_71 (by decide) rfl ?_
      refine m_aload_n dX11_agesOf_73 2 rfl ?_
      refine m_getR 19 126 dX11_agesOf_74 fl_X11_52_10 rfl (by decide) rfl (by first | assumption | rfl) ?_
      refine m_iload dX11_agesOf_77 1 rfl ?_
      refine m_iload dX11_agesOf_79 0 rfl ?_
      refine m_bipush (v := 16) dX11_agesOf_81 (by decide) ?_
      refine m_iushr (v := _) dX11_agesOf_83 rfl ?_
      refine m_bipush (v := 24) dX11_agesOf_84 (by decide) ?_
      refine m_irem dX11_agesOf_86 (by decide) ?_
      refine m_iast dX11_agesOf_87 (by first | assumption | rfl) i rfl (by first | assumption | omega | decide) ?_
      refine m_ldc_w dX11_agesOf_88 kc_X11_365 ?_
      refine m_iload dX11_agesOf_91 0 rfl ?_
      refine m_imul dX11_agesOf_93 ?_
      refine m_sipush (v := 12345) dX11_agesOf_94 (by decide) ?_
      refine m_iadd dX11_agesOf_97 ?_
      refine m_istore (ls1 := [(4, _), (5, _), (0, _), (1, _), (2, _), (3, _)]) dX11_agesOf_98 (by decide) rfl ?_
      refine m_aload_n dX11_agesOf_100 2 rfl ?_
      refine m_getR 20 127 dX11_agesOf_101 fl_X11_55_10 rfl (by decide) rfl (by first | assumption | rfl) ?_
      refine m_iload dX11_agesOf_104 1 rfl ?_
      refine m_iload dX11_agesOf_106 0 rfl ?_
      refine m_bipush (v := 16) dX11_agesOf_108 (by decide) ?_
      refine m_iushr (v := _) dX11_agesOf_110 rfl ?_
      refine m_aload_n dX11_agesOf_111 2 rfl ?_
      refine m_getI 2 dX11_agesOf_112 fl_X11_161_10 rfl (by decide) (by first | assumption | rfl) ?_
      refine mW.top q2' ?_
      refine m_irem dX11_agesOf_115 hne ?_
      refine m_iast dX11_agesOf_116 (by first | assumption | rfl) i rfl (by first | assumption | omega | decide) ?_
      refine m_iinc (v := nI (i + 1)) (ls1 := [(5, _), (4, _), (0, _), (1, _), (2, _), (3, _)]) dX11_agesOf_117 1 rfl (nI_1 i) (by decide) rfl ?_
      refine m_goto dX11_agesOf_120 26 (by decide) ?_
      refine mW.sub (ls1 := [(5, _), (4, _), (0, _), (1, _), (2, _), (3, _)]) [0, 1, 2, 3, 4, 5] rfl ?_
      refine ih (_, _) ⟨?_, ?_, fun a ha j hj => ?_, fW.us (by omega) (fW.us (by omega) (fW.us (by omega) b3))⟩
      · show _ = lcg (lcg (lcg (sdP x i)))
        rw [← hy']; rfl
      · simp [us_at]; exact b1
      · have e3 : ∀ a j, agF x (nI D.1.1) a j = if j = 0 then lot (lcg (sdP x a)) 2 else if j = 1 then lot (lcg (lcg (sdP x a))) 24 else lot (lcg (lcg (lcg (sdP x a)))) (nI D.1.1) := fun _ _ => rfl
        rcases Nat.lt_succ_iff_lt_or_eq.mp ha with h | rfl
        · have hb := b2 a h j hj
          show (us _ 127 i _).1 (125 + j) a = _
          rw [us_at, if_neg (by omega), us_at, if_neg (by omega), us_at, if_neg (by omega)]
          exact hb
        · rw [e3, ← hy']
          rcases (show j = 0 ∨ j = 1 ∨ j = 2 by omega) with rfl | rfl | rfl
          · simp [us_at]; rfl
          · simp [us_at]; rfl
          · show (us _ 127 a _).1 127 a = _
            rw [us_at, if_pos ⟨rfl, rfl⟩]; rfl
theorem c_sumOf (hd : 8 ≤ d) (L0 L1 e : Nat) (ok : okR σ L0 L1 e) (w : Int32) : mMet G l d kX11_sumOf [.ref 111, .int w] σ (qIP (fun r s => r = suA (Dt σ L0 L1 e) w ∧ fW wScr σ s)) := by
  have hn : (Dt σ L0 L1 e).1.1 ≤ 8 := parC_n L0 (tx σ 0)
  refine mMet.of cm_X11_sumOf rfl (Nat.le_of_ble_eq_true rfl) rfl (fun v1 σ1 h => by obtain ⟨r, h1, -⟩ := h; rw [h1]; rfl) ?_
  refine m_aload_n dX11_sumOf_0 0 rfl ?_
  refine m_callV (As := []) dX11_sumOf_1 cv_X11_276 (by first | assumption | rfl) (by decide) (by omega) rfl rfl (Nat.le_of_ble_eq_true rfl) (c_runsTold (d := d - 1) (by omega) L0 L1 e ok) (fun v1 σ1 hv1 => ?_)
  refine m_qVP hv1 (fun ha => ?_)
  clear hv1 v1
  rename mS => s0
  obtain ⟨a1, a2, a3, a4⟩ := ha
  generalize Dt σ L0 L1 e = D at *
  unfold suA
  refine m_iload_n dX11_sumOf_4 1 rfl ?_
  refine m_if_ne dX11_sumOf_5 15 (by decide) (fun h5 => ?_) (fun h5 => ?_)
  rotate_left
  · refine m_aload_n dX11_sumOf_8 0 rfl ?_
    refine m_getI 2 dX11_sumOf_9 fl_X11_161_10 rfl (by decide) (by first | assumption | rfl) ?_
    refine mW.top a2 ?_
    refine m_goto dX11_sumOf_12 43 (by decide) ?_
    exact m_ireturn dX11_sumOf_43 ⟨_, rfl, by rw [if_pos h5], a4⟩
  · refine m_iload_n dX11_sumOf_15 1 rfl ?_
    refine m_iconst (v := 1) dX11_sumOf_16 (by decide) ?_
    refine m_icmp_ne dX11_sumOf_17 27 (by decide) (fun h17 => ?_) (fun h17 => ?_)
    rotate_left
    · refine m_aload_n dX11_sumOf_20 0 rfl ?_
      refine m_getI 8 dX11_sumOf_21 fl_X11_165_10 rfl (by decide) (by first | assumption | rfl) ?_
      refine mW.top a3 ?_
      refine m_goto dX11_sumOf_24 43 (by decide) ?_
      exact m_ireturn dX11_sumOf_43 ⟨_, rfl, by rw [if_neg h5, if_pos h17], a4⟩
    · refine m_iload_n dX11_sumOf_27 1 rfl ?_
      refine m_iconst (v := 5) dX11_sumOf_28 (by decide) ?_
      refine m_icmp_ne dX11_sumOf_29 39 (by decide) (fun h29 => ?_) (fun h29 => ?_)
      rotate_left
      · refine m_aload_n dX11_sumOf_32 0 rfl ?_
        refine m_getI 29 dX11_sumOf_33 fl_X11_226_10 rfl (by decide) (by first | assumption | rfl) ?_
        refine mW.top a1.2.2.2.1 ?_
        refine m_goto dX11_sumOf_36 43 (by decide) ?_
        exact m_ireturn dX11_sumOf_43 ⟨_, rfl, by rw [if_neg h5, if_neg h17, if_pos h29], a4⟩
      · refine m_aload_n dX11_sumOf_39 0 rfl ?_
        refine m_callV (As := []) dX11_sumOf_40 cv_X11_366 (by first | assumption | rfl) (by decide) (by omega) rfl rfl (Nat.le_of_ble_eq_true rfl) (c_pointsAll (d := d - 1) D.1.1 hn a2) (fun v1 σ1 hv1 => ?_)
        refine m_qI hv1 ?_
        clear hv1 v1 σ1
        refine m_ireturn dX11_sumOf_43 ⟨_, rfl, ?_, a4⟩
        rw [if_neg h5, if_neg h17, if_neg h29]
        exact sumP_cong _ (fun k hk => (a1.2.1 k hk).2.2.2.1)
theorem c_count (hd : 9 ≤ d) (L0 L1 e : Nat) (ok : okR σ L0 L1 e) (z : Nat) (hz : σ.1 111 41 = nI z) (w : Int32) : mMet G l d kX11_count [.ref 111, .int w] σ (qIP (fun r s => r = cnA (Dt σ L0 L1 e) L0 L1 z (σ.1 111 52) w ∧ fW wScr σ s)) := by
  refine mMet.of cm_X11_count rfl (Nat.le_of_ble_eq_true rfl) rfl (fun v1 σ1 h => by obtain ⟨r, h1, -⟩ := h; rw [h1]; rfl) ?_
  have out : (w.toInt < 0 ∨ 8 < w.toInt) → (∀ j, j < 9 → w ≠ nI j) → mW G l d kX11_count 0 [(0, .ref 111), (1, .int w)] [] σ (qIP (fun r s => r = cnA (Dt σ L0 L1 e) L0 L1 z (σ.1 111 52) w ∧ fW wScr σ s)) := by
    intro ho hj
    refine m_iload_n dX11_count_0 1 rfl ?_
    refine m_tableOut dX11_count_1 ho 82 (by decide) ?_
    refine m_bipush (v := -2) dX11_count_82 (by decide) ?_
    refine m_ireturn dX11_count_84 ⟨_, rfl, ?_, fW.rf⟩
    have e0 : ¬ w = 0 := hj 0 (by decide)
    have e1 : ¬ w = 1 := hj 1 (by decide)
    have e2 : ¬ w = 2 := hj 2 (by decide)
    have e3 : ¬ w = 3 := hj 3 (by decide)
    have e4 : ¬ w = 4 := hj 4 (by decide)
    have e5 : ¬ w = 5 := hj 5 (by decide)
    have e6 : ¬ w = 6 := hj 6 (by decide)
    have e7 : ¬ w = 7 := hj 7 (by decide)
    have e8 : ¬ w = 8 := hj 8 (by decide)
    have e9 : ¬ (w = 0 ∨ w = 1 ∨ w = 5 ∨ w = 6) := fun q => q.elim e0 (fun q => q.elim e1 (fun q => q.elim e5 e6))
    unfold cnA
    rw [if_neg e2, if_neg e3, if_neg e4, if_neg e7, if_neg e8, if_neg e9]
  rcases pk_ix w (n := 9) (by decide) with h1 | h1 | ⟨j, hj, rfl⟩
  · refine out (Or.inl (by rw [Int32.lt_iff_toInt_lt] at h1; exact h1)) (fun j hj q => ?_)
    subst q
    exact absurd h1 (Int32.not_lt.mpr ((nle (a := 0) (by omega) (by omega)).mpr (Nat.zero_le _)))
  · refine out (Or.inr (by rw [Int32.le_iff_toInt_le] at h1; have : (nI 9).toInt = 9 := rfl; omega)) (fun j hj q => ?_)
    subst q
    exact absurd ((nle (by omega) (by omega)).mp h1) (by omega)
  · rcases (show j = 0 ∨ j = 1 ∨ j = 2 ∨ j = 3 ∨ j = 4 ∨ j = 5 ∨ j = 6 ∨ j = 7 ∨ j = 8 by omega) with rfl | rfl | rfl | rfl | rfl | rfl | rfl | rfl | rfl
    · refine m_iload_n dX11_count_0 1 rfl ?_
      refine m_tableIn dX11_count_1 (by decide) (by decide) (off := 51) (by decide) 52 (by decide) ?_
      refine m_aload_n dX11_count_52 0 rfl ?_
      refine m_iload_n dX11_count_53 1 rfl ?_
      refine m_callV (As := [_]) dX11_count_54 cv_X11_382 (by first | assumption | rfl) (by decide) (by omega) rfl rfl (Nat.le_of_ble_eq_true rfl) (c_sumOf (d := d - 1) (by omega) L0 L1 e ok (nI 0)) (fun v1 σ1 hv1 => ?_)
      refine m_qIP hv1 (fun r1 ha => ?_)
      clear hv1 v1
      exact m_ireturn dX11_count_57 ⟨_, rfl, ha.1, ha.2⟩
    · refine m_iload_n dX11_count_0 1 rfl ?_
      refine m_tableIn dX11_count_1 (by decide) (by decide) (off := 51) (by decide) 52 (by decide) ?_
      refine m_aload_n dX11_count_52 0 rfl ?_
      refine m_iload_n dX11_count_53 1 rfl ?_
      refine m_callV (As := [_]) dX11_count_54 cv_X11_382 (by first | assumption | rfl) (by decide) (by omega) rfl rfl (Nat.le_of_ble_eq_true rfl) (c_sumOf (d := d - 1) (by omega) L0 L1 e ok (nI 1)) (fun v1 σ1 hv1 => ?_)
      refine m_qIP hv1 (fun r1 ha => ?_)
      clear hv1 v1
      exact m_ireturn dX11_count_57 ⟨_, rfl, ha.1, ha.2⟩
    · refine m_iload_n dX11_count_0 1 rfl ?_
      refine m_tableIn dX11_count_1 (by decide) (by decide) (off := 57) (by decide) 58 (by decide) ?_
      refine m_aload_n dX11_count_58 0 rfl ?_
      refine m_getR 0 112 dX11_count_59 fl_X11_7_10 rfl (by decide) rfl (by first | assumption | rfl) ?_
      refine m_iload_n dX11_count_62 1 rfl ?_
      refine m_iconst (v := 2) dX11_count_63 (by decide) ?_
      refine m_isub dX11_count_64 ?_
      refine m_iald dX11_count_65 (by first | assumption | rfl) 0 rfl (by first | assumption | omega | decide) ?_
      refine mW.top ok.1 ?_
      exact m_ireturn dX11_count_66 ⟨_, rfl, rfl, fW.rf⟩
    · refine m_iload_n dX11_count_0 1 rfl ?_
      refine m_tableIn dX11_count_1 (by decide) (by decide) (off := 57) (by decide) 58 (by decide) ?_
      refine m_aload_n dX11_count_58 0 rfl ?_
      refine m_getR 0 112 dX11_count_59 fl_X11_7_10 rfl (by decide) rfl (by first | assumption | rfl) ?_
      refine m_iload_n dX11_count_62 1 rfl ?_
      refine m_iconst (v := 2) dX11_count_63 (by decide) ?_
      refine m_isub dX11_count_64 ?_
      refine m_iald dX11_count_65 (by first | assumption | rfl) 1 rfl (by first | assumption | omega | decide) ?_
      refine mW.top ok.2.2.1 ?_
      exact m_ireturn dX11_count_66 ⟨_, rfl, rfl, fW.rf⟩
    · refine m_iload_n dX11_count_0 1 rfl ?_
      refine m_tableIn dX11_count_1 (by decide) (by decide) (off := 66) (by decide) 67 (by decide) ?_
      refine m_aload_n dX11_count_67 0 rfl ?_
      refine m_getI 12 dX11_count_68 fl_X11_204_10 rfl (by decide) (by first | assumption | rfl) ?_
      refine mW.top ok.2.2.2.2.1 ?_
      exact m_ireturn dX11_count_71 ⟨_, rfl, rfl, fW.rf⟩
    · refine m_iload_n dX11_count_0 1 rfl ?_
      refine m_tableIn dX11_count_1 (by decide) (by decide) (off := 51) (by decide) 52 (by decide) ?_
      refine m_aload_n dX11_count_52 0 rfl ?_
      refine m_iload_n dX11_count_53 1 rfl ?_
      refine m_callV (As := [_]) dX11_count_54 cv_X11_382 (by first | assumption | rfl) (by decide) (by omega) rfl rfl (Nat.le_of_ble_eq_true rfl) (c_sumOf (d := d - 1) (by omega) L0 L1 e ok (nI 5)) (fun v1 σ1 hv1 => ?_)
      refine m_qIP hv1 (fun r1 ha => ?_)
      clear hv1 v1
      exact m_ireturn dX11_count_57 ⟨_, rfl, ha.1, ha.2⟩
    · refine m_iload_n dX11_count_0 1 rfl ?_
      refine m_tableIn dX11_count_1 (by decide) (by decide) (off := 51) (by decide) 52 (by decide) ?_
      refine m_aload_n dX11_count_52 0 rfl ?_
      refine m_iload_n dX11_count_53 1 rfl ?_
      refine m_callV (As := [_]) dX11_count_54 cv_X11_382 (by first | assumption | rfl) (by decide) (by omega) rfl rfl (Nat.le_of_ble_eq_true rfl) (c_sumOf (d := d - 1) (by omega) L0 L1 e ok (nI 6)) (fun v1 σ1 hv1 => ?_)
      refine m_qIP hv1 (fun r1 ha => ?_)
      clear hv1 v1
      exact m_ireturn dX11_count_57 ⟨_, rfl, ha.1, ha.2⟩
    · refine m_iload_n dX11_count_0 1 rfl ?_
      refine m_tableIn dX11_count_1 (by decide) (by decide) (off := 71) (by decide) 72 (by decide) ?_
      refine m_aload_n dX11_count_72 0 rfl ?_
      refine m_getI 41 dX11_count_73 fl_X11_334_10 rfl (by decide) (by first | assumption | rfl) ?_
      refine mW.top hz ?_
      exact m_ireturn dX11_count_76 ⟨_, rfl, rfl, fW.rf⟩
    · refine m_iload_n dX11_count_0 1 rfl ?_
      refine m_tableIn dX11_count_1 (by decide) (by decide) (off := 76) (by decide) 77 (by decide) ?_
      refine m_aload_n dX11_count_77 0 rfl ?_
      refine m_getI 52 dX11_count_78 fl_X11_372_10 rfl (by decide) (by first | assumption | rfl) ?_
      exact m_ireturn dX11_count_81 ⟨_, rfl, rfl, fW.rf⟩
theorem c_carOf (k w : Nat) (hk : k < 9) (hw : w ≤ 4) : mMet G l d kX11_carOf [.ref 111, .int (nI k), .int (nI w)] σ (qI (σ.1 (114 + w) k) σ) := by
  refine mMet.of cm_X11_carOf rfl (Nat.le_of_ble_eq_true rfl) rfl (fun v1 σ1 h => by rw [h.1]; rfl) ?_
  rcases (show w = 0 ∨ w = 1 ∨ w = 2 ∨ w = 3 ∨ w = 4 by omega) with rfl | rfl | rfl | rfl | rfl
  · refine m_iload_n dX11_carOf_0 2 rfl ?_
    refine m_if_ne dX11_carOf_1 13 (by decide) (fun h1 => ?_) (fun h1 => ?_)
    · refine m_iload_n dX11_carOf_13 2 rfl ?_
      refine m_iconst (v := 1) dX11_carOf_14 (by decide) ?_
      refine m_icmp_ne dX11_carOf_15 27 (by decide) (fun h15 => ?_) (fun h15 => ?_)
      · refine m_iload_n dX11_carOf_27 2 rfl ?_
        refine m_iconst (v := 2) dX11_carOf_28 (by decide) ?_
        refine m_icmp_ne dX11_carOf_29 41 (by decide) (fun h29 => ?_) (fun h29 => ?_)
        · refine m_iload_n dX11_carOf_41 2 rfl ?_
          refine m_iconst (v := 3) dX11_carOf_42 (by decide) ?_
          refine m_icmp_ne dX11_carOf_43 55 (by decide) (fun h43 => ?_) (fun h43 => ?_)
          · refine m_aload_n dX11_carOf_55 0 rfl ?_
            refine m_getR 7 118 dX11_carOf_56 fl_X11_28_10 rfl (by decide) rfl (by first | assumption | rfl) ?_
            refine m_iload_n dX11_carOf_59 1 rfl ?_
            refine m_iald dX11_carOf_60 (by first | assumption | rfl) k rfl (by first | assumption | omega | decide) ?_
            refine m_ireturn dX11_carOf_61 ?_
            first | exact absurd h1 (by decide) | exact absurd h15 (by decide) | exact absurd h29 (by decide) | exact absurd h43 (by decide) | exact qI_of rfl
          · refine m_aload_n dX11_carOf_46 0 rfl ?_
            refine m_getR 6 117 dX11_carOf_47 fl_X11_25_10 rfl (by decide) rfl (by first | assumption | rfl) ?_
            refine m_iload_n dX11_carOf_50 1 rfl ?_
            refine m_iald dX11_carOf_51 (by first | assumption | rfl) k rfl (by first | assumption | omega | decide) ?_
            refine m_goto dX11_carOf_52 61 (by decide) ?_
            refine m_ireturn dX11_carOf_61 ?_
            first | exact absurd h1 (by decide) | exact absurd h15 (by decide) | exact absurd h29 (by decide) | exact absurd h43 (by decide) | exact qI_of rfl
        · refine m_aload_n dX11_carOf_32 0 rfl ?_
          refine m_getR 5 116 dX11_carOf_33 fl_X11_22_10 rfl (by decide) rfl (by first | assumption | rfl) ?_
          refine m_iload_n dX11_carOf_36 1 rfl ?_
          refine m_iald dX11_carOf_37 (by first | assumption | rfl) k rfl (by first | assumption | omega | decide) ?_
          refine m_goto dX11_carOf_38 61 (by decide) ?_
          refine m_ireturn dX11_carOf_61 ?_
          first | exact absurd h1 (by decide) | exact absurd h15 (by decide) | exact absurd h29 (by decide) | exact absurd h43 (by decide) | exact qI_of rfl
      · refine m_aload_n dX11_carOf_18 0 rfl ?_
        refine m_getR 4 115 dX11_carOf_19 fl_X11_19_10 rfl (by decide) rfl (by first | assumption | rfl) ?_
        refine m_iload_n dX11_carOf_22 1 rfl ?_
        refine m_iald dX11_carOf_23 (by first | assumption | rfl) k rfl (by first | assumption | omega | decide) ?_
        refine m_goto dX11_carOf_24 61 (by decide) ?_
        refine m_ireturn dX11_carOf_61 ?_
        first | exact absurd h1 (by decide) | exact absurd h15 (by decide) | exact absurd h29 (by decide) | exact absurd h43 (by decide) | exact qI_of rfl
    · refine m_aload_n dX11_carOf_4 0 rfl ?_
      refine m_getR 3 114 dX11_carOf_5 fl_X11_16_10 rfl (by decide) rfl (by first | assumption | rfl) ?_
      refine m_iload_n dX11_carOf_8 1 rfl ?_
      refine m_iald dX11_carOf_9 (by first | assumption | rfl) k rfl (by first | assumption | omega | decide) ?_
      refine m_goto dX11_carOf_10 61 (by decide) ?_
      refine m_ireturn dX11_carOf_61 ?_
      first | exact absurd h1 (by decide) | exact absurd h15 (by decide) | exact absurd h29 (by decide) | exact absurd h43 (by decide) | exact qI_of rfl
  · refine m_iload_n dX11_carOf_0 2 rfl ?_
    refine m_if_ne dX11_carOf_1 13 (by decide) (fun h1 => ?_) (fun h1 => ?_)
    · refine m_iload_n dX11_carOf_13 2 rfl ?_
      refine m_iconst (v := 1) dX11_carOf_14 (by decide) ?_
      refine m_icmp_ne dX11_carOf_15 27 (by decide) (fun h15 => ?_) (fun h15 => ?_)
      · refine m_iload_n dX11_carOf_27 2 rfl ?_
        refine m_iconst (v := 2) dX11_carOf_28 (by decide) ?_
        refine m_icmp_ne dX11_carOf_29 41 (by decide) (fun h29 => ?_) (fun h29 => ?_)
        · refine m_iload_n dX11_carOf_41 2 rfl ?_
          refine m_iconst (v := 3) dX11_carOf_42 (by decide) ?_
          refine m_icmp_ne dX11_carOf_43 55 (by decide) (fun h43 => ?_) (fun h43 => ?_)
          · refine m_aload_n dX11_carOf_55 0 rfl ?_
            refine m_getR 7 118 dX11_carOf_56 fl_X11_28_10 rfl (by decide) rfl (by first | assumption | rfl) ?_
            refine m_iload_n dX11_carOf_59 1 rfl ?_
            refine m_iald dX11_carOf_60 (by first | assumption | rfl) k rfl (by first | assumption | omega | decide) ?_
            refine m_ireturn dX11_carOf_61 ?_
            first | exact absurd h1 (by decide) | exact absurd h15 (by decide) | exact absurd h29 (by decide) | exact absurd h43 (by decide) | exact qI_of rfl
          · refine m_aload_n dX11_carOf_46 0 rfl ?_
            refine m_getR 6 117 dX11_carOf_47 fl_X11_25_10 rfl (by decide) rfl (by first | assumption | rfl) ?_
            refine m_iload_n dX11_carOf_50 1 rfl ?_
            refine m_iald dX11_carOf_51 (by first | assumption | rfl) k rfl (by first | assumption | omega | decide) ?_
            refine m_goto dX11_carOf_52 61 (by decide) ?_
            refine m_ireturn dX11_carOf_61 ?_
            first | exact absurd h1 (by decide) | exact absurd h15 (by decide) | exact absurd h29 (by decide) | exact absurd h43 (by decide) | exact qI_of rfl
        · refine m_aload_n dX11_carOf_32 0 rfl ?_
          refine m_getR 5 116 dX11_carOf_33 fl_X11_22_10 rfl (by decide) rfl (by first | assumption | rfl) ?_
          refine m_iload_n dX11_carOf_36 1 rfl ?_
          refine m_iald dX11_carOf_37 (by first | assumption | rfl) k rfl (by first | assumption | omega | decide) ?_
          refine m_goto dX11_carOf_38 61 (by decide) ?_
          refine m_ireturn dX11_carOf_61 ?_
          first | exact absurd h1 (by decide) | exact absurd h15 (by decide) | exact absurd h29 (by decide) | exact absurd h43 (by decide) | exact qI_of rfl
      · refine m_aload_n dX11_carOf_18 0 rfl ?_
        refine m_getR 4 115 dX11_carOf_19 fl_X11_19_10 rfl (by decide) rfl (by first | assumption | rfl) ?_
        refine m_iload_n dX11_carOf_22 1 rfl ?_
        refine m_iald dX11_carOf_23 (by first | assumption | rfl) k rfl (by first | assumption | omega | decide) ?_
        refine m_goto dX11_carOf_24 61 (by decide) ?_
        refine m_ireturn dX11_carOf_61 ?_
        first | exact absurd h1 (by decide) | exact absurd h15 (by decide) | exact absurd h29 (by decide) | exact absurd h43 (by decide) | exact qI_of rfl
    · refine m_aload_n dX11_carOf_4 0 rfl ?_
      refine m_getR 3 114 dX11_carOf_5 fl_X11_16_10 rfl (by decide) rfl (by first | assumption | rfl) ?_
      refine m_iload_n dX11_carOf_8 1 rfl ?_
      refine m_iald dX11_carOf_9 (by first | assumption | rfl) k rfl (by first | assumption | omega | decide) ?_
      refine m_goto dX11_carOf_10 61 (by decide) ?_
      refine m_ireturn dX11_carOf_61 ?_
      first | exact absurd h1 (by decide) | exact absurd h15 (by decide) | exact absurd h29 (by decide) | exact absurd h43 (by decide) | exact qI_of rfl
  · refine m_iload_n dX11_carOf_0 2 rfl ?_
    refine m_if_ne dX11_carOf_1 13 (by decide) (fun h1 => ?_) (fun h1 => ?_)
    · refine m_iload_n dX11_carOf_13 2 rfl ?_
      refine m_iconst (v := 1) dX11_carOf_14 (by decide) ?_
      refine m_icmp_ne dX11_carOf_15 27 (by decide) (fun h15 => ?_) (fun h15 => ?_)
      · refine m_iload_n dX11_carOf_27 2 rfl ?_
        refine m_iconst (v := 2) dX11_carOf_28 (by decide) ?_
        refine m_icmp_ne dX11_carOf_29 41 (by decide) (fun h29 => ?_) (fun h29 => ?_)
        · refine m_iload_n dX11_carOf_41 2 rfl ?_
          refine m_iconst (v := 3) dX11_carOf_42 (by decide) ?_
          refine m_icmp_ne dX11_carOf_43 55 (by decide) (fun h43 => ?_) (fun h43 => ?_)
          · refine m_aload_n dX11_carOf_55 0 rfl ?_
            refine m_getR 7 118 dX11_carOf_56 fl_X11_28_10 rfl (by decide) rfl (by first | assumption | rfl) ?_
            refine m_iload_n dX11_carOf_59 1 rfl ?_
            refine m_iald dX11_carOf_60 (by first | assumption | rfl) k rfl (by first | assumption | omega | decide) ?_
            refine m_ireturn dX11_carOf_61 ?_
            first | exact absurd h1 (by decide) | exact absurd h15 (by decide) | exact absurd h29 (by decide) | exact absurd h43 (by decide) | exact qI_of rfl
          · refine m_aload_n dX11_carOf_46 0 rfl ?_
            refine m_getR 6 117 dX11_carOf_47 fl_X11_25_10 rfl (by decide) rfl (by first | assumption | rfl) ?_
            refine m_iload_n dX11_carOf_50 1 rfl ?_
            refine m_iald dX11_carOf_51 (by first | assumption | rfl) k rfl (by first | assumption | omega | decide) ?_
            refine m_goto dX11_carOf_52 61 (by decide) ?_
            refine m_ireturn dX11_carOf_61 ?_
            first | exact absurd h1 (by decide) | exact absurd h15 (by decide) | exact absurd h29 (by decide) | exact absurd h43 (by decide) | exact qI_of rfl
        · refine m_aload_n dX11_carOf_32 0 rfl ?_
          refine m_getR 5 116 dX11_carOf_33 fl_X11_22_10 rfl (by decide) rfl (by first | assumption | rfl) ?_
          refine m_iload_n dX11_carOf_36 1 rfl ?_
          refine m_iald dX11_carOf_37 (by first | assumption | rfl) k rfl (by first | assumption | omega | decide) ?_
          refine m_goto dX11_carOf_38 61 (by decide) ?_
          refine m_ireturn dX11_carOf_61 ?_
          first | exact absurd h1 (by decide) | exact absurd h15 (by decide) | exact absurd h29 (by decide) | exact absurd h43 (by decide) | exact qI_of rfl
      · refine m_aload_n dX11_carOf_18 0 rfl ?_
        refine m_getR 4 115 dX11_carOf_19 fl_X11_19_10 rfl (by decide) rfl (by first | assumption | rfl) ?_
        refine m_iload_n dX11_carOf_22 1 rfl ?_
        refine m_iald dX11_carOf_23 (by first | assumption | rfl) k rfl (by first | assumption | omega | decide) ?_
        refine m_goto dX11_carOf_24 61 (by decide) ?_
        refine m_ireturn dX11_carOf_61 ?_
        first | exact absurd h1 (by decide) | exact absurd h15 (by decide) | exact absurd h29 (by decide) | exact absurd h43 (by decide) | exact qI_of rfl
    · refine m_aload_n dX11_carOf_4 0 rfl ?_
      refine m_getR 3 114 dX11_carOf_5 fl_X11_16_10 rfl (by decide) rfl (by first | assumption | rfl) ?_
      refine m_iload_n dX11_carOf_8 1 rfl ?_
      refine m_iald dX11_carOf_9 (by first | assumption | rfl) k rfl (by first | assumption | omega | decide) ?_
      refine m_goto dX11_carOf_10 61 (by decide) ?_
      refine m_ireturn dX11_carOf_61 ?_
      first | exact absurd h1 (by decide) | exact absurd h15 (by decide) | exact absurd h29 (by decide) | exact absurd h43 (by decide) | exact qI_of rfl
  · refine m_iload_n dX11_carOf_0 2 rfl ?_
    refine m_if_ne dX11_carOf_1 13 (by decide) (fun h1 => ?_) (fun h1 => ?_)
    · refine m_iload_n dX11_carOf_13 2 rfl ?_
      refine m_iconst (v := 1) dX11_carOf_14 (by decide) ?_
      refine m_icmp_ne dX11_carOf_15 27 (by decide) (fun h15 => ?_) (fun h15 => ?_)
      · refine m_iload_n dX11_carOf_27 2 rfl ?_
        refine m_iconst (v := 2) dX11_carOf_28 (by decide) ?_
        refine m_icmp_ne dX11_carOf_29 41 (by decide) (fun h29 => ?_) (fun h29 => ?_)
        · refine m_iload_n dX11_carOf_41 2 rfl ?_
          refine m_iconst (v := 3) dX11_carOf_42 (by decide) ?_
          refine m_icmp_ne dX11_carOf_43 55 (by decide) (fun h43 => ?_) (fun h43 => ?_)
          · refine m_aload_n dX11_carOf_55 0 rfl ?_
            refine m_getR 7 118 dX11_carOf_56 fl_X11_28_10 rfl (by decide) rfl (by first | assumption | rfl) ?_
            refine m_iload_n dX11_carOf_59 1 rfl ?_
            refine m_iald dX11_carOf_60 (by first | assumption | rfl) k rfl (by first | assumption | omega | decide) ?_
            refine m_ireturn dX11_carOf_61 ?_
            first | exact absurd h1 (by decide) | exact absurd h15 (by decide) | exact absurd h29 (by decide) | exact absurd h43 (by decide) | exact qI_of rfl
          · refine m_aload_n dX11_carOf_46 0 rfl ?_
            refine m_getR 6 117 dX11_carOf_47 fl_X11_25_10 rfl (by decide) rfl (by first | assumption | rfl) ?_
            refine m_iload_n dX11_carOf_50 1 rfl ?_
            refine m_iald dX11_carOf_51 (by first | assumption | rfl) k rfl (by first | assumption | omega | decide) ?_
            refine m_goto dX11_carOf_52 61 (by decide) ?_
            refine m_ireturn dX11_carOf_61 ?_
            first | exact absurd h1 (by decide) | exact absurd h15 (by decide) | exact absurd h29 (by decide) | exact absurd h43 (by decide) | exact qI_of rfl
        · refine m_aload_n dX11_carOf_32 0 rfl ?_
          refine m_getR 5 116 dX11_carOf_33 fl_X11_22_10 rfl (by decide) rfl (by first | assumption | rfl) ?_
          refine m_iload_n dX11_carOf_36 1 rfl ?_
          refine m_iald dX11_carOf_37 (by first | assumption | rfl) k rfl (by first | assumption | omega | decide) ?_
          refine m_goto dX11_carOf_38 61 (by decide) ?_
          refine m_ireturn dX11_carOf_61 ?_
          first | exact absurd h1 (by decide) | exact absurd h15 (by decide) | exact absurd h29 (by decide) | exact absurd h43 (by decide) | exact qI_of rfl
      · refine m_aload_n dX11_carOf_18 0 rfl ?_
        refine m_getR 4 115 dX11_carOf_19 fl_X11_19_10 rfl (by decide) rfl (by first | assumption | rfl) ?_
        refine m_iload_n dX11_carOf_22 1 rfl ?_
        refine m_iald dX11_carOf_23 (by first | assumption | rfl) k rfl (by first | assumption | omega | decide) ?_
        refine m_goto dX11_carOf_24 61 (by decide) ?_
        refine m_ireturn dX11_carOf_61 ?_
        first | exact absurd h1 (by decide) | exact absurd h15 (by decide) | exact absurd h29 (by decide) | exact absurd h43 (by decide) | exact qI_of rfl
    · refine m_aload_n dX11_carOf_4 0 rfl ?_
      refine m_getR 3 114 dX11_carOf_5 fl_X11_16_10 rfl (by decide) rfl (by first | assumption | rfl) ?_
      refine m_iload_n dX11_carOf_8 1 rfl ?_
      refine m_iald dX11_carOf_9 (by first | assumption | rfl) k rfl (by first | assumption | omega | decide) ?_
      refine m_goto dX11_carOf_10 61 (by decide) ?_
      refine m_ireturn dX11_carOf_61 ?_
      first | exact absurd h1 (by decide) | exact absurd h15 (by decide) | exact absurd h29 (by decide) | exact absurd h43 (by decide) | exact qI_of rfl
  · refine m_iload_n dX11_carOf_0 2 rfl ?_
    refine m_if_ne dX11_carOf_1 13 (by decide) (fun h1 => ?_) (fun h1 => ?_)
    · refine m_iload_n dX11_carOf_13 2 rfl ?_
      refine m_iconst (v := 1) dX11_carOf_14 (by decide) ?_
      refine m_icmp_ne dX11_carOf_15 27 (by decide) (fun h15 => ?_) (fun h15 => ?_)
      · refine m_iload_n dX11_carOf_27 2 rfl ?_
        refine m_iconst (v := 2) dX11_carOf_28 (by decide) ?_
        refine m_icmp_ne dX11_carOf_29 41 (by decide) (fun h29 => ?_) (fun h29 => ?_)
        · refine m_iload_n dX11_carOf_41 2 rfl ?_
          refine m_iconst (v := 3) dX11_carOf_42 (by decide) ?_
          refine m_icmp_ne dX11_carOf_43 55 (by decide) (fun h43 => ?_) (fun h43 => ?_)
          · refine m_aload_n dX11_carOf_55 0 rfl ?_
            refine m_getR 7 118 dX11_carOf_56 fl_X11_28_10 rfl (by decide) rfl (by first | assumption | rfl) ?_
            refine m_iload_n dX11_carOf_59 1 rfl ?_
            refine m_iald dX11_carOf_60 (by first | assumption | rfl) k rfl (by first | assumption | omega | decide) ?_
            refine m_ireturn dX11_carOf_61 ?_
            first | exact absurd h1 (by decide) | exact absurd h15 (by decide) | exact absurd h29 (by decide) | exact absurd h43 (by decide) | exact qI_of rfl
          · refine m_aload_n dX11_carOf_46 0 rfl ?_
            refine m_getR 6 117 dX11_carOf_47 fl_X11_25_10 rfl (by decide) rfl (by first | assumption | rfl) ?_
            refine m_iload_n dX11_carOf_50 1 rfl ?_
            refine m_iald dX11_carOf_51 (by first | assumption | rfl) k rfl (by first | assumption | omega | decide) ?_
            refine m_goto dX11_carOf_52 61 (by decide) ?_
            refine m_ireturn dX11_carOf_61 ?_
            first | exact absurd h1 (by decide) | exact absurd h15 (by decide) | exact absurd h29 (by decide) | exact absurd h43 (by decide) | exact qI_of rfl
        · refine m_aload_n dX11_carOf_32 0 rfl ?_
          refine m_getR 5 116 dX11_carOf_33 fl_X11_22_10 rfl (by decide) rfl (by first | assumption | rfl) ?_
          refine m_iload_n dX11_carOf_36 1 rfl ?_
          refine m_iald dX11_carOf_37 (by first | assumption | rfl) k rfl (by first | assumption | omega | decide) ?_
          refine m_goto dX11_carOf_38 61 (by decide) ?_
          refine m_ireturn dX11_carOf_61 ?_
          first | exact absurd h1 (by decide) | exact absurd h15 (by decide) | exact absurd h29 (by decide) | exact absurd h43 (by decide) | exact qI_of rfl
      · refine m_aload_n dX11_carOf_18 0 rfl ?_
        refine m_getR 4 115 dX11_carOf_19 fl_X11_19_10 rfl (by decide) rfl (by first | assumption | rfl) ?_
        refine m_iload_n dX11_carOf_22 1 rfl ?_
        refine m_iald dX11_carOf_23 (by first | assumption | rfl) k rfl (by first | assumption | omega | decide) ?_
        refine m_goto dX11_carOf_24 61 (by decide) ?_
        refine m_ireturn dX11_carOf_61 ?_
        first | exact absurd h1 (by decide) | exact absurd h15 (by decide) | exact absurd h29 (by decide) | exact absurd h43 (by decide) | exact qI_of rfl
    · refine m_aload_n dX11_carOf_4 0 rfl ?_
      refine m_getR 3 114 dX11_carOf_5 fl_X11_16_10 rfl (by decide) rfl (by first | assumption | rfl) ?_
      refine m_iload_n dX11_carOf_8 1 rfl ?_
      refine m_iald dX11_carOf_9 (by first | assumption | rfl) k rfl (by first | assumption | omega | decide) ?_
      refine m_goto dX11_carOf_10 61 (by decide) ?_
      refine m_ireturn dX11_carOf_61 ?_
      first | exact absurd h1 (by decide) | exact absurd h15 (by decide) | exact absurd h29 (by decide) | exact absurd h43 (by decide) | exact qI_of rfl
theorem readR.rd {s : mS} {L0 L1 : Nat} (h : readR L0 L1 σ s) (e : Nat) : rdR s (Dt σ L0 L1 e) := by
  refine ⟨h.1, fun k hk j hj => ?_⟩
  obtain ⟨c0, c1, c2, c3, c4⟩ := h.2.1 k hk
  rcases (show j = 0 ∨ j = 1 ∨ j = 2 ∨ j = 3 ∨ j = 4 by omega) with rfl | rfl | rfl | rfl | rfl
  · exact c0
  · exact c1
  · exact c2
  · exact c3
  · exact c4
theorem c_steerTold (hd : 6 ≤ d) (L0 L1 e : Nat) (ok : okR σ L0 L1 e) (i w : Nat) (hi : i < 12) (hw : w < 3) : mMet G l d kX11_steerTold [.ref 111, .int (nI i), .int (nI w)] σ (qIP (fun r s => r = slA (Dt σ L0 L1 e) i w ∧ rdR s (Dt σ L0 L1 e) ∧ fW wScr σ s)) := by
  refine mMet.of cm_X11_steerTold rfl (Nat.le_of_ble_eq_true rfl) rfl (fun v1 σ1 h => by obtain ⟨r, h1, -⟩ := h; rw [h1]; rfl) ?_
  have hs12 : (Dt σ L0 L1 e).2.1.1 ≤ 12 := parS_n L1 (tx σ 1)
  refine m_aload_n dX11_steerTold_0 0 rfl ?_
  refine m_callV (As := []) dX11_steerTold_1 cv_X11_180 (by first | assumption | rfl) (by decide) (by omega) rfl rfl (Nat.le_of_ble_eq_true rfl) (c_reads (d := d - 1) (by omega) L0 L1 ok.1 ok.2.2.1 ok.2.1 ok.2.2.2.1) (fun v1 σ1 hv1 => ?_)
  refine m_qVP hv1 (fun ha => ?_)
  clear hv1 v1
  rename mS => s1
  obtain ⟨a1, a2⟩ := ha
  have q8 : s1.1 111 8 = nI (Dt σ L0 L1 e).2.1.1 := a1.2.2.1
  have hrd := a1.rd e
  have fr : fW wScr σ s1 := a2.mono (fun y z h => by omega)
  refine m_iload_n dX11_steerTold_4 1 rfl ?_
  refine m_aload_n dX11_steerTold_5 0 rfl ?_
  refine m_getI 8 dX11_steerTold_6 fl_X11_165_10 rfl (by decide) (by first | assumption | rfl) ?_
  refine mW.top q8 ?_
  refine m_icmp_lt dX11_steerTold_9 16 (by decide) (fun h9 => ?_) (fun h9 => ?_)
  rotate_left
  · refine m_iconst (v := -1) dX11_steerTold_12 (by decide) ?_
    refine m_goto dX11_steerTold_13 49 (by decide) ?_
    refine m_ireturn dX11_steerTold_49 ⟨_, rfl, ?_, hrd, fr⟩
    unfold slA
    rw [if_pos (Nat.le_of_not_lt (fun q => h9 ((nlt (by omega) (by omega)).mpr q)))]
  · have hlt := (nlt (by omega) (by omega)).mp h9
    obtain ⟨c0, c1, c2⟩ := a1.2.2.2 i hlt
    have e3 : slA (Dt σ L0 L1 e) i w = steB L1 (tx σ 1) i w := by unfold slA; rw [if_neg (by omega)]; rfl
    rw [e3]
    rcases (show w = 0 ∨ w = 1 ∨ w = 2 by omega) with rfl | rfl | rfl
    · refine m_iload_n dX11_steerTold_16 2 rfl ?_
      refine m_if_ne dX11_steerTold_17 29 (by decide) (fun h17 => ?_) (fun h17 => ?_)
      · refine m_iload_n dX11_steerTold_29 2 rfl ?_
        refine m_iconst (v := 1) dX11_steerTold_30 (by decide) ?_
        refine m_icmp_ne dX11_steerTold_31 43 (by decide) (fun h31 => ?_) (fun h31 => ?_)
        · refine m_aload_n dX11_steerTold_43 0 rfl ?_
          refine m_getR 11 121 dX11_steerTold_44 fl_X11_37_10 rfl (by decide) rfl (by first | assumption | rfl) ?_
          refine m_iload_n dX11_steerTold_47 1 rfl ?_
          refine m_iald dX11_steerTold_48 (by first | assumption | rfl) i rfl (by first | assumption | omega | decide) ?_
          refine m_ireturn dX11_steerTold_49 ?_
          first | exact absurd h17 (by decide) | exact absurd h31 (by decide) | exact And.intro rfl rfl | exact Exists.intro _ (And.intro rfl (And.intro c0 (And.intro hrd fr)))
        · refine m_aload_n dX11_steerTold_34 0 rfl ?_
          refine m_getR 10 120 dX11_steerTold_35 fl_X11_34_10 rfl (by decide) rfl (by first | assumption | rfl) ?_
          refine m_iload_n dX11_steerTold_38 1 rfl ?_
          refine m_iald dX11_steerTold_39 (by first | assumption | rfl) i rfl (by first | assumption | omega | decide) ?_
          refine m_goto dX11_steerTold_40 49 (by decide) ?_
          refine m_ireturn dX11_steerTold_49 ?_
          first | exact absurd h17 (by decide) | exact absurd h31 (by decide) | exact And.intro rfl rfl | exact Exists.intro _ (And.intro rfl (And.intro c0 (And.intro hrd fr)))
      · refine m_aload_n dX11_steerTold_20 0 rfl ?_
        refine m_getR 9 119 dX11_steerTold_21 fl_X11_31_10 rfl (by decide) rfl (by first | assumption | rfl) ?_
        refine m_iload_n dX11_steerTold_24 1 rfl ?_
        refine m_iald dX11_steerTold_25 (by first | assumption | rfl) i rfl (by first | assumption | omega | decide) ?_
        refine m_goto dX11_steerTold_26 49 (by decide) ?_
        refine m_ireturn dX11_steerTold_49 ?_
        first | exact absurd h17 (by decide) | exact absurd h31 (by decide) | exact And.intro rfl rfl | exact Exists.intro _ (And.intro rfl (And.intro c0 (And.intro hrd fr)))
    · refine m_iload_n dX11_steerTold_16 2 rfl ?_
      refine m_if_ne dX11_steerTold_17 29 (by decide) (fun h17 => ?_) (fun h17 => ?_)
      · refine m_iload_n dX11_steerTold_29 2 rfl ?_
        refine m_iconst (v := 1) dX11_steerTold_30 (by decide) ?_
        refine m_icmp_ne dX11_steerTold_31 43 (by decide) (fun h31 => ?_) (fun h31 => ?_)
        · refine m_aload_n dX11_steerTold_43 0 rfl ?_
          refine m_getR 11 121 dX11_steerTold_44 fl_X11_37_10 rfl (by decide) rfl (by first | assumption | rfl) ?_
          refine m_iload_n dX11_steerTold_47 1 rfl ?_
          refine m_iald dX11_steerTold_48 (by first | assumption | rfl) i rfl (by first | assumption | omega | decide) ?_
          refine m_ireturn dX11_steerTold_49 ?_
          first | exact absurd h17 (by decide) | exact absurd h31 (by decide) | exact And.intro rfl rfl | exact Exists.intro _ (And.intro rfl (And.intro c1 (And.intro hrd fr)))
        · refine m_aload_n dX11_steerTold_34 0 rfl ?_
          refine m_getR 10 120 dX11_steerTold_35 fl_X11_34_10 rfl (by decide) rfl (by first | assumption | rfl) ?_
          refine m_iload_n dX11_steerTold_38 1 rfl ?_
          refine m_iald dX11_steerTold_39 (by first | assumption | rfl) i rfl (by first | assumption | omega | decide) ?_
          refine m_goto dX11_steerTold_40 49 (by decide) ?_
          refine m_ireturn dX11_steerTold_49 ?_
          first | exact absurd h17 (by decide) | exact absurd h31 (by decide) | exact And.intro rfl rfl | exact Exists.intro _ (And.intro rfl (And.intro c1 (And.intro hrd fr)))
      · refine m_aload_n dX11_steerTold_20 0 rfl ?_
        refine m_getR 9 119 dX11_steerTold_21 fl_X11_31_10 rfl (by decide) rfl (by first | assumption | rfl) ?_
        refine m_iload_n dX11_steerTold_24 1 rfl ?_
        refine m_iald dX11_steerTold_25 (by first | assumption | rfl) i rfl (by first | assumption | omega | decide) ?_
        refine m_goto dX11_steerTold_26 49 (by decide) ?_
        refine m_ireturn dX11_steerTold_49 ?_
        first | exact absurd h17 (by decide) | exact absurd h31 (by decide) | exact And.intro rfl rfl | exact Exists.intro _ (And.intro rfl (And.intro c1 (And.intro hrd fr)))
    · refine m_iload_n dX11_steerTold_16 2 rfl ?_
      refine m_if_ne dX11_steerTold_17 29 (by decide) (fun h17 => ?_) (fun h17 => ?_)
      · refine m_iload_n dX11_steerTold_29 2 rfl ?_
        refine m_iconst (v := 1) dX11_steerTold_30 (by decide) ?_
        refine m_icmp_ne dX11_steerTold_31 43 (by decide) (fun h31 => ?_) (fun h31 => ?_)
        · refine m_aload_n dX11_steerTold_43 0 rfl ?_
          refine m_getR 11 121 dX11_steerTold_44 fl_X11_37_10 rfl (by decide) rfl (by first | assumption | rfl) ?_
          refine m_iload_n dX11_steerTold_47 1 rfl ?_
          refine m_iald dX11_steerTold_48 (by first | assumption | rfl) i rfl (by first | assumption | omega | decide) ?_
          refine m_ireturn dX11_steerTold_49 ?_
          first | exact absurd h17 (by decide) | exact absurd h31 (by decide) | exact And.intro rfl rfl | exact Exists.intro _ (And.intro rfl (And.intro c2 (And.intro hrd fr)))
        · refine m_aload_n dX11_steerTold_34 0 rfl ?_
          refine m_getR 10 120 dX11_steerTold_35 fl_X11_34_10 rfl (by decide) rfl (by first | assumption | rfl) ?_
          refine m_iload_n dX11_steerTold_38 1 rfl ?_
          refine m_iald dX11_steerTold_39 (by first | assumption | rfl) i rfl (by first | assumption | omega | decide) ?_
          refine m_goto dX11_steerTold_40 49 (by decide) ?_
          refine m_ireturn dX11_steerTold_49 ?_
          first | exact absurd h17 (by decide) | exact absurd h31 (by decide) | exact And.intro rfl rfl | exact Exists.intro _ (And.intro rfl (And.intro c2 (And.intro hrd fr)))
      · refine m_aload_n dX11_steerTold_20 0 rfl ?_
        refine m_getR 9 119 dX11_steerTold_21 fl_X11_31_10 rfl (by decide) rfl (by first | assumption | rfl) ?_
        refine m_iload_n dX11_steerTold_24 1 rfl ?_
        refine m_iald dX11_steerTold_25 (by first | assumption | rfl) i rfl (by first | assumption | omega | decide) ?_
        refine m_goto dX11_steerTold_26 49 (by decide) ?_
        refine m_ireturn dX11_steerTold_49 ?_
        first | exact absurd h17 (by decide) | exact absurd h31 (by decide) | exact And.intro rfl rfl | exact Exists.intro _ (And.intro rfl (And.intro c2 (And.intro hrd fr)))
end AG


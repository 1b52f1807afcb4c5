/-! ===== the class: chances ===== -/
theorem orT_bit (T : Nat → Bool) : ∀ n, n ≤ 8 → ∀ k, k < 8 → (bitI (orT T n) (nI k) ↔ k < n ∧ T k = true)
  | 0, _, k, hk => ⟨fun q => absurd q (bit_zero k hk), fun q => absurd q.1 (Nat.not_lt_zero _)⟩
  | n + 1, hn, k, hk => by
    have ih := orT_bit T n (by omega) k hk
    rw [orT, bit_or, ih]
    by_cases q : T n = true
    · rw [if_pos q, bit_one n (by omega) k hk]
      constructor
      · rintro (⟨a, b⟩ | rfl)
        · exact ⟨by omega, b⟩
        · exact ⟨Nat.lt_succ_self _, q⟩
      · rintro ⟨a, b⟩
        by_cases e : k = n
        · exact Or.inr e
        · exact Or.inl ⟨by omega, b⟩
    · rw [if_neg q]
      constructor
      · rintro (⟨a, b⟩ | b)
        · exact ⟨by omega, b⟩
        · exact absurd b (bit_zero k hk)
      · rintro ⟨a, b⟩
        by_cases e : k = n
        · subst e; exact absurd b q
        · exact Or.inl ⟨by omega, b⟩
/-- who is struck where the events m are spared, as bits -/
def stkB (D : Deb) (m : Nat) : Int32 := orT (fun k => decide (0 < (RSt (maskD D (nI m)) 24).2.2.2.2.1 k)) D.1.1
def knS (D : Deb) (s : mS) : Prop := ∀ m, m < 2 ^ D.2.2.1.1 → s.1 109 m = stkB D m
/-- what is kept of it -/
def kpS (D : Deb) (s : mS) : Prop := s.1 65 9 = 0 ∨ (s.1 65 9 = 1 ∧ knS D s)
abbrev wFs : Nat → Nat → Prop := fun y z => (y = 65 ∧ z = 9) ∨ (80 ≤ y ∧ y ≤ 97) ∨ y = 109
theorem setC.fs {D : Deb} {s s1 : mS} (h : setC D s) (f : fW wFs s s1) : setC D s1 := by
  obtain ⟨w, m0, h12, a1, a2, a3, a4, a5, a6⟩ := h
  have := w.1
  exact ⟨w, m0, h12, (f.at (by omega)).trans a1, a2.tr f (fun k j hk => by omega), a3, ⟨(f.at (by omega)).trans a4.1, fun i hi j hj => (f.at (by omega)).trans (a4.2 i hi j hj)⟩, a5, ⟨(f.at (by omega)).trans a6.1, fun i hi => ⟨(f.at (by omega)).trans (a6.2 i hi).1, (f.at (by omega)).trans (a6.2 i hi).2.1, (f.at (by omega)).trans (a6.2 i hi).2.2⟩⟩⟩
theorem lN_and1 (a : Nat) : lN a &&& 1 = lN (a % 2) := by
  apply Int64.toBitVec_inj.mp
  show BitVec.ofNat 64 a &&& 1#64 = BitVec.ofNat 64 (a % 2)
  apply BitVec.eq_of_toNat_eq
  rw [BitVec.toNat_and, BitVec.toNat_ofNat, BitVec.toNat_ofNat, BitVec.toNat_ofNat, show 1 % 2 ^ 64 = 1 from rfl, Nat.and_one_is_mod]
  omega
theorem odd_gcd (a : Nat) (h : a % 2 = 1) : ∀ j, Nat.gcd a (2 ^ j) = 1
  | 0 => Nat.gcd_one_right a
  | j + 1 => by
    have ih := odd_gcd a h j
    rw [Nat.pow_succ]
    have h2 : Nat.gcd a 2 = 1 := by rw [Nat.gcd_comm, Nat.gcd_rec, h]; rfl
    exact Nat.Coprime.mul_right ih h2
theorem p2_16 (e : Nat) : 16 ^ e = 2 ^ (4 * e) := by rw [Nat.pow_mul]
section CHC
variable {G : mG} {l : Launch} {d : Nat} {σ : mS}
theorem dX9_weighStruck_0 : decode cX9_weighStruck 0 = .ok (.aload_n 0, 1) := by decide +kernel
theorem dX9_weighStruck_1 : decode cX9_weighStruck 1 = .ok (.invokevirtual 122, 3) := by decide +kernel
theorem dX9_weighStruck_4 : decode cX9_weighStruck 4 = .ok (.lconst 0, 1) := by decide +kernel
theorem dX9_weighStruck_5 : decode cX9_weighStruck 5 = .ok (.lstore_n 3, 1) := by decide +kernel
theorem dX9_weighStruck_6 : decode cX9_weighStruck 6 = .ok (.iconst 0, 1) := by decide +kernel
theorem dX9_weighStruck_7 : decode cX9_weighStruck 7 = .ok (.istore 5, 2) := by decide +kernel
theorem dX9_weighStruck_9 : decode cX9_weighStruck 9 = .ok (.iload 5, 2) := by decide +kernel
theorem dX9_weighStruck_11 : decode cX9_weighStruck 11 = .ok (.iconst 1, 1) := by decide +kernel
theorem dX9_weighStruck_12 : decode cX9_weighStruck 12 = .ok (.aload_n 0, 1) := by decide +kernel
theorem dX9_weighStruck_13 : decode cX9_weighStruck 13 = .ok (.getfield 48, 3) := by decide +kernel
theorem dX9_weighStruck_16 : decode cX9_weighStruck 16 = .ok (.getfield 90, 3) := by decide +kernel
theorem dX9_weighStruck_19 : decode cX9_weighStruck 19 = .ok (.ishl, 1) := by decide +kernel
theorem dX9_weighStruck_20 : decode cX9_weighStruck 20 = .ok (.if_icmp .ge 34, 3) := by decide +kernel
theorem dX9_weighStruck_23 : decode cX9_weighStruck 23 = .ok (.aload_n 0, 1) := by decide +kernel
theorem dX9_weighStruck_24 : decode cX9_weighStruck 24 = .ok (.getfield 37, 3) := by decide +kernel
theorem dX9_weighStruck_27 : decode cX9_weighStruck 27 = .ok (.iload 5, 2) := by decide +kernel
theorem dX9_weighStruck_29 : decode cX9_weighStruck 29 = .ok (.iaload, 1) := by decide +kernel
theorem dX9_weighStruck_30 : decode cX9_weighStruck 30 = .ok (.iload_n 2, 1) := by decide +kernel
theorem dX9_weighStruck_31 : decode cX9_weighStruck 31 = .ok (.ishr, 1) := by decide +kernel
theorem dX9_weighStruck_32 : decode cX9_weighStruck 32 = .ok (.iconst 1, 1) := by decide +kernel
theorem dX9_weighStruck_33 : decode cX9_weighStruck 33 = .ok (.iand, 1) := by decide +kernel
theorem dX9_weighStruck_34 : decode cX9_weighStruck 34 = .ok (.iconst 1, 1) := by decide +kernel
theorem dX9_weighStruck_35 : decode cX9_weighStruck 35 = .ok (.if_icmp .ne 13, 3) := by decide +kernel
theorem dX9_weighStruck_38 : decode cX9_weighStruck 38 = .ok (.lload_n 3, 1) := by decide +kernel
theorem dX9_weighStruck_39 : decode cX9_weighStruck 39 = .ok (.aload_n 0, 1) := by decide +kernel
theorem dX9_weighStruck_40 : decode cX9_weighStruck 40 = .ok (.iload 5, 2) := by decide +kernel
theorem dX9_weighStruck_42 : decode cX9_weighStruck 42 = .ok (.iload_n 1, 1) := by decide +kernel
theorem dX9_weighStruck_43 : decode cX9_weighStruck 43 = .ok (.invokevirtual 125, 3) := by decide +kernel
theorem dX9_weighStruck_46 : decode cX9_weighStruck 46 = .ok (.ladd, 1) := by decide +kernel
theorem dX9_weighStruck_47 : decode cX9_weighStruck 47 = .ok (.lstore_n 3, 1) := by decide +kernel
theorem dX9_weighStruck_48 : decode cX9_weighStruck 48 = .ok (.iinc 5 1, 3) := by decide +kernel
theorem dX9_weighStruck_51 : decode cX9_weighStruck 51 = .ok (.goto (-42), 3) := by decide +kernel
theorem dX9_weighStruck_54 : decode cX9_weighStruck 54 = .ok (.lload_n 3, 1) := by decide +kernel
theorem dX9_weighStruck_55 : decode cX9_weighStruck 55 = .ok (.lreturn, 1) := by decide +kernel
theorem dX9_weightOf_0 : decode cX9_weightOf 0 = .ok (.lconst 1, 1) := by decide +kernel
theorem dX9_weightOf_1 : decode cX9_weightOf 1 = .ok (.lstore_n 3, 1) := by decide +kernel
theorem dX9_weightOf_2 : decode cX9_weightOf 2 = .ok (.iconst 0, 1) := by decide +kernel
theorem dX9_weightOf_3 : decode cX9_weightOf 3 = .ok (.istore 5, 2) := by decide +kernel
theorem dX9_weightOf_5 : decode cX9_weightOf 5 = .ok (.iload 5, 2) := by decide +kernel
theorem dX9_weightOf_7 : decode cX9_weightOf 7 = .ok (.aload_n 0, 1) := by decide +kernel
theorem dX9_weightOf_8 : decode cX9_weightOf 8 = .ok (.getfield 48, 3) := by decide +kernel
theorem dX9_weightOf_11 : decode cX9_weightOf 11 = .ok (.getfield 90, 3) := by decide +kernel
theorem dX9_weightOf_14 : decode cX9_weightOf 14 = .ok (.if_icmp .ge 32, 3) := by decide +kernel
theorem dX9_weightOf_17 : decode cX9_weightOf 17 = .ok (.lload_n 3, 1) := by decide +kernel
theorem dX9_weightOf_18 : decode cX9_weightOf 18 = .ok (.iload_n 1, 1) := by decide +kernel
theorem dX9_weightOf_19 : decode cX9_weightOf 19 = .ok (.iload 5, 2) := by decide +kernel
theorem dX9_weightOf_21 : decode cX9_weightOf 21 = .ok (.ishr, 1) := by decide +kernel
theorem dX9_weightOf_22 : decode cX9_weightOf 22 = .ok (.iconst 1, 1) := by decide +kernel
theorem dX9_weightOf_23 : decode cX9_weightOf 23 = .ok (.iand, 1) := by decide +kernel
theorem dX9_weightOf_24 : decode cX9_weightOf 24 = .ok (.iconst 1, 1) := by decide +kernel
theorem dX9_weightOf_25 : decode cX9_weightOf 25 = .ok (.if_icmp .ne 11, 3) := by decide +kernel
theorem dX9_weightOf_28 : decode cX9_weightOf 28 = .ok (.bipush 16, 2) := by decide +kernel
theorem dX9_weightOf_30 : decode cX9_weightOf 30 = .ok (.iload_n 2, 1) := by decide +kernel
theorem dX9_weightOf_31 : decode cX9_weightOf 31 = .ok (.isub, 1) := by decide +kernel
theorem dX9_weightOf_32 : decode cX9_weightOf 32 = .ok (.i2l, 1) := by decide +kernel
theorem dX9_weightOf_33 : decode cX9_weightOf 33 = .ok (.goto 5, 3) := by decide +kernel
theorem dX9_weightOf_36 : decode cX9_weightOf 36 = .ok (.iload_n 2, 1) := by decide +kernel
theorem dX9_weightOf_37 : decode cX9_weightOf 37 = .ok (.i2l, 1) := by decide +kernel
theorem dX9_weightOf_38 : decode cX9_weightOf 38 = .ok (.lmul, 1) := by decide +kernel
theorem dX9_weightOf_39 : decode cX9_weightOf 39 = .ok (.lstore_n 3, 1) := by decide +kernel
theorem dX9_weightOf_40 : decode cX9_weightOf 40 = .ok (.iinc 5 1, 3) := by decide +kernel
theorem dX9_weightOf_43 : decode cX9_weightOf 43 = .ok (.goto (-38), 3) := by decide +kernel
theorem dX9_weightOf_46 : decode cX9_weightOf 46 = .ok (.lload_n 3, 1) := by decide +kernel
theorem dX9_weightOf_47 : decode cX9_weightOf 47 = .ok (.lreturn, 1) := by decide +kernel
theorem dX9_findStruck_0 : decode cX9_findStruck 0 = .ok (.aload_n 0, 1) := by decide +kernel
theorem dX9_findStruck_1 : decode cX9_findStruck 1 = .ok (.getfield 129, 3) := by decide +kernel
theorem dX9_findStruck_4 : decode cX9_findStruck 4 = .ok (.ifCond .eq 4, 3) := by decide +kernel
theorem dX9_findStruck_7 : decode cX9_findStruck 7 = .ok (.return_, 1) := by decide +kernel
theorem dX9_findStruck_8 : decode cX9_findStruck 8 = .ok (.iconst 0, 1) := by decide +kernel
theorem dX9_findStruck_9 : decode cX9_findStruck 9 = .ok (.istore_n 1, 1) := by decide +kernel
theorem dX9_findStruck_10 : decode cX9_findStruck 10 = .ok (.iload_n 1, 1) := by decide +kernel
theorem dX9_findStruck_11 : decode cX9_findStruck 11 = .ok (.iconst 1, 1) := by decide +kernel
theorem dX9_findStruck_12 : decode cX9_findStruck 12 = .ok (.aload_n 0, 1) := by decide +kernel
theorem dX9_findStruck_13 : decode cX9_findStruck 13 = .ok (.getfield 48, 3) := by decide +kernel
theorem dX9_findStruck_16 : decode cX9_findStruck 16 = .ok (.getfield 90, 3) := by decide +kernel
theorem dX9_findStruck_19 : decode cX9_findStruck 19 = .ok (.ishl, 1) := by decide +kernel
theorem dX9_findStruck_20 : decode cX9_findStruck 20 = .ok (.if_icmp .ge 74, 3) := by decide +kernel
theorem dX9_findStruck_23 : decode cX9_findStruck 23 = .ok (.aload_n 0, 1) := by decide +kernel
theorem dX9_findStruck_24 : decode cX9_findStruck 24 = .ok (.getfield 28, 3) := by decide +kernel
theorem dX9_findStruck_27 : decode cX9_findStruck 27 = .ok (.aload_n 0, 1) := by decide +kernel
theorem dX9_findStruck_28 : decode cX9_findStruck 28 = .ok (.getfield 41, 3) := by decide +kernel
theorem dX9_findStruck_31 : decode cX9_findStruck 31 = .ok (.aload_n 0, 1) := by decide +kernel
theorem dX9_findStruck_32 : decode cX9_findStruck 32 = .ok (.getfield 44, 3) := by decide +kernel
theorem dX9_findStruck_35 : decode cX9_findStruck 35 = .ok (.aload_n 0, 1) := by decide +kernel
theorem dX9_findStruck_36 : decode cX9_findStruck 36 = .ok (.getfield 48, 3) := by decide +kernel
theorem dX9_findStruck_39 : decode cX9_findStruck 39 = .ok (.iload_n 1, 1) := by decide +kernel
theorem dX9_findStruck_40 : decode cX9_findStruck 40 = .ok (.invokevirtual 70, 3) := by decide +kernel
theorem dX9_findStruck_43 : decode cX9_findStruck 43 = .ok (.iconst 0, 1) := by decide +kernel
theorem dX9_findStruck_44 : decode cX9_findStruck 44 = .ok (.istore_n 2, 1) := by decide +kernel
theorem dX9_findStruck_45 : decode cX9_findStruck 45 = .ok (.iconst 0, 1) := by decide +kernel
theorem dX9_findStruck_46 : decode cX9_findStruck 46 = .ok (.istore_n 3, 1) := by decide +kernel
theorem dX9_findStruck_47 : decode cX9_findStruck 47 = .ok (.iload_n 3, 1) := by decide +kernel
theorem dX9_findStruck_48 : decode cX9_findStruck 48 = .ok (.aload_n 0, 1) := by decide +kernel
theorem dX9_findStruck_49 : decode cX9_findStruck 49 = .ok (.getfield 28, 3) := by decide +kernel
theorem dX9_findStruck_52 : decode cX9_findStruck 52 = .ok (.getfield 133, 3) := by decide +kernel
theorem dX9_findStruck_55 : decode cX9_findStruck 55 = .ok (.if_icmp .ge 26, 3) := by decide +kernel
theorem dX9_findStruck_58 : decode cX9_findStruck 58 = .ok (.aload_n 0, 1) := by decide +kernel
theorem dX9_findStruck_59 : decode cX9_findStruck 59 = .ok (.getfield 28, 3) := by decide +kernel
theorem dX9_findStruck_62 : decode cX9_findStruck 62 = .ok (.iload_n 3, 1) := by decide +kernel
theorem dX9_findStruck_63 : decode cX9_findStruck 63 = .ok (.invokevirtual 134, 3) := by decide +kernel
theorem dX9_findStruck_66 : decode cX9_findStruck 66 = .ok (.ifCond .eq 9, 3) := by decide +kernel
theorem dX9_findStruck_69 : decode cX9_findStruck 69 = .ok (.iload_n 2, 1) := by decide +kernel
theorem dX9_findStruck_70 : decode cX9_findStruck 70 = .ok (.iconst 1, 1) := by decide +kernel
theorem dX9_findStruck_71 : decode cX9_findStruck 71 = .ok (.iload_n 3, 1) := by decide +kernel
theorem dX9_findStruck_72 : decode cX9_findStruck 72 = .ok (.ishl, 1) := by decide +kernel
theorem dX9_findStruck_73 : decode cX9_findStruck 73 = .ok (.ior, 1) := by decide +kernel
theorem dX9_findStruck_74 : decode cX9_findStruck 74 = .ok (.istore_n 2, 1) := by decide +kernel
theorem dX9_findStruck_75 : decode cX9_findStruck 75 = .ok (.iinc 3 1, 3) := by decide +kernel
theorem dX9_findStruck_78 : decode cX9_findStruck 78 = .ok (.goto (-31), 3) := by decide +kernel
theorem dX9_findStruck_81 : decode cX9_findStruck 81 = .ok (.aload_n 0, 1) := by decide +kernel
theorem dX9_findStruck_82 : decode cX9_findStruck 82 = .ok (.getfield 37, 3) := by decide +kernel
theorem dX9_findStruck_85 : decode cX9_findStruck 85 = .ok (.iload_n 1, 1) := by decide +kernel
theorem dX9_findStruck_86 : decode cX9_findStruck 86 = .ok (.iload_n 2, 1) := by decide +kernel
theorem dX9_findStruck_87 : decode cX9_findStruck 87 = .ok (.iastore, 1) := by decide +kernel
theorem dX9_findStruck_88 : decode cX9_findStruck 88 = .ok (.iinc 1 1, 3) := by decide +kernel
theorem dX9_findStruck_91 : decode cX9_findStruck 91 = .ok (.goto (-81), 3) := by decide +kernel
theorem dX9_findStruck_94 : decode cX9_findStruck 94 = .ok (.aload_n 0, 1) := by decide +kernel
theorem dX9_findStruck_95 : decode cX9_findStruck 95 = .ok (.iconst 1, 1) := by decide +kernel
theorem dX9_findStruck_96 : decode cX9_findStruck 96 = .ok (.putfield 129, 3) := by decide +kernel
theorem dX9_findStruck_99 : decode cX9_findStruck 99 = .ok (.return_, 1) := by decide +kernel
theorem dX10_fractionPart_0 : decode cX10_fractionPart 0 = .ok (.lload_n 1, 1) := by decide +kernel
theorem dX10_fractionPart_1 : decode cX10_fractionPart 1 = .ok (.lstore 4, 2) := by decide +kernel
theorem dX10_fractionPart_3 : decode cX10_fractionPart 3 = .ok (.lconst 1, 1) := by decide +kernel
theorem dX10_fractionPart_4 : decode cX10_fractionPart 4 = .ok (.iconst 4, 1) := by decide +kernel
theorem dX10_fractionPart_5 : decode cX10_fractionPart 5 = .ok (.aload_n 0, 1) := by decide +kernel
theorem dX10_fractionPart_6 : decode cX10_fractionPart 6 = .ok (.getfield 36, 3) := by decide +kernel
theorem dX10_fractionPart_9 : decode cX10_fractionPart 9 = .ok (.getfield 119, 3) := by decide +kernel
theorem dX10_fractionPart_12 : decode cX10_fractionPart 12 = .ok (.imul, 1) := by decide +kernel
theorem dX10_fractionPart_13 : decode cX10_fractionPart 13 = .ok (.lshl, 1) := by decide +kernel
theorem dX10_fractionPart_14 : decode cX10_fractionPart 14 = .ok (.lstore 6, 2) := by decide +kernel
theorem dX10_fractionPart_16 : decode cX10_fractionPart 16 = .ok (.iconst 0, 1) := by decide +kernel
theorem dX10_fractionPart_17 : decode cX10_fractionPart 17 = .ok (.istore 8, 2) := by decide +kernel
theorem dX10_fractionPart_19 : decode cX10_fractionPart 19 = .ok (.iload 8, 2) := by decide +kernel
theorem dX10_fractionPart_21 : decode cX10_fractionPart 21 = .ok (.bipush 32, 2) := by decide +kernel
theorem dX10_fractionPart_23 : decode cX10_fractionPart 23 = .ok (.if_icmp .ge 41, 3) := by decide +kernel
theorem dX10_fractionPart_26 : decode cX10_fractionPart 26 = .ok (.lload 6, 2) := by decide +kernel
theorem dX10_fractionPart_28 : decode cX10_fractionPart 28 = .ok (.lconst 1, 1) := by decide +kernel
theorem dX10_fractionPart_29 : decode cX10_fractionPart 29 = .ok (.lcmp, 1) := by decide +kernel
theorem dX10_fractionPart_30 : decode cX10_fractionPart 30 = .ok (.ifCond .le 34, 3) := by decide +kernel
theorem dX10_fractionPart_33 : decode cX10_fractionPart 33 = .ok (.lload 4, 2) := by decide +kernel
theorem dX10_fractionPart_35 : decode cX10_fractionPart 35 = .ok (.lconst 1, 1) := by decide +kernel
theorem dX10_fractionPart_36 : decode cX10_fractionPart 36 = .ok (.land, 1) := by decide +kernel
theorem dX10_fractionPart_37 : decode cX10_fractionPart 37 = .ok (.lconst 0, 1) := by decide +kernel
theorem dX10_fractionPart_38 : decode cX10_fractionPart 38 = .ok (.lcmp, 1) := by decide +kernel
theorem dX10_fractionPart_39 : decode cX10_fractionPart 39 = .ok (.ifCond .ne 25, 3) := by decide +kernel
theorem dX10_fractionPart_42 : decode cX10_fractionPart 42 = .ok (.lload 4, 2) := by decide +kernel
theorem dX10_fractionPart_44 : decode cX10_fractionPart 44 = .ok (.ldc2_w 315, 3) := by decide +kernel
theorem dX10_fractionPart_47 : decode cX10_fractionPart 47 = .ok (.ldiv, 1) := by decide +kernel
theorem dX10_fractionPart_48 : decode cX10_fractionPart 48 = .ok (.lstore 4, 2) := by decide +kernel
theorem dX10_fractionPart_50 : decode cX10_fractionPart 50 = .ok (.lload 6, 2) := by decide +kernel
theorem dX10_fractionPart_52 : decode cX10_fractionPart 52 = .ok (.ldc2_w 315, 3) := by decide +kernel
theorem dX10_fractionPart_55 : decode cX10_fractionPart 55 = .ok (.ldiv, 1) := by decide +kernel
theorem dX10_fractionPart_56 : decode cX10_fractionPart 56 = .ok (.lstore 6, 2) := by decide +kernel
theorem dX10_fractionPart_58 : decode cX10_fractionPart 58 = .ok (.iinc 8 1, 3) := by decide +kernel
theorem dX10_fractionPart_61 : decode cX10_fractionPart 61 = .ok (.goto (-42), 3) := by decide +kernel
theorem dX10_fractionPart_64 : decode cX10_fractionPart 64 = .ok (.iload_n 3, 1) := by decide +kernel
theorem dX10_fractionPart_65 : decode cX10_fractionPart 65 = .ok (.ifCond .ne 8, 3) := by decide +kernel
theorem dX10_fractionPart_68 : decode cX10_fractionPart 68 = .ok (.lload 4, 2) := by decide +kernel
theorem dX10_fractionPart_70 : decode cX10_fractionPart 70 = .ok (.goto 5, 3) := by decide +kernel
theorem dX10_fractionPart_73 : decode cX10_fractionPart 73 = .ok (.lload 6, 2) := by decide +kernel
theorem dX10_fractionPart_75 : decode cX10_fractionPart 75 = .ok (.lreturn, 1) := by decide +kernel
theorem c_findStruck (hd : 5 ≤ d) (D : Deb) (h : setC D σ) (hk : kpS D σ) : mMet G l d kX9_findStruck [.ref 65] σ (qVP (fun s => s.1 65 9 = 1 ∧ knS D s ∧ fW wFs σ s)) := by
  have he8 := h.2.2.2.2.2.2.2.1.1
  have hn := h.1.1
  refine mMet.of cm_X9_findStruck rfl (Nat.le_of_ble_eq_true rfl) rfl (fun v1 σ1 h => by rw [h.1]; trivial) ?_
  rcases hk with hk | ⟨hk, kn⟩
  rotate_left
  · refine m_aload_n dX9_findStruck_0 0 rfl ?_
    refine m_getI 9 dX9_findStruck_1 fl_X9_129_8 rfl (by decide) (by first | assumption | rfl) ?_
    refine mW.top hk ?_
    refine m_if_eq dX9_findStruck_4 8 (by decide) (fun z0 => ?_) (fun z0 => ?_)
    · exact absurd z0 (by decide)
    · exact m_return dX9_findStruck_7 ⟨rfl, hk, kn, fW.rf⟩
  refine m_aload_n dX9_findStruck_0 0 rfl ?_
  refine m_getI 9 dX9_findStruck_1 fl_X9_129_8 rfl (by decide) (by first | assumption | rfl) ?_
  refine mW.top hk ?_
  refine m_if_eq dX9_findStruck_4 8 (by decide) (fun z0 => ?_) (fun z0 => ?_)
  rotate_left
  · exact absurd rfl z0
  clear z0
  refine m_iconst (v := 0) dX9_findStruck_8 (by decide) ?_
  refine m_istore_n (ls1 := [(1, _), (0, _)]) dX9_findStruck_9 (by decide) rfl ?_
  refine down (N := 2 ^ D.2.2.1.1) (fun m (q : mS) => (∀ j, j < m → q.1 109 j = stkB D j) ∧ fW wFs σ q) (fun m q => mW G l d kX9_findStruck 10 [(1, .int (nI m)), (0, .ref 65)] [] q _) ?_ ?_ 0 σ (Nat.zero_le _) ⟨fun j hj => absurd hj (Nat.not_lt_zero _), fW.rf⟩
  · rintro s ⟨b1, b2⟩
    have hs := h.fs b2
    refine m_iload_n dX9_findStruck_10 0 rfl ?_
    refine m_iconst (v := 1) dX9_findStruck_11 (by decide) ?_
    refine m_aload_n dX9_findStruck_12 1 rfl ?_
    refine m_getR 2 30 dX9_findStruck_13 fl_X9_48_8 rfl (by decide) rfl (by first | assumption | rfl) ?_
    refine m_getI 3 dX9_findStruck_16 fl_X9_90_1 rfl (by decide) (by first | assumption | rfl) ?_
    refine mW.top hs.2.2.2.2.2.2.2.2.1 ?_
    refine m_ishl dX9_findStruck_19 ?_
    refine mW.top (sh1 D.2.2.1.1 he8) ?_
    refine m_icmp_ge dX9_findStruck_20 94 (by decide) (fun z1 => ?_) (fun z1 => ?_)
    · refine m_aload_n dX9_findStruck_94 1 rfl ?_
      refine m_iconst (v := 1) dX9_findStruck_95 (by decide) ?_
      refine m_putI 9 dX9_findStruck_96 fw_X9_129_8 rfl (by decide) rfl rfl (by first | assumption | rfl) ?_
      exact m_return dX9_findStruck_99 ⟨rfl, by rw [us_at, if_pos ⟨rfl, rfl⟩], fun m hm => by rw [us_at, if_neg (by omega)]; exact b1 m hm, fW.us (by omega) b2⟩
    · exact absurd (Int32.le_refl _) z1
  · rintro m s hm ⟨b1, b2⟩ ih
    have hs := h.fs b2
    have hm256 : 2 ^ D.2.2.1.1 ≤ 256 := p2 _ he8
    refine m_iload_n dX9_findStruck_10 0 rfl ?_
    refine m_iconst (v := 1) dX9_findStruck_11 (by decide) ?_
    refine m_aload_n dX9_findStruck_12 1 rfl ?_
    refine m_getR 2 30 dX9_findStruck_13 fl_X9_48_8 rfl (by decide) rfl (by first | assumption | rfl) ?_
    refine m_getI 3 dX9_findStruck_16 fl_X9_90_1 rfl (by decide) (by first | assumption | rfl) ?_
    refine mW.top hs.2.2.2.2.2.2.2.2.1 ?_
    refine m_ishl dX9_findStruck_19 ?_
    refine mW.top (sh1 D.2.2.1.1 he8) ?_
    refine m_icmp_ge dX9_findStruck_20 94 (by decide) (fun z1 => ?_) (fun z1 => ?_)
    · exact absurd ((nle (a := 2 ^ D.2.2.1.1) (by omega) (by omega)).mp z1) (by omega)
    clear z1
    refine m_aload_n dX9_findStruck_23 1 rfl ?_
    refine m_getR 6 80 dX9_findStruck_24 fl_X9_28_8 rfl (by decide) rfl (by first | assumption | rfl) ?_
    refine m_aload_n dX9_findStruck_27 1 rfl ?_
    refine m_getR 0 5 dX9_findStruck_28 fl_X9_41_8 rfl (by decide) rfl (by first | assumption | rfl) ?_
    refine m_aload_n dX9_findStruck_31 1 rfl ?_
    refine m_getR 1 15 dX9_findStruck_32 fl_X9_44_8 rfl (by decide) rfl (by first | assumption | rfl) ?_
    refine m_aload_n dX9_findStruck_35 1 rfl ?_
    refine m_getR 2 30 dX9_findStruck_36 fl_X9_48_8 rfl (by decide) rfl (by first | assumption | rfl) ?_
    refine m_iload_n dX9_findStruck_39 0 rfl ?_
    refine m_callV (As := [_, _, _, _]) dX9_findStruck_40 cv_X9_70 (by first | assumption | rfl) (by decide) (by omega) rfl rfl (Nat.le_of_ble_eq_true rfl) (c_play (d := d - 1) (by omega) (Or.inr rfl) (Or.inl rfl) (Or.inl rfl) (maskD D (nI m)) (hs.1.mask _) (hs.mask _) (nI m) rfl) (fun v1 σ1 hv1 => ?_)
    refine m_qVP hv1 (fun hq => ?_)
    clear hv1 v1
    rename mS => s1
    obtain ⟨o1, f1⟩ := hq
    have f2 : fW wFs σ s1 := b2.tr (f1.mono (fun y z h => by omega))
    refine m_iconst (v := 0) dX9_findStruck_43 (by decide) ?_
    refine m_istore_n (ls1 := [(2, _), (1, _), (0, _)]) dX9_findStruck_44 (by decide) rfl ?_
    refine m_iconst (v := 0) dX9_findStruck_45 (by decide) ?_
    refine m_istore_n (ls1 := [(3, _), (2, _), (1, _), (0, _)]) dX9_findStruck_46 (by decide) rfl ?_
    refine down (N := D.1.1) (fun i (b : Int32) => b = orT (fun k => decide (0 < (RSt (maskD D (nI m)) 24).2.2.2.2.1 k)) i) (fun i b => mW G l d kX9_findStruck 47 [(3, .int (nI i)), (2, .int b), (1, .int (nI m)), (0, .ref 65)] [] s1 _) ?_ ?_ 0 0 (Nat.zero_le _) rfl
    · rintro b hb
      refine m_iload_n dX9_findStruck_47 0 rfl ?_
      refine m_aload_n dX9_findStruck_48 3 rfl ?_
      refine m_getR 6 80 dX9_findStruck_49 fl_X9_28_8 rfl (by decide) rfl (by first | assumption | rfl) ?_
      refine m_getI 5 dX9_findStruck_52 fl_X9_133_3 rfl (by decide) (by first | assumption | rfl) ?_
      refine mW.top (w := nI D.1.1) o1.1.1 ?_
      refine m_icmp_ge dX9_findStruck_55 81 (by decide) (fun z1 => ?_) (fun z1 => ?_)
      rotate_left
      · exact absurd (Int32.le_refl _) z1
      clear z1
      refine m_aload_n dX9_findStruck_81 3 rfl ?_
      refine m_getR 8 109 dX9_findStruck_82 fl_X9_37_8 rfl (by decide) rfl (by first | assumption | rfl) ?_
      refine m_iload_n dX9_findStruck_85 2 rfl ?_
      refine m_iload_n dX9_findStruck_86 1 rfl ?_
      refine m_iast dX9_findStruck_87 (by first | assumption | rfl) m rfl (by omega) ?_
      refine m_iinc (v := nI (m + 1)) (ls1 := [(1, _), (3, _), (2, _), (0, _)]) dX9_findStruck_88 2 rfl (nI_1 m) (by decide) rfl ?_
      refine m_goto dX9_findStruck_91 10 (by decide) ?_
      refine mW.sub (ls1 := [(1, _), (0, _)]) [0, 3] rfl ?_
      refine ih _ ⟨fun j hj => ?_, fW.us (by omega) f2⟩
      rw [us_at]
      rcases Nat.lt_succ_iff_lt_or_eq.mp hj with h9 | rfl
      · rw [if_neg (by omega), f1.at (by omega)]; exact b1 j h9
      · rw [if_pos ⟨rfl, rfl⟩]; exact hb
    · rintro i b hi hb ihI
      refine m_iload_n dX9_findStruck_47 0 rfl ?_
      refine m_aload_n dX9_findStruck_48 3 rfl ?_
      refine m_getR 6 80 dX9_findStruck_49 fl_X9_28_8 rfl (by decide) rfl (by first | assumption | rfl) ?_
      refine m_getI 5 dX9_findStruck_52 fl_X9_133_3 rfl (by decide) (by first | assumption | rfl) ?_
      refine mW.top (w := nI D.1.1) o1.1.1 ?_
      refine m_icmp_ge dX9_findStruck_55 81 (by decide) (fun z1 => ?_) (fun z1 => ?_)
      · exact absurd ((nle (by omega) (by omega)).mp z1) (by omega)
      clear z1
      refine m_aload_n dX9_findStruck_58 3 rfl ?_
      refine m_getR 6 80 dX9_findStruck_59 fl_X9_28_8 rfl (by decide) rfl (by first | assumption | rfl) ?_
      refine m_iload_n dX9_findStruck_62 0 rfl ?_
      refine m_callV (As := [_]) dX9_findStruck_63 cv_X9_134 (by first | assumption | rfl) (by decide) (by omega) rfl rfl (Nat.le_of_ble_eq_true rfl) (c_wasStruck (d := d - 1) (Or.inr rfl) (maskD D (nI m)) hn o1 i hi) (fun v1 σ1 hv1 => ?_)
      refine m_qI hv1 ?_
      clear hv1 v1 σ1
      refine m_if_eq dX9_findStruck_66 75 (by decide) (fun z1 => ?_) (fun z1 => ?_)
      · refine m_iinc (v := nI (i + 1)) (ls1 := [(3, _), (2, _), (1, _), (0, _)]) dX9_findStruck_75 0 rfl (nI_1 i) (by decide) rfl ?_
        refine m_goto dX9_findStruck_78 47 (by decide) ?_
        refine ihI b ?_
        show b = orT (fun k => decide (0 < (RSt (maskD D (nI m)) 24).2.2.2.2.1 k)) i ||| (if decide (0 < (RSt (maskD D (nI m)) 24).2.2.2.2.1 i) = true then bit1 i else 0)
        rw [bI_eq.mp z1, if_neg (by decide), Int32.or_zero]; exact hb
      · refine m_iload_n dX9_findStruck_69 1 rfl ?_
        refine m_iconst (v := 1) dX9_findStruck_70 (by decide) ?_
        refine m_iload_n dX9_findStruck_71 0 rfl ?_
        refine m_ishl dX9_findStruck_72 ?_
        refine m_ior dX9_findStruck_73 ?_
        refine m_istore_n (ls1 := [(2, _), (3, _), (1, _), (0, _)]) dX9_findStruck_74 (by decide) rfl ?_
        refine m_iinc (v := nI (i + 1)) (ls1 := [(3, _), (2, _), (1, _), (0, _)]) dX9_findStruck_75 1 rfl (nI_1 i) (by decide) rfl ?_
        refine m_goto dX9_findStruck_78 47 (by decide) ?_
        refine ihI _ ?_
        show b ||| _ = orT (fun k => decide (0 < (RSt (maskD D (nI m)) 24).2.2.2.2.1 k)) i ||| (if decide (0 < (RSt (maskD D (nI m)) 24).2.2.2.2.1 i) = true then bit1 i else 0)
        rw [bI_ne.mp z1, if_pos rfl, ← hb]; rfl
theorem c_weightOf (e m c : Nat) (he : e ≤ 8) (h3 : σ.1 30 3 = nI e) (hc : c ≤ 16) : mMet G l d kX9_weightOf [.ref 65, .int (nI m), .int (nI c)] σ (qL (lN (wtN c m e)) σ) := by
  refine mMet.of cm_X9_weightOf rfl (Nat.le_of_ble_eq_true rfl) rfl (fun v1 σ1 h => by rw [h.1]; trivial) ?_
  refine m_lconst (v := 1) dX9_weightOf_0 (by decide) ?_
  refine m_lstore_n (ls1 := [(3, _), (0, _), (1, _), (2, _)]) dX9_weightOf_1 (by decide) rfl ?_
  refine m_iconst (v := 0) dX9_weightOf_2 (by decide) ?_
  refine m_istore (ls1 := [(5, _), (3, _), (0, _), (1, _), (2, _)]) dX9_weightOf_3 (by decide) rfl ?_
  refine down (N := e) (fun i (p : Nat) => p = wtN c m i) (fun i p => mW G l d kX9_weightOf 5 [(5, .int (nI i)), (3, .long (lN p)), (0, .ref 65), (1, .int (nI m)), (2, .int (nI c))] [] σ _) ?_ ?_ 0 1 (Nat.zero_le _) rfl
  · rintro p hp
    refine m_iload dX9_weightOf_5 0 rfl ?_
    refine m_aload_n dX9_weightOf_7 2 rfl ?_
    refine m_getR 2 30 dX9_weightOf_8 fl_X9_48_8 rfl (by decide) rfl (by first | assumption | rfl) ?_
    refine m_getI 3 dX9_weightOf_11 fl_X9_90_1 rfl (by decide) (by first | assumption | rfl) ?_
    refine mW.top h3 ?_
    refine m_icmp_ge dX9_weightOf_14 46 (by decide) (fun h => ?_) (fun h => ?_)
    · refine m_lload_n dX9_weightOf_46 1 rfl ?_
      exact m_lreturn dX9_weightOf_47 ⟨by rw [hp], rfl⟩
    · exact absurd (Int32.le_refl _) h
  · rintro i p hi hp ih
    have kJ : ∀ v : Nat, v = (if bitI (nI m) (nI i) then 16 - c else c) → mW G l d kX9_weightOf 38 [(5, .int (nI i)), (3, .long (lN p)), (0, .ref 65), (1, .int (nI m)), (2, .int (nI c))] [.long (lN v), .long (lN p)] σ (qL (lN (wtN c m e)) σ) := by
      intro v hv
      refine m_lmul dX9_weightOf_38 ?_
      refine mW.topL (w := lN (p * v)) (lN_mul p v) ?_
      refine m_lstore_n (ls1 := [(3, _), (5, _), (0, _), (1, _), (2, _)]) dX9_weightOf_39 (by decide) rfl ?_
      refine m_iinc (v := nI (i + 1)) (ls1 := [(5, _), (3, _), (0, _), (1, _), (2, _)]) dX9_weightOf_40 1 rfl (nI_1 i) (by decide) rfl ?_
      refine m_goto dX9_weightOf_43 5 (by decide) ?_
      refine mW.sub (ls1 := [(5, _), (3, _), (0, _), (1, _), (2, _)]) [0, 1, 2, 3, 4] rfl ?_
      refine ih (p * v) ?_
      show p * v = wtN c m (i + 1)
      rw [wtN, ← hv, hp]
    refine m_iload dX9_weightOf_5 0 rfl ?_
    refine m_aload_n dX9_weightOf_7 2 rfl ?_
    refine m_getR 2 30 dX9_weightOf_8 fl_X9_48_8 rfl (by decide) rfl (by first | assumption | rfl) ?_
    refine m_getI 3 dX9_weightOf_11 fl_X9_90_1 rfl (by decide) (by first | assumption | rfl) ?_
    refine mW.top h3 ?_
    refine m_icmp_ge dX9_weightOf_14 46 (by decide) (fun h => ?_) (fun h => ?_)
    · exact absurd ((nle (by omega) (by omega)).mp h) (by omega)
    clear h
    refine m_lload_n dX9_weightOf_17 1 rfl ?_
    refine m_iload_n dX9_weightOf_18 3 rfl ?_
    refine m_iload dX9_weightOf_19 0 rfl ?_
    refine m_ishr dX9_weightOf_21 ?_
    refine m_iconst (v := 1) dX9_weightOf_22 (by decide) ?_
    refine m_iand dX9_weightOf_23 ?_
    refine m_iconst (v := 1) dX9_weightOf_24 (by decide) ?_
    refine m_icmp_ne dX9_weightOf_25 36 (by decide) (fun z1 => ?_) (fun z1 => ?_)
    · refine m_iload_n dX9_weightOf_36 4 rfl ?_
      refine m_i2l dX9_weightOf_37 ?_
      refine mW.topL (w := lN c) (nI_l (by omega)) ?_
      exact kJ c (by rw [if_neg z1])
    · refine m_bipush (v := 16) dX9_weightOf_28 (by decide) ?_
      refine m_iload_n dX9_weightOf_30 4 rfl ?_
      refine m_isub dX9_weightOf_31 ?_
      refine mW.top (w := nI (16 - c)) (pk_sub (a := 16) hc) ?_
      refine m_i2l dX9_weightOf_32 ?_
      refine mW.topL (w := lN (16 - c)) (nI_l (by omega)) ?_
      refine m_goto dX9_weightOf_33 38 (by decide) ?_
      exact kJ (16 - c) (by rw [if_pos z1])
theorem c_weighStruck (hd : 6 ≤ d) (D : Deb) (h : setC D σ) (hk : kpS D σ) (c k : Nat) (hc : c ≤ 16) (hkn : k < D.1.1) : mMet G l d kX9_weighStruck [.ref 65, .int (nI c), .int (nI k)] σ (qLP (fun r s => r = lN (chN D c k (2 ^ D.2.2.1.1)) ∧ s.1 65 9 = 1 ∧ knS D s ∧ fW wFs σ s)) := by
  have he8 := h.2.2.2.2.2.2.2.1.1
  have hn := h.1.1
  refine mMet.of cm_X9_weighStruck rfl (Nat.le_of_ble_eq_true rfl) rfl (fun v1 σ1 h => by obtain ⟨r, h1, -⟩ := h; rw [h1]; trivial) ?_
  refine m_aload_n dX9_weighStruck_0 0 rfl ?_
  refine m_callV (As := []) dX9_weighStruck_1 cv_X9_122 (by first | assumption | rfl) (by decide) (by omega) rfl rfl (Nat.le_of_ble_eq_true rfl) (c_findStruck (d := d - 1) (by omega) D h hk) (fun v1 σ1 hv1 => ?_)
  refine m_qVP hv1 (fun hq => ?_)
  clear hv1 v1
  rename mS => s0
  obtain ⟨k1, kn, f0⟩ := hq
  have hs := h.fs f0
  have hz := hs.2.2.2.2.2.2.2.2.1
  have hm256 : 2 ^ D.2.2.1.1 ≤ 256 := p2 _ he8
  refine m_lconst (v := 0) dX9_weighStruck_4 (by decide) ?_
  refine m_lstore_n (ls1 := [(3, _), (0, _), (1, _), (2, _)]) dX9_weighStruck_5 (by decide) rfl ?_
  refine m_iconst (v := 0) dX9_weighStruck_6 (by decide) ?_
  refine m_istore (ls1 := [(5, _), (3, _), (0, _), (1, _), (2, _)]) dX9_weighStruck_7 (by decide) rfl ?_
  refine down (N := 2 ^ D.2.2.1.1) (fun m (p : Nat) => p = chN D c k m) (fun m p => mW G l d kX9_weighStruck 9 [(5, .int (nI m)), (3, .long (lN p)), (0, .ref 65), (1, .int (nI c)), (2, .int (nI k))] [] s0 _) ?_ ?_ 0 0 (Nat.zero_le _) rfl
  · rintro p hp
    refine m_iload dX9_weighStruck_9 0 rfl ?_
    refine m_iconst (v := 1) dX9_weighStruck_11 (by decide) ?_
    refine m_aload_n dX9_weighStruck_12 2 rfl ?_
    refine m_getR 2 30 dX9_weighStruck_13 fl_X9_48_8 rfl (by decide) rfl (by first | assumption | rfl) ?_
    refine m_getI 3 dX9_weighStruck_16 fl_X9_90_1 rfl (by decide) (by first | assumption | rfl) ?_
    refine mW.top hz ?_
    refine m_ishl dX9_weighStruck_19 ?_
    refine mW.top (sh1 D.2.2.1.1 he8) ?_
    refine m_icmp_ge dX9_weighStruck_20 54 (by decide) (fun z1 => ?_) (fun z1 => ?_)
    · refine m_lload_n dX9_weighStruck_54 1 rfl ?_
      exact m_lreturn dX9_weighStruck_55 ⟨_, rfl, by rw [hp], k1, kn, f0⟩
    · exact absurd (Int32.le_refl _) z1
  · rintro m p hm hp ih
    refine m_iload dX9_weighStruck_9 0 rfl ?_
    refine m_iconst (v := 1) dX9_weighStruck_11 (by decide) ?_
    refine m_aload_n dX9_weighStruck_12 2 rfl ?_
    refine m_getR 2 30 dX9_weighStruck_13 fl_X9_48_8 rfl (by decide) rfl (by first | assumption | rfl) ?_
    refine m_getI 3 dX9_weighStruck_16 fl_X9_90_1 rfl (by decide) (by first | assumption | rfl) ?_
    refine mW.top hz ?_
    refine m_ishl dX9_weighStruck_19 ?_
    refine mW.top (sh1 D.2.2.1.1 he8) ?_
    refine m_icmp_ge dX9_weighStruck_20 54 (by decide) (fun z1 => ?_) (fun z1 => ?_)
    · exact absurd ((nle (a := 2 ^ D.2.2.1.1) (by omega) (by omega)).mp z1) (by omega)
    clear z1
    have hbit := orT_bit (fun k => decide (0 < (RSt (maskD D (nI m)) 24).2.2.2.2.1 k)) D.1.1 hn k (by omega)
    have hst : s0.1 109 m = stkB D m := kn m hm
    refine m_aload_n dX9_weighStruck_23 2 rfl ?_
    refine m_getR 8 109 dX9_weighStruck_24 fl_X9_37_8 rfl (by decide) rfl (by first | assumption | rfl) ?_
    refine m_iload dX9_weighStruck_27 0 rfl ?_
    refine m_iald dX9_weighStruck_29 (by first | assumption | rfl) m rfl (by omega) ?_
    refine mW.top hst ?_
    refine m_iload_n dX9_weighStruck_30 4 rfl ?_
    refine m_ishr dX9_weighStruck_31 ?_
    refine m_iconst (v := 1) dX9_weighStruck_32 (by decide) ?_
    refine m_iand dX9_weighStruck_33 ?_
    refine m_iconst (v := 1) dX9_weighStruck_34 (by decide) ?_
    refine m_icmp_ne dX9_weighStruck_35 48 (by decide) (fun z1 => ?_) (fun z1 => ?_)
    · refine m_iinc (v := nI (m + 1)) (ls1 := [(5, _), (3, _), (0, _), (1, _), (2, _)]) dX9_weighStruck_48 0 rfl (nI_1 m) (by decide) rfl ?_
      refine m_goto dX9_weighStruck_51 9 (by decide) ?_
      refine ih p ?_
      show p = chN D c k (m + 1)
      rw [chN, if_neg (fun q => z1 (hbit.mpr ⟨hkn, decide_eq_true q⟩)), Nat.add_zero]; exact hp
    · refine m_lload_n dX9_weighStruck_38 1 rfl ?_
      refine m_aload_n dX9_weighStruck_39 2 rfl ?_
      refine m_iload dX9_weighStruck_40 0 rfl ?_
      refine m_iload_n dX9_weighStruck_42 3 rfl ?_
      refine m_callV (As := [_, _]) dX9_weighStruck_43 cv_X9_125 (by first | assumption | rfl) (by decide) (by omega) rfl rfl (Nat.le_of_ble_eq_true rfl) (c_weightOf (d := d - 1) D.2.2.1.1 m c he8 hz hc) (fun v1 σ1 hv1 => ?_)
      refine m_qL hv1 ?_
      clear hv1 v1 σ1
      refine m_ladd dX9_weighStruck_46 ?_
      refine mW.topL (w := lN (p + wtN c m D.2.2.1.1)) (lN_add _ _) ?_
      refine m_lstore_n (ls1 := [(3, _), (5, _), (0, _), (1, _), (2, _)]) dX9_weighStruck_47 (by decide) rfl ?_
      refine m_iinc (v := nI (m + 1)) (ls1 := [(5, _), (3, _), (0, _), (1, _), (2, _)]) dX9_weighStruck_48 1 rfl (nI_1 m) (by decide) rfl ?_
      refine m_goto dX9_weighStruck_51 9 (by decide) ?_
      refine mW.sub (ls1 := [(5, _), (3, _), (0, _), (1, _), (2, _)]) [0, 1, 2, 3, 4] rfl ?_
      refine ih _ ?_
      show p + wtN c m D.2.2.1.1 = chN D c k (m + 1)
      rw [chN, if_pos (of_decide_eq_true (hbit.mp z1).2), hp]
theorem c_fractionPart (e f : Nat) (he : e ≤ 8) (h3 : σ.1 30 3 = nI e) (hf : f < 2 ^ 60) (w : Int32) : mMet G l d kX10_fractionPart [.ref 0, .long (lN f), .int w] σ (qL (lN (if w = 0 then f / Nat.gcd f (16 ^ e) else 16 ^ e / Nat.gcd f (16 ^ e))) σ) := by
  refine mMet.of cm_X10_fractionPart rfl (Nat.le_of_ble_eq_true rfl) rfl (fun v1 σ1 h => by rw [h.1]; trivial) ?_
  have fin : ∀ j i a, i + j = 4 * e → f = 2 ^ i * a → (j = 0 ∨ a % 2 = 1) → mW G l d kX10_fractionPart 64 [(8, .int (nI i)), (6, .long (lN (2 ^ j))), (4, .long (lN a)), (0, .ref 0), (1, .long (lN f)), (3, .int w)] [] σ (qL (lN (if w = 0 then f / Nat.gcd f (16 ^ e) else 16 ^ e / Nat.gcd f (16 ^ e))) σ) := by
    intro j i a hij hfa hz
    have e16 : 16 ^ e = 2 ^ i * 2 ^ j := by rw [p2_16, ← hij, Nat.pow_add]
    have hp : 0 < 2 ^ i := Nat.two_pow_pos i
    have hg1 : Nat.gcd a (2 ^ j) = 1 := by
      rcases hz with rfl | hz
      · exact Nat.gcd_one_right a
      · exact odd_gcd a hz j
    have hg : Nat.gcd f (16 ^ e) = 2 ^ i := by rw [e16, hfa, Nat.gcd_mul_left, hg1, Nat.mul_one]
    have ha : f / 2 ^ i = a := by rw [hfa]; exact Nat.mul_div_cancel_left a hp
    have hb : 16 ^ e / 2 ^ i = 2 ^ j := by rw [e16]; exact Nat.mul_div_cancel_left _ hp
    refine m_iload_n dX10_fractionPart_64 5 rfl ?_
    refine m_if_ne dX10_fractionPart_65 73 (by decide) (fun h => ?_) (fun h => ?_)
    · refine m_lload dX10_fractionPart_73 1 rfl ?_
      exact m_lreturn dX10_fractionPart_75 ⟨by rw [if_neg h, hg, hb], rfl⟩
    · refine m_lload dX10_fractionPart_68 2 rfl ?_
      refine m_goto dX10_fractionPart_70 75 (by decide) ?_
      exact m_lreturn dX10_fractionPart_75 ⟨by rw [if_pos h, hg, ha], rfl⟩
  have key : ∀ j i a, i + j = 4 * e → f = 2 ^ i * a → mW G l d kX10_fractionPart 19 [(8, .int (nI i)), (6, .long (lN (2 ^ j))), (4, .long (lN a)), (0, .ref 0), (1, .long (lN f)), (3, .int w)] [] σ (qL (lN (if w = 0 then f / Nat.gcd f (16 ^ e) else 16 ^ e / Nat.gcd f (16 ^ e))) σ) := by
    intro j
    induction j with
    | zero =>
      intro i a hij hfa
      refine m_iload dX10_fractionPart_19 0 rfl ?_
      refine m_bipush (v := 32) dX10_fractionPart_21 (by decide) ?_
      refine m_icmp_ge dX10_fractionPart_23 64 (by decide) (fun z1 => ?_) (fun z1 => ?_)
      · exact fin 0 i a hij hfa (Or.inl rfl)
      clear z1
      refine m_lload dX10_fractionPart_26 1 rfl ?_
      refine m_lconst (v := 1) dX10_fractionPart_28 (by decide) ?_
      refine m_lcmp dX10_fractionPart_29 ?_
      refine m_if_le dX10_fractionPart_30 64 (by decide) (fun z1 => ?_) (fun z1 => ?_)
      · exact fin 0 i a hij hfa (Or.inl rfl)
      · exact absurd (lcmp_le.mpr (show ¬ (1 : Int64) < lN (2 ^ 0) by decide)) z1
    | succ j ih =>
      intro i a hij hfa
      have hp : 0 < 2 ^ i := Nat.two_pow_pos i
      have hal : a ≤ f := by rw [hfa]; exact Nat.le_mul_of_pos_left a hp
      have hj1 : 0 < 2 ^ j := Nat.two_pow_pos j
      have hj2 : 2 ^ j ≤ 2 ^ 32 := Nat.pow_le_pow_right (by decide) (by omega)
      have hj3 : 2 ^ (j + 1) = 2 ^ j * 2 := Nat.pow_succ 2 j
      have hdv : 2 ^ (j + 1) / 2 = 2 ^ j := by rw [hj3]; exact Nat.mul_div_cancel _ (by decide)
      refine m_iload dX10_fractionPart_19 0 rfl ?_
      refine m_bipush (v := 32) dX10_fractionPart_21 (by decide) ?_
      refine m_icmp_ge dX10_fractionPart_23 64 (by decide) (fun z1 => ?_) (fun z1 => ?_)
      · exact absurd ((nle (a := 32) (by omega) (by omega)).mp z1) (by omega)
      clear z1
      refine m_lload dX10_fractionPart_26 1 rfl ?_
      refine m_lconst (v := 1) dX10_fractionPart_28 (by decide) ?_
      refine m_lcmp dX10_fractionPart_29 ?_
      refine m_if_le dX10_fractionPart_30 64 (by decide) (fun z1 => ?_) (fun z1 => ?_)
      · exact absurd ((pk_lLT (a := 1) (b := 2 ^ (j + 1)) (by decide) (by omega)).mpr (by omega)) (lcmp_le.mp z1)
      clear z1
      refine m_lload dX10_fractionPart_33 2 rfl ?_
      refine m_lconst (v := 1) dX10_fractionPart_35 (by decide) ?_
      refine m_land dX10_fractionPart_36 ?_
      refine mW.topL (lN_and1 a) ?_
      refine m_lconst (v := 0) dX10_fractionPart_37 (by decide) ?_
      refine m_lcmp dX10_fractionPart_38 ?_
      refine m_if_ne dX10_fractionPart_39 64 (by decide) (fun z1 => ?_) (fun z1 => ?_)
      · refine fin (j + 1) i a hij hfa (Or.inr ?_)
        have : ¬ a % 2 = 0 := fun q => z1 (lcmp_eq.mpr (by rw [q]; rfl))
        omega
      have ev : a % 2 = 0 := (pk_lEQ (b := 0) (by omega) (by decide)).mp (lcmp_eq.mp z1)
      clear z1
      refine m_lload dX10_fractionPart_42 2 rfl ?_
      refine m_ldc2_w dX10_fractionPart_44 kl_X10_315 ?_
      refine m_ldiv dX10_fractionPart_47 (by decide) ?_
      refine mW.topL (w := lN (a / 2)) (pk_lDiv (b := 2) (by omega) (by decide) (by decide)) ?_
      refine m_lstore (ls1 := [(4, _), (8, _), (6, _), (0, _), (1, _), (3, _)]) dX10_fractionPart_48 (by decide) rfl ?_
      refine m_lload dX10_fractionPart_50 2 rfl ?_
      refine m_ldc2_w dX10_fractionPart_52 kl_X10_315 ?_
      refine m_ldiv dX10_fractionPart_55 (by decide) ?_
      refine mW.topL (w := lN (2 ^ j)) ((pk_lDiv (b := 2) (by omega) (by decide) (by decide)).trans (by rw [hdv])) ?_
      refine m_lstore (ls1 := [(6, _), (4, _), (8, _), (0, _), (1, _), (3, _)]) dX10_fractionPart_56 (by decide) rfl ?_
      refine m_iinc (v := nI (i + 1)) (ls1 := [(8, _), (6, _), (4, _), (0, _), (1, _), (3, _)]) dX10_fractionPart_58 2 rfl (nI_1 i) (by decide) rfl ?_
      refine m_goto dX10_fractionPart_61 19 (by decide) ?_
      refine mW.sub (ls1 := [(8, _), (6, _), (4, _), (0, _), (1, _), (3, _)]) [0, 1, 2, 3, 4, 5] rfl ?_
      refine ih (i + 1) (a / 2) (by omega) ?_
      rw [hfa, Nat.pow_succ, Nat.mul_assoc]
      congr 1
      omega
  refine m_lload_n dX10_fractionPart_0 1 rfl ?_
  refine m_lstore (ls1 := [(4, _), (0, _), (1, _), (3, _)]) dX10_fractionPart_1 (by decide) rfl ?_
  refine m_lconst (v := 1) dX10_fractionPart_3 (by decide) ?_
  refine m_iconst (v := 4) dX10_fractionPart_4 (by decide) ?_
  refine m_aload_n dX10_fractionPart_5 1 rfl ?_
  refine m_getR 4 30 dX10_fractionPart_6 fl_X10_36_9 rfl (by decide) rfl (by first | assumption | rfl) ?_
  refine m_getI 3 dX10_fractionPart_9 fl_X10_119_1 rfl (by decide) (by first | assumption | rfl) ?_
  refine mW.top h3 ?_
  refine m_imul dX10_fractionPart_12 ?_
  refine m_lshl dX10_fractionPart_13 ?_
  refine mW.topL (w := lN (2 ^ (4 * e))) ((sh16 e he).trans (by rw [p2_16])) ?_
  refine m_lstore (ls1 := [(6, _), (4, _), (0, _), (1, _), (3, _)]) dX10_fractionPart_14 (by decide) rfl ?_
  refine m_iconst (v := 0) dX10_fractionPart_16 (by decide) ?_
  refine m_istore (ls1 := [(8, _), (6, _), (4, _), (0, _), (1, _), (3, _)]) dX10_fractionPart_17 (by decide) rfl ?_
  exact key (4 * e) 0 f (Nat.zero_add _) (by rw [Nat.pow_zero, Nat.one_mul])
end CHC


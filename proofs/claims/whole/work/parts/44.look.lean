/-! ===== the class: the next moment to look; decades by a seed ===== -/
theorem sh_cell {w : Nat} (hw : w < 10) : mshp (98 + 1 + w) = (11, 24) := by
  have h : ∀ w, w < 10 → mshp (98 + 1 + w) = (11, 24) := by decide +kernel
  exact h w hw
theorem bit_one10 : ∀ j, j < 10 → ∀ k, k < 10 → (bitI (bit1 j) (nI k) ↔ k = j) := by decide +kernel
theorem bit_zero10 : ∀ k, k < 10 → ¬ bitI 0 (nI k) := by decide +kernel
theorem hvP_bit (D : Deb) (k z : Nat) (w : Nat → Nat → Int32) : ∀ n, n ≤ 9 → ∀ v, 1 ≤ v → v ≤ 9 → (bitI (hvP D k z w n) (nI v) ↔ v ≤ n ∧ agP (setJ D k 4 (nI v)) w z = true)
  | 0, _, v, h1, h2 => ⟨fun q => absurd q (bit_zero10 v (by omega)), fun q => absurd q.1 (by omega)⟩
  | n + 1, hn, v, h1, h2 => by
    have ih := hvP_bit D k z w n (by omega) v h1 h2
    rw [hvP, bit_or, ih]
    by_cases q : agP (setJ D k 4 (nI (n + 1))) w z = true
    · rw [if_pos q, bit_one10 (n + 1) (by omega) v (by omega)]
      constructor
      · rintro (⟨a, b⟩ | rfl)
        · exact ⟨by omega, b⟩
        · exact ⟨Nat.le_refl _, q⟩
      · rintro ⟨a, b⟩
        by_cases e : v = n + 1
        · exact Or.inr e
        · exact Or.inl ⟨by omega, b⟩
    · rw [if_neg q]
      constructor
      · rintro (⟨a, b⟩ | b)
        · exact ⟨by omega, b⟩
        · exact absurd b (bit_zero10 v (by omega))
      · rintro ⟨a, b⟩
        by_cases e : v = n + 1
        · subst e; exact absurd b q
        · exact Or.inl ⟨by omega, b⟩
theorem cell_of {E : Deb} (wf : wfD E) (k t : Nat) (hk : k < E.1.1) : ∃ a b, a < 6 ∧ b < 6 ∧ (RSt E (t + 1)).1 k = nI a ∧ (RSt E (t + 1)).2.1 k = nI b ∧ cellD E k t = nI (6 * a + b) := by
  obtain ⟨a, ha, ea⟩ := six_of ((wf.run (t + 1)).1 k hk).1
  obtain ⟨b, hb, eb⟩ := six_of ((wf.run (t + 1)).1 k hk).2.1
  refine ⟨a, b, ha, hb, ea, eb, ?_⟩
  unfold cellD
  rw [ea, eb, show (6 : Int32) = nI 6 from rfl, pk_mul, nI_add]
theorem asP_1 (bits : Int32) (cl : Nat → Nat → Int32) : asP bits cl 1 = (nI 0, mxN bits cl 0 9) := by
  rw [asP]
  exact if_pos (Or.inl rfl)
theorem asP_n (bits : Int32) (cl : Nat → Nat → Int32) : ∀ t, 1 ≤ t → t ≤ 1000 → ∃ b, b < t ∧ (asP bits cl t).1 = nI b
  | 0, h, _ => absurd h (by omega)
  | t + 1, _, h2 => by
    by_cases e : t = 0
    · subst e
      rw [asP_1]; exact ⟨0, by decide, rfl⟩
    · obtain ⟨b, hb, eb⟩ := asP_n bits cl t (by omega) (by omega)
      unfold asP
      split
      · exact ⟨t, by omega, rfl⟩
      · exact ⟨b, by omega, eb⟩
theorem ush_of (x : Int32) : ∃ q, q < 65536 ∧ ush x = nI q := by
  have h := pk_ushr x 16 16 (by decide)
  have hx := x.toBitVec.isLt
  refine ⟨x.toBitVec.toNat / 2 ^ 16, by omega, ?_⟩
  apply Int32.toBitVec_inj.mp
  apply BitVec.eq_of_toNat_eq
  rw [pk_tn (by omega)]
  exact h
theorem lot_of (x : Int32) (m : Nat) (h0 : 0 < m) (hm : m < 1000) : ∃ q, q < m ∧ lot x (nI m) = nI q := by
  obtain ⟨q, hq, e⟩ := ush_of x
  refine ⟨q % m, Nat.mod_lt _ h0, ?_⟩
  unfold lot
  rw [e]
  exact pk_rem (by omega) h0 (by omega)
section LK
variable {G : mG} {l : Launch} {d : Nat} {σ : mS}
theorem dX9_cellOf_0 : decode cX9_cellOf 0 = .ok (.aload_n 0, 1) := by decide +kernel
theorem dX9_cellOf_1 : decode cX9_cellOf 1 = .ok (.getfield 28, 3) := by decide +kernel
theorem dX9_cellOf_4 : decode cX9_cellOf 4 = .ok (.iload_n 1, 1) := by decide +kernel
theorem dX9_cellOf_5 : decode cX9_cellOf 5 = .ok (.iload_n 2, 1) := by decide +kernel
theorem dX9_cellOf_6 : decode cX9_cellOf 6 = .ok (.iconst 0, 1) := by decide +kernel
theorem dX9_cellOf_7 : decode cX9_cellOf 7 = .ok (.invokevirtual 113, 3) := by decide +kernel
theorem dX9_cellOf_10 : decode cX9_cellOf 10 = .ok (.bipush 6, 2) := by decide +kernel
theorem dX9_cellOf_12 : decode cX9_cellOf 12 = .ok (.imul, 1) := by decide +kernel
theorem dX9_cellOf_13 : decode cX9_cellOf 13 = .ok (.aload_n 0, 1) := by decide +kernel
theorem dX9_cellOf_14 : decode cX9_cellOf 14 = .ok (.getfield 28, 3) := by decide +kernel
theorem dX9_cellOf_17 : decode cX9_cellOf 17 = .ok (.iload_n 1, 1) := by decide +kernel
theorem dX9_cellOf_18 : decode cX9_cellOf 18 = .ok (.iload_n 2, 1) := by decide +kernel
theorem dX9_cellOf_19 : decode cX9_cellOf 19 = .ok (.iconst 1, 1) := by decide +kernel
theorem dX9_cellOf_20 : decode cX9_cellOf 20 = .ok (.invokevirtual 113, 3) := by decide +kernel
theorem dX9_cellOf_23 : decode cX9_cellOf 23 = .ok (.iadd, 1) := by decide +kernel
theorem dX9_cellOf_24 : decode cX9_cellOf 24 = .ok (.ireturn, 1) := by decide +kernel
theorem dX9_mostAlike_0 : decode cX9_mostAlike 0 = .ok (.iconst 0, 1) := by decide +kernel
theorem dX9_mostAlike_1 : decode cX9_mostAlike 1 = .ok (.istore_n 2, 1) := by decide +kernel
theorem dX9_mostAlike_2 : decode cX9_mostAlike 2 = .ok (.iconst 1, 1) := by decide +kernel
theorem dX9_mostAlike_3 : decode cX9_mostAlike 3 = .ok (.istore_n 3, 1) := by decide +kernel
theorem dX9_mostAlike_4 : decode cX9_mostAlike 4 = .ok (.iload_n 3, 1) := by decide +kernel
theorem dX9_mostAlike_5 : decode cX9_mostAlike 5 = .ok (.bipush 9, 2) := by decide +kernel
theorem dX9_mostAlike_7 : decode cX9_mostAlike 7 = .ok (.if_icmp .gt 70, 3) := by decide +kernel
theorem dX9_mostAlike_10 : decode cX9_mostAlike 10 = .ok (.iconst 0, 1) := by decide +kernel
theorem dX9_mostAlike_11 : decode cX9_mostAlike 11 = .ok (.istore 4, 2) := by decide +kernel
theorem dX9_mostAlike_13 : decode cX9_mostAlike 13 = .ok (.iconst 1, 1) := by decide +kernel
theorem dX9_mostAlike_14 : decode cX9_mostAlike 14 = .ok (.istore 5, 2) := by decide +kernel
theorem dX9_mostAlike_16 : decode cX9_mostAlike 16 = .ok (.iload 5, 2) := by decide +kernel
theorem dX9_mostAlike_18 : decode cX9_mostAlike 18 = .ok (.bipush 9, 2) := by decide +kernel
theorem dX9_mostAlike_20 : decode cX9_mostAlike 20 = .ok (.if_icmp .gt 44, 3) := by decide +kernel
theorem dX9_mostAlike_23 : decode cX9_mostAlike 23 = .ok (.aload_n 0, 1) := by decide +kernel
theorem dX9_mostAlike_24 : decode cX9_mostAlike 24 = .ok (.getfield 34, 3) := by decide +kernel
theorem dX9_mostAlike_27 : decode cX9_mostAlike 27 = .ok (.iload_n 3, 1) := by decide +kernel
theorem dX9_mostAlike_28 : decode cX9_mostAlike 28 = .ok (.aaload, 1) := by decide +kernel
theorem dX9_mostAlike_29 : decode cX9_mostAlike 29 = .ok (.iload_n 1, 1) := by decide +kernel
theorem dX9_mostAlike_30 : decode cX9_mostAlike 30 = .ok (.iaload, 1) := by decide +kernel
theorem dX9_mostAlike_31 : decode cX9_mostAlike 31 = .ok (.iconst (-1), 1) := by decide +kernel
theorem dX9_mostAlike_32 : decode cX9_mostAlike 32 = .ok (.if_icmp .eq 26, 3) := by decide +kernel
theorem dX9_mostAlike_35 : decode cX9_mostAlike 35 = .ok (.aload_n 0, 1) := by decide +kernel
theorem dX9_mostAlike_36 : decode cX9_mostAlike 36 = .ok (.getfield 34, 3) := by decide +kernel
theorem dX9_mostAlike_39 : decode cX9_mostAlike 39 = .ok (.iload 5, 2) := by decide +kernel
theorem dX9_mostAlike_41 : decode cX9_mostAlike 41 = .ok (.aaload, 1) := by decide +kernel
theorem dX9_mostAlike_42 : decode cX9_mostAlike 42 = .ok (.iload_n 1, 1) := by decide +kernel
theorem dX9_mostAlike_43 : decode cX9_mostAlike 43 = .ok (.iaload, 1) := by decide +kernel
theorem dX9_mostAlike_44 : decode cX9_mostAlike 44 = .ok (.aload_n 0, 1) := by decide +kernel
theorem dX9_mostAlike_45 : decode cX9_mostAlike 45 = .ok (.getfield 34, 3) := by decide +kernel
theorem dX9_mostAlike_48 : decode cX9_mostAlike 48 = .ok (.iload_n 3, 1) := by decide +kernel
theorem dX9_mostAlike_49 : decode cX9_mostAlike 49 = .ok (.aaload, 1) := by decide +kernel
theorem dX9_mostAlike_50 : decode cX9_mostAlike 50 = .ok (.iload_n 1, 1) := by decide +kernel
theorem dX9_mostAlike_51 : decode cX9_mostAlike 51 = .ok (.iaload, 1) := by decide +kernel
theorem dX9_mostAlike_52 : decode cX9_mostAlike 52 = .ok (.if_icmp .ne 6, 3) := by decide +kernel
theorem dX9_mostAlike_55 : decode cX9_mostAlike 55 = .ok (.iinc 4 1, 3) := by decide +kernel
theorem dX9_mostAlike_58 : decode cX9_mostAlike 58 = .ok (.iinc 5 1, 3) := by decide +kernel
theorem dX9_mostAlike_61 : decode cX9_mostAlike 61 = .ok (.goto (-45), 3) := by decide +kernel
theorem dX9_mostAlike_64 : decode cX9_mostAlike 64 = .ok (.iload_n 2, 1) := by decide +kernel
theorem dX9_mostAlike_65 : decode cX9_mostAlike 65 = .ok (.iload 4, 2) := by decide +kernel
theorem dX9_mostAlike_67 : decode cX9_mostAlike 67 = .ok (.invokestatic 117, 3) := by decide +kernel
theorem dX9_mostAlike_70 : decode cX9_mostAlike 70 = .ok (.istore_n 2, 1) := by decide +kernel
theorem dX9_mostAlike_71 : decode cX9_mostAlike 71 = .ok (.iinc 3 1, 3) := by decide +kernel
theorem dX9_mostAlike_74 : decode cX9_mostAlike 74 = .ok (.goto (-70), 3) := by decide +kernel
theorem dX9_mostAlike_77 : decode cX9_mostAlike 77 = .ok (.iload_n 2, 1) := by decide +kernel
theorem dX9_mostAlike_78 : decode cX9_mostAlike 78 = .ok (.ireturn, 1) := by decide +kernel
theorem dX9_momentToLook_0 : decode cX9_momentToLook 0 = .ok (.aload_n 0, 1) := by decide +kernel
theorem dX9_momentToLook_1 : decode cX9_momentToLook 1 = .ok (.getfield 12, 3) := by decide +kernel
theorem dX9_momentToLook_4 : decode cX9_momentToLook 4 = .ok (.aload_n 0, 1) := by decide +kernel
theorem dX9_momentToLook_5 : decode cX9_momentToLook 5 = .ok (.getfield 41, 3) := by decide +kernel
theorem dX9_momentToLook_8 : decode cX9_momentToLook 8 = .ok (.invokevirtual 55, 3) := by decide +kernel
theorem dX9_momentToLook_11 : decode cX9_momentToLook 11 = .ok (.iconst 1, 1) := by decide +kernel
theorem dX9_momentToLook_12 : decode cX9_momentToLook 12 = .ok (.istore_n 2, 1) := by decide +kernel
theorem dX9_momentToLook_13 : decode cX9_momentToLook 13 = .ok (.iload_n 2, 1) := by decide +kernel
theorem dX9_momentToLook_14 : decode cX9_momentToLook 14 = .ok (.bipush 9, 2) := by decide +kernel
theorem dX9_momentToLook_16 : decode cX9_momentToLook 16 = .ok (.if_icmp .gt 57, 3) := by decide +kernel
theorem dX9_momentToLook_19 : decode cX9_momentToLook 19 = .ok (.aload_n 0, 1) := by decide +kernel
theorem dX9_momentToLook_20 : decode cX9_momentToLook 20 = .ok (.iload_n 1, 1) := by decide +kernel
theorem dX9_momentToLook_21 : decode cX9_momentToLook 21 = .ok (.iconst 4, 1) := by decide +kernel
theorem dX9_momentToLook_22 : decode cX9_momentToLook 22 = .ok (.iload_n 2, 1) := by decide +kernel
theorem dX9_momentToLook_23 : decode cX9_momentToLook 23 = .ok (.invokevirtual 101, 3) := by decide +kernel
theorem dX9_momentToLook_26 : decode cX9_momentToLook 26 = .ok (.istore_n 3, 1) := by decide +kernel
theorem dX9_momentToLook_27 : decode cX9_momentToLook 27 = .ok (.iconst 0, 1) := by decide +kernel
theorem dX9_momentToLook_28 : decode cX9_momentToLook 28 = .ok (.istore 4, 2) := by decide +kernel
theorem dX9_momentToLook_30 : decode cX9_momentToLook 30 = .ok (.iload 4, 2) := by decide +kernel
theorem dX9_momentToLook_32 : decode cX9_momentToLook 32 = .ok (.bipush 24, 2) := by decide +kernel
theorem dX9_momentToLook_34 : decode cX9_momentToLook 34 = .ok (.if_icmp .ge 33, 3) := by decide +kernel
theorem dX9_momentToLook_37 : decode cX9_momentToLook 37 = .ok (.aload_n 0, 1) := by decide +kernel
theorem dX9_momentToLook_38 : decode cX9_momentToLook 38 = .ok (.getfield 34, 3) := by decide +kernel
theorem dX9_momentToLook_41 : decode cX9_momentToLook 41 = .ok (.iload_n 2, 1) := by decide +kernel
theorem dX9_momentToLook_42 : decode cX9_momentToLook 42 = .ok (.aaload, 1) := by decide +kernel
theorem dX9_momentToLook_43 : decode cX9_momentToLook 43 = .ok (.iload 4, 2) := by decide +kernel
theorem dX9_momentToLook_45 : decode cX9_momentToLook 45 = .ok (.iload_n 3, 1) := by decide +kernel
theorem dX9_momentToLook_46 : decode cX9_momentToLook 46 = .ok (.ifCond .eq 13, 3) := by decide +kernel
theorem dX9_momentToLook_49 : decode cX9_momentToLook 49 = .ok (.aload_n 0, 1) := by decide +kernel
theorem dX9_momentToLook_50 : decode cX9_momentToLook 50 = .ok (.iload 4, 2) := by decide +kernel
theorem dX9_momentToLook_52 : decode cX9_momentToLook 52 = .ok (.iload_n 1, 1) := by decide +kernel
theorem dX9_momentToLook_53 : decode cX9_momentToLook 53 = .ok (.invokevirtual 105, 3) := by decide +kernel
theorem dX9_momentToLook_56 : decode cX9_momentToLook 56 = .ok (.goto 4, 3) := by decide +kernel
theorem dX9_momentToLook_59 : decode cX9_momentToLook 59 = .ok (.iconst (-1), 1) := by decide +kernel
theorem dX9_momentToLook_60 : decode cX9_momentToLook 60 = .ok (.iastore, 1) := by decide +kernel
theorem dX9_momentToLook_61 : decode cX9_momentToLook 61 = .ok (.iinc 4 1, 3) := by decide +kernel
theorem dX9_momentToLook_64 : decode cX9_momentToLook 64 = .ok (.goto (-34), 3) := by decide +kernel
theorem dX9_momentToLook_67 : decode cX9_momentToLook 67 = .ok (.iinc 2 1, 3) := by decide +kernel
theorem dX9_momentToLook_70 : decode cX9_momentToLook 70 = .ok (.goto (-57), 3) := by decide +kernel
theorem dX9_momentToLook_73 : decode cX9_momentToLook 73 = .ok (.iconst 0, 1) := by decide +kernel
theorem dX9_momentToLook_74 : decode cX9_momentToLook 74 = .ok (.istore_n 2, 1) := by decide +kernel
theorem dX9_momentToLook_75 : decode cX9_momentToLook 75 = .ok (.aload_n 0, 1) := by decide +kernel
theorem dX9_momentToLook_76 : decode cX9_momentToLook 76 = .ok (.iconst 0, 1) := by decide +kernel
theorem dX9_momentToLook_77 : decode cX9_momentToLook 77 = .ok (.invokevirtual 109, 3) := by decide +kernel
theorem dX9_momentToLook_80 : decode cX9_momentToLook 80 = .ok (.istore_n 3, 1) := by decide +kernel
theorem dX9_momentToLook_81 : decode cX9_momentToLook 81 = .ok (.iconst 1, 1) := by decide +kernel
theorem dX9_momentToLook_82 : decode cX9_momentToLook 82 = .ok (.istore 4, 2) := by decide +kernel
theorem dX9_momentToLook_84 : decode cX9_momentToLook 84 = .ok (.iload 4, 2) := by decide +kernel
theorem dX9_momentToLook_86 : decode cX9_momentToLook 86 = .ok (.bipush 24, 2) := by decide +kernel
theorem dX9_momentToLook_88 : decode cX9_momentToLook 88 = .ok (.if_icmp .ge 29, 3) := by decide +kernel
theorem dX9_momentToLook_91 : decode cX9_momentToLook 91 = .ok (.aload_n 0, 1) := by decide +kernel
theorem dX9_momentToLook_92 : decode cX9_momentToLook 92 = .ok (.iload 4, 2) := by decide +kernel
theorem dX9_momentToLook_94 : decode cX9_momentToLook 94 = .ok (.invokevirtual 109, 3) := by decide +kernel
theorem dX9_momentToLook_97 : decode cX9_momentToLook 97 = .ok (.istore 5, 2) := by decide +kernel
theorem dX9_momentToLook_99 : decode cX9_momentToLook 99 = .ok (.iload 5, 2) := by decide +kernel
theorem dX9_momentToLook_101 : decode cX9_momentToLook 101 = .ok (.iload_n 3, 1) := by decide +kernel
theorem dX9_momentToLook_102 : decode cX9_momentToLook 102 = .ok (.if_icmp .ge 9, 3) := by decide +kernel
theorem dX9_momentToLook_105 : decode cX9_momentToLook 105 = .ok (.iload 5, 2) := by decide +kernel
theorem dX9_momentToLook_107 : decode cX9_momentToLook 107 = .ok (.istore_n 3, 1) := by decide +kernel
theorem dX9_momentToLook_108 : decode cX9_momentToLook 108 = .ok (.iload 4, 2) := by decide +kernel
theorem dX9_momentToLook_110 : decode cX9_momentToLook 110 = .ok (.istore_n 2, 1) := by decide +kernel
theorem dX9_momentToLook_111 : decode cX9_momentToLook 111 = .ok (.iinc 4 1, 3) := by decide +kernel
theorem dX9_momentToLook_114 : decode cX9_momentToLook 114 = .ok (.goto (-30), 3) := by decide +kernel
theorem dX9_momentToLook_117 : decode cX9_momentToLook 117 = .ok (.iload_n 2, 1) := by decide +kernel
theorem dX9_momentToLook_118 : decode cX9_momentToLook 118 = .ok (.ireturn, 1) := by decide +kernel
theorem dX9_nextSeed_0 : decode cX9_nextSeed 0 = .ok (.ldc 146, 2) := by decide +kernel
theorem dX9_nextSeed_2 : decode cX9_nextSeed 2 = .ok (.iload_n 0, 1) := by decide +kernel
theorem dX9_nextSeed_3 : decode cX9_nextSeed 3 = .ok (.imul, 1) := by decide +kernel
theorem dX9_nextSeed_4 : decode cX9_nextSeed 4 = .ok (.sipush 12345, 3) := by decide +kernel
theorem dX9_nextSeed_7 : decode cX9_nextSeed 7 = .ok (.iadd, 1) := by decide +kernel
theorem dX9_nextSeed_8 : decode cX9_nextSeed 8 = .ok (.ireturn, 1) := by decide +kernel
theorem dX9_lot_0 : decode cX9_lot 0 = .ok (.iload_n 1, 1) := by decide +kernel
theorem dX9_lot_1 : decode cX9_lot 1 = .ok (.ifCond .le 12, 3) := by decide +kernel
theorem dX9_lot_4 : decode cX9_lot 4 = .ok (.iload_n 0, 1) := by decide +kernel
theorem dX9_lot_5 : decode cX9_lot 5 = .ok (.bipush 16, 2) := by decide +kernel
theorem dX9_lot_7 : decode cX9_lot 7 = .ok (.iushr, 1) := by decide +kernel
theorem dX9_lot_8 : decode cX9_lot 8 = .ok (.iload_n 1, 1) := by decide +kernel
theorem dX9_lot_9 : decode cX9_lot 9 = .ok (.irem, 1) := by decide +kernel
theorem dX9_lot_10 : decode cX9_lot 10 = .ok (.goto 4, 3) := by decide +kernel
theorem dX9_lot_13 : decode cX9_lot 13 = .ok (.iconst 0, 1) := by decide +kernel
theorem dX9_lot_14 : decode cX9_lot 14 = .ok (.ireturn, 1) := by decide +kernel
theorem dX9_playAges_0 : decode cX9_playAges 0 = .ok (.aload_n 0, 1) := by decide +kernel
theorem dX9_playAges_1 : decode cX9_playAges 1 = .ok (.getfield 21, 3) := by decide +kernel
theorem dX9_playAges_4 : decode cX9_playAges 4 = .ok (.iconst 0, 1) := by decide +kernel
theorem dX9_playAges_5 : decode cX9_playAges 5 = .ok (.putfield 90, 3) := by decide +kernel
theorem dX9_playAges_8 : decode cX9_playAges 8 = .ok (.iload_n 1, 1) := by decide +kernel
theorem dX9_playAges_9 : decode cX9_playAges 9 = .ok (.istore_n 3, 1) := by decide +kernel
theorem dX9_playAges_10 : decode cX9_playAges 10 = .ok (.iconst 0, 1) := by decide +kernel
theorem dX9_playAges_11 : decode cX9_playAges 11 = .ok (.istore 4, 2) := by decide +kernel
theorem dX9_playAges_13 : decode cX9_playAges 13 = .ok (.iload 4, 2) := by decide +kernel
theorem dX9_playAges_15 : decode cX9_playAges 15 = .ok (.iload_n 2, 1) := by decide +kernel
theorem dX9_playAges_16 : decode cX9_playAges 16 = .ok (.if_icmp .ge 71, 3) := by decide +kernel
theorem dX9_playAges_19 : decode cX9_playAges 19 = .ok (.aload_n 0, 1) := by decide +kernel
theorem dX9_playAges_20 : decode cX9_playAges 20 = .ok (.getfield 41, 3) := by decide +kernel
theorem dX9_playAges_23 : decode cX9_playAges 23 = .ok (.getfield 59, 3) := by decide +kernel
theorem dX9_playAges_26 : decode cX9_playAges 26 = .ok (.ifCond .le 61, 3) := by decide +kernel
theorem dX9_playAges_29 : decode cX9_playAges 29 = .ok (.iload_n 3, 1) := by decide +kernel
theorem dX9_playAges_30 : decode cX9_playAges 30 = .ok (.invokestatic 137, 3) := by decide +kernel
theorem dX9_playAges_33 : decode cX9_playAges 33 = .ok (.istore_n 3, 1) := by decide +kernel
theorem dX9_playAges_34 : decode cX9_playAges 34 = .ok (.iload_n 3, 1) := by decide +kernel
theorem dX9_playAges_35 : decode cX9_playAges 35 = .ok (.iconst 2, 1) := by decide +kernel
theorem dX9_playAges_36 : decode cX9_playAges 36 = .ok (.invokestatic 140, 3) := by decide +kernel
theorem dX9_playAges_39 : decode cX9_playAges 39 = .ok (.istore 5, 2) := by decide +kernel
theorem dX9_playAges_41 : decode cX9_playAges 41 = .ok (.iload_n 3, 1) := by decide +kernel
theorem dX9_playAges_42 : decode cX9_playAges 42 = .ok (.invokestatic 137, 3) := by decide +kernel
theorem dX9_playAges_45 : decode cX9_playAges 45 = .ok (.istore_n 3, 1) := by decide +kernel
theorem dX9_playAges_46 : decode cX9_playAges 46 = .ok (.iload_n 3, 1) := by decide +kernel
theorem dX9_playAges_47 : decode cX9_playAges 47 = .ok (.bipush 24, 2) := by decide +kernel
theorem dX9_playAges_49 : decode cX9_playAges 49 = .ok (.invokestatic 140, 3) := by decide +kernel
theorem dX9_playAges_52 : decode cX9_playAges 52 = .ok (.istore 6, 2) := by decide +kernel
theorem dX9_playAges_54 : decode cX9_playAges 54 = .ok (.iload_n 3, 1) := by decide +kernel
theorem dX9_playAges_55 : decode cX9_playAges 55 = .ok (.invokestatic 137, 3) := by decide +kernel
theorem dX9_playAges_58 : decode cX9_playAges 58 = .ok (.istore_n 3, 1) := by decide +kernel
theorem dX9_playAges_59 : decode cX9_playAges 59 = .ok (.aload_n 0, 1) := by decide +kernel
theorem dX9_playAges_60 : decode cX9_playAges 60 = .ok (.getfield 21, 3) := by decide +kernel
theorem dX9_playAges_63 : decode cX9_playAges 63 = .ok (.iload 5, 2) := by decide +kernel
theorem dX9_playAges_65 : decode cX9_playAges 65 = .ok (.iload 6, 2) := by decide +kernel
theorem dX9_playAges_67 : decode cX9_playAges 67 = .ok (.iload_n 3, 1) := by decide +kernel
theorem dX9_playAges_68 : decode cX9_playAges 68 = .ok (.aload_n 0, 1) := by decide +kernel
theorem dX9_playAges_69 : decode cX9_playAges 69 = .ok (.getfield 41, 3) := by decide +kernel
theorem dX9_playAges_72 : decode cX9_playAges 72 = .ok (.getfield 59, 3) := by decide +kernel
theorem dX9_playAges_75 : decode cX9_playAges 75 = .ok (.invokestatic 140, 3) := by decide +kernel
theorem dX9_playAges_78 : decode cX9_playAges 78 = .ok (.invokevirtual 143, 3) := by decide +kernel
theorem dX9_playAges_81 : decode cX9_playAges 81 = .ok (.iinc 4 1, 3) := by decide +kernel
theorem dX9_playAges_84 : decode cX9_playAges 84 = .ok (.goto (-71), 3) := by decide +kernel
theorem dX9_playAges_87 : decode cX9_playAges 87 = .ok (.aload_n 0, 1) := by decide +kernel
theorem dX9_playAges_88 : decode cX9_playAges 88 = .ok (.getfield 28, 3) := by decide +kernel
theorem dX9_playAges_91 : decode cX9_playAges 91 = .ok (.aload_n 0, 1) := by decide +kernel
theorem dX9_playAges_92 : decode cX9_playAges 92 = .ok (.getfield 41, 3) := by decide +kernel
theorem dX9_playAges_95 : decode cX9_playAges 95 = .ok (.aload_n 0, 1) := by decide +kernel
theorem dX9_playAges_96 : decode cX9_playAges 96 = .ok (.getfield 44, 3) := by decide +kernel
theorem dX9_playAges_99 : decode cX9_playAges 99 = .ok (.aload_n 0, 1) := by decide +kernel
theorem dX9_playAges_100 : decode cX9_playAges 100 = .ok (.getfield 21, 3) := by decide +kernel
theorem dX9_playAges_103 : decode cX9_playAges 103 = .ok (.iconst 0, 1) := by decide +kernel
theorem dX9_playAges_104 : decode cX9_playAges 104 = .ok (.invokevirtual 70, 3) := by decide +kernel
theorem dX9_playAges_107 : decode cX9_playAges 107 = .ok (.return_, 1) := by decide +kernel
theorem c_cellOf (hd : 1 ≤ d) (E : Deb) (wf : wfD E) (ho : outC 80 E σ) (t k : Nat) (ht : t < 24) (hk : k < E.1.1) : mMet G l d kX9_cellOf [.ref 65, .int (nI t), .int (nI k)] σ (qI (cellD E k t) σ) := by
  obtain ⟨a, b, ha, hb, ea, eb, e⟩ := cell_of wf k t hk
  refine mMet.of cm_X9_cellOf rfl (Nat.le_of_ble_eq_true rfl) rfl (fun v1 σ1 h => by rw [h.1]; rfl) ?_
  refine m_aload_n dX9_cellOf_0 0 rfl ?_
  refine m_getR 6 80 dX9_cellOf_1 fl_X9_28_8 rfl (by decide) rfl (by first | assumption | rfl) ?_
  refine m_iload_n dX9_cellOf_4 1 rfl ?_
  refine m_iload_n dX9_cellOf_5 2 rfl ?_
  refine m_iconst (v := 0) dX9_cellOf_6 (by decide) ?_
  refine m_callV (As := [_, _, _]) dX9_cellOf_7 cv_X9_113 (by first | assumption | rfl) (by decide) (by omega) rfl rfl (Nat.le_of_ble_eq_true rfl) (c_behindD (d := d - 1) (Or.inr rfl) E wf.1 ho t k 0 ht hk (by decide)) (fun v1 σ1 hv1 => ?_)
  refine m_qI hv1 ?_
  clear hv1 v1 σ1
  refine mW.top (w := nI a) ea ?_
  refine m_bipush (v := 6) dX9_cellOf_10 (by decide) ?_
  refine m_imul dX9_cellOf_12 ?_
  refine m_aload_n dX9_cellOf_13 0 rfl ?_
  refine m_getR 6 80 dX9_cellOf_14 fl_X9_28_8 rfl (by decide) rfl (by first | assumption | rfl) ?_
  refine m_iload_n dX9_cellOf_17 1 rfl ?_
  refine m_iload_n dX9_cellOf_18 2 rfl ?_
  refine m_iconst (v := 1) dX9_cellOf_19 (by decide) ?_
  refine m_callV (As := [_, _, _]) dX9_cellOf_20 cv_X9_113 (by first | assumption | rfl) (by decide) (by omega) rfl rfl (Nat.le_of_ble_eq_true rfl) (c_behindD (d := d - 1) (Or.inr rfl) E wf.1 ho t k 1 ht hk (by decide)) (fun v1 σ1 hv1 => ?_)
  refine m_qI hv1 ?_
  clear hv1 v1 σ1
  refine mW.top (w := nI b) eb ?_
  refine m_iadd dX9_cellOf_23 ?_
  refine mW.top (ix6 a b) ?_
  exact m_ireturn dX9_cellOf_24 (qI_of e.symm)
theorem c_mostAlike (hd : 1 ≤ d) (bits : Int32) (cl : Nat → Nat → Int32) (t : Nat) (ht : t < 24) (hc : ∀ w, 1 ≤ w → w ≤ 9 → σ.1 (99 + w) t = (if bitI bits (nI w) then cl w t else -1) ∧ cl w t ≠ -1) : mMet G l d kX9_mostAlike [.ref 65, .int (nI t)] σ (qI (nI (mxN bits cl t 9)) σ) := by
  refine mMet.of cm_X9_mostAlike rfl (Nat.le_of_ble_eq_true rfl) rfl (fun v1 σ1 h => by rw [h.1]; rfl) ?_
  refine m_iconst (v := 0) dX9_mostAlike_0 (by decide) ?_
  refine m_istore_n (ls1 := [(2, _), (0, _), (1, _)]) dX9_mostAlike_1 (by decide) rfl ?_
  refine m_iconst (v := 1) dX9_mostAlike_2 (by decide) ?_
  refine m_istore_n (ls1 := [(3, _), (2, _), (0, _), (1, _)]) dX9_mostAlike_3 (by decide) rfl ?_
  refine down (N := 10) (fun a (m : Nat) => 1 ≤ a ∧ m = mxN bits cl t (a - 1)) (fun a m => mW G l d kX9_mostAlike 4 [(3, .int (nI a)), (2, .int (nI m)), (0, .ref 65), (1, .int (nI t))] [] σ _) ?_ ?_ 1 0 (by decide) ⟨Nat.le_refl _, rfl⟩
  · rintro m ⟨-, hm⟩
    refine m_iload_n dX9_mostAlike_4 0 rfl ?_
    refine m_bipush (v := 9) dX9_mostAlike_5 (by decide) ?_
    refine m_icmp_gt dX9_mostAlike_7 77 (by decide) (fun h => ?_) (fun h => ?_)
    · refine m_iload_n dX9_mostAlike_77 1 rfl ?_
      exact m_ireturn dX9_mostAlike_78 (qI_of (by rw [hm]))
    · exact absurd (show (9 : Int32) < nI 10 by decide) h
  · rintro a m ha ⟨ha1, hm⟩ ihA
    obtain ⟨u, rfl⟩ : ∃ u, a = u + 1 := ⟨a - 1, by omega⟩
    have hm : m = mxN bits cl t u := hm
    have hm9 : m ≤ 9 := by rw [hm]; exact mxN_le _ _ _ _
    have hsa := sh_cell (w := u + 1) (by omega)
    obtain ⟨ca, na⟩ := hc (u + 1) (by omega) (by omega)
    have ca' : σ.1 (98 + 1 + (u + 1)) t = (if bitI bits (nI (u + 1)) then cl (u + 1) t else -1) := ca
    refine m_iload_n dX9_mostAlike_4 0 rfl ?_
    refine m_bipush (v := 9) dX9_mostAlike_5 (by decide) ?_
    refine m_icmp_gt dX9_mostAlike_7 77 (by decide) (fun h => ?_) (fun h => ?_)
    · exact absurd ((nlt (a := 9) (by omega) (by omega)).mp h) (by omega)
    clear h
    refine m_iconst (v := 0) dX9_mostAlike_10 (by decide) ?_
    refine m_istore (ls1 := [(4, _), (3, _), (2, _), (0, _), (1, _)]) dX9_mostAlike_11 (by decide) rfl ?_
    refine m_iconst (v := 1) dX9_mostAlike_13 (by decide) ?_
    refine m_istore (ls1 := [(5, _), (4, _), (3, _), (2, _), (0, _), (1, _)]) dX9_mostAlike_14 (by decide) rfl ?_
    refine down (N := 10) (fun b (n : Nat) => 1 ≤ b ∧ n = alN bits cl t (u + 1) (b - 1)) (fun b n => mW G l d kX9_mostAlike 16 [(5, .int (nI b)), (4, .int (nI n)), (3, .int (nI (u + 1))), (2, .int (nI m)), (0, .ref 65), (1, .int (nI t))] [] σ _) ?_ ?_ 1 0 (by decide) ⟨Nat.le_refl _, rfl⟩
    · rintro n ⟨-, hn⟩
      have hn : n = alN bits cl t (u + 1) 9 := hn
      have hn9 : n ≤ 9 := by rw [hn]; exact alN_le _ _ _ _ _
      refine m_iload dX9_mostAlike_16 0 rfl ?_
      refine m_bipush (v := 9) dX9_mostAlike_18 (by decide) ?_
      refine m_icmp_gt dX9_mostAlike_20 64 (by decide) (fun h => ?_) (fun h => ?_)
      rotate_left
      · exact absurd (show (9 : Int32) < nI 10 by decide) h
      clear h
      refine m_iload_n dX9_mostAlike_64 3 rfl ?_
      refine m_iload dX9_mostAlike_65 1 rfl ?_
      refine m_mmax dX9_mostAlike_67 cs_X9_117 ml_X9_117 (by omega) (Nat.le_of_ble_eq_true rfl) ?_
      refine mW.top (w := nI (mxN bits cl t (u + 1))) ?_ ?_
      · rw [mxN, ← hm, ← hn]
        by_cases q : n ≤ m
        · rw [if_pos q, if_neg (fun z => absurd ((nlt (by omega) (by omega)).mp z) (by omega))]
        · rw [if_neg q, if_pos ((nlt (by omega) (by omega)).mpr (by omega))]
      refine m_istore_n (ls1 := [(2, _), (5, _), (4, _), (3, _), (0, _), (1, _)]) dX9_mostAlike_70 (by decide) rfl ?_
      refine m_iinc (v := nI (u + 1 + 1)) (ls1 := [(3, _), (2, _), (5, _), (4, _), (0, _), (1, _)]) dX9_mostAlike_71 3 rfl (nI_1 (u + 1)) (by decide) rfl ?_
      refine m_goto dX9_mostAlike_74 4 (by decide) ?_
      refine mW.sub (ls1 := [(3, _), (2, _), (0, _), (1, _)]) [0, 1, 4, 5] rfl ?_
      exact ihA _ ⟨by omega, rfl⟩
    · rintro b n hb ⟨hb1, hn⟩ ihB
      obtain ⟨c, rfl⟩ : ∃ c, b = c + 1 := ⟨b - 1, by omega⟩
      have hn : n = alN bits cl t (u + 1) c := hn
      have hsb := sh_cell (w := c + 1) (by omega)
      obtain ⟨cb, nb⟩ := hc (c + 1) (by omega) (by omega)
      have cb' : σ.1 (98 + 1 + (c + 1)) t = (if bitI bits (nI (c + 1)) then cl (c + 1) t else -1) := cb
      have hu10 : u + 1 < 10 := by omega
      have hc10 : c + 1 < 10 := by omega
      have no : ¬ (bitI bits (nI (u + 1)) ∧ bitI bits (nI (c + 1)) ∧ cl (u + 1) t = cl (c + 1) t) → mW G l d kX9_mostAlike 58 [(5, .int (nI (c + 1))), (4, .int (nI n)), (3, .int (nI (u + 1))), (2, .int (nI m)), (0, .ref 65), (1, .int (nI t))] [] σ (qI (nI (mxN bits cl t 9)) σ) := by
        intro z
        refine m_iinc (v := nI (c + 1 + 1)) (ls1 := [(5, _), (4, _), (3, _), (2, _), (0, _), (1, _)]) dX9_mostAlike_58 0 rfl (nI_1 (c + 1)) (by decide) rfl ?_
        refine m_goto dX9_mostAlike_61 16 (by decide) ?_
        refine ihB n ⟨by omega, ?_⟩
        show n = alN bits cl t (u + 1) (c + 1)
        rw [alN, if_neg z]; exact hn
      refine m_iload dX9_mostAlike_16 0 rfl ?_
      refine m_bipush (v := 9) dX9_mostAlike_18 (by decide) ?_
      refine m_icmp_gt dX9_mostAlike_20 64 (by decide) (fun h => ?_) (fun h => ?_)
      · exact absurd ((nlt (a := 9) (by omega) (by omega)).mp h) (by omega)
      clear h
      by_cases pa : bitI bits (nI (u + 1))
      rotate_left
      · rw [if_neg pa] at ca'
        refine m_aload_n dX9_mostAlike_23 4 rfl ?_
        refine m_getR 7 98 dX9_mostAlike_24 fl_X9_34_8 rfl (by decide) rfl (by first | assumption | rfl) ?_
        refine m_iload_n dX9_mostAlike_27 2 rfl ?_
        refine m_aald dX9_mostAlike_28 (by first | assumption | rfl) (u + 1) rfl (by first | assumption | omega | decide) ?_
        refine m_iload_n dX9_mostAlike_29 5 rfl ?_
        refine m_iald dX9_mostAlike_30 (by first | assumption | rfl) t rfl (by first | assumption | omega | decide) ?_
        refine mW.top ca' ?_
        refine m_iconst (v := -1) dX9_mostAlike_31 (by decide) ?_
        refine m_icmp_eq dX9_mostAlike_32 58 (by decide) (fun z1 => ?_) (fun z1 => ?_)
        · exact no (fun z => pa z.1)
        · exact absurd rfl z1
      rw [if_pos pa] at ca'
      refine m_aload_n dX9_mostAlike_23 4 rfl ?_
      refine m_getR 7 98 dX9_mostAlike_24 fl_X9_34_8 rfl (by decide) rfl (by first | assumption | rfl) ?_
      refine m_iload_n dX9_mostAlike_27 2 rfl ?_
      refine m_aald dX9_mostAlike_28 (by first | assumption | rfl) (u + 1) rfl (by first | assumption | omega | decide) ?_
      refine m_iload_n dX9_mostAlike_29 5 rfl ?_
      refine m_iald dX9_mostAlike_30 (by first | assumption | rfl) t rfl (by first | assumption | omega | decide) ?_
      refine mW.top ca' ?_
      refine m_iconst (v := -1) dX9_mostAlike_31 (by decide) ?_
      refine m_icmp_eq dX9_mostAlike_32 58 (by decide) (fun z1 => ?_) (fun z1 => ?_)
      · exact absurd z1 na
      refine m_aload_n dX9_mostAlike_35 4 rfl ?_
      refine m_getR 7 98 dX9_mostAlike_36 fl_X9_34_8 rfl (by decide) rfl (by first | assumption | rfl) ?_
      refine m_iload dX9_mostAlike_39 0 rfl ?_
      refine m_aald dX9_mostAlike_41 (by first | assumption | rfl) (c + 1) rfl (by first | assumption | omega | decide) ?_
      refine m_iload_n dX9_mostAlike_42 5 rfl ?_
      refine m_iald dX9_mostAlike_43 (by first | assumption | rfl) t rfl (by first | assumption | omega | decide) ?_
      refine mW.top cb' ?_
      refine m_aload_n dX9_mostAlike_44 4 rfl ?_
      refine m_getR 7 98 dX9_mostAlike_45 fl_X9_34_8 rfl (by decide) rfl (by first | assumption | rfl) ?_
      refine m_iload_n dX9_mostAlike_48 2 rfl ?_
      refine m_aald dX9_mostAlike_49 (by first | assumption | rfl) (u + 1) rfl (by first | assumption | omega | decide) ?_
      refine m_iload_n dX9_mostAlike_50 5 rfl ?_
      refine m_iald dX9_mostAlike_51 (by first | assumption | rfl) t rfl (by first | assumption | omega | decide) ?_
      refine mW.top ca' ?_
      refine m_icmp_ne dX9_mostAlike_52 58 (by decide) (fun z2 => ?_) (fun z2 => ?_)
      · refine no (fun z => z2 ?_)
        rw [if_pos z.2.1]; exact z.2.2.symm
      have yes : bitI bits (nI (u + 1)) ∧ bitI bits (nI (c + 1)) ∧ cl (u + 1) t = cl (c + 1) t := by
        by_cases pb : bitI bits (nI (c + 1))
        · rw [if_pos pb] at z2
          exact ⟨pa, pb, z2.symm⟩
        · rw [if_neg pb] at z2
          exact absurd z2.symm na
      refine m_iinc (v := nI (n + 1)) (ls1 := [(4, _), (5, _), (3, _), (2, _), (0, _), (1, _)]) dX9_mostAlike_55 1 rfl (nI_1 n) (by decide) rfl ?_
      refine m_iinc (v := nI (c + 1 + 1)) (ls1 := [(5, _), (4, _), (3, _), (2, _), (0, _), (1, _)]) dX9_mostAlike_58 1 rfl (nI_1 (c + 1)) (by decide) rfl ?_
      refine m_goto dX9_mostAlike_61 16 (by decide) ?_
      refine ihB (n + 1) ⟨by omega, ?_⟩
      show n + 1 = alN bits cl t (u + 1) (c + 1)
      rw [alN, if_pos yes, ← hn]
theorem c_momentToLook (hd : 6 ≤ d) (D : Deb) (h0 : setC D σ) (z : Nat) (w : Nat → Nat → Int32) (hw : serow z w σ) (k : Nat) (hk : k < D.1.1) : mMet G l d kX9_momentToLook [.ref 65, .int (nI k)] σ (qIP (fun r s => r = akP D k z w ∧ fW (wTr D.2.1.1) σ s)) := by
  have hn := h0.1.1
  have h12 := h0.2.2.1
  refine mMet.of cm_X9_momentToLook rfl (Nat.le_of_ble_eq_true rfl) rfl (fun v1 σ1 h => by obtain ⟨r, h1, -⟩ := h; rw [h1]; rfl) ?_
  unfold akP
  have hbit := hvP_bit D k z w 9 (Nat.le_refl _)
  generalize hvP D k z w 9 = bits at *
  refine m_aload_n dX9_momentToLook_0 0 rfl ?_
  refine m_getR 4 66 dX9_momentToLook_1 fl_X9_12_8 rfl (by decide) rfl (by first | assumption | rfl) ?_
  refine m_aload_n dX9_momentToLook_4 0 rfl ?_
  refine m_getR 0 5 dX9_momentToLook_5 fl_X9_41_8 rfl (by decide) rfl (by first | assumption | rfl) ?_
  refine m_callV (As := [_]) dX9_momentToLook_8 cv_X9_55 (by first | assumption | rfl) (by decide) (by omega) rfl rfl (Nat.le_of_ble_eq_true rfl) (c_becomeLike (d := d - 1) (by omega)) (fun v1 σ1 hv1 => ?_)
  refine m_qVP hv1 (fun hq => ?_)
  clear hv1 v1
  rename mS => s0
  obtain ⟨l1, l2, l3⟩ := hq
  have t0 := tri_self k 4 (tri_like h0 l1 l2)
  have f0 : fW (wTr D.2.1.1) σ s0 := l3.mono (fun y z h => by omega)
  refine m_iconst (v := 1) dX9_momentToLook_11 (by decide) ?_
  refine m_istore_n (ls1 := [(2, _), (0, _), (1, _)]) dX9_momentToLook_12 (by decide) rfl ?_
  refine down (N := 10) (fun i (q : mS) => 1 ≤ i ∧ (∀ v, 1 ≤ v → v < i → ∀ t, t < 24 → q.1 (99 + v) t = (if bitI bits (nI v) then cellD (setJ D k 4 (nI v)) k t else -1)) ∧ (∃ u, triC (setJ D k 4 u) q) ∧ fW (wTr D.2.1.1) σ q) (fun i q => mW G l d kX9_momentToLook 13 [(2, .int (nI i)), (0, .ref 65), (1, .int (nI k))] [] q _) ?_ ?_ 1 s0 (by decide) ⟨Nat.le_refl _, fun v h1 h2 => absurd h2 (by omega), ⟨_, t0⟩, f0⟩
  · rintro s ⟨-, hcl, -, f⟩
    obtain ⟨cl, hcE⟩ : ∃ cl : Nat → Nat → Int32, cl = fun v t => cellD (setJ D k 4 (nI v)) k t := ⟨_, rfl⟩
    have hcl2 : ∀ t, t < 24 → ∀ v, 1 ≤ v → v ≤ 9 → s.1 (99 + v) t = (if bitI bits (nI v) then cl v t else -1) ∧ cl v t ≠ -1 := fun t ht v h1 h2 => by
      obtain ⟨a, b, ha, hb, -, -, e⟩ := cell_of (h0.1.setJ4 k (nI v)) k t hk
      rw [hcE]
      refine ⟨hcl v h1 (by omega) t ht, ?_⟩
      show cellD (setJ D k 4 (nI v)) k t ≠ -1
      rw [e]; exact ne_m1 (by omega)
    rw [← hcE]
    clear hcl hcE
    refine m_iload_n dX9_momentToLook_13 0 rfl ?_
    refine m_bipush (v := 9) dX9_momentToLook_14 (by decide) ?_
    refine m_icmp_gt dX9_momentToLook_16 73 (by decide) (fun h => ?_) (fun h => ?_)
    rotate_left
    · exact absurd (show (9 : Int32) < nI 10 by decide) h
    clear h
    refine m_iconst (v := 0) dX9_momentToLook_73 (by decide) ?_
    refine m_istore_n (ls1 := [(2, _), (0, _), (1, _)]) dX9_momentToLook_74 (by decide) rfl ?_
    refine m_aload_n dX9_momentToLook_75 1 rfl ?_
    refine m_iconst (v := 0) dX9_momentToLook_76 (by decide) ?_
    refine m_callV (As := [_]) dX9_momentToLook_77 cv_X9_109 (by first | assumption | rfl) (by decide) (by omega) rfl rfl (Nat.le_of_ble_eq_true rfl) (c_mostAlike (d := d - 1) (by omega) bits cl 0 (by decide) (hcl2 0 (by decide))) (fun v1 σ1 hv1 => ?_)
    refine m_qI hv1 ?_
    clear hv1 v1 σ1
    refine m_istore_n (ls1 := [(3, _), (2, _), (0, _), (1, _)]) dX9_momentToLook_80 (by decide) rfl ?_
    refine m_iconst (v := 1) dX9_momentToLook_81 (by decide) ?_
    refine m_istore (ls1 := [(4, _), (3, _), (2, _), (0, _), (1, _)]) dX9_momentToLook_82 (by decide) rfl ?_
    refine down (N := 24) (fun t (q : Int32 × Nat) => 1 ≤ t ∧ q = asP bits cl t) (fun t q => mW G l d kX9_momentToLook 84 [(4, .int (nI t)), (3, .int (nI q.2)), (2, .int q.1), (0, .ref 65), (1, .int (nI k))] [] s _) ?_ ?_ 1 (nI 0, mxN bits cl 0 9) (by decide) ⟨Nat.le_refl _, (asP_1 bits cl).symm⟩
    · rintro ⟨be, le⟩ ⟨-, hq⟩
      refine m_iload dX9_momentToLook_84 0 rfl ?_
      refine m_bipush (v := 24) dX9_momentToLook_86 (by decide) ?_
      refine m_icmp_ge dX9_momentToLook_88 117 (by decide) (fun h => ?_) (fun h => ?_)
      · refine m_iload_n dX9_momentToLook_117 2 rfl ?_
        exact m_ireturn dX9_momentToLook_118 ⟨_, rfl, congrArg Prod.fst hq, f⟩
      · exact absurd (Int32.le_refl _) h
    · rintro t ⟨be, le⟩ ht ⟨ht1, hq⟩ ih
      have hq9 : le ≤ 9 := by have := asP_le bits cl t; rw [← hq] at this; exact this
      have hm9 := mxN_le bits cl t 9
      obtain ⟨b, hb, eb⟩ := asP_n bits cl t ht1 (by omega)
      have hbe : be = nI b := by rw [← eb, ← hq]
      show mW G l d kX9_momentToLook 84 [(4, .int (nI t)), (3, .int (nI le)), (2, .int be), (0, .ref 65), (1, .int (nI k))] [] s _
      refine m_iload dX9_momentToLook_84 0 rfl ?_
      refine m_bipush (v := 24) dX9_momentToLook_86 (by decide) ?_
      refine m_icmp_ge dX9_momentToLook_88 117 (by decide) (fun h => ?_) (fun h => ?_)
      · exact absurd ((nle (a := 24) (by omega) (by omega)).mp h) (by omega)
      clear h
      refine m_aload_n dX9_momentToLook_91 3 rfl ?_
      refine m_iload dX9_momentToLook_92 0 rfl ?_
      refine m_callV (As := [_]) dX9_momentToLook_94 cv_X9_109 (by first | assumption | rfl) (by decide) (by omega) rfl rfl (Nat.le_of_ble_eq_true rfl) (c_mostAlike (d := d - 1) (by omega) bits cl t ht (hcl2 t ht)) (fun v1 σ1 hv1 => ?_)
      refine m_qI hv1 ?_
      clear hv1 v1 σ1
      refine m_istore (ls1 := [(5, _), (4, _), (3, _), (2, _), (0, _), (1, _)]) dX9_momentToLook_97 (by decide) rfl ?_
      refine m_iload dX9_momentToLook_99 0 rfl ?_
      refine m_iload_n dX9_momentToLook_101 2 rfl ?_
      refine m_icmp_ge dX9_momentToLook_102 111 (by decide) (fun z1 => ?_) (fun z1 => ?_)
      · refine m_iinc (v := nI (t + 1)) (ls1 := [(4, _), (5, _), (3, _), (2, _), (0, _), (1, _)]) dX9_momentToLook_111 1 rfl (nI_1 t) (by decide) rfl ?_
        refine m_goto dX9_momentToLook_114 84 (by decide) ?_
        refine mW.sub (ls1 := [(4, _), (3, _), (2, _), (0, _), (1, _)]) [0, 2, 3, 4, 5] rfl ?_
        refine ih (be, le) ⟨by omega, ?_⟩
        show (be, le) = asP bits cl (t + 1)
        have z2 := (nle (by omega) (by omega)).mp z1
        rw [asP, ← hq, if_neg (fun z => z.elim (fun z => ne_m1 (c := b) (by omega) (hbe.symm.trans z)) (fun z => by have z : mxN bits cl t 9 < le := z; omega))]
      · refine m_iload dX9_momentToLook_105 0 rfl ?_
        refine m_istore_n (ls1 := [(3, _), (5, _), (4, _), (2, _), (0, _), (1, _)]) dX9_momentToLook_107 (by decide) rfl ?_
        refine m_iload dX9_momentToLook_108 2 rfl ?_
        refine m_istore_n (ls1 := [(2, _), (3, _), (5, _), (4, _), (0, _), (1, _)]) dX9_momentToLook_110 (by decide) rfl ?_
        refine m_iinc (v := nI (t + 1)) (ls1 := [(4, _), (2, _), (3, _), (5, _), (0, _), (1, _)]) dX9_momentToLook_111 3 rfl (nI_1 t) (by decide) rfl ?_
        refine m_goto dX9_momentToLook_114 84 (by decide) ?_
        refine mW.sub (ls1 := [(4, _), (3, _), (2, _), (0, _), (1, _)]) [0, 2, 1, 4, 5] rfl ?_
        refine ih (nI t, mxN bits cl t 9) ⟨by omega, ?_⟩
        show (nI t, mxN bits cl t 9) = asP bits cl (t + 1)
        have z2 : mxN bits cl t 9 < le := Nat.lt_of_not_le (fun z => z1 ((nle (by omega) (by omega)).mpr z))
        rw [asP, ← hq, if_pos (Or.inr z2)]
  · rintro i s hi ⟨hi1, hcl, ⟨u, ht⟩, f⟩ ih
    obtain ⟨j, rfl⟩ : ∃ j, i = j + 1 := ⟨i - 1, by omega⟩
    have hs := h0.tr f
    have t1 := tri_setJ (v := nI (j + 1)) ht
    have wfE := h0.1.setJ4 k (nI (j + 1))
    have hbj : bitI bits (nI (j + 1)) ↔ agP (setJ D k 4 (nI (j + 1))) w z = true := (hbit (j + 1) (by omega) (by omega)).trans ⟨fun q => q.2, fun q => ⟨by omega, q⟩⟩
    have hkE : k < (setJ D k 4 (nI (j + 1))).1.1 := hk
    refine m_iload_n dX9_momentToLook_13 0 rfl ?_
    refine m_bipush (v := 9) dX9_momentToLook_14 (by decide) ?_
    refine m_icmp_gt dX9_momentToLook_16 73 (by decide) (fun h => ?_) (fun h => ?_)
    · exact absurd ((nlt (a := 9) (by omega) (by omega)).mp h) (by omega)
    clear h
    refine m_aload_n dX9_momentToLook_19 1 rfl ?_
    refine m_iload_n dX9_momentToLook_20 2 rfl ?_
    refine m_iconst (v := 4) dX9_momentToLook_21 (by decide) ?_
    refine m_iload_n dX9_momentToLook_22 0 rfl ?_
    refine m_callV (As := [_, _, _]) dX9_momentToLook_23 cv_X9_101 (by first | assumption | rfl) (by decide) (by omega) rfl rfl (Nat.le_of_ble_eq_true rfl) (c_agrees (d := d - 1) (by omega) D (setJ D k 4 (nI (j + 1))) hs wfE rfl rfl k 4 (nI (j + 1)) hk (by decide) t1 z w (hw.tr f (fun y q h1 h2 => by omega))) (fun v1 σ1 hv1 => ?_)
    refine m_qIP hv1 (fun x1 hq => ?_)
    clear hv1 v1
    rename mS => s1
    obtain ⟨e1, o1, f1⟩ := hq
    subst e1
    have f2 : fW (wTr D.2.1.1) σ s1 := (fW.us (by omega) f).tr (f1.mono (fun y z h => by omega))
    have t2 : triC (setJ D k 4 (nI (j + 1))) s1 := t1.tr hn f1 (by omega) (fun y z h1 h2 => by omega)
    have hcl1 : ∀ v, 1 ≤ v → v < j + 1 → ∀ t, t < 24 → s1.1 (99 + v) t = (if bitI bits (nI v) then cellD (setJ D k 4 (nI v)) k t else -1) := fun v h1 h2 t ht => by
      rw [f1.at (by omega), us_at, if_neg (by omega)]
      exact hcl v h1 h2 t ht
    clear hcl
    have tE2 : ∀ s', triC (setJ D k 4 (nI (j + 1))) s' → ∃ u, triC (setJ D k 4 u) s' := fun s' q => ⟨_, q⟩
    have hsj := sh_cell (w := j + 1) (by omega)
    have hj10 : j + 1 < 10 := by omega
    have nE : (setJ D k 4 (nI (j + 1))).1.1 ≤ 8 := hn
    refine m_istore_n (ls1 := [(3, _), (2, _), (0, _), (1, _)]) dX9_momentToLook_26 (by decide) rfl ?_
    refine m_iconst (v := 0) dX9_momentToLook_27 (by decide) ?_
    refine m_istore (ls1 := [(4, _), (3, _), (2, _), (0, _), (1, _)]) dX9_momentToLook_28 (by decide) rfl ?_
    refine down (N := 24) (fun t (q : mS) => (∀ u, u < t → q.1 (99 + (j + 1)) u = (if bitI bits (nI (j + 1)) then cellD (setJ D k 4 (nI (j + 1))) k u else -1)) ∧ fW (fun y z => y = 99 + (j + 1)) s1 q) (fun t q => mW G l d kX9_momentToLook 30 [(4, .int (nI t)), (3, .int (bI (agP (setJ D k 4 (nI (j + 1))) w z))), (2, .int (nI (j + 1))), (0, .ref 65), (1, .int (nI k))] [] q _) ?_ ?_ 0 s1 (Nat.zero_le _) ⟨fun u hu => absurd hu (Nat.not_lt_zero _), fW.rf⟩
    · rintro s3 ⟨b1, b2⟩
      refine m_iload dX9_momentToLook_30 0 rfl ?_
      refine m_bipush (v := 24) dX9_momentToLook_32 (by decide) ?_
      refine m_icmp_ge dX9_momentToLook_34 67 (by decide) (fun h => ?_) (fun h => ?_)
      rotate_left
      · exact absurd (Int32.le_refl _) h
      clear h
      refine m_iinc (v := nI (j + 1 + 1)) (ls1 := [(2, _), (4, _), (3, _), (0, _), (1, _)]) dX9_momentToLook_67 2 rfl (nI_1 (j + 1)) (by decide) rfl ?_
      refine m_goto dX9_momentToLook_70 13 (by decide) ?_
      refine mW.sub (ls1 := [(2, _), (0, _), (1, _)]) [0, 3, 4] rfl ?_
      refine ih s3 ⟨by omega, fun v h1 h2 t ht => ?_, tE2 s3 (t2.tr nE b2 (by omega) (fun y z h1 h2 => by omega)), f2.tr (b2.mono (fun y z h => by omega))⟩
      by_cases e : v = j + 1
      · subst e; exact b1 t ht
      · rw [b2.at (by omega)]; exact hcl1 v h1 (by omega) t ht
    · rintro t s3 ht3 ⟨b1, b2⟩ ihT
      have o3 : outC 80 (setJ D k 4 (nI (j + 1))) s3 := by
        obtain ⟨⟨a5, a6, a7, a8, a9, an⟩, am⟩ := o1
        refine ⟨⟨(b2.at (by omega)).trans a5, (b2.at (by omega)).trans a6, (b2.at (by omega)).trans a7, (b2.at (by omega)).trans a8, (b2.at (by omega)).trans a9, fun i hi => ?_⟩, fun t ht => ⟨(b2.at (by omega)).trans (am t ht).1, (b2.at (by omega)).trans (am t ht).2.1, fun i hi p hp => (b2.at (by omega)).trans ((am t ht).2.2 i hi p hp)⟩⟩
        obtain ⟨c1, c2, c3, c4, c5, c6⟩ := an i hi
        exact ⟨(b2.at (by omega)).trans c1, (b2.at (by omega)).trans c2, (b2.at (by omega)).trans c3, (b2.at (by omega)).trans c4, (b2.at (by omega)).trans c5, (b2.at (by omega)).trans c6⟩
      have step : ∀ v : Int32, v = (if bitI bits (nI (j + 1)) then cellD (setJ D k 4 (nI (j + 1))) k t else -1) → mW G l d kX9_momentToLook 60 [(4, .int (nI t)), (3, .int (bI (agP (setJ D k 4 (nI (j + 1))) w z))), (2, .int (nI (j + 1))), (0, .ref 65), (1, .int (nI k))] [.int v, .int (nI t), .ref (98 + 1 + (j + 1))] s3 (qIP (fun r s => r = (asP bits (fun v t => cellD (setJ D k 4 (nI v)) k t) 24).1 ∧ fW (wTr D.2.1.1) σ s)) := by
        intro v hv
        refine m_iast dX9_momentToLook_60 (by first | assumption | rfl) t rfl (by first | assumption | omega | decide) ?_
        refine m_iinc (v := nI (t + 1)) (ls1 := [(4, _), (3, _), (2, _), (0, _), (1, _)]) dX9_momentToLook_61 0 rfl (nI_1 t) (by decide) rfl ?_
        refine m_goto dX9_momentToLook_64 30 (by decide) ?_
        refine ihT _ ⟨fun u hu => ?_, fW.us (by omega) b2⟩
        show (us s3 (99 + (j + 1)) t v).1 (99 + (j + 1)) u = _
        rw [us_at]
        rcases Nat.lt_succ_iff_lt_or_eq.mp hu with h | rfl
        · rw [if_neg (by omega)]; exact b1 u h
        · rw [if_pos ⟨rfl, rfl⟩]; exact hv
      refine m_iload dX9_momentToLook_30 0 rfl ?_
      refine m_bipush (v := 24) dX9_momentToLook_32 (by decide) ?_
      refine m_icmp_ge dX9_momentToLook_34 67 (by decide) (fun h => ?_) (fun h => ?_)
      · exact absurd ((nle (a := 24) (by omega) (by omega)).mp h) (by omega)
      clear h
      refine m_aload_n dX9_momentToLook_37 3 rfl ?_
      refine m_getR 7 98 dX9_momentToLook_38 fl_X9_34_8 rfl (by decide) rfl (by first | assumption | rfl) ?_
      refine m_iload_n dX9_momentToLook_41 2 rfl ?_
      refine m_aald dX9_momentToLook_42 (by first | assumption | rfl) (j + 1) rfl (by first | assumption | omega | decide) ?_
      refine m_iload dX9_momentToLook_43 0 rfl ?_
      refine m_iload_n dX9_momentToLook_45 1 rfl ?_
      refine m_if_eq dX9_momentToLook_46 59 (by decide) (fun z1 => ?_) (fun z1 => ?_)
      · refine m_iconst (v := -1) dX9_momentToLook_59 (by decide) ?_
        refine step _ ?_
        rw [if_neg (fun q => absurd (hbj.mp q) (by rw [bI_eq.mp z1]; decide))]
      · refine m_aload_n dX9_momentToLook_49 3 rfl ?_
        refine m_iload dX9_momentToLook_50 0 rfl ?_
        refine m_iload_n dX9_momentToLook_52 4 rfl ?_
        refine m_callV (As := [_, _]) dX9_momentToLook_53 cv_X9_105 (by first | assumption | rfl) (by decide) (by omega) rfl rfl (Nat.le_of_ble_eq_true rfl) (c_cellOf (d := d - 1) (by omega) _ wfE o3 t k ht3 hkE) (fun v1 σ1 hv1 => ?_)
        refine m_qI hv1 ?_
        clear hv1 v1 σ1
        refine m_goto dX9_momentToLook_56 60 (by decide) ?_
        refine step _ ?_
        rw [if_pos (hbj.mpr (bI_ne.mp z1))]
theorem c_nextSeed (x : Int32) : mMet G l d kX9_nextSeed [.int x] σ (qI (lcg x) σ) := by
  refine mMet.of cm_X9_nextSeed rfl (Nat.le_of_ble_eq_true rfl) rfl (fun v1 σ1 h => by rw [h.1]; rfl) ?_
  refine m_ldc dX9_nextSeed_0 kc_X9_146 ?_
  refine m_iload_n dX9_nextSeed_2 0 rfl ?_
  refine m_imul dX9_nextSeed_3 ?_
  refine m_sipush (v := 12345) dX9_nextSeed_4 (by decide) ?_
  refine m_iadd dX9_nextSeed_7 ?_
  exact m_ireturn dX9_nextSeed_8 ⟨rfl, rfl⟩
theorem c_lot (x : Int32) (m : Nat) (h0 : 0 < m) (hm : m < 1000) : mMet G l d kX9_lot [.int x, .int (nI m)] σ (qI (lot x (nI m)) σ) := by
  refine mMet.of cm_X9_lot rfl (Nat.le_of_ble_eq_true rfl) rfl (fun v1 σ1 h => by rw [h.1]; rfl) ?_
  refine m_iload_n dX9_lot_0 1 rfl ?_
  refine m_if_le dX9_lot_1 13 (by decide) (fun h => ?_) (fun h => ?_)
  · exact absurd ((nle (b := 0) (by omega) (by omega)).mp h) (by omega)
  have hne : ¬ nI m = 0 := fun q => absurd ((neq (b := 0) (by omega) (by omega)).mp q) (by omega)
  refine m_iload_n dX9_lot_4 0 rfl ?_
  refine m_bipush (v := 16) dX9_lot_5 (by decide) ?_
  refine m_iushr (v := _) dX9_lot_7 rfl ?_
  refine m_iload_n dX9_lot_8 1 rfl ?_
  refine m_irem dX9_lot_9 hne ?_
  refine m_goto dX9_lot_10 14 (by decide) ?_
  exact m_ireturn dX9_lot_14 ⟨rfl, rfl⟩
theorem c_playAges (hd : 5 ≤ d) (D : Deb) (h0 : setC D σ) (x : Int32) (n : Nat) (hn8 : n ≤ 8) : mMet G l d kX9_playAges [.ref 65, .int x, .int (nI n)] σ (qVP (fun s => outC 80 (agD D x n) s ∧ fW (wTr D.2.1.1) σ s)) := by
  have hn := h0.1.1
  have h12 := h0.2.2.1
  refine mMet.of cm_X9_playAges rfl (Nat.le_of_ble_eq_true rfl) rfl (fun v1 σ1 h => by rw [h.1]; trivial) ?_
  refine m_aload_n dX9_playAges_0 0 rfl ?_
  refine m_getR 5 76 dX9_playAges_1 fl_X9_21_8 rfl (by decide) rfl (by first | assumption | rfl) ?_
  refine m_iconst (v := 0) dX9_playAges_4 (by decide) ?_
  refine m_putI 3 dX9_playAges_5 fw_X9_90_1 rfl (by decide) rfl rfl (by first | assumption | rfl) ?_
  refine m_iload_n dX9_playAges_8 1 rfl ?_
  refine m_istore_n (ls1 := [(3, _), (0, _), (1, _), (2, _)]) dX9_playAges_9 (by decide) rfl ?_
  refine m_iconst (v := 0) dX9_playAges_10 (by decide) ?_
  refine m_istore (ls1 := [(4, _), (3, _), (0, _), (1, _), (2, _)]) dX9_playAges_11 (by decide) rfl ?_
  have hN : agN D n ≤ n := by unfold agN; split <;> omega
  refine down (N := agN D n) (fun i (q : mS × Int32) => q.2 = sdP x i ∧ evrow 76 i (agF x (nI D.1.1)) q.1 ∧ fW (wTr D.2.1.1) σ q.1) (fun i q => mW G l d kX9_playAges 13 [(4, .int (nI i)), (3, .int q.2), (0, .ref 65), (1, .int x), (2, .int (nI n))] [] q.1 _) ?_ ?_ 0 (us σ 76 3 0, x) (Nat.zero_le _) ⟨rfl, ⟨by rw [us_at, if_pos ⟨rfl, rfl⟩]; rfl, fun i hi => absurd hi (Nat.not_lt_zero _)⟩, fW.us (by omega) fW.rf⟩
  · rintro ⟨s, y⟩ ⟨hy, ev, f⟩
    have hs := h0.tr f
    have fin : mW G l d kX9_playAges 87 [(4, .int (nI (agN D n))), (3, .int y), (0, .ref 65), (1, .int x), (2, .int (nI n))] [] s (qVP (fun s => outC 80 (agD D x n) s ∧ fW (wTr D.2.1.1) σ s)) := by
      have wfA : wfD (agD D x n) := h0.1
      have dep : depC 5 76 (agD D x n) s := by
        obtain ⟨a1, a2, a3, a4, a5, a6⟩ := hs.2.2.2
        refine ⟨a1, a2, a3, a4, ⟨by show agN D n ≤ 8; omega, fun i hi => ⟨?_, ?_⟩⟩, ev⟩
        · obtain ⟨q, hq, e⟩ := lot_of (lcg (sdP x i)) 2 (by decide) (by decide)
          have e : agF x (nI D.1.1) i 0 = nI q := e
          show agF x (nI D.1.1) i 0 = 0 ∨ agF x (nI D.1.1) i 0 = 1
          rw [e]
          rcases (show q = 0 ∨ q = 1 by omega) with rfl | rfl
          · exact Or.inl rfl
          · exact Or.inr rfl
        · have hD : 0 < D.1.1 := by
            have hi : i < agN D n := hi
            unfold agN at hi
            split at hi
            · omega
            · omega
          obtain ⟨q, hq, e⟩ := lot_of (lcg (lcg (lcg (sdP x i)))) D.1.1 hD (by omega)
          exact ⟨q, by omega, e⟩
      refine m_aload_n dX9_playAges_87 2 rfl ?_
      refine m_getR 6 80 dX9_playAges_88 fl_X9_28_8 rfl (by decide) rfl (by first | assumption | rfl) ?_
      refine m_aload_n dX9_playAges_91 2 rfl ?_
      refine m_getR 0 5 dX9_playAges_92 fl_X9_41_8 rfl (by decide) rfl (by first | assumption | rfl) ?_
      refine m_aload_n dX9_playAges_95 2 rfl ?_
      refine m_getR 1 15 dX9_playAges_96 fl_X9_44_8 rfl (by decide) rfl (by first | assumption | rfl) ?_
      refine m_aload_n dX9_playAges_99 2 rfl ?_
      refine m_getR 5 76 dX9_playAges_100 fl_X9_21_8 rfl (by decide) rfl (by first | assumption | rfl) ?_
      refine m_iconst (v := 0) dX9_playAges_103 (by decide) ?_
      refine m_callV (As := [_, _, _, _]) dX9_playAges_104 cv_X9_70 (by first | assumption | rfl) (by decide) (by omega) rfl rfl (Nat.le_of_ble_eq_true rfl) (c_play (d := d - 1) (by omega) (Or.inr rfl) (Or.inl rfl) (Or.inr rfl) (agD D x n) wfA dep 0 h0.2.1) (fun v1 σ1 hv1 => ?_)
      refine m_qVP hv1 (fun hq => ?_)
      clear hv1 v1
      exact m_return dX9_playAges_107 ⟨rfl, hq.1, f.tr (hq.2.mono (fun y z h => by omega))⟩
    show mW G l d kX9_playAges 13 [(4, .int (nI (agN D n))), (3, .int y), (0, .ref 65), (1, .int x), (2, .int (nI n))] [] s _
    refine m_iload dX9_playAges_13 0 rfl ?_
    refine m_iload_n dX9_playAges_15 4 rfl ?_
    refine m_icmp_ge dX9_playAges_16 87 (by decide) (fun z1 => ?_) (fun z1 => ?_)
    · exact fin
    refine m_aload_n dX9_playAges_19 2 rfl ?_
    refine m_getR 0 5 dX9_playAges_20 fl_X9_41_8 rfl (by decide) rfl (by first | assumption | rfl) ?_
    refine m_getI 3 dX9_playAges_23 fl_X9_59_0 rfl (by decide) (by first | assumption | rfl) ?_
    refine mW.top hs.2.2.2.1 ?_
    refine m_if_le dX9_playAges_26 87 (by decide) (fun z2 => ?_) (fun z2 => ?_)
    · exact fin
    · exfalso
      have q1 : ¬ n ≤ agN D n := fun q => z1 ((nle (by omega) (by omega)).mpr q)
      have q2 : ¬ D.1.1 ≤ 0 := fun q => z2 ((nle (b := 0) (by omega) (by omega)).mpr q)
      apply q1
      unfold agN
      rw [if_neg (by omega)]
      exact Nat.le_refl _
  · rintro i ⟨s, y⟩ hi ⟨hy, ev, f⟩ ih
    have hy : y = sdP x i := hy
    have f : fW (wTr D.2.1.1) σ s := f
    have ev : evrow 76 i (agF x (nI D.1.1)) s := ev
    have hs := h0.tr f
    have hD : 0 < D.1.1 := by
      unfold agN at hi
      split at hi
      · omega
      · omega
    show mW G l d kX9_playAges 13 [(4, .int (nI i)), (3, .int y), (0, .ref 65), (1, .int x), (2, .int (nI n))] [] s _
    refine m_iload dX9_playAges_13 0 rfl ?_
    refine m_iload_n dX9_playAges_15 4 rfl ?_
    refine m_icmp_ge dX9_playAges_16 87 (by decide) (fun z1 => ?_) (fun z1 => ?_)
    · exact absurd ((nle (by omega) (by omega)).mp z1) (by omega)
    clear z1
    refine m_aload_n dX9_playAges_19 2 rfl ?_
    refine m_getR 0 5 dX9_playAges_20 fl_X9_41_8 rfl (by decide) rfl (by first | assumption | rfl) ?_
    refine m_getI 3 dX9_playAges_23 fl_X9_59_0 rfl (by decide) (by first | assumption | rfl) ?_
    refine mW.top hs.2.2.2.1 ?_
    refine m_if_le dX9_playAges_26 87 (by decide) (fun z2 => ?_) (fun z2 => ?_)
    · exact absurd ((nle (b := 0) (by omega) (by omega)).mp z2) (by omega)
    clear z2
    refine m_iload_n dX9_playAges_29 1 rfl ?_
    refine m_callS (As := [_]) dX9_playAges_30 cs_X9_137 (by omega) rfl rfl (Nat.le_of_ble_eq_true rfl) (c_nextSeed (d := d - 1) _) (fun v1 σ1 hv1 => ?_)
    refine m_qI hv1 ?_
    clear hv1 v1 σ1
    refine m_istore_n (ls1 := [(3, _), (4, _), (0, _), (1, _), (2, _)]) dX9_playAges_33 (by decide) rfl ?_
    refine m_iload_n dX9_playAges_34 0 rfl ?_
    refine m_iconst (v := 2) dX9_playAges_35 (by decide) ?_
    refine m_callS (As := [_, _]) dX9_playAges_36 cs_X9_140 (by omega) rfl rfl (Nat.le_of_ble_eq_true rfl) (c_lot (d := d - 1) _ 2 (by decide) (by decide)) (fun v1 σ1 hv1 => ?_)
    refine m_qI hv1 ?_
    clear hv1 v1 σ1
    refine m_istore (ls1 := [(5, _), (3, _), (4, _), (0, _), (1, _), (2, _)]) dX9_playAges_39 (by decide) rfl ?_
    refine m_iload_n dX9_playAges_41 1 rfl ?_
    refine m_callS (As := [_]) dX9_playAges_42 cs_X9_137 (by omega) rfl rfl (Nat.le_of_ble_eq_true rfl) (c_nextSeed (d := d - 1) _) (fun v1 σ1 hv1 => ?_)
    refine m_qI hv1 ?_
    clear hv1 v1 σ1
    refine m_istore_n (ls1 := [(3, _), (5, _), (4, _), (0, _), (1, _), (2, _)]) dX9_playAges_45 (by decide) rfl ?_
    refine m_iload_n dX9_playAges_46 0 rfl ?_
    refine m_bipush (v := 24) dX9_playAges_47 (by decide) ?_
    refine m_callS (As := [_, _]) dX9_playAges_49 cs_X9_140 (by omega) rfl rfl (Nat.le_of_ble_eq_true rfl) (c_lot (d := d - 1) _ 24 (by decide) (by decide)) (fun v1 σ1 hv1 => ?_)
    refine m_qI hv1 ?_
    clear hv1 v1 σ1
    refine m_istore (ls1 := [(6, _), (3, _), (5, _), (4, _), (0, _), (1, _), (2, _)]) dX9_playAges_52 (by decide) rfl ?_
    refine m_iload_n dX9_playAges_54 1 rfl ?_
    refine m_callS (As := [_]) dX9_playAges_55 cs_X9_137 (by omega) rfl rfl (Nat.le_of_ble_eq_true rfl) (c_nextSeed (d := d - 1) _) (fun v1 σ1 hv1 => ?_)
    refine m_qI hv1 ?_
    clear hv1 v1 σ1
    refine m_istore_n (ls1 := [(3, _), (6, _), (5, _), (4, _), (0, _), (1, _), (2, _)]) dX9_playAges_58 (by decide) rfl ?_
    refine m_aload_n dX9_playAges_59 4 rfl ?_
    refine m_getR 5 76 dX9_playAges_60 fl_X9_21_8 rfl (by decide) rfl (by first | assumption | rfl) ?_
    refine m_iload dX9_playAges_63 2 rfl ?_
    refine m_iload dX9_playAges_65 1 rfl ?_
    refine m_iload_n dX9_playAges_67 0 rfl ?_
    refine m_aload_n dX9_playAges_68 4 rfl ?_
    refine m_getR 0 5 dX9_playAges_69 fl_X9_41_8 rfl (by decide) rfl (by first | assumption | rfl) ?_
    refine m_getI 3 dX9_playAges_72 fl_X9_59_0 rfl (by decide) (by first | assumption | rfl) ?_
    refine mW.top hs.2.2.2.1 ?_
    refine m_callS (As := [_, _]) dX9_playAges_75 cs_X9_140 (by omega) rfl rfl (Nat.le_of_ble_eq_true rfl) (c_lot (d := d - 1) _ D.1.1 hD (by omega)) (fun v1 σ1 hv1 => ?_)
    refine m_qI hv1 ?_
    clear hv1 v1 σ1
    refine m_callV (As := [_, _, _]) dX9_playAges_78 cv_X9_143 (by first | assumption | rfl) (by decide) (by omega) rfl rfl (Nat.le_of_ble_eq_true rfl) (c_evAppend (d := d - 1) (Or.inr rfl) i (by omega) ev.1 _ _ _) (fun v1 σ1 hv1 => ?_)
    refine m_qV hv1 ?_
    clear hv1 v1 σ1
    refine m_iinc (v := nI (i + 1)) (ls1 := [(4, _), (3, _), (6, _), (5, _), (0, _), (1, _), (2, _)]) dX9_playAges_81 3 rfl (nI_1 i) (by decide) rfl ?_
    refine m_goto dX9_playAges_84 13 (by decide) ?_
    refine mW.sub (ls1 := [(4, _), (3, _), (0, _), (1, _), (2, _)]) [0, 1, 4, 5, 6] rfl ?_
    refine ih (_, _) ⟨?_, ⟨?_, fun a ha => ?_⟩, fW.us (by omega) (fW.us (by omega) (fW.us (by omega) (fW.us (by omega) f)))⟩
    · show _ = sdP x (i + 1)
      rw [sdP, ← hy]
      rfl
    · show (us _ 76 3 (nI (i + 1))).1 76 3 = _
      rw [us_at, if_pos ⟨rfl, rfl⟩]
    · show (us _ 76 3 (nI (i + 1))).1 (76 + 1) a = _ ∧ (us _ 76 3 (nI (i + 1))).1 (76 + 2) a = _ ∧ (us _ 76 3 (nI (i + 1))).1 (76 + 3) a = _
      rcases Nat.lt_succ_iff_lt_or_eq.mp ha with h | rfl
      · refine ⟨?_, ?_, ?_⟩
        · rw [us_at, if_neg (by omega), us_at, if_neg (by omega), us_at, if_neg (by omega), us_at, if_neg (by omega)]; exact (ev.2 a h).1
        · rw [us_at, if_neg (by omega), us_at, if_neg (by omega), us_at, if_neg (by omega), us_at, if_neg (by omega)]; exact (ev.2 a h).2.1
        · rw [us_at, if_neg (by omega), us_at, if_neg (by omega), us_at, if_neg (by omega), us_at, if_neg (by omega)]; exact (ev.2 a h).2.2
      · refine ⟨?_, ?_, ?_⟩
        · rw [us_at, if_neg (by omega), us_at, if_neg (by omega), us_at, if_neg (by omega), us_at, if_pos ⟨rfl, rfl⟩, hy]; rfl
        · rw [us_at, if_neg (by omega), us_at, if_neg (by omega), us_at, if_pos ⟨rfl, rfl⟩, hy]; rfl
        · rw [us_at, if_neg (by omega), us_at, if_pos ⟨rfl, rfl⟩, hy]; rfl
end LK


/-! ===== the reference reads its texts ===== -/
section RT
variable {G : mG} {l : Launch} {d : Nat} {σ : mS}
/-- the bytes of text t -/
abbrev tx (σ : mS) (t : Nat) : Nat → Int32 := fun i => σ.1 113 (47 * t + i)
theorem dX11_byteAt_0 : decode cX11_byteAt 0 = .ok (.iload_n 2, 1) := by decide +kernel
theorem dX11_byteAt_1 : decode cX11_byteAt 1 = .ok (.aload_n 0, 1) := by decide +kernel
theorem dX11_byteAt_2 : decode cX11_byteAt 2 = .ok (.getfield 7, 3) := by decide +kernel
theorem dX11_byteAt_5 : decode cX11_byteAt 5 = .ok (.iload_n 1, 1) := by decide +kernel
theorem dX11_byteAt_6 : decode cX11_byteAt 6 = .ok (.iaload, 1) := by decide +kernel
theorem dX11_byteAt_7 : decode cX11_byteAt 7 = .ok (.if_icmp .ge 17, 3) := by decide +kernel
theorem dX11_byteAt_10 : decode cX11_byteAt 10 = .ok (.aload_n 0, 1) := by decide +kernel
theorem dX11_byteAt_11 : decode cX11_byteAt 11 = .ok (.getfield 13, 3) := by decide +kernel
theorem dX11_byteAt_14 : decode cX11_byteAt 14 = .ok (.bipush 47, 2) := by decide +kernel
theorem dX11_byteAt_16 : decode cX11_byteAt 16 = .ok (.iload_n 1, 1) := by decide +kernel
theorem dX11_byteAt_17 : decode cX11_byteAt 17 = .ok (.imul, 1) := by decide +kernel
theorem dX11_byteAt_18 : decode cX11_byteAt 18 = .ok (.iload_n 2, 1) := by decide +kernel
theorem dX11_byteAt_19 : decode cX11_byteAt 19 = .ok (.iadd, 1) := by decide +kernel
theorem dX11_byteAt_20 : decode cX11_byteAt 20 = .ok (.iaload, 1) := by decide +kernel
theorem dX11_byteAt_21 : decode cX11_byteAt 21 = .ok (.goto 4, 3) := by decide +kernel
theorem dX11_byteAt_24 : decode cX11_byteAt 24 = .ok (.iconst (-1), 1) := by decide +kernel
theorem dX11_byteAt_25 : decode cX11_byteAt 25 = .ok (.ireturn, 1) := by decide +kernel
theorem dX11_isTold_0 : decode cX11_isTold 0 = .ok (.iconst 0, 1) := by decide +kernel
theorem dX11_isTold_1 : decode cX11_isTold 1 = .ok (.istore 4, 2) := by decide +kernel
theorem dX11_isTold_3 : decode cX11_isTold 3 = .ok (.iconst 0, 1) := by decide +kernel
theorem dX11_isTold_4 : decode cX11_isTold 4 = .ok (.istore 5, 2) := by decide +kernel
theorem dX11_isTold_6 : decode cX11_isTold 6 = .ok (.iload 5, 2) := by decide +kernel
theorem dX11_isTold_8 : decode cX11_isTold 8 = .ok (.iload_n 1, 1) := by decide +kernel
theorem dX11_isTold_9 : decode cX11_isTold 9 = .ok (.if_icmp .ge 43, 3) := by decide +kernel
theorem dX11_isTold_12 : decode cX11_isTold 12 = .ok (.iload 4, 2) := by decide +kernel
theorem dX11_isTold_14 : decode cX11_isTold 14 = .ok (.ifCond .ne 25, 3) := by decide +kernel
theorem dX11_isTold_17 : decode cX11_isTold 17 = .ok (.aload_n 0, 1) := by decide +kernel
theorem dX11_isTold_18 : decode cX11_isTold 18 = .ok (.getfield 19, 3) := by decide +kernel
theorem dX11_isTold_21 : decode cX11_isTold 21 = .ok (.iload 5, 2) := by decide +kernel
theorem dX11_isTold_23 : decode cX11_isTold 23 = .ok (.iaload, 1) := by decide +kernel
theorem dX11_isTold_24 : decode cX11_isTold 24 = .ok (.iload_n 2, 1) := by decide +kernel
theorem dX11_isTold_25 : decode cX11_isTold 25 = .ok (.if_icmp .ne 18, 3) := by decide +kernel
theorem dX11_isTold_28 : decode cX11_isTold 28 = .ok (.aload_n 0, 1) := by decide +kernel
theorem dX11_isTold_29 : decode cX11_isTold 29 = .ok (.getfield 22, 3) := by decide +kernel
theorem dX11_isTold_32 : decode cX11_isTold 32 = .ok (.iload 5, 2) := by decide +kernel
theorem dX11_isTold_34 : decode cX11_isTold 34 = .ok (.iaload, 1) := by decide +kernel
theorem dX11_isTold_35 : decode cX11_isTold 35 = .ok (.iload_n 3, 1) := by decide +kernel
theorem dX11_isTold_36 : decode cX11_isTold 36 = .ok (.if_icmp .ne 7, 3) := by decide +kernel
theorem dX11_isTold_39 : decode cX11_isTold 39 = .ok (.iconst 1, 1) := by decide +kernel
theorem dX11_isTold_40 : decode cX11_isTold 40 = .ok (.goto 4, 3) := by decide +kernel
theorem dX11_isTold_43 : decode cX11_isTold 43 = .ok (.iconst 0, 1) := by decide +kernel
theorem dX11_isTold_44 : decode cX11_isTold 44 = .ok (.istore 4, 2) := by decide +kernel
theorem dX11_isTold_46 : decode cX11_isTold 46 = .ok (.iinc 5 1, 3) := by decide +kernel
theorem dX11_isTold_49 : decode cX11_isTold 49 = .ok (.goto (-43), 3) := by decide +kernel
theorem dX11_isTold_52 : decode cX11_isTold 52 = .ok (.iload 4, 2) := by decide +kernel
theorem dX11_isTold_54 : decode cX11_isTold 54 = .ok (.ireturn, 1) := by decide +kernel
theorem dX11_readsCar_0 : decode cX11_readsCar 0 = .ok (.aload_n 0, 1) := by decide +kernel
theorem dX11_readsCar_1 : decode cX11_readsCar 1 = .ok (.iconst 0, 1) := by decide +kernel
theorem dX11_readsCar_2 : decode cX11_readsCar 2 = .ok (.iload_n 2, 1) := by decide +kernel
theorem dX11_readsCar_3 : decode cX11_readsCar 3 = .ok (.invokevirtual 144, 3) := by decide +kernel
theorem dX11_readsCar_6 : decode cX11_readsCar 6 = .ok (.invokestatic 148, 3) := by decide +kernel
theorem dX11_readsCar_9 : decode cX11_readsCar 9 = .ok (.istore_n 3, 1) := by decide +kernel
theorem dX11_readsCar_10 : decode cX11_readsCar 10 = .ok (.aload_n 0, 1) := by decide +kernel
theorem dX11_readsCar_11 : decode cX11_readsCar 11 = .ok (.iconst 0, 1) := by decide +kernel
theorem dX11_readsCar_12 : decode cX11_readsCar 12 = .ok (.iload_n 2, 1) := by decide +kernel
theorem dX11_readsCar_13 : decode cX11_readsCar 13 = .ok (.iconst 1, 1) := by decide +kernel
theorem dX11_readsCar_14 : decode cX11_readsCar 14 = .ok (.iadd, 1) := by decide +kernel
theorem dX11_readsCar_15 : decode cX11_readsCar 15 = .ok (.invokevirtual 144, 3) := by decide +kernel
theorem dX11_readsCar_18 : decode cX11_readsCar 18 = .ok (.bipush 48, 2) := by decide +kernel
theorem dX11_readsCar_20 : decode cX11_readsCar 20 = .ok (.isub, 1) := by decide +kernel
theorem dX11_readsCar_21 : decode cX11_readsCar 21 = .ok (.istore 4, 2) := by decide +kernel
theorem dX11_readsCar_23 : decode cX11_readsCar 23 = .ok (.aload_n 0, 1) := by decide +kernel
theorem dX11_readsCar_24 : decode cX11_readsCar 24 = .ok (.iconst 0, 1) := by decide +kernel
theorem dX11_readsCar_25 : decode cX11_readsCar 25 = .ok (.iload_n 2, 1) := by decide +kernel
theorem dX11_readsCar_26 : decode cX11_readsCar 26 = .ok (.iconst 2, 1) := by decide +kernel
theorem dX11_readsCar_27 : decode cX11_readsCar 27 = .ok (.iadd, 1) := by decide +kernel
theorem dX11_readsCar_28 : decode cX11_readsCar 28 = .ok (.invokevirtual 144, 3) := by decide +kernel
theorem dX11_readsCar_31 : decode cX11_readsCar 31 = .ok (.bipush 48, 2) := by decide +kernel
theorem dX11_readsCar_33 : decode cX11_readsCar 33 = .ok (.isub, 1) := by decide +kernel
theorem dX11_readsCar_34 : decode cX11_readsCar 34 = .ok (.istore 5, 2) := by decide +kernel
theorem dX11_readsCar_36 : decode cX11_readsCar 36 = .ok (.aload_n 0, 1) := by decide +kernel
theorem dX11_readsCar_37 : decode cX11_readsCar 37 = .ok (.iconst 0, 1) := by decide +kernel
theorem dX11_readsCar_38 : decode cX11_readsCar 38 = .ok (.iload_n 2, 1) := by decide +kernel
theorem dX11_readsCar_39 : decode cX11_readsCar 39 = .ok (.iconst 3, 1) := by decide +kernel
theorem dX11_readsCar_40 : decode cX11_readsCar 40 = .ok (.iadd, 1) := by decide +kernel
theorem dX11_readsCar_41 : decode cX11_readsCar 41 = .ok (.invokevirtual 144, 3) := by decide +kernel
theorem dX11_readsCar_44 : decode cX11_readsCar 44 = .ok (.invokestatic 152, 3) := by decide +kernel
theorem dX11_readsCar_47 : decode cX11_readsCar 47 = .ok (.istore 6, 2) := by decide +kernel
theorem dX11_readsCar_49 : decode cX11_readsCar 49 = .ok (.aload_n 0, 1) := by decide +kernel
theorem dX11_readsCar_50 : decode cX11_readsCar 50 = .ok (.iconst 0, 1) := by decide +kernel
theorem dX11_readsCar_51 : decode cX11_readsCar 51 = .ok (.iload_n 2, 1) := by decide +kernel
theorem dX11_readsCar_52 : decode cX11_readsCar 52 = .ok (.iconst 4, 1) := by decide +kernel
theorem dX11_readsCar_53 : decode cX11_readsCar 53 = .ok (.iadd, 1) := by decide +kernel
theorem dX11_readsCar_54 : decode cX11_readsCar 54 = .ok (.invokevirtual 144, 3) := by decide +kernel
theorem dX11_readsCar_57 : decode cX11_readsCar 57 = .ok (.bipush 48, 2) := by decide +kernel
theorem dX11_readsCar_59 : decode cX11_readsCar 59 = .ok (.isub, 1) := by decide +kernel
theorem dX11_readsCar_60 : decode cX11_readsCar 60 = .ok (.istore 7, 2) := by decide +kernel
theorem dX11_readsCar_62 : decode cX11_readsCar 62 = .ok (.iload_n 1, 1) := by decide +kernel
theorem dX11_readsCar_63 : decode cX11_readsCar 63 = .ok (.bipush 8, 2) := by decide +kernel
theorem dX11_readsCar_65 : decode cX11_readsCar 65 = .ok (.if_icmp .eq 8, 3) := by decide +kernel
theorem dX11_readsCar_68 : decode cX11_readsCar 68 = .ok (.iload_n 3, 1) := by decide +kernel
theorem dX11_readsCar_69 : decode cX11_readsCar 69 = .ok (.iconst (-1), 1) := by decide +kernel
theorem dX11_readsCar_70 : decode cX11_readsCar 70 = .ok (.if_icmp .ne 5, 3) := by decide +kernel
theorem dX11_readsCar_73 : decode cX11_readsCar 73 = .ok (.iconst 0, 1) := by decide +kernel
theorem dX11_readsCar_74 : decode cX11_readsCar 74 = .ok (.ireturn, 1) := by decide +kernel
theorem dX11_readsCar_75 : decode cX11_readsCar 75 = .ok (.iload 4, 2) := by decide +kernel
theorem dX11_readsCar_77 : decode cX11_readsCar 77 = .ok (.invokestatic 155, 3) := by decide +kernel
theorem dX11_readsCar_80 : decode cX11_readsCar 80 = .ok (.ifCond .ne 5, 3) := by decide +kernel
theorem dX11_readsCar_83 : decode cX11_readsCar 83 = .ok (.iconst 1, 1) := by decide +kernel
theorem dX11_readsCar_84 : decode cX11_readsCar 84 = .ok (.ireturn, 1) := by decide +kernel
theorem dX11_readsCar_85 : decode cX11_readsCar 85 = .ok (.iload 5, 2) := by decide +kernel
theorem dX11_readsCar_87 : decode cX11_readsCar 87 = .ok (.invokestatic 155, 3) := by decide +kernel
theorem dX11_readsCar_90 : decode cX11_readsCar 90 = .ok (.ifCond .eq 15, 3) := by decide +kernel
theorem dX11_readsCar_93 : decode cX11_readsCar 93 = .ok (.aload_n 0, 1) := by decide +kernel
theorem dX11_readsCar_94 : decode cX11_readsCar 94 = .ok (.iload_n 1, 1) := by decide +kernel
theorem dX11_readsCar_95 : decode cX11_readsCar 95 = .ok (.iload 4, 2) := by decide +kernel
theorem dX11_readsCar_97 : decode cX11_readsCar 97 = .ok (.iload 5, 2) := by decide +kernel
theorem dX11_readsCar_99 : decode cX11_readsCar 99 = .ok (.invokevirtual 158, 3) := by decide +kernel
theorem dX11_readsCar_102 : decode cX11_readsCar 102 = .ok (.ifCond .eq 5, 3) := by decide +kernel
theorem dX11_readsCar_105 : decode cX11_readsCar 105 = .ok (.iconst 2, 1) := by decide +kernel
theorem dX11_readsCar_106 : decode cX11_readsCar 106 = .ok (.ireturn, 1) := by decide +kernel
theorem dX11_readsCar_107 : decode cX11_readsCar 107 = .ok (.iload 6, 2) := by decide +kernel
theorem dX11_readsCar_109 : decode cX11_readsCar 109 = .ok (.iconst (-1), 1) := by decide +kernel
theorem dX11_readsCar_110 : decode cX11_readsCar 110 = .ok (.if_icmp .ne 5, 3) := by decide +kernel
theorem dX11_readsCar_113 : decode cX11_readsCar 113 = .ok (.iconst 3, 1) := by decide +kernel
theorem dX11_readsCar_114 : decode cX11_readsCar 114 = .ok (.ireturn, 1) := by decide +kernel
theorem dX11_readsCar_115 : decode cX11_readsCar 115 = .ok (.iload 7, 2) := by decide +kernel
theorem dX11_readsCar_117 : decode cX11_readsCar 117 = .ok (.iconst 1, 1) := by decide +kernel
theorem dX11_readsCar_118 : decode cX11_readsCar 118 = .ok (.bipush 9, 2) := by decide +kernel
theorem dX11_readsCar_120 : decode cX11_readsCar 120 = .ok (.invokestatic 136, 3) := by decide +kernel
theorem dX11_readsCar_123 : decode cX11_readsCar 123 = .ok (.ifCond .ne 5, 3) := by decide +kernel
theorem dX11_readsCar_126 : decode cX11_readsCar 126 = .ok (.iconst 4, 1) := by decide +kernel
theorem dX11_readsCar_127 : decode cX11_readsCar 127 = .ok (.ireturn, 1) := by decide +kernel
theorem dX11_readsCar_128 : decode cX11_readsCar 128 = .ok (.aload_n 0, 1) := by decide +kernel
theorem dX11_readsCar_129 : decode cX11_readsCar 129 = .ok (.getfield 16, 3) := by decide +kernel
theorem dX11_readsCar_132 : decode cX11_readsCar 132 = .ok (.iload_n 1, 1) := by decide +kernel
theorem dX11_readsCar_133 : decode cX11_readsCar 133 = .ok (.iload_n 3, 1) := by decide +kernel
theorem dX11_readsCar_134 : decode cX11_readsCar 134 = .ok (.iastore, 1) := by decide +kernel
theorem dX11_readsCar_135 : decode cX11_readsCar 135 = .ok (.aload_n 0, 1) := by decide +kernel
theorem dX11_readsCar_136 : decode cX11_readsCar 136 = .ok (.getfield 19, 3) := by decide +kernel
theorem dX11_readsCar_139 : decode cX11_readsCar 139 = .ok (.iload_n 1, 1) := by decide +kernel
theorem dX11_readsCar_140 : decode cX11_readsCar 140 = .ok (.iload 4, 2) := by decide +kernel
theorem dX11_readsCar_142 : decode cX11_readsCar 142 = .ok (.iastore, 1) := by decide +kernel
theorem dX11_readsCar_143 : decode cX11_readsCar 143 = .ok (.aload_n 0, 1) := by decide +kernel
theorem dX11_readsCar_144 : decode cX11_readsCar 144 = .ok (.getfield 22, 3) := by decide +kernel
theorem dX11_readsCar_147 : decode cX11_readsCar 147 = .ok (.iload_n 1, 1) := by decide +kernel
theorem dX11_readsCar_148 : decode cX11_readsCar 148 = .ok (.iload 5, 2) := by decide +kernel
theorem dX11_readsCar_150 : decode cX11_readsCar 150 = .ok (.iastore, 1) := by decide +kernel
theorem dX11_readsCar_151 : decode cX11_readsCar 151 = .ok (.aload_n 0, 1) := by decide +kernel
theorem dX11_readsCar_152 : decode cX11_readsCar 152 = .ok (.getfield 25, 3) := by decide +kernel
theorem dX11_readsCar_155 : decode cX11_readsCar 155 = .ok (.iload_n 1, 1) := by decide +kernel
theorem dX11_readsCar_156 : decode cX11_readsCar 156 = .ok (.iload 6, 2) := by decide +kernel
theorem dX11_readsCar_158 : decode cX11_readsCar 158 = .ok (.iastore, 1) := by decide +kernel
theorem dX11_readsCar_159 : decode cX11_readsCar 159 = .ok (.aload_n 0, 1) := by decide +kernel
theorem dX11_readsCar_160 : decode cX11_readsCar 160 = .ok (.getfield 28, 3) := by decide +kernel
theorem dX11_readsCar_163 : decode cX11_readsCar 163 = .ok (.iload_n 1, 1) := by decide +kernel
theorem dX11_readsCar_164 : decode cX11_readsCar 164 = .ok (.iload 7, 2) := by decide +kernel
theorem dX11_readsCar_166 : decode cX11_readsCar 166 = .ok (.iastore, 1) := by decide +kernel
theorem dX11_readsCar_167 : decode cX11_readsCar 167 = .ok (.iconst 5, 1) := by decide +kernel
theorem dX11_readsCar_168 : decode cX11_readsCar 168 = .ok (.ireturn, 1) := by decide +kernel
theorem c_byteAt (t L k : Nat) (ht : t ≤ 1) (hL : σ.1 112 t = nI L) (hL47 : L ≤ 47) (hk : k < 1000) : mMet G l d kX11_byteAt [.ref 111, .int (nI t), .int (nI k)] σ (qI (btE L (tx σ t) k) σ) := by
  refine mMet.of cm_X11_byteAt rfl (Nat.le_of_ble_eq_true rfl) rfl (fun v1 σ1 h => by rw [h.1]; rfl) ?_
  refine m_iload_n dX11_byteAt_0 2 rfl ?_
  refine m_aload_n dX11_byteAt_1 0 rfl ?_
  refine m_getR 0 112 dX11_byteAt_2 fl_X11_7_10 rfl (by decide) rfl (by first | assumption | rfl) ?_
  refine m_iload_n dX11_byteAt_5 1 rfl ?_
  refine m_iald dX11_byteAt_6 (by first | assumption | rfl) t rfl (by first | assumption | omega | decide) ?_
  refine mW.top hL ?_
  refine m_icmp_ge dX11_byteAt_7 24 (by decide) (fun h => ?_) (fun h => ?_)
  · refine m_iconst (v := -1) dX11_byteAt_24 (by decide) ?_
    refine m_ireturn dX11_byteAt_25 ?_
    exact qI_of (by unfold btE; rw [if_neg (Nat.not_lt.mpr ((nle (by omega) (by omega)).mp h))])
  · have hk2 : k < L := Nat.lt_of_not_le (fun q => h ((nle (by omega) (by omega)).mpr q))
    refine m_aload_n dX11_byteAt_10 0 rfl ?_
    refine m_getR 1 113 dX11_byteAt_11 fl_X11_13_10 rfl (by decide) rfl (by first | assumption | rfl) ?_
    refine m_bipush (v := 47) dX11_byteAt_14 (by decide) ?_
    refine m_iload_n dX11_byteAt_16 1 rfl ?_
    refine m_imul dX11_byteAt_17 ?_
    refine m_iload_n dX11_byteAt_18 2 rfl ?_
    refine m_iadd dX11_byteAt_19 ?_
    refine mW.top (w := nI (47 * t + k)) (by rw [show (47 : Int32) = nI 47 from rfl, pk_mul, nI_add]) ?_
    refine m_iald dX11_byteAt_20 (by first | assumption | rfl) (47 * t + k) rfl (by first | assumption | omega | decide) ?_
    refine m_goto dX11_byteAt_21 25 (by decide) ?_
    refine m_ireturn dX11_byteAt_25 ?_
    exact qI_of (by unfold btE; rw [if_pos hk2])
theorem c_sortOf (b : Int32) : mMet G l d kX11_sortOf [.int b] σ (qI (sortB b) σ) := by
  refine mMet.of cm_X11_sortOf rfl (Nat.le_of_ble_eq_true rfl) rfl (fun v1 σ1 h => by rw [h.1]; rfl) ?_
  refine m_iload_n dX11_sortOf_0 0 rfl ?_
  refine m_bipush (v := 98) dX11_sortOf_1 (by decide) ?_
  refine m_sel (pcJ := 31) ?_ (fun kt0 kf0 => m_icmp_ne dX11_sortOf_3 10 (by decide) (fun h => (m_iload_n dX11_sortOf_10 0 rfl (m_bipush (v := 109) dX11_sortOf_11 (by decide) (m_sel (pcJ := 31) (kf0 h) (fun kt1 kf1 => m_icmp_ne dX11_sortOf_13 20 (by decide) (fun h => (m_iload_n dX11_sortOf_20 0 rfl (m_bipush (v := 104) dX11_sortOf_21 (by decide) (m_sel (pcJ := 31) (kf1 h) (fun kt2 kf2 => m_icmp_ne dX11_sortOf_23 30 (by decide) (fun h => (m_iconst (v := -1) dX11_sortOf_30 (by decide) (kf2 h))) (fun h => (m_iconst (v := 2) dX11_sortOf_26 (by decide) (m_goto dX11_sortOf_27 31 (by decide) (kt2 h))))))))) (fun h => (m_iconst (v := 1) dX11_sortOf_16 (by decide) (m_goto dX11_sortOf_17 31 (by decide) (kt1 h))))))))) (fun h => (m_iconst (v := 0) dX11_sortOf_6 (by decide) (m_goto dX11_sortOf_7 31 (by decide) (kt0 h)))))
  refine m_ireturn dX11_sortOf_31 ?_
  exact ⟨rfl, rfl⟩
theorem c_wayOf (b : Int32) : mMet G l d kX11_wayOf [.int b] σ (qI (wayB b) σ) := by
  refine mMet.of cm_X11_wayOf rfl (Nat.le_of_ble_eq_true rfl) rfl (fun v1 σ1 h => by rw [h.1]; rfl) ?_
  refine m_iload_n dX11_wayOf_0 0 rfl ?_
  refine m_bipush (v := 101) dX11_wayOf_1 (by decide) ?_
  refine m_sel (pcJ := 41) ?_ (fun kt0 kf0 => m_icmp_ne dX11_wayOf_3 10 (by decide) (fun h => (m_iload_n dX11_wayOf_10 0 rfl (m_bipush (v := 110) dX11_wayOf_11 (by decide) (m_sel (pcJ := 41) (kf0 h) (fun kt1 kf1 => m_icmp_ne dX11_wayOf_13 20 (by decide) (fun h => (m_iload_n dX11_wayOf_20 0 rfl (m_bipush (v := 119) dX11_wayOf_21 (by decide) (m_sel (pcJ := 41) (kf1 h) (fun kt2 kf2 => m_icmp_ne dX11_wayOf_23 30 (by decide) (fun h => (m_iload_n dX11_wayOf_30 0 rfl (m_bipush (v := 115) dX11_wayOf_31 (by decide) (m_sel (pcJ := 41) (kf2 h) (fun kt3 kf3 => m_icmp_ne dX11_wayOf_33 40 (by decide) (fun h => (m_iconst (v := -1) dX11_wayOf_40 (by decide) (kf3 h))) (fun h => (m_iconst (v := 3) dX11_wayOf_36 (by decide) (m_goto dX11_wayOf_37 41 (by decide) (kt3 h))))))))) (fun h => (m_iconst (v := 2) dX11_wayOf_26 (by decide) (m_goto dX11_wayOf_27 41 (by decide) (kt2 h))))))))) (fun h => (m_iconst (v := 1) dX11_wayOf_16 (by decide) (m_goto dX11_wayOf_17 41 (by decide) (kt1 h))))))))) (fun h => (m_iconst (v := 0) dX11_wayOf_6 (by decide) (m_goto dX11_wayOf_7 41 (by decide) (kt0 h)))))
  refine m_ireturn dX11_wayOf_41 ?_
  exact ⟨rfl, rfl⟩
theorem c_isTold (n : Nat) (hn : n ≤ 8) (x y : Int32) : mMet G l d kX11_isTold [.ref 111, .int (nI n), .int x, .int y] σ (qI (bI (takB (σ.1 115) (σ.1 116) x y n)) σ) := by
  refine mMet.of cm_X11_isTold rfl (Nat.le_of_ble_eq_true rfl) rfl (fun v1 σ1 h => by rw [h.1]; exact bI_nar _) ?_
  refine m_iconst (v := 0) dX11_isTold_0 (by decide) ?_
  refine m_istore (ls1 := [(4, _), (0, _), (1, _), (2, _), (3, _)]) dX11_isTold_1 (by decide) rfl ?_
  refine m_iconst (v := 0) dX11_isTold_3 (by decide) ?_
  refine m_istore (ls1 := [(5, _), (4, _), (0, _), (1, _), (2, _), (3, _)]) dX11_isTold_4 (by decide) rfl ?_
  refine down (N := n) (fun k (f : Int32) => f = bI (takB (σ.1 115) (σ.1 116) x y k)) (fun k f => mW G l d kX11_isTold 6 [(5, .int (nI k)), (4, .int f), (0, .ref 111), (1, .int (nI n)), (2, .int x), (3, .int y)] [] σ _) ?_ ?_ 0 0 (Nat.zero_le _) rfl
  · intro f hf
    refine m_iload dX11_isTold_6 0 rfl ?_
    refine m_iload_n dX11_isTold_8 3 rfl ?_
    refine m_icmp_ge dX11_isTold_9 52 (by decide) (fun h => ?_) (fun h => ?_)
    · refine m_iload dX11_isTold_52 1 rfl ?_
      refine m_ireturn dX11_isTold_54 ?_
      exact ⟨by rw [hf], rfl⟩
    · exact absurd (Int32.le_refl _) h
  · intro k f hk hf ih
    have hk9 : k < 9 := by omega
    refine m_iload dX11_isTold_6 0 rfl ?_
    refine m_iload_n dX11_isTold_8 3 rfl ?_
    refine m_icmp_ge dX11_isTold_9 52 (by decide) (fun h => ?_) (fun h => ?_)
    · exact absurd ((nle (by omega) (by omega)).mp h) (by omega)
    · clear h
      refine m_iload dX11_isTold_12 1 rfl ?_
      refine m_if_ne dX11_isTold_14 39 (by decide) (fun h14 => ?_) (fun h14 => ?_)
      · refine m_iconst (v := 1) dX11_isTold_39 (by decide) ?_
        refine m_goto dX11_isTold_40 44 (by decide) ?_
        refine m_istore (ls1 := [(4, _), (5, _), (0, _), (1, _), (2, _), (3, _)]) dX11_isTold_44 (by decide) rfl ?_
        refine m_iinc (v := nI (k + 1)) (ls1 := [(5, _), (4, _), (0, _), (1, _), (2, _), (3, _)]) dX11_isTold_46 1 rfl (nI_1 k) (by decide) rfl ?_
        refine m_goto dX11_isTold_49 6 (by decide) ?_
        refine ih _ ?_
        rw [hf] at h14
        rw [takB]
        first | (rw [bI_ne.mp h14]; rfl) | (rw [bI_eq.mp h14, decide_eq_true (⟨h25, h36⟩ : σ.1 115 k = x ∧ σ.1 116 k = y)]; rfl) | (rw [bI_eq.mp h14, decide_eq_false (fun q : σ.1 115 k = x ∧ σ.1 116 k = y => h25 q.1)]; rfl) | (rw [bI_eq.mp h14, decide_eq_false (fun q : σ.1 115 k = x ∧ σ.1 116 k = y => h36 q.2)]; rfl)
      · refine m_aload_n dX11_isTold_17 2 rfl ?_
        refine m_getR 4 115 dX11_isTold_18 fl_X11_19_10 rfl (by decide) rfl (by first | assumption | rfl) ?_
        refine m_iload dX11_isTold_21 0 rfl ?_
        refine m_iald dX11_isTold_23 (by first | assumption | rfl) k rfl (by first | assumption | omega | decide) ?_
        refine m_iload_n dX11_isTold_24 4 rfl ?_
        refine m_icmp_ne dX11_isTold_25 43 (by decide) (fun h25 => ?_) (fun h25 => ?_)
        · refine m_iconst (v := 0) dX11_isTold_43 (by decide) ?_
          refine m_istore (ls1 := [(4, _), (5, _), (0, _), (1, _), (2, _), (3, _)]) dX11_isTold_44 (by decide) rfl ?_
          refine m_iinc (v := nI (k + 1)) (ls1 := [(5, _), (4, _), (0, _), (1, _), (2, _), (3, _)]) dX11_isTold_46 1 rfl (nI_1 k) (by decide) rfl ?_
          refine m_goto dX11_isTold_49 6 (by decide) ?_
          refine ih _ ?_
          rw [hf] at h14
          rw [takB]
          first | (rw [bI_ne.mp h14]; rfl) | (rw [bI_eq.mp h14, decide_eq_true (⟨h25, h36⟩ : σ.1 115 k = x ∧ σ.1 116 k = y)]; rfl) | (rw [bI_eq.mp h14, decide_eq_false (fun q : σ.1 115 k = x ∧ σ.1 116 k = y => h25 q.1)]; rfl) | (rw [bI_eq.mp h14, decide_eq_false (fun q : σ.1 115 k = x ∧ σ.1 116 k = y => h36 q.2)]; rfl)
        · refine m_aload_n dX11_isTold_28 2 rfl ?_
          refine m_getR 5 116 dX11_isTold_29 fl_X11_22_10 rfl (by decide) rfl (by first | assumption | rfl) ?_
          refine m_iload dX11_isTold_32 0 rfl ?_
          refine m_iald dX11_isTold_34 (by first | assumption | rfl) k rfl (by first | assumption | omega | decide) ?_
          refine m_iload_n dX11_isTold_35 5 rfl ?_
          refine m_icmp_ne dX11_isTold_36 43 (by decide) (fun h36 => ?_) (fun h36 => ?_)
          · refine m_iconst (v := 0) dX11_isTold_43 (by decide) ?_
            refine m_istore (ls1 := [(4, _), (5, _), (0, _), (1, _), (2, _), (3, _)]) dX11_isTold_44 (by decide) rfl ?_
            refine m_iinc (v := nI (k + 1)) (ls1 := [(5, _), (4, _), (0, _), (1, _), (2, _), (3, _)]) dX11_isTold_46 1 rfl (nI_1 k) (by decide) rfl ?_
            refine m_goto dX11_isTold_49 6 (by decide) ?_
            refine ih _ ?_
            rw [hf] at h14
            rw [takB]
            first | (rw [bI_ne.mp h14]; rfl) | (rw [bI_eq.mp h14, decide_eq_true (⟨h25, h36⟩ : σ.1 115 k = x ∧ σ.1 116 k = y)]; rfl) | (rw [bI_eq.mp h14, decide_eq_false (fun q : σ.1 115 k = x ∧ σ.1 116 k = y => h25 q.1)]; rfl) | (rw [bI_eq.mp h14, decide_eq_false (fun q : σ.1 115 k = x ∧ σ.1 116 k = y => h36 q.2)]; rfl)
          · refine m_iconst (v := 1) dX11_isTold_39 (by decide) ?_
            refine m_goto dX11_isTold_40 44 (by decide) ?_
            refine m_istore (ls1 := [(4, _), (5, _), (0, _), (1, _), (2, _), (3, _)]) dX11_isTold_44 (by decide) rfl ?_
            refine m_iinc (v := nI (k + 1)) (ls1 := [(5, _), (4, _), (0, _), (1, _), (2, _), (3, _)]) dX11_isTold_46 1 rfl (nI_1 k) (by decide) rfl ?_
            refine m_goto dX11_isTold_49 6 (by decide) ?_
            refine ih _ ?_
            rw [hf] at h14
            rw [takB]
            first | (rw [bI_ne.mp h14]; rfl) | (rw [bI_eq.mp h14, decide_eq_true (⟨h25, h36⟩ : σ.1 115 k = x ∧ σ.1 116 k = y)]; rfl) | (rw [bI_eq.mp h14, decide_eq_false (fun q : σ.1 115 k = x ∧ σ.1 116 k = y => h25 q.1)]; rfl) | (rw [bI_eq.mp h14, decide_eq_false (fun q : σ.1 115 k = x ∧ σ.1 116 k = y => h36 q.2)]; rfl)
theorem takB_cong {X Y X1 Y1 : Nat → Int32} {x y : Int32} : ∀ n, (∀ k, k < n → X k = X1 k ∧ Y k = Y1 k) → takB X Y x y n = takB X1 Y1 x y n
  | 0, _ => rfl
  | n + 1, h => by
    unfold takB
    rw [takB_cong n (fun k hk => h k (by omega)), (h n (by omega)).1, (h n (by omega)).2]
theorem c_readsCar (hd : 2 ≤ d) (L k : Nat) (hL : σ.1 112 0 = nI L) (hL47 : L ≤ 47) (hk : k ≤ 8) (hold : ∀ i, i < k → σ.1 115 i = carB L (tx σ 0) i 1 ∧ σ.1 116 i = carB L (tx σ 0) i 2) : mMet G l d kX11_readsCar [.ref 111, .int (nI k), .int (nI (6 * k))] σ (qIP (fun r s => r = nI (goodC L (tx σ 0) k) ∧ (goodC L (tx σ 0) k = 5 → s.1 114 k = carB L (tx σ 0) k 0 ∧ s.1 115 k = carB L (tx σ 0) k 1 ∧ s.1 116 k = carB L (tx σ 0) k 2 ∧ s.1 117 k = carB L (tx σ 0) k 3 ∧ s.1 118 k = carB L (tx σ 0) k 4) ∧ fW (fun y z => 114 ≤ y ∧ y ≤ 118 ∧ z = k ∧ k < 8) σ s)) := by
  refine mMet.of cm_X11_readsCar rfl (Nat.le_of_ble_eq_true rfl) rfl (fun v1 σ1 h => by obtain ⟨r, h1, -⟩ := h; rw [h1]; rfl) ?_
  generalize hb : tx σ 0 = b at hold ⊢
  have ht : takB (σ.1 115) (σ.1 116) (carB L b k 1) (carB L b k 2) k = takB (fun i => carB L b i 1) (fun i => carB L b i 2) (carB L b k 1) (carB L b k 2) k := takB_cong k hold
  have hB : ∀ i, i < 1000 → mMet G l (d - 1) kX11_byteAt [.ref 111, .int 0, .int (nI i)] σ (qI (btE L b i) σ) := fun i hi => by rw [← hb]; exact c_byteAt 0 L i (by decide) hL hL47 hi
  refine m_aload_n dX11_readsCar_0 0 rfl ?_
  refine m_iconst (v := 0) dX11_readsCar_1 (by decide) ?_
  refine m_iload_n dX11_readsCar_2 2 rfl ?_
  refine m_callV (As := [_, _]) dX11_readsCar_3 cv_X11_144 (by first | assumption | rfl) (by decide) (by omega) rfl rfl (Nat.le_of_ble_eq_true rfl) (hB (6 * k) (by omega)) (fun v1 σ1 hv1 => ?_)
  refine m_qI hv1 ?_
  clear hv1 v1 σ1
  refine m_callS (As := [_]) dX11_readsCar_6 cs_X11_148 (by omega) rfl rfl (Nat.le_of_ble_eq_true rfl) (c_sortOf (d := d - 1) _) (fun v1 σ1 hv1 => ?_)
  refine m_qI hv1 ?_
  clear hv1 v1 σ1
  refine mW.top (w := carB L b k 0) rfl ?_
  refine m_istore_n (ls1 := [(3, _), (0, _), (1, _), (2, _)]) dX11_readsCar_9 (by decide) rfl ?_
  refine m_aload_n dX11_readsCar_10 1 rfl ?_
  refine m_iconst (v := 0) dX11_readsCar_11 (by decide) ?_
  refine m_iload_n dX11_readsCar_12 3 rfl ?_
  refine m_iconst (v := 1) dX11_readsCar_13 (by decide) ?_
  refine m_iadd dX11_readsCar_14 ?_
  refine mW.top (w := nI (6 * k + 1)) (naddL 1 rfl rfl) ?_
  refine m_callV (As := [_, _]) dX11_readsCar_15 cv_X11_144 (by first | assumption | rfl) (by decide) (by omega) rfl rfl (Nat.le_of_ble_eq_true rfl) (hB (6 * k + 1) (by omega)) (fun v1 σ1 hv1 => ?_)
  refine m_qI hv1 ?_
  clear hv1 v1 σ1
  refine m_bipush (v := 48) dX11_readsCar_18 (by decide) ?_
  refine m_isub dX11_readsCar_20 ?_
  refine mW.top (w := carB L b k 1) rfl ?_
  refine m_istore (ls1 := [(4, _), (3, _), (0, _), (1, _), (2, _)]) dX11_readsCar_21 (by decide) rfl ?_
  refine m_aload_n dX11_readsCar_23 2 rfl ?_
  refine m_iconst (v := 0) dX11_readsCar_24 (by decide) ?_
  refine m_iload_n dX11_readsCar_25 4 rfl ?_
  refine m_iconst (v := 2) dX11_readsCar_26 (by decide) ?_
  refine m_iadd dX11_readsCar_27 ?_
  refine mW.top (w := nI (6 * k + 2)) (naddL 2 rfl rfl) ?_
  refine m_callV (As := [_, _]) dX11_readsCar_28 cv_X11_144 (by first | assumption | rfl) (by decide) (by omega) rfl rfl (Nat.le_of_ble_eq_true rfl) (hB (6 * k + 2) (by omega)) (fun v1 σ1 hv1 => ?_)
  refine m_qI hv1 ?_
  clear hv1 v1 σ1
  refine m_bipush (v := 48) dX11_readsCar_31 (by decide) ?_
  refine m_isub dX11_readsCar_33 ?_
  refine mW.top (w := carB L b k 2) rfl ?_
  refine m_istore (ls1 := [(5, _), (4, _), (3, _), (0, _), (1, _), (2, _)]) dX11_readsCar_34 (by decide) rfl ?_
  refine m_aload_n dX11_readsCar_36 3 rfl ?_
  refine m_iconst (v := 0) dX11_readsCar_37 (by decide) ?_
  refine m_iload_n dX11_readsCar_38 5 rfl ?_
  refine m_iconst (v := 3) dX11_readsCar_39 (by decide) ?_
  refine m_iadd dX11_readsCar_40 ?_
  refine mW.top (w := nI (6 * k + 3)) (naddL 3 rfl rfl) ?_
  refine m_callV (As := [_, _]) dX11_readsCar_41 cv_X11_144 (by first | assumption | rfl) (by decide) (by omega) rfl rfl (Nat.le_of_ble_eq_true rfl) (hB (6 * k + 3) (by omega)) (fun v1 σ1 hv1 => ?_)
  refine m_qI hv1 ?_
  clear hv1 v1 σ1
  refine m_callS (As := [_]) dX11_readsCar_44 cs_X11_152 (by omega) rfl rfl (Nat.le_of_ble_eq_true rfl) (c_wayOf (d := d - 1) _) (fun v1 σ1 hv1 => ?_)
  refine m_qI hv1 ?_
  clear hv1 v1 σ1
  refine mW.top (w := carB L b k 3) rfl ?_
  refine m_istore (ls1 := [(6, _), (5, _), (4, _), (3, _), (0, _), (1, _), (2, _)]) dX11_readsCar_47 (by decide) rfl ?_
  refine m_aload_n dX11_readsCar_49 4 rfl ?_
  refine m_iconst (v := 0) dX11_readsCar_50 (by decide) ?_
  refine m_iload_n dX11_readsCar_51 6 rfl ?_
  refine m_iconst (v := 4) dX11_readsCar_52 (by decide) ?_
  refine m_iadd dX11_readsCar_53 ?_
  refine mW.top (w := nI (6 * k + 4)) (naddL 4 rfl rfl) ?_
  refine m_callV (As := [_, _]) dX11_readsCar_54 cv_X11_144 (by first | assumption | rfl) (by decide) (by omega) rfl rfl (Nat.le_of_ble_eq_true rfl) (hB (6 * k + 4) (by omega)) (fun v1 σ1 hv1 => ?_)
  refine m_qI hv1 ?_
  clear hv1 v1 σ1
  refine m_bipush (v := 48) dX11_readsCar_57 (by decide) ?_
  refine m_isub dX11_readsCar_59 ?_
  refine mW.top (w := carB L b k 4) rfl ?_
  refine m_istore (ls1 := [(7, _), (6, _), (5, _), (4, _), (3, _), (0, _), (1, _), (2, _)]) dX11_readsCar_60 (by decide) rfl ?_
  refine m_iload_n dX11_readsCar_62 6 rfl ?_
  refine m_bipush (v := 8) dX11_readsCar_63 (by decide) ?_
  have h8 : ∀ a : Nat, a ≤ 8 → (nI a = 8 ↔ a = 8) := fun a ha => neq (b := 8) (by omega) (by omega)
  refine m_icmp_eq dX11_readsCar_65 73 (by decide) (fun h65 => ?_) (fun h65 => ?_)
  · refine m_iconst (v := 0) dX11_readsCar_73 (by decide) ?_
    refine m_ireturn dX11_readsCar_74 ⟨_, rfl, ?_, ?_, fW.rf⟩
    all_goals (have hg : goodC L b k = 0 := by unfold goodC; first | exact if_pos (Or.inl ((h8 k hk).mp h65)) | exact if_pos (Or.inr h70))
    · rw [hg]; rfl
    · rw [hg]; intro q; exact absurd q (by decide)
  · refine m_iload_n dX11_readsCar_68 4 rfl ?_
    refine m_iconst (v := -1) dX11_readsCar_69 (by decide) ?_
    refine m_icmp_ne dX11_readsCar_70 75 (by decide) (fun h70 => ?_) (fun h70 => ?_)
    · refine m_iload dX11_readsCar_75 3 rfl ?_
      refine m_callS (As := [_]) dX11_readsCar_77 cs_X11_155 (by omega) rfl rfl (Nat.le_of_ble_eq_true rfl) (c_isSix (d := d - 1) (by omega) _) (fun v1 σ1 hv1 => ?_)
      refine m_qI hv1 ?_
      clear hv1 v1 σ1
      refine m_if_ne dX11_readsCar_80 85 (by decide) (fun h80 => ?_) (fun h80 => ?_)
      · refine m_iload dX11_readsCar_85 2 rfl ?_
        refine m_callS (As := [_]) dX11_readsCar_87 cs_X11_155 (by omega) rfl rfl (Nat.le_of_ble_eq_true rfl) (c_isSix (d := d - 1) (by omega) _) (fun v1 σ1 hv1 => ?_)
        refine m_qI hv1 ?_
        clear hv1 v1 σ1
        refine m_if_eq dX11_readsCar_90 105 (by decide) (fun h90 => ?_) (fun h90 => ?_)
        · refine m_iconst (v := 2) dX11_readsCar_105 (by decide) ?_
          refine m_ireturn dX11_readsCar_106 ⟨_, rfl, ?_, ?_, fW.rf⟩
          all_goals (have hg : goodC L b k = 2 := by unfold goodC; rw [if_neg (by rintro (q | q); exact h65 ((h8 k hk).mpr q); exact h70 q), if_neg (fun q => q (bI1 h80))]; first | exact if_pos (Or.inl (bI0 h90)) | exact if_pos (Or.inr (by rw [← ht]; exact bI_ne.mp h102)))
          · rw [hg]; rfl
          · rw [hg]; intro q; exact absurd q (by decide)
        · refine m_aload_n dX11_readsCar_93 5 rfl ?_
          refine m_iload_n dX11_readsCar_94 6 rfl ?_
          refine m_iload dX11_readsCar_95 3 rfl ?_
          refine m_iload dX11_readsCar_97 2 rfl ?_
          refine m_callV (As := [_, _, _]) dX11_readsCar_99 cv_X11_158 (by first | assumption | rfl) (by decide) (by omega) rfl rfl (Nat.le_of_ble_eq_true rfl) (c_isTold (d := d - 1) k hk _ _) (fun v1 σ1 hv1 => ?_)
          refine m_qI hv1 ?_
          clear hv1 v1 σ1
          refine m_if_eq dX11_readsCar_102 107 (by decide) (fun h102 => ?_) (fun h102 => ?_)
          · refine m_iload dX11_readsCar_107 1 rfl ?_
            refine m_iconst (v := -1) dX11_readsCar_109 (by decide) ?_
            refine m_icmp_ne dX11_readsCar_110 115 (by decide) (fun h110 => ?_) (fun h110 => ?_)
            · refine m_iload dX11_readsCar_115 0 rfl ?_
              refine m_iconst (v := 1) dX11_readsCar_117 (by decide) ?_
              refine m_bipush (v := 9) dX11_readsCar_118 (by decide) ?_
              refine m_callS (As := [_, _, _]) dX11_readsCar_120 cs_X11_136 (by omega) rfl rfl (Nat.le_of_ble_eq_true rfl) (c_in (d := d - 1) _ 1 9) (fun v1 σ1 hv1 => ?_)
              refine m_qI hv1 ?_
              clear hv1 v1 σ1
              refine m_if_ne dX11_readsCar_123 128 (by decide) (fun h123 => ?_) (fun h123 => ?_)
              · refine m_aload_n dX11_readsCar_128 5 rfl ?_
                refine m_getR 3 114 dX11_readsCar_129 fl_X11_16_10 rfl (by decide) rfl (by first | assumption | rfl) ?_
                refine m_iload_n dX11_readsCar_132 6 rfl ?_
                refine m_iload_n dX11_readsCar_133 4 rfl ?_
                refine m_iast dX11_readsCar_134 (by first | assumption | rfl) k rfl (by have hne : k ≠ 8 := fun e => h65 ((h8 k hk).mpr e); omega) ?_
                refine m_aload_n dX11_readsCar_135 5 rfl ?_
                refine m_getR 4 115 dX11_readsCar_136 fl_X11_19_10 rfl (by decide) rfl (by first | assumption | rfl) ?_
                refine m_iload_n dX11_readsCar_139 6 rfl ?_
                refine m_iload dX11_readsCar_140 3 rfl ?_
                refine m_iast dX11_readsCar_142 (by first | assumption | rfl) k rfl (by have hne : k ≠ 8 := fun e => h65 ((h8 k hk).mpr e); omega) ?_
                refine m_aload_n dX11_readsCar_143 5 rfl ?_
                refine m_getR 5 116 dX11_readsCar_144 fl_X11_22_10 rfl (by decide) rfl (by first | assumption | rfl) ?_
                refine m_iload_n dX11_readsCar_147 6 rfl ?_
                refine m_iload dX11_readsCar_148 2 rfl ?_
                refine m_iast dX11_readsCar_150 (by first | assumption | rfl) k rfl (by have hne : k ≠ 8 := fun e => h65 ((h8 k hk).mpr e); omega) ?_
                refine m_aload_n dX11_readsCar_151 5 rfl ?_
                refine m_getR 6 117 dX11_readsCar_152 fl_X11_25_10 rfl (by decide) rfl (by first | assumption | rfl) ?_
                refine m_iload_n dX11_readsCar_155 6 rfl ?_
                refine m_iload dX11_readsCar_156 1 rfl ?_
                refine m_iast dX11_readsCar_158 (by first | assumption | rfl) k rfl (by have hne : k ≠ 8 := fun e => h65 ((h8 k hk).mpr e); omega) ?_
                refine m_aload_n dX11_readsCar_159 5 rfl ?_
                refine m_getR 7 118 dX11_readsCar_160 fl_X11_28_10 rfl (by decide) rfl (by first | assumption | rfl) ?_
                refine m_iload_n dX11_readsCar_163 6 rfl ?_
                refine m_iload dX11_readsCar_164 0 rfl ?_
                refine m_iast dX11_readsCar_166 (by first | assumption | rfl) k rfl (by have hne : k ≠ 8 := fun e => h65 ((h8 k hk).mpr e); omega) ?_
                refine m_iconst (v := 5) dX11_readsCar_167 (by decide) ?_
                have hk8 : k < 8 := by have hne : k ≠ 8 := fun e => h65 ((h8 k hk).mpr e); omega
                have hg : goodC L b k = 5 := by unfold goodC; rw [if_neg (by rintro (q | q); exact h65 ((h8 k hk).mpr q); exact h70 q), if_neg (fun q => q (bI1 h80)), if_neg (by rintro (q | q); exact q (bI1 h90); rw [← ht, bI_eq.mp h102] at q; exact absurd q (by decide)), if_neg h110]; exact if_neg (fun q => q (bI1 h123))
                refine m_ireturn dX11_readsCar_168 ⟨_, rfl, by rw [hg]; rfl, fun _ => ?_, fW.us ⟨by omega, by omega, rfl, hk8⟩ (fW.us ⟨by omega, by omega, rfl, hk8⟩ (fW.us ⟨by omega, by omega, rfl, hk8⟩ (fW.us ⟨by omega, by omega, rfl, hk8⟩ (fW.us ⟨by omega, by omega, rfl, hk8⟩ fW.rf))))⟩
                simp [us_at]
              · refine m_iconst (v := 4) dX11_readsCar_126 (by decide) ?_
                refine m_ireturn dX11_readsCar_127 ⟨_, rfl, ?_, ?_, fW.rf⟩
                all_goals (have hg : goodC L b k = 4 := by unfold goodC; rw [if_neg (by rintro (q | q); exact h65 ((h8 k hk).mpr q); exact h70 q), if_neg (fun q => q (bI1 h80)), if_neg (by rintro (q | q); exact q (bI1 h90); rw [← ht, bI_eq.mp h102] at q; exact absurd q (by decide)), if_neg h110]; exact if_pos (bI0 h123))
                · rw [hg]; rfl
                · rw [hg]; intro q; exact absurd q (by decide)
            · refine m_iconst (v := 3) dX11_readsCar_113 (by decide) ?_
              refine m_ireturn dX11_readsCar_114 ⟨_, rfl, ?_, ?_, fW.rf⟩
              all_goals (have hg : goodC L b k = 3 := by unfold goodC; rw [if_neg (by rintro (q | q); exact h65 ((h8 k hk).mpr q); exact h70 q), if_neg (fun q => q (bI1 h80)), if_neg (by rintro (q | q); exact q (bI1 h90); rw [← ht, bI_eq.mp h102] at q; exact absurd q (by decide))]; exact if_pos h110)
              · rw [hg]; rfl
              · rw [hg]; intro q; exact absurd q (by decide)
          · refine m_iconst (v := 2) dX11_readsCar_105 (by decide) ?_
            refine m_ireturn dX11_readsCar_106 ⟨_, rfl, ?_, ?_, fW.rf⟩
            all_goals (have hg : goodC L b k = 2 := by unfold goodC; rw [if_neg (by rintro (q | q); exact h65 ((h8 k hk).mpr q); exact h70 q), if_neg (fun q => q (bI1 h80))]; first | exact if_pos (Or.inl (bI0 h90)) | exact if_pos (Or.inr (by rw [← ht]; exact bI_ne.mp h102)))
            · rw [hg]; rfl
            · rw [hg]; intro q; exact absurd q (by decide)
      · refine m_iconst (v := 1) dX11_readsCar_83 (by decide) ?_
        refine m_ireturn dX11_readsCar_84 ⟨_, rfl, ?_, ?_, fW.rf⟩
        all_goals (have hg : goodC L b k = 1 := by unfold goodC; rw [if_neg (by rintro (q | q); exact h65 ((h8 k hk).mpr q); exact h70 q)]; exact if_pos (bI0 h80))
        · rw [hg]; rfl
        · rw [hg]; intro q; exact absurd q (by decide)
    · refine m_iconst (v := 0) dX11_readsCar_73 (by decide) ?_
      refine m_ireturn dX11_readsCar_74 ⟨_, rfl, ?_, ?_, fW.rf⟩
      all_goals (have hg : goodC L b k = 0 := by unfold goodC; first | exact if_pos (Or.inl ((h8 k hk).mp h65)) | exact if_pos (Or.inr h70))
      · rw [hg]; rfl
      · rw [hg]; intro q; exact absurd q (by decide)
end RT


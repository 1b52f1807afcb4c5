/-! ===== the reference: what was seen ===== -/
theorem agP_no (D : Deb) (w : Nat → Nat → Int32) {i : Nat} (h : agP D w i = false) : ∀ z, i ≤ z → agP D w z = false
  | 0, hz => by have : i = 0 := by omega
                subst this; exact h
  | z + 1, hz => by
    by_cases e : i = z + 1
    · subst e; exact h
    · unfold agP
      rw [agP_no D w h z (by omega)]; rfl
def cellD (E : Deb) (k t : Nat) : Int32 := 6 * (RSt E (t + 1)).1 k + (RSt E (t + 1)).2.1 k
section SN
variable {G : mG} {l : Launch} {d : Nat} {σ : mS}
def seF (σ : mS) : Nat → Nat → Int32 := fun i j => if j < 4 then σ.1 (143 + j) i else 0
theorem seF_eq {s : mS} (h : ∀ y, 143 ≤ y → y ≤ 146 → s.1 y = σ.1 y) : seF s = seF σ := by
  funext k j
  unfold seF
  by_cases hj : j < 4
  · rw [if_pos hj, if_pos hj, h _ (by omega) (by omega)]
  · rw [if_neg hj, if_neg hj]
/-- what was seen fits -/
def okS (σ : mS) (z : Nat) : Prop := σ.1 111 41 = nI z ∧ z ≤ 8 ∧ ∀ i, i < z → (∃ t, t < 24 ∧ σ.1 143 i = nI t) ∧ ∃ k, k < 8 ∧ σ.1 144 i = nI k
theorem okS.tr {s : mS} {W : Nat → Nat → Prop} {z : Nat} (f : fW W σ s) (h41 : ¬ W 111 41) (h : ∀ y z, 143 ≤ y → y ≤ 146 → ¬ W y z) (k : okS σ z) : okS s z := by
  refine ⟨(f.at h41).trans k.1, k.2.1, fun i hi => ?_⟩
  rw [f.at (h 143 i (by omega) (by omega)), f.at (h 144 i (by omega) (by omega))]
  exact k.2.2 i hi
theorem dX11_heavyBy_0 : decode cX11_heavyBy 0 = .ok (.aload_n 0, 1) := by decide +kernel
theorem dX11_heavyBy_1 : decode cX11_heavyBy 1 = .ok (.invokevirtual 270, 3) := by decide +kernel
theorem dX11_heavyBy_4 : decode cX11_heavyBy 4 = .ok (.aload_n 0, 1) := by decide +kernel
theorem dX11_heavyBy_5 : decode cX11_heavyBy 5 = .ok (.getfield 28, 3) := by decide +kernel
theorem dX11_heavyBy_8 : decode cX11_heavyBy 8 = .ok (.iload_n 1, 1) := by decide +kernel
theorem dX11_heavyBy_9 : decode cX11_heavyBy 9 = .ok (.iaload, 1) := by decide +kernel
theorem dX11_heavyBy_10 : decode cX11_heavyBy 10 = .ok (.istore_n 2, 1) := by decide +kernel
theorem dX11_heavyBy_11 : decode cX11_heavyBy 11 = .ok (.iconst 0, 1) := by decide +kernel
theorem dX11_heavyBy_12 : decode cX11_heavyBy 12 = .ok (.istore_n 3, 1) := by decide +kernel
theorem dX11_heavyBy_13 : decode cX11_heavyBy 13 = .ok (.iconst 1, 1) := by decide +kernel
theorem dX11_heavyBy_14 : decode cX11_heavyBy 14 = .ok (.istore 4, 2) := by decide +kernel
theorem dX11_heavyBy_16 : decode cX11_heavyBy 16 = .ok (.iload 4, 2) := by decide +kernel
theorem dX11_heavyBy_18 : decode cX11_heavyBy 18 = .ok (.bipush 10, 2) := by decide +kernel
theorem dX11_heavyBy_20 : decode cX11_heavyBy 20 = .ok (.if_icmp .ge 92, 3) := by decide +kernel
theorem dX11_heavyBy_23 : decode cX11_heavyBy 23 = .ok (.aload_n 0, 1) := by decide +kernel
theorem dX11_heavyBy_24 : decode cX11_heavyBy 24 = .ok (.getfield 28, 3) := by decide +kernel
theorem dX11_heavyBy_27 : decode cX11_heavyBy 27 = .ok (.iload_n 1, 1) := by decide +kernel
theorem dX11_heavyBy_28 : decode cX11_heavyBy 28 = .ok (.iload 4, 2) := by decide +kernel
theorem dX11_heavyBy_30 : decode cX11_heavyBy 30 = .ok (.iastore, 1) := by decide +kernel
theorem dX11_heavyBy_31 : decode cX11_heavyBy 31 = .ok (.iload_n 3, 1) := by decide +kernel
theorem dX11_heavyBy_32 : decode cX11_heavyBy 32 = .ok (.aload_n 0, 1) := by decide +kernel
theorem dX11_heavyBy_33 : decode cX11_heavyBy 33 = .ok (.invokevirtual 337, 3) := by decide +kernel
theorem dX11_heavyBy_36 : decode cX11_heavyBy 36 = .ok (.ifCond .eq 10, 3) := by decide +kernel
theorem dX11_heavyBy_39 : decode cX11_heavyBy 39 = .ok (.iconst 1, 1) := by decide +kernel
theorem dX11_heavyBy_40 : decode cX11_heavyBy 40 = .ok (.iload 4, 2) := by decide +kernel
theorem dX11_heavyBy_42 : decode cX11_heavyBy 42 = .ok (.ishl, 1) := by decide +kernel
theorem dX11_heavyBy_43 : decode cX11_heavyBy 43 = .ok (.goto 4, 3) := by decide +kernel
theorem dX11_heavyBy_46 : decode cX11_heavyBy 46 = .ok (.iconst 0, 1) := by decide +kernel
theorem dX11_heavyBy_47 : decode cX11_heavyBy 47 = .ok (.ior, 1) := by decide +kernel
theorem dX11_heavyBy_48 : decode cX11_heavyBy 48 = .ok (.istore_n 3, 1) := by decide +kernel
theorem dX11_heavyBy_49 : decode cX11_heavyBy 49 = .ok (.iconst 0, 1) := by decide +kernel
theorem dX11_heavyBy_50 : decode cX11_heavyBy 50 = .ok (.istore 5, 2) := by decide +kernel
theorem dX11_heavyBy_52 : decode cX11_heavyBy 52 = .ok (.iload 5, 2) := by decide +kernel
theorem dX11_heavyBy_54 : decode cX11_heavyBy 54 = .ok (.bipush 24, 2) := by decide +kernel
theorem dX11_heavyBy_56 : decode cX11_heavyBy 56 = .ok (.if_icmp .ge 50, 3) := by decide +kernel
theorem dX11_heavyBy_59 : decode cX11_heavyBy 59 = .ok (.aload_n 0, 1) := by decide +kernel
theorem dX11_heavyBy_60 : decode cX11_heavyBy 60 = .ok (.getfield 115, 3) := by decide +kernel
theorem dX11_heavyBy_63 : decode cX11_heavyBy 63 = .ok (.bipush 24, 2) := by decide +kernel
theorem dX11_heavyBy_65 : decode cX11_heavyBy 65 = .ok (.iload 4, 2) := by decide +kernel
theorem dX11_heavyBy_67 : decode cX11_heavyBy 67 = .ok (.imul, 1) := by decide +kernel
theorem dX11_heavyBy_68 : decode cX11_heavyBy 68 = .ok (.iload 5, 2) := by decide +kernel
theorem dX11_heavyBy_70 : decode cX11_heavyBy 70 = .ok (.iadd, 1) := by decide +kernel
theorem dX11_heavyBy_71 : decode cX11_heavyBy 71 = .ok (.bipush 6, 2) := by decide +kernel
theorem dX11_heavyBy_73 : decode cX11_heavyBy 73 = .ok (.aload_n 0, 1) := by decide +kernel
theorem dX11_heavyBy_74 : decode cX11_heavyBy 74 = .ok (.getfield 76, 3) := by decide +kernel
theorem dX11_heavyBy_77 : decode cX11_heavyBy 77 = .ok (.bipush 8, 2) := by decide +kernel
theorem dX11_heavyBy_79 : decode cX11_heavyBy 79 = .ok (.iload 5, 2) := by decide +kernel
theorem dX11_heavyBy_81 : decode cX11_heavyBy 81 = .ok (.imul, 1) := by decide +kernel
theorem dX11_heavyBy_82 : decode cX11_heavyBy 82 = .ok (.iload_n 1, 1) := by decide +kernel
theorem dX11_heavyBy_83 : decode cX11_heavyBy 83 = .ok (.iadd, 1) := by decide +kernel
theorem dX11_heavyBy_84 : decode cX11_heavyBy 84 = .ok (.iaload, 1) := by decide +kernel
theorem dX11_heavyBy_85 : decode cX11_heavyBy 85 = .ok (.imul, 1) := by decide +kernel
theorem dX11_heavyBy_86 : decode cX11_heavyBy 86 = .ok (.aload_n 0, 1) := by decide +kernel
theorem dX11_heavyBy_87 : decode cX11_heavyBy 87 = .ok (.getfield 79, 3) := by decide +kernel
theorem dX11_heavyBy_90 : decode cX11_heavyBy 90 = .ok (.bipush 8, 2) := by decide +kernel
theorem dX11_heavyBy_92 : decode cX11_heavyBy 92 = .ok (.iload 5, 2) := by decide +kernel
theorem dX11_heavyBy_94 : decode cX11_heavyBy 94 = .ok (.imul, 1) := by decide +kernel
theorem dX11_heavyBy_95 : decode cX11_heavyBy 95 = .ok (.iload_n 1, 1) := by decide +kernel
theorem dX11_heavyBy_96 : decode cX11_heavyBy 96 = .ok (.iadd, 1) := by decide +kernel
theorem dX11_heavyBy_97 : decode cX11_heavyBy 97 = .ok (.iaload, 1) := by decide +kernel
theorem dX11_heavyBy_98 : decode cX11_heavyBy 98 = .ok (.iadd, 1) := by decide +kernel
theorem dX11_heavyBy_99 : decode cX11_heavyBy 99 = .ok (.iastore, 1) := by decide +kernel
theorem dX11_heavyBy_100 : decode cX11_heavyBy 100 = .ok (.iinc 5 1, 3) := by decide +kernel
theorem dX11_heavyBy_103 : decode cX11_heavyBy 103 = .ok (.goto (-51), 3) := by decide +kernel
theorem dX11_heavyBy_106 : decode cX11_heavyBy 106 = .ok (.iinc 4 1, 3) := by decide +kernel
theorem dX11_heavyBy_109 : decode cX11_heavyBy 109 = .ok (.goto (-93), 3) := by decide +kernel
theorem dX11_heavyBy_112 : decode cX11_heavyBy 112 = .ok (.aload_n 0, 1) := by decide +kernel
theorem dX11_heavyBy_113 : decode cX11_heavyBy 113 = .ok (.getfield 28, 3) := by decide +kernel
theorem dX11_heavyBy_116 : decode cX11_heavyBy 116 = .ok (.iload_n 1, 1) := by decide +kernel
theorem dX11_heavyBy_117 : decode cX11_heavyBy 117 = .ok (.iload_n 2, 1) := by decide +kernel
theorem dX11_heavyBy_118 : decode cX11_heavyBy 118 = .ok (.iastore, 1) := by decide +kernel
theorem dX11_heavyBy_119 : decode cX11_heavyBy 119 = .ok (.iload_n 3, 1) := by decide +kernel
theorem dX11_heavyBy_120 : decode cX11_heavyBy 120 = .ok (.ireturn, 1) := by decide +kernel
theorem dX11_askOf_0 : decode cX11_askOf 0 = .ok (.aload_n 0, 1) := by decide +kernel
theorem dX11_askOf_1 : decode cX11_askOf 1 = .ok (.iload_n 1, 1) := by decide +kernel
theorem dX11_askOf_2 : decode cX11_askOf 2 = .ok (.invokevirtual 347, 3) := by decide +kernel
theorem dX11_askOf_5 : decode cX11_askOf 5 = .ok (.istore_n 2, 1) := by decide +kernel
theorem dX11_askOf_6 : decode cX11_askOf 6 = .ok (.iconst (-1), 1) := by decide +kernel
theorem dX11_askOf_7 : decode cX11_askOf 7 = .ok (.istore_n 3, 1) := by decide +kernel
theorem dX11_askOf_8 : decode cX11_askOf 8 = .ok (.iconst 0, 1) := by decide +kernel
theorem dX11_askOf_9 : decode cX11_askOf 9 = .ok (.istore 4, 2) := by decide +kernel
theorem dX11_askOf_11 : decode cX11_askOf 11 = .ok (.iconst 0, 1) := by decide +kernel
theorem dX11_askOf_12 : decode cX11_askOf 12 = .ok (.istore 5, 2) := by decide +kernel
theorem dX11_askOf_14 : decode cX11_askOf 14 = .ok (.iload 5, 2) := by decide +kernel
theorem dX11_askOf_16 : decode cX11_askOf 16 = .ok (.bipush 24, 2) := by decide +kernel
theorem dX11_askOf_18 : decode cX11_askOf 18 = .ok (.if_icmp .ge 165, 3) := by decide +kernel
theorem dX11_askOf_21 : decode cX11_askOf 21 = .ok (.iconst 0, 1) := by decide +kernel
theorem dX11_askOf_22 : decode cX11_askOf 22 = .ok (.istore 6, 2) := by decide +kernel
theorem dX11_askOf_24 : decode cX11_askOf 24 = .ok (.iconst 1, 1) := by decide +kernel
theorem dX11_askOf_25 : decode cX11_askOf 25 = .ok (.istore 7, 2) := by decide +kernel
theorem dX11_askOf_27 : decode cX11_askOf 27 = .ok (.iload 7, 2) := by decide +kernel
theorem dX11_askOf_29 : decode cX11_askOf 29 = .ok (.bipush 10, 2) := by decide +kernel
theorem dX11_askOf_31 : decode cX11_askOf 31 = .ok (.if_icmp .ge 101, 3) := by decide +kernel
theorem dX11_askOf_34 : decode cX11_askOf 34 = .ok (.iconst 0, 1) := by decide +kernel
theorem dX11_askOf_35 : decode cX11_askOf 35 = .ok (.istore 8, 2) := by decide +kernel
theorem dX11_askOf_37 : decode cX11_askOf 37 = .ok (.iconst 1, 1) := by decide +kernel
theorem dX11_askOf_38 : decode cX11_askOf 38 = .ok (.istore 9, 2) := by decide +kernel
theorem dX11_askOf_40 : decode cX11_askOf 40 = .ok (.iload 9, 2) := by decide +kernel
theorem dX11_askOf_42 : decode cX11_askOf 42 = .ok (.bipush 10, 2) := by decide +kernel
theorem dX11_askOf_44 : decode cX11_askOf 44 = .ok (.if_icmp .ge 66, 3) := by decide +kernel
theorem dX11_askOf_47 : decode cX11_askOf 47 = .ok (.iload 8, 2) := by decide +kernel
theorem dX11_askOf_49 : decode cX11_askOf 49 = .ok (.iload_n 2, 1) := by decide +kernel
theorem dX11_askOf_50 : decode cX11_askOf 50 = .ok (.iload 7, 2) := by decide +kernel
theorem dX11_askOf_52 : decode cX11_askOf 52 = .ok (.invokestatic 252, 3) := by decide +kernel
theorem dX11_askOf_55 : decode cX11_askOf 55 = .ok (.ifCond .eq 45, 3) := by decide +kernel
theorem dX11_askOf_58 : decode cX11_askOf 58 = .ok (.iload_n 2, 1) := by decide +kernel
theorem dX11_askOf_59 : decode cX11_askOf 59 = .ok (.iload 9, 2) := by decide +kernel
theorem dX11_askOf_61 : decode cX11_askOf 61 = .ok (.invokestatic 252, 3) := by decide +kernel
theorem dX11_askOf_64 : decode cX11_askOf 64 = .ok (.ifCond .eq 36, 3) := by decide +kernel
theorem dX11_askOf_67 : decode cX11_askOf 67 = .ok (.aload_n 0, 1) := by decide +kernel
theorem dX11_askOf_68 : decode cX11_askOf 68 = .ok (.getfield 115, 3) := by decide +kernel
theorem dX11_askOf_71 : decode cX11_askOf 71 = .ok (.bipush 24, 2) := by decide +kernel
theorem dX11_askOf_73 : decode cX11_askOf 73 = .ok (.iload 7, 2) := by decide +kernel
theorem dX11_askOf_75 : decode cX11_askOf 75 = .ok (.imul, 1) := by decide +kernel
theorem dX11_askOf_76 : decode cX11_askOf 76 = .ok (.iload 5, 2) := by decide +kernel
theorem dX11_askOf_78 : decode cX11_askOf 78 = .ok (.iadd, 1) := by decide +kernel
theorem dX11_askOf_79 : decode cX11_askOf 79 = .ok (.iaload, 1) := by decide +kernel
theorem dX11_askOf_80 : decode cX11_askOf 80 = .ok (.aload_n 0, 1) := by decide +kernel
theorem dX11_askOf_81 : decode cX11_askOf 81 = .ok (.getfield 115, 3) := by decide +kernel
theorem dX11_askOf_84 : decode cX11_askOf 84 = .ok (.bipush 24, 2) := by decide +kernel
theorem dX11_askOf_86 : decode cX11_askOf 86 = .ok (.iload 9, 2) := by decide +kernel
theorem dX11_askOf_88 : decode cX11_askOf 88 = .ok (.imul, 1) := by decide +kernel
theorem dX11_askOf_89 : decode cX11_askOf 89 = .ok (.iload 5, 2) := by decide +kernel
theorem dX11_askOf_91 : decode cX11_askOf 91 = .ok (.iadd, 1) := by decide +kernel
theorem dX11_askOf_92 : decode cX11_askOf 92 = .ok (.iaload, 1) := by decide +kernel
theorem dX11_askOf_93 : decode cX11_askOf 93 = .ok (.if_icmp .ne 7, 3) := by decide +kernel
theorem dX11_askOf_96 : decode cX11_askOf 96 = .ok (.iconst 1, 1) := by decide +kernel
theorem dX11_askOf_97 : decode cX11_askOf 97 = .ok (.goto 4, 3) := by decide +kernel
theorem dX11_askOf_100 : decode cX11_askOf 100 = .ok (.iconst 0, 1) := by decide +kernel
theorem dX11_askOf_101 : decode cX11_askOf 101 = .ok (.iadd, 1) := by decide +kernel
theorem dX11_askOf_102 : decode cX11_askOf 102 = .ok (.istore 8, 2) := by decide +kernel
theorem dX11_askOf_104 : decode cX11_askOf 104 = .ok (.iinc 9 1, 3) := by decide +kernel
theorem dX11_askOf_107 : decode cX11_askOf 107 = .ok (.goto (-67), 3) := by decide +kernel
theorem dX11_askOf_110 : decode cX11_askOf 110 = .ok (.iload 8, 2) := by decide +kernel
theorem dX11_askOf_112 : decode cX11_askOf 112 = .ok (.iload 6, 2) := by decide +kernel
theorem dX11_askOf_114 : decode cX11_askOf 114 = .ok (.if_icmp .le 8, 3) := by decide +kernel
theorem dX11_askOf_117 : decode cX11_askOf 117 = .ok (.iload 8, 2) := by decide +kernel
theorem dX11_askOf_119 : decode cX11_askOf 119 = .ok (.goto 5, 3) := by decide +kernel
theorem dX11_askOf_122 : decode cX11_askOf 122 = .ok (.iload 6, 2) := by decide +kernel
theorem dX11_askOf_124 : decode cX11_askOf 124 = .ok (.istore 6, 2) := by decide +kernel
theorem dX11_askOf_126 : decode cX11_askOf 126 = .ok (.iinc 7 1, 3) := by decide +kernel
theorem dX11_askOf_129 : decode cX11_askOf 129 = .ok (.goto (-102), 3) := by decide +kernel
theorem dX11_askOf_132 : decode cX11_askOf 132 = .ok (.iload_n 3, 1) := by decide +kernel
theorem dX11_askOf_133 : decode cX11_askOf 133 = .ok (.iconst (-1), 1) := by decide +kernel
theorem dX11_askOf_134 : decode cX11_askOf 134 = .ok (.if_icmp .eq 10, 3) := by decide +kernel
theorem dX11_askOf_137 : decode cX11_askOf 137 = .ok (.iload 6, 2) := by decide +kernel
theorem dX11_askOf_139 : decode cX11_askOf 139 = .ok (.iload 4, 2) := by decide +kernel
theorem dX11_askOf_141 : decode cX11_askOf 141 = .ok (.if_icmp .ge 7, 3) := by decide +kernel
theorem dX11_askOf_144 : decode cX11_askOf 144 = .ok (.iconst 1, 1) := by decide +kernel
theorem dX11_askOf_145 : decode cX11_askOf 145 = .ok (.goto 4, 3) := by decide +kernel
theorem dX11_askOf_148 : decode cX11_askOf 148 = .ok (.iconst 0, 1) := by decide +kernel
theorem dX11_askOf_149 : decode cX11_askOf 149 = .ok (.istore 7, 2) := by decide +kernel
theorem dX11_askOf_151 : decode cX11_askOf 151 = .ok (.iload 7, 2) := by decide +kernel
theorem dX11_askOf_153 : decode cX11_askOf 153 = .ok (.ifCond .eq 8, 3) := by decide +kernel
theorem dX11_askOf_156 : decode cX11_askOf 156 = .ok (.iload 5, 2) := by decide +kernel
theorem dX11_askOf_158 : decode cX11_askOf 158 = .ok (.goto 4, 3) := by decide +kernel
theorem dX11_askOf_161 : decode cX11_askOf 161 = .ok (.iload_n 3, 1) := by decide +kernel
theorem dX11_askOf_162 : decode cX11_askOf 162 = .ok (.istore_n 3, 1) := by decide +kernel
theorem dX11_askOf_163 : decode cX11_askOf 163 = .ok (.iload 7, 2) := by decide +kernel
theorem dX11_askOf_165 : decode cX11_askOf 165 = .ok (.ifCond .eq 8, 3) := by decide +kernel
theorem dX11_askOf_168 : decode cX11_askOf 168 = .ok (.iload 6, 2) := by decide +kernel
theorem dX11_askOf_170 : decode cX11_askOf 170 = .ok (.goto 5, 3) := by decide +kernel
theorem dX11_askOf_173 : decode cX11_askOf 173 = .ok (.iload 4, 2) := by decide +kernel
theorem dX11_askOf_175 : decode cX11_askOf 175 = .ok (.istore 4, 2) := by decide +kernel
theorem dX11_askOf_177 : decode cX11_askOf 177 = .ok (.iinc 5 1, 3) := by decide +kernel
theorem dX11_askOf_180 : decode cX11_askOf 180 = .ok (.goto (-166), 3) := by decide +kernel
theorem dX11_askOf_183 : decode cX11_askOf 183 = .ok (.iload_n 3, 1) := by decide +kernel
theorem dX11_askOf_184 : decode cX11_askOf 184 = .ok (.ireturn, 1) := by decide +kernel
theorem c_isSeen (hd : 7 ≤ d) (D : Deb) (h : repR σ D) (z : Nat) (hs : okS σ z) : mMet G l d kX11_isSeen [.ref 111] σ (qIP (fun r s => r = bI (agP D (seF σ) z) ∧ outR D s ∧ fW wRun σ s)) := by
  refine mMet.of cm_X11_isSeen rfl (Nat.le_of_ble_eq_true rfl) rfl (fun v1 σ1 h => by obtain ⟨r, h1, h2, -⟩ := h; rw [h1, h2]; exact bI_nar _) ?_
  refine m_aload_n dX11_isSeen_0 0 rfl ?_
  refine m_callV (As := []) dX11_isSeen_1 cv_X11_273 (by first | assumption | rfl) (by decide) (by omega) rfl rfl (Nat.le_of_ble_eq_true rfl) (c_runsD (d := d - 1) (by omega) _ h) (fun v1 σ1 hv1 => ?_)
  refine m_qVP hv1 (fun hz => ?_)
  clear hv1 v1
  rename mS => s
  obtain ⟨z1, z2⟩ := hz
  have hr := h.run z2
  have hn := hr.1
  have hc := hr.2.2.2.1
  have hse : seF s = seF σ := seF_eq (fun y _ _ => z2.row (fun z => by omega))
  have hs1 : okS s z := hs.tr z2 (by omega) (fun y z _ _ => by omega)
  rw [← hse]
  generalize hw : seF s = w
  refine m_iconst (v := 1) dX11_isSeen_4 (by decide) ?_
  refine m_istore_n (ls1 := [(1, _), (0, _)]) dX11_isSeen_5 (by decide) rfl ?_
  refine m_iconst (v := 0) dX11_isSeen_6 (by decide) ?_
  refine m_istore_n (ls1 := [(2, _), (1, _), (0, _)]) dX11_isSeen_7 (by decide) rfl ?_
  refine down (N := z) (fun i (f : Int32) => f = bI (agP D w i)) (fun i f => mW G l d kX11_isSeen 8 [(2, .int (nI i)), (1, .int f), (0, .ref 111)] [] s _) ?_ ?_ 0 1 (Nat.zero_le _) rfl
  · intro f hf
    refine m_iload_n dX11_isSeen_8 0 rfl ?_
    refine m_aload_n dX11_isSeen_9 2 rfl ?_
    refine m_getI 41 dX11_isSeen_10 fl_X11_334_10 rfl (by decide) (by first | assumption | rfl) ?_
    refine m_icmp_ge dX11_isSeen_13 92 (by decide) (fun h => ?_) (fun h => ?_)
    · refine m_iload_n dX11_isSeen_92 1 rfl ?_
      exact m_ireturn dX11_isSeen_93 ⟨_, rfl, hf, z1, z2⟩
    · exact (ge_yes h hs1.1).elim
  · intro i f hi hf ih
    have hi8 : i < 8 := by have := hs.2.1; omega
    obtain ⟨⟨t, ht, et⟩, k, hk, ek⟩ := hs1.2.2 i hi
    have w0 : w i 0 = nI t := by rw [← hw]; exact et
    have w1 : w i 1 = nI k := by rw [← hw]; exact ek
    have w2 : s.1 145 i = w i 2 := by rw [← hw]; rfl
    have w3 : s.1 146 i = w i 3 := by rw [← hw]; rfl
    have hag : agP D w (i + 1) = (agP D w i && decide (nI k < nI D.1.1 ∧ (RSt D (t + 1)).1 k = w i 2 ∧ (RSt D (t + 1)).2.1 k = w i 3)) := by
      rw [agP, w0, w1, nI_clamp (by omega), nI_clamp (by omega)]
    refine m_iload_n dX11_isSeen_8 0 rfl ?_
    refine m_aload_n dX11_isSeen_9 2 rfl ?_
    refine m_getI 41 dX11_isSeen_10 fl_X11_334_10 rfl (by decide) (by first | assumption | rfl) ?_
    refine m_icmp_ge dX11_isSeen_13 92 (by decide) (fun h => ?_) (fun h => ?_)
    · exact (ge_no hs1.1 h rfl hi (by have := hs.2.1; omega)).elim
    · clear h
      refine m_iload_n dX11_isSeen_16 1 rfl ?_
      refine m_if_eq dX11_isSeen_17 92 (by decide) (fun h17 => ?_) (fun h17 => ?_)
      · refine m_iload_n dX11_isSeen_92 1 rfl ?_
        have e : agP D w i = false := bI_eq.mp (by rw [← hf]; exact h17)
        exact m_ireturn dX11_isSeen_93 ⟨_, rfl, by rw [agP_no D w e z (by omega), hf, e], z1, z2⟩
      · have e : agP D w i = true := bI_ne.mp (by rw [← hf]; exact h17)
        rw [e, Bool.true_and] at hag
        refine m_bipush (v := 8) dX11_isSeen_20 (by decide) ?_
        refine m_aload_n dX11_isSeen_22 2 rfl ?_
        refine m_getR 42 143 dX11_isSeen_23 fl_X11_103_10 rfl (by decide) rfl (by first | assumption | rfl) ?_
        refine m_iload_n dX11_isSeen_26 0 rfl ?_
        refine m_iald dX11_isSeen_27 (by first | assumption | rfl) i rfl (by first | assumption | omega | decide) ?_
        refine mW.top et ?_
        refine m_imul dX11_isSeen_28 ?_
        refine m_aload_n dX11_isSeen_29 2 rfl ?_
        refine m_getR 43 144 dX11_isSeen_30 fl_X11_106_10 rfl (by decide) rfl (by first | assumption | rfl) ?_
        refine m_iload_n dX11_isSeen_33 0 rfl ?_
        refine m_iald dX11_isSeen_34 (by first | assumption | rfl) i rfl (by first | assumption | omega | decide) ?_
        refine mW.top ek ?_
        refine m_iadd dX11_isSeen_35 ?_
        refine mW.top (w := nI (8 * t + k)) (ix8 t k) ?_
        refine m_istore_n (ls1 := [(3, _), (2, _), (1, _), (0, _)]) dX11_isSeen_36 (by decide) rfl ?_
        refine m_aload_n dX11_isSeen_37 3 rfl ?_
        refine m_getR 43 144 dX11_isSeen_38 fl_X11_106_10 rfl (by decide) rfl (by first | assumption | rfl) ?_
        refine m_iload_n dX11_isSeen_41 1 rfl ?_
        refine m_iald dX11_isSeen_42 (by first | assumption | rfl) i rfl (by first | assumption | omega | decide) ?_
        refine mW.top ek ?_
        refine m_aload_n dX11_isSeen_43 3 rfl ?_
        refine m_getI 2 dX11_isSeen_44 fl_X11_161_10 rfl (by decide) (by first | assumption | rfl) ?_
        refine mW.top hc ?_
        refine m_icmp_ge dX11_isSeen_47 84 (by decide) (fun h47 => ?_) (fun h47 => ?_)
        · refine m_iconst (v := 0) dX11_isSeen_84 (by decide) ?_
          refine m_istore_n (ls1 := [(1, _), (3, _), (2, _), (0, _)]) dX11_isSeen_85 (by decide) rfl ?_
          refine m_iinc (v := nI (i + 1)) (ls1 := [(2, _), (1, _), (3, _), (0, _)]) dX11_isSeen_86 2 rfl (nI_1 i) (by decide) rfl ?_
          refine m_goto dX11_isSeen_89 8 (by decide) ?_
          refine mW.sub (ls1 := [(2, _), (1, _), (0, _)]) [0, 1, 3] rfl ?_
          exact ih _ (by rw [hag]; exact bI_neg (fun q => absurd q.1 (Int32.not_lt.mpr h47)))
        · have hkn : k < D.1.1 := (nlt (by omega) (by omega)).mp (Int32.not_le.mp h47)
          obtain ⟨q0, q1, -⟩ := (z1.1 t ht).2.2.2 k hkn
          refine m_aload_n dX11_isSeen_50 3 rfl ?_
          refine m_getR 32 134 dX11_isSeen_51 fl_X11_76_10 rfl (by decide) rfl (by first | assumption | rfl) ?_
          refine m_iload_n dX11_isSeen_54 0 rfl ?_
          refine m_iald dX11_isSeen_55 (by first | assumption | rfl) (8 * t + k) rfl (by first | assumption | omega | decide) ?_
          refine mW.top q0 ?_
          refine m_aload_n dX11_isSeen_56 3 rfl ?_
          refine m_getR 44 145 dX11_isSeen_57 fl_X11_109_10 rfl (by decide) rfl (by first | assumption | rfl) ?_
          refine m_iload_n dX11_isSeen_60 1 rfl ?_
          refine m_iald dX11_isSeen_61 (by first | assumption | rfl) i rfl (by first | assumption | omega | decide) ?_
          refine mW.top w2 ?_
          refine m_icmp_ne dX11_isSeen_62 84 (by decide) (fun h62 => ?_) (fun h62 => ?_)
          · refine m_iconst (v := 0) dX11_isSeen_84 (by decide) ?_
            refine m_istore_n (ls1 := [(1, _), (3, _), (2, _), (0, _)]) dX11_isSeen_85 (by decide) rfl ?_
            refine m_iinc (v := nI (i + 1)) (ls1 := [(2, _), (1, _), (3, _), (0, _)]) dX11_isSeen_86 2 rfl (nI_1 i) (by decide) rfl ?_
            refine m_goto dX11_isSeen_89 8 (by decide) ?_
            refine mW.sub (ls1 := [(2, _), (1, _), (0, _)]) [0, 1, 3] rfl ?_
            refine ih _ ?_
            rw [hag]
            first | exact bI_pos (And.intro (Int32.not_le.mp h47) (And.intro h62 h77)) | exact bI_neg (fun q => by first | exact absurd q.2.1 h62 | exact absurd q.2.2 h77)
          · refine m_aload_n dX11_isSeen_65 3 rfl ?_
            refine m_getR 33 135 dX11_isSeen_66 fl_X11_79_10 rfl (by decide) rfl (by first | assumption | rfl) ?_
            refine m_iload_n dX11_isSeen_69 0 rfl ?_
            refine m_iald dX11_isSeen_70 (by first | assumption | rfl) (8 * t + k) rfl (by first | assumption | omega | decide) ?_
            refine mW.top q1 ?_
            refine m_aload_n dX11_isSeen_71 3 rfl ?_
            refine m_getR 45 146 dX11_isSeen_72 fl_X11_112_10 rfl (by decide) rfl (by first | assumption | rfl) ?_
            refine m_iload_n dX11_isSeen_75 1 rfl ?_
            refine m_iald dX11_isSeen_76 (by first | assumption | rfl) i rfl (by first | assumption | omega | decide) ?_
            refine mW.top w3 ?_
            refine m_icmp_ne dX11_isSeen_77 84 (by decide) (fun h77 => ?_) (fun h77 => ?_)
            · refine m_iconst (v := 0) dX11_isSeen_84 (by decide) ?_
              refine m_istore_n (ls1 := [(1, _), (3, _), (2, _), (0, _)]) dX11_isSeen_85 (by decide) rfl ?_
              refine m_iinc (v := nI (i + 1)) (ls1 := [(2, _), (1, _), (3, _), (0, _)]) dX11_isSeen_86 2 rfl (nI_1 i) (by decide) rfl ?_
              refine m_goto dX11_isSeen_89 8 (by decide) ?_
              refine mW.sub (ls1 := [(2, _), (1, _), (0, _)]) [0, 1, 3] rfl ?_
              refine ih _ ?_
              rw [hag]
              first | exact bI_pos (And.intro (Int32.not_le.mp h47) (And.intro h62 h77)) | exact bI_neg (fun q => by first | exact absurd q.2.1 h62 | exact absurd q.2.2 h77)
            · refine m_iconst (v := 1) dX11_isSeen_80 (by decide) ?_
              refine m_goto dX11_isSeen_81 85 (by decide) ?_
              refine m_istore_n (ls1 := [(1, _), (3, _), (2, _), (0, _)]) dX11_isSeen_85 (by decide) rfl ?_
              refine m_iinc (v := nI (i + 1)) (ls1 := [(2, _), (1, _), (3, _), (0, _)]) dX11_isSeen_86 2 rfl (nI_1 i) (by decide) rfl ?_
              refine m_goto dX11_isSeen_89 8 (by decide) ?_
              refine mW.sub (ls1 := [(2, _), (1, _), (0, _)]) [0, 1, 3] rfl ?_
              refine ih _ ?_
              rw [hag]
              first | exact bI_pos (And.intro (Int32.not_le.mp h47) (And.intro h62 h77)) | exact bI_neg (fun q => by first | exact absurd q.2.1 h62 | exact absurd q.2.2 h77)
theorem c_neverNow (hd : 8 ≤ d) (L0 L1 e : Nat) (ok : okR σ L0 L1 e) (z : Nat) (hs : okS σ z) : mMet G l d kX11_neverNow [.ref 111] σ (qIP (fun r s => r = nvP (Dt σ L0 L1 e) z (seF σ) e ∧ fW wScr σ s)) := by
  have hev : σ.1 111 12 = nI e := ok.2.2.2.2.1
  have he8 : e ≤ 8 := ok.2.2.2.2.2
  refine mMet.of cm_X11_neverNow rfl (Nat.le_of_ble_eq_true rfl) rfl (fun v1 σ1 h => by obtain ⟨r, h1, -⟩ := h; rw [h1]; rfl) ?_
  refine m_aload_n dX11_neverNow_0 0 rfl ?_
  refine m_callV (As := []) dX11_neverNow_1 cv_X11_270 (by first | assumption | rfl) (by decide) (by omega) rfl rfl (Nat.le_of_ble_eq_true rfl) (c_asTold (d := d - 1) (by omega) L0 L1 e ok) (fun v1 σ1 hv1 => ?_)
  refine m_qVP hv1 (fun ha => ?_)
  clear hv1 v1
  rename mS => s0
  obtain ⟨a1, a2, a3⟩ := ha
  generalize Dt σ L0 L1 e = D at *
  have hse : seF s0 = seF σ := seF_eq (fun y _ _ => a3.row (fun z => by omega))
  have q12 : s0.1 111 12 = nI e := (a3.at (by omega)).trans hev
  have q41 : okS s0 z := hs.tr a3 (by omega) (fun y z _ _ => by omega)
  have m0 := repM.of a1
  refine m_iconst (v := 0) dX11_neverNow_4 (by decide) ?_
  refine m_istore_n (ls1 := [(1, _), (0, _)]) dX11_neverNow_5 (by decide) rfl ?_
  refine m_iconst (v := 0) dX11_neverNow_6 (by decide) ?_
  refine m_istore_n (ls1 := [(2, _), (1, _), (0, _)]) dX11_neverNow_7 (by decide) rfl ?_
  refine down (N := e) (fun i (q : mS × Int32) => q.2 = nvP D z (seF σ) i ∧ fW wSq s0 q.1) (fun i q => mW G l d kX11_neverNow 8 [(2, .int (nI i)), (1, .int q.2), (0, .ref 111)] [] q.1 _) ?_ ?_ 0 (s0, 0) (Nat.zero_le _) ⟨rfl, fW.rf⟩
  · rintro ⟨s, f⟩ ⟨hf, fr⟩
    show mW G l d kX11_neverNow 8 [(2, .int (nI e)), (1, .int f), (0, .ref 111)] [] s _
    refine m_iload_n dX11_neverNow_8 0 rfl ?_
    refine m_aload_n dX11_neverNow_9 2 rfl ?_
    refine m_getI 12 dX11_neverNow_10 fl_X11_204_10 rfl (by decide) (by first | assumption | rfl) ?_
    refine m_icmp_ge dX11_neverNow_13 46 (by decide) (fun h => ?_) (fun h => ?_)
    · refine m_iload_n dX11_neverNow_46 1 rfl ?_
      exact m_ireturn dX11_neverNow_47 ⟨_, rfl, hf, a3.tr (fr.mono (fun y z h => by omega))⟩
    · exact (ge_yes h ((fr.at (by omega)).trans q12)).elim
  · rintro i ⟨s, f⟩ hi ⟨hf, fr⟩ ih
    have hf' : f = nvP D z (seF σ) i := hf
    show mW G l d kX11_neverNow 8 [(2, .int (nI i)), (1, .int f), (0, .ref 111)] [] s _
    refine m_iload_n dX11_neverNow_8 0 rfl ?_
    refine m_aload_n dX11_neverNow_9 2 rfl ?_
    refine m_getI 12 dX11_neverNow_10 fl_X11_204_10 rfl (by decide) (by first | assumption | rfl) ?_
    refine m_icmp_ge dX11_neverNow_13 46 (by decide) (fun h => ?_) (fun h => ?_)
    · exact (ge_no ((fr.at (by omega)).trans q12) h rfl hi (by omega)).elim
    · clear h
      refine m_aload_n dX11_neverNow_16 2 rfl ?_
      refine m_iconst (v := 1) dX11_neverNow_17 (by decide) ?_
      refine m_iload_n dX11_neverNow_18 0 rfl ?_
      refine m_ishl dX11_neverNow_19 ?_
      refine m_putI 21 dX11_neverNow_20 fw_X11_223_10 rfl (by decide) rfl rfl (by first | assumption | rfl) ?_
      have r1 := (m0.tr (sqp fr)) (bit1 i)
      have f1 : fW wSq s0 (us s 111 21 (bit1 i)) := fW.us (by omega) fr
      have s1 : okS (us s 111 21 (bit1 i)) z := q41.tr f1 (by omega) (fun y z _ _ => by omega)
      have e1 : seF (us s 111 21 (bit1 i)) = seF σ := (seF_eq (fun y _ _ => f1.row (fun z => by omega))).trans hse
      have hM := c_isSeen (G := G) (l := l) (d := d - 1) (by omega) _ r1 z s1
      rw [e1] at hM
      refine m_iload_n dX11_neverNow_23 1 rfl ?_
      refine m_aload_n dX11_neverNow_24 2 rfl ?_
      refine m_callV (As := []) dX11_neverNow_25 cv_X11_337 (by first | assumption | rfl) (by decide) (by omega) rfl rfl (Nat.le_of_ble_eq_true rfl) hM (fun v1 σ1 hv1 => ?_)
      refine m_qIP hv1 (fun r1 hz => ?_)
      clear hv1 v1
      rename mS => s2
      obtain ⟨rfl, z1, z2⟩ := hz
      refine m_sel (pcJ := 38) ?_ (fun kt0 kf0 => m_if_eq dX11_neverNow_28 37 (by decide) (fun h => (m_iconst (v := 0) dX11_neverNow_37 (by decide) (kt0 h))) (fun h => (m_iconst (v := 1) dX11_neverNow_31 (by decide) (m_iload_n dX11_neverNow_32 0 rfl (m_ishl dX11_neverNow_33 (m_goto dX11_neverNow_34 38 (by decide) (kf0 h)))))))
      refine m_ior dX11_neverNow_38 ?_
      refine m_istore_n (ls1 := [(1, _), (2, _), (0, _)]) dX11_neverNow_39 (by decide) rfl ?_
      refine m_iinc (v := nI (i + 1)) (ls1 := [(2, _), (1, _), (0, _)]) dX11_neverNow_40 1 rfl (nI_1 i) (by decide) rfl ?_
      refine m_goto dX11_neverNow_43 8 (by decide) ?_
      refine mW.sub (ls1 := [(2, _), (1, _), (0, _)]) [0, 1, 2] rfl ?_
      refine ih (s2, _) ⟨?_, f1.tr (z2.mono (fun y z h => by omega))⟩
      show f ||| _ = _
      rw [hf', nvP]
      by_cases q : agP (maskD D (bit1 i)) (seF σ) z = true
      · rw [q]; rfl
      · rw [Bool.eq_false_iff.mpr q]; rfl
end SN


/-! ===== the reference's run ===== -/
section RR
variable {G : mG} {l : Launch} {d : Nat} {σ : mS}
/-- what the reference's rows hold of the run, at moment m -/
abbrev gR (σ : mS) (m : Nat) : RS := (σ.1 128, σ.1 129, σ.1 130, σ.1 131, σ.1 132, σ.1 133, σ.1 111 28, σ.1 111 29, σ.1 111 30, σ.1 111 31, σ.1 141 m)
/-- nothing else has changed -/
def fR (m : Nat) (σ σ1 : mS) : Prop := σ1.2 = σ.2 ∧ ∀ y z, (128 ≤ y ∧ y ≤ 133) ∨ (y = 111 ∧ 28 ≤ z ∧ z ≤ 31) ∨ (y = 141 ∧ z = m) ∨ σ1.1 y z = σ.1 y z
theorem fR.rf {m : Nat} : fR m σ σ := ⟨rfl, fun _ _ => Or.inr (Or.inr (Or.inr rfl))⟩
theorem us_at (x j : Nat) (v : Int32) (y z : Nat) : (us σ x j v).1 y z = if y = x ∧ z = j then v else σ.1 y z := by
  unfold us
  by_cases h : y = x
  · subst h
    by_cases h2 : z = j
    · subst h2; simp [pk_us]
    · simp [pk_un h2, h2]
  · simp [h]
theorem fR.us {m y0 z0 : Nat} {v : Int32} {σ0 : mS} (h : (128 ≤ y0 ∧ y0 ≤ 133) ∨ (y0 = 111 ∧ 28 ≤ z0 ∧ z0 ≤ 31) ∨ (y0 = 141 ∧ z0 = m)) (k : fR m σ σ0) : fR m σ (us σ0 y0 z0 v) := by
  refine ⟨k.1, fun y z => ?_⟩
  rw [us_at]
  by_cases h2 : y = y0 ∧ z = z0
  · obtain ⟨rfl, rfl⟩ := h2
    rcases h with h | h | h
    · exact Or.inl h
    · exact Or.inr (Or.inl h)
    · exact Or.inr (Or.inr (Or.inl h))
  · rw [if_neg h2]
    exact k.2 y z
theorem fR.tr {m : Nat} {σ0 σ1 : mS} (h : fR m σ σ0) (k : fR m σ0 σ1) : fR m σ σ1 := by
  refine ⟨k.1.trans h.1, fun y z => ?_⟩
  rcases k.2 y z with h1 | h1 | h1 | h1
  · exact Or.inl h1
  · exact Or.inr (Or.inl h1)
  · exact Or.inr (Or.inr (Or.inl h1))
  · rw [h1]; exact h.2 y z
theorem fR.at {m y z : Nat} {s : mS} (k : fR m σ s) (h : ¬ ((128 ≤ y ∧ y ≤ 133) ∨ (y = 111 ∧ 28 ≤ z ∧ z ≤ 31) ∨ (y = 141 ∧ z = m))) : s.1 y z = σ.1 y z := by
  rcases k.2 y z with h1 | h1 | h1 | h1
  · exact absurd (Or.inl h1) h
  · exact absurd (Or.inr (Or.inl h1)) h
  · exact absurd (Or.inr (Or.inr h1)) h
  · exact h1
theorem fR.row {m y : Nat} {s : mS} (k : fR m σ s) (h : ¬ ((128 ≤ y ∧ y ≤ 133) ∨ y = 111 ∨ y = 141)) : s.1 y = σ.1 y := funext fun z => k.at (by omega)
theorem dX11_whoIn_0 : decode cX11_whoIn 0 = .ok (.iconst (-1), 1) := by decide +kernel
theorem dX11_whoIn_1 : decode cX11_whoIn 1 = .ok (.istore_n 3, 1) := by decide +kernel
theorem dX11_whoIn_2 : decode cX11_whoIn 2 = .ok (.iconst 0, 1) := by decide +kernel
theorem dX11_whoIn_3 : decode cX11_whoIn 3 = .ok (.istore 4, 2) := by decide +kernel
theorem dX11_whoIn_5 : decode cX11_whoIn 5 = .ok (.iload 4, 2) := by decide +kernel
theorem dX11_whoIn_7 : decode cX11_whoIn 7 = .ok (.aload_n 0, 1) := by decide +kernel
theorem dX11_whoIn_8 : decode cX11_whoIn 8 = .ok (.getfield 161, 3) := by decide +kernel
theorem dX11_whoIn_11 : decode cX11_whoIn 11 = .ok (.if_icmp .ge 38, 3) := by decide +kernel
theorem dX11_whoIn_14 : decode cX11_whoIn 14 = .ok (.aload_n 0, 1) := by decide +kernel
theorem dX11_whoIn_15 : decode cX11_whoIn 15 = .ok (.getfield 58, 3) := by decide +kernel
theorem dX11_whoIn_18 : decode cX11_whoIn 18 = .ok (.iload 4, 2) := by decide +kernel
theorem dX11_whoIn_20 : decode cX11_whoIn 20 = .ok (.iaload, 1) := by decide +kernel
theorem dX11_whoIn_21 : decode cX11_whoIn 21 = .ok (.iload_n 1, 1) := by decide +kernel
theorem dX11_whoIn_22 : decode cX11_whoIn 22 = .ok (.if_icmp .ne 19, 3) := by decide +kernel
theorem dX11_whoIn_25 : decode cX11_whoIn 25 = .ok (.aload_n 0, 1) := by decide +kernel
theorem dX11_whoIn_26 : decode cX11_whoIn 26 = .ok (.getfield 61, 3) := by decide +kernel
theorem dX11_whoIn_29 : decode cX11_whoIn 29 = .ok (.iload 4, 2) := by decide +kernel
theorem dX11_whoIn_31 : decode cX11_whoIn 31 = .ok (.iaload, 1) := by decide +kernel
theorem dX11_whoIn_32 : decode cX11_whoIn 32 = .ok (.iload_n 2, 1) := by decide +kernel
theorem dX11_whoIn_33 : decode cX11_whoIn 33 = .ok (.if_icmp .ne 8, 3) := by decide +kernel
theorem dX11_whoIn_36 : decode cX11_whoIn 36 = .ok (.iload 4, 2) := by decide +kernel
theorem dX11_whoIn_38 : decode cX11_whoIn 38 = .ok (.goto 4, 3) := by decide +kernel
theorem dX11_whoIn_41 : decode cX11_whoIn 41 = .ok (.iload_n 3, 1) := by decide +kernel
theorem dX11_whoIn_42 : decode cX11_whoIn 42 = .ok (.istore_n 3, 1) := by decide +kernel
theorem dX11_whoIn_43 : decode cX11_whoIn 43 = .ok (.iinc 4 1, 3) := by decide +kernel
theorem dX11_whoIn_46 : decode cX11_whoIn 46 = .ok (.goto (-41), 3) := by decide +kernel
theorem dX11_whoIn_49 : decode cX11_whoIn 49 = .ok (.iload_n 3, 1) := by decide +kernel
theorem dX11_whoIn_50 : decode cX11_whoIn 50 = .ok (.ireturn, 1) := by decide +kernel
theorem dX11_comes_0 : decode cX11_comes 0 = .ok (.aload_n 0, 1) := by decide +kernel
theorem dX11_comes_1 : decode cX11_comes 1 = .ok (.getfield 58, 3) := by decide +kernel
theorem dX11_comes_4 : decode cX11_comes 4 = .ok (.iload_n 1, 1) := by decide +kernel
theorem dX11_comes_5 : decode cX11_comes 5 = .ok (.iload_n 2, 1) := by decide +kernel
theorem dX11_comes_6 : decode cX11_comes 6 = .ok (.iastore, 1) := by decide +kernel
theorem dX11_comes_7 : decode cX11_comes 7 = .ok (.aload_n 0, 1) := by decide +kernel
theorem dX11_comes_8 : decode cX11_comes 8 = .ok (.getfield 61, 3) := by decide +kernel
theorem dX11_comes_11 : decode cX11_comes 11 = .ok (.iload_n 1, 1) := by decide +kernel
theorem dX11_comes_12 : decode cX11_comes 12 = .ok (.iload_n 3, 1) := by decide +kernel
theorem dX11_comes_13 : decode cX11_comes 13 = .ok (.iastore, 1) := by decide +kernel
theorem dX11_comes_14 : decode cX11_comes 14 = .ok (.return_, 1) := by decide +kernel
theorem dX11_runsInto_0 : decode cX11_runsInto 0 = .ok (.aload_n 0, 1) := by decide +kernel
theorem dX11_runsInto_1 : decode cX11_runsInto 1 = .ok (.getfield 64, 3) := by decide +kernel
theorem dX11_runsInto_4 : decode cX11_runsInto 4 = .ok (.iload_n 2, 1) := by decide +kernel
theorem dX11_runsInto_5 : decode cX11_runsInto 5 = .ok (.iaload, 1) := by decide +kernel
theorem dX11_runsInto_6 : decode cX11_runsInto 6 = .ok (.iload_n 3, 1) := by decide +kernel
theorem dX11_runsInto_7 : decode cX11_runsInto 7 = .ok (.isub, 1) := by decide +kernel
theorem dX11_runsInto_8 : decode cX11_runsInto 8 = .ok (.iconst 4, 1) := by decide +kernel
theorem dX11_runsInto_9 : decode cX11_runsInto 9 = .ok (.iadd, 1) := by decide +kernel
theorem dX11_runsInto_10 : decode cX11_runsInto 10 = .ok (.iconst 4, 1) := by decide +kernel
theorem dX11_runsInto_11 : decode cX11_runsInto 11 = .ok (.irem, 1) := by decide +kernel
theorem dX11_runsInto_12 : decode cX11_runsInto 12 = .ok (.istore 5, 2) := by decide +kernel
theorem dX11_runsInto_14 : decode cX11_runsInto 14 = .ok (.aload_n 0, 1) := by decide +kernel
theorem dX11_runsInto_15 : decode cX11_runsInto 15 = .ok (.getfield 67, 3) := by decide +kernel
theorem dX11_runsInto_18 : decode cX11_runsInto 18 = .ok (.iload_n 1, 1) := by decide +kernel
theorem dX11_runsInto_19 : decode cX11_runsInto 19 = .ok (.dup2, 1) := by decide +kernel
theorem dX11_runsInto_20 : decode cX11_runsInto 20 = .ok (.iaload, 1) := by decide +kernel
theorem dX11_runsInto_21 : decode cX11_runsInto 21 = .ok (.iload 5, 2) := by decide +kernel
theorem dX11_runsInto_23 : decode cX11_runsInto 23 = .ok (.iconst 2, 1) := by decide +kernel
theorem dX11_runsInto_24 : decode cX11_runsInto 24 = .ok (.if_icmp .ne 7, 3) := by decide +kernel
theorem dX11_runsInto_27 : decode cX11_runsInto 27 = .ok (.iconst 3, 1) := by decide +kernel
theorem dX11_runsInto_28 : decode cX11_runsInto 28 = .ok (.goto 13, 3) := by decide +kernel
theorem dX11_runsInto_31 : decode cX11_runsInto 31 = .ok (.iload 5, 2) := by decide +kernel
theorem dX11_runsInto_33 : decode cX11_runsInto 33 = .ok (.ifCond .ne 7, 3) := by decide +kernel
theorem dX11_runsInto_36 : decode cX11_runsInto 36 = .ok (.iconst 1, 1) := by decide +kernel
theorem dX11_runsInto_37 : decode cX11_runsInto 37 = .ok (.goto 4, 3) := by decide +kernel
theorem dX11_runsInto_40 : decode cX11_runsInto 40 = .ok (.iconst 2, 1) := by decide +kernel
theorem dX11_runsInto_41 : decode cX11_runsInto 41 = .ok (.iadd, 1) := by decide +kernel
theorem dX11_runsInto_42 : decode cX11_runsInto 42 = .ok (.iastore, 1) := by decide +kernel
theorem dX11_runsInto_43 : decode cX11_runsInto 43 = .ok (.aload_n 0, 1) := by decide +kernel
theorem dX11_runsInto_44 : decode cX11_runsInto 44 = .ok (.getfield 70, 3) := by decide +kernel
theorem dX11_runsInto_47 : decode cX11_runsInto 47 = .ok (.iload_n 2, 1) := by decide +kernel
theorem dX11_runsInto_48 : decode cX11_runsInto 48 = .ok (.dup2, 1) := by decide +kernel
theorem dX11_runsInto_49 : decode cX11_runsInto 49 = .ok (.iaload, 1) := by decide +kernel
theorem dX11_runsInto_50 : decode cX11_runsInto 50 = .ok (.iconst 1, 1) := by decide +kernel
theorem dX11_runsInto_51 : decode cX11_runsInto 51 = .ok (.iadd, 1) := by decide +kernel
theorem dX11_runsInto_52 : decode cX11_runsInto 52 = .ok (.iastore, 1) := by decide +kernel
theorem dX11_runsInto_53 : decode cX11_runsInto 53 = .ok (.aload_n 0, 1) := by decide +kernel
theorem dX11_runsInto_54 : decode cX11_runsInto 54 = .ok (.getfield 73, 3) := by decide +kernel
theorem dX11_runsInto_57 : decode cX11_runsInto 57 = .ok (.iload_n 1, 1) := by decide +kernel
theorem dX11_runsInto_58 : decode cX11_runsInto 58 = .ok (.dup2, 1) := by decide +kernel
theorem dX11_runsInto_59 : decode cX11_runsInto 59 = .ok (.iaload, 1) := by decide +kernel
theorem dX11_runsInto_60 : decode cX11_runsInto 60 = .ok (.iconst 1, 1) := by decide +kernel
theorem dX11_runsInto_61 : decode cX11_runsInto 61 = .ok (.iadd, 1) := by decide +kernel
theorem dX11_runsInto_62 : decode cX11_runsInto 62 = .ok (.iastore, 1) := by decide +kernel
theorem dX11_runsInto_63 : decode cX11_runsInto 63 = .ok (.aload_n 0, 1) := by decide +kernel
theorem dX11_runsInto_64 : decode cX11_runsInto 64 = .ok (.dup, 1) := by decide +kernel
theorem dX11_runsInto_65 : decode cX11_runsInto 65 = .ok (.getfield 226, 3) := by decide +kernel
theorem dX11_runsInto_68 : decode cX11_runsInto 68 = .ok (.iconst 1, 1) := by decide +kernel
theorem dX11_runsInto_69 : decode cX11_runsInto 69 = .ok (.iadd, 1) := by decide +kernel
theorem dX11_runsInto_70 : decode cX11_runsInto 70 = .ok (.putfield 226, 3) := by decide +kernel
theorem dX11_runsInto_73 : decode cX11_runsInto 73 = .ok (.aload_n 0, 1) := by decide +kernel
theorem dX11_runsInto_74 : decode cX11_runsInto 74 = .ok (.aload_n 0, 1) := by decide +kernel
theorem dX11_runsInto_75 : decode cX11_runsInto 75 = .ok (.getfield 229, 3) := by decide +kernel
theorem dX11_runsInto_78 : decode cX11_runsInto 78 = .ok (.iconst (-1), 1) := by decide +kernel
theorem dX11_runsInto_79 : decode cX11_runsInto 79 = .ok (.if_icmp .ne 7, 3) := by decide +kernel
theorem dX11_runsInto_82 : decode cX11_runsInto 82 = .ok (.iload_n 1, 1) := by decide +kernel
theorem dX11_runsInto_83 : decode cX11_runsInto 83 = .ok (.goto 7, 3) := by decide +kernel
theorem dX11_runsInto_86 : decode cX11_runsInto 86 = .ok (.aload_n 0, 1) := by decide +kernel
theorem dX11_runsInto_87 : decode cX11_runsInto 87 = .ok (.getfield 232, 3) := by decide +kernel
theorem dX11_runsInto_90 : decode cX11_runsInto 90 = .ok (.putfield 232, 3) := by decide +kernel
theorem dX11_runsInto_93 : decode cX11_runsInto 93 = .ok (.aload_n 0, 1) := by decide +kernel
theorem dX11_runsInto_94 : decode cX11_runsInto 94 = .ok (.aload_n 0, 1) := by decide +kernel
theorem dX11_runsInto_95 : decode cX11_runsInto 95 = .ok (.getfield 229, 3) := by decide +kernel
theorem dX11_runsInto_98 : decode cX11_runsInto 98 = .ok (.iconst (-1), 1) := by decide +kernel
theorem dX11_runsInto_99 : decode cX11_runsInto 99 = .ok (.if_icmp .ne 8, 3) := by decide +kernel
theorem dX11_runsInto_102 : decode cX11_runsInto 102 = .ok (.iload 4, 2) := by decide +kernel
theorem dX11_runsInto_104 : decode cX11_runsInto 104 = .ok (.goto 7, 3) := by decide +kernel
theorem dX11_runsInto_107 : decode cX11_runsInto 107 = .ok (.aload_n 0, 1) := by decide +kernel
theorem dX11_runsInto_108 : decode cX11_runsInto 108 = .ok (.getfield 229, 3) := by decide +kernel
theorem dX11_runsInto_111 : decode cX11_runsInto 111 = .ok (.putfield 229, 3) := by decide +kernel
theorem dX11_runsInto_114 : decode cX11_runsInto 114 = .ok (.aload_n 0, 1) := by decide +kernel
theorem dX11_runsInto_115 : decode cX11_runsInto 115 = .ok (.getfield 58, 3) := by decide +kernel
theorem dX11_runsInto_118 : decode cX11_runsInto 118 = .ok (.iload_n 2, 1) := by decide +kernel
theorem dX11_runsInto_119 : decode cX11_runsInto 119 = .ok (.iaload, 1) := by decide +kernel
theorem dX11_runsInto_120 : decode cX11_runsInto 120 = .ok (.istore 6, 2) := by decide +kernel
theorem dX11_runsInto_122 : decode cX11_runsInto 122 = .ok (.aload_n 0, 1) := by decide +kernel
theorem dX11_runsInto_123 : decode cX11_runsInto 123 = .ok (.getfield 61, 3) := by decide +kernel
theorem dX11_runsInto_126 : decode cX11_runsInto 126 = .ok (.iload_n 2, 1) := by decide +kernel
theorem dX11_runsInto_127 : decode cX11_runsInto 127 = .ok (.iaload, 1) := by decide +kernel
theorem dX11_runsInto_128 : decode cX11_runsInto 128 = .ok (.istore 7, 2) := by decide +kernel
theorem dX11_runsInto_130 : decode cX11_runsInto 130 = .ok (.iload 6, 2) := by decide +kernel
theorem dX11_runsInto_132 : decode cX11_runsInto 132 = .ok (.iload_n 3, 1) := by decide +kernel
theorem dX11_runsInto_133 : decode cX11_runsInto 133 = .ok (.invokestatic 235, 3) := by decide +kernel
theorem dX11_runsInto_136 : decode cX11_runsInto 136 = .ok (.iadd, 1) := by decide +kernel
theorem dX11_runsInto_137 : decode cX11_runsInto 137 = .ok (.istore 8, 2) := by decide +kernel
theorem dX11_runsInto_139 : decode cX11_runsInto 139 = .ok (.iload 7, 2) := by decide +kernel
theorem dX11_runsInto_141 : decode cX11_runsInto 141 = .ok (.iload_n 3, 1) := by decide +kernel
theorem dX11_runsInto_142 : decode cX11_runsInto 142 = .ok (.invokestatic 238, 3) := by decide +kernel
theorem dX11_runsInto_145 : decode cX11_runsInto 145 = .ok (.iadd, 1) := by decide +kernel
theorem dX11_runsInto_146 : decode cX11_runsInto 146 = .ok (.istore 9, 2) := by decide +kernel
theorem dX11_runsInto_148 : decode cX11_runsInto 148 = .ok (.aload_n 0, 1) := by decide +kernel
theorem dX11_runsInto_149 : decode cX11_runsInto 149 = .ok (.getfield 28, 3) := by decide +kernel
theorem dX11_runsInto_152 : decode cX11_runsInto 152 = .ok (.iload_n 1, 1) := by decide +kernel
theorem dX11_runsInto_153 : decode cX11_runsInto 153 = .ok (.iaload, 1) := by decide +kernel
theorem dX11_runsInto_154 : decode cX11_runsInto 154 = .ok (.aload_n 0, 1) := by decide +kernel
theorem dX11_runsInto_155 : decode cX11_runsInto 155 = .ok (.getfield 28, 3) := by decide +kernel
theorem dX11_runsInto_158 : decode cX11_runsInto 158 = .ok (.iload_n 2, 1) := by decide +kernel
theorem dX11_runsInto_159 : decode cX11_runsInto 159 = .ok (.iaload, 1) := by decide +kernel
theorem dX11_runsInto_160 : decode cX11_runsInto 160 = .ok (.if_icmp .lt 52, 3) := by decide +kernel
theorem dX11_runsInto_163 : decode cX11_runsInto 163 = .ok (.iload 8, 2) := by decide +kernel
theorem dX11_runsInto_165 : decode cX11_runsInto 165 = .ok (.invokestatic 155, 3) := by decide +kernel
theorem dX11_runsInto_168 : decode cX11_runsInto 168 = .ok (.ifCond .eq 44, 3) := by decide +kernel
theorem dX11_runsInto_171 : decode cX11_runsInto 171 = .ok (.iload 9, 2) := by decide +kernel
theorem dX11_runsInto_173 : decode cX11_runsInto 173 = .ok (.invokestatic 155, 3) := by decide +kernel
theorem dX11_runsInto_176 : decode cX11_runsInto 176 = .ok (.ifCond .eq 36, 3) := by decide +kernel
theorem dX11_runsInto_179 : decode cX11_runsInto 179 = .ok (.aload_n 0, 1) := by decide +kernel
theorem dX11_runsInto_180 : decode cX11_runsInto 180 = .ok (.iload 8, 2) := by decide +kernel
theorem dX11_runsInto_182 : decode cX11_runsInto 182 = .ok (.iload 9, 2) := by decide +kernel
theorem dX11_runsInto_184 : decode cX11_runsInto 184 = .ok (.invokevirtual 241, 3) := by decide +kernel
theorem dX11_runsInto_187 : decode cX11_runsInto 187 = .ok (.iconst (-1), 1) := by decide +kernel
theorem dX11_runsInto_188 : decode cX11_runsInto 188 = .ok (.if_icmp .ne 24, 3) := by decide +kernel
theorem dX11_runsInto_191 : decode cX11_runsInto 191 = .ok (.aload_n 0, 1) := by decide +kernel
theorem dX11_runsInto_192 : decode cX11_runsInto 192 = .ok (.iload_n 2, 1) := by decide +kernel
theorem dX11_runsInto_193 : decode cX11_runsInto 193 = .ok (.iload 8, 2) := by decide +kernel
theorem dX11_runsInto_195 : decode cX11_runsInto 195 = .ok (.iload 9, 2) := by decide +kernel
theorem dX11_runsInto_197 : decode cX11_runsInto 197 = .ok (.invokevirtual 244, 3) := by decide +kernel
theorem dX11_runsInto_200 : decode cX11_runsInto 200 = .ok (.aload_n 0, 1) := by decide +kernel
theorem dX11_runsInto_201 : decode cX11_runsInto 201 = .ok (.iload_n 1, 1) := by decide +kernel
theorem dX11_runsInto_202 : decode cX11_runsInto 202 = .ok (.iload 6, 2) := by decide +kernel
theorem dX11_runsInto_204 : decode cX11_runsInto 204 = .ok (.iload 7, 2) := by decide +kernel
theorem dX11_runsInto_206 : decode cX11_runsInto 206 = .ok (.invokevirtual 244, 3) := by decide +kernel
theorem dX11_runsInto_209 : decode cX11_runsInto 209 = .ok (.goto 14, 3) := by decide +kernel
theorem dX11_runsInto_212 : decode cX11_runsInto 212 = .ok (.aload_n 0, 1) := by decide +kernel
theorem dX11_runsInto_213 : decode cX11_runsInto 213 = .ok (.getfield 97, 3) := by decide +kernel
theorem dX11_runsInto_216 : decode cX11_runsInto 216 = .ok (.iload 4, 2) := by decide +kernel
theorem dX11_runsInto_218 : decode cX11_runsInto 218 = .ok (.dup2, 1) := by decide +kernel
theorem dX11_runsInto_219 : decode cX11_runsInto 219 = .ok (.iaload, 1) := by decide +kernel
theorem dX11_runsInto_220 : decode cX11_runsInto 220 = .ok (.iconst 1, 1) := by decide +kernel
theorem dX11_runsInto_221 : decode cX11_runsInto 221 = .ok (.iadd, 1) := by decide +kernel
theorem dX11_runsInto_222 : decode cX11_runsInto 222 = .ok (.iastore, 1) := by decide +kernel
theorem dX11_runsInto_223 : decode cX11_runsInto 223 = .ok (.return_, 1) := by decide +kernel
theorem dX11_drives_0 : decode cX11_drives 0 = .ok (.aload_n 0, 1) := by decide +kernel
theorem dX11_drives_1 : decode cX11_drives 1 = .ok (.getfield 16, 3) := by decide +kernel
theorem dX11_drives_4 : decode cX11_drives 4 = .ok (.iload_n 1, 1) := by decide +kernel
theorem dX11_drives_5 : decode cX11_drives 5 = .ok (.iaload, 1) := by decide +kernel
theorem dX11_drives_6 : decode cX11_drives 6 = .ok (.iconst 2, 1) := by decide +kernel
theorem dX11_drives_7 : decode cX11_drives 7 = .ok (.if_icmp .ne 16, 3) := by decide +kernel
theorem dX11_drives_10 : decode cX11_drives 10 = .ok (.aload_n 0, 1) := by decide +kernel
theorem dX11_drives_11 : decode cX11_drives 11 = .ok (.getfield 64, 3) := by decide +kernel
theorem dX11_drives_14 : decode cX11_drives 14 = .ok (.iload_n 1, 1) := by decide +kernel
theorem dX11_drives_15 : decode cX11_drives 15 = .ok (.iaload, 1) := by decide +kernel
theorem dX11_drives_16 : decode cX11_drives 16 = .ok (.iconst 2, 1) := by decide +kernel
theorem dX11_drives_17 : decode cX11_drives 17 = .ok (.iadd, 1) := by decide +kernel
theorem dX11_drives_18 : decode cX11_drives 18 = .ok (.iconst 4, 1) := by decide +kernel
theorem dX11_drives_19 : decode cX11_drives 19 = .ok (.irem, 1) := by decide +kernel
theorem dX11_drives_20 : decode cX11_drives 20 = .ok (.goto 9, 3) := by decide +kernel
theorem dX11_drives_23 : decode cX11_drives 23 = .ok (.aload_n 0, 1) := by decide +kernel
theorem dX11_drives_24 : decode cX11_drives 24 = .ok (.getfield 64, 3) := by decide +kernel
theorem dX11_drives_27 : decode cX11_drives 27 = .ok (.iload_n 1, 1) := by decide +kernel
theorem dX11_drives_28 : decode cX11_drives 28 = .ok (.iaload, 1) := by decide +kernel
theorem dX11_drives_29 : decode cX11_drives 29 = .ok (.istore_n 3, 1) := by decide +kernel
theorem dX11_drives_30 : decode cX11_drives 30 = .ok (.aload_n 0, 1) := by decide +kernel
theorem dX11_drives_31 : decode cX11_drives 31 = .ok (.getfield 58, 3) := by decide +kernel
theorem dX11_drives_34 : decode cX11_drives 34 = .ok (.iload_n 1, 1) := by decide +kernel
theorem dX11_drives_35 : decode cX11_drives 35 = .ok (.iaload, 1) := by decide +kernel
theorem dX11_drives_36 : decode cX11_drives 36 = .ok (.iload_n 3, 1) := by decide +kernel
theorem dX11_drives_37 : decode cX11_drives 37 = .ok (.invokestatic 235, 3) := by decide +kernel
theorem dX11_drives_40 : decode cX11_drives 40 = .ok (.iadd, 1) := by decide +kernel
theorem dX11_drives_41 : decode cX11_drives 41 = .ok (.istore 4, 2) := by decide +kernel
theorem dX11_drives_43 : decode cX11_drives 43 = .ok (.aload_n 0, 1) := by decide +kernel
theorem dX11_drives_44 : decode cX11_drives 44 = .ok (.getfield 61, 3) := by decide +kernel
theorem dX11_drives_47 : decode cX11_drives 47 = .ok (.iload_n 1, 1) := by decide +kernel
theorem dX11_drives_48 : decode cX11_drives 48 = .ok (.iaload, 1) := by decide +kernel
theorem dX11_drives_49 : decode cX11_drives 49 = .ok (.iload_n 3, 1) := by decide +kernel
theorem dX11_drives_50 : decode cX11_drives 50 = .ok (.invokestatic 238, 3) := by decide +kernel
theorem dX11_drives_53 : decode cX11_drives 53 = .ok (.iadd, 1) := by decide +kernel
theorem dX11_drives_54 : decode cX11_drives 54 = .ok (.istore 5, 2) := by decide +kernel
theorem dX11_drives_56 : decode cX11_drives 56 = .ok (.aload_n 0, 1) := by decide +kernel
theorem dX11_drives_57 : decode cX11_drives 57 = .ok (.iload 4, 2) := by decide +kernel
theorem dX11_drives_59 : decode cX11_drives 59 = .ok (.iload 5, 2) := by decide +kernel
theorem dX11_drives_61 : decode cX11_drives 61 = .ok (.invokevirtual 241, 3) := by decide +kernel
theorem dX11_drives_64 : decode cX11_drives 64 = .ok (.istore 6, 2) := by decide +kernel
theorem dX11_drives_66 : decode cX11_drives 66 = .ok (.iload 4, 2) := by decide +kernel
theorem dX11_drives_68 : decode cX11_drives 68 = .ok (.invokestatic 155, 3) := by decide +kernel
theorem dX11_drives_71 : decode cX11_drives 71 = .ok (.ifCond .eq 11, 3) := by decide +kernel
theorem dX11_drives_74 : decode cX11_drives 74 = .ok (.iload 5, 2) := by decide +kernel
theorem dX11_drives_76 : decode cX11_drives 76 = .ok (.invokestatic 155, 3) := by decide +kernel
theorem dX11_drives_79 : decode cX11_drives 79 = .ok (.ifCond .ne 22, 3) := by decide +kernel
theorem dX11_drives_82 : decode cX11_drives 82 = .ok (.aload_n 0, 1) := by decide +kernel
theorem dX11_drives_83 : decode cX11_drives 83 = .ok (.getfield 64, 3) := by decide +kernel
theorem dX11_drives_86 : decode cX11_drives 86 = .ok (.iload_n 1, 1) := by decide +kernel
theorem dX11_drives_87 : decode cX11_drives 87 = .ok (.aload_n 0, 1) := by decide +kernel
theorem dX11_drives_88 : decode cX11_drives 88 = .ok (.getfield 64, 3) := by decide +kernel
theorem dX11_drives_91 : decode cX11_drives 91 = .ok (.iload_n 1, 1) := by decide +kernel
theorem dX11_drives_92 : decode cX11_drives 92 = .ok (.iaload, 1) := by decide +kernel
theorem dX11_drives_93 : decode cX11_drives 93 = .ok (.iconst 2, 1) := by decide +kernel
theorem dX11_drives_94 : decode cX11_drives 94 = .ok (.iadd, 1) := by decide +kernel
theorem dX11_drives_95 : decode cX11_drives 95 = .ok (.iconst 4, 1) := by decide +kernel
theorem dX11_drives_96 : decode cX11_drives 96 = .ok (.irem, 1) := by decide +kernel
theorem dX11_drives_97 : decode cX11_drives 97 = .ok (.iastore, 1) := by decide +kernel
theorem dX11_drives_98 : decode cX11_drives 98 = .ok (.goto 30, 3) := by decide +kernel
theorem dX11_drives_101 : decode cX11_drives 101 = .ok (.iload 6, 2) := by decide +kernel
theorem dX11_drives_103 : decode cX11_drives 103 = .ok (.iconst (-1), 1) := by decide +kernel
theorem dX11_drives_104 : decode cX11_drives 104 = .ok (.if_icmp .ne 15, 3) := by decide +kernel
theorem dX11_drives_107 : decode cX11_drives 107 = .ok (.aload_n 0, 1) := by decide +kernel
theorem dX11_drives_108 : decode cX11_drives 108 = .ok (.iload_n 1, 1) := by decide +kernel
theorem dX11_drives_109 : decode cX11_drives 109 = .ok (.iload 4, 2) := by decide +kernel
theorem dX11_drives_111 : decode cX11_drives 111 = .ok (.iload 5, 2) := by decide +kernel
theorem dX11_drives_113 : decode cX11_drives 113 = .ok (.invokevirtual 244, 3) := by decide +kernel
theorem dX11_drives_116 : decode cX11_drives 116 = .ok (.goto 12, 3) := by decide +kernel
theorem dX11_drives_119 : decode cX11_drives 119 = .ok (.aload_n 0, 1) := by decide +kernel
theorem dX11_drives_120 : decode cX11_drives 120 = .ok (.iload_n 1, 1) := by decide +kernel
theorem dX11_drives_121 : decode cX11_drives 121 = .ok (.iload 6, 2) := by decide +kernel
theorem dX11_drives_123 : decode cX11_drives 123 = .ok (.iload_n 3, 1) := by decide +kernel
theorem dX11_drives_124 : decode cX11_drives 124 = .ok (.iload_n 2, 1) := by decide +kernel
theorem dX11_drives_125 : decode cX11_drives 125 = .ok (.invokevirtual 248, 3) := by decide +kernel
theorem dX11_drives_128 : decode cX11_drives 128 = .ok (.return_, 1) := by decide +kernel
theorem c_stepX (w : Int32) : mMet G l d kX11_stepX [.int w] σ (qI (stX w) σ) := by
  refine mMet.of cm_X11_stepX rfl (Nat.le_of_ble_eq_true rfl) rfl (fun v1 σ1 h => by rw [h.1]; rfl) ?_
  refine m_iload_n dX11_stepX_0 0 rfl ?_
  refine m_sel (pcJ := 18) ?_ (fun kt0 kf0 => m_if_ne dX11_stepX_1 8 (by decide) (fun h => (m_iload_n dX11_stepX_8 0 rfl (m_iconst (v := 2) dX11_stepX_9 (by decide) (m_sel (pcJ := 18) (kf0 h) (fun kt1 kf1 => m_icmp_ne dX11_stepX_10 17 (by decide) (fun h => (m_iconst (v := 0) dX11_stepX_17 (by decide) (kf1 h))) (fun h => (m_iconst (v := -1) dX11_stepX_13 (by decide) (m_goto dX11_stepX_14 18 (by decide) (kt1 h))))))))) (fun h => (m_iconst (v := 1) dX11_stepX_4 (by decide) (m_goto dX11_stepX_5 18 (by decide) (kt0 h)))))
  refine m_ireturn dX11_stepX_18 ?_
  exact ⟨rfl, rfl⟩
theorem c_stepY (w : Int32) : mMet G l d kX11_stepY [.int w] σ (qI (stY w) σ) := by
  refine mMet.of cm_X11_stepY rfl (Nat.le_of_ble_eq_true rfl) rfl (fun v1 σ1 h => by rw [h.1]; rfl) ?_
  refine m_iload_n dX11_stepY_0 0 rfl ?_
  refine m_iconst (v := 1) dX11_stepY_1 (by decide) ?_
  refine m_sel (pcJ := 19) ?_ (fun kt0 kf0 => m_icmp_ne dX11_stepY_2 9 (by decide) (fun h => (m_iload_n dX11_stepY_9 0 rfl (m_iconst (v := 3) dX11_stepY_10 (by decide) (m_sel (pcJ := 19) (kf0 h) (fun kt1 kf1 => m_icmp_ne dX11_stepY_11 18 (by decide) (fun h => (m_iconst (v := 0) dX11_stepY_18 (by decide) (kf1 h))) (fun h => (m_iconst (v := -1) dX11_stepY_14 (by decide) (m_goto dX11_stepY_15 19 (by decide) (kt1 h))))))))) (fun h => (m_iconst (v := 1) dX11_stepY_5 (by decide) (m_goto dX11_stepY_6 19 (by decide) (kt0 h)))))
  refine m_ireturn dX11_stepY_19 ?_
  exact ⟨rfl, rfl⟩
theorem c_isSix (hd : 1 ≤ d) (v : Int32) : mMet G l d kX11_isSix [.int v] σ (qI (bI (decide (six v))) σ) := by
  refine mMet.of cm_X11_isSix rfl (Nat.le_of_ble_eq_true rfl) rfl (fun v1 σ1 h => by rw [h.1]; exact bI_nar _) ?_
  refine m_iload_n dX11_isSix_0 0 rfl ?_
  refine m_iconst (v := 0) dX11_isSix_1 (by decide) ?_
  refine m_iconst (v := 5) dX11_isSix_2 (by decide) ?_
  refine m_callS (As := [_, _, _]) dX11_isSix_3 cs_X11_136 (by omega) rfl rfl (Nat.le_of_ble_eq_true rfl) (c_in (d := d - 1) v 0 5) (fun v1 σ1 hv1 => ?_)
  refine m_qI hv1 ?_
  clear hv1 v1 σ1
  refine m_ireturn dX11_isSix_6 ?_
  exact ⟨rfl, rfl⟩
theorem whoIn_of (xs ys : Nat → Int32) (x y : Int32) : ∀ n, n ≤ 8 → whoIn xs ys x y n = -1 ∨ ∃ j, j < n ∧ whoIn xs ys x y n = nI j
  | 0, _ => Or.inl rfl
  | k + 1, h => by
    unfold whoIn
    by_cases h1 : xs k = x ∧ ys k = y
    · rw [if_pos h1]; exact Or.inr ⟨k, by omega, rfl⟩
    · rw [if_neg h1]
      rcases whoIn_of xs ys x y k (by omega) with h2 | ⟨j, h2, h3⟩
      · exact Or.inl h2
      · exact Or.inr ⟨j, by omega, h3⟩
theorem c_whoIn (n : Nat) (hn : n ≤ 8) (hc : σ.1 111 2 = nI n) (x y : Int32) : mMet G l d kX11_whoIn [.ref 111, .int x, .int y] σ (qI (whoIn (σ.1 128) (σ.1 129) x y n) σ) := by
  refine mMet.of cm_X11_whoIn rfl (Nat.le_of_ble_eq_true rfl) rfl (fun v1 σ1 h => by rw [h.1]; rfl) ?_
  refine m_iconst (v := -1) dX11_whoIn_0 (by decide) ?_
  refine m_istore_n (ls1 := [(3, _), (0, _), (1, _), (2, _)]) dX11_whoIn_1 (by decide) rfl ?_
  refine m_iconst (v := 0) dX11_whoIn_2 (by decide) ?_
  refine m_istore (ls1 := [(4, _), (3, _), (0, _), (1, _), (2, _)]) dX11_whoIn_3 (by decide) rfl ?_
  refine down (N := n) (fun k (f : Int32) => f = whoIn (σ.1 128) (σ.1 129) x y k) (fun k f => mW G l d kX11_whoIn 5 [(4, .int (nI k)), (3, .int f), (0, .ref 111), (1, .int x), (2, .int y)] [] σ _) ?_ ?_ 0 (-1) (Nat.zero_le _) rfl
  · intro f hf
    refine m_iload dX11_whoIn_5 0 rfl ?_
    refine m_aload_n dX11_whoIn_7 2 rfl ?_
    refine m_getI 2 dX11_whoIn_8 fl_X11_161_10 rfl (by decide) (by first | assumption | rfl) ?_
    refine m_icmp_ge dX11_whoIn_11 49 (by decide) (fun h => ?_) (fun h => ?_)
    · refine m_iload_n dX11_whoIn_49 1 rfl ?_
      refine m_ireturn dX11_whoIn_50 ?_
      exact ⟨by rw [hf], rfl⟩
    · exact (ge_yes h hc).elim
  · intro k f hk hf ih
    refine m_iload dX11_whoIn_5 0 rfl ?_
    refine m_aload_n dX11_whoIn_7 2 rfl ?_
    refine m_getI 2 dX11_whoIn_8 fl_X11_161_10 rfl (by decide) (by first | assumption | rfl) ?_
    refine m_icmp_ge dX11_whoIn_11 49 (by decide) (fun h => ?_) (fun h => ?_)
    · exact (ge_no hc h rfl hk (by omega)).elim
    · refine m_aload_n dX11_whoIn_14 2 rfl ?_
      refine m_getR 22 128 dX11_whoIn_15 fl_X11_58_10 rfl (by decide) rfl (by first | assumption | rfl) ?_
      refine m_iload dX11_whoIn_18 0 rfl ?_
      refine m_iald dX11_whoIn_20 (by first | assumption | rfl) _ rfl (by first | assumption | omega | decide) ?_
      refine m_iload_n dX11_whoIn_21 3 rfl ?_
      refine m_icmp_ne dX11_whoIn_22 41 (by decide) (fun h22 => ?_) (fun h22 => ?_)
      · refine m_iload_n dX11_whoIn_41 1 rfl ?_
        refine m_istore_n (ls1 := [(3, _), (4, _), (0, _), (1, _), (2, _)]) dX11_whoIn_42 (by decide) rfl ?_
        refine m_iinc (v := nI (k + 1)) (ls1 := [(4, _), (3, _), (0, _), (1, _), (2, _)]) dX11_whoIn_43 1 rfl (nI_1 k) (by decide) rfl ?_
        refine m_goto dX11_whoIn_46 5 (by decide) ?_
        exact ih _ (by rw [whoIn]; first | (rw [if_pos ⟨h22, h33⟩]; done) | (rw [if_neg (fun q => h22 q.1)]; exact hf) | (rw [if_neg (fun q => h33 q.2)]; exact hf))
      · refine m_aload_n dX11_whoIn_25 2 rfl ?_
        refine m_getR 23 129 dX11_whoIn_26 fl_X11_61_10 rfl (by decide) rfl (by first | assumption | rfl) ?_
        refine m_iload dX11_whoIn_29 0 rfl ?_
        refine m_iald dX11_whoIn_31 (by first | assumption | rfl) _ rfl (by first | assumption | omega | decide) ?_
        refine m_iload_n dX11_whoIn_32 4 rfl ?_
        refine m_icmp_ne dX11_whoIn_33 41 (by decide) (fun h33 => ?_) (fun h33 => ?_)
        · refine m_iload_n dX11_whoIn_41 1 rfl ?_
          refine m_istore_n (ls1 := [(3, _), (4, _), (0, _), (1, _), (2, _)]) dX11_whoIn_42 (by decide) rfl ?_
          refine m_iinc (v := nI (k + 1)) (ls1 := [(4, _), (3, _), (0, _), (1, _), (2, _)]) dX11_whoIn_43 1 rfl (nI_1 k) (by decide) rfl ?_
          refine m_goto dX11_whoIn_46 5 (by decide) ?_
          exact ih _ (by rw [whoIn]; first | (rw [if_pos ⟨h22, h33⟩]; done) | (rw [if_neg (fun q => h22 q.1)]; exact hf) | (rw [if_neg (fun q => h33 q.2)]; exact hf))
        · refine m_iload dX11_whoIn_36 0 rfl ?_
          refine m_goto dX11_whoIn_38 42 (by decide) ?_
          refine m_istore_n (ls1 := [(3, _), (4, _), (0, _), (1, _), (2, _)]) dX11_whoIn_42 (by decide) rfl ?_
          refine m_iinc (v := nI (k + 1)) (ls1 := [(4, _), (3, _), (0, _), (1, _), (2, _)]) dX11_whoIn_43 1 rfl (nI_1 k) (by decide) rfl ?_
          refine m_goto dX11_whoIn_46 5 (by decide) ?_
          exact ih _ (by rw [whoIn]; first | (rw [if_pos ⟨h22, h33⟩]; done) | (rw [if_neg (fun q => h22 q.1)]; exact hf) | (rw [if_neg (fun q => h33 q.2)]; exact hf))
theorem c_comes (k : Nat) (hk : k < 8) (x y : Int32) : mMet G l d kX11_comes [.ref 111, .int (nI k), .int x, .int y] σ (qV (us (us σ 128 k x) 129 k y)) := by
  refine mMet.of cm_X11_comes rfl (Nat.le_of_ble_eq_true rfl) rfl (fun v1 σ1 h => by rw [h.1]; trivial) ?_
  refine m_aload_n dX11_comes_0 0 rfl ?_
  refine m_getR 22 128 dX11_comes_1 fl_X11_58_10 rfl (by decide) rfl (by first | assumption | rfl) ?_
  refine m_iload_n dX11_comes_4 1 rfl ?_
  refine m_iload_n dX11_comes_5 2 rfl ?_
  refine m_iast dX11_comes_6 (by first | assumption | rfl) k rfl (by first | assumption | omega | decide) ?_
  refine m_aload_n dX11_comes_7 0 rfl ?_
  refine m_getR 23 129 dX11_comes_8 fl_X11_61_10 rfl (by decide) rfl (by first | assumption | rfl) ?_
  refine m_iload_n dX11_comes_11 1 rfl ?_
  refine m_iload_n dX11_comes_12 3 rfl ?_
  refine m_iast dX11_comes_13 (by first | assumption | rfl) k rfl (by first | assumption | omega | decide) ?_
  refine m_return dX11_comes_14 ?_
  exact ⟨rfl, rfl⟩
theorem m4n {x : Int32} : ¬ (4 : Int32) = 0 := by decide
theorem c_runsInto (hd : 3 ≤ d) (n : Nat) (hn : n ≤ 8) (hc : σ.1 111 2 = nI n) (k o m : Nat) (hk : k < 8) (ho : o < 8) (hm : m < 24) (w : Int32) : mMet G l d kX11_runsInto [.ref 111, .int (nI k), .int (nI o), .int w, .int (nI m)] σ (qVP (fun σ1 => gR σ1 m = rInto n (σ.1 118) k o w (nI m) (gR σ m) ∧ fR m σ σ1)) := by
  refine mMet.of cm_X11_runsInto rfl (Nat.le_of_ble_eq_true rfl) rfl (fun v1 σ1 h => by rw [h.1]; trivial) ?_
  refine m_aload_n dX11_runsInto_0 0 rfl ?_
  refine m_getR 24 130 dX11_runsInto_1 fl_X11_64_10 rfl (by decide) rfl (by first | assumption | rfl) ?_
  refine m_iload_n dX11_runsInto_4 2 rfl ?_
  refine m_iald dX11_runsInto_5 (by first | assumption | rfl) o rfl (by first | assumption | omega | decide) ?_
  refine m_iload_n dX11_runsInto_6 3 rfl ?_
  refine m_isub dX11_runsInto_7 ?_
  refine m_iconst (v := 4) dX11_runsInto_8 (by decide) ?_
  refine m_iadd dX11_runsInto_9 ?_
  refine m_iconst (v := 4) dX11_runsInto_10 (by decide) ?_
  refine m_irem dX11_runsInto_11 (by decide) ?_
  refine m_istore (ls1 := [(5, _), (0, _), (1, _), (2, _), (3, _), (4, _)]) dX11_runsInto_12 (by decide) rfl ?_
  refine m_aload_n dX11_runsInto_14 1 rfl ?_
  refine m_getR 25 131 dX11_runsInto_15 fl_X11_67_10 rfl (by decide) rfl (by first | assumption | rfl) ?_
  refine m_iload_n dX11_runsInto_18 2 rfl ?_
  refine m_dup2 dX11_runsInto_19 rfl rfl ?_
  refine m_iald dX11_runsInto_20 (by first | assumption | rfl) k rfl (by first | assumption | omega | decide) ?_
  refine m_iload dX11_runsInto_21 0 rfl ?_
  refine m_iconst (v := 2) dX11_runsInto_23 (by decide) ?_
  refine m_sel (pcJ := 41) ?_ (fun kt0 kf0 => m_icmp_ne dX11_runsInto_24 31 (by decide) (fun h => (m_iload dX11_runsInto_31 0 rfl (m_sel (pcJ := 41) (kf0 h) (fun kt1 kf1 => m_if_ne dX11_runsInto_33 40 (by decide) (fun h => (m_iconst (v := 2) dX11_runsInto_40 (by decide) (kf1 h))) (fun h => (m_iconst (v := 1) dX11_runsInto_36 (by decide) (m_goto dX11_runsInto_37 41 (by decide) (kt1 h)))))))) (fun h => (m_iconst (v := 3) dX11_runsInto_27 (by decide) (m_goto dX11_runsInto_28 41 (by decide) (kt0 h)))))
  refine m_iadd dX11_runsInto_41 ?_
  refine m_iast dX11_runsInto_42 (by first | assumption | rfl) k rfl (by first | assumption | omega | decide) ?_
  refine m_aload_n dX11_runsInto_43 1 rfl ?_
  refine m_getR 26 132 dX11_runsInto_44 fl_X11_70_10 rfl (by decide) rfl (by first | assumption | rfl) ?_
  refine m_iload_n dX11_runsInto_47 3 rfl ?_
  refine m_dup2 dX11_runsInto_48 rfl rfl ?_
  refine m_iald dX11_runsInto_49 (by first | assumption | rfl) o rfl (by first | assumption | omega | decide) ?_
  refine m_iconst (v := 1) dX11_runsInto_50 (by decide) ?_
  refine m_iadd dX11_runsInto_51 ?_
  refine m_iast dX11_runsInto_52 (by first | assumption | rfl) o rfl (by first | assumption | omega | decide) ?_
  refine m_aload_n dX11_runsInto_53 1 rfl ?_
  refine m_getR 27 133 dX11_runsInto_54 fl_X11_73_10 rfl (by decide) rfl (by first | assumption | rfl) ?_
  refine m_iload_n dX11_runsInto_57 2 rfl ?_
  refine m_dup2 dX11_runsInto_58 rfl rfl ?_
  refine m_iald dX11_runsInto_59 (by first | assumption | rfl) k rfl (by first | assumption | omega | decide) ?_
  refine m_iconst (v := 1) dX11_runsInto_60 (by decide) ?_
  refine m_iadd dX11_runsInto_61 ?_
  refine m_iast dX11_runsInto_62 (by first | assumption | rfl) k rfl (by first | assumption | omega | decide) ?_
  refine m_aload_n dX11_runsInto_63 1 rfl ?_
  refine m_dup dX11_runsInto_64 rfl ?_
  refine m_getI 29 dX11_runsInto_65 fl_X11_226_10 rfl (by decide) (by first | assumption | rfl) ?_
  refine m_iconst (v := 1) dX11_runsInto_68 (by decide) ?_
  refine m_iadd dX11_runsInto_69 ?_
  refine m_putI 29 dX11_runsInto_70 fw_X11_226_10 rfl (by decide) rfl rfl (by first | assumption | rfl) ?_
  refine m_aload_n dX11_runsInto_73 1 rfl ?_
  refine m_aload_n dX11_runsInto_74 1 rfl ?_
  refine m_getI 30 dX11_runsInto_75 fl_X11_229_10 rfl (by decide) (by first | assumption | rfl) ?_
  refine m_iconst (v := -1) dX11_runsInto_78 (by decide) ?_
  refine m_sel (pcJ := 90) ?_ (fun kt0 kf0 => m_icmp_ne dX11_runsInto_79 86 (by decide) (fun h => (m_aload_n dX11_runsInto_86 1 rfl (m_getI 31 dX11_runsInto_87 fl_X11_232_10 rfl (by decide) (by first | assumption | rfl) (kf0 h)))) (fun h => (m_iload_n dX11_runsInto_82 2 rfl (m_goto dX11_runsInto_83 90 (by decide) (kt0 h)))))
  refine m_putI 31 dX11_runsInto_90 fw_X11_232_10 rfl (by decide) rfl rfl (by first | assumption | rfl) ?_
  refine m_aload_n dX11_runsInto_93 1 rfl ?_
  refine m_aload_n dX11_runsInto_94 1 rfl ?_
  refine m_getI 30 dX11_runsInto_95 fl_X11_229_10 rfl (by decide) (by first | assumption | rfl) ?_
  refine m_iconst (v := -1) dX11_runsInto_98 (by decide) ?_
  refine m_sel (pcJ := 111) ?_ (fun kt0 kf0 => m_icmp_ne dX11_runsInto_99 107 (by decide) (fun h => (m_aload_n dX11_runsInto_107 1 rfl (m_getI 30 dX11_runsInto_108 fl_X11_229_10 rfl (by decide) (by first | assumption | rfl) (kf0 h)))) (fun h => (m_iload dX11_runsInto_102 5 rfl (m_goto dX11_runsInto_104 111 (by decide) (kt0 h)))))
  refine m_putI 30 dX11_runsInto_111 fw_X11_229_10 rfl (by decide) rfl rfl (by first | assumption | rfl) ?_
  refine mW.cut (fun s => gR s m = strikeR k o w (nI m) (gR σ m) ∧ fR m σ s) ⟨rfl, ?_⟩ (fun s hs => ?_)
  · repeat (first | exact fR.rf | refine fR.us (by omega) ?_)
  obtain ⟨hs, hf⟩ := hs
  have hn1 : s.1 111 2 = nI n := (hf.at (by omega)).trans hc
  have hw : s.1 118 = σ.1 118 := hf.row (by omega)
  show mW G l d kX11_runsInto 114 _ _ _ _
  rw [rInto, ← hs, ← hw]
  refine m_aload_n dX11_runsInto_114 1 rfl ?_
  refine m_getR 22 128 dX11_runsInto_115 fl_X11_58_10 rfl (by decide) rfl (by first | assumption | rfl) ?_
  refine m_iload_n dX11_runsInto_118 3 rfl ?_
  refine m_iald dX11_runsInto_119 (by first | assumption | rfl) o rfl (by first | assumption | omega | decide) ?_
  refine m_istore (ls1 := [(6, _), (5, _), (0, _), (1, _), (2, _), (3, _), (4, _)]) dX11_runsInto_120 (by decide) rfl ?_
  refine m_aload_n dX11_runsInto_122 2 rfl ?_
  refine m_getR 23 129 dX11_runsInto_123 fl_X11_61_10 rfl (by decide) rfl (by first | assumption | rfl) ?_
  refine m_iload_n dX11_runsInto_126 4 rfl ?_
  refine m_iald dX11_runsInto_127 (by first | assumption | rfl) o rfl (by first | assumption | omega | decide) ?_
  refine m_istore (ls1 := [(7, _), (6, _), (5, _), (0, _), (1, _), (2, _), (3, _), (4, _)]) dX11_runsInto_128 (by decide) rfl ?_
  refine m_iload dX11_runsInto_130 1 rfl ?_
  refine m_iload_n dX11_runsInto_132 6 rfl ?_
  refine m_callS (As := [_]) dX11_runsInto_133 cs_X11_235 (by omega) rfl rfl (Nat.le_of_ble_eq_true rfl) (c_stepX (d := d - 1) w) (fun v1 σ1 hv1 => ?_)
  refine m_qI hv1 ?_
  clear hv1 v1 σ1
  refine m_iadd dX11_runsInto_136 ?_
  refine m_istore (ls1 := [(8, _), (7, _), (6, _), (5, _), (0, _), (1, _), (2, _), (3, _), (4, _)]) dX11_runsInto_137 (by decide) rfl ?_
  refine m_iload dX11_runsInto_139 1 rfl ?_
  refine m_iload_n dX11_runsInto_141 7 rfl ?_
  refine m_callS (As := [_]) dX11_runsInto_142 cs_X11_238 (by omega) rfl rfl (Nat.le_of_ble_eq_true rfl) (c_stepY (d := d - 1) w) (fun v1 σ1 hv1 => ?_)
  refine m_qI hv1 ?_
  clear hv1 v1 σ1
  refine m_iadd dX11_runsInto_145 ?_
  refine m_istore (ls1 := [(9, _), (8, _), (7, _), (6, _), (5, _), (0, _), (1, _), (2, _), (3, _), (4, _)]) dX11_runsInto_146 (by decide) rfl ?_
  refine m_aload_n dX11_runsInto_148 5 rfl ?_
  refine m_getR 7 118 dX11_runsInto_149 fl_X11_28_10 rfl (by decide) rfl (by first | assumption | rfl) ?_
  refine m_iload_n dX11_runsInto_152 6 rfl ?_
  refine m_iald dX11_runsInto_153 (by first | assumption | rfl) k rfl (by first | assumption | omega | decide) ?_
  refine m_aload_n dX11_runsInto_154 5 rfl ?_
  refine m_getR 7 118 dX11_runsInto_155 fl_X11_28_10 rfl (by decide) rfl (by first | assumption | rfl) ?_
  refine m_iload_n dX11_runsInto_158 7 rfl ?_
  refine m_iald dX11_runsInto_159 (by first | assumption | rfl) o rfl (by first | assumption | omega | decide) ?_
  refine m_icmp_lt dX11_runsInto_160 212 (by decide) (fun h160 => ?_) (fun h160 => ?_)
  · refine m_aload_n dX11_runsInto_212 5 rfl ?_
    refine m_getR 39 141 dX11_runsInto_213 fl_X11_97_10 rfl (by decide) rfl (by first | assumption | rfl) ?_
    refine m_iload dX11_runsInto_216 9 rfl ?_
    refine m_dup2 dX11_runsInto_218 rfl rfl ?_
    refine m_iald dX11_runsInto_219 (by first | assumption | rfl) m rfl (by first | assumption | omega | decide) ?_
    refine m_iconst (v := 1) dX11_runsInto_220 (by decide) ?_
    refine m_iadd dX11_runsInto_221 ?_
    refine m_iast dX11_runsInto_222 (by first | assumption | rfl) m rfl (by first | assumption | omega | decide) ?_
    first | (refine m_return dX11_runsInto_223 ⟨rfl, ?_, fR.us (by omega) hf⟩; rw [intoR, if_neg (fun q => by first | exact absurd q.1 (Int32.not_le.mpr h160) | exact bI0 h168 q.2.1 | exact bI0 h176 q.2.2.1 | exact h188 q.2.2.2)]; simp only [gR, jamR, us_eq, pk_us]; rfl) | (refine m_return dX11_runsInto_223 ⟨rfl, ?_, fR.us (by omega) (fR.us (by omega) (fR.us (by omega) (fR.us (by omega) hf)))⟩; rw [intoR, if_pos ⟨Int32.not_lt.mp h160, bI1 h168, bI1 h176, h188⟩]; rfl)
  · refine m_iload dX11_runsInto_163 1 rfl ?_
    refine m_callS (As := [_]) dX11_runsInto_165 cs_X11_155 (by omega) rfl rfl (Nat.le_of_ble_eq_true rfl) (c_isSix (d := d - 1) (by omega) _) (fun v1 σ1 hv1 => ?_)
    refine m_qI hv1 ?_
    clear hv1 v1 σ1
    refine m_if_eq dX11_runsInto_168 212 (by decide) (fun h168 => ?_) (fun h168 => ?_)
    · refine m_aload_n dX11_runsInto_212 5 rfl ?_
      refine m_getR 39 141 dX11_runsInto_213 fl_X11_97_10 rfl (by decide) rfl (by first | assumption | rfl) ?_
      refine m_iload dX11_runsInto_216 9 rfl ?_
      refine m_dup2 dX11_runsInto_218 rfl rfl ?_
      refine m_iald dX11_runsInto_219 (by first | assumption | rfl) m rfl (by first | assumption | omega | decide) ?_
      refine m_iconst (v := 1) dX11_runsInto_220 (by decide) ?_
      refine m_iadd dX11_runsInto_221 ?_
      refine m_iast dX11_runsInto_222 (by first | assumption | rfl) m rfl (by first | assumption | omega | decide) ?_
      first | (refine m_return dX11_runsInto_223 ⟨rfl, ?_, fR.us (by omega) hf⟩; rw [intoR, if_neg (fun q => by first | exact absurd q.1 (Int32.not_le.mpr h160) | exact bI0 h168 q.2.1 | exact bI0 h176 q.2.2.1 | exact h188 q.2.2.2)]; simp only [gR, jamR, us_eq, pk_us]; rfl) | (refine m_return dX11_runsInto_223 ⟨rfl, ?_, fR.us (by omega) (fR.us (by omega) (fR.us (by omega) (fR.us (by omega) hf)))⟩; rw [intoR, if_pos ⟨Int32.not_lt.mp h160, bI1 h168, bI1 h176, h188⟩]; rfl)
    · refine m_iload dX11_runsInto_171 0 rfl ?_
      refine m_callS (As := [_]) dX11_runsInto_173 cs_X11_155 (by omega) rfl rfl (Nat.le_of_ble_eq_true rfl) (c_isSix (d := d - 1) (by omega) _) (fun v1 σ1 hv1 => ?_)
      refine m_qI hv1 ?_
      clear hv1 v1 σ1
      refine m_if_eq dX11_runsInto_176 212 (by decide) (fun h176 => ?_) (fun h176 => ?_)
      · refine m_aload_n dX11_runsInto_212 5 rfl ?_
        refine m_getR 39 141 dX11_runsInto_213 fl_X11_97_10 rfl (by decide) rfl (by first | assumption | rfl) ?_
        refine m_iload dX11_runsInto_216 9 rfl ?_
        refine m_dup2 dX11_runsInto_218 rfl rfl ?_
        refine m_iald dX11_runsInto_219 (by first | assumption | rfl) m rfl (by first | assumption | omega | decide) ?_
        refine m_iconst (v := 1) dX11_runsInto_220 (by decide) ?_
        refine m_iadd dX11_runsInto_221 ?_
        refine m_iast dX11_runsInto_222 (by first | assumption | rfl) m rfl (by first | assumption | omega | decide) ?_
        first | (refine m_return dX11_runsInto_223 ⟨rfl, ?_, fR.us (by omega) hf⟩; rw [intoR, if_neg (fun q => by first | exact absurd q.1 (Int32.not_le.mpr h160) | exact bI0 h168 q.2.1 | exact bI0 h176 q.2.2.1 | exact h188 q.2.2.2)]; simp only [gR, jamR, us_eq, pk_us]; rfl) | (refine m_return dX11_runsInto_223 ⟨rfl, ?_, fR.us (by omega) (fR.us (by omega) (fR.us (by omega) (fR.us (by omega) hf)))⟩; rw [intoR, if_pos ⟨Int32.not_lt.mp h160, bI1 h168, bI1 h176, h188⟩]; rfl)
      · refine m_aload_n dX11_runsInto_179 5 rfl ?_
        refine m_iload dX11_runsInto_180 1 rfl ?_
        refine m_iload dX11_runsInto_182 0 rfl ?_
        refine m_callV (As := [_, _]) dX11_runsInto_184 cv_X11_241 (by first | assumption | rfl) (by decide) (by omega) rfl rfl (Nat.le_of_ble_eq_true rfl) (c_whoIn (d := d - 1) n hn hn1 _ _) (fun v1 σ1 hv1 => ?_)
        refine m_qI hv1 ?_
        clear hv1 v1 σ1
        refine m_iconst (v := -1) dX11_runsInto_187 (by decide) ?_
        refine m_icmp_ne dX11_runsInto_188 212 (by decide) (fun h188 => ?_) (fun h188 => ?_)
        · refine m_aload_n dX11_runsInto_212 5 rfl ?_
          refine m_getR 39 141 dX11_runsInto_213 fl_X11_97_10 rfl (by decide) rfl (by first | assumption | rfl) ?_
          refine m_iload dX11_runsInto_216 9 rfl ?_
          refine m_dup2 dX11_runsInto_218 rfl rfl ?_
          refine m_iald dX11_runsInto_219 (by first | assumption | rfl) m rfl (by first | assumption | omega | decide) ?_
          refine m_iconst (v := 1) dX11_runsInto_220 (by decide) ?_
          refine m_iadd dX11_runsInto_221 ?_
          refine m_iast dX11_runsInto_222 (by first | assumption | rfl) m rfl (by first | assumption | omega | decide) ?_
          first | (refine m_return dX11_runsInto_223 ⟨rfl, ?_, fR.us (by omega) hf⟩; rw [intoR, if_neg (fun q => by first | exact absurd q.1 (Int32.not_le.mpr h160) | exact bI0 h168 q.2.1 | exact bI0 h176 q.2.2.1 | exact h188 q.2.2.2)]; simp only [gR, jamR, us_eq, pk_us]; rfl) | (refine m_return dX11_runsInto_223 ⟨rfl, ?_, fR.us (by omega) (fR.us (by omega) (fR.us (by omega) (fR.us (by omega) hf)))⟩; rw [intoR, if_pos ⟨Int32.not_lt.mp h160, bI1 h168, bI1 h176, h188⟩]; rfl)
        · refine m_aload_n dX11_runsInto_191 5 rfl ?_
          refine m_iload_n dX11_runsInto_192 7 rfl ?_
          refine m_iload dX11_runsInto_193 1 rfl ?_
          refine m_iload dX11_runsInto_195 0 rfl ?_
          refine m_callV (As := [_, _, _]) dX11_runsInto_197 cv_X11_244 (by first | assumption | rfl) (by decide) (by omega) rfl rfl (Nat.le_of_ble_eq_true rfl) (c_comes (d := d - 1) o ho _ _) (fun v1 σ1 hv1 => ?_)
          refine m_qV hv1 ?_
          clear hv1 v1 σ1
          refine m_aload_n dX11_runsInto_200 5 rfl ?_
          refine m_iload_n dX11_runsInto_201 6 rfl ?_
          refine m_iload dX11_runsInto_202 3 rfl ?_
          refine m_iload dX11_runsInto_204 2 rfl ?_
          refine m_callV (As := [_, _, _]) dX11_runsInto_206 cv_X11_244 (by first | assumption | rfl) (by decide) (by omega) rfl rfl (Nat.le_of_ble_eq_true rfl) (c_comes (d := d - 1) k hk _ _) (fun v1 σ1 hv1 => ?_)
          refine m_qV hv1 ?_
          clear hv1 v1 σ1
          refine m_goto dX11_runsInto_209 223 (by decide) ?_
          first | (refine m_return dX11_runsInto_223 ⟨rfl, ?_, fR.us (by omega) hf⟩; rw [intoR, if_neg (fun q => by first | exact absurd q.1 (Int32.not_le.mpr h160) | exact bI0 h168 q.2.1 | exact bI0 h176 q.2.2.1 | exact h188 q.2.2.2)]; simp only [gR, jamR, us_eq, pk_us]; rfl) | (refine m_return dX11_runsInto_223 ⟨rfl, ?_, fR.us (by omega) (fR.us (by omega) (fR.us (by omega) (fR.us (by omega) hf)))⟩; rw [intoR, if_pos ⟨Int32.not_lt.mp h160, bI1 h168, bI1 h176, h188⟩]; rfl)
theorem c_drives (hd : 4 ≤ d) (n : Nat) (hn : n ≤ 8) (hc : σ.1 111 2 = nI n) (k m : Nat) (hk : k < n) (hm : m < 24) : mMet G l d kX11_drives [.ref 111, .int (nI k), .int (nI m)] σ (qVP (fun σ1 => gR σ1 m = driveW n (σ.1 118) k (nI m) (wayR (σ.1 114) k (gR σ m)) (gR σ m) ∧ fR m σ σ1)) := by
  refine mMet.of cm_X11_drives rfl (Nat.le_of_ble_eq_true rfl) rfl (fun v1 σ1 h => by rw [h.1]; trivial) ?_
  have hk8 : k < 8 := by omega
  refine m_aload_n dX11_drives_0 0 rfl ?_
  refine m_getR 3 114 dX11_drives_1 fl_X11_16_10 rfl (by decide) rfl (by first | assumption | rfl) ?_
  refine m_iload_n dX11_drives_4 1 rfl ?_
  refine m_iald dX11_drives_5 (by first | assumption | rfl) k rfl (by first | assumption | omega | decide) ?_
  refine m_iconst (v := 2) dX11_drives_6 (by decide) ?_
  refine m_sel (pcJ := 29) ?_ (fun kt0 kf0 => m_icmp_ne dX11_drives_7 23 (by decide) (fun h => (m_aload_n dX11_drives_23 0 rfl (m_getR 24 130 dX11_drives_24 fl_X11_64_10 rfl (by decide) rfl (by first | assumption | rfl) (m_iload_n dX11_drives_27 1 rfl (m_iald dX11_drives_28 (by first | assumption | rfl) k rfl (by first | assumption | omega | decide) (kf0 h)))))) (fun h => (m_aload_n dX11_drives_10 0 rfl (m_getR 24 130 dX11_drives_11 fl_X11_64_10 rfl (by decide) rfl (by first | assumption | rfl) (m_iload_n dX11_drives_14 1 rfl (m_iald dX11_drives_15 (by first | assumption | rfl) k rfl (by first | assumption | omega | decide) (m_iconst (v := 2) dX11_drives_16 (by decide) (m_iadd dX11_drives_17 (m_iconst (v := 4) dX11_drives_18 (by decide) (m_irem dX11_drives_19 (by decide) (m_goto dX11_drives_20 29 (by decide) (kt0 h))))))))))))
  refine mW.top (w := wayR (σ.1 114) k (gR σ m)) rfl ?_
  generalize wayR (σ.1 114) k (gR σ m) = w
  refine m_istore_n (ls1 := [(3, _), (0, _), (1, _), (2, _)]) dX11_drives_29 (by decide) rfl ?_
  refine m_aload_n dX11_drives_30 1 rfl ?_
  refine m_getR 22 128 dX11_drives_31 fl_X11_58_10 rfl (by decide) rfl (by first | assumption | rfl) ?_
  refine m_iload_n dX11_drives_34 2 rfl ?_
  refine m_iald dX11_drives_35 (by first | assumption | rfl) k rfl (by first | assumption | omega | decide) ?_
  refine m_iload_n dX11_drives_36 0 rfl ?_
  refine m_callS (As := [_]) dX11_drives_37 cs_X11_235 (by omega) rfl rfl (Nat.le_of_ble_eq_true rfl) (c_stepX (d := d - 1) w) (fun v1 σ1 hv1 => ?_)
  refine m_qI hv1 ?_
  clear hv1 v1 σ1
  refine m_iadd dX11_drives_40 ?_
  refine m_istore (ls1 := [(4, _), (3, _), (0, _), (1, _), (2, _)]) dX11_drives_41 (by decide) rfl ?_
  refine m_aload_n dX11_drives_43 2 rfl ?_
  refine m_getR 23 129 dX11_drives_44 fl_X11_61_10 rfl (by decide) rfl (by first | assumption | rfl) ?_
  refine m_iload_n dX11_drives_47 3 rfl ?_
  refine m_iald dX11_drives_48 (by first | assumption | rfl) k rfl (by first | assumption | omega | decide) ?_
  refine m_iload_n dX11_drives_49 1 rfl ?_
  refine m_callS (As := [_]) dX11_drives_50 cs_X11_238 (by omega) rfl rfl (Nat.le_of_ble_eq_true rfl) (c_stepY (d := d - 1) w) (fun v1 σ1 hv1 => ?_)
  refine m_qI hv1 ?_
  clear hv1 v1 σ1
  refine m_iadd dX11_drives_53 ?_
  refine m_istore (ls1 := [(5, _), (4, _), (3, _), (0, _), (1, _), (2, _)]) dX11_drives_54 (by decide) rfl ?_
  refine m_aload_n dX11_drives_56 3 rfl ?_
  refine m_iload dX11_drives_57 1 rfl ?_
  refine m_iload dX11_drives_59 0 rfl ?_
  refine m_callV (As := [_, _]) dX11_drives_61 cv_X11_241 (by first | assumption | rfl) (by decide) (by omega) rfl rfl (Nat.le_of_ble_eq_true rfl) (c_whoIn (d := d - 1) n hn hc _ _) (fun v1 σ1 hv1 => ?_)
  refine m_qI hv1 ?_
  clear hv1 v1 σ1
  refine m_istore (ls1 := [(6, _), (5, _), (4, _), (3, _), (0, _), (1, _), (2, _)]) dX11_drives_64 (by decide) rfl ?_
  refine m_iload dX11_drives_66 2 rfl ?_
  refine m_callS (As := [_]) dX11_drives_68 cs_X11_155 (by omega) rfl rfl (Nat.le_of_ble_eq_true rfl) (c_isSix (d := d - 1) (by omega) _) (fun v1 σ1 hv1 => ?_)
  refine m_qI hv1 ?_
  clear hv1 v1 σ1
  refine m_if_eq dX11_drives_71 82 (by decide) (fun h1 => ?_) (fun h1 => ?_)
  · refine m_aload_n dX11_drives_82 4 rfl ?_
    refine m_getR 24 130 dX11_drives_83 fl_X11_64_10 rfl (by decide) rfl (by first | assumption | rfl) ?_
    refine m_iload_n dX11_drives_86 5 rfl ?_
    refine m_aload_n dX11_drives_87 4 rfl ?_
    refine m_getR 24 130 dX11_drives_88 fl_X11_64_10 rfl (by decide) rfl (by first | assumption | rfl) ?_
    refine m_iload_n dX11_drives_91 5 rfl ?_
    refine m_iald dX11_drives_92 (by first | assumption | rfl) k rfl (by first | assumption | omega | decide) ?_
    refine m_iconst (v := 2) dX11_drives_93 (by decide) ?_
    refine m_iadd dX11_drives_94 ?_
    refine m_iconst (v := 4) dX11_drives_95 (by decide) ?_
    refine m_irem dX11_drives_96 (by decide) ?_
    refine m_iast dX11_drives_97 (by first | assumption | rfl) k rfl (by first | assumption | omega | decide) ?_
    refine m_goto dX11_drives_98 128 (by decide) ?_
    refine m_return dX11_drives_128 ?_
    refine ⟨rfl, ?_, fR.us (by omega) fR.rf⟩
    rw [driveW, if_pos (Or.inl (bI0 h1))]
    rfl
  · refine m_iload dX11_drives_74 1 rfl ?_
    refine m_callS (As := [_]) dX11_drives_76 cs_X11_155 (by omega) rfl rfl (Nat.le_of_ble_eq_true rfl) (c_isSix (d := d - 1) (by omega) _) (fun v1 σ1 hv1 => ?_)
    refine m_qI hv1 ?_
    clear hv1 v1 σ1
    refine m_if_ne dX11_drives_79 101 (by decide) (fun h2 => ?_) (fun h2 => ?_)
    · refine m_iload dX11_drives_101 0 rfl ?_
      refine m_iconst (v := -1) dX11_drives_103 (by decide) ?_
      refine m_icmp_ne dX11_drives_104 119 (by decide) (fun h3 => ?_) (fun h3 => ?_)
      · rcases whoIn_of (σ.1 128) (σ.1 129) (σ.1 128 k + stX w) (σ.1 129 k + stY w) n hn with h4 | ⟨j, h4, h5⟩
        · exact absurd h4 h3
        · have hj8 : j < 8 := by omega
          refine mW.post (Q1 := qVP (fun σ1 => gR σ1 m = rInto n (σ.1 118) k j w (nI m) (gR σ m) ∧ fR m σ σ1)) ?_ ?_
          · rw [h5]
            refine m_aload_n dX11_drives_119 4 rfl ?_
            refine m_iload_n dX11_drives_120 5 rfl ?_
            refine m_iload dX11_drives_121 0 rfl ?_
            refine m_iload_n dX11_drives_123 3 rfl ?_
            refine m_iload_n dX11_drives_124 6 rfl ?_
            refine m_callV (As := [_, _, _, _]) dX11_drives_125 cv_X11_248 (by first | assumption | rfl) (by decide) (by omega) rfl rfl (Nat.le_of_ble_eq_true rfl) (c_runsInto (d := d - 1) (by omega) n hn hc k j m hk8 hj8 hm w) (fun v1 σ1 hv1 => ?_)
            refine m_qVP hv1 (fun hp => ?_)
            clear hv1 v1
            exact m_return dX11_drives_128 ⟨rfl, hp⟩
          · rintro v s ⟨rfl, e1, e2⟩
            refine ⟨rfl, ?_, e2⟩
            rw [driveW, if_neg (by rintro (q | q); exact q (bI1 h1); exact q (bI1 h2)), if_neg h3, e1]
            show _ = rInto _ _ _ (whoIn (σ.1 128) (σ.1 129) (σ.1 128 k + stX w) (σ.1 129 k + stY w) n).toNatClampNeg _ _ _
            rw [h5, nI_clamp (by omega)]
      · refine m_aload_n dX11_drives_107 4 rfl ?_
        refine m_iload_n dX11_drives_108 5 rfl ?_
        refine m_iload dX11_drives_109 2 rfl ?_
        refine m_iload dX11_drives_111 1 rfl ?_
        refine m_callV (As := [_, _, _]) dX11_drives_113 cv_X11_244 (by first | assumption | rfl) (by decide) (by omega) rfl rfl (Nat.le_of_ble_eq_true rfl) (c_comes (d := d - 1) k hk8 _ _) (fun v1 σ1 hv1 => ?_)
        refine m_qV hv1 ?_
        clear hv1 v1 σ1
        refine m_goto dX11_drives_116 128 (by decide) ?_
        refine m_return dX11_drives_128 ?_
        refine ⟨rfl, ?_, fR.us (by omega) (fR.us (by omega) fR.rf)⟩
        rw [driveW, if_neg (by rintro (q | q); exact q (bI1 h1); exact q (bI1 h2)), if_pos h3]
        rfl
    · refine m_aload_n dX11_drives_82 4 rfl ?_
      refine m_getR 24 130 dX11_drives_83 fl_X11_64_10 rfl (by decide) rfl (by first | assumption | rfl) ?_
      refine m_iload_n dX11_drives_86 5 rfl ?_
      refine m_aload_n dX11_drives_87 4 rfl ?_
      refine m_getR 24 130 dX11_drives_88 fl_X11_64_10 rfl (by decide) rfl (by first | assumption | rfl) ?_
      refine m_iload_n dX11_drives_91 5 rfl ?_
      refine m_iald dX11_drives_92 (by first | assumption | rfl) k rfl (by first | assumption | omega | decide) ?_
      refine m_iconst (v := 2) dX11_drives_93 (by decide) ?_
      refine m_iadd dX11_drives_94 ?_
      refine m_iconst (v := 4) dX11_drives_95 (by decide) ?_
      refine m_irem dX11_drives_96 (by decide) ?_
      refine m_iast dX11_drives_97 (by first | assumption | rfl) k rfl (by first | assumption | omega | decide) ?_
      refine m_goto dX11_drives_98 128 (by decide) ?_
      refine m_return dX11_drives_128 ?_
      refine ⟨rfl, ?_, fR.us (by omega) fR.rf⟩
      rw [driveW, if_pos (Or.inr (bI0 h2))]
      rfl
end RR


/-! ===== the reference's moments ===== -/
section RG
variable {G : mG} {l : Launch} {d : Nat} {σ : mS}
/-- what W doesn't name stays -/
def fW (W : Nat → Nat → Prop) (σ σ1 : mS) : Prop := σ1.2 = σ.2 ∧ ∀ y z, W y z ∨ σ1.1 y z = σ.1 y z
theorem fW.rf {W : Nat → Nat → Prop} : fW W σ σ := ⟨rfl, fun _ _ => Or.inr rfl⟩
theorem fW.us {W : Nat → Nat → Prop} {y0 z0 : Nat} {v : Int32} {σ0 : mS} (h : W y0 z0) (k : fW W σ σ0) : fW W σ (us σ0 y0 z0 v) := by
  refine ⟨k.1, fun y z => ?_⟩
  rw [us_at]
  by_cases h2 : y = y0 ∧ z = z0
  · obtain ⟨rfl, rfl⟩ := h2
    exact Or.inl h
  · rw [if_neg h2]
    exact k.2 y z
theorem fW.tr {W : Nat → Nat → Prop} {σ0 σ1 : mS} (h : fW W σ σ0) (k : fW W σ0 σ1) : fW W σ σ1 := by
  refine ⟨k.1.trans h.1, fun y z => ?_⟩
  rcases k.2 y z with h1 | h1
  · exact Or.inl h1
  · rw [h1]; exact h.2 y z
theorem fW.at {W : Nat → Nat → Prop} {y z : Nat} {s : mS} (k : fW W σ s) (h : ¬ W y z) : s.1 y z = σ.1 y z := (k.2 y z).resolve_left h
theorem fW.row {W : Nat → Nat → Prop} {y : Nat} {s : mS} (k : fW W σ s) (h : ∀ z, ¬ W y z) : s.1 y = σ.1 y := funext fun z => k.at (h z)
theorem fW.mono {W W1 : Nat → Nat → Prop} {s : mS} (k : fW W σ s) (h : ∀ y z, W y z → W1 y z) : fW W1 σ s := ⟨k.1, fun y z => (k.2 y z).imp_left (h y z)⟩
theorem fR.fW {m : Nat} {s : mS} (k : fR m σ s) : fW (fun y z => (128 ≤ y ∧ y ≤ 133) ∨ (y = 111 ∧ 28 ≤ z ∧ z ≤ 31) ∨ (y = 141 ∧ z = m)) σ s := ⟨k.1, fun y z => by
  rcases k.2 y z with h1 | h1 | h1 | h1
  · exact Or.inl (Or.inl h1)
  · exact Or.inl (Or.inr (Or.inl h1))
  · exact Or.inl (Or.inr (Or.inr h1))
  · exact Or.inr h1⟩
theorem fW.ur {W : Nat → Nat → Prop} {y0 : Nat} {f : Nat → Int32} {σ0 : mS} (h : ∀ z, W y0 z) (k : fW W σ σ0) : fW W σ (ur σ0 y0 f) := by
  refine ⟨k.1, fun y z => ?_⟩
  by_cases h2 : y = y0
  · subst h2; exact Or.inl (h z)
  · rw [ur_ne h2]; exact k.2 y z
theorem ur_id (y : Nat) : σ = ur σ y (σ.1 y) := by
  refine Prod.ext (funext fun z => ?_) rfl
  by_cases h : z = y
  · subst h; rw [ur_eq]
  · rw [ur_ne h]
theorem us_ur (y k : Nat) (f : Nat → Int32) (v : Int32) : us (ur σ y f) y k v = ur σ y (upd f k v) := by
  refine Prod.ext (funext fun z => ?_) rfl
  by_cases h : z = y
  · subst h; rw [us_eq, ur_eq, ur_eq]
  · rw [us_ne h, ur_ne h, ur_ne h]
theorem ix8 (m k : Nat) : 8 * nI m + nI k = nI (8 * m + k) := by rw [show (8 : Int32) = nI 8 from rfl, pk_mul, nI_add]
def cF (σ : mS) : Nat → Nat → Int32 := fun k j => if j < 5 then σ.1 (114 + j) k else 0
def sF (σ : mS) : Nat → Nat → Int32 := fun i j => if j < 3 then σ.1 (119 + j) i else 0
def vF (σ : mS) : Nat → Nat → Int32 := fun i j => if j < 3 then σ.1 (125 + j) i else 0
/-- the debate that the reference's rows tell -/
abbrev debR (σ : mS) (n ns e : Nat) : Deb := ((n, cF σ), (ns, sF σ), (e, vF σ), σ.1 111 21)
theorem cF_eq {s : mS} (h : ∀ y, 114 ≤ y → y ≤ 118 → s.1 y = σ.1 y) : cF s = cF σ := by
  funext k j
  unfold cF
  by_cases hj : j < 5
  · rw [if_pos hj, if_pos hj, h _ (by omega) (by omega)]
  · rw [if_neg hj, if_neg hj]
theorem sF_eq {s : mS} (h : ∀ y, 119 ≤ y → y ≤ 121 → s.1 y = σ.1 y) : sF s = sF σ := by
  funext k j
  unfold sF
  by_cases hj : j < 3
  · rw [if_pos hj, if_pos hj, h _ (by omega) (by omega)]
  · rw [if_neg hj, if_neg hj]
theorem vF_eq {s : mS} (h : ∀ y, 125 ≤ y → y ≤ 127 → s.1 y = σ.1 y) : vF s = vF σ := by
  funext k j
  unfold vF
  by_cases hj : j < 3
  · rw [if_pos hj, if_pos hj, h _ (by omega) (by omega)]
  · rw [if_neg hj, if_neg hj]
theorem dX11_steersAll_0 : decode cX11_steersAll 0 = .ok (.iconst 0, 1) := by decide +kernel
theorem dX11_steersAll_1 : decode cX11_steersAll 1 = .ok (.istore_n 2, 1) := by decide +kernel
theorem dX11_steersAll_2 : decode cX11_steersAll 2 = .ok (.iload_n 2, 1) := by decide +kernel
theorem dX11_steersAll_3 : decode cX11_steersAll 3 = .ok (.aload_n 0, 1) := by decide +kernel
theorem dX11_steersAll_4 : decode cX11_steersAll 4 = .ok (.getfield 217, 3) := by decide +kernel
theorem dX11_steersAll_7 : decode cX11_steersAll 7 = .ok (.if_icmp .ge 74, 3) := by decide +kernel
theorem dX11_steersAll_10 : decode cX11_steersAll 10 = .ok (.aload_n 0, 1) := by decide +kernel
theorem dX11_steersAll_11 : decode cX11_steersAll 11 = .ok (.getfield 34, 3) := by decide +kernel
theorem dX11_steersAll_14 : decode cX11_steersAll 14 = .ok (.iload_n 2, 1) := by decide +kernel
theorem dX11_steersAll_15 : decode cX11_steersAll 15 = .ok (.iaload, 1) := by decide +kernel
theorem dX11_steersAll_16 : decode cX11_steersAll 16 = .ok (.istore_n 3, 1) := by decide +kernel
theorem dX11_steersAll_17 : decode cX11_steersAll 17 = .ok (.aload_n 0, 1) := by decide +kernel
theorem dX11_steersAll_18 : decode cX11_steersAll 18 = .ok (.getfield 31, 3) := by decide +kernel
theorem dX11_steersAll_21 : decode cX11_steersAll 21 = .ok (.iload_n 2, 1) := by decide +kernel
theorem dX11_steersAll_22 : decode cX11_steersAll 22 = .ok (.iaload, 1) := by decide +kernel
theorem dX11_steersAll_23 : decode cX11_steersAll 23 = .ok (.iload_n 1, 1) := by decide +kernel
theorem dX11_steersAll_24 : decode cX11_steersAll 24 = .ok (.if_icmp .ne 51, 3) := by decide +kernel
theorem dX11_steersAll_27 : decode cX11_steersAll 27 = .ok (.iload_n 3, 1) := by decide +kernel
theorem dX11_steersAll_28 : decode cX11_steersAll 28 = .ok (.aload_n 0, 1) := by decide +kernel
theorem dX11_steersAll_29 : decode cX11_steersAll 29 = .ok (.getfield 161, 3) := by decide +kernel
theorem dX11_steersAll_32 : decode cX11_steersAll 32 = .ok (.if_icmp .ge 43, 3) := by decide +kernel
theorem dX11_steersAll_35 : decode cX11_steersAll 35 = .ok (.aload_n 0, 1) := by decide +kernel
theorem dX11_steersAll_36 : decode cX11_steersAll 36 = .ok (.getfield 16, 3) := by decide +kernel
theorem dX11_steersAll_39 : decode cX11_steersAll 39 = .ok (.iload_n 3, 1) := by decide +kernel
theorem dX11_steersAll_40 : decode cX11_steersAll 40 = .ok (.iaload, 1) := by decide +kernel
theorem dX11_steersAll_41 : decode cX11_steersAll 41 = .ok (.iconst 1, 1) := by decide +kernel
theorem dX11_steersAll_42 : decode cX11_steersAll 42 = .ok (.if_icmp .eq 33, 3) := by decide +kernel
theorem dX11_steersAll_45 : decode cX11_steersAll 45 = .ok (.aload_n 0, 1) := by decide +kernel
theorem dX11_steersAll_46 : decode cX11_steersAll 46 = .ok (.getfield 64, 3) := by decide +kernel
theorem dX11_steersAll_49 : decode cX11_steersAll 49 = .ok (.iload_n 3, 1) := by decide +kernel
theorem dX11_steersAll_50 : decode cX11_steersAll 50 = .ok (.aload_n 0, 1) := by decide +kernel
theorem dX11_steersAll_51 : decode cX11_steersAll 51 = .ok (.getfield 64, 3) := by decide +kernel
theorem dX11_steersAll_54 : decode cX11_steersAll 54 = .ok (.iload_n 3, 1) := by decide +kernel
theorem dX11_steersAll_55 : decode cX11_steersAll 55 = .ok (.iaload, 1) := by decide +kernel
theorem dX11_steersAll_56 : decode cX11_steersAll 56 = .ok (.aload_n 0, 1) := by decide +kernel
theorem dX11_steersAll_57 : decode cX11_steersAll 57 = .ok (.getfield 37, 3) := by decide +kernel
theorem dX11_steersAll_60 : decode cX11_steersAll 60 = .ok (.iload_n 2, 1) := by decide +kernel
theorem dX11_steersAll_61 : decode cX11_steersAll 61 = .ok (.iaload, 1) := by decide +kernel
theorem dX11_steersAll_62 : decode cX11_steersAll 62 = .ok (.iconst 1, 1) := by decide +kernel
theorem dX11_steersAll_63 : decode cX11_steersAll 63 = .ok (.if_icmp .ne 7, 3) := by decide +kernel
theorem dX11_steersAll_66 : decode cX11_steersAll 66 = .ok (.iconst 1, 1) := by decide +kernel
theorem dX11_steersAll_67 : decode cX11_steersAll 67 = .ok (.goto 4, 3) := by decide +kernel
theorem dX11_steersAll_70 : decode cX11_steersAll 70 = .ok (.iconst 3, 1) := by decide +kernel
theorem dX11_steersAll_71 : decode cX11_steersAll 71 = .ok (.iadd, 1) := by decide +kernel
theorem dX11_steersAll_72 : decode cX11_steersAll 72 = .ok (.iconst 4, 1) := by decide +kernel
theorem dX11_steersAll_73 : decode cX11_steersAll 73 = .ok (.irem, 1) := by decide +kernel
theorem dX11_steersAll_74 : decode cX11_steersAll 74 = .ok (.iastore, 1) := by decide +kernel
theorem dX11_steersAll_75 : decode cX11_steersAll 75 = .ok (.iinc 2 1, 3) := by decide +kernel
theorem dX11_steersAll_78 : decode cX11_steersAll 78 = .ok (.goto (-76), 3) := by decide +kernel
theorem dX11_steersAll_81 : decode cX11_steersAll 81 = .ok (.return_, 1) := by decide +kernel
theorem dX11_goesBy_0 : decode cX11_goesBy 0 = .ok (.aload_n 0, 1) := by decide +kernel
theorem dX11_goesBy_1 : decode cX11_goesBy 1 = .ok (.getfield 94, 3) := by decide +kernel
theorem dX11_goesBy_4 : decode cX11_goesBy 4 = .ok (.iload_n 1, 1) := by decide +kernel
theorem dX11_goesBy_5 : decode cX11_goesBy 5 = .ok (.iconst 0, 1) := by decide +kernel
theorem dX11_goesBy_6 : decode cX11_goesBy 6 = .ok (.iastore, 1) := by decide +kernel
theorem dX11_goesBy_7 : decode cX11_goesBy 7 = .ok (.aload_n 0, 1) := by decide +kernel
theorem dX11_goesBy_8 : decode cX11_goesBy 8 = .ok (.getfield 97, 3) := by decide +kernel
theorem dX11_goesBy_11 : decode cX11_goesBy 11 = .ok (.iload_n 1, 1) := by decide +kernel
theorem dX11_goesBy_12 : decode cX11_goesBy 12 = .ok (.iconst 0, 1) := by decide +kernel
theorem dX11_goesBy_13 : decode cX11_goesBy 13 = .ok (.iastore, 1) := by decide +kernel
theorem dX11_goesBy_14 : decode cX11_goesBy 14 = .ok (.iconst 0, 1) := by decide +kernel
theorem dX11_goesBy_15 : decode cX11_goesBy 15 = .ok (.istore_n 2, 1) := by decide +kernel
theorem dX11_goesBy_16 : decode cX11_goesBy 16 = .ok (.iload_n 2, 1) := by decide +kernel
theorem dX11_goesBy_17 : decode cX11_goesBy 17 = .ok (.aload_n 0, 1) := by decide +kernel
theorem dX11_goesBy_18 : decode cX11_goesBy 18 = .ok (.getfield 220, 3) := by decide +kernel
theorem dX11_goesBy_21 : decode cX11_goesBy 21 = .ok (.if_icmp .ge 86, 3) := by decide +kernel
theorem dX11_goesBy_24 : decode cX11_goesBy 24 = .ok (.aload_n 0, 1) := by decide +kernel
theorem dX11_goesBy_25 : decode cX11_goesBy 25 = .ok (.getfield 52, 3) := by decide +kernel
theorem dX11_goesBy_28 : decode cX11_goesBy 28 = .ok (.iload_n 2, 1) := by decide +kernel
theorem dX11_goesBy_29 : decode cX11_goesBy 29 = .ok (.iaload, 1) := by decide +kernel
theorem dX11_goesBy_30 : decode cX11_goesBy 30 = .ok (.iload_n 1, 1) := by decide +kernel
theorem dX11_goesBy_31 : decode cX11_goesBy 31 = .ok (.if_icmp .ne 70, 3) := by decide +kernel
theorem dX11_goesBy_34 : decode cX11_goesBy 34 = .ok (.aload_n 0, 1) := by decide +kernel
theorem dX11_goesBy_35 : decode cX11_goesBy 35 = .ok (.getfield 223, 3) := by decide +kernel
theorem dX11_goesBy_38 : decode cX11_goesBy 38 = .ok (.iload_n 2, 1) := by decide +kernel
theorem dX11_goesBy_39 : decode cX11_goesBy 39 = .ok (.invokestatic 252, 3) := by decide +kernel
theorem dX11_goesBy_42 : decode cX11_goesBy 42 = .ok (.ifCond .ne 59, 3) := by decide +kernel
theorem dX11_goesBy_45 : decode cX11_goesBy 45 = .ok (.aload_n 0, 1) := by decide +kernel
theorem dX11_goesBy_46 : decode cX11_goesBy 46 = .ok (.getfield 94, 3) := by decide +kernel
theorem dX11_goesBy_49 : decode cX11_goesBy 49 = .ok (.iload_n 1, 1) := by decide +kernel
theorem dX11_goesBy_50 : decode cX11_goesBy 50 = .ok (.aload_n 0, 1) := by decide +kernel
theorem dX11_goesBy_51 : decode cX11_goesBy 51 = .ok (.getfield 49, 3) := by decide +kernel
theorem dX11_goesBy_54 : decode cX11_goesBy 54 = .ok (.iload_n 2, 1) := by decide +kernel
theorem dX11_goesBy_55 : decode cX11_goesBy 55 = .ok (.iaload, 1) := by decide +kernel
theorem dX11_goesBy_56 : decode cX11_goesBy 56 = .ok (.ifCond .ne 7, 3) := by decide +kernel
theorem dX11_goesBy_59 : decode cX11_goesBy 59 = .ok (.iconst 1, 1) := by decide +kernel
theorem dX11_goesBy_60 : decode cX11_goesBy 60 = .ok (.goto 9, 3) := by decide +kernel
theorem dX11_goesBy_63 : decode cX11_goesBy 63 = .ok (.aload_n 0, 1) := by decide +kernel
theorem dX11_goesBy_64 : decode cX11_goesBy 64 = .ok (.getfield 94, 3) := by decide +kernel
theorem dX11_goesBy_67 : decode cX11_goesBy 67 = .ok (.iload_n 1, 1) := by decide +kernel
theorem dX11_goesBy_68 : decode cX11_goesBy 68 = .ok (.iaload, 1) := by decide +kernel
theorem dX11_goesBy_69 : decode cX11_goesBy 69 = .ok (.iastore, 1) := by decide +kernel
theorem dX11_goesBy_70 : decode cX11_goesBy 70 = .ok (.aload_n 0, 1) := by decide +kernel
theorem dX11_goesBy_71 : decode cX11_goesBy 71 = .ok (.dup, 1) := by decide +kernel
theorem dX11_goesBy_72 : decode cX11_goesBy 72 = .ok (.getfield 256, 3) := by decide +kernel
theorem dX11_goesBy_75 : decode cX11_goesBy 75 = .ok (.aload_n 0, 1) := by decide +kernel
theorem dX11_goesBy_76 : decode cX11_goesBy 76 = .ok (.getfield 49, 3) := by decide +kernel
theorem dX11_goesBy_79 : decode cX11_goesBy 79 = .ok (.iload_n 2, 1) := by decide +kernel
theorem dX11_goesBy_80 : decode cX11_goesBy 80 = .ok (.iaload, 1) := by decide +kernel
theorem dX11_goesBy_81 : decode cX11_goesBy 81 = .ok (.iconst 1, 1) := by decide +kernel
theorem dX11_goesBy_82 : decode cX11_goesBy 82 = .ok (.if_icmp .ne 14, 3) := by decide +kernel
theorem dX11_goesBy_85 : decode cX11_goesBy 85 = .ok (.iconst 1, 1) := by decide +kernel
theorem dX11_goesBy_86 : decode cX11_goesBy 86 = .ok (.aload_n 0, 1) := by decide +kernel
theorem dX11_goesBy_87 : decode cX11_goesBy 87 = .ok (.getfield 55, 3) := by decide +kernel
theorem dX11_goesBy_90 : decode cX11_goesBy 90 = .ok (.iload_n 2, 1) := by decide +kernel
theorem dX11_goesBy_91 : decode cX11_goesBy 91 = .ok (.iaload, 1) := by decide +kernel
theorem dX11_goesBy_92 : decode cX11_goesBy 92 = .ok (.ishl, 1) := by decide +kernel
theorem dX11_goesBy_93 : decode cX11_goesBy 93 = .ok (.goto 4, 3) := by decide +kernel
theorem dX11_goesBy_96 : decode cX11_goesBy 96 = .ok (.iconst 0, 1) := by decide +kernel
theorem dX11_goesBy_97 : decode cX11_goesBy 97 = .ok (.ior, 1) := by decide +kernel
theorem dX11_goesBy_98 : decode cX11_goesBy 98 = .ok (.putfield 256, 3) := by decide +kernel
theorem dX11_goesBy_101 : decode cX11_goesBy 101 = .ok (.iinc 2 1, 3) := by decide +kernel
theorem dX11_goesBy_104 : decode cX11_goesBy 104 = .ok (.goto (-88), 3) := by decide +kernel
theorem dX11_goesBy_107 : decode cX11_goesBy 107 = .ok (.aload_n 0, 1) := by decide +kernel
theorem dX11_goesBy_108 : decode cX11_goesBy 108 = .ok (.iload_n 1, 1) := by decide +kernel
theorem dX11_goesBy_109 : decode cX11_goesBy 109 = .ok (.invokevirtual 259, 3) := by decide +kernel
theorem dX11_goesBy_112 : decode cX11_goesBy 112 = .ok (.iconst 0, 1) := by decide +kernel
theorem dX11_goesBy_113 : decode cX11_goesBy 113 = .ok (.istore_n 2, 1) := by decide +kernel
theorem dX11_goesBy_114 : decode cX11_goesBy 114 = .ok (.iload_n 2, 1) := by decide +kernel
theorem dX11_goesBy_115 : decode cX11_goesBy 115 = .ok (.aload_n 0, 1) := by decide +kernel
theorem dX11_goesBy_116 : decode cX11_goesBy 116 = .ok (.getfield 161, 3) := by decide +kernel
theorem dX11_goesBy_119 : decode cX11_goesBy 119 = .ok (.if_icmp .ge 35, 3) := by decide +kernel
theorem dX11_goesBy_122 : decode cX11_goesBy 122 = .ok (.aload_n 0, 1) := by decide +kernel
theorem dX11_goesBy_123 : decode cX11_goesBy 123 = .ok (.getfield 94, 3) := by decide +kernel
theorem dX11_goesBy_126 : decode cX11_goesBy 126 = .ok (.iload_n 1, 1) := by decide +kernel
theorem dX11_goesBy_127 : decode cX11_goesBy 127 = .ok (.iaload, 1) := by decide +kernel
theorem dX11_goesBy_128 : decode cX11_goesBy 128 = .ok (.ifCond .ne 26, 3) := by decide +kernel
theorem dX11_goesBy_131 : decode cX11_goesBy 131 = .ok (.aload_n 0, 1) := by decide +kernel
theorem dX11_goesBy_132 : decode cX11_goesBy 132 = .ok (.getfield 256, 3) := by decide +kernel
theorem dX11_goesBy_135 : decode cX11_goesBy 135 = .ok (.iload_n 2, 1) := by decide +kernel
theorem dX11_goesBy_136 : decode cX11_goesBy 136 = .ok (.invokestatic 252, 3) := by decide +kernel
theorem dX11_goesBy_139 : decode cX11_goesBy 139 = .ok (.ifCond .ne 9, 3) := by decide +kernel
theorem dX11_goesBy_142 : decode cX11_goesBy 142 = .ok (.aload_n 0, 1) := by decide +kernel
theorem dX11_goesBy_143 : decode cX11_goesBy 143 = .ok (.iload_n 2, 1) := by decide +kernel
theorem dX11_goesBy_144 : decode cX11_goesBy 144 = .ok (.iload_n 1, 1) := by decide +kernel
theorem dX11_goesBy_145 : decode cX11_goesBy 145 = .ok (.invokevirtual 263, 3) := by decide +kernel
theorem dX11_goesBy_148 : decode cX11_goesBy 148 = .ok (.iinc 2 1, 3) := by decide +kernel
theorem dX11_goesBy_151 : decode cX11_goesBy 151 = .ok (.goto (-37), 3) := by decide +kernel
theorem dX11_goesBy_154 : decode cX11_goesBy 154 = .ok (.aload_n 0, 1) := by decide +kernel
theorem dX11_goesBy_155 : decode cX11_goesBy 155 = .ok (.getfield 91, 3) := by decide +kernel
theorem dX11_goesBy_158 : decode cX11_goesBy 158 = .ok (.iload_n 1, 1) := by decide +kernel
theorem dX11_goesBy_159 : decode cX11_goesBy 159 = .ok (.aload_n 0, 1) := by decide +kernel
theorem dX11_goesBy_160 : decode cX11_goesBy 160 = .ok (.getfield 256, 3) := by decide +kernel
theorem dX11_goesBy_163 : decode cX11_goesBy 163 = .ok (.iastore, 1) := by decide +kernel
theorem dX11_goesBy_164 : decode cX11_goesBy 164 = .ok (.iconst 0, 1) := by decide +kernel
theorem dX11_goesBy_165 : decode cX11_goesBy 165 = .ok (.istore_n 2, 1) := by decide +kernel
theorem dX11_goesBy_166 : decode cX11_goesBy 166 = .ok (.iload_n 2, 1) := by decide +kernel
theorem dX11_goesBy_167 : decode cX11_goesBy 167 = .ok (.aload_n 0, 1) := by decide +kernel
theorem dX11_goesBy_168 : decode cX11_goesBy 168 = .ok (.getfield 161, 3) := by decide +kernel
theorem dX11_goesBy_171 : decode cX11_goesBy 171 = .ok (.if_icmp .ge 76, 3) := by decide +kernel
theorem dX11_goesBy_174 : decode cX11_goesBy 174 = .ok (.bipush 8, 2) := by decide +kernel
theorem dX11_goesBy_176 : decode cX11_goesBy 176 = .ok (.iload_n 1, 1) := by decide +kernel
theorem dX11_goesBy_177 : decode cX11_goesBy 177 = .ok (.imul, 1) := by decide +kernel
theorem dX11_goesBy_178 : decode cX11_goesBy 178 = .ok (.iload_n 2, 1) := by decide +kernel
theorem dX11_goesBy_179 : decode cX11_goesBy 179 = .ok (.iadd, 1) := by decide +kernel
theorem dX11_goesBy_180 : decode cX11_goesBy 180 = .ok (.istore_n 3, 1) := by decide +kernel
theorem dX11_goesBy_181 : decode cX11_goesBy 181 = .ok (.aload_n 0, 1) := by decide +kernel
theorem dX11_goesBy_182 : decode cX11_goesBy 182 = .ok (.getfield 76, 3) := by decide +kernel
theorem dX11_goesBy_185 : decode cX11_goesBy 185 = .ok (.iload_n 3, 1) := by decide +kernel
theorem dX11_goesBy_186 : decode cX11_goesBy 186 = .ok (.aload_n 0, 1) := by decide +kernel
theorem dX11_goesBy_187 : decode cX11_goesBy 187 = .ok (.getfield 58, 3) := by decide +kernel
theorem dX11_goesBy_190 : decode cX11_goesBy 190 = .ok (.iload_n 2, 1) := by decide +kernel
theorem dX11_goesBy_191 : decode cX11_goesBy 191 = .ok (.iaload, 1) := by decide +kernel
theorem dX11_goesBy_192 : decode cX11_goesBy 192 = .ok (.iastore, 1) := by decide +kernel
theorem dX11_goesBy_193 : decode cX11_goesBy 193 = .ok (.aload_n 0, 1) := by decide +kernel
theorem dX11_goesBy_194 : decode cX11_goesBy 194 = .ok (.getfield 79, 3) := by decide +kernel
theorem dX11_goesBy_197 : decode cX11_goesBy 197 = .ok (.iload_n 3, 1) := by decide +kernel
theorem dX11_goesBy_198 : decode cX11_goesBy 198 = .ok (.aload_n 0, 1) := by decide +kernel
theorem dX11_goesBy_199 : decode cX11_goesBy 199 = .ok (.getfield 61, 3) := by decide +kernel
theorem dX11_goesBy_202 : decode cX11_goesBy 202 = .ok (.iload_n 2, 1) := by decide +kernel
theorem dX11_goesBy_203 : decode cX11_goesBy 203 = .ok (.iaload, 1) := by decide +kernel
theorem dX11_goesBy_204 : decode cX11_goesBy 204 = .ok (.iastore, 1) := by decide +kernel
theorem dX11_goesBy_205 : decode cX11_goesBy 205 = .ok (.aload_n 0, 1) := by decide +kernel
theorem dX11_goesBy_206 : decode cX11_goesBy 206 = .ok (.getfield 82, 3) := by decide +kernel
theorem dX11_goesBy_209 : decode cX11_goesBy 209 = .ok (.iload_n 3, 1) := by decide +kernel
theorem dX11_goesBy_210 : decode cX11_goesBy 210 = .ok (.aload_n 0, 1) := by decide +kernel
theorem dX11_goesBy_211 : decode cX11_goesBy 211 = .ok (.getfield 64, 3) := by decide +kernel
theorem dX11_goesBy_214 : decode cX11_goesBy 214 = .ok (.iload_n 2, 1) := by decide +kernel
theorem dX11_goesBy_215 : decode cX11_goesBy 215 = .ok (.iaload, 1) := by decide +kernel
theorem dX11_goesBy_216 : decode cX11_goesBy 216 = .ok (.iastore, 1) := by decide +kernel
theorem dX11_goesBy_217 : decode cX11_goesBy 217 = .ok (.aload_n 0, 1) := by decide +kernel
theorem dX11_goesBy_218 : decode cX11_goesBy 218 = .ok (.getfield 85, 3) := by decide +kernel
theorem dX11_goesBy_221 : decode cX11_goesBy 221 = .ok (.iload_n 3, 1) := by decide +kernel
theorem dX11_goesBy_222 : decode cX11_goesBy 222 = .ok (.aload_n 0, 1) := by decide +kernel
theorem dX11_goesBy_223 : decode cX11_goesBy 223 = .ok (.getfield 67, 3) := by decide +kernel
theorem dX11_goesBy_226 : decode cX11_goesBy 226 = .ok (.iload_n 2, 1) := by decide +kernel
theorem dX11_goesBy_227 : decode cX11_goesBy 227 = .ok (.iaload, 1) := by decide +kernel
theorem dX11_goesBy_228 : decode cX11_goesBy 228 = .ok (.iastore, 1) := by decide +kernel
theorem dX11_goesBy_229 : decode cX11_goesBy 229 = .ok (.aload_n 0, 1) := by decide +kernel
theorem dX11_goesBy_230 : decode cX11_goesBy 230 = .ok (.getfield 88, 3) := by decide +kernel
theorem dX11_goesBy_233 : decode cX11_goesBy 233 = .ok (.iload_n 3, 1) := by decide +kernel
theorem dX11_goesBy_234 : decode cX11_goesBy 234 = .ok (.aload_n 0, 1) := by decide +kernel
theorem dX11_goesBy_235 : decode cX11_goesBy 235 = .ok (.getfield 70, 3) := by decide +kernel
theorem dX11_goesBy_238 : decode cX11_goesBy 238 = .ok (.iload_n 2, 1) := by decide +kernel
theorem dX11_goesBy_239 : decode cX11_goesBy 239 = .ok (.iaload, 1) := by decide +kernel
theorem dX11_goesBy_240 : decode cX11_goesBy 240 = .ok (.iastore, 1) := by decide +kernel
theorem dX11_goesBy_241 : decode cX11_goesBy 241 = .ok (.iinc 2 1, 3) := by decide +kernel
theorem dX11_goesBy_244 : decode cX11_goesBy 244 = .ok (.goto (-78), 3) := by decide +kernel
theorem dX11_goesBy_247 : decode cX11_goesBy 247 = .ok (.return_, 1) := by decide +kernel
theorem c_steersAll (n ns : Nat) (hn : n ≤ 8) (hns : ns ≤ 13) (hc : σ.1 111 2 = nI n) (hs : σ.1 111 16 = nI ns) (hof : ∀ i, i < ns → ∃ j, j < 8 ∧ σ.1 120 i = nI j) (m : Nat) : mMet G l d kX11_steersAll [.ref 111, .int (nI m)] σ (qV (ur σ 130 (steerW n (cF σ) (sF σ) (nI m) (σ.1 130) ns))) := by
  refine mMet.of cm_X11_steersAll rfl (Nat.le_of_ble_eq_true rfl) rfl (fun v1 σ1 h => by rw [h.1]; trivial) ?_
  refine m_iconst (v := 0) dX11_steersAll_0 (by decide) ?_
  refine m_istore_n (ls1 := [(2, _), (0, _), (1, _)]) dX11_steersAll_1 (by decide) rfl ?_
  refine down (N := ns) (fun i (s : mS) => s = ur σ 130 (steerW n (cF σ) (sF σ) (nI m) (σ.1 130) i)) (fun i s => mW G l d kX11_steersAll 2 [(2, .int (nI i)), (0, .ref 111), (1, .int (nI m))] [] s _) ?_ ?_ 0 σ (Nat.zero_le _) (ur_id 130)
  · intro s hs1
    subst hs1
    refine m_iload_n dX11_steersAll_2 0 rfl ?_
    refine m_aload_n dX11_steersAll_3 1 rfl ?_
    refine m_getI 16 dX11_steersAll_4 fl_X11_217_10 rfl (by decide) (by first | assumption | rfl) ?_
    refine m_icmp_ge dX11_steersAll_7 81 (by decide) (fun h => ?_) (fun h => ?_)
    · refine m_return dX11_steersAll_81 ?_
      exact ⟨rfl, rfl⟩
    · exact (ge_yes h hs).elim
  · intro i s hi hs1 ih
    subst hs1
    obtain ⟨j, hj, hji⟩ := hof i hi
    have hjs : sF σ i 1 = nI j := hji
    refine m_iload_n dX11_steersAll_2 0 rfl ?_
    refine m_aload_n dX11_steersAll_3 1 rfl ?_
    refine m_getI 16 dX11_steersAll_4 fl_X11_217_10 rfl (by decide) (by first | assumption | rfl) ?_
    refine m_icmp_ge dX11_steersAll_7 81 (by decide) (fun h => ?_) (fun h => ?_)
    · exact (ge_no hs h rfl hi (by omega)).elim
    · refine m_aload_n dX11_steersAll_10 1 rfl ?_
      refine m_getR 10 120 dX11_steersAll_11 fl_X11_34_10 rfl (by decide) rfl (by first | assumption | rfl) ?_
      refine m_iload_n dX11_steersAll_14 0 rfl ?_
      refine m_iald dX11_steersAll_15 (by first | assumption | rfl) i rfl (by first | assumption | omega | decide) ?_
      refine mW.top (w := nI j) hji ?_
      refine m_istore_n (ls1 := [(3, _), (2, _), (0, _), (1, _)]) dX11_steersAll_16 (by decide) rfl ?_
      refine m_aload_n dX11_steersAll_17 2 rfl ?_
      refine m_getR 9 119 dX11_steersAll_18 fl_X11_31_10 rfl (by decide) rfl (by first | assumption | rfl) ?_
      refine m_iload_n dX11_steersAll_21 1 rfl ?_
      refine m_iald dX11_steersAll_22 (by first | assumption | rfl) i rfl (by first | assumption | omega | decide) ?_
      refine m_iload_n dX11_steersAll_23 3 rfl ?_
      refine m_icmp_ne dX11_steersAll_24 75 (by decide) (fun h24 => ?_) (fun h24 => ?_)
      · refine m_iinc (v := nI (i + 1)) (ls1 := [(2, _), (3, _), (0, _), (1, _)]) dX11_steersAll_75 1 rfl (nI_1 i) (by decide) rfl ?_
        refine m_goto dX11_steersAll_78 2 (by decide) ?_
        refine mW.sub (ls1 := [(2, _), (0, _), (1, _)]) [0, 2, 3] rfl ?_
        exact ih _ (by rw [steerW, if_neg (fun q => h24 q.1)])
      · refine m_iload_n dX11_steersAll_27 0 rfl ?_
        refine m_aload_n dX11_steersAll_28 2 rfl ?_
        refine m_getI 2 dX11_steersAll_29 fl_X11_161_10 rfl (by decide) (by first | assumption | rfl) ?_
        refine m_icmp_ge dX11_steersAll_32 75 (by decide) (fun h32 => ?_) (fun h32 => ?_)
        · refine m_iinc (v := nI (i + 1)) (ls1 := [(2, _), (3, _), (0, _), (1, _)]) dX11_steersAll_75 1 rfl (nI_1 i) (by decide) rfl ?_
          refine m_goto dX11_steersAll_78 2 (by decide) ?_
          refine mW.sub (ls1 := [(2, _), (0, _), (1, _)]) [0, 2, 3] rfl ?_
          exact ih _ (by rw [steerW, if_neg (fun q => absurd q.2.1 (Int32.not_lt.mpr (by rw [hjs]; rw [← hc]; exact h32)))])
        · refine m_aload_n dX11_steersAll_35 2 rfl ?_
          refine m_getR 3 114 dX11_steersAll_36 fl_X11_16_10 rfl (by decide) rfl (by first | assumption | rfl) ?_
          refine m_iload_n dX11_steersAll_39 0 rfl ?_
          refine m_iald dX11_steersAll_40 (by first | assumption | rfl) j rfl (by first | assumption | omega | decide) ?_
          refine m_iconst (v := 1) dX11_steersAll_41 (by decide) ?_
          refine m_icmp_eq dX11_steersAll_42 75 (by decide) (fun h42 => ?_) (fun h42 => ?_)
          · refine m_iinc (v := nI (i + 1)) (ls1 := [(2, _), (3, _), (0, _), (1, _)]) dX11_steersAll_75 1 rfl (nI_1 i) (by decide) rfl ?_
            refine m_goto dX11_steersAll_78 2 (by decide) ?_
            refine mW.sub (ls1 := [(2, _), (0, _), (1, _)]) [0, 2, 3] rfl ?_
            exact ih _ (by rw [steerW, if_neg (fun q => by have := q.2.2; rw [hjs, nI_clamp (by omega)] at this; exact this h42)])
          · refine m_aload_n dX11_steersAll_45 2 rfl ?_
            refine m_getR 24 130 dX11_steersAll_46 fl_X11_64_10 rfl (by decide) rfl (by first | assumption | rfl) ?_
            refine m_iload_n dX11_steersAll_49 0 rfl ?_
            refine m_aload_n dX11_steersAll_50 2 rfl ?_
            refine m_getR 24 130 dX11_steersAll_51 fl_X11_64_10 rfl (by decide) rfl (by first | assumption | rfl) ?_
            refine m_iload_n dX11_steersAll_54 0 rfl ?_
            refine m_iald dX11_steersAll_55 (by first | assumption | rfl) j rfl (by first | assumption | omega | decide) ?_
            refine m_aload_n dX11_steersAll_56 2 rfl ?_
            refine m_getR 11 121 dX11_steersAll_57 fl_X11_37_10 rfl (by decide) rfl (by first | assumption | rfl) ?_
            refine m_iload_n dX11_steersAll_60 1 rfl ?_
            refine m_iald dX11_steersAll_61 (by first | assumption | rfl) i rfl (by first | assumption | omega | decide) ?_
            refine m_iconst (v := 1) dX11_steersAll_62 (by decide) ?_
            refine m_sel (pcJ := 71) ?_ (fun kt0 kf0 => m_icmp_ne dX11_steersAll_63 70 (by decide) (fun h => (m_iconst (v := 3) dX11_steersAll_70 (by decide) (kf0 h))) (fun h => (m_iconst (v := 1) dX11_steersAll_66 (by decide) (m_goto dX11_steersAll_67 71 (by decide) (kt0 h)))))
            refine m_iadd dX11_steersAll_71 ?_
            refine m_iconst (v := 4) dX11_steersAll_72 (by decide) ?_
            refine m_irem dX11_steersAll_73 (by decide) ?_
            refine m_iast dX11_steersAll_74 (by first | assumption | rfl) j rfl (by first | assumption | omega | decide) ?_
            refine m_iinc (v := nI (i + 1)) (ls1 := [(2, _), (3, _), (0, _), (1, _)]) dX11_steersAll_75 1 rfl (nI_1 i) (by decide) rfl ?_
            refine m_goto dX11_steersAll_78 2 (by decide) ?_
            refine mW.sub (ls1 := [(2, _), (0, _), (1, _)]) [0, 2, 3] rfl ?_
            refine ih _ ?_
            rw [us_ur, steerW, hjs, nI_clamp (by omega)]
            exact congrArg (ur σ 130) (Eq.trans rfl (if_pos ⟨h24, by rw [← hc]; exact Int32.not_le.mp h32, h42⟩).symm)
theorem driveR_cut {n : Nat} {c : Nat → Nat → Int32} {k : Nat} {mo : Int32} {r : RS} : (driveR n c k mo r).2.2.2.2.2.2.1 = r.2.2.2.2.2.2.1 := by
  unfold driveR driveW
  split
  · rfl
  · split
    · rfl
    · unfold rInto intoR
      split <;> rfl
theorem driveAll_cut {n : Nat} {c : Nat → Nat → Int32} {mo cut cu : Int32} {r : RS} (h : r.2.2.2.2.2.2.1 = cu) : ∀ k, (driveAll n c mo cut r k).2.2.2.2.2.2.1 = cu
  | 0 => h
  | k + 1 => by
    unfold driveAll
    split
    · exact driveAll_cut h k
    · rw [driveR_cut]; exact driveAll_cut h k
/-- what a moment may change -/
abbrev wG (m : Nat) : Nat → Nat → Prop := fun y z => (128 ≤ y ∧ y ≤ 133) ∨ (y = 111 ∧ 28 ≤ z ∧ z ≤ 31) ∨ (139 ≤ y ∧ y ≤ 141 ∧ z = m) ∨ (134 ≤ y ∧ y ≤ 138 ∧ 8 * m ≤ z ∧ z < 8 * m + 8)
theorem c_goesBy (hd : 5 ≤ d) (n ns e : Nat) (hn : n ≤ 8) (hns : ns ≤ 13) (he9 : e ≤ 9) (hc : σ.1 111 2 = nI n) (hs : σ.1 111 16 = nI ns) (he : σ.1 111 17 = nI e) (hof : ∀ i, i < ns → ∃ j, j < 8 ∧ σ.1 120 i = nI j) (m : Nat) (hm : m < 24) : mMet G l d kX11_goesBy [.ref 111, .int (nI m)] σ (qVP (fun s => gR s m = goR (debR σ n ns e) (nI m) (gR σ m) ∧ s.1 140 m = rungD (debR σ n ns e) (nI m) ∧ s.1 139 m = s.1 111 28 ∧ (∀ k, k < n → s.1 134 (8 * m + k) = s.1 128 k ∧ s.1 135 (8 * m + k) = s.1 129 k ∧ s.1 136 (8 * m + k) = s.1 130 k ∧ s.1 137 (8 * m + k) = s.1 131 k ∧ s.1 138 (8 * m + k) = s.1 132 k) ∧ fW (wG m) σ s)) := by
  refine mMet.of cm_X11_goesBy rfl (Nat.le_of_ble_eq_true rfl) rfl (fun v1 σ1 h => by rw [h.1]; trivial) ?_
  refine m_aload_n dX11_goesBy_0 0 rfl ?_
  refine m_getR 38 140 dX11_goesBy_1 fl_X11_94_10 rfl (by decide) rfl (by first | assumption | rfl) ?_
  refine m_iload_n dX11_goesBy_4 1 rfl ?_
  refine m_iconst (v := 0) dX11_goesBy_5 (by decide) ?_
  refine m_iast dX11_goesBy_6 (by first | assumption | rfl) m rfl (by first | assumption | omega | decide) ?_
  refine m_aload_n dX11_goesBy_7 0 rfl ?_
  refine m_getR 39 141 dX11_goesBy_8 fl_X11_97_10 rfl (by decide) rfl (by first | assumption | rfl) ?_
  refine m_iload_n dX11_goesBy_11 1 rfl ?_
  refine m_iconst (v := 0) dX11_goesBy_12 (by decide) ?_
  refine m_iast dX11_goesBy_13 (by first | assumption | rfl) m rfl (by first | assumption | omega | decide) ?_
  refine m_iconst (v := 0) dX11_goesBy_14 (by decide) ?_
  refine m_istore_n (ls1 := [(2, _), (0, _), (1, _)]) dX11_goesBy_15 (by decide) rfl ?_
  refine down (N := e) (fun i (s : mS) => s.1 140 m = rungE (vF σ) (σ.1 111 21) (nI m) i ∧ s.1 111 28 = cutE (vF σ) (σ.1 111 21) (nI m) (σ.1 111 28) i ∧ s.1 141 m = 0 ∧ fW (fun y z => (y = 140 ∧ z = m) ∨ (y = 141 ∧ z = m) ∨ (y = 111 ∧ z = 28)) σ s) (fun i s => mW G l d kX11_goesBy 16 [(2, .int (nI i)), (0, .ref 111), (1, .int (nI m))] [] s _) ?_ ?_ 0 _ (Nat.zero_le _) ⟨?_, ?_, ?_, fW.us (by omega) (fW.us (by omega) fW.rf)⟩
  · rintro s ⟨i1, i2, i3, i4⟩
    refine m_iload_n dX11_goesBy_16 0 rfl ?_
    refine m_aload_n dX11_goesBy_17 1 rfl ?_
    refine m_getI 17 dX11_goesBy_18 fl_X11_220_10 rfl (by decide) (by first | assumption | rfl) ?_
    refine m_icmp_ge dX11_goesBy_21 107 (by decide) (fun h => ?_) (fun h => ?_)
    · clear h
      have r : ∀ y, 112 ≤ y → y ≤ 139 → s.1 y = σ.1 y := fun y _ _ => i4.row (fun z => by omega)
      have hcs : cF s = cF σ := cF_eq (fun y a b => r y (by omega) (by omega))
      have hss : sF s = sF σ := sF_eq (fun y a b => r y (by omega) (by omega))
      refine m_aload_n dX11_goesBy_107 1 rfl ?_
      refine m_iload_n dX11_goesBy_108 2 rfl ?_
      refine m_callV (As := [_]) dX11_goesBy_109 cv_X11_259 (by first | assumption | rfl) (by decide) (by omega) rfl rfl (Nat.le_of_ble_eq_true rfl) (c_steersAll (d := d - 1) n ns hn hns ((i4.at (by omega)).trans hc) ((i4.at (by omega)).trans hs) (fun i hi => by rw [r 120 (by omega) (by omega)]; exact hof i hi) m) (fun v1 σ1 hv1 => ?_)
      refine m_qV hv1 ?_
      clear hv1 v1 σ1
      rw [hcs, hss, r 130 (by omega) (by omega)]
      generalize hD : debR σ n ns e = D
      refine mW.cut (fun s2 => gR s2 m = readyR D (nI m) (gR σ m) ∧ s2.1 140 m = rungD D (nI m) ∧ fW (wG m) σ s2) ⟨?_, ?_, ?_⟩ (fun s2 h2 => ?_)
      · subst hD
        show (s.1 128, s.1 129, steerW n (cF σ) (sF σ) (nI m) (σ.1 130) ns, s.1 131, s.1 132, s.1 133, s.1 111 28, s.1 111 29, s.1 111 30, s.1 111 31, s.1 141 m) = _
        rw [r 128 (by omega) (by omega), r 129 (by omega) (by omega), r 131 (by omega) (by omega), r 132 (by omega) (by omega), r 133 (by omega) (by omega), i2, i3, i4.at (y := 111) (z := 29) (by omega), i4.at (y := 111) (z := 30) (by omega), i4.at (y := 111) (z := 31) (by omega)]
        rfl
      · subst hD
        exact i1
      · exact fW.ur (fun z => by omega) (i4.mono (fun y z h => by omega))
      obtain ⟨g2, r2, f2⟩ := h2
      clear i1 i2 i3 i4 r hcs hss
      suffices K : ∀ (kk : Int32) (s3 : mS), gR s3 m = goR D (nI m) (gR σ m) → s3.1 140 m = rungD D (nI m) → fW (wG m) σ s3 → mW G l d kX11_goesBy 154 [(2, .int kk), (0, .ref 111), (1, .int (nI m))] [] s3 _ by
        by_cases hr : rungD D (nI m) = 0
        · have hgo : goR D (nI m) (gR σ m) = driveAll n (cF σ) (nI m) (cutD D (nI m) (σ.1 111 28)) (readyR D (nI m) (gR σ m)) n := by rw [goR, if_pos hr, ← hD]
          refine m_iconst (v := 0) dX11_goesBy_112 (by decide) ?_
          refine m_istore_n (ls1 := [(2, _), (0, _), (1, _)]) dX11_goesBy_113 (by decide) rfl ?_
          refine down (N := n) (fun k (s3 : mS) => gR s3 m = driveAll n (cF σ) (nI m) (cutD D (nI m) (σ.1 111 28)) (readyR D (nI m) (gR σ m)) k ∧ s3.1 140 m = 0 ∧ fW (wG m) σ s3) (fun k s3 => mW G l d kX11_goesBy 114 [(2, .int (nI k)), (0, .ref 111), (1, .int (nI m))] [] s3 _) ?_ ?_ 0 s2 (Nat.zero_le _) ⟨g2, r2.trans hr, f2⟩
          · rintro s3 ⟨a1, a2, a3⟩
            refine m_iload_n dX11_goesBy_114 0 rfl ?_
            refine m_aload_n dX11_goesBy_115 1 rfl ?_
            refine m_getI 2 dX11_goesBy_116 fl_X11_161_10 rfl (by decide) (by first | assumption | rfl) ?_
            refine m_icmp_ge dX11_goesBy_119 154 (by decide) (fun h => ?_) (fun h => ?_)
            · exact K _ s3 (a1.trans hgo.symm) (a2.trans hr.symm) a3
            · exact (ge_yes h ((a3.at (by omega)).trans hc)).elim
          · rintro k s3 hk ⟨a1, a2, a3⟩ ih
            have hcut : s3.1 111 28 = cutD D (nI m) (σ.1 111 28) := by
              have h9 : ∀ k, (driveAll n (cF σ) (nI m) (cutD D (nI m) (σ.1 111 28)) (readyR D (nI m) (gR σ m)) k).2.2.2.2.2.2.1 = cutD D (nI m) (σ.1 111 28) := fun k => driveAll_cut rfl k
              rw [← h9 k, ← a1]
            refine m_iload_n dX11_goesBy_114 0 rfl ?_
            refine m_aload_n dX11_goesBy_115 1 rfl ?_
            refine m_getI 2 dX11_goesBy_116 fl_X11_161_10 rfl (by decide) (by first | assumption | rfl) ?_
            refine m_icmp_ge dX11_goesBy_119 154 (by decide) (fun h => ?_) (fun h => ?_)
            · exact (ge_no ((a3.at (by omega)).trans hc) h rfl hk (by omega)).elim
            · clear h
              refine m_aload_n dX11_goesBy_122 1 rfl ?_
              refine m_getR 38 140 dX11_goesBy_123 fl_X11_94_10 rfl (by decide) rfl (by first | assumption | rfl) ?_
              refine m_iload_n dX11_goesBy_126 2 rfl ?_
              refine m_iald dX11_goesBy_127 (by first | assumption | rfl) m rfl (by first | assumption | omega | decide) ?_
              refine mW.top a2 ?_
              refine m_if_ne dX11_goesBy_128 154 (by decide) (fun h => ?_) (fun h => ?_)
              · exact absurd rfl h
              · clear h
                refine m_aload_n dX11_goesBy_131 1 rfl ?_
                refine m_getI 28 dX11_goesBy_132 fl_X11_256_10 rfl (by decide) (by first | assumption | rfl) ?_
                refine mW.top hcut ?_
                refine m_iload_n dX11_goesBy_135 0 rfl ?_
                refine m_callS (As := [_, _]) dX11_goesBy_136 cs_X11_252 (by omega) rfl rfl (Nat.le_of_ble_eq_true rfl) (c_isIn (d := d - 1) _ (nI k)) (fun v1 σ1 hv1 => ?_)
                refine m_qI hv1 ?_
                clear hv1 v1 σ1
                refine m_if_ne dX11_goesBy_139 148 (by decide) (fun h9 => ?_) (fun h9 => ?_)
                · refine m_iinc (v := nI (k + 1)) (ls1 := [(2, _), (0, _), (1, _)]) dX11_goesBy_148 0 rfl (nI_1 k) (by decide) rfl ?_
                  refine m_goto dX11_goesBy_151 114 (by decide) ?_
                  exact ih _ ⟨a1.trans (if_pos (bI1 h9)).symm, a2, a3⟩
                · refine m_aload_n dX11_goesBy_142 1 rfl ?_
                  refine m_iload_n dX11_goesBy_143 0 rfl ?_
                  refine m_iload_n dX11_goesBy_144 2 rfl ?_
                  refine m_callV (As := [_, _]) dX11_goesBy_145 cv_X11_263 (by first | assumption | rfl) (by decide) (by omega) rfl rfl (Nat.le_of_ble_eq_true rfl) (c_drives (d := d - 1) (by omega) n hn ((a3.at (by omega)).trans hc) k m hk hm) (fun v1 σ1 hv1 => ?_)
                  refine m_qVP hv1 (fun hp => ?_)
                  clear hv1 v1
                  rename mS => s4
                  refine m_iinc (v := nI (k + 1)) (ls1 := [(2, _), (0, _), (1, _)]) dX11_goesBy_148 0 rfl (nI_1 k) (by decide) rfl ?_
                  refine m_goto dX11_goesBy_151 114 (by decide) ?_
                  refine ih _ ⟨?_, ?_, a3.tr (hp.2.fW.mono (fun y z h => by omega))⟩
                  · rw [hp.1, a1, a3.row (y := 118) (fun z => by omega), a3.row (y := 114) (fun z => by omega)]; exact (if_neg (bI0 h9)).symm
                  · rw [hp.2.at (by omega)]; exact a2
        · have hgo : goR D (nI m) (gR σ m) = readyR D (nI m) (gR σ m) := by rw [goR, if_neg hr]
          refine m_iconst (v := 0) dX11_goesBy_112 (by decide) ?_
          refine m_istore_n (ls1 := [(2, _), (0, _), (1, _)]) dX11_goesBy_113 (by decide) rfl ?_
          refine m_iload_n dX11_goesBy_114 0 rfl ?_
          refine m_aload_n dX11_goesBy_115 1 rfl ?_
          refine m_getI 2 dX11_goesBy_116 fl_X11_161_10 rfl (by decide) (by first | assumption | rfl) ?_
          refine m_icmp_ge dX11_goesBy_119 154 (by decide) (fun h => ?_) (fun h => ?_)
          · exact K _ s2 (g2.trans hgo.symm) r2 f2
          · refine m_aload_n dX11_goesBy_122 1 rfl ?_
            refine m_getR 38 140 dX11_goesBy_123 fl_X11_94_10 rfl (by decide) rfl (by first | assumption | rfl) ?_
            refine m_iload_n dX11_goesBy_126 2 rfl ?_
            refine m_iald dX11_goesBy_127 (by first | assumption | rfl) m rfl (by first | assumption | omega | decide) ?_
            refine m_if_ne dX11_goesBy_128 154 (by decide) (fun h => ?_) (fun h => ?_)
            · exact K _ s2 (g2.trans hgo.symm) r2 f2
            · exact absurd (r2.symm.trans h) hr
      intro kk s3 g3 r3 f3
      clear g2 r2 f2
      refine m_aload_n dX11_goesBy_154 1 rfl ?_
      refine m_getR 37 139 dX11_goesBy_155 fl_X11_91_10 rfl (by decide) rfl (by first | assumption | rfl) ?_
      refine m_iload_n dX11_goesBy_158 2 rfl ?_
      refine m_aload_n dX11_goesBy_159 1 rfl ?_
      refine m_getI 28 dX11_goesBy_160 fl_X11_256_10 rfl (by decide) (by first | assumption | rfl) ?_
      refine m_iast dX11_goesBy_163 (by first | assumption | rfl) m rfl (by first | assumption | omega | decide) ?_
      refine m_iconst (v := 0) dX11_goesBy_164 (by decide) ?_
      refine m_istore_n (ls1 := [(2, _), (0, _), (1, _)]) dX11_goesBy_165 (by decide) rfl ?_
      refine down (N := n) (fun k (s4 : mS) => (∀ k', k' < k → s4.1 134 (8 * m + k') = s3.1 128 k' ∧ s4.1 135 (8 * m + k') = s3.1 129 k' ∧ s4.1 136 (8 * m + k') = s3.1 130 k' ∧ s4.1 137 (8 * m + k') = s3.1 131 k' ∧ s4.1 138 (8 * m + k') = s3.1 132 k') ∧ s4.1 139 m = s3.1 111 28 ∧ fW (fun y z => (y = 139 ∧ z = m) ∨ (134 ≤ y ∧ y ≤ 138 ∧ 8 * m ≤ z ∧ z < 8 * m + 8)) s3 s4) (fun k s4 => mW G l d kX11_goesBy 166 [(2, .int (nI k)), (0, .ref 111), (1, .int (nI m))] [] s4 _) ?_ ?_ 0 _ (Nat.zero_le _) ⟨fun k' h => absurd h (Nat.not_lt_zero _), ?_, fW.us (by omega) fW.rf⟩
      · rintro s4 ⟨b1, b2, b3⟩
        have hg : gR s4 m = gR s3 m := by
          show (s4.1 128, s4.1 129, s4.1 130, s4.1 131, s4.1 132, s4.1 133, s4.1 111 28, s4.1 111 29, s4.1 111 30, s4.1 111 31, s4.1 141 m) = _
          rw [b3.row (y := 128) (fun z => by omega), b3.row (y := 129) (fun z => by omega), b3.row (y := 130) (fun z => by omega), b3.row (y := 131) (fun z => by omega), b3.row (y := 132) (fun z => by omega), b3.row (y := 133) (fun z => by omega), b3.row (y := 111) (fun z => by omega), b3.row (y := 141) (fun z => by omega)]
        refine m_iload_n dX11_goesBy_166 0 rfl ?_
        refine m_aload_n dX11_goesBy_167 1 rfl ?_
        refine m_getI 2 dX11_goesBy_168 fl_X11_161_10 rfl (by decide) (by first | assumption | rfl) ?_
        refine m_icmp_ge dX11_goesBy_171 247 (by decide) (fun h => ?_) (fun h => ?_)
        · refine m_return dX11_goesBy_247 ⟨rfl, ?_, ?_, ?_, ?_, ?_⟩
          · rw [hg]; exact g3
          · rw [b3.at (by omega)]; exact r3
          · rw [b2, b3.at (by omega)]
          · intro k hk
            rw [b3.row (y := 128) (fun z => by omega), b3.row (y := 129) (fun z => by omega), b3.row (y := 130) (fun z => by omega), b3.row (y := 131) (fun z => by omega), b3.row (y := 132) (fun z => by omega)]
            exact b1 k hk
          · exact f3.tr (b3.mono (fun y z h => by omega))
        · exact (ge_yes h (((b3.at (by omega)).trans (f3.at (by omega))).trans hc)).elim
      · rintro k s4 hk ⟨b1, b2, b3⟩ ih
        have q0 : s4.1 128 k = s3.1 128 k := b3.at (by omega)
        have q1 : s4.1 129 k = s3.1 129 k := b3.at (by omega)
        have q2 : s4.1 130 k = s3.1 130 k := b3.at (by omega)
        have q3 : s4.1 131 k = s3.1 131 k := b3.at (by omega)
        have q4 : s4.1 132 k = s3.1 132 k := b3.at (by omega)
        refine m_iload_n dX11_goesBy_166 0 rfl ?_
        refine m_aload_n dX11_goesBy_167 1 rfl ?_
        refine m_getI 2 dX11_goesBy_168 fl_X11_161_10 rfl (by decide) (by first | assumption | rfl) ?_
        refine m_icmp_ge dX11_goesBy_171 247 (by decide) (fun h => ?_) (fun h => ?_)
        · exact (ge_no (((b3.at (by omega)).trans (f3.at (by omega))).trans hc) h rfl hk (by omega)).elim
        · clear h
          refine m_bipush (v := 8) dX11_goesBy_174 (by decide) ?_
          refine m_iload_n dX11_goesBy_176 2 rfl ?_
          refine m_imul dX11_goesBy_177 ?_
          refine m_iload_n dX11_goesBy_178 0 rfl ?_
          refine m_iadd dX11_goesBy_179 ?_
          refine mW.top (w := nI (8 * m + k)) (ix8 m k) ?_
          refine m_istore_n (ls1 := [(3, _), (2, _), (0, _), (1, _)]) dX11_goesBy_180 (by decide) rfl ?_
          refine m_aload_n dX11_goesBy_181 2 rfl ?_
          refine m_getR 32 134 dX11_goesBy_182 fl_X11_76_10 rfl (by decide) rfl (by first | assumption | rfl) ?_
          refine m_iload_n dX11_goesBy_185 0 rfl ?_
          refine m_aload_n dX11_goesBy_186 2 rfl ?_
          refine m_getR 22 128 dX11_goesBy_187 fl_X11_58_10 rfl (by decide) rfl (by first | assumption | rfl) ?_
          refine m_iload_n dX11_goesBy_190 1 rfl ?_
          refine m_iald dX11_goesBy_191 (by first | assumption | rfl) k rfl (by first | assumption | omega | decide) ?_
          refine mW.top q0 ?_
          refine m_iast dX11_goesBy_192 (by first | assumption | rfl) (8 * m + k) rfl (by first | assumption | omega | decide) ?_
          refine m_aload_n dX11_goesBy_193 2 rfl ?_
          refine m_getR 33 135 dX11_goesBy_194 fl_X11_79_10 rfl (by decide) rfl (by first | assumption | rfl) ?_
          refine m_iload_n dX11_goesBy_197 0 rfl ?_
          refine m_aload_n dX11_goesBy_198 2 rfl ?_
          refine m_getR 23 129 dX11_goesBy_199 fl_X11_61_10 rfl (by decide) rfl (by first | assumption | rfl) ?_
          refine m_iload_n dX11_goesBy_202 1 rfl ?_
          refine m_iald dX11_goesBy_203 (by first | assumption | rfl) k rfl (by first | assumption | omega | decide) ?_
          refine mW.top q1 ?_
          refine m_iast dX11_goesBy_204 (by first | assumption | rfl) (8 * m + k) rfl (by first | assumption | omega | decide) ?_
          refine m_aload_n dX11_goesBy_205 2 rfl ?_
          refine m_getR 34 136 dX11_goesBy_206 fl_X11_82_10 rfl (by decide) rfl (by first | assumption | rfl) ?_
          refine m_iload_n dX11_goesBy_209 0 rfl ?_
          refine m_aload_n dX11_goesBy_210 2 rfl ?_
          refine m_getR 24 130 dX11_goesBy_211 fl_X11_64_10 rfl (by decide) rfl (by first | assumption | rfl) ?_
          refine m_iload_n dX11_goesBy_214 1 rfl ?_
          refine m_iald dX11_goesBy_215 (by first | assumption | rfl) k rfl (by first | assumption | omega | decide) ?_
          refine mW.top q2 ?_
          refine m_iast dX11_goesBy_216 (by first | assumption | rfl) (8 * m + k) rfl (by first | assumption | omega | decide) ?_
          refine m_aload_n dX11_goesBy_217 2 rfl ?_
          refine m_getR 35 137 dX11_goesBy_218 fl_X11_85_10 rfl (by decide) rfl (by first | assumption | rfl) ?_
          refine m_iload_n dX11_goesBy_221 0 rfl ?_
          refine m_aload_n dX11_goesBy_222 2 rfl ?_
          refine m_getR 25 131 dX11_goesBy_223 fl_X11_67_10 rfl (by decide) rfl (by first | assumption | rfl) ?_
          refine m_iload_n dX11_goesBy_226 1 rfl ?_
          refine m_iald dX11_goesBy_227 (by first | assumption | rfl) k rfl (by first | assumption | omega | decide) ?_
          refine mW.top q3 ?_
          refine m_iast dX11_goesBy_228 (by first | assumption | rfl) (8 * m + k) rfl (by first | assumption | omega | decide) ?_
          refine m_aload_n dX11_goesBy_229 2 rfl ?_
          refine m_getR 36 138 dX11_goesBy_230 fl_X11_88_10 rfl (by decide) rfl (by first | assumption | rfl) ?_
          refine m_iload_n dX11_goesBy_233 0 rfl ?_
          refine m_aload_n dX11_goesBy_234 2 rfl ?_
          refine m_getR 26 132 dX11_goesBy_235 fl_X11_70_10 rfl (by decide) rfl (by first | assumption | rfl) ?_
          refine m_iload_n dX11_goesBy_238 1 rfl ?_
          refine m_iald dX11_goesBy_239 (by first | assumption | rfl) k rfl (by first | assumption | omega | decide) ?_
          refine mW.top q4 ?_
          refine m_iast dX11_goesBy_240 (by first | assumption | rfl) (8 * m + k) rfl (by first | assumption | omega | decide) ?_
          refine m_iinc (v := nI (k + 1)) (ls1 := [(2, _), (3, _), (0, _), (1, _)]) dX11_goesBy_241 1 rfl (nI_1 k) (by decide) rfl ?_
          refine m_goto dX11_goesBy_244 166 (by decide) ?_
          refine mW.sub (ls1 := [(2, _), (0, _), (1, _)]) [0, 2, 3] rfl ?_
          refine ih _ ⟨fun k' hk' => ?_, ?_, fW.us (by omega) (fW.us (by omega) (fW.us (by omega) (fW.us (by omega) (fW.us (by omega) b3))))⟩
          · rcases Nat.lt_succ_iff_lt_or_eq.mp hk' with h | rfl
            · have hb := b1 k' h
              simp [us_at, Nat.ne_of_lt h]
              exact hb
            · simp [us_at]
          · simp [us_at]
            exact b2
      · rw [us_at, if_pos ⟨rfl, rfl⟩]
    · exact (ge_yes h ((i4.at (by omega)).trans he)).elim
  · rintro i s hi ⟨i1, i2, i3, i4⟩ ih
    have hi9 : i < 9 := by omega
    refine m_iload_n dX11_goesBy_16 0 rfl ?_
    refine m_aload_n dX11_goesBy_17 1 rfl ?_
    refine m_getI 17 dX11_goesBy_18 fl_X11_220_10 rfl (by decide) (by first | assumption | rfl) ?_
    refine m_icmp_ge dX11_goesBy_21 107 (by decide) (fun h => ?_) (fun h => ?_)
    · exact (ge_no ((i4.at (by omega)).trans he) h rfl hi (by omega)).elim
    · have e1 : s.1 126 i = σ.1 126 i := i4.at (by omega)
      have e0 : s.1 125 i = σ.1 125 i := i4.at (by omega)
      have e2 : s.1 127 i = σ.1 127 i := i4.at (by omega)
      have em : s.1 111 21 = σ.1 111 21 := i4.at (by omega)
      refine m_aload_n dX11_goesBy_24 1 rfl ?_
      refine m_getR 19 126 dX11_goesBy_25 fl_X11_52_10 rfl (by decide) rfl (by first | assumption | rfl) ?_
      refine m_iload_n dX11_goesBy_28 0 rfl ?_
      refine m_iald dX11_goesBy_29 (by first | assumption | rfl) i rfl (by first | assumption | omega | decide) ?_
      refine mW.top e1 ?_
      refine m_iload_n dX11_goesBy_30 2 rfl ?_
      refine m_icmp_ne dX11_goesBy_31 101 (by decide) (fun h31 => ?_) (fun h31 => ?_)
      · refine m_iinc (v := nI (i + 1)) (ls1 := [(2, _), (0, _), (1, _)]) dX11_goesBy_101 0 rfl (nI_1 i) (by decide) rfl ?_
        refine m_goto dX11_goesBy_104 16 (by decide) ?_
        exact ih _ ⟨by rw [rungE, if_neg (fun q => h31 q.1)]; exact i1, by rw [cutE, if_neg (fun q => h31 q.1)]; exact i2, i3, i4⟩
      · refine m_aload_n dX11_goesBy_34 1 rfl ?_
        refine m_getI 21 dX11_goesBy_35 fl_X11_223_10 rfl (by decide) (by first | assumption | rfl) ?_
        refine mW.top em ?_
        refine m_iload_n dX11_goesBy_38 0 rfl ?_
        refine m_callS (As := [_, _]) dX11_goesBy_39 cs_X11_252 (by omega) rfl rfl (Nat.le_of_ble_eq_true rfl) (c_isIn (d := d - 1) (σ.1 111 21) (nI i)) (fun v1 σ1 hv1 => ?_)
        refine m_qI hv1 ?_
        clear hv1 v1 σ1
        refine m_if_ne dX11_goesBy_42 101 (by decide) (fun h42 => ?_) (fun h42 => ?_)
        · refine m_iinc (v := nI (i + 1)) (ls1 := [(2, _), (0, _), (1, _)]) dX11_goesBy_101 0 rfl (nI_1 i) (by decide) rfl ?_
          refine m_goto dX11_goesBy_104 16 (by decide) ?_
          exact ih _ ⟨by rw [rungE, if_neg (fun q => q.2 (bI1 h42))]; exact i1, by rw [cutE, if_neg (fun q => q.2 (bI1 h42))]; exact i2, i3, i4⟩
        · refine m_aload_n dX11_goesBy_45 1 rfl ?_
          refine m_getR 38 140 dX11_goesBy_46 fl_X11_94_10 rfl (by decide) rfl (by first | assumption | rfl) ?_
          refine m_iload_n dX11_goesBy_49 2 rfl ?_
          refine m_aload_n dX11_goesBy_50 1 rfl ?_
          refine m_getR 18 125 dX11_goesBy_51 fl_X11_49_10 rfl (by decide) rfl (by first | assumption | rfl) ?_
          refine m_iload_n dX11_goesBy_54 0 rfl ?_
          refine m_iald dX11_goesBy_55 (by first | assumption | rfl) i rfl (by first | assumption | omega | decide) ?_
          refine mW.top e0 ?_
          refine m_sel (pcJ := 69) ?_ (fun kt0 kf0 => m_if_ne dX11_goesBy_56 63 (by decide) (fun h => (m_aload_n dX11_goesBy_63 1 rfl (m_getR 38 140 dX11_goesBy_64 fl_X11_94_10 rfl (by decide) rfl (by first | assumption | rfl) (m_iload_n dX11_goesBy_67 2 rfl (m_iald dX11_goesBy_68 (by first | assumption | rfl) m rfl (by first | assumption | omega | decide) (kf0 h)))))) (fun h => (m_iconst (v := 1) dX11_goesBy_59 (by decide) (m_goto dX11_goesBy_60 69 (by decide) (kt0 h)))))
          refine m_iast dX11_goesBy_69 (by first | assumption | rfl) m rfl (by first | assumption | omega | decide) ?_
          refine m_aload_n dX11_goesBy_70 1 rfl ?_
          refine m_dup dX11_goesBy_71 rfl ?_
          refine m_getI 28 dX11_goesBy_72 fl_X11_256_10 rfl (by decide) (by first | assumption | rfl) ?_
          refine mW.top i2 ?_
          refine m_aload_n dX11_goesBy_75 1 rfl ?_
          refine m_getR 18 125 dX11_goesBy_76 fl_X11_49_10 rfl (by decide) rfl (by first | assumption | rfl) ?_
          refine m_iload_n dX11_goesBy_79 0 rfl ?_
          refine m_iald dX11_goesBy_80 (by first | assumption | rfl) i rfl (by first | assumption | omega | decide) ?_
          refine mW.top e0 ?_
          refine m_iconst (v := 1) dX11_goesBy_81 (by decide) ?_
          refine m_sel (pcJ := 97) ?_ (fun kt0 kf0 => m_icmp_ne dX11_goesBy_82 96 (by decide) (fun h => (m_iconst (v := 0) dX11_goesBy_96 (by decide) (kf0 h))) (fun h => (m_iconst (v := 1) dX11_goesBy_85 (by decide) (m_aload_n dX11_goesBy_86 1 rfl (m_getR 20 127 dX11_goesBy_87 fl_X11_55_10 rfl (by decide) rfl (by first | assumption | rfl) (m_iload_n dX11_goesBy_90 0 rfl (m_iald dX11_goesBy_91 (by first | assumption | rfl) i rfl (by first | assumption | omega | decide) (mW.top e2 (m_ishl dX11_goesBy_92 (m_goto dX11_goesBy_93 97 (by decide) (kt0 h)))))))))))
          refine m_ior dX11_goesBy_97 ?_
          refine m_putI 28 dX11_goesBy_98 fw_X11_256_10 rfl (by decide) rfl rfl (by first | assumption | rfl) ?_
          refine m_iinc (v := nI (i + 1)) (ls1 := [(2, _), (0, _), (1, _)]) dX11_goesBy_101 0 rfl (nI_1 i) (by decide) rfl ?_
          refine m_goto dX11_goesBy_104 16 (by decide) ?_
          refine ih _ ⟨?_, ?_, ?_, fW.us (by omega) (fW.us (by omega) i4)⟩
          · refine Eq.trans ?_ (if_pos ⟨h31, bI0 h42⟩).symm; rw [us_at, if_neg (by omega), us_at, if_pos (⟨rfl, rfl⟩ : (140 : Nat) = 140 ∧ m = m), i1]; rfl
          · refine Eq.trans ?_ (if_pos ⟨h31, bI0 h42⟩).symm; rw [us_at, if_pos (⟨rfl, rfl⟩ : (111 : Nat) = 111 ∧ (28 : Nat) = 28)]; rfl
          · rw [us_at, if_neg (by omega), us_at, if_neg (by omega)]; exact i3
  · rw [us_at, if_neg (by omega), us_at, if_pos ⟨rfl, rfl⟩]; rfl
  · rw [us_at, if_neg (by omega), us_at, if_neg (by omega)]; rfl
  · rw [us_at, if_pos ⟨rfl, rfl⟩]
end RG


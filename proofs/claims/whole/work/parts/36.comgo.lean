/-! ===== the class: a car goes ===== -/
theorem sh_run {R : Nat} (hR : R = 47 ∨ R = 80) : mshp R = (3, 10) ∧ mshp (R + 1) = (13, 6) ∧ (∀ p, p < 6 → mshp (R + 1 + 1 + p) = (11, 8)) ∧ mshp (R + 8) = (13, 6) ∧ (∀ p, p < 6 → mshp (R + 8 + 1 + p) = (11, 192)) ∧ mshp (R + 15) = (11, 36) ∧ mshp (R + 16) = (11, 24) ∧ mshp (R + 17) = (11, 24) := by
  rcases hR with rfl | rfl
  · exact ⟨rfl, rfl, by decide +kernel, rfl, by decide +kernel, rfl, rfl, rfl⟩
  · exact ⟨rfl, rfl, by decide +kernel, rfl, by decide +kernel, rfl, rfl, rfl⟩
/-- the class's rows of a run tell r, at moment m -/
def rnow (R n : Nat) (r : RS) (s : mS) : Prop := ∀ k, k < n → s.1 (R + 2) k = r.1 k ∧ s.1 (R + 3) k = r.2.1 k ∧ s.1 (R + 4) k = r.2.2.1 k ∧ s.1 (R + 5) k = r.2.2.2.1 k ∧ s.1 (R + 6) k = r.2.2.2.2.1 k ∧ s.1 (R + 7) k = if bitI r.2.2.2.2.2.2.1 (nI k) then 0 else 1
def rbrd (R n : Nat) (r : RS) (s : mS) : Prop := ∀ x y, x < 6 → y < 6 → s.1 (R + 15) (6 * x + y) = whoIn r.1 r.2.1 (nI x) (nI y) n
def rcnt (R n m : Nat) (r : RS) (s : mS) : Prop := s.1 R 5 = nI n ∧ s.1 R 6 = r.2.2.2.2.2.2.2.1 ∧ s.1 R 7 = r.2.2.2.2.2.2.2.2.1 ∧ s.1 R 8 = r.2.2.2.2.2.2.2.2.2.1 ∧ s.1 R 9 = tcP r n ∧ s.1 (R + 17) m = r.2.2.2.2.2.2.2.2.2.2
def cRr (R n m : Nat) (r : RS) (s : mS) : Prop := rcnt R n m r s ∧ rnow R n r s ∧ rbrd R n r s
/-- the class's rows of cars tell c -/
def crow (C n : Nat) (c : Nat → Nat → Int32) (s : mS) : Prop := ∀ k, k < n → ∀ j, j < 5 → s.1 (C + 2 + k) j = c k j
abbrev wGo (R m : Nat) : Nat → Nat → Prop := fun y z => (y = R ∧ 6 ≤ z ∧ z ≤ 9) ∨ (R + 2 ≤ y ∧ y ≤ R + 6) ∨ y = R + 15 ∨ (y = R + 17 ∧ z = m)
theorem ix6 (x y : Nat) : nI x * 6 + nI y = nI (6 * x + y) := by rw [show (6 : Int32) = nI 6 from rfl, pk_mul, nI_add, Nat.mul_comm]
theorem stepx : ∀ w, w < 4 → ([1, 0, -1, 0] : List Int32).getD w 0 = stX (nI w) := by decide
theorem stepy : ∀ w, w < 4 → ([0, 1, 0, -1] : List Int32).getD w 0 = stY (nI w) := by decide
theorem xor2 : ∀ w, w < 4 → nI w ^^^ 2 = m4 (nI w + 2) := by decide +kernel
theorem ptsW : ∀ v, v < 4 → ∀ w, w < 4 → (if nI v = nI w ^^^ 2 then (3 : Int32) else if nI v = nI w then 1 else 2) = (if m4 (nI v - nI w + 4) = 2 then 3 else if m4 (nI v - nI w + 4) = 0 then 1 else 2) := by decide +kernel
theorem fl6 (x y : Int32) : (0 ≤ x ∧ x < 6 ∧ 0 ≤ y ∧ y < 6) ↔ six x ∧ six y := by
  have e : ∀ v : Int32, v < 6 ↔ v ≤ 5 := fun v => by
    rw [Int32.lt_iff_toInt_lt, Int32.le_iff_toInt_le, show (6 : Int32).toInt = 6 from rfl, show (5 : Int32).toInt = 5 from rfl]; omega
  rw [e, e]
  exact ⟨fun h => ⟨⟨h.1, h.2.1⟩, h.2.2⟩, fun h => ⟨h.1.1, h.1.2, h.2⟩⟩
/-- the store behind a shift -/
def shS (s : mS) (R k x0 y0 x y : Nat) : mS := us (us (us (us s (R + 15) (6 * x0 + y0) (-1)) (R + 15) (6 * x + y) (nI k)) (R + 2) k (nI x)) (R + 3) k (nI y)
section CG
variable {G : mG} {l : Launch} {d : Nat} {σ : mS}
theorem dX3_shift_0 : decode cX3_shift 0 = .ok (.aload_n 0, 1) := by decide +kernel
theorem dX3_shift_1 : decode cX3_shift 1 = .ok (.getfield 19, 3) := by decide +kernel
theorem dX3_shift_4 : decode cX3_shift 4 = .ok (.aload_n 0, 1) := by decide +kernel
theorem dX3_shift_5 : decode cX3_shift 5 = .ok (.getfield 13, 3) := by decide +kernel
theorem dX3_shift_8 : decode cX3_shift 8 = .ok (.iconst 0, 1) := by decide +kernel
theorem dX3_shift_9 : decode cX3_shift 9 = .ok (.aaload, 1) := by decide +kernel
theorem dX3_shift_10 : decode cX3_shift 10 = .ok (.iload_n 1, 1) := by decide +kernel
theorem dX3_shift_11 : decode cX3_shift 11 = .ok (.iaload, 1) := by decide +kernel
theorem dX3_shift_12 : decode cX3_shift 12 = .ok (.bipush 6, 2) := by decide +kernel
theorem dX3_shift_14 : decode cX3_shift 14 = .ok (.imul, 1) := by decide +kernel
theorem dX3_shift_15 : decode cX3_shift 15 = .ok (.aload_n 0, 1) := by decide +kernel
theorem dX3_shift_16 : decode cX3_shift 16 = .ok (.getfield 13, 3) := by decide +kernel
theorem dX3_shift_19 : decode cX3_shift 19 = .ok (.iconst 1, 1) := by decide +kernel
theorem dX3_shift_20 : decode cX3_shift 20 = .ok (.aaload, 1) := by decide +kernel
theorem dX3_shift_21 : decode cX3_shift 21 = .ok (.iload_n 1, 1) := by decide +kernel
theorem dX3_shift_22 : decode cX3_shift 22 = .ok (.iaload, 1) := by decide +kernel
theorem dX3_shift_23 : decode cX3_shift 23 = .ok (.iadd, 1) := by decide +kernel
theorem dX3_shift_24 : decode cX3_shift 24 = .ok (.iconst (-1), 1) := by decide +kernel
theorem dX3_shift_25 : decode cX3_shift 25 = .ok (.iastore, 1) := by decide +kernel
theorem dX3_shift_26 : decode cX3_shift 26 = .ok (.aload_n 0, 1) := by decide +kernel
theorem dX3_shift_27 : decode cX3_shift 27 = .ok (.getfield 19, 3) := by decide +kernel
theorem dX3_shift_30 : decode cX3_shift 30 = .ok (.iload_n 2, 1) := by decide +kernel
theorem dX3_shift_31 : decode cX3_shift 31 = .ok (.bipush 6, 2) := by decide +kernel
theorem dX3_shift_33 : decode cX3_shift 33 = .ok (.imul, 1) := by decide +kernel
theorem dX3_shift_34 : decode cX3_shift 34 = .ok (.iload_n 3, 1) := by decide +kernel
theorem dX3_shift_35 : decode cX3_shift 35 = .ok (.iadd, 1) := by decide +kernel
theorem dX3_shift_36 : decode cX3_shift 36 = .ok (.iload_n 1, 1) := by decide +kernel
theorem dX3_shift_37 : decode cX3_shift 37 = .ok (.iastore, 1) := by decide +kernel
theorem dX3_shift_38 : decode cX3_shift 38 = .ok (.aload_n 0, 1) := by decide +kernel
theorem dX3_shift_39 : decode cX3_shift 39 = .ok (.getfield 13, 3) := by decide +kernel
theorem dX3_shift_42 : decode cX3_shift 42 = .ok (.iconst 0, 1) := by decide +kernel
theorem dX3_shift_43 : decode cX3_shift 43 = .ok (.aaload, 1) := by decide +kernel
theorem dX3_shift_44 : decode cX3_shift 44 = .ok (.iload_n 1, 1) := by decide +kernel
theorem dX3_shift_45 : decode cX3_shift 45 = .ok (.iload_n 2, 1) := by decide +kernel
theorem dX3_shift_46 : decode cX3_shift 46 = .ok (.iastore, 1) := by decide +kernel
theorem dX3_shift_47 : decode cX3_shift 47 = .ok (.aload_n 0, 1) := by decide +kernel
theorem dX3_shift_48 : decode cX3_shift 48 = .ok (.getfield 13, 3) := by decide +kernel
theorem dX3_shift_51 : decode cX3_shift 51 = .ok (.iconst 1, 1) := by decide +kernel
theorem dX3_shift_52 : decode cX3_shift 52 = .ok (.aaload, 1) := by decide +kernel
theorem dX3_shift_53 : decode cX3_shift 53 = .ok (.iload_n 1, 1) := by decide +kernel
theorem dX3_shift_54 : decode cX3_shift 54 = .ok (.iload_n 3, 1) := by decide +kernel
theorem dX3_shift_55 : decode cX3_shift 55 = .ok (.iastore, 1) := by decide +kernel
theorem dX3_shift_56 : decode cX3_shift 56 = .ok (.return_, 1) := by decide +kernel
theorem dX3_countStrike_0 : decode cX3_countStrike 0 = .ok (.aload_n 0, 1) := by decide +kernel
theorem dX3_countStrike_1 : decode cX3_countStrike 1 = .ok (.getfield 29, 3) := by decide +kernel
theorem dX3_countStrike_4 : decode cX3_countStrike 4 = .ok (.iconst (-1), 1) := by decide +kernel
theorem dX3_countStrike_5 : decode cX3_countStrike 5 = .ok (.if_icmp .ne 13, 3) := by decide +kernel
theorem dX3_countStrike_8 : decode cX3_countStrike 8 = .ok (.aload_n 0, 1) := by decide +kernel
theorem dX3_countStrike_9 : decode cX3_countStrike 9 = .ok (.iload_n 1, 1) := by decide +kernel
theorem dX3_countStrike_10 : decode cX3_countStrike 10 = .ok (.putfield 29, 3) := by decide +kernel
theorem dX3_countStrike_13 : decode cX3_countStrike 13 = .ok (.aload_n 0, 1) := by decide +kernel
theorem dX3_countStrike_14 : decode cX3_countStrike 14 = .ok (.iload_n 2, 1) := by decide +kernel
theorem dX3_countStrike_15 : decode cX3_countStrike 15 = .ok (.putfield 33, 3) := by decide +kernel
theorem dX3_countStrike_18 : decode cX3_countStrike 18 = .ok (.aload_n 0, 1) := by decide +kernel
theorem dX3_countStrike_19 : decode cX3_countStrike 19 = .ok (.dup, 1) := by decide +kernel
theorem dX3_countStrike_20 : decode cX3_countStrike 20 = .ok (.getfield 62, 3) := by decide +kernel
theorem dX3_countStrike_23 : decode cX3_countStrike 23 = .ok (.iconst 1, 1) := by decide +kernel
theorem dX3_countStrike_24 : decode cX3_countStrike 24 = .ok (.iadd, 1) := by decide +kernel
theorem dX3_countStrike_25 : decode cX3_countStrike 25 = .ok (.putfield 62, 3) := by decide +kernel
theorem dX3_countStrike_28 : decode cX3_countStrike 28 = .ok (.aload_n 0, 1) := by decide +kernel
theorem dX3_countStrike_29 : decode cX3_countStrike 29 = .ok (.dup, 1) := by decide +kernel
theorem dX3_countStrike_30 : decode cX3_countStrike 30 = .ok (.getfield 65, 3) := by decide +kernel
theorem dX3_countStrike_33 : decode cX3_countStrike 33 = .ok (.iconst 1, 1) := by decide +kernel
theorem dX3_countStrike_34 : decode cX3_countStrike 34 = .ok (.iload_n 2, 1) := by decide +kernel
theorem dX3_countStrike_35 : decode cX3_countStrike 35 = .ok (.ishl, 1) := by decide +kernel
theorem dX3_countStrike_36 : decode cX3_countStrike 36 = .ok (.iconst 1, 1) := by decide +kernel
theorem dX3_countStrike_37 : decode cX3_countStrike 37 = .ok (.iload_n 3, 1) := by decide +kernel
theorem dX3_countStrike_38 : decode cX3_countStrike 38 = .ok (.ishl, 1) := by decide +kernel
theorem dX3_countStrike_39 : decode cX3_countStrike 39 = .ok (.ior, 1) := by decide +kernel
theorem dX3_countStrike_40 : decode cX3_countStrike 40 = .ok (.ior, 1) := by decide +kernel
theorem dX3_countStrike_41 : decode cX3_countStrike 41 = .ok (.putfield 65, 3) := by decide +kernel
theorem dX3_countStrike_44 : decode cX3_countStrike 44 = .ok (.aload_n 0, 1) := by decide +kernel
theorem dX3_countStrike_45 : decode cX3_countStrike 45 = .ok (.getfield 13, 3) := by decide +kernel
theorem dX3_countStrike_48 : decode cX3_countStrike 48 = .ok (.iconst 2, 1) := by decide +kernel
theorem dX3_countStrike_49 : decode cX3_countStrike 49 = .ok (.aaload, 1) := by decide +kernel
theorem dX3_countStrike_50 : decode cX3_countStrike 50 = .ok (.iload_n 3, 1) := by decide +kernel
theorem dX3_countStrike_51 : decode cX3_countStrike 51 = .ok (.iaload, 1) := by decide +kernel
theorem dX3_countStrike_52 : decode cX3_countStrike 52 = .ok (.istore 5, 2) := by decide +kernel
theorem dX3_countStrike_54 : decode cX3_countStrike 54 = .ok (.aload_n 0, 1) := by decide +kernel
theorem dX3_countStrike_55 : decode cX3_countStrike 55 = .ok (.getfield 13, 3) := by decide +kernel
theorem dX3_countStrike_58 : decode cX3_countStrike 58 = .ok (.iconst 3, 1) := by decide +kernel
theorem dX3_countStrike_59 : decode cX3_countStrike 59 = .ok (.aaload, 1) := by decide +kernel
theorem dX3_countStrike_60 : decode cX3_countStrike 60 = .ok (.iload_n 2, 1) := by decide +kernel
theorem dX3_countStrike_61 : decode cX3_countStrike 61 = .ok (.dup2, 1) := by decide +kernel
theorem dX3_countStrike_62 : decode cX3_countStrike 62 = .ok (.iaload, 1) := by decide +kernel
theorem dX3_countStrike_63 : decode cX3_countStrike 63 = .ok (.iload 5, 2) := by decide +kernel
theorem dX3_countStrike_65 : decode cX3_countStrike 65 = .ok (.iload 4, 2) := by decide +kernel
theorem dX3_countStrike_67 : decode cX3_countStrike 67 = .ok (.iconst 2, 1) := by decide +kernel
theorem dX3_countStrike_68 : decode cX3_countStrike 68 = .ok (.ixor, 1) := by decide +kernel
theorem dX3_countStrike_69 : decode cX3_countStrike 69 = .ok (.if_icmp .ne 7, 3) := by decide +kernel
theorem dX3_countStrike_72 : decode cX3_countStrike 72 = .ok (.iconst 3, 1) := by decide +kernel
theorem dX3_countStrike_73 : decode cX3_countStrike 73 = .ok (.goto 15, 3) := by decide +kernel
theorem dX3_countStrike_76 : decode cX3_countStrike 76 = .ok (.iload 5, 2) := by decide +kernel
theorem dX3_countStrike_78 : decode cX3_countStrike 78 = .ok (.iload 4, 2) := by decide +kernel
theorem dX3_countStrike_80 : decode cX3_countStrike 80 = .ok (.if_icmp .ne 7, 3) := by decide +kernel
theorem dX3_countStrike_83 : decode cX3_countStrike 83 = .ok (.iconst 1, 1) := by decide +kernel
theorem dX3_countStrike_84 : decode cX3_countStrike 84 = .ok (.goto 4, 3) := by decide +kernel
theorem dX3_countStrike_87 : decode cX3_countStrike 87 = .ok (.iconst 2, 1) := by decide +kernel
theorem dX3_countStrike_88 : decode cX3_countStrike 88 = .ok (.iadd, 1) := by decide +kernel
theorem dX3_countStrike_89 : decode cX3_countStrike 89 = .ok (.iastore, 1) := by decide +kernel
theorem dX3_countStrike_90 : decode cX3_countStrike 90 = .ok (.aload_n 0, 1) := by decide +kernel
theorem dX3_countStrike_91 : decode cX3_countStrike 91 = .ok (.getfield 13, 3) := by decide +kernel
theorem dX3_countStrike_94 : decode cX3_countStrike 94 = .ok (.iconst 4, 1) := by decide +kernel
theorem dX3_countStrike_95 : decode cX3_countStrike 95 = .ok (.aaload, 1) := by decide +kernel
theorem dX3_countStrike_96 : decode cX3_countStrike 96 = .ok (.iload_n 3, 1) := by decide +kernel
theorem dX3_countStrike_97 : decode cX3_countStrike 97 = .ok (.dup2, 1) := by decide +kernel
theorem dX3_countStrike_98 : decode cX3_countStrike 98 = .ok (.iaload, 1) := by decide +kernel
theorem dX3_countStrike_99 : decode cX3_countStrike 99 = .ok (.iconst 1, 1) := by decide +kernel
theorem dX3_countStrike_100 : decode cX3_countStrike 100 = .ok (.iadd, 1) := by decide +kernel
theorem dX3_countStrike_101 : decode cX3_countStrike 101 = .ok (.iastore, 1) := by decide +kernel
theorem dX3_countStrike_102 : decode cX3_countStrike 102 = .ok (.return_, 1) := by decide +kernel
theorem dX3_go_0 : decode cX3_go 0 = .ok (.aload_n 0, 1) := by decide +kernel
theorem dX3_go_1 : decode cX3_go 1 = .ok (.getfield 13, 3) := by decide +kernel
theorem dX3_go_4 : decode cX3_go 4 = .ok (.iconst 2, 1) := by decide +kernel
theorem dX3_go_5 : decode cX3_go 5 = .ok (.aaload, 1) := by decide +kernel
theorem dX3_go_6 : decode cX3_go 6 = .ok (.iload_n 3, 1) := by decide +kernel
theorem dX3_go_7 : decode cX3_go 7 = .ok (.iaload, 1) := by decide +kernel
theorem dX3_go_8 : decode cX3_go 8 = .ok (.istore 4, 2) := by decide +kernel
theorem dX3_go_10 : decode cX3_go 10 = .ok (.aload_n 1, 1) := by decide +kernel
theorem dX3_go_11 : decode cX3_go 11 = .ok (.getfield 74, 3) := by decide +kernel
theorem dX3_go_14 : decode cX3_go 14 = .ok (.iload_n 3, 1) := by decide +kernel
theorem dX3_go_15 : decode cX3_go 15 = .ok (.aaload, 1) := by decide +kernel
theorem dX3_go_16 : decode cX3_go 16 = .ok (.iconst 0, 1) := by decide +kernel
theorem dX3_go_17 : decode cX3_go 17 = .ok (.iaload, 1) := by decide +kernel
theorem dX3_go_18 : decode cX3_go 18 = .ok (.iconst 2, 1) := by decide +kernel
theorem dX3_go_19 : decode cX3_go 19 = .ok (.if_icmp .ne 10, 3) := by decide +kernel
theorem dX3_go_22 : decode cX3_go 22 = .ok (.iload 4, 2) := by decide +kernel
theorem dX3_go_24 : decode cX3_go 24 = .ok (.iconst 2, 1) := by decide +kernel
theorem dX3_go_25 : decode cX3_go 25 = .ok (.ixor, 1) := by decide +kernel
theorem dX3_go_26 : decode cX3_go 26 = .ok (.goto 5, 3) := by decide +kernel
theorem dX3_go_29 : decode cX3_go 29 = .ok (.iload 4, 2) := by decide +kernel
theorem dX3_go_31 : decode cX3_go 31 = .ok (.istore 5, 2) := by decide +kernel
theorem dX3_go_33 : decode cX3_go 33 = .ok (.aload_n 0, 1) := by decide +kernel
theorem dX3_go_34 : decode cX3_go 34 = .ok (.getfield 13, 3) := by decide +kernel
theorem dX3_go_37 : decode cX3_go 37 = .ok (.iconst 0, 1) := by decide +kernel
theorem dX3_go_38 : decode cX3_go 38 = .ok (.aaload, 1) := by decide +kernel
theorem dX3_go_39 : decode cX3_go 39 = .ok (.iload_n 3, 1) := by decide +kernel
theorem dX3_go_40 : decode cX3_go 40 = .ok (.iaload, 1) := by decide +kernel
theorem dX3_go_41 : decode cX3_go 41 = .ok (.getstatic 93, 3) := by decide +kernel
theorem dX3_go_44 : decode cX3_go 44 = .ok (.iload 5, 2) := by decide +kernel
theorem dX3_go_46 : decode cX3_go 46 = .ok (.iaload, 1) := by decide +kernel
theorem dX3_go_47 : decode cX3_go 47 = .ok (.iadd, 1) := by decide +kernel
theorem dX3_go_48 : decode cX3_go 48 = .ok (.istore 6, 2) := by decide +kernel
theorem dX3_go_50 : decode cX3_go 50 = .ok (.aload_n 0, 1) := by decide +kernel
theorem dX3_go_51 : decode cX3_go 51 = .ok (.getfield 13, 3) := by decide +kernel
theorem dX3_go_54 : decode cX3_go 54 = .ok (.iconst 1, 1) := by decide +kernel
theorem dX3_go_55 : decode cX3_go 55 = .ok (.aaload, 1) := by decide +kernel
theorem dX3_go_56 : decode cX3_go 56 = .ok (.iload_n 3, 1) := by decide +kernel
theorem dX3_go_57 : decode cX3_go 57 = .ok (.iaload, 1) := by decide +kernel
theorem dX3_go_58 : decode cX3_go 58 = .ok (.getstatic 96, 3) := by decide +kernel
theorem dX3_go_61 : decode cX3_go 61 = .ok (.iload 5, 2) := by decide +kernel
theorem dX3_go_63 : decode cX3_go 63 = .ok (.iaload, 1) := by decide +kernel
theorem dX3_go_64 : decode cX3_go 64 = .ok (.iadd, 1) := by decide +kernel
theorem dX3_go_65 : decode cX3_go 65 = .ok (.istore 7, 2) := by decide +kernel
theorem dX3_go_67 : decode cX3_go 67 = .ok (.iload 6, 2) := by decide +kernel
theorem dX3_go_69 : decode cX3_go 69 = .ok (.iload 7, 2) := by decide +kernel
theorem dX3_go_71 : decode cX3_go 71 = .ok (.invokestatic 99, 3) := by decide +kernel
theorem dX3_go_74 : decode cX3_go 74 = .ok (.ifCond .ne 16, 3) := by decide +kernel
theorem dX3_go_77 : decode cX3_go 77 = .ok (.aload_n 0, 1) := by decide +kernel
theorem dX3_go_78 : decode cX3_go 78 = .ok (.getfield 13, 3) := by decide +kernel
theorem dX3_go_81 : decode cX3_go 81 = .ok (.iconst 2, 1) := by decide +kernel
theorem dX3_go_82 : decode cX3_go 82 = .ok (.aaload, 1) := by decide +kernel
theorem dX3_go_83 : decode cX3_go 83 = .ok (.iload_n 3, 1) := by decide +kernel
theorem dX3_go_84 : decode cX3_go 84 = .ok (.iload 4, 2) := by decide +kernel
theorem dX3_go_86 : decode cX3_go 86 = .ok (.iconst 2, 1) := by decide +kernel
theorem dX3_go_87 : decode cX3_go 87 = .ok (.ixor, 1) := by decide +kernel
theorem dX3_go_88 : decode cX3_go 88 = .ok (.iastore, 1) := by decide +kernel
theorem dX3_go_89 : decode cX3_go 89 = .ok (.return_, 1) := by decide +kernel
theorem dX3_go_90 : decode cX3_go 90 = .ok (.aload_n 0, 1) := by decide +kernel
theorem dX3_go_91 : decode cX3_go 91 = .ok (.getfield 19, 3) := by decide +kernel
theorem dX3_go_94 : decode cX3_go 94 = .ok (.iload 6, 2) := by decide +kernel
theorem dX3_go_96 : decode cX3_go 96 = .ok (.bipush 6, 2) := by decide +kernel
theorem dX3_go_98 : decode cX3_go 98 = .ok (.imul, 1) := by decide +kernel
theorem dX3_go_99 : decode cX3_go 99 = .ok (.iload 7, 2) := by decide +kernel
theorem dX3_go_101 : decode cX3_go 101 = .ok (.iadd, 1) := by decide +kernel
theorem dX3_go_102 : decode cX3_go 102 = .ok (.iaload, 1) := by decide +kernel
theorem dX3_go_103 : decode cX3_go 103 = .ok (.istore 8, 2) := by decide +kernel
theorem dX3_go_105 : decode cX3_go 105 = .ok (.iload 8, 2) := by decide +kernel
theorem dX3_go_107 : decode cX3_go 107 = .ok (.iconst (-1), 1) := by decide +kernel
theorem dX3_go_108 : decode cX3_go 108 = .ok (.if_icmp .eq 115, 3) := by decide +kernel
theorem dX3_go_111 : decode cX3_go 111 = .ok (.aload_n 0, 1) := by decide +kernel
theorem dX3_go_112 : decode cX3_go 112 = .ok (.iload_n 2, 1) := by decide +kernel
theorem dX3_go_113 : decode cX3_go 113 = .ok (.iload_n 3, 1) := by decide +kernel
theorem dX3_go_114 : decode cX3_go 114 = .ok (.iload 8, 2) := by decide +kernel
theorem dX3_go_116 : decode cX3_go 116 = .ok (.iload 5, 2) := by decide +kernel
theorem dX3_go_118 : decode cX3_go 118 = .ok (.invokevirtual 103, 3) := by decide +kernel
theorem dX3_go_121 : decode cX3_go 121 = .ok (.iload 6, 2) := by decide +kernel
theorem dX3_go_123 : decode cX3_go 123 = .ok (.getstatic 93, 3) := by decide +kernel
theorem dX3_go_126 : decode cX3_go 126 = .ok (.iload 5, 2) := by decide +kernel
theorem dX3_go_128 : decode cX3_go 128 = .ok (.iaload, 1) := by decide +kernel
theorem dX3_go_129 : decode cX3_go 129 = .ok (.iadd, 1) := by decide +kernel
theorem dX3_go_130 : decode cX3_go 130 = .ok (.istore 9, 2) := by decide +kernel
theorem dX3_go_132 : decode cX3_go 132 = .ok (.iload 7, 2) := by decide +kernel
theorem dX3_go_134 : decode cX3_go 134 = .ok (.getstatic 96, 3) := by decide +kernel
theorem dX3_go_137 : decode cX3_go 137 = .ok (.iload 5, 2) := by decide +kernel
theorem dX3_go_139 : decode cX3_go 139 = .ok (.iaload, 1) := by decide +kernel
theorem dX3_go_140 : decode cX3_go 140 = .ok (.iadd, 1) := by decide +kernel
theorem dX3_go_141 : decode cX3_go 141 = .ok (.istore 10, 2) := by decide +kernel
theorem dX3_go_143 : decode cX3_go 143 = .ok (.aload_n 1, 1) := by decide +kernel
theorem dX3_go_144 : decode cX3_go 144 = .ok (.getfield 74, 3) := by decide +kernel
theorem dX3_go_147 : decode cX3_go 147 = .ok (.iload_n 3, 1) := by decide +kernel
theorem dX3_go_148 : decode cX3_go 148 = .ok (.aaload, 1) := by decide +kernel
theorem dX3_go_149 : decode cX3_go 149 = .ok (.iconst 4, 1) := by decide +kernel
theorem dX3_go_150 : decode cX3_go 150 = .ok (.iaload, 1) := by decide +kernel
theorem dX3_go_151 : decode cX3_go 151 = .ok (.aload_n 1, 1) := by decide +kernel
theorem dX3_go_152 : decode cX3_go 152 = .ok (.getfield 74, 3) := by decide +kernel
theorem dX3_go_155 : decode cX3_go 155 = .ok (.iload 8, 2) := by decide +kernel
theorem dX3_go_157 : decode cX3_go 157 = .ok (.aaload, 1) := by decide +kernel
theorem dX3_go_158 : decode cX3_go 158 = .ok (.iconst 4, 1) := by decide +kernel
theorem dX3_go_159 : decode cX3_go 159 = .ok (.iaload, 1) := by decide +kernel
theorem dX3_go_160 : decode cX3_go 160 = .ok (.if_icmp .ge 7, 3) := by decide +kernel
theorem dX3_go_163 : decode cX3_go 163 = .ok (.iconst 1, 1) := by decide +kernel
theorem dX3_go_164 : decode cX3_go 164 = .ok (.goto 4, 3) := by decide +kernel
theorem dX3_go_167 : decode cX3_go 167 = .ok (.iconst 0, 1) := by decide +kernel
theorem dX3_go_168 : decode cX3_go 168 = .ok (.istore 11, 2) := by decide +kernel
theorem dX3_go_170 : decode cX3_go 170 = .ok (.iload 11, 2) := by decide +kernel
theorem dX3_go_172 : decode cX3_go 172 = .ok (.ifCond .ne 30, 3) := by decide +kernel
theorem dX3_go_175 : decode cX3_go 175 = .ok (.iload 9, 2) := by decide +kernel
theorem dX3_go_177 : decode cX3_go 177 = .ok (.iload 10, 2) := by decide +kernel
theorem dX3_go_179 : decode cX3_go 179 = .ok (.invokestatic 99, 3) := by decide +kernel
theorem dX3_go_182 : decode cX3_go 182 = .ok (.ifCond .eq 20, 3) := by decide +kernel
theorem dX3_go_185 : decode cX3_go 185 = .ok (.aload_n 0, 1) := by decide +kernel
theorem dX3_go_186 : decode cX3_go 186 = .ok (.getfield 19, 3) := by decide +kernel
theorem dX3_go_189 : decode cX3_go 189 = .ok (.iload 9, 2) := by decide +kernel
theorem dX3_go_191 : decode cX3_go 191 = .ok (.bipush 6, 2) := by decide +kernel
theorem dX3_go_193 : decode cX3_go 193 = .ok (.imul, 1) := by decide +kernel
theorem dX3_go_194 : decode cX3_go 194 = .ok (.iload 10, 2) := by decide +kernel
theorem dX3_go_196 : decode cX3_go 196 = .ok (.iadd, 1) := by decide +kernel
theorem dX3_go_197 : decode cX3_go 197 = .ok (.iaload, 1) := by decide +kernel
theorem dX3_go_198 : decode cX3_go 198 = .ok (.iconst (-1), 1) := by decide +kernel
theorem dX3_go_199 : decode cX3_go 199 = .ok (.if_icmp .eq 14, 3) := by decide +kernel
theorem dX3_go_202 : decode cX3_go 202 = .ok (.aload_n 0, 1) := by decide +kernel
theorem dX3_go_203 : decode cX3_go 203 = .ok (.getfield 26, 3) := by decide +kernel
theorem dX3_go_206 : decode cX3_go 206 = .ok (.iload_n 2, 1) := by decide +kernel
theorem dX3_go_207 : decode cX3_go 207 = .ok (.dup2, 1) := by decide +kernel
theorem dX3_go_208 : decode cX3_go 208 = .ok (.iaload, 1) := by decide +kernel
theorem dX3_go_209 : decode cX3_go 209 = .ok (.iconst 1, 1) := by decide +kernel
theorem dX3_go_210 : decode cX3_go 210 = .ok (.iadd, 1) := by decide +kernel
theorem dX3_go_211 : decode cX3_go 211 = .ok (.iastore, 1) := by decide +kernel
theorem dX3_go_212 : decode cX3_go 212 = .ok (.return_, 1) := by decide +kernel
theorem dX3_go_213 : decode cX3_go 213 = .ok (.aload_n 0, 1) := by decide +kernel
theorem dX3_go_214 : decode cX3_go 214 = .ok (.iload 8, 2) := by decide +kernel
theorem dX3_go_216 : decode cX3_go 216 = .ok (.iload 9, 2) := by decide +kernel
theorem dX3_go_218 : decode cX3_go 218 = .ok (.iload 10, 2) := by decide +kernel
theorem dX3_go_220 : decode cX3_go 220 = .ok (.invokevirtual 107, 3) := by decide +kernel
theorem dX3_go_223 : decode cX3_go 223 = .ok (.aload_n 0, 1) := by decide +kernel
theorem dX3_go_224 : decode cX3_go 224 = .ok (.iload_n 3, 1) := by decide +kernel
theorem dX3_go_225 : decode cX3_go 225 = .ok (.iload 6, 2) := by decide +kernel
theorem dX3_go_227 : decode cX3_go 227 = .ok (.iload 7, 2) := by decide +kernel
theorem dX3_go_229 : decode cX3_go 229 = .ok (.invokevirtual 107, 3) := by decide +kernel
theorem dX3_go_232 : decode cX3_go 232 = .ok (.return_, 1) := by decide +kernel
theorem c_shift {R : Nat} (hR : R = 47 ∨ R = 80) (k x0 y0 x y : Nat) (hk : k < 8) (hx0 : x0 < 6) (hy0 : y0 < 6) (hx : x < 6) (hy : y < 6) (e0 : σ.1 (R + 2) k = nI x0) (e1 : σ.1 (R + 3) k = nI y0) : mMet G l d kX3_shift [.ref R, .int (nI k), .int (nI x), .int (nI y)] σ (qV (shS σ R k x0 y0 x y)) := by
  obtain ⟨h0, h1, h2, h3, h4, h5, h6, h7⟩ := sh_run hR
  have n0 := h2 0 (by decide)
  have n1 := h2 1 (by decide)
  refine mMet.of cm_X3_shift rfl (Nat.le_of_ble_eq_true rfl) rfl (fun v1 σ1 h => by rw [h.1]; trivial) ?_
  refine m_aload_n dX3_shift_0 0 rfl ?_
  refine m_getR 2 (R + 15) dX3_shift_1 fl_X3_19_3 rfl (by decide) rfl (by first | assumption | rfl) ?_
  refine m_aload_n dX3_shift_4 0 rfl ?_
  refine m_getR 0 (R + 1) dX3_shift_5 fl_X3_13_3 rfl (by decide) rfl (by first | assumption | rfl) ?_
  refine m_iconst (v := 0) dX3_shift_8 (by decide) ?_
  refine m_aald dX3_shift_9 (by first | assumption | rfl) 0 rfl (by first | assumption | omega | decide) ?_
  refine m_iload_n dX3_shift_10 1 rfl ?_
  refine m_iald dX3_shift_11 (by first | assumption | rfl) k rfl (by first | assumption | omega | decide) ?_
  refine mW.top e0 ?_
  refine m_bipush (v := 6) dX3_shift_12 (by decide) ?_
  refine m_imul dX3_shift_14 ?_
  refine m_aload_n dX3_shift_15 0 rfl ?_
  refine m_getR 0 (R + 1) dX3_shift_16 fl_X3_13_3 rfl (by decide) rfl (by first | assumption | rfl) ?_
  refine m_iconst (v := 1) dX3_shift_19 (by decide) ?_
  refine m_aald dX3_shift_20 (by first | assumption | rfl) 1 rfl (by first | assumption | omega | decide) ?_
  refine m_iload_n dX3_shift_21 1 rfl ?_
  refine m_iald dX3_shift_22 (by first | assumption | rfl) k rfl (by first | assumption | omega | decide) ?_
  refine mW.top e1 ?_
  refine m_iadd dX3_shift_23 ?_
  refine mW.top (ix6 x0 y0) ?_
  refine m_iconst (v := -1) dX3_shift_24 (by decide) ?_
  refine m_iast dX3_shift_25 (by first | assumption | rfl) (6 * x0 + y0) rfl (by first | assumption | omega | decide) ?_
  refine m_aload_n dX3_shift_26 0 rfl ?_
  refine m_getR 2 (R + 15) dX3_shift_27 fl_X3_19_3 rfl (by decide) rfl (by first | assumption | rfl) ?_
  refine m_iload_n dX3_shift_30 2 rfl ?_
  refine m_bipush (v := 6) dX3_shift_31 (by decide) ?_
  refine m_imul dX3_shift_33 ?_
  refine m_iload_n dX3_shift_34 3 rfl ?_
  refine m_iadd dX3_shift_35 ?_
  refine mW.top (ix6 x y) ?_
  refine m_iload_n dX3_shift_36 1 rfl ?_
  refine m_iast dX3_shift_37 (by first | assumption | rfl) (6 * x + y) rfl (by first | assumption | omega | decide) ?_
  refine m_aload_n dX3_shift_38 0 rfl ?_
  refine m_getR 0 (R + 1) dX3_shift_39 fl_X3_13_3 rfl (by decide) rfl (by first | assumption | rfl) ?_
  refine m_iconst (v := 0) dX3_shift_42 (by decide) ?_
  refine m_aald dX3_shift_43 (by first | assumption | rfl) 0 rfl (by first | assumption | omega | decide) ?_
  refine m_iload_n dX3_shift_44 1 rfl ?_
  refine m_iload_n dX3_shift_45 2 rfl ?_
  refine m_iast dX3_shift_46 (by first | assumption | rfl) k rfl (by first | assumption | omega | decide) ?_
  refine m_aload_n dX3_shift_47 0 rfl ?_
  refine m_getR 0 (R + 1) dX3_shift_48 fl_X3_13_3 rfl (by decide) rfl (by first | assumption | rfl) ?_
  refine m_iconst (v := 1) dX3_shift_51 (by decide) ?_
  refine m_aald dX3_shift_52 (by first | assumption | rfl) 1 rfl (by first | assumption | omega | decide) ?_
  refine m_iload_n dX3_shift_53 1 rfl ?_
  refine m_iload_n dX3_shift_54 3 rfl ?_
  refine m_iast dX3_shift_55 (by first | assumption | rfl) k rfl (by first | assumption | omega | decide) ?_
  exact m_return dX3_shift_56 ⟨rfl, rfl⟩
theorem sh_rel {R n m N : Nat} {r : RS} (hR : R = 47 ∨ R = 80) (hn : n ≤ 8) (h : cRr R n m r σ) (wf : wfR n N r) (k x0 y0 x y : Nat) (hk : k < n) (hx0 : x0 < 6) (hy0 : y0 < 6) (hx : x < 6) (hy : y < 6) (e0 : r.1 k = nI x0) (e1 : r.2.1 k = nI y0) (free : ∀ i, i < n → ¬ (r.1 i = nI x ∧ r.2.1 i = nI y)) : cRr R n m (moveR k (nI x) (nI y) r) (shS σ R k x0 y0 x y) := by
  obtain ⟨⟨c1, c2, c3, c4, c5, c6⟩, hnow, hb⟩ := h
  have key : ∀ a b, (shS σ R k x0 y0 x y).1 a b = if a = R + 3 ∧ b = k then nI y else if a = R + 2 ∧ b = k then nI x else if a = R + 15 ∧ b = 6 * x + y then nI k else if a = R + 15 ∧ b = 6 * x0 + y0 then -1 else σ.1 a b := by
    intro a b
    unfold shS
    rw [us_at, us_at, us_at, us_at]
  have rest : ∀ a b, ¬ (a = R + 3 ∨ a = R + 2 ∨ a = R + 15) → (shS σ R k x0 y0 x y).1 a b = σ.1 a b := by
    intro a b hab
    rw [key, if_neg (by omega), if_neg (by omega), if_neg (by omega), if_neg (by omega)]
  refine ⟨⟨(rest _ _ (by omega)).trans c1, (rest _ _ (by omega)).trans c2, (rest _ _ (by omega)).trans c3, (rest _ _ (by omega)).trans c4, (rest _ _ (by omega)).trans c5, (rest _ _ (by omega)).trans c6⟩, fun i hi => ?_, fun a b ha hb' => ?_⟩
  · obtain ⟨d1, d2, d3, d4, d5, d6⟩ := hnow i hi
    refine ⟨?_, ?_, (rest _ _ (by omega)).trans d3, (rest _ _ (by omega)).trans d4, (rest _ _ (by omega)).trans d5, (rest _ _ (by omega)).trans d6⟩
    · show _ = upd r.1 k (nI x) i
      rw [key, upd_at, if_neg (by omega)]
      by_cases e : i = k
      · rw [if_pos ⟨rfl, e⟩, if_pos e]
      · rw [if_neg (fun q => e q.2), if_neg e, if_neg (by omega), if_neg (by omega), d1]
    · show _ = upd r.2.1 k (nI y) i
      rw [key, upd_at]
      by_cases e : i = k
      · rw [if_pos ⟨rfl, e⟩, if_pos e]
      · rw [if_neg (fun q => e q.2), if_neg e, if_neg (by omega), if_neg (by omega), if_neg (by omega), d2]
  · show _ = whoIn (upd r.1 k (nI x)) (upd r.2.1 k (nI y)) (nI a) (nI b) n
    rw [key, if_neg (by omega), if_neg (by omega)]
    have eqN : ∀ i j, i < 1000 → j < 1000 → (nI i = nI j ↔ i = j) := fun i j hi hj => neq (by omega) (by omega)
    by_cases q1 : a = x ∧ b = y
    · obtain ⟨rfl, rfl⟩ := q1
      rw [if_pos ⟨rfl, rfl⟩]
      refine (whoIn_hit (by rw [upd_at, if_pos rfl]) (by rw [upd_at, if_pos rfl]) n hk (fun j hj j1 j2 => ?_)).symm
      rw [upd_at] at j1 j2
      by_cases e : j = k
      · exact e
      · rw [if_neg e] at j1 j2
        exact absurd ⟨j1, j2⟩ (free j hj)
    · rw [if_neg (by omega)]
      by_cases q2 : a = x0 ∧ b = y0
      · obtain ⟨rfl, rfl⟩ := q2
        rw [if_pos ⟨rfl, rfl⟩]
        refine (whoIn_free n (fun j hj z => ?_)).symm
        obtain ⟨z1, z2⟩ := z
        rw [upd_at] at z1 z2
        by_cases e : j = k
        · rw [if_pos e] at z1 z2
          exact q1 ⟨((eqN _ _ (by omega) (by omega)).mp z1).symm, ((eqN _ _ (by omega) (by omega)).mp z2).symm⟩
        · rw [if_neg e] at z1 z2
          exact e (wf.2 j k hj hk (z1.trans e0.symm) (z2.trans e1.symm))
      · rw [if_neg (by omega), hb a b ha hb']
        by_cases q3 : ∃ j, j < n ∧ r.1 j = nI a ∧ r.2.1 j = nI b
        · obtain ⟨j, hj, j1, j2⟩ := q3
          have hjk : j ≠ k := fun e => by
            subst e
            exact q2 ⟨(eqN _ _ (by omega) (by omega)).mp (j1.symm.trans e0), (eqN _ _ (by omega) (by omega)).mp (j2.symm.trans e1)⟩
          rw [whoIn_hit j1 j2 n hj (fun i hi i1 i2 => wf.2 i j hi hj (i1.trans j1.symm) (i2.trans j2.symm))]
          refine (whoIn_hit (by rw [upd_at, if_neg hjk]; exact j1) (by rw [upd_at, if_neg hjk]; exact j2) n hj (fun i hi i1 i2 => ?_)).symm
          rw [upd_at] at i1 i2
          by_cases e : i = k
          · rw [if_pos e] at i1 i2
            exact absurd ⟨((eqN _ _ (by omega) (by omega)).mp i1).symm, ((eqN _ _ (by omega) (by omega)).mp i2).symm⟩ q1
          · rw [if_neg e] at i1 i2
            exact wf.2 i j hi hj (i1.trans j1.symm) (i2.trans j2.symm)
        · rw [whoIn_free n (fun j hj z => q3 ⟨j, hj, z⟩)]
          refine (whoIn_free n (fun j hj z => ?_)).symm
          obtain ⟨z1, z2⟩ := z
          rw [upd_at] at z1 z2
          by_cases e : j = k
          · rw [if_pos e] at z1 z2
            exact q1 ⟨((eqN _ _ (by omega) (by omega)).mp z1).symm, ((eqN _ _ (by omega) (by omega)).mp z2).symm⟩
          · rw [if_neg e] at z1 z2
            exact q3 ⟨j, hj, z1, z2⟩
theorem tcP_strike {n N : Nat} {r : RS} (wf : wfR n N r) (hN : N ≤ 1000) (k o : Nat) (hk : k < n) (ho : o < n) (w mo : Int32) : tcP (strikeR k o w mo r) n = tcP r n ||| (bit1 k ||| bit1 o) := by
  have ne0 : ∀ p, p ≤ 1000 → ¬ nI (p + 1) = 0 := fun p hp q => absurd ((neq (b := 0) (by omega) (by omega)).mp q) (by omega)
  have e : ∀ i, i < n → decide (¬ ((strikeR k o w mo r).2.2.2.2.1 i = 0 ∧ (strikeR k o w mo r).2.2.2.2.2.1 i = 0)) = ((decide (¬ (r.2.2.2.2.1 i = 0 ∧ r.2.2.2.2.2.1 i = 0)) || decide (i = k)) || decide (i = o)) := by
    intro i hi
    obtain ⟨-, -, -, -, ⟨q, hq, f⟩, ⟨u, hu, g⟩⟩ := wf.1 i hi
    show decide (¬ (upd r.2.2.2.2.1 o (r.2.2.2.2.1 o + 1) i = 0 ∧ upd r.2.2.2.2.2.1 k (r.2.2.2.2.2.1 k + 1) i = 0)) = _
    rw [upd_at, upd_at]
    by_cases eo : i = o
    · rw [if_pos eo, ← eo, nI_1' f, decide_eq_true (show ¬ (nI (q + 1) = 0 ∧ _) from fun z => ne0 q (by omega) z.1)]
      simp
    · by_cases ek : i = k
      · rw [if_neg eo, if_pos ek, ← ek, nI_1' g, decide_eq_true (show ¬ (_ ∧ nI (u + 1) = 0) from fun z => ne0 u (by omega) z.2)]
        simp
      · rw [if_neg eo, if_neg ek, decide_eq_false ek, decide_eq_false eo, Bool.or_false, Bool.or_false]
  unfold tcP
  rw [orT_cong n e, orT_add _ o n ho, orT_add _ k n hk, Int32.or_assoc]
theorem c_countStrike {R : Nat} (hR : R = 47 ∨ R = 80) (n m N k o w : Nat) (r : RS) (hn : n ≤ 8) (hN : N ≤ 1000) (wf : wfR n N r) (h : cRr R n m r σ) (hk : k < n) (ho : o < n) (hw : w < 4) : mMet G l d kX3_countStrike [.ref R, .int (nI m), .int (nI k), .int (nI o), .int (nI w)] σ (qVP (fun s => cRr R n m (strikeR k o (nI w) (nI m) r) s ∧ fW (wGo R m) σ s)) := by
  obtain ⟨h0, h1, h2, h3, h4, h5, h6, h7⟩ := sh_run hR
  have n2 := h2 2 (by decide)
  have n3 := h2 3 (by decide)
  have n4 := h2 4 (by decide)
  obtain ⟨⟨c1, c2, c3, c4, c5, c6⟩, hnow, hb⟩ := h
  refine mMet.of cm_X3_countStrike rfl (Nat.le_of_ble_eq_true rfl) rfl (fun v1 σ1 h => by rw [h.1]; trivial) ?_
  -- who was first
  have fst : ∀ s : mS, s.1 R 7 = (if r.2.2.2.2.2.2.2.2.1 = -1 then nI m else r.2.2.2.2.2.2.2.2.1) → s.1 R 8 = (if r.2.2.2.2.2.2.2.2.1 = -1 then nI k else r.2.2.2.2.2.2.2.2.2.1) → fW (fun y z => y = R ∧ (z = 7 ∨ z = 8)) σ s → mW G l d kX3_countStrike 18 [(0, .ref R), (1, .int (nI m)), (2, .int (nI k)), (3, .int (nI o)), (4, .int (nI w))] [] s (qVP (fun s => cRr R n m (strikeR k o (nI w) (nI m) r) s ∧ fW (wGo R m) σ s)) := by
    intro s g7 g8 f
    have e6 : s.1 R 6 = r.2.2.2.2.2.2.2.1 := (f.at (by omega)).trans c2
    have e9 : s.1 R 9 = tcP r n := (f.at (by omega)).trans c5
    obtain ⟨v, hv, ev⟩ := wy_of (wf.1 o ho).2.2.1
    have ew : s.1 (R + 4) o = nI v := (f.at (by omega)).trans (((hnow o ho).2.2.1).trans ev)
    have ep : s.1 (R + 5) k = r.2.2.2.1 k := (f.at (by omega)).trans (hnow k hk).2.2.2.1
    have es : s.1 (R + 6) o = r.2.2.2.2.1 o := (f.at (by omega)).trans (hnow o ho).2.2.2.2.1
    refine m_aload_n dX3_countStrike_18 0 rfl ?_
    refine m_dup dX3_countStrike_19 rfl ?_
    refine m_getI 6 dX3_countStrike_20 fl_X3_62_3 rfl (by decide) (by first | assumption | rfl) ?_
    refine mW.top e6 ?_
    refine m_iconst (v := 1) dX3_countStrike_23 (by decide) ?_
    refine m_iadd dX3_countStrike_24 ?_
    refine m_putI 6 dX3_countStrike_25 fw_X3_62_3 rfl (by decide) rfl rfl (by first | assumption | rfl) ?_
    refine m_aload_n dX3_countStrike_28 0 rfl ?_
    refine m_dup dX3_countStrike_29 rfl ?_
    refine m_getI 9 dX3_countStrike_30 fl_X3_65_3 rfl (by decide) (by first | assumption | rfl) ?_
    refine mW.top (w := tcP r n) (by rw [us_at, if_neg (by omega)]; exact e9) ?_
    refine m_iconst (v := 1) dX3_countStrike_33 (by decide) ?_
    refine m_iload_n dX3_countStrike_34 2 rfl ?_
    refine m_ishl dX3_countStrike_35 ?_
    refine m_iconst (v := 1) dX3_countStrike_36 (by decide) ?_
    refine m_iload_n dX3_countStrike_37 3 rfl ?_
    refine m_ishl dX3_countStrike_38 ?_
    refine m_ior dX3_countStrike_39 ?_
    refine m_ior dX3_countStrike_40 ?_
    refine m_putI 9 dX3_countStrike_41 fw_X3_65_3 rfl (by decide) rfl rfl (by first | assumption | rfl) ?_
    refine mW.cut (fun s1 => s1 = us (us s R 6 (r.2.2.2.2.2.2.2.1 + 1)) R 9 (tcP r n ||| (bit1 k ||| bit1 o))) rfl (fun s1 hs1 => ?_)
    have f1 : ∀ a b, ¬ (a = R ∧ (b = 6 ∨ b = 9)) → s1.1 a b = s.1 a b := fun a b hab => by rw [hs1, us_at, if_neg (by omega), us_at, if_neg (by omega)]
    refine m_aload_n dX3_countStrike_44 0 rfl ?_
    refine m_getR 0 (R + 1) dX3_countStrike_45 fl_X3_13_3 rfl (by decide) rfl (by first | assumption | rfl) ?_
    refine m_iconst (v := 2) dX3_countStrike_48 (by decide) ?_
    refine m_aald dX3_countStrike_49 (by first | assumption | rfl) 2 rfl (by first | assumption | omega | decide) ?_
    refine m_iload_n dX3_countStrike_50 3 rfl ?_
    refine m_iald dX3_countStrike_51 (by first | assumption | rfl) o rfl (by first | assumption | omega | decide) ?_
    refine mW.top (w := nI v) ((f1 _ _ (by omega)).trans ew) ?_
    refine m_istore (ls1 := [(5, _), (0, _), (1, _), (2, _), (3, _), (4, _)]) dX3_countStrike_52 (by decide) rfl ?_
    refine m_aload_n dX3_countStrike_54 1 rfl ?_
    refine m_getR 0 (R + 1) dX3_countStrike_55 fl_X3_13_3 rfl (by decide) rfl (by first | assumption | rfl) ?_
    refine m_iconst (v := 3) dX3_countStrike_58 (by decide) ?_
    refine m_aald dX3_countStrike_59 (by first | assumption | rfl) 3 rfl (by first | assumption | omega | decide) ?_
    refine m_iload_n dX3_countStrike_60 3 rfl ?_
    refine m_dup2 dX3_countStrike_61 rfl rfl ?_
    refine m_iald dX3_countStrike_62 (by first | assumption | rfl) k rfl (by first | assumption | omega | decide) ?_
    refine mW.top (w := r.2.2.2.1 k) ((f1 _ _ (by omega)).trans ep) ?_
    refine m_iload dX3_countStrike_63 0 rfl ?_
    refine m_iload dX3_countStrike_65 5 rfl ?_
    refine m_iconst (v := 2) dX3_countStrike_67 (by decide) ?_
    refine m_ixor dX3_countStrike_68 ?_
    refine m_sel (pcJ := 88) ?_ (fun kt0 kf0 => m_icmp_ne dX3_countStrike_69 76 (by decide) (fun h => (m_iload dX3_countStrike_76 0 rfl (m_iload dX3_countStrike_78 5 rfl (m_sel (pcJ := 88) (kf0 h) (fun kt1 kf1 => m_icmp_ne dX3_countStrike_80 87 (by decide) (fun h => (m_iconst (v := 2) dX3_countStrike_87 (by decide) (kf1 h))) (fun h => (m_iconst (v := 1) dX3_countStrike_83 (by decide) (m_goto dX3_countStrike_84 88 (by decide) (kt1 h))))))))) (fun h => (m_iconst (v := 3) dX3_countStrike_72 (by decide) (m_goto dX3_countStrike_73 88 (by decide) (kt0 h)))))
    refine mW.top (w := if m4 (r.2.2.1 o - nI w + 4) = 2 then 3 else if m4 (r.2.2.1 o - nI w + 4) = 0 then 1 else 2) ((ptsW v hv w hw).trans (by rw [ev])) ?_
    refine m_iadd dX3_countStrike_88 ?_
    refine m_iast dX3_countStrike_89 (by first | assumption | rfl) k rfl (by first | assumption | omega | decide) ?_
    refine m_aload_n dX3_countStrike_90 1 rfl ?_
    refine m_getR 0 (R + 1) dX3_countStrike_91 fl_X3_13_3 rfl (by decide) rfl (by first | assumption | rfl) ?_
    refine m_iconst (v := 4) dX3_countStrike_94 (by decide) ?_
    refine m_aald dX3_countStrike_95 (by first | assumption | rfl) 4 rfl (by first | assumption | omega | decide) ?_
    refine m_iload_n dX3_countStrike_96 4 rfl ?_
    refine m_dup2 dX3_countStrike_97 rfl rfl ?_
    refine m_iald dX3_countStrike_98 (by first | assumption | rfl) o rfl (by first | assumption | omega | decide) ?_
    refine mW.top (w := r.2.2.2.2.1 o) (by rw [us_at, if_neg (by omega)]; exact (f1 _ _ (by omega)).trans es) ?_
    refine m_iconst (v := 1) dX3_countStrike_99 (by decide) ?_
    refine m_iadd dX3_countStrike_100 ?_
    refine m_iast dX3_countStrike_101 (by first | assumption | rfl) o rfl (by first | assumption | omega | decide) ?_
    generalize hP : (r.2.2.2.1 k + if m4 (r.2.2.1 o - nI w + 4) = 2 then 3 else if m4 (r.2.2.1 o - nI w + 4) = 0 then 1 else 2) = P
    have key : ∀ a b, (us (us s1 (R + 5) k P) (R + 6) o (r.2.2.2.2.1 o + 1)).1 a b = if a = R + 6 ∧ b = o then r.2.2.2.2.1 o + 1 else if a = R + 5 ∧ b = k then P else s1.1 a b := fun a b => by rw [us_at, us_at]
    have rest : ∀ a b, ¬ (a = R + 6 ∨ a = R + 5) → (us (us s1 (R + 5) k P) (R + 6) o (r.2.2.2.2.1 o + 1)).1 a b = s1.1 a b := fun a b hab => by rw [key, if_neg (by omega), if_neg (by omega)]
    have back : ∀ a b, ¬ (a = R + 6 ∨ a = R + 5) → ¬ (a = R ∧ 6 ≤ b) → (us (us s1 (R + 5) k P) (R + 6) o (r.2.2.2.2.1 o + 1)).1 a b = σ.1 a b := fun a b hab hab2 => by rw [rest a b hab, f1 a b (by omega), f.at (by omega)]
    refine m_return dX3_countStrike_102 ⟨rfl, ⟨⟨(back _ _ (by omega) (by omega)).trans c1, ?_, ?_, ?_, ?_, (back _ _ (by omega) (by omega)).trans c6⟩, fun i hi => ?_, fun x y hx hy => (back _ _ (by omega) (by omega)).trans (hb x y hx hy)⟩, ?_⟩
    · exact (rest _ _ (by omega)).trans (by rw [hs1, us_at, if_neg (by omega), us_at, if_pos ⟨rfl, rfl⟩]; rfl)
    · exact (rest _ _ (by omega)).trans ((f1 _ _ (by omega)).trans g7)
    · exact (rest _ _ (by omega)).trans ((f1 _ _ (by omega)).trans g8)
    · exact (rest _ _ (by omega)).trans (by rw [hs1, us_at, if_pos ⟨rfl, rfl⟩]; exact (tcP_strike wf hN k o hk ho (nI w) (nI m)).symm)
    · obtain ⟨d1, d2, d3, d4, d5, d6⟩ := hnow i hi
      refine ⟨(back _ _ (by omega) (by omega)).trans d1, (back _ _ (by omega) (by omega)).trans d2, (back _ _ (by omega) (by omega)).trans d3, ?_, ?_, (back _ _ (by omega) (by omega)).trans d6⟩
      · show (us (us s1 (R + 5) k P) (R + 6) o (r.2.2.2.2.1 o + 1)).1 (R + 5) i = upd r.2.2.2.1 k _ i
        rw [key, if_neg (by omega), upd_at, hP]
        by_cases e : i = k
        · rw [if_pos ⟨rfl, e⟩, if_pos e]
        · rw [if_neg (fun q => e q.2), if_neg e, f1 _ _ (by omega), f.at (by omega), d4]
      · show (us (us s1 (R + 5) k P) (R + 6) o (r.2.2.2.2.1 o + 1)).1 (R + 6) i = upd r.2.2.2.2.1 o _ i
        rw [key, upd_at]
        by_cases e : i = o
        · rw [if_pos ⟨rfl, e⟩, if_pos e]
        · rw [if_neg (fun q => e q.2), if_neg e, if_neg (by omega), f1 _ _ (by omega), f.at (by omega), d5]
    · refine fW.us (by omega) (fW.us (by omega) ?_)
      rw [hs1]
      exact fW.us (by omega) (fW.us (by omega) (f.mono (fun y z h => by omega)))
  refine m_aload_n dX3_countStrike_0 0 rfl ?_
  refine m_getI 7 dX3_countStrike_1 fl_X3_29_3 rfl (by decide) (by first | assumption | rfl) ?_
  refine mW.top c3 ?_
  refine m_iconst (v := -1) dX3_countStrike_4 (by decide) ?_
  refine m_icmp_ne dX3_countStrike_5 18 (by decide) (fun h => ?_) (fun h => ?_)
  · refine fst σ ?_ ?_ fW.rf
    · rw [if_neg h]; exact c3
    · rw [if_neg h]; exact c4
  · refine m_aload_n dX3_countStrike_8 0 rfl ?_
    refine m_iload_n dX3_countStrike_9 1 rfl ?_
    refine m_putI 7 dX3_countStrike_10 fw_X3_29_3 rfl (by decide) rfl rfl (by first | assumption | rfl) ?_
    refine m_aload_n dX3_countStrike_13 0 rfl ?_
    refine m_iload_n dX3_countStrike_14 2 rfl ?_
    refine m_putI 8 dX3_countStrike_15 fw_X3_33_3 rfl (by decide) rfl rfl (by first | assumption | rfl) ?_
    refine fst _ ?_ ?_ (fW.us (by omega) (fW.us (by omega) fW.rf))
    · rw [if_pos h, us_at, if_neg (by omega), us_at, if_pos ⟨rfl, rfl⟩]
    · rw [if_pos h, us_at, if_pos ⟨rfl, rfl⟩]
end CG


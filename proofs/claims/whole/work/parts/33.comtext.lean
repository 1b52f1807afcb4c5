/-! ===== the class: what a sign means ===== -/
def sxB (v : Int32) : Int32 := if six (v - 48) then v - 48 else -1
def wtB (v : Int32) : Int32 := if 1 ≤ v - 48 ∧ v - 48 ≤ 9 then v - 48 else -1
theorem ix_sort : ∀ b, b < 256 → ixP [98, 109, 104] (nI b).toInt8.toInt32 3 0 = sortB (nI b) := by decide +kernel
theorem ix_six : ∀ b, b < 256 → ixP [48, 49, 50, 51, 52, 53] (nI b).toInt8.toInt32 6 0 = sxB (nI b) := by decide +kernel
theorem ix_way : ∀ b, b < 256 → ixP [101, 110, 119, 115] (nI b).toInt8.toInt32 4 0 = wayB (nI b) := by decide +kernel
theorem ix_wt : ∀ b, b < 256 → (if nI b = 48 then -1 else ixP [48, 49, 50, 51, 52, 53, 54, 55, 56, 57] (nI b).toInt8.toInt32 10 0) = wtB (nI b) := by decide +kernel
theorem ix_mo : ∀ b, b < 256 → ixP [97, 98, 99, 100, 101, 102, 103, 104, 105, 106, 107, 108, 109, 110, 111, 112, 113, 114, 115, 116, 117, 118, 119, 120] (nI b).toInt8.toInt32 24 0 = (if 97 ≤ nI b ∧ nI b ≤ 120 then nI b - 97 else -1) := by decide +kernel
theorem ix_car : ∀ b, b < 256 → ixP [48, 49, 50, 51, 52, 53, 54, 55] (nI b).toInt8.toInt32 8 0 = (if 48 ≤ nI b ∧ nI b ≤ 55 then nI b - 48 else -1) := by decide +kernel
theorem b255 : ∀ b, b < 256 → (0 : Int32) ≤ nI b ∧ nI b ≤ 255 := by decide +kernel
theorem i2cN {b : Nat} (h : b < 256) : ((nI b).toUInt32 % 65536).toInt32 = nI b := by
  rw [pk_char, pk_tn (by omega), Nat.mod_eq_of_lt (by omega)]
/-- sign j of car k is well -/
def PC (L : Nat) (b : Nat → Int32) (k j : Nat) : Bool := match j with
  | 0 => decide (carB L b k 0 ≠ -1)
  | 1 => decide (six (carB L b k 1))
  | 2 => decide (six (carB L b k 2) ∧ takB (fun i => carB L b i 1) (fun i => carB L b i 2) (carB L b k 1) (carB L b k 2) k = false)
  | 3 => decide (carB L b k 3 ≠ -1)
  | 4 => decide (1 ≤ carB L b k 4 ∧ carB L b k 4 ≤ 9)
  | _ => false
theorem PC1 (L : Nat) (b : Nat → Int32) (k : Nat) : PC L b k 1 = decide (six (carB L b k 1)) := rfl
theorem PC2 (L : Nat) (b : Nat → Int32) (k : Nat) : PC L b k 2 = decide (six (carB L b k 2) ∧ takB (fun i => carB L b i 1) (fun i => carB L b i 2) (carB L b k 1) (carB L b k 2) k = false) := rfl
theorem PC4 (L : Nat) (b : Nat → Int32) (k : Nat) : PC L b k 4 = decide (1 ≤ carB L b k 4 ∧ carB L b k 4 ≤ 9) := rfl
/-- what it is taken for -/
def mC (L : Nat) (b : Nat → Int32) (k j : Nat) : Int32 := if PC L b k j then carB L b k j else -1
def PS (L : Nat) (b : Nat → Int32) (k j : Nat) : Bool := match j with
  | 0 => decide (97 ≤ btE L b (4 * k) ∧ btE L b (4 * k) ≤ 120)
  | 1 => decide (48 ≤ btE L b (4 * k + 1) ∧ btE L b (4 * k + 1) ≤ 55)
  | 2 => decide (btE L b (4 * k + 2) = 108 ∨ btE L b (4 * k + 2) = 114)
  | _ => false
def mS' (L : Nat) (b : Nat → Int32) (k j : Nat) : Int32 := if PS L b k j then steB L b k j else -1
/-- mshp of rows -/
theorem sh_car {C k : Nat} (hC : C = 5 ∨ C = 66) (hk : k < 8) : mshp (C + 1 + 1 + k) = (11, 5) := by
  have h : ∀ k, k < 8 → mshp (5 + 1 + 1 + k) = (11, 5) ∧ mshp (66 + 1 + 1 + k) = (11, 5) := by decide +kernel
  rcases hC with rfl | rfl
  · exact (h k hk).1
  · exact (h k hk).2
theorem sh_car0 {C : Nat} (hC : C = 5 ∨ C = 66) : mshp C = (0, 5) ∧ mshp (C + 1) = (13, 8) := by
  rcases hC with rfl | rfl <;> exact ⟨rfl, rfl⟩
theorem sh_ste {k : Nat} (hk : k < 13) : mshp (16 + 1 + k) = (11, 3) := by
  have h : ∀ k, k < 13 → mshp (16 + 1 + k) = (11, 3) := by decide +kernel
  exact h k hk
theorem othP_yes (X Y : Nat → Int32) (k : Nat) (x y : Int32) {i : Nat} (h : othP X Y k x y i = true) : ∀ n, i ≤ n → othP X Y k x y n = true
  | 0, hn => by have : i = 0 := by omega
                subst this; exact h
  | n + 1, hn => by
    by_cases e : i = n + 1
    · subst e; exact h
    · rw [othP, othP_yes X Y k x y h n (by omega)]; rfl
theorem othP_tak (X Y : Nat → Int32) (k : Nat) (x y : Int32) : ∀ n, n ≤ k → othP X Y k x y n = takB X Y x y n
  | 0, _ => rfl
  | n + 1, hn => by
    rw [othP, takB, othP_tak X Y k x y n (by omega)]
    congr 1
    exact decide_eq_decide.mpr ⟨fun h => h.2, fun h => ⟨by omega, h⟩⟩
section CT
variable {G : mG} {l : Launch} {d : Nat} {σ : mS}
theorem dX0_isTaken_0 : decode cX0_isTaken 0 = .ok (.iconst 0, 1) := by decide +kernel
theorem dX0_isTaken_1 : decode cX0_isTaken 1 = .ok (.istore 5, 2) := by decide +kernel
theorem dX0_isTaken_3 : decode cX0_isTaken 3 = .ok (.iload 5, 2) := by decide +kernel
theorem dX0_isTaken_5 : decode cX0_isTaken 5 = .ok (.iload_n 3, 1) := by decide +kernel
theorem dX0_isTaken_6 : decode cX0_isTaken 6 = .ok (.if_icmp .ge 51, 3) := by decide +kernel
theorem dX0_isTaken_9 : decode cX0_isTaken 9 = .ok (.iload 5, 2) := by decide +kernel
theorem dX0_isTaken_11 : decode cX0_isTaken 11 = .ok (.bipush 8, 2) := by decide +kernel
theorem dX0_isTaken_13 : decode cX0_isTaken 13 = .ok (.if_icmp .ge 44, 3) := by decide +kernel
theorem dX0_isTaken_16 : decode cX0_isTaken 16 = .ok (.iload 5, 2) := by decide +kernel
theorem dX0_isTaken_18 : decode cX0_isTaken 18 = .ok (.iload 4, 2) := by decide +kernel
theorem dX0_isTaken_20 : decode cX0_isTaken 20 = .ok (.if_icmp .eq 31, 3) := by decide +kernel
theorem dX0_isTaken_23 : decode cX0_isTaken 23 = .ok (.aload_n 0, 1) := by decide +kernel
theorem dX0_isTaken_24 : decode cX0_isTaken 24 = .ok (.getfield 23, 3) := by decide +kernel
theorem dX0_isTaken_27 : decode cX0_isTaken 27 = .ok (.iload 5, 2) := by decide +kernel
theorem dX0_isTaken_29 : decode cX0_isTaken 29 = .ok (.aaload, 1) := by decide +kernel
theorem dX0_isTaken_30 : decode cX0_isTaken 30 = .ok (.iconst 1, 1) := by decide +kernel
theorem dX0_isTaken_31 : decode cX0_isTaken 31 = .ok (.iaload, 1) := by decide +kernel
theorem dX0_isTaken_32 : decode cX0_isTaken 32 = .ok (.iload_n 1, 1) := by decide +kernel
theorem dX0_isTaken_33 : decode cX0_isTaken 33 = .ok (.if_icmp .ne 18, 3) := by decide +kernel
theorem dX0_isTaken_36 : decode cX0_isTaken 36 = .ok (.aload_n 0, 1) := by decide +kernel
theorem dX0_isTaken_37 : decode cX0_isTaken 37 = .ok (.getfield 23, 3) := by decide +kernel
theorem dX0_isTaken_40 : decode cX0_isTaken 40 = .ok (.iload 5, 2) := by decide +kernel
theorem dX0_isTaken_42 : decode cX0_isTaken 42 = .ok (.aaload, 1) := by decide +kernel
theorem dX0_isTaken_43 : decode cX0_isTaken 43 = .ok (.iconst 2, 1) := by decide +kernel
theorem dX0_isTaken_44 : decode cX0_isTaken 44 = .ok (.iaload, 1) := by decide +kernel
theorem dX0_isTaken_45 : decode cX0_isTaken 45 = .ok (.iload_n 2, 1) := by decide +kernel
theorem dX0_isTaken_46 : decode cX0_isTaken 46 = .ok (.if_icmp .ne 5, 3) := by decide +kernel
theorem dX0_isTaken_49 : decode cX0_isTaken 49 = .ok (.iconst 1, 1) := by decide +kernel
theorem dX0_isTaken_50 : decode cX0_isTaken 50 = .ok (.ireturn, 1) := by decide +kernel
theorem dX0_isTaken_51 : decode cX0_isTaken 51 = .ok (.iinc 5 1, 3) := by decide +kernel
theorem dX0_isTaken_54 : decode cX0_isTaken 54 = .ok (.goto (-51), 3) := by decide +kernel
theorem dX0_isTaken_57 : decode cX0_isTaken 57 = .ok (.iconst 0, 1) := by decide +kernel
theorem dX0_isTaken_58 : decode cX0_isTaken 58 = .ok (.ireturn, 1) := by decide +kernel
theorem dX0_meaning_0 : decode cX0_meaning 0 = .ok (.iload_n 2, 1) := by decide +kernel
theorem dX0_meaning_1 : decode cX0_meaning 1 = .ok (.tableswitch 84 0 3 #[31, 38, 45, 77], 31) := by decide +kernel
theorem dX0_meaning_32 : decode cX0_meaning 32 = .ok (.ldc 13, 2) := by decide +kernel
theorem dX0_meaning_34 : decode cX0_meaning 34 = .ok (.iload_n 3, 1) := by decide +kernel
theorem dX0_meaning_35 : decode cX0_meaning 35 = .ok (.invokevirtual 15, 3) := by decide +kernel
theorem dX0_meaning_38 : decode cX0_meaning 38 = .ok (.ireturn, 1) := by decide +kernel
theorem dX0_meaning_39 : decode cX0_meaning 39 = .ok (.ldc 21, 2) := by decide +kernel
theorem dX0_meaning_41 : decode cX0_meaning 41 = .ok (.iload_n 3, 1) := by decide +kernel
theorem dX0_meaning_42 : decode cX0_meaning 42 = .ok (.invokevirtual 15, 3) := by decide +kernel
theorem dX0_meaning_45 : decode cX0_meaning 45 = .ok (.ireturn, 1) := by decide +kernel
theorem dX0_meaning_46 : decode cX0_meaning 46 = .ok (.aload_n 0, 1) := by decide +kernel
theorem dX0_meaning_47 : decode cX0_meaning 47 = .ok (.aload_n 0, 1) := by decide +kernel
theorem dX0_meaning_48 : decode cX0_meaning 48 = .ok (.getfield 23, 3) := by decide +kernel
theorem dX0_meaning_51 : decode cX0_meaning 51 = .ok (.iload_n 1, 1) := by decide +kernel
theorem dX0_meaning_52 : decode cX0_meaning 52 = .ok (.aaload, 1) := by decide +kernel
theorem dX0_meaning_53 : decode cX0_meaning 53 = .ok (.iconst 1, 1) := by decide +kernel
theorem dX0_meaning_54 : decode cX0_meaning 54 = .ok (.iaload, 1) := by decide +kernel
theorem dX0_meaning_55 : decode cX0_meaning 55 = .ok (.iload_n 3, 1) := by decide +kernel
theorem dX0_meaning_56 : decode cX0_meaning 56 = .ok (.bipush 48, 2) := by decide +kernel
theorem dX0_meaning_58 : decode cX0_meaning 58 = .ok (.isub, 1) := by decide +kernel
theorem dX0_meaning_59 : decode cX0_meaning 59 = .ok (.iload_n 1, 1) := by decide +kernel
theorem dX0_meaning_60 : decode cX0_meaning 60 = .ok (.iload_n 1, 1) := by decide +kernel
theorem dX0_meaning_61 : decode cX0_meaning 61 = .ok (.invokevirtual 26, 3) := by decide +kernel
theorem dX0_meaning_64 : decode cX0_meaning 64 = .ok (.ifCond .eq 7, 3) := by decide +kernel
theorem dX0_meaning_67 : decode cX0_meaning 67 = .ok (.iconst (-1), 1) := by decide +kernel
theorem dX0_meaning_68 : decode cX0_meaning 68 = .ok (.goto 9, 3) := by decide +kernel
theorem dX0_meaning_71 : decode cX0_meaning 71 = .ok (.ldc 21, 2) := by decide +kernel
theorem dX0_meaning_73 : decode cX0_meaning 73 = .ok (.iload_n 3, 1) := by decide +kernel
theorem dX0_meaning_74 : decode cX0_meaning 74 = .ok (.invokevirtual 15, 3) := by decide +kernel
theorem dX0_meaning_77 : decode cX0_meaning 77 = .ok (.ireturn, 1) := by decide +kernel
theorem dX0_meaning_78 : decode cX0_meaning 78 = .ok (.ldc 30, 2) := by decide +kernel
theorem dX0_meaning_80 : decode cX0_meaning 80 = .ok (.iload_n 3, 1) := by decide +kernel
theorem dX0_meaning_81 : decode cX0_meaning 81 = .ok (.invokevirtual 15, 3) := by decide +kernel
theorem dX0_meaning_84 : decode cX0_meaning 84 = .ok (.ireturn, 1) := by decide +kernel
theorem dX0_meaning_85 : decode cX0_meaning 85 = .ok (.iload_n 3, 1) := by decide +kernel
theorem dX0_meaning_86 : decode cX0_meaning 86 = .ok (.bipush 48, 2) := by decide +kernel
theorem dX0_meaning_88 : decode cX0_meaning 88 = .ok (.if_icmp .ne 7, 3) := by decide +kernel
theorem dX0_meaning_91 : decode cX0_meaning 91 = .ok (.iconst (-1), 1) := by decide +kernel
theorem dX0_meaning_92 : decode cX0_meaning 92 = .ok (.goto 9, 3) := by decide +kernel
theorem dX0_meaning_95 : decode cX0_meaning 95 = .ok (.ldc 32, 2) := by decide +kernel
theorem dX0_meaning_97 : decode cX0_meaning 97 = .ok (.iload_n 3, 1) := by decide +kernel
theorem dX0_meaning_98 : decode cX0_meaning 98 = .ok (.invokevirtual 15, 3) := by decide +kernel
theorem dX0_meaning_101 : decode cX0_meaning 101 = .ok (.ireturn, 1) := by decide +kernel
theorem dX6_meaning_0 : decode cX6_meaning 0 = .ok (.iload_n 2, 1) := by decide +kernel
theorem dX6_meaning_1 : decode cX6_meaning 1 = .ok (.lookupswitch 41 #[(0, 27), (1, 34)], 27) := by decide +kernel
theorem dX6_meaning_28 : decode cX6_meaning 28 = .ok (.ldc 13, 2) := by decide +kernel
theorem dX6_meaning_30 : decode cX6_meaning 30 = .ok (.iload_n 3, 1) := by decide +kernel
theorem dX6_meaning_31 : decode cX6_meaning 31 = .ok (.invokevirtual 15, 3) := by decide +kernel
theorem dX6_meaning_34 : decode cX6_meaning 34 = .ok (.ireturn, 1) := by decide +kernel
theorem dX6_meaning_35 : decode cX6_meaning 35 = .ok (.ldc 21, 2) := by decide +kernel
theorem dX6_meaning_37 : decode cX6_meaning 37 = .ok (.iload_n 3, 1) := by decide +kernel
theorem dX6_meaning_38 : decode cX6_meaning 38 = .ok (.invokevirtual 15, 3) := by decide +kernel
theorem dX6_meaning_41 : decode cX6_meaning 41 = .ok (.ireturn, 1) := by decide +kernel
theorem dX6_meaning_42 : decode cX6_meaning 42 = .ok (.iload_n 3, 1) := by decide +kernel
theorem dX6_meaning_43 : decode cX6_meaning 43 = .ok (.bipush 108, 2) := by decide +kernel
theorem dX6_meaning_45 : decode cX6_meaning 45 = .ok (.if_icmp .ne 7, 3) := by decide +kernel
theorem dX6_meaning_48 : decode cX6_meaning 48 = .ok (.iconst 1, 1) := by decide +kernel
theorem dX6_meaning_49 : decode cX6_meaning 49 = .ok (.goto 14, 3) := by decide +kernel
theorem dX6_meaning_52 : decode cX6_meaning 52 = .ok (.iload_n 3, 1) := by decide +kernel
theorem dX6_meaning_53 : decode cX6_meaning 53 = .ok (.bipush 114, 2) := by decide +kernel
theorem dX6_meaning_55 : decode cX6_meaning 55 = .ok (.if_icmp .ne 7, 3) := by decide +kernel
theorem dX6_meaning_58 : decode cX6_meaning 58 = .ok (.iconst 2, 1) := by decide +kernel
theorem dX6_meaning_59 : decode cX6_meaning 59 = .ok (.goto 4, 3) := by decide +kernel
theorem dX6_meaning_62 : decode cX6_meaning 62 = .ok (.iconst (-1), 1) := by decide +kernel
theorem dX6_meaning_63 : decode cX6_meaning 63 = .ok (.ireturn, 1) := by decide +kernel
theorem dX8_takes_0 : decode cX8_takes 0 = .ok (.iload_n 1, 1) := by decide +kernel
theorem dX8_takes_1 : decode cX8_takes 1 = .ok (.aload_n 0, 1) := by decide +kernel
theorem dX8_takes_2 : decode cX8_takes 2 = .ok (.getfield 19, 3) := by decide +kernel
theorem dX8_takes_5 : decode cX8_takes 5 = .ok (.if_icmp .lt 5, 3) := by decide +kernel
theorem dX8_takes_8 : decode cX8_takes 8 = .ok (.iconst 0, 1) := by decide +kernel
theorem dX8_takes_9 : decode cX8_takes 9 = .ok (.ireturn, 1) := by decide +kernel
theorem dX8_takes_10 : decode cX8_takes 10 = .ok (.aload_n 0, 1) := by decide +kernel
theorem dX8_takes_11 : decode cX8_takes 11 = .ok (.getfield 15, 3) := by decide +kernel
theorem dX8_takes_14 : decode cX8_takes 14 = .ok (.iload_n 1, 1) := by decide +kernel
theorem dX8_takes_15 : decode cX8_takes 15 = .ok (.aaload, 1) := by decide +kernel
theorem dX8_takes_16 : decode cX8_takes 16 = .ok (.iload_n 2, 1) := by decide +kernel
theorem dX8_takes_17 : decode cX8_takes 17 = .ok (.aload_n 0, 1) := by decide +kernel
theorem dX8_takes_18 : decode cX8_takes 18 = .ok (.iload_n 1, 1) := by decide +kernel
theorem dX8_takes_19 : decode cX8_takes 19 = .ok (.iload_n 2, 1) := by decide +kernel
theorem dX8_takes_20 : decode cX8_takes 20 = .ok (.iload_n 3, 1) := by decide +kernel
theorem dX8_takes_21 : decode cX8_takes 21 = .ok (.invokevirtual 41, 3) := by decide +kernel
theorem dX8_takes_24 : decode cX8_takes 24 = .ok (.iastore, 1) := by decide +kernel
theorem dX8_takes_25 : decode cX8_takes 25 = .ok (.aload_n 0, 1) := by decide +kernel
theorem dX8_takes_26 : decode cX8_takes 26 = .ok (.getfield 15, 3) := by decide +kernel
theorem dX8_takes_29 : decode cX8_takes 29 = .ok (.iload_n 1, 1) := by decide +kernel
theorem dX8_takes_30 : decode cX8_takes 30 = .ok (.aaload, 1) := by decide +kernel
theorem dX8_takes_31 : decode cX8_takes 31 = .ok (.iload_n 2, 1) := by decide +kernel
theorem dX8_takes_32 : decode cX8_takes 32 = .ok (.iaload, 1) := by decide +kernel
theorem dX8_takes_33 : decode cX8_takes 33 = .ok (.iconst (-1), 1) := by decide +kernel
theorem dX8_takes_34 : decode cX8_takes 34 = .ok (.if_icmp .eq 7, 3) := by decide +kernel
theorem dX8_takes_37 : decode cX8_takes 37 = .ok (.iconst 1, 1) := by decide +kernel
theorem dX8_takes_38 : decode cX8_takes 38 = .ok (.goto 4, 3) := by decide +kernel
theorem dX8_takes_41 : decode cX8_takes 41 = .ok (.iconst 0, 1) := by decide +kernel
theorem dX8_takes_42 : decode cX8_takes 42 = .ok (.ireturn, 1) := by decide +kernel
theorem dX8_learn_0 : decode cX8_learn 0 = .ok (.aload_n 0, 1) := by decide +kernel
theorem dX8_learn_1 : decode cX8_learn 1 = .ok (.iconst (-1), 1) := by decide +kernel
theorem dX8_learn_2 : decode cX8_learn 2 = .ok (.putfield 9, 3) := by decide +kernel
theorem dX8_learn_5 : decode cX8_learn 5 = .ok (.iconst 0, 1) := by decide +kernel
theorem dX8_learn_6 : decode cX8_learn 6 = .ok (.istore_n 2, 1) := by decide +kernel
theorem dX8_learn_7 : decode cX8_learn 7 = .ok (.iconst 0, 1) := by decide +kernel
theorem dX8_learn_8 : decode cX8_learn 8 = .ok (.istore_n 3, 1) := by decide +kernel
theorem dX8_learn_9 : decode cX8_learn 9 = .ok (.iconst 0, 1) := by decide +kernel
theorem dX8_learn_10 : decode cX8_learn 10 = .ok (.istore 4, 2) := by decide +kernel
theorem dX8_learn_12 : decode cX8_learn 12 = .ok (.iload 4, 2) := by decide +kernel
theorem dX8_learn_14 : decode cX8_learn 14 = .ok (.aload_n 1, 1) := by decide +kernel
theorem dX8_learn_15 : decode cX8_learn 15 = .ok (.getfield 25, 3) := by decide +kernel
theorem dX8_learn_18 : decode cX8_learn 18 = .ok (.if_icmp .ge 84, 3) := by decide +kernel
theorem dX8_learn_21 : decode cX8_learn 21 = .ok (.aload_n 0, 1) := by decide +kernel
theorem dX8_learn_22 : decode cX8_learn 22 = .ok (.getfield 9, 3) := by decide +kernel
theorem dX8_learn_25 : decode cX8_learn 25 = .ok (.iconst (-1), 1) := by decide +kernel
theorem dX8_learn_26 : decode cX8_learn 26 = .ok (.if_icmp .ne 76, 3) := by decide +kernel
theorem dX8_learn_29 : decode cX8_learn 29 = .ok (.aload_n 1, 1) := by decide +kernel
theorem dX8_learn_30 : decode cX8_learn 30 = .ok (.getfield 30, 3) := by decide +kernel
theorem dX8_learn_33 : decode cX8_learn 33 = .ok (.iload 4, 2) := by decide +kernel
theorem dX8_learn_35 : decode cX8_learn 35 = .ok (.iaload, 1) := by decide +kernel
theorem dX8_learn_36 : decode cX8_learn 36 = .ok (.i2c, 1) := by decide +kernel
theorem dX8_learn_37 : decode cX8_learn 37 = .ok (.istore 5, 2) := by decide +kernel
theorem dX8_learn_39 : decode cX8_learn 39 = .ok (.iload_n 3, 1) := by decide +kernel
theorem dX8_learn_40 : decode cX8_learn 40 = .ok (.aload_n 0, 1) := by decide +kernel
theorem dX8_learn_41 : decode cX8_learn 41 = .ok (.getfield 22, 3) := by decide +kernel
theorem dX8_learn_44 : decode cX8_learn 44 = .ok (.if_icmp .ne 28, 3) := by decide +kernel
theorem dX8_learn_47 : decode cX8_learn 47 = .ok (.iinc 2 1, 3) := by decide +kernel
theorem dX8_learn_50 : decode cX8_learn 50 = .ok (.iconst 0, 1) := by decide +kernel
theorem dX8_learn_51 : decode cX8_learn 51 = .ok (.istore_n 3, 1) := by decide +kernel
theorem dX8_learn_52 : decode cX8_learn 52 = .ok (.aload_n 0, 1) := by decide +kernel
theorem dX8_learn_53 : decode cX8_learn 53 = .ok (.iload 5, 2) := by decide +kernel
theorem dX8_learn_55 : decode cX8_learn 55 = .ok (.bipush 59, 2) := by decide +kernel
theorem dX8_learn_57 : decode cX8_learn 57 = .ok (.if_icmp .ne 7, 3) := by decide +kernel
theorem dX8_learn_60 : decode cX8_learn 60 = .ok (.iconst (-1), 1) := by decide +kernel
theorem dX8_learn_61 : decode cX8_learn 61 = .ok (.goto 5, 3) := by decide +kernel
theorem dX8_learn_64 : decode cX8_learn 64 = .ok (.iload 4, 2) := by decide +kernel
theorem dX8_learn_66 : decode cX8_learn 66 = .ok (.putfield 9, 3) := by decide +kernel
theorem dX8_learn_69 : decode cX8_learn 69 = .ok (.goto 27, 3) := by decide +kernel
theorem dX8_learn_72 : decode cX8_learn 72 = .ok (.aload_n 0, 1) := by decide +kernel
theorem dX8_learn_73 : decode cX8_learn 73 = .ok (.aload_n 0, 1) := by decide +kernel
theorem dX8_learn_74 : decode cX8_learn 74 = .ok (.iload_n 2, 1) := by decide +kernel
theorem dX8_learn_75 : decode cX8_learn 75 = .ok (.iload_n 3, 1) := by decide +kernel
theorem dX8_learn_76 : decode cX8_learn 76 = .ok (.iload 5, 2) := by decide +kernel
theorem dX8_learn_78 : decode cX8_learn 78 = .ok (.invokevirtual 34, 3) := by decide +kernel
theorem dX8_learn_81 : decode cX8_learn 81 = .ok (.ifCond .eq 7, 3) := by decide +kernel
theorem dX8_learn_84 : decode cX8_learn 84 = .ok (.iconst (-1), 1) := by decide +kernel
theorem dX8_learn_85 : decode cX8_learn 85 = .ok (.goto 5, 3) := by decide +kernel
theorem dX8_learn_88 : decode cX8_learn 88 = .ok (.iload 4, 2) := by decide +kernel
theorem dX8_learn_90 : decode cX8_learn 90 = .ok (.putfield 9, 3) := by decide +kernel
theorem dX8_learn_93 : decode cX8_learn 93 = .ok (.iinc 3 1, 3) := by decide +kernel
theorem dX8_learn_96 : decode cX8_learn 96 = .ok (.iinc 4 1, 3) := by decide +kernel
theorem dX8_learn_99 : decode cX8_learn 99 = .ok (.goto (-87), 3) := by decide +kernel
theorem dX8_learn_102 : decode cX8_learn 102 = .ok (.aload_n 0, 1) := by decide +kernel
theorem dX8_learn_103 : decode cX8_learn 103 = .ok (.getfield 9, 3) := by decide +kernel
theorem dX8_learn_106 : decode cX8_learn 106 = .ok (.iconst (-1), 1) := by decide +kernel
theorem dX8_learn_107 : decode cX8_learn 107 = .ok (.if_icmp .ne 26, 3) := by decide +kernel
theorem dX8_learn_110 : decode cX8_learn 110 = .ok (.aload_n 1, 1) := by decide +kernel
theorem dX8_learn_111 : decode cX8_learn 111 = .ok (.getfield 25, 3) := by decide +kernel
theorem dX8_learn_114 : decode cX8_learn 114 = .ok (.ifCond .le 19, 3) := by decide +kernel
theorem dX8_learn_117 : decode cX8_learn 117 = .ok (.iload_n 3, 1) := by decide +kernel
theorem dX8_learn_118 : decode cX8_learn 118 = .ok (.aload_n 0, 1) := by decide +kernel
theorem dX8_learn_119 : decode cX8_learn 119 = .ok (.getfield 22, 3) := by decide +kernel
theorem dX8_learn_122 : decode cX8_learn 122 = .ok (.if_icmp .eq 11, 3) := by decide +kernel
theorem dX8_learn_125 : decode cX8_learn 125 = .ok (.aload_n 0, 1) := by decide +kernel
theorem dX8_learn_126 : decode cX8_learn 126 = .ok (.aload_n 1, 1) := by decide +kernel
theorem dX8_learn_127 : decode cX8_learn 127 = .ok (.getfield 25, 3) := by decide +kernel
theorem dX8_learn_130 : decode cX8_learn 130 = .ok (.putfield 9, 3) := by decide +kernel
theorem dX8_learn_133 : decode cX8_learn 133 = .ok (.aload_n 0, 1) := by decide +kernel
theorem dX8_learn_134 : decode cX8_learn 134 = .ok (.aload_n 0, 1) := by decide +kernel
theorem dX8_learn_135 : decode cX8_learn 135 = .ok (.getfield 9, 3) := by decide +kernel
theorem dX8_learn_138 : decode cX8_learn 138 = .ok (.iconst (-1), 1) := by decide +kernel
theorem dX8_learn_139 : decode cX8_learn 139 = .ok (.if_icmp .ne 16, 3) := by decide +kernel
theorem dX8_learn_142 : decode cX8_learn 142 = .ok (.aload_n 1, 1) := by decide +kernel
theorem dX8_learn_143 : decode cX8_learn 143 = .ok (.getfield 25, 3) := by decide +kernel
theorem dX8_learn_146 : decode cX8_learn 146 = .ok (.ifCond .le 9, 3) := by decide +kernel
theorem dX8_learn_149 : decode cX8_learn 149 = .ok (.iload_n 2, 1) := by decide +kernel
theorem dX8_learn_150 : decode cX8_learn 150 = .ok (.iconst 1, 1) := by decide +kernel
theorem dX8_learn_151 : decode cX8_learn 151 = .ok (.iadd, 1) := by decide +kernel
theorem dX8_learn_152 : decode cX8_learn 152 = .ok (.goto 4, 3) := by decide +kernel
theorem dX8_learn_155 : decode cX8_learn 155 = .ok (.iconst 0, 1) := by decide +kernel
theorem dX8_learn_156 : decode cX8_learn 156 = .ok (.putfield 38, 3) := by decide +kernel
theorem dX8_learn_159 : decode cX8_learn 159 = .ok (.return_, 1) := by decide +kernel
abbrev cX (σ : mS) (C : Nat) : Nat → Int32 := fun i => σ.1 (C + 1 + 1 + i) 1
abbrev cY (σ : mS) (C : Nat) : Nat → Int32 := fun i => σ.1 (C + 1 + 1 + i) 2
theorem c_isTaken {C : Nat} (hC : C = 5 ∨ C = 66) (n kb : Nat) (hn : n ≤ 8) (hkb : kb ≤ 8) (x y : Int32) : mMet G l d kX0_isTaken [.ref C, .int x, .int y, .int (nI n), .int (nI kb)] σ (qI (bI (othP (cX σ C) (cY σ C) kb x y n)) σ) := by
  have hx0 := (sh_car0 hC).1
  have hx1 := (sh_car0 hC).2
  refine mMet.of cm_X0_isTaken rfl (Nat.le_of_ble_eq_true rfl) rfl (fun v1 σ1 h => by rw [h.1]; exact bI_nar _) ?_
  refine m_iconst (v := 0) dX0_isTaken_0 (by decide) ?_
  refine m_istore (ls1 := [(5, _), (0, _), (1, _), (2, _), (3, _), (4, _)]) dX0_isTaken_1 (by decide) rfl ?_
  refine down (N := n) (fun i (_ : Unit) => othP (cX σ C) (cY σ C) kb x y i = false) (fun i _ => mW G l d kX0_isTaken 3 [(5, .int (nI i)), (0, .ref C), (1, .int x), (2, .int y), (3, .int (nI n)), (4, .int (nI kb))] [] σ _) ?_ ?_ 0 () (Nat.zero_le _) rfl
  · rintro - hf
    refine m_iload dX0_isTaken_3 0 rfl ?_
    refine m_iload_n dX0_isTaken_5 4 rfl ?_
    refine m_icmp_ge dX0_isTaken_6 57 (by decide) (fun h => ?_) (fun h => ?_)
    · refine m_iconst (v := 0) dX0_isTaken_57 (by decide) ?_
      exact m_ireturn dX0_isTaken_58 (qI_of (by rw [hf]; rfl))
    · exact absurd (Int32.le_refl _) h
  · rintro i - hi hf ih
    have hs := sh_car (k := i) hC (by omega)
    have hi8 : i < 8 := by omega
    have no : ¬ (i ≠ kb ∧ cX σ C i = x ∧ cY σ C i = y) → mW G l d kX0_isTaken 51 [(5, .int (nI i)), (0, .ref C), (1, .int x), (2, .int y), (3, .int (nI n)), (4, .int (nI kb))] [] σ (qI (bI (othP (cX σ C) (cY σ C) kb x y n)) σ) := by
      intro q
      refine m_iinc (v := nI (i + 1)) (ls1 := [(5, _), (0, _), (1, _), (2, _), (3, _), (4, _)]) dX0_isTaken_51 0 rfl (nI_1 i) (by decide) rfl ?_
      refine m_goto dX0_isTaken_54 3 (by decide) ?_
      refine ih () ?_
      rw [othP, hf, decide_eq_false q]; rfl
    refine m_iload dX0_isTaken_3 0 rfl ?_
    refine m_iload_n dX0_isTaken_5 4 rfl ?_
    refine m_icmp_ge dX0_isTaken_6 57 (by decide) (fun h => ?_) (fun h => ?_)
    · exact absurd ((nle (by omega) (by omega)).mp h) (by omega)
    clear h
    refine m_iload dX0_isTaken_9 0 rfl ?_
    refine m_bipush (v := 8) dX0_isTaken_11 (by decide) ?_
    refine m_icmp_ge dX0_isTaken_13 57 (by decide) (fun h => ?_) (fun h => ?_)
    · exact absurd ((nle (a := 8) (by omega) (by omega)).mp h) (by omega)
    clear h
    refine m_iload dX0_isTaken_16 0 rfl ?_
    refine m_iload dX0_isTaken_18 5 rfl ?_
    refine m_icmp_eq dX0_isTaken_20 51 (by decide) (fun h1 => ?_) (fun h1 => ?_)
    · exact no (fun q => q.1 ((neq (by omega) (by omega)).mp h1))
    have g1 : i ≠ kb := fun q => h1 (by rw [q])
    refine m_aload_n dX0_isTaken_23 1 rfl ?_
    refine m_getR 0 (C + 1) dX0_isTaken_24 fl_X0_23_0 rfl (by decide) rfl (by first | assumption | rfl) ?_
    refine m_iload dX0_isTaken_27 0 rfl ?_
    refine m_aald dX0_isTaken_29 (by first | assumption | rfl) i rfl (by first | assumption | omega | decide) ?_
    refine m_iconst (v := 1) dX0_isTaken_30 (by decide) ?_
    refine m_iald dX0_isTaken_31 (by first | assumption | rfl) 1 rfl (by first | assumption | omega | decide) ?_
    refine m_iload_n dX0_isTaken_32 2 rfl ?_
    refine m_icmp_ne dX0_isTaken_33 51 (by decide) (fun h2 => ?_) (fun h2 => ?_)
    · exact no (fun q => h2 q.2.1)
    refine m_aload_n dX0_isTaken_36 1 rfl ?_
    refine m_getR 0 (C + 1) dX0_isTaken_37 fl_X0_23_0 rfl (by decide) rfl (by first | assumption | rfl) ?_
    refine m_iload dX0_isTaken_40 0 rfl ?_
    refine m_aald dX0_isTaken_42 (by first | assumption | rfl) i rfl (by first | assumption | omega | decide) ?_
    refine m_iconst (v := 2) dX0_isTaken_43 (by decide) ?_
    refine m_iald dX0_isTaken_44 (by first | assumption | rfl) 2 rfl (by first | assumption | omega | decide) ?_
    refine m_iload_n dX0_isTaken_45 3 rfl ?_
    refine m_icmp_ne dX0_isTaken_46 51 (by decide) (fun h3 => ?_) (fun h3 => ?_)
    · exact no (fun q => h3 q.2.2)
    refine m_iconst (v := 1) dX0_isTaken_49 (by decide) ?_
    refine m_ireturn dX0_isTaken_50 (qI_of ?_)
    rw [othP_yes (cX σ C) (cY σ C) kb x y (i := i + 1) (by rw [othP, hf, decide_eq_true (And.intro g1 (And.intro h2 h3))]; rfl) n (by omega)]
    rfl
theorem c_meaningC (hd : 4 ≤ d) (L : Nat) (b : Nat → Int32) (k j v : Nat) (hk : k < 8) (hj : j < 5) (hv : v < 256) (hL : 6 * k + j < L) (hb : b (6 * k + j) = nI v) (hold : ∀ i, i < k → σ.1 (7 + i) 1 = carB L b i 1 ∧ σ.1 (7 + i) 2 = carB L b i 2) (hX : j = 2 → σ.1 (7 + k) 1 = carB L b k 1) : mMet G l d kX0_meaning [.ref 5, .int (nI k), .int (nI j), .int (nI v)] σ (qI (mC L b k j) σ) := by
  have he : btE L b (6 * k + j) = nI v := by unfold btE; rw [if_pos hL, hb]
  have hc := b255 v hv
  refine mMet.of cm_X0_meaning rfl (Nat.le_of_ble_eq_true rfl) rfl (fun v1 σ1 h => by rw [h.1]; rfl) ?_
  rcases (show j = 0 ∨ j = 1 ∨ j = 2 ∨ j = 3 ∨ j = 4 by omega) with rfl | rfl | rfl | rfl | rfl
  · refine m_iload_n dX0_meaning_0 2 rfl ?_
    refine m_tableIn dX0_meaning_1 (by decide) (by decide) (off := 31) (by decide) 32 (by decide) ?_
    refine m_ldcS (i := 0) dX0_meaning_32 _ rfl rfl rfl ?_
    refine m_iload_n dX0_meaning_34 3 rfl ?_
    refine m_callX (As := [_]) dX0_meaning_35 cx_X0_15 _ rfl (by omega) rfl rfl (Nat.le_of_ble_eq_true rfl) (c_indexOf (d := d - 1) (i := 0) (by omega) _ rfl (by decide) (by decide) (nI v) hc) (fun v1 σ1 hv1 => ?_)
    refine m_qI hv1 ?_
    clear hv1 v1 σ1
    refine m_ireturn dX0_meaning_38 (qI_of ((ix_sort v hv).trans ?_))
    have e : carB L b k 0 = sortB (nI v) := by show sortB (btE L b (6 * k)) = _; rw [show btE L b (6 * k) = nI v from he]
    unfold mC PC
    rw [e]
    by_cases q : sortB (nI v) = -1
    · rw [if_neg (by simp [q]), q]
    · rw [if_pos (by simp [q])]
  · refine m_iload_n dX0_meaning_0 2 rfl ?_
    refine m_tableIn dX0_meaning_1 (by decide) (by decide) (off := 38) (by decide) 39 (by decide) ?_
    refine m_ldcS (i := 1) dX0_meaning_39 _ rfl rfl rfl ?_
    refine m_iload_n dX0_meaning_41 3 rfl ?_
    refine m_callX (As := [_]) dX0_meaning_42 cx_X0_15 _ rfl (by omega) rfl rfl (Nat.le_of_ble_eq_true rfl) (c_indexOf (d := d - 1) (i := 1) (by omega) _ rfl (by decide) (by decide) (nI v) hc) (fun v1 σ1 hv1 => ?_)
    refine m_qI hv1 ?_
    clear hv1 v1 σ1
    refine m_ireturn dX0_meaning_45 (qI_of ((ix_six v hv).trans ?_))
    have e : carB L b k 1 = nI v - 48 := by show btE L b (6 * k + 1) - 48 = _; rw [he]
    unfold mC sxB
    rw [PC1, e]
    by_cases q : six (nI v - 48)
    · rw [if_pos q, if_pos (decide_eq_true q)]
    · rw [if_neg q, if_neg (by rw [decide_eq_false q]; decide)]
  · have hx0 := (sh_car0 (C := 5) (Or.inl rfl)).1
    have hx1 := (sh_car0 (C := 5) (Or.inl rfl)).2
    have hs := sh_car (C := 5) (k := k) (Or.inl rfl) hk
    have e : carB L b k 2 = nI v - 48 := by show btE L b (6 * k + 2) - 48 = _; rw [he]
    have t1 : takB (cX σ 5) (cY σ 5) (cX σ 5 k) (nI v - 48) k = takB (fun i => carB L b i 1) (fun i => carB L b i 2) (carB L b k 1) (nI v - 48) k := by
      rw [show cX σ 5 k = carB L b k 1 from hX rfl]
      exact takB_cong k (fun i hi => hold i hi)
    refine m_iload_n dX0_meaning_0 2 rfl ?_
    refine m_tableIn dX0_meaning_1 (by decide) (by decide) (off := 45) (by decide) 46 (by decide) ?_
    refine m_aload_n dX0_meaning_46 0 rfl ?_
    refine m_aload_n dX0_meaning_47 0 rfl ?_
    refine m_getR 0 (5 + 1) dX0_meaning_48 fl_X0_23_0 rfl (by decide) rfl (by first | assumption | rfl) ?_
    refine m_iload_n dX0_meaning_51 1 rfl ?_
    refine m_aald dX0_meaning_52 (by first | assumption | rfl) k rfl (by first | assumption | omega | decide) ?_
    refine m_iconst (v := 1) dX0_meaning_53 (by decide) ?_
    refine m_iald dX0_meaning_54 (by first | assumption | rfl) 1 rfl (by first | assumption | omega | decide) ?_
    refine m_iload_n dX0_meaning_55 3 rfl ?_
    refine m_bipush (v := 48) dX0_meaning_56 (by decide) ?_
    refine m_isub dX0_meaning_58 ?_
    refine m_iload_n dX0_meaning_59 1 rfl ?_
    refine m_iload_n dX0_meaning_60 1 rfl ?_
    refine m_callV (As := [_, _, _, _]) dX0_meaning_61 cv_X0_26 (by first | assumption | rfl) (by decide) (by omega) rfl rfl (Nat.le_of_ble_eq_true rfl) (c_isTaken (d := d - 1) (Or.inl rfl) k k (by omega) (by omega) (cX σ 5 k) (nI v - 48)) (fun v1 σ1 hv1 => ?_)
    refine m_qI hv1 ?_
    clear hv1 v1 σ1
    refine m_if_eq dX0_meaning_64 71 (by decide) (fun h => ?_) (fun h => ?_)
    · rw [othP_tak _ _ _ _ _ k (Nat.le_refl _), t1] at h
      have h0 := bI_eq.mp h
      refine m_ldcS (i := 1) dX0_meaning_71 _ rfl rfl rfl ?_
      refine m_iload_n dX0_meaning_73 3 rfl ?_
      refine m_callX (As := [_]) dX0_meaning_74 cx_X0_15 _ rfl (by omega) rfl rfl (Nat.le_of_ble_eq_true rfl) (c_indexOf (d := d - 1) (i := 1) (by omega) _ rfl (by decide) (by decide) (nI v) hc) (fun v1 σ1 hv1 => ?_)
      refine m_qI hv1 ?_
      clear hv1 v1 σ1
      refine m_ireturn dX0_meaning_77 (qI_of ((ix_six v hv).trans ?_))
      unfold mC sxB
      rw [PC2, e]
      by_cases q : six (nI v - 48)
      · rw [if_pos q, if_pos (decide_eq_true (And.intro q h0))]
      · rw [if_neg q, if_neg (by simp only [decide_eq_true_eq]; exact fun z => q z.1)]
    · rw [othP_tak _ _ _ _ _ k (Nat.le_refl _), t1] at h
      have h0 := bI_ne.mp h
      refine m_iconst (v := -1) dX0_meaning_67 (by decide) ?_
      refine m_goto dX0_meaning_68 77 (by decide) ?_
      refine m_ireturn dX0_meaning_77 (qI_of ?_)
      unfold mC
      rw [PC2, e, if_neg (by simp [h0])]
  · refine m_iload_n dX0_meaning_0 2 rfl ?_
    refine m_tableIn dX0_meaning_1 (by decide) (by decide) (off := 77) (by decide) 78 (by decide) ?_
    refine m_ldcS (i := 2) dX0_meaning_78 _ rfl rfl rfl ?_
    refine m_iload_n dX0_meaning_80 3 rfl ?_
    refine m_callX (As := [_]) dX0_meaning_81 cx_X0_15 _ rfl (by omega) rfl rfl (Nat.le_of_ble_eq_true rfl) (c_indexOf (d := d - 1) (i := 2) (by omega) _ rfl (by decide) (by decide) (nI v) hc) (fun v1 σ1 hv1 => ?_)
    refine m_qI hv1 ?_
    clear hv1 v1 σ1
    refine m_ireturn dX0_meaning_84 (qI_of ((ix_way v hv).trans ?_))
    have e : carB L b k 3 = wayB (nI v) := by show wayB (btE L b (6 * k + 3)) = _; rw [he]
    unfold mC PC
    rw [e]
    by_cases q : wayB (nI v) = -1
    · rw [if_neg (by simp [q]), q]
    · rw [if_pos (by simp [q])]
  · have e : carB L b k 4 = nI v - 48 := by show btE L b (6 * k + 4) - 48 = _; rw [he]
    have fin : wtB (nI v) = mC L b k 4 := by
      unfold mC wtB
      rw [PC4, e]
      by_cases q : 1 ≤ nI v - 48 ∧ nI v - 48 ≤ 9
      · rw [if_pos q, if_pos (decide_eq_true q)]
      · rw [if_neg q, if_neg (by rw [decide_eq_false q]; decide)]
    have h9 := ix_wt v hv
    refine m_iload_n dX0_meaning_0 2 rfl ?_
    refine m_tableOut dX0_meaning_1 (by decide) 85 (by decide) ?_
    refine m_iload_n dX0_meaning_85 3 rfl ?_
    refine m_bipush (v := 48) dX0_meaning_86 (by decide) ?_
    refine m_icmp_ne dX0_meaning_88 95 (by decide) (fun h => ?_) (fun h => ?_)
    · refine m_ldcS (i := 3) dX0_meaning_95 _ rfl rfl rfl ?_
      refine m_iload_n dX0_meaning_97 3 rfl ?_
      refine m_callX (As := [_]) dX0_meaning_98 cx_X0_15 _ rfl (by omega) rfl rfl (Nat.le_of_ble_eq_true rfl) (c_indexOf (d := d - 1) (i := 3) (by omega) _ rfl (by decide) (by decide) (nI v) hc) (fun v1 σ1 hv1 => ?_)
      refine m_qI hv1 ?_
      clear hv1 v1 σ1
      rw [if_neg h] at h9
      exact m_ireturn dX0_meaning_101 (qI_of (h9.trans fin))
    · refine m_iconst (v := -1) dX0_meaning_91 (by decide) ?_
      refine m_goto dX0_meaning_92 101 (by decide) ?_
      rw [if_pos h] at h9
      exact m_ireturn dX0_meaning_101 (qI_of (h9.trans fin))
end CT


/-! ===== answers of the reference out of one run ===== -/
def aAt (r : RS) (k : Nat) (w : Nat) : Int32 := match w with
  | 0 => r.1 k
  | 1 => r.2.1 k
  | 2 => r.2.2.1 k
  | 3 => r.2.2.2.1 k
  | 4 => r.2.2.2.2.1 k
  | _ => if bitI r.2.2.2.2.2.2.1 (nI k) then 0 else 1
def ayP (x : Nat → Int32) : Nat → Nat
  | 0 => 0
  | k + 1 => ayP x k + (if 3 ≤ x k then 0 else 1)
def bestP (p : Nat → Int32) : Nat → Int32
  | 0 => -1
  | k + 1 => if bestP p k = -1 ∨ p (bestP p k).toNatClampNeg < p k then nI k else bestP p k
def meekP (s b : Nat → Int32) : Nat → Int32
  | 0 => 0
  | k + 1 => meekP s b k ||| (if s k = 0 ∧ b k = 0 then (1 : Int32) <<< (nI k &&& 31) else 0)
/-- the best of 0 .. t -/
def jmP (j : Nat → Int32) : Nat → Nat
  | 0 => 0
  | t + 1 => if j (jmP j t) < j (t + 1) then t + 1 else jmP j t
def sumP (p : Nat → Int32) : Nat → Int32
  | 0 => 0
  | k + 1 => sumP p k + p k
def crP (n : Nat) (rung : Nat → Int32) (ay : Nat → Nat) : Nat → Nat
  | 0 => 0
  | t + 1 => crP n rung ay t + (if rung t = 1 ∧ nI n < 2 * nI (ay t) then 1 else 0)
theorem ayP_le (x : Nat → Int32) : ∀ n, ayP x n ≤ n
  | 0 => Nat.le_refl _
  | n + 1 => by
    unfold ayP
    have := ayP_le x n
    split <;> omega
theorem ayP_cong {x y : Nat → Int32} : ∀ n, (∀ k, k < n → x k = y k) → ayP x n = ayP y n
  | 0, _ => rfl
  | n + 1, h => by unfold ayP; rw [ayP_cong n (fun k hk => h k (by omega)), h n (by omega)]
theorem bestP_of (p : Nat → Int32) : ∀ n, n ≤ 1000 → bestP p n = -1 ∨ ∃ j, j < n ∧ bestP p n = nI j
  | 0, _ => Or.inl rfl
  | n + 1, hn => by
    unfold bestP
    split
    · exact Or.inr ⟨n, by omega, rfl⟩
    · rcases bestP_of p n (by omega) with h | ⟨j, hj, h⟩
      · exact Or.inl h
      · exact Or.inr ⟨j, by omega, h⟩
theorem bestP_cong {p q : Nat → Int32} : ∀ n, n ≤ 1000 → (∀ k, k < n → p k = q k) → bestP p n = bestP q n
  | 0, _, _ => rfl
  | n + 1, hn, h => by
    have ih := bestP_cong n (by omega) (fun k hk => h k (by omega))
    unfold bestP
    rw [ih, h n (by omega)]
    rcases bestP_of q n (by omega) with h1 | ⟨j, hj, h1⟩
    · rw [if_pos (Or.inl h1), if_pos (Or.inl h1)]
    · rw [h1, nI_clamp (by omega), h j (by omega)]
theorem meekP_cong {s b s1 b1 : Nat → Int32} : ∀ n, (∀ k, k < n → s k = s1 k ∧ b k = b1 k) → meekP s b n = meekP s1 b1 n
  | 0, _ => rfl
  | n + 1, h => by unfold meekP; rw [meekP_cong n (fun k hk => h k (by omega)), (h n (by omega)).1, (h n (by omega)).2]
theorem sumP_cong {p q : Nat → Int32} : ∀ n, (∀ k, k < n → p k = q k) → sumP p n = sumP q n
  | 0, _ => rfl
  | n + 1, h => by unfold sumP; rw [sumP_cong n (fun k hk => h k (by omega)), h n (by omega)]
theorem jmP_le (j : Nat → Int32) : ∀ t, jmP j t ≤ t
  | 0 => Nat.le_refl _
  | t + 1 => by
    unfold jmP
    have := jmP_le j t
    split <;> omega
theorem jmP_cong {j q : Nat → Int32} : ∀ t, (∀ u, u ≤ t → j u = q u) → jmP j t = jmP q t
  | 0, _ => rfl
  | t + 1, h => by
    have := jmP_le q t
    unfold jmP
    rw [jmP_cong t (fun u hu => h u (by omega)), h (t + 1) (by omega), h (jmP q t) (by omega)]
theorem crP_cong {n : Nat} {r r1 : Nat → Int32} {a a1 : Nat → Nat} : ∀ t, (∀ u, u < t → r u = r1 u ∧ a u = a1 u) → crP n r a t = crP n r1 a1 t
  | 0, _ => rfl
  | t + 1, h => by unfold crP; rw [crP_cong t (fun u hu => h u (by omega)), (h t (by omega)).1, (h t (by omega)).2]
theorem inN {v : Int32} {m : Nat} (hm : m < 900000) (h : 0 ≤ v ∧ v ≤ nI m) : ∃ j, j ≤ m ∧ v = nI j := by
  obtain ⟨j, hj, e⟩ := nI_ofI (n := m + 1) h.1 (by omega) (Int32.lt_of_le_of_lt h.2 ((nlt (by omega) (by omega)).mpr (by omega)))
  exact ⟨j, by omega, e⟩
section RA
variable {G : mG} {l : Launch} {d : Nat} {σ : mS}
/-- what the ends of the moments were -/
abbrev jmD (D : Deb) : Nat → Int32 := fun t => (RSt D (t + 1)).2.2.2.2.2.2.2.2.2.2
abbrev ayD (D : Deb) : Nat → Nat := fun t => ayP (RSt D (t + 1)).1 D.1.1
theorem dX11_atOf_0 : decode cX11_atOf 0 = .ok (.aload_n 0, 1) := by decide +kernel
theorem dX11_atOf_1 : decode cX11_atOf 1 = .ok (.invokevirtual 276, 3) := by decide +kernel
theorem dX11_atOf_4 : decode cX11_atOf 4 = .ok (.bipush 8, 2) := by decide +kernel
theorem dX11_atOf_6 : decode cX11_atOf 6 = .ok (.iload_n 1, 1) := by decide +kernel
theorem dX11_atOf_7 : decode cX11_atOf 7 = .ok (.imul, 1) := by decide +kernel
theorem dX11_atOf_8 : decode cX11_atOf 8 = .ok (.iload_n 2, 1) := by decide +kernel
theorem dX11_atOf_9 : decode cX11_atOf 9 = .ok (.iadd, 1) := by decide +kernel
theorem dX11_atOf_10 : decode cX11_atOf 10 = .ok (.istore 4, 2) := by decide +kernel
theorem dX11_atOf_12 : decode cX11_atOf 12 = .ok (.iload_n 3, 1) := by decide +kernel
theorem dX11_atOf_13 : decode cX11_atOf 13 = .ok (.tableswitch 75 0 4 #[35, 43, 51, 59, 67], 35) := by decide +kernel
theorem dX11_atOf_48 : decode cX11_atOf 48 = .ok (.aload_n 0, 1) := by decide +kernel
theorem dX11_atOf_49 : decode cX11_atOf 49 = .ok (.getfield 76, 3) := by decide +kernel
theorem dX11_atOf_52 : decode cX11_atOf 52 = .ok (.iload 4, 2) := by decide +kernel
theorem dX11_atOf_54 : decode cX11_atOf 54 = .ok (.iaload, 1) := by decide +kernel
theorem dX11_atOf_55 : decode cX11_atOf 55 = .ok (.ireturn, 1) := by decide +kernel
theorem dX11_atOf_56 : decode cX11_atOf 56 = .ok (.aload_n 0, 1) := by decide +kernel
theorem dX11_atOf_57 : decode cX11_atOf 57 = .ok (.getfield 79, 3) := by decide +kernel
theorem dX11_atOf_60 : decode cX11_atOf 60 = .ok (.iload 4, 2) := by decide +kernel
theorem dX11_atOf_62 : decode cX11_atOf 62 = .ok (.iaload, 1) := by decide +kernel
theorem dX11_atOf_63 : decode cX11_atOf 63 = .ok (.ireturn, 1) := by decide +kernel
theorem dX11_atOf_64 : decode cX11_atOf 64 = .ok (.aload_n 0, 1) := by decide +kernel
theorem dX11_atOf_65 : decode cX11_atOf 65 = .ok (.getfield 82, 3) := by decide +kernel
theorem dX11_atOf_68 : decode cX11_atOf 68 = .ok (.iload 4, 2) := by decide +kernel
theorem dX11_atOf_70 : decode cX11_atOf 70 = .ok (.iaload, 1) := by decide +kernel
theorem dX11_atOf_71 : decode cX11_atOf 71 = .ok (.ireturn, 1) := by decide +kernel
theorem dX11_atOf_72 : decode cX11_atOf 72 = .ok (.aload_n 0, 1) := by decide +kernel
theorem dX11_atOf_73 : decode cX11_atOf 73 = .ok (.getfield 85, 3) := by decide +kernel
theorem dX11_atOf_76 : decode cX11_atOf 76 = .ok (.iload 4, 2) := by decide +kernel
theorem dX11_atOf_78 : decode cX11_atOf 78 = .ok (.iaload, 1) := by decide +kernel
theorem dX11_atOf_79 : decode cX11_atOf 79 = .ok (.ireturn, 1) := by decide +kernel
theorem dX11_atOf_80 : decode cX11_atOf 80 = .ok (.aload_n 0, 1) := by decide +kernel
theorem dX11_atOf_81 : decode cX11_atOf 81 = .ok (.getfield 88, 3) := by decide +kernel
theorem dX11_atOf_84 : decode cX11_atOf 84 = .ok (.iload 4, 2) := by decide +kernel
theorem dX11_atOf_86 : decode cX11_atOf 86 = .ok (.iaload, 1) := by decide +kernel
theorem dX11_atOf_87 : decode cX11_atOf 87 = .ok (.ireturn, 1) := by decide +kernel
theorem dX11_atOf_88 : decode cX11_atOf 88 = .ok (.aload_n 0, 1) := by decide +kernel
theorem dX11_atOf_89 : decode cX11_atOf 89 = .ok (.getfield 91, 3) := by decide +kernel
theorem dX11_atOf_92 : decode cX11_atOf 92 = .ok (.iload_n 1, 1) := by decide +kernel
theorem dX11_atOf_93 : decode cX11_atOf 93 = .ok (.iaload, 1) := by decide +kernel
theorem dX11_atOf_94 : decode cX11_atOf 94 = .ok (.iload_n 2, 1) := by decide +kernel
theorem dX11_atOf_95 : decode cX11_atOf 95 = .ok (.invokestatic 252, 3) := by decide +kernel
theorem dX11_atOf_98 : decode cX11_atOf 98 = .ok (.ifCond .eq 7, 3) := by decide +kernel
theorem dX11_atOf_101 : decode cX11_atOf 101 = .ok (.iconst 0, 1) := by decide +kernel
theorem dX11_atOf_102 : decode cX11_atOf 102 = .ok (.goto 4, 3) := by decide +kernel
theorem dX11_atOf_105 : decode cX11_atOf 105 = .ok (.iconst 1, 1) := by decide +kernel
theorem dX11_atOf_106 : decode cX11_atOf 106 = .ok (.ireturn, 1) := by decide +kernel
theorem dX11_whoOf_0 : decode cX11_whoOf 0 = .ok (.aload_n 0, 1) := by decide +kernel
theorem dX11_whoOf_1 : decode cX11_whoOf 1 = .ok (.invokevirtual 276, 3) := by decide +kernel
theorem dX11_whoOf_4 : decode cX11_whoOf 4 = .ok (.iconst (-1), 1) := by decide +kernel
theorem dX11_whoOf_5 : decode cX11_whoOf 5 = .ok (.istore 4, 2) := by decide +kernel
theorem dX11_whoOf_7 : decode cX11_whoOf 7 = .ok (.iconst 0, 1) := by decide +kernel
theorem dX11_whoOf_8 : decode cX11_whoOf 8 = .ok (.istore 5, 2) := by decide +kernel
theorem dX11_whoOf_10 : decode cX11_whoOf 10 = .ok (.iload 5, 2) := by decide +kernel
theorem dX11_whoOf_12 : decode cX11_whoOf 12 = .ok (.aload_n 0, 1) := by decide +kernel
theorem dX11_whoOf_13 : decode cX11_whoOf 13 = .ok (.getfield 161, 3) := by decide +kernel
theorem dX11_whoOf_16 : decode cX11_whoOf 16 = .ok (.if_icmp .ge 50, 3) := by decide +kernel
theorem dX11_whoOf_19 : decode cX11_whoOf 19 = .ok (.aload_n 0, 1) := by decide +kernel
theorem dX11_whoOf_20 : decode cX11_whoOf 20 = .ok (.getfield 76, 3) := by decide +kernel
theorem dX11_whoOf_23 : decode cX11_whoOf 23 = .ok (.bipush 8, 2) := by decide +kernel
theorem dX11_whoOf_25 : decode cX11_whoOf 25 = .ok (.iload_n 1, 1) := by decide +kernel
theorem dX11_whoOf_26 : decode cX11_whoOf 26 = .ok (.imul, 1) := by decide +kernel
theorem dX11_whoOf_27 : decode cX11_whoOf 27 = .ok (.iload 5, 2) := by decide +kernel
theorem dX11_whoOf_29 : decode cX11_whoOf 29 = .ok (.iadd, 1) := by decide +kernel
theorem dX11_whoOf_30 : decode cX11_whoOf 30 = .ok (.iaload, 1) := by decide +kernel
theorem dX11_whoOf_31 : decode cX11_whoOf 31 = .ok (.iload_n 2, 1) := by decide +kernel
theorem dX11_whoOf_32 : decode cX11_whoOf 32 = .ok (.if_icmp .ne 24, 3) := by decide +kernel
theorem dX11_whoOf_35 : decode cX11_whoOf 35 = .ok (.aload_n 0, 1) := by decide +kernel
theorem dX11_whoOf_36 : decode cX11_whoOf 36 = .ok (.getfield 79, 3) := by decide +kernel
theorem dX11_whoOf_39 : decode cX11_whoOf 39 = .ok (.bipush 8, 2) := by decide +kernel
theorem dX11_whoOf_41 : decode cX11_whoOf 41 = .ok (.iload_n 1, 1) := by decide +kernel
theorem dX11_whoOf_42 : decode cX11_whoOf 42 = .ok (.imul, 1) := by decide +kernel
theorem dX11_whoOf_43 : decode cX11_whoOf 43 = .ok (.iload 5, 2) := by decide +kernel
theorem dX11_whoOf_45 : decode cX11_whoOf 45 = .ok (.iadd, 1) := by decide +kernel
theorem dX11_whoOf_46 : decode cX11_whoOf 46 = .ok (.iaload, 1) := by decide +kernel
theorem dX11_whoOf_47 : decode cX11_whoOf 47 = .ok (.iload_n 3, 1) := by decide +kernel
theorem dX11_whoOf_48 : decode cX11_whoOf 48 = .ok (.if_icmp .ne 8, 3) := by decide +kernel
theorem dX11_whoOf_51 : decode cX11_whoOf 51 = .ok (.iload 5, 2) := by decide +kernel
theorem dX11_whoOf_53 : decode cX11_whoOf 53 = .ok (.goto 5, 3) := by decide +kernel
theorem dX11_whoOf_56 : decode cX11_whoOf 56 = .ok (.iload 4, 2) := by decide +kernel
theorem dX11_whoOf_58 : decode cX11_whoOf 58 = .ok (.istore 4, 2) := by decide +kernel
theorem dX11_whoOf_60 : decode cX11_whoOf 60 = .ok (.iinc 5 1, 3) := by decide +kernel
theorem dX11_whoOf_63 : decode cX11_whoOf 63 = .ok (.goto (-53), 3) := by decide +kernel
theorem dX11_whoOf_66 : decode cX11_whoOf 66 = .ok (.iload 4, 2) := by decide +kernel
theorem dX11_whoOf_68 : decode cX11_whoOf 68 = .ok (.ireturn, 1) := by decide +kernel
theorem dX11_ayesAt_0 : decode cX11_ayesAt 0 = .ok (.iconst 0, 1) := by decide +kernel
theorem dX11_ayesAt_1 : decode cX11_ayesAt 1 = .ok (.istore_n 2, 1) := by decide +kernel
theorem dX11_ayesAt_2 : decode cX11_ayesAt 2 = .ok (.iconst 0, 1) := by decide +kernel
theorem dX11_ayesAt_3 : decode cX11_ayesAt 3 = .ok (.istore_n 3, 1) := by decide +kernel
theorem dX11_ayesAt_4 : decode cX11_ayesAt 4 = .ok (.iload_n 3, 1) := by decide +kernel
theorem dX11_ayesAt_5 : decode cX11_ayesAt 5 = .ok (.aload_n 0, 1) := by decide +kernel
theorem dX11_ayesAt_6 : decode cX11_ayesAt 6 = .ok (.getfield 161, 3) := by decide +kernel
theorem dX11_ayesAt_9 : decode cX11_ayesAt 9 = .ok (.if_icmp .ge 32, 3) := by decide +kernel
theorem dX11_ayesAt_12 : decode cX11_ayesAt 12 = .ok (.iload_n 2, 1) := by decide +kernel
theorem dX11_ayesAt_13 : decode cX11_ayesAt 13 = .ok (.aload_n 0, 1) := by decide +kernel
theorem dX11_ayesAt_14 : decode cX11_ayesAt 14 = .ok (.getfield 76, 3) := by decide +kernel
theorem dX11_ayesAt_17 : decode cX11_ayesAt 17 = .ok (.bipush 8, 2) := by decide +kernel
theorem dX11_ayesAt_19 : decode cX11_ayesAt 19 = .ok (.iload_n 1, 1) := by decide +kernel
theorem dX11_ayesAt_20 : decode cX11_ayesAt 20 = .ok (.imul, 1) := by decide +kernel
theorem dX11_ayesAt_21 : decode cX11_ayesAt 21 = .ok (.iload_n 3, 1) := by decide +kernel
theorem dX11_ayesAt_22 : decode cX11_ayesAt 22 = .ok (.iadd, 1) := by decide +kernel
theorem dX11_ayesAt_23 : decode cX11_ayesAt 23 = .ok (.iaload, 1) := by decide +kernel
theorem dX11_ayesAt_24 : decode cX11_ayesAt 24 = .ok (.iconst 3, 1) := by decide +kernel
theorem dX11_ayesAt_25 : decode cX11_ayesAt 25 = .ok (.if_icmp .ge 7, 3) := by decide +kernel
theorem dX11_ayesAt_28 : decode cX11_ayesAt 28 = .ok (.iconst 1, 1) := by decide +kernel
theorem dX11_ayesAt_29 : decode cX11_ayesAt 29 = .ok (.goto 4, 3) := by decide +kernel
theorem dX11_ayesAt_32 : decode cX11_ayesAt 32 = .ok (.iconst 0, 1) := by decide +kernel
theorem dX11_ayesAt_33 : decode cX11_ayesAt 33 = .ok (.iadd, 1) := by decide +kernel
theorem dX11_ayesAt_34 : decode cX11_ayesAt 34 = .ok (.istore_n 2, 1) := by decide +kernel
theorem dX11_ayesAt_35 : decode cX11_ayesAt 35 = .ok (.iinc 3 1, 3) := by decide +kernel
theorem dX11_ayesAt_38 : decode cX11_ayesAt 38 = .ok (.goto (-34), 3) := by decide +kernel
theorem dX11_ayesAt_41 : decode cX11_ayesAt 41 = .ok (.iload_n 2, 1) := by decide +kernel
theorem dX11_ayesAt_42 : decode cX11_ayesAt 42 = .ok (.ireturn, 1) := by decide +kernel
theorem dX11_houseOf_0 : decode cX11_houseOf 0 = .ok (.aload_n 0, 1) := by decide +kernel
theorem dX11_houseOf_1 : decode cX11_houseOf 1 = .ok (.invokevirtual 276, 3) := by decide +kernel
theorem dX11_houseOf_4 : decode cX11_houseOf 4 = .ok (.aload_n 0, 1) := by decide +kernel
theorem dX11_houseOf_5 : decode cX11_houseOf 5 = .ok (.iload_n 1, 1) := by decide +kernel
theorem dX11_houseOf_6 : decode cX11_houseOf 6 = .ok (.invokevirtual 285, 3) := by decide +kernel
theorem dX11_houseOf_9 : decode cX11_houseOf 9 = .ok (.istore_n 3, 1) := by decide +kernel
theorem dX11_houseOf_10 : decode cX11_houseOf 10 = .ok (.iload_n 2, 1) := by decide +kernel
theorem dX11_houseOf_11 : decode cX11_houseOf 11 = .ok (.ifCond .ne 7, 3) := by decide +kernel
theorem dX11_houseOf_14 : decode cX11_houseOf 14 = .ok (.iload_n 3, 1) := by decide +kernel
theorem dX11_houseOf_15 : decode cX11_houseOf 15 = .ok (.goto 23, 3) := by decide +kernel
theorem dX11_houseOf_18 : decode cX11_houseOf 18 = .ok (.iload_n 2, 1) := by decide +kernel
theorem dX11_houseOf_19 : decode cX11_houseOf 19 = .ok (.iconst 1, 1) := by decide +kernel
theorem dX11_houseOf_20 : decode cX11_houseOf 20 = .ok (.if_icmp .ne 12, 3) := by decide +kernel
theorem dX11_houseOf_23 : decode cX11_houseOf 23 = .ok (.aload_n 0, 1) := by decide +kernel
theorem dX11_houseOf_24 : decode cX11_houseOf 24 = .ok (.getfield 161, 3) := by decide +kernel
theorem dX11_houseOf_27 : decode cX11_houseOf 27 = .ok (.iload_n 3, 1) := by decide +kernel
theorem dX11_houseOf_28 : decode cX11_houseOf 28 = .ok (.isub, 1) := by decide +kernel
theorem dX11_houseOf_29 : decode cX11_houseOf 29 = .ok (.goto 9, 3) := by decide +kernel
theorem dX11_houseOf_32 : decode cX11_houseOf 32 = .ok (.aload_n 0, 1) := by decide +kernel
theorem dX11_houseOf_33 : decode cX11_houseOf 33 = .ok (.getfield 94, 3) := by decide +kernel
theorem dX11_houseOf_36 : decode cX11_houseOf 36 = .ok (.iload_n 1, 1) := by decide +kernel
theorem dX11_houseOf_37 : decode cX11_houseOf 37 = .ok (.iaload, 1) := by decide +kernel
theorem dX11_houseOf_38 : decode cX11_houseOf 38 = .ok (.ireturn, 1) := by decide +kernel
theorem dX11_strikesOf_0 : decode cX11_strikesOf 0 = .ok (.aload_n 0, 1) := by decide +kernel
theorem dX11_strikesOf_1 : decode cX11_strikesOf 1 = .ok (.invokevirtual 276, 3) := by decide +kernel
theorem dX11_strikesOf_4 : decode cX11_strikesOf 4 = .ok (.aload_n 0, 1) := by decide +kernel
theorem dX11_strikesOf_5 : decode cX11_strikesOf 5 = .ok (.getfield 226, 3) := by decide +kernel
theorem dX11_strikesOf_8 : decode cX11_strikesOf 8 = .ok (.ireturn, 1) := by decide +kernel
theorem dX11_firstOf_0 : decode cX11_firstOf 0 = .ok (.aload_n 0, 1) := by decide +kernel
theorem dX11_firstOf_1 : decode cX11_firstOf 1 = .ok (.invokevirtual 276, 3) := by decide +kernel
theorem dX11_firstOf_4 : decode cX11_firstOf 4 = .ok (.iload_n 1, 1) := by decide +kernel
theorem dX11_firstOf_5 : decode cX11_firstOf 5 = .ok (.ifCond .ne 10, 3) := by decide +kernel
theorem dX11_firstOf_8 : decode cX11_firstOf 8 = .ok (.aload_n 0, 1) := by decide +kernel
theorem dX11_firstOf_9 : decode cX11_firstOf 9 = .ok (.getfield 229, 3) := by decide +kernel
theorem dX11_firstOf_12 : decode cX11_firstOf 12 = .ok (.goto 7, 3) := by decide +kernel
theorem dX11_firstOf_15 : decode cX11_firstOf 15 = .ok (.aload_n 0, 1) := by decide +kernel
theorem dX11_firstOf_16 : decode cX11_firstOf 16 = .ok (.getfield 232, 3) := by decide +kernel
theorem dX11_firstOf_19 : decode cX11_firstOf 19 = .ok (.ireturn, 1) := by decide +kernel
theorem dX11_bestOf_0 : decode cX11_bestOf 0 = .ok (.aload_n 0, 1) := by decide +kernel
theorem dX11_bestOf_1 : decode cX11_bestOf 1 = .ok (.invokevirtual 276, 3) := by decide +kernel
theorem dX11_bestOf_4 : decode cX11_bestOf 4 = .ok (.iconst (-1), 1) := by decide +kernel
theorem dX11_bestOf_5 : decode cX11_bestOf 5 = .ok (.istore_n 1, 1) := by decide +kernel
theorem dX11_bestOf_6 : decode cX11_bestOf 6 = .ok (.iconst 0, 1) := by decide +kernel
theorem dX11_bestOf_7 : decode cX11_bestOf 7 = .ok (.istore_n 2, 1) := by decide +kernel
theorem dX11_bestOf_8 : decode cX11_bestOf 8 = .ok (.iload_n 2, 1) := by decide +kernel
theorem dX11_bestOf_9 : decode cX11_bestOf 9 = .ok (.aload_n 0, 1) := by decide +kernel
theorem dX11_bestOf_10 : decode cX11_bestOf 10 = .ok (.getfield 161, 3) := by decide +kernel
theorem dX11_bestOf_13 : decode cX11_bestOf 13 = .ok (.if_icmp .ge 35, 3) := by decide +kernel
theorem dX11_bestOf_16 : decode cX11_bestOf 16 = .ok (.iload_n 1, 1) := by decide +kernel
theorem dX11_bestOf_17 : decode cX11_bestOf 17 = .ok (.iconst (-1), 1) := by decide +kernel
theorem dX11_bestOf_18 : decode cX11_bestOf 18 = .ok (.if_icmp .eq 18, 3) := by decide +kernel
theorem dX11_bestOf_21 : decode cX11_bestOf 21 = .ok (.aload_n 0, 1) := by decide +kernel
theorem dX11_bestOf_22 : decode cX11_bestOf 22 = .ok (.getfield 67, 3) := by decide +kernel
theorem dX11_bestOf_25 : decode cX11_bestOf 25 = .ok (.iload_n 2, 1) := by decide +kernel
theorem dX11_bestOf_26 : decode cX11_bestOf 26 = .ok (.iaload, 1) := by decide +kernel
theorem dX11_bestOf_27 : decode cX11_bestOf 27 = .ok (.aload_n 0, 1) := by decide +kernel
theorem dX11_bestOf_28 : decode cX11_bestOf 28 = .ok (.getfield 67, 3) := by decide +kernel
theorem dX11_bestOf_31 : decode cX11_bestOf 31 = .ok (.iload_n 1, 1) := by decide +kernel
theorem dX11_bestOf_32 : decode cX11_bestOf 32 = .ok (.iaload, 1) := by decide +kernel
theorem dX11_bestOf_33 : decode cX11_bestOf 33 = .ok (.if_icmp .le 7, 3) := by decide +kernel
theorem dX11_bestOf_36 : decode cX11_bestOf 36 = .ok (.iload_n 2, 1) := by decide +kernel
theorem dX11_bestOf_37 : decode cX11_bestOf 37 = .ok (.goto 4, 3) := by decide +kernel
theorem dX11_bestOf_40 : decode cX11_bestOf 40 = .ok (.iload_n 1, 1) := by decide +kernel
theorem dX11_bestOf_41 : decode cX11_bestOf 41 = .ok (.istore_n 1, 1) := by decide +kernel
theorem dX11_bestOf_42 : decode cX11_bestOf 42 = .ok (.iinc 2 1, 3) := by decide +kernel
theorem dX11_bestOf_45 : decode cX11_bestOf 45 = .ok (.goto (-37), 3) := by decide +kernel
theorem dX11_bestOf_48 : decode cX11_bestOf 48 = .ok (.iload_n 1, 1) := by decide +kernel
theorem dX11_bestOf_49 : decode cX11_bestOf 49 = .ok (.ireturn, 1) := by decide +kernel
theorem dX11_meekNow_0 : decode cX11_meekNow 0 = .ok (.iconst 0, 1) := by decide +kernel
theorem dX11_meekNow_1 : decode cX11_meekNow 1 = .ok (.istore_n 1, 1) := by decide +kernel
theorem dX11_meekNow_2 : decode cX11_meekNow 2 = .ok (.iconst 0, 1) := by decide +kernel
theorem dX11_meekNow_3 : decode cX11_meekNow 3 = .ok (.istore_n 2, 1) := by decide +kernel
theorem dX11_meekNow_4 : decode cX11_meekNow 4 = .ok (.iload_n 2, 1) := by decide +kernel
theorem dX11_meekNow_5 : decode cX11_meekNow 5 = .ok (.aload_n 0, 1) := by decide +kernel
theorem dX11_meekNow_6 : decode cX11_meekNow 6 = .ok (.getfield 161, 3) := by decide +kernel
theorem dX11_meekNow_9 : decode cX11_meekNow 9 = .ok (.if_icmp .ge 37, 3) := by decide +kernel
theorem dX11_meekNow_12 : decode cX11_meekNow 12 = .ok (.iload_n 1, 1) := by decide +kernel
theorem dX11_meekNow_13 : decode cX11_meekNow 13 = .ok (.aload_n 0, 1) := by decide +kernel
theorem dX11_meekNow_14 : decode cX11_meekNow 14 = .ok (.getfield 70, 3) := by decide +kernel
theorem dX11_meekNow_17 : decode cX11_meekNow 17 = .ok (.iload_n 2, 1) := by decide +kernel
theorem dX11_meekNow_18 : decode cX11_meekNow 18 = .ok (.iaload, 1) := by decide +kernel
theorem dX11_meekNow_19 : decode cX11_meekNow 19 = .ok (.ifCond .ne 18, 3) := by decide +kernel
theorem dX11_meekNow_22 : decode cX11_meekNow 22 = .ok (.aload_n 0, 1) := by decide +kernel
theorem dX11_meekNow_23 : decode cX11_meekNow 23 = .ok (.getfield 73, 3) := by decide +kernel
theorem dX11_meekNow_26 : decode cX11_meekNow 26 = .ok (.iload_n 2, 1) := by decide +kernel
theorem dX11_meekNow_27 : decode cX11_meekNow 27 = .ok (.iaload, 1) := by decide +kernel
theorem dX11_meekNow_28 : decode cX11_meekNow 28 = .ok (.ifCond .ne 9, 3) := by decide +kernel
theorem dX11_meekNow_31 : decode cX11_meekNow 31 = .ok (.iconst 1, 1) := by decide +kernel
theorem dX11_meekNow_32 : decode cX11_meekNow 32 = .ok (.iload_n 2, 1) := by decide +kernel
theorem dX11_meekNow_33 : decode cX11_meekNow 33 = .ok (.ishl, 1) := by decide +kernel
theorem dX11_meekNow_34 : decode cX11_meekNow 34 = .ok (.goto 4, 3) := by decide +kernel
theorem dX11_meekNow_37 : decode cX11_meekNow 37 = .ok (.iconst 0, 1) := by decide +kernel
theorem dX11_meekNow_38 : decode cX11_meekNow 38 = .ok (.ior, 1) := by decide +kernel
theorem dX11_meekNow_39 : decode cX11_meekNow 39 = .ok (.istore_n 1, 1) := by decide +kernel
theorem dX11_meekNow_40 : decode cX11_meekNow 40 = .ok (.iinc 2 1, 3) := by decide +kernel
theorem dX11_meekNow_43 : decode cX11_meekNow 43 = .ok (.goto (-39), 3) := by decide +kernel
theorem dX11_meekNow_46 : decode cX11_meekNow 46 = .ok (.iload_n 1, 1) := by decide +kernel
theorem dX11_meekNow_47 : decode cX11_meekNow 47 = .ok (.ireturn, 1) := by decide +kernel
theorem dX11_meekOf_0 : decode cX11_meekOf 0 = .ok (.aload_n 0, 1) := by decide +kernel
theorem dX11_meekOf_1 : decode cX11_meekOf 1 = .ok (.invokevirtual 276, 3) := by decide +kernel
theorem dX11_meekOf_4 : decode cX11_meekOf 4 = .ok (.aload_n 0, 1) := by decide +kernel
theorem dX11_meekOf_5 : decode cX11_meekOf 5 = .ok (.invokevirtual 301, 3) := by decide +kernel
theorem dX11_meekOf_8 : decode cX11_meekOf 8 = .ok (.ireturn, 1) := by decide +kernel
theorem dX11_jamOf_0 : decode cX11_jamOf 0 = .ok (.aload_n 0, 1) := by decide +kernel
theorem dX11_jamOf_1 : decode cX11_jamOf 1 = .ok (.invokevirtual 276, 3) := by decide +kernel
theorem dX11_jamOf_4 : decode cX11_jamOf 4 = .ok (.iconst 0, 1) := by decide +kernel
theorem dX11_jamOf_5 : decode cX11_jamOf 5 = .ok (.istore_n 2, 1) := by decide +kernel
theorem dX11_jamOf_6 : decode cX11_jamOf 6 = .ok (.iconst 1, 1) := by decide +kernel
theorem dX11_jamOf_7 : decode cX11_jamOf 7 = .ok (.istore_n 3, 1) := by decide +kernel
theorem dX11_jamOf_8 : decode cX11_jamOf 8 = .ok (.iload_n 3, 1) := by decide +kernel
theorem dX11_jamOf_9 : decode cX11_jamOf 9 = .ok (.bipush 24, 2) := by decide +kernel
theorem dX11_jamOf_11 : decode cX11_jamOf 11 = .ok (.if_icmp .ge 30, 3) := by decide +kernel
theorem dX11_jamOf_14 : decode cX11_jamOf 14 = .ok (.aload_n 0, 1) := by decide +kernel
theorem dX11_jamOf_15 : decode cX11_jamOf 15 = .ok (.getfield 97, 3) := by decide +kernel
theorem dX11_jamOf_18 : decode cX11_jamOf 18 = .ok (.iload_n 3, 1) := by decide +kernel
theorem dX11_jamOf_19 : decode cX11_jamOf 19 = .ok (.iaload, 1) := by decide +kernel
theorem dX11_jamOf_20 : decode cX11_jamOf 20 = .ok (.aload_n 0, 1) := by decide +kernel
theorem dX11_jamOf_21 : decode cX11_jamOf 21 = .ok (.getfield 97, 3) := by decide +kernel
theorem dX11_jamOf_24 : decode cX11_jamOf 24 = .ok (.iload_n 2, 1) := by decide +kernel
theorem dX11_jamOf_25 : decode cX11_jamOf 25 = .ok (.iaload, 1) := by decide +kernel
theorem dX11_jamOf_26 : decode cX11_jamOf 26 = .ok (.if_icmp .le 7, 3) := by decide +kernel
theorem dX11_jamOf_29 : decode cX11_jamOf 29 = .ok (.iload_n 3, 1) := by decide +kernel
theorem dX11_jamOf_30 : decode cX11_jamOf 30 = .ok (.goto 4, 3) := by decide +kernel
theorem dX11_jamOf_33 : decode cX11_jamOf 33 = .ok (.iload_n 2, 1) := by decide +kernel
theorem dX11_jamOf_34 : decode cX11_jamOf 34 = .ok (.istore_n 2, 1) := by decide +kernel
theorem dX11_jamOf_35 : decode cX11_jamOf 35 = .ok (.iinc 3 1, 3) := by decide +kernel
theorem dX11_jamOf_38 : decode cX11_jamOf 38 = .ok (.goto (-30), 3) := by decide +kernel
theorem dX11_jamOf_41 : decode cX11_jamOf 41 = .ok (.iload_n 1, 1) := by decide +kernel
theorem dX11_jamOf_42 : decode cX11_jamOf 42 = .ok (.ifCond .ne 7, 3) := by decide +kernel
theorem dX11_jamOf_45 : decode cX11_jamOf 45 = .ok (.iload_n 2, 1) := by decide +kernel
theorem dX11_jamOf_46 : decode cX11_jamOf 46 = .ok (.goto 9, 3) := by decide +kernel
theorem dX11_jamOf_49 : decode cX11_jamOf 49 = .ok (.aload_n 0, 1) := by decide +kernel
theorem dX11_jamOf_50 : decode cX11_jamOf 50 = .ok (.getfield 97, 3) := by decide +kernel
theorem dX11_jamOf_53 : decode cX11_jamOf 53 = .ok (.iload_n 2, 1) := by decide +kernel
theorem dX11_jamOf_54 : decode cX11_jamOf 54 = .ok (.iaload, 1) := by decide +kernel
theorem dX11_jamOf_55 : decode cX11_jamOf 55 = .ok (.ireturn, 1) := by decide +kernel
theorem dX11_carriedOf_0 : decode cX11_carriedOf 0 = .ok (.aload_n 0, 1) := by decide +kernel
theorem dX11_carriedOf_1 : decode cX11_carriedOf 1 = .ok (.invokevirtual 276, 3) := by decide +kernel
theorem dX11_carriedOf_4 : decode cX11_carriedOf 4 = .ok (.iconst 0, 1) := by decide +kernel
theorem dX11_carriedOf_5 : decode cX11_carriedOf 5 = .ok (.istore_n 1, 1) := by decide +kernel
theorem dX11_carriedOf_6 : decode cX11_carriedOf 6 = .ok (.iconst 0, 1) := by decide +kernel
theorem dX11_carriedOf_7 : decode cX11_carriedOf 7 = .ok (.istore_n 2, 1) := by decide +kernel
theorem dX11_carriedOf_8 : decode cX11_carriedOf 8 = .ok (.iload_n 2, 1) := by decide +kernel
theorem dX11_carriedOf_9 : decode cX11_carriedOf 9 = .ok (.bipush 24, 2) := by decide +kernel
theorem dX11_carriedOf_11 : decode cX11_carriedOf 11 = .ok (.if_icmp .ge 41, 3) := by decide +kernel
theorem dX11_carriedOf_14 : decode cX11_carriedOf 14 = .ok (.iload_n 1, 1) := by decide +kernel
theorem dX11_carriedOf_15 : decode cX11_carriedOf 15 = .ok (.aload_n 0, 1) := by decide +kernel
theorem dX11_carriedOf_16 : decode cX11_carriedOf 16 = .ok (.getfield 94, 3) := by decide +kernel
theorem dX11_carriedOf_19 : decode cX11_carriedOf 19 = .ok (.iload_n 2, 1) := by decide +kernel
theorem dX11_carriedOf_20 : decode cX11_carriedOf 20 = .ok (.iaload, 1) := by decide +kernel
theorem dX11_carriedOf_21 : decode cX11_carriedOf 21 = .ok (.iconst 1, 1) := by decide +kernel
theorem dX11_carriedOf_22 : decode cX11_carriedOf 22 = .ok (.if_icmp .ne 21, 3) := by decide +kernel
theorem dX11_carriedOf_25 : decode cX11_carriedOf 25 = .ok (.iconst 2, 1) := by decide +kernel
theorem dX11_carriedOf_26 : decode cX11_carriedOf 26 = .ok (.aload_n 0, 1) := by decide +kernel
theorem dX11_carriedOf_27 : decode cX11_carriedOf 27 = .ok (.iload_n 2, 1) := by decide +kernel
theorem dX11_carriedOf_28 : decode cX11_carriedOf 28 = .ok (.invokevirtual 285, 3) := by decide +kernel
theorem dX11_carriedOf_31 : decode cX11_carriedOf 31 = .ok (.imul, 1) := by decide +kernel
theorem dX11_carriedOf_32 : decode cX11_carriedOf 32 = .ok (.aload_n 0, 1) := by decide +kernel
theorem dX11_carriedOf_33 : decode cX11_carriedOf 33 = .ok (.getfield 161, 3) := by decide +kernel
theorem dX11_carriedOf_36 : decode cX11_carriedOf 36 = .ok (.if_icmp .le 7, 3) := by decide +kernel
theorem dX11_carriedOf_39 : decode cX11_carriedOf 39 = .ok (.iconst 1, 1) := by decide +kernel
theorem dX11_carriedOf_40 : decode cX11_carriedOf 40 = .ok (.goto 4, 3) := by decide +kernel
theorem dX11_carriedOf_43 : decode cX11_carriedOf 43 = .ok (.iconst 0, 1) := by decide +kernel
theorem dX11_carriedOf_44 : decode cX11_carriedOf 44 = .ok (.iadd, 1) := by decide +kernel
theorem dX11_carriedOf_45 : decode cX11_carriedOf 45 = .ok (.istore_n 1, 1) := by decide +kernel
theorem dX11_carriedOf_46 : decode cX11_carriedOf 46 = .ok (.iinc 2 1, 3) := by decide +kernel
theorem dX11_carriedOf_49 : decode cX11_carriedOf 49 = .ok (.goto (-41), 3) := by decide +kernel
theorem dX11_carriedOf_52 : decode cX11_carriedOf 52 = .ok (.iload_n 1, 1) := by decide +kernel
theorem dX11_carriedOf_53 : decode cX11_carriedOf 53 = .ok (.ireturn, 1) := by decide +kernel
theorem dX11_pointsAll_0 : decode cX11_pointsAll 0 = .ok (.iconst 0, 1) := by decide +kernel
theorem dX11_pointsAll_1 : decode cX11_pointsAll 1 = .ok (.istore_n 1, 1) := by decide +kernel
theorem dX11_pointsAll_2 : decode cX11_pointsAll 2 = .ok (.iconst 0, 1) := by decide +kernel
theorem dX11_pointsAll_3 : decode cX11_pointsAll 3 = .ok (.istore_n 2, 1) := by decide +kernel
theorem dX11_pointsAll_4 : decode cX11_pointsAll 4 = .ok (.iload_n 2, 1) := by decide +kernel
theorem dX11_pointsAll_5 : decode cX11_pointsAll 5 = .ok (.aload_n 0, 1) := by decide +kernel
theorem dX11_pointsAll_6 : decode cX11_pointsAll 6 = .ok (.getfield 161, 3) := by decide +kernel
theorem dX11_pointsAll_9 : decode cX11_pointsAll 9 = .ok (.if_icmp .ge 18, 3) := by decide +kernel
theorem dX11_pointsAll_12 : decode cX11_pointsAll 12 = .ok (.iload_n 1, 1) := by decide +kernel
theorem dX11_pointsAll_13 : decode cX11_pointsAll 13 = .ok (.aload_n 0, 1) := by decide +kernel
theorem dX11_pointsAll_14 : decode cX11_pointsAll 14 = .ok (.getfield 67, 3) := by decide +kernel
theorem dX11_pointsAll_17 : decode cX11_pointsAll 17 = .ok (.iload_n 2, 1) := by decide +kernel
theorem dX11_pointsAll_18 : decode cX11_pointsAll 18 = .ok (.iaload, 1) := by decide +kernel
theorem dX11_pointsAll_19 : decode cX11_pointsAll 19 = .ok (.iadd, 1) := by decide +kernel
theorem dX11_pointsAll_20 : decode cX11_pointsAll 20 = .ok (.istore_n 1, 1) := by decide +kernel
theorem dX11_pointsAll_21 : decode cX11_pointsAll 21 = .ok (.iinc 2 1, 3) := by decide +kernel
theorem dX11_pointsAll_24 : decode cX11_pointsAll 24 = .ok (.goto (-20), 3) := by decide +kernel
theorem dX11_pointsAll_27 : decode cX11_pointsAll 27 = .ok (.iload_n 1, 1) := by decide +kernel
theorem dX11_pointsAll_28 : decode cX11_pointsAll 28 = .ok (.ireturn, 1) := by decide +kernel
theorem c_isMoment (hd : 1 ≤ d) (v : Int32) : mMet G l d kX11_isMoment [.int v] σ (qI (bI (decide (0 ≤ v ∧ v ≤ 23))) σ) := by
  refine mMet.of cm_X11_isMoment rfl (Nat.le_of_ble_eq_true rfl) rfl (fun v1 σ1 h => by rw [h.1]; exact bI_nar _) ?_
  refine m_iload_n dX11_isMoment_0 0 rfl ?_
  refine m_iconst (v := 0) dX11_isMoment_1 (by decide) ?_
  refine m_bipush (v := 23) dX11_isMoment_2 (by decide) ?_
  refine m_callS (As := [_, _, _]) dX11_isMoment_4 cs_X11_136 (by omega) rfl rfl (Nat.le_of_ble_eq_true rfl) (c_in (d := d - 1) v 0 23) (fun v1 σ1 hv1 => ?_)
  refine m_qI hv1 ?_
  clear hv1 v1 σ1
  refine m_ireturn dX11_isMoment_7 ?_
  exact ⟨rfl, rfl⟩
theorem c_isTwo (hd : 1 ≤ d) (v : Int32) : mMet G l d kX11_isTwo [.int v] σ (qI (bI (decide (0 ≤ v ∧ v ≤ 1))) σ) := by
  refine mMet.of cm_X11_isTwo rfl (Nat.le_of_ble_eq_true rfl) rfl (fun v1 σ1 h => by rw [h.1]; exact bI_nar _) ?_
  refine m_iload_n dX11_isTwo_0 0 rfl ?_
  refine m_iconst (v := 0) dX11_isTwo_1 (by decide) ?_
  refine m_iconst (v := 1) dX11_isTwo_2 (by decide) ?_
  refine m_callS (As := [_, _, _]) dX11_isTwo_3 cs_X11_136 (by omega) rfl rfl (Nat.le_of_ble_eq_true rfl) (c_in (d := d - 1) v 0 1) (fun v1 σ1 hv1 => ?_)
  refine m_qI hv1 ?_
  clear hv1 v1 σ1
  refine m_ireturn dX11_isTwo_6 ?_
  exact ⟨rfl, rfl⟩
theorem c_isThree (hd : 1 ≤ d) (v : Int32) : mMet G l d kX11_isThree [.int v] σ (qI (bI (decide (0 ≤ v ∧ v ≤ 2))) σ) := by
  refine mMet.of cm_X11_isThree rfl (Nat.le_of_ble_eq_true rfl) rfl (fun v1 σ1 h => by rw [h.1]; exact bI_nar _) ?_
  refine m_iload_n dX11_isThree_0 0 rfl ?_
  refine m_iconst (v := 0) dX11_isThree_1 (by decide) ?_
  refine m_iconst (v := 2) dX11_isThree_2 (by decide) ?_
  refine m_callS (As := [_, _, _]) dX11_isThree_3 cs_X11_136 (by omega) rfl rfl (Nat.le_of_ble_eq_true rfl) (c_in (d := d - 1) v 0 2) (fun v1 σ1 hv1 => ?_)
  refine m_qI hv1 ?_
  clear hv1 v1 σ1
  refine m_ireturn dX11_isThree_6 ?_
  exact ⟨rfl, rfl⟩
theorem c_isEight (hd : 1 ≤ d) (v : Int32) : mMet G l d kX11_isEight [.int v] σ (qI (bI (decide (0 ≤ v ∧ v ≤ 7))) σ) := by
  refine mMet.of cm_X11_isEight rfl (Nat.le_of_ble_eq_true rfl) rfl (fun v1 σ1 h => by rw [h.1]; exact bI_nar _) ?_
  refine m_iload_n dX11_isEight_0 0 rfl ?_
  refine m_iconst (v := 0) dX11_isEight_1 (by decide) ?_
  refine m_bipush (v := 7) dX11_isEight_2 (by decide) ?_
  refine m_callS (As := [_, _, _]) dX11_isEight_4 cs_X11_136 (by omega) rfl rfl (Nat.le_of_ble_eq_true rfl) (c_in (d := d - 1) v 0 7) (fun v1 σ1 hv1 => ?_)
  refine m_qI hv1 ?_
  clear hv1 v1 σ1
  refine m_ireturn dX11_isEight_7 ?_
  exact ⟨rfl, rfl⟩
theorem c_isSheet (hd : 1 ≤ d) (v : Int32) : mMet G l d kX11_isSheet [.int v] σ (qI (bI (decide (0 ≤ v ∧ v ≤ 3))) σ) := by
  refine mMet.of cm_X11_isSheet rfl (Nat.le_of_ble_eq_true rfl) rfl (fun v1 σ1 h => by rw [h.1]; exact bI_nar _) ?_
  refine m_iload_n dX11_isSheet_0 0 rfl ?_
  refine m_iconst (v := 0) dX11_isSheet_1 (by decide) ?_
  refine m_iconst (v := 3) dX11_isSheet_2 (by decide) ?_
  refine m_callS (As := [_, _, _]) dX11_isSheet_3 cs_X11_136 (by omega) rfl rfl (Nat.le_of_ble_eq_true rfl) (c_in (d := d - 1) v 0 3) (fun v1 σ1 hv1 => ?_)
  refine m_qI hv1 ?_
  clear hv1 v1 σ1
  refine m_ireturn dX11_isSheet_6 ?_
  exact ⟨rfl, rfl⟩
theorem c_ayesAt (D : Deb) (hn : D.1.1 ≤ 8) (ho : outR D σ) (hc : σ.1 111 2 = nI D.1.1) (t : Nat) (ht : t < 24) : mMet G l d kX11_ayesAt [.ref 111, .int (nI t)] σ (qI (nI (ayD D t)) σ) := by
  refine mMet.of cm_X11_ayesAt rfl (Nat.le_of_ble_eq_true rfl) rfl (fun v1 σ1 h => by rw [h.1]; rfl) ?_
  refine m_iconst (v := 0) dX11_ayesAt_0 (by decide) ?_
  refine m_istore_n (ls1 := [(2, _), (0, _), (1, _)]) dX11_ayesAt_1 (by decide) rfl ?_
  refine m_iconst (v := 0) dX11_ayesAt_2 (by decide) ?_
  refine m_istore_n (ls1 := [(3, _), (2, _), (0, _), (1, _)]) dX11_ayesAt_3 (by decide) rfl ?_
  refine down (N := D.1.1) (fun k (f : Int32) => f = nI (ayP (RSt D (t + 1)).1 k)) (fun k f => mW G l d kX11_ayesAt 4 [(3, .int (nI k)), (2, .int f), (0, .ref 111), (1, .int (nI t))] [] σ _) ?_ ?_ 0 0 (Nat.zero_le _) rfl
  · intro f hf
    refine m_iload_n dX11_ayesAt_4 0 rfl ?_
    refine m_aload_n dX11_ayesAt_5 2 rfl ?_
    refine m_getI 2 dX11_ayesAt_6 fl_X11_161_10 rfl (by decide) (by first | assumption | rfl) ?_
    refine m_icmp_ge dX11_ayesAt_9 41 (by decide) (fun h => ?_) (fun h => ?_)
    · refine m_iload_n dX11_ayesAt_41 1 rfl ?_
      exact m_ireturn dX11_ayesAt_42 ⟨by rw [hf], rfl⟩
    · exact (ge_yes h hc).elim
  · intro k f hk hf ih
    have hx := ((ho.1 t ht).2.2.2 k hk).1
    refine m_iload_n dX11_ayesAt_4 0 rfl ?_
    refine m_aload_n dX11_ayesAt_5 2 rfl ?_
    refine m_getI 2 dX11_ayesAt_6 fl_X11_161_10 rfl (by decide) (by first | assumption | rfl) ?_
    refine m_icmp_ge dX11_ayesAt_9 41 (by decide) (fun h => ?_) (fun h => ?_)
    · exact (ge_no hc h rfl hk (by omega)).elim
    · clear h
      refine m_iload_n dX11_ayesAt_12 1 rfl ?_
      refine m_aload_n dX11_ayesAt_13 2 rfl ?_
      refine m_getR 32 134 dX11_ayesAt_14 fl_X11_76_10 rfl (by decide) rfl (by first | assumption | rfl) ?_
      refine m_bipush (v := 8) dX11_ayesAt_17 (by decide) ?_
      refine m_iload_n dX11_ayesAt_19 3 rfl ?_
      refine m_imul dX11_ayesAt_20 ?_
      refine m_iload_n dX11_ayesAt_21 0 rfl ?_
      refine m_iadd dX11_ayesAt_22 ?_
      refine mW.top (w := nI (8 * t + k)) (ix8 t k) ?_
      refine m_iald dX11_ayesAt_23 (by first | assumption | rfl) (8 * t + k) rfl (by first | assumption | omega | decide) ?_
      refine mW.top hx ?_
      refine m_iconst (v := 3) dX11_ayesAt_24 (by decide) ?_
      refine m_sel (pcJ := 33) ?_ (fun kt0 kf0 => m_icmp_ge dX11_ayesAt_25 32 (by decide) (fun h => (m_iconst (v := 0) dX11_ayesAt_32 (by decide) (kt0 h))) (fun h => (m_iconst (v := 1) dX11_ayesAt_28 (by decide) (m_goto dX11_ayesAt_29 33 (by decide) (kf0 h)))))
      refine m_iadd dX11_ayesAt_33 ?_
      refine m_istore_n (ls1 := [(2, _), (3, _), (0, _), (1, _)]) dX11_ayesAt_34 (by decide) rfl ?_
      refine m_iinc (v := nI (k + 1)) (ls1 := [(3, _), (2, _), (0, _), (1, _)]) dX11_ayesAt_35 1 rfl (nI_1 k) (by decide) rfl ?_
      refine m_goto dX11_ayesAt_38 4 (by decide) ?_
      refine mW.sub (ls1 := [(3, _), (2, _), (0, _), (1, _)]) [0, 1, 2, 3] rfl ?_
      refine ih _ ?_
      rw [hf, ayP]
      split <;> exact nI_add _ _
theorem c_meekNow (n : Nat) (hn : n ≤ 8) (hc : σ.1 111 2 = nI n) : mMet G l d kX11_meekNow [.ref 111] σ (qI (meekP (σ.1 132) (σ.1 133) n) σ) := by
  refine mMet.of cm_X11_meekNow rfl (Nat.le_of_ble_eq_true rfl) rfl (fun v1 σ1 h => by rw [h.1]; rfl) ?_
  refine m_iconst (v := 0) dX11_meekNow_0 (by decide) ?_
  refine m_istore_n (ls1 := [(1, _), (0, _)]) dX11_meekNow_1 (by decide) rfl ?_
  refine m_iconst (v := 0) dX11_meekNow_2 (by decide) ?_
  refine m_istore_n (ls1 := [(2, _), (1, _), (0, _)]) dX11_meekNow_3 (by decide) rfl ?_
  refine down (N := n) (fun k (f : Int32) => f = meekP (σ.1 132) (σ.1 133) k) (fun k f => mW G l d kX11_meekNow 4 [(2, .int (nI k)), (1, .int f), (0, .ref 111)] [] σ _) ?_ ?_ 0 0 (Nat.zero_le _) rfl
  · intro f hf
    refine m_iload_n dX11_meekNow_4 0 rfl ?_
    refine m_aload_n dX11_meekNow_5 2 rfl ?_
    refine m_getI 2 dX11_meekNow_6 fl_X11_161_10 rfl (by decide) (by first | assumption | rfl) ?_
    refine m_icmp_ge dX11_meekNow_9 46 (by decide) (fun h => ?_) (fun h => ?_)
    · refine m_iload_n dX11_meekNow_46 1 rfl ?_
      exact m_ireturn dX11_meekNow_47 ⟨by rw [hf], rfl⟩
    · exact (ge_yes h hc).elim
  · intro k f hk hf ih
    have hk8 : k < 8 := by omega
    refine m_iload_n dX11_meekNow_4 0 rfl ?_
    refine m_aload_n dX11_meekNow_5 2 rfl ?_
    refine m_getI 2 dX11_meekNow_6 fl_X11_161_10 rfl (by decide) (by first | assumption | rfl) ?_
    refine m_icmp_ge dX11_meekNow_9 46 (by decide) (fun h => ?_) (fun h => ?_)
    · exact (ge_no hc h rfl hk (by omega)).elim
    · clear h
      refine m_iload_n dX11_meekNow_12 1 rfl ?_
      refine m_aload_n dX11_meekNow_13 2 rfl ?_
      refine m_getR 26 132 dX11_meekNow_14 fl_X11_70_10 rfl (by decide) rfl (by first | assumption | rfl) ?_
      refine m_iload_n dX11_meekNow_17 0 rfl ?_
      refine m_iald dX11_meekNow_18 (by first | assumption | rfl) k rfl (by first | assumption | omega | decide) ?_
      refine m_if_ne dX11_meekNow_19 37 (by decide) (fun h19 => ?_) (fun h19 => ?_)
      · refine m_iconst (v := 0) dX11_meekNow_37 (by decide) ?_
        refine m_ior dX11_meekNow_38 ?_
        refine m_istore_n (ls1 := [(1, _), (2, _), (0, _)]) dX11_meekNow_39 (by decide) rfl ?_
        refine m_iinc (v := nI (k + 1)) (ls1 := [(2, _), (1, _), (0, _)]) dX11_meekNow_40 1 rfl (nI_1 k) (by decide) rfl ?_
        refine m_goto dX11_meekNow_43 4 (by decide) ?_
        refine ih _ ?_
        rw [hf, meekP]
        split <;> rename_i q <;> first | rfl | exact absurd q.1 h19 | exact absurd q.2 h28 | exact absurd (And.intro h19 h28) q
      · refine m_aload_n dX11_meekNow_22 2 rfl ?_
        refine m_getR 27 133 dX11_meekNow_23 fl_X11_73_10 rfl (by decide) rfl (by first | assumption | rfl) ?_
        refine m_iload_n dX11_meekNow_26 0 rfl ?_
        refine m_iald dX11_meekNow_27 (by first | assumption | rfl) k rfl (by first | assumption | omega | decide) ?_
        refine m_if_ne dX11_meekNow_28 37 (by decide) (fun h28 => ?_) (fun h28 => ?_)
        · refine m_iconst (v := 0) dX11_meekNow_37 (by decide) ?_
          refine m_ior dX11_meekNow_38 ?_
          refine m_istore_n (ls1 := [(1, _), (2, _), (0, _)]) dX11_meekNow_39 (by decide) rfl ?_
          refine m_iinc (v := nI (k + 1)) (ls1 := [(2, _), (1, _), (0, _)]) dX11_meekNow_40 1 rfl (nI_1 k) (by decide) rfl ?_
          refine m_goto dX11_meekNow_43 4 (by decide) ?_
          refine ih _ ?_
          rw [hf, meekP]
          split <;> rename_i q <;> first | rfl | exact absurd q.1 h19 | exact absurd q.2 h28 | exact absurd (And.intro h19 h28) q
        · refine m_iconst (v := 1) dX11_meekNow_31 (by decide) ?_
          refine m_iload_n dX11_meekNow_32 0 rfl ?_
          refine m_ishl dX11_meekNow_33 ?_
          refine m_goto dX11_meekNow_34 38 (by decide) ?_
          refine m_ior dX11_meekNow_38 ?_
          refine m_istore_n (ls1 := [(1, _), (2, _), (0, _)]) dX11_meekNow_39 (by decide) rfl ?_
          refine m_iinc (v := nI (k + 1)) (ls1 := [(2, _), (1, _), (0, _)]) dX11_meekNow_40 1 rfl (nI_1 k) (by decide) rfl ?_
          refine m_goto dX11_meekNow_43 4 (by decide) ?_
          refine ih _ ?_
          rw [hf, meekP]
          split <;> rename_i q <;> first | rfl | exact absurd q.1 h19 | exact absurd q.2 h28 | exact absurd (And.intro h19 h28) q
theorem c_pointsAll (n : Nat) (hn : n ≤ 8) (hc : σ.1 111 2 = nI n) : mMet G l d kX11_pointsAll [.ref 111] σ (qI (sumP (σ.1 131) n) σ) := by
  refine mMet.of cm_X11_pointsAll rfl (Nat.le_of_ble_eq_true rfl) rfl (fun v1 σ1 h => by rw [h.1]; rfl) ?_
  refine m_iconst (v := 0) dX11_pointsAll_0 (by decide) ?_
  refine m_istore_n (ls1 := [(1, _), (0, _)]) dX11_pointsAll_1 (by decide) rfl ?_
  refine m_iconst (v := 0) dX11_pointsAll_2 (by decide) ?_
  refine m_istore_n (ls1 := [(2, _), (1, _), (0, _)]) dX11_pointsAll_3 (by decide) rfl ?_
  refine down (N := n) (fun k (f : Int32) => f = sumP (σ.1 131) k) (fun k f => mW G l d kX11_pointsAll 4 [(2, .int (nI k)), (1, .int f), (0, .ref 111)] [] σ _) ?_ ?_ 0 0 (Nat.zero_le _) rfl
  · intro f hf
    refine m_iload_n dX11_pointsAll_4 0 rfl ?_
    refine m_aload_n dX11_pointsAll_5 2 rfl ?_
    refine m_getI 2 dX11_pointsAll_6 fl_X11_161_10 rfl (by decide) (by first | assumption | rfl) ?_
    refine m_icmp_ge dX11_pointsAll_9 27 (by decide) (fun h => ?_) (fun h => ?_)
    · refine m_iload_n dX11_pointsAll_27 1 rfl ?_
      exact m_ireturn dX11_pointsAll_28 ⟨by rw [hf], rfl⟩
    · exact (ge_yes h hc).elim
  · intro k f hk hf ih
    have hk8 : k < 8 := by omega
    refine m_iload_n dX11_pointsAll_4 0 rfl ?_
    refine m_aload_n dX11_pointsAll_5 2 rfl ?_
    refine m_getI 2 dX11_pointsAll_6 fl_X11_161_10 rfl (by decide) (by first | assumption | rfl) ?_
    refine m_icmp_ge dX11_pointsAll_9 27 (by decide) (fun h => ?_) (fun h => ?_)
    · exact (ge_no hc h rfl hk (by omega)).elim
    · clear h
      refine m_iload_n dX11_pointsAll_12 1 rfl ?_
      refine m_aload_n dX11_pointsAll_13 2 rfl ?_
      refine m_getR 25 131 dX11_pointsAll_14 fl_X11_67_10 rfl (by decide) rfl (by first | assumption | rfl) ?_
      refine m_iload_n dX11_pointsAll_17 0 rfl ?_
      refine m_iald dX11_pointsAll_18 (by first | assumption | rfl) k rfl (by first | assumption | omega | decide) ?_
      refine m_iadd dX11_pointsAll_19 ?_
      refine m_istore_n (ls1 := [(1, _), (2, _), (0, _)]) dX11_pointsAll_20 (by decide) rfl ?_
      refine m_iinc (v := nI (k + 1)) (ls1 := [(2, _), (1, _), (0, _)]) dX11_pointsAll_21 1 rfl (nI_1 k) (by decide) rfl ?_
      refine m_goto dX11_pointsAll_24 4 (by decide) ?_
      refine mW.sub (ls1 := [(2, _), (1, _), (0, _)]) [0, 1, 2] rfl ?_
      exact ih _ (by rw [hf, sumP])
theorem c_atOf (hd : 8 ≤ d) (L0 L1 e : Nat) (ok : okR σ L0 L1 e) (t k w : Nat) (ht : t < 24) (hk : k < (Dt σ L0 L1 e).1.1) (hw : w ≤ 5) : mMet G l d kX11_atOf [.ref 111, .int (nI t), .int (nI k), .int (nI w)] σ (qIP (fun r s => r = aAt (RSt (Dt σ L0 L1 e) (t + 1)) k w ∧ fW wScr σ s)) := by
  have hn := parC_n L0 (tx σ 0)
  have hk8 : k < 8 := Nat.lt_of_lt_of_le hk hn
  refine mMet.of cm_X11_atOf rfl (Nat.le_of_ble_eq_true rfl) rfl (fun v1 σ1 h => by obtain ⟨r, h1, -⟩ := h; rw [h1]; rfl) ?_
  refine m_aload_n dX11_atOf_0 0 rfl ?_
  refine m_callV (As := []) dX11_atOf_1 cv_X11_276 (by first | assumption | rfl) (by decide) (by omega) rfl rfl (Nat.le_of_ble_eq_true rfl) (c_runsTold (d := d - 1) (by omega) L0 L1 e ok) (fun v1 σ1 hv1 => ?_)
  refine m_qVP hv1 (fun ha => ?_)
  clear hv1 v1
  rename mS => s
  obtain ⟨o, a2, a3, a4⟩ := ha
  obtain ⟨g1, g2, g3, g4⟩ := o.1 t ht
  obtain ⟨q0, q1, q2, q3, q4⟩ := g4 k hk
  refine m_bipush (v := 8) dX11_atOf_4 (by decide) ?_
  refine m_iload_n dX11_atOf_6 1 rfl ?_
  refine m_imul dX11_atOf_7 ?_
  refine m_iload_n dX11_atOf_8 2 rfl ?_
  refine m_iadd dX11_atOf_9 ?_
  refine mW.top (w := nI (8 * t + k)) (ix8 t k) ?_
  refine m_istore (ls1 := [(4, _), (0, _), (1, _), (2, _), (3, _)]) dX11_atOf_10 (by decide) rfl ?_
  refine m_iload_n dX11_atOf_12 4 rfl ?_
  rcases (show w = 0 ∨ w = 1 ∨ w = 2 ∨ w = 3 ∨ w = 4 ∨ w = 5 by omega) with rfl | rfl | rfl | rfl | rfl | rfl
  · refine m_tableIn dX11_atOf_13 (by decide) (by decide) (off := 35) (by decide) 48 (by decide) ?_
    refine m_aload_n dX11_atOf_48 1 rfl ?_
    refine m_getR 32 134 dX11_atOf_49 fl_X11_76_10 rfl (by decide) rfl (by first | assumption | rfl) ?_
    refine m_iload dX11_atOf_52 0 rfl ?_
    refine m_iald dX11_atOf_54 (by first | assumption | rfl) (8 * t + k) rfl (by first | assumption | omega | decide) ?_
    refine mW.top q0 ?_
    refine m_ireturn dX11_atOf_55 ?_
    exact ⟨_, rfl, rfl, a4⟩
  · refine m_tableIn dX11_atOf_13 (by decide) (by decide) (off := 43) (by decide) 56 (by decide) ?_
    refine m_aload_n dX11_atOf_56 1 rfl ?_
    refine m_getR 33 135 dX11_atOf_57 fl_X11_79_10 rfl (by decide) rfl (by first | assumption | rfl) ?_
    refine m_iload dX11_atOf_60 0 rfl ?_
    refine m_iald dX11_atOf_62 (by first | assumption | rfl) (8 * t + k) rfl (by first | assumption | omega | decide) ?_
    refine mW.top q1 ?_
    refine m_ireturn dX11_atOf_63 ?_
    exact ⟨_, rfl, rfl, a4⟩
  · refine m_tableIn dX11_atOf_13 (by decide) (by decide) (off := 51) (by decide) 64 (by decide) ?_
    refine m_aload_n dX11_atOf_64 1 rfl ?_
    refine m_getR 34 136 dX11_atOf_65 fl_X11_82_10 rfl (by decide) rfl (by first | assumption | rfl) ?_
    refine m_iload dX11_atOf_68 0 rfl ?_
    refine m_iald dX11_atOf_70 (by first | assumption | rfl) (8 * t + k) rfl (by first | assumption | omega | decide) ?_
    refine mW.top q2 ?_
    refine m_ireturn dX11_atOf_71 ?_
    exact ⟨_, rfl, rfl, a4⟩
  · refine m_tableIn dX11_atOf_13 (by decide) (by decide) (off := 59) (by decide) 72 (by decide) ?_
    refine m_aload_n dX11_atOf_72 1 rfl ?_
    refine m_getR 35 137 dX11_atOf_73 fl_X11_85_10 rfl (by decide) rfl (by first | assumption | rfl) ?_
    refine m_iload dX11_atOf_76 0 rfl ?_
    refine m_iald dX11_atOf_78 (by first | assumption | rfl) (8 * t + k) rfl (by first | assumption | omega | decide) ?_
    refine mW.top q3 ?_
    refine m_ireturn dX11_atOf_79 ?_
    exact ⟨_, rfl, rfl, a4⟩
  · refine m_tableIn dX11_atOf_13 (by decide) (by decide) (off := 67) (by decide) 80 (by decide) ?_
    refine m_aload_n dX11_atOf_80 1 rfl ?_
    refine m_getR 36 138 dX11_atOf_81 fl_X11_88_10 rfl (by decide) rfl (by first | assumption | rfl) ?_
    refine m_iload dX11_atOf_84 0 rfl ?_
    refine m_iald dX11_atOf_86 (by first | assumption | rfl) (8 * t + k) rfl (by first | assumption | omega | decide) ?_
    refine mW.top q4 ?_
    refine m_ireturn dX11_atOf_87 ?_
    exact ⟨_, rfl, rfl, a4⟩
  · refine m_tableOut dX11_atOf_13 (by decide) 88 (by decide) ?_
    refine m_aload_n dX11_atOf_88 1 rfl ?_
    refine m_getR 37 139 dX11_atOf_89 fl_X11_91_10 rfl (by decide) rfl (by first | assumption | rfl) ?_
    refine m_iload_n dX11_atOf_92 2 rfl ?_
    refine m_iald dX11_atOf_93 (by first | assumption | rfl) t rfl (by first | assumption | omega | decide) ?_
    refine mW.top g2 ?_
    refine m_iload_n dX11_atOf_94 3 rfl ?_
    refine m_callS (As := [_, _]) dX11_atOf_95 cs_X11_252 (by omega) rfl rfl (Nat.le_of_ble_eq_true rfl) (c_isIn (d := d - 1) _ (nI k)) (fun v1 σ1 hv1 => ?_)
    refine m_qI hv1 ?_
    clear hv1 v1 σ1
    refine m_sel (pcJ := 106) ?_ (fun kt0 kf0 => m_if_eq dX11_atOf_98 105 (by decide) (fun h => (m_iconst (v := 1) dX11_atOf_105 (by decide) (kt0 h))) (fun h => (m_iconst (v := 0) dX11_atOf_101 (by decide) (m_goto dX11_atOf_102 106 (by decide) (kf0 h)))))
    refine m_ireturn dX11_atOf_106 ⟨_, rfl, ?_, a4⟩
    show _ = (if bitI _ _ then (0 : Int32) else 1)
    by_cases hb : bitI (RSt (Dt σ L0 L1 e) (t + 1)).2.2.2.2.2.2.1 (nI k)
    · rw [if_pos hb, decide_eq_true hb]; rfl
    · rw [if_neg hb, decide_eq_false hb]; rfl
theorem c_whoOf (hd : 8 ≤ d) (L0 L1 e : Nat) (ok : okR σ L0 L1 e) (t : Nat) (ht : t < 24) (x y : Int32) : mMet G l d kX11_whoOf [.ref 111, .int (nI t), .int x, .int y] σ (qIP (fun r s => r = whoIn (RSt (Dt σ L0 L1 e) (t + 1)).1 (RSt (Dt σ L0 L1 e) (t + 1)).2.1 x y (Dt σ L0 L1 e).1.1 ∧ fW wScr σ s)) := by
  have hn : (Dt σ L0 L1 e).1.1 ≤ 8 := parC_n L0 (tx σ 0)
  refine mMet.of cm_X11_whoOf rfl (Nat.le_of_ble_eq_true rfl) rfl (fun v1 σ1 h => by obtain ⟨r, h1, -⟩ := h; rw [h1]; rfl) ?_
  refine m_aload_n dX11_whoOf_0 0 rfl ?_
  refine m_callV (As := []) dX11_whoOf_1 cv_X11_276 (by first | assumption | rfl) (by decide) (by omega) rfl rfl (Nat.le_of_ble_eq_true rfl) (c_runsTold (d := d - 1) (by omega) L0 L1 e ok) (fun v1 σ1 hv1 => ?_)
  refine m_qVP hv1 (fun ha => ?_)
  clear hv1 v1
  rename mS => s
  obtain ⟨o, a2, a3, a4⟩ := ha
  generalize Dt σ L0 L1 e = D at *
  obtain ⟨g1, g2, g3, g4⟩ := o.1 t ht
  refine m_iconst (v := -1) dX11_whoOf_4 (by decide) ?_
  refine m_istore (ls1 := [(4, _), (0, _), (1, _), (2, _), (3, _)]) dX11_whoOf_5 (by decide) rfl ?_
  refine m_iconst (v := 0) dX11_whoOf_7 (by decide) ?_
  refine m_istore (ls1 := [(5, _), (4, _), (0, _), (1, _), (2, _), (3, _)]) dX11_whoOf_8 (by decide) rfl ?_
  refine down (N := D.1.1) (fun k (f : Int32) => f = whoIn (RSt D (t + 1)).1 (RSt D (t + 1)).2.1 x y k) (fun k f => mW G l d kX11_whoOf 10 [(5, .int (nI k)), (4, .int f), (0, .ref 111), (1, .int (nI t)), (2, .int x), (3, .int y)] [] s _) ?_ ?_ 0 (-1) (Nat.zero_le _) rfl
  · intro f hf
    refine m_iload dX11_whoOf_10 0 rfl ?_
    refine m_aload_n dX11_whoOf_12 2 rfl ?_
    refine m_getI 2 dX11_whoOf_13 fl_X11_161_10 rfl (by decide) (by first | assumption | rfl) ?_
    refine m_icmp_ge dX11_whoOf_16 66 (by decide) (fun h => ?_) (fun h => ?_)
    · refine m_iload dX11_whoOf_66 1 rfl ?_
      exact m_ireturn dX11_whoOf_68 ⟨_, rfl, hf, a4⟩
    · exact (ge_yes h a2).elim
  · intro k f hk hf ih
    obtain ⟨q0, q1, -⟩ := g4 k hk
    refine m_iload dX11_whoOf_10 0 rfl ?_
    refine m_aload_n dX11_whoOf_12 2 rfl ?_
    refine m_getI 2 dX11_whoOf_13 fl_X11_161_10 rfl (by decide) (by first | assumption | rfl) ?_
    refine m_icmp_ge dX11_whoOf_16 66 (by decide) (fun h => ?_) (fun h => ?_)
    · exact (ge_no a2 h rfl hk (by omega)).elim
    · clear h
      refine m_aload_n dX11_whoOf_19 2 rfl ?_
      refine m_getR 32 134 dX11_whoOf_20 fl_X11_76_10 rfl (by decide) rfl (by first | assumption | rfl) ?_
      refine m_bipush (v := 8) dX11_whoOf_23 (by decide) ?_
      refine m_iload_n dX11_whoOf_25 3 rfl ?_
      refine m_imul dX11_whoOf_26 ?_
      refine m_iload dX11_whoOf_27 0 rfl ?_
      refine m_iadd dX11_whoOf_29 ?_
      refine mW.top (w := nI (8 * t + k)) (ix8 t k) ?_
      refine m_iald dX11_whoOf_30 (by first | assumption | rfl) (8 * t + k) rfl (by first | assumption | omega | decide) ?_
      refine mW.top q0 ?_
      refine m_iload_n dX11_whoOf_31 4 rfl ?_
      refine m_icmp_ne dX11_whoOf_32 56 (by decide) (fun h32 => ?_) (fun h32 => ?_)
      · refine m_iload dX11_whoOf_56 1 rfl ?_
        refine m_istore (ls1 := [(4, _), (5, _), (0, _), (1, _), (2, _), (3, _)]) dX11_whoOf_58 (by decide) rfl ?_
        refine m_iinc (v := nI (k + 1)) (ls1 := [(5, _), (4, _), (0, _), (1, _), (2, _), (3, _)]) dX11_whoOf_60 1 rfl (nI_1 k) (by decide) rfl ?_
        refine m_goto dX11_whoOf_63 10 (by decide) ?_
        refine ih _ ?_
        rw [whoIn]
        split <;> rename_i q <;> first | rfl | exact hf | exact absurd q.1 h32 | exact absurd q.2 h48 | exact absurd (And.intro h32 h48) q
      · refine m_aload_n dX11_whoOf_35 2 rfl ?_
        refine m_getR 33 135 dX11_whoOf_36 fl_X11_79_10 rfl (by decide) rfl (by first | assumption | rfl) ?_
        refine m_bipush (v := 8) dX11_whoOf_39 (by decide) ?_
        refine m_iload_n dX11_whoOf_41 3 rfl ?_
        refine m_imul dX11_whoOf_42 ?_
        refine m_iload dX11_whoOf_43 0 rfl ?_
        refine m_iadd dX11_whoOf_45 ?_
        refine mW.top (w := nI (8 * t + k)) (ix8 t k) ?_
        refine m_iald dX11_whoOf_46 (by first | assumption | rfl) (8 * t + k) rfl (by first | assumption | omega | decide) ?_
        refine mW.top q1 ?_
        refine m_iload_n dX11_whoOf_47 5 rfl ?_
        refine m_icmp_ne dX11_whoOf_48 56 (by decide) (fun h48 => ?_) (fun h48 => ?_)
        · refine m_iload dX11_whoOf_56 1 rfl ?_
          refine m_istore (ls1 := [(4, _), (5, _), (0, _), (1, _), (2, _), (3, _)]) dX11_whoOf_58 (by decide) rfl ?_
          refine m_iinc (v := nI (k + 1)) (ls1 := [(5, _), (4, _), (0, _), (1, _), (2, _), (3, _)]) dX11_whoOf_60 1 rfl (nI_1 k) (by decide) rfl ?_
          refine m_goto dX11_whoOf_63 10 (by decide) ?_
          refine ih _ ?_
          rw [whoIn]
          split <;> rename_i q <;> first | rfl | exact hf | exact absurd q.1 h32 | exact absurd q.2 h48 | exact absurd (And.intro h32 h48) q
        · refine m_iload dX11_whoOf_51 0 rfl ?_
          refine m_goto dX11_whoOf_53 58 (by decide) ?_
          refine m_istore (ls1 := [(4, _), (5, _), (0, _), (1, _), (2, _), (3, _)]) dX11_whoOf_58 (by decide) rfl ?_
          refine m_iinc (v := nI (k + 1)) (ls1 := [(5, _), (4, _), (0, _), (1, _), (2, _), (3, _)]) dX11_whoOf_60 1 rfl (nI_1 k) (by decide) rfl ?_
          refine m_goto dX11_whoOf_63 10 (by decide) ?_
          refine ih _ ?_
          rw [whoIn]
          split <;> rename_i q <;> first | rfl | exact hf | exact absurd q.1 h32 | exact absurd q.2 h48 | exact absurd (And.intro h32 h48) q
theorem c_houseOf (hd : 8 ≤ d) (L0 L1 e : Nat) (ok : okR σ L0 L1 e) (t : Nat) (ht : t < 24) (w : Int32) : mMet G l d kX11_houseOf [.ref 111, .int (nI t), .int w] σ (qIP (fun r s => r = (if w = 0 then nI (ayD (Dt σ L0 L1 e) t) else if w = 1 then nI (Dt σ L0 L1 e).1.1 - nI (ayD (Dt σ L0 L1 e) t) else rungD (Dt σ L0 L1 e) (nI t)) ∧ fW wScr σ s)) := by
  have hn : (Dt σ L0 L1 e).1.1 ≤ 8 := parC_n L0 (tx σ 0)
  refine mMet.of cm_X11_houseOf rfl (Nat.le_of_ble_eq_true rfl) rfl (fun v1 σ1 h => by obtain ⟨r, h1, -⟩ := h; rw [h1]; rfl) ?_
  refine m_aload_n dX11_houseOf_0 0 rfl ?_
  refine m_callV (As := []) dX11_houseOf_1 cv_X11_276 (by first | assumption | rfl) (by decide) (by omega) rfl rfl (Nat.le_of_ble_eq_true rfl) (c_runsTold (d := d - 1) (by omega) L0 L1 e ok) (fun v1 σ1 hv1 => ?_)
  refine m_qVP hv1 (fun ha => ?_)
  clear hv1 v1
  rename mS => s
  obtain ⟨o, a2, a3, a4⟩ := ha
  refine m_aload_n dX11_houseOf_4 0 rfl ?_
  refine m_iload_n dX11_houseOf_5 1 rfl ?_
  refine m_callV (As := [_]) dX11_houseOf_6 cv_X11_285 (by first | assumption | rfl) (by decide) (by omega) rfl rfl (Nat.le_of_ble_eq_true rfl) (c_ayesAt (d := d - 1) _ hn o a2 t ht) (fun v1 σ1 hv1 => ?_)
  refine m_qI hv1 ?_
  clear hv1 v1 σ1
  refine m_istore_n (ls1 := [(3, _), (0, _), (1, _), (2, _)]) dX11_houseOf_9 (by decide) rfl ?_
  refine m_iload_n dX11_houseOf_10 3 rfl ?_
  refine m_sel (pcJ := 38) ?_ (fun kt0 kf0 => m_if_ne dX11_houseOf_11 18 (by decide) (fun h => (m_iload_n dX11_houseOf_18 3 rfl (m_iconst (v := 1) dX11_houseOf_19 (by decide) (m_sel (pcJ := 38) (kf0 h) (fun kt1 kf1 => m_icmp_ne dX11_houseOf_20 32 (by decide) (fun h => (m_aload_n dX11_houseOf_32 1 rfl (m_getR 38 140 dX11_houseOf_33 fl_X11_94_10 rfl (by decide) rfl (by first | assumption | rfl) (m_iload_n dX11_houseOf_36 2 rfl (m_iald dX11_houseOf_37 (by first | assumption | rfl) t rfl (by first | assumption | omega | decide) (mW.top (o.1 t ht).1 (kf1 h))))))) (fun h => (m_aload_n dX11_houseOf_23 1 rfl (m_getI 2 dX11_houseOf_24 fl_X11_161_10 rfl (by decide) (by first | assumption | rfl) (mW.top a2 (m_iload_n dX11_houseOf_27 0 rfl (m_isub dX11_houseOf_28 (m_goto dX11_houseOf_29 38 (by decide) (kt1 h))))))))))))) (fun h => (m_iload_n dX11_houseOf_14 0 rfl (m_goto dX11_houseOf_15 38 (by decide) (kt0 h)))))
  exact m_ireturn dX11_houseOf_38 ⟨_, rfl, rfl, a4⟩
theorem c_strikesOf (hd : 8 ≤ d) (L0 L1 e : Nat) (ok : okR σ L0 L1 e) : mMet G l d kX11_strikesOf [.ref 111] σ (qIP (fun r s => r = (RSt (Dt σ L0 L1 e) 24).2.2.2.2.2.2.2.1 ∧ fW wScr σ s)) := by
  refine mMet.of cm_X11_strikesOf rfl (Nat.le_of_ble_eq_true rfl) rfl (fun v1 σ1 h => by obtain ⟨r, h1, -⟩ := h; rw [h1]; rfl) ?_
  refine m_aload_n dX11_strikesOf_0 0 rfl ?_
  refine m_callV (As := []) dX11_strikesOf_1 cv_X11_276 (by first | assumption | rfl) (by decide) (by omega) rfl rfl (Nat.le_of_ble_eq_true rfl) (c_runsTold (d := d - 1) (by omega) L0 L1 e ok) (fun v1 σ1 hv1 => ?_)
  refine m_qVP hv1 (fun ha => ?_)
  clear hv1 v1
  rename mS => s
  obtain ⟨o, a2, a3, a4⟩ := ha
  refine m_aload_n dX11_strikesOf_4 0 rfl ?_
  refine m_getI 29 dX11_strikesOf_5 fl_X11_226_10 rfl (by decide) (by first | assumption | rfl) ?_
  exact m_ireturn dX11_strikesOf_8 ⟨_, rfl, o.2.2.2.1, a4⟩
theorem c_firstOf (hd : 8 ≤ d) (L0 L1 e : Nat) (ok : okR σ L0 L1 e) (w : Int32) : mMet G l d kX11_firstOf [.ref 111, .int w] σ (qIP (fun r s => r = (if w = 0 then (RSt (Dt σ L0 L1 e) 24).2.2.2.2.2.2.2.2.1 else (RSt (Dt σ L0 L1 e) 24).2.2.2.2.2.2.2.2.2.1) ∧ fW wScr σ s)) := by
  refine mMet.of cm_X11_firstOf rfl (Nat.le_of_ble_eq_true rfl) rfl (fun v1 σ1 h => by obtain ⟨r, h1, -⟩ := h; rw [h1]; rfl) ?_
  refine m_aload_n dX11_firstOf_0 0 rfl ?_
  refine m_callV (As := []) dX11_firstOf_1 cv_X11_276 (by first | assumption | rfl) (by decide) (by omega) rfl rfl (Nat.le_of_ble_eq_true rfl) (c_runsTold (d := d - 1) (by omega) L0 L1 e ok) (fun v1 σ1 hv1 => ?_)
  refine m_qVP hv1 (fun ha => ?_)
  clear hv1 v1
  rename mS => s
  obtain ⟨o, a2, a3, a4⟩ := ha
  refine m_iload_n dX11_firstOf_4 1 rfl ?_
  refine m_sel (pcJ := 19) ?_ (fun kt0 kf0 => m_if_ne dX11_firstOf_5 15 (by decide) (fun h => (m_aload_n dX11_firstOf_15 0 rfl (m_getI 31 dX11_firstOf_16 fl_X11_232_10 rfl (by decide) (by first | assumption | rfl) (mW.top o.2.2.2.2.2 (kf0 h))))) (fun h => (m_aload_n dX11_firstOf_8 0 rfl (m_getI 30 dX11_firstOf_9 fl_X11_229_10 rfl (by decide) (by first | assumption | rfl) (mW.top o.2.2.2.2.1 (m_goto dX11_firstOf_12 19 (by decide) (kt0 h)))))))
  exact m_ireturn dX11_firstOf_19 ⟨_, rfl, rfl, a4⟩
theorem c_meekOf (hd : 8 ≤ d) (L0 L1 e : Nat) (ok : okR σ L0 L1 e) : mMet G l d kX11_meekOf [.ref 111] σ (qIP (fun r s => r = meekP (RSt (Dt σ L0 L1 e) 24).2.2.2.2.1 (RSt (Dt σ L0 L1 e) 24).2.2.2.2.2.1 (Dt σ L0 L1 e).1.1 ∧ fW wScr σ s)) := by
  have hn : (Dt σ L0 L1 e).1.1 ≤ 8 := parC_n L0 (tx σ 0)
  refine mMet.of cm_X11_meekOf rfl (Nat.le_of_ble_eq_true rfl) rfl (fun v1 σ1 h => by obtain ⟨r, h1, -⟩ := h; rw [h1]; rfl) ?_
  refine m_aload_n dX11_meekOf_0 0 rfl ?_
  refine m_callV (As := []) dX11_meekOf_1 cv_X11_276 (by first | assumption | rfl) (by decide) (by omega) rfl rfl (Nat.le_of_ble_eq_true rfl) (c_runsTold (d := d - 1) (by omega) L0 L1 e ok) (fun v1 σ1 hv1 => ?_)
  refine m_qVP hv1 (fun ha => ?_)
  clear hv1 v1
  rename mS => s
  obtain ⟨o, a2, a3, a4⟩ := ha
  refine m_aload_n dX11_meekOf_4 0 rfl ?_
  refine m_callV (As := []) dX11_meekOf_5 cv_X11_301 (by first | assumption | rfl) (by decide) (by omega) rfl rfl (Nat.le_of_ble_eq_true rfl) (c_meekNow (d := d - 1) _ hn a2) (fun v1 σ1 hv1 => ?_)
  refine m_qI hv1 ?_
  clear hv1 v1 σ1
  exact m_ireturn dX11_meekOf_8 ⟨_, rfl, meekP_cong _ (fun k hk => ⟨(o.2.1 k hk).2.2.2.2.1, (o.2.1 k hk).2.2.2.2.2⟩), a4⟩
end RA


/-! ===== the reference: sheets ===== -/
def okH (σ : mS) (S : Nat → Nat) : Prop := ∀ j, j < 4 → (σ.1 148 j = 0 ∨ σ.1 148 j = 1) ∧ σ.1 150 j = nI (S j) ∧ S j ≤ 60
def shR (s f n : Int32) : Int32 := if wI s 4 ∧ wI f 3 ∧ n ≤ 60 then (if n < 0 then -15 else n) else -2
def loR (th : Nat → Int32) (S : Nat → Nat) (s : Int32) : Int32 := if wI s 4 then (if th (cN s) = 0 then -11 else nI (S (cN s))) else -2
/-- what bars the way to an item; 0: nothing -/
def lkF (th f0 f : Int32) (S : Nat) (i : Int32) : Int32 := if th = 0 then 1 else if f0 = f then (if wI i S then 0 else 2) else 3
theorem lkF_of (th f0 f : Int32) (S : Nat) (i : Int32) : lkF th f0 f S i = 0 ∨ lkF th f0 f S i = 1 ∨ lkF th f0 f S i = 2 ∨ lkF th f0 f S i = 3 := by
  unfold lkF
  (repeat' split) <;> first | exact Or.inl rfl | exact Or.inr (Or.inl rfl) | exact Or.inr (Or.inr (Or.inl rfl)) | exact Or.inr (Or.inr (Or.inr rfl))
theorem lkF_0 {th f0 f : Int32} {S : Nat} {i : Int32} (h : lkF th f0 f S i = 0) : wI i S := by
  unfold lkF at h
  split at h
  · exact absurd h (by decide)
  · split at h
    · split at h
      · assumption
      · exact absurd h (by decide)
    · exact absurd h (by decide)
def narF (f v : Int32) : Int32 := if f = 0 then v.toInt8.toInt32 else if f = 1 then v.toInt16.toInt32 else v
def lkS (th f0 : Nat → Int32) (S : Nat → Nat) (s f i : Int32) : Int32 := lkF (th (cN s)) (f0 (cN s)) f (S (cN s)) i
def ptR (th f0 : Nat → Int32) (S : Nat → Nat) (s f i : Int32) : Int32 := if wI s 4 ∧ wI f 3 then (if lkS th f0 S s f i = 0 then 1 else -10 - lkS th f0 S s f i) else -2
def gtR (th f0 : Nat → Int32) (S : Nat → Nat) (it : Nat → Int32) (s f i : Int32) : Int32 := if wI s 4 ∧ wI f 3 then (if lkS th f0 S s f i = 0 then it (60 * cN s + cN i) else -2147483648) else -2147483648
section SH
variable {G : mG} {l : Launch} {d : Nat} {σ : mS}
theorem dX11_sheet_0 : decode cX11_sheet 0 = .ok (.iload_n 1, 1) := by decide +kernel
theorem dX11_sheet_1 : decode cX11_sheet 1 = .ok (.invokestatic 207, 3) := by decide +kernel
theorem dX11_sheet_4 : decode cX11_sheet 4 = .ok (.ifCond .eq 18, 3) := by decide +kernel
theorem dX11_sheet_7 : decode cX11_sheet 7 = .ok (.iload_n 2, 1) := by decide +kernel
theorem dX11_sheet_8 : decode cX11_sheet 8 = .ok (.iconst 0, 1) := by decide +kernel
theorem dX11_sheet_9 : decode cX11_sheet 9 = .ok (.iconst 2, 1) := by decide +kernel
theorem dX11_sheet_10 : decode cX11_sheet 10 = .ok (.invokestatic 136, 3) := by decide +kernel
theorem dX11_sheet_13 : decode cX11_sheet 13 = .ok (.ifCond .eq 9, 3) := by decide +kernel
theorem dX11_sheet_16 : decode cX11_sheet 16 = .ok (.iload_n 3, 1) := by decide +kernel
theorem dX11_sheet_17 : decode cX11_sheet 17 = .ok (.bipush 60, 2) := by decide +kernel
theorem dX11_sheet_19 : decode cX11_sheet 19 = .ok (.if_icmp .le 6, 3) := by decide +kernel
theorem dX11_sheet_22 : decode cX11_sheet 22 = .ok (.bipush (-2), 2) := by decide +kernel
theorem dX11_sheet_24 : decode cX11_sheet 24 = .ok (.ireturn, 1) := by decide +kernel
theorem dX11_sheet_25 : decode cX11_sheet 25 = .ok (.iload_n 3, 1) := by decide +kernel
theorem dX11_sheet_26 : decode cX11_sheet 26 = .ok (.ifCond .ge 9, 3) := by decide +kernel
theorem dX11_sheet_29 : decode cX11_sheet 29 = .ok (.aload_n 0, 1) := by decide +kernel
theorem dX11_sheet_30 : decode cX11_sheet 30 = .ok (.iconst 5, 1) := by decide +kernel
theorem dX11_sheet_31 : decode cX11_sheet 31 = .ok (.invokevirtual 210, 3) := by decide +kernel
theorem dX11_sheet_34 : decode cX11_sheet 34 = .ok (.ireturn, 1) := by decide +kernel
theorem dX11_sheet_35 : decode cX11_sheet 35 = .ok (.aload_n 0, 1) := by decide +kernel
theorem dX11_sheet_36 : decode cX11_sheet 36 = .ok (.getfield 118, 3) := by decide +kernel
theorem dX11_sheet_39 : decode cX11_sheet 39 = .ok (.iload_n 1, 1) := by decide +kernel
theorem dX11_sheet_40 : decode cX11_sheet 40 = .ok (.iconst 1, 1) := by decide +kernel
theorem dX11_sheet_41 : decode cX11_sheet 41 = .ok (.bastore, 1) := by decide +kernel
theorem dX11_sheet_42 : decode cX11_sheet 42 = .ok (.aload_n 0, 1) := by decide +kernel
theorem dX11_sheet_43 : decode cX11_sheet 43 = .ok (.getfield 122, 3) := by decide +kernel
theorem dX11_sheet_46 : decode cX11_sheet 46 = .ok (.iload_n 1, 1) := by decide +kernel
theorem dX11_sheet_47 : decode cX11_sheet 47 = .ok (.iload_n 2, 1) := by decide +kernel
theorem dX11_sheet_48 : decode cX11_sheet 48 = .ok (.iastore, 1) := by decide +kernel
theorem dX11_sheet_49 : decode cX11_sheet 49 = .ok (.aload_n 0, 1) := by decide +kernel
theorem dX11_sheet_50 : decode cX11_sheet 50 = .ok (.getfield 125, 3) := by decide +kernel
theorem dX11_sheet_53 : decode cX11_sheet 53 = .ok (.iload_n 1, 1) := by decide +kernel
theorem dX11_sheet_54 : decode cX11_sheet 54 = .ok (.iload_n 3, 1) := by decide +kernel
theorem dX11_sheet_55 : decode cX11_sheet 55 = .ok (.iastore, 1) := by decide +kernel
theorem dX11_sheet_56 : decode cX11_sheet 56 = .ok (.iconst 0, 1) := by decide +kernel
theorem dX11_sheet_57 : decode cX11_sheet 57 = .ok (.istore 4, 2) := by decide +kernel
theorem dX11_sheet_59 : decode cX11_sheet 59 = .ok (.iload 4, 2) := by decide +kernel
theorem dX11_sheet_61 : decode cX11_sheet 61 = .ok (.bipush 60, 2) := by decide +kernel
theorem dX11_sheet_63 : decode cX11_sheet 63 = .ok (.if_icmp .ge 22, 3) := by decide +kernel
theorem dX11_sheet_66 : decode cX11_sheet 66 = .ok (.aload_n 0, 1) := by decide +kernel
theorem dX11_sheet_67 : decode cX11_sheet 67 = .ok (.getfield 128, 3) := by decide +kernel
theorem dX11_sheet_70 : decode cX11_sheet 70 = .ok (.bipush 60, 2) := by decide +kernel
theorem dX11_sheet_72 : decode cX11_sheet 72 = .ok (.iload_n 1, 1) := by decide +kernel
theorem dX11_sheet_73 : decode cX11_sheet 73 = .ok (.imul, 1) := by decide +kernel
theorem dX11_sheet_74 : decode cX11_sheet 74 = .ok (.iload 4, 2) := by decide +kernel
theorem dX11_sheet_76 : decode cX11_sheet 76 = .ok (.iadd, 1) := by decide +kernel
theorem dX11_sheet_77 : decode cX11_sheet 77 = .ok (.iconst 0, 1) := by decide +kernel
theorem dX11_sheet_78 : decode cX11_sheet 78 = .ok (.iastore, 1) := by decide +kernel
theorem dX11_sheet_79 : decode cX11_sheet 79 = .ok (.iinc 4 1, 3) := by decide +kernel
theorem dX11_sheet_82 : decode cX11_sheet 82 = .ok (.goto (-23), 3) := by decide +kernel
theorem dX11_sheet_85 : decode cX11_sheet 85 = .ok (.iload_n 3, 1) := by decide +kernel
theorem dX11_sheet_86 : decode cX11_sheet 86 = .ok (.ireturn, 1) := by decide +kernel
theorem dX11_lose_0 : decode cX11_lose 0 = .ok (.iload_n 1, 1) := by decide +kernel
theorem dX11_lose_1 : decode cX11_lose 1 = .ok (.invokestatic 207, 3) := by decide +kernel
theorem dX11_lose_4 : decode cX11_lose 4 = .ok (.ifCond .ne 6, 3) := by decide +kernel
theorem dX11_lose_7 : decode cX11_lose 7 = .ok (.bipush (-2), 2) := by decide +kernel
theorem dX11_lose_9 : decode cX11_lose 9 = .ok (.ireturn, 1) := by decide +kernel
theorem dX11_lose_10 : decode cX11_lose 10 = .ok (.aload_n 0, 1) := by decide +kernel
theorem dX11_lose_11 : decode cX11_lose 11 = .ok (.getfield 118, 3) := by decide +kernel
theorem dX11_lose_14 : decode cX11_lose 14 = .ok (.iload_n 1, 1) := by decide +kernel
theorem dX11_lose_15 : decode cX11_lose 15 = .ok (.baload, 1) := by decide +kernel
theorem dX11_lose_16 : decode cX11_lose 16 = .ok (.ifCond .ne 9, 3) := by decide +kernel
theorem dX11_lose_19 : decode cX11_lose 19 = .ok (.aload_n 0, 1) := by decide +kernel
theorem dX11_lose_20 : decode cX11_lose 20 = .ok (.iconst 1, 1) := by decide +kernel
theorem dX11_lose_21 : decode cX11_lose 21 = .ok (.invokevirtual 210, 3) := by decide +kernel
theorem dX11_lose_24 : decode cX11_lose 24 = .ok (.ireturn, 1) := by decide +kernel
theorem dX11_lose_25 : decode cX11_lose 25 = .ok (.aload_n 0, 1) := by decide +kernel
theorem dX11_lose_26 : decode cX11_lose 26 = .ok (.getfield 118, 3) := by decide +kernel
theorem dX11_lose_29 : decode cX11_lose 29 = .ok (.iload_n 1, 1) := by decide +kernel
theorem dX11_lose_30 : decode cX11_lose 30 = .ok (.iconst 0, 1) := by decide +kernel
theorem dX11_lose_31 : decode cX11_lose 31 = .ok (.bastore, 1) := by decide +kernel
theorem dX11_lose_32 : decode cX11_lose 32 = .ok (.aload_n 0, 1) := by decide +kernel
theorem dX11_lose_33 : decode cX11_lose 33 = .ok (.getfield 125, 3) := by decide +kernel
theorem dX11_lose_36 : decode cX11_lose 36 = .ok (.iload_n 1, 1) := by decide +kernel
theorem dX11_lose_37 : decode cX11_lose 37 = .ok (.iaload, 1) := by decide +kernel
theorem dX11_lose_38 : decode cX11_lose 38 = .ok (.ireturn, 1) := by decide +kernel
theorem dX11_lacks_0 : decode cX11_lacks 0 = .ok (.aload_n 0, 1) := by decide +kernel
theorem dX11_lacks_1 : decode cX11_lacks 1 = .ok (.getfield 118, 3) := by decide +kernel
theorem dX11_lacks_4 : decode cX11_lacks 4 = .ok (.iload_n 1, 1) := by decide +kernel
theorem dX11_lacks_5 : decode cX11_lacks 5 = .ok (.baload, 1) := by decide +kernel
theorem dX11_lacks_6 : decode cX11_lacks 6 = .ok (.ifCond .ne 7, 3) := by decide +kernel
theorem dX11_lacks_9 : decode cX11_lacks 9 = .ok (.iconst 1, 1) := by decide +kernel
theorem dX11_lacks_10 : decode cX11_lacks 10 = .ok (.goto 38, 3) := by decide +kernel
theorem dX11_lacks_13 : decode cX11_lacks 13 = .ok (.aload_n 0, 1) := by decide +kernel
theorem dX11_lacks_14 : decode cX11_lacks 14 = .ok (.getfield 122, 3) := by decide +kernel
theorem dX11_lacks_17 : decode cX11_lacks 17 = .ok (.iload_n 1, 1) := by decide +kernel
theorem dX11_lacks_18 : decode cX11_lacks 18 = .ok (.iaload, 1) := by decide +kernel
theorem dX11_lacks_19 : decode cX11_lacks 19 = .ok (.iload_n 2, 1) := by decide +kernel
theorem dX11_lacks_20 : decode cX11_lacks 20 = .ok (.if_icmp .eq 7, 3) := by decide +kernel
theorem dX11_lacks_23 : decode cX11_lacks 23 = .ok (.iconst 3, 1) := by decide +kernel
theorem dX11_lacks_24 : decode cX11_lacks 24 = .ok (.goto 24, 3) := by decide +kernel
theorem dX11_lacks_27 : decode cX11_lacks 27 = .ok (.iload_n 3, 1) := by decide +kernel
theorem dX11_lacks_28 : decode cX11_lacks 28 = .ok (.iconst 0, 1) := by decide +kernel
theorem dX11_lacks_29 : decode cX11_lacks 29 = .ok (.aload_n 0, 1) := by decide +kernel
theorem dX11_lacks_30 : decode cX11_lacks 30 = .ok (.getfield 125, 3) := by decide +kernel
theorem dX11_lacks_33 : decode cX11_lacks 33 = .ok (.iload_n 1, 1) := by decide +kernel
theorem dX11_lacks_34 : decode cX11_lacks 34 = .ok (.iaload, 1) := by decide +kernel
theorem dX11_lacks_35 : decode cX11_lacks 35 = .ok (.iconst 1, 1) := by decide +kernel
theorem dX11_lacks_36 : decode cX11_lacks 36 = .ok (.isub, 1) := by decide +kernel
theorem dX11_lacks_37 : decode cX11_lacks 37 = .ok (.invokestatic 136, 3) := by decide +kernel
theorem dX11_lacks_40 : decode cX11_lacks 40 = .ok (.ifCond .eq 7, 3) := by decide +kernel
theorem dX11_lacks_43 : decode cX11_lacks 43 = .ok (.iconst 0, 1) := by decide +kernel
theorem dX11_lacks_44 : decode cX11_lacks 44 = .ok (.goto 4, 3) := by decide +kernel
theorem dX11_lacks_47 : decode cX11_lacks 47 = .ok (.iconst 2, 1) := by decide +kernel
theorem dX11_lacks_48 : decode cX11_lacks 48 = .ok (.ireturn, 1) := by decide +kernel
theorem dX11_keep_0 : decode cX11_keep 0 = .ok (.aload_n 0, 1) := by decide +kernel
theorem dX11_keep_1 : decode cX11_keep 1 = .ok (.getfield 128, 3) := by decide +kernel
theorem dX11_keep_4 : decode cX11_keep 4 = .ok (.bipush 60, 2) := by decide +kernel
theorem dX11_keep_6 : decode cX11_keep 6 = .ok (.iload_n 1, 1) := by decide +kernel
theorem dX11_keep_7 : decode cX11_keep 7 = .ok (.imul, 1) := by decide +kernel
theorem dX11_keep_8 : decode cX11_keep 8 = .ok (.iload_n 2, 1) := by decide +kernel
theorem dX11_keep_9 : decode cX11_keep 9 = .ok (.iadd, 1) := by decide +kernel
theorem dX11_keep_10 : decode cX11_keep 10 = .ok (.aload_n 0, 1) := by decide +kernel
theorem dX11_keep_11 : decode cX11_keep 11 = .ok (.getfield 122, 3) := by decide +kernel
theorem dX11_keep_14 : decode cX11_keep 14 = .ok (.iload_n 1, 1) := by decide +kernel
theorem dX11_keep_15 : decode cX11_keep 15 = .ok (.iaload, 1) := by decide +kernel
theorem dX11_keep_16 : decode cX11_keep 16 = .ok (.ifCond .ne 8, 3) := by decide +kernel
theorem dX11_keep_19 : decode cX11_keep 19 = .ok (.iload_n 3, 1) := by decide +kernel
theorem dX11_keep_20 : decode cX11_keep 20 = .ok (.i2b, 1) := by decide +kernel
theorem dX11_keep_21 : decode cX11_keep 21 = .ok (.goto 19, 3) := by decide +kernel
theorem dX11_keep_24 : decode cX11_keep 24 = .ok (.aload_n 0, 1) := by decide +kernel
theorem dX11_keep_25 : decode cX11_keep 25 = .ok (.getfield 122, 3) := by decide +kernel
theorem dX11_keep_28 : decode cX11_keep 28 = .ok (.iload_n 1, 1) := by decide +kernel
theorem dX11_keep_29 : decode cX11_keep 29 = .ok (.iaload, 1) := by decide +kernel
theorem dX11_keep_30 : decode cX11_keep 30 = .ok (.iconst 1, 1) := by decide +kernel
theorem dX11_keep_31 : decode cX11_keep 31 = .ok (.if_icmp .ne 8, 3) := by decide +kernel
theorem dX11_keep_34 : decode cX11_keep 34 = .ok (.iload_n 3, 1) := by decide +kernel
theorem dX11_keep_35 : decode cX11_keep 35 = .ok (.i2s, 1) := by decide +kernel
theorem dX11_keep_36 : decode cX11_keep 36 = .ok (.goto 4, 3) := by decide +kernel
theorem dX11_keep_39 : decode cX11_keep 39 = .ok (.iload_n 3, 1) := by decide +kernel
theorem dX11_keep_40 : decode cX11_keep 40 = .ok (.iastore, 1) := by decide +kernel
theorem dX11_keep_41 : decode cX11_keep 41 = .ok (.return_, 1) := by decide +kernel
theorem dX11_put_0 : decode cX11_put 0 = .ok (.iload_n 1, 1) := by decide +kernel
theorem dX11_put_1 : decode cX11_put 1 = .ok (.invokestatic 207, 3) := by decide +kernel
theorem dX11_put_4 : decode cX11_put 4 = .ok (.ifCond .eq 12, 3) := by decide +kernel
theorem dX11_put_7 : decode cX11_put 7 = .ok (.iload_n 2, 1) := by decide +kernel
theorem dX11_put_8 : decode cX11_put 8 = .ok (.iconst 0, 1) := by decide +kernel
theorem dX11_put_9 : decode cX11_put 9 = .ok (.iconst 2, 1) := by decide +kernel
theorem dX11_put_10 : decode cX11_put 10 = .ok (.invokestatic 136, 3) := by decide +kernel
theorem dX11_put_13 : decode cX11_put 13 = .ok (.ifCond .ne 6, 3) := by decide +kernel
theorem dX11_put_16 : decode cX11_put 16 = .ok (.bipush (-2), 2) := by decide +kernel
theorem dX11_put_18 : decode cX11_put 18 = .ok (.ireturn, 1) := by decide +kernel
theorem dX11_put_19 : decode cX11_put 19 = .ok (.aload_n 0, 1) := by decide +kernel
theorem dX11_put_20 : decode cX11_put 20 = .ok (.iload_n 1, 1) := by decide +kernel
theorem dX11_put_21 : decode cX11_put 21 = .ok (.iload_n 2, 1) := by decide +kernel
theorem dX11_put_22 : decode cX11_put 22 = .ok (.iload_n 3, 1) := by decide +kernel
theorem dX11_put_23 : decode cX11_put 23 = .ok (.invokevirtual 375, 3) := by decide +kernel
theorem dX11_put_26 : decode cX11_put 26 = .ok (.istore 5, 2) := by decide +kernel
theorem dX11_put_28 : decode cX11_put 28 = .ok (.iload 5, 2) := by decide +kernel
theorem dX11_put_30 : decode cX11_put 30 = .ok (.ifCond .le 10, 3) := by decide +kernel
theorem dX11_put_33 : decode cX11_put 33 = .ok (.aload_n 0, 1) := by decide +kernel
theorem dX11_put_34 : decode cX11_put 34 = .ok (.iload 5, 2) := by decide +kernel
theorem dX11_put_36 : decode cX11_put 36 = .ok (.invokevirtual 210, 3) := by decide +kernel
theorem dX11_put_39 : decode cX11_put 39 = .ok (.ireturn, 1) := by decide +kernel
theorem dX11_put_40 : decode cX11_put 40 = .ok (.aload_n 0, 1) := by decide +kernel
theorem dX11_put_41 : decode cX11_put 41 = .ok (.iload_n 1, 1) := by decide +kernel
theorem dX11_put_42 : decode cX11_put 42 = .ok (.iload_n 3, 1) := by decide +kernel
theorem dX11_put_43 : decode cX11_put 43 = .ok (.iload 4, 2) := by decide +kernel
theorem dX11_put_45 : decode cX11_put 45 = .ok (.invokevirtual 378, 3) := by decide +kernel
theorem dX11_put_48 : decode cX11_put 48 = .ok (.iconst 1, 1) := by decide +kernel
theorem dX11_put_49 : decode cX11_put 49 = .ok (.ireturn, 1) := by decide +kernel
theorem dX11_get_0 : decode cX11_get 0 = .ok (.iload_n 1, 1) := by decide +kernel
theorem dX11_get_1 : decode cX11_get 1 = .ok (.invokestatic 207, 3) := by decide +kernel
theorem dX11_get_4 : decode cX11_get 4 = .ok (.ifCond .eq 12, 3) := by decide +kernel
theorem dX11_get_7 : decode cX11_get 7 = .ok (.iload_n 2, 1) := by decide +kernel
theorem dX11_get_8 : decode cX11_get 8 = .ok (.iconst 0, 1) := by decide +kernel
theorem dX11_get_9 : decode cX11_get 9 = .ok (.iconst 2, 1) := by decide +kernel
theorem dX11_get_10 : decode cX11_get 10 = .ok (.invokestatic 136, 3) := by decide +kernel
theorem dX11_get_13 : decode cX11_get 13 = .ok (.ifCond .ne 7, 3) := by decide +kernel
theorem dX11_get_16 : decode cX11_get 16 = .ok (.ldc_w 381, 3) := by decide +kernel
theorem dX11_get_19 : decode cX11_get 19 = .ok (.ireturn, 1) := by decide +kernel
theorem dX11_get_20 : decode cX11_get 20 = .ok (.aload_n 0, 1) := by decide +kernel
theorem dX11_get_21 : decode cX11_get 21 = .ok (.iload_n 1, 1) := by decide +kernel
theorem dX11_get_22 : decode cX11_get 22 = .ok (.iload_n 2, 1) := by decide +kernel
theorem dX11_get_23 : decode cX11_get 23 = .ok (.iload_n 3, 1) := by decide +kernel
theorem dX11_get_24 : decode cX11_get 24 = .ok (.invokevirtual 375, 3) := by decide +kernel
theorem dX11_get_27 : decode cX11_get 27 = .ok (.istore 4, 2) := by decide +kernel
theorem dX11_get_29 : decode cX11_get 29 = .ok (.iload 4, 2) := by decide +kernel
theorem dX11_get_31 : decode cX11_get 31 = .ok (.ifCond .le 13, 3) := by decide +kernel
theorem dX11_get_34 : decode cX11_get 34 = .ok (.aload_n 0, 1) := by decide +kernel
theorem dX11_get_35 : decode cX11_get 35 = .ok (.iload 4, 2) := by decide +kernel
theorem dX11_get_37 : decode cX11_get 37 = .ok (.putfield 372, 3) := by decide +kernel
theorem dX11_get_40 : decode cX11_get 40 = .ok (.ldc_w 381, 3) := by decide +kernel
theorem dX11_get_43 : decode cX11_get 43 = .ok (.ireturn, 1) := by decide +kernel
theorem dX11_get_44 : decode cX11_get 44 = .ok (.aload_n 0, 1) := by decide +kernel
theorem dX11_get_45 : decode cX11_get 45 = .ok (.getfield 128, 3) := by decide +kernel
theorem dX11_get_48 : decode cX11_get 48 = .ok (.bipush 60, 2) := by decide +kernel
theorem dX11_get_50 : decode cX11_get 50 = .ok (.iload_n 1, 1) := by decide +kernel
theorem dX11_get_51 : decode cX11_get 51 = .ok (.imul, 1) := by decide +kernel
theorem dX11_get_52 : decode cX11_get 52 = .ok (.iload_n 3, 1) := by decide +kernel
theorem dX11_get_53 : decode cX11_get 53 = .ok (.iadd, 1) := by decide +kernel
theorem dX11_get_54 : decode cX11_get 54 = .ok (.iaload, 1) := by decide +kernel
theorem dX11_get_55 : decode cX11_get 55 = .ok (.ireturn, 1) := by decide +kernel
theorem r_sheet (hd : 2 ≤ d) (s f n : Int32) : mMet G l d kX11_sheet [.ref 111, .int s, .int f, .int n] σ (qIP (fun r s1 => r = shR s f n ∧ (¬ (wI s 4 ∧ wI f 3 ∧ n ≤ 60) → s1 = σ) ∧ ((wI s 4 ∧ wI f 3 ∧ n ≤ 60) → n < 0 → s1 = us σ 111 52 5) ∧ ((wI s 4 ∧ wI f 3 ∧ n ≤ 60) → ¬ n < 0 → (∀ i, i < 60 → s1.1 151 (60 * cN s + i) = 0) ∧ fW (fun y z => y = 151 ∧ 60 * cN s ≤ z ∧ z < 60 * cN s + 60) (us (us (us σ 148 (cN s) 1) 149 (cN s) f) 150 (cN s) n) s1))) := by
  refine mMet.of cm_X11_sheet rfl (Nat.le_of_ble_eq_true rfl) rfl (fun v1 σ1 h => by obtain ⟨r, h1, -⟩ := h; rw [h1]; rfl) ?_
  unfold shR
  refine m_iload_n dX11_sheet_0 1 rfl ?_
  refine m_callS (As := [_]) dX11_sheet_1 cs_X11_207 (by omega) rfl rfl (Nat.le_of_ble_eq_true rfl) (c_isSheet (d := d - 1) (by omega) s) (fun v1 σ1 hv1 => ?_)
  refine m_qI hv1 ?_
  clear hv1 v1 σ1
  refine m_if_eq dX11_sheet_4 22 (by decide) (fun h0 => ?_) (fun h0 => ?_)
  · have g0 : ¬ (wI s 4 ∧ wI f 3 ∧ n ≤ 60) := fun q => bI0 h0 ((wI_le (n := 3) (by decide)).mpr q.1)
    refine m_bipush (v := -2) dX11_sheet_22 (by decide) ?_
    exact m_ireturn dX11_sheet_24 ⟨_, rfl, by rw [if_neg g0], fun _ => rfl, fun q => absurd q g0, fun q => absurd q g0⟩
  · have w0 : wI s 4 := (wI_le (n := 3) (by decide)).mp (bI1 h0)
    refine m_iload_n dX11_sheet_7 2 rfl ?_
    refine m_iconst (v := 0) dX11_sheet_8 (by decide) ?_
    refine m_iconst (v := 2) dX11_sheet_9 (by decide) ?_
    refine m_callS (As := [_, _, _]) dX11_sheet_10 cs_X11_136 (by omega) rfl rfl (Nat.le_of_ble_eq_true rfl) (c_in (d := d - 1) f 0 2) (fun v1 σ1 hv1 => ?_)
    refine m_qI hv1 ?_
    clear hv1 v1 σ1
    refine m_if_eq dX11_sheet_13 22 (by decide) (fun h1 => ?_) (fun h1 => ?_)
    · have g0 : ¬ (wI s 4 ∧ wI f 3 ∧ n ≤ 60) := fun q => bI0 h1 ((wI_le (n := 2) (by decide)).mpr q.2.1)
      refine m_bipush (v := -2) dX11_sheet_22 (by decide) ?_
      exact m_ireturn dX11_sheet_24 ⟨_, rfl, by rw [if_neg g0], fun _ => rfl, fun q => absurd q g0, fun q => absurd q g0⟩
    · have w1 : wI f 3 := (wI_le (n := 2) (by decide)).mp (bI1 h1)
      refine m_iload_n dX11_sheet_16 3 rfl ?_
      refine m_bipush (v := 60) dX11_sheet_17 (by decide) ?_
      refine m_icmp_le dX11_sheet_19 25 (by decide) (fun h2 => ?_) (fun h2 => ?_)
      rotate_left
      · have g0 : ¬ (wI s 4 ∧ wI f 3 ∧ n ≤ 60) := fun q => h2 q.2.2
        refine m_bipush (v := -2) dX11_sheet_22 (by decide) ?_
        exact m_ireturn dX11_sheet_24 ⟨_, rfl, by rw [if_neg g0], fun _ => rfl, fun q => absurd q g0, fun q => absurd q g0⟩
      · have gg : wI s 4 ∧ wI f 3 ∧ n ≤ 60 := ⟨w0, w1, h2⟩
        refine m_iload_n dX11_sheet_25 3 rfl ?_
        refine m_if_ge dX11_sheet_26 35 (by decide) (fun h3 => ?_) (fun h3 => ?_)
        rotate_left
        · have h4 : n < 0 := Int32.not_le.mp h3
          refine m_aload_n dX11_sheet_29 0 rfl ?_
          refine m_iconst (v := 5) dX11_sheet_30 (by decide) ?_
          refine m_callV (As := [_]) dX11_sheet_31 cv_X11_210 (by first | assumption | rfl) (by decide) (by omega) rfl rfl (Nat.le_of_ble_eq_true rfl) (c_meets (d := d - 1) 5) (fun v1 σ1 hv1 => ?_)
          refine m_qI hv1 ?_
          clear hv1 v1 σ1
          exact m_ireturn dX11_sheet_34 ⟨_, rfl, by rw [if_pos gg, if_pos h4]; rfl, fun q => absurd gg q, fun _ _ => rfl, fun _ q => absurd h4 q⟩
        · have h4 : ¬ n < 0 := Int32.not_lt.mpr h3
          rw [if_pos gg, if_neg h4]
          obtain ⟨j, hj, rfl⟩ := wI_of (by omega) w0
          rw [clN (show j < 1000 by omega)]
          clear h0 h1 h3
          refine m_aload_n dX11_sheet_35 0 rfl ?_
          refine m_getR 47 148 dX11_sheet_36 fl_X11_118_10 rfl (by decide) rfl (by first | assumption | rfl) ?_
          refine m_iload_n dX11_sheet_39 1 rfl ?_
          refine m_iconst (v := 1) dX11_sheet_40 (by decide) ?_
          refine m_zast dX11_sheet_41 (by first | assumption | rfl) j rfl (by first | assumption | omega) rfl ?_
          refine m_aload_n dX11_sheet_42 0 rfl ?_
          refine m_getR 48 149 dX11_sheet_43 fl_X11_122_10 rfl (by decide) rfl (by first | assumption | rfl) ?_
          refine m_iload_n dX11_sheet_46 1 rfl ?_
          refine m_iload_n dX11_sheet_47 2 rfl ?_
          refine m_iast dX11_sheet_48 (by first | assumption | rfl) j rfl (by first | assumption | omega | decide) ?_
          refine m_aload_n dX11_sheet_49 0 rfl ?_
          refine m_getR 49 150 dX11_sheet_50 fl_X11_125_10 rfl (by decide) rfl (by first | assumption | rfl) ?_
          refine m_iload_n dX11_sheet_53 1 rfl ?_
          refine m_iload_n dX11_sheet_54 3 rfl ?_
          refine m_iast dX11_sheet_55 (by first | assumption | rfl) j rfl (by first | assumption | omega | decide) ?_
          refine m_iconst (v := 0) dX11_sheet_56 (by decide) ?_
          refine m_istore (ls1 := [(4, _), (0, _), (1, _), (2, _), (3, _)]) dX11_sheet_57 (by decide) rfl ?_
          generalize hs3 : us (us (us σ 148 j 1) 149 j f) 150 j n = s3
          refine down (N := 60) (fun i (q : mS) => (∀ b, b < i → q.1 151 (60 * j + b) = 0) ∧ fW (fun y z => y = 151 ∧ 60 * j ≤ z ∧ z < 60 * j + 60) s3 q) (fun i q => mW G l d kX11_sheet 59 [(4, .int (nI i)), (0, .ref 111), (1, .int (nI j)), (2, .int f), (3, .int n)] [] q _) ?_ ?_ 0 s3 (Nat.zero_le _) ⟨fun b hb => absurd hb (Nat.not_lt_zero _), fW.rf⟩
          · rintro q ⟨b1, b2⟩
            refine m_iload dX11_sheet_59 0 rfl ?_
            refine m_bipush (v := 60) dX11_sheet_61 (by decide) ?_
            refine m_icmp_ge dX11_sheet_63 85 (by decide) (fun h => ?_) (fun h => ?_)
            · refine m_iload_n dX11_sheet_85 4 rfl ?_
              exact m_ireturn dX11_sheet_86 ⟨_, rfl, rfl, fun q => absurd gg q, fun _ q => absurd q h4, fun _ _ => ⟨b1, b2⟩⟩
            · exact absurd (Int32.le_refl _) h
          · rintro i q hi ⟨b1, b2⟩ ih
            refine m_iload dX11_sheet_59 0 rfl ?_
            refine m_bipush (v := 60) dX11_sheet_61 (by decide) ?_
            refine m_icmp_ge dX11_sheet_63 85 (by decide) (fun h => ?_) (fun h => ?_)
            · exact absurd ((nle (a := 60) (by omega) (by omega)).mp h) (by omega)
            · clear h
              refine m_aload_n dX11_sheet_66 1 rfl ?_
              refine m_getR 50 151 dX11_sheet_67 fl_X11_128_10 rfl (by decide) rfl (by first | assumption | rfl) ?_
              refine m_bipush (v := 60) dX11_sheet_70 (by decide) ?_
              refine m_iload_n dX11_sheet_72 2 rfl ?_
              refine m_imul dX11_sheet_73 ?_
              refine mW.top (w := nI (60 * j)) (pk_mul 60 j) ?_
              refine m_iload dX11_sheet_74 0 rfl ?_
              refine m_iadd dX11_sheet_76 ?_
              refine mW.top (w := nI (60 * j + i)) (nadd rfl) ?_
              refine m_iconst (v := 0) dX11_sheet_77 (by decide) ?_
              refine m_iast dX11_sheet_78 (by first | assumption | rfl) (60 * j + i) rfl (by first | assumption | omega | decide) ?_
              refine m_iinc (v := nI (i + 1)) (ls1 := [(4, _), (0, _), (1, _), (2, _), (3, _)]) dX11_sheet_79 0 rfl (nI_1 i) (by decide) rfl ?_
              refine m_goto dX11_sheet_82 59 (by decide) ?_
              refine ih _ ⟨fun b hb => ?_, fW.us (by omega) b2⟩
              rw [us_at]
              split
              · rfl
              · exact b1 b (by omega)
theorem r_lose (hd : 2 ≤ d) (S : Nat → Nat) (hS : okH σ S) (s : Int32) : mMet G l d kX11_lose [.ref 111, .int s] σ (qIP (fun r s1 => r = loR (σ.1 148) S s ∧ s1 = if wI s 4 then (if σ.1 148 (cN s) = 0 then us σ 111 52 1 else us σ 148 (cN s) 0) else σ)) := by
  refine mMet.of cm_X11_lose rfl (Nat.le_of_ble_eq_true rfl) rfl (fun v1 σ1 h => by obtain ⟨r, h1, -⟩ := h; rw [h1]; rfl) ?_
  unfold loR
  refine m_iload_n dX11_lose_0 1 rfl ?_
  refine m_callS (As := [_]) dX11_lose_1 cs_X11_207 (by omega) rfl rfl (Nat.le_of_ble_eq_true rfl) (c_isSheet (d := d - 1) (by omega) s) (fun v1 σ1 hv1 => ?_)
  refine m_qI hv1 ?_
  clear hv1 v1 σ1
  refine m_if_ne dX11_lose_4 10 (by decide) (fun h0 => ?_) (fun h0 => ?_)
  rotate_left
  · have g0 : ¬ wI s 4 := fun q => bI0 h0 ((wI_le (n := 3) (by decide)).mpr q)
    refine m_bipush (v := -2) dX11_lose_7 (by decide) ?_
    exact m_ireturn dX11_lose_9 ⟨_, rfl, by rw [if_neg g0], by rw [if_neg g0]⟩
  · have w0 : wI s 4 := (wI_le (n := 3) (by decide)).mp (bI1 h0)
    obtain ⟨j, hj, rfl⟩ := wI_of (by omega) w0
    obtain ⟨q1, q2, q3⟩ := hS j hj
    rw [clN (show j < 1000 by omega), if_pos w0, if_pos w0]
    clear h0
    refine m_aload_n dX11_lose_10 0 rfl ?_
    refine m_getR 47 148 dX11_lose_11 fl_X11_118_10 rfl (by decide) rfl (by first | assumption | rfl) ?_
    refine m_iload_n dX11_lose_14 1 rfl ?_
    refine m_zald dX11_lose_15 (by first | assumption | rfl) j rfl (by first | assumption | omega)  ?_
    refine m_if_ne dX11_lose_16 25 (by decide) (fun h2 => ?_) (fun h2 => ?_)
    rotate_left
    · refine m_aload_n dX11_lose_19 0 rfl ?_
      refine m_iconst (v := 1) dX11_lose_20 (by decide) ?_
      refine m_callV (As := [_]) dX11_lose_21 cv_X11_210 (by first | assumption | rfl) (by decide) (by omega) rfl rfl (Nat.le_of_ble_eq_true rfl) (c_meets (d := d - 1) 1) (fun v1 σ1 hv1 => ?_)
      refine m_qI hv1 ?_
      clear hv1 v1 σ1
      exact m_ireturn dX11_lose_24 ⟨_, rfl, by rw [if_pos h2]; rfl, by rw [if_pos h2]⟩
    · refine m_aload_n dX11_lose_25 0 rfl ?_
      refine m_getR 47 148 dX11_lose_26 fl_X11_118_10 rfl (by decide) rfl (by first | assumption | rfl) ?_
      refine m_iload_n dX11_lose_29 1 rfl ?_
      refine m_iconst (v := 0) dX11_lose_30 (by decide) ?_
      refine m_zast dX11_lose_31 (by first | assumption | rfl) j rfl (by first | assumption | omega) rfl ?_
      refine m_aload_n dX11_lose_32 0 rfl ?_
      refine m_getR 49 150 dX11_lose_33 fl_X11_125_10 rfl (by decide) rfl (by first | assumption | rfl) ?_
      refine m_iload_n dX11_lose_36 1 rfl ?_
      refine m_iald dX11_lose_37 (by first | assumption | rfl) j rfl (by first | assumption | omega | decide) ?_
      refine mW.top (w := nI (S j)) (by simp [us_at]; exact q2) ?_
      exact m_ireturn dX11_lose_38 ⟨_, rfl, by rw [if_neg h2], by rw [if_neg h2]⟩
theorem c_lacks (hd : 1 ≤ d) (S : Nat → Nat) (hS : okH σ S) (j : Nat) (hj : j < 4) (f i : Int32) : mMet G l d kX11_lacks [.ref 111, .int (nI j), .int f, .int i] σ (qI (lkF (σ.1 148 j) (σ.1 149 j) f (S j) i) σ) := by
  refine mMet.of cm_X11_lacks rfl (Nat.le_of_ble_eq_true rfl) rfl (fun v1 σ1 h => by rw [h.1]; rfl) ?_
  obtain ⟨q1, q2, q3⟩ := hS j hj
  unfold lkF
  refine m_aload_n dX11_lacks_0 0 rfl ?_
  refine m_getR 47 148 dX11_lacks_1 fl_X11_118_10 rfl (by decide) rfl (by first | assumption | rfl) ?_
  refine m_iload_n dX11_lacks_4 1 rfl ?_
  refine m_zald dX11_lacks_5 (by first | assumption | rfl) j rfl (by first | assumption | omega)  ?_
  refine m_if_ne dX11_lacks_6 13 (by decide) (fun h0 => ?_) (fun h0 => ?_)
  rotate_left
  · refine m_iconst (v := 1) dX11_lacks_9 (by decide) ?_
    refine m_goto dX11_lacks_10 48 (by decide) ?_
    exact m_ireturn dX11_lacks_48 (qI_of (by rw [if_pos h0]))
  · rw [if_neg h0]
    refine m_aload_n dX11_lacks_13 0 rfl ?_
    refine m_getR 48 149 dX11_lacks_14 fl_X11_122_10 rfl (by decide) rfl (by first | assumption | rfl) ?_
    refine m_iload_n dX11_lacks_17 1 rfl ?_
    refine m_iald dX11_lacks_18 (by first | assumption | rfl) j rfl (by first | assumption | omega | decide) ?_
    refine m_iload_n dX11_lacks_19 2 rfl ?_
    refine m_icmp_eq dX11_lacks_20 27 (by decide) (fun h1 => ?_) (fun h1 => ?_)
    rotate_left
    · refine m_iconst (v := 3) dX11_lacks_23 (by decide) ?_
      refine m_goto dX11_lacks_24 48 (by decide) ?_
      exact m_ireturn dX11_lacks_48 (qI_of (by rw [if_neg h1]))
    · rw [if_pos h1]
      refine m_iload_n dX11_lacks_27 3 rfl ?_
      refine m_iconst (v := 0) dX11_lacks_28 (by decide) ?_
      refine m_aload_n dX11_lacks_29 0 rfl ?_
      refine m_getR 49 150 dX11_lacks_30 fl_X11_125_10 rfl (by decide) rfl (by first | assumption | rfl) ?_
      refine m_iload_n dX11_lacks_33 1 rfl ?_
      refine m_iald dX11_lacks_34 (by first | assumption | rfl) j rfl (by first | assumption | omega | decide) ?_
      refine mW.top q2 ?_
      refine m_iconst (v := 1) dX11_lacks_35 (by decide) ?_
      refine m_isub dX11_lacks_36 ?_
      refine m_callS (As := [_, _, _]) dX11_lacks_37 cs_X11_136 (by omega) rfl rfl (Nat.le_of_ble_eq_true rfl) (c_in (d := d - 1) i 0 _) (fun v1 σ1 hv1 => ?_)
      refine m_qI hv1 ?_
      clear hv1 v1 σ1
      refine m_if_eq dX11_lacks_40 47 (by decide) (fun h2 => ?_) (fun h2 => ?_)
      · refine m_iconst (v := 2) dX11_lacks_47 (by decide) ?_
        have g : ¬ wI i (S j) := fun q => bI0 h2 ⟨q.1, (leN1 (by omega)).mpr q.2⟩
        exact m_ireturn dX11_lacks_48 (qI_of (by rw [if_neg g]))
      · refine m_iconst (v := 0) dX11_lacks_43 (by decide) ?_
        refine m_goto dX11_lacks_44 48 (by decide) ?_
        have g : wI i (S j) := ⟨(bI1 h2).1, (leN1 (by omega)).mp (bI1 h2).2⟩
        exact m_ireturn dX11_lacks_48 (qI_of (by rw [if_pos g]))
theorem c_keep (j i : Nat) (hj : j < 4) (hi : i < 60) (v : Int32) : mMet G l d kX11_keep [.ref 111, .int (nI j), .int (nI i), .int v] σ (qV (us σ 151 (60 * j + i) (narF (σ.1 149 j) v))) := by
  refine mMet.of cm_X11_keep rfl (Nat.le_of_ble_eq_true rfl) rfl (fun v1 σ1 h => by rw [h.1]; trivial) ?_
  unfold narF
  refine m_aload_n dX11_keep_0 0 rfl ?_
  refine m_getR 50 151 dX11_keep_1 fl_X11_128_10 rfl (by decide) rfl (by first | assumption | rfl) ?_
  refine m_bipush (v := 60) dX11_keep_4 (by decide) ?_
  refine m_iload_n dX11_keep_6 1 rfl ?_
  refine m_imul dX11_keep_7 ?_
  refine mW.top (w := nI (60 * j)) (pk_mul 60 j) ?_
  refine m_iload_n dX11_keep_8 2 rfl ?_
  refine m_iadd dX11_keep_9 ?_
  refine mW.top (w := nI (60 * j + i)) (nadd rfl) ?_
  refine m_aload_n dX11_keep_10 0 rfl ?_
  refine m_getR 48 149 dX11_keep_11 fl_X11_122_10 rfl (by decide) rfl (by first | assumption | rfl) ?_
  refine m_iload_n dX11_keep_14 1 rfl ?_
  refine m_iald dX11_keep_15 (by first | assumption | rfl) j rfl (by first | assumption | omega | decide) ?_
  refine m_if_ne dX11_keep_16 24 (by decide) (fun h0 => ?_) (fun h0 => ?_)
  rotate_left
  · rw [if_pos h0]
    refine m_iload_n dX11_keep_19 3 rfl ?_
    refine m_i2b dX11_keep_20 ?_
    refine m_goto dX11_keep_21 40 (by decide) ?_
    refine m_iast dX11_keep_40 (by first | assumption | rfl) (60 * j + i) rfl (by first | assumption | omega | decide) ?_
    exact m_return dX11_keep_41 ⟨rfl, rfl⟩
  · rw [if_neg h0]
    refine m_aload_n dX11_keep_24 0 rfl ?_
    refine m_getR 48 149 dX11_keep_25 fl_X11_122_10 rfl (by decide) rfl (by first | assumption | rfl) ?_
    refine m_iload_n dX11_keep_28 1 rfl ?_
    refine m_iald dX11_keep_29 (by first | assumption | rfl) j rfl (by first | assumption | omega | decide) ?_
    refine m_iconst (v := 1) dX11_keep_30 (by decide) ?_
    refine m_icmp_ne dX11_keep_31 39 (by decide) (fun h1 => ?_) (fun h1 => ?_)
    · rw [if_neg h1]
      refine m_iload_n dX11_keep_39 3 rfl ?_
      refine m_iast dX11_keep_40 (by first | assumption | rfl) (60 * j + i) rfl (by first | assumption | omega | decide) ?_
      exact m_return dX11_keep_41 ⟨rfl, rfl⟩
    · rw [if_pos h1]
      refine m_iload_n dX11_keep_34 3 rfl ?_
      refine m_i2s dX11_keep_35 ?_
      refine m_goto dX11_keep_36 40 (by decide) ?_
      refine m_iast dX11_keep_40 (by first | assumption | rfl) (60 * j + i) rfl (by first | assumption | omega | decide) ?_
      exact m_return dX11_keep_41 ⟨rfl, rfl⟩
theorem r_put (hd : 2 ≤ d) (S : Nat → Nat) (hS : okH σ S) (s f i v : Int32) : mMet G l d kX11_put [.ref 111, .int s, .int f, .int i, .int v] σ (qIP (fun r s1 => r = ptR (σ.1 148) (σ.1 149) S s f i ∧ s1 = if wI s 4 ∧ wI f 3 then (if lkS (σ.1 148) (σ.1 149) S s f i = 0 then us σ 151 (60 * cN s + cN i) (narF (σ.1 149 (cN s)) v) else us σ 111 52 (lkS (σ.1 148) (σ.1 149) S s f i)) else σ)) := by
  refine mMet.of cm_X11_put rfl (Nat.le_of_ble_eq_true rfl) rfl (fun v1 σ1 h => by obtain ⟨r, h1, -⟩ := h; rw [h1]; rfl) ?_
  unfold ptR lkS
  refine m_iload_n dX11_put_0 1 rfl ?_
  refine m_callS (As := [_]) dX11_put_1 cs_X11_207 (by omega) rfl rfl (Nat.le_of_ble_eq_true rfl) (c_isSheet (d := d - 1) (by omega) s) (fun v1 σ1 hv1 => ?_)
  refine m_qI hv1 ?_
  clear hv1 v1 σ1
  refine m_if_eq dX11_put_4 16 (by decide) (fun h0 => ?_) (fun h0 => ?_)
  · have g0 : ¬ (wI s 4 ∧ wI f 3) := fun q => bI0 h0 ((wI_le (n := 3) (by decide)).mpr q.1)
    refine m_bipush (v := -2) dX11_put_16 (by decide) ?_
    exact m_ireturn dX11_put_18 ⟨_, rfl, by rw [if_neg g0], by rw [if_neg g0]⟩
  · have w0 : wI s 4 := (wI_le (n := 3) (by decide)).mp (bI1 h0)
    refine m_iload_n dX11_put_7 2 rfl ?_
    refine m_iconst (v := 0) dX11_put_8 (by decide) ?_
    refine m_iconst (v := 2) dX11_put_9 (by decide) ?_
    refine m_callS (As := [_, _, _]) dX11_put_10 cs_X11_136 (by omega) rfl rfl (Nat.le_of_ble_eq_true rfl) (c_in (d := d - 1) f 0 2) (fun v1 σ1 hv1 => ?_)
    refine m_qI hv1 ?_
    clear hv1 v1 σ1
    refine m_if_ne dX11_put_13 19 (by decide) (fun h1 => ?_) (fun h1 => ?_)
    rotate_left
    · have g0 : ¬ (wI s 4 ∧ wI f 3) := fun q => bI0 h1 ((wI_le (n := 2) (by decide)).mpr q.2)
      refine m_bipush (v := -2) dX11_put_16 (by decide) ?_
      exact m_ireturn dX11_put_18 ⟨_, rfl, by rw [if_neg g0], by rw [if_neg g0]⟩
    · have w1 : wI f 3 := (wI_le (n := 2) (by decide)).mp (bI1 h1)
      rw [if_pos (And.intro w0 w1), if_pos (And.intro w0 w1)]
      obtain ⟨j, hj, rfl⟩ := wI_of (by omega) w0
      rw [clN (show j < 1000 by omega)]
      clear h0 h1
      have hSj := (hS j hj).2.2
      rcases lkF_of (σ.1 148 j) (σ.1 149 j) f (S j) i with e | e | e | e
      · obtain ⟨k, hk, rfl⟩ := wI_of (by omega) (lkF_0 e)
        rw [if_pos e, if_pos e, clN (show k < 1000 by omega)]
        refine m_aload_n dX11_put_19 0 rfl ?_
        refine m_iload_n dX11_put_20 1 rfl ?_
        refine m_iload_n dX11_put_21 2 rfl ?_
        refine m_iload_n dX11_put_22 3 rfl ?_
        refine m_callV (As := [_, _, _]) dX11_put_23 cv_X11_375 (by first | assumption | rfl) (by decide) (by omega) rfl rfl (Nat.le_of_ble_eq_true rfl) (c_lacks (d := d - 1) (by omega) S hS j hj f (nI k)) (fun v1 σ1 hv1 => ?_)
        refine m_qI hv1 ?_
        clear hv1 v1 σ1
        refine mW.top e ?_
        refine m_istore (ls1 := [(5, _), (0, _), (1, _), (2, _), (3, _), (4, _)]) dX11_put_26 (by decide) rfl ?_
        refine m_iload dX11_put_28 0 rfl ?_
        refine m_if_le dX11_put_30 40 (by decide) (fun h => ?_) (fun h => ?_)
        rotate_left
        · exact absurd (Int32.le_refl _) h
        · refine m_aload_n dX11_put_40 1 rfl ?_
          refine m_iload_n dX11_put_41 2 rfl ?_
          refine m_iload_n dX11_put_42 4 rfl ?_
          refine m_iload dX11_put_43 5 rfl ?_
          refine m_callV (As := [_, _, _]) dX11_put_45 cv_X11_378 (by first | assumption | rfl) (by decide) (by omega) rfl rfl (Nat.le_of_ble_eq_true rfl) (c_keep (d := d - 1) j k hj (by omega) v) (fun v1 σ1 hv1 => ?_)
          refine m_qV hv1 ?_
          clear hv1 v1 σ1
          refine m_iconst (v := 1) dX11_put_48 (by decide) ?_
          exact m_ireturn dX11_put_49 ⟨_, rfl, rfl, rfl⟩
      · rw [e, if_neg (show ¬ (1 : Int32) = 0 by decide), if_neg (show ¬ (1 : Int32) = 0 by decide)]
        refine m_aload_n dX11_put_19 0 rfl ?_
        refine m_iload_n dX11_put_20 1 rfl ?_
        refine m_iload_n dX11_put_21 2 rfl ?_
        refine m_iload_n dX11_put_22 3 rfl ?_
        refine m_callV (As := [_, _, _]) dX11_put_23 cv_X11_375 (by first | assumption | rfl) (by decide) (by omega) rfl rfl (Nat.le_of_ble_eq_true rfl) (c_lacks (d := d - 1) (by omega) S hS j hj f i) (fun v1 σ1 hv1 => ?_)
        refine m_qI hv1 ?_
        clear hv1 v1 σ1
        refine mW.top e ?_
        refine m_istore (ls1 := [(5, _), (0, _), (1, _), (2, _), (3, _), (4, _)]) dX11_put_26 (by decide) rfl ?_
        refine m_iload dX11_put_28 0 rfl ?_
        refine m_if_le dX11_put_30 40 (by decide) (fun h => ?_) (fun h => ?_)
        · exact absurd h (by decide)
        · refine m_aload_n dX11_put_33 1 rfl ?_
          refine m_iload dX11_put_34 0 rfl ?_
          refine m_callV (As := [_]) dX11_put_36 cv_X11_210 (by first | assumption | rfl) (by decide) (by omega) rfl rfl (Nat.le_of_ble_eq_true rfl) (c_meets (d := d - 1) 1) (fun v1 σ1 hv1 => ?_)
          refine m_qI hv1 ?_
          clear hv1 v1 σ1
          exact m_ireturn dX11_put_39 ⟨_, rfl, rfl, rfl⟩
      · rw [e, if_neg (show ¬ (2 : Int32) = 0 by decide), if_neg (show ¬ (2 : Int32) = 0 by decide)]
        refine m_aload_n dX11_put_19 0 rfl ?_
        refine m_iload_n dX11_put_20 1 rfl ?_
        refine m_iload_n dX11_put_21 2 rfl ?_
        refine m_iload_n dX11_put_22 3 rfl ?_
        refine m_callV (As := [_, _, _]) dX11_put_23 cv_X11_375 (by first | assumption | rfl) (by decide) (by omega) rfl rfl (Nat.le_of_ble_eq_true rfl) (c_lacks (d := d - 1) (by omega) S hS j hj f i) (fun v1 σ1 hv1 => ?_)
        refine m_qI hv1 ?_
        clear hv1 v1 σ1
        refine mW.top e ?_
        refine m_istore (ls1 := [(5, _), (0, _), (1, _), (2, _), (3, _), (4, _)]) dX11_put_26 (by decide) rfl ?_
        refine m_iload dX11_put_28 0 rfl ?_
        refine m_if_le dX11_put_30 40 (by decide) (fun h => ?_) (fun h => ?_)
        · exact absurd h (by decide)
        · refine m_aload_n dX11_put_33 1 rfl ?_
          refine m_iload dX11_put_34 0 rfl ?_
          refine m_callV (As := [_]) dX11_put_36 cv_X11_210 (by first | assumption | rfl) (by decide) (by omega) rfl rfl (Nat.le_of_ble_eq_true rfl) (c_meets (d := d - 1) 2) (fun v1 σ1 hv1 => ?_)
          refine m_qI hv1 ?_
          clear hv1 v1 σ1
          exact m_ireturn dX11_put_39 ⟨_, rfl, rfl, rfl⟩
      · rw [e, if_neg (show ¬ (3 : Int32) = 0 by decide), if_neg (show ¬ (3 : Int32) = 0 by decide)]
        refine m_aload_n dX11_put_19 0 rfl ?_
        refine m_iload_n dX11_put_20 1 rfl ?_
        refine m_iload_n dX11_put_21 2 rfl ?_
        refine m_iload_n dX11_put_22 3 rfl ?_
        refine m_callV (As := [_, _, _]) dX11_put_23 cv_X11_375 (by first | assumption | rfl) (by decide) (by omega) rfl rfl (Nat.le_of_ble_eq_true rfl) (c_lacks (d := d - 1) (by omega) S hS j hj f i) (fun v1 σ1 hv1 => ?_)
        refine m_qI hv1 ?_
        clear hv1 v1 σ1
        refine mW.top e ?_
        refine m_istore (ls1 := [(5, _), (0, _), (1, _), (2, _), (3, _), (4, _)]) dX11_put_26 (by decide) rfl ?_
        refine m_iload dX11_put_28 0 rfl ?_
        refine m_if_le dX11_put_30 40 (by decide) (fun h => ?_) (fun h => ?_)
        · exact absurd h (by decide)
        · refine m_aload_n dX11_put_33 1 rfl ?_
          refine m_iload dX11_put_34 0 rfl ?_
          refine m_callV (As := [_]) dX11_put_36 cv_X11_210 (by first | assumption | rfl) (by decide) (by omega) rfl rfl (Nat.le_of_ble_eq_true rfl) (c_meets (d := d - 1) 3) (fun v1 σ1 hv1 => ?_)
          refine m_qI hv1 ?_
          clear hv1 v1 σ1
          exact m_ireturn dX11_put_39 ⟨_, rfl, rfl, rfl⟩
theorem r_get (hd : 2 ≤ d) (S : Nat → Nat) (hS : okH σ S) (s f i : Int32) : mMet G l d kX11_get [.ref 111, .int s, .int f, .int i] σ (qIP (fun r s1 => r = gtR (σ.1 148) (σ.1 149) S (σ.1 151) s f i ∧ s1 = if wI s 4 ∧ wI f 3 then (if lkS (σ.1 148) (σ.1 149) S s f i = 0 then σ else us σ 111 52 (lkS (σ.1 148) (σ.1 149) S s f i)) else σ)) := by
  refine mMet.of cm_X11_get rfl (Nat.le_of_ble_eq_true rfl) rfl (fun v1 σ1 h => by obtain ⟨r, h1, -⟩ := h; rw [h1]; rfl) ?_
  unfold gtR lkS
  refine m_iload_n dX11_get_0 1 rfl ?_
  refine m_callS (As := [_]) dX11_get_1 cs_X11_207 (by omega) rfl rfl (Nat.le_of_ble_eq_true rfl) (c_isSheet (d := d - 1) (by omega) s) (fun v1 σ1 hv1 => ?_)
  refine m_qI hv1 ?_
  clear hv1 v1 σ1
  refine m_if_eq dX11_get_4 16 (by decide) (fun h0 => ?_) (fun h0 => ?_)
  · have g0 : ¬ (wI s 4 ∧ wI f 3) := fun q => bI0 h0 ((wI_le (n := 3) (by decide)).mpr q.1)
    refine m_ldc_w dX11_get_16 kc_X11_381 ?_
    exact m_ireturn dX11_get_19 ⟨_, rfl, by rw [if_neg g0], by rw [if_neg g0]⟩
  · have w0 : wI s 4 := (wI_le (n := 3) (by decide)).mp (bI1 h0)
    refine m_iload_n dX11_get_7 2 rfl ?_
    refine m_iconst (v := 0) dX11_get_8 (by decide) ?_
    refine m_iconst (v := 2) dX11_get_9 (by decide) ?_
    refine m_callS (As := [_, _, _]) dX11_get_10 cs_X11_136 (by omega) rfl rfl (Nat.le_of_ble_eq_true rfl) (c_in (d := d - 1) f 0 2) (fun v1 σ1 hv1 => ?_)
    refine m_qI hv1 ?_
    clear hv1 v1 σ1
    refine m_if_ne dX11_get_13 20 (by decide) (fun h1 => ?_) (fun h1 => ?_)
    rotate_left
    · have g0 : ¬ (wI s 4 ∧ wI f 3) := fun q => bI0 h1 ((wI_le (n := 2) (by decide)).mpr q.2)
      refine m_ldc_w dX11_get_16 kc_X11_381 ?_
      exact m_ireturn dX11_get_19 ⟨_, rfl, by rw [if_neg g0], by rw [if_neg g0]⟩
    · have w1 : wI f 3 := (wI_le (n := 2) (by decide)).mp (bI1 h1)
      rw [if_pos (And.intro w0 w1), if_pos (And.intro w0 w1)]
      obtain ⟨j, hj, rfl⟩ := wI_of (by omega) w0
      rw [clN (show j < 1000 by omega)]
      clear h0 h1
      have hSj := (hS j hj).2.2
      by_cases e : lkF (σ.1 148 j) (σ.1 149 j) f (S j) i = 0
      · obtain ⟨k, hk, rfl⟩ := wI_of (by omega) (lkF_0 e)
        rw [if_pos e, if_pos e, clN (show k < 1000 by omega)]
        refine m_aload_n dX11_get_20 0 rfl ?_
        refine m_iload_n dX11_get_21 1 rfl ?_
        refine m_iload_n dX11_get_22 2 rfl ?_
        refine m_iload_n dX11_get_23 3 rfl ?_
        refine m_callV (As := [_, _, _]) dX11_get_24 cv_X11_375 (by first | assumption | rfl) (by decide) (by omega) rfl rfl (Nat.le_of_ble_eq_true rfl) (c_lacks (d := d - 1) (by omega) S hS j hj f (nI k)) (fun v1 σ1 hv1 => ?_)
        refine m_qI hv1 ?_
        clear hv1 v1 σ1
        refine mW.top e ?_
        refine m_istore (ls1 := [(4, _), (0, _), (1, _), (2, _), (3, _)]) dX11_get_27 (by decide) rfl ?_
        refine m_iload dX11_get_29 0 rfl ?_
        refine m_if_le dX11_get_31 44 (by decide) (fun h => ?_) (fun h => ?_)
        rotate_left
        · exact absurd (Int32.le_refl _) h
        · refine m_aload_n dX11_get_44 1 rfl ?_
          refine m_getR 50 151 dX11_get_45 fl_X11_128_10 rfl (by decide) rfl (by first | assumption | rfl) ?_
          refine m_bipush (v := 60) dX11_get_48 (by decide) ?_
          refine m_iload_n dX11_get_50 2 rfl ?_
          refine m_imul dX11_get_51 ?_
          refine mW.top (w := nI (60 * j)) (pk_mul 60 j) ?_
          refine m_iload_n dX11_get_52 4 rfl ?_
          refine m_iadd dX11_get_53 ?_
          refine mW.top (w := nI (60 * j + k)) (nadd rfl) ?_
          refine m_iald dX11_get_54 (by first | assumption | rfl) (60 * j + k) rfl (by first | assumption | omega | decide) ?_
          exact m_ireturn dX11_get_55 ⟨_, rfl, rfl, rfl⟩
      · rw [if_neg e, if_neg e]
        refine m_aload_n dX11_get_20 0 rfl ?_
        refine m_iload_n dX11_get_21 1 rfl ?_
        refine m_iload_n dX11_get_22 2 rfl ?_
        refine m_iload_n dX11_get_23 3 rfl ?_
        refine m_callV (As := [_, _, _]) dX11_get_24 cv_X11_375 (by first | assumption | rfl) (by decide) (by omega) rfl rfl (Nat.le_of_ble_eq_true rfl) (c_lacks (d := d - 1) (by omega) S hS j hj f i) (fun v1 σ1 hv1 => ?_)
        refine m_qI hv1 ?_
        clear hv1 v1 σ1
        refine m_istore (ls1 := [(4, _), (0, _), (1, _), (2, _), (3, _)]) dX11_get_27 (by decide) rfl ?_
        refine m_iload dX11_get_29 0 rfl ?_
        refine m_if_le dX11_get_31 44 (by decide) (fun h => ?_) (fun h => ?_)
        · exfalso
          rcases lkF_of (σ.1 148 j) (σ.1 149 j) f (S j) i with q | q | q | q
          · exact e q
          · rw [q] at h; exact absurd h (by decide)
          · rw [q] at h; exact absurd h (by decide)
          · rw [q] at h; exact absurd h (by decide)
        · refine m_aload_n dX11_get_34 1 rfl ?_
          refine m_iload dX11_get_35 0 rfl ?_
          refine m_putI 52 dX11_get_37 fw_X11_372_10 rfl (by decide) rfl rfl (by first | assumption | rfl) ?_
          refine m_ldc_w dX11_get_40 kc_X11_381 ?_
          exact m_ireturn dX11_get_43 ⟨_, rfl, rfl, rfl⟩
end SH


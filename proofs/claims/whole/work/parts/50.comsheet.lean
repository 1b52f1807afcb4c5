/-! ===== the class's sheets ===== -/
/-- how long the class's sheets are; -1: lost -/
def okG (σ : mS) (th : Nat → Int32) (S : Nat → Nat) : Prop := ∀ j, j < 4 → σ.1 46 j = (if th j = 0 then -1 else nI (S j)) ∧ S j ≤ 60
theorem sh_row {j : Nat} (hj : j < 4) : mshp (40 + 1 + j) = (11, 60) := by
  have h : ∀ j, j < 4 → mshp (40 + 1 + j) = (11, 60) := by decide +kernel
  exact h j hj
theorem okG.len {σ : mS} {th : Nat → Int32} {S : Nat → Nat} (h : okG σ th S) {j : Nat} (hj : j < 4) (ht : ¬ th j = 0) : σ.1 46 j = nI (S j) := by
  have := (h j hj).1
  rw [if_neg ht] at this
  exact this
section SH
variable {G : mG} {l : Launch} {d : Nat} {σ : mS}
theorem dX4_found_0 : decode cX4_found 0 = .ok (.aload_n 0, 1) := by decide +kernel
theorem dX4_found_1 : decode cX4_found 1 = .ok (.iload_n 1, 1) := by decide +kernel
theorem dX4_found_2 : decode cX4_found 2 = .ok (.putfield 23, 3) := by decide +kernel
theorem dX4_found_5 : decode cX4_found 5 = .ok (.bipush (-10), 2) := by decide +kernel
theorem dX4_found_7 : decode cX4_found 7 = .ok (.iload_n 1, 1) := by decide +kernel
theorem dX4_found_8 : decode cX4_found 8 = .ok (.isub, 1) := by decide +kernel
theorem dX4_found_9 : decode cX4_found 9 = .ok (.ireturn, 1) := by decide +kernel
theorem dX4_isLost_0 : decode cX4_isLost 0 = .ok (.aload_n 0, 1) := by decide +kernel
theorem dX4_isLost_1 : decode cX4_isLost 1 = .ok (.getfield 20, 3) := by decide +kernel
theorem dX4_isLost_4 : decode cX4_isLost 4 = .ok (.iload_n 1, 1) := by decide +kernel
theorem dX4_isLost_5 : decode cX4_isLost 5 = .ok (.iaload, 1) := by decide +kernel
theorem dX4_isLost_6 : decode cX4_isLost 6 = .ok (.iconst (-1), 1) := by decide +kernel
theorem dX4_isLost_7 : decode cX4_isLost 7 = .ok (.if_icmp .ne 7, 3) := by decide +kernel
theorem dX4_isLost_10 : decode cX4_isLost 10 = .ok (.iconst 1, 1) := by decide +kernel
theorem dX4_isLost_11 : decode cX4_isLost 11 = .ok (.goto 4, 3) := by decide +kernel
theorem dX4_isLost_14 : decode cX4_isLost 14 = .ok (.iconst 0, 1) := by decide +kernel
theorem dX4_isLost_15 : decode cX4_isLost 15 = .ok (.ireturn, 1) := by decide +kernel
theorem dX4_begin_0 : decode cX4_begin 0 = .ok (.aload_n 0, 1) := by decide +kernel
theorem dX4_begin_1 : decode cX4_begin 1 = .ok (.getfield 16, 3) := by decide +kernel
theorem dX4_begin_4 : decode cX4_begin 4 = .ok (.iload_n 1, 1) := by decide +kernel
theorem dX4_begin_5 : decode cX4_begin 5 = .ok (.iload_n 2, 1) := by decide +kernel
theorem dX4_begin_6 : decode cX4_begin 6 = .ok (.iastore, 1) := by decide +kernel
theorem dX4_begin_7 : decode cX4_begin 7 = .ok (.aload_n 0, 1) := by decide +kernel
theorem dX4_begin_8 : decode cX4_begin 8 = .ok (.getfield 20, 3) := by decide +kernel
theorem dX4_begin_11 : decode cX4_begin 11 = .ok (.iload_n 1, 1) := by decide +kernel
theorem dX4_begin_12 : decode cX4_begin 12 = .ok (.iload_n 3, 1) := by decide +kernel
theorem dX4_begin_13 : decode cX4_begin 13 = .ok (.iastore, 1) := by decide +kernel
theorem dX4_begin_14 : decode cX4_begin 14 = .ok (.aload_n 0, 1) := by decide +kernel
theorem dX4_begin_15 : decode cX4_begin 15 = .ok (.getfield 13, 3) := by decide +kernel
theorem dX4_begin_18 : decode cX4_begin 18 = .ok (.iload_n 1, 1) := by decide +kernel
theorem dX4_begin_19 : decode cX4_begin 19 = .ok (.aaload, 1) := by decide +kernel
theorem dX4_begin_20 : decode cX4_begin 20 = .ok (.iconst 0, 1) := by decide +kernel
theorem dX4_begin_21 : decode cX4_begin 21 = .ok (.invokestatic 27, 3) := by decide +kernel
theorem dX4_begin_24 : decode cX4_begin 24 = .ok (.return_, 1) := by decide +kernel
theorem dX4_barTo_0 : decode cX4_barTo 0 = .ok (.aload_n 0, 1) := by decide +kernel
theorem dX4_barTo_1 : decode cX4_barTo 1 = .ok (.iload_n 1, 1) := by decide +kernel
theorem dX4_barTo_2 : decode cX4_barTo 2 = .ok (.invokevirtual 33, 3) := by decide +kernel
theorem dX4_barTo_5 : decode cX4_barTo 5 = .ok (.ifCond .eq 5, 3) := by decide +kernel
theorem dX4_barTo_8 : decode cX4_barTo 8 = .ok (.iconst 1, 1) := by decide +kernel
theorem dX4_barTo_9 : decode cX4_barTo 9 = .ok (.ireturn, 1) := by decide +kernel
theorem dX4_barTo_10 : decode cX4_barTo 10 = .ok (.aload_n 0, 1) := by decide +kernel
theorem dX4_barTo_11 : decode cX4_barTo 11 = .ok (.getfield 16, 3) := by decide +kernel
theorem dX4_barTo_14 : decode cX4_barTo 14 = .ok (.iload_n 1, 1) := by decide +kernel
theorem dX4_barTo_15 : decode cX4_barTo 15 = .ok (.iaload, 1) := by decide +kernel
theorem dX4_barTo_16 : decode cX4_barTo 16 = .ok (.iload_n 2, 1) := by decide +kernel
theorem dX4_barTo_17 : decode cX4_barTo 17 = .ok (.if_icmp .eq 5, 3) := by decide +kernel
theorem dX4_barTo_20 : decode cX4_barTo 20 = .ok (.iconst 3, 1) := by decide +kernel
theorem dX4_barTo_21 : decode cX4_barTo 21 = .ok (.ireturn, 1) := by decide +kernel
theorem dX4_barTo_22 : decode cX4_barTo 22 = .ok (.iload_n 3, 1) := by decide +kernel
theorem dX4_barTo_23 : decode cX4_barTo 23 = .ok (.aload_n 0, 1) := by decide +kernel
theorem dX4_barTo_24 : decode cX4_barTo 24 = .ok (.getfield 20, 3) := by decide +kernel
theorem dX4_barTo_27 : decode cX4_barTo 27 = .ok (.iload_n 1, 1) := by decide +kernel
theorem dX4_barTo_28 : decode cX4_barTo 28 = .ok (.iaload, 1) := by decide +kernel
theorem dX4_barTo_29 : decode cX4_barTo 29 = .ok (.invokestatic 37, 3) := by decide +kernel
theorem dX4_barTo_32 : decode cX4_barTo 32 = .ok (.ifCond .eq 7, 3) := by decide +kernel
theorem dX4_barTo_35 : decode cX4_barTo 35 = .ok (.iconst 0, 1) := by decide +kernel
theorem dX4_barTo_36 : decode cX4_barTo 36 = .ok (.goto 4, 3) := by decide +kernel
theorem dX4_barTo_39 : decode cX4_barTo 39 = .ok (.iconst 2, 1) := by decide +kernel
theorem dX4_barTo_40 : decode cX4_barTo 40 = .ok (.ireturn, 1) := by decide +kernel
theorem dX4_hasSpan_0 : decode cX4_hasSpan 0 = .ok (.iload_n 2, 1) := by decide +kernel
theorem dX4_hasSpan_1 : decode cX4_hasSpan 1 = .ok (.ifCond .lt 33, 3) := by decide +kernel
theorem dX4_hasSpan_4 : decode cX4_hasSpan 4 = .ok (.iload_n 3, 1) := by decide +kernel
theorem dX4_hasSpan_5 : decode cX4_hasSpan 5 = .ok (.ifCond .lt 29, 3) := by decide +kernel
theorem dX4_hasSpan_8 : decode cX4_hasSpan 8 = .ok (.iload_n 3, 1) := by decide +kernel
theorem dX4_hasSpan_9 : decode cX4_hasSpan 9 = .ok (.aload_n 0, 1) := by decide +kernel
theorem dX4_hasSpan_10 : decode cX4_hasSpan 10 = .ok (.getfield 20, 3) := by decide +kernel
theorem dX4_hasSpan_13 : decode cX4_hasSpan 13 = .ok (.iload_n 1, 1) := by decide +kernel
theorem dX4_hasSpan_14 : decode cX4_hasSpan 14 = .ok (.iaload, 1) := by decide +kernel
theorem dX4_hasSpan_15 : decode cX4_hasSpan 15 = .ok (.if_icmp .gt 19, 3) := by decide +kernel
theorem dX4_hasSpan_18 : decode cX4_hasSpan 18 = .ok (.iload_n 2, 1) := by decide +kernel
theorem dX4_hasSpan_19 : decode cX4_hasSpan 19 = .ok (.aload_n 0, 1) := by decide +kernel
theorem dX4_hasSpan_20 : decode cX4_hasSpan 20 = .ok (.getfield 20, 3) := by decide +kernel
theorem dX4_hasSpan_23 : decode cX4_hasSpan 23 = .ok (.iload_n 1, 1) := by decide +kernel
theorem dX4_hasSpan_24 : decode cX4_hasSpan 24 = .ok (.iaload, 1) := by decide +kernel
theorem dX4_hasSpan_25 : decode cX4_hasSpan 25 = .ok (.iload_n 3, 1) := by decide +kernel
theorem dX4_hasSpan_26 : decode cX4_hasSpan 26 = .ok (.isub, 1) := by decide +kernel
theorem dX4_hasSpan_27 : decode cX4_hasSpan 27 = .ok (.if_icmp .gt 7, 3) := by decide +kernel
theorem dX4_hasSpan_30 : decode cX4_hasSpan 30 = .ok (.iconst 1, 1) := by decide +kernel
theorem dX4_hasSpan_31 : decode cX4_hasSpan 31 = .ok (.goto 4, 3) := by decide +kernel
theorem dX4_hasSpan_34 : decode cX4_hasSpan 34 = .ok (.iconst 0, 1) := by decide +kernel
theorem dX4_hasSpan_35 : decode cX4_hasSpan 35 = .ok (.ireturn, 1) := by decide +kernel
theorem dX4_lowestBits_0 : decode cX4_lowestBits 0 = .ok (.iload_n 0, 1) := by decide +kernel
theorem dX4_lowestBits_1 : decode cX4_lowestBits 1 = .ok (.ifCond .ne 8, 3) := by decide +kernel
theorem dX4_lowestBits_4 : decode cX4_lowestBits 4 = .ok (.iload_n 1, 1) := by decide +kernel
theorem dX4_lowestBits_5 : decode cX4_lowestBits 5 = .ok (.i2b, 1) := by decide +kernel
theorem dX4_lowestBits_6 : decode cX4_lowestBits 6 = .ok (.goto 14, 3) := by decide +kernel
theorem dX4_lowestBits_9 : decode cX4_lowestBits 9 = .ok (.iload_n 0, 1) := by decide +kernel
theorem dX4_lowestBits_10 : decode cX4_lowestBits 10 = .ok (.iconst 1, 1) := by decide +kernel
theorem dX4_lowestBits_11 : decode cX4_lowestBits 11 = .ok (.if_icmp .ne 8, 3) := by decide +kernel
theorem dX4_lowestBits_14 : decode cX4_lowestBits 14 = .ok (.iload_n 1, 1) := by decide +kernel
theorem dX4_lowestBits_15 : decode cX4_lowestBits 15 = .ok (.i2s, 1) := by decide +kernel
theorem dX4_lowestBits_16 : decode cX4_lowestBits 16 = .ok (.goto 4, 3) := by decide +kernel
theorem dX4_lowestBits_19 : decode cX4_lowestBits 19 = .ok (.iload_n 1, 1) := by decide +kernel
theorem dX4_lowestBits_20 : decode cX4_lowestBits 20 = .ok (.ireturn, 1) := by decide +kernel
theorem dX10_sheet_0 : decode cX10_sheet 0 = .ok (.iload_n 1, 1) := by decide +kernel
theorem dX10_sheet_1 : decode cX10_sheet 1 = .ok (.iconst 4, 1) := by decide +kernel
theorem dX10_sheet_2 : decode cX10_sheet 2 = .ok (.invokestatic 81, 3) := by decide +kernel
theorem dX10_sheet_5 : decode cX10_sheet 5 = .ok (.ifCond .eq 17, 3) := by decide +kernel
theorem dX10_sheet_8 : decode cX10_sheet 8 = .ok (.iload_n 2, 1) := by decide +kernel
theorem dX10_sheet_9 : decode cX10_sheet 9 = .ok (.iconst 3, 1) := by decide +kernel
theorem dX10_sheet_10 : decode cX10_sheet 10 = .ok (.invokestatic 81, 3) := by decide +kernel
theorem dX10_sheet_13 : decode cX10_sheet 13 = .ok (.ifCond .eq 9, 3) := by decide +kernel
theorem dX10_sheet_16 : decode cX10_sheet 16 = .ok (.iload_n 3, 1) := by decide +kernel
theorem dX10_sheet_17 : decode cX10_sheet 17 = .ok (.bipush 60, 2) := by decide +kernel
theorem dX10_sheet_19 : decode cX10_sheet 19 = .ok (.if_icmp .le 6, 3) := by decide +kernel
theorem dX10_sheet_22 : decode cX10_sheet 22 = .ok (.bipush (-2), 2) := by decide +kernel
theorem dX10_sheet_24 : decode cX10_sheet 24 = .ok (.ireturn, 1) := by decide +kernel
theorem dX10_sheet_25 : decode cX10_sheet 25 = .ok (.iload_n 3, 1) := by decide +kernel
theorem dX10_sheet_26 : decode cX10_sheet 26 = .ok (.ifCond .ge 12, 3) := by decide +kernel
theorem dX10_sheet_29 : decode cX10_sheet 29 = .ok (.aload_n 0, 1) := by decide +kernel
theorem dX10_sheet_30 : decode cX10_sheet 30 = .ok (.getfield 50, 3) := by decide +kernel
theorem dX10_sheet_33 : decode cX10_sheet 33 = .ok (.iconst 5, 1) := by decide +kernel
theorem dX10_sheet_34 : decode cX10_sheet 34 = .ok (.invokevirtual 127, 3) := by decide +kernel
theorem dX10_sheet_37 : decode cX10_sheet 37 = .ok (.ireturn, 1) := by decide +kernel
theorem dX10_sheet_38 : decode cX10_sheet 38 = .ok (.aload_n 0, 1) := by decide +kernel
theorem dX10_sheet_39 : decode cX10_sheet 39 = .ok (.getfield 50, 3) := by decide +kernel
theorem dX10_sheet_42 : decode cX10_sheet 42 = .ok (.iload_n 1, 1) := by decide +kernel
theorem dX10_sheet_43 : decode cX10_sheet 43 = .ok (.iload_n 2, 1) := by decide +kernel
theorem dX10_sheet_44 : decode cX10_sheet 44 = .ok (.iload_n 3, 1) := by decide +kernel
theorem dX10_sheet_45 : decode cX10_sheet 45 = .ok (.invokevirtual 233, 3) := by decide +kernel
theorem dX10_sheet_48 : decode cX10_sheet 48 = .ok (.iload_n 3, 1) := by decide +kernel
theorem dX10_sheet_49 : decode cX10_sheet 49 = .ok (.ireturn, 1) := by decide +kernel
theorem dX10_lose_0 : decode cX10_lose 0 = .ok (.iload_n 1, 1) := by decide +kernel
theorem dX10_lose_1 : decode cX10_lose 1 = .ok (.iconst 4, 1) := by decide +kernel
theorem dX10_lose_2 : decode cX10_lose 2 = .ok (.invokestatic 81, 3) := by decide +kernel
theorem dX10_lose_5 : decode cX10_lose 5 = .ok (.ifCond .ne 6, 3) := by decide +kernel
theorem dX10_lose_8 : decode cX10_lose 8 = .ok (.bipush (-2), 2) := by decide +kernel
theorem dX10_lose_10 : decode cX10_lose 10 = .ok (.ireturn, 1) := by decide +kernel
theorem dX10_lose_11 : decode cX10_lose 11 = .ok (.aload_n 0, 1) := by decide +kernel
theorem dX10_lose_12 : decode cX10_lose 12 = .ok (.getfield 50, 3) := by decide +kernel
theorem dX10_lose_15 : decode cX10_lose 15 = .ok (.iload_n 1, 1) := by decide +kernel
theorem dX10_lose_16 : decode cX10_lose 16 = .ok (.invokevirtual 123, 3) := by decide +kernel
theorem dX10_lose_19 : decode cX10_lose 19 = .ok (.ifCond .eq 12, 3) := by decide +kernel
theorem dX10_lose_22 : decode cX10_lose 22 = .ok (.aload_n 0, 1) := by decide +kernel
theorem dX10_lose_23 : decode cX10_lose 23 = .ok (.getfield 50, 3) := by decide +kernel
theorem dX10_lose_26 : decode cX10_lose 26 = .ok (.iconst 1, 1) := by decide +kernel
theorem dX10_lose_27 : decode cX10_lose 27 = .ok (.invokevirtual 127, 3) := by decide +kernel
theorem dX10_lose_30 : decode cX10_lose 30 = .ok (.ireturn, 1) := by decide +kernel
theorem dX10_lose_31 : decode cX10_lose 31 = .ok (.aload_n 0, 1) := by decide +kernel
theorem dX10_lose_32 : decode cX10_lose 32 = .ok (.getfield 50, 3) := by decide +kernel
theorem dX10_lose_35 : decode cX10_lose 35 = .ok (.getfield 134, 3) := by decide +kernel
theorem dX10_lose_38 : decode cX10_lose 38 = .ok (.iload_n 1, 1) := by decide +kernel
theorem dX10_lose_39 : decode cX10_lose 39 = .ok (.iaload, 1) := by decide +kernel
theorem dX10_lose_40 : decode cX10_lose 40 = .ok (.istore_n 2, 1) := by decide +kernel
theorem dX10_lose_41 : decode cX10_lose 41 = .ok (.aload_n 0, 1) := by decide +kernel
theorem dX10_lose_42 : decode cX10_lose 42 = .ok (.getfield 50, 3) := by decide +kernel
theorem dX10_lose_45 : decode cX10_lose 45 = .ok (.getfield 134, 3) := by decide +kernel
theorem dX10_lose_48 : decode cX10_lose 48 = .ok (.iload_n 1, 1) := by decide +kernel
theorem dX10_lose_49 : decode cX10_lose 49 = .ok (.iconst (-1), 1) := by decide +kernel
theorem dX10_lose_50 : decode cX10_lose 50 = .ok (.iastore, 1) := by decide +kernel
theorem dX10_lose_51 : decode cX10_lose 51 = .ok (.iload_n 2, 1) := by decide +kernel
theorem dX10_lose_52 : decode cX10_lose 52 = .ok (.ireturn, 1) := by decide +kernel
theorem dX10_put_0 : decode cX10_put 0 = .ok (.iload_n 1, 1) := by decide +kernel
theorem dX10_put_1 : decode cX10_put 1 = .ok (.iconst 4, 1) := by decide +kernel
theorem dX10_put_2 : decode cX10_put 2 = .ok (.invokestatic 81, 3) := by decide +kernel
theorem dX10_put_5 : decode cX10_put 5 = .ok (.ifCond .eq 11, 3) := by decide +kernel
theorem dX10_put_8 : decode cX10_put 8 = .ok (.iload_n 2, 1) := by decide +kernel
theorem dX10_put_9 : decode cX10_put 9 = .ok (.iconst 3, 1) := by decide +kernel
theorem dX10_put_10 : decode cX10_put 10 = .ok (.invokestatic 81, 3) := by decide +kernel
theorem dX10_put_13 : decode cX10_put 13 = .ok (.ifCond .ne 6, 3) := by decide +kernel
theorem dX10_put_16 : decode cX10_put 16 = .ok (.bipush (-2), 2) := by decide +kernel
theorem dX10_put_18 : decode cX10_put 18 = .ok (.ireturn, 1) := by decide +kernel
theorem dX10_put_19 : decode cX10_put 19 = .ok (.aload_n 0, 1) := by decide +kernel
theorem dX10_put_20 : decode cX10_put 20 = .ok (.getfield 50, 3) := by decide +kernel
theorem dX10_put_23 : decode cX10_put 23 = .ok (.iload_n 1, 1) := by decide +kernel
theorem dX10_put_24 : decode cX10_put 24 = .ok (.iload_n 2, 1) := by decide +kernel
theorem dX10_put_25 : decode cX10_put 25 = .ok (.iload_n 3, 1) := by decide +kernel
theorem dX10_put_26 : decode cX10_put 26 = .ok (.invokevirtual 236, 3) := by decide +kernel
theorem dX10_put_29 : decode cX10_put 29 = .ok (.istore 5, 2) := by decide +kernel
theorem dX10_put_31 : decode cX10_put 31 = .ok (.iload 5, 2) := by decide +kernel
theorem dX10_put_33 : decode cX10_put 33 = .ok (.ifCond .eq 13, 3) := by decide +kernel
theorem dX10_put_36 : decode cX10_put 36 = .ok (.aload_n 0, 1) := by decide +kernel
theorem dX10_put_37 : decode cX10_put 37 = .ok (.getfield 50, 3) := by decide +kernel
theorem dX10_put_40 : decode cX10_put 40 = .ok (.iload 5, 2) := by decide +kernel
theorem dX10_put_42 : decode cX10_put 42 = .ok (.invokevirtual 127, 3) := by decide +kernel
theorem dX10_put_45 : decode cX10_put 45 = .ok (.ireturn, 1) := by decide +kernel
theorem dX10_put_46 : decode cX10_put 46 = .ok (.aload_n 0, 1) := by decide +kernel
theorem dX10_put_47 : decode cX10_put 47 = .ok (.getfield 50, 3) := by decide +kernel
theorem dX10_put_50 : decode cX10_put 50 = .ok (.getfield 131, 3) := by decide +kernel
theorem dX10_put_53 : decode cX10_put 53 = .ok (.iload_n 1, 1) := by decide +kernel
theorem dX10_put_54 : decode cX10_put 54 = .ok (.aaload, 1) := by decide +kernel
theorem dX10_put_55 : decode cX10_put 55 = .ok (.iload_n 3, 1) := by decide +kernel
theorem dX10_put_56 : decode cX10_put 56 = .ok (.iload_n 2, 1) := by decide +kernel
theorem dX10_put_57 : decode cX10_put 57 = .ok (.iload 4, 2) := by decide +kernel
theorem dX10_put_59 : decode cX10_put 59 = .ok (.invokestatic 239, 3) := by decide +kernel
theorem dX10_put_62 : decode cX10_put 62 = .ok (.iastore, 1) := by decide +kernel
theorem dX10_put_63 : decode cX10_put 63 = .ok (.iconst 1, 1) := by decide +kernel
theorem dX10_put_64 : decode cX10_put 64 = .ok (.ireturn, 1) := by decide +kernel
theorem dX10_get_0 : decode cX10_get 0 = .ok (.iload_n 1, 1) := by decide +kernel
theorem dX10_get_1 : decode cX10_get 1 = .ok (.iconst 4, 1) := by decide +kernel
theorem dX10_get_2 : decode cX10_get 2 = .ok (.invokestatic 81, 3) := by decide +kernel
theorem dX10_get_5 : decode cX10_get 5 = .ok (.ifCond .eq 11, 3) := by decide +kernel
theorem dX10_get_8 : decode cX10_get 8 = .ok (.iload_n 2, 1) := by decide +kernel
theorem dX10_get_9 : decode cX10_get 9 = .ok (.iconst 3, 1) := by decide +kernel
theorem dX10_get_10 : decode cX10_get 10 = .ok (.invokestatic 81, 3) := by decide +kernel
theorem dX10_get_13 : decode cX10_get 13 = .ok (.ifCond .ne 6, 3) := by decide +kernel
theorem dX10_get_16 : decode cX10_get 16 = .ok (.ldc 242, 2) := by decide +kernel
theorem dX10_get_18 : decode cX10_get 18 = .ok (.ireturn, 1) := by decide +kernel
theorem dX10_get_19 : decode cX10_get 19 = .ok (.aload_n 0, 1) := by decide +kernel
theorem dX10_get_20 : decode cX10_get 20 = .ok (.getfield 50, 3) := by decide +kernel
theorem dX10_get_23 : decode cX10_get 23 = .ok (.iload_n 1, 1) := by decide +kernel
theorem dX10_get_24 : decode cX10_get 24 = .ok (.iload_n 2, 1) := by decide +kernel
theorem dX10_get_25 : decode cX10_get 25 = .ok (.iload_n 3, 1) := by decide +kernel
theorem dX10_get_26 : decode cX10_get 26 = .ok (.invokevirtual 236, 3) := by decide +kernel
theorem dX10_get_29 : decode cX10_get 29 = .ok (.istore 4, 2) := by decide +kernel
theorem dX10_get_31 : decode cX10_get 31 = .ok (.iload 4, 2) := by decide +kernel
theorem dX10_get_33 : decode cX10_get 33 = .ok (.ifCond .eq 16, 3) := by decide +kernel
theorem dX10_get_36 : decode cX10_get 36 = .ok (.aload_n 0, 1) := by decide +kernel
theorem dX10_get_37 : decode cX10_get 37 = .ok (.getfield 50, 3) := by decide +kernel
theorem dX10_get_40 : decode cX10_get 40 = .ok (.iload 4, 2) := by decide +kernel
theorem dX10_get_42 : decode cX10_get 42 = .ok (.invokevirtual 127, 3) := by decide +kernel
theorem dX10_get_45 : decode cX10_get 45 = .ok (.pop, 1) := by decide +kernel
theorem dX10_get_46 : decode cX10_get 46 = .ok (.ldc 242, 2) := by decide +kernel
theorem dX10_get_48 : decode cX10_get 48 = .ok (.ireturn, 1) := by decide +kernel
theorem dX10_get_49 : decode cX10_get 49 = .ok (.aload_n 0, 1) := by decide +kernel
theorem dX10_get_50 : decode cX10_get 50 = .ok (.getfield 50, 3) := by decide +kernel
theorem dX10_get_53 : decode cX10_get 53 = .ok (.getfield 131, 3) := by decide +kernel
theorem dX10_get_56 : decode cX10_get 56 = .ok (.iload_n 1, 1) := by decide +kernel
theorem dX10_get_57 : decode cX10_get 57 = .ok (.aaload, 1) := by decide +kernel
theorem dX10_get_58 : decode cX10_get 58 = .ok (.iload_n 3, 1) := by decide +kernel
theorem dX10_get_59 : decode cX10_get 59 = .ok (.iaload, 1) := by decide +kernel
theorem dX10_get_60 : decode cX10_get 60 = .ok (.ireturn, 1) := by decide +kernel
theorem dX10_copy_0 : decode cX10_copy 0 = .ok (.iload_n 1, 1) := by decide +kernel
theorem dX10_copy_1 : decode cX10_copy 1 = .ok (.iconst 4, 1) := by decide +kernel
theorem dX10_copy_2 : decode cX10_copy 2 = .ok (.invokestatic 81, 3) := by decide +kernel
theorem dX10_copy_5 : decode cX10_copy 5 = .ok (.ifCond .eq 11, 3) := by decide +kernel
theorem dX10_copy_8 : decode cX10_copy 8 = .ok (.iload_n 3, 1) := by decide +kernel
theorem dX10_copy_9 : decode cX10_copy 9 = .ok (.iconst 4, 1) := by decide +kernel
theorem dX10_copy_10 : decode cX10_copy 10 = .ok (.invokestatic 81, 3) := by decide +kernel
theorem dX10_copy_13 : decode cX10_copy 13 = .ok (.ifCond .ne 6, 3) := by decide +kernel
theorem dX10_copy_16 : decode cX10_copy 16 = .ok (.bipush (-2), 2) := by decide +kernel
theorem dX10_copy_18 : decode cX10_copy 18 = .ok (.ireturn, 1) := by decide +kernel
theorem dX10_copy_19 : decode cX10_copy 19 = .ok (.aload_n 0, 1) := by decide +kernel
theorem dX10_copy_20 : decode cX10_copy 20 = .ok (.getfield 50, 3) := by decide +kernel
theorem dX10_copy_23 : decode cX10_copy 23 = .ok (.iload_n 1, 1) := by decide +kernel
theorem dX10_copy_24 : decode cX10_copy 24 = .ok (.invokevirtual 123, 3) := by decide +kernel
theorem dX10_copy_27 : decode cX10_copy 27 = .ok (.ifCond .ne 14, 3) := by decide +kernel
theorem dX10_copy_30 : decode cX10_copy 30 = .ok (.aload_n 0, 1) := by decide +kernel
theorem dX10_copy_31 : decode cX10_copy 31 = .ok (.getfield 50, 3) := by decide +kernel
theorem dX10_copy_34 : decode cX10_copy 34 = .ok (.iload_n 3, 1) := by decide +kernel
theorem dX10_copy_35 : decode cX10_copy 35 = .ok (.invokevirtual 123, 3) := by decide +kernel
theorem dX10_copy_38 : decode cX10_copy 38 = .ok (.ifCond .eq 12, 3) := by decide +kernel
theorem dX10_copy_41 : decode cX10_copy 41 = .ok (.aload_n 0, 1) := by decide +kernel
theorem dX10_copy_42 : decode cX10_copy 42 = .ok (.getfield 50, 3) := by decide +kernel
theorem dX10_copy_45 : decode cX10_copy 45 = .ok (.iconst 1, 1) := by decide +kernel
theorem dX10_copy_46 : decode cX10_copy 46 = .ok (.invokevirtual 127, 3) := by decide +kernel
theorem dX10_copy_49 : decode cX10_copy 49 = .ok (.ireturn, 1) := by decide +kernel
theorem dX10_copy_50 : decode cX10_copy 50 = .ok (.aload_n 0, 1) := by decide +kernel
theorem dX10_copy_51 : decode cX10_copy 51 = .ok (.getfield 50, 3) := by decide +kernel
theorem dX10_copy_54 : decode cX10_copy 54 = .ok (.getfield 243, 3) := by decide +kernel
theorem dX10_copy_57 : decode cX10_copy 57 = .ok (.iload_n 1, 1) := by decide +kernel
theorem dX10_copy_58 : decode cX10_copy 58 = .ok (.iaload, 1) := by decide +kernel
theorem dX10_copy_59 : decode cX10_copy 59 = .ok (.aload_n 0, 1) := by decide +kernel
theorem dX10_copy_60 : decode cX10_copy 60 = .ok (.getfield 50, 3) := by decide +kernel
theorem dX10_copy_63 : decode cX10_copy 63 = .ok (.getfield 243, 3) := by decide +kernel
theorem dX10_copy_66 : decode cX10_copy 66 = .ok (.iload_n 3, 1) := by decide +kernel
theorem dX10_copy_67 : decode cX10_copy 67 = .ok (.iaload, 1) := by decide +kernel
theorem dX10_copy_68 : decode cX10_copy 68 = .ok (.if_icmp .eq 12, 3) := by decide +kernel
theorem dX10_copy_71 : decode cX10_copy 71 = .ok (.aload_n 0, 1) := by decide +kernel
theorem dX10_copy_72 : decode cX10_copy 72 = .ok (.getfield 50, 3) := by decide +kernel
theorem dX10_copy_75 : decode cX10_copy 75 = .ok (.iconst 4, 1) := by decide +kernel
theorem dX10_copy_76 : decode cX10_copy 76 = .ok (.invokevirtual 127, 3) := by decide +kernel
theorem dX10_copy_79 : decode cX10_copy 79 = .ok (.ireturn, 1) := by decide +kernel
theorem dX10_copy_80 : decode cX10_copy 80 = .ok (.aload_n 0, 1) := by decide +kernel
theorem dX10_copy_81 : decode cX10_copy 81 = .ok (.getfield 50, 3) := by decide +kernel
theorem dX10_copy_84 : decode cX10_copy 84 = .ok (.iload_n 1, 1) := by decide +kernel
theorem dX10_copy_85 : decode cX10_copy 85 = .ok (.iload_n 2, 1) := by decide +kernel
theorem dX10_copy_86 : decode cX10_copy 86 = .ok (.iload 5, 2) := by decide +kernel
theorem dX10_copy_88 : decode cX10_copy 88 = .ok (.invokevirtual 246, 3) := by decide +kernel
theorem dX10_copy_91 : decode cX10_copy 91 = .ok (.ifCond .eq 18, 3) := by decide +kernel
theorem dX10_copy_94 : decode cX10_copy 94 = .ok (.aload_n 0, 1) := by decide +kernel
theorem dX10_copy_95 : decode cX10_copy 95 = .ok (.getfield 50, 3) := by decide +kernel
theorem dX10_copy_98 : decode cX10_copy 98 = .ok (.iload_n 3, 1) := by decide +kernel
theorem dX10_copy_99 : decode cX10_copy 99 = .ok (.iload 4, 2) := by decide +kernel
theorem dX10_copy_101 : decode cX10_copy 101 = .ok (.iload 5, 2) := by decide +kernel
theorem dX10_copy_103 : decode cX10_copy 103 = .ok (.invokevirtual 246, 3) := by decide +kernel
theorem dX10_copy_106 : decode cX10_copy 106 = .ok (.ifCond .ne 12, 3) := by decide +kernel
theorem dX10_copy_109 : decode cX10_copy 109 = .ok (.aload_n 0, 1) := by decide +kernel
theorem dX10_copy_110 : decode cX10_copy 110 = .ok (.getfield 50, 3) := by decide +kernel
theorem dX10_copy_113 : decode cX10_copy 113 = .ok (.iconst 2, 1) := by decide +kernel
theorem dX10_copy_114 : decode cX10_copy 114 = .ok (.invokevirtual 127, 3) := by decide +kernel
theorem dX10_copy_117 : decode cX10_copy 117 = .ok (.ireturn, 1) := by decide +kernel
theorem dX10_copy_118 : decode cX10_copy 118 = .ok (.aload_n 0, 1) := by decide +kernel
theorem dX10_copy_119 : decode cX10_copy 119 = .ok (.getfield 50, 3) := by decide +kernel
theorem dX10_copy_122 : decode cX10_copy 122 = .ok (.getfield 131, 3) := by decide +kernel
theorem dX10_copy_125 : decode cX10_copy 125 = .ok (.iload_n 1, 1) := by decide +kernel
theorem dX10_copy_126 : decode cX10_copy 126 = .ok (.aaload, 1) := by decide +kernel
theorem dX10_copy_127 : decode cX10_copy 127 = .ok (.iload_n 2, 1) := by decide +kernel
theorem dX10_copy_128 : decode cX10_copy 128 = .ok (.aload_n 0, 1) := by decide +kernel
theorem dX10_copy_129 : decode cX10_copy 129 = .ok (.getfield 50, 3) := by decide +kernel
theorem dX10_copy_132 : decode cX10_copy 132 = .ok (.getfield 131, 3) := by decide +kernel
theorem dX10_copy_135 : decode cX10_copy 135 = .ok (.iload_n 3, 1) := by decide +kernel
theorem dX10_copy_136 : decode cX10_copy 136 = .ok (.aaload, 1) := by decide +kernel
theorem dX10_copy_137 : decode cX10_copy 137 = .ok (.iload 4, 2) := by decide +kernel
theorem dX10_copy_139 : decode cX10_copy 139 = .ok (.iload 5, 2) := by decide +kernel
theorem dX10_copy_141 : decode cX10_copy 141 = .ok (.invokestatic 249, 3) := by decide +kernel
theorem dX10_copy_144 : decode cX10_copy 144 = .ok (.iconst 1, 1) := by decide +kernel
theorem dX10_copy_145 : decode cX10_copy 145 = .ok (.ireturn, 1) := by decide +kernel
theorem dX10_read_0 : decode cX10_read 0 = .ok (.iload_n 1, 1) := by decide +kernel
theorem dX10_read_1 : decode cX10_read 1 = .ok (.iconst 4, 1) := by decide +kernel
theorem dX10_read_2 : decode cX10_read 2 = .ok (.invokestatic 81, 3) := by decide +kernel
theorem dX10_read_5 : decode cX10_read 5 = .ok (.ifCond .ne 6, 3) := by decide +kernel
theorem dX10_read_8 : decode cX10_read 8 = .ok (.bipush (-2), 2) := by decide +kernel
theorem dX10_read_10 : decode cX10_read 10 = .ok (.ireturn, 1) := by decide +kernel
theorem dX10_read_11 : decode cX10_read 11 = .ok (.aload_n 0, 1) := by decide +kernel
theorem dX10_read_12 : decode cX10_read 12 = .ok (.getfield 50, 3) := by decide +kernel
theorem dX10_read_15 : decode cX10_read 15 = .ok (.iload_n 1, 1) := by decide +kernel
theorem dX10_read_16 : decode cX10_read 16 = .ok (.invokevirtual 123, 3) := by decide +kernel
theorem dX10_read_19 : decode cX10_read 19 = .ok (.ifCond .eq 12, 3) := by decide +kernel
theorem dX10_read_22 : decode cX10_read 22 = .ok (.aload_n 0, 1) := by decide +kernel
theorem dX10_read_23 : decode cX10_read 23 = .ok (.getfield 50, 3) := by decide +kernel
theorem dX10_read_26 : decode cX10_read 26 = .ok (.iconst 1, 1) := by decide +kernel
theorem dX10_read_27 : decode cX10_read 27 = .ok (.invokevirtual 127, 3) := by decide +kernel
theorem dX10_read_30 : decode cX10_read 30 = .ok (.ireturn, 1) := by decide +kernel
theorem dX10_read_31 : decode cX10_read 31 = .ok (.aload_n 0, 1) := by decide +kernel
theorem dX10_read_32 : decode cX10_read 32 = .ok (.getfield 50, 3) := by decide +kernel
theorem dX10_read_35 : decode cX10_read 35 = .ok (.getfield 131, 3) := by decide +kernel
theorem dX10_read_38 : decode cX10_read 38 = .ok (.iload_n 1, 1) := by decide +kernel
theorem dX10_read_39 : decode cX10_read 39 = .ok (.aaload, 1) := by decide +kernel
theorem dX10_read_40 : decode cX10_read 40 = .ok (.astore_n 2, 1) := by decide +kernel
theorem dX10_read_41 : decode cX10_read 41 = .ok (.iconst 0, 1) := by decide +kernel
theorem dX10_read_42 : decode cX10_read 42 = .ok (.istore_n 3, 1) := by decide +kernel
theorem dX10_read_43 : decode cX10_read 43 = .ok (.iconst 0, 1) := by decide +kernel
theorem dX10_read_44 : decode cX10_read 44 = .ok (.istore 4, 2) := by decide +kernel
theorem dX10_read_46 : decode cX10_read 46 = .ok (.iload 4, 2) := by decide +kernel
theorem dX10_read_48 : decode cX10_read 48 = .ok (.iconst 3, 1) := by decide +kernel
theorem dX10_read_49 : decode cX10_read 49 = .ok (.iadd, 1) := by decide +kernel
theorem dX10_read_50 : decode cX10_read 50 = .ok (.aload_n 0, 1) := by decide +kernel
theorem dX10_read_51 : decode cX10_read 51 = .ok (.getfield 50, 3) := by decide +kernel
theorem dX10_read_54 : decode cX10_read 54 = .ok (.getfield 134, 3) := by decide +kernel
theorem dX10_read_57 : decode cX10_read 57 = .ok (.iload_n 1, 1) := by decide +kernel
theorem dX10_read_58 : decode cX10_read 58 = .ok (.iaload, 1) := by decide +kernel
theorem dX10_read_59 : decode cX10_read 59 = .ok (.if_icmp .gt 72, 3) := by decide +kernel
theorem dX10_read_62 : decode cX10_read 62 = .ok (.aload_n 0, 1) := by decide +kernel
theorem dX10_read_63 : decode cX10_read 63 = .ok (.getfield 36, 3) := by decide +kernel
theorem dX10_read_66 : decode cX10_read 66 = .ok (.getfield 119, 3) := by decide +kernel
theorem dX10_read_69 : decode cX10_read 69 = .ok (.bipush 8, 2) := by decide +kernel
theorem dX10_read_71 : decode cX10_read 71 = .ok (.if_icmp .ge 60, 3) := by decide +kernel
theorem dX10_read_74 : decode cX10_read 74 = .ok (.aload_n 2, 1) := by decide +kernel
theorem dX10_read_75 : decode cX10_read 75 = .ok (.iload 4, 2) := by decide +kernel
theorem dX10_read_77 : decode cX10_read 77 = .ok (.iaload, 1) := by decide +kernel
theorem dX10_read_78 : decode cX10_read 78 = .ok (.aload_n 2, 1) := by decide +kernel
theorem dX10_read_79 : decode cX10_read 79 = .ok (.iload 4, 2) := by decide +kernel
theorem dX10_read_81 : decode cX10_read 81 = .ok (.iconst 1, 1) := by decide +kernel
theorem dX10_read_82 : decode cX10_read 82 = .ok (.iadd, 1) := by decide +kernel
theorem dX10_read_83 : decode cX10_read 83 = .ok (.iaload, 1) := by decide +kernel
theorem dX10_read_84 : decode cX10_read 84 = .ok (.aload_n 2, 1) := by decide +kernel
theorem dX10_read_85 : decode cX10_read 85 = .ok (.iload 4, 2) := by decide +kernel
theorem dX10_read_87 : decode cX10_read 87 = .ok (.iconst 2, 1) := by decide +kernel
theorem dX10_read_88 : decode cX10_read 88 = .ok (.iadd, 1) := by decide +kernel
theorem dX10_read_89 : decode cX10_read 89 = .ok (.iaload, 1) := by decide +kernel
theorem dX10_read_90 : decode cX10_read 90 = .ok (.invokestatic 115, 3) := by decide +kernel
theorem dX10_read_93 : decode cX10_read 93 = .ok (.ifCond .ne 6, 3) := by decide +kernel
theorem dX10_read_96 : decode cX10_read 96 = .ok (.goto 35, 3) := by decide +kernel
theorem dX10_read_99 : decode cX10_read 99 = .ok (.aload_n 0, 1) := by decide +kernel
theorem dX10_read_100 : decode cX10_read 100 = .ok (.getfield 36, 3) := by decide +kernel
theorem dX10_read_103 : decode cX10_read 103 = .ok (.aload_n 2, 1) := by decide +kernel
theorem dX10_read_104 : decode cX10_read 104 = .ok (.iload 4, 2) := by decide +kernel
theorem dX10_read_106 : decode cX10_read 106 = .ok (.iaload, 1) := by decide +kernel
theorem dX10_read_107 : decode cX10_read 107 = .ok (.aload_n 2, 1) := by decide +kernel
theorem dX10_read_108 : decode cX10_read 108 = .ok (.iload 4, 2) := by decide +kernel
theorem dX10_read_110 : decode cX10_read 110 = .ok (.iconst 1, 1) := by decide +kernel
theorem dX10_read_111 : decode cX10_read 111 = .ok (.iadd, 1) := by decide +kernel
theorem dX10_read_112 : decode cX10_read 112 = .ok (.iaload, 1) := by decide +kernel
theorem dX10_read_113 : decode cX10_read 113 = .ok (.aload_n 2, 1) := by decide +kernel
theorem dX10_read_114 : decode cX10_read 114 = .ok (.iload 4, 2) := by decide +kernel
theorem dX10_read_116 : decode cX10_read 116 = .ok (.iconst 2, 1) := by decide +kernel
theorem dX10_read_117 : decode cX10_read 117 = .ok (.iadd, 1) := by decide +kernel
theorem dX10_read_118 : decode cX10_read 118 = .ok (.iaload, 1) := by decide +kernel
theorem dX10_read_119 : decode cX10_read 119 = .ok (.invokevirtual 120, 3) := by decide +kernel
theorem dX10_read_122 : decode cX10_read 122 = .ok (.iinc 3 1, 3) := by decide +kernel
theorem dX10_read_125 : decode cX10_read 125 = .ok (.iinc 4 3, 3) := by decide +kernel
theorem dX10_read_128 : decode cX10_read 128 = .ok (.goto (-82), 3) := by decide +kernel
theorem dX10_read_131 : decode cX10_read 131 = .ok (.aload_n 0, 1) := by decide +kernel
theorem dX10_read_132 : decode cX10_read 132 = .ok (.iconst 1, 1) := by decide +kernel
theorem dX10_read_133 : decode cX10_read 133 = .ok (.putfield 77, 3) := by decide +kernel
theorem dX10_read_136 : decode cX10_read 136 = .ok (.iload_n 3, 1) := by decide +kernel
theorem dX10_read_137 : decode cX10_read 137 = .ok (.ireturn, 1) := by decide +kernel
theorem c_found (n : Int32) : mMet G l d kX4_found [.ref 39, .int n] σ (qI (-10 - n) (us σ 39 3 n)) := by
  refine mMet.of cm_X4_found rfl (Nat.le_of_ble_eq_true rfl) rfl (fun v1 σ1 h => by rw [h.1]; rfl) ?_
  refine m_aload_n dX4_found_0 0 rfl ?_
  refine m_iload_n dX4_found_1 1 rfl ?_
  refine m_putI 3 dX4_found_2 fw_X4_23_4 rfl (by decide) rfl rfl (by first | assumption | rfl) ?_
  refine m_bipush (v := -10) dX4_found_5 (by decide) ?_
  refine m_iload_n dX4_found_7 1 rfl ?_
  refine m_isub dX4_found_8 ?_
  exact m_ireturn dX4_found_9 ⟨rfl, rfl⟩
theorem c_isLost (th : Nat → Int32) (S : Nat → Nat) (hG : okG σ th S) (j : Nat) (hj : j < 4) : mMet G l d kX4_isLost [.ref 39, .int (nI j)] σ (qI (bI (decide (th j = 0))) σ) := by
  obtain ⟨h1, h60⟩ := hG j hj
  refine mMet.of cm_X4_isLost rfl (Nat.le_of_ble_eq_true rfl) rfl (fun v1 σ1 h => by rw [h.1]; exact bI_nar _) ?_
  refine m_aload_n dX4_isLost_0 0 rfl ?_
  refine m_getR 2 46 dX4_isLost_1 fl_X4_20_4 rfl (by decide) rfl (by first | assumption | rfl) ?_
  refine m_iload_n dX4_isLost_4 1 rfl ?_
  refine m_iald dX4_isLost_5 (by first | assumption | rfl) j rfl (by first | assumption | omega | decide) ?_
  refine mW.top h1 ?_
  refine m_iconst (v := -1) dX4_isLost_6 (by decide) ?_
  refine m_icmp_ne dX4_isLost_7 14 (by decide) (fun z1 => ?_) (fun z1 => ?_)
  · refine m_iconst (v := 0) dX4_isLost_14 (by decide) ?_
    exact m_ireturn dX4_isLost_15 (qI_of (bI_neg (fun q => z1 (if_pos q))))
  · have e : th j = 0 := by
      by_cases q : th j = 0
      · exact q
      · rw [if_neg q] at z1
        exact absurd z1 (ne_m1 (by omega))
    refine m_iconst (v := 1) dX4_isLost_10 (by decide) ?_
    refine m_goto dX4_isLost_11 15 (by decide) ?_
    exact m_ireturn dX4_isLost_15 (qI_of (bI_pos e))
theorem c_beginS (hd : 1 ≤ d) (j : Nat) (hj : j < 4) (f n : Int32) : mMet G l d kX4_begin [.ref 39, .int (nI j), .int f, .int n] σ (qVP (fun s => (∀ i, i < 60 → s.1 (41 + j) i = 0) ∧ fW (fun y z => y = 41 + j) (us (us σ 45 j f) 46 j n) s)) := by
  have hs := sh_row hj
  refine mMet.of cm_X4_begin rfl (Nat.le_of_ble_eq_true rfl) rfl (fun v1 σ1 h => by rw [h.1]; trivial) ?_
  refine m_aload_n dX4_begin_0 0 rfl ?_
  refine m_getR 1 45 dX4_begin_1 fl_X4_16_4 rfl (by decide) rfl (by first | assumption | rfl) ?_
  refine m_iload_n dX4_begin_4 1 rfl ?_
  refine m_iload_n dX4_begin_5 2 rfl ?_
  refine m_iast dX4_begin_6 (by first | assumption | rfl) j rfl (by first | assumption | omega | decide) ?_
  refine m_aload_n dX4_begin_7 0 rfl ?_
  refine m_getR 2 46 dX4_begin_8 fl_X4_20_4 rfl (by decide) rfl (by first | assumption | rfl) ?_
  refine m_iload_n dX4_begin_11 1 rfl ?_
  refine m_iload_n dX4_begin_12 3 rfl ?_
  refine m_iast dX4_begin_13 (by first | assumption | rfl) j rfl (by first | assumption | omega | decide) ?_
  refine m_aload_n dX4_begin_14 0 rfl ?_
  refine m_getR 0 40 dX4_begin_15 fl_X4_13_4 rfl (by decide) rfl (by first | assumption | rfl) ?_
  refine m_iload_n dX4_begin_18 1 rfl ?_
  refine m_aald dX4_begin_19 (by first | assumption | rfl) j rfl (by first | assumption | omega | decide) ?_
  refine m_iconst (v := 0) dX4_begin_20 (by decide) ?_
  refine m_callS (As := [_, _]) dX4_begin_21 cs_X4_27 (by omega) rfl rfl (Nat.le_of_ble_eq_true rfl) (c_fill (d := d - 1) hs 0) (fun v1 σ1 hv1 => ?_)
  refine m_qVP hv1 (fun hq => ?_)
  clear hv1 v1
  exact m_return dX4_begin_24 ⟨rfl, hq.1, hq.2.mono (fun y z h => h.1)⟩
theorem c_barTo (hd : 1 ≤ d) (th : Nat → Int32) (S : Nat → Nat) (hG : okG σ th S) (j : Nat) (hj : j < 4) (f i : Int32) : mMet G l d kX4_barTo [.ref 39, .int (nI j), .int f, .int i] σ (qI (lkF (th j) (σ.1 45 j) f (S j) i) σ) := by
  refine mMet.of cm_X4_barTo rfl (Nat.le_of_ble_eq_true rfl) rfl (fun v1 σ1 h => by rw [h.1]; rfl) ?_
  refine m_aload_n dX4_barTo_0 0 rfl ?_
  refine m_iload_n dX4_barTo_1 1 rfl ?_
  refine m_callV (As := [_]) dX4_barTo_2 cv_X4_33 (by first | assumption | rfl) (by decide) (by omega) rfl rfl (Nat.le_of_ble_eq_true rfl) (c_isLost (d := d - 1) th S hG j hj) (fun v1 σ1 hv1 => ?_)
  refine m_qI hv1 ?_
  clear hv1 v1 σ1
  refine m_if_eq dX4_barTo_5 10 (by decide) (fun z1 => ?_) (fun z1 => ?_)
  rotate_left
  · refine m_iconst (v := 1) dX4_barTo_8 (by decide) ?_
    exact m_ireturn dX4_barTo_9 (qI_of (if_pos (bI1 z1)).symm)
  have n1 : ¬ th j = 0 := bI0 z1
  have h1 := hG.len hj n1
  refine m_aload_n dX4_barTo_10 0 rfl ?_
  refine m_getR 1 45 dX4_barTo_11 fl_X4_16_4 rfl (by decide) rfl (by first | assumption | rfl) ?_
  refine m_iload_n dX4_barTo_14 1 rfl ?_
  refine m_iald dX4_barTo_15 (by first | assumption | rfl) j rfl (by first | assumption | omega | decide) ?_
  refine m_iload_n dX4_barTo_16 2 rfl ?_
  refine m_icmp_eq dX4_barTo_17 22 (by decide) (fun z2 => ?_) (fun z2 => ?_)
  rotate_left
  · refine m_iconst (v := 3) dX4_barTo_20 (by decide) ?_
    exact m_ireturn dX4_barTo_21 (qI_of (by unfold lkF; rw [if_neg n1, if_neg z2]))
  refine m_iload_n dX4_barTo_22 3 rfl ?_
  refine m_aload_n dX4_barTo_23 0 rfl ?_
  refine m_getR 2 46 dX4_barTo_24 fl_X4_20_4 rfl (by decide) rfl (by first | assumption | rfl) ?_
  refine m_iload_n dX4_barTo_27 1 rfl ?_
  refine m_iald dX4_barTo_28 (by first | assumption | rfl) j rfl (by first | assumption | omega | decide) ?_
  refine mW.top h1 ?_
  refine m_callS (As := [_, _]) dX4_barTo_29 cs_X4_37 (by omega) rfl rfl (Nat.le_of_ble_eq_true rfl) (c_within (d := d - 1) i (nI (S j))) (fun v1 σ1 hv1 => ?_)
  refine m_qI hv1 ?_
  clear hv1 v1 σ1
  refine m_if_eq dX4_barTo_32 39 (by decide) (fun z3 => ?_) (fun z3 => ?_)
  · refine m_iconst (v := 2) dX4_barTo_39 (by decide) ?_
    exact m_ireturn dX4_barTo_40 (qI_of (by unfold lkF; rw [if_neg n1, if_pos z2, if_neg (bI0 z3)]))
  · refine m_iconst (v := 0) dX4_barTo_35 (by decide) ?_
    refine m_goto dX4_barTo_36 40 (by decide) ?_
    exact m_ireturn dX4_barTo_40 (qI_of (by unfold lkF; rw [if_neg n1, if_pos z2, if_pos (bI1 z3)]))
theorem c_hasSpan (th : Nat → Int32) (S : Nat → Nat) (hG : okG σ th S) (j : Nat) (hj : j < 4) (n1 : ¬ th j = 0) (f n : Int32) : mMet G l d kX4_hasSpan [.ref 39, .int (nI j), .int f, .int n] σ (qI (bI (decide (cpOK f n (S j)))) σ) := by
  have h1 := hG.len hj n1
  have h60 := (hG j hj).2
  refine mMet.of cm_X4_hasSpan rfl (Nat.le_of_ble_eq_true rfl) rfl (fun v1 σ1 h => by rw [h.1]; exact bI_nar _) ?_
  have no : ¬ cpOK f n (S j) → mW G l d kX4_hasSpan 34 [(0, .ref 39), (1, .int (nI j)), (2, .int f), (3, .int n)] [] σ (qI (bI (decide (cpOK f n (S j)))) σ) := by
    intro z
    refine m_iconst (v := 0) dX4_hasSpan_34 (by decide) ?_
    exact m_ireturn dX4_hasSpan_35 (qI_of (bI_neg z))
  refine m_iload_n dX4_hasSpan_0 2 rfl ?_
  refine m_if_lt dX4_hasSpan_1 34 (by decide) (fun z1 => ?_) (fun z1 => ?_)
  · exact no (fun q => absurd z1 (Int32.not_lt.mpr q.1))
  refine m_iload_n dX4_hasSpan_4 3 rfl ?_
  refine m_if_lt dX4_hasSpan_5 34 (by decide) (fun z2 => ?_) (fun z2 => ?_)
  · exact no (fun q => absurd z2 (Int32.not_lt.mpr q.2.1))
  obtain ⟨x, hx, rfl⟩ := nI_of z1
  obtain ⟨m, hm, rfl⟩ := nI_of z2
  have cx : cN (nI x) = x := nI_clamp hx
  have cm : cN (nI m) = m := nI_clamp hm
  refine m_iload_n dX4_hasSpan_8 3 rfl ?_
  refine m_aload_n dX4_hasSpan_9 0 rfl ?_
  refine m_getR 2 46 dX4_hasSpan_10 fl_X4_20_4 rfl (by decide) rfl (by first | assumption | rfl) ?_
  refine m_iload_n dX4_hasSpan_13 1 rfl ?_
  refine m_iald dX4_hasSpan_14 (by first | assumption | rfl) j rfl (by first | assumption | omega | decide) ?_
  refine mW.top h1 ?_
  refine m_icmp_gt dX4_hasSpan_15 34 (by decide) (fun z3 => ?_) (fun z3 => ?_)
  · refine no (fun q => ?_)
    have q1 := (nI_ltI (by omega) (by omega)).mp z3
    have q2 := q.2.2
    rw [cx, cm] at q2
    omega
  have q3 : m ≤ S j := Nat.le_of_not_lt (fun q => z3 ((nI_ltI (by omega) (by omega)).mpr q))
  refine m_iload_n dX4_hasSpan_18 2 rfl ?_
  refine m_aload_n dX4_hasSpan_19 0 rfl ?_
  refine m_getR 2 46 dX4_hasSpan_20 fl_X4_20_4 rfl (by decide) rfl (by first | assumption | rfl) ?_
  refine m_iload_n dX4_hasSpan_23 1 rfl ?_
  refine m_iald dX4_hasSpan_24 (by first | assumption | rfl) j rfl (by first | assumption | omega | decide) ?_
  refine mW.top h1 ?_
  refine m_iload_n dX4_hasSpan_25 3 rfl ?_
  refine m_isub dX4_hasSpan_26 ?_
  refine mW.top (w := nI (S j - m)) (pk_sub q3) ?_
  refine m_icmp_gt dX4_hasSpan_27 34 (by decide) (fun z4 => ?_) (fun z4 => ?_)
  · refine no (fun q => ?_)
    have q1 := (nI_ltI (by omega) (by omega)).mp z4
    have q2 := q.2.2
    rw [cx, cm] at q2
    omega
  have q4 : x ≤ S j - m := Nat.le_of_not_lt (fun q => z4 ((nI_ltI (by omega) (by omega)).mpr q))
  refine m_iconst (v := 1) dX4_hasSpan_30 (by decide) ?_
  refine m_goto dX4_hasSpan_31 35 (by decide) ?_
  exact m_ireturn dX4_hasSpan_35 (qI_of (bI_pos (And.intro (Int32.not_lt.mp z1) (And.intro (Int32.not_lt.mp z2) (by rw [cx, cm]; omega)))))
theorem c_lowestBits (f v : Int32) : mMet G l d kX4_lowestBits [.int f, .int v] σ (qI (narF f v) σ) := by
  refine mMet.of cm_X4_lowestBits rfl (Nat.le_of_ble_eq_true rfl) rfl (fun v1 σ1 h => by rw [h.1]; rfl) ?_
  refine m_iload_n dX4_lowestBits_0 0 rfl ?_
  refine m_if_ne dX4_lowestBits_1 9 (by decide) (fun z1 => ?_) (fun z1 => ?_)
  rotate_left
  · refine m_iload_n dX4_lowestBits_4 1 rfl ?_
    refine m_i2b dX4_lowestBits_5 ?_
    refine m_goto dX4_lowestBits_6 20 (by decide) ?_
    exact m_ireturn dX4_lowestBits_20 (qI_of (if_pos z1).symm)
  refine m_iload_n dX4_lowestBits_9 0 rfl ?_
  refine m_iconst (v := 1) dX4_lowestBits_10 (by decide) ?_
  refine m_icmp_ne dX4_lowestBits_11 19 (by decide) (fun z2 => ?_) (fun z2 => ?_)
  · refine m_iload_n dX4_lowestBits_19 1 rfl ?_
    exact m_ireturn dX4_lowestBits_20 (qI_of (by unfold narF; rw [if_neg z1, if_neg z2]))
  · refine m_iload_n dX4_lowestBits_14 1 rfl ?_
    refine m_i2s dX4_lowestBits_15 ?_
    refine m_goto dX4_lowestBits_16 20 (by decide) ?_
    exact m_ireturn dX4_lowestBits_20 (qI_of (by unfold narF; rw [if_neg z1, if_pos z2]))
theorem k_sheet (hd : 2 ≤ d) (s f n : Int32) : mMet G l d kX10_sheet [.ref 0, .int s, .int f, .int n] σ (qIP (fun r s1 => r = shR s f n ∧ (¬ (wI s 4 ∧ wI f 3 ∧ n ≤ 60) → s1 = σ) ∧ ((wI s 4 ∧ wI f 3 ∧ n ≤ 60) → n < 0 → s1 = us σ 39 3 5) ∧ ((wI s 4 ∧ wI f 3 ∧ n ≤ 60) → ¬ n < 0 → (∀ i, i < 60 → s1.1 (41 + cN s) i = 0) ∧ fW (fun y z => y = 41 + cN s) (us (us σ 45 (cN s) f) 46 (cN s) n) s1))) := by
  refine mMet.of cm_X10_sheet rfl (Nat.le_of_ble_eq_true rfl) rfl (fun v1 σ1 h => by obtain ⟨r, h1, -⟩ := h; rw [h1]; rfl) ?_
  have bad : ¬ (wI s 4 ∧ wI f 3 ∧ n ≤ 60) → mW G l d kX10_sheet 22 [(0, .ref 0), (1, .int s), (2, .int f), (3, .int n)] [] σ (qIP (fun r s1 => r = shR s f n ∧ (¬ (wI s 4 ∧ wI f 3 ∧ n ≤ 60) → s1 = σ) ∧ ((wI s 4 ∧ wI f 3 ∧ n ≤ 60) → n < 0 → s1 = us σ 39 3 5) ∧ ((wI s 4 ∧ wI f 3 ∧ n ≤ 60) → ¬ n < 0 → (∀ i, i < 60 → s1.1 (41 + cN s) i = 0) ∧ fW (fun y z => y = 41 + cN s) (us (us σ 45 (cN s) f) 46 (cN s) n) s1))) := by
    intro g
    refine m_bipush (v := -2) dX10_sheet_22 (by decide) ?_
    exact m_ireturn dX10_sheet_24 ⟨_, rfl, (if_neg g).symm, fun _ => rfl, fun q => absurd q g, fun q => absurd q g⟩
  refine m_iload_n dX10_sheet_0 1 rfl ?_
  refine m_iconst (v := 4) dX10_sheet_1 (by decide) ?_
  refine m_callS (As := [_, _]) dX10_sheet_2 cs_X10_81 (by omega) rfl rfl (Nat.le_of_ble_eq_true rfl) (c_within (d := d - 1) s 4) (fun v1 σ1 hv1 => ?_)
  refine m_qI hv1 ?_
  clear hv1 v1 σ1
  refine m_if_eq dX10_sheet_5 22 (by decide) (fun z1 => ?_) (fun z1 => ?_)
  · exact bad (fun q => bI0 z1 q.1)
  refine m_iload_n dX10_sheet_8 2 rfl ?_
  refine m_iconst (v := 3) dX10_sheet_9 (by decide) ?_
  refine m_callS (As := [_, _]) dX10_sheet_10 cs_X10_81 (by omega) rfl rfl (Nat.le_of_ble_eq_true rfl) (c_within (d := d - 1) f 3) (fun v1 σ1 hv1 => ?_)
  refine m_qI hv1 ?_
  clear hv1 v1 σ1
  refine m_if_eq dX10_sheet_13 22 (by decide) (fun z2 => ?_) (fun z2 => ?_)
  · exact bad (fun q => bI0 z2 q.2.1)
  refine m_iload_n dX10_sheet_16 3 rfl ?_
  refine m_bipush (v := 60) dX10_sheet_17 (by decide) ?_
  refine m_icmp_le dX10_sheet_19 25 (by decide) (fun z3 => ?_) (fun z3 => ?_)
  rotate_left
  · exact bad (fun q => z3 q.2.2)
  clear bad
  have g : wI s 4 ∧ wI f 3 ∧ n ≤ 60 := ⟨bI1 z1, bI1 z2, z3⟩
  clear z1 z2 z3
  refine m_iload_n dX10_sheet_25 3 rfl ?_
  refine m_if_ge dX10_sheet_26 38 (by decide) (fun z1 => ?_) (fun z1 => ?_)
  rotate_left
  · have z2 : n < 0 := Int32.not_le.mp z1
    refine m_aload_n dX10_sheet_29 0 rfl ?_
    refine m_getR 6 39 dX10_sheet_30 fl_X10_50_9 rfl (by decide) rfl (by first | assumption | rfl) ?_
    refine m_iconst (v := 5) dX10_sheet_33 (by decide) ?_
    refine m_callV (As := [_]) dX10_sheet_34 cv_X10_127 (by first | assumption | rfl) (by decide) (by omega) rfl rfl (Nat.le_of_ble_eq_true rfl) (c_found (d := d - 1) 5) (fun v1 σ1 hv1 => ?_)
    refine m_qI hv1 ?_
    clear hv1 v1 σ1
    exact m_ireturn dX10_sheet_37 ⟨_, rfl, by unfold shR; rw [if_pos g, if_pos z2]; rfl, fun q => absurd g q, fun _ _ => rfl, fun _ q => absurd z2 q⟩
  have z2 : ¬ n < 0 := Int32.not_lt.mpr z1
  obtain ⟨j, hj, rfl⟩ := wI_of (by decide) g.1
  have cj : cN (nI j) = j := clN (by omega)
  refine m_aload_n dX10_sheet_38 0 rfl ?_
  refine m_getR 6 39 dX10_sheet_39 fl_X10_50_9 rfl (by decide) rfl (by first | assumption | rfl) ?_
  refine m_iload_n dX10_sheet_42 1 rfl ?_
  refine m_iload_n dX10_sheet_43 2 rfl ?_
  refine m_iload_n dX10_sheet_44 3 rfl ?_
  refine m_callV (As := [_, _, _]) dX10_sheet_45 cv_X10_233 (by first | assumption | rfl) (by decide) (by omega) rfl rfl (Nat.le_of_ble_eq_true rfl) (c_beginS (d := d - 1) (by omega) j hj f n) (fun v1 σ1 hv1 => ?_)
  refine m_qVP hv1 (fun hq => ?_)
  clear hv1 v1
  refine m_iload_n dX10_sheet_48 3 rfl ?_
  rename mS => s1
  refine m_ireturn dX10_sheet_49 ⟨_, rfl, by unfold shR; rw [if_pos g, if_neg z2], fun q => absurd g q, fun _ q => absurd q z2, fun _ _ => ?_⟩
  rw [cj]
  exact hq
theorem k_lose (hd : 2 ≤ d) (th : Nat → Int32) (S : Nat → Nat) (hG : okG σ th S) (s : Int32) : mMet G l d kX10_lose [.ref 0, .int s] σ (qIP (fun r s1 => r = loR th S s ∧ s1 = if wI s 4 then (if th (cN s) = 0 then us σ 39 3 1 else us σ 46 (cN s) (-1)) else σ)) := by
  refine mMet.of cm_X10_lose rfl (Nat.le_of_ble_eq_true rfl) rfl (fun v1 σ1 h => by obtain ⟨r, h1, -⟩ := h; rw [h1]; rfl) ?_
  refine m_iload_n dX10_lose_0 1 rfl ?_
  refine m_iconst (v := 4) dX10_lose_1 (by decide) ?_
  refine m_callS (As := [_, _]) dX10_lose_2 cs_X10_81 (by omega) rfl rfl (Nat.le_of_ble_eq_true rfl) (c_within (d := d - 1) s 4) (fun v1 σ1 hv1 => ?_)
  refine m_qI hv1 ?_
  clear hv1 v1 σ1
  refine m_if_ne dX10_lose_5 11 (by decide) (fun z1 => ?_) (fun z1 => ?_)
  rotate_left
  · refine m_bipush (v := -2) dX10_lose_8 (by decide) ?_
    exact m_ireturn dX10_lose_10 ⟨_, rfl, (if_neg (fun q => bI0 z1 q)).symm, (if_neg (fun q => bI0 z1 q)).symm⟩
  have w1 : wI s 4 := bI1 z1
  clear z1
  obtain ⟨j, hj, rfl⟩ := wI_of (by decide) w1
  have cj : cN (nI j) = j := clN (by omega)
  refine m_aload_n dX10_lose_11 0 rfl ?_
  refine m_getR 6 39 dX10_lose_12 fl_X10_50_9 rfl (by decide) rfl (by first | assumption | rfl) ?_
  refine m_iload_n dX10_lose_15 1 rfl ?_
  refine m_callV (As := [_]) dX10_lose_16 cv_X10_123 (by first | assumption | rfl) (by decide) (by omega) rfl rfl (Nat.le_of_ble_eq_true rfl) (c_isLost (d := d - 1) th S hG j hj) (fun v1 σ1 hv1 => ?_)
  refine m_qI hv1 ?_
  clear hv1 v1 σ1
  refine m_if_eq dX10_lose_19 31 (by decide) (fun z1 => ?_) (fun z1 => ?_)
  rotate_left
  · have e := bI1 z1
    refine m_aload_n dX10_lose_22 0 rfl ?_
    refine m_getR 6 39 dX10_lose_23 fl_X10_50_9 rfl (by decide) rfl (by first | assumption | rfl) ?_
    refine m_iconst (v := 1) dX10_lose_26 (by decide) ?_
    refine m_callV (As := [_]) dX10_lose_27 cv_X10_127 (by first | assumption | rfl) (by decide) (by omega) rfl rfl (Nat.le_of_ble_eq_true rfl) (c_found (d := d - 1) 1) (fun v1 σ1 hv1 => ?_)
    refine m_qI hv1 ?_
    clear hv1 v1 σ1
    refine m_ireturn dX10_lose_30 ⟨_, rfl, ?_, ?_⟩
    · unfold loR; rw [if_pos w1, cj, if_pos e]; rfl
    · rw [if_pos w1, cj, if_pos e]
  have n1 := bI0 z1
  have h1 := hG.len hj n1
  refine m_aload_n dX10_lose_31 0 rfl ?_
  refine m_getR 6 39 dX10_lose_32 fl_X10_50_9 rfl (by decide) rfl (by first | assumption | rfl) ?_
  refine m_getR 2 46 dX10_lose_35 fl_X10_134_4 rfl (by decide) rfl (by first | assumption | rfl) ?_
  refine m_iload_n dX10_lose_38 1 rfl ?_
  refine m_iald dX10_lose_39 (by first | assumption | rfl) j rfl (by first | assumption | omega | decide) ?_
  refine mW.top h1 ?_
  refine m_istore_n (ls1 := [(2, _), (0, _), (1, _)]) dX10_lose_40 (by decide) rfl ?_
  refine m_aload_n dX10_lose_41 1 rfl ?_
  refine m_getR 6 39 dX10_lose_42 fl_X10_50_9 rfl (by decide) rfl (by first | assumption | rfl) ?_
  refine m_getR 2 46 dX10_lose_45 fl_X10_134_4 rfl (by decide) rfl (by first | assumption | rfl) ?_
  refine m_iload_n dX10_lose_48 2 rfl ?_
  refine m_iconst (v := -1) dX10_lose_49 (by decide) ?_
  refine m_iast dX10_lose_50 (by first | assumption | rfl) j rfl (by first | assumption | omega | decide) ?_
  refine m_iload_n dX10_lose_51 0 rfl ?_
  refine m_ireturn dX10_lose_52 ⟨_, rfl, ?_, ?_⟩
  · unfold loR; rw [if_pos w1, cj, if_neg n1]
  · rw [if_pos w1, cj, if_neg n1]
theorem k_put (hd : 3 ≤ d) (th : Nat → Int32) (S : Nat → Nat) (hG : okG σ th S) (s f i v : Int32) : mMet G l d kX10_put [.ref 0, .int s, .int f, .int i, .int v] σ (qIP (fun r s1 => r = ptR th (σ.1 45) S s f i ∧ s1 = if wI s 4 ∧ wI f 3 then (if lkS th (σ.1 45) S s f i = 0 then us σ (41 + cN s) (cN i) (narF (σ.1 45 (cN s)) v) else us σ 39 3 (lkS th (σ.1 45) S s f i)) else σ)) := by
  refine mMet.of cm_X10_put rfl (Nat.le_of_ble_eq_true rfl) rfl (fun v1 σ1 h => by obtain ⟨r, h1, -⟩ := h; rw [h1]; rfl) ?_
  refine m_iload_n dX10_put_0 1 rfl ?_
  refine m_iconst (v := 4) dX10_put_1 (by decide) ?_
  refine m_callS (As := [_, _]) dX10_put_2 cs_X10_81 (by omega) rfl rfl (Nat.le_of_ble_eq_true rfl) (c_within (d := d - 1) s 4) (fun v1 σ1 hv1 => ?_)
  refine m_qI hv1 ?_
  clear hv1 v1 σ1
  refine m_if_eq dX10_put_5 16 (by decide) (fun z1 => ?_) (fun z1 => ?_)
  · refine m_bipush (v := -2) dX10_put_16 (by decide) ?_
    exact m_ireturn dX10_put_18 ⟨_, rfl, (if_neg (fun q => bI0 z1 q.1)).symm, (if_neg (fun q => bI0 z1 q.1)).symm⟩
  refine m_iload_n dX10_put_8 2 rfl ?_
  refine m_iconst (v := 3) dX10_put_9 (by decide) ?_
  refine m_callS (As := [_, _]) dX10_put_10 cs_X10_81 (by omega) rfl rfl (Nat.le_of_ble_eq_true rfl) (c_within (d := d - 1) f 3) (fun v1 σ1 hv1 => ?_)
  refine m_qI hv1 ?_
  clear hv1 v1 σ1
  refine m_if_ne dX10_put_13 19 (by decide) (fun z2 => ?_) (fun z2 => ?_)
  rotate_left
  · refine m_bipush (v := -2) dX10_put_16 (by decide) ?_
    exact m_ireturn dX10_put_18 ⟨_, rfl, (if_neg (fun q => bI0 z2 q.2)).symm, (if_neg (fun q => bI0 z2 q.2)).symm⟩
  have g : wI s 4 ∧ wI f 3 := ⟨bI1 z1, bI1 z2⟩
  clear z1 z2
  obtain ⟨j, hj, rfl⟩ := wI_of (by decide) g.1
  have cj : cN (nI j) = j := clN (by omega)
  unfold ptR lkS
  rw [if_pos g, cj]
  refine m_aload_n dX10_put_19 0 rfl ?_
  refine m_getR 6 39 dX10_put_20 fl_X10_50_9 rfl (by decide) rfl (by first | assumption | rfl) ?_
  refine m_iload_n dX10_put_23 1 rfl ?_
  refine m_iload_n dX10_put_24 2 rfl ?_
  refine m_iload_n dX10_put_25 3 rfl ?_
  refine m_callV (As := [_, _, _]) dX10_put_26 cv_X10_236 (by first | assumption | rfl) (by decide) (by omega) rfl rfl (Nat.le_of_ble_eq_true rfl) (c_barTo (d := d - 1) (by omega) th S hG j hj f i) (fun v1 σ1 hv1 => ?_)
  refine m_qI hv1 ?_
  clear hv1 v1 σ1
  refine m_istore (ls1 := [(5, _), (0, _), (1, _), (2, _), (3, _), (4, _)]) dX10_put_29 (by decide) rfl ?_
  refine m_iload dX10_put_31 0 rfl ?_
  refine m_if_eq dX10_put_33 46 (by decide) (fun z1 => ?_) (fun z1 => ?_)
  rotate_left
  · refine m_aload_n dX10_put_36 1 rfl ?_
    refine m_getR 6 39 dX10_put_37 fl_X10_50_9 rfl (by decide) rfl (by first | assumption | rfl) ?_
    refine m_iload dX10_put_40 0 rfl ?_
    refine m_callV (As := [_]) dX10_put_42 cv_X10_127 (by first | assumption | rfl) (by decide) (by omega) rfl rfl (Nat.le_of_ble_eq_true rfl) (c_found (d := d - 1) (lkF (th j) (σ.1 45 j) f (S j) i)) (fun v1 σ1 hv1 => ?_)
    refine m_qI hv1 ?_
    clear hv1 v1 σ1
    exact m_ireturn dX10_put_45 ⟨_, rfl, (if_neg z1).symm, by rw [if_pos g]; exact (if_neg z1).symm⟩
  have wi := lkF_0 z1
  have hS60 := (hG j hj).2
  have ef : σ.1 45 j = f := by
    unfold lkF at z1
    by_cases q1 : th j = 0
    · rw [if_pos q1] at z1; exact absurd z1 (by decide)
    · rw [if_neg q1] at z1
      by_cases q2 : σ.1 45 j = f
      · exact q2
      · rw [if_neg q2] at z1; exact absurd z1 (by decide)
  obtain ⟨x, hx, rfl⟩ := wI_of (by omega) wi
  have cx : cN (nI x) = x := clN (by omega)
  have hs := sh_row hj
  refine m_aload_n dX10_put_46 1 rfl ?_
  refine m_getR 6 39 dX10_put_47 fl_X10_50_9 rfl (by decide) rfl (by first | assumption | rfl) ?_
  refine m_getR 0 40 dX10_put_50 fl_X10_131_4 rfl (by decide) rfl (by first | assumption | rfl) ?_
  refine m_iload_n dX10_put_53 2 rfl ?_
  refine m_aald dX10_put_54 (by first | assumption | rfl) j rfl (by first | assumption | omega | decide) ?_
  refine m_iload_n dX10_put_55 4 rfl ?_
  refine m_iload_n dX10_put_56 3 rfl ?_
  refine m_iload dX10_put_57 5 rfl ?_
  refine m_callS (As := [_, _]) dX10_put_59 cs_X10_239 (by omega) rfl rfl (Nat.le_of_ble_eq_true rfl) (c_lowestBits (d := d - 1) f v) (fun v1 σ1 hv1 => ?_)
  refine m_qI hv1 ?_
  clear hv1 v1 σ1
  refine m_iast dX10_put_62 (by first | assumption | rfl) x rfl (by omega) ?_
  refine m_iconst (v := 1) dX10_put_63 (by decide) ?_
  refine m_ireturn dX10_put_64 ⟨_, rfl, (if_pos z1).symm, ?_⟩
  rw [if_pos g, if_pos z1, cx, ef]
theorem k_get (hd : 3 ≤ d) (th : Nat → Int32) (S : Nat → Nat) (hG : okG σ th S) (s f i : Int32) : mMet G l d kX10_get [.ref 0, .int s, .int f, .int i] σ (qIP (fun r s1 => r = (if wI s 4 ∧ wI f 3 then (if lkS th (σ.1 45) S s f i = 0 then σ.1 (41 + cN s) (cN i) else -2147483648) else -2147483648) ∧ s1 = if wI s 4 ∧ wI f 3 then (if lkS th (σ.1 45) S s f i = 0 then σ else us σ 39 3 (lkS th (σ.1 45) S s f i)) else σ)) := by
  refine mMet.of cm_X10_get rfl (Nat.le_of_ble_eq_true rfl) rfl (fun v1 σ1 h => by obtain ⟨r, h1, -⟩ := h; rw [h1]; rfl) ?_
  refine m_iload_n dX10_get_0 1 rfl ?_
  refine m_iconst (v := 4) dX10_get_1 (by decide) ?_
  refine m_callS (As := [_, _]) dX10_get_2 cs_X10_81 (by omega) rfl rfl (Nat.le_of_ble_eq_true rfl) (c_within (d := d - 1) s 4) (fun v1 σ1 hv1 => ?_)
  refine m_qI hv1 ?_
  clear hv1 v1 σ1
  refine m_if_eq dX10_get_5 16 (by decide) (fun z1 => ?_) (fun z1 => ?_)
  · refine m_ldc dX10_get_16 kc_X10_242 ?_
    exact m_ireturn dX10_get_18 ⟨_, rfl, (if_neg (fun q => bI0 z1 q.1)).symm, (if_neg (fun q => bI0 z1 q.1)).symm⟩
  refine m_iload_n dX10_get_8 2 rfl ?_
  refine m_iconst (v := 3) dX10_get_9 (by decide) ?_
  refine m_callS (As := [_, _]) dX10_get_10 cs_X10_81 (by omega) rfl rfl (Nat.le_of_ble_eq_true rfl) (c_within (d := d - 1) f 3) (fun v1 σ1 hv1 => ?_)
  refine m_qI hv1 ?_
  clear hv1 v1 σ1
  refine m_if_ne dX10_get_13 19 (by decide) (fun z2 => ?_) (fun z2 => ?_)
  rotate_left
  · refine m_ldc dX10_get_16 kc_X10_242 ?_
    exact m_ireturn dX10_get_18 ⟨_, rfl, (if_neg (fun q => bI0 z2 q.2)).symm, (if_neg (fun q => bI0 z2 q.2)).symm⟩
  have g : wI s 4 ∧ wI f 3 := ⟨bI1 z1, bI1 z2⟩
  clear z1 z2
  obtain ⟨j, hj, rfl⟩ := wI_of (by decide) g.1
  have cj : cN (nI j) = j := clN (by omega)
  unfold lkS
  rw [if_pos g, cj]
  refine m_aload_n dX10_get_19 0 rfl ?_
  refine m_getR 6 39 dX10_get_20 fl_X10_50_9 rfl (by decide) rfl (by first | assumption | rfl) ?_
  refine m_iload_n dX10_get_23 1 rfl ?_
  refine m_iload_n dX10_get_24 2 rfl ?_
  refine m_iload_n dX10_get_25 3 rfl ?_
  refine m_callV (As := [_, _, _]) dX10_get_26 cv_X10_236 (by first | assumption | rfl) (by decide) (by omega) rfl rfl (Nat.le_of_ble_eq_true rfl) (c_barTo (d := d - 1) (by omega) th S hG j hj f i) (fun v1 σ1 hv1 => ?_)
  refine m_qI hv1 ?_
  clear hv1 v1 σ1
  refine m_istore (ls1 := [(4, _), (0, _), (1, _), (2, _), (3, _)]) dX10_get_29 (by decide) rfl ?_
  refine m_iload dX10_get_31 0 rfl ?_
  refine m_if_eq dX10_get_33 49 (by decide) (fun z1 => ?_) (fun z1 => ?_)
  rotate_left
  · refine m_aload_n dX10_get_36 1 rfl ?_
    refine m_getR 6 39 dX10_get_37 fl_X10_50_9 rfl (by decide) rfl (by first | assumption | rfl) ?_
    refine m_iload dX10_get_40 0 rfl ?_
    refine m_callV (As := [_]) dX10_get_42 cv_X10_127 (by first | assumption | rfl) (by decide) (by omega) rfl rfl (Nat.le_of_ble_eq_true rfl) (c_found (d := d - 1) (lkF (th j) (σ.1 45 j) f (S j) i)) (fun v1 σ1 hv1 => ?_)
    refine m_qI hv1 ?_
    clear hv1 v1 σ1
    refine m_pop dX10_get_45 rfl ?_
    refine m_ldc dX10_get_46 kc_X10_242 ?_
    exact m_ireturn dX10_get_48 ⟨_, rfl, (if_neg z1).symm, by rw [if_pos g]; exact (if_neg z1).symm⟩
  have wi := lkF_0 z1
  have hS60 := (hG j hj).2
  obtain ⟨x, hx, rfl⟩ := wI_of (by omega) wi
  have cx : cN (nI x) = x := clN (by omega)
  have hs := sh_row hj
  refine m_aload_n dX10_get_49 1 rfl ?_
  refine m_getR 6 39 dX10_get_50 fl_X10_50_9 rfl (by decide) rfl (by first | assumption | rfl) ?_
  refine m_getR 0 40 dX10_get_53 fl_X10_131_4 rfl (by decide) rfl (by first | assumption | rfl) ?_
  refine m_iload_n dX10_get_56 2 rfl ?_
  refine m_aald dX10_get_57 (by first | assumption | rfl) j rfl (by first | assumption | omega | decide) ?_
  refine m_iload_n dX10_get_58 4 rfl ?_
  refine m_iald dX10_get_59 (by first | assumption | rfl) x rfl (by omega) ?_
  refine m_ireturn dX10_get_60 ⟨_, rfl, ?_, ?_⟩
  · rw [if_pos z1, cx]
  · rw [if_pos g, if_pos z1]
end SH


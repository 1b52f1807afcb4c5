/-! ===== the reference: what is told ===== -/
def tyR (L : Nat → Nat) (t b : Int32) : Int32 := if wI t 2 ∧ wI b 256 then (if L (cN t) = 47 then -4 else nI (L (cN t) + 1)) else -2
def wpR (L : Nat → Nat) (t : Int32) : Int32 := if wI t 2 then nI (L (cN t)) else -2
def unR (L : Nat → Nat) (t : Int32) : Int32 := if wI t 2 then (if L (cN t) = 0 then -3 else nI (L (cN t) - 1)) else -2
def evR (e : Nat) (k m c : Int32) : Int32 := if wI k 2 ∧ wI m 24 ∧ wI c 8 then (if e = 8 then -4 else nI (e + 1)) else -2
def bkR (e : Nat) : Int32 := if e = 0 then -3 else nI (e - 1)
def seR (z : Nat) (m c x y : Int32) : Int32 := if wI m 24 ∧ wI c 8 ∧ wI x 6 ∧ wI y 6 then (if z = 8 then -4 else nI (z + 1)) else -2
def okL (σ : mS) (L : Nat → Nat) : Prop := ∀ j, j < 2 → σ.1 112 j = nI (L j) ∧ L j ≤ 47
section TL
variable {G : mG} {l : Launch} {d : Nat} {σ : mS}
theorem dX11_type_0 : decode cX11_type 0 = .ok (.iload_n 1, 1) := by decide +kernel
theorem dX11_type_1 : decode cX11_type 1 = .ok (.invokestatic 140, 3) := by decide +kernel
theorem dX11_type_4 : decode cX11_type 4 = .ok (.ifCond .eq 14, 3) := by decide +kernel
theorem dX11_type_7 : decode cX11_type 7 = .ok (.iload_n 2, 1) := by decide +kernel
theorem dX11_type_8 : decode cX11_type 8 = .ok (.iconst 0, 1) := by decide +kernel
theorem dX11_type_9 : decode cX11_type 9 = .ok (.sipush 255, 3) := by decide +kernel
theorem dX11_type_12 : decode cX11_type 12 = .ok (.invokestatic 136, 3) := by decide +kernel
theorem dX11_type_15 : decode cX11_type 15 = .ok (.ifCond .ne 6, 3) := by decide +kernel
theorem dX11_type_18 : decode cX11_type 18 = .ok (.bipush (-2), 2) := by decide +kernel
theorem dX11_type_20 : decode cX11_type 20 = .ok (.ireturn, 1) := by decide +kernel
theorem dX11_type_21 : decode cX11_type 21 = .ok (.aload_n 0, 1) := by decide +kernel
theorem dX11_type_22 : decode cX11_type 22 = .ok (.getfield 7, 3) := by decide +kernel
theorem dX11_type_25 : decode cX11_type 25 = .ok (.iload_n 1, 1) := by decide +kernel
theorem dX11_type_26 : decode cX11_type 26 = .ok (.iaload, 1) := by decide +kernel
theorem dX11_type_27 : decode cX11_type 27 = .ok (.bipush 47, 2) := by decide +kernel
theorem dX11_type_29 : decode cX11_type 29 = .ok (.if_icmp .ne 6, 3) := by decide +kernel
theorem dX11_type_32 : decode cX11_type 32 = .ok (.bipush (-4), 2) := by decide +kernel
theorem dX11_type_34 : decode cX11_type 34 = .ok (.ireturn, 1) := by decide +kernel
theorem dX11_type_35 : decode cX11_type 35 = .ok (.aload_n 0, 1) := by decide +kernel
theorem dX11_type_36 : decode cX11_type 36 = .ok (.getfield 13, 3) := by decide +kernel
theorem dX11_type_39 : decode cX11_type 39 = .ok (.bipush 47, 2) := by decide +kernel
theorem dX11_type_41 : decode cX11_type 41 = .ok (.iload_n 1, 1) := by decide +kernel
theorem dX11_type_42 : decode cX11_type 42 = .ok (.imul, 1) := by decide +kernel
theorem dX11_type_43 : decode cX11_type 43 = .ok (.aload_n 0, 1) := by decide +kernel
theorem dX11_type_44 : decode cX11_type 44 = .ok (.getfield 7, 3) := by decide +kernel
theorem dX11_type_47 : decode cX11_type 47 = .ok (.iload_n 1, 1) := by decide +kernel
theorem dX11_type_48 : decode cX11_type 48 = .ok (.iaload, 1) := by decide +kernel
theorem dX11_type_49 : decode cX11_type 49 = .ok (.iadd, 1) := by decide +kernel
theorem dX11_type_50 : decode cX11_type 50 = .ok (.iload_n 2, 1) := by decide +kernel
theorem dX11_type_51 : decode cX11_type 51 = .ok (.iastore, 1) := by decide +kernel
theorem dX11_type_52 : decode cX11_type 52 = .ok (.aload_n 0, 1) := by decide +kernel
theorem dX11_type_53 : decode cX11_type 53 = .ok (.getfield 7, 3) := by decide +kernel
theorem dX11_type_56 : decode cX11_type 56 = .ok (.iload_n 1, 1) := by decide +kernel
theorem dX11_type_57 : decode cX11_type 57 = .ok (.dup2, 1) := by decide +kernel
theorem dX11_type_58 : decode cX11_type 58 = .ok (.iaload, 1) := by decide +kernel
theorem dX11_type_59 : decode cX11_type 59 = .ok (.iconst 1, 1) := by decide +kernel
theorem dX11_type_60 : decode cX11_type 60 = .ok (.iadd, 1) := by decide +kernel
theorem dX11_type_61 : decode cX11_type 61 = .ok (.iastore, 1) := by decide +kernel
theorem dX11_type_62 : decode cX11_type 62 = .ok (.aload_n 0, 1) := by decide +kernel
theorem dX11_type_63 : decode cX11_type 63 = .ok (.getfield 7, 3) := by decide +kernel
theorem dX11_type_66 : decode cX11_type 66 = .ok (.iload_n 1, 1) := by decide +kernel
theorem dX11_type_67 : decode cX11_type 67 = .ok (.iaload, 1) := by decide +kernel
theorem dX11_type_68 : decode cX11_type 68 = .ok (.ireturn, 1) := by decide +kernel
theorem dX11_wipe_0 : decode cX11_wipe 0 = .ok (.iload_n 1, 1) := by decide +kernel
theorem dX11_wipe_1 : decode cX11_wipe 1 = .ok (.invokestatic 140, 3) := by decide +kernel
theorem dX11_wipe_4 : decode cX11_wipe 4 = .ok (.ifCond .ne 6, 3) := by decide +kernel
theorem dX11_wipe_7 : decode cX11_wipe 7 = .ok (.bipush (-2), 2) := by decide +kernel
theorem dX11_wipe_9 : decode cX11_wipe 9 = .ok (.ireturn, 1) := by decide +kernel
theorem dX11_wipe_10 : decode cX11_wipe 10 = .ok (.aload_n 0, 1) := by decide +kernel
theorem dX11_wipe_11 : decode cX11_wipe 11 = .ok (.getfield 7, 3) := by decide +kernel
theorem dX11_wipe_14 : decode cX11_wipe 14 = .ok (.iload_n 1, 1) := by decide +kernel
theorem dX11_wipe_15 : decode cX11_wipe 15 = .ok (.iaload, 1) := by decide +kernel
theorem dX11_wipe_16 : decode cX11_wipe 16 = .ok (.istore_n 2, 1) := by decide +kernel
theorem dX11_wipe_17 : decode cX11_wipe 17 = .ok (.aload_n 0, 1) := by decide +kernel
theorem dX11_wipe_18 : decode cX11_wipe 18 = .ok (.getfield 7, 3) := by decide +kernel
theorem dX11_wipe_21 : decode cX11_wipe 21 = .ok (.iload_n 1, 1) := by decide +kernel
theorem dX11_wipe_22 : decode cX11_wipe 22 = .ok (.iconst 0, 1) := by decide +kernel
theorem dX11_wipe_23 : decode cX11_wipe 23 = .ok (.iastore, 1) := by decide +kernel
theorem dX11_wipe_24 : decode cX11_wipe 24 = .ok (.iload_n 2, 1) := by decide +kernel
theorem dX11_wipe_25 : decode cX11_wipe 25 = .ok (.ireturn, 1) := by decide +kernel
theorem dX11_undo_0 : decode cX11_undo 0 = .ok (.iload_n 1, 1) := by decide +kernel
theorem dX11_undo_1 : decode cX11_undo 1 = .ok (.invokestatic 140, 3) := by decide +kernel
theorem dX11_undo_4 : decode cX11_undo 4 = .ok (.ifCond .ne 6, 3) := by decide +kernel
theorem dX11_undo_7 : decode cX11_undo 7 = .ok (.bipush (-2), 2) := by decide +kernel
theorem dX11_undo_9 : decode cX11_undo 9 = .ok (.ireturn, 1) := by decide +kernel
theorem dX11_undo_10 : decode cX11_undo 10 = .ok (.aload_n 0, 1) := by decide +kernel
theorem dX11_undo_11 : decode cX11_undo 11 = .ok (.getfield 7, 3) := by decide +kernel
theorem dX11_undo_14 : decode cX11_undo 14 = .ok (.iload_n 1, 1) := by decide +kernel
theorem dX11_undo_15 : decode cX11_undo 15 = .ok (.iaload, 1) := by decide +kernel
theorem dX11_undo_16 : decode cX11_undo 16 = .ok (.ifCond .ne 6, 3) := by decide +kernel
theorem dX11_undo_19 : decode cX11_undo 19 = .ok (.bipush (-3), 2) := by decide +kernel
theorem dX11_undo_21 : decode cX11_undo 21 = .ok (.ireturn, 1) := by decide +kernel
theorem dX11_undo_22 : decode cX11_undo 22 = .ok (.aload_n 0, 1) := by decide +kernel
theorem dX11_undo_23 : decode cX11_undo 23 = .ok (.getfield 7, 3) := by decide +kernel
theorem dX11_undo_26 : decode cX11_undo 26 = .ok (.iload_n 1, 1) := by decide +kernel
theorem dX11_undo_27 : decode cX11_undo 27 = .ok (.dup2, 1) := by decide +kernel
theorem dX11_undo_28 : decode cX11_undo 28 = .ok (.iaload, 1) := by decide +kernel
theorem dX11_undo_29 : decode cX11_undo 29 = .ok (.iconst 1, 1) := by decide +kernel
theorem dX11_undo_30 : decode cX11_undo 30 = .ok (.isub, 1) := by decide +kernel
theorem dX11_undo_31 : decode cX11_undo 31 = .ok (.iastore, 1) := by decide +kernel
theorem dX11_undo_32 : decode cX11_undo 32 = .ok (.aload_n 0, 1) := by decide +kernel
theorem dX11_undo_33 : decode cX11_undo 33 = .ok (.getfield 7, 3) := by decide +kernel
theorem dX11_undo_36 : decode cX11_undo 36 = .ok (.iload_n 1, 1) := by decide +kernel
theorem dX11_undo_37 : decode cX11_undo 37 = .ok (.iaload, 1) := by decide +kernel
theorem dX11_undo_38 : decode cX11_undo 38 = .ok (.ireturn, 1) := by decide +kernel
theorem dX11_event_0 : decode cX11_event 0 = .ok (.iload_n 1, 1) := by decide +kernel
theorem dX11_event_1 : decode cX11_event 1 = .ok (.invokestatic 195, 3) := by decide +kernel
theorem dX11_event_4 : decode cX11_event 4 = .ok (.ifCond .eq 17, 3) := by decide +kernel
theorem dX11_event_7 : decode cX11_event 7 = .ok (.iload_n 2, 1) := by decide +kernel
theorem dX11_event_8 : decode cX11_event 8 = .ok (.invokestatic 198, 3) := by decide +kernel
theorem dX11_event_11 : decode cX11_event 11 = .ok (.ifCond .eq 10, 3) := by decide +kernel
theorem dX11_event_14 : decode cX11_event 14 = .ok (.iload_n 3, 1) := by decide +kernel
theorem dX11_event_15 : decode cX11_event 15 = .ok (.invokestatic 201, 3) := by decide +kernel
theorem dX11_event_18 : decode cX11_event 18 = .ok (.ifCond .ne 6, 3) := by decide +kernel
theorem dX11_event_21 : decode cX11_event 21 = .ok (.bipush (-2), 2) := by decide +kernel
theorem dX11_event_23 : decode cX11_event 23 = .ok (.ireturn, 1) := by decide +kernel
theorem dX11_event_24 : decode cX11_event 24 = .ok (.aload_n 0, 1) := by decide +kernel
theorem dX11_event_25 : decode cX11_event 25 = .ok (.getfield 204, 3) := by decide +kernel
theorem dX11_event_28 : decode cX11_event 28 = .ok (.bipush 8, 2) := by decide +kernel
theorem dX11_event_30 : decode cX11_event 30 = .ok (.if_icmp .ne 6, 3) := by decide +kernel
theorem dX11_event_33 : decode cX11_event 33 = .ok (.bipush (-4), 2) := by decide +kernel
theorem dX11_event_35 : decode cX11_event 35 = .ok (.ireturn, 1) := by decide +kernel
theorem dX11_event_36 : decode cX11_event 36 = .ok (.aload_n 0, 1) := by decide +kernel
theorem dX11_event_37 : decode cX11_event 37 = .ok (.getfield 40, 3) := by decide +kernel
theorem dX11_event_40 : decode cX11_event 40 = .ok (.aload_n 0, 1) := by decide +kernel
theorem dX11_event_41 : decode cX11_event 41 = .ok (.getfield 204, 3) := by decide +kernel
theorem dX11_event_44 : decode cX11_event 44 = .ok (.iload_n 1, 1) := by decide +kernel
theorem dX11_event_45 : decode cX11_event 45 = .ok (.iastore, 1) := by decide +kernel
theorem dX11_event_46 : decode cX11_event 46 = .ok (.aload_n 0, 1) := by decide +kernel
theorem dX11_event_47 : decode cX11_event 47 = .ok (.getfield 43, 3) := by decide +kernel
theorem dX11_event_50 : decode cX11_event 50 = .ok (.aload_n 0, 1) := by decide +kernel
theorem dX11_event_51 : decode cX11_event 51 = .ok (.getfield 204, 3) := by decide +kernel
theorem dX11_event_54 : decode cX11_event 54 = .ok (.iload_n 2, 1) := by decide +kernel
theorem dX11_event_55 : decode cX11_event 55 = .ok (.iastore, 1) := by decide +kernel
theorem dX11_event_56 : decode cX11_event 56 = .ok (.aload_n 0, 1) := by decide +kernel
theorem dX11_event_57 : decode cX11_event 57 = .ok (.getfield 46, 3) := by decide +kernel
theorem dX11_event_60 : decode cX11_event 60 = .ok (.aload_n 0, 1) := by decide +kernel
theorem dX11_event_61 : decode cX11_event 61 = .ok (.getfield 204, 3) := by decide +kernel
theorem dX11_event_64 : decode cX11_event 64 = .ok (.iload_n 3, 1) := by decide +kernel
theorem dX11_event_65 : decode cX11_event 65 = .ok (.iastore, 1) := by decide +kernel
theorem dX11_event_66 : decode cX11_event 66 = .ok (.aload_n 0, 1) := by decide +kernel
theorem dX11_event_67 : decode cX11_event 67 = .ok (.dup, 1) := by decide +kernel
theorem dX11_event_68 : decode cX11_event 68 = .ok (.getfield 204, 3) := by decide +kernel
theorem dX11_event_71 : decode cX11_event 71 = .ok (.iconst 1, 1) := by decide +kernel
theorem dX11_event_72 : decode cX11_event 72 = .ok (.iadd, 1) := by decide +kernel
theorem dX11_event_73 : decode cX11_event 73 = .ok (.putfield 204, 3) := by decide +kernel
theorem dX11_event_76 : decode cX11_event 76 = .ok (.aload_n 0, 1) := by decide +kernel
theorem dX11_event_77 : decode cX11_event 77 = .ok (.getfield 204, 3) := by decide +kernel
theorem dX11_event_80 : decode cX11_event 80 = .ok (.ireturn, 1) := by decide +kernel
theorem dX11_back_0 : decode cX11_back 0 = .ok (.aload_n 0, 1) := by decide +kernel
theorem dX11_back_1 : decode cX11_back 1 = .ok (.getfield 204, 3) := by decide +kernel
theorem dX11_back_4 : decode cX11_back 4 = .ok (.ifCond .ne 6, 3) := by decide +kernel
theorem dX11_back_7 : decode cX11_back 7 = .ok (.bipush (-3), 2) := by decide +kernel
theorem dX11_back_9 : decode cX11_back 9 = .ok (.ireturn, 1) := by decide +kernel
theorem dX11_back_10 : decode cX11_back 10 = .ok (.aload_n 0, 1) := by decide +kernel
theorem dX11_back_11 : decode cX11_back 11 = .ok (.dup, 1) := by decide +kernel
theorem dX11_back_12 : decode cX11_back 12 = .ok (.getfield 204, 3) := by decide +kernel
theorem dX11_back_15 : decode cX11_back 15 = .ok (.iconst 1, 1) := by decide +kernel
theorem dX11_back_16 : decode cX11_back 16 = .ok (.isub, 1) := by decide +kernel
theorem dX11_back_17 : decode cX11_back 17 = .ok (.putfield 204, 3) := by decide +kernel
theorem dX11_back_20 : decode cX11_back 20 = .ok (.aload_n 0, 1) := by decide +kernel
theorem dX11_back_21 : decode cX11_back 21 = .ok (.getfield 204, 3) := by decide +kernel
theorem dX11_back_24 : decode cX11_back 24 = .ok (.ireturn, 1) := by decide +kernel
theorem dX11_seen_0 : decode cX11_seen 0 = .ok (.iload_n 1, 1) := by decide +kernel
theorem dX11_seen_1 : decode cX11_seen 1 = .ok (.invokestatic 198, 3) := by decide +kernel
theorem dX11_seen_4 : decode cX11_seen 4 = .ok (.ifCond .eq 25, 3) := by decide +kernel
theorem dX11_seen_7 : decode cX11_seen 7 = .ok (.iload_n 2, 1) := by decide +kernel
theorem dX11_seen_8 : decode cX11_seen 8 = .ok (.invokestatic 201, 3) := by decide +kernel
theorem dX11_seen_11 : decode cX11_seen 11 = .ok (.ifCond .eq 18, 3) := by decide +kernel
theorem dX11_seen_14 : decode cX11_seen 14 = .ok (.iload_n 3, 1) := by decide +kernel
theorem dX11_seen_15 : decode cX11_seen 15 = .ok (.invokestatic 155, 3) := by decide +kernel
theorem dX11_seen_18 : decode cX11_seen 18 = .ok (.ifCond .eq 11, 3) := by decide +kernel
theorem dX11_seen_21 : decode cX11_seen 21 = .ok (.iload 4, 2) := by decide +kernel
theorem dX11_seen_23 : decode cX11_seen 23 = .ok (.invokestatic 155, 3) := by decide +kernel
theorem dX11_seen_26 : decode cX11_seen 26 = .ok (.ifCond .ne 6, 3) := by decide +kernel
theorem dX11_seen_29 : decode cX11_seen 29 = .ok (.bipush (-2), 2) := by decide +kernel
theorem dX11_seen_31 : decode cX11_seen 31 = .ok (.ireturn, 1) := by decide +kernel
theorem dX11_seen_32 : decode cX11_seen 32 = .ok (.aload_n 0, 1) := by decide +kernel
theorem dX11_seen_33 : decode cX11_seen 33 = .ok (.getfield 334, 3) := by decide +kernel
theorem dX11_seen_36 : decode cX11_seen 36 = .ok (.bipush 8, 2) := by decide +kernel
theorem dX11_seen_38 : decode cX11_seen 38 = .ok (.if_icmp .ne 6, 3) := by decide +kernel
theorem dX11_seen_41 : decode cX11_seen 41 = .ok (.bipush (-4), 2) := by decide +kernel
theorem dX11_seen_43 : decode cX11_seen 43 = .ok (.ireturn, 1) := by decide +kernel
theorem dX11_seen_44 : decode cX11_seen 44 = .ok (.aload_n 0, 1) := by decide +kernel
theorem dX11_seen_45 : decode cX11_seen 45 = .ok (.getfield 103, 3) := by decide +kernel
theorem dX11_seen_48 : decode cX11_seen 48 = .ok (.aload_n 0, 1) := by decide +kernel
theorem dX11_seen_49 : decode cX11_seen 49 = .ok (.getfield 334, 3) := by decide +kernel
theorem dX11_seen_52 : decode cX11_seen 52 = .ok (.iload_n 1, 1) := by decide +kernel
theorem dX11_seen_53 : decode cX11_seen 53 = .ok (.iastore, 1) := by decide +kernel
theorem dX11_seen_54 : decode cX11_seen 54 = .ok (.aload_n 0, 1) := by decide +kernel
theorem dX11_seen_55 : decode cX11_seen 55 = .ok (.getfield 106, 3) := by decide +kernel
theorem dX11_seen_58 : decode cX11_seen 58 = .ok (.aload_n 0, 1) := by decide +kernel
theorem dX11_seen_59 : decode cX11_seen 59 = .ok (.getfield 334, 3) := by decide +kernel
theorem dX11_seen_62 : decode cX11_seen 62 = .ok (.iload_n 2, 1) := by decide +kernel
theorem dX11_seen_63 : decode cX11_seen 63 = .ok (.iastore, 1) := by decide +kernel
theorem dX11_seen_64 : decode cX11_seen 64 = .ok (.aload_n 0, 1) := by decide +kernel
theorem dX11_seen_65 : decode cX11_seen 65 = .ok (.getfield 109, 3) := by decide +kernel
theorem dX11_seen_68 : decode cX11_seen 68 = .ok (.aload_n 0, 1) := by decide +kernel
theorem dX11_seen_69 : decode cX11_seen 69 = .ok (.getfield 334, 3) := by decide +kernel
theorem dX11_seen_72 : decode cX11_seen 72 = .ok (.iload_n 3, 1) := by decide +kernel
theorem dX11_seen_73 : decode cX11_seen 73 = .ok (.iastore, 1) := by decide +kernel
theorem dX11_seen_74 : decode cX11_seen 74 = .ok (.aload_n 0, 1) := by decide +kernel
theorem dX11_seen_75 : decode cX11_seen 75 = .ok (.getfield 112, 3) := by decide +kernel
theorem dX11_seen_78 : decode cX11_seen 78 = .ok (.aload_n 0, 1) := by decide +kernel
theorem dX11_seen_79 : decode cX11_seen 79 = .ok (.getfield 334, 3) := by decide +kernel
theorem dX11_seen_82 : decode cX11_seen 82 = .ok (.iload 4, 2) := by decide +kernel
theorem dX11_seen_84 : decode cX11_seen 84 = .ok (.iastore, 1) := by decide +kernel
theorem dX11_seen_85 : decode cX11_seen 85 = .ok (.aload_n 0, 1) := by decide +kernel
theorem dX11_seen_86 : decode cX11_seen 86 = .ok (.dup, 1) := by decide +kernel
theorem dX11_seen_87 : decode cX11_seen 87 = .ok (.getfield 334, 3) := by decide +kernel
theorem dX11_seen_90 : decode cX11_seen 90 = .ok (.iconst 1, 1) := by decide +kernel
theorem dX11_seen_91 : decode cX11_seen 91 = .ok (.iadd, 1) := by decide +kernel
theorem dX11_seen_92 : decode cX11_seen 92 = .ok (.putfield 334, 3) := by decide +kernel
theorem dX11_seen_95 : decode cX11_seen 95 = .ok (.aload_n 0, 1) := by decide +kernel
theorem dX11_seen_96 : decode cX11_seen 96 = .ok (.getfield 334, 3) := by decide +kernel
theorem dX11_seen_99 : decode cX11_seen 99 = .ok (.ireturn, 1) := by decide +kernel
theorem dX11_forget_0 : decode cX11_forget 0 = .ok (.aload_n 0, 1) := by decide +kernel
theorem dX11_forget_1 : decode cX11_forget 1 = .ok (.getfield 334, 3) := by decide +kernel
theorem dX11_forget_4 : decode cX11_forget 4 = .ok (.istore_n 1, 1) := by decide +kernel
theorem dX11_forget_5 : decode cX11_forget 5 = .ok (.aload_n 0, 1) := by decide +kernel
theorem dX11_forget_6 : decode cX11_forget 6 = .ok (.iconst 0, 1) := by decide +kernel
theorem dX11_forget_7 : decode cX11_forget 7 = .ok (.putfield 334, 3) := by decide +kernel
theorem dX11_forget_10 : decode cX11_forget 10 = .ok (.iload_n 1, 1) := by decide +kernel
theorem dX11_forget_11 : decode cX11_forget 11 = .ok (.ireturn, 1) := by decide +kernel
theorem dX11_meets_0 : decode cX11_meets 0 = .ok (.aload_n 0, 1) := by decide +kernel
theorem dX11_meets_1 : decode cX11_meets 1 = .ok (.iload_n 1, 1) := by decide +kernel
theorem dX11_meets_2 : decode cX11_meets 2 = .ok (.putfield 372, 3) := by decide +kernel
theorem dX11_meets_5 : decode cX11_meets 5 = .ok (.bipush (-10), 2) := by decide +kernel
theorem dX11_meets_7 : decode cX11_meets 7 = .ok (.iload_n 1, 1) := by decide +kernel
theorem dX11_meets_8 : decode cX11_meets 8 = .ok (.isub, 1) := by decide +kernel
theorem dX11_meets_9 : decode cX11_meets 9 = .ok (.ireturn, 1) := by decide +kernel
theorem r_type (hd : 2 ≤ d) (L : Nat → Nat) (hL : okL σ L) (t b : Int32) : mMet G l d kX11_type [.ref 111, .int t, .int b] σ (qIP (fun r s => r = tyR L t b ∧ s = if wI t 2 ∧ wI b 256 ∧ L (cN t) ≠ 47 then us (us σ 113 (47 * cN t + L (cN t)) b) 112 (cN t) (nI (L (cN t) + 1)) else σ)) := by
  refine mMet.of cm_X11_type rfl (Nat.le_of_ble_eq_true rfl) rfl (fun v1 σ1 h => by obtain ⟨r, h1, -⟩ := h; rw [h1]; rfl) ?_
  unfold tyR
  refine m_iload_n dX11_type_0 1 rfl ?_
  refine m_callS (As := [_]) dX11_type_1 cs_X11_140 (by omega) rfl rfl (Nat.le_of_ble_eq_true rfl) (c_isText (d := d - 1) (by omega) t) (fun v1 σ1 hv1 => ?_)
  refine m_qI hv1 ?_
  clear hv1 v1 σ1
  refine m_if_eq dX11_type_4 18 (by decide) (fun h0 => ?_) (fun h0 => ?_)
  · have g0 : ¬ wI t 2 := fun q => bI0 h0 ((wI_le (n := 1) (by decide)).mpr q)
    refine m_bipush (v := -2) dX11_type_18 (by decide) ?_
    exact m_ireturn dX11_type_20 ⟨_, rfl, by rw [if_neg (fun q => g0 q.1)], by rw [if_neg (fun q => g0 q.1)]⟩
  · have w0 : wI t 2 := (wI_le (n := 1) (by decide)).mp (bI1 h0)
    refine m_iload_n dX11_type_7 2 rfl ?_
    refine m_iconst (v := 0) dX11_type_8 (by decide) ?_
    refine m_sipush (v := 255) dX11_type_9 (by decide) ?_
    refine m_callS (As := [_, _, _]) dX11_type_12 cs_X11_136 (by omega) rfl rfl (Nat.le_of_ble_eq_true rfl) (c_in (d := d - 1) b 0 255) (fun v1 σ1 hv1 => ?_)
    refine m_qI hv1 ?_
    clear hv1 v1 σ1
    refine m_if_ne dX11_type_15 21 (by decide) (fun h1 => ?_) (fun h1 => ?_)
    rotate_left
    · have g1 : ¬ wI b 256 := fun q => bI0 h1 ((wI_le (n := 255) (by decide)).mpr q)
      refine m_bipush (v := -2) dX11_type_18 (by decide) ?_
      exact m_ireturn dX11_type_20 ⟨_, rfl, by rw [if_neg (fun q => g1 q.2)], by rw [if_neg (fun q => g1 q.2.1)]⟩
    · have w1 : wI b 256 := (wI_le (n := 255) (by decide)).mp (bI1 h1)
      obtain ⟨j, hj, rfl⟩ := wI_of (by omega) w0
      obtain ⟨q1, q2⟩ := hL j hj
      rw [clN (show j < 1000 by omega), if_pos (And.intro w0 w1)]
      clear h0 h1
      refine m_aload_n dX11_type_21 0 rfl ?_
      refine m_getR 0 112 dX11_type_22 fl_X11_7_10 rfl (by decide) rfl (by first | assumption | rfl) ?_
      refine m_iload_n dX11_type_25 1 rfl ?_
      refine m_iald dX11_type_26 (by first | assumption | rfl) j rfl (by first | assumption | omega | decide) ?_
      refine mW.top q1 ?_
      refine m_bipush (v := 47) dX11_type_27 (by decide) ?_
      refine m_icmp_ne dX11_type_29 35 (by decide) (fun h2 => ?_) (fun h2 => ?_)
      rotate_left
      · have h3 : L j = 47 := (neq (b := 47) (by omega) (by omega)).mp h2
        refine m_bipush (v := -4) dX11_type_32 (by decide) ?_
        exact m_ireturn dX11_type_34 ⟨_, rfl, by rw [if_pos h3], by rw [if_neg (fun q => q.2.2 h3)]⟩
      · have h3 : ¬ L j = 47 := fun q => h2 (by rw [q]; rfl)
        refine m_aload_n dX11_type_35 0 rfl ?_
        refine m_getR 1 113 dX11_type_36 fl_X11_13_10 rfl (by decide) rfl (by first | assumption | rfl) ?_
        refine m_bipush (v := 47) dX11_type_39 (by decide) ?_
        refine m_iload_n dX11_type_41 1 rfl ?_
        refine m_imul dX11_type_42 ?_
        refine mW.top (w := nI (47 * j)) (pk_mul 47 j) ?_
        refine m_aload_n dX11_type_43 0 rfl ?_
        refine m_getR 0 112 dX11_type_44 fl_X11_7_10 rfl (by decide) rfl (by first | assumption | rfl) ?_
        refine m_iload_n dX11_type_47 1 rfl ?_
        refine m_iald dX11_type_48 (by first | assumption | rfl) j rfl (by first | assumption | omega | decide) ?_
        refine mW.top q1 ?_
        refine m_iadd dX11_type_49 ?_
        refine mW.top (w := nI (47 * j + L j)) (nadd rfl) ?_
        refine m_iload_n dX11_type_50 2 rfl ?_
        refine m_iast dX11_type_51 (by first | assumption | rfl) (47 * j + L j) rfl (by first | assumption | omega | decide) ?_
        refine m_aload_n dX11_type_52 0 rfl ?_
        refine m_getR 0 112 dX11_type_53 fl_X11_7_10 rfl (by decide) rfl (by first | assumption | rfl) ?_
        refine m_iload_n dX11_type_56 1 rfl ?_
        refine m_dup2 dX11_type_57 rfl rfl ?_
        refine m_iald dX11_type_58 (by first | assumption | rfl) j rfl (by first | assumption | omega | decide) ?_
        refine mW.top (w := nI (L j)) (by simp [us_at]; exact q1) ?_
        refine m_iconst (v := 1) dX11_type_59 (by decide) ?_
        refine m_iadd dX11_type_60 ?_
        refine mW.top (w := nI (L j + 1)) (nI_1 _) ?_
        refine m_iast dX11_type_61 (by first | assumption | rfl) j rfl (by first | assumption | omega | decide) ?_
        refine m_aload_n dX11_type_62 0 rfl ?_
        refine m_getR 0 112 dX11_type_63 fl_X11_7_10 rfl (by decide) rfl (by first | assumption | rfl) ?_
        refine m_iload_n dX11_type_66 1 rfl ?_
        refine m_iald dX11_type_67 (by first | assumption | rfl) j rfl (by first | assumption | omega | decide) ?_
        refine mW.top (w := nI (L j + 1)) (by simp [us_at]) ?_
        exact m_ireturn dX11_type_68 ⟨_, rfl, by rw [if_neg h3], by rw [if_pos (And.intro w0 (And.intro w1 h3))]⟩
theorem r_wipe (hd : 2 ≤ d) (L : Nat → Nat) (hL : okL σ L) (t : Int32) : mMet G l d kX11_wipe [.ref 111, .int t] σ (qIP (fun r s => r = wpR L t ∧ s = if wI t 2 then us σ 112 (cN t) 0 else σ)) := by
  refine mMet.of cm_X11_wipe rfl (Nat.le_of_ble_eq_true rfl) rfl (fun v1 σ1 h => by obtain ⟨r, h1, -⟩ := h; rw [h1]; rfl) ?_
  unfold wpR
  refine m_iload_n dX11_wipe_0 1 rfl ?_
  refine m_callS (As := [_]) dX11_wipe_1 cs_X11_140 (by omega) rfl rfl (Nat.le_of_ble_eq_true rfl) (c_isText (d := d - 1) (by omega) t) (fun v1 σ1 hv1 => ?_)
  refine m_qI hv1 ?_
  clear hv1 v1 σ1
  refine m_if_ne dX11_wipe_4 10 (by decide) (fun h0 => ?_) (fun h0 => ?_)
  rotate_left
  · have g0 : ¬ wI t 2 := fun q => bI0 h0 ((wI_le (n := 1) (by decide)).mpr q)
    refine m_bipush (v := -2) dX11_wipe_7 (by decide) ?_
    exact m_ireturn dX11_wipe_9 ⟨_, rfl, by rw [if_neg g0], by rw [if_neg g0]⟩
  · have w0 : wI t 2 := (wI_le (n := 1) (by decide)).mp (bI1 h0)
    obtain ⟨j, hj, rfl⟩ := wI_of (by omega) w0
    obtain ⟨q1, q2⟩ := hL j hj
    rw [clN (show j < 1000 by omega), if_pos w0, if_pos w0]
    refine m_aload_n dX11_wipe_10 0 rfl ?_
    refine m_getR 0 112 dX11_wipe_11 fl_X11_7_10 rfl (by decide) rfl (by first | assumption | rfl) ?_
    refine m_iload_n dX11_wipe_14 1 rfl ?_
    refine m_iald dX11_wipe_15 (by first | assumption | rfl) j rfl (by first | assumption | omega | decide) ?_
    refine mW.top q1 ?_
    refine m_istore_n (ls1 := [(2, _), (0, _), (1, _)]) dX11_wipe_16 (by decide) rfl ?_
    refine m_aload_n dX11_wipe_17 1 rfl ?_
    refine m_getR 0 112 dX11_wipe_18 fl_X11_7_10 rfl (by decide) rfl (by first | assumption | rfl) ?_
    refine m_iload_n dX11_wipe_21 2 rfl ?_
    refine m_iconst (v := 0) dX11_wipe_22 (by decide) ?_
    refine m_iast dX11_wipe_23 (by first | assumption | rfl) j rfl (by first | assumption | omega | decide) ?_
    refine m_iload_n dX11_wipe_24 0 rfl ?_
    exact m_ireturn dX11_wipe_25 ⟨_, rfl, rfl, rfl⟩
theorem r_undo (hd : 2 ≤ d) (L : Nat → Nat) (hL : okL σ L) (t : Int32) : mMet G l d kX11_undo [.ref 111, .int t] σ (qIP (fun r s => r = unR L t ∧ s = if wI t 2 ∧ L (cN t) ≠ 0 then us σ 112 (cN t) (nI (L (cN t) - 1)) else σ)) := by
  refine mMet.of cm_X11_undo rfl (Nat.le_of_ble_eq_true rfl) rfl (fun v1 σ1 h => by obtain ⟨r, h1, -⟩ := h; rw [h1]; rfl) ?_
  unfold unR
  refine m_iload_n dX11_undo_0 1 rfl ?_
  refine m_callS (As := [_]) dX11_undo_1 cs_X11_140 (by omega) rfl rfl (Nat.le_of_ble_eq_true rfl) (c_isText (d := d - 1) (by omega) t) (fun v1 σ1 hv1 => ?_)
  refine m_qI hv1 ?_
  clear hv1 v1 σ1
  refine m_if_ne dX11_undo_4 10 (by decide) (fun h0 => ?_) (fun h0 => ?_)
  rotate_left
  · have g0 : ¬ wI t 2 := fun q => bI0 h0 ((wI_le (n := 1) (by decide)).mpr q)
    refine m_bipush (v := -2) dX11_undo_7 (by decide) ?_
    exact m_ireturn dX11_undo_9 ⟨_, rfl, by rw [if_neg g0], by rw [if_neg (fun q => g0 q.1)]⟩
  · have w0 : wI t 2 := (wI_le (n := 1) (by decide)).mp (bI1 h0)
    obtain ⟨j, hj, rfl⟩ := wI_of (by omega) w0
    obtain ⟨q1, q2⟩ := hL j hj
    rw [clN (show j < 1000 by omega), if_pos w0]
    clear h0
    refine m_aload_n dX11_undo_10 0 rfl ?_
    refine m_getR 0 112 dX11_undo_11 fl_X11_7_10 rfl (by decide) rfl (by first | assumption | rfl) ?_
    refine m_iload_n dX11_undo_14 1 rfl ?_
    refine m_iald dX11_undo_15 (by first | assumption | rfl) j rfl (by first | assumption | omega | decide) ?_
    refine mW.top q1 ?_
    refine m_if_ne dX11_undo_16 22 (by decide) (fun h2 => ?_) (fun h2 => ?_)
    rotate_left
    · have h3 : L j = 0 := (neq (b := 0) (by omega) (by omega)).mp h2
      refine m_bipush (v := -3) dX11_undo_19 (by decide) ?_
      exact m_ireturn dX11_undo_21 ⟨_, rfl, by rw [if_pos h3], by rw [if_neg (fun q => q.2 h3)]⟩
    · have h3 : ¬ L j = 0 := fun q => h2 (by rw [q]; rfl)
      refine m_aload_n dX11_undo_22 0 rfl ?_
      refine m_getR 0 112 dX11_undo_23 fl_X11_7_10 rfl (by decide) rfl (by first | assumption | rfl) ?_
      refine m_iload_n dX11_undo_26 1 rfl ?_
      refine m_dup2 dX11_undo_27 rfl rfl ?_
      refine m_iald dX11_undo_28 (by first | assumption | rfl) j rfl (by first | assumption | omega | decide) ?_
      refine mW.top q1 ?_
      refine m_iconst (v := 1) dX11_undo_29 (by decide) ?_
      refine m_isub dX11_undo_30 ?_
      refine mW.top (w := nI (L j - 1)) (pk_sub (b := 1) (by omega)) ?_
      refine m_iast dX11_undo_31 (by first | assumption | rfl) j rfl (by first | assumption | omega | decide) ?_
      refine m_aload_n dX11_undo_32 0 rfl ?_
      refine m_getR 0 112 dX11_undo_33 fl_X11_7_10 rfl (by decide) rfl (by first | assumption | rfl) ?_
      refine m_iload_n dX11_undo_36 1 rfl ?_
      refine m_iald dX11_undo_37 (by first | assumption | rfl) j rfl (by first | assumption | omega | decide) ?_
      refine mW.top (w := nI (L j - 1)) (by simp [us_at]) ?_
      exact m_ireturn dX11_undo_38 ⟨_, rfl, by rw [if_neg h3], by rw [if_pos (And.intro w0 h3)]⟩
theorem r_event (hd : 2 ≤ d) (e : Nat) (he : σ.1 111 12 = nI e) (he8 : e ≤ 8) (k m c : Int32) : mMet G l d kX11_event [.ref 111, .int k, .int m, .int c] σ (qIP (fun r s => r = evR e k m c ∧ s = if (wI k 2 ∧ wI m 24 ∧ wI c 8) ∧ e ≠ 8 then us (us (us (us σ 122 e k) 123 e m) 124 e c) 111 12 (nI (e + 1)) else σ)) := by
  refine mMet.of cm_X11_event rfl (Nat.le_of_ble_eq_true rfl) rfl (fun v1 σ1 h => by obtain ⟨r, h1, -⟩ := h; rw [h1]; rfl) ?_
  unfold evR
  refine m_iload_n dX11_event_0 1 rfl ?_
  refine m_callS (As := [_]) dX11_event_1 cs_X11_195 (by omega) rfl rfl (Nat.le_of_ble_eq_true rfl) (c_isTwo (d := d - 1) (by omega) k) (fun v1 σ1 hv1 => ?_)
  refine m_qI hv1 ?_
  clear hv1 v1 σ1
  refine m_if_eq dX11_event_4 21 (by decide) (fun h0 => ?_) (fun h0 => ?_)
  · have g0 : ¬ wI k 2 := fun q => bI0 h0 ((wI_le (n := 1) (by decide)).mpr q)
    refine m_bipush (v := -2) dX11_event_21 (by decide) ?_
    exact m_ireturn dX11_event_23 ⟨_, rfl, by rw [if_neg (fun q => g0 q.1)], by rw [if_neg (fun q => g0 q.1.1)]⟩
  · have w0 : wI k 2 := (wI_le (n := 1) (by decide)).mp (bI1 h0)
    refine m_iload_n dX11_event_7 2 rfl ?_
    refine m_callS (As := [_]) dX11_event_8 cs_X11_198 (by omega) rfl rfl (Nat.le_of_ble_eq_true rfl) (c_isMoment (d := d - 1) (by omega) m) (fun v1 σ1 hv1 => ?_)
    refine m_qI hv1 ?_
    clear hv1 v1 σ1
    refine m_if_eq dX11_event_11 21 (by decide) (fun h1 => ?_) (fun h1 => ?_)
    · have g1 : ¬ wI m 24 := fun q => bI0 h1 ((wI_le (n := 23) (by decide)).mpr q)
      refine m_bipush (v := -2) dX11_event_21 (by decide) ?_
      exact m_ireturn dX11_event_23 ⟨_, rfl, by rw [if_neg (fun q => g1 q.2.1)], by rw [if_neg (fun q => g1 q.1.2.1)]⟩
    · have w1 : wI m 24 := (wI_le (n := 23) (by decide)).mp (bI1 h1)
      refine m_iload_n dX11_event_14 3 rfl ?_
      refine m_callS (As := [_]) dX11_event_15 cs_X11_201 (by omega) rfl rfl (Nat.le_of_ble_eq_true rfl) (c_isEight (d := d - 1) (by omega) c) (fun v1 σ1 hv1 => ?_)
      refine m_qI hv1 ?_
      clear hv1 v1 σ1
      refine m_if_ne dX11_event_18 24 (by decide) (fun h2 => ?_) (fun h2 => ?_)
      rotate_left
      · have g2 : ¬ wI c 8 := fun q => bI0 h2 ((wI_le (n := 7) (by decide)).mpr q)
        refine m_bipush (v := -2) dX11_event_21 (by decide) ?_
        exact m_ireturn dX11_event_23 ⟨_, rfl, by rw [if_neg (fun q => g2 q.2.2)], by rw [if_neg (fun q => g2 q.1.2.2)]⟩
      · have w2 : wI c 8 := (wI_le (n := 7) (by decide)).mp (bI1 h2)
        rw [if_pos (And.intro w0 (And.intro w1 w2))]
        refine m_aload_n dX11_event_24 0 rfl ?_
        refine m_getI 12 dX11_event_25 fl_X11_204_10 rfl (by decide) (by first | assumption | rfl) ?_
        refine mW.top he ?_
        refine m_bipush (v := 8) dX11_event_28 (by decide) ?_
        refine m_icmp_ne dX11_event_30 36 (by decide) (fun h3 => ?_) (fun h3 => ?_)
        rotate_left
        · have h4 : e = 8 := (neq (b := 8) (by omega) (by omega)).mp h3
          refine m_bipush (v := -4) dX11_event_33 (by decide) ?_
          exact m_ireturn dX11_event_35 ⟨_, rfl, by rw [if_pos h4], by rw [if_neg (fun q => q.2 h4)]⟩
        · have h4 : ¬ e = 8 := fun q => h3 (by rw [q]; rfl)
          have he9 : e < 9 := by omega
          refine m_aload_n dX11_event_36 0 rfl ?_
          refine m_getR 13 122 dX11_event_37 fl_X11_40_10 rfl (by decide) rfl (by first | assumption | rfl) ?_
          refine m_aload_n dX11_event_40 0 rfl ?_
          refine m_getI 12 dX11_event_41 fl_X11_204_10 rfl (by decide) (by first | assumption | rfl) ?_
          refine mW.top he ?_
          refine m_iload_n dX11_event_44 1 rfl ?_
          refine m_iast dX11_event_45 (by first | assumption | rfl) e rfl (by first | assumption | omega | decide) ?_
          refine m_aload_n dX11_event_46 0 rfl ?_
          refine m_getR 14 123 dX11_event_47 fl_X11_43_10 rfl (by decide) rfl (by first | assumption | rfl) ?_
          refine m_aload_n dX11_event_50 0 rfl ?_
          refine m_getI 12 dX11_event_51 fl_X11_204_10 rfl (by decide) (by first | assumption | rfl) ?_
          refine mW.top (w := nI e) (by simp [us_at]; exact he) ?_
          refine m_iload_n dX11_event_54 2 rfl ?_
          refine m_iast dX11_event_55 (by first | assumption | rfl) e rfl (by first | assumption | omega | decide) ?_
          refine m_aload_n dX11_event_56 0 rfl ?_
          refine m_getR 15 124 dX11_event_57 fl_X11_46_10 rfl (by decide) rfl (by first | assumption | rfl) ?_
          refine m_aload_n dX11_event_60 0 rfl ?_
          refine m_getI 12 dX11_event_61 fl_X11_204_10 rfl (by decide) (by first | assumption | rfl) ?_
          refine mW.top (w := nI e) (by simp [us_at]; exact he) ?_
          refine m_iload_n dX11_event_64 3 rfl ?_
          refine m_iast dX11_event_65 (by first | assumption | rfl) e rfl (by first | assumption | omega | decide) ?_
          refine m_aload_n dX11_event_66 0 rfl ?_
          refine m_dup dX11_event_67 rfl ?_
          refine m_getI 12 dX11_event_68 fl_X11_204_10 rfl (by decide) (by first | assumption | rfl) ?_
          refine mW.top (w := nI e) (by simp [us_at]; exact he) ?_
          refine m_iconst (v := 1) dX11_event_71 (by decide) ?_
          refine m_iadd dX11_event_72 ?_
          refine mW.top (w := nI (e + 1)) (nI_1 _) ?_
          refine m_putI 12 dX11_event_73 fw_X11_204_10 rfl (by decide) rfl rfl (by first | assumption | rfl) ?_
          refine m_aload_n dX11_event_76 0 rfl ?_
          refine m_getI 12 dX11_event_77 fl_X11_204_10 rfl (by decide) (by first | assumption | rfl) ?_
          refine mW.top (w := nI (e + 1)) (by simp [us_at]) ?_
          exact m_ireturn dX11_event_80 ⟨_, rfl, by rw [if_neg h4], by rw [if_pos (And.intro (And.intro w0 (And.intro w1 w2)) h4)]⟩
theorem r_back (e : Nat) (he : σ.1 111 12 = nI e) (he8 : e ≤ 8) : mMet G l d kX11_back [.ref 111] σ (qIP (fun r s => r = bkR e ∧ s = if e ≠ 0 then us σ 111 12 (nI (e - 1)) else σ)) := by
  refine mMet.of cm_X11_back rfl (Nat.le_of_ble_eq_true rfl) rfl (fun v1 σ1 h => by obtain ⟨r, h1, -⟩ := h; rw [h1]; rfl) ?_
  unfold bkR
  refine m_aload_n dX11_back_0 0 rfl ?_
  refine m_getI 12 dX11_back_1 fl_X11_204_10 rfl (by decide) (by first | assumption | rfl) ?_
  refine mW.top he ?_
  refine m_if_ne dX11_back_4 10 (by decide) (fun h2 => ?_) (fun h2 => ?_)
  rotate_left
  · have h3 : e = 0 := (neq (b := 0) (by omega) (by omega)).mp h2
    refine m_bipush (v := -3) dX11_back_7 (by decide) ?_
    exact m_ireturn dX11_back_9 ⟨_, rfl, by rw [if_pos h3], by rw [if_neg (fun q => q h3)]⟩
  · have h3 : ¬ e = 0 := fun q => h2 (by rw [q]; rfl)
    refine m_aload_n dX11_back_10 0 rfl ?_
    refine m_dup dX11_back_11 rfl ?_
    refine m_getI 12 dX11_back_12 fl_X11_204_10 rfl (by decide) (by first | assumption | rfl) ?_
    refine mW.top he ?_
    refine m_iconst (v := 1) dX11_back_15 (by decide) ?_
    refine m_isub dX11_back_16 ?_
    refine mW.top (w := nI (e - 1)) (pk_sub (b := 1) (by omega)) ?_
    refine m_putI 12 dX11_back_17 fw_X11_204_10 rfl (by decide) rfl rfl (by first | assumption | rfl) ?_
    refine m_aload_n dX11_back_20 0 rfl ?_
    refine m_getI 12 dX11_back_21 fl_X11_204_10 rfl (by decide) (by first | assumption | rfl) ?_
    refine mW.top (w := nI (e - 1)) (by simp [us_at]) ?_
    exact m_ireturn dX11_back_24 ⟨_, rfl, by rw [if_neg h3], by rw [if_pos h3]⟩
theorem r_seen (hd : 2 ≤ d) (z : Nat) (hz : σ.1 111 41 = nI z) (hz8 : z ≤ 8) (m c x y : Int32) : mMet G l d kX11_seen [.ref 111, .int m, .int c, .int x, .int y] σ (qIP (fun r s => r = seR z m c x y ∧ s = if (wI m 24 ∧ wI c 8 ∧ wI x 6 ∧ wI y 6) ∧ z ≠ 8 then us (us (us (us (us σ 143 z m) 144 z c) 145 z x) 146 z y) 111 41 (nI (z + 1)) else σ)) := by
  refine mMet.of cm_X11_seen rfl (Nat.le_of_ble_eq_true rfl) rfl (fun v1 σ1 h => by obtain ⟨r, h1, -⟩ := h; rw [h1]; rfl) ?_
  unfold seR
  refine m_iload_n dX11_seen_0 1 rfl ?_
  refine m_callS (As := [_]) dX11_seen_1 cs_X11_198 (by omega) rfl rfl (Nat.le_of_ble_eq_true rfl) (c_isMoment (d := d - 1) (by omega) m) (fun v1 σ1 hv1 => ?_)
  refine m_qI hv1 ?_
  clear hv1 v1 σ1
  refine m_if_eq dX11_seen_4 29 (by decide) (fun h0 => ?_) (fun h0 => ?_)
  · have g0 : ¬ wI m 24 := fun q => bI0 h0 ((wI_le (n := 23) (by decide)).mpr q)
    refine m_bipush (v := -2) dX11_seen_29 (by decide) ?_
    exact m_ireturn dX11_seen_31 ⟨_, rfl, by rw [if_neg (fun q => g0 q.1)], by rw [if_neg (fun q => g0 q.1.1)]⟩
  · have w0 : wI m 24 := (wI_le (n := 23) (by decide)).mp (bI1 h0)
    refine m_iload_n dX11_seen_7 2 rfl ?_
    refine m_callS (As := [_]) dX11_seen_8 cs_X11_201 (by omega) rfl rfl (Nat.le_of_ble_eq_true rfl) (c_isEight (d := d - 1) (by omega) c) (fun v1 σ1 hv1 => ?_)
    refine m_qI hv1 ?_
    clear hv1 v1 σ1
    refine m_if_eq dX11_seen_11 29 (by decide) (fun h1 => ?_) (fun h1 => ?_)
    · have g1 : ¬ wI c 8 := fun q => bI0 h1 ((wI_le (n := 7) (by decide)).mpr q)
      refine m_bipush (v := -2) dX11_seen_29 (by decide) ?_
      exact m_ireturn dX11_seen_31 ⟨_, rfl, by rw [if_neg (fun q => g1 q.2.1)], by rw [if_neg (fun q => g1 q.1.2.1)]⟩
    · have w1 : wI c 8 := (wI_le (n := 7) (by decide)).mp (bI1 h1)
      refine m_iload_n dX11_seen_14 3 rfl ?_
      refine m_callS (As := [_]) dX11_seen_15 cs_X11_155 (by omega) rfl rfl (Nat.le_of_ble_eq_true rfl) (c_isSix (d := d - 1) (by omega) x) (fun v1 σ1 hv1 => ?_)
      refine m_qI hv1 ?_
      clear hv1 v1 σ1
      refine m_if_eq dX11_seen_18 29 (by decide) (fun h2 => ?_) (fun h2 => ?_)
      · have g2 : ¬ wI x 6 := fun q => bI0 h2 ((wI_le (n := 5) (by decide)).mpr q)
        refine m_bipush (v := -2) dX11_seen_29 (by decide) ?_
        exact m_ireturn dX11_seen_31 ⟨_, rfl, by rw [if_neg (fun q => g2 q.2.2.1)], by rw [if_neg (fun q => g2 q.1.2.2.1)]⟩
      · have w2 : wI x 6 := (wI_le (n := 5) (by decide)).mp (bI1 h2)
        refine m_iload dX11_seen_21 4 rfl ?_
        refine m_callS (As := [_]) dX11_seen_23 cs_X11_155 (by omega) rfl rfl (Nat.le_of_ble_eq_true rfl) (c_isSix (d := d - 1) (by omega) y) (fun v1 σ1 hv1 => ?_)
        refine m_qI hv1 ?_
        clear hv1 v1 σ1
        refine m_if_ne dX11_seen_26 32 (by decide) (fun h3 => ?_) (fun h3 => ?_)
        rotate_left
        · have g3 : ¬ wI y 6 := fun q => bI0 h3 ((wI_le (n := 5) (by decide)).mpr q)
          refine m_bipush (v := -2) dX11_seen_29 (by decide) ?_
          exact m_ireturn dX11_seen_31 ⟨_, rfl, by rw [if_neg (fun q => g3 q.2.2.2)], by rw [if_neg (fun q => g3 q.1.2.2.2)]⟩
        · have w3 : wI y 6 := (wI_le (n := 5) (by decide)).mp (bI1 h3)
          rw [if_pos (And.intro w0 (And.intro w1 (And.intro w2 w3)))]
          refine m_aload_n dX11_seen_32 0 rfl ?_
          refine m_getI 41 dX11_seen_33 fl_X11_334_10 rfl (by decide) (by first | assumption | rfl) ?_
          refine mW.top hz ?_
          refine m_bipush (v := 8) dX11_seen_36 (by decide) ?_
          refine m_icmp_ne dX11_seen_38 44 (by decide) (fun h5 => ?_) (fun h5 => ?_)
          rotate_left
          · have h4 : z = 8 := (neq (b := 8) (by omega) (by omega)).mp h5
            refine m_bipush (v := -4) dX11_seen_41 (by decide) ?_
            exact m_ireturn dX11_seen_43 ⟨_, rfl, by rw [if_pos h4], by rw [if_neg (fun q => q.2 h4)]⟩
          · have h4 : ¬ z = 8 := fun q => h5 (by rw [q]; rfl)
            have hz9 : z < 8 := by omega
            refine m_aload_n dX11_seen_44 0 rfl ?_
            refine m_getR 42 143 dX11_seen_45 fl_X11_103_10 rfl (by decide) rfl (by first | assumption | rfl) ?_
            refine m_aload_n dX11_seen_48 0 rfl ?_
            refine m_getI 41 dX11_seen_49 fl_X11_334_10 rfl (by decide) (by first | assumption | rfl) ?_
            refine mW.top hz ?_
            refine m_iload_n dX11_seen_52 1 rfl ?_
            refine m_iast dX11_seen_53 (by first | assumption | rfl) z rfl (by first | assumption | omega | decide) ?_
            refine m_aload_n dX11_seen_54 0 rfl ?_
            refine m_getR 43 144 dX11_seen_55 fl_X11_106_10 rfl (by decide) rfl (by first | assumption | rfl) ?_
            refine m_aload_n dX11_seen_58 0 rfl ?_
            refine m_getI 41 dX11_seen_59 fl_X11_334_10 rfl (by decide) (by first | assumption | rfl) ?_
            refine mW.top (w := nI z) (by simp [us_at]; exact hz) ?_
            refine m_iload_n dX11_seen_62 2 rfl ?_
            refine m_iast dX11_seen_63 (by first | assumption | rfl) z rfl (by first | assumption | omega | decide) ?_
            refine m_aload_n dX11_seen_64 0 rfl ?_
            refine m_getR 44 145 dX11_seen_65 fl_X11_109_10 rfl (by decide) rfl (by first | assumption | rfl) ?_
            refine m_aload_n dX11_seen_68 0 rfl ?_
            refine m_getI 41 dX11_seen_69 fl_X11_334_10 rfl (by decide) (by first | assumption | rfl) ?_
            refine mW.top (w := nI z) (by simp [us_at]; exact hz) ?_
            refine m_iload_n dX11_seen_72 3 rfl ?_
            refine m_iast dX11_seen_73 (by first | assumption | rfl) z rfl (by first | assumption | omega | decide) ?_
            refine m_aload_n dX11_seen_74 0 rfl ?_
            refine m_getR 45 146 dX11_seen_75 fl_X11_112_10 rfl (by decide) rfl (by first | assumption | rfl) ?_
            refine m_aload_n dX11_seen_78 0 rfl ?_
            refine m_getI 41 dX11_seen_79 fl_X11_334_10 rfl (by decide) (by first | assumption | rfl) ?_
            refine mW.top (w := nI z) (by simp [us_at]; exact hz) ?_
            refine m_iload dX11_seen_82 4 rfl ?_
            refine m_iast dX11_seen_84 (by first | assumption | rfl) z rfl (by first | assumption | omega | decide) ?_
            refine m_aload_n dX11_seen_85 0 rfl ?_
            refine m_dup dX11_seen_86 rfl ?_
            refine m_getI 41 dX11_seen_87 fl_X11_334_10 rfl (by decide) (by first | assumption | rfl) ?_
            refine mW.top (w := nI z) (by simp [us_at]; exact hz) ?_
            refine m_iconst (v := 1) dX11_seen_90 (by decide) ?_
            refine m_iadd dX11_seen_91 ?_
            refine mW.top (w := nI (z + 1)) (nI_1 _) ?_
            refine m_putI 41 dX11_seen_92 fw_X11_334_10 rfl (by decide) rfl rfl (by first | assumption | rfl) ?_
            refine m_aload_n dX11_seen_95 0 rfl ?_
            refine m_getI 41 dX11_seen_96 fl_X11_334_10 rfl (by decide) (by first | assumption | rfl) ?_
            refine mW.top (w := nI (z + 1)) (by simp [us_at]) ?_
            exact m_ireturn dX11_seen_99 ⟨_, rfl, by rw [if_neg h4], by rw [if_pos (And.intro (And.intro w0 (And.intro w1 (And.intro w2 w3))) h4)]⟩
theorem r_forget (z : Nat) (hz : σ.1 111 41 = nI z) : mMet G l d kX11_forget [.ref 111] σ (qIP (fun r s => r = nI z ∧ s = us σ 111 41 0)) := by
  refine mMet.of cm_X11_forget rfl (Nat.le_of_ble_eq_true rfl) rfl (fun v1 σ1 h => by obtain ⟨r, h1, -⟩ := h; rw [h1]; rfl) ?_
  refine m_aload_n dX11_forget_0 0 rfl ?_
  refine m_getI 41 dX11_forget_1 fl_X11_334_10 rfl (by decide) (by first | assumption | rfl) ?_
  refine mW.top hz ?_
  refine m_istore_n (ls1 := [(1, _), (0, _)]) dX11_forget_4 (by decide) rfl ?_
  refine m_aload_n dX11_forget_5 1 rfl ?_
  refine m_iconst (v := 0) dX11_forget_6 (by decide) ?_
  refine m_putI 41 dX11_forget_7 fw_X11_334_10 rfl (by decide) rfl rfl (by first | assumption | rfl) ?_
  refine m_iload_n dX11_forget_10 0 rfl ?_
  exact m_ireturn dX11_forget_11 ⟨_, rfl, rfl, rfl⟩
theorem c_meets (n : Int32) : mMet G l d kX11_meets [.ref 111, .int n] σ (qI (-10 - n) (us σ 111 52 n)) := by
  refine mMet.of cm_X11_meets rfl (Nat.le_of_ble_eq_true rfl) rfl (fun v1 σ1 h => by rw [h.1]; rfl) ?_
  refine m_aload_n dX11_meets_0 0 rfl ?_
  refine m_iload_n dX11_meets_1 1 rfl ?_
  refine m_putI 52 dX11_meets_2 fw_X11_372_10 rfl (by decide) rfl rfl (by first | assumption | rfl) ?_
  refine m_bipush (v := -10) dX11_meets_5 (by decide) ?_
  refine m_iload_n dX11_meets_7 1 rfl ?_
  refine m_isub dX11_meets_8 ?_
  exact m_ireturn dX11_meets_9 ⟨rfl, rfl⟩
end TL


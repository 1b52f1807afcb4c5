/-! ===== the class: what had better not be ===== -/
def ushN (x k : Int32) : Int32 := (x.toUInt32 >>> (k.toUInt32 &&& Int32.toUInt32 31)).toInt32
def bc1 (x : Int32) : Int32 := x - (ushN x 1 &&& 1431655765)
def bc2 (x : Int32) : Int32 := (x &&& 858993459) + (ushN x 2 &&& 858993459)
def bc3 (x : Int32) : Int32 := (x + ushN x 4) &&& 252645135
def bcF (x : Int32) : Int32 := (bc3 (bc2 (bc1 x)) + ushN (bc3 (bc2 (bc1 x))) 8 + ushN (bc3 (bc2 (bc1 x)) + ushN (bc3 (bc2 (bc1 x))) 8) 16) &&& 63
def spF (m i : Int32) : Int32 := if m = -1 then -1 else if i = -1 then bcF m else if (if i = 0 then m else m &&& (m - 1)) = 0 then -1 else bcF (((if i = 0 then m else m &&& (m - 1)) &&& -(if i = 0 then m else m &&& (m - 1))) - 1)
/-- the events that had better not be, as bits -/
def spM (D : Deb) (m : Int32) : Prop := (spR D = (0, 0, 0) ∧ m = 0) ∨ (∃ a, a < 8 ∧ spR D = (1, nI a, 0) ∧ m = bit1 a) ∨ (∃ a b, a < b ∧ b < 8 ∧ spR D = (2, nI a, nI b) ∧ m = bit1 a ||| bit1 b) ∨ (spR D = (-1, 0, 0) ∧ m = -1)
theorem sp_0 : spF 0 (-1) = 0 ∧ spF 0 0 = -1 ∧ spF 0 1 = -1 := by decide +kernel
theorem sp_1 : ∀ a, a < 8 → spF (bit1 a) (-1) = 1 ∧ spF (bit1 a) 0 = nI a ∧ spF (bit1 a) 1 = -1 := by decide +kernel
theorem sp_2 : ∀ b, b < 8 → ∀ a, a < b → spF (bit1 a ||| bit1 b) (-1) = 2 ∧ spF (bit1 a ||| bit1 b) 0 = nI a ∧ spF (bit1 a ||| bit1 b) 1 = nI b := by decide +kernel
theorem sp_m : spF (-1) (-1) = -1 ∧ spF (-1) 0 = -1 ∧ spF (-1) 1 = -1 := by decide +kernel
theorem spM_A {D : Deb} {m : Int32} (h : spM D m) (i : Int32) (hi : i = -1 ∨ i = 0 ∨ i = 1) : spF m i = spA D i := by
  unfold spA
  rcases h with ⟨e, rfl⟩ | ⟨a, ha, e, rfl⟩ | ⟨a, b, hab, hb, e, rfl⟩ | ⟨e, rfl⟩
  · rw [e]
    rcases hi with rfl | rfl | rfl
    · exact sp_0.1
    · exact sp_0.2.1
    · exact sp_0.2.2
  · rw [e]
    rcases hi with rfl | rfl | rfl
    · exact (sp_1 a ha).1
    · exact (sp_1 a ha).2.1
    · exact (sp_1 a ha).2.2
  · rw [e]
    rcases hi with rfl | rfl | rfl
    · exact (sp_2 b hb a hab).1
    · exact (sp_2 b hb a hab).2.1
    · exact (sp_2 b hb a hab).2.2
  · rw [e]
    rcases hi with rfl | rfl | rfl
    · exact sp_m.1
    · exact sp_m.2.1
    · exact sp_m.2.2
section SX
variable {G : mG} {l : Launch} {d : Nat} {σ : mS}
theorem dJ6_bitCount_0f7a4_0 : decode cJ6_bitCount_0f7a4 0 = .ok (.iload_n 0, 1) := by decide +kernel
theorem dJ6_bitCount_0f7a4_1 : decode cJ6_bitCount_0f7a4 1 = .ok (.iload_n 0, 1) := by decide +kernel
theorem dJ6_bitCount_0f7a4_2 : decode cJ6_bitCount_0f7a4 2 = .ok (.iconst 1, 1) := by decide +kernel
theorem dJ6_bitCount_0f7a4_3 : decode cJ6_bitCount_0f7a4 3 = .ok (.iushr, 1) := by decide +kernel
theorem dJ6_bitCount_0f7a4_4 : decode cJ6_bitCount_0f7a4 4 = .ok (.ldc_w 265, 3) := by decide +kernel
theorem dJ6_bitCount_0f7a4_7 : decode cJ6_bitCount_0f7a4 7 = .ok (.iand, 1) := by decide +kernel
theorem dJ6_bitCount_0f7a4_8 : decode cJ6_bitCount_0f7a4 8 = .ok (.isub, 1) := by decide +kernel
theorem dJ6_bitCount_0f7a4_9 : decode cJ6_bitCount_0f7a4 9 = .ok (.istore_n 0, 1) := by decide +kernel
theorem dJ6_bitCount_0f7a4_10 : decode cJ6_bitCount_0f7a4 10 = .ok (.iload_n 0, 1) := by decide +kernel
theorem dJ6_bitCount_0f7a4_11 : decode cJ6_bitCount_0f7a4 11 = .ok (.ldc_w 266, 3) := by decide +kernel
theorem dJ6_bitCount_0f7a4_14 : decode cJ6_bitCount_0f7a4 14 = .ok (.iand, 1) := by decide +kernel
theorem dJ6_bitCount_0f7a4_15 : decode cJ6_bitCount_0f7a4 15 = .ok (.iload_n 0, 1) := by decide +kernel
theorem dJ6_bitCount_0f7a4_16 : decode cJ6_bitCount_0f7a4 16 = .ok (.iconst 2, 1) := by decide +kernel
theorem dJ6_bitCount_0f7a4_17 : decode cJ6_bitCount_0f7a4 17 = .ok (.iushr, 1) := by decide +kernel
theorem dJ6_bitCount_0f7a4_18 : decode cJ6_bitCount_0f7a4 18 = .ok (.ldc_w 266, 3) := by decide +kernel
theorem dJ6_bitCount_0f7a4_21 : decode cJ6_bitCount_0f7a4 21 = .ok (.iand, 1) := by decide +kernel
theorem dJ6_bitCount_0f7a4_22 : decode cJ6_bitCount_0f7a4 22 = .ok (.iadd, 1) := by decide +kernel
theorem dJ6_bitCount_0f7a4_23 : decode cJ6_bitCount_0f7a4 23 = .ok (.istore_n 0, 1) := by decide +kernel
theorem dJ6_bitCount_0f7a4_24 : decode cJ6_bitCount_0f7a4 24 = .ok (.iload_n 0, 1) := by decide +kernel
theorem dJ6_bitCount_0f7a4_25 : decode cJ6_bitCount_0f7a4 25 = .ok (.iload_n 0, 1) := by decide +kernel
theorem dJ6_bitCount_0f7a4_26 : decode cJ6_bitCount_0f7a4 26 = .ok (.iconst 4, 1) := by decide +kernel
theorem dJ6_bitCount_0f7a4_27 : decode cJ6_bitCount_0f7a4 27 = .ok (.iushr, 1) := by decide +kernel
theorem dJ6_bitCount_0f7a4_28 : decode cJ6_bitCount_0f7a4 28 = .ok (.iadd, 1) := by decide +kernel
theorem dJ6_bitCount_0f7a4_29 : decode cJ6_bitCount_0f7a4 29 = .ok (.ldc_w 267, 3) := by decide +kernel
theorem dJ6_bitCount_0f7a4_32 : decode cJ6_bitCount_0f7a4 32 = .ok (.iand, 1) := by decide +kernel
theorem dJ6_bitCount_0f7a4_33 : decode cJ6_bitCount_0f7a4 33 = .ok (.istore_n 0, 1) := by decide +kernel
theorem dJ6_bitCount_0f7a4_34 : decode cJ6_bitCount_0f7a4 34 = .ok (.iload_n 0, 1) := by decide +kernel
theorem dJ6_bitCount_0f7a4_35 : decode cJ6_bitCount_0f7a4 35 = .ok (.iload_n 0, 1) := by decide +kernel
theorem dJ6_bitCount_0f7a4_36 : decode cJ6_bitCount_0f7a4 36 = .ok (.bipush 8, 2) := by decide +kernel
theorem dJ6_bitCount_0f7a4_38 : decode cJ6_bitCount_0f7a4 38 = .ok (.iushr, 1) := by decide +kernel
theorem dJ6_bitCount_0f7a4_39 : decode cJ6_bitCount_0f7a4 39 = .ok (.iadd, 1) := by decide +kernel
theorem dJ6_bitCount_0f7a4_40 : decode cJ6_bitCount_0f7a4 40 = .ok (.istore_n 0, 1) := by decide +kernel
theorem dJ6_bitCount_0f7a4_41 : decode cJ6_bitCount_0f7a4 41 = .ok (.iload_n 0, 1) := by decide +kernel
theorem dJ6_bitCount_0f7a4_42 : decode cJ6_bitCount_0f7a4 42 = .ok (.iload_n 0, 1) := by decide +kernel
theorem dJ6_bitCount_0f7a4_43 : decode cJ6_bitCount_0f7a4 43 = .ok (.bipush 16, 2) := by decide +kernel
theorem dJ6_bitCount_0f7a4_45 : decode cJ6_bitCount_0f7a4 45 = .ok (.iushr, 1) := by decide +kernel
theorem dJ6_bitCount_0f7a4_46 : decode cJ6_bitCount_0f7a4 46 = .ok (.iadd, 1) := by decide +kernel
theorem dJ6_bitCount_0f7a4_47 : decode cJ6_bitCount_0f7a4 47 = .ok (.istore_n 0, 1) := by decide +kernel
theorem dJ6_bitCount_0f7a4_48 : decode cJ6_bitCount_0f7a4 48 = .ok (.iload_n 0, 1) := by decide +kernel
theorem dJ6_bitCount_0f7a4_49 : decode cJ6_bitCount_0f7a4 49 = .ok (.bipush 63, 2) := by decide +kernel
theorem dJ6_bitCount_0f7a4_51 : decode cJ6_bitCount_0f7a4 51 = .ok (.iand, 1) := by decide +kernel
theorem dJ6_bitCount_0f7a4_52 : decode cJ6_bitCount_0f7a4 52 = .ok (.ireturn, 1) := by decide +kernel
theorem dX10_sparePart_0 : decode cX10_sparePart 0 = .ok (.iload_n 0, 1) := by decide +kernel
theorem dX10_sparePart_1 : decode cX10_sparePart 1 = .ok (.iconst (-1), 1) := by decide +kernel
theorem dX10_sparePart_2 : decode cX10_sparePart 2 = .ok (.if_icmp .ne 5, 3) := by decide +kernel
theorem dX10_sparePart_5 : decode cX10_sparePart 5 = .ok (.iconst (-1), 1) := by decide +kernel
theorem dX10_sparePart_6 : decode cX10_sparePart 6 = .ok (.ireturn, 1) := by decide +kernel
theorem dX10_sparePart_7 : decode cX10_sparePart 7 = .ok (.iload_n 1, 1) := by decide +kernel
theorem dX10_sparePart_8 : decode cX10_sparePart 8 = .ok (.iconst (-1), 1) := by decide +kernel
theorem dX10_sparePart_9 : decode cX10_sparePart 9 = .ok (.if_icmp .ne 8, 3) := by decide +kernel
theorem dX10_sparePart_12 : decode cX10_sparePart 12 = .ok (.iload_n 0, 1) := by decide +kernel
theorem dX10_sparePart_13 : decode cX10_sparePart 13 = .ok (.invokestatic 310, 3) := by decide +kernel
theorem dX10_sparePart_16 : decode cX10_sparePart 16 = .ok (.ireturn, 1) := by decide +kernel
theorem dX10_sparePart_17 : decode cX10_sparePart 17 = .ok (.iload_n 1, 1) := by decide +kernel
theorem dX10_sparePart_18 : decode cX10_sparePart 18 = .ok (.ifCond .ne 7, 3) := by decide +kernel
theorem dX10_sparePart_21 : decode cX10_sparePart 21 = .ok (.iload_n 0, 1) := by decide +kernel
theorem dX10_sparePart_22 : decode cX10_sparePart 22 = .ok (.goto 8, 3) := by decide +kernel
theorem dX10_sparePart_25 : decode cX10_sparePart 25 = .ok (.iload_n 0, 1) := by decide +kernel
theorem dX10_sparePart_26 : decode cX10_sparePart 26 = .ok (.iload_n 0, 1) := by decide +kernel
theorem dX10_sparePart_27 : decode cX10_sparePart 27 = .ok (.iconst 1, 1) := by decide +kernel
theorem dX10_sparePart_28 : decode cX10_sparePart 28 = .ok (.isub, 1) := by decide +kernel
theorem dX10_sparePart_29 : decode cX10_sparePart 29 = .ok (.iand, 1) := by decide +kernel
theorem dX10_sparePart_30 : decode cX10_sparePart 30 = .ok (.istore_n 2, 1) := by decide +kernel
theorem dX10_sparePart_31 : decode cX10_sparePart 31 = .ok (.iload_n 2, 1) := by decide +kernel
theorem dX10_sparePart_32 : decode cX10_sparePart 32 = .ok (.ifCond .ne 7, 3) := by decide +kernel
theorem dX10_sparePart_35 : decode cX10_sparePart 35 = .ok (.iconst (-1), 1) := by decide +kernel
theorem dX10_sparePart_36 : decode cX10_sparePart 36 = .ok (.goto 12, 3) := by decide +kernel
theorem dX10_sparePart_39 : decode cX10_sparePart 39 = .ok (.iload_n 2, 1) := by decide +kernel
theorem dX10_sparePart_40 : decode cX10_sparePart 40 = .ok (.iload_n 2, 1) := by decide +kernel
theorem dX10_sparePart_41 : decode cX10_sparePart 41 = .ok (.ineg, 1) := by decide +kernel
theorem dX10_sparePart_42 : decode cX10_sparePart 42 = .ok (.iand, 1) := by decide +kernel
theorem dX10_sparePart_43 : decode cX10_sparePart 43 = .ok (.iconst 1, 1) := by decide +kernel
theorem dX10_sparePart_44 : decode cX10_sparePart 44 = .ok (.isub, 1) := by decide +kernel
theorem dX10_sparePart_45 : decode cX10_sparePart 45 = .ok (.invokestatic 310, 3) := by decide +kernel
theorem dX10_sparePart_48 : decode cX10_sparePart 48 = .ok (.ireturn, 1) := by decide +kernel
theorem dX9_fewestSpared_0 : decode cX9_fewestSpared 0 = .ok (.aload_n 0, 1) := by decide +kernel
theorem dX9_fewestSpared_1 : decode cX9_fewestSpared 1 = .ok (.iconst 0, 1) := by decide +kernel
theorem dX9_fewestSpared_2 : decode cX9_fewestSpared 2 = .ok (.invokevirtual 86, 3) := by decide +kernel
theorem dX9_fewestSpared_5 : decode cX9_fewestSpared 5 = .ok (.ifCond .eq 5, 3) := by decide +kernel
theorem dX9_fewestSpared_8 : decode cX9_fewestSpared 8 = .ok (.iconst 0, 1) := by decide +kernel
theorem dX9_fewestSpared_9 : decode cX9_fewestSpared 9 = .ok (.ireturn, 1) := by decide +kernel
theorem dX9_fewestSpared_10 : decode cX9_fewestSpared 10 = .ok (.iconst 0, 1) := by decide +kernel
theorem dX9_fewestSpared_11 : decode cX9_fewestSpared 11 = .ok (.istore_n 1, 1) := by decide +kernel
theorem dX9_fewestSpared_12 : decode cX9_fewestSpared 12 = .ok (.iload_n 1, 1) := by decide +kernel
theorem dX9_fewestSpared_13 : decode cX9_fewestSpared 13 = .ok (.aload_n 0, 1) := by decide +kernel
theorem dX9_fewestSpared_14 : decode cX9_fewestSpared 14 = .ok (.getfield 48, 3) := by decide +kernel
theorem dX9_fewestSpared_17 : decode cX9_fewestSpared 17 = .ok (.getfield 90, 3) := by decide +kernel
theorem dX9_fewestSpared_20 : decode cX9_fewestSpared 20 = .ok (.if_icmp .ge 23, 3) := by decide +kernel
theorem dX9_fewestSpared_23 : decode cX9_fewestSpared 23 = .ok (.aload_n 0, 1) := by decide +kernel
theorem dX9_fewestSpared_24 : decode cX9_fewestSpared 24 = .ok (.iconst 1, 1) := by decide +kernel
theorem dX9_fewestSpared_25 : decode cX9_fewestSpared 25 = .ok (.iload_n 1, 1) := by decide +kernel
theorem dX9_fewestSpared_26 : decode cX9_fewestSpared 26 = .ok (.ishl, 1) := by decide +kernel
theorem dX9_fewestSpared_27 : decode cX9_fewestSpared 27 = .ok (.invokevirtual 86, 3) := by decide +kernel
theorem dX9_fewestSpared_30 : decode cX9_fewestSpared 30 = .ok (.ifCond .eq 7, 3) := by decide +kernel
theorem dX9_fewestSpared_33 : decode cX9_fewestSpared 33 = .ok (.iconst 1, 1) := by decide +kernel
theorem dX9_fewestSpared_34 : decode cX9_fewestSpared 34 = .ok (.iload_n 1, 1) := by decide +kernel
theorem dX9_fewestSpared_35 : decode cX9_fewestSpared 35 = .ok (.ishl, 1) := by decide +kernel
theorem dX9_fewestSpared_36 : decode cX9_fewestSpared 36 = .ok (.ireturn, 1) := by decide +kernel
theorem dX9_fewestSpared_37 : decode cX9_fewestSpared 37 = .ok (.iinc 1 1, 3) := by decide +kernel
theorem dX9_fewestSpared_40 : decode cX9_fewestSpared 40 = .ok (.goto (-28), 3) := by decide +kernel
theorem dX9_fewestSpared_43 : decode cX9_fewestSpared 43 = .ok (.iconst 0, 1) := by decide +kernel
theorem dX9_fewestSpared_44 : decode cX9_fewestSpared 44 = .ok (.istore_n 1, 1) := by decide +kernel
theorem dX9_fewestSpared_45 : decode cX9_fewestSpared 45 = .ok (.iload_n 1, 1) := by decide +kernel
theorem dX9_fewestSpared_46 : decode cX9_fewestSpared 46 = .ok (.aload_n 0, 1) := by decide +kernel
theorem dX9_fewestSpared_47 : decode cX9_fewestSpared 47 = .ok (.getfield 48, 3) := by decide +kernel
theorem dX9_fewestSpared_50 : decode cX9_fewestSpared 50 = .ok (.getfield 90, 3) := by decide +kernel
theorem dX9_fewestSpared_53 : decode cX9_fewestSpared 53 = .ok (.if_icmp .ge 52, 3) := by decide +kernel
theorem dX9_fewestSpared_56 : decode cX9_fewestSpared 56 = .ok (.iload_n 1, 1) := by decide +kernel
theorem dX9_fewestSpared_57 : decode cX9_fewestSpared 57 = .ok (.iconst 1, 1) := by decide +kernel
theorem dX9_fewestSpared_58 : decode cX9_fewestSpared 58 = .ok (.iadd, 1) := by decide +kernel
theorem dX9_fewestSpared_59 : decode cX9_fewestSpared 59 = .ok (.istore_n 2, 1) := by decide +kernel
theorem dX9_fewestSpared_60 : decode cX9_fewestSpared 60 = .ok (.iload_n 2, 1) := by decide +kernel
theorem dX9_fewestSpared_61 : decode cX9_fewestSpared 61 = .ok (.aload_n 0, 1) := by decide +kernel
theorem dX9_fewestSpared_62 : decode cX9_fewestSpared 62 = .ok (.getfield 48, 3) := by decide +kernel
theorem dX9_fewestSpared_65 : decode cX9_fewestSpared 65 = .ok (.getfield 90, 3) := by decide +kernel
theorem dX9_fewestSpared_68 : decode cX9_fewestSpared 68 = .ok (.if_icmp .ge 31, 3) := by decide +kernel
theorem dX9_fewestSpared_71 : decode cX9_fewestSpared 71 = .ok (.aload_n 0, 1) := by decide +kernel
theorem dX9_fewestSpared_72 : decode cX9_fewestSpared 72 = .ok (.iconst 1, 1) := by decide +kernel
theorem dX9_fewestSpared_73 : decode cX9_fewestSpared 73 = .ok (.iload_n 1, 1) := by decide +kernel
theorem dX9_fewestSpared_74 : decode cX9_fewestSpared 74 = .ok (.ishl, 1) := by decide +kernel
theorem dX9_fewestSpared_75 : decode cX9_fewestSpared 75 = .ok (.iconst 1, 1) := by decide +kernel
theorem dX9_fewestSpared_76 : decode cX9_fewestSpared 76 = .ok (.iload_n 2, 1) := by decide +kernel
theorem dX9_fewestSpared_77 : decode cX9_fewestSpared 77 = .ok (.ishl, 1) := by decide +kernel
theorem dX9_fewestSpared_78 : decode cX9_fewestSpared 78 = .ok (.ior, 1) := by decide +kernel
theorem dX9_fewestSpared_79 : decode cX9_fewestSpared 79 = .ok (.invokevirtual 86, 3) := by decide +kernel
theorem dX9_fewestSpared_82 : decode cX9_fewestSpared 82 = .ok (.ifCond .eq 11, 3) := by decide +kernel
theorem dX9_fewestSpared_85 : decode cX9_fewestSpared 85 = .ok (.iconst 1, 1) := by decide +kernel
theorem dX9_fewestSpared_86 : decode cX9_fewestSpared 86 = .ok (.iload_n 1, 1) := by decide +kernel
theorem dX9_fewestSpared_87 : decode cX9_fewestSpared 87 = .ok (.ishl, 1) := by decide +kernel
theorem dX9_fewestSpared_88 : decode cX9_fewestSpared 88 = .ok (.iconst 1, 1) := by decide +kernel
theorem dX9_fewestSpared_89 : decode cX9_fewestSpared 89 = .ok (.iload_n 2, 1) := by decide +kernel
theorem dX9_fewestSpared_90 : decode cX9_fewestSpared 90 = .ok (.ishl, 1) := by decide +kernel
theorem dX9_fewestSpared_91 : decode cX9_fewestSpared 91 = .ok (.ior, 1) := by decide +kernel
theorem dX9_fewestSpared_92 : decode cX9_fewestSpared 92 = .ok (.ireturn, 1) := by decide +kernel
theorem dX9_fewestSpared_93 : decode cX9_fewestSpared 93 = .ok (.iinc 2 1, 3) := by decide +kernel
theorem dX9_fewestSpared_96 : decode cX9_fewestSpared 96 = .ok (.goto (-36), 3) := by decide +kernel
theorem dX9_fewestSpared_99 : decode cX9_fewestSpared 99 = .ok (.iinc 1 1, 3) := by decide +kernel
theorem dX9_fewestSpared_102 : decode cX9_fewestSpared 102 = .ok (.goto (-57), 3) := by decide +kernel
theorem dX9_fewestSpared_105 : decode cX9_fewestSpared 105 = .ok (.iconst (-1), 1) := by decide +kernel
theorem dX9_fewestSpared_106 : decode cX9_fewestSpared 106 = .ok (.ireturn, 1) := by decide +kernel
theorem c_bitCount (x : Int32) : mMet G l d kJ6_bitCount_0f7a4 [.int x] σ (qI (bcF x) σ) := by
  refine mMet.of cm_J6_bitCount_0f7a4 rfl (Nat.le_of_ble_eq_true rfl) rfl (fun v1 σ1 h => by rw [h.1]; rfl) ?_
  refine m_iload_n dJ6_bitCount_0f7a4_0 0 rfl ?_
  refine m_iload_n dJ6_bitCount_0f7a4_1 0 rfl ?_
  refine m_iconst (v := 1) dJ6_bitCount_0f7a4_2 (by decide) ?_
  refine m_iushr (v := _) dJ6_bitCount_0f7a4_3 rfl ?_
  refine m_ldc_w dJ6_bitCount_0f7a4_4 kc_J6_265 ?_
  refine m_iand dJ6_bitCount_0f7a4_7 ?_
  refine m_isub dJ6_bitCount_0f7a4_8 ?_
  refine mW.top (w := bc1 x) rfl ?_
  refine m_istore_n (ls1 := [(0, _)]) dJ6_bitCount_0f7a4_9 (by decide) rfl ?_
  refine m_iload_n dJ6_bitCount_0f7a4_10 0 rfl ?_
  refine m_ldc_w dJ6_bitCount_0f7a4_11 kc_J6_266 ?_
  refine m_iand dJ6_bitCount_0f7a4_14 ?_
  refine m_iload_n dJ6_bitCount_0f7a4_15 0 rfl ?_
  refine m_iconst (v := 2) dJ6_bitCount_0f7a4_16 (by decide) ?_
  refine m_iushr (v := _) dJ6_bitCount_0f7a4_17 rfl ?_
  refine m_ldc_w dJ6_bitCount_0f7a4_18 kc_J6_266 ?_
  refine m_iand dJ6_bitCount_0f7a4_21 ?_
  refine m_iadd dJ6_bitCount_0f7a4_22 ?_
  refine mW.top (w := bc2 (bc1 x)) rfl ?_
  refine m_istore_n (ls1 := [(0, _)]) dJ6_bitCount_0f7a4_23 (by decide) rfl ?_
  refine m_iload_n dJ6_bitCount_0f7a4_24 0 rfl ?_
  refine m_iload_n dJ6_bitCount_0f7a4_25 0 rfl ?_
  refine m_iconst (v := 4) dJ6_bitCount_0f7a4_26 (by decide) ?_
  refine m_iushr (v := _) dJ6_bitCount_0f7a4_27 rfl ?_
  refine m_iadd dJ6_bitCount_0f7a4_28 ?_
  refine m_ldc_w dJ6_bitCount_0f7a4_29 kc_J6_267 ?_
  refine m_iand dJ6_bitCount_0f7a4_32 ?_
  refine mW.top (w := bc3 (bc2 (bc1 x))) rfl ?_
  refine m_istore_n (ls1 := [(0, _)]) dJ6_bitCount_0f7a4_33 (by decide) rfl ?_
  refine m_iload_n dJ6_bitCount_0f7a4_34 0 rfl ?_
  refine m_iload_n dJ6_bitCount_0f7a4_35 0 rfl ?_
  refine m_bipush (v := 8) dJ6_bitCount_0f7a4_36 (by decide) ?_
  refine m_iushr (v := _) dJ6_bitCount_0f7a4_38 rfl ?_
  refine m_iadd dJ6_bitCount_0f7a4_39 ?_
  refine m_istore_n (ls1 := [(0, _)]) dJ6_bitCount_0f7a4_40 (by decide) rfl ?_
  refine m_iload_n dJ6_bitCount_0f7a4_41 0 rfl ?_
  refine m_iload_n dJ6_bitCount_0f7a4_42 0 rfl ?_
  refine m_bipush (v := 16) dJ6_bitCount_0f7a4_43 (by decide) ?_
  refine m_iushr (v := _) dJ6_bitCount_0f7a4_45 rfl ?_
  refine m_iadd dJ6_bitCount_0f7a4_46 ?_
  refine m_istore_n (ls1 := [(0, _)]) dJ6_bitCount_0f7a4_47 (by decide) rfl ?_
  refine m_iload_n dJ6_bitCount_0f7a4_48 0 rfl ?_
  refine m_bipush (v := 63) dJ6_bitCount_0f7a4_49 (by decide) ?_
  refine m_iand dJ6_bitCount_0f7a4_51 ?_
  exact m_ireturn dJ6_bitCount_0f7a4_52 ⟨rfl, rfl⟩
theorem c_sparePart (hd : 1 ≤ d) (m i : Int32) : mMet G l d kX10_sparePart [.int m, .int i] σ (qI (spF m i) σ) := by
  refine mMet.of cm_X10_sparePart rfl (Nat.le_of_ble_eq_true rfl) rfl (fun v1 σ1 h => by rw [h.1]; rfl) ?_
  unfold spF
  refine m_iload_n dX10_sparePart_0 0 rfl ?_
  refine m_iconst (v := -1) dX10_sparePart_1 (by decide) ?_
  refine m_icmp_ne dX10_sparePart_2 7 (by decide) (fun z1 => ?_) (fun z1 => ?_)
  rotate_left
  · refine m_iconst (v := -1) dX10_sparePart_5 (by decide) ?_
    exact m_ireturn dX10_sparePart_6 (qI_of (by rw [if_pos z1]))
  rw [if_neg z1]
  refine m_iload_n dX10_sparePart_7 1 rfl ?_
  refine m_iconst (v := -1) dX10_sparePart_8 (by decide) ?_
  refine m_icmp_ne dX10_sparePart_9 17 (by decide) (fun z2 => ?_) (fun z2 => ?_)
  rotate_left
  · refine m_iload_n dX10_sparePart_12 0 rfl ?_
    refine m_callS (As := [_]) dX10_sparePart_13 cs_X10_310 (by omega) rfl rfl (Nat.le_of_ble_eq_true rfl) (c_bitCount (d := d - 1) m) (fun v1 σ1 hv1 => ?_)
    refine m_qI hv1 ?_
    clear hv1 v1 σ1
    exact m_ireturn dX10_sparePart_16 (qI_of (by rw [if_pos z2]))
  rw [if_neg z2]
  refine m_iload_n dX10_sparePart_17 1 rfl ?_
  refine m_sel (pcJ := 30) ?_ (fun kt0 kf0 => m_if_ne dX10_sparePart_18 25 (by decide) (fun h => (m_iload_n dX10_sparePart_25 0 rfl (m_iload_n dX10_sparePart_26 0 rfl (m_iconst (v := 1) dX10_sparePart_27 (by decide) (m_isub dX10_sparePart_28 (m_iand dX10_sparePart_29 (kf0 h))))))) (fun h => (m_iload_n dX10_sparePart_21 0 rfl (m_goto dX10_sparePart_22 30 (by decide) (kt0 h)))))
  generalize (if i = 0 then m else m &&& (m - 1)) = r
  refine m_istore_n (ls1 := [(2, _), (0, _), (1, _)]) dX10_sparePart_30 (by decide) rfl ?_
  refine m_iload_n dX10_sparePart_31 0 rfl ?_
  refine m_if_ne dX10_sparePart_32 39 (by decide) (fun z3 => ?_) (fun z3 => ?_)
  · rw [if_neg z3]
    refine m_iload_n dX10_sparePart_39 0 rfl ?_
    refine m_iload_n dX10_sparePart_40 0 rfl ?_
    refine m_ineg dX10_sparePart_41 ?_
    refine m_iand dX10_sparePart_42 ?_
    refine m_iconst (v := 1) dX10_sparePart_43 (by decide) ?_
    refine m_isub dX10_sparePart_44 ?_
    refine m_callS (As := [_]) dX10_sparePart_45 cs_X10_310 (by omega) rfl rfl (Nat.le_of_ble_eq_true rfl) (c_bitCount (d := d - 1) _) (fun v1 σ1 hv1 => ?_)
    refine m_qI hv1 ?_
    clear hv1 v1 σ1
    exact m_ireturn dX10_sparePart_48 ⟨rfl, rfl⟩
  · rw [if_pos z3]
    refine m_iconst (v := -1) dX10_sparePart_35 (by decide) ?_
    refine m_goto dX10_sparePart_36 48 (by decide) ?_
    exact m_ireturn dX10_sparePart_48 ⟨rfl, rfl⟩
theorem c_fewestSpared (hd : 6 ≤ d) (D : Deb) (h : setC D σ) : mMet G l d kX9_fewestSpared [.ref 65] σ (qIP (fun r s => spM D r ∧ fW (wTr D.2.1.1) σ s)) := by
  have he8 := h.2.2.2.2.2.2.2.1.1
  have h12 := h.2.2.1
  have up : ∀ {s s1 : mS}, fW (wTr D.2.1.1) σ s → fW (wPl 80) s s1 → fW (wTr D.2.1.1) σ s1 := fun f g => f.tr (g.mono (fun y z h => by omega))
  refine mMet.of cm_X9_fewestSpared rfl (Nat.le_of_ble_eq_true rfl) rfl (fun v1 σ1 h => by obtain ⟨r, h1, -⟩ := h; rw [h1]; rfl) ?_
  refine m_aload_n dX9_fewestSpared_0 0 rfl ?_
  refine m_iconst (v := 0) dX9_fewestSpared_1 (by decide) ?_
  refine m_callV (As := [_]) dX9_fewestSpared_2 cv_X9_86 (by first | assumption | rfl) (by decide) (by omega) rfl rfl (Nat.le_of_ble_eq_true rfl) (c_touchesAll (d := d - 1) (by omega) D h 0) (fun v1 σ1 hv1 => ?_)
  refine m_qIP hv1 (fun x1 hq => ?_)
  clear hv1 v1
  rename mS => s1
  obtain ⟨e1, f1⟩ := hq
  subst e1
  have f1 := up fW.rf f1
  refine m_if_eq dX9_fewestSpared_5 10 (by decide) (fun z1 => ?_) (fun z1 => ?_)
  rotate_left
  · refine m_iconst (v := 0) dX9_fewestSpared_8 (by decide) ?_
    exact m_ireturn dX9_fewestSpared_9 ⟨_, rfl, Or.inl ⟨by unfold spR; rw [if_pos (bI_ne.mp z1)], rfl⟩, f1⟩
  have n0 : ¬ spOK D 0 = true := by rw [bI_eq.mp z1]; decide
  clear z1
  refine m_iconst (v := 0) dX9_fewestSpared_10 (by decide) ?_
  refine m_istore_n (ls1 := [(1, _), (0, _)]) dX9_fewestSpared_11 (by decide) rfl ?_
  have K2 : sp1 D D.2.2.1.1 0 = none → ∀ s, fW (wTr D.2.1.1) σ s → mW G l d kX9_fewestSpared 43 [(1, .int (nI D.2.2.1.1)), (0, .ref 65)] [] s (qIP (fun r s => spM D r ∧ fW (wTr D.2.1.1) σ s)) := by
    intro hn1 s f
    refine m_iconst (v := 0) dX9_fewestSpared_43 (by decide) ?_
    refine m_istore_n (ls1 := [(1, _), (0, _)]) dX9_fewestSpared_44 (by decide) rfl ?_
    have key : ∀ F a (s : mS), F + a = D.2.2.1.1 → sp2 D D.2.2.1.1 D.2.2.1.1 0 = sp2 D D.2.2.1.1 F a → fW (wTr D.2.1.1) σ s → mW G l d kX9_fewestSpared 45 [(1, .int (nI a)), (0, .ref 65)] [] s (qIP (fun r s => spM D r ∧ fW (wTr D.2.1.1) σ s)) := by
      intro F
      induction F with
      | zero =>
        intro a s hFa hsp f
        have hl := (h.tr f).2.2.2.2.2.2.2.2.1
        refine m_iload_n dX9_fewestSpared_45 0 rfl ?_
        refine m_aload_n dX9_fewestSpared_46 1 rfl ?_
        refine m_getR 2 30 dX9_fewestSpared_47 fl_X9_48_8 rfl (by decide) rfl (by first | assumption | rfl) ?_
        refine m_getI 3 dX9_fewestSpared_50 fl_X9_90_1 rfl (by decide) (by first | assumption | rfl) ?_
        refine mW.top hl ?_
        refine m_icmp_ge dX9_fewestSpared_53 105 (by decide) (fun z1 => ?_) (fun z1 => ?_)
        · refine m_iconst (v := -1) dX9_fewestSpared_105 (by decide) ?_
          exact m_ireturn dX9_fewestSpared_106 ⟨_, rfl, Or.inr (Or.inr (Or.inr ⟨by unfold spR; rw [if_neg n0, hn1, hsp]; rfl, rfl⟩)), f⟩
        · exact absurd ((nle (by omega) (by omega)).mpr (by omega)) z1
      | succ F ih =>
        intro a s hFa hsp f
        have hl := (h.tr f).2.2.2.2.2.2.2.2.1
        refine m_iload_n dX9_fewestSpared_45 0 rfl ?_
        refine m_aload_n dX9_fewestSpared_46 1 rfl ?_
        refine m_getR 2 30 dX9_fewestSpared_47 fl_X9_48_8 rfl (by decide) rfl (by first | assumption | rfl) ?_
        refine m_getI 3 dX9_fewestSpared_50 fl_X9_90_1 rfl (by decide) (by first | assumption | rfl) ?_
        refine mW.top hl ?_
        refine m_icmp_ge dX9_fewestSpared_53 105 (by decide) (fun z1 => ?_) (fun z1 => ?_)
        · exact absurd ((nle (by omega) (by omega)).mp z1) (by omega)
        clear z1
        refine m_iload_n dX9_fewestSpared_56 0 rfl ?_
        refine m_iconst (v := 1) dX9_fewestSpared_57 (by decide) ?_
        refine m_iadd dX9_fewestSpared_58 ?_
        refine mW.top (w := nI (a + 1)) (nI_1 a) ?_
        refine m_istore_n (ls1 := [(2, _), (1, _), (0, _)]) dX9_fewestSpared_59 (by decide) rfl ?_
        have inner : ∀ H b (s : mS), H + b = D.2.2.1.1 → a < b → sp2i D a (D.2.2.1.1 - (a + 1)) (a + 1) = sp2i D a H b → fW (wTr D.2.1.1) σ s → mW G l d kX9_fewestSpared 60 [(2, .int (nI b)), (1, .int (nI a)), (0, .ref 65)] [] s (qIP (fun r s => spM D r ∧ fW (wTr D.2.1.1) σ s)) := by
          intro H
          induction H with
          | zero =>
            intro b s hHb hab hi f
            have hl := (h.tr f).2.2.2.2.2.2.2.2.1
            refine m_iload_n dX9_fewestSpared_60 0 rfl ?_
            refine m_aload_n dX9_fewestSpared_61 2 rfl ?_
            refine m_getR 2 30 dX9_fewestSpared_62 fl_X9_48_8 rfl (by decide) rfl (by first | assumption | rfl) ?_
            refine m_getI 3 dX9_fewestSpared_65 fl_X9_90_1 rfl (by decide) (by first | assumption | rfl) ?_
            refine mW.top hl ?_
            refine m_icmp_ge dX9_fewestSpared_68 99 (by decide) (fun z1 => ?_) (fun z1 => ?_)
            · refine m_iinc (v := nI (a + 1)) (ls1 := [(1, _), (2, _), (0, _)]) dX9_fewestSpared_99 1 rfl (nI_1 a) (by decide) rfl ?_
              refine m_goto dX9_fewestSpared_102 45 (by decide) ?_
              refine mW.sub (ls1 := [(1, _), (0, _)]) [0, 2] rfl ?_
              refine ih (a + 1) s (by omega) ?_ f
              rw [hsp, sp2, hi]; rfl
            · exact absurd ((nle (by omega) (by omega)).mpr (by omega)) z1
          | succ H ihH =>
            intro b s hHb hab hi f
            have hs := h.tr f
            have hl := hs.2.2.2.2.2.2.2.2.1
            refine m_iload_n dX9_fewestSpared_60 0 rfl ?_
            refine m_aload_n dX9_fewestSpared_61 2 rfl ?_
            refine m_getR 2 30 dX9_fewestSpared_62 fl_X9_48_8 rfl (by decide) rfl (by first | assumption | rfl) ?_
            refine m_getI 3 dX9_fewestSpared_65 fl_X9_90_1 rfl (by decide) (by first | assumption | rfl) ?_
            refine mW.top hl ?_
            refine m_icmp_ge dX9_fewestSpared_68 99 (by decide) (fun z1 => ?_) (fun z1 => ?_)
            · exact absurd ((nle (by omega) (by omega)).mp z1) (by omega)
            clear z1
            refine m_aload_n dX9_fewestSpared_71 2 rfl ?_
            refine m_iconst (v := 1) dX9_fewestSpared_72 (by decide) ?_
            refine m_iload_n dX9_fewestSpared_73 1 rfl ?_
            refine m_ishl dX9_fewestSpared_74 ?_
            refine m_iconst (v := 1) dX9_fewestSpared_75 (by decide) ?_
            refine m_iload_n dX9_fewestSpared_76 0 rfl ?_
            refine m_ishl dX9_fewestSpared_77 ?_
            refine m_ior dX9_fewestSpared_78 ?_
            refine m_callV (As := [_]) dX9_fewestSpared_79 cv_X9_86 (by first | assumption | rfl) (by decide) (by omega) rfl rfl (Nat.le_of_ble_eq_true rfl) (c_touchesAll (d := d - 1) (by omega) D hs (bit1 a ||| bit1 b)) (fun v1 σ1 hv1 => ?_)
            refine m_qIP hv1 (fun x2 hq => ?_)
            clear hv1 v1
            rename mS => s3
            obtain ⟨e3, f3⟩ := hq
            subst e3
            have f3 := up f f3
            refine m_if_eq dX9_fewestSpared_82 93 (by decide) (fun z2 => ?_) (fun z2 => ?_)
            · refine m_iinc (v := nI (b + 1)) (ls1 := [(2, _), (1, _), (0, _)]) dX9_fewestSpared_93 0 rfl (nI_1 b) (by decide) rfl ?_
              refine m_goto dX9_fewestSpared_96 60 (by decide) ?_
              refine ihH (b + 1) s3 (by omega) (by omega) ?_ f3
              rw [hi, sp2i, bI_eq.mp z2]; rfl
            · refine m_iconst (v := 1) dX9_fewestSpared_85 (by decide) ?_
              refine m_iload_n dX9_fewestSpared_86 1 rfl ?_
              refine m_ishl dX9_fewestSpared_87 ?_
              refine m_iconst (v := 1) dX9_fewestSpared_88 (by decide) ?_
              refine m_iload_n dX9_fewestSpared_89 0 rfl ?_
              refine m_ishl dX9_fewestSpared_90 ?_
              refine m_ior dX9_fewestSpared_91 ?_
              refine m_ireturn dX9_fewestSpared_92 ⟨_, rfl, Or.inr (Or.inr (Or.inl ⟨a, b, hab, by omega, ?_, rfl⟩)), f3⟩
              unfold spR
              rw [if_neg n0, hn1, hsp, sp2, hi, sp2i, bI_ne.mp z2]; rfl
        exact inner (D.2.2.1.1 - (a + 1)) (a + 1) s (by omega) (by omega) rfl f
    exact key D.2.2.1.1 0 s (by omega) rfl f
  have key1 : ∀ F a (s : mS), F + a = D.2.2.1.1 → sp1 D D.2.2.1.1 0 = sp1 D F a → fW (wTr D.2.1.1) σ s → mW G l d kX9_fewestSpared 12 [(1, .int (nI a)), (0, .ref 65)] [] s (qIP (fun r s => spM D r ∧ fW (wTr D.2.1.1) σ s)) := by
    intro F
    induction F with
    | zero =>
      intro a s hFa hsp f
      have hl := (h.tr f).2.2.2.2.2.2.2.2.1
      refine m_iload_n dX9_fewestSpared_12 0 rfl ?_
      refine m_aload_n dX9_fewestSpared_13 1 rfl ?_
      refine m_getR 2 30 dX9_fewestSpared_14 fl_X9_48_8 rfl (by decide) rfl (by first | assumption | rfl) ?_
      refine m_getI 3 dX9_fewestSpared_17 fl_X9_90_1 rfl (by decide) (by first | assumption | rfl) ?_
      refine mW.top hl ?_
      refine m_icmp_ge dX9_fewestSpared_20 43 (by decide) (fun z1 => ?_) (fun z1 => ?_)
      · have ea : a = D.2.2.1.1 := by omega
        subst ea
        exact K2 hsp s f
      · exact absurd ((nle (by omega) (by omega)).mpr (by omega)) z1
    | succ F ih =>
      intro a s hFa hsp f
      have hs := h.tr f
      have hl := hs.2.2.2.2.2.2.2.2.1
      refine m_iload_n dX9_fewestSpared_12 0 rfl ?_
      refine m_aload_n dX9_fewestSpared_13 1 rfl ?_
      refine m_getR 2 30 dX9_fewestSpared_14 fl_X9_48_8 rfl (by decide) rfl (by first | assumption | rfl) ?_
      refine m_getI 3 dX9_fewestSpared_17 fl_X9_90_1 rfl (by decide) (by first | assumption | rfl) ?_
      refine mW.top hl ?_
      refine m_icmp_ge dX9_fewestSpared_20 43 (by decide) (fun z1 => ?_) (fun z1 => ?_)
      · exact absurd ((nle (by omega) (by omega)).mp z1) (by omega)
      clear z1
      refine m_aload_n dX9_fewestSpared_23 1 rfl ?_
      refine m_iconst (v := 1) dX9_fewestSpared_24 (by decide) ?_
      refine m_iload_n dX9_fewestSpared_25 0 rfl ?_
      refine m_ishl dX9_fewestSpared_26 ?_
      refine m_callV (As := [_]) dX9_fewestSpared_27 cv_X9_86 (by first | assumption | rfl) (by decide) (by omega) rfl rfl (Nat.le_of_ble_eq_true rfl) (c_touchesAll (d := d - 1) (by omega) D hs (bit1 a)) (fun v1 σ1 hv1 => ?_)
      refine m_qIP hv1 (fun x2 hq => ?_)
      clear hv1 v1
      rename mS => s3
      obtain ⟨e3, f3⟩ := hq
      subst e3
      have f3 := up f f3
      refine m_if_eq dX9_fewestSpared_30 37 (by decide) (fun z2 => ?_) (fun z2 => ?_)
      · refine m_iinc (v := nI (a + 1)) (ls1 := [(1, _), (0, _)]) dX9_fewestSpared_37 0 rfl (nI_1 a) (by decide) rfl ?_
        refine m_goto dX9_fewestSpared_40 12 (by decide) ?_
        refine ih (a + 1) s3 (by omega) ?_ f3
        rw [hsp, sp1, bI_eq.mp z2]; rfl
      · refine m_iconst (v := 1) dX9_fewestSpared_33 (by decide) ?_
        refine m_iload_n dX9_fewestSpared_34 0 rfl ?_
        refine m_ishl dX9_fewestSpared_35 ?_
        refine m_ireturn dX9_fewestSpared_36 ⟨_, rfl, Or.inr (Or.inl ⟨a, by omega, ?_, rfl⟩), f3⟩
        unfold spR
        rw [if_neg n0, hsp, sp1, bI_ne.mp z2]; rfl
  exact key1 D.2.2.1.1 0 s1 (by omega) rfl f1
end SX


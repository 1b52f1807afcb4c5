/-! ===== the class: what a run tells ===== -/
theorem ix8' (t k : Nat) : nI t * 8 + nI k = nI (8 * t + k) := by rw [show (8 : Int32) = nI 8 from rfl, pk_mul, nI_add, Nat.mul_comm]
theorem gt2 (x : Int32) : 2 < x ↔ 3 ≤ x := by
  rw [Int32.lt_iff_toInt_lt, Int32.le_iff_toInt_le, show (2 : Int32).toInt = 2 from rfl, show (3 : Int32).toInt = 3 from rfl]; omega
theorem xorM (x : Int32) : x ^^^ (-1) = ~~~ x := by
  apply Int32.toBitVec_inj.mp
  show x.toBitVec ^^^ (-1 : Int32).toBitVec = ~~~ x.toBitVec
  rw [show (-1 : Int32).toBitVec = BitVec.allOnes 32 from rfl]
  exact BitVec.xor_allOnes
/-- where cars were seen, as the class's rows tell it -/
def serow (z : Nat) (w : Nat → Nat → Int32) (s : mS) : Prop := s.1 34 4 = nI z ∧ z ≤ 8 ∧ ∀ i, i < z → s.1 35 i = w i 0 ∧ s.1 36 i = w i 1 ∧ s.1 37 i = w i 2 ∧ s.1 38 i = w i 3 ∧ (∃ t, t < 24 ∧ w i 0 = nI t) ∧ ∃ k, k < 8 ∧ w i 1 = nI k
section CQ
variable {G : mG} {l : Launch} {d : Nat} {σ : mS}
theorem dX3_inCell_0 : decode cX3_inCell 0 = .ok (.iconst 0, 1) := by decide +kernel
theorem dX3_inCell_1 : decode cX3_inCell 1 = .ok (.istore 4, 2) := by decide +kernel
theorem dX3_inCell_3 : decode cX3_inCell 3 = .ok (.iload 4, 2) := by decide +kernel
theorem dX3_inCell_5 : decode cX3_inCell 5 = .ok (.aload_n 0, 1) := by decide +kernel
theorem dX3_inCell_6 : decode cX3_inCell 6 = .ok (.getfield 48, 3) := by decide +kernel
theorem dX3_inCell_9 : decode cX3_inCell 9 = .ok (.if_icmp .ge 36, 3) := by decide +kernel
theorem dX3_inCell_12 : decode cX3_inCell 12 = .ok (.aload_n 0, 1) := by decide +kernel
theorem dX3_inCell_13 : decode cX3_inCell 13 = .ok (.iload_n 1, 1) := by decide +kernel
theorem dX3_inCell_14 : decode cX3_inCell 14 = .ok (.iload 4, 2) := by decide +kernel
theorem dX3_inCell_16 : decode cX3_inCell 16 = .ok (.iconst 0, 1) := by decide +kernel
theorem dX3_inCell_17 : decode cX3_inCell 17 = .ok (.invokevirtual 117, 3) := by decide +kernel
theorem dX3_inCell_20 : decode cX3_inCell 20 = .ok (.iload_n 2, 1) := by decide +kernel
theorem dX3_inCell_21 : decode cX3_inCell 21 = .ok (.if_icmp .ne 18, 3) := by decide +kernel
theorem dX3_inCell_24 : decode cX3_inCell 24 = .ok (.aload_n 0, 1) := by decide +kernel
theorem dX3_inCell_25 : decode cX3_inCell 25 = .ok (.iload_n 1, 1) := by decide +kernel
theorem dX3_inCell_26 : decode cX3_inCell 26 = .ok (.iload 4, 2) := by decide +kernel
theorem dX3_inCell_28 : decode cX3_inCell 28 = .ok (.iconst 1, 1) := by decide +kernel
theorem dX3_inCell_29 : decode cX3_inCell 29 = .ok (.invokevirtual 117, 3) := by decide +kernel
theorem dX3_inCell_32 : decode cX3_inCell 32 = .ok (.iload_n 3, 1) := by decide +kernel
theorem dX3_inCell_33 : decode cX3_inCell 33 = .ok (.if_icmp .ne 6, 3) := by decide +kernel
theorem dX3_inCell_36 : decode cX3_inCell 36 = .ok (.iload 4, 2) := by decide +kernel
theorem dX3_inCell_38 : decode cX3_inCell 38 = .ok (.ireturn, 1) := by decide +kernel
theorem dX3_inCell_39 : decode cX3_inCell 39 = .ok (.iinc 4 1, 3) := by decide +kernel
theorem dX3_inCell_42 : decode cX3_inCell 42 = .ok (.goto (-39), 3) := by decide +kernel
theorem dX3_inCell_45 : decode cX3_inCell 45 = .ok (.iconst (-1), 1) := by decide +kernel
theorem dX3_inCell_46 : decode cX3_inCell 46 = .ok (.ireturn, 1) := by decide +kernel
theorem dX3_ayes_0 : decode cX3_ayes 0 = .ok (.iconst 0, 1) := by decide +kernel
theorem dX3_ayes_1 : decode cX3_ayes 1 = .ok (.istore_n 2, 1) := by decide +kernel
theorem dX3_ayes_2 : decode cX3_ayes 2 = .ok (.iconst 0, 1) := by decide +kernel
theorem dX3_ayes_3 : decode cX3_ayes 3 = .ok (.istore_n 3, 1) := by decide +kernel
theorem dX3_ayes_4 : decode cX3_ayes 4 = .ok (.iload_n 3, 1) := by decide +kernel
theorem dX3_ayes_5 : decode cX3_ayes 5 = .ok (.aload_n 0, 1) := by decide +kernel
theorem dX3_ayes_6 : decode cX3_ayes 6 = .ok (.getfield 48, 3) := by decide +kernel
theorem dX3_ayes_9 : decode cX3_ayes 9 = .ok (.if_icmp .ge 23, 3) := by decide +kernel
theorem dX3_ayes_12 : decode cX3_ayes 12 = .ok (.aload_n 0, 1) := by decide +kernel
theorem dX3_ayes_13 : decode cX3_ayes 13 = .ok (.iload_n 1, 1) := by decide +kernel
theorem dX3_ayes_14 : decode cX3_ayes 14 = .ok (.iload_n 3, 1) := by decide +kernel
theorem dX3_ayes_15 : decode cX3_ayes 15 = .ok (.iconst 0, 1) := by decide +kernel
theorem dX3_ayes_16 : decode cX3_ayes 16 = .ok (.invokevirtual 117, 3) := by decide +kernel
theorem dX3_ayes_19 : decode cX3_ayes 19 = .ok (.iconst 2, 1) := by decide +kernel
theorem dX3_ayes_20 : decode cX3_ayes 20 = .ok (.if_icmp .gt 6, 3) := by decide +kernel
theorem dX3_ayes_23 : decode cX3_ayes 23 = .ok (.iinc 2 1, 3) := by decide +kernel
theorem dX3_ayes_26 : decode cX3_ayes 26 = .ok (.iinc 3 1, 3) := by decide +kernel
theorem dX3_ayes_29 : decode cX3_ayes 29 = .ok (.goto (-25), 3) := by decide +kernel
theorem dX3_ayes_32 : decode cX3_ayes 32 = .ok (.iload_n 2, 1) := by decide +kernel
theorem dX3_ayes_33 : decode cX3_ayes 33 = .ok (.ireturn, 1) := by decide +kernel
theorem dX3_leader_0 : decode cX3_leader 0 = .ok (.iconst (-1), 1) := by decide +kernel
theorem dX3_leader_1 : decode cX3_leader 1 = .ok (.istore_n 1, 1) := by decide +kernel
theorem dX3_leader_2 : decode cX3_leader 2 = .ok (.iconst 0, 1) := by decide +kernel
theorem dX3_leader_3 : decode cX3_leader 3 = .ok (.istore_n 2, 1) := by decide +kernel
theorem dX3_leader_4 : decode cX3_leader 4 = .ok (.iload_n 2, 1) := by decide +kernel
theorem dX3_leader_5 : decode cX3_leader 5 = .ok (.aload_n 0, 1) := by decide +kernel
theorem dX3_leader_6 : decode cX3_leader 6 = .ok (.getfield 48, 3) := by decide +kernel
theorem dX3_leader_9 : decode cX3_leader 9 = .ok (.if_icmp .ge 35, 3) := by decide +kernel
theorem dX3_leader_12 : decode cX3_leader 12 = .ok (.iload_n 1, 1) := by decide +kernel
theorem dX3_leader_13 : decode cX3_leader 13 = .ok (.iconst (-1), 1) := by decide +kernel
theorem dX3_leader_14 : decode cX3_leader 14 = .ok (.if_icmp .eq 22, 3) := by decide +kernel
theorem dX3_leader_17 : decode cX3_leader 17 = .ok (.aload_n 0, 1) := by decide +kernel
theorem dX3_leader_18 : decode cX3_leader 18 = .ok (.getfield 13, 3) := by decide +kernel
theorem dX3_leader_21 : decode cX3_leader 21 = .ok (.iconst 3, 1) := by decide +kernel
theorem dX3_leader_22 : decode cX3_leader 22 = .ok (.aaload, 1) := by decide +kernel
theorem dX3_leader_23 : decode cX3_leader 23 = .ok (.iload_n 2, 1) := by decide +kernel
theorem dX3_leader_24 : decode cX3_leader 24 = .ok (.iaload, 1) := by decide +kernel
theorem dX3_leader_25 : decode cX3_leader 25 = .ok (.aload_n 0, 1) := by decide +kernel
theorem dX3_leader_26 : decode cX3_leader 26 = .ok (.getfield 13, 3) := by decide +kernel
theorem dX3_leader_29 : decode cX3_leader 29 = .ok (.iconst 3, 1) := by decide +kernel
theorem dX3_leader_30 : decode cX3_leader 30 = .ok (.aaload, 1) := by decide +kernel
theorem dX3_leader_31 : decode cX3_leader 31 = .ok (.iload_n 1, 1) := by decide +kernel
theorem dX3_leader_32 : decode cX3_leader 32 = .ok (.iaload, 1) := by decide +kernel
theorem dX3_leader_33 : decode cX3_leader 33 = .ok (.if_icmp .le 5, 3) := by decide +kernel
theorem dX3_leader_36 : decode cX3_leader 36 = .ok (.iload_n 2, 1) := by decide +kernel
theorem dX3_leader_37 : decode cX3_leader 37 = .ok (.istore_n 1, 1) := by decide +kernel
theorem dX3_leader_38 : decode cX3_leader 38 = .ok (.iinc 2 1, 3) := by decide +kernel
theorem dX3_leader_41 : decode cX3_leader 41 = .ok (.goto (-37), 3) := by decide +kernel
theorem dX3_leader_44 : decode cX3_leader 44 = .ok (.iload_n 1, 1) := by decide +kernel
theorem dX3_leader_45 : decode cX3_leader 45 = .ok (.ireturn, 1) := by decide +kernel
theorem dX3_untouched_0 : decode cX3_untouched 0 = .ok (.aload_n 0, 1) := by decide +kernel
theorem dX3_untouched_1 : decode cX3_untouched 1 = .ok (.getfield 65, 3) := by decide +kernel
theorem dX3_untouched_4 : decode cX3_untouched 4 = .ok (.iconst (-1), 1) := by decide +kernel
theorem dX3_untouched_5 : decode cX3_untouched 5 = .ok (.ixor, 1) := by decide +kernel
theorem dX3_untouched_6 : decode cX3_untouched 6 = .ok (.iconst 1, 1) := by decide +kernel
theorem dX3_untouched_7 : decode cX3_untouched 7 = .ok (.aload_n 0, 1) := by decide +kernel
theorem dX3_untouched_8 : decode cX3_untouched 8 = .ok (.getfield 48, 3) := by decide +kernel
theorem dX3_untouched_11 : decode cX3_untouched 11 = .ok (.ishl, 1) := by decide +kernel
theorem dX3_untouched_12 : decode cX3_untouched 12 = .ok (.iconst 1, 1) := by decide +kernel
theorem dX3_untouched_13 : decode cX3_untouched 13 = .ok (.isub, 1) := by decide +kernel
theorem dX3_untouched_14 : decode cX3_untouched 14 = .ok (.iand, 1) := by decide +kernel
theorem dX3_untouched_15 : decode cX3_untouched 15 = .ok (.ireturn, 1) := by decide +kernel
theorem dX3_worstJam_0 : decode cX3_worstJam 0 = .ok (.iconst 0, 1) := by decide +kernel
theorem dX3_worstJam_1 : decode cX3_worstJam 1 = .ok (.istore_n 1, 1) := by decide +kernel
theorem dX3_worstJam_2 : decode cX3_worstJam 2 = .ok (.iconst 1, 1) := by decide +kernel
theorem dX3_worstJam_3 : decode cX3_worstJam 3 = .ok (.istore_n 2, 1) := by decide +kernel
theorem dX3_worstJam_4 : decode cX3_worstJam 4 = .ok (.iload_n 2, 1) := by decide +kernel
theorem dX3_worstJam_5 : decode cX3_worstJam 5 = .ok (.bipush 24, 2) := by decide +kernel
theorem dX3_worstJam_7 : decode cX3_worstJam 7 = .ok (.if_icmp .ge 26, 3) := by decide +kernel
theorem dX3_worstJam_10 : decode cX3_worstJam 10 = .ok (.aload_n 0, 1) := by decide +kernel
theorem dX3_worstJam_11 : decode cX3_worstJam 11 = .ok (.getfield 26, 3) := by decide +kernel
theorem dX3_worstJam_14 : decode cX3_worstJam 14 = .ok (.iload_n 2, 1) := by decide +kernel
theorem dX3_worstJam_15 : decode cX3_worstJam 15 = .ok (.iaload, 1) := by decide +kernel
theorem dX3_worstJam_16 : decode cX3_worstJam 16 = .ok (.aload_n 0, 1) := by decide +kernel
theorem dX3_worstJam_17 : decode cX3_worstJam 17 = .ok (.getfield 26, 3) := by decide +kernel
theorem dX3_worstJam_20 : decode cX3_worstJam 20 = .ok (.iload_n 1, 1) := by decide +kernel
theorem dX3_worstJam_21 : decode cX3_worstJam 21 = .ok (.iaload, 1) := by decide +kernel
theorem dX3_worstJam_22 : decode cX3_worstJam 22 = .ok (.if_icmp .le 5, 3) := by decide +kernel
theorem dX3_worstJam_25 : decode cX3_worstJam 25 = .ok (.iload_n 2, 1) := by decide +kernel
theorem dX3_worstJam_26 : decode cX3_worstJam 26 = .ok (.istore_n 1, 1) := by decide +kernel
theorem dX3_worstJam_27 : decode cX3_worstJam 27 = .ok (.iinc 2 1, 3) := by decide +kernel
theorem dX3_worstJam_30 : decode cX3_worstJam 30 = .ok (.goto (-26), 3) := by decide +kernel
theorem dX3_worstJam_33 : decode cX3_worstJam 33 = .ok (.iload_n 1, 1) := by decide +kernel
theorem dX3_worstJam_34 : decode cX3_worstJam 34 = .ok (.ireturn, 1) := by decide +kernel
theorem dX3_allPoints_0 : decode cX3_allPoints 0 = .ok (.iconst 0, 1) := by decide +kernel
theorem dX3_allPoints_1 : decode cX3_allPoints 1 = .ok (.istore_n 1, 1) := by decide +kernel
theorem dX3_allPoints_2 : decode cX3_allPoints 2 = .ok (.iconst 0, 1) := by decide +kernel
theorem dX3_allPoints_3 : decode cX3_allPoints 3 = .ok (.istore_n 2, 1) := by decide +kernel
theorem dX3_allPoints_4 : decode cX3_allPoints 4 = .ok (.iload_n 2, 1) := by decide +kernel
theorem dX3_allPoints_5 : decode cX3_allPoints 5 = .ok (.aload_n 0, 1) := by decide +kernel
theorem dX3_allPoints_6 : decode cX3_allPoints 6 = .ok (.getfield 48, 3) := by decide +kernel
theorem dX3_allPoints_9 : decode cX3_allPoints 9 = .ok (.if_icmp .ge 20, 3) := by decide +kernel
theorem dX3_allPoints_12 : decode cX3_allPoints 12 = .ok (.iload_n 1, 1) := by decide +kernel
theorem dX3_allPoints_13 : decode cX3_allPoints 13 = .ok (.aload_n 0, 1) := by decide +kernel
theorem dX3_allPoints_14 : decode cX3_allPoints 14 = .ok (.getfield 13, 3) := by decide +kernel
theorem dX3_allPoints_17 : decode cX3_allPoints 17 = .ok (.iconst 3, 1) := by decide +kernel
theorem dX3_allPoints_18 : decode cX3_allPoints 18 = .ok (.aaload, 1) := by decide +kernel
theorem dX3_allPoints_19 : decode cX3_allPoints 19 = .ok (.iload_n 2, 1) := by decide +kernel
theorem dX3_allPoints_20 : decode cX3_allPoints 20 = .ok (.iaload, 1) := by decide +kernel
theorem dX3_allPoints_21 : decode cX3_allPoints 21 = .ok (.iadd, 1) := by decide +kernel
theorem dX3_allPoints_22 : decode cX3_allPoints 22 = .ok (.istore_n 1, 1) := by decide +kernel
theorem dX3_allPoints_23 : decode cX3_allPoints 23 = .ok (.iinc 2 1, 3) := by decide +kernel
theorem dX3_allPoints_26 : decode cX3_allPoints 26 = .ok (.goto (-22), 3) := by decide +kernel
theorem dX3_allPoints_29 : decode cX3_allPoints 29 = .ok (.iload_n 1, 1) := by decide +kernel
theorem dX3_allPoints_30 : decode cX3_allPoints 30 = .ok (.ireturn, 1) := by decide +kernel
theorem dX3_wasStruck_0 : decode cX3_wasStruck 0 = .ok (.aload_n 0, 1) := by decide +kernel
theorem dX3_wasStruck_1 : decode cX3_wasStruck 1 = .ok (.getfield 13, 3) := by decide +kernel
theorem dX3_wasStruck_4 : decode cX3_wasStruck 4 = .ok (.iconst 4, 1) := by decide +kernel
theorem dX3_wasStruck_5 : decode cX3_wasStruck 5 = .ok (.aaload, 1) := by decide +kernel
theorem dX3_wasStruck_6 : decode cX3_wasStruck 6 = .ok (.iload_n 1, 1) := by decide +kernel
theorem dX3_wasStruck_7 : decode cX3_wasStruck 7 = .ok (.iaload, 1) := by decide +kernel
theorem dX3_wasStruck_8 : decode cX3_wasStruck 8 = .ok (.ifCond .le 7, 3) := by decide +kernel
theorem dX3_wasStruck_11 : decode cX3_wasStruck 11 = .ok (.iconst 1, 1) := by decide +kernel
theorem dX3_wasStruck_12 : decode cX3_wasStruck 12 = .ok (.goto 4, 3) := by decide +kernel
theorem dX3_wasStruck_15 : decode cX3_wasStruck 15 = .ok (.iconst 0, 1) := by decide +kernel
theorem dX3_wasStruck_16 : decode cX3_wasStruck 16 = .ok (.ireturn, 1) := by decide +kernel
theorem dX0_ayesAsTold_0 : decode cX0_ayesAsTold 0 = .ok (.iconst 0, 1) := by decide +kernel
theorem dX0_ayesAsTold_1 : decode cX0_ayesAsTold 1 = .ok (.istore_n 1, 1) := by decide +kernel
theorem dX0_ayesAsTold_2 : decode cX0_ayesAsTold 2 = .ok (.iconst 0, 1) := by decide +kernel
theorem dX0_ayesAsTold_3 : decode cX0_ayesAsTold 3 = .ok (.istore_n 2, 1) := by decide +kernel
theorem dX0_ayesAsTold_4 : decode cX0_ayesAsTold 4 = .ok (.iload_n 2, 1) := by decide +kernel
theorem dX0_ayesAsTold_5 : decode cX0_ayesAsTold 5 = .ok (.aload_n 0, 1) := by decide +kernel
theorem dX0_ayesAsTold_6 : decode cX0_ayesAsTold 6 = .ok (.getfield 34, 3) := by decide +kernel
theorem dX0_ayesAsTold_9 : decode cX0_ayesAsTold 9 = .ok (.if_icmp .ge 24, 3) := by decide +kernel
theorem dX0_ayesAsTold_12 : decode cX0_ayesAsTold 12 = .ok (.aload_n 0, 1) := by decide +kernel
theorem dX0_ayesAsTold_13 : decode cX0_ayesAsTold 13 = .ok (.getfield 23, 3) := by decide +kernel
theorem dX0_ayesAsTold_16 : decode cX0_ayesAsTold 16 = .ok (.iload_n 2, 1) := by decide +kernel
theorem dX0_ayesAsTold_17 : decode cX0_ayesAsTold 17 = .ok (.aaload, 1) := by decide +kernel
theorem dX0_ayesAsTold_18 : decode cX0_ayesAsTold 18 = .ok (.iconst 1, 1) := by decide +kernel
theorem dX0_ayesAsTold_19 : decode cX0_ayesAsTold 19 = .ok (.iaload, 1) := by decide +kernel
theorem dX0_ayesAsTold_20 : decode cX0_ayesAsTold 20 = .ok (.iconst 2, 1) := by decide +kernel
theorem dX0_ayesAsTold_21 : decode cX0_ayesAsTold 21 = .ok (.if_icmp .gt 6, 3) := by decide +kernel
theorem dX0_ayesAsTold_24 : decode cX0_ayesAsTold 24 = .ok (.iinc 1 1, 3) := by decide +kernel
theorem dX0_ayesAsTold_27 : decode cX0_ayesAsTold 27 = .ok (.iinc 2 1, 3) := by decide +kernel
theorem dX0_ayesAsTold_30 : decode cX0_ayesAsTold 30 = .ok (.goto (-26), 3) := by decide +kernel
theorem dX0_ayesAsTold_33 : decode cX0_ayesAsTold 33 = .ok (.iload_n 1, 1) := by decide +kernel
theorem dX0_ayesAsTold_34 : decode cX0_ayesAsTold 34 = .ok (.ireturn, 1) := by decide +kernel
theorem dX0_becomeLike_0 : decode cX0_becomeLike 0 = .ok (.aload_n 0, 1) := by decide +kernel
theorem dX0_becomeLike_1 : decode cX0_becomeLike 1 = .ok (.aload_n 1, 1) := by decide +kernel
theorem dX0_becomeLike_2 : decode cX0_becomeLike 2 = .ok (.getfield 34, 3) := by decide +kernel
theorem dX0_becomeLike_5 : decode cX0_becomeLike 5 = .ok (.putfield 34, 3) := by decide +kernel
theorem dX0_becomeLike_8 : decode cX0_becomeLike 8 = .ok (.iconst 0, 1) := by decide +kernel
theorem dX0_becomeLike_9 : decode cX0_becomeLike 9 = .ok (.istore_n 2, 1) := by decide +kernel
theorem dX0_becomeLike_10 : decode cX0_becomeLike 10 = .ok (.iload_n 2, 1) := by decide +kernel
theorem dX0_becomeLike_11 : decode cX0_becomeLike 11 = .ok (.bipush 8, 2) := by decide +kernel
theorem dX0_becomeLike_13 : decode cX0_becomeLike 13 = .ok (.if_icmp .ge 27, 3) := by decide +kernel
theorem dX0_becomeLike_16 : decode cX0_becomeLike 16 = .ok (.aload_n 1, 1) := by decide +kernel
theorem dX0_becomeLike_17 : decode cX0_becomeLike 17 = .ok (.getfield 23, 3) := by decide +kernel
theorem dX0_becomeLike_20 : decode cX0_becomeLike 20 = .ok (.iload_n 2, 1) := by decide +kernel
theorem dX0_becomeLike_21 : decode cX0_becomeLike 21 = .ok (.aaload, 1) := by decide +kernel
theorem dX0_becomeLike_22 : decode cX0_becomeLike 22 = .ok (.iconst 0, 1) := by decide +kernel
theorem dX0_becomeLike_23 : decode cX0_becomeLike 23 = .ok (.aload_n 0, 1) := by decide +kernel
theorem dX0_becomeLike_24 : decode cX0_becomeLike 24 = .ok (.getfield 23, 3) := by decide +kernel
theorem dX0_becomeLike_27 : decode cX0_becomeLike 27 = .ok (.iload_n 2, 1) := by decide +kernel
theorem dX0_becomeLike_28 : decode cX0_becomeLike 28 = .ok (.aaload, 1) := by decide +kernel
theorem dX0_becomeLike_29 : decode cX0_becomeLike 29 = .ok (.iconst 0, 1) := by decide +kernel
theorem dX0_becomeLike_30 : decode cX0_becomeLike 30 = .ok (.iconst 5, 1) := by decide +kernel
theorem dX0_becomeLike_31 : decode cX0_becomeLike 31 = .ok (.invokestatic 38, 3) := by decide +kernel
theorem dX0_becomeLike_34 : decode cX0_becomeLike 34 = .ok (.iinc 2 1, 3) := by decide +kernel
theorem dX0_becomeLike_37 : decode cX0_becomeLike 37 = .ok (.goto (-27), 3) := by decide +kernel
theorem dX0_becomeLike_40 : decode cX0_becomeLike 40 = .ok (.return_, 1) := by decide +kernel
theorem dX6_lend_0 : decode cX6_lend 0 = .ok (.aload_n 0, 1) := by decide +kernel
theorem dX6_lend_1 : decode cX6_lend 1 = .ok (.getfield 23, 3) := by decide +kernel
theorem dX6_lend_4 : decode cX6_lend 4 = .ok (.bipush 12, 2) := by decide +kernel
theorem dX6_lend_6 : decode cX6_lend 6 = .ok (.if_icmp .gt 49, 3) := by decide +kernel
theorem dX6_lend_9 : decode cX6_lend 9 = .ok (.aload_n 0, 1) := by decide +kernel
theorem dX6_lend_10 : decode cX6_lend 10 = .ok (.getfield 27, 3) := by decide +kernel
theorem dX6_lend_13 : decode cX6_lend 13 = .ok (.aload_n 0, 1) := by decide +kernel
theorem dX6_lend_14 : decode cX6_lend 14 = .ok (.getfield 23, 3) := by decide +kernel
theorem dX6_lend_17 : decode cX6_lend 17 = .ok (.aaload, 1) := by decide +kernel
theorem dX6_lend_18 : decode cX6_lend 18 = .ok (.iconst 0, 1) := by decide +kernel
theorem dX6_lend_19 : decode cX6_lend 19 = .ok (.iload_n 1, 1) := by decide +kernel
theorem dX6_lend_20 : decode cX6_lend 20 = .ok (.iastore, 1) := by decide +kernel
theorem dX6_lend_21 : decode cX6_lend 21 = .ok (.aload_n 0, 1) := by decide +kernel
theorem dX6_lend_22 : decode cX6_lend 22 = .ok (.getfield 27, 3) := by decide +kernel
theorem dX6_lend_25 : decode cX6_lend 25 = .ok (.aload_n 0, 1) := by decide +kernel
theorem dX6_lend_26 : decode cX6_lend 26 = .ok (.getfield 23, 3) := by decide +kernel
theorem dX6_lend_29 : decode cX6_lend 29 = .ok (.aaload, 1) := by decide +kernel
theorem dX6_lend_30 : decode cX6_lend 30 = .ok (.iconst 1, 1) := by decide +kernel
theorem dX6_lend_31 : decode cX6_lend 31 = .ok (.iload_n 2, 1) := by decide +kernel
theorem dX6_lend_32 : decode cX6_lend 32 = .ok (.iastore, 1) := by decide +kernel
theorem dX6_lend_33 : decode cX6_lend 33 = .ok (.aload_n 0, 1) := by decide +kernel
theorem dX6_lend_34 : decode cX6_lend 34 = .ok (.getfield 27, 3) := by decide +kernel
theorem dX6_lend_37 : decode cX6_lend 37 = .ok (.aload_n 0, 1) := by decide +kernel
theorem dX6_lend_38 : decode cX6_lend 38 = .ok (.getfield 23, 3) := by decide +kernel
theorem dX6_lend_41 : decode cX6_lend 41 = .ok (.aaload, 1) := by decide +kernel
theorem dX6_lend_42 : decode cX6_lend 42 = .ok (.iconst 2, 1) := by decide +kernel
theorem dX6_lend_43 : decode cX6_lend 43 = .ok (.iload_n 3, 1) := by decide +kernel
theorem dX6_lend_44 : decode cX6_lend 44 = .ok (.iastore, 1) := by decide +kernel
theorem dX6_lend_45 : decode cX6_lend 45 = .ok (.aload_n 0, 1) := by decide +kernel
theorem dX6_lend_46 : decode cX6_lend 46 = .ok (.dup, 1) := by decide +kernel
theorem dX6_lend_47 : decode cX6_lend 47 = .ok (.getfield 23, 3) := by decide +kernel
theorem dX6_lend_50 : decode cX6_lend 50 = .ok (.iconst 1, 1) := by decide +kernel
theorem dX6_lend_51 : decode cX6_lend 51 = .ok (.iadd, 1) := by decide +kernel
theorem dX6_lend_52 : decode cX6_lend 52 = .ok (.putfield 23, 3) := by decide +kernel
theorem dX6_lend_55 : decode cX6_lend 55 = .ok (.return_, 1) := by decide +kernel
theorem dX6_giveBack_0 : decode cX6_giveBack 0 = .ok (.aload_n 0, 1) := by decide +kernel
theorem dX6_giveBack_1 : decode cX6_giveBack 1 = .ok (.getfield 23, 3) := by decide +kernel
theorem dX6_giveBack_4 : decode cX6_giveBack 4 = .ok (.ifCond .le 13, 3) := by decide +kernel
theorem dX6_giveBack_7 : decode cX6_giveBack 7 = .ok (.aload_n 0, 1) := by decide +kernel
theorem dX6_giveBack_8 : decode cX6_giveBack 8 = .ok (.dup, 1) := by decide +kernel
theorem dX6_giveBack_9 : decode cX6_giveBack 9 = .ok (.getfield 23, 3) := by decide +kernel
theorem dX6_giveBack_12 : decode cX6_giveBack 12 = .ok (.iconst 1, 1) := by decide +kernel
theorem dX6_giveBack_13 : decode cX6_giveBack 13 = .ok (.isub, 1) := by decide +kernel
theorem dX6_giveBack_14 : decode cX6_giveBack 14 = .ok (.putfield 23, 3) := by decide +kernel
theorem dX6_giveBack_17 : decode cX6_giveBack 17 = .ok (.return_, 1) := by decide +kernel
theorem dX5_comeOutIn_0 : decode cX5_comeOutIn 0 = .ok (.iconst 0, 1) := by decide +kernel
theorem dX5_comeOutIn_1 : decode cX5_comeOutIn 1 = .ok (.istore_n 2, 1) := by decide +kernel
theorem dX5_comeOutIn_2 : decode cX5_comeOutIn 2 = .ok (.iload_n 2, 1) := by decide +kernel
theorem dX5_comeOutIn_3 : decode cX5_comeOutIn 3 = .ok (.aload_n 0, 1) := by decide +kernel
theorem dX5_comeOutIn_4 : decode cX5_comeOutIn 4 = .ok (.getfield 24, 3) := by decide +kernel
theorem dX5_comeOutIn_7 : decode cX5_comeOutIn 7 = .ok (.if_icmp .ge 76, 3) := by decide +kernel
theorem dX5_comeOutIn_10 : decode cX5_comeOutIn 10 = .ok (.aload_n 0, 1) := by decide +kernel
theorem dX5_comeOutIn_11 : decode cX5_comeOutIn 11 = .ok (.getfield 15, 3) := by decide +kernel
theorem dX5_comeOutIn_14 : decode cX5_comeOutIn 14 = .ok (.iload_n 2, 1) := by decide +kernel
theorem dX5_comeOutIn_15 : decode cX5_comeOutIn 15 = .ok (.iaload, 1) := by decide +kernel
theorem dX5_comeOutIn_16 : decode cX5_comeOutIn 16 = .ok (.aload_n 1, 1) := by decide +kernel
theorem dX5_comeOutIn_17 : decode cX5_comeOutIn 17 = .ok (.getfield 28, 3) := by decide +kernel
theorem dX5_comeOutIn_20 : decode cX5_comeOutIn 20 = .ok (.if_icmp .ge 55, 3) := by decide +kernel
theorem dX5_comeOutIn_23 : decode cX5_comeOutIn 23 = .ok (.aload_n 1, 1) := by decide +kernel
theorem dX5_comeOutIn_24 : decode cX5_comeOutIn 24 = .ok (.aload_n 0, 1) := by decide +kernel
theorem dX5_comeOutIn_25 : decode cX5_comeOutIn 25 = .ok (.getfield 9, 3) := by decide +kernel
theorem dX5_comeOutIn_28 : decode cX5_comeOutIn 28 = .ok (.iload_n 2, 1) := by decide +kernel
theorem dX5_comeOutIn_29 : decode cX5_comeOutIn 29 = .ok (.iaload, 1) := by decide +kernel
theorem dX5_comeOutIn_30 : decode cX5_comeOutIn 30 = .ok (.aload_n 0, 1) := by decide +kernel
theorem dX5_comeOutIn_31 : decode cX5_comeOutIn 31 = .ok (.getfield 15, 3) := by decide +kernel
theorem dX5_comeOutIn_34 : decode cX5_comeOutIn 34 = .ok (.iload_n 2, 1) := by decide +kernel
theorem dX5_comeOutIn_35 : decode cX5_comeOutIn 35 = .ok (.iaload, 1) := by decide +kernel
theorem dX5_comeOutIn_36 : decode cX5_comeOutIn 36 = .ok (.iconst 0, 1) := by decide +kernel
theorem dX5_comeOutIn_37 : decode cX5_comeOutIn 37 = .ok (.invokevirtual 31, 3) := by decide +kernel
theorem dX5_comeOutIn_40 : decode cX5_comeOutIn 40 = .ok (.aload_n 0, 1) := by decide +kernel
theorem dX5_comeOutIn_41 : decode cX5_comeOutIn 41 = .ok (.getfield 18, 3) := by decide +kernel
theorem dX5_comeOutIn_44 : decode cX5_comeOutIn 44 = .ok (.iload_n 2, 1) := by decide +kernel
theorem dX5_comeOutIn_45 : decode cX5_comeOutIn 45 = .ok (.iaload, 1) := by decide +kernel
theorem dX5_comeOutIn_46 : decode cX5_comeOutIn 46 = .ok (.if_icmp .ne 29, 3) := by decide +kernel
theorem dX5_comeOutIn_49 : decode cX5_comeOutIn 49 = .ok (.aload_n 1, 1) := by decide +kernel
theorem dX5_comeOutIn_50 : decode cX5_comeOutIn 50 = .ok (.aload_n 0, 1) := by decide +kernel
theorem dX5_comeOutIn_51 : decode cX5_comeOutIn 51 = .ok (.getfield 9, 3) := by decide +kernel
theorem dX5_comeOutIn_54 : decode cX5_comeOutIn 54 = .ok (.iload_n 2, 1) := by decide +kernel
theorem dX5_comeOutIn_55 : decode cX5_comeOutIn 55 = .ok (.iaload, 1) := by decide +kernel
theorem dX5_comeOutIn_56 : decode cX5_comeOutIn 56 = .ok (.aload_n 0, 1) := by decide +kernel
theorem dX5_comeOutIn_57 : decode cX5_comeOutIn 57 = .ok (.getfield 15, 3) := by decide +kernel
theorem dX5_comeOutIn_60 : decode cX5_comeOutIn 60 = .ok (.iload_n 2, 1) := by decide +kernel
theorem dX5_comeOutIn_61 : decode cX5_comeOutIn 61 = .ok (.iaload, 1) := by decide +kernel
theorem dX5_comeOutIn_62 : decode cX5_comeOutIn 62 = .ok (.iconst 1, 1) := by decide +kernel
theorem dX5_comeOutIn_63 : decode cX5_comeOutIn 63 = .ok (.invokevirtual 31, 3) := by decide +kernel
theorem dX5_comeOutIn_66 : decode cX5_comeOutIn 66 = .ok (.aload_n 0, 1) := by decide +kernel
theorem dX5_comeOutIn_67 : decode cX5_comeOutIn 67 = .ok (.getfield 21, 3) := by decide +kernel
theorem dX5_comeOutIn_70 : decode cX5_comeOutIn 70 = .ok (.iload_n 2, 1) := by decide +kernel
theorem dX5_comeOutIn_71 : decode cX5_comeOutIn 71 = .ok (.iaload, 1) := by decide +kernel
theorem dX5_comeOutIn_72 : decode cX5_comeOutIn 72 = .ok (.if_icmp .eq 5, 3) := by decide +kernel
theorem dX5_comeOutIn_75 : decode cX5_comeOutIn 75 = .ok (.iconst 0, 1) := by decide +kernel
theorem dX5_comeOutIn_76 : decode cX5_comeOutIn 76 = .ok (.ireturn, 1) := by decide +kernel
theorem dX5_comeOutIn_77 : decode cX5_comeOutIn 77 = .ok (.iinc 2 1, 3) := by decide +kernel
theorem dX5_comeOutIn_80 : decode cX5_comeOutIn 80 = .ok (.goto (-78), 3) := by decide +kernel
theorem dX5_comeOutIn_83 : decode cX5_comeOutIn 83 = .ok (.iconst 1, 1) := by decide +kernel
theorem dX5_comeOutIn_84 : decode cX5_comeOutIn 84 = .ok (.ireturn, 1) := by decide +kernel
theorem dX1_append_0 : decode cX1_append 0 = .ok (.aload_n 0, 1) := by decide +kernel
theorem dX1_append_1 : decode cX1_append 1 = .ok (.getfield 25, 3) := by decide +kernel
theorem dX1_append_4 : decode cX1_append 4 = .ok (.bipush 8, 2) := by decide +kernel
theorem dX1_append_6 : decode cX1_append 6 = .ok (.if_icmp .ge 43, 3) := by decide +kernel
theorem dX1_append_9 : decode cX1_append 9 = .ok (.aload_n 0, 1) := by decide +kernel
theorem dX1_append_10 : decode cX1_append 10 = .ok (.getfield 9, 3) := by decide +kernel
theorem dX1_append_13 : decode cX1_append 13 = .ok (.aload_n 0, 1) := by decide +kernel
theorem dX1_append_14 : decode cX1_append 14 = .ok (.getfield 25, 3) := by decide +kernel
theorem dX1_append_17 : decode cX1_append 17 = .ok (.iload_n 1, 1) := by decide +kernel
theorem dX1_append_18 : decode cX1_append 18 = .ok (.iastore, 1) := by decide +kernel
theorem dX1_append_19 : decode cX1_append 19 = .ok (.aload_n 0, 1) := by decide +kernel
theorem dX1_append_20 : decode cX1_append 20 = .ok (.getfield 15, 3) := by decide +kernel
theorem dX1_append_23 : decode cX1_append 23 = .ok (.aload_n 0, 1) := by decide +kernel
theorem dX1_append_24 : decode cX1_append 24 = .ok (.getfield 25, 3) := by decide +kernel
theorem dX1_append_27 : decode cX1_append 27 = .ok (.iload_n 2, 1) := by decide +kernel
theorem dX1_append_28 : decode cX1_append 28 = .ok (.iastore, 1) := by decide +kernel
theorem dX1_append_29 : decode cX1_append 29 = .ok (.aload_n 0, 1) := by decide +kernel
theorem dX1_append_30 : decode cX1_append 30 = .ok (.getfield 18, 3) := by decide +kernel
theorem dX1_append_33 : decode cX1_append 33 = .ok (.aload_n 0, 1) := by decide +kernel
theorem dX1_append_34 : decode cX1_append 34 = .ok (.getfield 25, 3) := by decide +kernel
theorem dX1_append_37 : decode cX1_append 37 = .ok (.iload_n 3, 1) := by decide +kernel
theorem dX1_append_38 : decode cX1_append 38 = .ok (.iastore, 1) := by decide +kernel
theorem dX1_append_39 : decode cX1_append 39 = .ok (.aload_n 0, 1) := by decide +kernel
theorem dX1_append_40 : decode cX1_append 40 = .ok (.dup, 1) := by decide +kernel
theorem dX1_append_41 : decode cX1_append 41 = .ok (.getfield 25, 3) := by decide +kernel
theorem dX1_append_44 : decode cX1_append 44 = .ok (.iconst 1, 1) := by decide +kernel
theorem dX1_append_45 : decode cX1_append 45 = .ok (.iadd, 1) := by decide +kernel
theorem dX1_append_46 : decode cX1_append 46 = .ok (.putfield 25, 3) := by decide +kernel
theorem dX1_append_49 : decode cX1_append 49 = .ok (.return_, 1) := by decide +kernel
theorem dX5_append_0 : decode cX5_append 0 = .ok (.aload_n 0, 1) := by decide +kernel
theorem dX5_append_1 : decode cX5_append 1 = .ok (.getfield 24, 3) := by decide +kernel
theorem dX5_append_4 : decode cX5_append 4 = .ok (.bipush 8, 2) := by decide +kernel
theorem dX5_append_6 : decode cX5_append 6 = .ok (.if_icmp .ge 54, 3) := by decide +kernel
theorem dX5_append_9 : decode cX5_append 9 = .ok (.aload_n 0, 1) := by decide +kernel
theorem dX5_append_10 : decode cX5_append 10 = .ok (.getfield 9, 3) := by decide +kernel
theorem dX5_append_13 : decode cX5_append 13 = .ok (.aload_n 0, 1) := by decide +kernel
theorem dX5_append_14 : decode cX5_append 14 = .ok (.getfield 24, 3) := by decide +kernel
theorem dX5_append_17 : decode cX5_append 17 = .ok (.iload_n 1, 1) := by decide +kernel
theorem dX5_append_18 : decode cX5_append 18 = .ok (.iastore, 1) := by decide +kernel
theorem dX5_append_19 : decode cX5_append 19 = .ok (.aload_n 0, 1) := by decide +kernel
theorem dX5_append_20 : decode cX5_append 20 = .ok (.getfield 15, 3) := by decide +kernel
theorem dX5_append_23 : decode cX5_append 23 = .ok (.aload_n 0, 1) := by decide +kernel
theorem dX5_append_24 : decode cX5_append 24 = .ok (.getfield 24, 3) := by decide +kernel
theorem dX5_append_27 : decode cX5_append 27 = .ok (.iload_n 2, 1) := by decide +kernel
theorem dX5_append_28 : decode cX5_append 28 = .ok (.iastore, 1) := by decide +kernel
theorem dX5_append_29 : decode cX5_append 29 = .ok (.aload_n 0, 1) := by decide +kernel
theorem dX5_append_30 : decode cX5_append 30 = .ok (.getfield 18, 3) := by decide +kernel
theorem dX5_append_33 : decode cX5_append 33 = .ok (.aload_n 0, 1) := by decide +kernel
theorem dX5_append_34 : decode cX5_append 34 = .ok (.getfield 24, 3) := by decide +kernel
theorem dX5_append_37 : decode cX5_append 37 = .ok (.iload_n 3, 1) := by decide +kernel
theorem dX5_append_38 : decode cX5_append 38 = .ok (.iastore, 1) := by decide +kernel
theorem dX5_append_39 : decode cX5_append 39 = .ok (.aload_n 0, 1) := by decide +kernel
theorem dX5_append_40 : decode cX5_append 40 = .ok (.getfield 21, 3) := by decide +kernel
theorem dX5_append_43 : decode cX5_append 43 = .ok (.aload_n 0, 1) := by decide +kernel
theorem dX5_append_44 : decode cX5_append 44 = .ok (.getfield 24, 3) := by decide +kernel
theorem dX5_append_47 : decode cX5_append 47 = .ok (.iload 4, 2) := by decide +kernel
theorem dX5_append_49 : decode cX5_append 49 = .ok (.iastore, 1) := by decide +kernel
theorem dX5_append_50 : decode cX5_append 50 = .ok (.aload_n 0, 1) := by decide +kernel
theorem dX5_append_51 : decode cX5_append 51 = .ok (.dup, 1) := by decide +kernel
theorem dX5_append_52 : decode cX5_append 52 = .ok (.getfield 24, 3) := by decide +kernel
theorem dX5_append_55 : decode cX5_append 55 = .ok (.iconst 1, 1) := by decide +kernel
theorem dX5_append_56 : decode cX5_append 56 = .ok (.iadd, 1) := by decide +kernel
theorem dX5_append_57 : decode cX5_append 57 = .ok (.putfield 24, 3) := by decide +kernel
theorem dX5_append_60 : decode cX5_append 60 = .ok (.return_, 1) := by decide +kernel
theorem dX7_append_0 : decode cX7_append 0 = .ok (.aload_n 0, 1) := by decide +kernel
theorem dX7_append_1 : decode cX7_append 1 = .ok (.getfield 15, 3) := by decide +kernel
theorem dX7_append_4 : decode cX7_append 4 = .ok (.bipush 47, 2) := by decide +kernel
theorem dX7_append_6 : decode cX7_append 6 = .ok (.if_icmp .ge 23, 3) := by decide +kernel
theorem dX7_append_9 : decode cX7_append 9 = .ok (.aload_n 0, 1) := by decide +kernel
theorem dX7_append_10 : decode cX7_append 10 = .ok (.getfield 9, 3) := by decide +kernel
theorem dX7_append_13 : decode cX7_append 13 = .ok (.aload_n 0, 1) := by decide +kernel
theorem dX7_append_14 : decode cX7_append 14 = .ok (.getfield 15, 3) := by decide +kernel
theorem dX7_append_17 : decode cX7_append 17 = .ok (.iload_n 1, 1) := by decide +kernel
theorem dX7_append_18 : decode cX7_append 18 = .ok (.iastore, 1) := by decide +kernel
theorem dX7_append_19 : decode cX7_append 19 = .ok (.aload_n 0, 1) := by decide +kernel
theorem dX7_append_20 : decode cX7_append 20 = .ok (.dup, 1) := by decide +kernel
theorem dX7_append_21 : decode cX7_append 21 = .ok (.getfield 15, 3) := by decide +kernel
theorem dX7_append_24 : decode cX7_append 24 = .ok (.iconst 1, 1) := by decide +kernel
theorem dX7_append_25 : decode cX7_append 25 = .ok (.iadd, 1) := by decide +kernel
theorem dX7_append_26 : decode cX7_append 26 = .ok (.putfield 15, 3) := by decide +kernel
theorem dX7_append_29 : decode cX7_append 29 = .ok (.return_, 1) := by decide +kernel
theorem c_behind {R : Nat} (hR : R = 47 ∨ R = 80) (t k p : Nat) (ht : t < 24) (hk : k < 8) (hp : p < 6) : mMet G l d kX3_behind [.ref R, .int (nI t), .int (nI k), .int (nI p)] σ (qI (σ.1 (R + 9 + p) (8 * t + k)) σ) := by
  obtain ⟨g0, g1, g2, g3, g4, g5, g6, g7⟩ := sh_run hR
  have n9 := g4 p hp
  refine mMet.of cm_X3_behind rfl (Nat.le_of_ble_eq_true rfl) rfl (fun v1 σ1 h => by rw [h.1]; rfl) ?_
  refine m_aload_n dX3_behind_0 0 rfl ?_
  refine m_getR 1 (R + 8) dX3_behind_1 fl_X3_16_3 rfl (by decide) rfl (by first | assumption | rfl) ?_
  refine m_iload_n dX3_behind_4 3 rfl ?_
  refine m_aald dX3_behind_5 (by first | assumption | rfl) p rfl (by first | assumption | omega | decide) ?_
  refine m_iload_n dX3_behind_6 1 rfl ?_
  refine m_bipush (v := 8) dX3_behind_7 (by decide) ?_
  refine m_imul dX3_behind_9 ?_
  refine m_iload_n dX3_behind_10 2 rfl ?_
  refine m_iadd dX3_behind_11 ?_
  refine mW.top (ix8' t k) ?_
  refine m_iald dX3_behind_12 (by first | assumption | rfl) (8 * t + k) rfl (by first | assumption | omega | decide) ?_
  exact m_ireturn dX3_behind_13 ⟨rfl, rfl⟩
theorem c_behindD {R : Nat} (hR : R = 47 ∨ R = 80) (D : Deb) (hn : D.1.1 ≤ 8) (ho : outC R D σ) (t k p : Nat) (ht : t < 24) (hk : k < D.1.1) (hp : p < 6) : mMet G l d kX3_behind [.ref R, .int (nI t), .int (nI k), .int (nI p)] σ (qI (aAt (RSt D (t + 1)) k p) σ) := by
  have h := c_behind (G := G) (l := l) (d := d) (σ := σ) hR t k p ht (by omega) hp
  rw [(ho.2 t ht).2.2 k hk p hp] at h
  exact h
theorem c_inCell {R : Nat} (hd : 1 ≤ d) (hR : R = 47 ∨ R = 80) (D : Deb) (wf : wfD D) (ho : outC R D σ) (t : Nat) (ht : t < 24) (x y : Int32) : mMet G l d kX3_inCell [.ref R, .int (nI t), .int x, .int y] σ (qI (whoIn (RSt D (t + 1)).1 (RSt D (t + 1)).2.1 x y D.1.1) σ) := by
  obtain ⟨g0, g1, g2, g3, g4, g5, g6, g7⟩ := sh_run hR
  have hn := wf.1
  have wft := wf.run (t + 1)
  refine mMet.of cm_X3_inCell rfl (Nat.le_of_ble_eq_true rfl) rfl (fun v1 σ1 h => by rw [h.1]; rfl) ?_
  refine m_iconst (v := 0) dX3_inCell_0 (by decide) ?_
  refine m_istore (ls1 := [(4, _), (0, _), (1, _), (2, _), (3, _)]) dX3_inCell_1 (by decide) rfl ?_
  refine down (N := D.1.1) (fun i (_ : Unit) => ∀ k, k < i → ¬ ((RSt D (t + 1)).1 k = x ∧ (RSt D (t + 1)).2.1 k = y)) (fun i _ => mW G l d kX3_inCell 3 [(4, .int (nI i)), (0, .ref R), (1, .int (nI t)), (2, .int x), (3, .int y)] [] σ _) ?_ ?_ 0 () (Nat.zero_le _) (fun k hk => absurd hk (Nat.not_lt_zero _))
  · rintro - hf
    refine m_iload dX3_inCell_3 0 rfl ?_
    refine m_aload_n dX3_inCell_5 1 rfl ?_
    refine m_getI 5 dX3_inCell_6 fl_X3_48_3 rfl (by decide) (by first | assumption | rfl) ?_
    refine mW.top ho.1.1 ?_
    refine m_icmp_ge dX3_inCell_9 45 (by decide) (fun h => ?_) (fun h => ?_)
    · refine m_iconst (v := -1) dX3_inCell_45 (by decide) ?_
      exact m_ireturn dX3_inCell_46 (qI_of (whoIn_free _ hf).symm)
    · exact absurd (Int32.le_refl _) h
  · rintro i - hi hf ih
    have no : ¬ ((RSt D (t + 1)).1 i = x ∧ (RSt D (t + 1)).2.1 i = y) → mW G l d kX3_inCell 39 [(4, .int (nI i)), (0, .ref R), (1, .int (nI t)), (2, .int x), (3, .int y)] [] σ (qI (whoIn (RSt D (t + 1)).1 (RSt D (t + 1)).2.1 x y D.1.1) σ) := by
      intro z
      refine m_iinc (v := nI (i + 1)) (ls1 := [(4, _), (0, _), (1, _), (2, _), (3, _)]) dX3_inCell_39 0 rfl (nI_1 i) (by decide) rfl ?_
      refine m_goto dX3_inCell_42 3 (by decide) ?_
      refine ih () (fun k hk => ?_)
      rcases Nat.lt_succ_iff_lt_or_eq.mp hk with h | rfl
      · exact hf k h
      · exact z
    refine m_iload dX3_inCell_3 0 rfl ?_
    refine m_aload_n dX3_inCell_5 1 rfl ?_
    refine m_getI 5 dX3_inCell_6 fl_X3_48_3 rfl (by decide) (by first | assumption | rfl) ?_
    refine mW.top ho.1.1 ?_
    refine m_icmp_ge dX3_inCell_9 45 (by decide) (fun h => ?_) (fun h => ?_)
    · exact absurd ((nle (by omega) (by omega)).mp h) (by omega)
    clear h
    refine m_aload_n dX3_inCell_12 1 rfl ?_
    refine m_iload_n dX3_inCell_13 2 rfl ?_
    refine m_iload dX3_inCell_14 0 rfl ?_
    refine m_iconst (v := 0) dX3_inCell_16 (by decide) ?_
    refine m_callV (As := [_, _, _]) dX3_inCell_17 cv_X3_117 (by first | assumption | rfl) (by decide) (by omega) rfl rfl (Nat.le_of_ble_eq_true rfl) (c_behindD (d := d - 1) hR D hn ho t i 0 ht hi (by decide)) (fun v1 σ1 hv1 => ?_)
    refine m_qI hv1 ?_
    clear hv1 v1 σ1
    refine m_iload_n dX3_inCell_20 3 rfl ?_
    refine m_icmp_ne dX3_inCell_21 39 (by decide) (fun z1 => ?_) (fun z1 => ?_)
    · exact no (fun z => z1 z.1)
    refine m_aload_n dX3_inCell_24 1 rfl ?_
    refine m_iload_n dX3_inCell_25 2 rfl ?_
    refine m_iload dX3_inCell_26 0 rfl ?_
    refine m_iconst (v := 1) dX3_inCell_28 (by decide) ?_
    refine m_callV (As := [_, _, _]) dX3_inCell_29 cv_X3_117 (by first | assumption | rfl) (by decide) (by omega) rfl rfl (Nat.le_of_ble_eq_true rfl) (c_behindD (d := d - 1) hR D hn ho t i 1 ht hi (by decide)) (fun v1 σ1 hv1 => ?_)
    refine m_qI hv1 ?_
    clear hv1 v1 σ1
    refine m_iload_n dX3_inCell_32 4 rfl ?_
    refine m_icmp_ne dX3_inCell_33 39 (by decide) (fun z2 => ?_) (fun z2 => ?_)
    · exact no (fun z => z2 z.2)
    refine m_iload dX3_inCell_36 0 rfl ?_
    exact m_ireturn dX3_inCell_38 (qI_of (whoIn_hit (k := i) z1 z2 D.1.1 hi (fun j hj j1 j2 => wft.2 j i hj hi (j1.trans z1.symm) (j2.trans z2.symm))).symm)
theorem c_ayes {R : Nat} (hd : 1 ≤ d) (hR : R = 47 ∨ R = 80) (D : Deb) (hn : D.1.1 ≤ 8) (ho : outC R D σ) (t : Nat) (ht : t < 24) : mMet G l d kX3_ayes [.ref R, .int (nI t)] σ (qI (nI (ayD D t)) σ) := by
  obtain ⟨g0, g1, g2, g3, g4, g5, g6, g7⟩ := sh_run hR
  refine mMet.of cm_X3_ayes rfl (Nat.le_of_ble_eq_true rfl) rfl (fun v1 σ1 h => by rw [h.1]; rfl) ?_
  refine m_iconst (v := 0) dX3_ayes_0 (by decide) ?_
  refine m_istore_n (ls1 := [(2, _), (0, _), (1, _)]) dX3_ayes_1 (by decide) rfl ?_
  refine m_iconst (v := 0) dX3_ayes_2 (by decide) ?_
  refine m_istore_n (ls1 := [(3, _), (2, _), (0, _), (1, _)]) dX3_ayes_3 (by decide) rfl ?_
  refine down (N := D.1.1) (fun i (a : Nat) => a = ayP (RSt D (t + 1)).1 i) (fun i a => mW G l d kX3_ayes 4 [(3, .int (nI i)), (2, .int (nI a)), (0, .ref R), (1, .int (nI t))] [] σ _) ?_ ?_ 0 0 (Nat.zero_le _) rfl
  · rintro a ha
    refine m_iload_n dX3_ayes_4 0 rfl ?_
    refine m_aload_n dX3_ayes_5 2 rfl ?_
    refine m_getI 5 dX3_ayes_6 fl_X3_48_3 rfl (by decide) (by first | assumption | rfl) ?_
    refine mW.top ho.1.1 ?_
    refine m_icmp_ge dX3_ayes_9 32 (by decide) (fun h => ?_) (fun h => ?_)
    · refine m_iload_n dX3_ayes_32 1 rfl ?_
      exact m_ireturn dX3_ayes_33 (qI_of (by rw [ha]))
    · exact absurd (Int32.le_refl _) h
  · rintro i a hi ha ih
    refine m_iload_n dX3_ayes_4 0 rfl ?_
    refine m_aload_n dX3_ayes_5 2 rfl ?_
    refine m_getI 5 dX3_ayes_6 fl_X3_48_3 rfl (by decide) (by first | assumption | rfl) ?_
    refine mW.top ho.1.1 ?_
    refine m_icmp_ge dX3_ayes_9 32 (by decide) (fun h => ?_) (fun h => ?_)
    · exact absurd ((nle (by omega) (by omega)).mp h) (by omega)
    clear h
    refine m_aload_n dX3_ayes_12 2 rfl ?_
    refine m_iload_n dX3_ayes_13 3 rfl ?_
    refine m_iload_n dX3_ayes_14 0 rfl ?_
    refine m_iconst (v := 0) dX3_ayes_15 (by decide) ?_
    refine m_callV (As := [_, _, _]) dX3_ayes_16 cv_X3_117 (by first | assumption | rfl) (by decide) (by omega) rfl rfl (Nat.le_of_ble_eq_true rfl) (c_behindD (d := d - 1) hR D hn ho t i 0 ht hi (by decide)) (fun v1 σ1 hv1 => ?_)
    refine m_qI hv1 ?_
    clear hv1 v1 σ1
    refine m_iconst (v := 2) dX3_ayes_19 (by decide) ?_
    refine m_icmp_gt dX3_ayes_20 26 (by decide) (fun z1 => ?_) (fun z1 => ?_)
    · refine m_iinc (v := nI (i + 1)) (ls1 := [(3, _), (2, _), (0, _), (1, _)]) dX3_ayes_26 0 rfl (nI_1 i) (by decide) rfl ?_
      refine m_goto dX3_ayes_29 4 (by decide) ?_
      refine ih a ?_
      show a = ayP (RSt D (t + 1)).1 (i + 1)
      have z2 : 3 ≤ (RSt D (t + 1)).1 i := (gt2 _).mp z1
      rw [ayP, if_pos z2, Nat.add_zero]; exact ha
    · refine m_iinc (v := nI (a + 1)) (ls1 := [(2, _), (3, _), (0, _), (1, _)]) dX3_ayes_23 1 rfl (nI_1 a) (by decide) rfl ?_
      refine m_iinc (v := nI (i + 1)) (ls1 := [(3, _), (2, _), (0, _), (1, _)]) dX3_ayes_26 1 rfl (nI_1 i) (by decide) rfl ?_
      refine m_goto dX3_ayes_29 4 (by decide) ?_
      refine ih (a + 1) ?_
      show a + 1 = ayP (RSt D (t + 1)).1 (i + 1)
      have z2 : ¬ 3 ≤ (RSt D (t + 1)).1 i := fun z => z1 ((gt2 _).mpr z)
      rw [ayP, if_neg z2, ← ha]
theorem c_leader {R : Nat} (hR : R = 47 ∨ R = 80) (D : Deb) (hn : D.1.1 ≤ 8) (ho : outC R D σ) : mMet G l d kX3_leader [.ref R] σ (qI (beA D) σ) := by
  obtain ⟨g0, g1, g2, g3, g4, g5, g6, g7⟩ := sh_run hR
  have n3 := g2 3 (by decide)
  refine mMet.of cm_X3_leader rfl (Nat.le_of_ble_eq_true rfl) rfl (fun v1 σ1 h => by rw [h.1]; rfl) ?_
  have hp : ∀ k, k < D.1.1 → σ.1 (R + 5) k = (RSt D 24).2.2.2.1 k := fun k hk => (ho.1.2.2.2.2.2 k hk).2.2.2.1
  refine m_iconst (v := -1) dX3_leader_0 (by decide) ?_
  refine m_istore_n (ls1 := [(1, _), (0, _)]) dX3_leader_1 (by decide) rfl ?_
  refine m_iconst (v := 0) dX3_leader_2 (by decide) ?_
  refine m_istore_n (ls1 := [(2, _), (1, _), (0, _)]) dX3_leader_3 (by decide) rfl ?_
  refine down (N := D.1.1) (fun i (b : Int32) => b = bestP (RSt D 24).2.2.2.1 i) (fun i b => mW G l d kX3_leader 4 [(2, .int (nI i)), (1, .int b), (0, .ref R)] [] σ _) ?_ ?_ 0 (-1) (Nat.zero_le _) rfl
  · rintro b hb
    refine m_iload_n dX3_leader_4 0 rfl ?_
    refine m_aload_n dX3_leader_5 2 rfl ?_
    refine m_getI 5 dX3_leader_6 fl_X3_48_3 rfl (by decide) (by first | assumption | rfl) ?_
    refine mW.top ho.1.1 ?_
    refine m_icmp_ge dX3_leader_9 44 (by decide) (fun h => ?_) (fun h => ?_)
    · refine m_iload_n dX3_leader_44 1 rfl ?_
      exact m_ireturn dX3_leader_45 (qI_of hb)
    · exact absurd (Int32.le_refl _) h
  · rintro i b hi hb ih
    have hi8 : i < 8 := by omega
    refine m_iload_n dX3_leader_4 0 rfl ?_
    refine m_aload_n dX3_leader_5 2 rfl ?_
    refine m_getI 5 dX3_leader_6 fl_X3_48_3 rfl (by decide) (by first | assumption | rfl) ?_
    refine mW.top ho.1.1 ?_
    refine m_icmp_ge dX3_leader_9 44 (by decide) (fun h => ?_) (fun h => ?_)
    · exact absurd ((nle (by omega) (by omega)).mp h) (by omega)
    clear h
    have take : (b = -1 ∨ (RSt D 24).2.2.2.1 b.toNatClampNeg < (RSt D 24).2.2.2.1 i) → mW G l d kX3_leader 36 [(2, .int (nI i)), (1, .int b), (0, .ref R)] [] σ (qI (beA D) σ) := by
      intro z
      refine m_iload_n dX3_leader_36 0 rfl ?_
      refine m_istore_n (ls1 := [(1, _), (2, _), (0, _)]) dX3_leader_37 (by decide) rfl ?_
      refine m_iinc (v := nI (i + 1)) (ls1 := [(2, _), (1, _), (0, _)]) dX3_leader_38 1 rfl (nI_1 i) (by decide) rfl ?_
      refine m_goto dX3_leader_41 4 (by decide) ?_
      refine ih (nI i) ?_
      show nI i = bestP (RSt D 24).2.2.2.1 (i + 1)
      rw [bestP, ← hb, if_pos z]
    refine m_iload_n dX3_leader_12 1 rfl ?_
    refine m_iconst (v := -1) dX3_leader_13 (by decide) ?_
    refine m_icmp_eq dX3_leader_14 36 (by decide) (fun z1 => ?_) (fun z1 => ?_)
    · exact take (Or.inl z1)
    rcases bestP_of (RSt D 24).2.2.2.1 i (by omega) with e | ⟨j, hj, e⟩
    · exact absurd (hb.trans e) z1
    have hbj : b = nI j := hb.trans e
    subst hbj
    have hj8 : j < 8 := by omega
    have cj : (nI j).toNatClampNeg = j := nI_clamp (by omega)
    refine m_aload_n dX3_leader_17 2 rfl ?_
    refine m_getR 0 (R + 1) dX3_leader_18 fl_X3_13_3 rfl (by decide) rfl (by first | assumption | rfl) ?_
    refine m_iconst (v := 3) dX3_leader_21 (by decide) ?_
    refine m_aald dX3_leader_22 (by first | assumption | rfl) 3 rfl (by first | assumption | omega | decide) ?_
    refine m_iload_n dX3_leader_23 0 rfl ?_
    refine m_iald dX3_leader_24 (by first | assumption | rfl) i rfl (by first | assumption | omega | decide) ?_
    refine mW.top (hp i hi) ?_
    refine m_aload_n dX3_leader_25 2 rfl ?_
    refine m_getR 0 (R + 1) dX3_leader_26 fl_X3_13_3 rfl (by decide) rfl (by first | assumption | rfl) ?_
    refine m_iconst (v := 3) dX3_leader_29 (by decide) ?_
    refine m_aald dX3_leader_30 (by first | assumption | rfl) 3 rfl (by first | assumption | omega | decide) ?_
    refine m_iload_n dX3_leader_31 1 rfl ?_
    refine m_iald dX3_leader_32 (by first | assumption | rfl) j rfl (by first | assumption | omega | decide) ?_
    refine mW.top (hp j (by omega)) ?_
    refine m_icmp_le dX3_leader_33 38 (by decide) (fun z2 => ?_) (fun z2 => ?_)
    · refine m_iinc (v := nI (i + 1)) (ls1 := [(2, _), (1, _), (0, _)]) dX3_leader_38 0 rfl (nI_1 i) (by decide) rfl ?_
      refine m_goto dX3_leader_41 4 (by decide) ?_
      refine ih (nI j) ?_
      show nI j = bestP (RSt D 24).2.2.2.1 (i + 1)
      rw [bestP, ← hb, if_neg (fun z => z.elim z1 (fun z => by rw [cj] at z; exact absurd z (Int32.not_lt.mpr z2)))]
    · exact take (Or.inr (by rw [cj]; exact Int32.not_le.mp z2))
theorem c_untouched {R : Nat} (hR : R = 47 ∨ R = 80) (D : Deb) (hn : D.1.1 ≤ 8) (ho : outC R D σ) : mMet G l d kX3_untouched [.ref R] σ (qI (meekD D) σ) := by
  obtain ⟨g0, g1, g2, g3, g4, g5, g6, g7⟩ := sh_run hR
  refine mMet.of cm_X3_untouched rfl (Nat.le_of_ble_eq_true rfl) rfl (fun v1 σ1 h => by rw [h.1]; rfl) ?_
  refine m_aload_n dX3_untouched_0 0 rfl ?_
  refine m_getI 9 dX3_untouched_1 fl_X3_65_3 rfl (by decide) (by first | assumption | rfl) ?_
  refine mW.top ho.1.2.2.2.2.1 ?_
  refine m_iconst (v := -1) dX3_untouched_4 (by decide) ?_
  refine m_ixor dX3_untouched_5 ?_
  refine mW.top (xorM _) ?_
  refine m_iconst (v := 1) dX3_untouched_6 (by decide) ?_
  refine m_aload_n dX3_untouched_7 0 rfl ?_
  refine m_getI 5 dX3_untouched_8 fl_X3_48_3 rfl (by decide) (by first | assumption | rfl) ?_
  refine mW.top ho.1.1 ?_
  refine m_ishl dX3_untouched_11 ?_
  refine m_iconst (v := 1) dX3_untouched_12 (by decide) ?_
  refine m_isub dX3_untouched_13 ?_
  refine m_iand dX3_untouched_14 ?_
  exact m_ireturn dX3_untouched_15 (qI_of (tcP_meek (RSt D 24) D.1.1 hn))
theorem c_worstJam {R : Nat} (hR : R = 47 ∨ R = 80) (D : Deb) (ho : outC R D σ) : mMet G l d kX3_worstJam [.ref R] σ (qI (nI (jmP (jmD D) 23)) σ) := by
  obtain ⟨g0, g1, g2, g3, g4, g5, g6, g7⟩ := sh_run hR
  refine mMet.of cm_X3_worstJam rfl (Nat.le_of_ble_eq_true rfl) rfl (fun v1 σ1 h => by rw [h.1]; rfl) ?_
  have hp : ∀ t, t < 24 → σ.1 (R + 17) t = jmD D t := fun t ht => (ho.2 t ht).2.1
  refine m_iconst (v := 0) dX3_worstJam_0 (by decide) ?_
  refine m_istore_n (ls1 := [(1, _), (0, _)]) dX3_worstJam_1 (by decide) rfl ?_
  refine m_iconst (v := 1) dX3_worstJam_2 (by decide) ?_
  refine m_istore_n (ls1 := [(2, _), (1, _), (0, _)]) dX3_worstJam_3 (by decide) rfl ?_
  refine down (N := 24) (fun i (b : Nat) => 1 ≤ i ∧ b = jmP (jmD D) (i - 1)) (fun i b => mW G l d kX3_worstJam 4 [(2, .int (nI i)), (1, .int (nI b)), (0, .ref R)] [] σ _) ?_ ?_ 1 0 (by decide) ⟨Nat.le_refl _, rfl⟩
  · rintro b ⟨-, hb⟩
    refine m_iload_n dX3_worstJam_4 0 rfl ?_
    refine m_bipush (v := 24) dX3_worstJam_5 (by decide) ?_
    refine m_icmp_ge dX3_worstJam_7 33 (by decide) (fun h => ?_) (fun h => ?_)
    · refine m_iload_n dX3_worstJam_33 1 rfl ?_
      exact m_ireturn dX3_worstJam_34 (qI_of (by rw [hb]))
    · exact absurd (Int32.le_refl _) h
  · rintro i b hi ⟨hi1, hb⟩ ih
    obtain ⟨u, rfl⟩ : ∃ u, i = u + 1 := ⟨i - 1, by omega⟩
    have hb : b = jmP (jmD D) u := hb
    have hbl : b ≤ u := by rw [hb]; exact jmP_le _ _
    have hb24 : b < 24 := by omega
    refine m_iload_n dX3_worstJam_4 0 rfl ?_
    refine m_bipush (v := 24) dX3_worstJam_5 (by decide) ?_
    refine m_icmp_ge dX3_worstJam_7 33 (by decide) (fun h => ?_) (fun h => ?_)
    · exact absurd ((nle (a := 24) (by omega) (by omega)).mp h) (by omega)
    clear h
    refine m_aload_n dX3_worstJam_10 2 rfl ?_
    refine m_getR 4 (R + 17) dX3_worstJam_11 fl_X3_26_3 rfl (by decide) rfl (by first | assumption | rfl) ?_
    refine m_iload_n dX3_worstJam_14 0 rfl ?_
    refine m_iald dX3_worstJam_15 (by first | assumption | rfl) (u + 1) rfl (by first | assumption | omega | decide) ?_
    refine mW.top (hp (u + 1) hi) ?_
    refine m_aload_n dX3_worstJam_16 2 rfl ?_
    refine m_getR 4 (R + 17) dX3_worstJam_17 fl_X3_26_3 rfl (by decide) rfl (by first | assumption | rfl) ?_
    refine m_iload_n dX3_worstJam_20 1 rfl ?_
    refine m_iald dX3_worstJam_21 (by first | assumption | rfl) b rfl (by first | assumption | omega | decide) ?_
    refine mW.top (hp b hb24) ?_
    refine m_icmp_le dX3_worstJam_22 27 (by decide) (fun z1 => ?_) (fun z1 => ?_)
    · refine m_iinc (v := nI (u + 1 + 1)) (ls1 := [(2, _), (1, _), (0, _)]) dX3_worstJam_27 0 rfl (nI_1 _) (by decide) rfl ?_
      refine m_goto dX3_worstJam_30 4 (by decide) ?_
      refine ih b ⟨by omega, ?_⟩
      show b = jmP (jmD D) (u + 1)
      rw [jmP, ← hb, if_neg (Int32.not_lt.mpr z1)]
    · refine m_iload_n dX3_worstJam_25 0 rfl ?_
      refine m_istore_n (ls1 := [(1, _), (2, _), (0, _)]) dX3_worstJam_26 (by decide) rfl ?_
      refine m_iinc (v := nI (u + 1 + 1)) (ls1 := [(2, _), (1, _), (0, _)]) dX3_worstJam_27 1 rfl (nI_1 _) (by decide) rfl ?_
      refine m_goto dX3_worstJam_30 4 (by decide) ?_
      refine ih (u + 1) ⟨by omega, ?_⟩
      show u + 1 = jmP (jmD D) (u + 1)
      rw [jmP, ← hb, if_pos (Int32.not_le.mp z1)]
theorem c_allPoints {R : Nat} (hR : R = 47 ∨ R = 80) (D : Deb) (hn : D.1.1 ≤ 8) (ho : outC R D σ) : mMet G l d kX3_allPoints [.ref R] σ (qI (sumP (RSt D 24).2.2.2.1 D.1.1) σ) := by
  obtain ⟨g0, g1, g2, g3, g4, g5, g6, g7⟩ := sh_run hR
  have n3 := g2 3 (by decide)
  refine mMet.of cm_X3_allPoints rfl (Nat.le_of_ble_eq_true rfl) rfl (fun v1 σ1 h => by rw [h.1]; rfl) ?_
  have hp : ∀ k, k < D.1.1 → σ.1 (R + 5) k = (RSt D 24).2.2.2.1 k := fun k hk => (ho.1.2.2.2.2.2 k hk).2.2.2.1
  refine m_iconst (v := 0) dX3_allPoints_0 (by decide) ?_
  refine m_istore_n (ls1 := [(1, _), (0, _)]) dX3_allPoints_1 (by decide) rfl ?_
  refine m_iconst (v := 0) dX3_allPoints_2 (by decide) ?_
  refine m_istore_n (ls1 := [(2, _), (1, _), (0, _)]) dX3_allPoints_3 (by decide) rfl ?_
  refine down (N := D.1.1) (fun i (b : Int32) => b = sumP (RSt D 24).2.2.2.1 i) (fun i b => mW G l d kX3_allPoints 4 [(2, .int (nI i)), (1, .int b), (0, .ref R)] [] σ _) ?_ ?_ 0 0 (Nat.zero_le _) rfl
  · rintro b hb
    refine m_iload_n dX3_allPoints_4 0 rfl ?_
    refine m_aload_n dX3_allPoints_5 2 rfl ?_
    refine m_getI 5 dX3_allPoints_6 fl_X3_48_3 rfl (by decide) (by first | assumption | rfl) ?_
    refine mW.top ho.1.1 ?_
    refine m_icmp_ge dX3_allPoints_9 29 (by decide) (fun h => ?_) (fun h => ?_)
    · refine m_iload_n dX3_allPoints_29 1 rfl ?_
      exact m_ireturn dX3_allPoints_30 (qI_of hb)
    · exact absurd (Int32.le_refl _) h
  · rintro i b hi hb ih
    have hi8 : i < 8 := by omega
    refine m_iload_n dX3_allPoints_4 0 rfl ?_
    refine m_aload_n dX3_allPoints_5 2 rfl ?_
    refine m_getI 5 dX3_allPoints_6 fl_X3_48_3 rfl (by decide) (by first | assumption | rfl) ?_
    refine mW.top ho.1.1 ?_
    refine m_icmp_ge dX3_allPoints_9 29 (by decide) (fun h => ?_) (fun h => ?_)
    · exact absurd ((nle (by omega) (by omega)).mp h) (by omega)
    clear h
    refine m_iload_n dX3_allPoints_12 1 rfl ?_
    refine m_aload_n dX3_allPoints_13 2 rfl ?_
    refine m_getR 0 (R + 1) dX3_allPoints_14 fl_X3_13_3 rfl (by decide) rfl (by first | assumption | rfl) ?_
    refine m_iconst (v := 3) dX3_allPoints_17 (by decide) ?_
    refine m_aald dX3_allPoints_18 (by first | assumption | rfl) 3 rfl (by first | assumption | omega | decide) ?_
    refine m_iload_n dX3_allPoints_19 0 rfl ?_
    refine m_iald dX3_allPoints_20 (by first | assumption | rfl) i rfl (by first | assumption | omega | decide) ?_
    refine mW.top (hp i hi) ?_
    refine m_iadd dX3_allPoints_21 ?_
    refine m_istore_n (ls1 := [(1, _), (2, _), (0, _)]) dX3_allPoints_22 (by decide) rfl ?_
    refine m_iinc (v := nI (i + 1)) (ls1 := [(2, _), (1, _), (0, _)]) dX3_allPoints_23 1 rfl (nI_1 i) (by decide) rfl ?_
    refine m_goto dX3_allPoints_26 4 (by decide) ?_
    exact ih _ (by rw [sumP, ← hb])
theorem c_wasStruck {R : Nat} (hR : R = 47 ∨ R = 80) (D : Deb) (hn : D.1.1 ≤ 8) (ho : outC R D σ) (k : Nat) (hk : k < D.1.1) : mMet G l d kX3_wasStruck [.ref R, .int (nI k)] σ (qI (bI (decide (0 < (RSt D 24).2.2.2.2.1 k))) σ) := by
  obtain ⟨g0, g1, g2, g3, g4, g5, g6, g7⟩ := sh_run hR
  have n4 := g2 4 (by decide)
  have hk8 : k < 8 := by omega
  have hp : σ.1 (R + 6) k = (RSt D 24).2.2.2.2.1 k := (ho.1.2.2.2.2.2 k hk).2.2.2.2.1
  refine mMet.of cm_X3_wasStruck rfl (Nat.le_of_ble_eq_true rfl) rfl (fun v1 σ1 h => by rw [h.1]; exact bI_nar _) ?_
  refine m_aload_n dX3_wasStruck_0 0 rfl ?_
  refine m_getR 0 (R + 1) dX3_wasStruck_1 fl_X3_13_3 rfl (by decide) rfl (by first | assumption | rfl) ?_
  refine m_iconst (v := 4) dX3_wasStruck_4 (by decide) ?_
  refine m_aald dX3_wasStruck_5 (by first | assumption | rfl) 4 rfl (by first | assumption | omega | decide) ?_
  refine m_iload_n dX3_wasStruck_6 1 rfl ?_
  refine m_iald dX3_wasStruck_7 (by first | assumption | rfl) k rfl (by first | assumption | omega | decide) ?_
  refine mW.top hp ?_
  refine m_if_le dX3_wasStruck_8 15 (by decide) (fun h => ?_) (fun h => ?_)
  · refine m_iconst (v := 0) dX3_wasStruck_15 (by decide) ?_
    exact m_ireturn dX3_wasStruck_16 (qI_of (bI_neg (Int32.not_lt.mpr h)))
  · refine m_iconst (v := 1) dX3_wasStruck_11 (by decide) ?_
    refine m_goto dX3_wasStruck_12 16 (by decide) ?_
    exact m_ireturn dX3_wasStruck_16 (qI_of (bI_pos (Int32.not_le.mp h)))
theorem c_ayesAsTold {C : Nat} (hC : C = 5 ∨ C = 66) (n : Nat) (c : Nat → Nat → Int32) (hn : n ≤ 8) (h3 : σ.1 C 3 = nI n) (hc : crow C n c σ) : mMet G l d kX0_ayesAsTold [.ref C] σ (qI (nI (ayP (fun k => c k 1) n)) σ) := by
  have hC0 := (sh_car0 hC).1
  have hC1 := (sh_car0 hC).2
  refine mMet.of cm_X0_ayesAsTold rfl (Nat.le_of_ble_eq_true rfl) rfl (fun v1 σ1 h => by rw [h.1]; rfl) ?_
  refine m_iconst (v := 0) dX0_ayesAsTold_0 (by decide) ?_
  refine m_istore_n (ls1 := [(1, _), (0, _)]) dX0_ayesAsTold_1 (by decide) rfl ?_
  refine m_iconst (v := 0) dX0_ayesAsTold_2 (by decide) ?_
  refine m_istore_n (ls1 := [(2, _), (1, _), (0, _)]) dX0_ayesAsTold_3 (by decide) rfl ?_
  refine down (N := n) (fun i (a : Nat) => a = ayP (fun k => c k 1) i) (fun i a => mW G l d kX0_ayesAsTold 4 [(2, .int (nI i)), (1, .int (nI a)), (0, .ref C)] [] σ _) ?_ ?_ 0 0 (Nat.zero_le _) rfl
  · rintro a ha
    refine m_iload_n dX0_ayesAsTold_4 0 rfl ?_
    refine m_aload_n dX0_ayesAsTold_5 2 rfl ?_
    refine m_getI 3 dX0_ayesAsTold_6 fl_X0_34_0 rfl (by decide) (by first | assumption | rfl) ?_
    refine mW.top h3 ?_
    refine m_icmp_ge dX0_ayesAsTold_9 33 (by decide) (fun h => ?_) (fun h => ?_)
    · refine m_iload_n dX0_ayesAsTold_33 1 rfl ?_
      exact m_ireturn dX0_ayesAsTold_34 (qI_of (by rw [ha]))
    · exact absurd (Int32.le_refl _) h
  · rintro i a hi ha ih
    have hi8 : i < 8 := by omega
    have hCi := sh_car (k := i) hC hi8
    have e1 : σ.1 (C + 1 + 1 + i) 1 = c i 1 := hc i hi 1 (by decide)
    refine m_iload_n dX0_ayesAsTold_4 0 rfl ?_
    refine m_aload_n dX0_ayesAsTold_5 2 rfl ?_
    refine m_getI 3 dX0_ayesAsTold_6 fl_X0_34_0 rfl (by decide) (by first | assumption | rfl) ?_
    refine mW.top h3 ?_
    refine m_icmp_ge dX0_ayesAsTold_9 33 (by decide) (fun h => ?_) (fun h => ?_)
    · exact absurd ((nle (by omega) (by omega)).mp h) (by omega)
    clear h
    refine m_aload_n dX0_ayesAsTold_12 2 rfl ?_
    refine m_getR 0 (C + 1) dX0_ayesAsTold_13 fl_X0_23_0 rfl (by decide) rfl (by first | assumption | rfl) ?_
    refine m_iload_n dX0_ayesAsTold_16 0 rfl ?_
    refine m_aald dX0_ayesAsTold_17 (by first | assumption | rfl) i rfl (by first | assumption | omega | decide) ?_
    refine m_iconst (v := 1) dX0_ayesAsTold_18 (by decide) ?_
    refine m_iald dX0_ayesAsTold_19 (by first | assumption | rfl) 1 rfl (by first | assumption | omega | decide) ?_
    refine mW.top e1 ?_
    refine m_iconst (v := 2) dX0_ayesAsTold_20 (by decide) ?_
    refine m_icmp_gt dX0_ayesAsTold_21 27 (by decide) (fun z1 => ?_) (fun z1 => ?_)
    · refine m_iinc (v := nI (i + 1)) (ls1 := [(2, _), (1, _), (0, _)]) dX0_ayesAsTold_27 0 rfl (nI_1 i) (by decide) rfl ?_
      refine m_goto dX0_ayesAsTold_30 4 (by decide) ?_
      refine ih a ?_
      show a = ayP (fun k => c k 1) (i + 1)
      rw [ayP, if_pos ((gt2 _).mp z1), Nat.add_zero]; exact ha
    · refine m_iinc (v := nI (a + 1)) (ls1 := [(1, _), (2, _), (0, _)]) dX0_ayesAsTold_24 1 rfl (nI_1 a) (by decide) rfl ?_
      refine m_iinc (v := nI (i + 1)) (ls1 := [(2, _), (1, _), (0, _)]) dX0_ayesAsTold_27 1 rfl (nI_1 i) (by decide) rfl ?_
      refine m_goto dX0_ayesAsTold_30 4 (by decide) ?_
      refine ih (a + 1) ?_
      show a + 1 = ayP (fun k => c k 1) (i + 1)
      rw [ayP, if_neg (fun z => z1 ((gt2 _).mpr z)), ← ha]
theorem c_becomeLike (hd : 1 ≤ d) : mMet G l d kX0_becomeLike [.ref 66, .ref 5] σ (qVP (fun s => s.1 66 3 = σ.1 5 3 ∧ (∀ k, k < 8 → ∀ j, j < 5 → s.1 (68 + k) j = σ.1 (7 + k) j) ∧ fW (fun y z => (y = 66 ∧ z = 3) ∨ (68 ≤ y ∧ y ≤ 75)) σ s)) := by
  refine mMet.of cm_X0_becomeLike rfl (Nat.le_of_ble_eq_true rfl) rfl (fun v1 σ1 h => by rw [h.1]; trivial) ?_
  refine m_aload_n dX0_becomeLike_0 0 rfl ?_
  refine m_aload_n dX0_becomeLike_1 1 rfl ?_
  refine m_getI 3 dX0_becomeLike_2 fl_X0_34_0 rfl (by decide) (by first | assumption | rfl) ?_
  refine m_putI 3 dX0_becomeLike_5 fw_X0_34_0 rfl (by decide) rfl rfl (by first | assumption | rfl) ?_
  refine m_iconst (v := 0) dX0_becomeLike_8 (by decide) ?_
  refine m_istore_n (ls1 := [(2, _), (0, _), (1, _)]) dX0_becomeLike_9 (by decide) rfl ?_
  refine down (N := 8) (fun i (q : mS) => q.1 66 3 = σ.1 5 3 ∧ (∀ k, k < i → ∀ j, j < 5 → q.1 (68 + k) j = σ.1 (7 + k) j) ∧ fW (fun y z => (y = 66 ∧ z = 3) ∨ (68 ≤ y ∧ y ≤ 75)) σ q) (fun i q => mW G l d kX0_becomeLike 10 [(2, .int (nI i)), (0, .ref 66), (1, .ref 5)] [] q _) ?_ ?_ 0 (us σ 66 3 (σ.1 5 3)) (Nat.zero_le _) ⟨by rw [us_at, if_pos ⟨rfl, rfl⟩], fun k hk => absurd hk (Nat.not_lt_zero _), fW.us (by omega) fW.rf⟩
  · rintro q ⟨b0, b1, b2⟩
    refine m_iload_n dX0_becomeLike_10 0 rfl ?_
    refine m_bipush (v := 8) dX0_becomeLike_11 (by decide) ?_
    refine m_icmp_ge dX0_becomeLike_13 40 (by decide) (fun h => ?_) (fun h => ?_)
    · exact m_return dX0_becomeLike_40 ⟨rfl, b0, b1, b2⟩
    · exact absurd (Int32.le_refl _) h
  · rintro i q hi ⟨b0, b1, b2⟩ ih
    have hs1 := sh_car (k := i) (Or.inl rfl) hi
    have hs2 := sh_car (k := i) (Or.inr rfl) hi
    refine m_iload_n dX0_becomeLike_10 0 rfl ?_
    refine m_bipush (v := 8) dX0_becomeLike_11 (by decide) ?_
    refine m_icmp_ge dX0_becomeLike_13 40 (by decide) (fun h => ?_) (fun h => ?_)
    · exact absurd ((nle (a := 8) (by omega) (by omega)).mp h) (by omega)
    clear h
    refine m_aload_n dX0_becomeLike_16 2 rfl ?_
    refine m_getR 0 6 dX0_becomeLike_17 fl_X0_23_0 rfl (by decide) rfl (by first | assumption | rfl) ?_
    refine m_iload_n dX0_becomeLike_20 0 rfl ?_
    refine m_aald dX0_becomeLike_21 (by first | assumption | rfl) i rfl (by first | assumption | omega | decide) ?_
    refine m_iconst (v := 0) dX0_becomeLike_22 (by decide) ?_
    refine m_aload_n dX0_becomeLike_23 1 rfl ?_
    refine m_getR 0 67 dX0_becomeLike_24 fl_X0_23_0 rfl (by decide) rfl (by first | assumption | rfl) ?_
    refine m_iload_n dX0_becomeLike_27 0 rfl ?_
    refine m_aald dX0_becomeLike_28 (by first | assumption | rfl) i rfl (by first | assumption | omega | decide) ?_
    refine m_iconst (v := 0) dX0_becomeLike_29 (by decide) ?_
    refine m_iconst (v := 5) dX0_becomeLike_30 (by decide) ?_
    refine m_copy (x := 7 + i) (y := 68 + i) (sp := 0) (dp := 0) (n := 5) dX0_becomeLike_31 ac_X0_38 ac_nat ac_sta ac_ini hs1 hs2 rfl rfl rfl (by decide) (by decide) (by omega) (Nat.le_of_ble_eq_true rfl) ?_
    refine m_iinc (v := nI (i + 1)) (ls1 := [(2, _), (0, _), (1, _)]) dX0_becomeLike_34 0 rfl (nI_1 i) (by decide) rfl ?_
    refine m_goto dX0_becomeLike_37 10 (by decide) ?_
    have q7 : ∀ z, q.1 (7 + i) z = σ.1 (7 + i) z := fun z => b2.at (by omega)
    refine ih _ ⟨?_, fun k hk j hj => ?_, ⟨b2.1, fun y z => ?_⟩⟩
    · rw [ur_ne (by omega)]; exact b0
    · by_cases e : k = i
      · subst e
        rw [ur_eq, pk_cpy_in (by omega) (by omega), q7]
        show σ.1 (7 + k) (0 + (j - 0)) = _
        rw [Nat.zero_add]; rfl
      · rw [ur_ne (by omega)]; exact b1 k (by omega) j hj
    · by_cases e : y = 68 + i
      · exact Or.inl (by omega)
      · rw [ur_ne e]; exact b2.2 y z
theorem c_lend (ns : Nat) (hns : ns ≤ 12) (h3 : σ.1 15 3 = nI ns) (m k v : Int32) : mMet G l d kX6_lend [.ref 15, .int m, .int k, .int v] σ (qV (us (us (us (us σ (17 + ns) 0 m) (17 + ns) 1 k) (17 + ns) 2 v) 15 3 (nI (ns + 1)))) := by
  have hs := sh_ste (k := ns) (by omega)
  have hn13 : ns < 13 := by omega
  refine mMet.of cm_X6_lend rfl (Nat.le_of_ble_eq_true rfl) rfl (fun v1 σ1 h => by rw [h.1]; trivial) ?_
  refine m_aload_n dX6_lend_0 0 rfl ?_
  refine m_getI 3 dX6_lend_1 fl_X6_23_6 rfl (by decide) (by first | assumption | rfl) ?_
  refine mW.top h3 ?_
  refine m_bipush (v := 12) dX6_lend_4 (by decide) ?_
  refine m_icmp_gt dX6_lend_6 55 (by decide) (fun h => ?_) (fun h => ?_)
  · exact absurd ((nlt (a := 12) (by omega) (by omega)).mp h) (by omega)
  clear h
  refine m_aload_n dX6_lend_9 0 rfl ?_
  refine m_getR 0 16 dX6_lend_10 fl_X6_27_6 rfl (by decide) rfl (by first | assumption | rfl) ?_
  refine m_aload_n dX6_lend_13 0 rfl ?_
  refine m_getI 3 dX6_lend_14 fl_X6_23_6 rfl (by decide) (by first | assumption | rfl) ?_
  refine mW.top h3 ?_
  refine m_aald dX6_lend_17 (by first | assumption | rfl) ns rfl (by first | assumption | omega | decide) ?_
  refine m_iconst (v := 0) dX6_lend_18 (by decide) ?_
  refine m_iload_n dX6_lend_19 1 rfl ?_
  refine m_iast dX6_lend_20 (by first | assumption | rfl) 0 rfl (by first | assumption | omega | decide) ?_
  refine m_aload_n dX6_lend_21 0 rfl ?_
  refine m_getR 0 16 dX6_lend_22 fl_X6_27_6 rfl (by decide) rfl (by first | assumption | rfl) ?_
  refine m_aload_n dX6_lend_25 0 rfl ?_
  refine m_getI 3 dX6_lend_26 fl_X6_23_6 rfl (by decide) (by first | assumption | rfl) ?_
  refine mW.top (w := nI ns) (by rw [us_at, if_neg (by omega)]; exact h3) ?_
  refine m_aald dX6_lend_29 (by first | assumption | rfl) ns rfl (by first | assumption | omega | decide) ?_
  refine m_iconst (v := 1) dX6_lend_30 (by decide) ?_
  refine m_iload_n dX6_lend_31 2 rfl ?_
  refine m_iast dX6_lend_32 (by first | assumption | rfl) 1 rfl (by first | assumption | omega | decide) ?_
  refine m_aload_n dX6_lend_33 0 rfl ?_
  refine m_getR 0 16 dX6_lend_34 fl_X6_27_6 rfl (by decide) rfl (by first | assumption | rfl) ?_
  refine m_aload_n dX6_lend_37 0 rfl ?_
  refine m_getI 3 dX6_lend_38 fl_X6_23_6 rfl (by decide) (by first | assumption | rfl) ?_
  refine mW.top (w := nI ns) (by rw [us_at, if_neg (by omega), us_at, if_neg (by omega)]; exact h3) ?_
  refine m_aald dX6_lend_41 (by first | assumption | rfl) ns rfl (by first | assumption | omega | decide) ?_
  refine m_iconst (v := 2) dX6_lend_42 (by decide) ?_
  refine m_iload_n dX6_lend_43 3 rfl ?_
  refine m_iast dX6_lend_44 (by first | assumption | rfl) 2 rfl (by first | assumption | omega | decide) ?_
  refine m_aload_n dX6_lend_45 0 rfl ?_
  refine m_dup dX6_lend_46 rfl ?_
  refine m_getI 3 dX6_lend_47 fl_X6_23_6 rfl (by decide) (by first | assumption | rfl) ?_
  refine mW.top (w := nI ns) (by rw [us_at, if_neg (by omega), us_at, if_neg (by omega), us_at, if_neg (by omega)]; exact h3) ?_
  refine m_iconst (v := 1) dX6_lend_50 (by decide) ?_
  refine m_iadd dX6_lend_51 ?_
  refine mW.top (nI_1 ns) ?_
  refine m_putI 3 dX6_lend_52 fw_X6_23_6 rfl (by decide) rfl rfl (by first | assumption | rfl) ?_
  exact m_return dX6_lend_55 ⟨rfl, rfl⟩
theorem c_giveBack (ns : Nat) (hns : ns ≤ 12) (h3 : σ.1 15 3 = nI (ns + 1)) : mMet G l d kX6_giveBack [.ref 15] σ (qV (us σ 15 3 (nI ns))) := by
  refine mMet.of cm_X6_giveBack rfl (Nat.le_of_ble_eq_true rfl) rfl (fun v1 σ1 h => by rw [h.1]; trivial) ?_
  refine m_aload_n dX6_giveBack_0 0 rfl ?_
  refine m_getI 3 dX6_giveBack_1 fl_X6_23_6 rfl (by decide) (by first | assumption | rfl) ?_
  refine mW.top h3 ?_
  refine m_if_le dX6_giveBack_4 17 (by decide) (fun h => ?_) (fun h => ?_)
  · exact absurd ((nle (b := 0) (by omega) (by omega)).mp h) (by omega)
  clear h
  refine m_aload_n dX6_giveBack_7 0 rfl ?_
  refine m_dup dX6_giveBack_8 rfl ?_
  refine m_getI 3 dX6_giveBack_9 fl_X6_23_6 rfl (by decide) (by first | assumption | rfl) ?_
  refine mW.top h3 ?_
  refine m_iconst (v := 1) dX6_giveBack_12 (by decide) ?_
  refine m_isub dX6_giveBack_13 ?_
  refine mW.top (w := nI ns) (by rw [show (1 : Int32) = nI 1 from rfl, pk_sub (by omega)]; rfl) ?_
  refine m_putI 3 dX6_giveBack_14 fw_X6_23_6 rfl (by decide) rfl rfl (by first | assumption | rfl) ?_
  exact m_return dX6_giveBack_17 ⟨rfl, rfl⟩
theorem c_comeOutIn {R : Nat} (hd : 1 ≤ d) (hR : R = 47 ∨ R = 80) (D : Deb) (hn : D.1.1 ≤ 8) (ho : outC R D σ) (z : Nat) (w : Nat → Nat → Int32) (hw : serow z w σ) : mMet G l d kX5_comeOutIn [.ref 34, .ref R] σ (qI (bI (agP D w z)) σ) := by
  obtain ⟨g0, g1, g2, g3, g4, g5, g6, g7⟩ := sh_run hR
  have hz8 := hw.2.1
  refine mMet.of cm_X5_comeOutIn rfl (Nat.le_of_ble_eq_true rfl) rfl (fun v1 σ1 h => by rw [h.1]; exact bI_nar _) ?_
  refine m_iconst (v := 0) dX5_comeOutIn_0 (by decide) ?_
  refine m_istore_n (ls1 := [(2, _), (0, _), (1, _)]) dX5_comeOutIn_1 (by decide) rfl ?_
  refine down (N := z) (fun i (_ : Unit) => agP D w i = true) (fun i _ => mW G l d kX5_comeOutIn 2 [(2, .int (nI i)), (0, .ref 34), (1, .ref R)] [] σ _) ?_ ?_ 0 () (Nat.zero_le _) rfl
  · rintro - hf
    refine m_iload_n dX5_comeOutIn_2 0 rfl ?_
    refine m_aload_n dX5_comeOutIn_3 1 rfl ?_
    refine m_getI 4 dX5_comeOutIn_4 fl_X5_24_5 rfl (by decide) (by first | assumption | rfl) ?_
    refine mW.top hw.1 ?_
    refine m_icmp_ge dX5_comeOutIn_7 83 (by decide) (fun h => ?_) (fun h => ?_)
    · refine m_iconst (v := 1) dX5_comeOutIn_83 (by decide) ?_
      exact m_ireturn dX5_comeOutIn_84 (qI_of (by rw [hf]; rfl))
    · exact absurd (Int32.le_refl _) h
  · rintro i - hi hf ih
    obtain ⟨w0, w1, w2, w3, ⟨t, ht, et⟩, ⟨k, hk, ek⟩⟩ := hw.2.2 i hi
    have hi8 : i < 8 := by omega
    have w0' := w0.trans et
    have w1' := w1.trans ek
    have ct : (nI t).toNatClampNeg = t := nI_clamp (by omega)
    have ck : (nI k).toNatClampNeg = k := nI_clamp (by omega)
    have bad : ¬ (w i 1 < nI D.1.1 ∧ (RSt D ((w i 0).toNatClampNeg + 1)).1 (w i 1).toNatClampNeg = w i 2 ∧ (RSt D ((w i 0).toNatClampNeg + 1)).2.1 (w i 1).toNatClampNeg = w i 3) → mW G l d kX5_comeOutIn 75 [(2, .int (nI i)), (0, .ref 34), (1, .ref R)] [] σ (qI (bI (agP D w z)) σ) := by
      intro q
      refine m_iconst (v := 0) dX5_comeOutIn_75 (by decide) ?_
      refine m_ireturn dX5_comeOutIn_76 (qI_of ?_)
      rw [agP_no D w (i := i + 1) (by rw [agP, decide_eq_false q, Bool.and_false]) z (by omega)]; rfl
    refine m_iload_n dX5_comeOutIn_2 0 rfl ?_
    refine m_aload_n dX5_comeOutIn_3 1 rfl ?_
    refine m_getI 4 dX5_comeOutIn_4 fl_X5_24_5 rfl (by decide) (by first | assumption | rfl) ?_
    refine mW.top hw.1 ?_
    refine m_icmp_ge dX5_comeOutIn_7 83 (by decide) (fun h => ?_) (fun h => ?_)
    · exact absurd ((nle (by omega) (by omega)).mp h) (by omega)
    clear h
    refine m_aload_n dX5_comeOutIn_10 1 rfl ?_
    refine m_getR 1 36 dX5_comeOutIn_11 fl_X5_15_5 rfl (by decide) rfl (by first | assumption | rfl) ?_
    refine m_iload_n dX5_comeOutIn_14 0 rfl ?_
    refine m_iald dX5_comeOutIn_15 (by first | assumption | rfl) i rfl (by first | assumption | omega | decide) ?_
    refine mW.top w1' ?_
    refine m_aload_n dX5_comeOutIn_16 2 rfl ?_
    refine m_getI 5 dX5_comeOutIn_17 fl_X5_28_3 rfl (by decide) (by first | assumption | rfl) ?_
    refine mW.top ho.1.1 ?_
    refine m_icmp_ge dX5_comeOutIn_20 75 (by decide) (fun z1 => ?_) (fun z1 => ?_)
    · refine bad (fun q => ?_)
      rw [ek] at q
      exact absurd q.1 (Int32.not_lt.mpr z1)
    have hkn : k < D.1.1 := Nat.lt_of_not_le (fun q => z1 ((nle (by omega) (by omega)).mpr q))
    refine m_aload_n dX5_comeOutIn_23 2 rfl ?_
    refine m_aload_n dX5_comeOutIn_24 1 rfl ?_
    refine m_getR 0 35 dX5_comeOutIn_25 fl_X5_9_5 rfl (by decide) rfl (by first | assumption | rfl) ?_
    refine m_iload_n dX5_comeOutIn_28 0 rfl ?_
    refine m_iald dX5_comeOutIn_29 (by first | assumption | rfl) i rfl (by first | assumption | omega | decide) ?_
    refine mW.top w0' ?_
    refine m_aload_n dX5_comeOutIn_30 1 rfl ?_
    refine m_getR 1 36 dX5_comeOutIn_31 fl_X5_15_5 rfl (by decide) rfl (by first | assumption | rfl) ?_
    refine m_iload_n dX5_comeOutIn_34 0 rfl ?_
    refine m_iald dX5_comeOutIn_35 (by first | assumption | rfl) i rfl (by first | assumption | omega | decide) ?_
    refine mW.top w1' ?_
    refine m_iconst (v := 0) dX5_comeOutIn_36 (by decide) ?_
    refine m_callV (As := [_, _, _]) dX5_comeOutIn_37 cv_X5_31 (by first | assumption | rfl) (by decide) (by omega) rfl rfl (Nat.le_of_ble_eq_true rfl) (c_behindD (d := d - 1) hR D hn ho t k 0 ht hkn (by decide)) (fun v1 σ1 hv1 => ?_)
    refine m_qI hv1 ?_
    clear hv1 v1 σ1
    refine m_aload_n dX5_comeOutIn_40 1 rfl ?_
    refine m_getR 2 37 dX5_comeOutIn_41 fl_X5_18_5 rfl (by decide) rfl (by first | assumption | rfl) ?_
    refine m_iload_n dX5_comeOutIn_44 0 rfl ?_
    refine m_iald dX5_comeOutIn_45 (by first | assumption | rfl) i rfl (by first | assumption | omega | decide) ?_
    refine mW.top w2 ?_
    refine m_icmp_ne dX5_comeOutIn_46 75 (by decide) (fun z2 => ?_) (fun z2 => ?_)
    · refine bad (fun q => ?_)
      rw [et, ek, ct, ck] at q
      exact z2 q.2.1
    refine m_aload_n dX5_comeOutIn_49 2 rfl ?_
    refine m_aload_n dX5_comeOutIn_50 1 rfl ?_
    refine m_getR 0 35 dX5_comeOutIn_51 fl_X5_9_5 rfl (by decide) rfl (by first | assumption | rfl) ?_
    refine m_iload_n dX5_comeOutIn_54 0 rfl ?_
    refine m_iald dX5_comeOutIn_55 (by first | assumption | rfl) i rfl (by first | assumption | omega | decide) ?_
    refine mW.top w0' ?_
    refine m_aload_n dX5_comeOutIn_56 1 rfl ?_
    refine m_getR 1 36 dX5_comeOutIn_57 fl_X5_15_5 rfl (by decide) rfl (by first | assumption | rfl) ?_
    refine m_iload_n dX5_comeOutIn_60 0 rfl ?_
    refine m_iald dX5_comeOutIn_61 (by first | assumption | rfl) i rfl (by first | assumption | omega | decide) ?_
    refine mW.top w1' ?_
    refine m_iconst (v := 1) dX5_comeOutIn_62 (by decide) ?_
    refine m_callV (As := [_, _, _]) dX5_comeOutIn_63 cv_X5_31 (by first | assumption | rfl) (by decide) (by omega) rfl rfl (Nat.le_of_ble_eq_true rfl) (c_behindD (d := d - 1) hR D hn ho t k 1 ht hkn (by decide)) (fun v1 σ1 hv1 => ?_)
    refine m_qI hv1 ?_
    clear hv1 v1 σ1
    refine m_aload_n dX5_comeOutIn_66 1 rfl ?_
    refine m_getR 3 38 dX5_comeOutIn_67 fl_X5_21_5 rfl (by decide) rfl (by first | assumption | rfl) ?_
    refine m_iload_n dX5_comeOutIn_70 0 rfl ?_
    refine m_iald dX5_comeOutIn_71 (by first | assumption | rfl) i rfl (by first | assumption | omega | decide) ?_
    refine mW.top w3 ?_
    refine m_icmp_eq dX5_comeOutIn_72 77 (by decide) (fun z3 => ?_) (fun z3 => ?_)
    rotate_left
    · refine bad (fun q => ?_)
      rw [et, ek, ct, ck] at q
      exact z3 q.2.2
    refine m_iinc (v := nI (i + 1)) (ls1 := [(2, _), (0, _), (1, _)]) dX5_comeOutIn_77 0 rfl (nI_1 i) (by decide) rfl ?_
    refine m_goto dX5_comeOutIn_80 2 (by decide) ?_
    refine ih () ?_
    have z4 : nI k < nI D.1.1 ∧ (RSt D (t + 1)).1 k = w i 2 ∧ (RSt D (t + 1)).2.1 k = w i 3 := ⟨(nlt (by omega) (by omega)).mpr hkn, z2, z3⟩
    rw [agP, hf, et, ek, ct, ck, decide_eq_true z4]; rfl
theorem c_evAppend {E : Nat} (hE : E = 30 ∨ E = 76) (e : Nat) (he : e < 8) (h3 : σ.1 E 3 = nI e) (k m c : Int32) : mMet G l d kX1_append [.ref E, .int k, .int m, .int c] σ (qV (us (us (us (us σ (E + 1) e k) (E + 2) e m) (E + 3) e c) E 3 (nI (e + 1)))) := by
  obtain ⟨e0, e1, e2, e3⟩ := sh_ev hE
  refine mMet.of cm_X1_append rfl (Nat.le_of_ble_eq_true rfl) rfl (fun v1 σ1 h => by rw [h.1]; trivial) ?_
  refine m_aload_n dX1_append_0 0 rfl ?_
  refine m_getI 3 dX1_append_1 fl_X1_25_1 rfl (by decide) (by first | assumption | rfl) ?_
  refine mW.top h3 ?_
  refine m_bipush (v := 8) dX1_append_4 (by decide) ?_
  refine m_icmp_ge dX1_append_6 49 (by decide) (fun h => ?_) (fun h => ?_)
  · exact absurd ((nle (a := 8) (by omega) (by omega)).mp h) (by omega)
  clear h
  refine m_aload_n dX1_append_9 0 rfl ?_
  refine m_getR 0 (E + 1) dX1_append_10 fl_X1_9_1 rfl (by decide) rfl (by first | assumption | rfl) ?_
  refine m_aload_n dX1_append_13 0 rfl ?_
  refine m_getI 3 dX1_append_14 fl_X1_25_1 rfl (by decide) (by first | assumption | rfl) ?_
  refine mW.top h3 ?_
  refine m_iload_n dX1_append_17 1 rfl ?_
  refine m_iast dX1_append_18 (by first | assumption | rfl) e rfl (by first | assumption | omega | decide) ?_
  refine m_aload_n dX1_append_19 0 rfl ?_
  refine m_getR 1 (E + 2) dX1_append_20 fl_X1_15_1 rfl (by decide) rfl (by first | assumption | rfl) ?_
  refine m_aload_n dX1_append_23 0 rfl ?_
  refine m_getI 3 dX1_append_24 fl_X1_25_1 rfl (by decide) (by first | assumption | rfl) ?_
  refine mW.top (w := nI e) (by rw [us_at, if_neg (by omega)]; exact h3) ?_
  refine m_iload_n dX1_append_27 2 rfl ?_
  refine m_iast dX1_append_28 (by first | assumption | rfl) e rfl (by first | assumption | omega | decide) ?_
  refine m_aload_n dX1_append_29 0 rfl ?_
  refine m_getR 2 (E + 3) dX1_append_30 fl_X1_18_1 rfl (by decide) rfl (by first | assumption | rfl) ?_
  refine m_aload_n dX1_append_33 0 rfl ?_
  refine m_getI 3 dX1_append_34 fl_X1_25_1 rfl (by decide) (by first | assumption | rfl) ?_
  refine mW.top (w := nI e) (by rw [us_at, if_neg (by omega), us_at, if_neg (by omega)]; exact h3) ?_
  refine m_iload_n dX1_append_37 3 rfl ?_
  refine m_iast dX1_append_38 (by first | assumption | rfl) e rfl (by first | assumption | omega | decide) ?_
  refine m_aload_n dX1_append_39 0 rfl ?_
  refine m_dup dX1_append_40 rfl ?_
  refine m_getI 3 dX1_append_41 fl_X1_25_1 rfl (by decide) (by first | assumption | rfl) ?_
  refine mW.top (w := nI e) (by rw [us_at, if_neg (by omega), us_at, if_neg (by omega), us_at, if_neg (by omega)]; exact h3) ?_
  refine m_iconst (v := 1) dX1_append_44 (by decide) ?_
  refine m_iadd dX1_append_45 ?_
  refine mW.top (nI_1 e) ?_
  refine m_putI 3 dX1_append_46 fw_X1_25_1 rfl (by decide) rfl rfl (by first | assumption | rfl) ?_
  exact m_return dX1_append_49 ⟨rfl, rfl⟩
theorem c_seAppend (z : Nat) (hz : z < 8) (h4 : σ.1 34 4 = nI z) (m c x y : Int32) : mMet G l d kX5_append [.ref 34, .int m, .int c, .int x, .int y] σ (qV (us (us (us (us (us σ 35 z m) 36 z c) 37 z x) 38 z y) 34 4 (nI (z + 1)))) := by
  refine mMet.of cm_X5_append rfl (Nat.le_of_ble_eq_true rfl) rfl (fun v1 σ1 h => by rw [h.1]; trivial) ?_
  refine m_aload_n dX5_append_0 0 rfl ?_
  refine m_getI 4 dX5_append_1 fl_X5_24_5 rfl (by decide) (by first | assumption | rfl) ?_
  refine mW.top h4 ?_
  refine m_bipush (v := 8) dX5_append_4 (by decide) ?_
  refine m_icmp_ge dX5_append_6 60 (by decide) (fun h => ?_) (fun h => ?_)
  · exact absurd ((nle (a := 8) (by omega) (by omega)).mp h) (by omega)
  clear h
  refine m_aload_n dX5_append_9 0 rfl ?_
  refine m_getR 0 35 dX5_append_10 fl_X5_9_5 rfl (by decide) rfl (by first | assumption | rfl) ?_
  refine m_aload_n dX5_append_13 0 rfl ?_
  refine m_getI 4 dX5_append_14 fl_X5_24_5 rfl (by decide) (by first | assumption | rfl) ?_
  refine mW.top h4 ?_
  refine m_iload_n dX5_append_17 1 rfl ?_
  refine m_iast dX5_append_18 (by first | assumption | rfl) z rfl (by first | assumption | omega | decide) ?_
  refine m_aload_n dX5_append_19 0 rfl ?_
  refine m_getR 1 36 dX5_append_20 fl_X5_15_5 rfl (by decide) rfl (by first | assumption | rfl) ?_
  refine m_aload_n dX5_append_23 0 rfl ?_
  refine m_getI 4 dX5_append_24 fl_X5_24_5 rfl (by decide) (by first | assumption | rfl) ?_
  refine mW.top (w := nI z) (by simp [us_at]; exact h4) ?_
  refine m_iload_n dX5_append_27 2 rfl ?_
  refine m_iast dX5_append_28 (by first | assumption | rfl) z rfl (by first | assumption | omega | decide) ?_
  refine m_aload_n dX5_append_29 0 rfl ?_
  refine m_getR 2 37 dX5_append_30 fl_X5_18_5 rfl (by decide) rfl (by first | assumption | rfl) ?_
  refine m_aload_n dX5_append_33 0 rfl ?_
  refine m_getI 4 dX5_append_34 fl_X5_24_5 rfl (by decide) (by first | assumption | rfl) ?_
  refine mW.top (w := nI z) (by simp [us_at]; exact h4) ?_
  refine m_iload_n dX5_append_37 3 rfl ?_
  refine m_iast dX5_append_38 (by first | assumption | rfl) z rfl (by first | assumption | omega | decide) ?_
  refine m_aload_n dX5_append_39 0 rfl ?_
  refine m_getR 3 38 dX5_append_40 fl_X5_21_5 rfl (by decide) rfl (by first | assumption | rfl) ?_
  refine m_aload_n dX5_append_43 0 rfl ?_
  refine m_getI 4 dX5_append_44 fl_X5_24_5 rfl (by decide) (by first | assumption | rfl) ?_
  refine mW.top (w := nI z) (by simp [us_at]; exact h4) ?_
  refine m_iload dX5_append_47 4 rfl ?_
  refine m_iast dX5_append_49 (by first | assumption | rfl) z rfl (by first | assumption | omega | decide) ?_
  refine m_aload_n dX5_append_50 0 rfl ?_
  refine m_dup dX5_append_51 rfl ?_
  refine m_getI 4 dX5_append_52 fl_X5_24_5 rfl (by decide) (by first | assumption | rfl) ?_
  refine mW.top (w := nI z) (by simp [us_at]; exact h4) ?_
  refine m_iconst (v := 1) dX5_append_55 (by decide) ?_
  refine m_iadd dX5_append_56 ?_
  refine mW.top (nI_1 z) ?_
  refine m_putI 4 dX5_append_57 fw_X5_24_5 rfl (by decide) rfl rfl (by first | assumption | rfl) ?_
  exact m_return dX5_append_60 ⟨rfl, rfl⟩
theorem c_txAppend {T : Nat} (hT : T = 1 ∨ T = 3) (L : Nat) (hL : L < 47) (h1 : σ.1 T 1 = nI L) (b : Int32) : mMet G l d kX7_append [.ref T, .int b] σ (qV (us (us σ (T + 1) L b) T 1 (nI (L + 1)))) := by
  have s0 : mshp T = (7, 2) := by rcases hT with rfl | rfl <;> rfl
  have s1 : mshp (T + 1) = (11, 47) := by rcases hT with rfl | rfl <;> rfl
  refine mMet.of cm_X7_append rfl (Nat.le_of_ble_eq_true rfl) rfl (fun v1 σ1 h => by rw [h.1]; trivial) ?_
  refine m_aload_n dX7_append_0 0 rfl ?_
  refine m_getI 1 dX7_append_1 fl_X7_15_7 rfl (by decide) (by first | assumption | rfl) ?_
  refine mW.top h1 ?_
  refine m_bipush (v := 47) dX7_append_4 (by decide) ?_
  refine m_icmp_ge dX7_append_6 29 (by decide) (fun h => ?_) (fun h => ?_)
  · exact absurd ((nle (a := 47) (by omega) (by omega)).mp h) (by omega)
  clear h
  refine m_aload_n dX7_append_9 0 rfl ?_
  refine m_getR 0 (T + 1) dX7_append_10 fl_X7_9_7 rfl (by decide) rfl (by first | assumption | rfl) ?_
  refine m_aload_n dX7_append_13 0 rfl ?_
  refine m_getI 1 dX7_append_14 fl_X7_15_7 rfl (by decide) (by first | assumption | rfl) ?_
  refine mW.top h1 ?_
  refine m_iload_n dX7_append_17 1 rfl ?_
  refine m_iast dX7_append_18 (by first | assumption | rfl) L rfl (by first | assumption | omega | decide) ?_
  refine m_aload_n dX7_append_19 0 rfl ?_
  refine m_dup dX7_append_20 rfl ?_
  refine m_getI 1 dX7_append_21 fl_X7_15_7 rfl (by decide) (by first | assumption | rfl) ?_
  refine mW.top (w := nI L) (by rw [us_at, if_neg (by omega)]; exact h1) ?_
  refine m_iconst (v := 1) dX7_append_24 (by decide) ?_
  refine m_iadd dX7_append_25 ?_
  refine mW.top (nI_1 L) ?_
  refine m_putI 1 dX7_append_26 fw_X7_15_7 rfl (by decide) rfl rfl (by first | assumption | rfl) ?_
  exact m_return dX7_append_29 ⟨rfl, rfl⟩
theorem c_fits (hd : 1 ≤ d) (k m c : Int32) : mMet G l d kX1_fits [.int k, .int m, .int c] σ (qI (bI (decide (fitE k m c))) σ) := by
  refine mMet.of cm_X1_fits rfl (Nat.le_of_ble_eq_true rfl) rfl (fun v1 σ1 h => by rw [h.1]; exact bI_nar _) ?_
  refine m_iload_n dX1_fits_0 0 rfl ?_
  refine m_iconst (v := 2) dX1_fits_1 (by decide) ?_
  refine m_callS (As := [_, _]) dX1_fits_2 cs_X1_21 (by omega) rfl rfl (Nat.le_of_ble_eq_true rfl) (c_within (d := d - 1) k 2) (fun v1 σ1 hv1 => ?_)
  refine m_qI hv1 ?_
  clear hv1 v1 σ1
  refine m_if_eq dX1_fits_5 30 (by decide) (fun z1 => ?_) (fun z1 => ?_)
  · refine m_iconst (v := 0) dX1_fits_30 (by decide) ?_
    exact m_ireturn dX1_fits_31 (qI_of (bI_neg (fun q => bI0 z1 q.1)))
  refine m_iload_n dX1_fits_8 1 rfl ?_
  refine m_bipush (v := 24) dX1_fits_9 (by decide) ?_
  refine m_callS (As := [_, _]) dX1_fits_11 cs_X1_21 (by omega) rfl rfl (Nat.le_of_ble_eq_true rfl) (c_within (d := d - 1) m 24) (fun v1 σ1 hv1 => ?_)
  refine m_qI hv1 ?_
  clear hv1 v1 σ1
  refine m_if_eq dX1_fits_14 30 (by decide) (fun z2 => ?_) (fun z2 => ?_)
  · refine m_iconst (v := 0) dX1_fits_30 (by decide) ?_
    exact m_ireturn dX1_fits_31 (qI_of (bI_neg (fun q => bI0 z2 q.2.1)))
  refine m_iload_n dX1_fits_17 2 rfl ?_
  refine m_bipush (v := 8) dX1_fits_18 (by decide) ?_
  refine m_callS (As := [_, _]) dX1_fits_20 cs_X1_21 (by omega) rfl rfl (Nat.le_of_ble_eq_true rfl) (c_within (d := d - 1) c 8) (fun v1 σ1 hv1 => ?_)
  refine m_qI hv1 ?_
  clear hv1 v1 σ1
  refine m_if_eq dX1_fits_23 30 (by decide) (fun z3 => ?_) (fun z3 => ?_)
  · refine m_iconst (v := 0) dX1_fits_30 (by decide) ?_
    exact m_ireturn dX1_fits_31 (qI_of (bI_neg (fun q => bI0 z3 q.2.2)))
  refine m_iconst (v := 1) dX1_fits_26 (by decide) ?_
  refine m_goto dX1_fits_27 31 (by decide) ?_
  exact m_ireturn dX1_fits_31 (qI_of (bI_pos (And.intro (bI1 z1) (And.intro (bI1 z2) (bI1 z3)))))
end CQ


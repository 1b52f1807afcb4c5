section LF
variable {G : mG} {l : Launch} {d : Nat} {σ : mS}
theorem dX10_within_0 : decode cX10_within 0 = .ok (.iload_n 0, 1) := by decide +kernel
theorem dX10_within_1 : decode cX10_within 1 = .ok (.ifCond .lt 12, 3) := by decide +kernel
theorem dX10_within_4 : decode cX10_within 4 = .ok (.iload_n 0, 1) := by decide +kernel
theorem dX10_within_5 : decode cX10_within 5 = .ok (.iload_n 1, 1) := by decide +kernel
theorem dX10_within_6 : decode cX10_within 6 = .ok (.if_icmp .ge 7, 3) := by decide +kernel
theorem dX10_within_9 : decode cX10_within 9 = .ok (.iconst 1, 1) := by decide +kernel
theorem dX10_within_10 : decode cX10_within 10 = .ok (.goto 4, 3) := by decide +kernel
theorem dX10_within_13 : decode cX10_within 13 = .ok (.iconst 0, 1) := by decide +kernel
theorem dX10_within_14 : decode cX10_within 14 = .ok (.ireturn, 1) := by decide +kernel
theorem dX10_onFloor_0 : decode cX10_onFloor 0 = .ok (.iload_n 0, 1) := by decide +kernel
theorem dX10_onFloor_1 : decode cX10_onFloor 1 = .ok (.ifCond .lt 23, 3) := by decide +kernel
theorem dX10_onFloor_4 : decode cX10_onFloor 4 = .ok (.iload_n 0, 1) := by decide +kernel
theorem dX10_onFloor_5 : decode cX10_onFloor 5 = .ok (.bipush 6, 2) := by decide +kernel
theorem dX10_onFloor_7 : decode cX10_onFloor 7 = .ok (.if_icmp .ge 17, 3) := by decide +kernel
theorem dX10_onFloor_10 : decode cX10_onFloor 10 = .ok (.iload_n 1, 1) := by decide +kernel
theorem dX10_onFloor_11 : decode cX10_onFloor 11 = .ok (.ifCond .lt 13, 3) := by decide +kernel
theorem dX10_onFloor_14 : decode cX10_onFloor 14 = .ok (.iload_n 1, 1) := by decide +kernel
theorem dX10_onFloor_15 : decode cX10_onFloor 15 = .ok (.bipush 6, 2) := by decide +kernel
theorem dX10_onFloor_17 : decode cX10_onFloor 17 = .ok (.if_icmp .ge 7, 3) := by decide +kernel
theorem dX10_onFloor_20 : decode cX10_onFloor 20 = .ok (.iconst 1, 1) := by decide +kernel
theorem dX10_onFloor_21 : decode cX10_onFloor 21 = .ok (.goto 4, 3) := by decide +kernel
theorem dX10_onFloor_24 : decode cX10_onFloor 24 = .ok (.iconst 0, 1) := by decide +kernel
theorem dX10_onFloor_25 : decode cX10_onFloor 25 = .ok (.ireturn, 1) := by decide +kernel
theorem dX3_behind_0 : decode cX3_behind 0 = .ok (.aload_n 0, 1) := by decide +kernel
theorem dX3_behind_1 : decode cX3_behind 1 = .ok (.getfield 16, 3) := by decide +kernel
theorem dX3_behind_4 : decode cX3_behind 4 = .ok (.iload_n 3, 1) := by decide +kernel
theorem dX3_behind_5 : decode cX3_behind 5 = .ok (.aaload, 1) := by decide +kernel
theorem dX3_behind_6 : decode cX3_behind 6 = .ok (.iload_n 1, 1) := by decide +kernel
theorem dX3_behind_7 : decode cX3_behind 7 = .ok (.bipush 8, 2) := by decide +kernel
theorem dX3_behind_9 : decode cX3_behind 9 = .ok (.imul, 1) := by decide +kernel
theorem dX3_behind_10 : decode cX3_behind 10 = .ok (.iload_n 2, 1) := by decide +kernel
theorem dX3_behind_11 : decode cX3_behind 11 = .ok (.iadd, 1) := by decide +kernel
theorem dX3_behind_12 : decode cX3_behind 12 = .ok (.iaload, 1) := by decide +kernel
theorem dX3_behind_13 : decode cX3_behind 13 = .ok (.ireturn, 1) := by decide +kernel
theorem dX11_in_0 : decode cX11_in 0 = .ok (.iload_n 0, 1) := by decide +kernel
theorem dX11_in_1 : decode cX11_in 1 = .ok (.iload_n 1, 1) := by decide +kernel
theorem dX11_in_2 : decode cX11_in 2 = .ok (.if_icmp .lt 12, 3) := by decide +kernel
theorem dX11_in_5 : decode cX11_in 5 = .ok (.iload_n 0, 1) := by decide +kernel
theorem dX11_in_6 : decode cX11_in 6 = .ok (.iload_n 2, 1) := by decide +kernel
theorem dX11_in_7 : decode cX11_in 7 = .ok (.if_icmp .gt 7, 3) := by decide +kernel
theorem dX11_in_10 : decode cX11_in 10 = .ok (.iconst 1, 1) := by decide +kernel
theorem dX11_in_11 : decode cX11_in 11 = .ok (.goto 4, 3) := by decide +kernel
theorem dX11_in_14 : decode cX11_in 14 = .ok (.iconst 0, 1) := by decide +kernel
theorem dX11_in_15 : decode cX11_in 15 = .ok (.ireturn, 1) := by decide +kernel
theorem dX11_isIn_0 : decode cX11_isIn 0 = .ok (.iload_n 0, 1) := by decide +kernel
theorem dX11_isIn_1 : decode cX11_isIn 1 = .ok (.iload_n 1, 1) := by decide +kernel
theorem dX11_isIn_2 : decode cX11_isIn 2 = .ok (.ishr, 1) := by decide +kernel
theorem dX11_isIn_3 : decode cX11_isIn 3 = .ok (.iconst 1, 1) := by decide +kernel
theorem dX11_isIn_4 : decode cX11_isIn 4 = .ok (.iand, 1) := by decide +kernel
theorem dX11_isIn_5 : decode cX11_isIn 5 = .ok (.iconst 1, 1) := by decide +kernel
theorem dX11_isIn_6 : decode cX11_isIn 6 = .ok (.if_icmp .ne 7, 3) := by decide +kernel
theorem dX11_isIn_9 : decode cX11_isIn 9 = .ok (.iconst 1, 1) := by decide +kernel
theorem dX11_isIn_10 : decode cX11_isIn 10 = .ok (.goto 4, 3) := by decide +kernel
theorem dX11_isIn_13 : decode cX11_isIn 13 = .ok (.iconst 0, 1) := by decide +kernel
theorem dX11_isIn_14 : decode cX11_isIn 14 = .ok (.ireturn, 1) := by decide +kernel
theorem dX11_isText_0 : decode cX11_isText 0 = .ok (.iload_n 0, 1) := by decide +kernel
theorem dX11_isText_1 : decode cX11_isText 1 = .ok (.iconst 0, 1) := by decide +kernel
theorem dX11_isText_2 : decode cX11_isText 2 = .ok (.iconst 1, 1) := by decide +kernel
theorem dX11_isText_3 : decode cX11_isText 3 = .ok (.invokestatic 136, 3) := by decide +kernel
theorem dX11_isText_6 : decode cX11_isText 6 = .ok (.ireturn, 1) := by decide +kernel
theorem dX11_isMoment_0 : decode cX11_isMoment 0 = .ok (.iload_n 0, 1) := by decide +kernel
theorem dX11_isMoment_1 : decode cX11_isMoment 1 = .ok (.iconst 0, 1) := by decide +kernel
theorem dX11_isMoment_2 : decode cX11_isMoment 2 = .ok (.bipush 23, 2) := by decide +kernel
theorem dX11_isMoment_4 : decode cX11_isMoment 4 = .ok (.invokestatic 136, 3) := by decide +kernel
theorem dX11_isMoment_7 : decode cX11_isMoment 7 = .ok (.ireturn, 1) := by decide +kernel
theorem dX11_isTwo_0 : decode cX11_isTwo 0 = .ok (.iload_n 0, 1) := by decide +kernel
theorem dX11_isTwo_1 : decode cX11_isTwo 1 = .ok (.iconst 0, 1) := by decide +kernel
theorem dX11_isTwo_2 : decode cX11_isTwo 2 = .ok (.iconst 1, 1) := by decide +kernel
theorem dX11_isTwo_3 : decode cX11_isTwo 3 = .ok (.invokestatic 136, 3) := by decide +kernel
theorem dX11_isTwo_6 : decode cX11_isTwo 6 = .ok (.ireturn, 1) := by decide +kernel
theorem dX11_isThree_0 : decode cX11_isThree 0 = .ok (.iload_n 0, 1) := by decide +kernel
theorem dX11_isThree_1 : decode cX11_isThree 1 = .ok (.iconst 0, 1) := by decide +kernel
theorem dX11_isThree_2 : decode cX11_isThree 2 = .ok (.iconst 2, 1) := by decide +kernel
theorem dX11_isThree_3 : decode cX11_isThree 3 = .ok (.invokestatic 136, 3) := by decide +kernel
theorem dX11_isThree_6 : decode cX11_isThree 6 = .ok (.ireturn, 1) := by decide +kernel
theorem dX11_isEight_0 : decode cX11_isEight 0 = .ok (.iload_n 0, 1) := by decide +kernel
theorem dX11_isEight_1 : decode cX11_isEight 1 = .ok (.iconst 0, 1) := by decide +kernel
theorem dX11_isEight_2 : decode cX11_isEight 2 = .ok (.bipush 7, 2) := by decide +kernel
theorem dX11_isEight_4 : decode cX11_isEight 4 = .ok (.invokestatic 136, 3) := by decide +kernel
theorem dX11_isEight_7 : decode cX11_isEight 7 = .ok (.ireturn, 1) := by decide +kernel
theorem dX11_isSix_0 : decode cX11_isSix 0 = .ok (.iload_n 0, 1) := by decide +kernel
theorem dX11_isSix_1 : decode cX11_isSix 1 = .ok (.iconst 0, 1) := by decide +kernel
theorem dX11_isSix_2 : decode cX11_isSix 2 = .ok (.iconst 5, 1) := by decide +kernel
theorem dX11_isSix_3 : decode cX11_isSix 3 = .ok (.invokestatic 136, 3) := by decide +kernel
theorem dX11_isSix_6 : decode cX11_isSix 6 = .ok (.ireturn, 1) := by decide +kernel
theorem dX11_isSheet_0 : decode cX11_isSheet 0 = .ok (.iload_n 0, 1) := by decide +kernel
theorem dX11_isSheet_1 : decode cX11_isSheet 1 = .ok (.iconst 0, 1) := by decide +kernel
theorem dX11_isSheet_2 : decode cX11_isSheet 2 = .ok (.iconst 3, 1) := by decide +kernel
theorem dX11_isSheet_3 : decode cX11_isSheet 3 = .ok (.invokestatic 136, 3) := by decide +kernel
theorem dX11_isSheet_6 : decode cX11_isSheet 6 = .ok (.ireturn, 1) := by decide +kernel
theorem dX11_no_0 : decode cX11_no 0 = .ok (.ldc2_w 134, 3) := by decide +kernel
theorem dX11_no_3 : decode cX11_no 3 = .ok (.iload_n 0, 1) := by decide +kernel
theorem dX11_no_4 : decode cX11_no 4 = .ok (.i2l, 1) := by decide +kernel
theorem dX11_no_5 : decode cX11_no 5 = .ok (.lsub, 1) := by decide +kernel
theorem dX11_no_6 : decode cX11_no 6 = .ok (.lreturn, 1) := by decide +kernel
theorem dX11_wayOf_0 : decode cX11_wayOf 0 = .ok (.iload_n 0, 1) := by decide +kernel
theorem dX11_wayOf_1 : decode cX11_wayOf 1 = .ok (.bipush 101, 2) := by decide +kernel
theorem dX11_wayOf_3 : decode cX11_wayOf 3 = .ok (.if_icmp .ne 7, 3) := by decide +kernel
theorem dX11_wayOf_6 : decode cX11_wayOf 6 = .ok (.iconst 0, 1) := by decide +kernel
theorem dX11_wayOf_7 : decode cX11_wayOf 7 = .ok (.goto 34, 3) := by decide +kernel
theorem dX11_wayOf_10 : decode cX11_wayOf 10 = .ok (.iload_n 0, 1) := by decide +kernel
theorem dX11_wayOf_11 : decode cX11_wayOf 11 = .ok (.bipush 110, 2) := by decide +kernel
theorem dX11_wayOf_13 : decode cX11_wayOf 13 = .ok (.if_icmp .ne 7, 3) := by decide +kernel
theorem dX11_wayOf_16 : decode cX11_wayOf 16 = .ok (.iconst 1, 1) := by decide +kernel
theorem dX11_wayOf_17 : decode cX11_wayOf 17 = .ok (.goto 24, 3) := by decide +kernel
theorem dX11_wayOf_20 : decode cX11_wayOf 20 = .ok (.iload_n 0, 1) := by decide +kernel
theorem dX11_wayOf_21 : decode cX11_wayOf 21 = .ok (.bipush 119, 2) := by decide +kernel
theorem dX11_wayOf_23 : decode cX11_wayOf 23 = .ok (.if_icmp .ne 7, 3) := by decide +kernel
theorem dX11_wayOf_26 : decode cX11_wayOf 26 = .ok (.iconst 2, 1) := by decide +kernel
theorem dX11_wayOf_27 : decode cX11_wayOf 27 = .ok (.goto 14, 3) := by decide +kernel
theorem dX11_wayOf_30 : decode cX11_wayOf 30 = .ok (.iload_n 0, 1) := by decide +kernel
theorem dX11_wayOf_31 : decode cX11_wayOf 31 = .ok (.bipush 115, 2) := by decide +kernel
theorem dX11_wayOf_33 : decode cX11_wayOf 33 = .ok (.if_icmp .ne 7, 3) := by decide +kernel
theorem dX11_wayOf_36 : decode cX11_wayOf 36 = .ok (.iconst 3, 1) := by decide +kernel
theorem dX11_wayOf_37 : decode cX11_wayOf 37 = .ok (.goto 4, 3) := by decide +kernel
theorem dX11_wayOf_40 : decode cX11_wayOf 40 = .ok (.iconst (-1), 1) := by decide +kernel
theorem dX11_wayOf_41 : decode cX11_wayOf 41 = .ok (.ireturn, 1) := by decide +kernel
theorem dX11_sortOf_0 : decode cX11_sortOf 0 = .ok (.iload_n 0, 1) := by decide +kernel
theorem dX11_sortOf_1 : decode cX11_sortOf 1 = .ok (.bipush 98, 2) := by decide +kernel
theorem dX11_sortOf_3 : decode cX11_sortOf 3 = .ok (.if_icmp .ne 7, 3) := by decide +kernel
theorem dX11_sortOf_6 : decode cX11_sortOf 6 = .ok (.iconst 0, 1) := by decide +kernel
theorem dX11_sortOf_7 : decode cX11_sortOf 7 = .ok (.goto 24, 3) := by decide +kernel
theorem dX11_sortOf_10 : decode cX11_sortOf 10 = .ok (.iload_n 0, 1) := by decide +kernel
theorem dX11_sortOf_11 : decode cX11_sortOf 11 = .ok (.bipush 109, 2) := by decide +kernel
theorem dX11_sortOf_13 : decode cX11_sortOf 13 = .ok (.if_icmp .ne 7, 3) := by decide +kernel
theorem dX11_sortOf_16 : decode cX11_sortOf 16 = .ok (.iconst 1, 1) := by decide +kernel
theorem dX11_sortOf_17 : decode cX11_sortOf 17 = .ok (.goto 14, 3) := by decide +kernel
theorem dX11_sortOf_20 : decode cX11_sortOf 20 = .ok (.iload_n 0, 1) := by decide +kernel
theorem dX11_sortOf_21 : decode cX11_sortOf 21 = .ok (.bipush 104, 2) := by decide +kernel
theorem dX11_sortOf_23 : decode cX11_sortOf 23 = .ok (.if_icmp .ne 7, 3) := by decide +kernel
theorem dX11_sortOf_26 : decode cX11_sortOf 26 = .ok (.iconst 2, 1) := by decide +kernel
theorem dX11_sortOf_27 : decode cX11_sortOf 27 = .ok (.goto 4, 3) := by decide +kernel
theorem dX11_sortOf_30 : decode cX11_sortOf 30 = .ok (.iconst (-1), 1) := by decide +kernel
theorem dX11_sortOf_31 : decode cX11_sortOf 31 = .ok (.ireturn, 1) := by decide +kernel
theorem dX11_stepX_0 : decode cX11_stepX 0 = .ok (.iload_n 0, 1) := by decide +kernel
theorem dX11_stepX_1 : decode cX11_stepX 1 = .ok (.ifCond .ne 7, 3) := by decide +kernel
theorem dX11_stepX_4 : decode cX11_stepX 4 = .ok (.iconst 1, 1) := by decide +kernel
theorem dX11_stepX_5 : decode cX11_stepX 5 = .ok (.goto 13, 3) := by decide +kernel
theorem dX11_stepX_8 : decode cX11_stepX 8 = .ok (.iload_n 0, 1) := by decide +kernel
theorem dX11_stepX_9 : decode cX11_stepX 9 = .ok (.iconst 2, 1) := by decide +kernel
theorem dX11_stepX_10 : decode cX11_stepX 10 = .ok (.if_icmp .ne 7, 3) := by decide +kernel
theorem dX11_stepX_13 : decode cX11_stepX 13 = .ok (.iconst (-1), 1) := by decide +kernel
theorem dX11_stepX_14 : decode cX11_stepX 14 = .ok (.goto 4, 3) := by decide +kernel
theorem dX11_stepX_17 : decode cX11_stepX 17 = .ok (.iconst 0, 1) := by decide +kernel
theorem dX11_stepX_18 : decode cX11_stepX 18 = .ok (.ireturn, 1) := by decide +kernel
theorem dX11_stepY_0 : decode cX11_stepY 0 = .ok (.iload_n 0, 1) := by decide +kernel
theorem dX11_stepY_1 : decode cX11_stepY 1 = .ok (.iconst 1, 1) := by decide +kernel
theorem dX11_stepY_2 : decode cX11_stepY 2 = .ok (.if_icmp .ne 7, 3) := by decide +kernel
theorem dX11_stepY_5 : decode cX11_stepY 5 = .ok (.iconst 1, 1) := by decide +kernel
theorem dX11_stepY_6 : decode cX11_stepY 6 = .ok (.goto 13, 3) := by decide +kernel
theorem dX11_stepY_9 : decode cX11_stepY 9 = .ok (.iload_n 0, 1) := by decide +kernel
theorem dX11_stepY_10 : decode cX11_stepY 10 = .ok (.iconst 3, 1) := by decide +kernel
theorem dX11_stepY_11 : decode cX11_stepY 11 = .ok (.if_icmp .ne 7, 3) := by decide +kernel
theorem dX11_stepY_14 : decode cX11_stepY 14 = .ok (.iconst (-1), 1) := by decide +kernel
theorem dX11_stepY_15 : decode cX11_stepY 15 = .ok (.goto 4, 3) := by decide +kernel
theorem dX11_stepY_18 : decode cX11_stepY 18 = .ok (.iconst 0, 1) := by decide +kernel
theorem dX11_stepY_19 : decode cX11_stepY 19 = .ok (.ireturn, 1) := by decide +kernel
theorem dX1_fits_0 : decode cX1_fits 0 = .ok (.iload_n 0, 1) := by decide +kernel
theorem dX1_fits_1 : decode cX1_fits 1 = .ok (.iconst 2, 1) := by decide +kernel
theorem dX1_fits_2 : decode cX1_fits 2 = .ok (.invokestatic 21, 3) := by decide +kernel
theorem dX1_fits_5 : decode cX1_fits 5 = .ok (.ifCond .eq 25, 3) := by decide +kernel
theorem dX1_fits_8 : decode cX1_fits 8 = .ok (.iload_n 1, 1) := by decide +kernel
theorem dX1_fits_9 : decode cX1_fits 9 = .ok (.bipush 24, 2) := by decide +kernel
theorem dX1_fits_11 : decode cX1_fits 11 = .ok (.invokestatic 21, 3) := by decide +kernel
theorem dX1_fits_14 : decode cX1_fits 14 = .ok (.ifCond .eq 16, 3) := by decide +kernel
theorem dX1_fits_17 : decode cX1_fits 17 = .ok (.iload_n 2, 1) := by decide +kernel
theorem dX1_fits_18 : decode cX1_fits 18 = .ok (.bipush 8, 2) := by decide +kernel
theorem dX1_fits_20 : decode cX1_fits 20 = .ok (.invokestatic 21, 3) := by decide +kernel
theorem dX1_fits_23 : decode cX1_fits 23 = .ok (.ifCond .eq 7, 3) := by decide +kernel
theorem dX1_fits_26 : decode cX1_fits 26 = .ok (.iconst 1, 1) := by decide +kernel
theorem dX1_fits_27 : decode cX1_fits 27 = .ok (.goto 4, 3) := by decide +kernel
theorem dX1_fits_30 : decode cX1_fits 30 = .ok (.iconst 0, 1) := by decide +kernel
theorem dX1_fits_31 : decode cX1_fits 31 = .ok (.ireturn, 1) := by decide +kernel
/-- within(value, limit) -/
theorem c_within (v n : Int32) : mMet G l d kX10_within [.int v, .int n] σ (qI (bI (decide (0 ≤ v ∧ v < n))) σ) := by
  refine mMet.of cm_X10_within rfl (Nat.le_of_ble_eq_true rfl) rfl (fun v1 σ1 h => by rw [h.1]; exact bI_nar _) ?_
  refine m_iload_n dX10_within_0 0 rfl ?_
  refine m_if_lt dX10_within_1 13 (by decide) (fun h1 => ?_) (fun h1 => ?_)
  · refine m_iconst (v := 0) dX10_within_13 (by decide) ?_
    refine m_ireturn dX10_within_14 ?_
    first | exact qI_of (bI_pos (by simp only [Int32.le_iff_toInt_le, Int32.lt_iff_toInt_lt] at *; omega)) | exact qI_of (bI_neg (by simp only [Int32.le_iff_toInt_le, Int32.lt_iff_toInt_lt] at *; omega))
  · refine m_iload_n dX10_within_4 0 rfl ?_
    refine m_iload_n dX10_within_5 1 rfl ?_
    refine m_icmp_ge dX10_within_6 13 (by decide) (fun h6 => ?_) (fun h6 => ?_)
    · refine m_iconst (v := 0) dX10_within_13 (by decide) ?_
      refine m_ireturn dX10_within_14 ?_
      first | exact qI_of (bI_pos (by simp only [Int32.le_iff_toInt_le, Int32.lt_iff_toInt_lt] at *; omega)) | exact qI_of (bI_neg (by simp only [Int32.le_iff_toInt_le, Int32.lt_iff_toInt_lt] at *; omega))
    · refine m_iconst (v := 1) dX10_within_9 (by decide) ?_
      refine m_goto dX10_within_10 14 (by decide) ?_
      refine m_ireturn dX10_within_14 ?_
      first | exact qI_of (bI_pos (by simp only [Int32.le_iff_toInt_le, Int32.lt_iff_toInt_lt] at *; omega)) | exact qI_of (bI_neg (by simp only [Int32.le_iff_toInt_le, Int32.lt_iff_toInt_lt] at *; omega))
theorem c_in (v lo hi : Int32) : mMet G l d kX11_in [.int v, .int lo, .int hi] σ (qI (bI (decide (lo ≤ v ∧ v ≤ hi))) σ) := by
  refine mMet.of cm_X11_in rfl (Nat.le_of_ble_eq_true rfl) rfl (fun v1 σ1 h => by rw [h.1]; exact bI_nar _) ?_
  refine m_iload_n dX11_in_0 0 rfl ?_
  refine m_iload_n dX11_in_1 1 rfl ?_
  refine m_icmp_lt dX11_in_2 14 (by decide) (fun h2 => ?_) (fun h2 => ?_)
  · refine m_iconst (v := 0) dX11_in_14 (by decide) ?_
    refine m_ireturn dX11_in_15 ?_
    first | exact qI_of (bI_pos (by simp only [Int32.le_iff_toInt_le, Int32.lt_iff_toInt_lt] at *; omega)) | exact qI_of (bI_neg (by simp only [Int32.le_iff_toInt_le, Int32.lt_iff_toInt_lt] at *; omega))
  · refine m_iload_n dX11_in_5 0 rfl ?_
    refine m_iload_n dX11_in_6 2 rfl ?_
    refine m_icmp_gt dX11_in_7 14 (by decide) (fun h7 => ?_) (fun h7 => ?_)
    · refine m_iconst (v := 0) dX11_in_14 (by decide) ?_
      refine m_ireturn dX11_in_15 ?_
      first | exact qI_of (bI_pos (by simp only [Int32.le_iff_toInt_le, Int32.lt_iff_toInt_lt] at *; omega)) | exact qI_of (bI_neg (by simp only [Int32.le_iff_toInt_le, Int32.lt_iff_toInt_lt] at *; omega))
    · refine m_iconst (v := 1) dX11_in_10 (by decide) ?_
      refine m_goto dX11_in_11 15 (by decide) ?_
      refine m_ireturn dX11_in_15 ?_
      first | exact qI_of (bI_pos (by simp only [Int32.le_iff_toInt_le, Int32.lt_iff_toInt_lt] at *; omega)) | exact qI_of (bI_neg (by simp only [Int32.le_iff_toInt_le, Int32.lt_iff_toInt_lt] at *; omega))
theorem c_onFloor (x y : Int32) : mMet G l d kX10_onFloor [.int x, .int y] σ (qI (bI (decide (0 ≤ x ∧ x < 6 ∧ 0 ≤ y ∧ y < 6))) σ) := by
  refine mMet.of cm_X10_onFloor rfl (Nat.le_of_ble_eq_true rfl) rfl (fun v1 σ1 h => by rw [h.1]; exact bI_nar _) ?_
  refine m_iload_n dX10_onFloor_0 0 rfl ?_
  refine m_if_lt dX10_onFloor_1 24 (by decide) (fun h1 => ?_) (fun h1 => ?_)
  · refine m_iconst (v := 0) dX10_onFloor_24 (by decide) ?_
    refine m_ireturn dX10_onFloor_25 ?_
    first | exact qI_of (bI_pos (by simp only [Int32.le_iff_toInt_le, Int32.lt_iff_toInt_lt] at *; omega)) | exact qI_of (bI_neg (by simp only [Int32.le_iff_toInt_le, Int32.lt_iff_toInt_lt] at *; omega))
  · refine m_iload_n dX10_onFloor_4 0 rfl ?_
    refine m_bipush (v := 6) dX10_onFloor_5 (by decide) ?_
    refine m_icmp_ge dX10_onFloor_7 24 (by decide) (fun h7 => ?_) (fun h7 => ?_)
    · refine m_iconst (v := 0) dX10_onFloor_24 (by decide) ?_
      refine m_ireturn dX10_onFloor_25 ?_
      first | exact qI_of (bI_pos (by simp only [Int32.le_iff_toInt_le, Int32.lt_iff_toInt_lt] at *; omega)) | exact qI_of (bI_neg (by simp only [Int32.le_iff_toInt_le, Int32.lt_iff_toInt_lt] at *; omega))
    · refine m_iload_n dX10_onFloor_10 1 rfl ?_
      refine m_if_lt dX10_onFloor_11 24 (by decide) (fun h11 => ?_) (fun h11 => ?_)
      · refine m_iconst (v := 0) dX10_onFloor_24 (by decide) ?_
        refine m_ireturn dX10_onFloor_25 ?_
        first | exact qI_of (bI_pos (by simp only [Int32.le_iff_toInt_le, Int32.lt_iff_toInt_lt] at *; omega)) | exact qI_of (bI_neg (by simp only [Int32.le_iff_toInt_le, Int32.lt_iff_toInt_lt] at *; omega))
      · refine m_iload_n dX10_onFloor_14 1 rfl ?_
        refine m_bipush (v := 6) dX10_onFloor_15 (by decide) ?_
        refine m_icmp_ge dX10_onFloor_17 24 (by decide) (fun h17 => ?_) (fun h17 => ?_)
        · refine m_iconst (v := 0) dX10_onFloor_24 (by decide) ?_
          refine m_ireturn dX10_onFloor_25 ?_
          first | exact qI_of (bI_pos (by simp only [Int32.le_iff_toInt_le, Int32.lt_iff_toInt_lt] at *; omega)) | exact qI_of (bI_neg (by simp only [Int32.le_iff_toInt_le, Int32.lt_iff_toInt_lt] at *; omega))
        · refine m_iconst (v := 1) dX10_onFloor_20 (by decide) ?_
          refine m_goto dX10_onFloor_21 25 (by decide) ?_
          refine m_ireturn dX10_onFloor_25 ?_
          first | exact qI_of (bI_pos (by simp only [Int32.le_iff_toInt_le, Int32.lt_iff_toInt_lt] at *; omega)) | exact qI_of (bI_neg (by simp only [Int32.le_iff_toInt_le, Int32.lt_iff_toInt_lt] at *; omega))
theorem c_isIn (b k : Int32) : mMet G l d kX11_isIn [.int b, .int k] σ (qI (bI (decide (b >>> (k &&& 31) &&& 1 = 1))) σ) := by
  refine mMet.of cm_X11_isIn rfl (Nat.le_of_ble_eq_true rfl) rfl (fun v1 σ1 h => by rw [h.1]; exact bI_nar _) ?_
  refine m_iload_n dX11_isIn_0 0 rfl ?_
  refine m_iload_n dX11_isIn_1 1 rfl ?_
  refine m_ishr dX11_isIn_2 ?_
  refine m_iconst (v := 1) dX11_isIn_3 (by decide) ?_
  refine m_iand dX11_isIn_4 ?_
  refine m_iconst (v := 1) dX11_isIn_5 (by decide) ?_
  refine m_icmp_ne dX11_isIn_6 13 (by decide) (fun h6 => ?_) (fun h6 => ?_)
  · refine m_iconst (v := 0) dX11_isIn_13 (by decide) ?_
    refine m_ireturn dX11_isIn_14 ?_
    first | exact qI_of (bI_pos (by assumption)) | exact qI_of (bI_neg (by assumption))
  · refine m_iconst (v := 1) dX11_isIn_9 (by decide) ?_
    refine m_goto dX11_isIn_10 14 (by decide) ?_
    refine m_ireturn dX11_isIn_14 ?_
    first | exact qI_of (bI_pos (by assumption)) | exact qI_of (bI_neg (by assumption))
theorem c_isText (hd : 1 ≤ d) (v : Int32) : mMet G l d kX11_isText [.int v] σ (qI (bI (decide (0 ≤ v ∧ v ≤ 1))) σ) := by
  refine mMet.of cm_X11_isText rfl (Nat.le_of_ble_eq_true rfl) rfl (fun v1 σ1 h => by rw [h.1]; exact bI_nar _) ?_
  refine m_iload_n dX11_isText_0 0 rfl ?_
  refine m_iconst (v := 0) dX11_isText_1 (by decide) ?_
  refine m_iconst (v := 1) dX11_isText_2 (by decide) ?_
  refine m_callS (As := [_, _, _]) dX11_isText_3 cs_X11_136 (by omega) rfl rfl (Nat.le_of_ble_eq_true rfl) (c_in (d := d - 1) v 0 1) (fun v1 σ1 hv1 => ?_)
  refine m_qI hv1 ?_
  clear hv1 v1 σ1
  refine m_ireturn dX11_isText_6 ?_
  exact ⟨rfl, rfl⟩
end LF


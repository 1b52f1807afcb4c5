/-! ===== the class's questions ===== -/
theorem in3 {i : Int32} (h : -1 ≤ i ∧ i ≤ 1) : i = -1 ∨ i = 0 ∨ i = 1 := by
  have h1 : -1 ≤ i.toInt := Int32.le_iff_toInt_le.mp h.1
  have h2 : i.toInt ≤ 1 := Int32.le_iff_toInt_le.mp h.2
  rcases (show i.toInt = -1 ∨ i.toInt = 0 ∨ i.toInt = 1 by omega) with q | q | q
  · exact Or.inl (Int32.toInt_inj.mp q)
  · exact Or.inr (Or.inl (Int32.toInt_inj.mp q))
  · exact Or.inr (Or.inr (Int32.toInt_inj.mp q))
section PQ
variable {G : mG} {l : Launch} {d : Nat} {σ : mS} {a : PA} {p : Prop}
theorem dX10_fault_0 : decode cX10_fault 0 = .ok (.iload_n 1, 1) := by decide +kernel
theorem dX10_fault_1 : decode cX10_fault 1 = .ok (.iconst 2, 1) := by decide +kernel
theorem dX10_fault_2 : decode cX10_fault 2 = .ok (.invokestatic 81, 3) := by decide +kernel
theorem dX10_fault_5 : decode cX10_fault 5 = .ok (.ifCond .ne 6, 3) := by decide +kernel
theorem dX10_fault_8 : decode cX10_fault 8 = .ok (.bipush (-2), 2) := by decide +kernel
theorem dX10_fault_10 : decode cX10_fault 10 = .ok (.ireturn, 1) := by decide +kernel
theorem dX10_fault_11 : decode cX10_fault 11 = .ok (.aload_n 0, 1) := by decide +kernel
theorem dX10_fault_12 : decode cX10_fault 12 = .ok (.invokevirtual 97, 3) := by decide +kernel
theorem dX10_fault_15 : decode cX10_fault 15 = .ok (.iload_n 1, 1) := by decide +kernel
theorem dX10_fault_16 : decode cX10_fault 16 = .ok (.ifCond .ne 13, 3) := by decide +kernel
theorem dX10_fault_19 : decode cX10_fault 19 = .ok (.aload_n 0, 1) := by decide +kernel
theorem dX10_fault_20 : decode cX10_fault 20 = .ok (.getfield 22, 3) := by decide +kernel
theorem dX10_fault_23 : decode cX10_fault 23 = .ok (.getfield 100, 3) := by decide +kernel
theorem dX10_fault_26 : decode cX10_fault 26 = .ok (.goto 10, 3) := by decide +kernel
theorem dX10_fault_29 : decode cX10_fault 29 = .ok (.aload_n 0, 1) := by decide +kernel
theorem dX10_fault_30 : decode cX10_fault 30 = .ok (.getfield 29, 3) := by decide +kernel
theorem dX10_fault_33 : decode cX10_fault 33 = .ok (.getfield 103, 3) := by decide +kernel
theorem dX10_fault_36 : decode cX10_fault 36 = .ok (.ireturn, 1) := by decide +kernel
theorem dX10_car_0 : decode cX10_car 0 = .ok (.aload_n 0, 1) := by decide +kernel
theorem dX10_car_1 : decode cX10_car 1 = .ok (.invokevirtual 97, 3) := by decide +kernel
theorem dX10_car_4 : decode cX10_car 4 = .ok (.iload_n 1, 1) := by decide +kernel
theorem dX10_car_5 : decode cX10_car 5 = .ok (.aload_n 0, 1) := by decide +kernel
theorem dX10_car_6 : decode cX10_car 6 = .ok (.getfield 22, 3) := by decide +kernel
theorem dX10_car_9 : decode cX10_car 9 = .ok (.getfield 104, 3) := by decide +kernel
theorem dX10_car_12 : decode cX10_car 12 = .ok (.invokestatic 81, 3) := by decide +kernel
theorem dX10_car_15 : decode cX10_car 15 = .ok (.ifCond .eq 11, 3) := by decide +kernel
theorem dX10_car_18 : decode cX10_car 18 = .ok (.iload_n 2, 1) := by decide +kernel
theorem dX10_car_19 : decode cX10_car 19 = .ok (.iconst 5, 1) := by decide +kernel
theorem dX10_car_20 : decode cX10_car 20 = .ok (.invokestatic 81, 3) := by decide +kernel
theorem dX10_car_23 : decode cX10_car 23 = .ok (.ifCond .ne 6, 3) := by decide +kernel
theorem dX10_car_26 : decode cX10_car 26 = .ok (.bipush (-2), 2) := by decide +kernel
theorem dX10_car_28 : decode cX10_car 28 = .ok (.ireturn, 1) := by decide +kernel
theorem dX10_car_29 : decode cX10_car 29 = .ok (.aload_n 0, 1) := by decide +kernel
theorem dX10_car_30 : decode cX10_car 30 = .ok (.getfield 22, 3) := by decide +kernel
theorem dX10_car_33 : decode cX10_car 33 = .ok (.getfield 107, 3) := by decide +kernel
theorem dX10_car_36 : decode cX10_car 36 = .ok (.iload_n 1, 1) := by decide +kernel
theorem dX10_car_37 : decode cX10_car 37 = .ok (.aaload, 1) := by decide +kernel
theorem dX10_car_38 : decode cX10_car 38 = .ok (.iload_n 2, 1) := by decide +kernel
theorem dX10_car_39 : decode cX10_car 39 = .ok (.iaload, 1) := by decide +kernel
theorem dX10_car_40 : decode cX10_car 40 = .ok (.ireturn, 1) := by decide +kernel
theorem dX10_steer_0 : decode cX10_steer 0 = .ok (.iload_n 1, 1) := by decide +kernel
theorem dX10_steer_1 : decode cX10_steer 1 = .ok (.bipush 12, 2) := by decide +kernel
theorem dX10_steer_3 : decode cX10_steer 3 = .ok (.invokestatic 81, 3) := by decide +kernel
theorem dX10_steer_6 : decode cX10_steer 6 = .ok (.ifCond .eq 11, 3) := by decide +kernel
theorem dX10_steer_9 : decode cX10_steer 9 = .ok (.iload_n 2, 1) := by decide +kernel
theorem dX10_steer_10 : decode cX10_steer 10 = .ok (.iconst 3, 1) := by decide +kernel
theorem dX10_steer_11 : decode cX10_steer 11 = .ok (.invokestatic 81, 3) := by decide +kernel
theorem dX10_steer_14 : decode cX10_steer 14 = .ok (.ifCond .ne 6, 3) := by decide +kernel
theorem dX10_steer_17 : decode cX10_steer 17 = .ok (.bipush (-2), 2) := by decide +kernel
theorem dX10_steer_19 : decode cX10_steer 19 = .ok (.ireturn, 1) := by decide +kernel
theorem dX10_steer_20 : decode cX10_steer 20 = .ok (.aload_n 0, 1) := by decide +kernel
theorem dX10_steer_21 : decode cX10_steer 21 = .ok (.invokevirtual 97, 3) := by decide +kernel
theorem dX10_steer_24 : decode cX10_steer 24 = .ok (.aload_n 0, 1) := by decide +kernel
theorem dX10_steer_25 : decode cX10_steer 25 = .ok (.getfield 29, 3) := by decide +kernel
theorem dX10_steer_28 : decode cX10_steer 28 = .ok (.iload_n 1, 1) := by decide +kernel
theorem dX10_steer_29 : decode cX10_steer 29 = .ok (.iload_n 2, 1) := by decide +kernel
theorem dX10_steer_30 : decode cX10_steer 30 = .ok (.invokevirtual 111, 3) := by decide +kernel
theorem dX10_steer_33 : decode cX10_steer 33 = .ok (.ireturn, 1) := by decide +kernel
theorem dX10_at_0 : decode cX10_at 0 = .ok (.aload_n 0, 1) := by decide +kernel
theorem dX10_at_1 : decode cX10_at 1 = .ok (.invokevirtual 97, 3) := by decide +kernel
theorem dX10_at_4 : decode cX10_at 4 = .ok (.iload_n 1, 1) := by decide +kernel
theorem dX10_at_5 : decode cX10_at 5 = .ok (.bipush 24, 2) := by decide +kernel
theorem dX10_at_7 : decode cX10_at 7 = .ok (.invokestatic 81, 3) := by decide +kernel
theorem dX10_at_10 : decode cX10_at 10 = .ok (.ifCond .eq 26, 3) := by decide +kernel
theorem dX10_at_13 : decode cX10_at 13 = .ok (.iload_n 2, 1) := by decide +kernel
theorem dX10_at_14 : decode cX10_at 14 = .ok (.aload_n 0, 1) := by decide +kernel
theorem dX10_at_15 : decode cX10_at 15 = .ok (.getfield 22, 3) := by decide +kernel
theorem dX10_at_18 : decode cX10_at 18 = .ok (.getfield 104, 3) := by decide +kernel
theorem dX10_at_21 : decode cX10_at 21 = .ok (.invokestatic 81, 3) := by decide +kernel
theorem dX10_at_24 : decode cX10_at 24 = .ok (.ifCond .eq 12, 3) := by decide +kernel
theorem dX10_at_27 : decode cX10_at 27 = .ok (.iload_n 3, 1) := by decide +kernel
theorem dX10_at_28 : decode cX10_at 28 = .ok (.bipush 6, 2) := by decide +kernel
theorem dX10_at_30 : decode cX10_at 30 = .ok (.invokestatic 81, 3) := by decide +kernel
theorem dX10_at_33 : decode cX10_at 33 = .ok (.ifCond .ne 6, 3) := by decide +kernel
theorem dX10_at_36 : decode cX10_at 36 = .ok (.bipush (-2), 2) := by decide +kernel
theorem dX10_at_38 : decode cX10_at 38 = .ok (.ireturn, 1) := by decide +kernel
theorem dX10_at_39 : decode cX10_at 39 = .ok (.aload_n 0, 1) := by decide +kernel
theorem dX10_at_40 : decode cX10_at 40 = .ok (.getfield 57, 3) := by decide +kernel
theorem dX10_at_43 : decode cX10_at 43 = .ok (.iload_n 1, 1) := by decide +kernel
theorem dX10_at_44 : decode cX10_at 44 = .ok (.iload_n 2, 1) := by decide +kernel
theorem dX10_at_45 : decode cX10_at 45 = .ok (.iload_n 3, 1) := by decide +kernel
theorem dX10_at_46 : decode cX10_at 46 = .ok (.invokevirtual 137, 3) := by decide +kernel
theorem dX10_at_49 : decode cX10_at 49 = .ok (.ireturn, 1) := by decide +kernel
theorem dX10_who_0 : decode cX10_who 0 = .ok (.iload_n 1, 1) := by decide +kernel
theorem dX10_who_1 : decode cX10_who 1 = .ok (.bipush 24, 2) := by decide +kernel
theorem dX10_who_3 : decode cX10_who 3 = .ok (.invokestatic 81, 3) := by decide +kernel
theorem dX10_who_6 : decode cX10_who 6 = .ok (.ifCond .eq 11, 3) := by decide +kernel
theorem dX10_who_9 : decode cX10_who 9 = .ok (.iload_n 2, 1) := by decide +kernel
theorem dX10_who_10 : decode cX10_who 10 = .ok (.iload_n 3, 1) := by decide +kernel
theorem dX10_who_11 : decode cX10_who 11 = .ok (.invokestatic 141, 3) := by decide +kernel
theorem dX10_who_14 : decode cX10_who 14 = .ok (.ifCond .ne 6, 3) := by decide +kernel
theorem dX10_who_17 : decode cX10_who 17 = .ok (.bipush (-2), 2) := by decide +kernel
theorem dX10_who_19 : decode cX10_who 19 = .ok (.ireturn, 1) := by decide +kernel
theorem dX10_who_20 : decode cX10_who 20 = .ok (.aload_n 0, 1) := by decide +kernel
theorem dX10_who_21 : decode cX10_who 21 = .ok (.invokevirtual 97, 3) := by decide +kernel
theorem dX10_who_24 : decode cX10_who 24 = .ok (.aload_n 0, 1) := by decide +kernel
theorem dX10_who_25 : decode cX10_who 25 = .ok (.getfield 57, 3) := by decide +kernel
theorem dX10_who_28 : decode cX10_who 28 = .ok (.iload_n 1, 1) := by decide +kernel
theorem dX10_who_29 : decode cX10_who 29 = .ok (.iload_n 2, 1) := by decide +kernel
theorem dX10_who_30 : decode cX10_who 30 = .ok (.iload_n 3, 1) := by decide +kernel
theorem dX10_who_31 : decode cX10_who 31 = .ok (.invokevirtual 144, 3) := by decide +kernel
theorem dX10_who_34 : decode cX10_who 34 = .ok (.ireturn, 1) := by decide +kernel
theorem dX10_house_0 : decode cX10_house 0 = .ok (.iload_n 1, 1) := by decide +kernel
theorem dX10_house_1 : decode cX10_house 1 = .ok (.bipush 24, 2) := by decide +kernel
theorem dX10_house_3 : decode cX10_house 3 = .ok (.invokestatic 81, 3) := by decide +kernel
theorem dX10_house_6 : decode cX10_house 6 = .ok (.ifCond .eq 11, 3) := by decide +kernel
theorem dX10_house_9 : decode cX10_house 9 = .ok (.iload_n 2, 1) := by decide +kernel
theorem dX10_house_10 : decode cX10_house 10 = .ok (.iconst 3, 1) := by decide +kernel
theorem dX10_house_11 : decode cX10_house 11 = .ok (.invokestatic 81, 3) := by decide +kernel
theorem dX10_house_14 : decode cX10_house 14 = .ok (.ifCond .ne 6, 3) := by decide +kernel
theorem dX10_house_17 : decode cX10_house 17 = .ok (.bipush (-2), 2) := by decide +kernel
theorem dX10_house_19 : decode cX10_house 19 = .ok (.ireturn, 1) := by decide +kernel
theorem dX10_house_20 : decode cX10_house 20 = .ok (.aload_n 0, 1) := by decide +kernel
theorem dX10_house_21 : decode cX10_house 21 = .ok (.invokevirtual 97, 3) := by decide +kernel
theorem dX10_house_24 : decode cX10_house 24 = .ok (.aload_n 0, 1) := by decide +kernel
theorem dX10_house_25 : decode cX10_house 25 = .ok (.getfield 57, 3) := by decide +kernel
theorem dX10_house_28 : decode cX10_house 28 = .ok (.iload_n 1, 1) := by decide +kernel
theorem dX10_house_29 : decode cX10_house 29 = .ok (.iload_n 2, 1) := by decide +kernel
theorem dX10_house_30 : decode cX10_house 30 = .ok (.invokevirtual 147, 3) := by decide +kernel
theorem dX10_house_33 : decode cX10_house 33 = .ok (.ireturn, 1) := by decide +kernel
theorem dX10_strikes_0 : decode cX10_strikes 0 = .ok (.aload_n 0, 1) := by decide +kernel
theorem dX10_strikes_1 : decode cX10_strikes 1 = .ok (.invokevirtual 97, 3) := by decide +kernel
theorem dX10_strikes_4 : decode cX10_strikes 4 = .ok (.aload_n 0, 1) := by decide +kernel
theorem dX10_strikes_5 : decode cX10_strikes 5 = .ok (.getfield 57, 3) := by decide +kernel
theorem dX10_strikes_8 : decode cX10_strikes 8 = .ok (.getfield 150, 3) := by decide +kernel
theorem dX10_strikes_11 : decode cX10_strikes 11 = .ok (.ireturn, 1) := by decide +kernel
theorem dX10_first_0 : decode cX10_first 0 = .ok (.iload_n 1, 1) := by decide +kernel
theorem dX10_first_1 : decode cX10_first 1 = .ok (.iconst 2, 1) := by decide +kernel
theorem dX10_first_2 : decode cX10_first 2 = .ok (.invokestatic 81, 3) := by decide +kernel
theorem dX10_first_5 : decode cX10_first 5 = .ok (.ifCond .ne 6, 3) := by decide +kernel
theorem dX10_first_8 : decode cX10_first 8 = .ok (.bipush (-2), 2) := by decide +kernel
theorem dX10_first_10 : decode cX10_first 10 = .ok (.ireturn, 1) := by decide +kernel
theorem dX10_first_11 : decode cX10_first 11 = .ok (.aload_n 0, 1) := by decide +kernel
theorem dX10_first_12 : decode cX10_first 12 = .ok (.invokevirtual 97, 3) := by decide +kernel
theorem dX10_first_15 : decode cX10_first 15 = .ok (.iload_n 1, 1) := by decide +kernel
theorem dX10_first_16 : decode cX10_first 16 = .ok (.ifCond .ne 13, 3) := by decide +kernel
theorem dX10_first_19 : decode cX10_first 19 = .ok (.aload_n 0, 1) := by decide +kernel
theorem dX10_first_20 : decode cX10_first 20 = .ok (.getfield 57, 3) := by decide +kernel
theorem dX10_first_23 : decode cX10_first 23 = .ok (.getfield 153, 3) := by decide +kernel
theorem dX10_first_26 : decode cX10_first 26 = .ok (.goto 10, 3) := by decide +kernel
theorem dX10_first_29 : decode cX10_first 29 = .ok (.aload_n 0, 1) := by decide +kernel
theorem dX10_first_30 : decode cX10_first 30 = .ok (.getfield 57, 3) := by decide +kernel
theorem dX10_first_33 : decode cX10_first 33 = .ok (.getfield 156, 3) := by decide +kernel
theorem dX10_first_36 : decode cX10_first 36 = .ok (.ireturn, 1) := by decide +kernel
theorem dX10_best_0 : decode cX10_best 0 = .ok (.aload_n 0, 1) := by decide +kernel
theorem dX10_best_1 : decode cX10_best 1 = .ok (.invokevirtual 97, 3) := by decide +kernel
theorem dX10_best_4 : decode cX10_best 4 = .ok (.aload_n 0, 1) := by decide +kernel
theorem dX10_best_5 : decode cX10_best 5 = .ok (.getfield 57, 3) := by decide +kernel
theorem dX10_best_8 : decode cX10_best 8 = .ok (.invokevirtual 159, 3) := by decide +kernel
theorem dX10_best_11 : decode cX10_best 11 = .ok (.ireturn, 1) := by decide +kernel
theorem dX10_meek_0 : decode cX10_meek 0 = .ok (.aload_n 0, 1) := by decide +kernel
theorem dX10_meek_1 : decode cX10_meek 1 = .ok (.invokevirtual 97, 3) := by decide +kernel
theorem dX10_meek_4 : decode cX10_meek 4 = .ok (.aload_n 0, 1) := by decide +kernel
theorem dX10_meek_5 : decode cX10_meek 5 = .ok (.getfield 57, 3) := by decide +kernel
theorem dX10_meek_8 : decode cX10_meek 8 = .ok (.invokevirtual 163, 3) := by decide +kernel
theorem dX10_meek_11 : decode cX10_meek 11 = .ok (.ireturn, 1) := by decide +kernel
theorem dX10_jam_0 : decode cX10_jam 0 = .ok (.iload_n 1, 1) := by decide +kernel
theorem dX10_jam_1 : decode cX10_jam 1 = .ok (.iconst 2, 1) := by decide +kernel
theorem dX10_jam_2 : decode cX10_jam 2 = .ok (.invokestatic 81, 3) := by decide +kernel
theorem dX10_jam_5 : decode cX10_jam 5 = .ok (.ifCond .ne 6, 3) := by decide +kernel
theorem dX10_jam_8 : decode cX10_jam 8 = .ok (.bipush (-2), 2) := by decide +kernel
theorem dX10_jam_10 : decode cX10_jam 10 = .ok (.ireturn, 1) := by decide +kernel
theorem dX10_jam_11 : decode cX10_jam 11 = .ok (.aload_n 0, 1) := by decide +kernel
theorem dX10_jam_12 : decode cX10_jam 12 = .ok (.invokevirtual 97, 3) := by decide +kernel
theorem dX10_jam_15 : decode cX10_jam 15 = .ok (.aload_n 0, 1) := by decide +kernel
theorem dX10_jam_16 : decode cX10_jam 16 = .ok (.getfield 57, 3) := by decide +kernel
theorem dX10_jam_19 : decode cX10_jam 19 = .ok (.invokevirtual 166, 3) := by decide +kernel
theorem dX10_jam_22 : decode cX10_jam 22 = .ok (.istore_n 2, 1) := by decide +kernel
theorem dX10_jam_23 : decode cX10_jam 23 = .ok (.iload_n 1, 1) := by decide +kernel
theorem dX10_jam_24 : decode cX10_jam 24 = .ok (.ifCond .ne 7, 3) := by decide +kernel
theorem dX10_jam_27 : decode cX10_jam 27 = .ok (.iload_n 2, 1) := by decide +kernel
theorem dX10_jam_28 : decode cX10_jam 28 = .ok (.goto 12, 3) := by decide +kernel
theorem dX10_jam_31 : decode cX10_jam 31 = .ok (.aload_n 0, 1) := by decide +kernel
theorem dX10_jam_32 : decode cX10_jam 32 = .ok (.getfield 57, 3) := by decide +kernel
theorem dX10_jam_35 : decode cX10_jam 35 = .ok (.getfield 169, 3) := by decide +kernel
theorem dX10_jam_38 : decode cX10_jam 38 = .ok (.iload_n 2, 1) := by decide +kernel
theorem dX10_jam_39 : decode cX10_jam 39 = .ok (.iaload, 1) := by decide +kernel
theorem dX10_jam_40 : decode cX10_jam 40 = .ok (.ireturn, 1) := by decide +kernel
theorem dX10_carried_0 : decode cX10_carried 0 = .ok (.aload_n 0, 1) := by decide +kernel
theorem dX10_carried_1 : decode cX10_carried 1 = .ok (.invokevirtual 97, 3) := by decide +kernel
theorem dX10_carried_4 : decode cX10_carried 4 = .ok (.aload_n 0, 1) := by decide +kernel
theorem dX10_carried_5 : decode cX10_carried 5 = .ok (.getfield 57, 3) := by decide +kernel
theorem dX10_carried_8 : decode cX10_carried 8 = .ok (.invokevirtual 172, 3) := by decide +kernel
theorem dX10_carried_11 : decode cX10_carried 11 = .ok (.ireturn, 1) := by decide +kernel
theorem dX10_stand_0 : decode cX10_stand 0 = .ok (.aload_n 0, 1) := by decide +kernel
theorem dX10_stand_1 : decode cX10_stand 1 = .ok (.invokevirtual 97, 3) := by decide +kernel
theorem dX10_stand_4 : decode cX10_stand 4 = .ok (.iload_n 1, 1) := by decide +kernel
theorem dX10_stand_5 : decode cX10_stand 5 = .ok (.aload_n 0, 1) := by decide +kernel
theorem dX10_stand_6 : decode cX10_stand 6 = .ok (.getfield 22, 3) := by decide +kernel
theorem dX10_stand_9 : decode cX10_stand 9 = .ok (.getfield 104, 3) := by decide +kernel
theorem dX10_stand_12 : decode cX10_stand 12 = .ok (.invokestatic 81, 3) := by decide +kernel
theorem dX10_stand_15 : decode cX10_stand 15 = .ok (.ifCond .eq 11, 3) := by decide +kernel
theorem dX10_stand_18 : decode cX10_stand 18 = .ok (.iload_n 2, 1) := by decide +kernel
theorem dX10_stand_19 : decode cX10_stand 19 = .ok (.iconst 3, 1) := by decide +kernel
theorem dX10_stand_20 : decode cX10_stand 20 = .ok (.invokestatic 81, 3) := by decide +kernel
theorem dX10_stand_23 : decode cX10_stand 23 = .ok (.ifCond .ne 6, 3) := by decide +kernel
theorem dX10_stand_26 : decode cX10_stand 26 = .ok (.bipush (-2), 2) := by decide +kernel
theorem dX10_stand_28 : decode cX10_stand 28 = .ok (.ireturn, 1) := by decide +kernel
theorem dX10_stand_29 : decode cX10_stand 29 = .ok (.aload_n 0, 1) := by decide +kernel
theorem dX10_stand_30 : decode cX10_stand 30 = .ok (.getfield 66, 3) := by decide +kernel
theorem dX10_stand_33 : decode cX10_stand 33 = .ok (.iload_n 1, 1) := by decide +kernel
theorem dX10_stand_34 : decode cX10_stand 34 = .ok (.invokevirtual 175, 3) := by decide +kernel
theorem dX10_stand_37 : decode cX10_stand 37 = .ok (.iload_n 2, 1) := by decide +kernel
theorem dX10_stand_38 : decode cX10_stand 38 = .ok (.invokestatic 178, 3) := by decide +kernel
theorem dX10_stand_41 : decode cX10_stand 41 = .ok (.ireturn, 1) := by decide +kernel
theorem dX10_better_0 : decode cX10_better 0 = .ok (.aload_n 0, 1) := by decide +kernel
theorem dX10_better_1 : decode cX10_better 1 = .ok (.invokevirtual 97, 3) := by decide +kernel
theorem dX10_better_4 : decode cX10_better 4 = .ok (.iload_n 1, 1) := by decide +kernel
theorem dX10_better_5 : decode cX10_better 5 = .ok (.aload_n 0, 1) := by decide +kernel
theorem dX10_better_6 : decode cX10_better 6 = .ok (.getfield 22, 3) := by decide +kernel
theorem dX10_better_9 : decode cX10_better 9 = .ok (.getfield 104, 3) := by decide +kernel
theorem dX10_better_12 : decode cX10_better 12 = .ok (.invokestatic 81, 3) := by decide +kernel
theorem dX10_better_15 : decode cX10_better 15 = .ok (.ifCond .eq 20, 3) := by decide +kernel
theorem dX10_better_18 : decode cX10_better 18 = .ok (.iload_n 2, 1) := by decide +kernel
theorem dX10_better_19 : decode cX10_better 19 = .ok (.bipush 24, 2) := by decide +kernel
theorem dX10_better_21 : decode cX10_better 21 = .ok (.invokestatic 81, 3) := by decide +kernel
theorem dX10_better_24 : decode cX10_better 24 = .ok (.ifCond .eq 11, 3) := by decide +kernel
theorem dX10_better_27 : decode cX10_better 27 = .ok (.iload_n 3, 1) := by decide +kernel
theorem dX10_better_28 : decode cX10_better 28 = .ok (.iconst 2, 1) := by decide +kernel
theorem dX10_better_29 : decode cX10_better 29 = .ok (.invokestatic 81, 3) := by decide +kernel
theorem dX10_better_32 : decode cX10_better 32 = .ok (.ifCond .ne 6, 3) := by decide +kernel
theorem dX10_better_35 : decode cX10_better 35 = .ok (.bipush (-2), 2) := by decide +kernel
theorem dX10_better_37 : decode cX10_better 37 = .ok (.ireturn, 1) := by decide +kernel
theorem dX10_better_38 : decode cX10_better 38 = .ok (.aload_n 0, 1) := by decide +kernel
theorem dX10_better_39 : decode cX10_better 39 = .ok (.getfield 66, 3) := by decide +kernel
theorem dX10_better_42 : decode cX10_better 42 = .ok (.iload_n 1, 1) := by decide +kernel
theorem dX10_better_43 : decode cX10_better 43 = .ok (.iload_n 2, 1) := by decide +kernel
theorem dX10_better_44 : decode cX10_better 44 = .ok (.invokevirtual 181, 3) := by decide +kernel
theorem dX10_better_47 : decode cX10_better 47 = .ok (.iload_n 3, 1) := by decide +kernel
theorem dX10_better_48 : decode cX10_better 48 = .ok (.invokestatic 184, 3) := by decide +kernel
theorem dX10_better_51 : decode cX10_better 51 = .ok (.ireturn, 1) := by decide +kernel
theorem dX10_ring_0 : decode cX10_ring 0 = .ok (.iload_n 1, 1) := by decide +kernel
theorem dX10_ring_1 : decode cX10_ring 1 = .ok (.iconst 2, 1) := by decide +kernel
theorem dX10_ring_2 : decode cX10_ring 2 = .ok (.invokestatic 81, 3) := by decide +kernel
theorem dX10_ring_5 : decode cX10_ring 5 = .ok (.ifCond .ne 6, 3) := by decide +kernel
theorem dX10_ring_8 : decode cX10_ring 8 = .ok (.bipush (-2), 2) := by decide +kernel
theorem dX10_ring_10 : decode cX10_ring 10 = .ok (.ireturn, 1) := by decide +kernel
theorem dX10_ring_11 : decode cX10_ring 11 = .ok (.aload_n 0, 1) := by decide +kernel
theorem dX10_ring_12 : decode cX10_ring 12 = .ok (.invokevirtual 97, 3) := by decide +kernel
theorem dX10_ring_15 : decode cX10_ring 15 = .ok (.aload_n 0, 1) := by decide +kernel
theorem dX10_ring_16 : decode cX10_ring 16 = .ok (.invokevirtual 187, 3) := by decide +kernel
theorem dX10_ring_19 : decode cX10_ring 19 = .ok (.istore_n 2, 1) := by decide +kernel
theorem dX10_ring_20 : decode cX10_ring 20 = .ok (.iload_n 1, 1) := by decide +kernel
theorem dX10_ring_21 : decode cX10_ring 21 = .ok (.ifCond .ne 7, 3) := by decide +kernel
theorem dX10_ring_24 : decode cX10_ring 24 = .ok (.iload_n 2, 1) := by decide +kernel
theorem dX10_ring_25 : decode cX10_ring 25 = .ok (.goto 8, 3) := by decide +kernel
theorem dX10_ring_28 : decode cX10_ring 28 = .ok (.aload_n 0, 1) := by decide +kernel
theorem dX10_ring_29 : decode cX10_ring 29 = .ok (.iload_n 2, 1) := by decide +kernel
theorem dX10_ring_30 : decode cX10_ring 30 = .ok (.invokevirtual 190, 3) := by decide +kernel
theorem dX10_ring_33 : decode cX10_ring 33 = .ok (.ireturn, 1) := by decide +kernel
theorem dX10_spare_0 : decode cX10_spare 0 = .ok (.iload_n 1, 1) := by decide +kernel
theorem dX10_spare_1 : decode cX10_spare 1 = .ok (.iconst (-1), 1) := by decide +kernel
theorem dX10_spare_2 : decode cX10_spare 2 = .ok (.if_icmp .lt 8, 3) := by decide +kernel
theorem dX10_spare_5 : decode cX10_spare 5 = .ok (.iload_n 1, 1) := by decide +kernel
theorem dX10_spare_6 : decode cX10_spare 6 = .ok (.iconst 1, 1) := by decide +kernel
theorem dX10_spare_7 : decode cX10_spare 7 = .ok (.if_icmp .le 6, 3) := by decide +kernel
theorem dX10_spare_10 : decode cX10_spare 10 = .ok (.bipush (-2), 2) := by decide +kernel
theorem dX10_spare_12 : decode cX10_spare 12 = .ok (.ireturn, 1) := by decide +kernel
theorem dX10_spare_13 : decode cX10_spare 13 = .ok (.aload_n 0, 1) := by decide +kernel
theorem dX10_spare_14 : decode cX10_spare 14 = .ok (.invokevirtual 97, 3) := by decide +kernel
theorem dX10_spare_17 : decode cX10_spare 17 = .ok (.aload_n 0, 1) := by decide +kernel
theorem dX10_spare_18 : decode cX10_spare 18 = .ok (.getfield 66, 3) := by decide +kernel
theorem dX10_spare_21 : decode cX10_spare 21 = .ok (.invokevirtual 193, 3) := by decide +kernel
theorem dX10_spare_24 : decode cX10_spare 24 = .ok (.iload_n 1, 1) := by decide +kernel
theorem dX10_spare_25 : decode cX10_spare 25 = .ok (.invokestatic 196, 3) := by decide +kernel
theorem dX10_spare_28 : decode cX10_spare 28 = .ok (.ireturn, 1) := by decide +kernel
theorem dX10_never_0 : decode cX10_never 0 = .ok (.aload_n 0, 1) := by decide +kernel
theorem dX10_never_1 : decode cX10_never 1 = .ok (.invokevirtual 97, 3) := by decide +kernel
theorem dX10_never_4 : decode cX10_never 4 = .ok (.aload_n 0, 1) := by decide +kernel
theorem dX10_never_5 : decode cX10_never 5 = .ok (.getfield 66, 3) := by decide +kernel
theorem dX10_never_8 : decode cX10_never 8 = .ok (.invokevirtual 203, 3) := by decide +kernel
theorem dX10_never_11 : decode cX10_never 11 = .ok (.ireturn, 1) := by decide +kernel
theorem dX10_was_0 : decode cX10_was 0 = .ok (.aload_n 0, 1) := by decide +kernel
theorem dX10_was_1 : decode cX10_was 1 = .ok (.invokevirtual 97, 3) := by decide +kernel
theorem dX10_was_4 : decode cX10_was 4 = .ok (.iload_n 1, 1) := by decide +kernel
theorem dX10_was_5 : decode cX10_was 5 = .ok (.aload_n 0, 1) := by decide +kernel
theorem dX10_was_6 : decode cX10_was 6 = .ok (.getfield 22, 3) := by decide +kernel
theorem dX10_was_9 : decode cX10_was 9 = .ok (.getfield 104, 3) := by decide +kernel
theorem dX10_was_12 : decode cX10_was 12 = .ok (.invokestatic 81, 3) := by decide +kernel
theorem dX10_was_15 : decode cX10_was 15 = .ok (.ifCond .eq 11, 3) := by decide +kernel
theorem dX10_was_18 : decode cX10_was 18 = .ok (.iload_n 2, 1) := by decide +kernel
theorem dX10_was_19 : decode cX10_was 19 = .ok (.iconst 2, 1) := by decide +kernel
theorem dX10_was_20 : decode cX10_was 20 = .ok (.invokestatic 81, 3) := by decide +kernel
theorem dX10_was_23 : decode cX10_was 23 = .ok (.ifCond .ne 6, 3) := by decide +kernel
theorem dX10_was_26 : decode cX10_was 26 = .ok (.bipush (-2), 2) := by decide +kernel
theorem dX10_was_28 : decode cX10_was 28 = .ok (.ireturn, 1) := by decide +kernel
theorem dX10_was_29 : decode cX10_was 29 = .ok (.iload_n 2, 1) := by decide +kernel
theorem dX10_was_30 : decode cX10_was 30 = .ok (.ifCond .ne 14, 3) := by decide +kernel
theorem dX10_was_33 : decode cX10_was 33 = .ok (.aload_n 0, 1) := by decide +kernel
theorem dX10_was_34 : decode cX10_was 34 = .ok (.getfield 66, 3) := by decide +kernel
theorem dX10_was_37 : decode cX10_was 37 = .ok (.iload_n 1, 1) := by decide +kernel
theorem dX10_was_38 : decode cX10_was 38 = .ok (.invokevirtual 206, 3) := by decide +kernel
theorem dX10_was_41 : decode cX10_was 41 = .ok (.goto 11, 3) := by decide +kernel
theorem dX10_was_44 : decode cX10_was 44 = .ok (.aload_n 0, 1) := by decide +kernel
theorem dX10_was_45 : decode cX10_was 45 = .ok (.getfield 66, 3) := by decide +kernel
theorem dX10_was_48 : decode cX10_was 48 = .ok (.iload_n 1, 1) := by decide +kernel
theorem dX10_was_49 : decode cX10_was 49 = .ok (.invokevirtual 209, 3) := by decide +kernel
theorem dX10_was_52 : decode cX10_was 52 = .ok (.ireturn, 1) := by decide +kernel
theorem dX10_ask_0 : decode cX10_ask 0 = .ok (.aload_n 0, 1) := by decide +kernel
theorem dX10_ask_1 : decode cX10_ask 1 = .ok (.invokevirtual 97, 3) := by decide +kernel
theorem dX10_ask_4 : decode cX10_ask 4 = .ok (.iload_n 1, 1) := by decide +kernel
theorem dX10_ask_5 : decode cX10_ask 5 = .ok (.aload_n 0, 1) := by decide +kernel
theorem dX10_ask_6 : decode cX10_ask 6 = .ok (.getfield 22, 3) := by decide +kernel
theorem dX10_ask_9 : decode cX10_ask 9 = .ok (.getfield 104, 3) := by decide +kernel
theorem dX10_ask_12 : decode cX10_ask 12 = .ok (.invokestatic 81, 3) := by decide +kernel
theorem dX10_ask_15 : decode cX10_ask 15 = .ok (.ifCond .ne 6, 3) := by decide +kernel
theorem dX10_ask_18 : decode cX10_ask 18 = .ok (.bipush (-2), 2) := by decide +kernel
theorem dX10_ask_20 : decode cX10_ask 20 = .ok (.ireturn, 1) := by decide +kernel
theorem dX10_ask_21 : decode cX10_ask 21 = .ok (.aload_n 0, 1) := by decide +kernel
theorem dX10_ask_22 : decode cX10_ask 22 = .ok (.getfield 66, 3) := by decide +kernel
theorem dX10_ask_25 : decode cX10_ask 25 = .ok (.iload_n 1, 1) := by decide +kernel
theorem dX10_ask_26 : decode cX10_ask 26 = .ok (.invokevirtual 212, 3) := by decide +kernel
theorem dX10_ask_29 : decode cX10_ask 29 = .ok (.ireturn, 1) := by decide +kernel
theorem dX10_chance_0 : decode cX10_chance 0 = .ok (.aload_n 0, 1) := by decide +kernel
theorem dX10_chance_1 : decode cX10_chance 1 = .ok (.invokevirtual 97, 3) := by decide +kernel
theorem dX10_chance_4 : decode cX10_chance 4 = .ok (.iload_n 1, 1) := by decide +kernel
theorem dX10_chance_5 : decode cX10_chance 5 = .ok (.bipush 17, 2) := by decide +kernel
theorem dX10_chance_7 : decode cX10_chance 7 = .ok (.invokestatic 81, 3) := by decide +kernel
theorem dX10_chance_10 : decode cX10_chance 10 = .ok (.ifCond .eq 25, 3) := by decide +kernel
theorem dX10_chance_13 : decode cX10_chance 13 = .ok (.iload_n 2, 1) := by decide +kernel
theorem dX10_chance_14 : decode cX10_chance 14 = .ok (.aload_n 0, 1) := by decide +kernel
theorem dX10_chance_15 : decode cX10_chance 15 = .ok (.getfield 22, 3) := by decide +kernel
theorem dX10_chance_18 : decode cX10_chance 18 = .ok (.getfield 104, 3) := by decide +kernel
theorem dX10_chance_21 : decode cX10_chance 21 = .ok (.invokestatic 81, 3) := by decide +kernel
theorem dX10_chance_24 : decode cX10_chance 24 = .ok (.ifCond .eq 11, 3) := by decide +kernel
theorem dX10_chance_27 : decode cX10_chance 27 = .ok (.iload_n 3, 1) := by decide +kernel
theorem dX10_chance_28 : decode cX10_chance 28 = .ok (.iconst 2, 1) := by decide +kernel
theorem dX10_chance_29 : decode cX10_chance 29 = .ok (.invokestatic 81, 3) := by decide +kernel
theorem dX10_chance_32 : decode cX10_chance 32 = .ok (.ifCond .ne 7, 3) := by decide +kernel
theorem dX10_chance_35 : decode cX10_chance 35 = .ok (.ldc2_w 215, 3) := by decide +kernel
theorem dX10_chance_38 : decode cX10_chance 38 = .ok (.lreturn, 1) := by decide +kernel
theorem dX10_chance_39 : decode cX10_chance 39 = .ok (.aload_n 0, 1) := by decide +kernel
theorem dX10_chance_40 : decode cX10_chance 40 = .ok (.aload_n 0, 1) := by decide +kernel
theorem dX10_chance_41 : decode cX10_chance 41 = .ok (.getfield 66, 3) := by decide +kernel
theorem dX10_chance_44 : decode cX10_chance 44 = .ok (.iload_n 1, 1) := by decide +kernel
theorem dX10_chance_45 : decode cX10_chance 45 = .ok (.iload_n 2, 1) := by decide +kernel
theorem dX10_chance_46 : decode cX10_chance 46 = .ok (.invokevirtual 217, 3) := by decide +kernel
theorem dX10_chance_49 : decode cX10_chance 49 = .ok (.iload_n 3, 1) := by decide +kernel
theorem dX10_chance_50 : decode cX10_chance 50 = .ok (.invokevirtual 221, 3) := by decide +kernel
theorem dX10_chance_53 : decode cX10_chance 53 = .ok (.lreturn, 1) := by decide +kernel
theorem dX10_ages_0 : decode cX10_ages 0 = .ok (.iload_n 2, 1) := by decide +kernel
theorem dX10_ages_1 : decode cX10_ages 1 = .ok (.bipush 9, 2) := by decide +kernel
theorem dX10_ages_3 : decode cX10_ages 3 = .ok (.invokestatic 81, 3) := by decide +kernel
theorem dX10_ages_6 : decode cX10_ages 6 = .ok (.ifCond .eq 11, 3) := by decide +kernel
theorem dX10_ages_9 : decode cX10_ages 9 = .ok (.iload_n 3, 1) := by decide +kernel
theorem dX10_ages_10 : decode cX10_ages 10 = .ok (.iconst 2, 1) := by decide +kernel
theorem dX10_ages_11 : decode cX10_ages 11 = .ok (.invokestatic 81, 3) := by decide +kernel
theorem dX10_ages_14 : decode cX10_ages 14 = .ok (.ifCond .ne 6, 3) := by decide +kernel
theorem dX10_ages_17 : decode cX10_ages 17 = .ok (.bipush (-2), 2) := by decide +kernel
theorem dX10_ages_19 : decode cX10_ages 19 = .ok (.ireturn, 1) := by decide +kernel
theorem dX10_ages_20 : decode cX10_ages 20 = .ok (.aload_n 0, 1) := by decide +kernel
theorem dX10_ages_21 : decode cX10_ages 21 = .ok (.invokevirtual 97, 3) := by decide +kernel
theorem dX10_ages_24 : decode cX10_ages 24 = .ok (.aload_n 0, 1) := by decide +kernel
theorem dX10_ages_25 : decode cX10_ages 25 = .ok (.getfield 66, 3) := by decide +kernel
theorem dX10_ages_28 : decode cX10_ages 28 = .ok (.iload_n 1, 1) := by decide +kernel
theorem dX10_ages_29 : decode cX10_ages 29 = .ok (.iload_n 2, 1) := by decide +kernel
theorem dX10_ages_30 : decode cX10_ages 30 = .ok (.invokevirtual 225, 3) := by decide +kernel
theorem dX10_ages_33 : decode cX10_ages 33 = .ok (.iload_n 3, 1) := by decide +kernel
theorem dX10_ages_34 : decode cX10_ages 34 = .ok (.ifCond .ne 16, 3) := by decide +kernel
theorem dX10_ages_37 : decode cX10_ages 37 = .ok (.aload_n 0, 1) := by decide +kernel
theorem dX10_ages_38 : decode cX10_ages 38 = .ok (.getfield 66, 3) := by decide +kernel
theorem dX10_ages_41 : decode cX10_ages 41 = .ok (.getfield 229, 3) := by decide +kernel
theorem dX10_ages_44 : decode cX10_ages 44 = .ok (.getfield 150, 3) := by decide +kernel
theorem dX10_ages_47 : decode cX10_ages 47 = .ok (.goto 13, 3) := by decide +kernel
theorem dX10_ages_50 : decode cX10_ages 50 = .ok (.aload_n 0, 1) := by decide +kernel
theorem dX10_ages_51 : decode cX10_ages 51 = .ok (.getfield 66, 3) := by decide +kernel
theorem dX10_ages_54 : decode cX10_ages 54 = .ok (.getfield 229, 3) := by decide +kernel
theorem dX10_ages_57 : decode cX10_ages 57 = .ok (.invokevirtual 230, 3) := by decide +kernel
theorem dX10_ages_60 : decode cX10_ages 60 = .ok (.ireturn, 1) := by decide +kernel
theorem dX10_count_0 : decode cX10_count 0 = .ok (.aload_n 0, 1) := by decide +kernel
theorem dX10_count_1 : decode cX10_count 1 = .ok (.invokevirtual 97, 3) := by decide +kernel
theorem dX10_count_4 : decode cX10_count 4 = .ok (.aload_n 0, 1) := by decide +kernel
theorem dX10_count_5 : decode cX10_count 5 = .ok (.iload_n 1, 1) := by decide +kernel
theorem dX10_count_6 : decode cX10_count 6 = .ok (.invokevirtual 260, 3) := by decide +kernel
theorem dX10_count_9 : decode cX10_count 9 = .ok (.ireturn, 1) := by decide +kernel
theorem dX10_tally_0 : decode cX10_tally 0 = .ok (.iload_n 1, 1) := by decide +kernel
theorem dX10_tally_1 : decode cX10_tally 1 = .ok (.tableswitch 123 0 8 #[51, 59, 67, 75, 83, 91, 99, 107, 115], 51) := by decide +kernel
theorem dX10_tally_52 : decode cX10_tally 52 = .ok (.aload_n 0, 1) := by decide +kernel
theorem dX10_tally_53 : decode cX10_tally 53 = .ok (.getfield 22, 3) := by decide +kernel
theorem dX10_tally_56 : decode cX10_tally 56 = .ok (.getfield 104, 3) := by decide +kernel
theorem dX10_tally_59 : decode cX10_tally 59 = .ok (.ireturn, 1) := by decide +kernel
theorem dX10_tally_60 : decode cX10_tally 60 = .ok (.aload_n 0, 1) := by decide +kernel
theorem dX10_tally_61 : decode cX10_tally 61 = .ok (.getfield 29, 3) := by decide +kernel
theorem dX10_tally_64 : decode cX10_tally 64 = .ok (.getfield 281, 3) := by decide +kernel
theorem dX10_tally_67 : decode cX10_tally 67 = .ok (.ireturn, 1) := by decide +kernel
theorem dX10_tally_68 : decode cX10_tally 68 = .ok (.aload_n 0, 1) := by decide +kernel
theorem dX10_tally_69 : decode cX10_tally 69 = .ok (.getfield 12, 3) := by decide +kernel
theorem dX10_tally_72 : decode cX10_tally 72 = .ok (.getfield 89, 3) := by decide +kernel
theorem dX10_tally_75 : decode cX10_tally 75 = .ok (.ireturn, 1) := by decide +kernel
theorem dX10_tally_76 : decode cX10_tally 76 = .ok (.aload_n 0, 1) := by decide +kernel
theorem dX10_tally_77 : decode cX10_tally 77 = .ok (.getfield 16, 3) := by decide +kernel
theorem dX10_tally_80 : decode cX10_tally 80 = .ok (.getfield 89, 3) := by decide +kernel
theorem dX10_tally_83 : decode cX10_tally 83 = .ok (.ireturn, 1) := by decide +kernel
theorem dX10_tally_84 : decode cX10_tally 84 = .ok (.aload_n 0, 1) := by decide +kernel
theorem dX10_tally_85 : decode cX10_tally 85 = .ok (.getfield 36, 3) := by decide +kernel
theorem dX10_tally_88 : decode cX10_tally 88 = .ok (.getfield 119, 3) := by decide +kernel
theorem dX10_tally_91 : decode cX10_tally 91 = .ok (.ireturn, 1) := by decide +kernel
theorem dX10_tally_92 : decode cX10_tally 92 = .ok (.aload_n 0, 1) := by decide +kernel
theorem dX10_tally_93 : decode cX10_tally 93 = .ok (.getfield 57, 3) := by decide +kernel
theorem dX10_tally_96 : decode cX10_tally 96 = .ok (.getfield 150, 3) := by decide +kernel
theorem dX10_tally_99 : decode cX10_tally 99 = .ok (.ireturn, 1) := by decide +kernel
theorem dX10_tally_100 : decode cX10_tally 100 = .ok (.aload_n 0, 1) := by decide +kernel
theorem dX10_tally_101 : decode cX10_tally 101 = .ok (.getfield 57, 3) := by decide +kernel
theorem dX10_tally_104 : decode cX10_tally 104 = .ok (.invokevirtual 230, 3) := by decide +kernel
theorem dX10_tally_107 : decode cX10_tally 107 = .ok (.ireturn, 1) := by decide +kernel
theorem dX10_tally_108 : decode cX10_tally 108 = .ok (.aload_n 0, 1) := by decide +kernel
theorem dX10_tally_109 : decode cX10_tally 109 = .ok (.getfield 43, 3) := by decide +kernel
theorem dX10_tally_112 : decode cX10_tally 112 = .ok (.getfield 199, 3) := by decide +kernel
theorem dX10_tally_115 : decode cX10_tally 115 = .ok (.ireturn, 1) := by decide +kernel
theorem dX10_tally_116 : decode cX10_tally 116 = .ok (.aload_n 0, 1) := by decide +kernel
theorem dX10_tally_117 : decode cX10_tally 117 = .ok (.getfield 50, 3) := by decide +kernel
theorem dX10_tally_120 : decode cX10_tally 120 = .ok (.getfield 282, 3) := by decide +kernel
theorem dX10_tally_123 : decode cX10_tally 123 = .ok (.ireturn, 1) := by decide +kernel
theorem dX10_tally_124 : decode cX10_tally 124 = .ok (.bipush (-2), 2) := by decide +kernel
theorem dX10_tally_126 : decode cX10_tally 126 = .ok (.ireturn, 1) := by decide +kernel
theorem dX10_bestBell_0 : decode cX10_bestBell 0 = .ok (.iconst 0, 1) := by decide +kernel
theorem dX10_bestBell_1 : decode cX10_bestBell 1 = .ok (.istore_n 1, 1) := by decide +kernel
theorem dX10_bestBell_2 : decode cX10_bestBell 2 = .ok (.iconst 1, 1) := by decide +kernel
theorem dX10_bestBell_3 : decode cX10_bestBell 3 = .ok (.istore_n 2, 1) := by decide +kernel
theorem dX10_bestBell_4 : decode cX10_bestBell 4 = .ok (.iload_n 2, 1) := by decide +kernel
theorem dX10_bestBell_5 : decode cX10_bestBell 5 = .ok (.bipush 24, 2) := by decide +kernel
theorem dX10_bestBell_7 : decode cX10_bestBell 7 = .ok (.if_icmp .ge 24, 3) := by decide +kernel
theorem dX10_bestBell_10 : decode cX10_bestBell 10 = .ok (.aload_n 0, 1) := by decide +kernel
theorem dX10_bestBell_11 : decode cX10_bestBell 11 = .ok (.iload_n 2, 1) := by decide +kernel
theorem dX10_bestBell_12 : decode cX10_bestBell 12 = .ok (.invokevirtual 190, 3) := by decide +kernel
theorem dX10_bestBell_15 : decode cX10_bestBell 15 = .ok (.aload_n 0, 1) := by decide +kernel
theorem dX10_bestBell_16 : decode cX10_bestBell 16 = .ok (.iload_n 1, 1) := by decide +kernel
theorem dX10_bestBell_17 : decode cX10_bestBell 17 = .ok (.invokevirtual 190, 3) := by decide +kernel
theorem dX10_bestBell_20 : decode cX10_bestBell 20 = .ok (.if_icmp .le 5, 3) := by decide +kernel
theorem dX10_bestBell_23 : decode cX10_bestBell 23 = .ok (.iload_n 2, 1) := by decide +kernel
theorem dX10_bestBell_24 : decode cX10_bestBell 24 = .ok (.istore_n 1, 1) := by decide +kernel
theorem dX10_bestBell_25 : decode cX10_bestBell 25 = .ok (.iinc 2 1, 3) := by decide +kernel
theorem dX10_bestBell_28 : decode cX10_bestBell 28 = .ok (.goto (-24), 3) := by decide +kernel
theorem dX10_bestBell_31 : decode cX10_bestBell 31 = .ok (.iload_n 1, 1) := by decide +kernel
theorem dX10_bestBell_32 : decode cX10_bestBell 32 = .ok (.ireturn, 1) := by decide +kernel
theorem dX6_partOf_0 : decode cX6_partOf 0 = .ok (.iload_n 1, 1) := by decide +kernel
theorem dX6_partOf_1 : decode cX6_partOf 1 = .ok (.aload_n 0, 1) := by decide +kernel
theorem dX6_partOf_2 : decode cX6_partOf 2 = .ok (.getfield 23, 3) := by decide +kernel
theorem dX6_partOf_5 : decode cX6_partOf 5 = .ok (.if_icmp .ge 14, 3) := by decide +kernel
theorem dX6_partOf_8 : decode cX6_partOf 8 = .ok (.aload_n 0, 1) := by decide +kernel
theorem dX6_partOf_9 : decode cX6_partOf 9 = .ok (.getfield 27, 3) := by decide +kernel
theorem dX6_partOf_12 : decode cX6_partOf 12 = .ok (.iload_n 1, 1) := by decide +kernel
theorem dX6_partOf_13 : decode cX6_partOf 13 = .ok (.aaload, 1) := by decide +kernel
theorem dX6_partOf_14 : decode cX6_partOf 14 = .ok (.iload_n 2, 1) := by decide +kernel
theorem dX6_partOf_15 : decode cX6_partOf 15 = .ok (.iaload, 1) := by decide +kernel
theorem dX6_partOf_16 : decode cX6_partOf 16 = .ok (.goto 4, 3) := by decide +kernel
theorem dX6_partOf_19 : decode cX6_partOf 19 = .ok (.iconst (-1), 1) := by decide +kernel
theorem dX6_partOf_20 : decode cX6_partOf 20 = .ok (.ireturn, 1) := by decide +kernel
theorem dX3_division_0 : decode cX3_division 0 = .ok (.iload_n 2, 1) := by decide +kernel
theorem dX3_division_1 : decode cX3_division 1 = .ok (.iconst 2, 1) := by decide +kernel
theorem dX3_division_2 : decode cX3_division 2 = .ok (.if_icmp .ne 10, 3) := by decide +kernel
theorem dX3_division_5 : decode cX3_division 5 = .ok (.aload_n 0, 1) := by decide +kernel
theorem dX3_division_6 : decode cX3_division 6 = .ok (.getfield 23, 3) := by decide +kernel
theorem dX3_division_9 : decode cX3_division 9 = .ok (.iload_n 1, 1) := by decide +kernel
theorem dX3_division_10 : decode cX3_division 10 = .ok (.iaload, 1) := by decide +kernel
theorem dX3_division_11 : decode cX3_division 11 = .ok (.ireturn, 1) := by decide +kernel
theorem dX3_division_12 : decode cX3_division 12 = .ok (.iload_n 2, 1) := by decide +kernel
theorem dX3_division_13 : decode cX3_division 13 = .ok (.ifCond .ne 11, 3) := by decide +kernel
theorem dX3_division_16 : decode cX3_division 16 = .ok (.aload_n 0, 1) := by decide +kernel
theorem dX3_division_17 : decode cX3_division 17 = .ok (.iload_n 1, 1) := by decide +kernel
theorem dX3_division_18 : decode cX3_division 18 = .ok (.invokevirtual 121, 3) := by decide +kernel
theorem dX3_division_21 : decode cX3_division 21 = .ok (.goto 13, 3) := by decide +kernel
theorem dX3_division_24 : decode cX3_division 24 = .ok (.aload_n 0, 1) := by decide +kernel
theorem dX3_division_25 : decode cX3_division 25 = .ok (.getfield 48, 3) := by decide +kernel
theorem dX3_division_28 : decode cX3_division 28 = .ok (.aload_n 0, 1) := by decide +kernel
theorem dX3_division_29 : decode cX3_division 29 = .ok (.iload_n 1, 1) := by decide +kernel
theorem dX3_division_30 : decode cX3_division 30 = .ok (.invokevirtual 121, 3) := by decide +kernel
theorem dX3_division_33 : decode cX3_division 33 = .ok (.isub, 1) := by decide +kernel
theorem dX3_division_34 : decode cX3_division 34 = .ok (.ireturn, 1) := by decide +kernel
theorem dX3_divisionsCarried_0 : decode cX3_divisionsCarried 0 = .ok (.iconst 0, 1) := by decide +kernel
theorem dX3_divisionsCarried_1 : decode cX3_divisionsCarried 1 = .ok (.istore_n 1, 1) := by decide +kernel
theorem dX3_divisionsCarried_2 : decode cX3_divisionsCarried 2 = .ok (.iconst 0, 1) := by decide +kernel
theorem dX3_divisionsCarried_3 : decode cX3_divisionsCarried 3 = .ok (.istore_n 2, 1) := by decide +kernel
theorem dX3_divisionsCarried_4 : decode cX3_divisionsCarried 4 = .ok (.iload_n 2, 1) := by decide +kernel
theorem dX3_divisionsCarried_5 : decode cX3_divisionsCarried 5 = .ok (.bipush 24, 2) := by decide +kernel
theorem dX3_divisionsCarried_7 : decode cX3_divisionsCarried 7 = .ok (.if_icmp .ge 36, 3) := by decide +kernel
theorem dX3_divisionsCarried_10 : decode cX3_divisionsCarried 10 = .ok (.aload_n 0, 1) := by decide +kernel
theorem dX3_divisionsCarried_11 : decode cX3_divisionsCarried 11 = .ok (.getfield 23, 3) := by decide +kernel
theorem dX3_divisionsCarried_14 : decode cX3_divisionsCarried 14 = .ok (.iload_n 2, 1) := by decide +kernel
theorem dX3_divisionsCarried_15 : decode cX3_divisionsCarried 15 = .ok (.iaload, 1) := by decide +kernel
theorem dX3_divisionsCarried_16 : decode cX3_divisionsCarried 16 = .ok (.iconst 1, 1) := by decide +kernel
theorem dX3_divisionsCarried_17 : decode cX3_divisionsCarried 17 = .ok (.if_icmp .ne 20, 3) := by decide +kernel
theorem dX3_divisionsCarried_20 : decode cX3_divisionsCarried 20 = .ok (.iconst 2, 1) := by decide +kernel
theorem dX3_divisionsCarried_21 : decode cX3_divisionsCarried 21 = .ok (.aload_n 0, 1) := by decide +kernel
theorem dX3_divisionsCarried_22 : decode cX3_divisionsCarried 22 = .ok (.iload_n 2, 1) := by decide +kernel
theorem dX3_divisionsCarried_23 : decode cX3_divisionsCarried 23 = .ok (.invokevirtual 121, 3) := by decide +kernel
theorem dX3_divisionsCarried_26 : decode cX3_divisionsCarried 26 = .ok (.imul, 1) := by decide +kernel
theorem dX3_divisionsCarried_27 : decode cX3_divisionsCarried 27 = .ok (.aload_n 0, 1) := by decide +kernel
theorem dX3_divisionsCarried_28 : decode cX3_divisionsCarried 28 = .ok (.getfield 48, 3) := by decide +kernel
theorem dX3_divisionsCarried_31 : decode cX3_divisionsCarried 31 = .ok (.if_icmp .le 6, 3) := by decide +kernel
theorem dX3_divisionsCarried_34 : decode cX3_divisionsCarried 34 = .ok (.iinc 1 1, 3) := by decide +kernel
theorem dX3_divisionsCarried_37 : decode cX3_divisionsCarried 37 = .ok (.iinc 2 1, 3) := by decide +kernel
theorem dX3_divisionsCarried_40 : decode cX3_divisionsCarried 40 = .ok (.goto (-36), 3) := by decide +kernel
theorem dX3_divisionsCarried_43 : decode cX3_divisionsCarried 43 = .ok (.iload_n 1, 1) := by decide +kernel
theorem dX3_divisionsCarried_44 : decode cX3_divisionsCarried 44 = .ok (.ireturn, 1) := by decide +kernel
theorem c_partOf (D : Deb) {f0 f1 : Int32} (S : setP D f0 f1 σ) (u j : Nat) (hu : u < 12) (hj : j < 3) : mMet G l d kX6_partOf [.ref 15, .int (nI u), .int (nI j)] σ (qI (slA D u j) σ) := by
  have hn := S.s12
  refine mMet.of cm_X6_partOf rfl (Nat.le_of_ble_eq_true rfl) rfl (fun v1 σ1 h => by rw [h.1]; rfl) ?_
  refine m_iload_n dX6_partOf_0 1 rfl ?_
  refine m_aload_n dX6_partOf_1 0 rfl ?_
  refine m_getI 3 dX6_partOf_2 fl_X6_23_6 rfl (by decide) (by first | assumption | rfl) ?_
  refine mW.top S.ns ?_
  refine m_icmp_ge dX6_partOf_5 19 (by decide) (fun z1 => ?_) (fun z1 => ?_)
  · have z2 := (nle (by omega) (by omega)).mp z1
    refine m_iconst (v := -1) dX6_partOf_19 (by decide) ?_
    exact m_ireturn dX6_partOf_20 (qI_of (by unfold slA; rw [if_pos z2]))
  · have z2 : ¬ D.2.1.1 ≤ u := fun q => z1 ((nle (by omega) (by omega)).mpr q)
    have hs := sh_ste (k := u) (by omega)
    have e1 : σ.1 (16 + 1 + u) j = D.2.1.2 u j := S.srow (by omega) hj
    refine m_aload_n dX6_partOf_8 0 rfl ?_
    refine m_getR 0 16 dX6_partOf_9 fl_X6_27_6 rfl (by decide) rfl (by first | assumption | rfl) ?_
    refine m_iload_n dX6_partOf_12 1 rfl ?_
    refine m_aald dX6_partOf_13 (by first | assumption | rfl) u rfl (by omega) ?_
    refine m_iload_n dX6_partOf_14 2 rfl ?_
    refine m_iald dX6_partOf_15 (by first | assumption | rfl) j rfl (by first | assumption | omega | decide) ?_
    refine mW.top e1 ?_
    refine m_goto dX6_partOf_16 20 (by decide) ?_
    exact m_ireturn dX6_partOf_20 (qI_of (by unfold slA; rw [if_neg z2]))
theorem c_division (hd : 2 ≤ d) (D : Deb) {f0 f1 : Int32} (S : setP D f0 f1 σ) (t : Nat) (ht : t < 24) (w : Int32) (w2 : wI w 3) : mMet G l d kX3_division [.ref 47, .int (nI t), .int w] σ (qI (hoA D t w) σ) := by
  refine mMet.of cm_X3_division rfl (Nat.le_of_ble_eq_true rfl) rfl (fun v1 σ1 h => by rw [h.1]; rfl) ?_
  refine m_iload_n dX3_division_0 2 rfl ?_
  refine m_iconst (v := 2) dX3_division_1 (by decide) ?_
  refine m_icmp_ne dX3_division_2 12 (by decide) (fun z1 => ?_) (fun z1 => ?_)
  rotate_left
  · have e1 : σ.1 (47 + 16) t = rungD D (nI t) := (S.out.2 t ht).1
    refine m_aload_n dX3_division_5 0 rfl ?_
    refine m_getR 3 (_ + 16) dX3_division_6 fl_X3_23_3 rfl (by decide) rfl (by first | assumption | rfl) ?_
    refine m_iload_n dX3_division_9 1 rfl ?_
    refine m_iald dX3_division_10 (by first | assumption | rfl) t rfl (by first | assumption | omega | decide) ?_
    refine mW.top e1 ?_
    exact m_ireturn dX3_division_11 (qI_of (by rw [hoA, z1, if_neg (by decide), if_neg (by decide)]))
  refine m_iload_n dX3_division_12 2 rfl ?_
  refine m_if_ne dX3_division_13 24 (by decide) (fun z2 => ?_) (fun z2 => ?_)
  · refine m_aload_n dX3_division_24 0 rfl ?_
    refine m_getI 5 dX3_division_25 fl_X3_48_3 rfl (by decide) (by first | assumption | rfl) ?_
    refine mW.top S.out.1.1 ?_
    refine m_aload_n dX3_division_28 0 rfl ?_
    refine m_iload_n dX3_division_29 1 rfl ?_
    refine m_callV (As := [_]) dX3_division_30 cv_X3_121 (by first | assumption | rfl) (by decide) (by omega) rfl rfl (Nat.le_of_ble_eq_true rfl) (c_ayes (d := d - 1) (by omega) (Or.inl rfl) D S.n8 S.out t ht) (fun v1 σ1 hv1 => ?_)
    refine m_qI hv1 ?_
    clear hv1 v1 σ1
    refine m_isub dX3_division_33 ?_
    refine m_ireturn dX3_division_34 (qI_of ?_)
    obtain ⟨j, hj, rfl⟩ := wI_of (by decide) w2
    have h1 : ¬ j = 2 := fun q => z1 (by rw [q]; rfl)
    have h2 : ¬ j = 0 := fun q => z2 (by rw [q]; rfl)
    have h3 : j = 1 := by omega
    subst h3
    rw [hoA, if_neg (by decide), if_pos (show nI 1 = 1 from rfl)]
  · refine m_aload_n dX3_division_16 0 rfl ?_
    refine m_iload_n dX3_division_17 1 rfl ?_
    refine m_callV (As := [_]) dX3_division_18 cv_X3_121 (by first | assumption | rfl) (by decide) (by omega) rfl rfl (Nat.le_of_ble_eq_true rfl) (c_ayes (d := d - 1) (by omega) (Or.inl rfl) D S.n8 S.out t ht) (fun v1 σ1 hv1 => ?_)
    refine m_qI hv1 ?_
    clear hv1 v1 σ1
    refine m_goto dX3_division_21 34 (by decide) ?_
    exact m_ireturn dX3_division_34 (qI_of (by rw [hoA, if_pos z2]))
theorem c_divisionsCarried (hd : 2 ≤ d) (D : Deb) {f0 f1 : Int32} (S : setP D f0 f1 σ) : mMet G l d kX3_divisionsCarried [.ref 47] σ (qI (caA D) σ) := by
  have hn := S.n8
  refine mMet.of cm_X3_divisionsCarried rfl (Nat.le_of_ble_eq_true rfl) rfl (fun v1 σ1 h => by rw [h.1]; rfl) ?_
  refine m_iconst (v := 0) dX3_divisionsCarried_0 (by decide) ?_
  refine m_istore_n (ls1 := [(1, _), (0, _)]) dX3_divisionsCarried_1 (by decide) rfl ?_
  refine m_iconst (v := 0) dX3_divisionsCarried_2 (by decide) ?_
  refine m_istore_n (ls1 := [(2, _), (1, _), (0, _)]) dX3_divisionsCarried_3 (by decide) rfl ?_
  refine down (N := 24) (fun t (q : Nat) => q = crP D.1.1 (fun t => rungD D (nI t)) (ayD D) t) (fun t q => mW G l d kX3_divisionsCarried 4 [(2, .int (nI t)), (1, .int (nI q)), (0, .ref 47)] [] σ _) ?_ ?_ 0 0 (Nat.zero_le _) rfl
  · rintro q hq
    refine m_iload_n dX3_divisionsCarried_4 0 rfl ?_
    refine m_bipush (v := 24) dX3_divisionsCarried_5 (by decide) ?_
    refine m_icmp_ge dX3_divisionsCarried_7 43 (by decide) (fun h => ?_) (fun h => ?_)
    · refine m_iload_n dX3_divisionsCarried_43 1 rfl ?_
      exact m_ireturn dX3_divisionsCarried_44 (qI_of (by rw [hq]; rfl))
    · exact absurd (Int32.le_refl _) h
  · rintro t q ht hq ih
    have e1 : σ.1 (47 + 16) t = rungD D (nI t) := (S.out.2 t ht).1
    have no : ¬ (rungD D (nI t) = 1 ∧ nI D.1.1 < 2 * nI (ayD D t)) → mW G l d kX3_divisionsCarried 37 [(2, .int (nI t)), (1, .int (nI q)), (0, .ref 47)] [] σ (qI (caA D) σ) := by
      intro z
      refine m_iinc (v := nI (t + 1)) (ls1 := [(2, _), (1, _), (0, _)]) dX3_divisionsCarried_37 0 rfl (nI_1 t) (by decide) rfl ?_
      refine m_goto dX3_divisionsCarried_40 4 (by decide) ?_
      refine ih q ?_
      rw [crP, if_neg z, Nat.add_zero]; exact hq
    refine m_iload_n dX3_divisionsCarried_4 0 rfl ?_
    refine m_bipush (v := 24) dX3_divisionsCarried_5 (by decide) ?_
    refine m_icmp_ge dX3_divisionsCarried_7 43 (by decide) (fun h => ?_) (fun h => ?_)
    · exact absurd ((nle (a := 24) (by omega) (by omega)).mp h) (by omega)
    clear h
    refine m_aload_n dX3_divisionsCarried_10 2 rfl ?_
    refine m_getR 3 (_ + 16) dX3_divisionsCarried_11 fl_X3_23_3 rfl (by decide) rfl (by first | assumption | rfl) ?_
    refine m_iload_n dX3_divisionsCarried_14 0 rfl ?_
    refine m_iald dX3_divisionsCarried_15 (by first | assumption | rfl) t rfl (by first | assumption | omega | decide) ?_
    refine mW.top e1 ?_
    refine m_iconst (v := 1) dX3_divisionsCarried_16 (by decide) ?_
    refine m_icmp_ne dX3_divisionsCarried_17 37 (by decide) (fun z1 => ?_) (fun z1 => ?_)
    · exact no (fun z => z1 z.1)
    refine m_iconst (v := 2) dX3_divisionsCarried_20 (by decide) ?_
    refine m_aload_n dX3_divisionsCarried_21 2 rfl ?_
    refine m_iload_n dX3_divisionsCarried_22 0 rfl ?_
    refine m_callV (As := [_]) dX3_divisionsCarried_23 cv_X3_121 (by first | assumption | rfl) (by decide) (by omega) rfl rfl (Nat.le_of_ble_eq_true rfl) (c_ayes (d := d - 1) (by omega) (Or.inl rfl) D hn S.out t ht) (fun v1 σ1 hv1 => ?_)
    refine m_qI hv1 ?_
    clear hv1 v1 σ1
    refine m_imul dX3_divisionsCarried_26 ?_
    refine m_aload_n dX3_divisionsCarried_27 2 rfl ?_
    refine m_getI 5 dX3_divisionsCarried_28 fl_X3_48_3 rfl (by decide) (by first | assumption | rfl) ?_
    refine mW.top S.out.1.1 ?_
    refine m_icmp_le dX3_divisionsCarried_31 37 (by decide) (fun z2 => ?_) (fun z2 => ?_)
    · exact no (fun z => absurd z.2 (Int32.not_lt.mpr z2))
    refine m_iinc (v := nI (q + 1)) (ls1 := [(1, _), (2, _), (0, _)]) dX3_divisionsCarried_34 1 rfl (nI_1 q) (by decide) rfl ?_
    refine m_iinc (v := nI (t + 1)) (ls1 := [(2, _), (1, _), (0, _)]) dX3_divisionsCarried_37 1 rfl (nI_1 t) (by decide) rfl ?_
    refine m_goto dX3_divisionsCarried_40 4 (by decide) ?_
    refine ih (q + 1) ?_
    rw [crP, if_pos ⟨z1, Int32.not_le.mp z2⟩, ← hq]
theorem c_bestBell (hd : 4 ≤ d) (D : Deb) {f0 f1 : Int32} (S : setP D f0 f1 σ) (J : Nat → Int32) (hJt : ∀ u, nI (agh D u) = J u) : mMet G l d kX10_bestBell [.ref 0] σ (qI (nI (jmP J 23)) σ) := by
  refine mMet.of cm_X10_bestBell rfl (Nat.le_of_ble_eq_true rfl) rfl (fun v1 σ1 h => by rw [h.1]; rfl) ?_
  refine m_iconst (v := 0) dX10_bestBell_0 (by decide) ?_
  refine m_istore_n (ls1 := [(1, _), (0, _)]) dX10_bestBell_1 (by decide) rfl ?_
  refine m_iconst (v := 1) dX10_bestBell_2 (by decide) ?_
  refine m_istore_n (ls1 := [(2, _), (1, _), (0, _)]) dX10_bestBell_3 (by decide) rfl ?_
  refine down (N := 24) (fun t (q : Nat) => 1 ≤ t ∧ q = jmP J (t - 1)) (fun t q => mW G l d kX10_bestBell 4 [(2, .int (nI t)), (1, .int (nI q)), (0, .ref 0)] [] σ _) ?_ ?_ 1 0 (by decide) ⟨Nat.le_refl _, rfl⟩
  · rintro q ⟨-, hq⟩
    have hq : q = jmP J 23 := hq
    refine m_iload_n dX10_bestBell_4 0 rfl ?_
    refine m_bipush (v := 24) dX10_bestBell_5 (by decide) ?_
    refine m_icmp_ge dX10_bestBell_7 31 (by decide) (fun z2 => ?_) (fun z2 => ?_)
    rotate_left
    · exact absurd (Int32.le_refl _) z2
    clear z2
    refine m_iload_n dX10_bestBell_31 1 rfl ?_
    exact m_ireturn dX10_bestBell_32 (qI_of (by rw [hq]))
  · rintro t q ht ⟨ht1, hq⟩ ih
    obtain ⟨u, rfl⟩ : ∃ u, t = u + 1 := ⟨t - 1, by omega⟩
    have hq : q = jmP J u := hq
    have hqu := jmP_le J u
    refine m_iload_n dX10_bestBell_4 0 rfl ?_
    refine m_bipush (v := 24) dX10_bestBell_5 (by decide) ?_
    refine m_icmp_ge dX10_bestBell_7 31 (by decide) (fun z2 => ?_) (fun z2 => ?_)
    · exact absurd ((nle (a := 24) (by omega) (by omega)).mp z2) (by omega)
    clear z2
    refine m_aload_n dX10_bestBell_10 2 rfl ?_
    refine m_iload_n dX10_bestBell_11 0 rfl ?_
    refine m_callV (As := [_]) dX10_bestBell_12 cv_X10_190 rfl (by decide) (by omega) rfl rfl (Nat.le_of_ble_eq_true rfl) (c_ayesAhead (d := d - 1) (by omega) D S (u + 1) ht) (fun v1 σ1 hv1 => ?_)
    refine m_qI hv1 ?_
    clear hv1 v1 σ1
    refine mW.top (hJt _) ?_
    refine m_aload_n dX10_bestBell_15 2 rfl ?_
    refine m_iload_n dX10_bestBell_16 1 rfl ?_
    refine m_callV (As := [_]) dX10_bestBell_17 cv_X10_190 rfl (by decide) (by omega) rfl rfl (Nat.le_of_ble_eq_true rfl) (c_ayesAhead (d := d - 1) (by omega) D S q (by omega)) (fun v1 σ1 hv1 => ?_)
    refine m_qI hv1 ?_
    clear hv1 v1 σ1
    refine mW.top (hJt _) ?_
    refine m_icmp_le dX10_bestBell_20 25 (by decide) (fun z2 => ?_) (fun z2 => ?_)
    · refine m_iinc (v := nI (u + 1 + 1)) (ls1 := [(2, _), (1, _), (0, _)]) dX10_bestBell_25 0 rfl (nI_1 (u + 1)) (by decide) rfl ?_
      refine m_goto dX10_bestBell_28 4 (by decide) ?_
      refine ih q ⟨by omega, ?_⟩
      show q = jmP J (u + 1)
      rw [jmP, ← hq, if_neg (Int32.not_lt.mpr z2)]
    · refine m_iload_n dX10_bestBell_23 0 rfl ?_
      refine m_istore_n (ls1 := [(1, _), (2, _), (0, _)]) dX10_bestBell_24 (by decide) rfl ?_
      refine m_iinc (v := nI (u + 1 + 1)) (ls1 := [(2, _), (1, _), (0, _)]) dX10_bestBell_25 1 rfl (nI_1 (u + 1)) (by decide) rfl ?_
      refine m_goto dX10_bestBell_28 4 (by decide) ?_
      refine mW.sub (ls1 := [(2, _), (1, _), (0, _)]) [0, 1, 2] rfl ?_
      refine ih (u + 1) ⟨by omega, ?_⟩
      show u + 1 = jmP J (u + 1)
      rw [jmP, ← hq, if_pos (Int32.not_le.mp z2)]
theorem c_tally (hd : 2 ≤ d) (B : tolC a σ) (S : setA a σ) (w : Int32) : mMet G l d kX10_tally [.ref 0, .int w] σ (qI (cnB a w) σ) := by
  refine mMet.of cm_X10_tally rfl (Nat.le_of_ble_eq_true rfl) rfl (fun v1 σ1 h => by rw [h.1]; rfl) ?_
  have out : (w.toInt < 0 ∨ 8 < w.toInt) → (∀ j, j < 9 → w ≠ nI j) → mW G l d kX10_tally 0 [(0, .ref 0), (1, .int w)] [] σ (qI (cnB a w) σ) := by
    intro ho hj
    refine m_iload_n dX10_tally_0 1 rfl ?_
    refine m_tableOut dX10_tally_1 ho 124 (by decide) ?_
    refine m_bipush (v := -2) dX10_tally_124 (by decide) ?_
    refine m_ireturn dX10_tally_126 (qI_of ?_)
    have e0 : ¬ w = 0 := hj 0 (by decide)
    have e1 : ¬ w = 1 := hj 1 (by decide)
    have e2 : ¬ w = 2 := hj 2 (by decide)
    have e3 : ¬ w = 3 := hj 3 (by decide)
    have e4 : ¬ w = 4 := hj 4 (by decide)
    have e5 : ¬ w = 5 := hj 5 (by decide)
    have e6 : ¬ w = 6 := hj 6 (by decide)
    have e7 : ¬ w = 7 := hj 7 (by decide)
    have e8 : ¬ w = 8 := hj 8 (by decide)
    have e9 : ¬ (w = 0 ∨ w = 1 ∨ w = 5 ∨ w = 6) := fun q => q.elim e0 (fun q => q.elim e1 (fun q => q.elim e5 e6))
    unfold cnB cnA
    rw [if_neg e2, if_neg e3, if_neg e4, if_neg e7, if_neg e8, if_neg e9]
  rcases pk_ix w (n := 9) (by decide) with h1 | h1 | ⟨j, hj, rfl⟩
  · refine out (Or.inl (by rw [Int32.lt_iff_toInt_lt] at h1; exact h1)) (fun j hj q => ?_)
    subst q
    exact absurd h1 (Int32.not_lt.mpr ((nle (a := 0) (by omega) (by omega)).mpr (Nat.zero_le _)))
  · refine out (Or.inr (by rw [Int32.le_iff_toInt_le] at h1; have : (nI 9).toInt = 9 := rfl; omega)) (fun j hj q => ?_)
    subst q
    exact absurd ((nle (by omega) (by omega)).mp h1) (by omega)
  · clear out
    rcases (show j = 0 ∨ j = 1 ∨ j = 2 ∨ j = 3 ∨ j = 4 ∨ j = 5 ∨ j = 6 ∨ j = 7 ∨ j = 8 by omega) with rfl | rfl | rfl | rfl | rfl | rfl | rfl | rfl | rfl
    · refine m_iload_n dX10_tally_0 1 rfl ?_
      refine m_tableIn dX10_tally_1 (by decide) (by decide) (off := 51) (by decide) 52 (by decide) ?_
      refine m_aload_n dX10_tally_52 0 rfl ?_
      refine m_getR 2 5 dX10_tally_53 fl_X10_22_9 rfl (by decide) rfl (by first | assumption | rfl) ?_
      refine m_getI 3 dX10_tally_56 fl_X10_104_0 rfl (by decide) (by first | assumption | rfl) ?_
      refine mW.top S.n ?_
      exact m_ireturn dX10_tally_59 (qI_of rfl)
    · refine m_iload_n dX10_tally_0 1 rfl ?_
      refine m_tableIn dX10_tally_1 (by decide) (by decide) (off := 59) (by decide) 60 (by decide) ?_
      refine m_aload_n dX10_tally_60 0 rfl ?_
      refine m_getR 3 15 dX10_tally_61 fl_X10_29_9 rfl (by decide) rfl (by first | assumption | rfl) ?_
      refine m_getI 3 dX10_tally_64 fl_X10_281_6 rfl (by decide) (by first | assumption | rfl) ?_
      refine mW.top S.ns ?_
      exact m_ireturn dX10_tally_67 (qI_of rfl)
    · refine m_iload_n dX10_tally_0 1 rfl ?_
      refine m_tableIn dX10_tally_1 (by decide) (by decide) (off := 67) (by decide) 68 (by decide) ?_
      refine m_aload_n dX10_tally_68 0 rfl ?_
      refine m_getR 0 1 dX10_tally_69 fl_X10_12_9 rfl (by decide) rfl (by first | assumption | rfl) ?_
      refine m_getI 1 dX10_tally_72 fl_X10_89_7 rfl (by decide) (by first | assumption | rfl) ?_
      refine mW.top B.1.1 ?_
      exact m_ireturn dX10_tally_75 (qI_of rfl)
    · refine m_iload_n dX10_tally_0 1 rfl ?_
      refine m_tableIn dX10_tally_1 (by decide) (by decide) (off := 75) (by decide) 76 (by decide) ?_
      refine m_aload_n dX10_tally_76 0 rfl ?_
      refine m_getR 1 3 dX10_tally_77 fl_X10_16_9 rfl (by decide) rfl (by first | assumption | rfl) ?_
      refine m_getI 1 dX10_tally_80 fl_X10_89_7 rfl (by decide) (by first | assumption | rfl) ?_
      refine mW.top B.2.1.1 ?_
      exact m_ireturn dX10_tally_83 (qI_of rfl)
    · refine m_iload_n dX10_tally_0 1 rfl ?_
      refine m_tableIn dX10_tally_1 (by decide) (by decide) (off := 83) (by decide) 84 (by decide) ?_
      refine m_aload_n dX10_tally_84 0 rfl ?_
      refine m_getR 4 30 dX10_tally_85 fl_X10_36_9 rfl (by decide) rfl (by first | assumption | rfl) ?_
      refine m_getI 3 dX10_tally_88 fl_X10_119_1 rfl (by decide) (by first | assumption | rfl) ?_
      refine mW.top B.2.2.2.2.2.2.1.1 ?_
      exact m_ireturn dX10_tally_91 (qI_of rfl)
    · refine m_iload_n dX10_tally_0 1 rfl ?_
      refine m_tableIn dX10_tally_1 (by decide) (by decide) (off := 91) (by decide) 92 (by decide) ?_
      refine m_aload_n dX10_tally_92 0 rfl ?_
      refine m_getR 7 47 dX10_tally_93 fl_X10_57_9 rfl (by decide) rfl (by first | assumption | rfl) ?_
      refine m_getI 6 dX10_tally_96 fl_X10_150_3 rfl (by decide) (by first | assumption | rfl) ?_
      refine mW.top S.out.1.2.1 ?_
      exact m_ireturn dX10_tally_99 (qI_of rfl)
    · refine m_iload_n dX10_tally_0 1 rfl ?_
      refine m_tableIn dX10_tally_1 (by decide) (by decide) (off := 99) (by decide) 100 (by decide) ?_
      refine m_aload_n dX10_tally_100 0 rfl ?_
      refine m_getR 7 47 dX10_tally_101 fl_X10_57_9 rfl (by decide) rfl (by first | assumption | rfl) ?_
      refine m_callV (As := []) dX10_tally_104 cv_X10_230 (by first | assumption | rfl) (by decide) (by omega) rfl rfl (Nat.le_of_ble_eq_true rfl) (c_allPoints (d := d - 1) (Or.inl rfl) (aD a) S.n8 S.out) (fun v1 σ1 hv1 => ?_)
      refine m_qI hv1 ?_
      clear hv1 v1 σ1
      exact m_ireturn dX10_tally_107 (qI_of rfl)
    · refine m_iload_n dX10_tally_0 1 rfl ?_
      refine m_tableIn dX10_tally_1 (by decide) (by decide) (off := 107) (by decide) 108 (by decide) ?_
      refine m_aload_n dX10_tally_108 0 rfl ?_
      refine m_getR 5 34 dX10_tally_109 fl_X10_43_9 rfl (by decide) rfl (by first | assumption | rfl) ?_
      refine m_getI 4 dX10_tally_112 fl_X10_199_5 rfl (by decide) (by first | assumption | rfl) ?_
      refine mW.top B.2.2.2.2.2.2.2.1.1 ?_
      exact m_ireturn dX10_tally_115 (qI_of rfl)
    · refine m_iload_n dX10_tally_0 1 rfl ?_
      refine m_tableIn dX10_tally_1 (by decide) (by decide) (off := 115) (by decide) 116 (by decide) ?_
      refine m_aload_n dX10_tally_116 0 rfl ?_
      refine m_getR 6 39 dX10_tally_117 fl_X10_50_9 rfl (by decide) rfl (by first | assumption | rfl) ?_
      refine m_getI 3 dX10_tally_120 fl_X10_282_4 rfl (by decide) (by first | assumption | rfl) ?_
      refine mW.top B.2.2.2.2.2.2.2.2 ?_
      exact m_ireturn dX10_tally_123 (qI_of rfl)
theorem k_fault (hd : 8 ≤ d) (A : cA p a σ) (t : Int32) : mMet G l d kX10_fault [.ref 0, .int t] σ (qC p a σ (anFault a t)) := by
  refine mMet.of cm_X10_fault rfl (Nat.le_of_ble_eq_true rfl) rfl qC_fit ?_
  refine m_iload_n dX10_fault_0 1 rfl ?_
  refine m_iconst (v := 2) dX10_fault_1 (by decide) ?_
  refine m_callS (As := [_, _]) dX10_fault_2 cs_X10_81 (by omega) rfl rfl (Nat.le_of_ble_eq_true rfl) (c_within (d := d - 1) t 2) (fun v1 σ1 hv1 => ?_)
  refine m_qI hv1 ?_
  clear hv1 v1 σ1
  refine m_if_ne dX10_fault_5 11 (by decide) (fun z1 => ?_) (fun z1 => ?_)
  rotate_left
  · refine m_bipush (v := -2) dX10_fault_8 (by decide) ?_
    exact m_ireturn dX10_fault_10 (qC_mk (by unfold anFault; exact (if_neg (fun q => bI0 z1 q)).symm) A fW.rf)
  have w1 : wI t 2 := bI1 z1
  refine m_aload_n dX10_fault_11 0 rfl ?_
  refine m_callV (As := []) dX10_fault_12 cv_X10_97 (by first | assumption | rfl) (by decide) (by omega) rfl rfl (Nat.le_of_ble_eq_true rfl) (c_settle (d := d - 1) (by omega) A) (fun v1 σ1 hv1 => ?_)
  refine m_qVP hv1 (fun hq => ?_)
  clear hv1 v1
  rename mS => s1
  obtain ⟨B, S, f⟩ := hq
  have A1 : cA p a s1 := ⟨B, Or.inr S⟩
  refine m_iload_n dX10_fault_15 1 rfl ?_
  refine m_if_ne dX10_fault_16 29 (by decide) (fun z2 => ?_) (fun z2 => ?_)
  · refine m_aload_n dX10_fault_29 0 rfl ?_
    refine m_getR 3 15 dX10_fault_30 fl_X10_29_9 rfl (by decide) rfl (by first | assumption | rfl) ?_
    refine m_getI 4 dX10_fault_33 fl_X10_103_6 rfl (by decide) (by first | assumption | rfl) ?_
    refine mW.top S.2.2.1 ?_
    exact m_ireturn dX10_fault_36 (qC_mk (by unfold anFault; rw [if_pos w1, if_neg z2]) A1 f)
  · refine m_aload_n dX10_fault_19 0 rfl ?_
    refine m_getR 2 5 dX10_fault_20 fl_X10_22_9 rfl (by decide) rfl (by first | assumption | rfl) ?_
    refine m_getI 4 dX10_fault_23 fl_X10_100_0 rfl (by decide) (by first | assumption | rfl) ?_
    refine mW.top S.2.1 ?_
    refine m_goto dX10_fault_26 36 (by decide) ?_
    exact m_ireturn dX10_fault_36 (qC_mk (by unfold anFault; rw [if_pos w1, if_pos z2]) A1 f)
theorem k_car (hd : 8 ≤ d) (A : cA p a σ) (k w : Int32) : mMet G l d kX10_car [.ref 0, .int k, .int w] σ (qC p a σ (anCar a k w)) := by
  refine mMet.of cm_X10_car rfl (Nat.le_of_ble_eq_true rfl) rfl qC_fit ?_
  refine m_aload_n dX10_car_0 0 rfl ?_
  refine m_callV (As := []) dX10_car_1 cv_X10_97 (by first | assumption | rfl) (by decide) (by omega) rfl rfl (Nat.le_of_ble_eq_true rfl) (c_settle (d := d - 1) (by omega) A) (fun v1 σ1 hv1 => ?_)
  refine m_qVP hv1 (fun hq => ?_)
  clear hv1 v1
  rename mS => s1
  obtain ⟨B, S, f⟩ := hq
  have A1 : cA p a s1 := ⟨B, Or.inr S⟩
  have hn := S.n8
  refine m_iload_n dX10_car_4 1 rfl ?_
  refine m_aload_n dX10_car_5 0 rfl ?_
  refine m_getR 2 5 dX10_car_6 fl_X10_22_9 rfl (by decide) rfl (by first | assumption | rfl) ?_
  refine m_getI 3 dX10_car_9 fl_X10_104_0 rfl (by decide) (by first | assumption | rfl) ?_
  refine mW.top S.n ?_
  refine m_callS (As := [_, _]) dX10_car_12 cs_X10_81 (by omega) rfl rfl (Nat.le_of_ble_eq_true rfl) (c_within (d := d - 1) k (nI (aD a).1.1)) (fun v1 σ1 hv1 => ?_)
  refine m_qI hv1 ?_
  clear hv1 v1 σ1
  refine m_if_eq dX10_car_15 26 (by decide) (fun z1 => ?_) (fun z1 => ?_)
  · refine m_bipush (v := -2) dX10_car_26 (by decide) ?_
    exact m_ireturn dX10_car_28 (qC_mk (by unfold anCar; exact (if_neg (fun q => bI0 z1 q.1)).symm) A1 f)
  refine m_iload_n dX10_car_18 2 rfl ?_
  refine m_iconst (v := 5) dX10_car_19 (by decide) ?_
  refine m_callS (As := [_, _]) dX10_car_20 cs_X10_81 (by omega) rfl rfl (Nat.le_of_ble_eq_true rfl) (c_within (d := d - 1) w 5) (fun v1 σ1 hv1 => ?_)
  refine m_qI hv1 ?_
  clear hv1 v1 σ1
  refine m_if_ne dX10_car_23 29 (by decide) (fun z2 => ?_) (fun z2 => ?_)
  rotate_left
  · refine m_bipush (v := -2) dX10_car_26 (by decide) ?_
    exact m_ireturn dX10_car_28 (qC_mk (by unfold anCar; exact (if_neg (fun q => bI0 z2 q.2)).symm) A1 f)
  have w1 : wI k (aD a).1.1 := bI1 z1
  have w2 : wI w 5 := bI1 z2
  clear z1 z2
  obtain ⟨i, hi, rfl⟩ := wI_of (by omega) w1
  obtain ⟨j, hj, rfl⟩ := wI_of (by decide) w2
  have hs := sh_car (k := i) (Or.inl rfl) (show i < 8 by omega)
  have e1 : s1.1 (6 + 1 + i) j = (aD a).1.2 i j := S.row hi hj
  refine m_aload_n dX10_car_29 0 rfl ?_
  refine m_getR 2 5 dX10_car_30 fl_X10_22_9 rfl (by decide) rfl (by first | assumption | rfl) ?_
  refine m_getR 0 6 dX10_car_33 fl_X10_107_0 rfl (by decide) rfl (by first | assumption | rfl) ?_
  refine m_iload_n dX10_car_36 1 rfl ?_
  refine m_aald dX10_car_37 (by first | assumption | rfl) i rfl (by omega) ?_
  refine m_iload_n dX10_car_38 2 rfl ?_
  refine m_iald dX10_car_39 (by first | assumption | rfl) j rfl (by first | assumption | omega | decide) ?_
  refine mW.top e1 ?_
  exact m_ireturn dX10_car_40 (qC_mk (by unfold anCar; rw [if_pos ⟨w1, w2⟩, clN (by omega), clN (by omega)]) A1 f)
theorem k_steer (hd : 8 ≤ d) (A : cA p a σ) (i w : Int32) : mMet G l d kX10_steer [.ref 0, .int i, .int w] σ (qC p a σ (anSteer a i w)) := by
  refine mMet.of cm_X10_steer rfl (Nat.le_of_ble_eq_true rfl) rfl qC_fit ?_
  refine m_iload_n dX10_steer_0 1 rfl ?_
  refine m_bipush (v := 12) dX10_steer_1 (by decide) ?_
  refine m_callS (As := [_, _]) dX10_steer_3 cs_X10_81 (by omega) rfl rfl (Nat.le_of_ble_eq_true rfl) (c_within (d := d - 1) i 12) (fun v1 σ1 hv1 => ?_)
  refine m_qI hv1 ?_
  clear hv1 v1 σ1
  refine m_if_eq dX10_steer_6 17 (by decide) (fun z1 => ?_) (fun z1 => ?_)
  · refine m_bipush (v := -2) dX10_steer_17 (by decide) ?_
    exact m_ireturn dX10_steer_19 (qC_mk (by unfold anSteer; exact (if_neg (fun q => bI0 z1 q.1)).symm) A fW.rf)
  refine m_iload_n dX10_steer_9 2 rfl ?_
  refine m_iconst (v := 3) dX10_steer_10 (by decide) ?_
  refine m_callS (As := [_, _]) dX10_steer_11 cs_X10_81 (by omega) rfl rfl (Nat.le_of_ble_eq_true rfl) (c_within (d := d - 1) w 3) (fun v1 σ1 hv1 => ?_)
  refine m_qI hv1 ?_
  clear hv1 v1 σ1
  refine m_if_ne dX10_steer_14 20 (by decide) (fun z2 => ?_) (fun z2 => ?_)
  rotate_left
  · refine m_bipush (v := -2) dX10_steer_17 (by decide) ?_
    exact m_ireturn dX10_steer_19 (qC_mk (by unfold anSteer; exact (if_neg (fun q => bI0 z2 q.2)).symm) A fW.rf)
  have w1 : wI i 12 := bI1 z1
  have w2 : wI w 3 := bI1 z2
  clear z1 z2
  obtain ⟨u, hu, rfl⟩ := wI_of (by decide) w1
  obtain ⟨j, hj, rfl⟩ := wI_of (by decide) w2
  refine m_aload_n dX10_steer_20 0 rfl ?_
  refine m_callV (As := []) dX10_steer_21 cv_X10_97 (by first | assumption | rfl) (by decide) (by omega) rfl rfl (Nat.le_of_ble_eq_true rfl) (c_settle (d := d - 1) (by omega) A) (fun v1 σ1 hv1 => ?_)
  refine m_qVP hv1 (fun hq => ?_)
  clear hv1 v1
  rename mS => s1
  obtain ⟨B, S, f⟩ := hq
  have A1 : cA p a s1 := ⟨B, Or.inr S⟩
  refine m_aload_n dX10_steer_24 0 rfl ?_
  refine m_getR 3 15 dX10_steer_25 fl_X10_29_9 rfl (by decide) rfl (by first | assumption | rfl) ?_
  refine m_iload_n dX10_steer_28 1 rfl ?_
  refine m_iload_n dX10_steer_29 2 rfl ?_
  refine m_callV (As := [_, _]) dX10_steer_30 cv_X10_111 (by first | assumption | rfl) (by decide) (by omega) rfl rfl (Nat.le_of_ble_eq_true rfl) (c_partOf (d := d - 1) (aD a) S u j hu hj) (fun v1 σ1 hv1 => ?_)
  refine m_qI hv1 ?_
  clear hv1 v1 σ1
  exact m_ireturn dX10_steer_33 (qC_mk (by unfold anSteer; rw [if_pos ⟨w1, w2⟩, clN (by omega), clN (by omega)]) A1 f)
theorem k_at (hd : 8 ≤ d) (A : cA p a σ) (m k w : Int32) : mMet G l d kX10_at [.ref 0, .int m, .int k, .int w] σ (qC p a σ (anAt a m k w)) := by
  refine mMet.of cm_X10_at rfl (Nat.le_of_ble_eq_true rfl) rfl qC_fit ?_
  refine m_aload_n dX10_at_0 0 rfl ?_
  refine m_callV (As := []) dX10_at_1 cv_X10_97 (by first | assumption | rfl) (by decide) (by omega) rfl rfl (Nat.le_of_ble_eq_true rfl) (c_settle (d := d - 1) (by omega) A) (fun v1 σ1 hv1 => ?_)
  refine m_qVP hv1 (fun hq => ?_)
  clear hv1 v1
  rename mS => s1
  obtain ⟨B, S, f⟩ := hq
  have A1 : cA p a s1 := ⟨B, Or.inr S⟩
  have hn := S.n8
  refine m_iload_n dX10_at_4 1 rfl ?_
  refine m_bipush (v := 24) dX10_at_5 (by decide) ?_
  refine m_callS (As := [_, _]) dX10_at_7 cs_X10_81 (by omega) rfl rfl (Nat.le_of_ble_eq_true rfl) (c_within (d := d - 1) m 24) (fun v1 σ1 hv1 => ?_)
  refine m_qI hv1 ?_
  clear hv1 v1 σ1
  refine m_if_eq dX10_at_10 36 (by decide) (fun z1 => ?_) (fun z1 => ?_)
  · refine m_bipush (v := -2) dX10_at_36 (by decide) ?_
    exact m_ireturn dX10_at_38 (qC_mk (by unfold anAt; exact (if_neg (fun q => bI0 z1 q.1)).symm) A1 f)
  refine m_iload_n dX10_at_13 2 rfl ?_
  refine m_aload_n dX10_at_14 0 rfl ?_
  refine m_getR 2 5 dX10_at_15 fl_X10_22_9 rfl (by decide) rfl (by first | assumption | rfl) ?_
  refine m_getI 3 dX10_at_18 fl_X10_104_0 rfl (by decide) (by first | assumption | rfl) ?_
  refine mW.top S.n ?_
  refine m_callS (As := [_, _]) dX10_at_21 cs_X10_81 (by omega) rfl rfl (Nat.le_of_ble_eq_true rfl) (c_within (d := d - 1) k (nI (aD a).1.1)) (fun v1 σ1 hv1 => ?_)
  refine m_qI hv1 ?_
  clear hv1 v1 σ1
  refine m_if_eq dX10_at_24 36 (by decide) (fun z2 => ?_) (fun z2 => ?_)
  · refine m_bipush (v := -2) dX10_at_36 (by decide) ?_
    exact m_ireturn dX10_at_38 (qC_mk (by unfold anAt; exact (if_neg (fun q => bI0 z2 q.2.1)).symm) A1 f)
  refine m_iload_n dX10_at_27 3 rfl ?_
  refine m_bipush (v := 6) dX10_at_28 (by decide) ?_
  refine m_callS (As := [_, _]) dX10_at_30 cs_X10_81 (by omega) rfl rfl (Nat.le_of_ble_eq_true rfl) (c_within (d := d - 1) w 6) (fun v1 σ1 hv1 => ?_)
  refine m_qI hv1 ?_
  clear hv1 v1 σ1
  refine m_if_ne dX10_at_33 39 (by decide) (fun z3 => ?_) (fun z3 => ?_)
  rotate_left
  · refine m_bipush (v := -2) dX10_at_36 (by decide) ?_
    exact m_ireturn dX10_at_38 (qC_mk (by unfold anAt; exact (if_neg (fun q => bI0 z3 q.2.2)).symm) A1 f)
  have w1 : wI m 24 := bI1 z1
  have w2 : wI k (aD a).1.1 := bI1 z2
  have w3 : wI w 6 := bI1 z3
  clear z1 z2 z3
  obtain ⟨t, ht, rfl⟩ := wI_of (by decide) w1
  obtain ⟨i, hi, rfl⟩ := wI_of (by omega) w2
  obtain ⟨j, hj, rfl⟩ := wI_of (by decide) w3
  refine m_aload_n dX10_at_39 0 rfl ?_
  refine m_getR 7 47 dX10_at_40 fl_X10_57_9 rfl (by decide) rfl (by first | assumption | rfl) ?_
  refine m_iload_n dX10_at_43 1 rfl ?_
  refine m_iload_n dX10_at_44 2 rfl ?_
  refine m_iload_n dX10_at_45 3 rfl ?_
  refine m_callV (As := [_, _, _]) dX10_at_46 cv_X10_137 (by first | assumption | rfl) (by decide) (by omega) rfl rfl (Nat.le_of_ble_eq_true rfl) (c_behindD (d := d - 1) (Or.inl rfl) (aD a) hn S.out t i j ht hi hj) (fun v1 σ1 hv1 => ?_)
  refine m_qI hv1 ?_
  clear hv1 v1 σ1
  exact m_ireturn dX10_at_49 (qC_mk (by unfold anAt; rw [if_pos ⟨w1, w2, w3⟩, clN (by omega), clN (by omega), clN (by omega)]) A1 f)
theorem k_who (hd : 8 ≤ d) (A : cA p a σ) (m x y : Int32) : mMet G l d kX10_who [.ref 0, .int m, .int x, .int y] σ (qC p a σ (anWho a m x y)) := by
  refine mMet.of cm_X10_who rfl (Nat.le_of_ble_eq_true rfl) rfl qC_fit ?_
  refine m_iload_n dX10_who_0 1 rfl ?_
  refine m_bipush (v := 24) dX10_who_1 (by decide) ?_
  refine m_callS (As := [_, _]) dX10_who_3 cs_X10_81 (by omega) rfl rfl (Nat.le_of_ble_eq_true rfl) (c_within (d := d - 1) m 24) (fun v1 σ1 hv1 => ?_)
  refine m_qI hv1 ?_
  clear hv1 v1 σ1
  refine m_if_eq dX10_who_6 17 (by decide) (fun z1 => ?_) (fun z1 => ?_)
  · refine m_bipush (v := -2) dX10_who_17 (by decide) ?_
    exact m_ireturn dX10_who_19 (qC_mk (by unfold anWho; exact (if_neg (fun q => bI0 z1 q.1)).symm) A fW.rf)
  refine m_iload_n dX10_who_9 2 rfl ?_
  refine m_iload_n dX10_who_10 3 rfl ?_
  refine m_callS (As := [_, _]) dX10_who_11 cs_X10_141 (by omega) rfl rfl (Nat.le_of_ble_eq_true rfl) (c_onFloor (d := d - 1) x y) (fun v1 σ1 hv1 => ?_)
  refine m_qI hv1 ?_
  clear hv1 v1 σ1
  refine m_if_ne dX10_who_14 20 (by decide) (fun z2 => ?_) (fun z2 => ?_)
  rotate_left
  · refine m_bipush (v := -2) dX10_who_17 (by decide) ?_
    exact m_ireturn dX10_who_19 (qC_mk (by unfold anWho; exact (if_neg (fun q => bI0 z2 ⟨q.2.1.1, q.2.1.2, q.2.2.1, q.2.2.2⟩)).symm) A fW.rf)
  have w1 : wI m 24 := bI1 z1
  have w2 := bI1 z2
  have w3 : wI m 24 ∧ wI x 6 ∧ wI y 6 := ⟨w1, ⟨w2.1, w2.2.1⟩, w2.2.2.1, w2.2.2.2⟩
  clear z1 z2
  obtain ⟨t, ht, rfl⟩ := wI_of (by decide) w1
  refine m_aload_n dX10_who_20 0 rfl ?_
  refine m_callV (As := []) dX10_who_21 cv_X10_97 (by first | assumption | rfl) (by decide) (by omega) rfl rfl (Nat.le_of_ble_eq_true rfl) (c_settle (d := d - 1) (by omega) A) (fun v1 σ1 hv1 => ?_)
  refine m_qVP hv1 (fun hq => ?_)
  clear hv1 v1
  rename mS => s1
  obtain ⟨B, S, f⟩ := hq
  have A1 : cA p a s1 := ⟨B, Or.inr S⟩
  refine m_aload_n dX10_who_24 0 rfl ?_
  refine m_getR 7 47 dX10_who_25 fl_X10_57_9 rfl (by decide) rfl (by first | assumption | rfl) ?_
  refine m_iload_n dX10_who_28 1 rfl ?_
  refine m_iload_n dX10_who_29 2 rfl ?_
  refine m_iload_n dX10_who_30 3 rfl ?_
  refine m_callV (As := [_, _, _]) dX10_who_31 cv_X10_144 (by first | assumption | rfl) (by decide) (by omega) rfl rfl (Nat.le_of_ble_eq_true rfl) (c_inCell (d := d - 1) (by omega) (Or.inl rfl) (aD a) S.wf S.out t ht x y) (fun v1 σ1 hv1 => ?_)
  refine m_qI hv1 ?_
  clear hv1 v1 σ1
  exact m_ireturn dX10_who_34 (qC_mk (by unfold anWho; rw [if_pos w3, clN (by omega)]) A1 f)
theorem k_house (hd : 8 ≤ d) (A : cA p a σ) (m w : Int32) : mMet G l d kX10_house [.ref 0, .int m, .int w] σ (qC p a σ (anHouse a m w)) := by
  refine mMet.of cm_X10_house rfl (Nat.le_of_ble_eq_true rfl) rfl qC_fit ?_
  refine m_iload_n dX10_house_0 1 rfl ?_
  refine m_bipush (v := 24) dX10_house_1 (by decide) ?_
  refine m_callS (As := [_, _]) dX10_house_3 cs_X10_81 (by omega) rfl rfl (Nat.le_of_ble_eq_true rfl) (c_within (d := d - 1) m 24) (fun v1 σ1 hv1 => ?_)
  refine m_qI hv1 ?_
  clear hv1 v1 σ1
  refine m_if_eq dX10_house_6 17 (by decide) (fun z1 => ?_) (fun z1 => ?_)
  · refine m_bipush (v := -2) dX10_house_17 (by decide) ?_
    exact m_ireturn dX10_house_19 (qC_mk (by unfold anHouse; exact (if_neg (fun q => bI0 z1 q.1)).symm) A fW.rf)
  refine m_iload_n dX10_house_9 2 rfl ?_
  refine m_iconst (v := 3) dX10_house_10 (by decide) ?_
  refine m_callS (As := [_, _]) dX10_house_11 cs_X10_81 (by omega) rfl rfl (Nat.le_of_ble_eq_true rfl) (c_within (d := d - 1) w 3) (fun v1 σ1 hv1 => ?_)
  refine m_qI hv1 ?_
  clear hv1 v1 σ1
  refine m_if_ne dX10_house_14 20 (by decide) (fun z2 => ?_) (fun z2 => ?_)
  rotate_left
  · refine m_bipush (v := -2) dX10_house_17 (by decide) ?_
    exact m_ireturn dX10_house_19 (qC_mk (by unfold anHouse; exact (if_neg (fun q => bI0 z2 q.2)).symm) A fW.rf)
  have w1 : wI m 24 := bI1 z1
  have w2 : wI w 3 := bI1 z2
  clear z1 z2
  obtain ⟨t, ht, rfl⟩ := wI_of (by decide) w1
  have aw : anHouse a (nI t) w = hoA (aD a) t w := by unfold anHouse; rw [if_pos ⟨w1, w2⟩, clN (by omega)]
  refine m_aload_n dX10_house_20 0 rfl ?_
  refine m_callV (As := []) dX10_house_21 cv_X10_97 (by first | assumption | rfl) (by decide) (by omega) rfl rfl (Nat.le_of_ble_eq_true rfl) (c_settle (d := d - 1) (by omega) A) (fun v1 σ1 hv1 => ?_)
  refine m_qVP hv1 (fun hq => ?_)
  clear hv1 v1
  rename mS => s1
  obtain ⟨B, S, f⟩ := hq
  have A1 : cA p a s1 := ⟨B, Or.inr S⟩
  refine m_aload_n dX10_house_24 0 rfl ?_
  refine m_getR 7 47 dX10_house_25 fl_X10_57_9 rfl (by decide) rfl (by first | assumption | rfl) ?_
  refine m_iload_n dX10_house_28 1 rfl ?_
  refine m_iload_n dX10_house_29 2 rfl ?_
  refine m_callV (As := [_, _]) dX10_house_30 cv_X10_147 (by first | assumption | rfl) (by decide) (by omega) rfl rfl (Nat.le_of_ble_eq_true rfl) (c_division (d := d - 1) (by omega) (aD a) S t ht w w2) (fun v1 σ1 hv1 => ?_)
  refine m_qI hv1 ?_
  clear hv1 v1 σ1
  exact m_ireturn dX10_house_33 (qC_mk aw.symm A1 f)
theorem k_strikes (hd : 8 ≤ d) (A : cA p a σ) : mMet G l d kX10_strikes [.ref 0] σ (qC p a σ ((RSt (aD a) 24).2.2.2.2.2.2.2.1)) := by
  refine mMet.of cm_X10_strikes rfl (Nat.le_of_ble_eq_true rfl) rfl qC_fit ?_
  refine m_aload_n dX10_strikes_0 0 rfl ?_
  refine m_callV (As := []) dX10_strikes_1 cv_X10_97 (by first | assumption | rfl) (by decide) (by omega) rfl rfl (Nat.le_of_ble_eq_true rfl) (c_settle (d := d - 1) (by omega) A) (fun v1 σ1 hv1 => ?_)
  refine m_qVP hv1 (fun hq => ?_)
  clear hv1 v1
  rename mS => s1
  obtain ⟨B, S, f⟩ := hq
  have A1 : cA p a s1 := ⟨B, Or.inr S⟩
  refine m_aload_n dX10_strikes_4 0 rfl ?_
  refine m_getR 7 47 dX10_strikes_5 fl_X10_57_9 rfl (by decide) rfl (by first | assumption | rfl) ?_
  refine m_getI 6 dX10_strikes_8 fl_X10_150_3 rfl (by decide) (by first | assumption | rfl) ?_
  refine mW.top S.out.1.2.1 ?_
  exact m_ireturn dX10_strikes_11 (qC_mk rfl A1 f)
theorem k_first (hd : 8 ≤ d) (A : cA p a σ) (w : Int32) : mMet G l d kX10_first [.ref 0, .int w] σ (qC p a σ (anFirst a w)) := by
  refine mMet.of cm_X10_first rfl (Nat.le_of_ble_eq_true rfl) rfl qC_fit ?_
  refine m_iload_n dX10_first_0 1 rfl ?_
  refine m_iconst (v := 2) dX10_first_1 (by decide) ?_
  refine m_callS (As := [_, _]) dX10_first_2 cs_X10_81 (by omega) rfl rfl (Nat.le_of_ble_eq_true rfl) (c_within (d := d - 1) w 2) (fun v1 σ1 hv1 => ?_)
  refine m_qI hv1 ?_
  clear hv1 v1 σ1
  refine m_if_ne dX10_first_5 11 (by decide) (fun z1 => ?_) (fun z1 => ?_)
  rotate_left
  · refine m_bipush (v := -2) dX10_first_8 (by decide) ?_
    exact m_ireturn dX10_first_10 (qC_mk (by unfold anFirst; exact (if_neg (fun q => bI0 z1 q)).symm) A fW.rf)
  have w1 : wI w 2 := bI1 z1
  refine m_aload_n dX10_first_11 0 rfl ?_
  refine m_callV (As := []) dX10_first_12 cv_X10_97 (by first | assumption | rfl) (by decide) (by omega) rfl rfl (Nat.le_of_ble_eq_true rfl) (c_settle (d := d - 1) (by omega) A) (fun v1 σ1 hv1 => ?_)
  refine m_qVP hv1 (fun hq => ?_)
  clear hv1 v1
  rename mS => s1
  obtain ⟨B, S, f⟩ := hq
  have A1 : cA p a s1 := ⟨B, Or.inr S⟩
  refine m_iload_n dX10_first_15 1 rfl ?_
  refine m_if_ne dX10_first_16 29 (by decide) (fun z2 => ?_) (fun z2 => ?_)
  · refine m_aload_n dX10_first_29 0 rfl ?_
    refine m_getR 7 47 dX10_first_30 fl_X10_57_9 rfl (by decide) rfl (by first | assumption | rfl) ?_
    refine m_getI 8 dX10_first_33 fl_X10_156_3 rfl (by decide) (by first | assumption | rfl) ?_
    refine mW.top S.out.1.2.2.2.1 ?_
    exact m_ireturn dX10_first_36 (qC_mk (by unfold anFirst fiA; rw [if_pos w1, if_neg z2]) A1 f)
  · refine m_aload_n dX10_first_19 0 rfl ?_
    refine m_getR 7 47 dX10_first_20 fl_X10_57_9 rfl (by decide) rfl (by first | assumption | rfl) ?_
    refine m_getI 7 dX10_first_23 fl_X10_153_3 rfl (by decide) (by first | assumption | rfl) ?_
    refine mW.top S.out.1.2.2.1 ?_
    refine m_goto dX10_first_26 36 (by decide) ?_
    exact m_ireturn dX10_first_36 (qC_mk (by unfold anFirst fiA; rw [if_pos w1, if_pos z2]) A1 f)
theorem k_best (hd : 8 ≤ d) (A : cA p a σ) : mMet G l d kX10_best [.ref 0] σ (qC p a σ (beA (aD a))) := by
  refine mMet.of cm_X10_best rfl (Nat.le_of_ble_eq_true rfl) rfl qC_fit ?_
  refine m_aload_n dX10_best_0 0 rfl ?_
  refine m_callV (As := []) dX10_best_1 cv_X10_97 (by first | assumption | rfl) (by decide) (by omega) rfl rfl (Nat.le_of_ble_eq_true rfl) (c_settle (d := d - 1) (by omega) A) (fun v1 σ1 hv1 => ?_)
  refine m_qVP hv1 (fun hq => ?_)
  clear hv1 v1
  rename mS => s1
  obtain ⟨B, S, f⟩ := hq
  have A1 : cA p a s1 := ⟨B, Or.inr S⟩
  refine m_aload_n dX10_best_4 0 rfl ?_
  refine m_getR 7 47 dX10_best_5 fl_X10_57_9 rfl (by decide) rfl (by first | assumption | rfl) ?_
  refine m_callV (As := []) dX10_best_8 cv_X10_159 (by first | assumption | rfl) (by decide) (by omega) rfl rfl (Nat.le_of_ble_eq_true rfl) (c_leader (d := d - 1) (Or.inl rfl) (aD a) S.n8 S.out) (fun v1 σ1 hv1 => ?_)
  refine m_qI hv1 ?_
  clear hv1 v1 σ1
  exact m_ireturn dX10_best_11 (qC_mk rfl A1 f)
theorem k_meek (hd : 8 ≤ d) (A : cA p a σ) : mMet G l d kX10_meek [.ref 0] σ (qC p a σ (meekD (aD a))) := by
  refine mMet.of cm_X10_meek rfl (Nat.le_of_ble_eq_true rfl) rfl qC_fit ?_
  refine m_aload_n dX10_meek_0 0 rfl ?_
  refine m_callV (As := []) dX10_meek_1 cv_X10_97 (by first | assumption | rfl) (by decide) (by omega) rfl rfl (Nat.le_of_ble_eq_true rfl) (c_settle (d := d - 1) (by omega) A) (fun v1 σ1 hv1 => ?_)
  refine m_qVP hv1 (fun hq => ?_)
  clear hv1 v1
  rename mS => s1
  obtain ⟨B, S, f⟩ := hq
  have A1 : cA p a s1 := ⟨B, Or.inr S⟩
  refine m_aload_n dX10_meek_4 0 rfl ?_
  refine m_getR 7 47 dX10_meek_5 fl_X10_57_9 rfl (by decide) rfl (by first | assumption | rfl) ?_
  refine m_callV (As := []) dX10_meek_8 cv_X10_163 (by first | assumption | rfl) (by decide) (by omega) rfl rfl (Nat.le_of_ble_eq_true rfl) (c_untouched (d := d - 1) (Or.inl rfl) (aD a) S.n8 S.out) (fun v1 σ1 hv1 => ?_)
  refine m_qI hv1 ?_
  clear hv1 v1 σ1
  exact m_ireturn dX10_meek_11 (qC_mk rfl A1 f)
theorem k_jam (hd : 8 ≤ d) (A : cA p a σ) (w : Int32) : mMet G l d kX10_jam [.ref 0, .int w] σ (qC p a σ (anJam a w)) := by
  refine mMet.of cm_X10_jam rfl (Nat.le_of_ble_eq_true rfl) rfl qC_fit ?_
  refine m_iload_n dX10_jam_0 1 rfl ?_
  refine m_iconst (v := 2) dX10_jam_1 (by decide) ?_
  refine m_callS (As := [_, _]) dX10_jam_2 cs_X10_81 (by omega) rfl rfl (Nat.le_of_ble_eq_true rfl) (c_within (d := d - 1) w 2) (fun v1 σ1 hv1 => ?_)
  refine m_qI hv1 ?_
  clear hv1 v1 σ1
  refine m_if_ne dX10_jam_5 11 (by decide) (fun z1 => ?_) (fun z1 => ?_)
  rotate_left
  · refine m_bipush (v := -2) dX10_jam_8 (by decide) ?_
    exact m_ireturn dX10_jam_10 (qC_mk (by unfold anJam; exact (if_neg (fun q => bI0 z1 q)).symm) A fW.rf)
  have w1 : wI w 2 := bI1 z1
  refine m_aload_n dX10_jam_11 0 rfl ?_
  refine m_callV (As := []) dX10_jam_12 cv_X10_97 (by first | assumption | rfl) (by decide) (by omega) rfl rfl (Nat.le_of_ble_eq_true rfl) (c_settle (d := d - 1) (by omega) A) (fun v1 σ1 hv1 => ?_)
  refine m_qVP hv1 (fun hq => ?_)
  clear hv1 v1
  rename mS => s1
  obtain ⟨B, S, f⟩ := hq
  have A1 : cA p a s1 := ⟨B, Or.inr S⟩
  have hb := jmP_le (jmD (aD a)) 23
  refine m_aload_n dX10_jam_15 0 rfl ?_
  refine m_getR 7 47 dX10_jam_16 fl_X10_57_9 rfl (by decide) rfl (by first | assumption | rfl) ?_
  refine m_callV (As := []) dX10_jam_19 cv_X10_166 (by first | assumption | rfl) (by decide) (by omega) rfl rfl (Nat.le_of_ble_eq_true rfl) (c_worstJam (d := d - 1) (Or.inl rfl) (aD a) S.out) (fun v1 σ1 hv1 => ?_)
  refine m_qI hv1 ?_
  clear hv1 v1 σ1
  refine m_istore_n (ls1 := [(2, _), (0, _), (1, _)]) dX10_jam_22 (by decide) rfl ?_
  refine m_iload_n dX10_jam_23 2 rfl ?_
  refine m_if_ne dX10_jam_24 31 (by decide) (fun z2 => ?_) (fun z2 => ?_)
  · have e1 : s1.1 (47 + 17) (jmP (jmD (aD a)) 23) = jmD (aD a) (jmP (jmD (aD a)) 23) := (S.out.2 _ (by omega)).2.1
    refine m_aload_n dX10_jam_31 1 rfl ?_
    refine m_getR 7 47 dX10_jam_32 fl_X10_57_9 rfl (by decide) rfl (by first | assumption | rfl) ?_
    refine m_getR 4 (_ + 17) dX10_jam_35 fl_X10_169_3 rfl (by decide) rfl (by first | assumption | rfl) ?_
    refine m_iload_n dX10_jam_38 0 rfl ?_
    refine m_iald dX10_jam_39 (by first | assumption | rfl) _ rfl (show jmP (jmD (aD a)) 23 < 24 by omega) ?_
    refine mW.top e1 ?_
    exact m_ireturn dX10_jam_40 (qC_mk (by unfold anJam jaA; rw [if_pos w1, if_neg z2]) A1 f)
  · refine m_iload_n dX10_jam_27 0 rfl ?_
    refine m_goto dX10_jam_28 40 (by decide) ?_
    exact m_ireturn dX10_jam_40 (qC_mk (by unfold anJam jaA; rw [if_pos w1, if_pos z2]) A1 f)
theorem k_carried (hd : 8 ≤ d) (A : cA p a σ) : mMet G l d kX10_carried [.ref 0] σ (qC p a σ (caA (aD a))) := by
  refine mMet.of cm_X10_carried rfl (Nat.le_of_ble_eq_true rfl) rfl qC_fit ?_
  refine m_aload_n dX10_carried_0 0 rfl ?_
  refine m_callV (As := []) dX10_carried_1 cv_X10_97 (by first | assumption | rfl) (by decide) (by omega) rfl rfl (Nat.le_of_ble_eq_true rfl) (c_settle (d := d - 1) (by omega) A) (fun v1 σ1 hv1 => ?_)
  refine m_qVP hv1 (fun hq => ?_)
  clear hv1 v1
  rename mS => s1
  obtain ⟨B, S, f⟩ := hq
  have A1 : cA p a s1 := ⟨B, Or.inr S⟩
  refine m_aload_n dX10_carried_4 0 rfl ?_
  refine m_getR 7 47 dX10_carried_5 fl_X10_57_9 rfl (by decide) rfl (by first | assumption | rfl) ?_
  refine m_callV (As := []) dX10_carried_8 cv_X10_172 (by first | assumption | rfl) (by decide) (by omega) rfl rfl (Nat.le_of_ble_eq_true rfl) (c_divisionsCarried (d := d - 1) (by omega) (aD a) S) (fun v1 σ1 hv1 => ?_)
  refine m_qI hv1 ?_
  clear hv1 v1 σ1
  exact m_ireturn dX10_carried_11 (qC_mk rfl A1 f)
theorem k_stand (hd : 8 ≤ d) (A : cA p a σ) (k w : Int32) : mMet G l d kX10_stand [.ref 0, .int k, .int w] σ (qC p a σ (anStand a k w)) := by
  refine mMet.of cm_X10_stand rfl (Nat.le_of_ble_eq_true rfl) rfl qC_fit ?_
  refine m_aload_n dX10_stand_0 0 rfl ?_
  refine m_callV (As := []) dX10_stand_1 cv_X10_97 (by first | assumption | rfl) (by decide) (by omega) rfl rfl (Nat.le_of_ble_eq_true rfl) (c_settle (d := d - 1) (by omega) A) (fun v1 σ1 hv1 => ?_)
  refine m_qVP hv1 (fun hq => ?_)
  clear hv1 v1
  rename mS => s1
  obtain ⟨B, S, f⟩ := hq
  have A1 : cA p a s1 := ⟨B, Or.inr S⟩
  have hn := S.n8
  refine m_iload_n dX10_stand_4 1 rfl ?_
  refine m_aload_n dX10_stand_5 0 rfl ?_
  refine m_getR 2 5 dX10_stand_6 fl_X10_22_9 rfl (by decide) rfl (by first | assumption | rfl) ?_
  refine m_getI 3 dX10_stand_9 fl_X10_104_0 rfl (by decide) (by first | assumption | rfl) ?_
  refine mW.top S.n ?_
  refine m_callS (As := [_, _]) dX10_stand_12 cs_X10_81 (by omega) rfl rfl (Nat.le_of_ble_eq_true rfl) (c_within (d := d - 1) k (nI (aD a).1.1)) (fun v1 σ1 hv1 => ?_)
  refine m_qI hv1 ?_
  clear hv1 v1 σ1
  refine m_if_eq dX10_stand_15 26 (by decide) (fun z1 => ?_) (fun z1 => ?_)
  · refine m_bipush (v := -2) dX10_stand_26 (by decide) ?_
    exact m_ireturn dX10_stand_28 (qC_mk (by unfold anStand; exact (if_neg (fun q => bI0 z1 q.1)).symm) A1 f)
  refine m_iload_n dX10_stand_18 2 rfl ?_
  refine m_iconst (v := 3) dX10_stand_19 (by decide) ?_
  refine m_callS (As := [_, _]) dX10_stand_20 cs_X10_81 (by omega) rfl rfl (Nat.le_of_ble_eq_true rfl) (c_within (d := d - 1) w 3) (fun v1 σ1 hv1 => ?_)
  refine m_qI hv1 ?_
  clear hv1 v1 σ1
  refine m_if_ne dX10_stand_23 29 (by decide) (fun z2 => ?_) (fun z2 => ?_)
  rotate_left
  · refine m_bipush (v := -2) dX10_stand_26 (by decide) ?_
    exact m_ireturn dX10_stand_28 (qC_mk (by unfold anStand; exact (if_neg (fun q => bI0 z2 q.2)).symm) A1 f)
  have w1 : wI k (aD a).1.1 := bI1 z1
  have w2 : wI w 3 := bI1 z2
  clear z1 z2
  obtain ⟨i, hi, rfl⟩ := wI_of (by omega) w1
  refine m_aload_n dX10_stand_29 0 rfl ?_
  refine m_getR 8 65 dX10_stand_30 fl_X10_66_9 rfl (by decide) rfl (by first | assumption | rfl) ?_
  refine m_iload_n dX10_stand_33 1 rfl ?_
  refine m_callV (As := [_]) dX10_stand_34 cv_X10_175 (by first | assumption | rfl) (by decide) (by omega) rfl rfl (Nat.le_of_ble_eq_true rfl) (c_bestStand (d := d - 1) (by omega) (aD a) S.set i hi) (fun v1 σ1 hv1 => ?_)
  refine m_qIP hv1 (fun x1 hq => ?_)
  clear hv1 v1
  rename mS => s2
  obtain ⟨rfl, f2⟩ := hq
  refine m_iload_n dX10_stand_37 2 rfl ?_
  refine m_callS (As := [_, _]) dX10_stand_38 cs_X10_178 (by omega) rfl rfl (Nat.le_of_ble_eq_true rfl) (c_standA (d := d - 1) (aD a) S.wf i hi w w2) (fun v1 σ1 hv1 => ?_)
  refine m_qI hv1 ?_
  clear hv1 v1 σ1
  exact m_ireturn dX10_stand_41 (qC_mk (by unfold anStand; rw [if_pos ⟨w1, w2⟩, clN (by omega)]) ⟨B.tr (wTr_Q S.s12 f2), Or.inr (S.tr f2)⟩ (f.tr (wTr_Q S.s12 f2)))
theorem k_better (hd : 8 ≤ d) (A : cA p a σ) (k m w : Int32) : mMet G l d kX10_better [.ref 0, .int k, .int m, .int w] σ (qC p a σ (anBetter a k m w)) := by
  refine mMet.of cm_X10_better rfl (Nat.le_of_ble_eq_true rfl) rfl qC_fit ?_
  refine m_aload_n dX10_better_0 0 rfl ?_
  refine m_callV (As := []) dX10_better_1 cv_X10_97 (by first | assumption | rfl) (by decide) (by omega) rfl rfl (Nat.le_of_ble_eq_true rfl) (c_settle (d := d - 1) (by omega) A) (fun v1 σ1 hv1 => ?_)
  refine m_qVP hv1 (fun hq => ?_)
  clear hv1 v1
  rename mS => s1
  obtain ⟨B, S, f⟩ := hq
  have A1 : cA p a s1 := ⟨B, Or.inr S⟩
  have hn := S.n8
  refine m_iload_n dX10_better_4 1 rfl ?_
  refine m_aload_n dX10_better_5 0 rfl ?_
  refine m_getR 2 5 dX10_better_6 fl_X10_22_9 rfl (by decide) rfl (by first | assumption | rfl) ?_
  refine m_getI 3 dX10_better_9 fl_X10_104_0 rfl (by decide) (by first | assumption | rfl) ?_
  refine mW.top S.n ?_
  refine m_callS (As := [_, _]) dX10_better_12 cs_X10_81 (by omega) rfl rfl (Nat.le_of_ble_eq_true rfl) (c_within (d := d - 1) k (nI (aD a).1.1)) (fun v1 σ1 hv1 => ?_)
  refine m_qI hv1 ?_
  clear hv1 v1 σ1
  refine m_if_eq dX10_better_15 35 (by decide) (fun z1 => ?_) (fun z1 => ?_)
  · refine m_bipush (v := -2) dX10_better_35 (by decide) ?_
    exact m_ireturn dX10_better_37 (qC_mk (by unfold anBetter; exact (if_neg (fun q => bI0 z1 q.1)).symm) A1 f)
  refine m_iload_n dX10_better_18 2 rfl ?_
  refine m_bipush (v := 24) dX10_better_19 (by decide) ?_
  refine m_callS (As := [_, _]) dX10_better_21 cs_X10_81 (by omega) rfl rfl (Nat.le_of_ble_eq_true rfl) (c_within (d := d - 1) m 24) (fun v1 σ1 hv1 => ?_)
  refine m_qI hv1 ?_
  clear hv1 v1 σ1
  refine m_if_eq dX10_better_24 35 (by decide) (fun z2 => ?_) (fun z2 => ?_)
  · refine m_bipush (v := -2) dX10_better_35 (by decide) ?_
    exact m_ireturn dX10_better_37 (qC_mk (by unfold anBetter; exact (if_neg (fun q => bI0 z2 q.2.1)).symm) A1 f)
  refine m_iload_n dX10_better_27 3 rfl ?_
  refine m_iconst (v := 2) dX10_better_28 (by decide) ?_
  refine m_callS (As := [_, _]) dX10_better_29 cs_X10_81 (by omega) rfl rfl (Nat.le_of_ble_eq_true rfl) (c_within (d := d - 1) w 2) (fun v1 σ1 hv1 => ?_)
  refine m_qI hv1 ?_
  clear hv1 v1 σ1
  refine m_if_ne dX10_better_32 38 (by decide) (fun z3 => ?_) (fun z3 => ?_)
  rotate_left
  · refine m_bipush (v := -2) dX10_better_35 (by decide) ?_
    exact m_ireturn dX10_better_37 (qC_mk (by unfold anBetter; exact (if_neg (fun q => bI0 z3 q.2.2)).symm) A1 f)
  have w1 : wI k (aD a).1.1 := bI1 z1
  have w2 : wI m 24 := bI1 z2
  have w3 : wI w 2 := bI1 z3
  clear z1 z2 z3
  obtain ⟨i, hi, rfl⟩ := wI_of (by omega) w1
  obtain ⟨t, ht, rfl⟩ := wI_of (by decide) w2
  refine m_aload_n dX10_better_38 0 rfl ?_
  refine m_getR 8 65 dX10_better_39 fl_X10_66_9 rfl (by decide) rfl (by first | assumption | rfl) ?_
  refine m_iload_n dX10_better_42 1 rfl ?_
  refine m_iload_n dX10_better_43 2 rfl ?_
  refine m_callV (As := [_, _]) dX10_better_44 cv_X10_181 (by first | assumption | rfl) (by decide) (by omega) rfl rfl (Nat.le_of_ble_eq_true rfl) (c_bestTurn (d := d - 1) (by omega) (aD a) S.set i t hi ht) (fun v1 σ1 hv1 => ?_)
  refine m_qIP hv1 (fun x1 hq => ?_)
  clear hv1 v1
  rename mS => s2
  obtain ⟨rfl, f2⟩ := hq
  refine m_iload_n dX10_better_47 3 rfl ?_
  refine m_callS (As := [_, _]) dX10_better_48 cs_X10_184 (by omega) rfl rfl (Nat.le_of_ble_eq_true rfl) (c_turnA (d := d - 1) (aD a) S.wf i t hi w) (fun v1 σ1 hv1 => ?_)
  refine m_qI hv1 ?_
  clear hv1 v1 σ1
  exact m_ireturn dX10_better_51 (qC_mk (by unfold anBetter; rw [if_pos ⟨w1, w2, w3⟩, clN (by omega), clN (by omega)]) ⟨B.tr (wTr_Q S.s12 f2), Or.inr (S.tr f2)⟩ (f.tr (wTr_Q S.s12 f2)))
theorem k_ring (hd : 8 ≤ d) (A : cA p a σ) (w : Int32) : mMet G l d kX10_ring [.ref 0, .int w] σ (qC p a σ (anRing a w)) := by
  refine mMet.of cm_X10_ring rfl (Nat.le_of_ble_eq_true rfl) rfl qC_fit ?_
  refine m_iload_n dX10_ring_0 1 rfl ?_
  refine m_iconst (v := 2) dX10_ring_1 (by decide) ?_
  refine m_callS (As := [_, _]) dX10_ring_2 cs_X10_81 (by omega) rfl rfl (Nat.le_of_ble_eq_true rfl) (c_within (d := d - 1) w 2) (fun v1 σ1 hv1 => ?_)
  refine m_qI hv1 ?_
  clear hv1 v1 σ1
  refine m_if_ne dX10_ring_5 11 (by decide) (fun z1 => ?_) (fun z1 => ?_)
  rotate_left
  · refine m_bipush (v := -2) dX10_ring_8 (by decide) ?_
    exact m_ireturn dX10_ring_10 (qC_mk (by unfold anRing; exact (if_neg (fun q => bI0 z1 q)).symm) A fW.rf)
  have w1 : wI w 2 := bI1 z1
  refine m_aload_n dX10_ring_11 0 rfl ?_
  refine m_callV (As := []) dX10_ring_12 cv_X10_97 (by first | assumption | rfl) (by decide) (by omega) rfl rfl (Nat.le_of_ble_eq_true rfl) (c_settle (d := d - 1) (by omega) A) (fun v1 σ1 hv1 => ?_)
  refine m_qVP hv1 (fun hq => ?_)
  clear hv1 v1
  rename mS => s1
  obtain ⟨B, S, f⟩ := hq
  have A1 : cA p a s1 := ⟨B, Or.inr S⟩
  have hn := S.n8
  have rg := rgP_eq (aD a) S.set.2.1 S.set.2.2.2.2.2.2.2.1.1 hn 23 (by decide)
  obtain ⟨J, hJ⟩ : ∃ J : Nat → Int32, J = fun u => nI (agh (aD a) u) := ⟨_, rfl⟩
  have hJt : ∀ u, nI (agh (aD a) u) = J u := fun u => by rw [hJ]
  rw [← hJ, hJt] at rg
  have hq23 := jmP_le J 23
  refine m_aload_n dX10_ring_15 0 rfl ?_
  refine m_callV (As := []) dX10_ring_16 cv_X10_187 rfl (by decide) (by omega) rfl rfl (Nat.le_of_ble_eq_true rfl) (c_bestBell (d := d - 1) (by omega) (aD a) S J hJt) (fun v1 σ1 hv1 => ?_)
  refine m_qI hv1 ?_
  clear hv1 v1 σ1
  refine m_istore_n (ls1 := [(2, _), (0, _), (1, _)]) dX10_ring_19 (by decide) rfl ?_
  refine m_iload_n dX10_ring_20 2 rfl ?_
  refine m_if_ne dX10_ring_21 28 (by decide) (fun z2 => ?_) (fun z2 => ?_)
  · refine m_aload_n dX10_ring_28 1 rfl ?_
    refine m_iload_n dX10_ring_29 0 rfl ?_
    refine m_callV (As := [_]) dX10_ring_30 cv_X10_190 rfl (by decide) (by omega) rfl rfl (Nat.le_of_ble_eq_true rfl) (c_ayesAhead (d := d - 1) (by omega) (aD a) S (jmP J 23) (by omega)) (fun v1 σ1 hv1 => ?_)
    refine m_qI hv1 ?_
    clear hv1 v1 σ1
    exact m_ireturn dX10_ring_33 (qC_mk (by unfold anRing rgA; rw [if_pos w1, if_neg z2, rg, hJt]) A1 f)
  · refine m_iload_n dX10_ring_24 0 rfl ?_
    refine m_goto dX10_ring_25 33 (by decide) ?_
    exact m_ireturn dX10_ring_33 (qC_mk (by unfold anRing rgA; rw [if_pos w1, if_pos z2, rg]) A1 f)
theorem k_spare (hd : 8 ≤ d) (A : cA p a σ) (i : Int32) : mMet G l d kX10_spare [.ref 0, .int i] σ (qC p a σ (anSpare a i)) := by
  refine mMet.of cm_X10_spare rfl (Nat.le_of_ble_eq_true rfl) rfl qC_fit ?_
  refine m_iload_n dX10_spare_0 1 rfl ?_
  refine m_iconst (v := -1) dX10_spare_1 (by decide) ?_
  refine m_icmp_lt dX10_spare_2 10 (by decide) (fun z1 => ?_) (fun z1 => ?_)
  · refine m_bipush (v := -2) dX10_spare_10 (by decide) ?_
    exact m_ireturn dX10_spare_12 (qC_mk (by unfold anSpare; exact (if_neg (fun q => absurd q.1 (Int32.not_le.mpr z1))).symm) A fW.rf)
  refine m_iload_n dX10_spare_5 1 rfl ?_
  refine m_iconst (v := 1) dX10_spare_6 (by decide) ?_
  refine m_icmp_le dX10_spare_7 13 (by decide) (fun z2 => ?_) (fun z2 => ?_)
  rotate_left
  · refine m_bipush (v := -2) dX10_spare_10 (by decide) ?_
    exact m_ireturn dX10_spare_12 (qC_mk (by unfold anSpare; exact (if_neg (fun q => z2 q.2)).symm) A fW.rf)
  have w1 : -1 ≤ i ∧ i ≤ 1 := ⟨Int32.not_lt.mp z1, z2⟩
  have hi : i = -1 ∨ i = 0 ∨ i = 1 := in3 w1
  refine m_aload_n dX10_spare_13 0 rfl ?_
  refine m_callV (As := []) dX10_spare_14 cv_X10_97 (by first | assumption | rfl) (by decide) (by omega) rfl rfl (Nat.le_of_ble_eq_true rfl) (c_settle (d := d - 1) (by omega) A) (fun v1 σ1 hv1 => ?_)
  refine m_qVP hv1 (fun hq => ?_)
  clear hv1 v1
  rename mS => s1
  obtain ⟨B, S, f⟩ := hq
  have A1 : cA p a s1 := ⟨B, Or.inr S⟩
  refine m_aload_n dX10_spare_17 0 rfl ?_
  refine m_getR 8 65 dX10_spare_18 fl_X10_66_9 rfl (by decide) rfl (by first | assumption | rfl) ?_
  refine m_callV (As := []) dX10_spare_21 cv_X10_193 (by first | assumption | rfl) (by decide) (by omega) rfl rfl (Nat.le_of_ble_eq_true rfl) (c_fewestSpared (d := d - 1) (by omega) (aD a) S.set) (fun v1 σ1 hv1 => ?_)
  refine m_qIP hv1 (fun x1 hq => ?_)
  clear hv1 v1
  rename mS => s2
  obtain ⟨e1, f2⟩ := hq
  refine m_iload_n dX10_spare_24 1 rfl ?_
  refine m_callS (As := [_, _]) dX10_spare_25 cs_X10_196 (by omega) rfl rfl (Nat.le_of_ble_eq_true rfl) (c_sparePart (d := d - 1) (by omega) x1 i) (fun v1 σ1 hv1 => ?_)
  refine m_qI hv1 ?_
  clear hv1 v1 σ1
  exact m_ireturn dX10_spare_28 (qC_mk (by unfold anSpare; rw [if_pos w1]; exact spM_A e1 i hi) ⟨B.tr (wTr_Q S.s12 f2), Or.inr (S.tr f2)⟩ (f.tr (wTr_Q S.s12 f2)))
theorem k_never (hd : 8 ≤ d) (A : cA p a σ) : mMet G l d kX10_never [.ref 0] σ (qC p a σ (nvP (aD a) (aZ a) (aW a) (aE a))) := by
  refine mMet.of cm_X10_never rfl (Nat.le_of_ble_eq_true rfl) rfl qC_fit ?_
  refine m_aload_n dX10_never_0 0 rfl ?_
  refine m_callV (As := []) dX10_never_1 cv_X10_97 (by first | assumption | rfl) (by decide) (by omega) rfl rfl (Nat.le_of_ble_eq_true rfl) (c_settle (d := d - 1) (by omega) A) (fun v1 σ1 hv1 => ?_)
  refine m_qVP hv1 (fun hq => ?_)
  clear hv1 v1
  rename mS => s1
  obtain ⟨B, S, f⟩ := hq
  have A1 : cA p a s1 := ⟨B, Or.inr S⟩
  refine m_aload_n dX10_never_4 0 rfl ?_
  refine m_getR 8 65 dX10_never_5 fl_X10_66_9 rfl (by decide) rfl (by first | assumption | rfl) ?_
  refine m_callV (As := []) dX10_never_8 cv_X10_203 (by first | assumption | rfl) (by decide) (by omega) rfl rfl (Nat.le_of_ble_eq_true rfl) (c_neverC (d := d - 1) (by omega) (aD a) S.set (aZ a) (aW a) B.2.2.2.2.2.2.2.1) (fun v1 σ1 hv1 => ?_)
  refine m_qIP hv1 (fun x1 hq => ?_)
  clear hv1 v1
  rename mS => s2
  obtain ⟨e1, f2⟩ := hq
  exact m_ireturn dX10_never_11 (qC_mk (by rw [e1, B.2.2.2.2.2.1.2.2.1]) ⟨B.tr (wTr_Q S.s12 f2), Or.inr (S.tr f2)⟩ (f.tr (wTr_Q S.s12 f2)))
theorem k_was (hd : 8 ≤ d) (A : cA p a σ) (k w : Int32) : mMet G l d kX10_was [.ref 0, .int k, .int w] σ (qC p a σ (anWas a k w)) := by
  refine mMet.of cm_X10_was rfl (Nat.le_of_ble_eq_true rfl) rfl qC_fit ?_
  refine m_aload_n dX10_was_0 0 rfl ?_
  refine m_callV (As := []) dX10_was_1 cv_X10_97 (by first | assumption | rfl) (by decide) (by omega) rfl rfl (Nat.le_of_ble_eq_true rfl) (c_settle (d := d - 1) (by omega) A) (fun v1 σ1 hv1 => ?_)
  refine m_qVP hv1 (fun hq => ?_)
  clear hv1 v1
  rename mS => s1
  obtain ⟨B, S, f⟩ := hq
  have A1 : cA p a s1 := ⟨B, Or.inr S⟩
  have hn := S.n8
  refine m_iload_n dX10_was_4 1 rfl ?_
  refine m_aload_n dX10_was_5 0 rfl ?_
  refine m_getR 2 5 dX10_was_6 fl_X10_22_9 rfl (by decide) rfl (by first | assumption | rfl) ?_
  refine m_getI 3 dX10_was_9 fl_X10_104_0 rfl (by decide) (by first | assumption | rfl) ?_
  refine mW.top S.n ?_
  refine m_callS (As := [_, _]) dX10_was_12 cs_X10_81 (by omega) rfl rfl (Nat.le_of_ble_eq_true rfl) (c_within (d := d - 1) k (nI (aD a).1.1)) (fun v1 σ1 hv1 => ?_)
  refine m_qI hv1 ?_
  clear hv1 v1 σ1
  refine m_if_eq dX10_was_15 26 (by decide) (fun z1 => ?_) (fun z1 => ?_)
  · refine m_bipush (v := -2) dX10_was_26 (by decide) ?_
    exact m_ireturn dX10_was_28 (qC_mk (by unfold anWas; exact (if_neg (fun q => bI0 z1 q.1)).symm) A1 f)
  refine m_iload_n dX10_was_18 2 rfl ?_
  refine m_iconst (v := 2) dX10_was_19 (by decide) ?_
  refine m_callS (As := [_, _]) dX10_was_20 cs_X10_81 (by omega) rfl rfl (Nat.le_of_ble_eq_true rfl) (c_within (d := d - 1) w 2) (fun v1 σ1 hv1 => ?_)
  refine m_qI hv1 ?_
  clear hv1 v1 σ1
  refine m_if_ne dX10_was_23 29 (by decide) (fun z2 => ?_) (fun z2 => ?_)
  rotate_left
  · refine m_bipush (v := -2) dX10_was_26 (by decide) ?_
    exact m_ireturn dX10_was_28 (qC_mk (by unfold anWas; exact (if_neg (fun q => bI0 z2 q.2)).symm) A1 f)
  have w1 : wI k (aD a).1.1 := bI1 z1
  have w2 : wI w 2 := bI1 z2
  clear z1 z2
  obtain ⟨i, hi, rfl⟩ := wI_of (by omega) w1
  refine m_iload_n dX10_was_29 2 rfl ?_
  refine m_if_ne dX10_was_30 44 (by decide) (fun z1 => ?_) (fun z1 => ?_)
  · refine m_aload_n dX10_was_44 0 rfl ?_
    refine m_getR 8 65 dX10_was_45 fl_X10_66_9 rfl (by decide) rfl (by first | assumption | rfl) ?_
    refine m_iload_n dX10_was_48 1 rfl ?_
    refine m_callV (As := [_]) dX10_was_49 cv_X10_209 (by first | assumption | rfl) (by decide) (by omega) rfl rfl (Nat.le_of_ble_eq_true rfl) (c_weightsOf (d := d - 1) (by omega) (aD a) S.set (aZ a) (aW a) B.2.2.2.2.2.2.2.1 i hi) (fun v1 σ1 hv1 => ?_)
    refine m_qIP hv1 (fun x1 hq => ?_)
    clear hv1 v1
    rename mS => s2
    obtain ⟨e1, f2⟩ := hq
    exact m_ireturn dX10_was_52 (qC_mk (by unfold anWas; rw [if_pos ⟨w1, w2⟩, clN (by omega), if_neg z1]; exact e1) ⟨B.tr (wTr_Q S.s12 f2), Or.inr (S.tr f2)⟩ (f.tr (wTr_Q S.s12 f2)))
  · refine m_aload_n dX10_was_33 0 rfl ?_
    refine m_getR 8 65 dX10_was_34 fl_X10_66_9 rfl (by decide) rfl (by first | assumption | rfl) ?_
    refine m_iload_n dX10_was_37 1 rfl ?_
    refine m_callV (As := [_]) dX10_was_38 cv_X10_206 (by first | assumption | rfl) (by decide) (by omega) rfl rfl (Nat.le_of_ble_eq_true rfl) (c_sortsOf (d := d - 1) (by omega) (aD a) S.set (aZ a) (aW a) B.2.2.2.2.2.2.2.1 i hi) (fun v1 σ1 hv1 => ?_)
    refine m_qIP hv1 (fun x1 hq => ?_)
    clear hv1 v1
    refine m_goto dX10_was_41 52 (by decide) ?_
    rename mS => s2
    obtain ⟨e1, f2⟩ := hq
    exact m_ireturn dX10_was_52 (qC_mk (by unfold anWas; rw [if_pos ⟨w1, w2⟩, clN (by omega), if_pos z1]; exact e1) ⟨B.tr (wTr_Q S.s12 f2), Or.inr (S.tr f2)⟩ (f.tr (wTr_Q S.s12 f2)))
theorem k_ask (hd : 8 ≤ d) (A : cA p a σ) (k : Int32) : mMet G l d kX10_ask [.ref 0, .int k] σ (qC p a σ (anAsk a k)) := by
  refine mMet.of cm_X10_ask rfl (Nat.le_of_ble_eq_true rfl) rfl qC_fit ?_
  refine m_aload_n dX10_ask_0 0 rfl ?_
  refine m_callV (As := []) dX10_ask_1 cv_X10_97 (by first | assumption | rfl) (by decide) (by omega) rfl rfl (Nat.le_of_ble_eq_true rfl) (c_settle (d := d - 1) (by omega) A) (fun v1 σ1 hv1 => ?_)
  refine m_qVP hv1 (fun hq => ?_)
  clear hv1 v1
  rename mS => s1
  obtain ⟨B, S, f⟩ := hq
  have A1 : cA p a s1 := ⟨B, Or.inr S⟩
  have hn := S.n8
  refine m_iload_n dX10_ask_4 1 rfl ?_
  refine m_aload_n dX10_ask_5 0 rfl ?_
  refine m_getR 2 5 dX10_ask_6 fl_X10_22_9 rfl (by decide) rfl (by first | assumption | rfl) ?_
  refine m_getI 3 dX10_ask_9 fl_X10_104_0 rfl (by decide) (by first | assumption | rfl) ?_
  refine mW.top S.n ?_
  refine m_callS (As := [_, _]) dX10_ask_12 cs_X10_81 (by omega) rfl rfl (Nat.le_of_ble_eq_true rfl) (c_within (d := d - 1) k (nI (aD a).1.1)) (fun v1 σ1 hv1 => ?_)
  refine m_qI hv1 ?_
  clear hv1 v1 σ1
  refine m_if_ne dX10_ask_15 21 (by decide) (fun z1 => ?_) (fun z1 => ?_)
  rotate_left
  · refine m_bipush (v := -2) dX10_ask_18 (by decide) ?_
    exact m_ireturn dX10_ask_20 (qC_mk (by unfold anAsk; exact (if_neg (fun q => bI0 z1 q)).symm) A1 f)
  have w1 : wI k (aD a).1.1 := bI1 z1
  clear z1
  obtain ⟨i, hi, rfl⟩ := wI_of (by omega) w1
  refine m_aload_n dX10_ask_21 0 rfl ?_
  refine m_getR 8 65 dX10_ask_22 fl_X10_66_9 rfl (by decide) rfl (by first | assumption | rfl) ?_
  refine m_iload_n dX10_ask_25 1 rfl ?_
  refine m_callV (As := [_]) dX10_ask_26 cv_X10_212 (by first | assumption | rfl) (by decide) (by omega) rfl rfl (Nat.le_of_ble_eq_true rfl) (c_momentToLook (d := d - 1) (by omega) (aD a) S.set (aZ a) (aW a) B.2.2.2.2.2.2.2.1 i hi) (fun v1 σ1 hv1 => ?_)
  refine m_qIP hv1 (fun x1 hq => ?_)
  clear hv1 v1
  rename mS => s2
  obtain ⟨e1, f2⟩ := hq
  exact m_ireturn dX10_ask_29 (qC_mk (by unfold anAsk; rw [if_pos w1, clN (by omega)]; exact e1) ⟨B.tr (wTr_Q S.s12 f2), Or.inr (S.tr f2)⟩ (f.tr (wTr_Q S.s12 f2)))
theorem k_chance (hd : 8 ≤ d) (A : cA p a σ) (c k w : Int32) : mMet G l d kX10_chance [.ref 0, .int c, .int k, .int w] σ (qLC p a σ (anChance a c k w)) := by
  refine mMet.of cm_X10_chance rfl (Nat.le_of_ble_eq_true rfl) rfl qLC_fit ?_
  refine m_aload_n dX10_chance_0 0 rfl ?_
  refine m_callV (As := []) dX10_chance_1 cv_X10_97 (by first | assumption | rfl) (by decide) (by omega) rfl rfl (Nat.le_of_ble_eq_true rfl) (c_settle (d := d - 1) (by omega) A) (fun v1 σ1 hv1 => ?_)
  refine m_qVP hv1 (fun hq => ?_)
  clear hv1 v1
  rename mS => s1
  obtain ⟨B, S, f⟩ := hq
  have A1 : cA p a s1 := ⟨B, Or.inr S⟩
  have hn := S.n8
  have he8 := S.set.2.2.2.2.2.2.2.1.1
  refine m_iload_n dX10_chance_4 1 rfl ?_
  refine m_bipush (v := 17) dX10_chance_5 (by decide) ?_
  refine m_callS (As := [_, _]) dX10_chance_7 cs_X10_81 (by omega) rfl rfl (Nat.le_of_ble_eq_true rfl) (c_within (d := d - 1) c 17) (fun v1 σ1 hv1 => ?_)
  refine m_qI hv1 ?_
  clear hv1 v1 σ1
  refine m_if_eq dX10_chance_10 35 (by decide) (fun z1 => ?_) (fun z1 => ?_)
  · refine m_ldc2_w dX10_chance_35 kl_X10_215 ?_
    exact m_lreturn dX10_chance_38 (qLC_mk (by unfold anChance; rw [if_neg (fun q => bI0 z1 q.1)]) A1 f)
  refine m_iload_n dX10_chance_13 2 rfl ?_
  refine m_aload_n dX10_chance_14 0 rfl ?_
  refine m_getR 2 5 dX10_chance_15 fl_X10_22_9 rfl (by decide) rfl (by first | assumption | rfl) ?_
  refine m_getI 3 dX10_chance_18 fl_X10_104_0 rfl (by decide) (by first | assumption | rfl) ?_
  refine mW.top S.n ?_
  refine m_callS (As := [_, _]) dX10_chance_21 cs_X10_81 (by omega) rfl rfl (Nat.le_of_ble_eq_true rfl) (c_within (d := d - 1) k (nI (aD a).1.1)) (fun v1 σ1 hv1 => ?_)
  refine m_qI hv1 ?_
  clear hv1 v1 σ1
  refine m_if_eq dX10_chance_24 35 (by decide) (fun z2 => ?_) (fun z2 => ?_)
  · refine m_ldc2_w dX10_chance_35 kl_X10_215 ?_
    exact m_lreturn dX10_chance_38 (qLC_mk (by unfold anChance; rw [if_neg (fun q => bI0 z2 q.2.1)]) A1 f)
  refine m_iload_n dX10_chance_27 3 rfl ?_
  refine m_iconst (v := 2) dX10_chance_28 (by decide) ?_
  refine m_callS (As := [_, _]) dX10_chance_29 cs_X10_81 (by omega) rfl rfl (Nat.le_of_ble_eq_true rfl) (c_within (d := d - 1) w 2) (fun v1 σ1 hv1 => ?_)
  refine m_qI hv1 ?_
  clear hv1 v1 σ1
  refine m_if_ne dX10_chance_32 39 (by decide) (fun z3 => ?_) (fun z3 => ?_)
  rotate_left
  · refine m_ldc2_w dX10_chance_35 kl_X10_215 ?_
    exact m_lreturn dX10_chance_38 (qLC_mk (by unfold anChance; rw [if_neg (fun q => bI0 z3 q.2.2)]) A1 f)
  have w1 : wI c 17 := bI1 z1
  have w2 : wI k (aD a).1.1 := bI1 z2
  have w3 : wI w 2 := bI1 z3
  clear z1 z2 z3
  obtain ⟨t, ht, rfl⟩ := wI_of (by decide) w1
  obtain ⟨i, hi, rfl⟩ := wI_of (by omega) w2
  refine m_aload_n dX10_chance_39 0 rfl ?_
  refine m_aload_n dX10_chance_40 0 rfl ?_
  refine m_getR 8 65 dX10_chance_41 fl_X10_66_9 rfl (by decide) rfl (by first | assumption | rfl) ?_
  refine m_iload_n dX10_chance_44 1 rfl ?_
  refine m_iload_n dX10_chance_45 2 rfl ?_
  refine m_callV (As := [_, _]) dX10_chance_46 cv_X10_217 (by first | assumption | rfl) (by decide) (by omega) rfl rfl (Nat.le_of_ble_eq_true rfl) (c_weighStruck (d := d - 1) (by omega) (aD a) S.set S.2.2.2.2.2 t i (by omega) hi) (fun v1 σ1 hv1 => ?_)
  refine m_qLP hv1 (fun x1 hq => ?_)
  clear hv1 v1
  rename mS => s2
  obtain ⟨rfl, k1, kn, f2⟩ := hq
  have S2 := S.fs f2 k1 kn
  have hfl := chN_le (aD a) t i (by omega) (2 ^ (aD a).2.2.1.1)
  have hfl2 : chN (aD a) t i (2 ^ (aD a).2.2.1.1) < 2 ^ 60 := Nat.lt_of_le_of_lt (Nat.le_trans hfl (Nat.mul_le_mul (p2 _ he8) (p16 _ he8))) (by decide)
  refine m_iload_n dX10_chance_49 3 rfl ?_
  refine m_callV (As := [_, _]) dX10_chance_50 cv_X10_221 (by first | assumption | rfl) (by decide) (by omega) rfl rfl (Nat.le_of_ble_eq_true rfl) (c_fractionPart (d := d - 1) (aD a).2.2.1.1 _ he8 S2.set.2.2.2.2.2.2.2.2.1 hfl2 w) (fun v1 σ1 hv1 => ?_)
  refine m_qL hv1 ?_
  clear hv1 v1 σ1
  exact m_lreturn dX10_chance_53 (qLC_mk (by unfold anChance chA; rw [if_pos (show wI (nI t) 17 ∧ wI (nI i) (aD a).1.1 ∧ wI w 2 from ⟨w1, w2, w3⟩), clN (by omega), clN (by omega)]) ⟨B.tr (wFs_Q f2), Or.inr S2⟩ (f.tr (wFs_Q f2)))
theorem k_ages (hd : 8 ≤ d) (A : cA p a σ) (x n w : Int32) : mMet G l d kX10_ages [.ref 0, .int x, .int n, .int w] σ (qC p a σ (anAges a x n w)) := by
  refine mMet.of cm_X10_ages rfl (Nat.le_of_ble_eq_true rfl) rfl qC_fit ?_
  refine m_iload_n dX10_ages_0 2 rfl ?_
  refine m_bipush (v := 9) dX10_ages_1 (by decide) ?_
  refine m_callS (As := [_, _]) dX10_ages_3 cs_X10_81 (by omega) rfl rfl (Nat.le_of_ble_eq_true rfl) (c_within (d := d - 1) n 9) (fun v1 σ1 hv1 => ?_)
  refine m_qI hv1 ?_
  clear hv1 v1 σ1
  refine m_if_eq dX10_ages_6 17 (by decide) (fun z1 => ?_) (fun z1 => ?_)
  · refine m_bipush (v := -2) dX10_ages_17 (by decide) ?_
    exact m_ireturn dX10_ages_19 (qC_mk (by unfold anAges; exact (if_neg (fun q => bI0 z1 q.1)).symm) A fW.rf)
  refine m_iload_n dX10_ages_9 3 rfl ?_
  refine m_iconst (v := 2) dX10_ages_10 (by decide) ?_
  refine m_callS (As := [_, _]) dX10_ages_11 cs_X10_81 (by omega) rfl rfl (Nat.le_of_ble_eq_true rfl) (c_within (d := d - 1) w 2) (fun v1 σ1 hv1 => ?_)
  refine m_qI hv1 ?_
  clear hv1 v1 σ1
  refine m_if_ne dX10_ages_14 20 (by decide) (fun z2 => ?_) (fun z2 => ?_)
  rotate_left
  · refine m_bipush (v := -2) dX10_ages_17 (by decide) ?_
    exact m_ireturn dX10_ages_19 (qC_mk (by unfold anAges; exact (if_neg (fun q => bI0 z2 q.2)).symm) A fW.rf)
  have w1 : wI n 9 := bI1 z1
  have w2 : wI w 2 := bI1 z2
  clear z1 z2
  obtain ⟨j, hj, rfl⟩ := wI_of (by decide) w1
  refine m_aload_n dX10_ages_20 0 rfl ?_
  refine m_callV (As := []) dX10_ages_21 cv_X10_97 (by first | assumption | rfl) (by decide) (by omega) rfl rfl (Nat.le_of_ble_eq_true rfl) (c_settle (d := d - 1) (by omega) A) (fun v1 σ1 hv1 => ?_)
  refine m_qVP hv1 (fun hq => ?_)
  clear hv1 v1
  rename mS => s1
  obtain ⟨B, S, f⟩ := hq
  have A1 : cA p a s1 := ⟨B, Or.inr S⟩
  refine m_aload_n dX10_ages_24 0 rfl ?_
  refine m_getR 8 65 dX10_ages_25 fl_X10_66_9 rfl (by decide) rfl (by first | assumption | rfl) ?_
  refine m_iload_n dX10_ages_28 1 rfl ?_
  refine m_iload_n dX10_ages_29 2 rfl ?_
  refine m_callV (As := [_, _]) dX10_ages_30 cv_X10_225 (by first | assumption | rfl) (by decide) (by omega) rfl rfl (Nat.le_of_ble_eq_true rfl) (c_playAges (d := d - 1) (by omega) (aD a) S.set x j (by omega)) (fun v1 σ1 hv1 => ?_)
  refine m_qVP hv1 (fun hq => ?_)
  clear hv1 v1
  rename mS => s2
  obtain ⟨o2, f2⟩ := hq
  refine m_iload_n dX10_ages_33 3 rfl ?_
  refine m_if_ne dX10_ages_34 50 (by decide) (fun z1 => ?_) (fun z1 => ?_)
  · refine m_aload_n dX10_ages_50 0 rfl ?_
    refine m_getR 8 65 dX10_ages_51 fl_X10_66_9 rfl (by decide) rfl (by first | assumption | rfl) ?_
    refine m_getR 6 80 dX10_ages_54 fl_X10_229_8 rfl (by decide) rfl (by first | assumption | rfl) ?_
    refine m_callV (As := []) dX10_ages_57 cv_X10_230 (by first | assumption | rfl) (by decide) (by omega) rfl rfl (Nat.le_of_ble_eq_true rfl) (c_allPoints (d := d - 1) (Or.inr rfl) (agD (aD a) x j) S.n8 o2) (fun v1 σ1 hv1 => ?_)
    refine m_qI hv1 ?_
    clear hv1 v1 σ1
    exact m_ireturn dX10_ages_60 (qC_mk (by unfold anAges agA; rw [if_pos ⟨w1, w2⟩, clN (by omega), if_neg z1]; rfl) ⟨B.tr (wTr_Q S.s12 f2), Or.inr (S.tr f2)⟩ (f.tr (wTr_Q S.s12 f2)))
  · refine m_aload_n dX10_ages_37 0 rfl ?_
    refine m_getR 8 65 dX10_ages_38 fl_X10_66_9 rfl (by decide) rfl (by first | assumption | rfl) ?_
    refine m_getR 6 80 dX10_ages_41 fl_X10_229_8 rfl (by decide) rfl (by first | assumption | rfl) ?_
    refine m_getI 6 dX10_ages_44 fl_X10_150_3 rfl (by decide) (by first | assumption | rfl) ?_
    refine mW.top o2.1.2.1 ?_
    refine m_goto dX10_ages_47 60 (by decide) ?_
    exact m_ireturn dX10_ages_60 (qC_mk (by unfold anAges agA; rw [if_pos ⟨w1, w2⟩, clN (by omega), if_pos z1]) ⟨B.tr (wTr_Q S.s12 f2), Or.inr (S.tr f2)⟩ (f.tr (wTr_Q S.s12 f2)))
theorem k_count (hd : 8 ≤ d) (A : cA p a σ) (w : Int32) : mMet G l d kX10_count [.ref 0, .int w] σ (qC p a σ (cnB a w)) := by
  refine mMet.of cm_X10_count rfl (Nat.le_of_ble_eq_true rfl) rfl qC_fit ?_
  refine m_aload_n dX10_count_0 0 rfl ?_
  refine m_callV (As := []) dX10_count_1 cv_X10_97 (by first | assumption | rfl) (by decide) (by omega) rfl rfl (Nat.le_of_ble_eq_true rfl) (c_settle (d := d - 1) (by omega) A) (fun v1 σ1 hv1 => ?_)
  refine m_qVP hv1 (fun hq => ?_)
  clear hv1 v1
  rename mS => s1
  obtain ⟨B, S, f⟩ := hq
  have A1 : cA p a s1 := ⟨B, Or.inr S⟩
  refine m_aload_n dX10_count_4 0 rfl ?_
  refine m_iload_n dX10_count_5 1 rfl ?_
  refine m_callV (As := [_]) dX10_count_6 cv_X10_260 rfl (by decide) (by omega) rfl rfl (Nat.le_of_ble_eq_true rfl) (c_tally (d := d - 1) (by omega) B S w) (fun v1 σ1 hv1 => ?_)
  refine m_qI hv1 ?_
  clear hv1 v1 σ1
  exact m_ireturn dX10_count_9 (qC_mk rfl A1 f)
end PQ


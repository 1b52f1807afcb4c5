/-! ===== the reference: its public questions ===== -/
/-- v is one of 0 .. n - 1 -/
abbrev wI (v : Int32) (n : Nat) : Prop := 0 ≤ v ∧ v < nI n
theorem wI_le {v : Int32} {n : Nat} (hn : n < 1000) : (0 ≤ v ∧ v ≤ nI n) ↔ wI v (n + 1) := by
  have h1 : (nI n).toInt = (n : Int) := nI_toInt (by omega)
  have h2 : (nI (n + 1)).toInt = ((n + 1 : Nat) : Int) := nI_toInt (by omega)
  unfold wI
  rw [Int32.le_iff_toInt_le (y := nI n), Int32.lt_iff_toInt_lt, h1, h2]
  constructor <;> (intro h; refine ⟨h.1, ?_⟩; have := h.2; omega)
theorem wI_of {v : Int32} {n : Nat} (hn : n < 1000) (h : wI v n) : ∃ j, j < n ∧ v = nI j := nI_ofI h.1 (by omega) h.2
theorem wI_nI {j n : Nat} (hn : n < 1000) (h : j < n) : wI (nI j) n := ⟨(nle (a := 0) (by omega) (by omega)).mpr (Nat.zero_le _), (nlt (by omega) (by omega)).mpr h⟩
abbrev cN (v : Int32) : Nat := v.toNatClampNeg
theorem clN {j : Nat} (h : j < 1000) : cN (nI j) = j := nI_clamp (by omega)
theorem oA.n8 {a : PA} {s : mS} (A : oA a s) : (aD a).1.1 ≤ 8 := by rw [← A.2.2.1]; exact parC_n _ _
def anFault (a : PA) (t : Int32) : Int32 := if wI t 2 then (if t = 0 then a.2.2.2.1 else a.2.2.2.2.1) else -2
def anCar (a : PA) (k w : Int32) : Int32 := if wI k (aD a).1.1 ∧ wI w 5 then (aD a).1.2 (cN k) (cN w) else -2
def anSteer (a : PA) (i w : Int32) : Int32 := if wI i 12 ∧ wI w 3 then slA (aD a) (cN i) (cN w) else -2
def anAt (a : PA) (m k w : Int32) : Int32 := if wI m 24 ∧ wI k (aD a).1.1 ∧ wI w 6 then aAt (RSt (aD a) (cN m + 1)) (cN k) (cN w) else -2
def anWho (a : PA) (m x y : Int32) : Int32 := if wI m 24 ∧ wI x 6 ∧ wI y 6 then whoIn (RSt (aD a) (cN m + 1)).1 (RSt (aD a) (cN m + 1)).2.1 x y (aD a).1.1 else -2
def anHouse (a : PA) (m w : Int32) : Int32 := if wI m 24 ∧ wI w 3 then hoA (aD a) (cN m) w else -2
def anFirst (a : PA) (w : Int32) : Int32 := if wI w 2 then fiA (aD a) w else -2
def anJam (a : PA) (w : Int32) : Int32 := if wI w 2 then jaA (aD a) w else -2
def anStand (a : PA) (k w : Int32) : Int32 := if wI k (aD a).1.1 ∧ wI w 3 then stA (aD a) (cN k) w else -2
def anBetter (a : PA) (k m w : Int32) : Int32 := if wI k (aD a).1.1 ∧ wI m 24 ∧ wI w 2 then btA (aD a) (cN k) (cN m) w else -2
def anRing (a : PA) (w : Int32) : Int32 := if wI w 2 then rgA (aD a) w else -2
def anSpare (a : PA) (i : Int32) : Int32 := if -1 ≤ i ∧ i ≤ 1 then spA (aD a) i else -2
def anWas (a : PA) (k w : Int32) : Int32 := if wI k (aD a).1.1 ∧ wI w 2 then (if w = 0 then soP (aD a) (cN k) (aZ a) (aW a) 3 else hvP (aD a) (cN k) (aZ a) (aW a) 9) else -2
def anAsk (a : PA) (k : Int32) : Int32 := if wI k (aD a).1.1 then akP (aD a) (cN k) (aZ a) (aW a) else -2
def anChance (a : PA) (c k w : Int32) : Int64 := if wI c 17 ∧ wI k (aD a).1.1 ∧ wI w 2 then chA (aD a) (cN c) (cN k) w else -9223372036854775806
def anAges (a : PA) (x n w : Int32) : Int32 := if wI n 9 ∧ wI w 2 then agA (aD a) x (cN n) w else -2
section PQ
variable {G : mG} {l : Launch} {d : Nat} {σ : mS} {a : PA}
theorem dX11_car_0 : decode cX11_car 0 = .ok (.aload_n 0, 1) := by decide +kernel
theorem dX11_car_1 : decode cX11_car 1 = .ok (.iload_n 1, 1) := by decide +kernel
theorem dX11_car_2 : decode cX11_car 2 = .ok (.invokevirtual 183, 3) := by decide +kernel
theorem dX11_car_5 : decode cX11_car 5 = .ok (.ifCond .eq 21, 3) := by decide +kernel
theorem dX11_car_8 : decode cX11_car 8 = .ok (.iload_n 2, 1) := by decide +kernel
theorem dX11_car_9 : decode cX11_car 9 = .ok (.iconst 0, 1) := by decide +kernel
theorem dX11_car_10 : decode cX11_car 10 = .ok (.iconst 4, 1) := by decide +kernel
theorem dX11_car_11 : decode cX11_car 11 = .ok (.invokestatic 136, 3) := by decide +kernel
theorem dX11_car_14 : decode cX11_car 14 = .ok (.ifCond .eq 12, 3) := by decide +kernel
theorem dX11_car_17 : decode cX11_car 17 = .ok (.aload_n 0, 1) := by decide +kernel
theorem dX11_car_18 : decode cX11_car 18 = .ok (.iload_n 1, 1) := by decide +kernel
theorem dX11_car_19 : decode cX11_car 19 = .ok (.iload_n 2, 1) := by decide +kernel
theorem dX11_car_20 : decode cX11_car 20 = .ok (.invokevirtual 186, 3) := by decide +kernel
theorem dX11_car_23 : decode cX11_car 23 = .ok (.goto 5, 3) := by decide +kernel
theorem dX11_car_26 : decode cX11_car 26 = .ok (.bipush (-2), 2) := by decide +kernel
theorem dX11_car_28 : decode cX11_car 28 = .ok (.ireturn, 1) := by decide +kernel
theorem dX11_steer_0 : decode cX11_steer 0 = .ok (.iload_n 1, 1) := by decide +kernel
theorem dX11_steer_1 : decode cX11_steer 1 = .ok (.iconst 0, 1) := by decide +kernel
theorem dX11_steer_2 : decode cX11_steer 2 = .ok (.bipush 11, 2) := by decide +kernel
theorem dX11_steer_4 : decode cX11_steer 4 = .ok (.invokestatic 136, 3) := by decide +kernel
theorem dX11_steer_7 : decode cX11_steer 7 = .ok (.ifCond .eq 19, 3) := by decide +kernel
theorem dX11_steer_10 : decode cX11_steer 10 = .ok (.iload_n 2, 1) := by decide +kernel
theorem dX11_steer_11 : decode cX11_steer 11 = .ok (.invokestatic 189, 3) := by decide +kernel
theorem dX11_steer_14 : decode cX11_steer 14 = .ok (.ifCond .eq 12, 3) := by decide +kernel
theorem dX11_steer_17 : decode cX11_steer 17 = .ok (.aload_n 0, 1) := by decide +kernel
theorem dX11_steer_18 : decode cX11_steer 18 = .ok (.iload_n 1, 1) := by decide +kernel
theorem dX11_steer_19 : decode cX11_steer 19 = .ok (.iload_n 2, 1) := by decide +kernel
theorem dX11_steer_20 : decode cX11_steer 20 = .ok (.invokevirtual 192, 3) := by decide +kernel
theorem dX11_steer_23 : decode cX11_steer 23 = .ok (.goto 5, 3) := by decide +kernel
theorem dX11_steer_26 : decode cX11_steer 26 = .ok (.bipush (-2), 2) := by decide +kernel
theorem dX11_steer_28 : decode cX11_steer 28 = .ok (.ireturn, 1) := by decide +kernel
theorem dX11_at_0 : decode cX11_at 0 = .ok (.iload_n 1, 1) := by decide +kernel
theorem dX11_at_1 : decode cX11_at 1 = .ok (.invokestatic 198, 3) := by decide +kernel
theorem dX11_at_4 : decode cX11_at 4 = .ok (.ifCond .eq 30, 3) := by decide +kernel
theorem dX11_at_7 : decode cX11_at 7 = .ok (.aload_n 0, 1) := by decide +kernel
theorem dX11_at_8 : decode cX11_at 8 = .ok (.iload_n 2, 1) := by decide +kernel
theorem dX11_at_9 : decode cX11_at 9 = .ok (.invokevirtual 183, 3) := by decide +kernel
theorem dX11_at_12 : decode cX11_at 12 = .ok (.ifCond .eq 22, 3) := by decide +kernel
theorem dX11_at_15 : decode cX11_at 15 = .ok (.iload_n 3, 1) := by decide +kernel
theorem dX11_at_16 : decode cX11_at 16 = .ok (.iconst 0, 1) := by decide +kernel
theorem dX11_at_17 : decode cX11_at 17 = .ok (.iconst 5, 1) := by decide +kernel
theorem dX11_at_18 : decode cX11_at 18 = .ok (.invokestatic 136, 3) := by decide +kernel
theorem dX11_at_21 : decode cX11_at 21 = .ok (.ifCond .eq 13, 3) := by decide +kernel
theorem dX11_at_24 : decode cX11_at 24 = .ok (.aload_n 0, 1) := by decide +kernel
theorem dX11_at_25 : decode cX11_at 25 = .ok (.iload_n 1, 1) := by decide +kernel
theorem dX11_at_26 : decode cX11_at 26 = .ok (.iload_n 2, 1) := by decide +kernel
theorem dX11_at_27 : decode cX11_at 27 = .ok (.iload_n 3, 1) := by decide +kernel
theorem dX11_at_28 : decode cX11_at 28 = .ok (.invokevirtual 279, 3) := by decide +kernel
theorem dX11_at_31 : decode cX11_at 31 = .ok (.goto 5, 3) := by decide +kernel
theorem dX11_at_34 : decode cX11_at 34 = .ok (.bipush (-2), 2) := by decide +kernel
theorem dX11_at_36 : decode cX11_at 36 = .ok (.ireturn, 1) := by decide +kernel
theorem dX11_who_0 : decode cX11_who 0 = .ok (.iload_n 1, 1) := by decide +kernel
theorem dX11_who_1 : decode cX11_who 1 = .ok (.invokestatic 198, 3) := by decide +kernel
theorem dX11_who_4 : decode cX11_who 4 = .ok (.ifCond .eq 27, 3) := by decide +kernel
theorem dX11_who_7 : decode cX11_who 7 = .ok (.iload_n 2, 1) := by decide +kernel
theorem dX11_who_8 : decode cX11_who 8 = .ok (.invokestatic 155, 3) := by decide +kernel
theorem dX11_who_11 : decode cX11_who 11 = .ok (.ifCond .eq 20, 3) := by decide +kernel
theorem dX11_who_14 : decode cX11_who 14 = .ok (.iload_n 3, 1) := by decide +kernel
theorem dX11_who_15 : decode cX11_who 15 = .ok (.invokestatic 155, 3) := by decide +kernel
theorem dX11_who_18 : decode cX11_who 18 = .ok (.ifCond .eq 13, 3) := by decide +kernel
theorem dX11_who_21 : decode cX11_who 21 = .ok (.aload_n 0, 1) := by decide +kernel
theorem dX11_who_22 : decode cX11_who 22 = .ok (.iload_n 1, 1) := by decide +kernel
theorem dX11_who_23 : decode cX11_who 23 = .ok (.iload_n 2, 1) := by decide +kernel
theorem dX11_who_24 : decode cX11_who 24 = .ok (.iload_n 3, 1) := by decide +kernel
theorem dX11_who_25 : decode cX11_who 25 = .ok (.invokevirtual 282, 3) := by decide +kernel
theorem dX11_who_28 : decode cX11_who 28 = .ok (.goto 5, 3) := by decide +kernel
theorem dX11_who_31 : decode cX11_who 31 = .ok (.bipush (-2), 2) := by decide +kernel
theorem dX11_who_33 : decode cX11_who 33 = .ok (.ireturn, 1) := by decide +kernel
theorem dX11_house_0 : decode cX11_house 0 = .ok (.iload_n 1, 1) := by decide +kernel
theorem dX11_house_1 : decode cX11_house 1 = .ok (.invokestatic 198, 3) := by decide +kernel
theorem dX11_house_4 : decode cX11_house 4 = .ok (.ifCond .eq 19, 3) := by decide +kernel
theorem dX11_house_7 : decode cX11_house 7 = .ok (.iload_n 2, 1) := by decide +kernel
theorem dX11_house_8 : decode cX11_house 8 = .ok (.invokestatic 189, 3) := by decide +kernel
theorem dX11_house_11 : decode cX11_house 11 = .ok (.ifCond .eq 12, 3) := by decide +kernel
theorem dX11_house_14 : decode cX11_house 14 = .ok (.aload_n 0, 1) := by decide +kernel
theorem dX11_house_15 : decode cX11_house 15 = .ok (.iload_n 1, 1) := by decide +kernel
theorem dX11_house_16 : decode cX11_house 16 = .ok (.iload_n 2, 1) := by decide +kernel
theorem dX11_house_17 : decode cX11_house 17 = .ok (.invokevirtual 288, 3) := by decide +kernel
theorem dX11_house_20 : decode cX11_house 20 = .ok (.goto 5, 3) := by decide +kernel
theorem dX11_house_23 : decode cX11_house 23 = .ok (.bipush (-2), 2) := by decide +kernel
theorem dX11_house_25 : decode cX11_house 25 = .ok (.ireturn, 1) := by decide +kernel
theorem dX11_strikes_0 : decode cX11_strikes 0 = .ok (.aload_n 0, 1) := by decide +kernel
theorem dX11_strikes_1 : decode cX11_strikes 1 = .ok (.invokevirtual 291, 3) := by decide +kernel
theorem dX11_strikes_4 : decode cX11_strikes 4 = .ok (.ireturn, 1) := by decide +kernel
theorem dX11_first_0 : decode cX11_first 0 = .ok (.iload_n 1, 1) := by decide +kernel
theorem dX11_first_1 : decode cX11_first 1 = .ok (.invokestatic 195, 3) := by decide +kernel
theorem dX11_first_4 : decode cX11_first 4 = .ok (.ifCond .eq 11, 3) := by decide +kernel
theorem dX11_first_7 : decode cX11_first 7 = .ok (.aload_n 0, 1) := by decide +kernel
theorem dX11_first_8 : decode cX11_first 8 = .ok (.iload_n 1, 1) := by decide +kernel
theorem dX11_first_9 : decode cX11_first 9 = .ok (.invokevirtual 295, 3) := by decide +kernel
theorem dX11_first_12 : decode cX11_first 12 = .ok (.goto 5, 3) := by decide +kernel
theorem dX11_first_15 : decode cX11_first 15 = .ok (.bipush (-2), 2) := by decide +kernel
theorem dX11_first_17 : decode cX11_first 17 = .ok (.ireturn, 1) := by decide +kernel
theorem dX11_best_0 : decode cX11_best 0 = .ok (.aload_n 0, 1) := by decide +kernel
theorem dX11_best_1 : decode cX11_best 1 = .ok (.invokevirtual 298, 3) := by decide +kernel
theorem dX11_best_4 : decode cX11_best 4 = .ok (.ireturn, 1) := by decide +kernel
theorem dX11_meek_0 : decode cX11_meek 0 = .ok (.aload_n 0, 1) := by decide +kernel
theorem dX11_meek_1 : decode cX11_meek 1 = .ok (.invokevirtual 304, 3) := by decide +kernel
theorem dX11_meek_4 : decode cX11_meek 4 = .ok (.ireturn, 1) := by decide +kernel
theorem dX11_jam_0 : decode cX11_jam 0 = .ok (.iload_n 1, 1) := by decide +kernel
theorem dX11_jam_1 : decode cX11_jam 1 = .ok (.invokestatic 195, 3) := by decide +kernel
theorem dX11_jam_4 : decode cX11_jam 4 = .ok (.ifCond .eq 11, 3) := by decide +kernel
theorem dX11_jam_7 : decode cX11_jam 7 = .ok (.aload_n 0, 1) := by decide +kernel
theorem dX11_jam_8 : decode cX11_jam 8 = .ok (.iload_n 1, 1) := by decide +kernel
theorem dX11_jam_9 : decode cX11_jam 9 = .ok (.invokevirtual 307, 3) := by decide +kernel
theorem dX11_jam_12 : decode cX11_jam 12 = .ok (.goto 5, 3) := by decide +kernel
theorem dX11_jam_15 : decode cX11_jam 15 = .ok (.bipush (-2), 2) := by decide +kernel
theorem dX11_jam_17 : decode cX11_jam 17 = .ok (.ireturn, 1) := by decide +kernel
theorem dX11_carried_0 : decode cX11_carried 0 = .ok (.aload_n 0, 1) := by decide +kernel
theorem dX11_carried_1 : decode cX11_carried 1 = .ok (.invokevirtual 310, 3) := by decide +kernel
theorem dX11_carried_4 : decode cX11_carried 4 = .ok (.ireturn, 1) := by decide +kernel
theorem dX11_stand_0 : decode cX11_stand 0 = .ok (.aload_n 0, 1) := by decide +kernel
theorem dX11_stand_1 : decode cX11_stand 1 = .ok (.iload_n 1, 1) := by decide +kernel
theorem dX11_stand_2 : decode cX11_stand 2 = .ok (.invokevirtual 183, 3) := by decide +kernel
theorem dX11_stand_5 : decode cX11_stand 5 = .ok (.ifCond .eq 19, 3) := by decide +kernel
theorem dX11_stand_8 : decode cX11_stand 8 = .ok (.iload_n 2, 1) := by decide +kernel
theorem dX11_stand_9 : decode cX11_stand 9 = .ok (.invokestatic 189, 3) := by decide +kernel
theorem dX11_stand_12 : decode cX11_stand 12 = .ok (.ifCond .eq 12, 3) := by decide +kernel
theorem dX11_stand_15 : decode cX11_stand 15 = .ok (.aload_n 0, 1) := by decide +kernel
theorem dX11_stand_16 : decode cX11_stand 16 = .ok (.iload_n 1, 1) := by decide +kernel
theorem dX11_stand_17 : decode cX11_stand 17 = .ok (.iload_n 2, 1) := by decide +kernel
theorem dX11_stand_18 : decode cX11_stand 18 = .ok (.invokevirtual 316, 3) := by decide +kernel
theorem dX11_stand_21 : decode cX11_stand 21 = .ok (.goto 5, 3) := by decide +kernel
theorem dX11_stand_24 : decode cX11_stand 24 = .ok (.bipush (-2), 2) := by decide +kernel
theorem dX11_stand_26 : decode cX11_stand 26 = .ok (.ireturn, 1) := by decide +kernel
theorem dX11_better_0 : decode cX11_better 0 = .ok (.aload_n 0, 1) := by decide +kernel
theorem dX11_better_1 : decode cX11_better 1 = .ok (.iload_n 1, 1) := by decide +kernel
theorem dX11_better_2 : decode cX11_better 2 = .ok (.invokevirtual 183, 3) := by decide +kernel
theorem dX11_better_5 : decode cX11_better 5 = .ok (.ifCond .eq 27, 3) := by decide +kernel
theorem dX11_better_8 : decode cX11_better 8 = .ok (.iload_n 2, 1) := by decide +kernel
theorem dX11_better_9 : decode cX11_better 9 = .ok (.invokestatic 198, 3) := by decide +kernel
theorem dX11_better_12 : decode cX11_better 12 = .ok (.ifCond .eq 20, 3) := by decide +kernel
theorem dX11_better_15 : decode cX11_better 15 = .ok (.iload_n 3, 1) := by decide +kernel
theorem dX11_better_16 : decode cX11_better 16 = .ok (.invokestatic 195, 3) := by decide +kernel
theorem dX11_better_19 : decode cX11_better 19 = .ok (.ifCond .eq 13, 3) := by decide +kernel
theorem dX11_better_22 : decode cX11_better 22 = .ok (.aload_n 0, 1) := by decide +kernel
theorem dX11_better_23 : decode cX11_better 23 = .ok (.iload_n 1, 1) := by decide +kernel
theorem dX11_better_24 : decode cX11_better 24 = .ok (.iload_n 2, 1) := by decide +kernel
theorem dX11_better_25 : decode cX11_better 25 = .ok (.iload_n 3, 1) := by decide +kernel
theorem dX11_better_26 : decode cX11_better 26 = .ok (.invokevirtual 319, 3) := by decide +kernel
theorem dX11_better_29 : decode cX11_better 29 = .ok (.goto 5, 3) := by decide +kernel
theorem dX11_better_32 : decode cX11_better 32 = .ok (.bipush (-2), 2) := by decide +kernel
theorem dX11_better_34 : decode cX11_better 34 = .ok (.ireturn, 1) := by decide +kernel
theorem dX11_ring_0 : decode cX11_ring 0 = .ok (.iload_n 1, 1) := by decide +kernel
theorem dX11_ring_1 : decode cX11_ring 1 = .ok (.invokestatic 195, 3) := by decide +kernel
theorem dX11_ring_4 : decode cX11_ring 4 = .ok (.ifCond .eq 11, 3) := by decide +kernel
theorem dX11_ring_7 : decode cX11_ring 7 = .ok (.aload_n 0, 1) := by decide +kernel
theorem dX11_ring_8 : decode cX11_ring 8 = .ok (.iload_n 1, 1) := by decide +kernel
theorem dX11_ring_9 : decode cX11_ring 9 = .ok (.invokevirtual 322, 3) := by decide +kernel
theorem dX11_ring_12 : decode cX11_ring 12 = .ok (.goto 5, 3) := by decide +kernel
theorem dX11_ring_15 : decode cX11_ring 15 = .ok (.bipush (-2), 2) := by decide +kernel
theorem dX11_ring_17 : decode cX11_ring 17 = .ok (.ireturn, 1) := by decide +kernel
theorem dX11_spare_0 : decode cX11_spare 0 = .ok (.iload_n 1, 1) := by decide +kernel
theorem dX11_spare_1 : decode cX11_spare 1 = .ok (.iconst (-1), 1) := by decide +kernel
theorem dX11_spare_2 : decode cX11_spare 2 = .ok (.iconst 1, 1) := by decide +kernel
theorem dX11_spare_3 : decode cX11_spare 3 = .ok (.invokestatic 136, 3) := by decide +kernel
theorem dX11_spare_6 : decode cX11_spare 6 = .ok (.ifCond .eq 15, 3) := by decide +kernel
theorem dX11_spare_9 : decode cX11_spare 9 = .ok (.aload_n 0, 1) := by decide +kernel
theorem dX11_spare_10 : decode cX11_spare 10 = .ok (.aload_n 0, 1) := by decide +kernel
theorem dX11_spare_11 : decode cX11_spare 11 = .ok (.invokevirtual 328, 3) := by decide +kernel
theorem dX11_spare_14 : decode cX11_spare 14 = .ok (.iload_n 1, 1) := by decide +kernel
theorem dX11_spare_15 : decode cX11_spare 15 = .ok (.invokevirtual 331, 3) := by decide +kernel
theorem dX11_spare_18 : decode cX11_spare 18 = .ok (.goto 5, 3) := by decide +kernel
theorem dX11_spare_21 : decode cX11_spare 21 = .ok (.bipush (-2), 2) := by decide +kernel
theorem dX11_spare_23 : decode cX11_spare 23 = .ok (.ireturn, 1) := by decide +kernel
theorem dX11_never_0 : decode cX11_never 0 = .ok (.aload_n 0, 1) := by decide +kernel
theorem dX11_never_1 : decode cX11_never 1 = .ok (.invokevirtual 341, 3) := by decide +kernel
theorem dX11_never_4 : decode cX11_never 4 = .ok (.ireturn, 1) := by decide +kernel
theorem dX11_was_0 : decode cX11_was 0 = .ok (.aload_n 0, 1) := by decide +kernel
theorem dX11_was_1 : decode cX11_was 1 = .ok (.iload_n 1, 1) := by decide +kernel
theorem dX11_was_2 : decode cX11_was 2 = .ok (.invokevirtual 183, 3) := by decide +kernel
theorem dX11_was_5 : decode cX11_was 5 = .ok (.ifCond .eq 30, 3) := by decide +kernel
theorem dX11_was_8 : decode cX11_was 8 = .ok (.iload_n 2, 1) := by decide +kernel
theorem dX11_was_9 : decode cX11_was 9 = .ok (.invokestatic 195, 3) := by decide +kernel
theorem dX11_was_12 : decode cX11_was 12 = .ok (.ifCond .eq 23, 3) := by decide +kernel
theorem dX11_was_15 : decode cX11_was 15 = .ok (.iload_n 2, 1) := by decide +kernel
theorem dX11_was_16 : decode cX11_was 16 = .ok (.ifCond .ne 11, 3) := by decide +kernel
theorem dX11_was_19 : decode cX11_was 19 = .ok (.aload_n 0, 1) := by decide +kernel
theorem dX11_was_20 : decode cX11_was 20 = .ok (.iload_n 1, 1) := by decide +kernel
theorem dX11_was_21 : decode cX11_was 21 = .ok (.invokevirtual 344, 3) := by decide +kernel
theorem dX11_was_24 : decode cX11_was 24 = .ok (.goto 13, 3) := by decide +kernel
theorem dX11_was_27 : decode cX11_was 27 = .ok (.aload_n 0, 1) := by decide +kernel
theorem dX11_was_28 : decode cX11_was 28 = .ok (.iload_n 1, 1) := by decide +kernel
theorem dX11_was_29 : decode cX11_was 29 = .ok (.invokevirtual 347, 3) := by decide +kernel
theorem dX11_was_32 : decode cX11_was 32 = .ok (.goto 5, 3) := by decide +kernel
theorem dX11_was_35 : decode cX11_was 35 = .ok (.bipush (-2), 2) := by decide +kernel
theorem dX11_was_37 : decode cX11_was 37 = .ok (.ireturn, 1) := by decide +kernel
theorem dX11_ask_0 : decode cX11_ask 0 = .ok (.aload_n 0, 1) := by decide +kernel
theorem dX11_ask_1 : decode cX11_ask 1 = .ok (.iload_n 1, 1) := by decide +kernel
theorem dX11_ask_2 : decode cX11_ask 2 = .ok (.invokevirtual 183, 3) := by decide +kernel
theorem dX11_ask_5 : decode cX11_ask 5 = .ok (.ifCond .eq 11, 3) := by decide +kernel
theorem dX11_ask_8 : decode cX11_ask 8 = .ok (.aload_n 0, 1) := by decide +kernel
theorem dX11_ask_9 : decode cX11_ask 9 = .ok (.iload_n 1, 1) := by decide +kernel
theorem dX11_ask_10 : decode cX11_ask 10 = .ok (.invokevirtual 350, 3) := by decide +kernel
theorem dX11_ask_13 : decode cX11_ask 13 = .ok (.goto 5, 3) := by decide +kernel
theorem dX11_ask_16 : decode cX11_ask 16 = .ok (.bipush (-2), 2) := by decide +kernel
theorem dX11_ask_18 : decode cX11_ask 18 = .ok (.ireturn, 1) := by decide +kernel
theorem dX11_chance_0 : decode cX11_chance 0 = .ok (.iload_n 1, 1) := by decide +kernel
theorem dX11_chance_1 : decode cX11_chance 1 = .ok (.iconst 0, 1) := by decide +kernel
theorem dX11_chance_2 : decode cX11_chance 2 = .ok (.bipush 16, 2) := by decide +kernel
theorem dX11_chance_4 : decode cX11_chance 4 = .ok (.invokestatic 136, 3) := by decide +kernel
theorem dX11_chance_7 : decode cX11_chance 7 = .ok (.ifCond .eq 28, 3) := by decide +kernel
theorem dX11_chance_10 : decode cX11_chance 10 = .ok (.aload_n 0, 1) := by decide +kernel
theorem dX11_chance_11 : decode cX11_chance 11 = .ok (.iload_n 2, 1) := by decide +kernel
theorem dX11_chance_12 : decode cX11_chance 12 = .ok (.invokevirtual 183, 3) := by decide +kernel
theorem dX11_chance_15 : decode cX11_chance 15 = .ok (.ifCond .eq 20, 3) := by decide +kernel
theorem dX11_chance_18 : decode cX11_chance 18 = .ok (.iload_n 3, 1) := by decide +kernel
theorem dX11_chance_19 : decode cX11_chance 19 = .ok (.invokestatic 195, 3) := by decide +kernel
theorem dX11_chance_22 : decode cX11_chance 22 = .ok (.ifCond .eq 13, 3) := by decide +kernel
theorem dX11_chance_25 : decode cX11_chance 25 = .ok (.aload_n 0, 1) := by decide +kernel
theorem dX11_chance_26 : decode cX11_chance 26 = .ok (.iload_n 1, 1) := by decide +kernel
theorem dX11_chance_27 : decode cX11_chance 27 = .ok (.iload_n 2, 1) := by decide +kernel
theorem dX11_chance_28 : decode cX11_chance 28 = .ok (.iload_n 3, 1) := by decide +kernel
theorem dX11_chance_29 : decode cX11_chance 29 = .ok (.invokevirtual 357, 3) := by decide +kernel
theorem dX11_chance_32 : decode cX11_chance 32 = .ok (.goto 8, 3) := by decide +kernel
theorem dX11_chance_35 : decode cX11_chance 35 = .ok (.bipush (-2), 2) := by decide +kernel
theorem dX11_chance_37 : decode cX11_chance 37 = .ok (.invokestatic 361, 3) := by decide +kernel
theorem dX11_chance_40 : decode cX11_chance 40 = .ok (.lreturn, 1) := by decide +kernel
theorem dX11_ages_0 : decode cX11_ages 0 = .ok (.iload_n 2, 1) := by decide +kernel
theorem dX11_ages_1 : decode cX11_ages 1 = .ok (.iconst 0, 1) := by decide +kernel
theorem dX11_ages_2 : decode cX11_ages 2 = .ok (.bipush 8, 2) := by decide +kernel
theorem dX11_ages_4 : decode cX11_ages 4 = .ok (.invokestatic 136, 3) := by decide +kernel
theorem dX11_ages_7 : decode cX11_ages 7 = .ok (.ifCond .eq 20, 3) := by decide +kernel
theorem dX11_ages_10 : decode cX11_ages 10 = .ok (.iload_n 3, 1) := by decide +kernel
theorem dX11_ages_11 : decode cX11_ages 11 = .ok (.invokestatic 195, 3) := by decide +kernel
theorem dX11_ages_14 : decode cX11_ages 14 = .ok (.ifCond .eq 13, 3) := by decide +kernel
theorem dX11_ages_17 : decode cX11_ages 17 = .ok (.aload_n 0, 1) := by decide +kernel
theorem dX11_ages_18 : decode cX11_ages 18 = .ok (.iload_n 1, 1) := by decide +kernel
theorem dX11_ages_19 : decode cX11_ages 19 = .ok (.iload_n 2, 1) := by decide +kernel
theorem dX11_ages_20 : decode cX11_ages 20 = .ok (.iload_n 3, 1) := by decide +kernel
theorem dX11_ages_21 : decode cX11_ages 21 = .ok (.invokevirtual 369, 3) := by decide +kernel
theorem dX11_ages_24 : decode cX11_ages 24 = .ok (.goto 5, 3) := by decide +kernel
theorem dX11_ages_27 : decode cX11_ages 27 = .ok (.bipush (-2), 2) := by decide +kernel
theorem dX11_ages_29 : decode cX11_ages 29 = .ok (.ireturn, 1) := by decide +kernel
theorem r_fault (hd : 10 ≤ d) (A : oA a σ) (t : Int32) : mMet G l d kX11_fault [.ref 111, .int t] σ (qA a σ (anFault a t)) := by
  have hn := A.n8
  refine mMet.of cm_X11_fault rfl (Nat.le_of_ble_eq_true rfl) rfl (fun v1 σ1 h => by obtain ⟨r, h1, -⟩ := h; rw [h1]; rfl) ?_
  unfold anFault
  refine m_iload_n dX11_fault_0 1 rfl ?_
  refine m_callS (As := [_]) dX11_fault_1 cs_X11_140 (by omega) rfl rfl (Nat.le_of_ble_eq_true rfl) (c_isText (d := d - 1) (by omega) t) (fun v1 σ1 hv1 => ?_)
  refine m_qI hv1 ?_
  clear hv1 v1 σ1
  refine m_if_eq dX11_fault_4 15 (by decide) (fun h0 => ?_) (fun h0 => ?_)
  · refine m_bipush (v := -2) dX11_fault_15 (by decide) ?_
    refine m_ireturn dX11_fault_17 ⟨_, rfl, ?_, A, fW.rf⟩
    rw [if_neg (fun q => bI0 h0 ((wI_le (n := 1) (by decide)).mpr q))]
  · have w0 : wI t 2 := (wI_le (n := 1) (by decide)).mp (bI1 h0)
    rw [if_pos w0]
    refine m_aload_n dX11_fault_7 0 rfl ?_
    refine m_iload_n dX11_fault_8 1 rfl ?_
    refine m_callV (As := [_]) dX11_fault_9 cv_X11_177 (by first | assumption | rfl) (by decide) (by omega) rfl rfl (Nat.le_of_ble_eq_true rfl) (a_faultOf (d := d - 1) (by omega) A t) (fun v1 σ1 hv1 => ?_)
    refine m_qIP hv1 (fun xf hq => ?_)
    clear hv1 v1
    rename mS => s2
    obtain ⟨ef, A2, rd2, f2⟩ := hq
    refine m_goto dX11_fault_12 17 (by decide) ?_
    exact m_ireturn dX11_fault_17 ⟨_, rfl, ef, A2, f2⟩
theorem r_car (hd : 10 ≤ d) (A : oA a σ) (k w : Int32) : mMet G l d kX11_car [.ref 111, .int k, .int w] σ (qA a σ (anCar a k w)) := by
  have hn := A.n8
  refine mMet.of cm_X11_car rfl (Nat.le_of_ble_eq_true rfl) rfl (fun v1 σ1 h => by obtain ⟨r, h1, -⟩ := h; rw [h1]; rfl) ?_
  unfold anCar
  refine m_aload_n dX11_car_0 0 rfl ?_
  refine m_iload_n dX11_car_1 1 rfl ?_
  refine m_callV (As := [_]) dX11_car_2 cv_X11_183 (by first | assumption | rfl) (by decide) (by omega) rfl rfl (Nat.le_of_ble_eq_true rfl) (a_isCar (d := d - 1) (by omega) A k) (fun v1 σ1 hv1 => ?_)
  refine m_qIP hv1 (fun x0 hq => ?_)
  clear hv1 v1
  rename mS => s1
  obtain ⟨rfl, A1, rd1, f1⟩ := hq
  refine m_if_eq dX11_car_5 26 (by decide) (fun h0 => ?_) (fun h0 => ?_)
  · refine m_bipush (v := -2) dX11_car_26 (by decide) ?_
    refine m_ireturn dX11_car_28 ⟨_, rfl, ?_, A1, f1⟩
    rw [if_neg (fun q => bI0 h0 q.1)]
  · have w0 : wI k (aD a).1.1 := bI1 h0
    refine m_iload_n dX11_car_8 2 rfl ?_
    refine m_iconst (v := 0) dX11_car_9 (by decide) ?_
    refine m_iconst (v := 4) dX11_car_10 (by decide) ?_
    refine m_callS (As := [_, _, _]) dX11_car_11 cs_X11_136 (by omega) rfl rfl (Nat.le_of_ble_eq_true rfl) (c_in (d := d - 1) w 0 4) (fun v1 σ1 hv1 => ?_)
    refine m_qI hv1 ?_
    clear hv1 v1 σ1
    refine m_if_eq dX11_car_14 26 (by decide) (fun h1 => ?_) (fun h1 => ?_)
    · refine m_bipush (v := -2) dX11_car_26 (by decide) ?_
      refine m_ireturn dX11_car_28 ⟨_, rfl, ?_, A1, f1⟩
      rw [if_neg (fun q => bI0 h1 ((wI_le (n := 4) (by decide)).mpr q.2))]
    · have w1 : wI w 5 := (wI_le (n := 4) (by decide)).mp (bI1 h1)
      rw [if_pos (And.intro w0 w1)]
      obtain ⟨i, hi, rfl⟩ := wI_of (by omega) w0
      rw [clN (show i < 1000 by omega)]
      obtain ⟨j, hj, rfl⟩ := wI_of (by omega) w1
      rw [clN (show j < 1000 by omega)]
      refine m_aload_n dX11_car_17 0 rfl ?_
      refine m_iload_n dX11_car_18 1 rfl ?_
      refine m_iload_n dX11_car_19 2 rfl ?_
      refine m_callV (As := [_, _]) dX11_car_20 cv_X11_186 (by first | assumption | rfl) (by decide) (by omega) rfl rfl (Nat.le_of_ble_eq_true rfl) (c_carOf (d := d - 1) i j (by omega) (by omega)) (fun v1 σ1 hv1 => ?_)
      refine m_qI hv1 ?_
      clear hv1 v1 σ1
      refine mW.top (rd1.2 i hi j (by omega)) ?_
      refine m_goto dX11_car_23 28 (by decide) ?_
      exact m_ireturn dX11_car_28 ⟨_, rfl, rfl, A1, f1⟩
theorem r_steer (hd : 10 ≤ d) (A : oA a σ) (i w : Int32) : mMet G l d kX11_steer [.ref 111, .int i, .int w] σ (qA a σ (anSteer a i w)) := by
  have hn := A.n8
  refine mMet.of cm_X11_steer rfl (Nat.le_of_ble_eq_true rfl) rfl (fun v1 σ1 h => by obtain ⟨r, h1, -⟩ := h; rw [h1]; rfl) ?_
  unfold anSteer
  refine m_iload_n dX11_steer_0 1 rfl ?_
  refine m_iconst (v := 0) dX11_steer_1 (by decide) ?_
  refine m_bipush (v := 11) dX11_steer_2 (by decide) ?_
  refine m_callS (As := [_, _, _]) dX11_steer_4 cs_X11_136 (by omega) rfl rfl (Nat.le_of_ble_eq_true rfl) (c_in (d := d - 1) i 0 11) (fun v1 σ1 hv1 => ?_)
  refine m_qI hv1 ?_
  clear hv1 v1 σ1
  refine m_if_eq dX11_steer_7 26 (by decide) (fun h0 => ?_) (fun h0 => ?_)
  · refine m_bipush (v := -2) dX11_steer_26 (by decide) ?_
    refine m_ireturn dX11_steer_28 ⟨_, rfl, ?_, A, fW.rf⟩
    rw [if_neg (fun q => bI0 h0 ((wI_le (n := 11) (by decide)).mpr q.1))]
  · have w0 : wI i 12 := (wI_le (n := 11) (by decide)).mp (bI1 h0)
    refine m_iload_n dX11_steer_10 2 rfl ?_
    refine m_callS (As := [_]) dX11_steer_11 cs_X11_189 (by omega) rfl rfl (Nat.le_of_ble_eq_true rfl) (c_isThree (d := d - 1) (by omega) w) (fun v1 σ1 hv1 => ?_)
    refine m_qI hv1 ?_
    clear hv1 v1 σ1
    refine m_if_eq dX11_steer_14 26 (by decide) (fun h1 => ?_) (fun h1 => ?_)
    · refine m_bipush (v := -2) dX11_steer_26 (by decide) ?_
      refine m_ireturn dX11_steer_28 ⟨_, rfl, ?_, A, fW.rf⟩
      rw [if_neg (fun q => bI0 h1 ((wI_le (n := 2) (by decide)).mpr q.2))]
    · have w1 : wI w 3 := (wI_le (n := 2) (by decide)).mp (bI1 h1)
      rw [if_pos (And.intro w0 w1)]
      obtain ⟨i, hi, rfl⟩ := wI_of (by omega) w0
      rw [clN (show i < 1000 by omega)]
      obtain ⟨j, hj, rfl⟩ := wI_of (by omega) w1
      rw [clN (show j < 1000 by omega)]
      refine m_aload_n dX11_steer_17 0 rfl ?_
      refine m_iload_n dX11_steer_18 1 rfl ?_
      refine m_iload_n dX11_steer_19 2 rfl ?_
      refine m_callV (As := [_, _]) dX11_steer_20 cv_X11_192 (by first | assumption | rfl) (by decide) (by omega) rfl rfl (Nat.le_of_ble_eq_true rfl) (a_steerTold (d := d - 1) (by omega) A i j hi hj) (fun v1 σ1 hv1 => ?_)
      refine m_qIP hv1 (fun xf hq => ?_)
      clear hv1 v1
      rename mS => s2
      obtain ⟨ef, A2, rd2, f2⟩ := hq
      refine m_goto dX11_steer_23 28 (by decide) ?_
      exact m_ireturn dX11_steer_28 ⟨_, rfl, ef, A2, f2⟩
theorem r_at (hd : 10 ≤ d) (A : oA a σ) (m k w : Int32) : mMet G l d kX11_at [.ref 111, .int m, .int k, .int w] σ (qA a σ (anAt a m k w)) := by
  have hn := A.n8
  refine mMet.of cm_X11_at rfl (Nat.le_of_ble_eq_true rfl) rfl (fun v1 σ1 h => by obtain ⟨r, h1, -⟩ := h; rw [h1]; rfl) ?_
  unfold anAt
  refine m_iload_n dX11_at_0 1 rfl ?_
  refine m_callS (As := [_]) dX11_at_1 cs_X11_198 (by omega) rfl rfl (Nat.le_of_ble_eq_true rfl) (c_isMoment (d := d - 1) (by omega) m) (fun v1 σ1 hv1 => ?_)
  refine m_qI hv1 ?_
  clear hv1 v1 σ1
  refine m_if_eq dX11_at_4 34 (by decide) (fun h0 => ?_) (fun h0 => ?_)
  · refine m_bipush (v := -2) dX11_at_34 (by decide) ?_
    refine m_ireturn dX11_at_36 ⟨_, rfl, ?_, A, fW.rf⟩
    rw [if_neg (fun q => bI0 h0 ((wI_le (n := 23) (by decide)).mpr q.1))]
  · have w0 : wI m 24 := (wI_le (n := 23) (by decide)).mp (bI1 h0)
    refine m_aload_n dX11_at_7 0 rfl ?_
    refine m_iload_n dX11_at_8 2 rfl ?_
    refine m_callV (As := [_]) dX11_at_9 cv_X11_183 (by first | assumption | rfl) (by decide) (by omega) rfl rfl (Nat.le_of_ble_eq_true rfl) (a_isCar (d := d - 1) (by omega) A k) (fun v1 σ1 hv1 => ?_)
    refine m_qIP hv1 (fun x1 hq => ?_)
    clear hv1 v1
    rename mS => s1
    obtain ⟨rfl, A1, rd1, f1⟩ := hq
    refine m_if_eq dX11_at_12 34 (by decide) (fun h1 => ?_) (fun h1 => ?_)
    · refine m_bipush (v := -2) dX11_at_34 (by decide) ?_
      refine m_ireturn dX11_at_36 ⟨_, rfl, ?_, A1, f1⟩
      rw [if_neg (fun q => bI0 h1 q.2.1)]
    · have w1 : wI k (aD a).1.1 := bI1 h1
      refine m_iload_n dX11_at_15 3 rfl ?_
      refine m_iconst (v := 0) dX11_at_16 (by decide) ?_
      refine m_iconst (v := 5) dX11_at_17 (by decide) ?_
      refine m_callS (As := [_, _, _]) dX11_at_18 cs_X11_136 (by omega) rfl rfl (Nat.le_of_ble_eq_true rfl) (c_in (d := d - 1) w 0 5) (fun v1 σ1 hv1 => ?_)
      refine m_qI hv1 ?_
      clear hv1 v1 σ1
      refine m_if_eq dX11_at_21 34 (by decide) (fun h2 => ?_) (fun h2 => ?_)
      · refine m_bipush (v := -2) dX11_at_34 (by decide) ?_
        refine m_ireturn dX11_at_36 ⟨_, rfl, ?_, A1, f1⟩
        rw [if_neg (fun q => bI0 h2 ((wI_le (n := 5) (by decide)).mpr q.2.2))]
      · have w2 : wI w 6 := (wI_le (n := 5) (by decide)).mp (bI1 h2)
        rw [if_pos (And.intro w0 (And.intro w1 w2))]
        obtain ⟨u, hu, rfl⟩ := wI_of (by omega) w0
        rw [clN (show u < 1000 by omega)]
        obtain ⟨i, hi, rfl⟩ := wI_of (by omega) w1
        rw [clN (show i < 1000 by omega)]
        obtain ⟨j, hj, rfl⟩ := wI_of (by omega) w2
        rw [clN (show j < 1000 by omega)]
        refine m_aload_n dX11_at_24 0 rfl ?_
        refine m_iload_n dX11_at_25 1 rfl ?_
        refine m_iload_n dX11_at_26 2 rfl ?_
        refine m_iload_n dX11_at_27 3 rfl ?_
        refine m_callV (As := [_, _, _]) dX11_at_28 cv_X11_279 (by first | assumption | rfl) (by decide) (by omega) rfl rfl (Nat.le_of_ble_eq_true rfl) (a_atOf (d := d - 1) (by omega) A1 u i j hu hi (by omega)) (fun v1 σ1 hv1 => ?_)
        refine m_qIP hv1 (fun xf hq => ?_)
        clear hv1 v1
        rename mS => s2
        obtain ⟨ef, A2, f2⟩ := hq
        refine m_goto dX11_at_31 36 (by decide) ?_
        exact m_ireturn dX11_at_36 ⟨_, rfl, ef, A2, f1.tr f2⟩
theorem r_who (hd : 10 ≤ d) (A : oA a σ) (m x y : Int32) : mMet G l d kX11_who [.ref 111, .int m, .int x, .int y] σ (qA a σ (anWho a m x y)) := by
  have hn := A.n8
  refine mMet.of cm_X11_who rfl (Nat.le_of_ble_eq_true rfl) rfl (fun v1 σ1 h => by obtain ⟨r, h1, -⟩ := h; rw [h1]; rfl) ?_
  unfold anWho
  refine m_iload_n dX11_who_0 1 rfl ?_
  refine m_callS (As := [_]) dX11_who_1 cs_X11_198 (by omega) rfl rfl (Nat.le_of_ble_eq_true rfl) (c_isMoment (d := d - 1) (by omega) m) (fun v1 σ1 hv1 => ?_)
  refine m_qI hv1 ?_
  clear hv1 v1 σ1
  refine m_if_eq dX11_who_4 31 (by decide) (fun h0 => ?_) (fun h0 => ?_)
  · refine m_bipush (v := -2) dX11_who_31 (by decide) ?_
    refine m_ireturn dX11_who_33 ⟨_, rfl, ?_, A, fW.rf⟩
    rw [if_neg (fun q => bI0 h0 ((wI_le (n := 23) (by decide)).mpr q.1))]
  · have w0 : wI m 24 := (wI_le (n := 23) (by decide)).mp (bI1 h0)
    refine m_iload_n dX11_who_7 2 rfl ?_
    refine m_callS (As := [_]) dX11_who_8 cs_X11_155 (by omega) rfl rfl (Nat.le_of_ble_eq_true rfl) (c_isSix (d := d - 1) (by omega) x) (fun v1 σ1 hv1 => ?_)
    refine m_qI hv1 ?_
    clear hv1 v1 σ1
    refine m_if_eq dX11_who_11 31 (by decide) (fun h1 => ?_) (fun h1 => ?_)
    · refine m_bipush (v := -2) dX11_who_31 (by decide) ?_
      refine m_ireturn dX11_who_33 ⟨_, rfl, ?_, A, fW.rf⟩
      rw [if_neg (fun q => bI0 h1 ((wI_le (n := 5) (by decide)).mpr q.2.1))]
    · have w1 : wI x 6 := (wI_le (n := 5) (by decide)).mp (bI1 h1)
      refine m_iload_n dX11_who_14 3 rfl ?_
      refine m_callS (As := [_]) dX11_who_15 cs_X11_155 (by omega) rfl rfl (Nat.le_of_ble_eq_true rfl) (c_isSix (d := d - 1) (by omega) y) (fun v1 σ1 hv1 => ?_)
      refine m_qI hv1 ?_
      clear hv1 v1 σ1
      refine m_if_eq dX11_who_18 31 (by decide) (fun h2 => ?_) (fun h2 => ?_)
      · refine m_bipush (v := -2) dX11_who_31 (by decide) ?_
        refine m_ireturn dX11_who_33 ⟨_, rfl, ?_, A, fW.rf⟩
        rw [if_neg (fun q => bI0 h2 ((wI_le (n := 5) (by decide)).mpr q.2.2))]
      · have w2 : wI y 6 := (wI_le (n := 5) (by decide)).mp (bI1 h2)
        rw [if_pos (And.intro w0 (And.intro w1 w2))]
        obtain ⟨u, hu, rfl⟩ := wI_of (by omega) w0
        rw [clN (show u < 1000 by omega)]
        refine m_aload_n dX11_who_21 0 rfl ?_
        refine m_iload_n dX11_who_22 1 rfl ?_
        refine m_iload_n dX11_who_23 2 rfl ?_
        refine m_iload_n dX11_who_24 3 rfl ?_
        refine m_callV (As := [_, _, _]) dX11_who_25 cv_X11_282 (by first | assumption | rfl) (by decide) (by omega) rfl rfl (Nat.le_of_ble_eq_true rfl) (a_whoOf (d := d - 1) (by omega) A u hu x y) (fun v1 σ1 hv1 => ?_)
        refine m_qIP hv1 (fun xf hq => ?_)
        clear hv1 v1
        rename mS => s2
        obtain ⟨ef, A2, f2⟩ := hq
        refine m_goto dX11_who_28 33 (by decide) ?_
        exact m_ireturn dX11_who_33 ⟨_, rfl, ef, A2, f2⟩
theorem r_house (hd : 10 ≤ d) (A : oA a σ) (m w : Int32) : mMet G l d kX11_house [.ref 111, .int m, .int w] σ (qA a σ (anHouse a m w)) := by
  have hn := A.n8
  refine mMet.of cm_X11_house rfl (Nat.le_of_ble_eq_true rfl) rfl (fun v1 σ1 h => by obtain ⟨r, h1, -⟩ := h; rw [h1]; rfl) ?_
  unfold anHouse
  refine m_iload_n dX11_house_0 1 rfl ?_
  refine m_callS (As := [_]) dX11_house_1 cs_X11_198 (by omega) rfl rfl (Nat.le_of_ble_eq_true rfl) (c_isMoment (d := d - 1) (by omega) m) (fun v1 σ1 hv1 => ?_)
  refine m_qI hv1 ?_
  clear hv1 v1 σ1
  refine m_if_eq dX11_house_4 23 (by decide) (fun h0 => ?_) (fun h0 => ?_)
  · refine m_bipush (v := -2) dX11_house_23 (by decide) ?_
    refine m_ireturn dX11_house_25 ⟨_, rfl, ?_, A, fW.rf⟩
    rw [if_neg (fun q => bI0 h0 ((wI_le (n := 23) (by decide)).mpr q.1))]
  · have w0 : wI m 24 := (wI_le (n := 23) (by decide)).mp (bI1 h0)
    refine m_iload_n dX11_house_7 2 rfl ?_
    refine m_callS (As := [_]) dX11_house_8 cs_X11_189 (by omega) rfl rfl (Nat.le_of_ble_eq_true rfl) (c_isThree (d := d - 1) (by omega) w) (fun v1 σ1 hv1 => ?_)
    refine m_qI hv1 ?_
    clear hv1 v1 σ1
    refine m_if_eq dX11_house_11 23 (by decide) (fun h1 => ?_) (fun h1 => ?_)
    · refine m_bipush (v := -2) dX11_house_23 (by decide) ?_
      refine m_ireturn dX11_house_25 ⟨_, rfl, ?_, A, fW.rf⟩
      rw [if_neg (fun q => bI0 h1 ((wI_le (n := 2) (by decide)).mpr q.2))]
    · have w1 : wI w 3 := (wI_le (n := 2) (by decide)).mp (bI1 h1)
      rw [if_pos (And.intro w0 w1)]
      obtain ⟨u, hu, rfl⟩ := wI_of (by omega) w0
      rw [clN (show u < 1000 by omega)]
      refine m_aload_n dX11_house_14 0 rfl ?_
      refine m_iload_n dX11_house_15 1 rfl ?_
      refine m_iload_n dX11_house_16 2 rfl ?_
      refine m_callV (As := [_, _]) dX11_house_17 cv_X11_288 (by first | assumption | rfl) (by decide) (by omega) rfl rfl (Nat.le_of_ble_eq_true rfl) (a_houseOf (d := d - 1) (by omega) A u hu w) (fun v1 σ1 hv1 => ?_)
      refine m_qIP hv1 (fun xf hq => ?_)
      clear hv1 v1
      rename mS => s2
      obtain ⟨ef, A2, f2⟩ := hq
      refine m_goto dX11_house_20 25 (by decide) ?_
      exact m_ireturn dX11_house_25 ⟨_, rfl, ef, A2, f2⟩
theorem r_first (hd : 10 ≤ d) (A : oA a σ) (w : Int32) : mMet G l d kX11_first [.ref 111, .int w] σ (qA a σ (anFirst a w)) := by
  have hn := A.n8
  refine mMet.of cm_X11_first rfl (Nat.le_of_ble_eq_true rfl) rfl (fun v1 σ1 h => by obtain ⟨r, h1, -⟩ := h; rw [h1]; rfl) ?_
  unfold anFirst
  refine m_iload_n dX11_first_0 1 rfl ?_
  refine m_callS (As := [_]) dX11_first_1 cs_X11_195 (by omega) rfl rfl (Nat.le_of_ble_eq_true rfl) (c_isTwo (d := d - 1) (by omega) w) (fun v1 σ1 hv1 => ?_)
  refine m_qI hv1 ?_
  clear hv1 v1 σ1
  refine m_if_eq dX11_first_4 15 (by decide) (fun h0 => ?_) (fun h0 => ?_)
  · refine m_bipush (v := -2) dX11_first_15 (by decide) ?_
    refine m_ireturn dX11_first_17 ⟨_, rfl, ?_, A, fW.rf⟩
    rw [if_neg (fun q => bI0 h0 ((wI_le (n := 1) (by decide)).mpr q))]
  · have w0 : wI w 2 := (wI_le (n := 1) (by decide)).mp (bI1 h0)
    rw [if_pos w0]
    refine m_aload_n dX11_first_7 0 rfl ?_
    refine m_iload_n dX11_first_8 1 rfl ?_
    refine m_callV (As := [_]) dX11_first_9 cv_X11_295 (by first | assumption | rfl) (by decide) (by omega) rfl rfl (Nat.le_of_ble_eq_true rfl) (a_firstOf (d := d - 1) (by omega) A w) (fun v1 σ1 hv1 => ?_)
    refine m_qIP hv1 (fun xf hq => ?_)
    clear hv1 v1
    rename mS => s2
    obtain ⟨ef, A2, f2⟩ := hq
    refine m_goto dX11_first_12 17 (by decide) ?_
    exact m_ireturn dX11_first_17 ⟨_, rfl, ef, A2, f2⟩
theorem r_jam (hd : 10 ≤ d) (A : oA a σ) (w : Int32) : mMet G l d kX11_jam [.ref 111, .int w] σ (qA a σ (anJam a w)) := by
  have hn := A.n8
  refine mMet.of cm_X11_jam rfl (Nat.le_of_ble_eq_true rfl) rfl (fun v1 σ1 h => by obtain ⟨r, h1, -⟩ := h; rw [h1]; rfl) ?_
  unfold anJam
  refine m_iload_n dX11_jam_0 1 rfl ?_
  refine m_callS (As := [_]) dX11_jam_1 cs_X11_195 (by omega) rfl rfl (Nat.le_of_ble_eq_true rfl) (c_isTwo (d := d - 1) (by omega) w) (fun v1 σ1 hv1 => ?_)
  refine m_qI hv1 ?_
  clear hv1 v1 σ1
  refine m_if_eq dX11_jam_4 15 (by decide) (fun h0 => ?_) (fun h0 => ?_)
  · refine m_bipush (v := -2) dX11_jam_15 (by decide) ?_
    refine m_ireturn dX11_jam_17 ⟨_, rfl, ?_, A, fW.rf⟩
    rw [if_neg (fun q => bI0 h0 ((wI_le (n := 1) (by decide)).mpr q))]
  · have w0 : wI w 2 := (wI_le (n := 1) (by decide)).mp (bI1 h0)
    rw [if_pos w0]
    refine m_aload_n dX11_jam_7 0 rfl ?_
    refine m_iload_n dX11_jam_8 1 rfl ?_
    refine m_callV (As := [_]) dX11_jam_9 cv_X11_307 (by first | assumption | rfl) (by decide) (by omega) rfl rfl (Nat.le_of_ble_eq_true rfl) (a_jamOf (d := d - 1) (by omega) A w) (fun v1 σ1 hv1 => ?_)
    refine m_qIP hv1 (fun xf hq => ?_)
    clear hv1 v1
    rename mS => s2
    obtain ⟨ef, A2, f2⟩ := hq
    refine m_goto dX11_jam_12 17 (by decide) ?_
    exact m_ireturn dX11_jam_17 ⟨_, rfl, ef, A2, f2⟩
theorem r_stand (hd : 10 ≤ d) (A : oA a σ) (k w : Int32) : mMet G l d kX11_stand [.ref 111, .int k, .int w] σ (qA a σ (anStand a k w)) := by
  have hn := A.n8
  refine mMet.of cm_X11_stand rfl (Nat.le_of_ble_eq_true rfl) rfl (fun v1 σ1 h => by obtain ⟨r, h1, -⟩ := h; rw [h1]; rfl) ?_
  unfold anStand
  refine m_aload_n dX11_stand_0 0 rfl ?_
  refine m_iload_n dX11_stand_1 1 rfl ?_
  refine m_callV (As := [_]) dX11_stand_2 cv_X11_183 (by first | assumption | rfl) (by decide) (by omega) rfl rfl (Nat.le_of_ble_eq_true rfl) (a_isCar (d := d - 1) (by omega) A k) (fun v1 σ1 hv1 => ?_)
  refine m_qIP hv1 (fun x0 hq => ?_)
  clear hv1 v1
  rename mS => s1
  obtain ⟨rfl, A1, rd1, f1⟩ := hq
  refine m_if_eq dX11_stand_5 24 (by decide) (fun h0 => ?_) (fun h0 => ?_)
  · refine m_bipush (v := -2) dX11_stand_24 (by decide) ?_
    refine m_ireturn dX11_stand_26 ⟨_, rfl, ?_, A1, f1⟩
    rw [if_neg (fun q => bI0 h0 q.1)]
  · have w0 : wI k (aD a).1.1 := bI1 h0
    refine m_iload_n dX11_stand_8 2 rfl ?_
    refine m_callS (As := [_]) dX11_stand_9 cs_X11_189 (by omega) rfl rfl (Nat.le_of_ble_eq_true rfl) (c_isThree (d := d - 1) (by omega) w) (fun v1 σ1 hv1 => ?_)
    refine m_qI hv1 ?_
    clear hv1 v1 σ1
    refine m_if_eq dX11_stand_12 24 (by decide) (fun h1 => ?_) (fun h1 => ?_)
    · refine m_bipush (v := -2) dX11_stand_24 (by decide) ?_
      refine m_ireturn dX11_stand_26 ⟨_, rfl, ?_, A1, f1⟩
      rw [if_neg (fun q => bI0 h1 ((wI_le (n := 2) (by decide)).mpr q.2))]
    · have w1 : wI w 3 := (wI_le (n := 2) (by decide)).mp (bI1 h1)
      rw [if_pos (And.intro w0 w1)]
      obtain ⟨i, hi, rfl⟩ := wI_of (by omega) w0
      rw [clN (show i < 1000 by omega)]
      refine m_aload_n dX11_stand_15 0 rfl ?_
      refine m_iload_n dX11_stand_16 1 rfl ?_
      refine m_iload_n dX11_stand_17 2 rfl ?_
      refine m_callV (As := [_, _]) dX11_stand_18 cv_X11_316 (by first | assumption | rfl) (by decide) (by omega) rfl rfl (Nat.le_of_ble_eq_true rfl) (a_standOf (d := d - 1) (by omega) A1 i hi w) (fun v1 σ1 hv1 => ?_)
      refine m_qIP hv1 (fun xf hq => ?_)
      clear hv1 v1
      rename mS => s2
      obtain ⟨ef, A2, f2⟩ := hq
      refine m_goto dX11_stand_21 26 (by decide) ?_
      exact m_ireturn dX11_stand_26 ⟨_, rfl, ef, A2, f1.tr f2⟩
theorem r_better (hd : 10 ≤ d) (A : oA a σ) (k m w : Int32) : mMet G l d kX11_better [.ref 111, .int k, .int m, .int w] σ (qA a σ (anBetter a k m w)) := by
  have hn := A.n8
  refine mMet.of cm_X11_better rfl (Nat.le_of_ble_eq_true rfl) rfl (fun v1 σ1 h => by obtain ⟨r, h1, -⟩ := h; rw [h1]; rfl) ?_
  unfold anBetter
  refine m_aload_n dX11_better_0 0 rfl ?_
  refine m_iload_n dX11_better_1 1 rfl ?_
  refine m_callV (As := [_]) dX11_better_2 cv_X11_183 (by first | assumption | rfl) (by decide) (by omega) rfl rfl (Nat.le_of_ble_eq_true rfl) (a_isCar (d := d - 1) (by omega) A k) (fun v1 σ1 hv1 => ?_)
  refine m_qIP hv1 (fun x0 hq => ?_)
  clear hv1 v1
  rename mS => s1
  obtain ⟨rfl, A1, rd1, f1⟩ := hq
  refine m_if_eq dX11_better_5 32 (by decide) (fun h0 => ?_) (fun h0 => ?_)
  · refine m_bipush (v := -2) dX11_better_32 (by decide) ?_
    refine m_ireturn dX11_better_34 ⟨_, rfl, ?_, A1, f1⟩
    rw [if_neg (fun q => bI0 h0 q.1)]
  · have w0 : wI k (aD a).1.1 := bI1 h0
    refine m_iload_n dX11_better_8 2 rfl ?_
    refine m_callS (As := [_]) dX11_better_9 cs_X11_198 (by omega) rfl rfl (Nat.le_of_ble_eq_true rfl) (c_isMoment (d := d - 1) (by omega) m) (fun v1 σ1 hv1 => ?_)
    refine m_qI hv1 ?_
    clear hv1 v1 σ1
    refine m_if_eq dX11_better_12 32 (by decide) (fun h1 => ?_) (fun h1 => ?_)
    · refine m_bipush (v := -2) dX11_better_32 (by decide) ?_
      refine m_ireturn dX11_better_34 ⟨_, rfl, ?_, A1, f1⟩
      rw [if_neg (fun q => bI0 h1 ((wI_le (n := 23) (by decide)).mpr q.2.1))]
    · have w1 : wI m 24 := (wI_le (n := 23) (by decide)).mp (bI1 h1)
      refine m_iload_n dX11_better_15 3 rfl ?_
      refine m_callS (As := [_]) dX11_better_16 cs_X11_195 (by omega) rfl rfl (Nat.le_of_ble_eq_true rfl) (c_isTwo (d := d - 1) (by omega) w) (fun v1 σ1 hv1 => ?_)
      refine m_qI hv1 ?_
      clear hv1 v1 σ1
      refine m_if_eq dX11_better_19 32 (by decide) (fun h2 => ?_) (fun h2 => ?_)
      · refine m_bipush (v := -2) dX11_better_32 (by decide) ?_
        refine m_ireturn dX11_better_34 ⟨_, rfl, ?_, A1, f1⟩
        rw [if_neg (fun q => bI0 h2 ((wI_le (n := 1) (by decide)).mpr q.2.2))]
      · have w2 : wI w 2 := (wI_le (n := 1) (by decide)).mp (bI1 h2)
        rw [if_pos (And.intro w0 (And.intro w1 w2))]
        obtain ⟨i, hi, rfl⟩ := wI_of (by omega) w0
        rw [clN (show i < 1000 by omega)]
        obtain ⟨u, hu, rfl⟩ := wI_of (by omega) w1
        rw [clN (show u < 1000 by omega)]
        refine m_aload_n dX11_better_22 0 rfl ?_
        refine m_iload_n dX11_better_23 1 rfl ?_
        refine m_iload_n dX11_better_24 2 rfl ?_
        refine m_iload_n dX11_better_25 3 rfl ?_
        refine m_callV (As := [_, _, _]) dX11_better_26 cv_X11_319 (by first | assumption | rfl) (by decide) (by omega) rfl rfl (Nat.le_of_ble_eq_true rfl) (a_betterOf (d := d - 1) (by omega) A1 i u hi hu w) (fun v1 σ1 hv1 => ?_)
        refine m_qIP hv1 (fun xf hq => ?_)
        clear hv1 v1
        rename mS => s2
        obtain ⟨ef, A2, f2⟩ := hq
        refine m_goto dX11_better_29 34 (by decide) ?_
        exact m_ireturn dX11_better_34 ⟨_, rfl, ef, A2, f1.tr f2⟩
theorem r_ring (hd : 10 ≤ d) (A : oA a σ) (w : Int32) : mMet G l d kX11_ring [.ref 111, .int w] σ (qA a σ (anRing a w)) := by
  have hn := A.n8
  refine mMet.of cm_X11_ring rfl (Nat.le_of_ble_eq_true rfl) rfl (fun v1 σ1 h => by obtain ⟨r, h1, -⟩ := h; rw [h1]; rfl) ?_
  unfold anRing
  refine m_iload_n dX11_ring_0 1 rfl ?_
  refine m_callS (As := [_]) dX11_ring_1 cs_X11_195 (by omega) rfl rfl (Nat.le_of_ble_eq_true rfl) (c_isTwo (d := d - 1) (by omega) w) (fun v1 σ1 hv1 => ?_)
  refine m_qI hv1 ?_
  clear hv1 v1 σ1
  refine m_if_eq dX11_ring_4 15 (by decide) (fun h0 => ?_) (fun h0 => ?_)
  · refine m_bipush (v := -2) dX11_ring_15 (by decide) ?_
    refine m_ireturn dX11_ring_17 ⟨_, rfl, ?_, A, fW.rf⟩
    rw [if_neg (fun q => bI0 h0 ((wI_le (n := 1) (by decide)).mpr q))]
  · have w0 : wI w 2 := (wI_le (n := 1) (by decide)).mp (bI1 h0)
    rw [if_pos w0]
    refine m_aload_n dX11_ring_7 0 rfl ?_
    refine m_iload_n dX11_ring_8 1 rfl ?_
    refine m_callV (As := [_]) dX11_ring_9 cv_X11_322 (by first | assumption | rfl) (by decide) (by omega) rfl rfl (Nat.le_of_ble_eq_true rfl) (a_ringOf (d := d - 1) (by omega) A w) (fun v1 σ1 hv1 => ?_)
    refine m_qIP hv1 (fun xf hq => ?_)
    clear hv1 v1
    rename mS => s2
    obtain ⟨ef, A2, f2⟩ := hq
    refine m_goto dX11_ring_12 17 (by decide) ?_
    exact m_ireturn dX11_ring_17 ⟨_, rfl, ef, A2, f2⟩
theorem r_ask (hd : 10 ≤ d) (A : oA a σ) (k : Int32) : mMet G l d kX11_ask [.ref 111, .int k] σ (qA a σ (anAsk a k)) := by
  have hn := A.n8
  refine mMet.of cm_X11_ask rfl (Nat.le_of_ble_eq_true rfl) rfl (fun v1 σ1 h => by obtain ⟨r, h1, -⟩ := h; rw [h1]; rfl) ?_
  unfold anAsk
  refine m_aload_n dX11_ask_0 0 rfl ?_
  refine m_iload_n dX11_ask_1 1 rfl ?_
  refine m_callV (As := [_]) dX11_ask_2 cv_X11_183 (by first | assumption | rfl) (by decide) (by omega) rfl rfl (Nat.le_of_ble_eq_true rfl) (a_isCar (d := d - 1) (by omega) A k) (fun v1 σ1 hv1 => ?_)
  refine m_qIP hv1 (fun x0 hq => ?_)
  clear hv1 v1
  rename mS => s1
  obtain ⟨rfl, A1, rd1, f1⟩ := hq
  refine m_if_eq dX11_ask_5 16 (by decide) (fun h0 => ?_) (fun h0 => ?_)
  · refine m_bipush (v := -2) dX11_ask_16 (by decide) ?_
    refine m_ireturn dX11_ask_18 ⟨_, rfl, ?_, A1, f1⟩
    rw [if_neg (fun q => bI0 h0 q)]
  · have w0 : wI k (aD a).1.1 := bI1 h0
    rw [if_pos w0]
    obtain ⟨i, hi, rfl⟩ := wI_of (by omega) w0
    rw [clN (show i < 1000 by omega)]
    refine m_aload_n dX11_ask_8 0 rfl ?_
    refine m_iload_n dX11_ask_9 1 rfl ?_
    refine m_callV (As := [_]) dX11_ask_10 cv_X11_350 (by first | assumption | rfl) (by decide) (by omega) rfl rfl (Nat.le_of_ble_eq_true rfl) (a_askOf (d := d - 1) (by omega) A1 i hi) (fun v1 σ1 hv1 => ?_)
    refine m_qIP hv1 (fun xf hq => ?_)
    clear hv1 v1
    rename mS => s2
    obtain ⟨ef, A2, f2⟩ := hq
    refine m_goto dX11_ask_13 18 (by decide) ?_
    exact m_ireturn dX11_ask_18 ⟨_, rfl, ef, A2, f1.tr f2⟩
theorem r_ages (hd : 10 ≤ d) (A : oA a σ) (x n w : Int32) : mMet G l d kX11_ages [.ref 111, .int x, .int n, .int w] σ (qA a σ (anAges a x n w)) := by
  have hn := A.n8
  refine mMet.of cm_X11_ages rfl (Nat.le_of_ble_eq_true rfl) rfl (fun v1 σ1 h => by obtain ⟨r, h1, -⟩ := h; rw [h1]; rfl) ?_
  unfold anAges
  refine m_iload_n dX11_ages_0 2 rfl ?_
  refine m_iconst (v := 0) dX11_ages_1 (by decide) ?_
  refine m_bipush (v := 8) dX11_ages_2 (by decide) ?_
  refine m_callS (As := [_, _, _]) dX11_ages_4 cs_X11_136 (by omega) rfl rfl (Nat.le_of_ble_eq_true rfl) (c_in (d := d - 1) n 0 8) (fun v1 σ1 hv1 => ?_)
  refine m_qI hv1 ?_
  clear hv1 v1 σ1
  refine m_if_eq dX11_ages_7 27 (by decide) (fun h0 => ?_) (fun h0 => ?_)
  · refine m_bipush (v := -2) dX11_ages_27 (by decide) ?_
    refine m_ireturn dX11_ages_29 ⟨_, rfl, ?_, A, fW.rf⟩
    rw [if_neg (fun q => bI0 h0 ((wI_le (n := 8) (by decide)).mpr q.1))]
  · have w0 : wI n 9 := (wI_le (n := 8) (by decide)).mp (bI1 h0)
    refine m_iload_n dX11_ages_10 3 rfl ?_
    refine m_callS (As := [_]) dX11_ages_11 cs_X11_195 (by omega) rfl rfl (Nat.le_of_ble_eq_true rfl) (c_isTwo (d := d - 1) (by omega) w) (fun v1 σ1 hv1 => ?_)
    refine m_qI hv1 ?_
    clear hv1 v1 σ1
    refine m_if_eq dX11_ages_14 27 (by decide) (fun h1 => ?_) (fun h1 => ?_)
    · refine m_bipush (v := -2) dX11_ages_27 (by decide) ?_
      refine m_ireturn dX11_ages_29 ⟨_, rfl, ?_, A, fW.rf⟩
      rw [if_neg (fun q => bI0 h1 ((wI_le (n := 1) (by decide)).mpr q.2))]
    · have w1 : wI w 2 := (wI_le (n := 1) (by decide)).mp (bI1 h1)
      rw [if_pos (And.intro w0 w1)]
      obtain ⟨i, hi, rfl⟩ := wI_of (by omega) w0
      rw [clN (show i < 1000 by omega)]
      refine m_aload_n dX11_ages_17 0 rfl ?_
      refine m_iload_n dX11_ages_18 1 rfl ?_
      refine m_iload_n dX11_ages_19 2 rfl ?_
      refine m_iload_n dX11_ages_20 3 rfl ?_
      refine m_callV (As := [_, _, _]) dX11_ages_21 cv_X11_369 (by first | assumption | rfl) (by decide) (by omega) rfl rfl (Nat.le_of_ble_eq_true rfl) (a_agesOf (d := d - 1) (by omega) A x i (by omega) w) (fun v1 σ1 hv1 => ?_)
      refine m_qIP hv1 (fun xf hq => ?_)
      clear hv1 v1
      rename mS => s2
      obtain ⟨ef, A2, f2⟩ := hq
      refine m_goto dX11_ages_24 29 (by decide) ?_
      exact m_ireturn dX11_ages_29 ⟨_, rfl, ef, A2, f2⟩
theorem r_chance (hd : 10 ≤ d) (A : oA a σ) (c k w : Int32) : mMet G l d kX11_chance [.ref 111, .int c, .int k, .int w] σ (qLA a σ (anChance a c k w)) := by
  have hn := A.n8
  refine mMet.of cm_X11_chance rfl (Nat.le_of_ble_eq_true rfl) rfl (fun v1 σ1 h => by obtain ⟨r, h1, -⟩ := h; rw [h1]; trivial) ?_
  unfold anChance
  refine m_iload_n dX11_chance_0 1 rfl ?_
  refine m_iconst (v := 0) dX11_chance_1 (by decide) ?_
  refine m_bipush (v := 16) dX11_chance_2 (by decide) ?_
  refine m_callS (As := [_, _, _]) dX11_chance_4 cs_X11_136 (by omega) rfl rfl (Nat.le_of_ble_eq_true rfl) (c_in (d := d - 1) c 0 16) (fun v1 σ1 hv1 => ?_)
  refine m_qI hv1 ?_
  clear hv1 v1 σ1
  refine m_if_eq dX11_chance_7 35 (by decide) (fun h0 => ?_) (fun h0 => ?_)
  · refine m_bipush (v := -2) dX11_chance_35 (by decide) ?_
    refine m_callS (As := [_]) dX11_chance_37 cs_X11_361 (by omega) rfl rfl (Nat.le_of_ble_eq_true rfl) (c_no (d := d - 1) (-2)) (fun v1 σ1 hv1 => ?_)
    refine m_qL hv1 ?_
    clear hv1 v1 σ1
    refine m_lreturn dX11_chance_40 ⟨_, rfl, ?_, A, fW.rf⟩
    rw [if_neg (fun q => bI0 h0 ((wI_le (n := 16) (by decide)).mpr q.1))]
    rfl
  · have w0 : wI c 17 := (wI_le (n := 16) (by decide)).mp (bI1 h0)
    refine m_aload_n dX11_chance_10 0 rfl ?_
    refine m_iload_n dX11_chance_11 2 rfl ?_
    refine m_callV (As := [_]) dX11_chance_12 cv_X11_183 (by first | assumption | rfl) (by decide) (by omega) rfl rfl (Nat.le_of_ble_eq_true rfl) (a_isCar (d := d - 1) (by omega) A k) (fun v1 σ1 hv1 => ?_)
    refine m_qIP hv1 (fun x1 hq => ?_)
    clear hv1 v1
    rename mS => s1
    obtain ⟨rfl, A1, rd1, f1⟩ := hq
    refine m_if_eq dX11_chance_15 35 (by decide) (fun h1 => ?_) (fun h1 => ?_)
    · refine m_bipush (v := -2) dX11_chance_35 (by decide) ?_
      refine m_callS (As := [_]) dX11_chance_37 cs_X11_361 (by omega) rfl rfl (Nat.le_of_ble_eq_true rfl) (c_no (d := d - 1) (-2)) (fun v1 σ1 hv1 => ?_)
      refine m_qL hv1 ?_
      clear hv1 v1 σ1
      refine m_lreturn dX11_chance_40 ⟨_, rfl, ?_, A1, f1⟩
      rw [if_neg (fun q => bI0 h1 q.2.1)]
      rfl
    · have w1 : wI k (aD a).1.1 := bI1 h1
      refine m_iload_n dX11_chance_18 3 rfl ?_
      refine m_callS (As := [_]) dX11_chance_19 cs_X11_195 (by omega) rfl rfl (Nat.le_of_ble_eq_true rfl) (c_isTwo (d := d - 1) (by omega) w) (fun v1 σ1 hv1 => ?_)
      refine m_qI hv1 ?_
      clear hv1 v1 σ1
      refine m_if_eq dX11_chance_22 35 (by decide) (fun h2 => ?_) (fun h2 => ?_)
      · refine m_bipush (v := -2) dX11_chance_35 (by decide) ?_
        refine m_callS (As := [_]) dX11_chance_37 cs_X11_361 (by omega) rfl rfl (Nat.le_of_ble_eq_true rfl) (c_no (d := d - 1) (-2)) (fun v1 σ1 hv1 => ?_)
        refine m_qL hv1 ?_
        clear hv1 v1 σ1
        refine m_lreturn dX11_chance_40 ⟨_, rfl, ?_, A1, f1⟩
        rw [if_neg (fun q => bI0 h2 ((wI_le (n := 1) (by decide)).mpr q.2.2))]
        rfl
      · have w2 : wI w 2 := (wI_le (n := 1) (by decide)).mp (bI1 h2)
        rw [if_pos (And.intro w0 (And.intro w1 w2))]
        obtain ⟨u, hu, rfl⟩ := wI_of (by omega) w0
        rw [clN (show u < 1000 by omega)]
        obtain ⟨i, hi, rfl⟩ := wI_of (by omega) w1
        rw [clN (show i < 1000 by omega)]
        refine m_aload_n dX11_chance_25 0 rfl ?_
        refine m_iload_n dX11_chance_26 1 rfl ?_
        refine m_iload_n dX11_chance_27 2 rfl ?_
        refine m_iload_n dX11_chance_28 3 rfl ?_
        refine m_callV (As := [_, _, _]) dX11_chance_29 cv_X11_357 (by first | assumption | rfl) (by decide) (by omega) rfl rfl (Nat.le_of_ble_eq_true rfl) (a_chanceOf (d := d - 1) (by omega) A1 u i (by omega) hi w) (fun v1 σ1 hv1 => ?_)
        refine m_qLP hv1 (fun xf hq => ?_)
        clear hv1 v1
        rename mS => s2
        obtain ⟨ef, A2, rd2, f2⟩ := hq
        refine m_goto dX11_chance_32 40 (by decide) ?_
        exact m_lreturn dX11_chance_40 ⟨_, rfl, ef, A2, f1.tr f2⟩
theorem r_strikes (hd : 10 ≤ d) (A : oA a σ) : mMet G l d kX11_strikes [.ref 111] σ (qA a σ (RSt (aD a) 24).2.2.2.2.2.2.2.1) := by
  refine mMet.of cm_X11_strikes rfl (Nat.le_of_ble_eq_true rfl) rfl (fun v1 σ1 h => by obtain ⟨r, h1, -⟩ := h; rw [h1]; rfl) ?_
  refine m_aload_n dX11_strikes_0 0 rfl ?_
  refine m_callV (As := []) dX11_strikes_1 cv_X11_291 (by first | assumption | rfl) (by decide) (by omega) rfl rfl (Nat.le_of_ble_eq_true rfl) (a_strikesOf (d := d - 1) (by omega) A) (fun v1 σ1 hv1 => ?_)
  refine m_qIP hv1 (fun xf hq => ?_)
  clear hv1 v1
  exact m_ireturn dX11_strikes_4 ⟨_, rfl, hq⟩
theorem r_best (hd : 10 ≤ d) (A : oA a σ) : mMet G l d kX11_best [.ref 111] σ (qA a σ (beA (aD a))) := by
  refine mMet.of cm_X11_best rfl (Nat.le_of_ble_eq_true rfl) rfl (fun v1 σ1 h => by obtain ⟨r, h1, -⟩ := h; rw [h1]; rfl) ?_
  refine m_aload_n dX11_best_0 0 rfl ?_
  refine m_callV (As := []) dX11_best_1 cv_X11_298 (by first | assumption | rfl) (by decide) (by omega) rfl rfl (Nat.le_of_ble_eq_true rfl) (a_bestOf (d := d - 1) (by omega) A) (fun v1 σ1 hv1 => ?_)
  refine m_qIP hv1 (fun xf hq => ?_)
  clear hv1 v1
  exact m_ireturn dX11_best_4 ⟨_, rfl, hq⟩
theorem r_meek (hd : 10 ≤ d) (A : oA a σ) : mMet G l d kX11_meek [.ref 111] σ (qA a σ (meekD (aD a))) := by
  refine mMet.of cm_X11_meek rfl (Nat.le_of_ble_eq_true rfl) rfl (fun v1 σ1 h => by obtain ⟨r, h1, -⟩ := h; rw [h1]; rfl) ?_
  refine m_aload_n dX11_meek_0 0 rfl ?_
  refine m_callV (As := []) dX11_meek_1 cv_X11_304 (by first | assumption | rfl) (by decide) (by omega) rfl rfl (Nat.le_of_ble_eq_true rfl) (a_meekOf (d := d - 1) (by omega) A) (fun v1 σ1 hv1 => ?_)
  refine m_qIP hv1 (fun xf hq => ?_)
  clear hv1 v1
  exact m_ireturn dX11_meek_4 ⟨_, rfl, hq⟩
theorem r_carried (hd : 10 ≤ d) (A : oA a σ) : mMet G l d kX11_carried [.ref 111] σ (qA a σ (caA (aD a))) := by
  refine mMet.of cm_X11_carried rfl (Nat.le_of_ble_eq_true rfl) rfl (fun v1 σ1 h => by obtain ⟨r, h1, -⟩ := h; rw [h1]; rfl) ?_
  refine m_aload_n dX11_carried_0 0 rfl ?_
  refine m_callV (As := []) dX11_carried_1 cv_X11_310 (by first | assumption | rfl) (by decide) (by omega) rfl rfl (Nat.le_of_ble_eq_true rfl) (a_carriedOf (d := d - 1) (by omega) A) (fun v1 σ1 hv1 => ?_)
  refine m_qIP hv1 (fun xf hq => ?_)
  clear hv1 v1
  exact m_ireturn dX11_carried_4 ⟨_, rfl, hq⟩
theorem r_never (hd : 10 ≤ d) (A : oA a σ) : mMet G l d kX11_never [.ref 111] σ (qA a σ (nvP (aD a) (aZ a) (aW a) (aE a))) := by
  refine mMet.of cm_X11_never rfl (Nat.le_of_ble_eq_true rfl) rfl (fun v1 σ1 h => by obtain ⟨r, h1, -⟩ := h; rw [h1]; rfl) ?_
  refine m_aload_n dX11_never_0 0 rfl ?_
  refine m_callV (As := []) dX11_never_1 cv_X11_341 (by first | assumption | rfl) (by decide) (by omega) rfl rfl (Nat.le_of_ble_eq_true rfl) (a_neverNow (d := d - 1) (by omega) A) (fun v1 σ1 hv1 => ?_)
  refine m_qIP hv1 (fun xf hq => ?_)
  clear hv1 v1
  exact m_ireturn dX11_never_4 ⟨_, rfl, hq⟩
theorem r_spare (hd : 10 ≤ d) (A : oA a σ) (i : Int32) : mMet G l d kX11_spare [.ref 111, .int i] σ (qA a σ (anSpare a i)) := by
  refine mMet.of cm_X11_spare rfl (Nat.le_of_ble_eq_true rfl) rfl (fun v1 σ1 h => by obtain ⟨r, h1, -⟩ := h; rw [h1]; rfl) ?_
  unfold anSpare
  refine m_iload_n dX11_spare_0 1 rfl ?_
  refine m_iconst (v := -1) dX11_spare_1 (by decide) ?_
  refine m_iconst (v := 1) dX11_spare_2 (by decide) ?_
  refine m_callS (As := [_, _, _]) dX11_spare_3 cs_X11_136 (by omega) rfl rfl (Nat.le_of_ble_eq_true rfl) (c_in (d := d - 1) i (-1) 1) (fun v1 σ1 hv1 => ?_)
  refine m_qI hv1 ?_
  clear hv1 v1 σ1
  refine m_if_eq dX11_spare_6 21 (by decide) (fun h0 => ?_) (fun h0 => ?_)
  · refine m_bipush (v := -2) dX11_spare_21 (by decide) ?_
    refine m_ireturn dX11_spare_23 ⟨_, rfl, ?_, A, fW.rf⟩
    rw [if_neg (bI0 h0)]
  · rw [if_pos (bI1 h0)]
    have hi : i = -1 ∨ i = 0 ∨ i = 1 := by
      have h1 := (bI1 h0).1
      have h2 := (bI1 h0).2
      rw [Int32.le_iff_toInt_le] at h1 h2
      have e1 : (-1 : Int32).toInt = -1 := rfl
      have e2 : (1 : Int32).toInt = 1 := rfl
      have e3 : (0 : Int32).toInt = 0 := rfl
      rw [← Int32.toInt_inj, ← Int32.toInt_inj, ← Int32.toInt_inj, e1, e2, e3]
      omega
    refine m_aload_n dX11_spare_9 0 rfl ?_
    refine m_aload_n dX11_spare_10 0 rfl ?_
    refine m_callV (As := []) dX11_spare_11 cv_X11_328 (by first | assumption | rfl) (by decide) (by omega) rfl rfl (Nat.le_of_ble_eq_true rfl) (a_spareBy (d := d - 1) (by omega) A) (fun v1 σ1 hv1 => ?_)
    refine m_qIP hv1 (fun xf hq => ?_)
    clear hv1 v1
    rename mS => s2
    obtain ⟨ef, p1, p2, A2, f2⟩ := hq
    subst ef
    refine m_iload_n dX11_spare_14 1 rfl ?_
    refine m_callV (As := [_, _]) dX11_spare_15 cv_X11_331 (by first | assumption | rfl) (by decide) (by omega) rfl rfl (Nat.le_of_ble_eq_true rfl) (a_ofRow (d := d - 1) i hi (aD a) p1 p2) (fun v1 σ1 hv1 => ?_)
    refine m_qI hv1 ?_
    clear hv1 v1 σ1
    refine m_goto dX11_spare_18 23 (by decide) ?_
    exact m_ireturn dX11_spare_23 ⟨_, rfl, rfl, A2, f2⟩
theorem r_was (hd : 10 ≤ d) (A : oA a σ) (k w : Int32) : mMet G l d kX11_was [.ref 111, .int k, .int w] σ (qA a σ (anWas a k w)) := by
  have hn := A.n8
  refine mMet.of cm_X11_was rfl (Nat.le_of_ble_eq_true rfl) rfl (fun v1 σ1 h => by obtain ⟨r, h1, -⟩ := h; rw [h1]; rfl) ?_
  unfold anWas
  refine m_aload_n dX11_was_0 0 rfl ?_
  refine m_iload_n dX11_was_1 1 rfl ?_
  refine m_callV (As := [_]) dX11_was_2 cv_X11_183 (by first | assumption | rfl) (by decide) (by omega) rfl rfl (Nat.le_of_ble_eq_true rfl) (a_isCar (d := d - 1) (by omega) A k) (fun v1 σ1 hv1 => ?_)
  refine m_qIP hv1 (fun x0 hq => ?_)
  clear hv1 v1
  rename mS => s1
  obtain ⟨rfl, A1, rd1, f1⟩ := hq
  refine m_if_eq dX11_was_5 35 (by decide) (fun h0 => ?_) (fun h0 => ?_)
  · refine m_bipush (v := -2) dX11_was_35 (by decide) ?_
    refine m_ireturn dX11_was_37 ⟨_, rfl, ?_, A1, f1⟩
    rw [if_neg (fun q => bI0 h0 q.1)]
  · have w0 : wI k (aD a).1.1 := bI1 h0
    refine m_iload_n dX11_was_8 2 rfl ?_
    refine m_callS (As := [_]) dX11_was_9 cs_X11_195 (by omega) rfl rfl (Nat.le_of_ble_eq_true rfl) (c_isTwo (d := d - 1) (by omega) w) (fun v1 σ1 hv1 => ?_)
    refine m_qI hv1 ?_
    clear hv1 v1 σ1
    refine m_if_eq dX11_was_12 35 (by decide) (fun h1 => ?_) (fun h1 => ?_)
    · refine m_bipush (v := -2) dX11_was_35 (by decide) ?_
      refine m_ireturn dX11_was_37 ⟨_, rfl, ?_, A1, f1⟩
      rw [if_neg (fun q => bI0 h1 ((wI_le (n := 1) (by decide)).mpr q.2))]
    · have w1 : wI w 2 := (wI_le (n := 1) (by decide)).mp (bI1 h1)
      rw [if_pos (And.intro w0 w1)]
      obtain ⟨i, hi, rfl⟩ := wI_of (by omega) w0
      rw [clN (show i < 1000 by omega)]
      refine m_iload_n dX11_was_15 2 rfl ?_
      refine m_if_ne dX11_was_16 27 (by decide) (fun h2 => ?_) (fun h2 => ?_)
      · refine m_aload_n dX11_was_27 0 rfl ?_
        refine m_iload_n dX11_was_28 1 rfl ?_
        refine m_callV (As := [_]) dX11_was_29 cv_X11_347 (by first | assumption | rfl) (by decide) (by omega) rfl rfl (Nat.le_of_ble_eq_true rfl) (a_heavyBy (d := d - 1) (by omega) A1 i hi) (fun v1 σ1 hv1 => ?_)
        refine m_qIP hv1 (fun xf hq => ?_)
        clear hv1 v1
        rename mS => s2
        obtain ⟨ef, A2, f2⟩ := hq
        refine m_goto dX11_was_32 37 (by decide) ?_
        exact m_ireturn dX11_was_37 ⟨_, rfl, by rw [if_neg h2]; exact ef, A2, f1.tr f2⟩
      · refine m_aload_n dX11_was_19 0 rfl ?_
        refine m_iload_n dX11_was_20 1 rfl ?_
        refine m_callV (As := [_]) dX11_was_21 cv_X11_344 (by first | assumption | rfl) (by decide) (by omega) rfl rfl (Nat.le_of_ble_eq_true rfl) (a_sortsBy (d := d - 1) (by omega) A1 i hi) (fun v1 σ1 hv1 => ?_)
        refine m_qIP hv1 (fun xf hq => ?_)
        clear hv1 v1
        rename mS => s2
        obtain ⟨ef, A2, f2⟩ := hq
        refine m_goto dX11_was_24 37 (by decide) ?_
        exact m_ireturn dX11_was_37 ⟨_, rfl, by rw [if_pos h2]; exact ef, A2, f1.tr f2⟩
end PQ


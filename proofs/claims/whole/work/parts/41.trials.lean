/-! ===== the class: trials ===== -/
/-- what trials may change -/
abbrev wTr (ns : Nat) : Nat → Nat → Prop := fun y z => (66 ≤ y ∧ y ≤ 108) ∨ y = 17 + ns
/-- the class's rows tell the debate D, and all that trials need of it -/
def setC (D : Deb) (s : mS) : Prop := wfD D ∧ D.2.2.2 = 0 ∧ D.2.1.1 ≤ 12 ∧ depC 5 30 D s
theorem setC.tr {D : Deb} {s s1 : mS} (h : setC D s) (f : fW (wTr D.2.1.1) s s1) : setC D s1 := by
  obtain ⟨w, m0, h12, a1, a2, a3, a4, a5, a6⟩ := h
  have := w.1
  exact ⟨w, m0, h12, (f.at (by omega)).trans a1, a2.tr f (fun k j hk => by omega), a3, ⟨(f.at (by omega)).trans a4.1, fun i hi j hj => (f.at (by omega)).trans (a4.2 i hi j hj)⟩, a5, ⟨(f.at (by omega)).trans a6.1, fun i hi => ⟨(f.at (by omega)).trans (a6.2 i hi).1, (f.at (by omega)).trans (a6.2 i hi).2.1, (f.at (by omega)).trans (a6.2 i hi).2.2⟩⟩⟩
theorem wfD.mask {D : Deb} (h : wfD D) (m : Int32) : wfD (maskD D m) := h
theorem wfD.setJ0 {D : Deb} (h : wfD D) (k : Nat) (v : Int32) : wfD (setJ D k 0 v) := by
  refine ⟨h.1, h.2.1, fun i hi => ?_, fun i j hi hj e1 e2 => h.2.2.2 i j hi hj ?_ ?_⟩
  · have q := h.2.2.1 i hi
    show six (if i = k ∧ 1 = 0 then v else D.1.2 i 1) ∧ six (if i = k ∧ 2 = 0 then v else D.1.2 i 2) ∧ 0 ≤ (if i = k ∧ 3 = 0 then v else D.1.2 i 3) ∧ (if i = k ∧ 3 = 0 then v else D.1.2 i 3) ≤ 3
    rw [if_neg (by omega), if_neg (by omega), if_neg (by omega)]
    exact q
  · have e1 : (if i = k ∧ 1 = 0 then v else D.1.2 i 1) = (if j = k ∧ 1 = 0 then v else D.1.2 j 1) := e1
    rw [if_neg (by omega), if_neg (by omega)] at e1; exact e1
  · have e2 : (if i = k ∧ 2 = 0 then v else D.1.2 i 2) = (if j = k ∧ 2 = 0 then v else D.1.2 j 2) := e2
    rw [if_neg (by omega), if_neg (by omega)] at e2; exact e2
theorem wfD.setJ4 {D : Deb} (h : wfD D) (k : Nat) (v : Int32) : wfD (setJ D k 4 v) := by
  refine ⟨h.1, h.2.1, fun i hi => ?_, fun i j hi hj e1 e2 => h.2.2.2 i j hi hj ?_ ?_⟩
  · have q := h.2.2.1 i hi
    show six (if i = k ∧ 1 = 4 then v else D.1.2 i 1) ∧ six (if i = k ∧ 2 = 4 then v else D.1.2 i 2) ∧ 0 ≤ (if i = k ∧ 3 = 4 then v else D.1.2 i 3) ∧ (if i = k ∧ 3 = 4 then v else D.1.2 i 3) ≤ 3
    rw [if_neg (by omega), if_neg (by omega), if_neg (by omega)]
    exact q
  · have e1 : (if i = k ∧ 1 = 4 then v else D.1.2 i 1) = (if j = k ∧ 1 = 4 then v else D.1.2 j 1) := e1
    rw [if_neg (by omega), if_neg (by omega)] at e1; exact e1
  · have e2 : (if i = k ∧ 2 = 4 then v else D.1.2 i 2) = (if j = k ∧ 2 = 4 then v else D.1.2 j 2) := e2
    rw [if_neg (by omega), if_neg (by omega)] at e2; exact e2
theorem othP_false {X Y : Nat → Int32} {k : Nat} {x y : Int32} : ∀ n, othP X Y k x y n = false → ∀ i, i < n → i ≠ k → ¬ (X i = x ∧ Y i = y)
  | 0, _, i, hi, _ => absurd hi (Nat.not_lt_zero _)
  | n + 1, h, i, hi, hik => by
    rw [othP, Bool.or_eq_false_iff] at h
    rcases Nat.lt_succ_iff_lt_or_eq.mp hi with h1 | rfl
    · exact othP_false n h.1 i h1 hik
    · exact fun q => of_decide_eq_false h.2 ⟨hik, q⟩
theorem othP_free {X Y : Nat → Int32} {k : Nat} {x y : Int32} : ∀ n, (∀ i, i < n → i ≠ k → ¬ (X i = x ∧ Y i = y)) → othP X Y k x y n = false
  | 0, _ => rfl
  | n + 1, h => by
    rw [othP, othP_free n (fun i hi => h i (by omega)), decide_eq_false (fun q => h n (by omega) q.1 q.2)]; rfl
theorem wfD.pXY {D : Deb} (h : wfD D) (k : Nat) (x y : Int32) (hx : six x) (hy : six y) (ho : othP (fun i => D.1.2 i 1) (fun i => D.1.2 i 2) k x y D.1.1 = false) : wfD (setXY D k x y) := by
  have hf := othP_false D.1.1 ho
  have e1 : ∀ i, (setXY D k x y).1.2 i 1 = if i = k then x else D.1.2 i 1 := fun i => by
    show (if i = k ∧ 1 = 1 then x else if i = k ∧ 1 = 2 then y else D.1.2 i 1) = _
    by_cases q : i = k
    · rw [if_pos ⟨q, rfl⟩, if_pos q]
    · rw [if_neg (fun z => q z.1), if_neg (fun z => q z.1), if_neg q]
  have e2 : ∀ i, (setXY D k x y).1.2 i 2 = if i = k then y else D.1.2 i 2 := fun i => by
    show (if i = k ∧ 2 = 1 then x else if i = k ∧ 2 = 2 then y else D.1.2 i 2) = _
    by_cases q : i = k
    · rw [if_neg (by omega), if_pos ⟨q, rfl⟩, if_pos q]
    · rw [if_neg (fun z => q z.1), if_neg (fun z => q z.1), if_neg q]
  have e3 : ∀ i, (setXY D k x y).1.2 i 3 = D.1.2 i 3 := fun i => by
    show (if i = k ∧ 3 = 1 then x else if i = k ∧ 3 = 2 then y else D.1.2 i 3) = _
    rw [if_neg (by omega), if_neg (by omega)]
  refine ⟨h.1, h.2.1, fun i hi => ?_, fun i j hi hj q1 q2 => ?_⟩
  · rw [e1, e2, e3]
    obtain ⟨a, b, c⟩ := h.2.2.1 i hi
    by_cases q : i = k
    · rw [if_pos q, if_pos q]; exact ⟨hx, hy, c⟩
    · rw [if_neg q, if_neg q]; exact ⟨a, b, c⟩
  · rw [e1, e1] at q1
    rw [e2, e2] at q2
    by_cases qi : i = k
    · by_cases qj : j = k
      · rw [qi, qj]
      · rw [if_pos qi, if_neg qj] at q1 q2
        exact absurd ⟨q1.symm, q2.symm⟩ (hf j hj qj)
    · by_cases qj : j = k
      · rw [if_neg qi, if_pos qj] at q1 q2
        exact absurd ⟨q1, q2⟩ (hf i hi qi)
      · rw [if_neg qi, if_neg qj] at q1 q2
        exact h.2.2.2 i j hi hj q1 q2
theorem pts_of {D : Deb} (h : wfD D) (k : Nat) (hk : k < D.1.1) : ∃ p, p ≤ 576 ∧ ptsD D k = nI p := by
  obtain ⟨p, hp, e⟩ := (h.run 24).1 k hk |>.2.2.2.1
  exact ⟨p, by omega, e⟩
section TT
variable {G : mG} {l : Launch} {d : Nat} {σ : mS}
theorem dX9_touchesAll_0 : decode cX9_touchesAll 0 = .ok (.aload_n 0, 1) := by decide +kernel
theorem dX9_touchesAll_1 : decode cX9_touchesAll 1 = .ok (.getfield 28, 3) := by decide +kernel
theorem dX9_touchesAll_4 : decode cX9_touchesAll 4 = .ok (.aload_n 0, 1) := by decide +kernel
theorem dX9_touchesAll_5 : decode cX9_touchesAll 5 = .ok (.getfield 41, 3) := by decide +kernel
theorem dX9_touchesAll_8 : decode cX9_touchesAll 8 = .ok (.aload_n 0, 1) := by decide +kernel
theorem dX9_touchesAll_9 : decode cX9_touchesAll 9 = .ok (.getfield 44, 3) := by decide +kernel
theorem dX9_touchesAll_12 : decode cX9_touchesAll 12 = .ok (.aload_n 0, 1) := by decide +kernel
theorem dX9_touchesAll_13 : decode cX9_touchesAll 13 = .ok (.getfield 48, 3) := by decide +kernel
theorem dX9_touchesAll_16 : decode cX9_touchesAll 16 = .ok (.iload_n 1, 1) := by decide +kernel
theorem dX9_touchesAll_17 : decode cX9_touchesAll 17 = .ok (.invokevirtual 70, 3) := by decide +kernel
theorem dX9_touchesAll_20 : decode cX9_touchesAll 20 = .ok (.aload_n 0, 1) := by decide +kernel
theorem dX9_touchesAll_21 : decode cX9_touchesAll 21 = .ok (.getfield 28, 3) := by decide +kernel
theorem dX9_touchesAll_24 : decode cX9_touchesAll 24 = .ok (.invokevirtual 91, 3) := by decide +kernel
theorem dX9_touchesAll_27 : decode cX9_touchesAll 27 = .ok (.ifCond .ne 7, 3) := by decide +kernel
theorem dX9_touchesAll_30 : decode cX9_touchesAll 30 = .ok (.iconst 1, 1) := by decide +kernel
theorem dX9_touchesAll_31 : decode cX9_touchesAll 31 = .ok (.goto 4, 3) := by decide +kernel
theorem dX9_touchesAll_34 : decode cX9_touchesAll 34 = .ok (.iconst 0, 1) := by decide +kernel
theorem dX9_touchesAll_35 : decode cX9_touchesAll 35 = .ok (.ireturn, 1) := by decide +kernel
theorem dX9_agrees_0 : decode cX9_agrees 0 = .ok (.aload_n 0, 1) := by decide +kernel
theorem dX9_agrees_1 : decode cX9_agrees 1 = .ok (.getfield 12, 3) := by decide +kernel
theorem dX9_agrees_4 : decode cX9_agrees 4 = .ok (.getfield 67, 3) := by decide +kernel
theorem dX9_agrees_7 : decode cX9_agrees 7 = .ok (.iload_n 1, 1) := by decide +kernel
theorem dX9_agrees_8 : decode cX9_agrees 8 = .ok (.aaload, 1) := by decide +kernel
theorem dX9_agrees_9 : decode cX9_agrees 9 = .ok (.iload_n 2, 1) := by decide +kernel
theorem dX9_agrees_10 : decode cX9_agrees 10 = .ok (.iload_n 3, 1) := by decide +kernel
theorem dX9_agrees_11 : decode cX9_agrees 11 = .ok (.iastore, 1) := by decide +kernel
theorem dX9_agrees_12 : decode cX9_agrees 12 = .ok (.aload_n 0, 1) := by decide +kernel
theorem dX9_agrees_13 : decode cX9_agrees 13 = .ok (.getfield 28, 3) := by decide +kernel
theorem dX9_agrees_16 : decode cX9_agrees 16 = .ok (.aload_n 0, 1) := by decide +kernel
theorem dX9_agrees_17 : decode cX9_agrees 17 = .ok (.getfield 12, 3) := by decide +kernel
theorem dX9_agrees_20 : decode cX9_agrees 20 = .ok (.aload_n 0, 1) := by decide +kernel
theorem dX9_agrees_21 : decode cX9_agrees 21 = .ok (.getfield 44, 3) := by decide +kernel
theorem dX9_agrees_24 : decode cX9_agrees 24 = .ok (.aload_n 0, 1) := by decide +kernel
theorem dX9_agrees_25 : decode cX9_agrees 25 = .ok (.getfield 48, 3) := by decide +kernel
theorem dX9_agrees_28 : decode cX9_agrees 28 = .ok (.iconst 0, 1) := by decide +kernel
theorem dX9_agrees_29 : decode cX9_agrees 29 = .ok (.invokevirtual 70, 3) := by decide +kernel
theorem dX9_agrees_32 : decode cX9_agrees 32 = .ok (.aload_n 0, 1) := by decide +kernel
theorem dX9_agrees_33 : decode cX9_agrees 33 = .ok (.getfield 51, 3) := by decide +kernel
theorem dX9_agrees_36 : decode cX9_agrees 36 = .ok (.aload_n 0, 1) := by decide +kernel
theorem dX9_agrees_37 : decode cX9_agrees 37 = .ok (.getfield 28, 3) := by decide +kernel
theorem dX9_agrees_40 : decode cX9_agrees 40 = .ok (.invokevirtual 95, 3) := by decide +kernel
theorem dX9_agrees_43 : decode cX9_agrees 43 = .ok (.ireturn, 1) := by decide +kernel
theorem dX9_eventsThatNeverWere_0 : decode cX9_eventsThatNeverWere 0 = .ok (.iconst 0, 1) := by decide +kernel
theorem dX9_eventsThatNeverWere_1 : decode cX9_eventsThatNeverWere 1 = .ok (.istore_n 1, 1) := by decide +kernel
theorem dX9_eventsThatNeverWere_2 : decode cX9_eventsThatNeverWere 2 = .ok (.iconst 0, 1) := by decide +kernel
theorem dX9_eventsThatNeverWere_3 : decode cX9_eventsThatNeverWere 3 = .ok (.istore_n 2, 1) := by decide +kernel
theorem dX9_eventsThatNeverWere_4 : decode cX9_eventsThatNeverWere 4 = .ok (.iload_n 2, 1) := by decide +kernel
theorem dX9_eventsThatNeverWere_5 : decode cX9_eventsThatNeverWere 5 = .ok (.aload_n 0, 1) := by decide +kernel
theorem dX9_eventsThatNeverWere_6 : decode cX9_eventsThatNeverWere 6 = .ok (.getfield 48, 3) := by decide +kernel
theorem dX9_eventsThatNeverWere_9 : decode cX9_eventsThatNeverWere 9 = .ok (.getfield 90, 3) := by decide +kernel
theorem dX9_eventsThatNeverWere_12 : decode cX9_eventsThatNeverWere 12 = .ok (.if_icmp .ge 51, 3) := by decide +kernel
theorem dX9_eventsThatNeverWere_15 : decode cX9_eventsThatNeverWere 15 = .ok (.aload_n 0, 1) := by decide +kernel
theorem dX9_eventsThatNeverWere_16 : decode cX9_eventsThatNeverWere 16 = .ok (.getfield 28, 3) := by decide +kernel
theorem dX9_eventsThatNeverWere_19 : decode cX9_eventsThatNeverWere 19 = .ok (.aload_n 0, 1) := by decide +kernel
theorem dX9_eventsThatNeverWere_20 : decode cX9_eventsThatNeverWere 20 = .ok (.getfield 41, 3) := by decide +kernel
theorem dX9_eventsThatNeverWere_23 : decode cX9_eventsThatNeverWere 23 = .ok (.aload_n 0, 1) := by decide +kernel
theorem dX9_eventsThatNeverWere_24 : decode cX9_eventsThatNeverWere 24 = .ok (.getfield 44, 3) := by decide +kernel
theorem dX9_eventsThatNeverWere_27 : decode cX9_eventsThatNeverWere 27 = .ok (.aload_n 0, 1) := by decide +kernel
theorem dX9_eventsThatNeverWere_28 : decode cX9_eventsThatNeverWere 28 = .ok (.getfield 48, 3) := by decide +kernel
theorem dX9_eventsThatNeverWere_31 : decode cX9_eventsThatNeverWere 31 = .ok (.iconst 1, 1) := by decide +kernel
theorem dX9_eventsThatNeverWere_32 : decode cX9_eventsThatNeverWere 32 = .ok (.iload_n 2, 1) := by decide +kernel
theorem dX9_eventsThatNeverWere_33 : decode cX9_eventsThatNeverWere 33 = .ok (.ishl, 1) := by decide +kernel
theorem dX9_eventsThatNeverWere_34 : decode cX9_eventsThatNeverWere 34 = .ok (.invokevirtual 70, 3) := by decide +kernel
theorem dX9_eventsThatNeverWere_37 : decode cX9_eventsThatNeverWere 37 = .ok (.aload_n 0, 1) := by decide +kernel
theorem dX9_eventsThatNeverWere_38 : decode cX9_eventsThatNeverWere 38 = .ok (.getfield 51, 3) := by decide +kernel
theorem dX9_eventsThatNeverWere_41 : decode cX9_eventsThatNeverWere 41 = .ok (.aload_n 0, 1) := by decide +kernel
theorem dX9_eventsThatNeverWere_42 : decode cX9_eventsThatNeverWere 42 = .ok (.getfield 28, 3) := by decide +kernel
theorem dX9_eventsThatNeverWere_45 : decode cX9_eventsThatNeverWere 45 = .ok (.invokevirtual 95, 3) := by decide +kernel
theorem dX9_eventsThatNeverWere_48 : decode cX9_eventsThatNeverWere 48 = .ok (.ifCond .eq 9, 3) := by decide +kernel
theorem dX9_eventsThatNeverWere_51 : decode cX9_eventsThatNeverWere 51 = .ok (.iload_n 1, 1) := by decide +kernel
theorem dX9_eventsThatNeverWere_52 : decode cX9_eventsThatNeverWere 52 = .ok (.iconst 1, 1) := by decide +kernel
theorem dX9_eventsThatNeverWere_53 : decode cX9_eventsThatNeverWere 53 = .ok (.iload_n 2, 1) := by decide +kernel
theorem dX9_eventsThatNeverWere_54 : decode cX9_eventsThatNeverWere 54 = .ok (.ishl, 1) := by decide +kernel
theorem dX9_eventsThatNeverWere_55 : decode cX9_eventsThatNeverWere 55 = .ok (.ior, 1) := by decide +kernel
theorem dX9_eventsThatNeverWere_56 : decode cX9_eventsThatNeverWere 56 = .ok (.istore_n 1, 1) := by decide +kernel
theorem dX9_eventsThatNeverWere_57 : decode cX9_eventsThatNeverWere 57 = .ok (.iinc 2 1, 3) := by decide +kernel
theorem dX9_eventsThatNeverWere_60 : decode cX9_eventsThatNeverWere 60 = .ok (.goto (-56), 3) := by decide +kernel
theorem dX9_eventsThatNeverWere_63 : decode cX9_eventsThatNeverWere 63 = .ok (.iload_n 1, 1) := by decide +kernel
theorem dX9_eventsThatNeverWere_64 : decode cX9_eventsThatNeverWere 64 = .ok (.ireturn, 1) := by decide +kernel
theorem dX9_sortsOf_0 : decode cX9_sortsOf 0 = .ok (.aload_n 0, 1) := by decide +kernel
theorem dX9_sortsOf_1 : decode cX9_sortsOf 1 = .ok (.getfield 12, 3) := by decide +kernel
theorem dX9_sortsOf_4 : decode cX9_sortsOf 4 = .ok (.aload_n 0, 1) := by decide +kernel
theorem dX9_sortsOf_5 : decode cX9_sortsOf 5 = .ok (.getfield 41, 3) := by decide +kernel
theorem dX9_sortsOf_8 : decode cX9_sortsOf 8 = .ok (.invokevirtual 55, 3) := by decide +kernel
theorem dX9_sortsOf_11 : decode cX9_sortsOf 11 = .ok (.iconst 0, 1) := by decide +kernel
theorem dX9_sortsOf_12 : decode cX9_sortsOf 12 = .ok (.istore_n 2, 1) := by decide +kernel
theorem dX9_sortsOf_13 : decode cX9_sortsOf 13 = .ok (.iconst 0, 1) := by decide +kernel
theorem dX9_sortsOf_14 : decode cX9_sortsOf 14 = .ok (.istore_n 3, 1) := by decide +kernel
theorem dX9_sortsOf_15 : decode cX9_sortsOf 15 = .ok (.iload_n 3, 1) := by decide +kernel
theorem dX9_sortsOf_16 : decode cX9_sortsOf 16 = .ok (.iconst 3, 1) := by decide +kernel
theorem dX9_sortsOf_17 : decode cX9_sortsOf 17 = .ok (.if_icmp .ge 25, 3) := by decide +kernel
theorem dX9_sortsOf_20 : decode cX9_sortsOf 20 = .ok (.aload_n 0, 1) := by decide +kernel
theorem dX9_sortsOf_21 : decode cX9_sortsOf 21 = .ok (.iload_n 1, 1) := by decide +kernel
theorem dX9_sortsOf_22 : decode cX9_sortsOf 22 = .ok (.iconst 0, 1) := by decide +kernel
theorem dX9_sortsOf_23 : decode cX9_sortsOf 23 = .ok (.iload_n 3, 1) := by decide +kernel
theorem dX9_sortsOf_24 : decode cX9_sortsOf 24 = .ok (.invokevirtual 101, 3) := by decide +kernel
theorem dX9_sortsOf_27 : decode cX9_sortsOf 27 = .ok (.ifCond .eq 9, 3) := by decide +kernel
theorem dX9_sortsOf_30 : decode cX9_sortsOf 30 = .ok (.iload_n 2, 1) := by decide +kernel
theorem dX9_sortsOf_31 : decode cX9_sortsOf 31 = .ok (.iconst 1, 1) := by decide +kernel
theorem dX9_sortsOf_32 : decode cX9_sortsOf 32 = .ok (.iload_n 3, 1) := by decide +kernel
theorem dX9_sortsOf_33 : decode cX9_sortsOf 33 = .ok (.ishl, 1) := by decide +kernel
theorem dX9_sortsOf_34 : decode cX9_sortsOf 34 = .ok (.ior, 1) := by decide +kernel
theorem dX9_sortsOf_35 : decode cX9_sortsOf 35 = .ok (.istore_n 2, 1) := by decide +kernel
theorem dX9_sortsOf_36 : decode cX9_sortsOf 36 = .ok (.iinc 3 1, 3) := by decide +kernel
theorem dX9_sortsOf_39 : decode cX9_sortsOf 39 = .ok (.goto (-24), 3) := by decide +kernel
theorem dX9_sortsOf_42 : decode cX9_sortsOf 42 = .ok (.iload_n 2, 1) := by decide +kernel
theorem dX9_sortsOf_43 : decode cX9_sortsOf 43 = .ok (.ireturn, 1) := by decide +kernel
theorem dX9_weightsOf_0 : decode cX9_weightsOf 0 = .ok (.aload_n 0, 1) := by decide +kernel
theorem dX9_weightsOf_1 : decode cX9_weightsOf 1 = .ok (.getfield 12, 3) := by decide +kernel
theorem dX9_weightsOf_4 : decode cX9_weightsOf 4 = .ok (.aload_n 0, 1) := by decide +kernel
theorem dX9_weightsOf_5 : decode cX9_weightsOf 5 = .ok (.getfield 41, 3) := by decide +kernel
theorem dX9_weightsOf_8 : decode cX9_weightsOf 8 = .ok (.invokevirtual 55, 3) := by decide +kernel
theorem dX9_weightsOf_11 : decode cX9_weightsOf 11 = .ok (.iconst 0, 1) := by decide +kernel
theorem dX9_weightsOf_12 : decode cX9_weightsOf 12 = .ok (.istore_n 2, 1) := by decide +kernel
theorem dX9_weightsOf_13 : decode cX9_weightsOf 13 = .ok (.iconst 1, 1) := by decide +kernel
theorem dX9_weightsOf_14 : decode cX9_weightsOf 14 = .ok (.istore_n 3, 1) := by decide +kernel
theorem dX9_weightsOf_15 : decode cX9_weightsOf 15 = .ok (.iload_n 3, 1) := by decide +kernel
theorem dX9_weightsOf_16 : decode cX9_weightsOf 16 = .ok (.bipush 9, 2) := by decide +kernel
theorem dX9_weightsOf_18 : decode cX9_weightsOf 18 = .ok (.if_icmp .gt 25, 3) := by decide +kernel
theorem dX9_weightsOf_21 : decode cX9_weightsOf 21 = .ok (.aload_n 0, 1) := by decide +kernel
theorem dX9_weightsOf_22 : decode cX9_weightsOf 22 = .ok (.iload_n 1, 1) := by decide +kernel
theorem dX9_weightsOf_23 : decode cX9_weightsOf 23 = .ok (.iconst 4, 1) := by decide +kernel
theorem dX9_weightsOf_24 : decode cX9_weightsOf 24 = .ok (.iload_n 3, 1) := by decide +kernel
theorem dX9_weightsOf_25 : decode cX9_weightsOf 25 = .ok (.invokevirtual 101, 3) := by decide +kernel
theorem dX9_weightsOf_28 : decode cX9_weightsOf 28 = .ok (.ifCond .eq 9, 3) := by decide +kernel
theorem dX9_weightsOf_31 : decode cX9_weightsOf 31 = .ok (.iload_n 2, 1) := by decide +kernel
theorem dX9_weightsOf_32 : decode cX9_weightsOf 32 = .ok (.iconst 1, 1) := by decide +kernel
theorem dX9_weightsOf_33 : decode cX9_weightsOf 33 = .ok (.iload_n 3, 1) := by decide +kernel
theorem dX9_weightsOf_34 : decode cX9_weightsOf 34 = .ok (.ishl, 1) := by decide +kernel
theorem dX9_weightsOf_35 : decode cX9_weightsOf 35 = .ok (.ior, 1) := by decide +kernel
theorem dX9_weightsOf_36 : decode cX9_weightsOf 36 = .ok (.istore_n 2, 1) := by decide +kernel
theorem dX9_weightsOf_37 : decode cX9_weightsOf 37 = .ok (.iinc 3 1, 3) := by decide +kernel
theorem dX9_weightsOf_40 : decode cX9_weightsOf 40 = .ok (.goto (-25), 3) := by decide +kernel
theorem dX9_weightsOf_43 : decode cX9_weightsOf 43 = .ok (.iload_n 2, 1) := by decide +kernel
theorem dX9_weightsOf_44 : decode cX9_weightsOf 44 = .ok (.ireturn, 1) := by decide +kernel
/-- the trial's cars, as told but for what is tried -/
def triC (D : Deb) (s : mS) : Prop := s.1 66 3 = nI D.1.1 ∧ crow 66 D.1.1 D.1.2 s
theorem setC.mask {D : Deb} (h : setC D σ) (m : Int32) : depC 5 30 (maskD D m) σ := h.2.2.2
theorem tri_dep {D E : Deb} (h : setC D σ) (ht : triC E σ) (e1 : E.2 = D.2) : depC 66 30 E σ := by
  obtain ⟨w, m0, h12, a1, a2, a3, a4, a5, a6⟩ := h
  obtain ⟨E1, E2⟩ := E
  subst e1
  exact ⟨ht.1, ht.2, a3, a4, a5, a6⟩
theorem c_touchesAll (hd : 5 ≤ d) (D : Deb) (h : setC D σ) (m : Int32) : mMet G l d kX9_touchesAll [.ref 65, .int m] σ (qIP (fun r s => r = bI (spOK D m) ∧ fW (wPl 80) σ s)) := by
  refine mMet.of cm_X9_touchesAll rfl (Nat.le_of_ble_eq_true rfl) rfl (fun v1 σ1 h => by obtain ⟨r, h1, h2, -⟩ := h; rw [h1, h2]; exact bI_nar _) ?_
  refine m_aload_n dX9_touchesAll_0 0 rfl ?_
  refine m_getR 6 80 dX9_touchesAll_1 fl_X9_28_8 rfl (by decide) rfl (by first | assumption | rfl) ?_
  refine m_aload_n dX9_touchesAll_4 0 rfl ?_
  refine m_getR 0 5 dX9_touchesAll_5 fl_X9_41_8 rfl (by decide) rfl (by first | assumption | rfl) ?_
  refine m_aload_n dX9_touchesAll_8 0 rfl ?_
  refine m_getR 1 15 dX9_touchesAll_9 fl_X9_44_8 rfl (by decide) rfl (by first | assumption | rfl) ?_
  refine m_aload_n dX9_touchesAll_12 0 rfl ?_
  refine m_getR 2 30 dX9_touchesAll_13 fl_X9_48_8 rfl (by decide) rfl (by first | assumption | rfl) ?_
  refine m_iload_n dX9_touchesAll_16 1 rfl ?_
  refine m_callV (As := [_, _, _, _]) dX9_touchesAll_17 cv_X9_70 (by first | assumption | rfl) (by decide) (by omega) rfl rfl (Nat.le_of_ble_eq_true rfl) (c_play (d := d - 1) (by omega) (Or.inr rfl) (Or.inl rfl) (Or.inl rfl) (maskD D m) (h.1.mask m) (h.mask m) m rfl) (fun v1 σ1 hv1 => ?_)
  refine m_qVP hv1 (fun hq => ?_)
  clear hv1 v1
  rename mS => s1
  obtain ⟨o1, f1⟩ := hq
  refine m_aload_n dX9_touchesAll_20 0 rfl ?_
  refine m_getR 6 80 dX9_touchesAll_21 fl_X9_28_8 rfl (by decide) rfl (by first | assumption | rfl) ?_
  refine m_callV (As := []) dX9_touchesAll_24 cv_X9_91 (by first | assumption | rfl) (by decide) (by omega) rfl rfl (Nat.le_of_ble_eq_true rfl) (c_untouched (d := d - 1) (Or.inr rfl) (maskD D m) h.1.1 o1) (fun v1 σ1 hv1 => ?_)
  refine m_qI hv1 ?_
  clear hv1 v1 σ1
  refine m_sel (pcJ := 35) ?_ (fun kt0 kf0 => m_if_ne dX9_touchesAll_27 34 (by decide) (fun h => (m_iconst (v := 0) dX9_touchesAll_34 (by decide) (kf0 h))) (fun h => (m_iconst (v := 1) dX9_touchesAll_30 (by decide) (m_goto dX9_touchesAll_31 35 (by decide) (kt0 h)))))
  refine m_ireturn dX9_touchesAll_35 ⟨_, rfl, ?_, f1⟩
  unfold spOK
  by_cases q : meekD (maskD D m) = 0
  · rw [if_pos q, decide_eq_true q]; rfl
  · rw [if_neg q, decide_eq_false q]; rfl
theorem c_agrees (hd : 5 ≤ d) (D E : Deb) (h : setC D σ) (wfE : wfD E) (e1 : E.2 = D.2) (en : E.1.1 = D.1.1) (k p : Nat) (v : Int32) (hk : k < D.1.1) (hp : p < 5) (ht : triC E (us σ (68 + k) p v)) (z : Nat) (w : Nat → Nat → Int32) (hw : serow z w σ) : mMet G l d kX9_agrees [.ref 65, .int (nI k), .int (nI p), .int v] σ (qIP (fun r s => r = bI (agP E w z) ∧ outC 80 E s ∧ fW (wPl 80) (us σ (68 + k) p v) s)) := by
  have hn := h.1.1
  have hk8 : k < 8 := by omega
  have hs := sh_car (k := k) (Or.inr rfl) hk8
  refine mMet.of cm_X9_agrees rfl (Nat.le_of_ble_eq_true rfl) rfl (fun v1 σ1 h => by obtain ⟨r, h1, h2, -⟩ := h; rw [h1, h2]; exact bI_nar _) ?_
  have h' : setC D (us σ (68 + k) p v) := h.tr (fW.us (by omega) fW.rf)
  have hm : E.2.2.2 = 0 := by rw [e1]; exact h.2.1
  refine m_aload_n dX9_agrees_0 0 rfl ?_
  refine m_getR 4 66 dX9_agrees_1 fl_X9_12_8 rfl (by decide) rfl (by first | assumption | rfl) ?_
  refine m_getR 0 67 dX9_agrees_4 fl_X9_67_0 rfl (by decide) rfl (by first | assumption | rfl) ?_
  refine m_iload_n dX9_agrees_7 1 rfl ?_
  refine m_aald dX9_agrees_8 (by first | assumption | rfl) k rfl (by first | assumption | omega | decide) ?_
  refine m_iload_n dX9_agrees_9 2 rfl ?_
  refine m_iload_n dX9_agrees_10 3 rfl ?_
  refine m_iast dX9_agrees_11 (by first | assumption | rfl) p rfl (by first | assumption | omega | decide) ?_
  refine m_aload_n dX9_agrees_12 0 rfl ?_
  refine m_getR 6 80 dX9_agrees_13 fl_X9_28_8 rfl (by decide) rfl (by first | assumption | rfl) ?_
  refine m_aload_n dX9_agrees_16 0 rfl ?_
  refine m_getR 4 66 dX9_agrees_17 fl_X9_12_8 rfl (by decide) rfl (by first | assumption | rfl) ?_
  refine m_aload_n dX9_agrees_20 0 rfl ?_
  refine m_getR 1 15 dX9_agrees_21 fl_X9_44_8 rfl (by decide) rfl (by first | assumption | rfl) ?_
  refine m_aload_n dX9_agrees_24 0 rfl ?_
  refine m_getR 2 30 dX9_agrees_25 fl_X9_48_8 rfl (by decide) rfl (by first | assumption | rfl) ?_
  refine m_iconst (v := 0) dX9_agrees_28 (by decide) ?_
  refine m_callV (As := [_, _, _, _]) dX9_agrees_29 cv_X9_70 (by first | assumption | rfl) (by decide) (by omega) rfl rfl (Nat.le_of_ble_eq_true rfl) (c_play (d := d - 1) (by omega) (Or.inr rfl) (Or.inr rfl) (Or.inl rfl) E wfE (tri_dep h' ht e1) 0 hm) (fun v1 σ1 hv1 => ?_)
  refine m_qVP hv1 (fun hq => ?_)
  clear hv1 v1
  rename mS => s1
  obtain ⟨o1, f1⟩ := hq
  have hw1 : serow z w s1 := by
    refine ⟨?_, hw.2.1, fun i hi => ?_⟩
    · rw [f1.at (by omega), us_at, if_neg (by omega)]; exact hw.1
    · have un : ∀ b, 35 ≤ b → b ≤ 38 → s1.1 b i = σ.1 b i := fun b h1 h2 => by rw [f1.at (by omega), us_at, if_neg (by omega)]
      rw [un 35 (by decide) (by decide), un 36 (by decide) (by decide), un 37 (by decide) (by decide), un 38 (by decide) (by decide)]
      exact hw.2.2 i hi
  refine m_aload_n dX9_agrees_32 0 rfl ?_
  refine m_getR 3 34 dX9_agrees_33 fl_X9_51_8 rfl (by decide) rfl (by first | assumption | rfl) ?_
  refine m_aload_n dX9_agrees_36 0 rfl ?_
  refine m_getR 6 80 dX9_agrees_37 fl_X9_28_8 rfl (by decide) rfl (by first | assumption | rfl) ?_
  refine m_callV (As := [_]) dX9_agrees_40 cv_X9_95 (by first | assumption | rfl) (by decide) (by omega) rfl rfl (Nat.le_of_ble_eq_true rfl) (c_comeOutIn (d := d - 1) (by omega) (Or.inr rfl) E (by rw [en]; exact hn) o1 z w hw1) (fun v1 σ1 hv1 => ?_)
  refine m_qI hv1 ?_
  clear hv1 v1 σ1
  exact m_ireturn dX9_agrees_43 ⟨_, rfl, rfl, o1, f1⟩
theorem serow.tr {s s1 : mS} {z : Nat} {w : Nat → Nat → Int32} {W : Nat → Nat → Prop} (h : serow z w s) (f : fW W s s1) (h1 : ∀ y q, 34 ≤ y → y ≤ 38 → ¬ W y q) : serow z w s1 := by
  refine ⟨(f.at (h1 34 4 (by decide) (by decide))).trans h.1, h.2.1, fun i hi => ?_⟩
  rw [f.at (h1 35 i (by decide) (by decide)), f.at (h1 36 i (by decide) (by decide)), f.at (h1 37 i (by decide) (by decide)), f.at (h1 38 i (by decide) (by decide))]
  exact h.2.2 i hi
theorem c_neverC (hd : 6 ≤ d) (D : Deb) (h : setC D σ) (z : Nat) (w : Nat → Nat → Int32) (hw : serow z w σ) : mMet G l d kX9_eventsThatNeverWere [.ref 65] σ (qIP (fun r s => r = nvP D z w D.2.2.1.1 ∧ fW (wTr D.2.1.1) σ s)) := by
  have he8 := h.2.2.2.2.2.2.2.1.1
  have h12 := h.2.2.1
  refine mMet.of cm_X9_eventsThatNeverWere rfl (Nat.le_of_ble_eq_true rfl) rfl (fun v1 σ1 h => by obtain ⟨r, h1, -⟩ := h; rw [h1]; rfl) ?_
  refine m_iconst (v := 0) dX9_eventsThatNeverWere_0 (by decide) ?_
  refine m_istore_n (ls1 := [(1, _), (0, _)]) dX9_eventsThatNeverWere_1 (by decide) rfl ?_
  refine m_iconst (v := 0) dX9_eventsThatNeverWere_2 (by decide) ?_
  refine m_istore_n (ls1 := [(2, _), (1, _), (0, _)]) dX9_eventsThatNeverWere_3 (by decide) rfl ?_
  refine down (N := D.2.2.1.1) (fun i (q : mS × Int32) => q.2 = nvP D z w i ∧ fW (wTr D.2.1.1) σ q.1) (fun i q => mW G l d kX9_eventsThatNeverWere 4 [(2, .int (nI i)), (1, .int q.2), (0, .ref 65)] [] q.1 _) ?_ ?_ 0 (σ, 0) (Nat.zero_le _) ⟨rfl, fW.rf⟩
  · rintro ⟨s, b⟩ ⟨hb, f⟩
    show mW G l d kX9_eventsThatNeverWere 4 [(2, .int (nI D.2.2.1.1)), (1, .int b), (0, .ref 65)] [] s _
    have hs := h.tr f
    refine m_iload_n dX9_eventsThatNeverWere_4 0 rfl ?_
    refine m_aload_n dX9_eventsThatNeverWere_5 2 rfl ?_
    refine m_getR 2 30 dX9_eventsThatNeverWere_6 fl_X9_48_8 rfl (by decide) rfl (by first | assumption | rfl) ?_
    refine m_getI 3 dX9_eventsThatNeverWere_9 fl_X9_90_1 rfl (by decide) (by first | assumption | rfl) ?_
    refine mW.top hs.2.2.2.2.2.2.2.2.1 ?_
    refine m_icmp_ge dX9_eventsThatNeverWere_12 63 (by decide) (fun h => ?_) (fun h => ?_)
    · refine m_iload_n dX9_eventsThatNeverWere_63 1 rfl ?_
      exact m_ireturn dX9_eventsThatNeverWere_64 ⟨_, rfl, hb, f⟩
    · exact absurd (Int32.le_refl _) h
  · rintro i ⟨s, b⟩ hi ⟨hb, f⟩ ih
    show mW G l d kX9_eventsThatNeverWere 4 [(2, .int (nI i)), (1, .int b), (0, .ref 65)] [] s _
    have hb : b = nvP D z w i := hb
    have hs := h.tr f
    refine m_iload_n dX9_eventsThatNeverWere_4 0 rfl ?_
    refine m_aload_n dX9_eventsThatNeverWere_5 2 rfl ?_
    refine m_getR 2 30 dX9_eventsThatNeverWere_6 fl_X9_48_8 rfl (by decide) rfl (by first | assumption | rfl) ?_
    refine m_getI 3 dX9_eventsThatNeverWere_9 fl_X9_90_1 rfl (by decide) (by first | assumption | rfl) ?_
    refine mW.top hs.2.2.2.2.2.2.2.2.1 ?_
    refine m_icmp_ge dX9_eventsThatNeverWere_12 63 (by decide) (fun h => ?_) (fun h => ?_)
    · exact absurd ((nle (by omega) (by omega)).mp h) (by omega)
    rename_i hz
    clear hz
    refine m_aload_n dX9_eventsThatNeverWere_15 2 rfl ?_
    refine m_getR 6 80 dX9_eventsThatNeverWere_16 fl_X9_28_8 rfl (by decide) rfl (by first | assumption | rfl) ?_
    refine m_aload_n dX9_eventsThatNeverWere_19 2 rfl ?_
    refine m_getR 0 5 dX9_eventsThatNeverWere_20 fl_X9_41_8 rfl (by decide) rfl (by first | assumption | rfl) ?_
    refine m_aload_n dX9_eventsThatNeverWere_23 2 rfl ?_
    refine m_getR 1 15 dX9_eventsThatNeverWere_24 fl_X9_44_8 rfl (by decide) rfl (by first | assumption | rfl) ?_
    refine m_aload_n dX9_eventsThatNeverWere_27 2 rfl ?_
    refine m_getR 2 30 dX9_eventsThatNeverWere_28 fl_X9_48_8 rfl (by decide) rfl (by first | assumption | rfl) ?_
    refine m_iconst (v := 1) dX9_eventsThatNeverWere_31 (by decide) ?_
    refine m_iload_n dX9_eventsThatNeverWere_32 0 rfl ?_
    refine m_ishl dX9_eventsThatNeverWere_33 ?_
    refine m_callV (As := [_, _, _, _]) dX9_eventsThatNeverWere_34 cv_X9_70 (by first | assumption | rfl) (by decide) (by omega) rfl rfl (Nat.le_of_ble_eq_true rfl) (c_play (d := d - 1) (by omega) (Or.inr rfl) (Or.inl rfl) (Or.inl rfl) (maskD D (bit1 i)) (hs.1.mask _) (hs.mask _) (bit1 i) rfl) (fun v1 σ1 hv1 => ?_)
    refine m_qVP hv1 (fun hq => ?_)
    clear hv1 v1
    rename mS => s1
    obtain ⟨o1, f1⟩ := hq
    have f2 : fW (wTr D.2.1.1) σ s1 := f.tr (f1.mono (fun y z h => by omega))
    refine m_aload_n dX9_eventsThatNeverWere_37 2 rfl ?_
    refine m_getR 3 34 dX9_eventsThatNeverWere_38 fl_X9_51_8 rfl (by decide) rfl (by first | assumption | rfl) ?_
    refine m_aload_n dX9_eventsThatNeverWere_41 2 rfl ?_
    refine m_getR 6 80 dX9_eventsThatNeverWere_42 fl_X9_28_8 rfl (by decide) rfl (by first | assumption | rfl) ?_
    refine m_callV (As := [_]) dX9_eventsThatNeverWere_45 cv_X9_95 (by first | assumption | rfl) (by decide) (by omega) rfl rfl (Nat.le_of_ble_eq_true rfl) (c_comeOutIn (d := d - 1) (by omega) (Or.inr rfl) (maskD D (bit1 i)) hs.1.1 o1 z w (hw.tr f2 (fun y q h1 h2 => by omega))) (fun v1 σ1 hv1 => ?_)
    refine m_qI hv1 ?_
    clear hv1 v1 σ1
    refine m_if_eq dX9_eventsThatNeverWere_48 57 (by decide) (fun z1 => ?_) (fun z1 => ?_)
    · refine m_iinc (v := nI (i + 1)) (ls1 := [(2, _), (1, _), (0, _)]) dX9_eventsThatNeverWere_57 0 rfl (nI_1 i) (by decide) rfl ?_
      refine m_goto dX9_eventsThatNeverWere_60 4 (by decide) ?_
      refine ih (s1, b) ⟨?_, f2⟩
      show b = nvP D z w (i + 1)
      rw [nvP, bI_eq.mp z1, if_neg (by decide), Int32.or_zero]; exact hb
    · refine m_iload_n dX9_eventsThatNeverWere_51 1 rfl ?_
      refine m_iconst (v := 1) dX9_eventsThatNeverWere_52 (by decide) ?_
      refine m_iload_n dX9_eventsThatNeverWere_53 0 rfl ?_
      refine m_ishl dX9_eventsThatNeverWere_54 ?_
      refine m_ior dX9_eventsThatNeverWere_55 ?_
      refine m_istore_n (ls1 := [(1, _), (2, _), (0, _)]) dX9_eventsThatNeverWere_56 (by decide) rfl ?_
      refine m_iinc (v := nI (i + 1)) (ls1 := [(2, _), (1, _), (0, _)]) dX9_eventsThatNeverWere_57 1 rfl (nI_1 i) (by decide) rfl ?_
      refine m_goto dX9_eventsThatNeverWere_60 4 (by decide) ?_
      refine ih (s1, _) ⟨?_, f2⟩
      show b ||| _ = nvP D z w (i + 1)
      rw [nvP, bI_ne.mp z1, if_pos rfl, ← hb]; rfl
/-- what becomeLike leaves -/
theorem tri_like {D : Deb} {s : mS} (h : setC D σ) (h3 : s.1 66 3 = σ.1 5 3) (hr : ∀ k, k < 8 → ∀ j, j < 5 → s.1 (68 + k) j = σ.1 (7 + k) j) : triC D s := by
  have hn := h.1.1
  exact ⟨h3.trans h.2.2.2.1, fun k hk j hj => (hr k (by omega) j hj).trans (h.2.2.2.2.1 k hk j hj)⟩
theorem tri_setJ {D : Deb} {s : mS} {k p : Nat} {u v : Int32} (ht : triC (setJ D k p u) s) : triC (setJ D k p v) (us s (68 + k) p v) := by
  refine ⟨?_, fun i hi j hj => ?_⟩
  · rw [us_at, if_neg (by omega)]; exact ht.1
  · show (us s (68 + k) p v).1 (66 + 2 + i) j = if i = k ∧ j = p then v else D.1.2 i j
    rw [us_at]
    by_cases q : i = k ∧ j = p
    · rw [if_pos (by omega), if_pos q]
    · rw [if_neg (by omega), if_neg q]
      have := ht.2 i hi j hj
      have e : (setJ D k p u).1.2 i j = D.1.2 i j := by
        show (if i = k ∧ j = p then u else D.1.2 i j) = _
        rw [if_neg q]
      rw [← e]; exact this
theorem tri_self {D : Deb} {s : mS} (k p : Nat) (ht : triC D s) : triC (setJ D k p (D.1.2 k p)) s := by
  refine ⟨ht.1, fun i hi j hj => (ht.2 i hi j hj).trans ?_⟩
  show D.1.2 i j = if i = k ∧ j = p then D.1.2 k p else D.1.2 i j
  by_cases q : i = k ∧ j = p
  · obtain ⟨rfl, rfl⟩ := q
    rw [if_pos ⟨rfl, rfl⟩]
  · rw [if_neg q]
theorem triC.tr {E : Deb} {s s1 : mS} {W : Nat → Nat → Prop} (hn : E.1.1 ≤ 8) (h : triC E s) (f : fW W s s1) (h1 : ¬ W 66 3) (h2 : ∀ y z, 68 ≤ y → y ≤ 75 → ¬ W y z) : triC E s1 := ⟨(f.at h1).trans h.1, h.2.tr f (fun k j hk => h2 _ _ (by omega) (by omega))⟩
theorem c_sortsOf (hd : 6 ≤ d) (D : Deb) (h : setC D σ) (z : Nat) (w : Nat → Nat → Int32) (hw : serow z w σ) (k : Nat) (hk : k < D.1.1) : mMet G l d kX9_sortsOf [.ref 65, .int (nI k)] σ (qIP (fun r s => r = soP D k z w 3 ∧ fW (wTr D.2.1.1) σ s)) := by
  have hn := h.1.1
  have h12 := h.2.2.1
  refine mMet.of cm_X9_sortsOf rfl (Nat.le_of_ble_eq_true rfl) rfl (fun v1 σ1 h => by obtain ⟨r, h1, -⟩ := h; rw [h1]; rfl) ?_
  refine m_aload_n dX9_sortsOf_0 0 rfl ?_
  refine m_getR 4 66 dX9_sortsOf_1 fl_X9_12_8 rfl (by decide) rfl (by first | assumption | rfl) ?_
  refine m_aload_n dX9_sortsOf_4 0 rfl ?_
  refine m_getR 0 5 dX9_sortsOf_5 fl_X9_41_8 rfl (by decide) rfl (by first | assumption | rfl) ?_
  refine m_callV (As := [_]) dX9_sortsOf_8 cv_X9_55 (by first | assumption | rfl) (by decide) (by omega) rfl rfl (Nat.le_of_ble_eq_true rfl) (c_becomeLike (d := d - 1) (by omega)) (fun v1 σ1 hv1 => ?_)
  refine m_qVP hv1 (fun hq => ?_)
  clear hv1 v1
  rename mS => s0
  obtain ⟨l1, l2, l3⟩ := hq
  have t0 := tri_self k 0 (tri_like h l1 l2)
  have f0 : fW (wTr D.2.1.1) σ s0 := l3.mono (fun y z h => by omega)
  refine m_iconst (v := 0) dX9_sortsOf_11 (by decide) ?_
  refine m_istore_n (ls1 := [(2, _), (0, _), (1, _)]) dX9_sortsOf_12 (by decide) rfl ?_
  refine m_iconst (v := 0) dX9_sortsOf_13 (by decide) ?_
  refine m_istore_n (ls1 := [(3, _), (2, _), (0, _), (1, _)]) dX9_sortsOf_14 (by decide) rfl ?_
  refine down (N := 3) (fun i (q : mS × Int32) => q.2 = soP D k z w i ∧ (∃ u, triC (setJ D k 0 u) q.1) ∧ fW (wTr D.2.1.1) σ q.1) (fun i q => mW G l d kX9_sortsOf 15 [(3, .int (nI i)), (2, .int q.2), (0, .ref 65), (1, .int (nI k))] [] q.1 _) ?_ ?_ 0 (s0, 0) (Nat.zero_le _) ⟨rfl, ⟨_, t0⟩, f0⟩
  · rintro ⟨s, b⟩ ⟨hb, -, f⟩
    show mW G l d kX9_sortsOf 15 [(3, .int (nI 3)), (2, .int b), (0, .ref 65), (1, .int (nI k))] [] s _
    refine m_iload_n dX9_sortsOf_15 0 rfl ?_
    refine m_iconst (v := 3) dX9_sortsOf_16 (by decide) ?_
    refine m_icmp_ge dX9_sortsOf_17 42 (by decide) (fun h => ?_) (fun h => ?_)
    · refine m_iload_n dX9_sortsOf_42 1 rfl ?_
      exact m_ireturn dX9_sortsOf_43 ⟨_, rfl, hb, f⟩
    · exact absurd (Int32.le_refl _) h
  · rintro i ⟨s, b⟩ hi ⟨hb, ⟨u, ht⟩, f⟩ ih
    show mW G l d kX9_sortsOf 15 [(3, .int (nI i)), (2, .int b), (0, .ref 65), (1, .int (nI k))] [] s _
    have hb : b = soP D k z w i := hb
    have ht : triC (setJ D k 0 u) s := ht
    have f : fW (wTr D.2.1.1) σ s := f
    have hs := h.tr f
    have t1 := tri_setJ (v := nI i) ht
    refine m_iload_n dX9_sortsOf_15 0 rfl ?_
    refine m_iconst (v := 3) dX9_sortsOf_16 (by decide) ?_
    refine m_icmp_ge dX9_sortsOf_17 42 (by decide) (fun h => ?_) (fun h => ?_)
    · exact absurd ((nle (a := 3) (by omega) (by omega)).mp h) (by omega)
    rename_i hz
    clear hz
    refine m_aload_n dX9_sortsOf_20 2 rfl ?_
    refine m_iload_n dX9_sortsOf_21 3 rfl ?_
    refine m_iconst (v := 0) dX9_sortsOf_22 (by decide) ?_
    refine m_iload_n dX9_sortsOf_23 0 rfl ?_
    refine m_callV (As := [_, _, _]) dX9_sortsOf_24 cv_X9_101 (by first | assumption | rfl) (by decide) (by omega) rfl rfl (Nat.le_of_ble_eq_true rfl) (c_agrees (d := d - 1) (by omega) D (setJ D k 0 (nI i)) hs (hs.1.setJ0 k _) rfl rfl k 0 (nI i) hk (by decide) t1 z w (hw.tr f (fun y q h1 h2 => by omega))) (fun v1 σ1 hv1 => ?_)
    refine m_qIP hv1 (fun x1 hq => ?_)
    clear hv1 v1
    rename mS => s1
    obtain ⟨e1, o1, f1⟩ := hq
    subst e1
    have f2 : fW (wTr D.2.1.1) σ s1 := (fW.us (by omega) f).tr (f1.mono (fun y z h => by omega))
    have t2 : triC (setJ D k 0 (nI i)) s1 := t1.tr hn f1 (by omega) (fun y z h1 h2 => by omega)
    refine m_if_eq dX9_sortsOf_27 36 (by decide) (fun z1 => ?_) (fun z1 => ?_)
    · refine m_iinc (v := nI (i + 1)) (ls1 := [(3, _), (2, _), (0, _), (1, _)]) dX9_sortsOf_36 0 rfl (nI_1 i) (by decide) rfl ?_
      refine m_goto dX9_sortsOf_39 15 (by decide) ?_
      refine ih (s1, b) ⟨?_, ⟨_, t2⟩, f2⟩
      show b = soP D k z w (i + 1)
      rw [soP, bI_eq.mp z1, if_neg (by decide), Int32.or_zero]; exact hb
    · refine m_iload_n dX9_sortsOf_30 1 rfl ?_
      refine m_iconst (v := 1) dX9_sortsOf_31 (by decide) ?_
      refine m_iload_n dX9_sortsOf_32 0 rfl ?_
      refine m_ishl dX9_sortsOf_33 ?_
      refine m_ior dX9_sortsOf_34 ?_
      refine m_istore_n (ls1 := [(2, _), (3, _), (0, _), (1, _)]) dX9_sortsOf_35 (by decide) rfl ?_
      refine m_iinc (v := nI (i + 1)) (ls1 := [(3, _), (2, _), (0, _), (1, _)]) dX9_sortsOf_36 1 rfl (nI_1 i) (by decide) rfl ?_
      refine m_goto dX9_sortsOf_39 15 (by decide) ?_
      refine ih (s1, _) ⟨?_, ⟨_, t2⟩, f2⟩
      show b ||| _ = soP D k z w (i + 1)
      rw [soP, bI_ne.mp z1, if_pos rfl, ← hb]; rfl
theorem c_weightsOf (hd : 6 ≤ d) (D : Deb) (h : setC D σ) (z : Nat) (w : Nat → Nat → Int32) (hw : serow z w σ) (k : Nat) (hk : k < D.1.1) : mMet G l d kX9_weightsOf [.ref 65, .int (nI k)] σ (qIP (fun r s => r = hvP D k z w 9 ∧ fW (wTr D.2.1.1) σ s)) := by
  have hn := h.1.1
  have h12 := h.2.2.1
  refine mMet.of cm_X9_weightsOf rfl (Nat.le_of_ble_eq_true rfl) rfl (fun v1 σ1 h => by obtain ⟨r, h1, -⟩ := h; rw [h1]; rfl) ?_
  refine m_aload_n dX9_weightsOf_0 0 rfl ?_
  refine m_getR 4 66 dX9_weightsOf_1 fl_X9_12_8 rfl (by decide) rfl (by first | assumption | rfl) ?_
  refine m_aload_n dX9_weightsOf_4 0 rfl ?_
  refine m_getR 0 5 dX9_weightsOf_5 fl_X9_41_8 rfl (by decide) rfl (by first | assumption | rfl) ?_
  refine m_callV (As := [_]) dX9_weightsOf_8 cv_X9_55 (by first | assumption | rfl) (by decide) (by omega) rfl rfl (Nat.le_of_ble_eq_true rfl) (c_becomeLike (d := d - 1) (by omega)) (fun v1 σ1 hv1 => ?_)
  refine m_qVP hv1 (fun hq => ?_)
  clear hv1 v1
  rename mS => s0
  obtain ⟨l1, l2, l3⟩ := hq
  have t0 := tri_self k 4 (tri_like h l1 l2)
  have f0 : fW (wTr D.2.1.1) σ s0 := l3.mono (fun y z h => by omega)
  refine m_iconst (v := 0) dX9_weightsOf_11 (by decide) ?_
  refine m_istore_n (ls1 := [(2, _), (0, _), (1, _)]) dX9_weightsOf_12 (by decide) rfl ?_
  refine m_iconst (v := 1) dX9_weightsOf_13 (by decide) ?_
  refine m_istore_n (ls1 := [(3, _), (2, _), (0, _), (1, _)]) dX9_weightsOf_14 (by decide) rfl ?_
  refine down (N := 10) (fun i (q : mS × Int32) => 1 ≤ i ∧ q.2 = hvP D k z w (i - 1) ∧ (∃ u, triC (setJ D k 4 u) q.1) ∧ fW (wTr D.2.1.1) σ q.1) (fun i q => mW G l d kX9_weightsOf 15 [(3, .int (nI i)), (2, .int q.2), (0, .ref 65), (1, .int (nI k))] [] q.1 _) ?_ ?_ 1 (s0, 0) (by decide) ⟨Nat.le_refl _, rfl, ⟨_, t0⟩, f0⟩
  · rintro ⟨s, b⟩ ⟨-, hb, -, f⟩
    show mW G l d kX9_weightsOf 15 [(3, .int (nI 10)), (2, .int b), (0, .ref 65), (1, .int (nI k))] [] s _
    refine m_iload_n dX9_weightsOf_15 0 rfl ?_
    refine m_bipush (v := 9) dX9_weightsOf_16 (by decide) ?_
    refine m_icmp_gt dX9_weightsOf_18 43 (by decide) (fun h => ?_) (fun h => ?_)
    · refine m_iload_n dX9_weightsOf_43 1 rfl ?_
      exact m_ireturn dX9_weightsOf_44 ⟨_, rfl, hb, f⟩
    · exact absurd (show (9 : Int32) < nI 10 by decide) h
  · rintro i ⟨s, b⟩ hi ⟨hi1, hb, ⟨u, ht⟩, f⟩ ih
    obtain ⟨j, rfl⟩ : ∃ j, i = j + 1 := ⟨i - 1, by omega⟩
    show mW G l d kX9_weightsOf 15 [(3, .int (nI (j + 1))), (2, .int b), (0, .ref 65), (1, .int (nI k))] [] s _
    have hb : b = hvP D k z w j := hb
    have ht : triC (setJ D k 4 u) s := ht
    have f : fW (wTr D.2.1.1) σ s := f
    have hs := h.tr f
    have t1 := tri_setJ (v := nI (j + 1)) ht
    refine m_iload_n dX9_weightsOf_15 0 rfl ?_
    refine m_bipush (v := 9) dX9_weightsOf_16 (by decide) ?_
    refine m_icmp_gt dX9_weightsOf_18 43 (by decide) (fun h => ?_) (fun h => ?_)
    · exact absurd ((nlt (a := 9) (by omega) (by omega)).mp h) (by omega)
    rename_i hz
    clear hz
    refine m_aload_n dX9_weightsOf_21 2 rfl ?_
    refine m_iload_n dX9_weightsOf_22 3 rfl ?_
    refine m_iconst (v := 4) dX9_weightsOf_23 (by decide) ?_
    refine m_iload_n dX9_weightsOf_24 0 rfl ?_
    refine m_callV (As := [_, _, _]) dX9_weightsOf_25 cv_X9_101 (by first | assumption | rfl) (by decide) (by omega) rfl rfl (Nat.le_of_ble_eq_true rfl) (c_agrees (d := d - 1) (by omega) D (setJ D k 4 (nI (j + 1))) hs (hs.1.setJ4 k _) rfl rfl k 4 (nI (j + 1)) hk (by decide) t1 z w (hw.tr f (fun y q h1 h2 => by omega))) (fun v1 σ1 hv1 => ?_)
    refine m_qIP hv1 (fun x1 hq => ?_)
    clear hv1 v1
    rename mS => s1
    obtain ⟨e1, o1, f1⟩ := hq
    subst e1
    have f2 : fW (wTr D.2.1.1) σ s1 := (fW.us (by omega) f).tr (f1.mono (fun y z h => by omega))
    have t2 : triC (setJ D k 4 (nI (j + 1))) s1 := t1.tr hn f1 (by omega) (fun y z h1 h2 => by omega)
    refine m_if_eq dX9_weightsOf_28 37 (by decide) (fun z1 => ?_) (fun z1 => ?_)
    · refine m_iinc (v := nI (j + 1 + 1)) (ls1 := [(3, _), (2, _), (0, _), (1, _)]) dX9_weightsOf_37 0 rfl (nI_1 (j + 1)) (by decide) rfl ?_
      refine m_goto dX9_weightsOf_40 15 (by decide) ?_
      refine ih (s1, b) ⟨by omega, ?_, ⟨_, t2⟩, f2⟩
      show b = hvP D k z w (j + 1)
      rw [hvP, bI_eq.mp z1, if_neg (by decide), Int32.or_zero]; exact hb
    · refine m_iload_n dX9_weightsOf_31 1 rfl ?_
      refine m_iconst (v := 1) dX9_weightsOf_32 (by decide) ?_
      refine m_iload_n dX9_weightsOf_33 0 rfl ?_
      refine m_ishl dX9_weightsOf_34 ?_
      refine m_ior dX9_weightsOf_35 ?_
      refine m_istore_n (ls1 := [(2, _), (3, _), (0, _), (1, _)]) dX9_weightsOf_36 (by decide) rfl ?_
      refine m_iinc (v := nI (j + 1 + 1)) (ls1 := [(3, _), (2, _), (0, _), (1, _)]) dX9_weightsOf_37 1 rfl (nI_1 (j + 1)) (by decide) rfl ?_
      refine m_goto dX9_weightsOf_40 15 (by decide) ?_
      refine ih (s1, _) ⟨by omega, ?_, ⟨_, t2⟩, f2⟩
      show b ||| _ = hvP D k z w (j + 1)
      rw [hvP, bI_ne.mp z1, if_pos rfl, ← hb]; rfl
end TT


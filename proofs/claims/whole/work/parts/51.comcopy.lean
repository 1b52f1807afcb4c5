/-! ===== the class: copy, read, write ===== -/
section CW
variable {G : mG} {l : Launch} {d : Nat} {σ : mS} {a : PA} {p : Prop}
theorem dX10_write_0 : decode cX10_write 0 = .ok (.aload_n 0, 1) := by decide +kernel
theorem dX10_write_1 : decode cX10_write 1 = .ok (.invokevirtual 97, 3) := by decide +kernel
theorem dX10_write_4 : decode cX10_write 4 = .ok (.iload_n 1, 1) := by decide +kernel
theorem dX10_write_5 : decode cX10_write 5 = .ok (.aload_n 0, 1) := by decide +kernel
theorem dX10_write_6 : decode cX10_write 6 = .ok (.getfield 22, 3) := by decide +kernel
theorem dX10_write_9 : decode cX10_write 9 = .ok (.getfield 104, 3) := by decide +kernel
theorem dX10_write_12 : decode cX10_write 12 = .ok (.invokestatic 81, 3) := by decide +kernel
theorem dX10_write_15 : decode cX10_write 15 = .ok (.ifCond .eq 11, 3) := by decide +kernel
theorem dX10_write_18 : decode cX10_write 18 = .ok (.iload_n 2, 1) := by decide +kernel
theorem dX10_write_19 : decode cX10_write 19 = .ok (.iconst 4, 1) := by decide +kernel
theorem dX10_write_20 : decode cX10_write 20 = .ok (.invokestatic 81, 3) := by decide +kernel
theorem dX10_write_23 : decode cX10_write 23 = .ok (.ifCond .ne 6, 3) := by decide +kernel
theorem dX10_write_26 : decode cX10_write 26 = .ok (.bipush (-2), 2) := by decide +kernel
theorem dX10_write_28 : decode cX10_write 28 = .ok (.ireturn, 1) := by decide +kernel
theorem dX10_write_29 : decode cX10_write 29 = .ok (.aload_n 0, 1) := by decide +kernel
theorem dX10_write_30 : decode cX10_write 30 = .ok (.getfield 50, 3) := by decide +kernel
theorem dX10_write_33 : decode cX10_write 33 = .ok (.iload_n 2, 1) := by decide +kernel
theorem dX10_write_34 : decode cX10_write 34 = .ok (.invokevirtual 123, 3) := by decide +kernel
theorem dX10_write_37 : decode cX10_write 37 = .ok (.ifCond .eq 12, 3) := by decide +kernel
theorem dX10_write_40 : decode cX10_write 40 = .ok (.aload_n 0, 1) := by decide +kernel
theorem dX10_write_41 : decode cX10_write 41 = .ok (.getfield 50, 3) := by decide +kernel
theorem dX10_write_44 : decode cX10_write 44 = .ok (.iconst 1, 1) := by decide +kernel
theorem dX10_write_45 : decode cX10_write 45 = .ok (.invokevirtual 127, 3) := by decide +kernel
theorem dX10_write_48 : decode cX10_write 48 = .ok (.ireturn, 1) := by decide +kernel
theorem dX10_write_49 : decode cX10_write 49 = .ok (.aload_n 0, 1) := by decide +kernel
theorem dX10_write_50 : decode cX10_write 50 = .ok (.getfield 50, 3) := by decide +kernel
theorem dX10_write_53 : decode cX10_write 53 = .ok (.getfield 134, 3) := by decide +kernel
theorem dX10_write_56 : decode cX10_write 56 = .ok (.iload_n 2, 1) := by decide +kernel
theorem dX10_write_57 : decode cX10_write 57 = .ok (.iaload, 1) := by decide +kernel
theorem dX10_write_58 : decode cX10_write 58 = .ok (.bipush 24, 2) := by decide +kernel
theorem dX10_write_60 : decode cX10_write 60 = .ok (.invokestatic 255, 3) := by decide +kernel
theorem dX10_write_63 : decode cX10_write 63 = .ok (.istore_n 3, 1) := by decide +kernel
theorem dX10_write_64 : decode cX10_write 64 = .ok (.iconst 0, 1) := by decide +kernel
theorem dX10_write_65 : decode cX10_write 65 = .ok (.istore 4, 2) := by decide +kernel
theorem dX10_write_67 : decode cX10_write 67 = .ok (.iload 4, 2) := by decide +kernel
theorem dX10_write_69 : decode cX10_write 69 = .ok (.iload_n 3, 1) := by decide +kernel
theorem dX10_write_70 : decode cX10_write 70 = .ok (.if_icmp .ge 32, 3) := by decide +kernel
theorem dX10_write_73 : decode cX10_write 73 = .ok (.aload_n 0, 1) := by decide +kernel
theorem dX10_write_74 : decode cX10_write 74 = .ok (.getfield 50, 3) := by decide +kernel
theorem dX10_write_77 : decode cX10_write 77 = .ok (.getfield 131, 3) := by decide +kernel
theorem dX10_write_80 : decode cX10_write 80 = .ok (.iload_n 2, 1) := by decide +kernel
theorem dX10_write_81 : decode cX10_write 81 = .ok (.aaload, 1) := by decide +kernel
theorem dX10_write_82 : decode cX10_write 82 = .ok (.iload 4, 2) := by decide +kernel
theorem dX10_write_84 : decode cX10_write 84 = .ok (.aload_n 0, 1) := by decide +kernel
theorem dX10_write_85 : decode cX10_write 85 = .ok (.getfield 57, 3) := by decide +kernel
theorem dX10_write_88 : decode cX10_write 88 = .ok (.iload 4, 2) := by decide +kernel
theorem dX10_write_90 : decode cX10_write 90 = .ok (.iload_n 1, 1) := by decide +kernel
theorem dX10_write_91 : decode cX10_write 91 = .ok (.iconst 3, 1) := by decide +kernel
theorem dX10_write_92 : decode cX10_write 92 = .ok (.invokevirtual 137, 3) := by decide +kernel
theorem dX10_write_95 : decode cX10_write 95 = .ok (.iastore, 1) := by decide +kernel
theorem dX10_write_96 : decode cX10_write 96 = .ok (.iinc 4 1, 3) := by decide +kernel
theorem dX10_write_99 : decode cX10_write 99 = .ok (.goto (-32), 3) := by decide +kernel
theorem dX10_write_102 : decode cX10_write 102 = .ok (.iload_n 3, 1) := by decide +kernel
theorem dX10_write_103 : decode cX10_write 103 = .ok (.ireturn, 1) := by decide +kernel
theorem k_copy (hd : 3 ≤ d) (th : Nat → Int32) (S : Nat → Nat) (hG : okG σ th S) (s i t j n : Int32) : mMet G l d kX10_copy [.ref 0, .int s, .int i, .int t, .int j, .int n] σ (qIP (fun r s1 => r = cyR th (σ.1 45) S s i t j n ∧ (¬ (wI s 4 ∧ wI t 4) → s1 = σ) ∧ ((wI s 4 ∧ wI t 4) → cyS th (σ.1 45) S s i t j n ≠ 0 → s1 = us σ 39 3 (cyS th (σ.1 45) S s i t j n)) ∧ ((wI s 4 ∧ wI t 4) → cyS th (σ.1 45) S s i t j n = 0 → (∀ k, k < cN n → s1.1 (41 + cN t) (cN j + k) = σ.1 (41 + cN s) (cN i + k)) ∧ fW (fun y z => y = 41 + cN t ∧ cN j ≤ z ∧ z < cN j + cN n) σ s1))) := by
  refine mMet.of cm_X10_copy rfl (Nat.le_of_ble_eq_true rfl) rfl (fun v1 σ1 h => by obtain ⟨r, h1, -⟩ := h; rw [h1]; rfl) ?_
  unfold cyR cyS
  refine m_iload_n dX10_copy_0 1 rfl ?_
  refine m_iconst (v := 4) dX10_copy_1 (by decide) ?_
  refine m_callS (As := [_, _]) dX10_copy_2 cs_X10_81 (by omega) rfl rfl (Nat.le_of_ble_eq_true rfl) (c_within (d := d - 1) s 4) (fun v1 σ1 hv1 => ?_)
  refine m_qI hv1 ?_
  clear hv1 v1 σ1
  refine m_if_eq dX10_copy_5 16 (by decide) (fun z1 => ?_) (fun z1 => ?_)
  · have g0 : ¬ (wI s 4 ∧ wI t 4) := fun q => bI0 z1 q.1
    refine m_bipush (v := -2) dX10_copy_16 (by decide) ?_
    exact m_ireturn dX10_copy_18 ⟨_, rfl, by rw [if_neg g0], fun _ => rfl, fun q => absurd q g0, fun q => absurd q g0⟩
  refine m_iload_n dX10_copy_8 3 rfl ?_
  refine m_iconst (v := 4) dX10_copy_9 (by decide) ?_
  refine m_callS (As := [_, _]) dX10_copy_10 cs_X10_81 (by omega) rfl rfl (Nat.le_of_ble_eq_true rfl) (c_within (d := d - 1) t 4) (fun v1 σ1 hv1 => ?_)
  refine m_qI hv1 ?_
  clear hv1 v1 σ1
  refine m_if_ne dX10_copy_13 19 (by decide) (fun z2 => ?_) (fun z2 => ?_)
  rotate_left
  · have g0 : ¬ (wI s 4 ∧ wI t 4) := fun q => bI0 z2 q.2
    refine m_bipush (v := -2) dX10_copy_16 (by decide) ?_
    exact m_ireturn dX10_copy_18 ⟨_, rfl, by rw [if_neg g0], fun _ => rfl, fun q => absurd q g0, fun q => absurd q g0⟩
  have w0 : wI s 4 := bI1 z1
  have w1 : wI t 4 := bI1 z2
  have gg : wI s 4 ∧ wI t 4 := ⟨w0, w1⟩
  rw [if_pos gg]
  clear z1 z2
  obtain ⟨u, hu, rfl⟩ := wI_of (by omega) w0
  obtain ⟨v, hv, rfl⟩ := wI_of (by omega) w1
  rw [clN (show u < 1000 by omega), clN (show v < 1000 by omega)]
  have fin : ∀ c : Int32, c ≠ 0 → cpF (th u) (th v) (σ.1 45 u) (σ.1 45 v) (S u) (S v) i j n = c → qIP (fun r s1 => r = (if cpF (th u) (th v) (σ.1 45 u) (σ.1 45 v) (S u) (S v) i j n = 0 then 1 else -10 - cpF (th u) (th v) (σ.1 45 u) (σ.1 45 v) (S u) (S v) i j n) ∧ (¬ (wI (nI u) 4 ∧ wI (nI v) 4) → s1 = σ) ∧ ((wI (nI u) 4 ∧ wI (nI v) 4) → cpF (th u) (th v) (σ.1 45 u) (σ.1 45 v) (S u) (S v) i j n ≠ 0 → s1 = us σ 39 3 (cpF (th u) (th v) (σ.1 45 u) (σ.1 45 v) (S u) (S v) i j n)) ∧ ((wI (nI u) 4 ∧ wI (nI v) 4) → cpF (th u) (th v) (σ.1 45 u) (σ.1 45 v) (S u) (S v) i j n = 0 → (∀ k, k < cN n → s1.1 (41 + v) (cN j + k) = σ.1 (41 + u) (cN i + k)) ∧ fW (fun y z => y = 41 + v ∧ cN j ≤ z ∧ z < cN j + cN n) σ s1)) (some (.int (-10 - c))) (us σ 39 3 c) := by
    intro c hc e
    rw [e]
    exact ⟨_, rfl, by rw [if_neg hc], fun q => absurd gg q, fun _ _ => rfl, fun _ q => absurd q hc⟩
  have k1 : (th u = 0 ∨ th v = 0) → cpF (th u) (th v) (σ.1 45 u) (σ.1 45 v) (S u) (S v) i j n = 1 := fun q => by unfold cpF; rw [if_pos q]
  have k4 : ¬ (th u = 0 ∨ th v = 0) → ¬ σ.1 45 u = σ.1 45 v → cpF (th u) (th v) (σ.1 45 u) (σ.1 45 v) (S u) (S v) i j n = 4 := fun q q1 => by unfold cpF; rw [if_neg q, if_neg q1]
  have k2 : ¬ (th u = 0 ∨ th v = 0) → σ.1 45 u = σ.1 45 v → ¬ (cpOK i n (S u) ∧ cpOK j n (S v)) → cpF (th u) (th v) (σ.1 45 u) (σ.1 45 v) (S u) (S v) i j n = 2 := fun q q1 q2 => by unfold cpF; rw [if_neg q, if_pos q1, if_neg q2]
  have k0 : ¬ (th u = 0 ∨ th v = 0) → σ.1 45 u = σ.1 45 v → (cpOK i n (S u) ∧ cpOK j n (S v)) → cpF (th u) (th v) (σ.1 45 u) (σ.1 45 v) (S u) (S v) i j n = 0 := fun q q1 q2 => by unfold cpF; rw [if_neg q, if_pos q1, if_pos q2]
  refine m_aload_n dX10_copy_19 0 rfl ?_
  refine m_getR 6 39 dX10_copy_20 fl_X10_50_9 rfl (by decide) rfl (by first | assumption | rfl) ?_
  refine m_iload_n dX10_copy_23 1 rfl ?_
  refine m_callV (As := [_]) dX10_copy_24 cv_X10_123 (by first | assumption | rfl) (by decide) (by omega) rfl rfl (Nat.le_of_ble_eq_true rfl) (c_isLost (d := d - 1) th S hG u hu) (fun v1 σ1 hv1 => ?_)
  refine m_qI hv1 ?_
  clear hv1 v1 σ1
  refine m_if_ne dX10_copy_27 41 (by decide) (fun z1 => ?_) (fun z1 => ?_)
  · refine m_aload_n dX10_copy_41 0 rfl ?_
    refine m_getR 6 39 dX10_copy_42 fl_X10_50_9 rfl (by decide) rfl (by first | assumption | rfl) ?_
    refine m_iconst (v := 1) dX10_copy_45 (by decide) ?_
    refine m_callV (As := [_]) dX10_copy_46 cv_X10_127 (by first | assumption | rfl) (by decide) (by omega) rfl rfl (Nat.le_of_ble_eq_true rfl) (c_found (d := d - 1) 1) (fun v1 σ1 hv1 => ?_)
    refine m_qI hv1 ?_
    clear hv1 v1 σ1
    exact m_ireturn dX10_copy_49 (fin 1 (by decide) (k1 (Or.inl (bI1 z1))))
  refine m_aload_n dX10_copy_30 0 rfl ?_
  refine m_getR 6 39 dX10_copy_31 fl_X10_50_9 rfl (by decide) rfl (by first | assumption | rfl) ?_
  refine m_iload_n dX10_copy_34 3 rfl ?_
  refine m_callV (As := [_]) dX10_copy_35 cv_X10_123 (by first | assumption | rfl) (by decide) (by omega) rfl rfl (Nat.le_of_ble_eq_true rfl) (c_isLost (d := d - 1) th S hG v hv) (fun v1 σ1 hv1 => ?_)
  refine m_qI hv1 ?_
  clear hv1 v1 σ1
  refine m_if_eq dX10_copy_38 50 (by decide) (fun z2 => ?_) (fun z2 => ?_)
  rotate_left
  · refine m_aload_n dX10_copy_41 0 rfl ?_
    refine m_getR 6 39 dX10_copy_42 fl_X10_50_9 rfl (by decide) rfl (by first | assumption | rfl) ?_
    refine m_iconst (v := 1) dX10_copy_45 (by decide) ?_
    refine m_callV (As := [_]) dX10_copy_46 cv_X10_127 (by first | assumption | rfl) (by decide) (by omega) rfl rfl (Nat.le_of_ble_eq_true rfl) (c_found (d := d - 1) 1) (fun v1 σ1 hv1 => ?_)
    refine m_qI hv1 ?_
    clear hv1 v1 σ1
    exact m_ireturn dX10_copy_49 (fin 1 (by decide) (k1 (Or.inr (bI1 z2))))
  have n1 : ¬ (th u = 0 ∨ th v = 0) := fun q => q.elim (bI0 z1) (bI0 z2)
  have nu : ¬ th u = 0 := bI0 z1
  have nv : ¬ th v = 0 := bI0 z2
  clear z1 z2
  refine m_aload_n dX10_copy_50 0 rfl ?_
  refine m_getR 6 39 dX10_copy_51 fl_X10_50_9 rfl (by decide) rfl (by first | assumption | rfl) ?_
  refine m_getR 1 45 dX10_copy_54 fl_X10_243_4 rfl (by decide) rfl (by first | assumption | rfl) ?_
  refine m_iload_n dX10_copy_57 1 rfl ?_
  refine m_iald dX10_copy_58 (by first | assumption | rfl) u rfl (by first | assumption | omega | decide) ?_
  refine m_aload_n dX10_copy_59 0 rfl ?_
  refine m_getR 6 39 dX10_copy_60 fl_X10_50_9 rfl (by decide) rfl (by first | assumption | rfl) ?_
  refine m_getR 1 45 dX10_copy_63 fl_X10_243_4 rfl (by decide) rfl (by first | assumption | rfl) ?_
  refine m_iload_n dX10_copy_66 3 rfl ?_
  refine m_iald dX10_copy_67 (by first | assumption | rfl) v rfl (by first | assumption | omega | decide) ?_
  refine m_icmp_eq dX10_copy_68 80 (by decide) (fun z1 => ?_) (fun z1 => ?_)
  rotate_left
  · refine m_aload_n dX10_copy_71 0 rfl ?_
    refine m_getR 6 39 dX10_copy_72 fl_X10_50_9 rfl (by decide) rfl (by first | assumption | rfl) ?_
    refine m_iconst (v := 4) dX10_copy_75 (by decide) ?_
    refine m_callV (As := [_]) dX10_copy_76 cv_X10_127 (by first | assumption | rfl) (by decide) (by omega) rfl rfl (Nat.le_of_ble_eq_true rfl) (c_found (d := d - 1) 4) (fun v1 σ1 hv1 => ?_)
    refine m_qI hv1 ?_
    clear hv1 v1 σ1
    exact m_ireturn dX10_copy_79 (fin 4 (by decide) (k4 n1 z1))
  refine m_aload_n dX10_copy_80 0 rfl ?_
  refine m_getR 6 39 dX10_copy_81 fl_X10_50_9 rfl (by decide) rfl (by first | assumption | rfl) ?_
  refine m_iload_n dX10_copy_84 1 rfl ?_
  refine m_iload_n dX10_copy_85 2 rfl ?_
  refine m_iload dX10_copy_86 5 rfl ?_
  refine m_callV (As := [_, _, _]) dX10_copy_88 cv_X10_246 (by first | assumption | rfl) (by decide) (by omega) rfl rfl (Nat.le_of_ble_eq_true rfl) (c_hasSpan (d := d - 1) th S hG u hu nu i n) (fun v1 σ1 hv1 => ?_)
  refine m_qI hv1 ?_
  clear hv1 v1 σ1
  refine m_if_eq dX10_copy_91 109 (by decide) (fun z2 => ?_) (fun z2 => ?_)
  · refine m_aload_n dX10_copy_109 0 rfl ?_
    refine m_getR 6 39 dX10_copy_110 fl_X10_50_9 rfl (by decide) rfl (by first | assumption | rfl) ?_
    refine m_iconst (v := 2) dX10_copy_113 (by decide) ?_
    refine m_callV (As := [_]) dX10_copy_114 cv_X10_127 (by first | assumption | rfl) (by decide) (by omega) rfl rfl (Nat.le_of_ble_eq_true rfl) (c_found (d := d - 1) 2) (fun v1 σ1 hv1 => ?_)
    refine m_qI hv1 ?_
    clear hv1 v1 σ1
    exact m_ireturn dX10_copy_117 (fin 2 (by decide) (k2 n1 z1 (fun q => bI0 z2 q.1)))
  refine m_aload_n dX10_copy_94 0 rfl ?_
  refine m_getR 6 39 dX10_copy_95 fl_X10_50_9 rfl (by decide) rfl (by first | assumption | rfl) ?_
  refine m_iload_n dX10_copy_98 3 rfl ?_
  refine m_iload dX10_copy_99 4 rfl ?_
  refine m_iload dX10_copy_101 5 rfl ?_
  refine m_callV (As := [_, _, _]) dX10_copy_103 cv_X10_246 (by first | assumption | rfl) (by decide) (by omega) rfl rfl (Nat.le_of_ble_eq_true rfl) (c_hasSpan (d := d - 1) th S hG v hv nv j n) (fun v1 σ1 hv1 => ?_)
  refine m_qI hv1 ?_
  clear hv1 v1 σ1
  refine m_if_ne dX10_copy_106 118 (by decide) (fun z3 => ?_) (fun z3 => ?_)
  rotate_left
  · refine m_aload_n dX10_copy_109 0 rfl ?_
    refine m_getR 6 39 dX10_copy_110 fl_X10_50_9 rfl (by decide) rfl (by first | assumption | rfl) ?_
    refine m_iconst (v := 2) dX10_copy_113 (by decide) ?_
    refine m_callV (As := [_]) dX10_copy_114 cv_X10_127 (by first | assumption | rfl) (by decide) (by omega) rfl rfl (Nat.le_of_ble_eq_true rfl) (c_found (d := d - 1) 2) (fun v1 σ1 hv1 => ?_)
    refine m_qI hv1 ?_
    clear hv1 v1 σ1
    exact m_ireturn dX10_copy_117 (fin 2 (by decide) (k2 n1 z1 (fun q => bI0 z3 q.2)))
  have p1 := bI1 z2
  have p2' := bI1 z3
  have hz := k0 n1 z1 ⟨p1, p2'⟩
  clear fin k0 k1 k2 k4 z2 z3
  obtain ⟨x, hx, rfl⟩ := nI_of (Int32.not_lt.mpr p1.1)
  obtain ⟨y, hy, rfl⟩ := nI_of (Int32.not_lt.mpr p2'.1)
  obtain ⟨m, hm, rfl⟩ := nI_of (Int32.not_lt.mpr p1.2.1)
  have cx : cN (nI x) = x := nI_clamp hx
  have cy : cN (nI y) = y := nI_clamp hy
  have cm : cN (nI m) = m := nI_clamp hm
  have b1 := p1.2.2
  have b2 := p2'.2.2
  rw [cx, cm] at b1
  rw [cy, cm] at b2
  have s1 := (hG u hu).2
  have s2 := (hG v hv).2
  have su := sh_row hu
  have sv := sh_row hv
  rw [hz, cx, cy, cm]
  refine m_aload_n dX10_copy_118 0 rfl ?_
  refine m_getR 6 39 dX10_copy_119 fl_X10_50_9 rfl (by decide) rfl (by first | assumption | rfl) ?_
  refine m_getR 0 40 dX10_copy_122 fl_X10_131_4 rfl (by decide) rfl (by first | assumption | rfl) ?_
  refine m_iload_n dX10_copy_125 1 rfl ?_
  refine m_aald dX10_copy_126 (by first | assumption | rfl) u rfl (by first | assumption | omega | decide) ?_
  refine m_iload_n dX10_copy_127 2 rfl ?_
  refine m_aload_n dX10_copy_128 0 rfl ?_
  refine m_getR 6 39 dX10_copy_129 fl_X10_50_9 rfl (by decide) rfl (by first | assumption | rfl) ?_
  refine m_getR 0 40 dX10_copy_132 fl_X10_131_4 rfl (by decide) rfl (by first | assumption | rfl) ?_
  refine m_iload_n dX10_copy_135 3 rfl ?_
  refine m_aald dX10_copy_136 (by first | assumption | rfl) v rfl (by first | assumption | omega | decide) ?_
  refine m_iload dX10_copy_137 4 rfl ?_
  refine m_iload dX10_copy_139 5 rfl ?_
  refine m_copy (x := 40 + 1 + u) (y := 40 + 1 + v) (sp := x) (dp := y) (n := m) dX10_copy_141 ac_X10_249 ac_nat ac_sta ac_ini su sv rfl rfl rfl (by omega) (by omega) (by omega) (Nat.le_of_ble_eq_true rfl) ?_
  refine m_iconst (v := 1) dX10_copy_144 (by decide) ?_
  refine m_ireturn dX10_copy_145 ⟨_, rfl, (if_pos rfl).symm, fun q => absurd gg q, fun _ q => absurd rfl q, fun _ _ => ⟨fun k hk => ?_, ⟨rfl, fun y1 z => ?_⟩⟩⟩
  · show (ur σ (41 + v) _).1 (41 + v) (y + k) = _
    rw [ur_eq, pk_cpy_in (by omega) (by omega), show x + (y + k - y) = x + k by omega]
  · show _ ∨ (ur σ (41 + v) _).1 y1 z = σ.1 y1 z
    by_cases e : y1 = 41 + v
    · subst e
      by_cases q : y ≤ z ∧ z < y + m
      · exact Or.inl ⟨rfl, q⟩
      · refine Or.inr ?_
        rw [ur_eq, pk_cpy_out (by omega)]
    · exact Or.inr (by rw [ur_ne e])
theorem k_read (hd : 3 ≤ d) (th : Nat → Int32) (S : Nat → Nat) (hG : okG σ th S) (e : Nat) (he : σ.1 30 3 = nI e) (he8 : e ≤ 8) (s : Int32) : mMet G l d kX10_read [.ref 0, .int s] σ (qIP (fun r s1 => r = (if wI s 4 then (if th (cN s) = 0 then -11 else nI (rdK (S (cN s)) e (σ.1 (41 + cN s)) 9 0)) else -2) ∧ (¬ wI s 4 → s1 = σ) ∧ (wI s 4 → th (cN s) = 0 → s1 = us σ 39 3 1) ∧ (wI s 4 → ¬ th (cN s) = 0 → s1.1 0 10 = 1 ∧ s1.1 30 3 = nI (e + rdK (S (cN s)) e (σ.1 (41 + cN s)) 9 0) ∧ (∀ i, i < rdK (S (cN s)) e (σ.1 (41 + cN s)) 9 0 → s1.1 31 (e + i) = σ.1 (41 + cN s) (3 * i) ∧ s1.1 32 (e + i) = σ.1 (41 + cN s) (3 * i + 1) ∧ s1.1 33 (e + i) = σ.1 (41 + cN s) (3 * i + 2)) ∧ fW (fun y z => (y = 0 ∧ z = 10) ∨ (y = 30 ∧ z = 3) ∨ (31 ≤ y ∧ y ≤ 33 ∧ e ≤ z)) σ s1))) := by
  refine mMet.of cm_X10_read rfl (Nat.le_of_ble_eq_true rfl) rfl (fun v1 σ1 h => by obtain ⟨r, h1, -⟩ := h; rw [h1]; rfl) ?_
  refine m_iload_n dX10_read_0 1 rfl ?_
  refine m_iconst (v := 4) dX10_read_1 (by decide) ?_
  refine m_callS (As := [_, _]) dX10_read_2 cs_X10_81 (by omega) rfl rfl (Nat.le_of_ble_eq_true rfl) (c_within (d := d - 1) s 4) (fun v1 σ1 hv1 => ?_)
  refine m_qI hv1 ?_
  clear hv1 v1 σ1
  refine m_if_ne dX10_read_5 11 (by decide) (fun z1 => ?_) (fun z1 => ?_)
  rotate_left
  · have g0 : ¬ wI s 4 := fun q => bI0 z1 q
    refine m_bipush (v := -2) dX10_read_8 (by decide) ?_
    exact m_ireturn dX10_read_10 ⟨_, rfl, by rw [if_neg g0], fun _ => rfl, fun q => absurd q g0, fun q => absurd q g0⟩
  have w0 : wI s 4 := bI1 z1
  clear z1
  obtain ⟨j, hj, rfl⟩ := wI_of (by omega) w0
  rw [clN (show j < 1000 by omega), if_pos w0]
  refine m_aload_n dX10_read_11 0 rfl ?_
  refine m_getR 6 39 dX10_read_12 fl_X10_50_9 rfl (by decide) rfl (by first | assumption | rfl) ?_
  refine m_iload_n dX10_read_15 1 rfl ?_
  refine m_callV (As := [_]) dX10_read_16 cv_X10_123 (by first | assumption | rfl) (by decide) (by omega) rfl rfl (Nat.le_of_ble_eq_true rfl) (c_isLost (d := d - 1) th S hG j hj) (fun v1 σ1 hv1 => ?_)
  refine m_qI hv1 ?_
  clear hv1 v1 σ1
  refine m_if_eq dX10_read_19 31 (by decide) (fun z1 => ?_) (fun z1 => ?_)
  rotate_left
  · have e0 := bI1 z1
    refine m_aload_n dX10_read_22 0 rfl ?_
    refine m_getR 6 39 dX10_read_23 fl_X10_50_9 rfl (by decide) rfl (by first | assumption | rfl) ?_
    refine m_iconst (v := 1) dX10_read_26 (by decide) ?_
    refine m_callV (As := [_]) dX10_read_27 cv_X10_127 (by first | assumption | rfl) (by decide) (by omega) rfl rfl (Nat.le_of_ble_eq_true rfl) (c_found (d := d - 1) 1) (fun v1 σ1 hv1 => ?_)
    refine m_qI hv1 ?_
    clear hv1 v1 σ1
    exact m_ireturn dX10_read_30 ⟨_, rfl, by rw [if_pos e0]; rfl, fun q => absurd w0 q, fun _ _ => rfl, fun _ q => absurd e0 q⟩
  have n1 := bI0 z1
  rw [if_neg n1]
  have hS60 := (hG j hj).2
  have hs := sh_row hj
  refine m_aload_n dX10_read_31 0 rfl ?_
  refine m_getR 6 39 dX10_read_32 fl_X10_50_9 rfl (by decide) rfl (by first | assumption | rfl) ?_
  refine m_getR 0 40 dX10_read_35 fl_X10_131_4 rfl (by decide) rfl (by first | assumption | rfl) ?_
  refine m_iload_n dX10_read_38 1 rfl ?_
  refine m_aald dX10_read_39 (by first | assumption | rfl) j rfl (by first | assumption | omega | decide) ?_
  refine m_astore_n (ls1 := [(2, _), (0, _), (1, _)]) dX10_read_40 (by decide) rfl ?_
  refine m_iconst (v := 0) dX10_read_41 (by decide) ?_
  refine m_istore_n (ls1 := [(3, _), (2, _), (0, _), (1, _)]) dX10_read_42 (by decide) rfl ?_
  refine m_iconst (v := 0) dX10_read_43 (by decide) ?_
  refine m_istore (ls1 := [(4, _), (3, _), (2, _), (0, _), (1, _)]) dX10_read_44 (by decide) rfl ?_
  generalize hit : σ.1 (41 + j) = it
  generalize hK : rdK (S j) e it 9 0 = K
  have key : ∀ f k (q : mS), 9 ≤ e + k + f → e + k ≤ 8 → rdK (S j) e it f k = K → q.1 30 3 = nI (e + k) → (∀ i, i < k → q.1 31 (e + i) = it (3 * i) ∧ q.1 32 (e + i) = it (3 * i + 1) ∧ q.1 33 (e + i) = it (3 * i + 2)) → fW (fun y z => (y = 0 ∧ z = 10) ∨ (y = 30 ∧ z = 3) ∨ (31 ≤ y ∧ y ≤ 33 ∧ e ≤ z)) σ q → mW G l d kX10_read 46 [(4, .int (nI (3 * k))), (3, .int (nI k)), (2, .ref (40 + 1 + j)), (0, .ref 0), (1, .int (nI j))] [] q (qIP (fun r s1 => r = nI K ∧ (¬ wI (nI j) 4 → s1 = σ) ∧ (wI (nI j) 4 → th j = 0 → s1 = us σ 39 3 1) ∧ (wI (nI j) 4 → ¬ th j = 0 → s1.1 0 10 = 1 ∧ s1.1 30 3 = nI (e + K) ∧ (∀ i, i < K → s1.1 31 (e + i) = it (3 * i) ∧ s1.1 32 (e + i) = it (3 * i + 1) ∧ s1.1 33 (e + i) = it (3 * i + 2)) ∧ fW (fun y z => (y = 0 ∧ z = 10) ∨ (y = 30 ∧ z = 3) ∨ (31 ≤ y ∧ y ≤ 33 ∧ e ≤ z)) σ s1))) := by
    intro f
    induction f with
    | zero => intro k q h1 h2; omega
    | succ f ih =>
      intro k q g1 g2 g3 g4 g5 g6
      have hsz : q.1 46 j = nI (S j) := (g6.at (by omega)).trans (hG.len hj n1)
      have itq : ∀ i, q.1 (40 + 1 + j) i = it i := fun i => by rw [← hit]; exact g6.at (by omega)
      have done : k = K → mW G l d kX10_read 131 [(4, .int (nI (3 * k))), (3, .int (nI k)), (2, .ref (40 + 1 + j)), (0, .ref 0), (1, .int (nI j))] [] q (qIP (fun r s1 => r = nI K ∧ (¬ wI (nI j) 4 → s1 = σ) ∧ (wI (nI j) 4 → th j = 0 → s1 = us σ 39 3 1) ∧ (wI (nI j) 4 → ¬ th j = 0 → s1.1 0 10 = 1 ∧ s1.1 30 3 = nI (e + K) ∧ (∀ i, i < K → s1.1 31 (e + i) = it (3 * i) ∧ s1.1 32 (e + i) = it (3 * i + 1) ∧ s1.1 33 (e + i) = it (3 * i + 2)) ∧ fW (fun y z => (y = 0 ∧ z = 10) ∨ (y = 30 ∧ z = 3) ∨ (31 ≤ y ∧ y ≤ 33 ∧ e ≤ z)) σ s1))) := by
        intro hk
        subst hk
        refine m_aload_n dX10_read_131 3 rfl ?_
        refine m_iconst (v := 1) dX10_read_132 (by decide) ?_
        refine m_putI 10 dX10_read_133 fw_X10_77_9 rfl (by decide) rfl rfl (by first | assumption | rfl) ?_
        refine m_iload_n dX10_read_136 1 rfl ?_
        have un : ∀ y z, ¬ (y = 0 ∧ z = 10) → (us q 0 10 1).1 y z = q.1 y z := fun y z h => by rw [us_at, if_neg h]
        refine m_ireturn dX10_read_137 ⟨_, rfl, rfl, fun q => absurd w0 q, fun _ q => absurd q n1, fun _ _ => ⟨by rw [us_at, if_pos ⟨rfl, rfl⟩], by rw [un _ _ (by omega)]; exact g4, fun i hi => ?_, fW.us (by omega) g6⟩⟩
        rw [un _ _ (by omega), un _ _ (by omega), un _ _ (by omega)]
        exact g5 i hi
      rw [rdK] at g3
      refine m_iload dX10_read_46 0 rfl ?_
      refine m_iconst (v := 3) dX10_read_48 (by decide) ?_
      refine m_iadd dX10_read_49 ?_
      refine mW.top (w := nI (3 * k + 3)) (nadd rfl) ?_
      refine m_aload_n dX10_read_50 3 rfl ?_
      refine m_getR 6 39 dX10_read_51 fl_X10_50_9 rfl (by decide) rfl (by first | assumption | rfl) ?_
      refine m_getR 2 46 dX10_read_54 fl_X10_134_4 rfl (by decide) rfl (by first | assumption | rfl) ?_
      refine m_iload_n dX10_read_57 4 rfl ?_
      refine m_iald dX10_read_58 (by first | assumption | rfl) j rfl (by first | assumption | omega | decide) ?_
      refine mW.top hsz ?_
      refine m_icmp_gt dX10_read_59 131 (by decide) (fun z1 => ?_) (fun z1 => ?_)
      · have z2 := (nlt (by omega) (by omega)).mp z1
        rw [if_neg (fun z => by omega)] at g3
        exact done g3
      have z2 : 3 * k + 3 ≤ S j := Nat.le_of_not_lt (fun z => z1 ((nlt (by omega) (by omega)).mpr z))
      clear z1
      refine m_aload_n dX10_read_62 3 rfl ?_
      refine m_getR 4 30 dX10_read_63 fl_X10_36_9 rfl (by decide) rfl (by first | assumption | rfl) ?_
      refine m_getI 3 dX10_read_66 fl_X10_119_1 rfl (by decide) (by first | assumption | rfl) ?_
      refine mW.top g4 ?_
      refine m_bipush (v := 8) dX10_read_69 (by decide) ?_
      refine m_icmp_ge dX10_read_71 131 (by decide) (fun z1 => ?_) (fun z1 => ?_)
      · have z3 := (nle (a := 8) (by omega) (by omega)).mp z1
        rw [if_neg (fun z => by omega)] at g3
        exact done g3
      have z3 : e + k < 8 := Nat.lt_of_not_le (fun z => z1 ((nle (a := 8) (by omega) (by omega)).mpr z))
      clear z1
      refine m_aload_n dX10_read_74 2 rfl ?_
      refine m_iload dX10_read_75 0 rfl ?_
      refine m_iald dX10_read_77 (by first | assumption | rfl) (3 * k) rfl (by first | assumption | omega | decide) ?_
      refine mW.top (itq (3 * k)) ?_
      refine m_aload_n dX10_read_78 2 rfl ?_
      refine m_iload dX10_read_79 0 rfl ?_
      refine m_iconst (v := 1) dX10_read_81 (by decide) ?_
      refine m_iadd dX10_read_82 ?_
      refine mW.top (w := nI (3 * k + 1)) (nadd rfl) ?_
      refine m_iald dX10_read_83 (by first | assumption | rfl) (3 * k + 1) rfl (by first | assumption | omega | decide) ?_
      refine mW.top (itq (3 * k + 1)) ?_
      refine m_aload_n dX10_read_84 2 rfl ?_
      refine m_iload dX10_read_85 0 rfl ?_
      refine m_iconst (v := 2) dX10_read_87 (by decide) ?_
      refine m_iadd dX10_read_88 ?_
      refine mW.top (w := nI (3 * k + 2)) (nadd rfl) ?_
      refine m_iald dX10_read_89 (by first | assumption | rfl) (3 * k + 2) rfl (by first | assumption | omega | decide) ?_
      refine mW.top (itq (3 * k + 2)) ?_
      refine m_callS (As := [_, _, _]) dX10_read_90 cs_X10_115 (by omega) rfl rfl (Nat.le_of_ble_eq_true rfl) (c_fits (d := d - 1) (by omega) (it (3 * k)) (it (3 * k + 1)) (it (3 * k + 2))) (fun v1 σ1 hv1 => ?_)
      refine m_qI hv1 ?_
      clear hv1 v1 σ1
      refine m_if_ne dX10_read_93 99 (by decide) (fun z1 => ?_) (fun z1 => ?_)
      rotate_left
      · refine m_goto dX10_read_96 131 (by decide) ?_
        rw [if_neg (fun z => bI0 z1 z.2.1)] at g3
        exact done g3
      have z4 := bI1 z1
      rw [if_pos ⟨by omega, z4, z3⟩] at g3
      refine m_aload_n dX10_read_99 3 rfl ?_
      refine m_getR 4 30 dX10_read_100 fl_X10_36_9 rfl (by decide) rfl (by first | assumption | rfl) ?_
      refine m_aload_n dX10_read_103 2 rfl ?_
      refine m_iload dX10_read_104 0 rfl ?_
      refine m_iald dX10_read_106 (by first | assumption | rfl) (3 * k) rfl (by first | assumption | omega | decide) ?_
      refine mW.top (itq (3 * k)) ?_
      refine m_aload_n dX10_read_107 2 rfl ?_
      refine m_iload dX10_read_108 0 rfl ?_
      refine m_iconst (v := 1) dX10_read_110 (by decide) ?_
      refine m_iadd dX10_read_111 ?_
      refine mW.top (w := nI (3 * k + 1)) (nadd rfl) ?_
      refine m_iald dX10_read_112 (by first | assumption | rfl) (3 * k + 1) rfl (by first | assumption | omega | decide) ?_
      refine mW.top (itq (3 * k + 1)) ?_
      refine m_aload_n dX10_read_113 2 rfl ?_
      refine m_iload dX10_read_114 0 rfl ?_
      refine m_iconst (v := 2) dX10_read_116 (by decide) ?_
      refine m_iadd dX10_read_117 ?_
      refine mW.top (w := nI (3 * k + 2)) (nadd rfl) ?_
      refine m_iald dX10_read_118 (by first | assumption | rfl) (3 * k + 2) rfl (by first | assumption | omega | decide) ?_
      refine mW.top (itq (3 * k + 2)) ?_
      refine m_callV (As := [_, _, _]) dX10_read_119 cv_X10_120 (by first | assumption | rfl) (by decide) (by omega) rfl rfl (Nat.le_of_ble_eq_true rfl) (c_evAppend (d := d - 1) (Or.inl rfl) (e + k) z3 g4 (it (3 * k)) (it (3 * k + 1)) (it (3 * k + 2))) (fun v1 σ1 hv1 => ?_)
      refine m_qV hv1 ?_
      clear hv1 v1 σ1
      refine m_iinc (v := nI (k + 1)) (ls1 := [(3, _), (4, _), (2, _), (0, _), (1, _)]) dX10_read_122 1 rfl (nI_1 k) (by decide) rfl ?_
      refine m_iinc (v := nI (3 * (k + 1))) (ls1 := [(4, _), (3, _), (2, _), (0, _), (1, _)]) dX10_read_125 1 rfl (nadd (b := 3) rfl) (by decide) rfl ?_
      refine m_goto dX10_read_128 46 (by decide) ?_
      refine mW.sub (ls1 := [(4, _), (3, _), (2, _), (0, _), (1, _)]) [0, 1, 2, 3, 4] rfl ?_
      refine ih (k + 1) _ (by omega) (by omega) g3 ?_ (fun i hi => ?_) (fW.us (by omega) (fW.us (by omega) (fW.us (by omega) (fW.us (by omega) g6))))
      · rw [us_at, if_pos ⟨rfl, rfl⟩]; rfl
      · rcases Nat.lt_succ_iff_lt_or_eq.mp hi with h | rfl
        · have hg := g5 i h
          have en : ¬ i = k := by omega
          simp [us_at, en]
          exact hg
        · simp [us_at]
  exact key 9 0 σ (by omega) (by omega) hK he (fun i hi => absurd hi (Nat.not_lt_zero _)) fW.rf
theorem k_write (hd : 8 ≤ d) (A : cA p a σ) (th : Nat → Int32) (S : Nat → Nat) (hG : okG σ th S) (k s : Int32) : mMet G l d kX10_write [.ref 0, .int k, .int s] σ (qIP (fun r s1 => r = wrR (aD a).1.1 th S k s ∧ (¬ (wI k (aD a).1.1 ∧ wI s 4) → cA p a s1 ∧ fW wQ σ s1) ∧ ((wI k (aD a).1.1 ∧ wI s 4) → th (cN s) = 0 → ∃ s2, cA p a s2 ∧ fW wQ σ s2 ∧ s1 = us s2 39 3 1) ∧ ((wI k (aD a).1.1 ∧ wI s 4) → ¬ th (cN s) = 0 → cA p a s1 ∧ (∀ i, i < min (S (cN s)) 24 → s1.1 (41 + cN s) i = (RSt (aD a) (i + 1)).2.2.2.1 (cN k)) ∧ fW (fun y z => wQ y z ∨ (y = 41 + cN s ∧ z < min (S (cN s)) 24)) σ s1))) := by
  refine mMet.of cm_X10_write rfl (Nat.le_of_ble_eq_true rfl) rfl (fun v1 σ1 h => by obtain ⟨r, h1, -⟩ := h; rw [h1]; rfl) ?_
  refine m_aload_n dX10_write_0 0 rfl ?_
  refine m_callV (As := []) dX10_write_1 cv_X10_97 (by first | assumption | rfl) (by decide) (by omega) rfl rfl (Nat.le_of_ble_eq_true rfl) (c_settle (d := d - 1) (by omega) A) (fun v1 σ1 hv1 => ?_)
  refine m_qVP hv1 (fun hq => ?_)
  clear hv1 v1
  rename mS => s1
  obtain ⟨B, T, f⟩ := hq
  have A1 : cA p a s1 := ⟨B, Or.inr T⟩
  have hn := T.n8
  have G1 : okG s1 th S := fun j hj => ⟨(f.at (by omega)).trans (hG j hj).1, (hG j hj).2⟩
  refine m_iload_n dX10_write_4 1 rfl ?_
  refine m_aload_n dX10_write_5 0 rfl ?_
  refine m_getR 2 5 dX10_write_6 fl_X10_22_9 rfl (by decide) rfl (by first | assumption | rfl) ?_
  refine m_getI 3 dX10_write_9 fl_X10_104_0 rfl (by decide) (by first | assumption | rfl) ?_
  refine mW.top T.n ?_
  refine m_callS (As := [_, _]) dX10_write_12 cs_X10_81 (by omega) rfl rfl (Nat.le_of_ble_eq_true rfl) (c_within (d := d - 1) k (nI (aD a).1.1)) (fun v1 σ1 hv1 => ?_)
  refine m_qI hv1 ?_
  clear hv1 v1 σ1
  refine m_if_eq dX10_write_15 26 (by decide) (fun z1 => ?_) (fun z1 => ?_)
  · have g0 : ¬ (wI k (aD a).1.1 ∧ wI s 4) := fun q => bI0 z1 q.1
    refine m_bipush (v := -2) dX10_write_26 (by decide) ?_
    exact m_ireturn dX10_write_28 ⟨_, rfl, (if_neg g0).symm, fun _ => ⟨A1, f⟩, fun q => absurd q g0, fun q => absurd q g0⟩
  refine m_iload_n dX10_write_18 2 rfl ?_
  refine m_iconst (v := 4) dX10_write_19 (by decide) ?_
  refine m_callS (As := [_, _]) dX10_write_20 cs_X10_81 (by omega) rfl rfl (Nat.le_of_ble_eq_true rfl) (c_within (d := d - 1) s 4) (fun v1 σ1 hv1 => ?_)
  refine m_qI hv1 ?_
  clear hv1 v1 σ1
  refine m_if_ne dX10_write_23 29 (by decide) (fun z2 => ?_) (fun z2 => ?_)
  rotate_left
  · have g0 : ¬ (wI k (aD a).1.1 ∧ wI s 4) := fun q => bI0 z2 q.2
    refine m_bipush (v := -2) dX10_write_26 (by decide) ?_
    exact m_ireturn dX10_write_28 ⟨_, rfl, (if_neg g0).symm, fun _ => ⟨A1, f⟩, fun q => absurd q g0, fun q => absurd q g0⟩
  have w1 : wI k (aD a).1.1 := bI1 z1
  have w2 : wI s 4 := bI1 z2
  have gg : wI k (aD a).1.1 ∧ wI s 4 := ⟨w1, w2⟩
  clear z1 z2
  obtain ⟨c, hc, rfl⟩ := wI_of (by omega) w1
  obtain ⟨j, hj, rfl⟩ := wI_of (by decide) w2
  unfold wrR
  rw [if_pos gg, clN (show c < 1000 by omega), clN (show j < 1000 by omega)]
  refine m_aload_n dX10_write_29 0 rfl ?_
  refine m_getR 6 39 dX10_write_30 fl_X10_50_9 rfl (by decide) rfl (by first | assumption | rfl) ?_
  refine m_iload_n dX10_write_33 2 rfl ?_
  refine m_callV (As := [_]) dX10_write_34 cv_X10_123 (by first | assumption | rfl) (by decide) (by omega) rfl rfl (Nat.le_of_ble_eq_true rfl) (c_isLost (d := d - 1) th S G1 j hj) (fun v1 σ1 hv1 => ?_)
  refine m_qI hv1 ?_
  clear hv1 v1 σ1
  refine m_if_eq dX10_write_37 49 (by decide) (fun z1 => ?_) (fun z1 => ?_)
  rotate_left
  · have e0 := bI1 z1
    refine m_aload_n dX10_write_40 0 rfl ?_
    refine m_getR 6 39 dX10_write_41 fl_X10_50_9 rfl (by decide) rfl (by first | assumption | rfl) ?_
    refine m_iconst (v := 1) dX10_write_44 (by decide) ?_
    refine m_callV (As := [_]) dX10_write_45 cv_X10_127 (by first | assumption | rfl) (by decide) (by omega) rfl rfl (Nat.le_of_ble_eq_true rfl) (c_found (d := d - 1) 1) (fun v1 σ1 hv1 => ?_)
    refine m_qI hv1 ?_
    clear hv1 v1 σ1
    exact m_ireturn dX10_write_48 ⟨_, rfl, by rw [if_pos e0]; rfl, fun q => absurd gg q, fun _ _ => ⟨s1, A1, f, rfl⟩, fun _ q => absurd e0 q⟩
  have n1 := bI0 z1
  rw [if_neg n1]
  have hS60 := (hG j hj).2
  have hs := sh_row hj
  have hmin : (if (24 : Int32) < nI (S j) then (24 : Int32) else nI (S j)) = nI (min (S j) 24) := by
    by_cases q : 24 < S j
    · have q2 : (24 : Int32) < nI (S j) := (nlt (a := 24) (by omega) (by omega)).mpr q
      rw [if_pos q2, Nat.min_eq_right (by omega)]; rfl
    · have q2 : ¬ (24 : Int32) < nI (S j) := fun z => q ((nlt (a := 24) (by omega) (by omega)).mp z)
      rw [if_neg q2, Nat.min_eq_left (by omega)]
  refine m_aload_n dX10_write_49 0 rfl ?_
  refine m_getR 6 39 dX10_write_50 fl_X10_50_9 rfl (by decide) rfl (by first | assumption | rfl) ?_
  refine m_getR 2 46 dX10_write_53 fl_X10_134_4 rfl (by decide) rfl (by first | assumption | rfl) ?_
  refine m_iload_n dX10_write_56 2 rfl ?_
  refine m_iald dX10_write_57 (by first | assumption | rfl) j rfl (by first | assumption | omega | decide) ?_
  refine mW.top (G1.len hj n1) ?_
  refine m_bipush (v := 24) dX10_write_58 (by decide) ?_
  refine m_mmin dX10_write_60 cs_X10_255 ml_X10_255 (by omega) (Nat.le_of_ble_eq_true rfl) ?_
  refine mW.top (w := nI (min (S j) 24)) hmin ?_
  refine m_istore_n (ls1 := [(3, _), (0, _), (1, _), (2, _)]) dX10_write_63 (by decide) rfl ?_
  refine m_iconst (v := 0) dX10_write_64 (by decide) ?_
  refine m_istore (ls1 := [(4, _), (3, _), (0, _), (1, _), (2, _)]) dX10_write_65 (by decide) rfl ?_
  have hM24 : min (S j) 24 ≤ 24 := Nat.min_le_right _ _
  have hM60 : min (S j) 24 ≤ 60 := by omega
  generalize min (S j) 24 = M at *
  refine down (N := M) (fun t (q : mS) => (∀ i, i < t → q.1 (41 + j) i = (RSt (aD a) (i + 1)).2.2.2.1 c) ∧ fW (fun y z => y = 41 + j ∧ z < M) s1 q) (fun t q => mW G l d kX10_write 67 [(4, .int (nI t)), (3, .int (nI M)), (0, .ref 0), (1, .int (nI c)), (2, .int (nI j))] [] q _) ?_ ?_ 0 s1 (Nat.zero_le _) ⟨fun i hi => absurd hi (Nat.not_lt_zero _), fW.rf⟩
  · rintro q ⟨b1, b2⟩
    refine m_iload dX10_write_67 0 rfl ?_
    refine m_iload_n dX10_write_69 1 rfl ?_
    refine m_icmp_ge dX10_write_70 102 (by decide) (fun z2 => ?_) (fun z2 => ?_)
    rotate_left
    · exact absurd (Int32.le_refl _) z2
    refine m_iload_n dX10_write_102 1 rfl ?_
    exact m_ireturn dX10_write_103 ⟨_, rfl, rfl, fun q => absurd gg q, fun _ q => absurd q n1, fun _ _ => ⟨⟨B.trW b2 (fun y z h => by omega), Or.inr (T.trW b2 (fun y z h => by have := T.s12; omega))⟩, b1, (f.mono (fun y z h => Or.inl h)).tr (b2.mono (fun y z h => Or.inr h))⟩⟩
  · rintro t q ht ⟨b1, b2⟩ ih
    have T2 : setA a q := T.trW b2 (fun y z h => by have := T.s12; omega)
    refine m_iload dX10_write_67 0 rfl ?_
    refine m_iload_n dX10_write_69 1 rfl ?_
    refine m_icmp_ge dX10_write_70 102 (by decide) (fun z2 => ?_) (fun z2 => ?_)
    · exact absurd ((nle (by omega) (by omega)).mp z2) (by omega)
    clear z2
    refine m_aload_n dX10_write_73 2 rfl ?_
    refine m_getR 6 39 dX10_write_74 fl_X10_50_9 rfl (by decide) rfl (by first | assumption | rfl) ?_
    refine m_getR 0 40 dX10_write_77 fl_X10_131_4 rfl (by decide) rfl (by first | assumption | rfl) ?_
    refine m_iload_n dX10_write_80 4 rfl ?_
    refine m_aald dX10_write_81 (by first | assumption | rfl) j rfl (by first | assumption | omega | decide) ?_
    refine m_iload dX10_write_82 0 rfl ?_
    refine m_aload_n dX10_write_84 2 rfl ?_
    refine m_getR 7 47 dX10_write_85 fl_X10_57_9 rfl (by decide) rfl (by first | assumption | rfl) ?_
    refine m_iload dX10_write_88 0 rfl ?_
    refine m_iload_n dX10_write_90 3 rfl ?_
    refine m_iconst (v := 3) dX10_write_91 (by decide) ?_
    refine m_callV (As := [_, _, _]) dX10_write_92 cv_X10_137 (by first | assumption | rfl) (by decide) (by omega) rfl rfl (Nat.le_of_ble_eq_true rfl) (c_behindD (d := d - 1) (Or.inl rfl) (aD a) hn T2.out t c 3 (by omega) hc (by decide)) (fun v1 σ1 hv1 => ?_)
    refine m_qI hv1 ?_
    clear hv1 v1 σ1
    refine m_iast dX10_write_95 (by first | assumption | rfl) t rfl (by omega) ?_
    refine m_iinc (v := nI (t + 1)) (ls1 := [(4, _), (3, _), (0, _), (1, _), (2, _)]) dX10_write_96 0 rfl (nI_1 t) (by decide) rfl ?_
    refine m_goto dX10_write_99 67 (by decide) ?_
    refine ih _ ⟨fun i hi => ?_, fW.us (by omega) b2⟩
    show (us q (41 + j) t _).1 (41 + j) i = _
    rw [us_at]
    rcases Nat.lt_succ_iff_lt_or_eq.mp hi with h | rfl
    · rw [if_neg (by omega)]; exact b1 i h
    · rw [if_pos ⟨rfl, rfl⟩]; rfl
end CW


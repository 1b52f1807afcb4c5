/-! ===== the reference's runs ===== -/
section RU
variable {G : mG} {l : Launch} {d : Nat} {σ : mS}
/-- the reference's rows hold what came of the debate D -/
def outR (D : Deb) (s : mS) : Prop :=
  (∀ t, t < 24 → s.1 140 t = rungD D (nI t) ∧ s.1 139 t = (RSt D (t + 1)).2.2.2.2.2.2.1 ∧ s.1 141 t = (RSt D (t + 1)).2.2.2.2.2.2.2.2.2.2 ∧ ∀ k, k < D.1.1 → s.1 134 (8 * t + k) = (RSt D (t + 1)).1 k ∧ s.1 135 (8 * t + k) = (RSt D (t + 1)).2.1 k ∧ s.1 136 (8 * t + k) = (RSt D (t + 1)).2.2.1 k ∧ s.1 137 (8 * t + k) = (RSt D (t + 1)).2.2.2.1 k ∧ s.1 138 (8 * t + k) = (RSt D (t + 1)).2.2.2.2.1 k) ∧
  Req D.1.1 (gR s 23) (RSt D 24)
/-- what a run may change -/
abbrev wRun : Nat → Nat → Prop := fun y z => (128 ≤ y ∧ y ≤ 141) ∨ (y = 111 ∧ 28 ≤ z ∧ z ≤ 31)
theorem dX11_runs_0 : decode cX11_runs 0 = .ok (.iconst 0, 1) := by decide +kernel
theorem dX11_runs_1 : decode cX11_runs 1 = .ok (.istore_n 1, 1) := by decide +kernel
theorem dX11_runs_2 : decode cX11_runs 2 = .ok (.iload_n 1, 1) := by decide +kernel
theorem dX11_runs_3 : decode cX11_runs 3 = .ok (.aload_n 0, 1) := by decide +kernel
theorem dX11_runs_4 : decode cX11_runs 4 = .ok (.getfield 161, 3) := by decide +kernel
theorem dX11_runs_7 : decode cX11_runs 7 = .ok (.if_icmp .ge 66, 3) := by decide +kernel
theorem dX11_runs_10 : decode cX11_runs 10 = .ok (.aload_n 0, 1) := by decide +kernel
theorem dX11_runs_11 : decode cX11_runs 11 = .ok (.getfield 58, 3) := by decide +kernel
theorem dX11_runs_14 : decode cX11_runs 14 = .ok (.iload_n 1, 1) := by decide +kernel
theorem dX11_runs_15 : decode cX11_runs 15 = .ok (.aload_n 0, 1) := by decide +kernel
theorem dX11_runs_16 : decode cX11_runs 16 = .ok (.getfield 19, 3) := by decide +kernel
theorem dX11_runs_19 : decode cX11_runs 19 = .ok (.iload_n 1, 1) := by decide +kernel
theorem dX11_runs_20 : decode cX11_runs 20 = .ok (.iaload, 1) := by decide +kernel
theorem dX11_runs_21 : decode cX11_runs 21 = .ok (.iastore, 1) := by decide +kernel
theorem dX11_runs_22 : decode cX11_runs 22 = .ok (.aload_n 0, 1) := by decide +kernel
theorem dX11_runs_23 : decode cX11_runs 23 = .ok (.getfield 61, 3) := by decide +kernel
theorem dX11_runs_26 : decode cX11_runs 26 = .ok (.iload_n 1, 1) := by decide +kernel
theorem dX11_runs_27 : decode cX11_runs 27 = .ok (.aload_n 0, 1) := by decide +kernel
theorem dX11_runs_28 : decode cX11_runs 28 = .ok (.getfield 22, 3) := by decide +kernel
theorem dX11_runs_31 : decode cX11_runs 31 = .ok (.iload_n 1, 1) := by decide +kernel
theorem dX11_runs_32 : decode cX11_runs 32 = .ok (.iaload, 1) := by decide +kernel
theorem dX11_runs_33 : decode cX11_runs 33 = .ok (.iastore, 1) := by decide +kernel
theorem dX11_runs_34 : decode cX11_runs 34 = .ok (.aload_n 0, 1) := by decide +kernel
theorem dX11_runs_35 : decode cX11_runs 35 = .ok (.getfield 64, 3) := by decide +kernel
theorem dX11_runs_38 : decode cX11_runs 38 = .ok (.iload_n 1, 1) := by decide +kernel
theorem dX11_runs_39 : decode cX11_runs 39 = .ok (.aload_n 0, 1) := by decide +kernel
theorem dX11_runs_40 : decode cX11_runs 40 = .ok (.getfield 25, 3) := by decide +kernel
theorem dX11_runs_43 : decode cX11_runs 43 = .ok (.iload_n 1, 1) := by decide +kernel
theorem dX11_runs_44 : decode cX11_runs 44 = .ok (.iaload, 1) := by decide +kernel
theorem dX11_runs_45 : decode cX11_runs 45 = .ok (.iastore, 1) := by decide +kernel
theorem dX11_runs_46 : decode cX11_runs 46 = .ok (.aload_n 0, 1) := by decide +kernel
theorem dX11_runs_47 : decode cX11_runs 47 = .ok (.getfield 67, 3) := by decide +kernel
theorem dX11_runs_50 : decode cX11_runs 50 = .ok (.iload_n 1, 1) := by decide +kernel
theorem dX11_runs_51 : decode cX11_runs 51 = .ok (.iconst 0, 1) := by decide +kernel
theorem dX11_runs_52 : decode cX11_runs 52 = .ok (.iastore, 1) := by decide +kernel
theorem dX11_runs_53 : decode cX11_runs 53 = .ok (.aload_n 0, 1) := by decide +kernel
theorem dX11_runs_54 : decode cX11_runs 54 = .ok (.getfield 70, 3) := by decide +kernel
theorem dX11_runs_57 : decode cX11_runs 57 = .ok (.iload_n 1, 1) := by decide +kernel
theorem dX11_runs_58 : decode cX11_runs 58 = .ok (.iconst 0, 1) := by decide +kernel
theorem dX11_runs_59 : decode cX11_runs 59 = .ok (.iastore, 1) := by decide +kernel
theorem dX11_runs_60 : decode cX11_runs 60 = .ok (.aload_n 0, 1) := by decide +kernel
theorem dX11_runs_61 : decode cX11_runs 61 = .ok (.getfield 73, 3) := by decide +kernel
theorem dX11_runs_64 : decode cX11_runs 64 = .ok (.iload_n 1, 1) := by decide +kernel
theorem dX11_runs_65 : decode cX11_runs 65 = .ok (.iconst 0, 1) := by decide +kernel
theorem dX11_runs_66 : decode cX11_runs 66 = .ok (.iastore, 1) := by decide +kernel
theorem dX11_runs_67 : decode cX11_runs 67 = .ok (.iinc 1 1, 3) := by decide +kernel
theorem dX11_runs_70 : decode cX11_runs 70 = .ok (.goto (-68), 3) := by decide +kernel
theorem dX11_runs_73 : decode cX11_runs 73 = .ok (.aload_n 0, 1) := by decide +kernel
theorem dX11_runs_74 : decode cX11_runs 74 = .ok (.iconst 0, 1) := by decide +kernel
theorem dX11_runs_75 : decode cX11_runs 75 = .ok (.putfield 256, 3) := by decide +kernel
theorem dX11_runs_78 : decode cX11_runs 78 = .ok (.aload_n 0, 1) := by decide +kernel
theorem dX11_runs_79 : decode cX11_runs 79 = .ok (.iconst 0, 1) := by decide +kernel
theorem dX11_runs_80 : decode cX11_runs 80 = .ok (.putfield 226, 3) := by decide +kernel
theorem dX11_runs_83 : decode cX11_runs 83 = .ok (.aload_n 0, 1) := by decide +kernel
theorem dX11_runs_84 : decode cX11_runs 84 = .ok (.iconst (-1), 1) := by decide +kernel
theorem dX11_runs_85 : decode cX11_runs 85 = .ok (.putfield 229, 3) := by decide +kernel
theorem dX11_runs_88 : decode cX11_runs 88 = .ok (.aload_n 0, 1) := by decide +kernel
theorem dX11_runs_89 : decode cX11_runs 89 = .ok (.iconst (-1), 1) := by decide +kernel
theorem dX11_runs_90 : decode cX11_runs 90 = .ok (.putfield 232, 3) := by decide +kernel
theorem dX11_runs_93 : decode cX11_runs 93 = .ok (.iconst 0, 1) := by decide +kernel
theorem dX11_runs_94 : decode cX11_runs 94 = .ok (.istore_n 1, 1) := by decide +kernel
theorem dX11_runs_95 : decode cX11_runs 95 = .ok (.iload_n 1, 1) := by decide +kernel
theorem dX11_runs_96 : decode cX11_runs 96 = .ok (.bipush 24, 2) := by decide +kernel
theorem dX11_runs_98 : decode cX11_runs 98 = .ok (.if_icmp .ge 14, 3) := by decide +kernel
theorem dX11_runs_101 : decode cX11_runs 101 = .ok (.aload_n 0, 1) := by decide +kernel
theorem dX11_runs_102 : decode cX11_runs 102 = .ok (.iload_n 1, 1) := by decide +kernel
theorem dX11_runs_103 : decode cX11_runs 103 = .ok (.invokevirtual 267, 3) := by decide +kernel
theorem dX11_runs_106 : decode cX11_runs 106 = .ok (.iinc 1 1, 3) := by decide +kernel
theorem dX11_runs_109 : decode cX11_runs 109 = .ok (.goto (-14), 3) := by decide +kernel
theorem dX11_runs_112 : decode cX11_runs 112 = .ok (.return_, 1) := by decide +kernel
theorem c_runs (hd : 6 ≤ d) (n ns e : Nat) (hn : n ≤ 8) (hns : ns ≤ 13) (he9 : e ≤ 9) (hc : σ.1 111 2 = nI n) (hs : σ.1 111 16 = nI ns) (he : σ.1 111 17 = nI e) (hof : ∀ i, i < ns → ∃ j, j < 8 ∧ σ.1 120 i = nI j) : mMet G l d kX11_runs [.ref 111] σ (qVP (fun s => outR (debR σ n ns e) s ∧ fW wRun σ s)) := by
  refine mMet.of cm_X11_runs rfl (Nat.le_of_ble_eq_true rfl) rfl (fun v1 σ1 h => by rw [h.1]; trivial) ?_
  refine m_iconst (v := 0) dX11_runs_0 (by decide) ?_
  refine m_istore_n (ls1 := [(1, _), (0, _)]) dX11_runs_1 (by decide) rfl ?_
  refine down (N := n) (fun k (s : mS) => (∀ i, i < k → s.1 128 i = σ.1 115 i ∧ s.1 129 i = σ.1 116 i ∧ s.1 130 i = σ.1 117 i ∧ s.1 131 i = 0 ∧ s.1 132 i = 0 ∧ s.1 133 i = 0) ∧ fW wRun σ s) (fun k s => mW G l d kX11_runs 2 [(1, .int (nI k)), (0, .ref 111)] [] s _) ?_ ?_ 0 σ (Nat.zero_le _) ⟨fun i hi => absurd hi (Nat.not_lt_zero _), fW.rf⟩
  · rintro s ⟨i1, i2⟩
    refine m_iload_n dX11_runs_2 0 rfl ?_
    refine m_aload_n dX11_runs_3 1 rfl ?_
    refine m_getI 2 dX11_runs_4 fl_X11_161_10 rfl (by decide) (by first | assumption | rfl) ?_
    refine m_icmp_ge dX11_runs_7 73 (by decide) (fun h => ?_) (fun h => ?_)
    · clear h
      refine m_aload_n dX11_runs_73 1 rfl ?_
      refine m_iconst (v := 0) dX11_runs_74 (by decide) ?_
      refine m_putI 28 dX11_runs_75 fw_X11_256_10 rfl (by decide) rfl rfl (by first | assumption | rfl) ?_
      refine m_aload_n dX11_runs_78 1 rfl ?_
      refine m_iconst (v := 0) dX11_runs_79 (by decide) ?_
      refine m_putI 29 dX11_runs_80 fw_X11_226_10 rfl (by decide) rfl rfl (by first | assumption | rfl) ?_
      refine m_aload_n dX11_runs_83 1 rfl ?_
      refine m_iconst (v := -1) dX11_runs_84 (by decide) ?_
      refine m_putI 30 dX11_runs_85 fw_X11_229_10 rfl (by decide) rfl rfl (by first | assumption | rfl) ?_
      refine m_aload_n dX11_runs_88 1 rfl ?_
      refine m_iconst (v := -1) dX11_runs_89 (by decide) ?_
      refine m_putI 31 dX11_runs_90 fw_X11_232_10 rfl (by decide) rfl rfl (by first | assumption | rfl) ?_
      refine m_iconst (v := 0) dX11_runs_93 (by decide) ?_
      refine m_istore_n (ls1 := [(1, _), (0, _)]) dX11_runs_94 (by decide) rfl ?_
      generalize hD : debR σ n ns e = D
      have hDn : D.1.1 = n := by rw [← hD]
      have hDs : stOK D := by rw [← hD]; exact hof
      refine down (N := 24) (fun t (s : mS) => Req n (gR s 0) (RSt D t) ∧ (∀ u, u < t → s.1 140 u = rungD D (nI u) ∧ s.1 139 u = (RSt D (u + 1)).2.2.2.2.2.2.1 ∧ s.1 141 u = (RSt D (u + 1)).2.2.2.2.2.2.2.2.2.2 ∧ ∀ k, k < n → s.1 134 (8 * u + k) = (RSt D (u + 1)).1 k ∧ s.1 135 (8 * u + k) = (RSt D (u + 1)).2.1 k ∧ s.1 136 (8 * u + k) = (RSt D (u + 1)).2.2.1 k ∧ s.1 137 (8 * u + k) = (RSt D (u + 1)).2.2.2.1 k ∧ s.1 138 (8 * u + k) = (RSt D (u + 1)).2.2.2.2.1 k) ∧ fW wRun σ s) (fun t s => mW G l d kX11_runs 95 [(1, .int (nI t)), (0, .ref 111)] [] s _) ?_ ?_ 0 _ (Nat.zero_le _) ⟨?_, fun u hu => absurd hu (Nat.not_lt_zero _), fW.us (by omega) (fW.us (by omega) (fW.us (by omega) (fW.us (by omega) i2)))⟩
      · rintro s ⟨a1, a2, a3⟩
        refine m_iload_n dX11_runs_95 0 rfl ?_
        refine m_bipush (v := 24) dX11_runs_96 (by decide) ?_
        refine m_icmp_ge dX11_runs_98 112 (by decide) (fun h => ?_) (fun h => ?_)
        · refine m_return dX11_runs_112 ⟨rfl, ⟨fun t ht => ?_, ?_⟩, a3⟩
          · rw [hDn]; exact a2 t ht
          · rw [hDn]; exact a1
        · exact absurd (Int32.le_refl _) h
      · rintro t s ht ⟨a1, a2, a3⟩ ih
        have r : ∀ y, 112 ≤ y → y ≤ 127 → s.1 y = σ.1 y := fun y _ _ => a3.row (fun z => by omega)
        have hDD : debR s n ns e = D := by
          rw [← hD]
          show ((n, cF s), (ns, sF s), (e, vF s), s.1 111 21) = _
          rw [cF_eq (fun y a b => r y (by omega) (by omega)), sF_eq (fun y a b => r y (by omega) (by omega)), vF_eq (fun y a b => r y (by omega) (by omega)), a3.at (by omega)]
        refine m_iload_n dX11_runs_95 0 rfl ?_
        refine m_bipush (v := 24) dX11_runs_96 (by decide) ?_
        refine m_icmp_ge dX11_runs_98 112 (by decide) (fun h => ?_) (fun h => ?_)
        · exact absurd ((nle (a := 24) (by omega) (by omega)).mp h) (by omega)
        · clear h
          refine m_aload_n dX11_runs_101 1 rfl ?_
          refine m_iload_n dX11_runs_102 0 rfl ?_
          refine m_callV (As := [_]) dX11_runs_103 cv_X11_267 (by first | assumption | rfl) (by decide) (by omega) rfl rfl (Nat.le_of_ble_eq_true rfl) (c_goesBy (d := d - 1) (by omega) n ns e hn hns he9 ((a3.at (by omega)).trans hc) ((a3.at (by omega)).trans hs) ((a3.at (by omega)).trans he) (fun i hi => by rw [r 120 (by omega) (by omega)]; exact hof i hi) t ht) (fun v1 σ1 hv1 => ?_)
          refine m_qVP hv1 (fun hp => ?_)
          clear hv1 v1
          rename mS => s1
          rw [hDD] at hp
          obtain ⟨p1, p2, p3, p4, p5⟩ := hp
          have hq : ReqJ n (gR s1 t) (RSt D (t + 1)) := by
            rw [p1]
            have h0 : Req D.1.1 (gR s t) (RSt D t) := by rw [hDn]; exact a1
            have := h0.go (mo := nI t) Deq.rf (by rw [hDn]; exact hn) hDs
            rw [hDn] at this
            exact this
          refine m_iinc (v := nI (t + 1)) (ls1 := [(1, _), (0, _)]) dX11_runs_106 0 rfl (nI_1 t) (by decide) rfl ?_
          refine m_goto dX11_runs_109 95 (by decide) ?_
          refine ih _ ⟨hq.1, fun u hu => ?_, a3.tr (p5.mono (fun y z h => by omega))⟩
          rcases Nat.lt_succ_iff_lt_or_eq.mp hu with h | rfl
          · rw [p5.at (y := 140) (z := u) (by omega), p5.at (y := 139) (z := u) (by omega), p5.at (y := 141) (z := u) (by omega)]
            refine ⟨(a2 u h).1, (a2 u h).2.1, (a2 u h).2.2.1, fun k hk => ?_⟩
            rw [p5.at (y := 134) (by omega), p5.at (y := 135) (by omega), p5.at (y := 136) (by omega), p5.at (y := 137) (by omega), p5.at (y := 138) (by omega)]
            exact (a2 u h).2.2.2 k hk
          · refine ⟨p2, p3.trans hq.1.2.1, hq.2, fun k hk => ?_⟩
            obtain ⟨q1, q2, q3, q4, q5⟩ := p4 k hk
            rw [q1, q2, q3, q4, q5]
            exact ⟨(hq.1.1 k hk).1, (hq.1.1 k hk).2.1, (hq.1.1 k hk).2.2.1, (hq.1.1 k hk).2.2.2.1, (hq.1.1 k hk).2.2.2.2.1⟩
      · rw [← hD]
        refine ⟨fun k hk => ?_, ?_, ?_, ?_, ?_⟩
        · exact i1 k hk
        all_goals first | (simp [us_at]; rfl) | (simp [us_at, RSt, startR])
    · exact (ge_yes h ((i2.at (by omega)).trans hc)).elim
  · rintro k s hk ⟨i1, i2⟩ ih
    have hk8 : k < 8 := by omega
    have e1 : s.1 115 k = σ.1 115 k := i2.at (by omega)
    have e2 : s.1 116 k = σ.1 116 k := i2.at (by omega)
    have e3 : s.1 117 k = σ.1 117 k := i2.at (by omega)
    refine m_iload_n dX11_runs_2 0 rfl ?_
    refine m_aload_n dX11_runs_3 1 rfl ?_
    refine m_getI 2 dX11_runs_4 fl_X11_161_10 rfl (by decide) (by first | assumption | rfl) ?_
    refine m_icmp_ge dX11_runs_7 73 (by decide) (fun h => ?_) (fun h => ?_)
    · exact (ge_no ((i2.at (by omega)).trans hc) h rfl hk (by omega)).elim
    · clear h
      refine m_aload_n dX11_runs_10 1 rfl ?_
      refine m_getR 22 128 dX11_runs_11 fl_X11_58_10 rfl (by decide) rfl (by first | assumption | rfl) ?_
      refine m_iload_n dX11_runs_14 0 rfl ?_
      refine m_aload_n dX11_runs_15 1 rfl ?_
      refine m_getR 4 115 dX11_runs_16 fl_X11_19_10 rfl (by decide) rfl (by first | assumption | rfl) ?_
      refine m_iload_n dX11_runs_19 0 rfl ?_
      refine m_iald dX11_runs_20 (by first | assumption | rfl) k rfl (by first | assumption | omega | decide) ?_
      refine mW.top e1 ?_
      refine m_iast dX11_runs_21 (by first | assumption | rfl) k rfl (by first | assumption | omega | decide) ?_
      refine m_aload_n dX11_runs_22 1 rfl ?_
      refine m_getR 23 129 dX11_runs_23 fl_X11_61_10 rfl (by decide) rfl (by first | assumption | rfl) ?_
      refine m_iload_n dX11_runs_26 0 rfl ?_
      refine m_aload_n dX11_runs_27 1 rfl ?_
      refine m_getR 5 116 dX11_runs_28 fl_X11_22_10 rfl (by decide) rfl (by first | assumption | rfl) ?_
      refine m_iload_n dX11_runs_31 0 rfl ?_
      refine m_iald dX11_runs_32 (by first | assumption | rfl) k rfl (by first | assumption | omega | decide) ?_
      refine mW.top e2 ?_
      refine m_iast dX11_runs_33 (by first | assumption | rfl) k rfl (by first | assumption | omega | decide) ?_
      refine m_aload_n dX11_runs_34 1 rfl ?_
      refine m_getR 24 130 dX11_runs_35 fl_X11_64_10 rfl (by decide) rfl (by first | assumption | rfl) ?_
      refine m_iload_n dX11_runs_38 0 rfl ?_
      refine m_aload_n dX11_runs_39 1 rfl ?_
      refine m_getR 6 117 dX11_runs_40 fl_X11_25_10 rfl (by decide) rfl (by first | assumption | rfl) ?_
      refine m_iload_n dX11_runs_43 0 rfl ?_
      refine m_iald dX11_runs_44 (by first | assumption | rfl) k rfl (by first | assumption | omega | decide) ?_
      refine mW.top e3 ?_
      refine m_iast dX11_runs_45 (by first | assumption | rfl) k rfl (by first | assumption | omega | decide) ?_
      refine m_aload_n dX11_runs_46 1 rfl ?_
      refine m_getR 25 131 dX11_runs_47 fl_X11_67_10 rfl (by decide) rfl (by first | assumption | rfl) ?_
      refine m_iload_n dX11_runs_50 0 rfl ?_
      refine m_iconst (v := 0) dX11_runs_51 (by decide) ?_
      refine m_iast dX11_runs_52 (by first | assumption | rfl) k rfl (by first | assumption | omega | decide) ?_
      refine m_aload_n dX11_runs_53 1 rfl ?_
      refine m_getR 26 132 dX11_runs_54 fl_X11_70_10 rfl (by decide) rfl (by first | assumption | rfl) ?_
      refine m_iload_n dX11_runs_57 0 rfl ?_
      refine m_iconst (v := 0) dX11_runs_58 (by decide) ?_
      refine m_iast dX11_runs_59 (by first | assumption | rfl) k rfl (by first | assumption | omega | decide) ?_
      refine m_aload_n dX11_runs_60 1 rfl ?_
      refine m_getR 27 133 dX11_runs_61 fl_X11_73_10 rfl (by decide) rfl (by first | assumption | rfl) ?_
      refine m_iload_n dX11_runs_64 0 rfl ?_
      refine m_iconst (v := 0) dX11_runs_65 (by decide) ?_
      refine m_iast dX11_runs_66 (by first | assumption | rfl) k rfl (by first | assumption | omega | decide) ?_
      refine m_iinc (v := nI (k + 1)) (ls1 := [(1, _), (0, _)]) dX11_runs_67 0 rfl (nI_1 k) (by decide) rfl ?_
      refine m_goto dX11_runs_70 2 (by decide) ?_
      refine ih _ ⟨fun i hi => ?_, fW.us (by omega) (fW.us (by omega) (fW.us (by omega) (fW.us (by omega) (fW.us (by omega) (fW.us (by omega) i2)))))⟩
      rcases Nat.lt_succ_iff_lt_or_eq.mp hi with h | rfl
      · have hb := i1 i h
        simp [us_at, Nat.ne_of_lt h]
        exact hb
      · simp [us_at]
theorem Req.tr {n : Nat} {a b c : RS} (h : Req n a b) (k : Req n b c) : Req n a c :=
  ⟨fun i hi => ⟨(h.1 i hi).1.trans (k.1 i hi).1, (h.1 i hi).2.1.trans (k.1 i hi).2.1, (h.1 i hi).2.2.1.trans (k.1 i hi).2.2.1, (h.1 i hi).2.2.2.1.trans (k.1 i hi).2.2.2.1, (h.1 i hi).2.2.2.2.1.trans (k.1 i hi).2.2.2.2.1, (h.1 i hi).2.2.2.2.2.trans (k.1 i hi).2.2.2.2.2⟩, h.2.1.trans k.2.1, h.2.2.1.trans k.2.2.1, h.2.2.2.1.trans k.2.2.2.1, h.2.2.2.2.trans k.2.2.2.2⟩
theorem outR_cong {D E : Deb} {s : mS} (hD : Deq D E) (hn : D.1.1 ≤ 8) (hs : stOK D) (h : outR D s) : outR E s := by
  obtain ⟨h1, h2⟩ := h
  refine ⟨fun t ht => ?_, ?_⟩
  · have c := RSt_cong hD hn hs (t + 1)
    obtain ⟨g1, g2, g3, g4⟩ := h1 t ht
    refine ⟨g1.trans (hD.rung _), g2.trans c.1.2.1, g3.trans c.2, fun k hk => ?_⟩
    rw [← hD.1] at hk
    obtain ⟨q1, q2, q3, q4, q5⟩ := g4 k hk
    exact ⟨q1.trans (c.1.1 k hk).1, q2.trans (c.1.1 k hk).2.1, q3.trans (c.1.1 k hk).2.2.1, q4.trans (c.1.1 k hk).2.2.2.1, q5.trans (c.1.1 k hk).2.2.2.2.1⟩
  · rw [← hD.1]
    exact h2.tr (RSt_cong hD hn hs 24).1
/-- the reference's rows tell the debate D -/
def repR (s : mS) (D : Deb) : Prop := D.1.1 ≤ 8 ∧ D.2.1.1 ≤ 13 ∧ D.2.2.1.1 ≤ 9 ∧ s.1 111 2 = nI D.1.1 ∧ s.1 111 16 = nI D.2.1.1 ∧ s.1 111 17 = nI D.2.2.1.1 ∧ s.1 111 21 = D.2.2.2 ∧ (∀ k, k < D.1.1 → ∀ j, j < 5 → s.1 (114 + j) k = D.1.2 k j) ∧ (∀ i, i < D.2.1.1 → ∀ j, j < 3 → s.1 (119 + j) i = D.2.1.2 i j) ∧ (∀ i, i < D.2.2.1.1 → ∀ j, j < 3 → s.1 (125 + j) i = D.2.2.1.2 i j) ∧ stOK D
theorem repR.deq {s : mS} {D : Deb} (h : repR s D) : Deq (debR s D.1.1 D.2.1.1 D.2.2.1.1) D := by
  obtain ⟨h1, h2, h3, h4, h5, h6, h7, h8, h9, h10, h11⟩ := h
  refine ⟨rfl, rfl, rfl, h7, fun k hk j hj => ?_, fun k hk j hj => ?_, fun k hk j hj => ?_⟩
  · show cF s k j = _
    unfold cF; rw [if_pos hj]; exact h8 k hk j hj
  · show sF s k j = _
    unfold sF; rw [if_pos hj]; exact h9 k hk j hj
  · show vF s k j = _
    unfold vF; rw [if_pos hj]; exact h10 k hk j hj
theorem c_runsD (hd : 6 ≤ d) (D : Deb) (h : repR σ D) : mMet G l d kX11_runs [.ref 111] σ (qVP (fun s => outR D s ∧ fW wRun σ s)) := by
  have hq := h.deq
  obtain ⟨h1, h2, h3, h4, h5, h6, h7, h8, h9, h10, h11⟩ := h
  have hof : ∀ i, i < D.2.1.1 → ∃ j, j < 8 ∧ σ.1 120 i = nI j := fun i hi => by
    obtain ⟨j, hj, e⟩ := h11 i hi
    exact ⟨j, hj, (h9 i hi 1 (by decide)).trans e⟩
  refine mMet.conseq (c_runs hd D.1.1 D.2.1.1 D.2.2.1.1 h1 h2 h3 h4 h5 h6 hof) (fun v s hv => ?_)
  obtain ⟨rfl, g1, g2⟩ := hv
  exact ⟨rfl, outR_cong hq h1 (fun i hi => hof i hi) g1, g2⟩
end RU


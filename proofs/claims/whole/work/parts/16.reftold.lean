/-! ===== the debate as told ===== -/
theorem parT_good (z : Nat) (good : Nat → Nat) (L : Nat) (b : Nat → Int32) : ∀ f k0 k, k0 ≤ k → k < (parT z good L b f k0).2 → z ≤ good k
  | 0, k0, k, _, h => absurd h (Nat.not_lt_zero _)
  | f + 1, k0, k, hk, h => by
    unfold parT at h
    split at h
    · exact absurd h (Nat.not_lt_zero _)
    · rename_i h1
      split at h
      · have h2 : k < k0 + 1 := h
        have : k = k0 := by omega
        subst this
        omega
      · split at h
        · exact absurd h (Nat.not_lt_zero _)
        · by_cases e : k = k0
          · subst e; omega
          · exact parT_good z good L b f (k0 + 1) k (by omega) h
theorem parC_good {L : Nat} {b : Nat → Int32} {k : Nat} (h : k < (parC L b).2) : goodC L b k = 5 := by
  unfold parC at h
  split at h
  · exact absurd h (Nat.not_lt_zero _)
  · have := parT_good 5 (goodC L b) L b 9 0 k (Nat.zero_le _) h
    have := goodC_le L b k
    omega
theorem parS_good {L : Nat} {b : Nat → Int32} {k : Nat} (h : k < (parS L b).2) : goodS L b k = 3 := by
  unfold parS at h
  split at h
  · exact absurd h (Nat.not_lt_zero _)
  · have := parT_good 3 (goodS L b) L b 13 0 k (Nat.zero_le _) h
    have := goodS_le L b k
    omega
theorem sub_in {x : Int32} (a n : Nat) (h : nI a ≤ x) (h2 : x ≤ nI (a + n)) (ha : a + n < 900000) : ∃ j, j ≤ n ∧ x - nI a = nI j := by
  have h0 : 0 ≤ x := Int32.le_trans (nI_pos' (by omega)) h
  obtain ⟨j, hj, rfl⟩ := nI_ofI (x := x) (n := a + n + 1) h0 (by omega) (Int32.lt_of_le_of_lt h2 ((nlt (by omega) (by omega)).mpr (by omega)))
  have h3 := (nle (by omega) (by omega)).mp h
  exact ⟨j - a, by omega, pk_sub h3⟩
theorem steB_car {L : Nat} {b : Nat → Int32} {k : Nat} (h : k < (parS L b).2) : ∃ j, j < 8 ∧ steB L b k 1 = nI j := by
  have hg := parS_good h
  unfold goodS at hg
  split at hg
  · exact absurd hg (by decide)
  · split at hg
    · exact absurd hg (by decide)
    · rename_i h2
      have h3 := Classical.not_not.mp h2
      obtain ⟨j, hj, e⟩ := sub_in 48 7 h3.1 h3.2 (by decide)
      exact ⟨j, by omega, e⟩
section TD
variable {G : mG} {l : Launch} {d : Nat} {σ : mS}
/-- rows and fields of the reference that it uses for reckoning -/
abbrev wScr : Nat → Nat → Prop := fun y z => (y = 111 ∧ z ≠ 12 ∧ z ≠ 41 ∧ z ≠ 52) ∨ (114 ≤ y ∧ y ≤ 121) ∨ (125 ≤ y ∧ y ≤ 142) ∨ y = 147 ∨ y = 152
def evF (σ : mS) : Nat → Nat → Int32 := fun i j => if j < 3 then σ.1 (122 + j) i else 0
/-- the debate as told to the reference -/
def Dt (σ : mS) (L0 L1 e : Nat) : Deb := (((parC L0 (tx σ 0)).2, carB L0 (tx σ 0)), ((parS L1 (tx σ 1)).2, steB L1 (tx σ 1)), (e, evF σ), 0)
/-- what is told fits -/
def okR (σ : mS) (L0 L1 e : Nat) : Prop := σ.1 112 0 = nI L0 ∧ L0 ≤ 47 ∧ σ.1 112 1 = nI L1 ∧ L1 ≤ 47 ∧ σ.1 111 12 = nI e ∧ e ≤ 8
theorem Dt_st (σ : mS) (L0 L1 e : Nat) : stOK (Dt σ L0 L1 e) := fun _ hi => steB_car hi
theorem Dt_scr {s : mS} (h : fW wScr σ s) (L0 L1 e : Nat) : Dt s L0 L1 e = Dt σ L0 L1 e := by
  have e0 : tx s 0 = tx σ 0 := funext fun i => h.at (by omega)
  have e1 : tx s 1 = tx σ 1 := funext fun i => h.at (by omega)
  have e2 : evF s = evF σ := by
    funext i j
    unfold evF
    by_cases hj : j < 3
    · rw [if_pos hj, if_pos hj]; exact h.at (by omega)
    · rw [if_neg hj, if_neg hj]
  unfold Dt
  rw [e0, e1, e2]
theorem okR.scr {s : mS} {L0 L1 e : Nat} (h : fW wScr σ s) (k : okR σ L0 L1 e) : okR s L0 L1 e := ⟨(h.at (by omega)).trans k.1, k.2.1, (h.at (by omega)).trans k.2.2.1, k.2.2.2.1, (h.at (by omega)).trans k.2.2.2.2.1, k.2.2.2.2.2⟩
theorem dX11_asTold_0 : decode cX11_asTold 0 = .ok (.aload_n 0, 1) := by decide +kernel
theorem dX11_asTold_1 : decode cX11_asTold 1 = .ok (.invokevirtual 180, 3) := by decide +kernel
theorem dX11_asTold_4 : decode cX11_asTold 4 = .ok (.aload_n 0, 1) := by decide +kernel
theorem dX11_asTold_5 : decode cX11_asTold 5 = .ok (.aload_n 0, 1) := by decide +kernel
theorem dX11_asTold_6 : decode cX11_asTold 6 = .ok (.getfield 165, 3) := by decide +kernel
theorem dX11_asTold_9 : decode cX11_asTold 9 = .ok (.putfield 217, 3) := by decide +kernel
theorem dX11_asTold_12 : decode cX11_asTold 12 = .ok (.aload_n 0, 1) := by decide +kernel
theorem dX11_asTold_13 : decode cX11_asTold 13 = .ok (.aload_n 0, 1) := by decide +kernel
theorem dX11_asTold_14 : decode cX11_asTold 14 = .ok (.getfield 204, 3) := by decide +kernel
theorem dX11_asTold_17 : decode cX11_asTold 17 = .ok (.putfield 220, 3) := by decide +kernel
theorem dX11_asTold_20 : decode cX11_asTold 20 = .ok (.iconst 0, 1) := by decide +kernel
theorem dX11_asTold_21 : decode cX11_asTold 21 = .ok (.istore_n 1, 1) := by decide +kernel
theorem dX11_asTold_22 : decode cX11_asTold 22 = .ok (.iload_n 1, 1) := by decide +kernel
theorem dX11_asTold_23 : decode cX11_asTold 23 = .ok (.aload_n 0, 1) := by decide +kernel
theorem dX11_asTold_24 : decode cX11_asTold 24 = .ok (.getfield 204, 3) := by decide +kernel
theorem dX11_asTold_27 : decode cX11_asTold 27 = .ok (.if_icmp .ge 45, 3) := by decide +kernel
theorem dX11_asTold_30 : decode cX11_asTold 30 = .ok (.aload_n 0, 1) := by decide +kernel
theorem dX11_asTold_31 : decode cX11_asTold 31 = .ok (.getfield 49, 3) := by decide +kernel
theorem dX11_asTold_34 : decode cX11_asTold 34 = .ok (.iload_n 1, 1) := by decide +kernel
theorem dX11_asTold_35 : decode cX11_asTold 35 = .ok (.aload_n 0, 1) := by decide +kernel
theorem dX11_asTold_36 : decode cX11_asTold 36 = .ok (.getfield 40, 3) := by decide +kernel
theorem dX11_asTold_39 : decode cX11_asTold 39 = .ok (.iload_n 1, 1) := by decide +kernel
theorem dX11_asTold_40 : decode cX11_asTold 40 = .ok (.iaload, 1) := by decide +kernel
theorem dX11_asTold_41 : decode cX11_asTold 41 = .ok (.iastore, 1) := by decide +kernel
theorem dX11_asTold_42 : decode cX11_asTold 42 = .ok (.aload_n 0, 1) := by decide +kernel
theorem dX11_asTold_43 : decode cX11_asTold 43 = .ok (.getfield 52, 3) := by decide +kernel
theorem dX11_asTold_46 : decode cX11_asTold 46 = .ok (.iload_n 1, 1) := by decide +kernel
theorem dX11_asTold_47 : decode cX11_asTold 47 = .ok (.aload_n 0, 1) := by decide +kernel
theorem dX11_asTold_48 : decode cX11_asTold 48 = .ok (.getfield 43, 3) := by decide +kernel
theorem dX11_asTold_51 : decode cX11_asTold 51 = .ok (.iload_n 1, 1) := by decide +kernel
theorem dX11_asTold_52 : decode cX11_asTold 52 = .ok (.iaload, 1) := by decide +kernel
theorem dX11_asTold_53 : decode cX11_asTold 53 = .ok (.iastore, 1) := by decide +kernel
theorem dX11_asTold_54 : decode cX11_asTold 54 = .ok (.aload_n 0, 1) := by decide +kernel
theorem dX11_asTold_55 : decode cX11_asTold 55 = .ok (.getfield 55, 3) := by decide +kernel
theorem dX11_asTold_58 : decode cX11_asTold 58 = .ok (.iload_n 1, 1) := by decide +kernel
theorem dX11_asTold_59 : decode cX11_asTold 59 = .ok (.aload_n 0, 1) := by decide +kernel
theorem dX11_asTold_60 : decode cX11_asTold 60 = .ok (.getfield 46, 3) := by decide +kernel
theorem dX11_asTold_63 : decode cX11_asTold 63 = .ok (.iload_n 1, 1) := by decide +kernel
theorem dX11_asTold_64 : decode cX11_asTold 64 = .ok (.iaload, 1) := by decide +kernel
theorem dX11_asTold_65 : decode cX11_asTold 65 = .ok (.iastore, 1) := by decide +kernel
theorem dX11_asTold_66 : decode cX11_asTold 66 = .ok (.iinc 1 1, 3) := by decide +kernel
theorem dX11_asTold_69 : decode cX11_asTold 69 = .ok (.goto (-47), 3) := by decide +kernel
theorem dX11_asTold_72 : decode cX11_asTold 72 = .ok (.aload_n 0, 1) := by decide +kernel
theorem dX11_asTold_73 : decode cX11_asTold 73 = .ok (.iconst 0, 1) := by decide +kernel
theorem dX11_asTold_74 : decode cX11_asTold 74 = .ok (.putfield 223, 3) := by decide +kernel
theorem dX11_asTold_77 : decode cX11_asTold 77 = .ok (.return_, 1) := by decide +kernel
theorem dX11_runsTold_0 : decode cX11_runsTold 0 = .ok (.aload_n 0, 1) := by decide +kernel
theorem dX11_runsTold_1 : decode cX11_runsTold 1 = .ok (.invokevirtual 270, 3) := by decide +kernel
theorem dX11_runsTold_4 : decode cX11_runsTold 4 = .ok (.aload_n 0, 1) := by decide +kernel
theorem dX11_runsTold_5 : decode cX11_runsTold 5 = .ok (.invokevirtual 273, 3) := by decide +kernel
theorem dX11_runsTold_8 : decode cX11_runsTold 8 = .ok (.return_, 1) := by decide +kernel
theorem dX11_isCar_0 : decode cX11_isCar 0 = .ok (.aload_n 0, 1) := by decide +kernel
theorem dX11_isCar_1 : decode cX11_isCar 1 = .ok (.invokevirtual 180, 3) := by decide +kernel
theorem dX11_isCar_4 : decode cX11_isCar 4 = .ok (.iload_n 1, 1) := by decide +kernel
theorem dX11_isCar_5 : decode cX11_isCar 5 = .ok (.iconst 0, 1) := by decide +kernel
theorem dX11_isCar_6 : decode cX11_isCar 6 = .ok (.aload_n 0, 1) := by decide +kernel
theorem dX11_isCar_7 : decode cX11_isCar 7 = .ok (.getfield 161, 3) := by decide +kernel
theorem dX11_isCar_10 : decode cX11_isCar 10 = .ok (.iconst 1, 1) := by decide +kernel
theorem dX11_isCar_11 : decode cX11_isCar 11 = .ok (.isub, 1) := by decide +kernel
theorem dX11_isCar_12 : decode cX11_isCar 12 = .ok (.invokestatic 136, 3) := by decide +kernel
theorem dX11_isCar_15 : decode cX11_isCar 15 = .ok (.ireturn, 1) := by decide +kernel
theorem dX11_fault_0 : decode cX11_fault 0 = .ok (.iload_n 1, 1) := by decide +kernel
theorem dX11_fault_1 : decode cX11_fault 1 = .ok (.invokestatic 140, 3) := by decide +kernel
theorem dX11_fault_4 : decode cX11_fault 4 = .ok (.ifCond .eq 11, 3) := by decide +kernel
theorem dX11_fault_7 : decode cX11_fault 7 = .ok (.aload_n 0, 1) := by decide +kernel
theorem dX11_fault_8 : decode cX11_fault 8 = .ok (.iload_n 1, 1) := by decide +kernel
theorem dX11_fault_9 : decode cX11_fault 9 = .ok (.invokevirtual 177, 3) := by decide +kernel
theorem dX11_fault_12 : decode cX11_fault 12 = .ok (.goto 5, 3) := by decide +kernel
theorem dX11_fault_15 : decode cX11_fault 15 = .ok (.bipush (-2), 2) := by decide +kernel
theorem dX11_fault_17 : decode cX11_fault 17 = .ok (.ireturn, 1) := by decide +kernel
theorem c_asTold (hd : 6 ≤ d) (L0 L1 e : Nat) (ok : okR σ L0 L1 e) : mMet G l d kX11_asTold [.ref 111] σ (qVP (fun s => repR s (Dt σ L0 L1 e) ∧ s.1 111 8 = nI (Dt σ L0 L1 e).2.1.1 ∧ fW wScr σ s)) := by
  obtain ⟨h0, l0, h1, l1, he, e8⟩ := ok
  refine mMet.of cm_X11_asTold rfl (Nat.le_of_ble_eq_true rfl) rfl (fun v1 σ1 h => by rw [h.1]; trivial) ?_
  refine m_aload_n dX11_asTold_0 0 rfl ?_
  refine m_callV (As := []) dX11_asTold_1 cv_X11_180 (by first | assumption | rfl) (by decide) (by omega) rfl rfl (Nat.le_of_ble_eq_true rfl) (c_reads (d := d - 1) (by omega) L0 L1 h0 h1 l0 l1) (fun v1 σ1 hv1 => ?_)
  refine m_qVP hv1 (fun ha => ?_)
  clear hv1 v1
  rename mS => s1
  obtain ⟨⟨a1, a2, a3, a4⟩, a5⟩ := ha
  have hn := parC_n L0 (tx σ 0)
  have hm := parS_n L1 (tx σ 1)
  have q1 : s1.1 111 12 = nI e := (a5.at (by omega)).trans he
  refine m_aload_n dX11_asTold_4 0 rfl ?_
  refine m_aload_n dX11_asTold_5 0 rfl ?_
  refine m_getI 8 dX11_asTold_6 fl_X11_165_10 rfl (by decide) (by first | assumption | rfl) ?_
  refine m_putI 16 dX11_asTold_9 fw_X11_217_10 rfl (by decide) rfl rfl (by first | assumption | rfl) ?_
  refine m_aload_n dX11_asTold_12 0 rfl ?_
  refine m_aload_n dX11_asTold_13 0 rfl ?_
  refine m_getI 12 dX11_asTold_14 fl_X11_204_10 rfl (by decide) (by first | assumption | rfl) ?_
  refine m_putI 17 dX11_asTold_17 fw_X11_220_10 rfl (by decide) rfl rfl (by first | assumption | rfl) ?_
  refine m_iconst (v := 0) dX11_asTold_20 (by decide) ?_
  refine m_istore_n (ls1 := [(1, _), (0, _)]) dX11_asTold_21 (by decide) rfl ?_
  refine down (N := e) (fun i (s : mS) => (∀ a, a < i → s.1 125 a = σ.1 122 a ∧ s.1 126 a = σ.1 123 a ∧ s.1 127 a = σ.1 124 a) ∧ s.1 111 16 = nI (parS L1 (tx σ 1)).2 ∧ s.1 111 17 = nI e ∧ fW (fun y z => (y = 111 ∧ (z = 16 ∨ z = 17)) ∨ (125 ≤ y ∧ y ≤ 127)) s1 s) (fun i s => mW G l d kX11_asTold 22 [(1, .int (nI i)), (0, .ref 111)] [] s _) ?_ ?_ 0 _ (Nat.zero_le _) ⟨fun a ha => absurd ha (Nat.not_lt_zero _), ?_, ?_, fW.us (by omega) (fW.us (by omega) fW.rf)⟩
  · rintro s ⟨b1, b2, b3, b4⟩
    refine m_iload_n dX11_asTold_22 0 rfl ?_
    refine m_aload_n dX11_asTold_23 1 rfl ?_
    refine m_getI 12 dX11_asTold_24 fl_X11_204_10 rfl (by decide) (by first | assumption | rfl) ?_
    refine m_icmp_ge dX11_asTold_27 72 (by decide) (fun h => ?_) (fun h => ?_)
    · refine m_aload_n dX11_asTold_72 1 rfl ?_
      refine m_iconst (v := 0) dX11_asTold_73 (by decide) ?_
      refine m_putI 21 dX11_asTold_74 fw_X11_223_10 rfl (by decide) rfl rfl (by first | assumption | rfl) ?_
      have b5 : fW wScr σ (us s 111 21 0) := fW.us (by omega) ((a5.mono (fun y z h => by omega)).tr (b4.mono (fun y z h => by omega)))
      refine m_return dX11_asTold_77 ⟨rfl, ⟨hn, by show (parS L1 (tx σ 1)).2 ≤ 13; omega, by show e ≤ 9; omega, ?_, ?_, ?_, ?_, ?_, ?_, ?_, Dt_st σ L0 L1 e⟩, ?_, b5⟩
      · rw [us_at, if_neg (by omega), b4.at (by omega)]; exact a1
      · rw [us_at, if_neg (by omega)]; exact b2
      · rw [us_at, if_neg (by omega)]; exact b3
      · rw [us_at, if_pos ⟨rfl, rfl⟩]; rfl
      · intro k hk j hj
        rw [us_at, if_neg (by omega), b4.at (by omega)]
        obtain ⟨g0, g1, g2, g3, g4⟩ := a2 k hk
        rcases (show j = 0 ∨ j = 1 ∨ j = 2 ∨ j = 3 ∨ j = 4 by omega) with rfl | rfl | rfl | rfl | rfl
        · exact g0
        · exact g1
        · exact g2
        · exact g3
        · exact g4
      · intro k hk j hj
        rw [us_at, if_neg (by omega), b4.at (by omega)]
        obtain ⟨g0, g1, g2⟩ := a4 k hk
        rcases (show j = 0 ∨ j = 1 ∨ j = 2 by omega) with rfl | rfl | rfl
        · exact g0
        · exact g1
        · exact g2
      · intro k hk j hj
        rw [us_at, if_neg (by omega)]
        obtain ⟨g0, g1, g2⟩ := b1 k hk
        rcases (show j = 0 ∨ j = 1 ∨ j = 2 by omega) with rfl | rfl | rfl
        · exact g0
        · exact g1
        · exact g2
      · rw [us_at, if_neg (by omega), b4.at (by omega)]; exact a3
    · exact (ge_yes h ((b4.at (by omega)).trans q1)).elim
  · rintro i s hi ⟨b1, b2, b3, b4⟩ ih
    have i8 : i < 9 := by omega
    have e0 : s.1 122 i = σ.1 122 i := (b4.at (by omega)).trans (a5.at (by omega))
    have e1 : s.1 123 i = σ.1 123 i := (b4.at (by omega)).trans (a5.at (by omega))
    have e2 : s.1 124 i = σ.1 124 i := (b4.at (by omega)).trans (a5.at (by omega))
    refine m_iload_n dX11_asTold_22 0 rfl ?_
    refine m_aload_n dX11_asTold_23 1 rfl ?_
    refine m_getI 12 dX11_asTold_24 fl_X11_204_10 rfl (by decide) (by first | assumption | rfl) ?_
    refine m_icmp_ge dX11_asTold_27 72 (by decide) (fun h => ?_) (fun h => ?_)
    · exact (ge_no ((b4.at (by omega)).trans q1) h rfl hi (by omega)).elim
    · clear h
      refine m_aload_n dX11_asTold_30 1 rfl ?_
      refine m_getR 18 125 dX11_asTold_31 fl_X11_49_10 rfl (by decide) rfl (by first | assumption | rfl) ?_
      refine m_iload_n dX11_asTold_34 0 rfl ?_
      refine m_aload_n dX11_asTold_35 1 rfl ?_
      refine m_getR 13 122 dX11_asTold_36 fl_X11_40_10 rfl (by decide) rfl (by first | assumption | rfl) ?_
      refine m_iload_n dX11_asTold_39 0 rfl ?_
      refine m_iald dX11_asTold_40 (by first | assumption | rfl) i rfl (by first | assumption | omega | decide) ?_
      refine mW.top e0 ?_
      refine m_iast dX11_asTold_41 (by first | assumption | rfl) i rfl (by first | assumption | omega | decide) ?_
      refine m_aload_n dX11_asTold_42 1 rfl ?_
      refine m_getR 19 126 dX11_asTold_43 fl_X11_52_10 rfl (by decide) rfl (by first | assumption | rfl) ?_
      refine m_iload_n dX11_asTold_46 0 rfl ?_
      refine m_aload_n dX11_asTold_47 1 rfl ?_
      refine m_getR 14 123 dX11_asTold_48 fl_X11_43_10 rfl (by decide) rfl (by first | assumption | rfl) ?_
      refine m_iload_n dX11_asTold_51 0 rfl ?_
      refine m_iald dX11_asTold_52 (by first | assumption | rfl) i rfl (by first | assumption | omega | decide) ?_
      refine mW.top e1 ?_
      refine m_iast dX11_asTold_53 (by first | assumption | rfl) i rfl (by first | assumption | omega | decide) ?_
      refine m_aload_n dX11_asTold_54 1 rfl ?_
      refine m_getR 20 127 dX11_asTold_55 fl_X11_55_10 rfl (by decide) rfl (by first | assumption | rfl) ?_
      refine m_iload_n dX11_asTold_58 0 rfl ?_
      refine m_aload_n dX11_asTold_59 1 rfl ?_
      refine m_getR 15 124 dX11_asTold_60 fl_X11_46_10 rfl (by decide) rfl (by first | assumption | rfl) ?_
      refine m_iload_n dX11_asTold_63 0 rfl ?_
      refine m_iald dX11_asTold_64 (by first | assumption | rfl) i rfl (by first | assumption | omega | decide) ?_
      refine mW.top e2 ?_
      refine m_iast dX11_asTold_65 (by first | assumption | rfl) i rfl (by first | assumption | omega | decide) ?_
      refine m_iinc (v := nI (i + 1)) (ls1 := [(1, _), (0, _)]) dX11_asTold_66 0 rfl (nI_1 i) (by decide) rfl ?_
      refine m_goto dX11_asTold_69 22 (by decide) ?_
      refine ih _ ⟨fun a ha => ?_, ?_, ?_, fW.us (by omega) (fW.us (by omega) (fW.us (by omega) b4))⟩
      · rcases Nat.lt_succ_iff_lt_or_eq.mp ha with h | rfl
        · have hb := b1 a h
          simp [us_at, Nat.ne_of_lt h]
          exact hb
        · simp [us_at]
      · simp [us_at]; exact b2
      · simp [us_at]; exact b3
  · simp [us_at]; exact a3
  · simp [us_at]; exact q1
theorem c_runsTold (hd : 7 ≤ d) (L0 L1 e : Nat) (ok : okR σ L0 L1 e) : mMet G l d kX11_runsTold [.ref 111] σ (qVP (fun s => outR (Dt σ L0 L1 e) s ∧ s.1 111 2 = nI (Dt σ L0 L1 e).1.1 ∧ s.1 111 8 = nI (Dt σ L0 L1 e).2.1.1 ∧ fW wScr σ s)) := by
  refine mMet.of cm_X11_runsTold rfl (Nat.le_of_ble_eq_true rfl) rfl (fun v1 σ1 h => by rw [h.1]; trivial) ?_
  refine m_aload_n dX11_runsTold_0 0 rfl ?_
  refine m_callV (As := []) dX11_runsTold_1 cv_X11_270 (by first | assumption | rfl) (by decide) (by omega) rfl rfl (Nat.le_of_ble_eq_true rfl) (c_asTold (d := d - 1) (by omega) L0 L1 e ok) (fun v1 σ1 hv1 => ?_)
  refine m_qVP hv1 (fun ha => ?_)
  clear hv1 v1
  rename mS => s1
  obtain ⟨a1, a2, a3⟩ := ha
  refine m_aload_n dX11_runsTold_4 0 rfl ?_
  refine m_callV (As := []) dX11_runsTold_5 cv_X11_273 (by first | assumption | rfl) (by decide) (by omega) rfl rfl (Nat.le_of_ble_eq_true rfl) (c_runsD (d := d - 1) (by omega) _ a1) (fun v1 σ1 hv1 => ?_)
  refine m_qVP hv1 (fun hb => ?_)
  clear hv1 v1
  rename mS => s2
  obtain ⟨b1, b2⟩ := hb
  exact m_return dX11_runsTold_8 ⟨rfl, b1, (b2.at (by omega)).trans a1.2.2.2.1, (b2.at (by omega)).trans a2, a3.tr (b2.mono (fun y z h => by omega))⟩
theorem leN1 {v : Int32} {n : Nat} (hn : n ≤ 100) : v ≤ nI n - 1 ↔ v < nI n := by
  have h1 : (nI n - 1).toInt = (n : Int) - 1 := pk_sub_toInt (a := n) (b := 1) (by omega) (by omega)
  have h2 : (nI n).toInt = (n : Int) := nI_toInt (by omega)
  rw [Int32.le_iff_toInt_le, Int32.lt_iff_toInt_lt, h1, h2]
  omega
theorem c_isCar (hd : 6 ≤ d) (L0 L1 : Nat) (h0 : σ.1 112 0 = nI L0) (h1 : σ.1 112 1 = nI L1) (l0 : L0 ≤ 47) (l1 : L1 ≤ 47) (v : Int32) : mMet G l d kX11_isCar [.ref 111, .int v] σ (qIP (fun r s => r = bI (decide (0 ≤ v ∧ v < nI (parC L0 (tx σ 0)).2)) ∧ readR L0 L1 σ s ∧ fW wRead σ s)) := by
  refine mMet.of cm_X11_isCar rfl (Nat.le_of_ble_eq_true rfl) rfl (fun v1 σ1 h => by obtain ⟨r, h1, h2, -⟩ := h; rw [h1, h2]; exact bI_nar _) ?_
  refine m_aload_n dX11_isCar_0 0 rfl ?_
  refine m_callV (As := []) dX11_isCar_1 cv_X11_180 (by first | assumption | rfl) (by decide) (by omega) rfl rfl (Nat.le_of_ble_eq_true rfl) (c_reads (d := d - 1) (by omega) L0 L1 h0 h1 l0 l1) (fun v1 σ1 hv1 => ?_)
  refine m_qVP hv1 (fun ha => ?_)
  clear hv1 v1
  rename mS => s1
  refine m_iload_n dX11_isCar_4 1 rfl ?_
  refine m_iconst (v := 0) dX11_isCar_5 (by decide) ?_
  refine m_aload_n dX11_isCar_6 0 rfl ?_
  refine m_getI 2 dX11_isCar_7 fl_X11_161_10 rfl (by decide) (by first | assumption | rfl) ?_
  refine mW.top ha.1.1 ?_
  refine m_iconst (v := 1) dX11_isCar_10 (by decide) ?_
  refine m_isub dX11_isCar_11 ?_
  refine m_callS (As := [_, _, _]) dX11_isCar_12 cs_X11_136 (by omega) rfl rfl (Nat.le_of_ble_eq_true rfl) (c_in (d := d - 1) v 0 _) (fun v1 σ1 hv1 => ?_)
  refine m_qI hv1 ?_
  clear hv1 v1 σ1
  refine m_ireturn dX11_isCar_15 ⟨_, rfl, ?_, ha⟩
  have := parC_n L0 (tx σ 0)
  exact congrArg bI (decide_eq_decide.mpr (and_congr_right fun _ => leN1 (by omega)))
end TD


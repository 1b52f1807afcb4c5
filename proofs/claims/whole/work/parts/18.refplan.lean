/-! ===== the reference's plans ===== -/
def othP (X Y : Nat → Int32) (k : Nat) (x y : Int32) : Nat → Bool
  | 0 => false
  | i + 1 => othP X Y k x y i || decide (i ≠ k ∧ X i = x ∧ Y i = y)
theorem othP_cong {X Y X1 Y1 : Nat → Int32} {k : Nat} {x y : Int32} : ∀ n, (∀ i, i < n → i ≠ k → X i = X1 i ∧ Y i = Y1 i) → othP X Y k x y n = othP X1 Y1 k x y n
  | 0, _ => rfl
  | n + 1, h => by
    unfold othP
    rw [othP_cong n (fun i hi => h i (by omega))]
    by_cases e : n = k
    · rw [decide_eq_false (fun q => q.1 e), decide_eq_false (fun q => q.1 e)]
    · rw [(h n (by omega) e).1, (h n (by omega) e).2]
/-- the debate with car k told elsewhere -/
def setXY (D : Deb) (k : Nat) (x y : Int32) : Deb := ((D.1.1, fun i j => if i = k ∧ j = 1 then x else if i = k ∧ j = 2 then y else D.1.2 i j), D.2)
/-- with another sort (0) or weight (4) -/
def setJ (D : Deb) (k q : Nat) (v : Int32) : Deb := ((D.1.1, fun i j => if i = k ∧ j = q then v else D.1.2 i j), D.2)
/-- with one steer more -/
def addS (D : Deb) (mo k v : Int32) : Deb := (D.1, (D.2.1.1 + 1, fun i j => if i = D.2.1.1 then (if j = 0 then mo else if j = 1 then k else v) else D.2.1.2 i j), D.2.2)
/-- with one bell more -/
def addE (D : Deb) (t : Int32) : Deb := (D.1, D.2.1, (D.2.2.1.1 + 1, fun i j => if i = D.2.2.1.1 then (if j = 1 then t else 0) else D.2.2.1.2 i j), D.2.2.2)
def maskD (D : Deb) (m : Int32) : Deb := (D.1, D.2.1, D.2.2.1, m)
def ptsD (D : Deb) (k : Nat) : Int32 := (RSt D 24).2.2.2.1 k
/-- the best and the most of the first c cells -/
def stP (D : Deb) (k : Nat) : Nat → Int32 × Int32
  | 0 => (-1, -1)
  | c + 1 => if othP (fun i => D.1.2 i 1) (fun i => D.1.2 i 2) k (nI (c / 6)) (nI (c % 6)) D.1.1 = true then stP D k c else if ptsD (setXY D k (nI (c / 6)) (nI (c % 6))) k ≤ (stP D k c).2 then stP D k c else (nI c, ptsD (setXY D k (nI (c / 6)) (nI (c % 6))) k)
def btD (D : Deb) (k mo : Nat) (v : Nat) : Deb := if v = 0 then D else addS D (nI mo) (nI k) (nI v)
def btP (D : Deb) (k mo : Nat) : Nat → Int32 × Int32
  | 0 => (-1, -1)
  | v + 1 => if ptsD (btD D k mo v) k ≤ (btP D k mo v).2 then btP D k mo v else (nI v, ptsD (btD D k mo v) k)
def rgP (D : Deb) : Nat → Int32 × Int32
  | 0 => (-1, -1)
  | t + 1 => if nI (ayD (addE D (nI t)) t) ≤ (rgP D t).2 then rgP D t else (nI t, nI (ayD (addE D (nI t)) t))
section PL
variable {G : mG} {l : Launch} {d : Nat} {σ : mS}
theorem repR.run {s s1 : mS} {D : Deb} (h : repR s D) (f : fW wRun s s1) : repR s1 D := by
  obtain ⟨h1, h2, h3, h4, h5, h6, h7, h8, h9, h10, h11⟩ := h
  refine ⟨h1, h2, h3, (f.at (by omega)).trans h4, (f.at (by omega)).trans h5, (f.at (by omega)).trans h6, (f.at (by omega)).trans h7, fun k hk j hj => (f.at (by omega)).trans (h8 k hk j hj), fun k hk j hj => (f.at (by omega)).trans (h9 k hk j hj), fun k hk j hj => (f.at (by omega)).trans (h10 k hk j hj), h11⟩
theorem dX11_isOther_0 : decode cX11_isOther 0 = .ok (.iconst 0, 1) := by decide +kernel
theorem dX11_isOther_1 : decode cX11_isOther 1 = .ok (.istore 4, 2) := by decide +kernel
theorem dX11_isOther_3 : decode cX11_isOther 3 = .ok (.iconst 0, 1) := by decide +kernel
theorem dX11_isOther_4 : decode cX11_isOther 4 = .ok (.istore 5, 2) := by decide +kernel
theorem dX11_isOther_6 : decode cX11_isOther 6 = .ok (.iload 5, 2) := by decide +kernel
theorem dX11_isOther_8 : decode cX11_isOther 8 = .ok (.aload_n 0, 1) := by decide +kernel
theorem dX11_isOther_9 : decode cX11_isOther 9 = .ok (.getfield 161, 3) := by decide +kernel
theorem dX11_isOther_12 : decode cX11_isOther 12 = .ok (.if_icmp .ge 49, 3) := by decide +kernel
theorem dX11_isOther_15 : decode cX11_isOther 15 = .ok (.iload 4, 2) := by decide +kernel
theorem dX11_isOther_17 : decode cX11_isOther 17 = .ok (.ifCond .ne 31, 3) := by decide +kernel
theorem dX11_isOther_20 : decode cX11_isOther 20 = .ok (.iload 5, 2) := by decide +kernel
theorem dX11_isOther_22 : decode cX11_isOther 22 = .ok (.iload_n 1, 1) := by decide +kernel
theorem dX11_isOther_23 : decode cX11_isOther 23 = .ok (.if_icmp .eq 29, 3) := by decide +kernel
theorem dX11_isOther_26 : decode cX11_isOther 26 = .ok (.aload_n 0, 1) := by decide +kernel
theorem dX11_isOther_27 : decode cX11_isOther 27 = .ok (.getfield 19, 3) := by decide +kernel
theorem dX11_isOther_30 : decode cX11_isOther 30 = .ok (.iload 5, 2) := by decide +kernel
theorem dX11_isOther_32 : decode cX11_isOther 32 = .ok (.iaload, 1) := by decide +kernel
theorem dX11_isOther_33 : decode cX11_isOther 33 = .ok (.iload_n 2, 1) := by decide +kernel
theorem dX11_isOther_34 : decode cX11_isOther 34 = .ok (.if_icmp .ne 18, 3) := by decide +kernel
theorem dX11_isOther_37 : decode cX11_isOther 37 = .ok (.aload_n 0, 1) := by decide +kernel
theorem dX11_isOther_38 : decode cX11_isOther 38 = .ok (.getfield 22, 3) := by decide +kernel
theorem dX11_isOther_41 : decode cX11_isOther 41 = .ok (.iload 5, 2) := by decide +kernel
theorem dX11_isOther_43 : decode cX11_isOther 43 = .ok (.iaload, 1) := by decide +kernel
theorem dX11_isOther_44 : decode cX11_isOther 44 = .ok (.iload_n 3, 1) := by decide +kernel
theorem dX11_isOther_45 : decode cX11_isOther 45 = .ok (.if_icmp .ne 7, 3) := by decide +kernel
theorem dX11_isOther_48 : decode cX11_isOther 48 = .ok (.iconst 1, 1) := by decide +kernel
theorem dX11_isOther_49 : decode cX11_isOther 49 = .ok (.goto 4, 3) := by decide +kernel
theorem dX11_isOther_52 : decode cX11_isOther 52 = .ok (.iconst 0, 1) := by decide +kernel
theorem dX11_isOther_53 : decode cX11_isOther 53 = .ok (.istore 4, 2) := by decide +kernel
theorem dX11_isOther_55 : decode cX11_isOther 55 = .ok (.iinc 5 1, 3) := by decide +kernel
theorem dX11_isOther_58 : decode cX11_isOther 58 = .ok (.goto (-52), 3) := by decide +kernel
theorem dX11_isOther_61 : decode cX11_isOther 61 = .ok (.iload 4, 2) := by decide +kernel
theorem dX11_isOther_63 : decode cX11_isOther 63 = .ok (.ireturn, 1) := by decide +kernel
theorem c_bestOf (hd : 8 ≤ d) (L0 L1 e : Nat) (ok : okR σ L0 L1 e) : mMet G l d kX11_bestOf [.ref 111] σ (qIP (fun r s => r = bestP (RSt (Dt σ L0 L1 e) 24).2.2.2.1 (Dt σ L0 L1 e).1.1 ∧ fW wScr σ s)) := by
  have hn : (Dt σ L0 L1 e).1.1 ≤ 8 := parC_n L0 (tx σ 0)
  refine mMet.of cm_X11_bestOf rfl (Nat.le_of_ble_eq_true rfl) rfl (fun v1 σ1 h => by obtain ⟨r, h1, -⟩ := h; rw [h1]; rfl) ?_
  refine m_aload_n dX11_bestOf_0 0 rfl ?_
  refine m_callV (As := []) dX11_bestOf_1 cv_X11_276 (by first | assumption | rfl) (by decide) (by omega) rfl rfl (Nat.le_of_ble_eq_true rfl) (c_runsTold (d := d - 1) (by omega) L0 L1 e ok) (fun v1 σ1 hv1 => ?_)
  refine m_qVP hv1 (fun ha => ?_)
  clear hv1 v1
  rename mS => s
  obtain ⟨o, a2, a3, a4⟩ := ha
  generalize Dt σ L0 L1 e = D at *
  refine m_iconst (v := -1) dX11_bestOf_4 (by decide) ?_
  refine m_istore_n (ls1 := [(1, _), (0, _)]) dX11_bestOf_5 (by decide) rfl ?_
  refine m_iconst (v := 0) dX11_bestOf_6 (by decide) ?_
  refine m_istore_n (ls1 := [(2, _), (1, _), (0, _)]) dX11_bestOf_7 (by decide) rfl ?_
  refine down (N := D.1.1) (fun k (f : Int32) => f = bestP (s.1 131) k) (fun k f => mW G l d kX11_bestOf 8 [(2, .int (nI k)), (1, .int f), (0, .ref 111)] [] s _) ?_ ?_ 0 (-1) (Nat.zero_le _) rfl
  · intro f hf
    refine m_iload_n dX11_bestOf_8 0 rfl ?_
    refine m_aload_n dX11_bestOf_9 2 rfl ?_
    refine m_getI 2 dX11_bestOf_10 fl_X11_161_10 rfl (by decide) (by first | assumption | rfl) ?_
    refine m_icmp_ge dX11_bestOf_13 48 (by decide) (fun h => ?_) (fun h => ?_)
    · refine m_iload_n dX11_bestOf_48 1 rfl ?_
      exact m_ireturn dX11_bestOf_49 ⟨_, rfl, hf.trans (bestP_cong _ (by omega) (fun k hk => (o.2.1 k hk).2.2.2.1)), a4⟩
    · exact (ge_yes h a2).elim
  · intro k f hk hf ih
    have hk8 : k < 8 := by omega
    refine m_iload_n dX11_bestOf_8 0 rfl ?_
    refine m_aload_n dX11_bestOf_9 2 rfl ?_
    refine m_getI 2 dX11_bestOf_10 fl_X11_161_10 rfl (by decide) (by first | assumption | rfl) ?_
    refine m_icmp_ge dX11_bestOf_13 48 (by decide) (fun h => ?_) (fun h => ?_)
    · exact (ge_no a2 h rfl hk (by omega)).elim
    · clear h
      refine m_iload_n dX11_bestOf_16 1 rfl ?_
      refine m_iconst (v := -1) dX11_bestOf_17 (by decide) ?_
      refine m_icmp_eq dX11_bestOf_18 36 (by decide) (fun h18 => ?_) (fun h18 => ?_)
      · refine m_iload_n dX11_bestOf_36 0 rfl ?_
        refine m_goto dX11_bestOf_37 41 (by decide) ?_
        refine m_istore_n (ls1 := [(1, _), (2, _), (0, _)]) dX11_bestOf_41 (by decide) rfl ?_
        refine m_iinc (v := nI (k + 1)) (ls1 := [(2, _), (1, _), (0, _)]) dX11_bestOf_42 1 rfl (nI_1 k) (by decide) rfl ?_
        refine m_goto dX11_bestOf_45 8 (by decide) ?_
        exact ih _ (by rw [bestP]; split <;> rename_i q <;> first | rfl | exact absurd (Or.inl (hf ▸ h18)) q)
      · rcases bestP_of (s.1 131) k (by omega) with h1 | ⟨j, hj, h1⟩
        · exact absurd (hf.trans h1) h18
        · have hj8 : j < 8 := by omega
          rw [h1] at hf
          subst hf
          have hb : bestP (s.1 131) (k + 1) = if s.1 131 j < s.1 131 k then nI k else nI j := by
            rw [bestP, h1, nI_clamp (by omega)]
            split <;> rename_i q
            · rcases q with q | q
              · exact absurd q h18
              · rw [if_pos q]
            · rw [if_neg (fun z => q (Or.inr z))]
          refine m_aload_n dX11_bestOf_21 2 rfl ?_
          refine m_getR 25 131 dX11_bestOf_22 fl_X11_67_10 rfl (by decide) rfl (by first | assumption | rfl) ?_
          refine m_iload_n dX11_bestOf_25 0 rfl ?_
          refine m_iald dX11_bestOf_26 (by first | assumption | rfl) k rfl (by first | assumption | omega | decide) ?_
          refine m_aload_n dX11_bestOf_27 2 rfl ?_
          refine m_getR 25 131 dX11_bestOf_28 fl_X11_67_10 rfl (by decide) rfl (by first | assumption | rfl) ?_
          refine m_iload_n dX11_bestOf_31 1 rfl ?_
          refine m_iald dX11_bestOf_32 (by first | assumption | rfl) j rfl (by first | assumption | omega | decide) ?_
          refine m_icmp_le dX11_bestOf_33 40 (by decide) (fun h33 => ?_) (fun h33 => ?_)
          · refine m_iload_n dX11_bestOf_40 1 rfl ?_
            refine m_istore_n (ls1 := [(1, _), (2, _), (0, _)]) dX11_bestOf_41 (by decide) rfl ?_
            refine m_iinc (v := nI (k + 1)) (ls1 := [(2, _), (1, _), (0, _)]) dX11_bestOf_42 1 rfl (nI_1 k) (by decide) rfl ?_
            refine m_goto dX11_bestOf_45 8 (by decide) ?_
            refine ih _ ?_
            rw [hb]
            split <;> rename_i q <;> first | rfl | exact absurd q (Int32.not_lt.mpr h33) | exact absurd (Int32.not_le.mp h33) q
          · refine m_iload_n dX11_bestOf_36 0 rfl ?_
            refine m_goto dX11_bestOf_37 41 (by decide) ?_
            refine m_istore_n (ls1 := [(1, _), (2, _), (0, _)]) dX11_bestOf_41 (by decide) rfl ?_
            refine m_iinc (v := nI (k + 1)) (ls1 := [(2, _), (1, _), (0, _)]) dX11_bestOf_42 1 rfl (nI_1 k) (by decide) rfl ?_
            refine m_goto dX11_bestOf_45 8 (by decide) ?_
            refine ih _ ?_
            rw [hb]
            split <;> rename_i q <;> first | rfl | exact absurd q (Int32.not_lt.mpr h33) | exact absurd (Int32.not_le.mp h33) q
theorem c_jamOf (hd : 8 ≤ d) (L0 L1 e : Nat) (ok : okR σ L0 L1 e) (w : Int32) : mMet G l d kX11_jamOf [.ref 111, .int w] σ (qIP (fun r s => r = (if w = 0 then nI (jmP (jmD (Dt σ L0 L1 e)) 23) else jmD (Dt σ L0 L1 e) (jmP (jmD (Dt σ L0 L1 e)) 23)) ∧ fW wScr σ s)) := by
  refine mMet.of cm_X11_jamOf rfl (Nat.le_of_ble_eq_true rfl) rfl (fun v1 σ1 h => by obtain ⟨r, h1, -⟩ := h; rw [h1]; rfl) ?_
  refine m_aload_n dX11_jamOf_0 0 rfl ?_
  refine m_callV (As := []) dX11_jamOf_1 cv_X11_276 (by first | assumption | rfl) (by decide) (by omega) rfl rfl (Nat.le_of_ble_eq_true rfl) (c_runsTold (d := d - 1) (by omega) L0 L1 e ok) (fun v1 σ1 hv1 => ?_)
  refine m_qVP hv1 (fun ha => ?_)
  clear hv1 v1
  rename mS => s
  obtain ⟨o, a2, a3, a4⟩ := ha
  generalize Dt σ L0 L1 e = D at *
  refine m_iconst (v := 0) dX11_jamOf_4 (by decide) ?_
  refine m_istore_n (ls1 := [(2, _), (0, _), (1, _)]) dX11_jamOf_5 (by decide) rfl ?_
  refine m_iconst (v := 1) dX11_jamOf_6 (by decide) ?_
  refine m_istore_n (ls1 := [(3, _), (2, _), (0, _), (1, _)]) dX11_jamOf_7 (by decide) rfl ?_
  refine down (N := 24) (fun t (f : Nat) => 1 ≤ t ∧ f = jmP (jmD D) (t - 1)) (fun t f => mW G l d kX11_jamOf 8 [(3, .int (nI t)), (2, .int (nI f)), (0, .ref 111), (1, .int w)] [] s _) ?_ ?_ 1 0 (by decide) ⟨Nat.le_refl _, rfl⟩
  · rintro f ⟨-, hf⟩
    have hf24 : f < 24 := by have := jmP_le (jmD D) (24 - 1); omega
    subst hf
    refine m_iload_n dX11_jamOf_8 0 rfl ?_
    refine m_bipush (v := 24) dX11_jamOf_9 (by decide) ?_
    refine m_icmp_ge dX11_jamOf_11 41 (by decide) (fun h => ?_) (fun h => ?_)
    · refine m_iload_n dX11_jamOf_41 3 rfl ?_
      refine m_sel (pcJ := 55) ?_ (fun kt0 kf0 => m_if_ne dX11_jamOf_42 49 (by decide) (fun h => (m_aload_n dX11_jamOf_49 2 rfl (m_getR 39 141 dX11_jamOf_50 fl_X11_97_10 rfl (by decide) rfl (by first | assumption | rfl) (m_iload_n dX11_jamOf_53 1 rfl (m_iald dX11_jamOf_54 (by first | assumption | rfl) (jmP (jmD D) 23) rfl (by first | assumption | omega | decide) (mW.top (o.1 _ hf24).2.2.1 (kf0 h))))))) (fun h => (m_iload_n dX11_jamOf_45 1 rfl (m_goto dX11_jamOf_46 55 (by decide) (kt0 h)))))
      exact m_ireturn dX11_jamOf_55 ⟨_, rfl, rfl, a4⟩
    · exact absurd (Int32.le_refl _) h
  · rintro t f ht ⟨ht1, hf⟩ ih
    have hf24 : f < 24 := by have := jmP_le (jmD D) (t - 1); omega
    obtain ⟨u, rfl⟩ : ∃ u, t = u + 1 := ⟨t - 1, by omega⟩
    have hf' : f = jmP (jmD D) u := hf
    refine m_iload_n dX11_jamOf_8 0 rfl ?_
    refine m_bipush (v := 24) dX11_jamOf_9 (by decide) ?_
    refine m_icmp_ge dX11_jamOf_11 41 (by decide) (fun h => ?_) (fun h => ?_)
    · exact absurd ((nle (a := 24) (by omega) (by omega)).mp h) (by omega)
    · clear h
      have e1 := (o.1 (u + 1) ht).2.2.1
      have e2 := (o.1 f hf24).2.2.1
      refine m_aload_n dX11_jamOf_14 2 rfl ?_
      refine m_getR 39 141 dX11_jamOf_15 fl_X11_97_10 rfl (by decide) rfl (by first | assumption | rfl) ?_
      refine m_iload_n dX11_jamOf_18 0 rfl ?_
      refine m_iald dX11_jamOf_19 (by first | assumption | rfl) (u + 1) rfl (by first | assumption | omega | decide) ?_
      refine mW.top e1 ?_
      refine m_aload_n dX11_jamOf_20 2 rfl ?_
      refine m_getR 39 141 dX11_jamOf_21 fl_X11_97_10 rfl (by decide) rfl (by first | assumption | rfl) ?_
      refine m_iload_n dX11_jamOf_24 1 rfl ?_
      refine m_iald dX11_jamOf_25 (by first | assumption | rfl) f rfl (by first | assumption | omega | decide) ?_
      refine mW.top e2 ?_
      refine m_icmp_le dX11_jamOf_26 33 (by decide) (fun h26 => ?_) (fun h26 => ?_)
      · refine m_iload_n dX11_jamOf_33 1 rfl ?_
        refine m_istore_n (ls1 := [(2, _), (3, _), (0, _), (1, _)]) dX11_jamOf_34 (by decide) rfl ?_
        refine m_iinc (v := nI (u + 1 + 1)) (ls1 := [(3, _), (2, _), (0, _), (1, _)]) dX11_jamOf_35 1 rfl (nI_1 (u + 1)) (by decide) rfl ?_
        refine m_goto dX11_jamOf_38 8 (by decide) ?_
        refine ih _ ⟨by omega, ?_⟩
        show _ = jmP (jmD D) (u + 1)
        rw [jmP, ← hf']
        split <;> rename_i q <;> first | rfl | exact absurd q (Int32.not_lt.mpr h26) | exact absurd (Int32.not_le.mp h26) q
      · refine m_iload_n dX11_jamOf_29 0 rfl ?_
        refine m_goto dX11_jamOf_30 34 (by decide) ?_
        refine m_istore_n (ls1 := [(2, _), (3, _), (0, _), (1, _)]) dX11_jamOf_34 (by decide) rfl ?_
        refine m_iinc (v := nI (u + 1 + 1)) (ls1 := [(3, _), (2, _), (0, _), (1, _)]) dX11_jamOf_35 1 rfl (nI_1 (u + 1)) (by decide) rfl ?_
        refine m_goto dX11_jamOf_38 8 (by decide) ?_
        refine ih _ ⟨by omega, ?_⟩
        show _ = jmP (jmD D) (u + 1)
        rw [jmP, ← hf']
        split <;> rename_i q <;> first | rfl | exact absurd q (Int32.not_lt.mpr h26) | exact absurd (Int32.not_le.mp h26) q
theorem c_carriedOf (hd : 8 ≤ d) (L0 L1 e : Nat) (ok : okR σ L0 L1 e) : mMet G l d kX11_carriedOf [.ref 111] σ (qIP (fun r s => r = nI (crP (Dt σ L0 L1 e).1.1 (fun t => rungD (Dt σ L0 L1 e) (nI t)) (ayD (Dt σ L0 L1 e)) 24) ∧ fW wScr σ s)) := by
  have hn : (Dt σ L0 L1 e).1.1 ≤ 8 := parC_n L0 (tx σ 0)
  refine mMet.of cm_X11_carriedOf rfl (Nat.le_of_ble_eq_true rfl) rfl (fun v1 σ1 h => by obtain ⟨r, h1, -⟩ := h; rw [h1]; rfl) ?_
  refine m_aload_n dX11_carriedOf_0 0 rfl ?_
  refine m_callV (As := []) dX11_carriedOf_1 cv_X11_276 (by first | assumption | rfl) (by decide) (by omega) rfl rfl (Nat.le_of_ble_eq_true rfl) (c_runsTold (d := d - 1) (by omega) L0 L1 e ok) (fun v1 σ1 hv1 => ?_)
  refine m_qVP hv1 (fun ha => ?_)
  clear hv1 v1
  rename mS => s
  obtain ⟨o, a2, a3, a4⟩ := ha
  generalize Dt σ L0 L1 e = D at *
  refine m_iconst (v := 0) dX11_carriedOf_4 (by decide) ?_
  refine m_istore_n (ls1 := [(1, _), (0, _)]) dX11_carriedOf_5 (by decide) rfl ?_
  refine m_iconst (v := 0) dX11_carriedOf_6 (by decide) ?_
  refine m_istore_n (ls1 := [(2, _), (1, _), (0, _)]) dX11_carriedOf_7 (by decide) rfl ?_
  refine down (N := 24) (fun t (f : Int32) => f = nI (crP D.1.1 (fun t => rungD D (nI t)) (ayD D) t)) (fun t f => mW G l d kX11_carriedOf 8 [(2, .int (nI t)), (1, .int f), (0, .ref 111)] [] s _) ?_ ?_ 0 0 (Nat.zero_le _) rfl
  · intro f hf
    refine m_iload_n dX11_carriedOf_8 0 rfl ?_
    refine m_bipush (v := 24) dX11_carriedOf_9 (by decide) ?_
    refine m_icmp_ge dX11_carriedOf_11 52 (by decide) (fun h => ?_) (fun h => ?_)
    · refine m_iload_n dX11_carriedOf_52 1 rfl ?_
      exact m_ireturn dX11_carriedOf_53 ⟨_, rfl, hf, a4⟩
    · exact absurd (Int32.le_refl _) h
  · intro t f ht hf ih
    have e1 := (o.1 t ht).1
    refine m_iload_n dX11_carriedOf_8 0 rfl ?_
    refine m_bipush (v := 24) dX11_carriedOf_9 (by decide) ?_
    refine m_icmp_ge dX11_carriedOf_11 52 (by decide) (fun h => ?_) (fun h => ?_)
    · exact absurd ((nle (a := 24) (by omega) (by omega)).mp h) (by omega)
    · clear h
      refine m_iload_n dX11_carriedOf_14 1 rfl ?_
      refine m_aload_n dX11_carriedOf_15 2 rfl ?_
      refine m_getR 38 140 dX11_carriedOf_16 fl_X11_94_10 rfl (by decide) rfl (by first | assumption | rfl) ?_
      refine m_iload_n dX11_carriedOf_19 0 rfl ?_
      refine m_iald dX11_carriedOf_20 (by first | assumption | rfl) t rfl (by first | assumption | omega | decide) ?_
      refine mW.top e1 ?_
      refine m_iconst (v := 1) dX11_carriedOf_21 (by decide) ?_
      refine m_icmp_ne dX11_carriedOf_22 43 (by decide) (fun h22 => ?_) (fun h22 => ?_)
      · refine m_iconst (v := 0) dX11_carriedOf_43 (by decide) ?_
        refine m_iadd dX11_carriedOf_44 ?_
        refine m_istore_n (ls1 := [(1, _), (2, _), (0, _)]) dX11_carriedOf_45 (by decide) rfl ?_
        refine m_iinc (v := nI (t + 1)) (ls1 := [(2, _), (1, _), (0, _)]) dX11_carriedOf_46 1 rfl (nI_1 t) (by decide) rfl ?_
        refine m_goto dX11_carriedOf_49 8 (by decide) ?_
        refine ih _ ?_
        rw [hf, crP]
        split <;> rename_i q <;> first | exact nI_add _ _ | exact absurd q.1 h22 | exact absurd q.2 (Int32.not_lt.mpr h36) | exact absurd (And.intro h22 (Int32.not_le.mp h36)) q
      · refine m_iconst (v := 2) dX11_carriedOf_25 (by decide) ?_
        refine m_aload_n dX11_carriedOf_26 2 rfl ?_
        refine m_iload_n dX11_carriedOf_27 0 rfl ?_
        refine m_callV (As := [_]) dX11_carriedOf_28 cv_X11_285 (by first | assumption | rfl) (by decide) (by omega) rfl rfl (Nat.le_of_ble_eq_true rfl) (c_ayesAt (d := d - 1) _ hn o a2 t ht) (fun v1 σ1 hv1 => ?_)
        refine m_qI hv1 ?_
        clear hv1 v1 σ1
        refine m_imul dX11_carriedOf_31 ?_
        refine m_aload_n dX11_carriedOf_32 2 rfl ?_
        refine m_getI 2 dX11_carriedOf_33 fl_X11_161_10 rfl (by decide) (by first | assumption | rfl) ?_
        refine mW.top a2 ?_
        refine m_icmp_le dX11_carriedOf_36 43 (by decide) (fun h36 => ?_) (fun h36 => ?_)
        · refine m_iconst (v := 0) dX11_carriedOf_43 (by decide) ?_
          refine m_iadd dX11_carriedOf_44 ?_
          refine m_istore_n (ls1 := [(1, _), (2, _), (0, _)]) dX11_carriedOf_45 (by decide) rfl ?_
          refine m_iinc (v := nI (t + 1)) (ls1 := [(2, _), (1, _), (0, _)]) dX11_carriedOf_46 1 rfl (nI_1 t) (by decide) rfl ?_
          refine m_goto dX11_carriedOf_49 8 (by decide) ?_
          refine ih _ ?_
          rw [hf, crP]
          split <;> rename_i q <;> first | exact nI_add _ _ | exact absurd q.1 h22 | exact absurd q.2 (Int32.not_lt.mpr h36) | exact absurd (And.intro h22 (Int32.not_le.mp h36)) q
        · refine m_iconst (v := 1) dX11_carriedOf_39 (by decide) ?_
          refine m_goto dX11_carriedOf_40 44 (by decide) ?_
          refine m_iadd dX11_carriedOf_44 ?_
          refine m_istore_n (ls1 := [(1, _), (2, _), (0, _)]) dX11_carriedOf_45 (by decide) rfl ?_
          refine m_iinc (v := nI (t + 1)) (ls1 := [(2, _), (1, _), (0, _)]) dX11_carriedOf_46 1 rfl (nI_1 t) (by decide) rfl ?_
          refine m_goto dX11_carriedOf_49 8 (by decide) ?_
          refine ih _ ?_
          rw [hf, crP]
          split <;> rename_i q <;> first | exact nI_add _ _ | exact absurd q.1 h22 | exact absurd q.2 (Int32.not_lt.mpr h36) | exact absurd (And.intro h22 (Int32.not_le.mp h36)) q
theorem c_isOther (n : Nat) (hn : n ≤ 8) (hc : σ.1 111 2 = nI n) (k : Nat) (hk : k < 8) (x y : Int32) : mMet G l d kX11_isOther [.ref 111, .int (nI k), .int x, .int y] σ (qI (bI (othP (σ.1 115) (σ.1 116) k x y n)) σ) := by
  refine mMet.of cm_X11_isOther rfl (Nat.le_of_ble_eq_true rfl) rfl (fun v1 σ1 h => by rw [h.1]; exact bI_nar _) ?_
  refine m_iconst (v := 0) dX11_isOther_0 (by decide) ?_
  refine m_istore (ls1 := [(4, _), (0, _), (1, _), (2, _), (3, _)]) dX11_isOther_1 (by decide) rfl ?_
  refine m_iconst (v := 0) dX11_isOther_3 (by decide) ?_
  refine m_istore (ls1 := [(5, _), (4, _), (0, _), (1, _), (2, _), (3, _)]) dX11_isOther_4 (by decide) rfl ?_
  refine down (N := n) (fun i (f : Int32) => f = bI (othP (σ.1 115) (σ.1 116) k x y i)) (fun i f => mW G l d kX11_isOther 6 [(5, .int (nI i)), (4, .int f), (0, .ref 111), (1, .int (nI k)), (2, .int x), (3, .int y)] [] σ _) ?_ ?_ 0 0 (Nat.zero_le _) rfl
  · intro f hf
    refine m_iload dX11_isOther_6 0 rfl ?_
    refine m_aload_n dX11_isOther_8 2 rfl ?_
    refine m_getI 2 dX11_isOther_9 fl_X11_161_10 rfl (by decide) (by first | assumption | rfl) ?_
    refine m_icmp_ge dX11_isOther_12 61 (by decide) (fun h => ?_) (fun h => ?_)
    · refine m_iload dX11_isOther_61 1 rfl ?_
      exact m_ireturn dX11_isOther_63 ⟨by rw [hf], rfl⟩
    · exact (ge_yes h hc).elim
  · intro i f hi hf ih
    have hi9 : i < 9 := by omega
    refine m_iload dX11_isOther_6 0 rfl ?_
    refine m_aload_n dX11_isOther_8 2 rfl ?_
    refine m_getI 2 dX11_isOther_9 fl_X11_161_10 rfl (by decide) (by first | assumption | rfl) ?_
    refine m_icmp_ge dX11_isOther_12 61 (by decide) (fun h => ?_) (fun h => ?_)
    · exact (ge_no hc h rfl hi (by omega)).elim
    · clear h
      have hik : ∀ {P : Prop}, nI i = nI k → i ≠ k → P := fun e q => absurd ((neq (by omega) (by omega)).mp e) q
      refine m_iload dX11_isOther_15 1 rfl ?_
      refine m_if_ne dX11_isOther_17 48 (by decide) (fun h17 => ?_) (fun h17 => ?_)
      · refine m_iconst (v := 1) dX11_isOther_48 (by decide) ?_
        refine m_goto dX11_isOther_49 53 (by decide) ?_
        refine m_istore (ls1 := [(4, _), (5, _), (0, _), (1, _), (2, _), (3, _)]) dX11_isOther_53 (by decide) rfl ?_
        refine m_iinc (v := nI (i + 1)) (ls1 := [(5, _), (4, _), (0, _), (1, _), (2, _), (3, _)]) dX11_isOther_55 1 rfl (nI_1 i) (by decide) rfl ?_
        refine m_goto dX11_isOther_58 6 (by decide) ?_
        refine ih _ ?_
        rw [hf] at h17
        rw [othP]
        first | (rw [bI_ne.mp h17]; rfl) | (rw [bI_eq.mp h17, Bool.false_or]; first | exact bI_pos (And.intro (fun z => h23 (by rw [z])) (And.intro h34 h45)) | exact bI_neg (fun q => by first | exact hik h23 q.1 | exact absurd q.2.1 h34 | exact absurd q.2.2 h45))
      · refine m_iload dX11_isOther_20 0 rfl ?_
        refine m_iload_n dX11_isOther_22 3 rfl ?_
        refine m_icmp_eq dX11_isOther_23 52 (by decide) (fun h23 => ?_) (fun h23 => ?_)
        · refine m_iconst (v := 0) dX11_isOther_52 (by decide) ?_
          refine m_istore (ls1 := [(4, _), (5, _), (0, _), (1, _), (2, _), (3, _)]) dX11_isOther_53 (by decide) rfl ?_
          refine m_iinc (v := nI (i + 1)) (ls1 := [(5, _), (4, _), (0, _), (1, _), (2, _), (3, _)]) dX11_isOther_55 1 rfl (nI_1 i) (by decide) rfl ?_
          refine m_goto dX11_isOther_58 6 (by decide) ?_
          refine ih _ ?_
          rw [hf] at h17
          rw [othP]
          first | (rw [bI_ne.mp h17]; rfl) | (rw [bI_eq.mp h17, Bool.false_or]; first | exact bI_pos (And.intro (fun z => h23 (by rw [z])) (And.intro h34 h45)) | exact bI_neg (fun q => by first | exact hik h23 q.1 | exact absurd q.2.1 h34 | exact absurd q.2.2 h45))
        · refine m_aload_n dX11_isOther_26 2 rfl ?_
          refine m_getR 4 115 dX11_isOther_27 fl_X11_19_10 rfl (by decide) rfl (by first | assumption | rfl) ?_
          refine m_iload dX11_isOther_30 0 rfl ?_
          refine m_iald dX11_isOther_32 (by first | assumption | rfl) i rfl (by first | assumption | omega | decide) ?_
          refine m_iload_n dX11_isOther_33 4 rfl ?_
          refine m_icmp_ne dX11_isOther_34 52 (by decide) (fun h34 => ?_) (fun h34 => ?_)
          · refine m_iconst (v := 0) dX11_isOther_52 (by decide) ?_
            refine m_istore (ls1 := [(4, _), (5, _), (0, _), (1, _), (2, _), (3, _)]) dX11_isOther_53 (by decide) rfl ?_
            refine m_iinc (v := nI (i + 1)) (ls1 := [(5, _), (4, _), (0, _), (1, _), (2, _), (3, _)]) dX11_isOther_55 1 rfl (nI_1 i) (by decide) rfl ?_
            refine m_goto dX11_isOther_58 6 (by decide) ?_
            refine ih _ ?_
            rw [hf] at h17
            rw [othP]
            first | (rw [bI_ne.mp h17]; rfl) | (rw [bI_eq.mp h17, Bool.false_or]; first | exact bI_pos (And.intro (fun z => h23 (by rw [z])) (And.intro h34 h45)) | exact bI_neg (fun q => by first | exact hik h23 q.1 | exact absurd q.2.1 h34 | exact absurd q.2.2 h45))
          · refine m_aload_n dX11_isOther_37 2 rfl ?_
            refine m_getR 5 116 dX11_isOther_38 fl_X11_22_10 rfl (by decide) rfl (by first | assumption | rfl) ?_
            refine m_iload dX11_isOther_41 0 rfl ?_
            refine m_iald dX11_isOther_43 (by first | assumption | rfl) i rfl (by first | assumption | omega | decide) ?_
            refine m_iload_n dX11_isOther_44 5 rfl ?_
            refine m_icmp_ne dX11_isOther_45 52 (by decide) (fun h45 => ?_) (fun h45 => ?_)
            · refine m_iconst (v := 0) dX11_isOther_52 (by decide) ?_
              refine m_istore (ls1 := [(4, _), (5, _), (0, _), (1, _), (2, _), (3, _)]) dX11_isOther_53 (by decide) rfl ?_
              refine m_iinc (v := nI (i + 1)) (ls1 := [(5, _), (4, _), (0, _), (1, _), (2, _), (3, _)]) dX11_isOther_55 1 rfl (nI_1 i) (by decide) rfl ?_
              refine m_goto dX11_isOther_58 6 (by decide) ?_
              refine ih _ ?_
              rw [hf] at h17
              rw [othP]
              first | (rw [bI_ne.mp h17]; rfl) | (rw [bI_eq.mp h17, Bool.false_or]; first | exact bI_pos (And.intro (fun z => h23 (by rw [z])) (And.intro h34 h45)) | exact bI_neg (fun q => by first | exact hik h23 q.1 | exact absurd q.2.1 h34 | exact absurd q.2.2 h45))
            · refine m_iconst (v := 1) dX11_isOther_48 (by decide) ?_
              refine m_goto dX11_isOther_49 53 (by decide) ?_
              refine m_istore (ls1 := [(4, _), (5, _), (0, _), (1, _), (2, _), (3, _)]) dX11_isOther_53 (by decide) rfl ?_
              refine m_iinc (v := nI (i + 1)) (ls1 := [(5, _), (4, _), (0, _), (1, _), (2, _), (3, _)]) dX11_isOther_55 1 rfl (nI_1 i) (by decide) rfl ?_
              refine m_goto dX11_isOther_58 6 (by decide) ?_
              refine ih _ ?_
              rw [hf] at h17
              rw [othP]
              first | (rw [bI_ne.mp h17]; rfl) | (rw [bI_eq.mp h17, Bool.false_or]; first | exact bI_pos (And.intro (fun z => h23 (by rw [z])) (And.intro h34 h45)) | exact bI_neg (fun q => by first | exact hik h23 q.1 | exact absurd q.2.1 h34 | exact absurd q.2.2 h45))
theorem rep_XY {s : mS} {D : Deb} {k : Nat} {x y x1 y1 : Int32} (hk : k < D.1.1) (h : repR s (setXY D k x y)) : repR (us (us s 115 k x1) 116 k y1) (setXY D k x1 y1) := by
  obtain ⟨h1, h2, h3, h4, h5, h6, h7, h8, h9, h10, h11⟩ := h
  refine ⟨h1, h2, h3, ?_, ?_, ?_, ?_, fun i hi j hj => ?_, fun i hi j hj => ?_, fun i hi j hj => ?_, h11⟩
  · simp [us_at]; exact h4
  · simp [us_at]; exact h5
  · simp [us_at]; exact h6
  · simp [us_at]; exact h7
  · have h8' := h8 i hi j hj
    unfold setXY at h8' ⊢
    simp only [us_at] at h8' ⊢
    by_cases e : i = k
    · subst e
      rcases (show j = 0 ∨ j = 1 ∨ j = 2 ∨ j = 3 ∨ j = 4 by omega) with rfl | rfl | rfl | rfl | rfl <;> simp at h8' ⊢ <;> exact h8'
    · simp [e] at h8' ⊢
      exact h8'
  · simp [us_at]
    rw [if_neg (by omega), if_neg (by omega)]
    exact h9 i hi j hj
  · simp [us_at]
    rw [if_neg (by omega), if_neg (by omega)]
    exact h10 i hi j hj
end PL


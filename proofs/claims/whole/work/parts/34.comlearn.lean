/-! ===== the class: what the texts tell ===== -/
theorem mC_ne (L : Nat) (b : Nat → Int32) (k j : Nat) (hj : j < 5) : mC L b k j = -1 ↔ PC L b k j = false := by
  unfold mC
  by_cases q : PC L b k j = true
  · rw [if_pos q]
    refine ⟨fun z => ?_, fun z => absurd q (by rw [z]; decide)⟩
    exfalso
    rcases (show j = 0 ∨ j = 1 ∨ j = 2 ∨ j = 3 ∨ j = 4 by omega) with rfl | rfl | rfl | rfl | rfl
    · exact of_decide_eq_true q z
    · exact absurd (of_decide_eq_true q).1 (by rw [z]; decide)
    · exact absurd (of_decide_eq_true q).1.1 (by rw [z]; decide)
    · exact of_decide_eq_true q z
    · exact absurd (of_decide_eq_true q).1 (by rw [z]; decide)
  · rw [if_neg q]
    exact ⟨fun _ => Bool.eq_false_iff.mpr q, fun _ => rfl⟩
theorem m1_48 : (-1 : Int32) - 48 = -49 := by decide
theorem PC_out (L : Nat) (b : Nat → Int32) (k j : Nat) (h : L ≤ 6 * k + j) : PC L b k j = false := by
  have e : btE L b (6 * k + j) = -1 := by unfold btE; rw [if_neg (by omega)]
  match j with
  | 0 => exact decide_eq_false (fun q => q (by show sortB (btE L b (6 * k)) = -1; rw [show btE L b (6 * k) = -1 from e]; decide))
  | 1 => exact decide_eq_false (fun q => absurd q (by show ¬ six (btE L b (6 * k + 1) - 48); rw [e]; decide))
  | 2 => exact decide_eq_false (fun q => absurd q.1 (by show ¬ six (btE L b (6 * k + 2) - 48); rw [e]; decide))
  | 3 => exact decide_eq_false (fun q => q (by show wayB (btE L b (6 * k + 3)) = -1; rw [e]; decide))
  | 4 => exact decide_eq_false (fun q => absurd q (by show ¬ (1 ≤ btE L b (6 * k + 4) - 48 ∧ btE L b (6 * k + 4) - 48 ≤ 9); rw [e]; decide))
  | _ + 5 => rfl
/-- goodC counts the signs that are well -/
theorem goodC_eq (L : Nat) (b : Nat → Int32) (k : Nat) (hk : k < 8) : goodC L b k = if PC L b k 0 = false then 0 else if PC L b k 1 = false then 1 else if PC L b k 2 = false then 2 else if PC L b k 3 = false then 3 else if PC L b k 4 = false then 4 else 5 := by
  have n8 : ¬ k = 8 := by omega
  unfold goodC
  have e0 : (k = 8 ∨ carB L b k 0 = -1) ↔ PC L b k 0 = false := ⟨fun q => decide_eq_false (fun z => z (q.resolve_left n8)), fun q => Or.inr (Decidable.not_not.mp (of_decide_eq_false q))⟩
  have e1 : ¬ six (carB L b k 1) ↔ PC L b k 1 = false := ⟨fun q => decide_eq_false q, fun q => of_decide_eq_false q⟩
  have e2 : (¬ six (carB L b k 2) ∨ takB (fun i => carB L b i 1) (fun i => carB L b i 2) (carB L b k 1) (carB L b k 2) k = true) ↔ PC L b k 2 = false := by
    constructor
    · intro q
      refine decide_eq_false (fun z => q.elim (fun w => w z.1) (fun w => ?_))
      rw [z.2] at w; exact absurd w (by decide)
    · intro q
      have q := of_decide_eq_false q
      by_cases z : six (carB L b k 2)
      · exact Or.inr (by
          cases h : takB (fun i => carB L b i 1) (fun i => carB L b i 2) (carB L b k 1) (carB L b k 2) k
          · exact absurd ⟨z, h⟩ q
          · rfl)
      · exact Or.inl z
  have e3 : carB L b k 3 = -1 ↔ PC L b k 3 = false := ⟨fun q => decide_eq_false (fun z => z q), fun q => Decidable.not_not.mp (of_decide_eq_false q)⟩
  have e4 : ¬ (1 ≤ carB L b k 4 ∧ carB L b k 4 ≤ 9) ↔ PC L b k 4 = false := ⟨fun q => decide_eq_false q, fun q => of_decide_eq_false q⟩
  simp only [e0, e1, e2, e3, e4]
theorem goodC_at (L : Nat) (b : Nat → Int32) (k j : Nat) (hk : k < 8) (hj : j < 5) (hp : ∀ i, i < j → PC L b k i = true) (hn : PC L b k j = false) : goodC L b k = j := by
  rw [goodC_eq L b k hk]
  have t : ∀ i, i < j → ¬ PC L b k i = false := fun i hi q => by rw [hp i hi] at q; exact absurd q (by decide)
  rcases (show j = 0 ∨ j = 1 ∨ j = 2 ∨ j = 3 ∨ j = 4 by omega) with rfl | rfl | rfl | rfl | rfl
  · rw [if_pos hn]
  · rw [if_neg (t 0 (by decide)), if_pos hn]
  · rw [if_neg (t 0 (by decide)), if_neg (t 1 (by decide)), if_pos hn]
  · rw [if_neg (t 0 (by decide)), if_neg (t 1 (by decide)), if_neg (t 2 (by decide)), if_pos hn]
  · rw [if_neg (t 0 (by decide)), if_neg (t 1 (by decide)), if_neg (t 2 (by decide)), if_neg (t 3 (by decide)), if_pos hn]
theorem goodC_all (L : Nat) (b : Nat → Int32) (k : Nat) (hk : k < 8) (hp : ∀ i, i < 5 → PC L b k i = true) : goodC L b k = 5 := by
  rw [goodC_eq L b k hk]
  have t : ∀ i, i < 5 → ¬ PC L b k i = false := fun i hi q => by rw [hp i hi] at q; exact absurd q (by decide)
  rw [if_neg (t 0 (by decide)), if_neg (t 1 (by decide)), if_neg (t 2 (by decide)), if_neg (t 3 (by decide)), if_neg (t 4 (by decide))]
theorem mS_ne (L : Nat) (b : Nat → Int32) (k j : Nat) (hj : j < 3) : mS' L b k j = -1 ↔ PS L b k j = false := by
  unfold mS'
  by_cases q : PS L b k j = true
  · rw [if_pos q]
    refine ⟨fun z => ?_, fun z => absurd q (by rw [z]; decide)⟩
    exfalso
    rcases (show j = 0 ∨ j = 1 ∨ j = 2 by omega) with rfl | rfl | rfl
    · obtain ⟨i, hi, e⟩ := sub_in 97 23 (of_decide_eq_true q).1 (of_decide_eq_true q).2 (by decide)
      have z : btE L b (4 * k) - nI 97 = -1 := z
      rw [e] at z
      have := congrArg Int32.toInt z
      rw [nI_toInt (by omega)] at this
      have e1 : (-1 : Int32).toInt = -1 := rfl
      omega
    · obtain ⟨i, hi, e⟩ := sub_in 48 7 (of_decide_eq_true q).1 (of_decide_eq_true q).2 (by decide)
      have z : btE L b (4 * k + 1) - nI 48 = -1 := z
      rw [e] at z
      have := congrArg Int32.toInt z
      rw [nI_toInt (by omega)] at this
      have e1 : (-1 : Int32).toInt = -1 := rfl
      omega
    · have z : (if btE L b (4 * k + 2) = 108 then (1 : Int32) else 2) = -1 := z
      split at z <;> exact absurd z (by decide)
  · rw [if_neg q]
    exact ⟨fun _ => Bool.eq_false_iff.mpr q, fun _ => rfl⟩
theorem PS_out (L : Nat) (b : Nat → Int32) (k j : Nat) (h : L ≤ 4 * k + j) : PS L b k j = false := by
  have e : btE L b (4 * k + j) = -1 := by unfold btE; rw [if_neg (by omega)]
  match j with
  | 0 => exact decide_eq_false (fun q => absurd q (by rw [show btE L b (4 * k) = -1 from e]; decide))
  | 1 => exact decide_eq_false (fun q => absurd q (by rw [e]; decide))
  | 2 => exact decide_eq_false (fun q => absurd q (by rw [e]; decide))
  | _ + 3 => rfl
theorem goodS_eq (L : Nat) (b : Nat → Int32) (k : Nat) (hk : k < 12) : goodS L b k = if PS L b k 0 = false then 0 else if PS L b k 1 = false then 1 else if PS L b k 2 = false then 2 else 3 := by
  have n8 : ¬ k = 12 := by omega
  unfold goodS
  have e0 : (k = 12 ∨ ¬ (97 ≤ btE L b (4 * k) ∧ btE L b (4 * k) ≤ 120)) ↔ PS L b k 0 = false := ⟨fun q => decide_eq_false (q.resolve_left n8), fun q => Or.inr (of_decide_eq_false q)⟩
  have e1 : ¬ (48 ≤ btE L b (4 * k + 1) ∧ btE L b (4 * k + 1) ≤ 55) ↔ PS L b k 1 = false := ⟨fun q => decide_eq_false q, fun q => of_decide_eq_false q⟩
  have e2 : (btE L b (4 * k + 2) ≠ 108 ∧ btE L b (4 * k + 2) ≠ 114) ↔ PS L b k 2 = false := ⟨fun q => decide_eq_false (fun z => z.elim q.1 q.2), fun q => ⟨fun z => of_decide_eq_false q (Or.inl z), fun z => of_decide_eq_false q (Or.inr z)⟩⟩
  simp only [e0, e1, e2]
theorem goodS_at (L : Nat) (b : Nat → Int32) (k j : Nat) (hk : k < 12) (hj : j < 3) (hp : ∀ i, i < j → PS L b k i = true) (hn : PS L b k j = false) : goodS L b k = j := by
  rw [goodS_eq L b k hk]
  have t : ∀ i, i < j → ¬ PS L b k i = false := fun i hi q => by rw [hp i hi] at q; exact absurd q (by decide)
  rcases (show j = 0 ∨ j = 1 ∨ j = 2 by omega) with rfl | rfl | rfl
  · rw [if_pos hn]
  · rw [if_neg (t 0 (by decide)), if_pos hn]
  · rw [if_neg (t 0 (by decide)), if_neg (t 1 (by decide)), if_pos hn]
theorem goodS_all (L : Nat) (b : Nat → Int32) (k : Nat) (hk : k < 12) (hp : ∀ i, i < 3 → PS L b k i = true) : goodS L b k = 3 := by
  rw [goodS_eq L b k hk]
  have t : ∀ i, i < 3 → ¬ PS L b k i = false := fun i hi q => by rw [hp i hi] at q; exact absurd q (by decide)
  rw [if_neg (t 0 (by decide)), if_neg (t 1 (by decide)), if_neg (t 2 (by decide))]
section CL
variable {G : mG} {l : Launch} {d : Nat} {σ : mS} {μ : mM} {pc : Nat} {ls : List (Nat × Value)} {st : List Value} {Q : Option Value → mS → Prop}
theorem m_lookup {dflt : Int} {ps : Array (Int × Int)} {len : Nat} {x : Int32} {off : Int} (hd : decode μ.2.1 pc = .ok (.lookupswitch dflt ps, len)) (hp : (ps.toList.zip (ps.toList.drop 1)).all (fun (a, next) => a.1 < next.1) = true) (ho : Op.lookupswitch.offset ps.toList dflt x.toInt = off) (tgt : Nat) (ht : (pc : Int) + off = (tgt : Int)) (k : mW G l d μ tgt ls st σ Q) : mW G l d μ pc ls (.int x :: st) σ Q :=
  fun p e s m args below meth c H locs cells slots lsr Z R hR hF hP hS hl hQ => lv_lookup hF.1 hF.2.1 hd hp ho ht (k p e s m args below meth c H locs cells slots lsr Z R hR hF hP hS hl hQ)
theorem c_meaningS (hd : 4 ≤ d) (L : Nat) (b : Nat → Int32) (k j v : Nat) (hk : k < 12) (hj : j < 3) (hv : v < 256) (hL : 4 * k + j < L) (hb : b (4 * k + j) = nI v) : mMet G l d kX6_meaning [.ref 15, .int (nI k), .int (nI j), .int (nI v)] σ (qI (mS' L b k j) σ) := by
  have he : btE L b (4 * k + j) = nI v := by unfold btE; rw [if_pos hL, hb]
  have hc := b255 v hv
  refine mMet.of cm_X6_meaning rfl (Nat.le_of_ble_eq_true rfl) rfl (fun v1 σ1 h => by rw [h.1]; rfl) ?_
  rcases (show j = 0 ∨ j = 1 ∨ j = 2 by omega) with rfl | rfl | rfl
  · refine m_iload_n dX6_meaning_0 2 rfl ?_
    refine m_lookup dX6_meaning_1 (by decide) (off := 27) (by decide) 28 (by decide) ?_
    refine m_ldcS (i := 4) dX6_meaning_28 _ rfl rfl rfl ?_
    refine m_iload_n dX6_meaning_30 3 rfl ?_
    refine m_callX (As := [_]) dX6_meaning_31 cx_X6_15 _ rfl (by omega) rfl rfl (Nat.le_of_ble_eq_true rfl) (c_indexOf (d := d - 1) (i := 4) (by omega) _ rfl (by decide) (by decide) (nI v) hc) (fun v1 σ1 hv1 => ?_)
    refine m_qI hv1 ?_
    clear hv1 v1 σ1
    refine m_ireturn dX6_meaning_34 (qI_of ((ix_mo v hv).trans ?_))
    have e : btE L b (4 * k) = nI v := he
    have e1 : PS L b k 0 = decide (97 ≤ nI v ∧ nI v ≤ 120) := by show decide (97 ≤ btE L b (4 * k) ∧ btE L b (4 * k) ≤ 120) = _; rw [e]
    have e2 : steB L b k 0 = nI v - 97 := by show btE L b (4 * k) - 97 = _; rw [e]
    unfold mS'
    rw [e1, e2]
    by_cases q : 97 ≤ nI v ∧ nI v ≤ 120
    · rw [if_pos q, if_pos (decide_eq_true q)]
    · rw [if_neg q, if_neg (by rw [decide_eq_false q]; decide)]
  · refine m_iload_n dX6_meaning_0 2 rfl ?_
    refine m_lookup dX6_meaning_1 (by decide) (off := 34) (by decide) 35 (by decide) ?_
    refine m_ldcS (i := 5) dX6_meaning_35 _ rfl rfl rfl ?_
    refine m_iload_n dX6_meaning_37 3 rfl ?_
    refine m_callX (As := [_]) dX6_meaning_38 cx_X6_15 _ rfl (by omega) rfl rfl (Nat.le_of_ble_eq_true rfl) (c_indexOf (d := d - 1) (i := 5) (by omega) _ rfl (by decide) (by decide) (nI v) hc) (fun v1 σ1 hv1 => ?_)
    refine m_qI hv1 ?_
    clear hv1 v1 σ1
    refine m_ireturn dX6_meaning_41 (qI_of ((ix_car v hv).trans ?_))
    have e1 : PS L b k 1 = decide (48 ≤ nI v ∧ nI v ≤ 55) := by show decide (48 ≤ btE L b (4 * k + 1) ∧ btE L b (4 * k + 1) ≤ 55) = _; rw [he]
    have e2 : steB L b k 1 = nI v - 48 := by show btE L b (4 * k + 1) - 48 = _; rw [he]
    unfold mS'
    rw [e1, e2]
    by_cases q : 48 ≤ nI v ∧ nI v ≤ 55
    · rw [if_pos q, if_pos (decide_eq_true q)]
    · rw [if_neg q, if_neg (by rw [decide_eq_false q]; decide)]
  · have e1 : PS L b k 2 = decide (nI v = 108 ∨ nI v = 114) := by show decide (btE L b (4 * k + 2) = 108 ∨ btE L b (4 * k + 2) = 114) = _; rw [he]
    have e2 : steB L b k 2 = if nI v = 108 then 1 else 2 := by show (if btE L b (4 * k + 2) = 108 then (1 : Int32) else 2) = _; rw [he]
    unfold mS'
    rw [e1, e2]
    refine m_iload_n dX6_meaning_0 2 rfl ?_
    refine m_lookup dX6_meaning_1 (by decide) (off := 41) (by decide) 42 (by decide) ?_
    refine m_iload_n dX6_meaning_42 3 rfl ?_
    refine m_bipush (v := 108) dX6_meaning_43 (by decide) ?_
    refine m_icmp_ne dX6_meaning_45 52 (by decide) (fun h1 => ?_) (fun h1 => ?_)
    · refine m_iload_n dX6_meaning_52 3 rfl ?_
      refine m_bipush (v := 114) dX6_meaning_53 (by decide) ?_
      refine m_icmp_ne dX6_meaning_55 62 (by decide) (fun h2 => ?_) (fun h2 => ?_)
      · refine m_iconst (v := -1) dX6_meaning_62 (by decide) ?_
        exact m_ireturn dX6_meaning_63 (qI_of (by rw [if_neg (by simp [h1, h2])]))
      · refine m_iconst (v := 2) dX6_meaning_58 (by decide) ?_
        refine m_goto dX6_meaning_59 63 (by decide) ?_
        exact m_ireturn dX6_meaning_63 (qI_of (by rw [if_pos (by simp [h2]), if_neg h1]))
    · refine m_iconst (v := 1) dX6_meaning_48 (by decide) ?_
      refine m_goto dX6_meaning_49 63 (by decide) ?_
      exact m_ireturn dX6_meaning_63 (qI_of (by rw [if_pos (by simp [h1]), if_pos h1]))

theorem c_takesC (hd : 5 ≤ d) (L : Nat) (b : Nat → Int32) (k j v : Nat) (hk : k < 8) (hj : j < 5) (hv : v < 256) (hL : 6 * k + j < L) (hb : b (6 * k + j) = nI v) (hold : ∀ i, i < k → σ.1 (7 + i) 1 = carB L b i 1 ∧ σ.1 (7 + i) 2 = carB L b i 2) (hX : j = 2 → σ.1 (7 + k) 1 = carB L b k 1) (hm : σ.1 5 1 = 8) : mMet G l d kX8_takes [.ref 5, .int (nI k), .int (nI j), .int (nI v)] σ (qI (bI (PC L b k j)) (us σ (7 + k) j (mC L b k j))) := by
  have hs : mshp (7 + k) = (11, 5) := by have := sh_car (C := 5) (k := k) (Or.inl rfl) hk; exact this
  have hs2 : mshp (5 + 1 + 1 + k) = (11, 5) := hs
  refine mMet.of cm_X8_takes rfl (Nat.le_of_ble_eq_true rfl) rfl (fun v1 σ1 h => by rw [h.1]; exact bI_nar _) ?_
  refine m_iload_n dX8_takes_0 1 rfl ?_
  refine m_aload_n dX8_takes_1 0 rfl ?_
  refine m_getI 1 dX8_takes_2 fl_X8_19_0 rfl (by decide) (by first | assumption | rfl) ?_
  refine mW.top hm ?_
  refine m_icmp_lt dX8_takes_5 10 (by decide) (fun h => ?_) (fun h => ?_)
  rotate_left
  · exact absurd ((nlt (b := 8) (by omega) (by omega)).mpr hk) h
  clear h
  refine m_aload_n dX8_takes_10 0 rfl ?_
  refine m_getR 0 6 dX8_takes_11 fl_X8_15_0 rfl (by decide) rfl (by first | assumption | rfl) ?_
  refine m_iload_n dX8_takes_14 1 rfl ?_
  refine m_aald dX8_takes_15 (by first | assumption | rfl) k rfl (by first | assumption | omega | decide) ?_
  refine m_iload_n dX8_takes_16 2 rfl ?_
  refine m_aload_n dX8_takes_17 0 rfl ?_
  refine m_iload_n dX8_takes_18 1 rfl ?_
  refine m_iload_n dX8_takes_19 2 rfl ?_
  refine m_iload_n dX8_takes_20 3 rfl ?_
  refine m_callU (As := [_, _, _]) dX8_takes_21 cu_meaning_cars rfl rfl rfl (by decide) (show d - 1 < d by omega) rfl rfl (Nat.le_of_ble_eq_true rfl) (c_meaningC (d := d - 1) (by omega) L b k j v hk hj hv hL hb hold hX) (fun v1 σ1 hv1 => ?_)
  refine m_qI hv1 ?_
  clear hv1 v1 σ1
  refine m_iast dX8_takes_24 (by first | assumption | rfl) j rfl (by first | assumption | omega | decide) ?_
  have e1 : (us σ (6 + 1 + k) j (mC L b k j)).1 (6 + 1 + k) j = mC L b k j := by rw [us_at, if_pos ⟨rfl, rfl⟩]
  refine m_aload_n dX8_takes_25 0 rfl ?_
  refine m_getR 0 6 dX8_takes_26 fl_X8_15_0 rfl (by decide) rfl (by first | assumption | rfl) ?_
  refine m_iload_n dX8_takes_29 1 rfl ?_
  refine m_aald dX8_takes_30 (by first | assumption | rfl) k rfl (by first | assumption | omega | decide) ?_
  refine m_iload_n dX8_takes_31 2 rfl ?_
  refine m_iald dX8_takes_32 (by first | assumption | rfl) j rfl (by first | assumption | omega | decide) ?_
  refine mW.top e1 ?_
  refine m_iconst (v := -1) dX8_takes_33 (by decide) ?_
  refine m_icmp_eq dX8_takes_34 41 (by decide) (fun h => ?_) (fun h => ?_)
  · refine m_iconst (v := 0) dX8_takes_41 (by decide) ?_
    refine m_ireturn dX8_takes_42 ⟨?_, rfl⟩
    rw [(mC_ne L b k j hj).mp h]; rfl
  · refine m_iconst (v := 1) dX8_takes_37 (by decide) ?_
    refine m_goto dX8_takes_38 42 (by decide) ?_
    refine m_ireturn dX8_takes_42 ⟨?_, rfl⟩
    have q : PC L b k j = true := by
      cases hq : PC L b k j
      · exact absurd ((mC_ne L b k j hj).mpr hq) h
      · rfl
    rw [q]; rfl
/-- what is read stands in the class's rows -/
def lrnC (L : Nat) (b : Nat → Int32) (s : mS) : Prop := s.1 5 4 = (parC L b).1 ∧ s.1 5 3 = nI (parC L b).2 ∧ ∀ k, k < (parC L b).2 → ∀ j, j < 5 → s.1 (7 + k) j = carB L b k j
abbrev wLC : Nat → Nat → Prop := fun y z => (y = 5 ∧ (z = 3 ∨ z = 4)) ∨ (7 ≤ y ∧ y < 7 + 8)
theorem c_learnC (hd : 6 ≤ d) (L : Nat) (hL : σ.1 1 1 = nI L) (hL47 : L ≤ 47) (hby : ∀ i, i < L → ∃ v, v < 256 ∧ σ.1 2 i = nI v) (hm : σ.1 5 1 = 8) (hp : σ.1 5 2 = 5) : mMet G l d kX8_learn [.ref 5, .ref 1] σ (qVP (fun s => lrnC L (σ.1 2) s ∧ fW wLC σ s)) := by
  refine mMet.of cm_X8_learn rfl (Nat.le_of_ble_eq_true rfl) rfl (fun v1 σ1 h => by rw [h.1]; trivial) ?_
  refine m_aload_n dX8_learn_0 0 rfl ?_
  refine m_iconst (v := -1) dX8_learn_1 (by decide) ?_
  refine m_putI 4 dX8_learn_2 fw_X8_9_0 rfl (by decide) rfl rfl (by first | assumption | rfl) ?_
  refine m_iconst (v := 0) dX8_learn_5 (by decide) ?_
  refine m_istore_n (ls1 := [(2, _), (0, _), (1, _)]) dX8_learn_6 (by decide) rfl ?_
  refine m_iconst (v := 0) dX8_learn_7 (by decide) ?_
  refine m_istore_n (ls1 := [(3, _), (2, _), (0, _), (1, _)]) dX8_learn_8 (by decide) rfl ?_
  refine m_iconst (v := 0) dX8_learn_9 (by decide) ?_
  refine m_istore (ls1 := [(4, _), (3, _), (2, _), (0, _), (1, _)]) dX8_learn_10 (by decide) rfl ?_
  generalize hb0 : σ.1 2 = b
  -- the end, with a fault at m
  have bad : ∀ (s : mS) (rw_ pt i m : Nat), fW wLC σ s → i ≤ 1000 → m ≤ 47 → s.1 5 4 = nI m → (parC L b) = (nI m, 0) → mW G l d kX8_learn 102 [(4, .int (nI i)), (3, .int (nI pt)), (2, .int (nI rw_)), (0, .ref 5), (1, .ref 1)] [] s (qVP (fun s => lrnC L b s ∧ fW wLC σ s)) := by
    intro s rw_ pt i m f hi hm1 h4 hpar
    have hne : ¬ nI m = -1 := fun q => by
      have := congrArg Int32.toInt q
      rw [nI_toInt (by omega)] at this
      have e1 : (-1 : Int32).toInt = -1 := rfl
      omega
    refine m_aload_n dX8_learn_102 3 rfl ?_
    refine m_getI 4 dX8_learn_103 fl_X8_9_0 rfl (by decide) (by first | assumption | rfl) ?_
    refine mW.top h4 ?_
    refine m_iconst (v := -1) dX8_learn_106 (by decide) ?_
    refine m_icmp_ne dX8_learn_107 133 (by decide) (fun h => ?_) (fun h => ?_)
    rotate_left
    · exact absurd h hne
    clear h
    refine m_aload_n dX8_learn_133 3 rfl ?_
    refine m_aload_n dX8_learn_134 3 rfl ?_
    refine m_getI 4 dX8_learn_135 fl_X8_9_0 rfl (by decide) (by first | assumption | rfl) ?_
    refine mW.top h4 ?_
    refine m_iconst (v := -1) dX8_learn_138 (by decide) ?_
    refine m_icmp_ne dX8_learn_139 155 (by decide) (fun h => ?_) (fun h => ?_)
    rotate_left
    · exact absurd h hne
    clear h
    refine m_iconst (v := 0) dX8_learn_155 (by decide) ?_
    refine m_putI 3 dX8_learn_156 fw_X8_38_0 rfl (by decide) rfl rfl (by first | assumption | rfl) ?_
    refine m_return dX8_learn_159 ⟨rfl, ⟨?_, ?_, ?_⟩, fW.us (by omega) f⟩
    · rw [us_at, if_neg (by omega), h4, hpar]
    · rw [us_at, if_pos ⟨rfl, rfl⟩, hpar]; rfl
    · rw [hpar]; exact fun k hk => absurd hk (Nat.not_lt_zero _)
  -- from the head of the loop, with a fault at m
  have badH : ∀ (s : mS) (rw_ pt i m : Nat), fW wLC σ s → i ≤ 1000 → m ≤ 47 → s.1 5 4 = nI m → (parC L b) = (nI m, 0) → mW G l d kX8_learn 12 [(4, .int (nI i)), (3, .int (nI pt)), (2, .int (nI rw_)), (0, .ref 5), (1, .ref 1)] [] s (qVP (fun s => lrnC L b s ∧ fW wLC σ s)) := by
    intro s rw_ pt i m f hi hm1 h4 hpar
    have hne : ¬ nI m = -1 := fun q => by
      have := congrArg Int32.toInt q
      rw [nI_toInt (by omega)] at this
      have e1 : (-1 : Int32).toInt = -1 := rfl
      omega
    refine m_iload dX8_learn_12 0 rfl ?_
    refine m_aload_n dX8_learn_14 4 rfl ?_
    refine m_getI 1 dX8_learn_15 fl_X8_25_7 rfl (by decide) (by first | assumption | rfl) ?_
    refine mW.top ((f.at (by omega)).trans hL) ?_
    refine m_icmp_ge dX8_learn_18 102 (by decide) (fun h => ?_) (fun h => ?_)
    · exact bad s rw_ pt i m f hi hm1 h4 hpar
    clear h
    refine m_aload_n dX8_learn_21 3 rfl ?_
    refine m_getI 4 dX8_learn_22 fl_X8_9_0 rfl (by decide) (by first | assumption | rfl) ?_
    refine mW.top h4 ?_
    refine m_iconst (v := -1) dX8_learn_25 (by decide) ?_
    refine m_icmp_ne dX8_learn_26 102 (by decide) (fun h => ?_) (fun h => ?_)
    · exact bad s rw_ pt i m f hi hm1 h4 hpar
    · exact absurd h hne
  -- the text's end, without a fault so far
  have fin : ∀ (s : mS) (k j : Nat), fW wLC σ s → 6 * k + j = L → j ≤ 5 → s.1 5 4 = -1 → (L = 0 → parC L b = (-1, 0)) → (0 < L → j ≠ 5 → parC L b = (nI L, 0)) → (0 < L → j = 5 → parC L b = (-1, k + 1)) → (j = 5 → ∀ k', k' ≤ k → ∀ j', j' < 5 → s.1 (7 + k') j' = carB L b k' j') → mW G l d kX8_learn 12 [(4, .int (nI (6 * k + j))), (3, .int (nI j)), (2, .int (nI k)), (0, .ref 5), (1, .ref 1)] [] s (qVP (fun s => lrnC L b s ∧ fW wLC σ s)) := by
    intro s k j f hi hj h4 p0 p1 p2 hrows
    have hLs : s.1 1 1 = nI L := (f.at (by omega)).trans hL
    have hps : s.1 5 2 = 5 := (f.at (by omega)).trans hp
    refine m_iload dX8_learn_12 0 rfl ?_
    refine m_aload_n dX8_learn_14 4 rfl ?_
    refine m_getI 1 dX8_learn_15 fl_X8_25_7 rfl (by decide) (by first | assumption | rfl) ?_
    refine mW.top hLs ?_
    refine m_icmp_ge dX8_learn_18 102 (by decide) (fun h => ?_) (fun h => ?_)
    rotate_left
    · exact absurd ((nle (by omega) (by omega)).mpr (by omega)) h
    clear h
    by_cases hL0 : 0 < L
    · by_cases hjz : j = 5
      · have hpar := p2 hL0 hjz
        refine m_aload_n dX8_learn_102 3 rfl ?_
        refine m_getI 4 dX8_learn_103 fl_X8_9_0 rfl (by decide) (by first | assumption | rfl) ?_
        refine mW.top h4 ?_
        refine m_iconst (v := -1) dX8_learn_106 (by decide) ?_
        refine m_icmp_ne dX8_learn_107 133 (by decide) (fun h => ?_) (fun h => ?_)
        · exact absurd rfl h
        clear h
        refine m_aload_n dX8_learn_110 4 rfl ?_
        refine m_getI 1 dX8_learn_111 fl_X8_25_7 rfl (by decide) (by first | assumption | rfl) ?_
        refine mW.top hLs ?_
        refine m_if_le dX8_learn_114 133 (by decide) (fun h => ?_) (fun h => ?_)
        · exact absurd ((nle (b := 0) (by omega) (by omega)).mp h) (by omega)
        clear h
        refine m_iload_n dX8_learn_117 1 rfl ?_
        refine m_aload_n dX8_learn_118 3 rfl ?_
        refine m_getI 2 dX8_learn_119 fl_X8_22_0 rfl (by decide) (by first | assumption | rfl) ?_
        refine mW.top hps ?_
        refine m_icmp_eq dX8_learn_122 133 (by decide) (fun h => ?_) (fun h => ?_)
        rotate_left
        · exact absurd (by rw [hjz]; rfl) h
        clear h
        refine m_aload_n dX8_learn_133 3 rfl ?_
        refine m_aload_n dX8_learn_134 3 rfl ?_
        refine m_getI 4 dX8_learn_135 fl_X8_9_0 rfl (by decide) (by first | assumption | rfl) ?_
        refine mW.top h4 ?_
        refine m_iconst (v := -1) dX8_learn_138 (by decide) ?_
        refine m_icmp_ne dX8_learn_139 155 (by decide) (fun h => ?_) (fun h => ?_)
        · exact absurd rfl h
        clear h
        refine m_aload_n dX8_learn_142 4 rfl ?_
        refine m_getI 1 dX8_learn_143 fl_X8_25_7 rfl (by decide) (by first | assumption | rfl) ?_
        refine mW.top hLs ?_
        refine m_if_le dX8_learn_146 155 (by decide) (fun h => ?_) (fun h => ?_)
        · exact absurd ((nle (b := 0) (by omega) (by omega)).mp h) (by omega)
        clear h
        refine m_iload_n dX8_learn_149 2 rfl ?_
        refine m_iconst (v := 1) dX8_learn_150 (by decide) ?_
        refine m_iadd dX8_learn_151 ?_
        refine mW.top (nI_1 k) ?_
        refine m_goto dX8_learn_152 156 (by decide) ?_
        refine m_putI 3 dX8_learn_156 fw_X8_38_0 rfl (by decide) rfl rfl (by first | assumption | rfl) ?_
        refine m_return dX8_learn_159 ⟨rfl, ⟨?_, ?_, ?_⟩, fW.us (by omega) f⟩
        · rw [us_at, if_neg (by omega), h4, hpar]
        · rw [us_at, if_pos ⟨rfl, rfl⟩, hpar]
        · rw [hpar]
          intro k' hk' j' hj'
          rw [us_at, if_neg (by omega)]
          exact hrows hjz k' (Nat.le_of_lt_succ hk') j' hj'
      · have hpar := p1 hL0 hjz
        refine m_aload_n dX8_learn_102 3 rfl ?_
        refine m_getI 4 dX8_learn_103 fl_X8_9_0 rfl (by decide) (by first | assumption | rfl) ?_
        refine mW.top h4 ?_
        refine m_iconst (v := -1) dX8_learn_106 (by decide) ?_
        refine m_icmp_ne dX8_learn_107 133 (by decide) (fun h => ?_) (fun h => ?_)
        · exact absurd rfl h
        clear h
        refine m_aload_n dX8_learn_110 4 rfl ?_
        refine m_getI 1 dX8_learn_111 fl_X8_25_7 rfl (by decide) (by first | assumption | rfl) ?_
        refine mW.top hLs ?_
        refine m_if_le dX8_learn_114 133 (by decide) (fun h => ?_) (fun h => ?_)
        · exact absurd ((nle (b := 0) (by omega) (by omega)).mp h) (by omega)
        clear h
        refine m_iload_n dX8_learn_117 1 rfl ?_
        refine m_aload_n dX8_learn_118 3 rfl ?_
        refine m_getI 2 dX8_learn_119 fl_X8_22_0 rfl (by decide) (by first | assumption | rfl) ?_
        refine mW.top hps ?_
        refine m_icmp_eq dX8_learn_122 133 (by decide) (fun h => ?_) (fun h => ?_)
        · exact absurd ((neq (b := 5) (by omega) (by omega)).mp h) hjz
        clear h
        refine m_aload_n dX8_learn_125 3 rfl ?_
        refine m_aload_n dX8_learn_126 4 rfl ?_
        refine m_getI 1 dX8_learn_127 fl_X8_25_7 rfl (by decide) (by first | assumption | rfl) ?_
        refine mW.top hLs ?_
        refine m_putI 4 dX8_learn_130 fw_X8_9_0 rfl (by decide) rfl rfl (by first | assumption | rfl) ?_
        have h4' : (us s 5 4 (nI L)).1 5 4 = nI L := by rw [us_at, if_pos ⟨rfl, rfl⟩]
        have hne : ¬ nI L = -1 := fun q => by
          have := congrArg Int32.toInt q
          rw [nI_toInt (by omega)] at this
          have e1 : (-1 : Int32).toInt = -1 := rfl
          omega
        refine m_aload_n dX8_learn_133 3 rfl ?_
        refine m_aload_n dX8_learn_134 3 rfl ?_
        refine m_getI 4 dX8_learn_135 fl_X8_9_0 rfl (by decide) (by first | assumption | rfl) ?_
        refine mW.top h4' ?_
        refine m_iconst (v := -1) dX8_learn_138 (by decide) ?_
        refine m_icmp_ne dX8_learn_139 155 (by decide) (fun h => ?_) (fun h => ?_)
        rotate_left
        · exact absurd h hne
        clear h
        refine m_iconst (v := 0) dX8_learn_155 (by decide) ?_
        refine m_putI 3 dX8_learn_156 fw_X8_38_0 rfl (by decide) rfl rfl (by first | assumption | rfl) ?_
        refine m_return dX8_learn_159 ⟨rfl, ⟨?_, ?_, ?_⟩, fW.us (by omega) (fW.us (by omega) f)⟩
        · rw [us_at, if_neg (by omega), h4', hpar]
        · rw [us_at, if_pos ⟨rfl, rfl⟩, hpar]; rfl
        · rw [hpar]; exact fun k hk => absurd hk (Nat.not_lt_zero _)
    · have hL00 : L = 0 := by omega
      have hpar := p0 hL00
      refine m_aload_n dX8_learn_102 3 rfl ?_
      refine m_getI 4 dX8_learn_103 fl_X8_9_0 rfl (by decide) (by first | assumption | rfl) ?_
      refine mW.top h4 ?_
      refine m_iconst (v := -1) dX8_learn_106 (by decide) ?_
      refine m_icmp_ne dX8_learn_107 133 (by decide) (fun h => ?_) (fun h => ?_)
      · exact absurd rfl h
      clear h
      refine m_aload_n dX8_learn_110 4 rfl ?_
      refine m_getI 1 dX8_learn_111 fl_X8_25_7 rfl (by decide) (by first | assumption | rfl) ?_
      refine mW.top hLs ?_
      refine m_if_le dX8_learn_114 133 (by decide) (fun h => ?_) (fun h => ?_)
      rotate_left
      · exact absurd ((nle (b := 0) (by omega) (by omega)).mpr (by omega)) h
      clear h
      refine m_aload_n dX8_learn_133 3 rfl ?_
      refine m_aload_n dX8_learn_134 3 rfl ?_
      refine m_getI 4 dX8_learn_135 fl_X8_9_0 rfl (by decide) (by first | assumption | rfl) ?_
      refine mW.top h4 ?_
      refine m_iconst (v := -1) dX8_learn_138 (by decide) ?_
      refine m_icmp_ne dX8_learn_139 155 (by decide) (fun h => ?_) (fun h => ?_)
      · exact absurd rfl h
      clear h
      refine m_aload_n dX8_learn_142 4 rfl ?_
      refine m_getI 1 dX8_learn_143 fl_X8_25_7 rfl (by decide) (by first | assumption | rfl) ?_
      refine mW.top hLs ?_
      refine m_if_le dX8_learn_146 155 (by decide) (fun h => ?_) (fun h => ?_)
      rotate_left
      · exact absurd ((nle (b := 0) (by omega) (by omega)).mpr (by omega)) h
      clear h
      refine m_iconst (v := 0) dX8_learn_155 (by decide) ?_
      refine m_putI 3 dX8_learn_156 fw_X8_38_0 rfl (by decide) rfl rfl (by first | assumption | rfl) ?_
      refine m_return dX8_learn_159 ⟨rfl, ⟨?_, ?_, ?_⟩, fW.us (by omega) f⟩
      · rw [us_at, if_neg (by omega), h4, hpar]
      · rw [us_at, if_pos ⟨rfl, rfl⟩, hpar]; rfl
      · rw [hpar]; exact fun k hk => absurd hk (Nat.not_lt_zero _)
  by_cases hL0 : L = 0
  · refine fin (us σ 5 4 (-1)) 0 0 (fW.us (by omega) fW.rf) (by omega) (by decide) (by rw [us_at, if_pos ⟨rfl, rfl⟩]) (fun _ => by unfold parC; rw [if_pos hL0]) (fun q => absurd q (by omega)) (fun q => absurd q (by omega)) (fun q => absurd q (by decide))
  have hpe : parC L b = parT 5 (goodC L b) L b 9 0 := by unfold parC; rw [if_neg hL0]
  -- row by row
  have key : ∀ (f k : Nat) (s : mS), f + k = 9 → 6 * k ≤ L → parT 5 (goodC L b) L b f k = parC L b → fW wLC σ s → s.1 5 4 = -1 → (∀ k', k' < k → ∀ j', j' < 5 → s.1 (7 + k') j' = carB L b k' j') → mW G l d kX8_learn 12 [(4, .int (nI (6 * k + 0))), (3, .int (nI 0)), (2, .int (nI k)), (0, .ref 5), (1, .ref 1)] [] s (qVP (fun s => lrnC L b s ∧ fW wLC σ s)) := by
    intro f
    induction f with
    | zero => intro k s h1 h2; omega
    | succ f ih =>
      intro k s hfk hkL hpar fr h4 hrows
      have hk : k < 8 := by omega
      have row : ∀ (g j : Nat) (s : mS), g + j = 5 → 6 * k + j ≤ L → (∀ i, i < j → PC L b k i = true) → fW wLC σ s → s.1 5 4 = -1 → (∀ k', k' < k → ∀ j', j' < 5 → s.1 (7 + k') j' = carB L b k' j') → (∀ j', j' < j → s.1 (7 + k) j' = carB L b k j') → mW G l d kX8_learn 12 [(4, .int (nI (6 * k + j))), (3, .int (nI j)), (2, .int (nI k)), (0, .ref 5), (1, .ref 1)] [] s (qVP (fun s => lrnC L b s ∧ fW wLC σ s)) := by
        intro g
        induction g with
        | zero =>
          intro j s hgj hjL hP fr h4 hrows hrow
          have hjz : j = 5 := by omega
          subst hjz
          have hg := goodC_all L b k hk hP
          rw [parT, hg, if_neg (by decide)] at hpar
          by_cases heq : 6 * k + 5 = L
          · rw [if_pos heq] at hpar
            refine fin s k 5 fr heq (Nat.le_refl _) h4 (fun q => absurd q hL0) (fun _ q => absurd rfl q) (fun _ _ => hpar.symm) (fun _ k' hk' j' hj' => ?_)
            rcases Nat.lt_or_eq_of_le hk' with h | rfl
            · exact hrows k' h j' hj'
            · exact hrow j' hj'
          · rw [if_neg heq] at hpar
            obtain ⟨v, hv, hbv⟩ := hby (6 * k + 5) (by omega)
            rw [hb0] at hbv
            have hbt : btE L b (6 * k + 5) = nI v := by unfold btE; rw [if_pos (by omega), hbv]
            have hbs : s.1 2 (6 * k + 5) = nI v := by rw [fr.at (by omega), hb0]; exact hbv
            have hLs : s.1 1 1 = nI L := (fr.at (by omega)).trans hL
            have hps : s.1 5 2 = 5 := (fr.at (by omega)).trans hp
            refine m_iload dX8_learn_12 0 rfl ?_
            refine m_aload_n dX8_learn_14 4 rfl ?_
            refine m_getI 1 dX8_learn_15 fl_X8_25_7 rfl (by decide) (by first | assumption | rfl) ?_
            refine mW.top hLs ?_
            refine m_icmp_ge dX8_learn_18 102 (by decide) (fun h => ?_) (fun h => ?_)
            · exact absurd ((nle (by omega) (by omega)).mp h) (by omega)
            clear h
            refine m_aload_n dX8_learn_21 3 rfl ?_
            refine m_getI 4 dX8_learn_22 fl_X8_9_0 rfl (by decide) (by first | assumption | rfl) ?_
            refine mW.top h4 ?_
            refine m_iconst (v := -1) dX8_learn_25 (by decide) ?_
            refine m_icmp_ne dX8_learn_26 102 (by decide) (fun h => ?_) (fun h => ?_)
            · exact absurd rfl h
            clear h
            refine m_aload_n dX8_learn_29 4 rfl ?_
            refine m_getR 0 (_ + 1) dX8_learn_30 fl_X8_30_7 rfl (by decide) rfl (by first | assumption | rfl) ?_
            refine m_iload dX8_learn_33 0 rfl ?_
            refine m_iald dX8_learn_35 (by first | assumption | rfl) (6 * k + 5) rfl (by first | assumption | omega | decide) ?_
            refine mW.top hbs ?_
            refine m_i2c dX8_learn_36 ?_
            refine mW.top (i2cN hv) ?_
            refine m_istore (ls1 := [(5, _), (4, _), (3, _), (2, _), (0, _), (1, _)]) dX8_learn_37 (by decide) rfl ?_
            refine m_iload_n dX8_learn_39 2 rfl ?_
            refine m_aload_n dX8_learn_40 4 rfl ?_
            refine m_getI 2 dX8_learn_41 fl_X8_22_0 rfl (by decide) (by first | assumption | rfl) ?_
            refine mW.top hps ?_
            refine m_icmp_ne dX8_learn_44 72 (by decide) (fun h => ?_) (fun h => ?_)
            · exact absurd rfl h
            clear h
            refine m_iinc (v := nI (k + 1)) (ls1 := [(2, _), (5, _), (4, _), (3, _), (0, _), (1, _)]) dX8_learn_47 3 rfl (nI_1 k) (by decide) rfl ?_
            refine m_iconst (v := 0) dX8_learn_50 (by decide) ?_
            refine m_istore_n (ls1 := [(3, _), (2, _), (5, _), (4, _), (0, _), (1, _)]) dX8_learn_51 (by decide) rfl ?_
            refine m_aload_n dX8_learn_52 4 rfl ?_
            refine m_iload dX8_learn_53 2 rfl ?_
            refine m_bipush (v := 59) dX8_learn_55 (by decide) ?_
            by_cases h59 : nI v = 59
            · rw [hbt, if_neg (fun q => q h59)] at hpar
              refine m_icmp_ne dX8_learn_57 64 (by decide) (fun h => ?_) (fun h => ?_)
              · exact absurd h59 h
              clear h
              refine m_iconst (v := -1) dX8_learn_60 (by decide) ?_
              refine m_goto dX8_learn_61 66 (by decide) ?_
              refine m_putI 4 dX8_learn_66 fw_X8_9_0 rfl (by decide) rfl rfl (by first | assumption | rfl) ?_
              refine m_goto dX8_learn_69 96 (by decide) ?_
              refine m_iinc (v := nI (6 * (k + 1) + 0)) (ls1 := [(4, _), (3, _), (2, _), (5, _), (0, _), (1, _)]) dX8_learn_96 3 rfl ((nI_1 _).trans (congrArg nI (by omega))) (by decide) rfl ?_
              refine m_goto dX8_learn_99 12 (by decide) ?_
              refine mW.sub (ls1 := [(4, _), (3, _), (2, _), (0, _), (1, _)]) [0, 1, 2, 4, 5] rfl ?_
              refine ih (k + 1) _ (by omega) (by omega) hpar (fW.us (by omega) fr) (by rw [us_at, if_pos ⟨rfl, rfl⟩]) (fun k' hk' j' hj' => ?_)
              rw [us_at, if_neg (by omega)]
              rcases Nat.lt_succ_iff_lt_or_eq.mp hk' with h | rfl
              · exact hrows k' h j' hj'
              · exact hrow j' hj'
            · rw [hbt, if_pos h59] at hpar
              refine m_icmp_ne dX8_learn_57 64 (by decide) (fun h => ?_) (fun h => ?_)
              rotate_left
              · exact absurd h h59
              clear h
              refine m_iload dX8_learn_64 3 rfl ?_
              refine m_putI 4 dX8_learn_66 fw_X8_9_0 rfl (by decide) rfl rfl (by first | assumption | rfl) ?_
              refine m_goto dX8_learn_69 96 (by decide) ?_
              refine m_iinc (v := nI (6 * k + 5 + 1)) (ls1 := [(4, _), (3, _), (2, _), (5, _), (0, _), (1, _)]) dX8_learn_96 3 rfl (nI_1 _) (by decide) rfl ?_
              refine m_goto dX8_learn_99 12 (by decide) ?_
              refine mW.sub (ls1 := [(4, _), (3, _), (2, _), (0, _), (1, _)]) [0, 1, 2, 4, 5] rfl ?_
              exact badH _ (k + 1) 0 (6 * k + 5 + 1) (6 * k + 5) (fW.us (by omega) fr) (by omega) (by omega) (by rw [us_at, if_pos ⟨rfl, rfl⟩]) hpar.symm
        | succ g ihg =>
          intro j s hgj hjL hP fr h4 hrows hrow
          have hj : j < 5 := by omega
          by_cases heq : 6 * k + j = L
          · have hno := PC_out L b k j (by omega)
            have hg := goodC_at L b k j hk hj hP hno
            rw [parT, hg, if_pos hj] at hpar
            exact fin s k j fr heq (by omega) h4 (fun q => absurd q hL0) (fun _ _ => hpar.symm.trans (congrArg (fun x => (nI x, 0)) heq)) (fun _ q => absurd q (by omega)) (fun q => absurd q (by omega))
          · obtain ⟨v, hv, hbv⟩ := hby (6 * k + j) (by omega)
            rw [hb0] at hbv
            have hb := hbv
            have hbs : s.1 2 (6 * k + j) = nI v := by rw [fr.at (by omega), hb0]; exact hbv
            have hLs : s.1 1 1 = nI L := (fr.at (by omega)).trans hL
            have hps : s.1 5 2 = 5 := (fr.at (by omega)).trans hp
            have hms : s.1 5 1 = 8 := (fr.at (by omega)).trans hm
            have hold : ∀ i, i < k → s.1 (7 + i) 1 = carB L b i 1 ∧ s.1 (7 + i) 2 = carB L b i 2 := fun i hi => ⟨hrows i hi 1 (by decide), hrows i hi 2 (by decide)⟩
            have hX : j = 2 → s.1 (7 + k) 1 = carB L b k 1 := fun q => hrow 1 (by omega)
            refine m_iload dX8_learn_12 0 rfl ?_
            refine m_aload_n dX8_learn_14 4 rfl ?_
            refine m_getI 1 dX8_learn_15 fl_X8_25_7 rfl (by decide) (by first | assumption | rfl) ?_
            refine mW.top hLs ?_
            refine m_icmp_ge dX8_learn_18 102 (by decide) (fun h => ?_) (fun h => ?_)
            · exact absurd ((nle (by omega) (by omega)).mp h) (by omega)
            clear h
            refine m_aload_n dX8_learn_21 3 rfl ?_
            refine m_getI 4 dX8_learn_22 fl_X8_9_0 rfl (by decide) (by first | assumption | rfl) ?_
            refine mW.top h4 ?_
            refine m_iconst (v := -1) dX8_learn_25 (by decide) ?_
            refine m_icmp_ne dX8_learn_26 102 (by decide) (fun h => ?_) (fun h => ?_)
            · exact absurd rfl h
            clear h
            refine m_aload_n dX8_learn_29 4 rfl ?_
            refine m_getR 0 (_ + 1) dX8_learn_30 fl_X8_30_7 rfl (by decide) rfl (by first | assumption | rfl) ?_
            refine m_iload dX8_learn_33 0 rfl ?_
            refine m_iald dX8_learn_35 (by first | assumption | rfl) (6 * k + j) rfl (by first | assumption | omega | decide) ?_
            refine mW.top hbs ?_
            refine m_i2c dX8_learn_36 ?_
            refine mW.top (i2cN hv) ?_
            refine m_istore (ls1 := [(5, _), (4, _), (3, _), (2, _), (0, _), (1, _)]) dX8_learn_37 (by decide) rfl ?_
            refine m_iload_n dX8_learn_39 2 rfl ?_
            refine m_aload_n dX8_learn_40 4 rfl ?_
            refine m_getI 2 dX8_learn_41 fl_X8_22_0 rfl (by decide) (by first | assumption | rfl) ?_
            refine mW.top hps ?_
            refine m_icmp_ne dX8_learn_44 72 (by decide) (fun h => ?_) (fun h => ?_)
            rotate_left
            · exact absurd ((neq (b := 5) (by omega) (by omega)).mp h) (by omega)
            clear h
            refine m_aload_n dX8_learn_72 4 rfl ?_
            refine m_aload_n dX8_learn_73 4 rfl ?_
            refine m_iload_n dX8_learn_74 3 rfl ?_
            refine m_iload_n dX8_learn_75 2 rfl ?_
            refine m_iload dX8_learn_76 0 rfl ?_
            refine m_callU (As := [_, _, _]) dX8_learn_78 cu_takes_cars rfl rfl rfl (by decide) (show d - 1 < d by omega) rfl rfl (Nat.le_of_ble_eq_true rfl) (c_takesC (d := d - 1) (by omega) L b k j v hk hj hv (by omega) hb hold hX hms) (fun v1 σ1 hv1 => ?_)
            refine m_qI hv1 ?_
            clear hv1 v1 σ1
            have f1 : fW wLC σ (us s (7 + k) j (mC L b k j)) := fW.us (by omega) fr
            cases hPj : PC L b k j
            · have hg := goodC_at L b k j hk hj hP hPj
              rw [parT, hg, if_pos hj] at hpar
              refine m_if_eq dX8_learn_81 88 (by decide) (fun h => ?_) (fun h => ?_)
              rotate_left
              · exact absurd rfl h
              clear h
              refine m_iload dX8_learn_88 1 rfl ?_
              refine m_putI 4 dX8_learn_90 fw_X8_9_0 rfl (by decide) rfl rfl (by first | assumption | rfl) ?_
              refine m_iinc (v := nI (j + 1)) (ls1 := [(3, _), (5, _), (4, _), (2, _), (0, _), (1, _)]) dX8_learn_93 2 rfl (nI_1 j) (by decide) rfl ?_
              refine m_iinc (v := nI (6 * k + j + 1)) (ls1 := [(4, _), (3, _), (5, _), (2, _), (0, _), (1, _)]) dX8_learn_96 2 rfl (nI_1 _) (by decide) rfl ?_
              refine m_goto dX8_learn_99 12 (by decide) ?_
              refine mW.sub (ls1 := [(4, _), (3, _), (2, _), (0, _), (1, _)]) [0, 1, 3, 4, 5] rfl ?_
              exact badH _ k (j + 1) (6 * k + j + 1) (6 * k + j) (fW.us (by omega) f1) (by omega) (by omega) (by rw [us_at, if_pos ⟨rfl, rfl⟩]) hpar.symm
            · have hmv : mC L b k j = carB L b k j := by unfold mC; rw [hPj]; rfl
              refine m_if_eq dX8_learn_81 88 (by decide) (fun h => ?_) (fun h => ?_)
              · exact absurd h (by decide)
              clear h
              refine m_iconst (v := -1) dX8_learn_84 (by decide) ?_
              refine m_goto dX8_learn_85 90 (by decide) ?_
              refine m_putI 4 dX8_learn_90 fw_X8_9_0 rfl (by decide) rfl rfl (by first | assumption | rfl) ?_
              refine m_iinc (v := nI (j + 1)) (ls1 := [(3, _), (5, _), (4, _), (2, _), (0, _), (1, _)]) dX8_learn_93 2 rfl (nI_1 j) (by decide) rfl ?_
              refine m_iinc (v := nI (6 * k + (j + 1))) (ls1 := [(4, _), (3, _), (5, _), (2, _), (0, _), (1, _)]) dX8_learn_96 2 rfl (nI_1 _) (by decide) rfl ?_
              refine m_goto dX8_learn_99 12 (by decide) ?_
              refine mW.sub (ls1 := [(4, _), (3, _), (2, _), (0, _), (1, _)]) [0, 1, 3, 4, 5] rfl ?_
              refine ihg (j + 1) _ (by omega) (by omega) (fun i hi => ?_) (fW.us (by omega) f1) (by rw [us_at, if_pos ⟨rfl, rfl⟩]) (fun k' hk' j' hj' => ?_) (fun j' hj' => ?_)
              · rcases Nat.lt_succ_iff_lt_or_eq.mp hi with h | rfl
                · exact hP i h
                · exact hPj
              · rw [us_at, if_neg (by omega), us_at, if_neg (by omega)]
                exact hrows k' hk' j' hj'
              · rw [us_at, if_neg (by omega), us_at]
                rcases Nat.lt_succ_iff_lt_or_eq.mp hj' with h | rfl
                · rw [if_neg (by omega)]; exact hrow j' h
                · rw [if_pos ⟨rfl, rfl⟩]; exact hmv
      exact row 5 0 s (by omega) (by omega) (fun i hi => absurd hi (Nat.not_lt_zero _)) fr h4 hrows (fun j' hj' => absurd hj' (Nat.not_lt_zero _))
  exact key 9 0 (us σ 5 4 (-1)) rfl (by omega) hpe.symm (fW.us (by omega) fW.rf) (by rw [us_at, if_pos ⟨rfl, rfl⟩]) (fun k' hk' => absurd hk' (Nat.not_lt_zero _))
theorem c_takesS (hd : 5 ≤ d) (L : Nat) (b : Nat → Int32) (k j v : Nat) (hk : k < 12) (hj : j < 3) (hv : v < 256) (hL : 4 * k + j < L) (hb : b (4 * k + j) = nI v) (hm : σ.1 15 1 = 12) : mMet G l d kX8_takes [.ref 15, .int (nI k), .int (nI j), .int (nI v)] σ (qI (bI (PS L b k j)) (us σ (17 + k) j (mS' L b k j))) := by
  have hs : mshp (17 + k) = (11, 3) := by have := sh_ste (k := k) (by omega); exact this
  have hs2 : mshp (15 + 1 + 1 + k) = (11, 3) := hs
  refine mMet.of cm_X8_takes rfl (Nat.le_of_ble_eq_true rfl) rfl (fun v1 σ1 h => by rw [h.1]; exact bI_nar _) ?_
  refine m_iload_n dX8_takes_0 1 rfl ?_
  refine m_aload_n dX8_takes_1 0 rfl ?_
  refine m_getI 1 dX8_takes_2 fl_X8_19_6 rfl (by decide) (by first | assumption | rfl) ?_
  refine mW.top hm ?_
  refine m_icmp_lt dX8_takes_5 10 (by decide) (fun h => ?_) (fun h => ?_)
  rotate_left
  · exact absurd ((nlt (b := 12) (by omega) (by omega)).mpr hk) h
  clear h
  refine m_aload_n dX8_takes_10 0 rfl ?_
  refine m_getR 0 16 dX8_takes_11 fl_X8_15_6 rfl (by decide) rfl (by first | assumption | rfl) ?_
  refine m_iload_n dX8_takes_14 1 rfl ?_
  refine m_aald dX8_takes_15 (by first | assumption | rfl) k rfl (by first | assumption | omega | decide) ?_
  refine m_iload_n dX8_takes_16 2 rfl ?_
  refine m_aload_n dX8_takes_17 0 rfl ?_
  refine m_iload_n dX8_takes_18 1 rfl ?_
  refine m_iload_n dX8_takes_19 2 rfl ?_
  refine m_iload_n dX8_takes_20 3 rfl ?_
  refine m_callU (As := [_, _, _]) dX8_takes_21 cu_meaning_steers rfl rfl rfl (by decide) (show d - 1 < d by omega) rfl rfl (Nat.le_of_ble_eq_true rfl) (c_meaningS (d := d - 1) (by omega) L b k j v hk hj hv hL hb) (fun v1 σ1 hv1 => ?_)
  refine m_qI hv1 ?_
  clear hv1 v1 σ1
  refine m_iast dX8_takes_24 (by first | assumption | rfl) j rfl (by first | assumption | omega | decide) ?_
  have e1 : (us σ (16 + 1 + k) j (mS' L b k j)).1 (16 + 1 + k) j = mS' L b k j := by rw [us_at, if_pos ⟨rfl, rfl⟩]
  refine m_aload_n dX8_takes_25 0 rfl ?_
  refine m_getR 0 16 dX8_takes_26 fl_X8_15_6 rfl (by decide) rfl (by first | assumption | rfl) ?_
  refine m_iload_n dX8_takes_29 1 rfl ?_
  refine m_aald dX8_takes_30 (by first | assumption | rfl) k rfl (by first | assumption | omega | decide) ?_
  refine m_iload_n dX8_takes_31 2 rfl ?_
  refine m_iald dX8_takes_32 (by first | assumption | rfl) j rfl (by first | assumption | omega | decide) ?_
  refine mW.top e1 ?_
  refine m_iconst (v := -1) dX8_takes_33 (by decide) ?_
  refine m_icmp_eq dX8_takes_34 41 (by decide) (fun h => ?_) (fun h => ?_)
  · refine m_iconst (v := 0) dX8_takes_41 (by decide) ?_
    refine m_ireturn dX8_takes_42 ⟨?_, rfl⟩
    rw [(mS_ne L b k j hj).mp h]; rfl
  · refine m_iconst (v := 1) dX8_takes_37 (by decide) ?_
    refine m_goto dX8_takes_38 42 (by decide) ?_
    refine m_ireturn dX8_takes_42 ⟨?_, rfl⟩
    have q : PS L b k j = true := by
      cases hq : PS L b k j
      · exact absurd ((mS_ne L b k j hj).mpr hq) h
      · rfl
    rw [q]; rfl
/-- what is read stands in the class's rows -/
def lrnS (L : Nat) (b : Nat → Int32) (s : mS) : Prop := s.1 15 4 = (parS L b).1 ∧ s.1 15 3 = nI (parS L b).2 ∧ ∀ k, k < (parS L b).2 → ∀ j, j < 3 → s.1 (17 + k) j = steB L b k j
abbrev wLS : Nat → Nat → Prop := fun y z => (y = 15 ∧ (z = 3 ∨ z = 4)) ∨ (17 ≤ y ∧ y < 17 + 12)
theorem c_learnS (hd : 6 ≤ d) (L : Nat) (hL : σ.1 3 1 = nI L) (hL47 : L ≤ 47) (hby : ∀ i, i < L → ∃ v, v < 256 ∧ σ.1 4 i = nI v) (hm : σ.1 15 1 = 12) (hp : σ.1 15 2 = 3) : mMet G l d kX8_learn [.ref 15, .ref 3] σ (qVP (fun s => lrnS L (σ.1 4) s ∧ fW wLS σ s)) := by
  refine mMet.of cm_X8_learn rfl (Nat.le_of_ble_eq_true rfl) rfl (fun v1 σ1 h => by rw [h.1]; trivial) ?_
  refine m_aload_n dX8_learn_0 0 rfl ?_
  refine m_iconst (v := -1) dX8_learn_1 (by decide) ?_
  refine m_putI 4 dX8_learn_2 fw_X8_9_6 rfl (by decide) rfl rfl (by first | assumption | rfl) ?_
  refine m_iconst (v := 0) dX8_learn_5 (by decide) ?_
  refine m_istore_n (ls1 := [(2, _), (0, _), (1, _)]) dX8_learn_6 (by decide) rfl ?_
  refine m_iconst (v := 0) dX8_learn_7 (by decide) ?_
  refine m_istore_n (ls1 := [(3, _), (2, _), (0, _), (1, _)]) dX8_learn_8 (by decide) rfl ?_
  refine m_iconst (v := 0) dX8_learn_9 (by decide) ?_
  refine m_istore (ls1 := [(4, _), (3, _), (2, _), (0, _), (1, _)]) dX8_learn_10 (by decide) rfl ?_
  generalize hb0 : σ.1 4 = b
  -- the end, with a fault at m
  have bad : ∀ (s : mS) (rw_ pt i m : Nat), fW wLS σ s → i ≤ 1000 → m ≤ 47 → s.1 15 4 = nI m → (parS L b) = (nI m, 0) → mW G l d kX8_learn 102 [(4, .int (nI i)), (3, .int (nI pt)), (2, .int (nI rw_)), (0, .ref 15), (1, .ref 3)] [] s (qVP (fun s => lrnS L b s ∧ fW wLS σ s)) := by
    intro s rw_ pt i m f hi hm1 h4 hpar
    have hne : ¬ nI m = -1 := fun q => by
      have := congrArg Int32.toInt q
      rw [nI_toInt (by omega)] at this
      have e1 : (-1 : Int32).toInt = -1 := rfl
      omega
    refine m_aload_n dX8_learn_102 3 rfl ?_
    refine m_getI 4 dX8_learn_103 fl_X8_9_6 rfl (by decide) (by first | assumption | rfl) ?_
    refine mW.top h4 ?_
    refine m_iconst (v := -1) dX8_learn_106 (by decide) ?_
    refine m_icmp_ne dX8_learn_107 133 (by decide) (fun h => ?_) (fun h => ?_)
    rotate_left
    · exact absurd h hne
    clear h
    refine m_aload_n dX8_learn_133 3 rfl ?_
    refine m_aload_n dX8_learn_134 3 rfl ?_
    refine m_getI 4 dX8_learn_135 fl_X8_9_6 rfl (by decide) (by first | assumption | rfl) ?_
    refine mW.top h4 ?_
    refine m_iconst (v := -1) dX8_learn_138 (by decide) ?_
    refine m_icmp_ne dX8_learn_139 155 (by decide) (fun h => ?_) (fun h => ?_)
    rotate_left
    · exact absurd h hne
    clear h
    refine m_iconst (v := 0) dX8_learn_155 (by decide) ?_
    refine m_putI 3 dX8_learn_156 fw_X8_38_6 rfl (by decide) rfl rfl (by first | assumption | rfl) ?_
    refine m_return dX8_learn_159 ⟨rfl, ⟨?_, ?_, ?_⟩, fW.us (by omega) f⟩
    · rw [us_at, if_neg (by omega), h4, hpar]
    · rw [us_at, if_pos ⟨rfl, rfl⟩, hpar]; rfl
    · rw [hpar]; exact fun k hk => absurd hk (Nat.not_lt_zero _)
  -- from the head of the loop, with a fault at m
  have badH : ∀ (s : mS) (rw_ pt i m : Nat), fW wLS σ s → i ≤ 1000 → m ≤ 47 → s.1 15 4 = nI m → (parS L b) = (nI m, 0) → mW G l d kX8_learn 12 [(4, .int (nI i)), (3, .int (nI pt)), (2, .int (nI rw_)), (0, .ref 15), (1, .ref 3)] [] s (qVP (fun s => lrnS L b s ∧ fW wLS σ s)) := by
    intro s rw_ pt i m f hi hm1 h4 hpar
    have hne : ¬ nI m = -1 := fun q => by
      have := congrArg Int32.toInt q
      rw [nI_toInt (by omega)] at this
      have e1 : (-1 : Int32).toInt = -1 := rfl
      omega
    refine m_iload dX8_learn_12 0 rfl ?_
    refine m_aload_n dX8_learn_14 4 rfl ?_
    refine m_getI 1 dX8_learn_15 fl_X8_25_7 rfl (by decide) (by first | assumption | rfl) ?_
    refine mW.top ((f.at (by omega)).trans hL) ?_
    refine m_icmp_ge dX8_learn_18 102 (by decide) (fun h => ?_) (fun h => ?_)
    · exact bad s rw_ pt i m f hi hm1 h4 hpar
    clear h
    refine m_aload_n dX8_learn_21 3 rfl ?_
    refine m_getI 4 dX8_learn_22 fl_X8_9_6 rfl (by decide) (by first | assumption | rfl) ?_
    refine mW.top h4 ?_
    refine m_iconst (v := -1) dX8_learn_25 (by decide) ?_
    refine m_icmp_ne dX8_learn_26 102 (by decide) (fun h => ?_) (fun h => ?_)
    · exact bad s rw_ pt i m f hi hm1 h4 hpar
    · exact absurd h hne
  -- the text's end, without a fault so far
  have fin : ∀ (s : mS) (k j : Nat), fW wLS σ s → 4 * k + j = L → j ≤ 3 → s.1 15 4 = -1 → (L = 0 → parS L b = (-1, 0)) → (0 < L → j ≠ 3 → parS L b = (nI L, 0)) → (0 < L → j = 3 → parS L b = (-1, k + 1)) → (j = 3 → ∀ k', k' ≤ k → ∀ j', j' < 3 → s.1 (17 + k') j' = steB L b k' j') → mW G l d kX8_learn 12 [(4, .int (nI (4 * k + j))), (3, .int (nI j)), (2, .int (nI k)), (0, .ref 15), (1, .ref 3)] [] s (qVP (fun s => lrnS L b s ∧ fW wLS σ s)) := by
    intro s k j f hi hj h4 p0 p1 p2 hrows
    have hLs : s.1 3 1 = nI L := (f.at (by omega)).trans hL
    have hps : s.1 15 2 = 3 := (f.at (by omega)).trans hp
    refine m_iload dX8_learn_12 0 rfl ?_
    refine m_aload_n dX8_learn_14 4 rfl ?_
    refine m_getI 1 dX8_learn_15 fl_X8_25_7 rfl (by decide) (by first | assumption | rfl) ?_
    refine mW.top hLs ?_
    refine m_icmp_ge dX8_learn_18 102 (by decide) (fun h => ?_) (fun h => ?_)
    rotate_left
    · exact absurd ((nle (by omega) (by omega)).mpr (by omega)) h
    clear h
    by_cases hL0 : 0 < L
    · by_cases hjz : j = 3
      · have hpar := p2 hL0 hjz
        refine m_aload_n dX8_learn_102 3 rfl ?_
        refine m_getI 4 dX8_learn_103 fl_X8_9_6 rfl (by decide) (by first | assumption | rfl) ?_
        refine mW.top h4 ?_
        refine m_iconst (v := -1) dX8_learn_106 (by decide) ?_
        refine m_icmp_ne dX8_learn_107 133 (by decide) (fun h => ?_) (fun h => ?_)
        · exact absurd rfl h
        clear h
        refine m_aload_n dX8_learn_110 4 rfl ?_
        refine m_getI 1 dX8_learn_111 fl_X8_25_7 rfl (by decide) (by first | assumption | rfl) ?_
        refine mW.top hLs ?_
        refine m_if_le dX8_learn_114 133 (by decide) (fun h => ?_) (fun h => ?_)
        · exact absurd ((nle (b := 0) (by omega) (by omega)).mp h) (by omega)
        clear h
        refine m_iload_n dX8_learn_117 1 rfl ?_
        refine m_aload_n dX8_learn_118 3 rfl ?_
        refine m_getI 2 dX8_learn_119 fl_X8_22_6 rfl (by decide) (by first | assumption | rfl) ?_
        refine mW.top hps ?_
        refine m_icmp_eq dX8_learn_122 133 (by decide) (fun h => ?_) (fun h => ?_)
        rotate_left
        · exact absurd (by rw [hjz]; rfl) h
        clear h
        refine m_aload_n dX8_learn_133 3 rfl ?_
        refine m_aload_n dX8_learn_134 3 rfl ?_
        refine m_getI 4 dX8_learn_135 fl_X8_9_6 rfl (by decide) (by first | assumption | rfl) ?_
        refine mW.top h4 ?_
        refine m_iconst (v := -1) dX8_learn_138 (by decide) ?_
        refine m_icmp_ne dX8_learn_139 155 (by decide) (fun h => ?_) (fun h => ?_)
        · exact absurd rfl h
        clear h
        refine m_aload_n dX8_learn_142 4 rfl ?_
        refine m_getI 1 dX8_learn_143 fl_X8_25_7 rfl (by decide) (by first | assumption | rfl) ?_
        refine mW.top hLs ?_
        refine m_if_le dX8_learn_146 155 (by decide) (fun h => ?_) (fun h => ?_)
        · exact absurd ((nle (b := 0) (by omega) (by omega)).mp h) (by omega)
        clear h
        refine m_iload_n dX8_learn_149 2 rfl ?_
        refine m_iconst (v := 1) dX8_learn_150 (by decide) ?_
        refine m_iadd dX8_learn_151 ?_
        refine mW.top (nI_1 k) ?_
        refine m_goto dX8_learn_152 156 (by decide) ?_
        refine m_putI 3 dX8_learn_156 fw_X8_38_6 rfl (by decide) rfl rfl (by first | assumption | rfl) ?_
        refine m_return dX8_learn_159 ⟨rfl, ⟨?_, ?_, ?_⟩, fW.us (by omega) f⟩
        · rw [us_at, if_neg (by omega), h4, hpar]
        · rw [us_at, if_pos ⟨rfl, rfl⟩, hpar]
        · rw [hpar]
          intro k' hk' j' hj'
          rw [us_at, if_neg (by omega)]
          exact hrows hjz k' (Nat.le_of_lt_succ hk') j' hj'
      · have hpar := p1 hL0 hjz
        refine m_aload_n dX8_learn_102 3 rfl ?_
        refine m_getI 4 dX8_learn_103 fl_X8_9_6 rfl (by decide) (by first | assumption | rfl) ?_
        refine mW.top h4 ?_
        refine m_iconst (v := -1) dX8_learn_106 (by decide) ?_
        refine m_icmp_ne dX8_learn_107 133 (by decide) (fun h => ?_) (fun h => ?_)
        · exact absurd rfl h
        clear h
        refine m_aload_n dX8_learn_110 4 rfl ?_
        refine m_getI 1 dX8_learn_111 fl_X8_25_7 rfl (by decide) (by first | assumption | rfl) ?_
        refine mW.top hLs ?_
        refine m_if_le dX8_learn_114 133 (by decide) (fun h => ?_) (fun h => ?_)
        · exact absurd ((nle (b := 0) (by omega) (by omega)).mp h) (by omega)
        clear h
        refine m_iload_n dX8_learn_117 1 rfl ?_
        refine m_aload_n dX8_learn_118 3 rfl ?_
        refine m_getI 2 dX8_learn_119 fl_X8_22_6 rfl (by decide) (by first | assumption | rfl) ?_
        refine mW.top hps ?_
        refine m_icmp_eq dX8_learn_122 133 (by decide) (fun h => ?_) (fun h => ?_)
        · exact absurd ((neq (b := 3) (by omega) (by omega)).mp h) hjz
        clear h
        refine m_aload_n dX8_learn_125 3 rfl ?_
        refine m_aload_n dX8_learn_126 4 rfl ?_
        refine m_getI 1 dX8_learn_127 fl_X8_25_7 rfl (by decide) (by first | assumption | rfl) ?_
        refine mW.top hLs ?_
        refine m_putI 4 dX8_learn_130 fw_X8_9_6 rfl (by decide) rfl rfl (by first | assumption | rfl) ?_
        have h4' : (us s 15 4 (nI L)).1 15 4 = nI L := by rw [us_at, if_pos ⟨rfl, rfl⟩]
        have hne : ¬ nI L = -1 := fun q => by
          have := congrArg Int32.toInt q
          rw [nI_toInt (by omega)] at this
          have e1 : (-1 : Int32).toInt = -1 := rfl
          omega
        refine m_aload_n dX8_learn_133 3 rfl ?_
        refine m_aload_n dX8_learn_134 3 rfl ?_
        refine m_getI 4 dX8_learn_135 fl_X8_9_6 rfl (by decide) (by first | assumption | rfl) ?_
        refine mW.top h4' ?_
        refine m_iconst (v := -1) dX8_learn_138 (by decide) ?_
        refine m_icmp_ne dX8_learn_139 155 (by decide) (fun h => ?_) (fun h => ?_)
        rotate_left
        · exact absurd h hne
        clear h
        refine m_iconst (v := 0) dX8_learn_155 (by decide) ?_
        refine m_putI 3 dX8_learn_156 fw_X8_38_6 rfl (by decide) rfl rfl (by first | assumption | rfl) ?_
        refine m_return dX8_learn_159 ⟨rfl, ⟨?_, ?_, ?_⟩, fW.us (by omega) (fW.us (by omega) f)⟩
        · rw [us_at, if_neg (by omega), h4', hpar]
        · rw [us_at, if_pos ⟨rfl, rfl⟩, hpar]; rfl
        · rw [hpar]; exact fun k hk => absurd hk (Nat.not_lt_zero _)
    · have hL00 : L = 0 := by omega
      have hpar := p0 hL00
      refine m_aload_n dX8_learn_102 3 rfl ?_
      refine m_getI 4 dX8_learn_103 fl_X8_9_6 rfl (by decide) (by first | assumption | rfl) ?_
      refine mW.top h4 ?_
      refine m_iconst (v := -1) dX8_learn_106 (by decide) ?_
      refine m_icmp_ne dX8_learn_107 133 (by decide) (fun h => ?_) (fun h => ?_)
      · exact absurd rfl h
      clear h
      refine m_aload_n dX8_learn_110 4 rfl ?_
      refine m_getI 1 dX8_learn_111 fl_X8_25_7 rfl (by decide) (by first | assumption | rfl) ?_
      refine mW.top hLs ?_
      refine m_if_le dX8_learn_114 133 (by decide) (fun h => ?_) (fun h => ?_)
      rotate_left
      · exact absurd ((nle (b := 0) (by omega) (by omega)).mpr (by omega)) h
      clear h
      refine m_aload_n dX8_learn_133 3 rfl ?_
      refine m_aload_n dX8_learn_134 3 rfl ?_
      refine m_getI 4 dX8_learn_135 fl_X8_9_6 rfl (by decide) (by first | assumption | rfl) ?_
      refine mW.top h4 ?_
      refine m_iconst (v := -1) dX8_learn_138 (by decide) ?_
      refine m_icmp_ne dX8_learn_139 155 (by decide) (fun h => ?_) (fun h => ?_)
      · exact absurd rfl h
      clear h
      refine m_aload_n dX8_learn_142 4 rfl ?_
      refine m_getI 1 dX8_learn_143 fl_X8_25_7 rfl (by decide) (by first | assumption | rfl) ?_
      refine mW.top hLs ?_
      refine m_if_le dX8_learn_146 155 (by decide) (fun h => ?_) (fun h => ?_)
      rotate_left
      · exact absurd ((nle (b := 0) (by omega) (by omega)).mpr (by omega)) h
      clear h
      refine m_iconst (v := 0) dX8_learn_155 (by decide) ?_
      refine m_putI 3 dX8_learn_156 fw_X8_38_6 rfl (by decide) rfl rfl (by first | assumption | rfl) ?_
      refine m_return dX8_learn_159 ⟨rfl, ⟨?_, ?_, ?_⟩, fW.us (by omega) f⟩
      · rw [us_at, if_neg (by omega), h4, hpar]
      · rw [us_at, if_pos ⟨rfl, rfl⟩, hpar]; rfl
      · rw [hpar]; exact fun k hk => absurd hk (Nat.not_lt_zero _)
  by_cases hL0 : L = 0
  · refine fin (us σ 15 4 (-1)) 0 0 (fW.us (by omega) fW.rf) (by omega) (by decide) (by rw [us_at, if_pos ⟨rfl, rfl⟩]) (fun _ => by unfold parS; rw [if_pos hL0]) (fun q => absurd q (by omega)) (fun q => absurd q (by omega)) (fun q => absurd q (by decide))
  have hpe : parS L b = parT 3 (goodS L b) L b 13 0 := by unfold parS; rw [if_neg hL0]
  -- row by row
  have key : ∀ (f k : Nat) (s : mS), f + k = 13 → 4 * k ≤ L → parT 3 (goodS L b) L b f k = parS L b → fW wLS σ s → s.1 15 4 = -1 → (∀ k', k' < k → ∀ j', j' < 3 → s.1 (17 + k') j' = steB L b k' j') → mW G l d kX8_learn 12 [(4, .int (nI (4 * k + 0))), (3, .int (nI 0)), (2, .int (nI k)), (0, .ref 15), (1, .ref 3)] [] s (qVP (fun s => lrnS L b s ∧ fW wLS σ s)) := by
    intro f
    induction f with
    | zero => intro k s h1 h2; omega
    | succ f ih =>
      intro k s hfk hkL hpar fr h4 hrows
      have hk : k < 12 := by omega
      have row : ∀ (g j : Nat) (s : mS), g + j = 3 → 4 * k + j ≤ L → (∀ i, i < j → PS L b k i = true) → fW wLS σ s → s.1 15 4 = -1 → (∀ k', k' < k → ∀ j', j' < 3 → s.1 (17 + k') j' = steB L b k' j') → (∀ j', j' < j → s.1 (17 + k) j' = steB L b k j') → mW G l d kX8_learn 12 [(4, .int (nI (4 * k + j))), (3, .int (nI j)), (2, .int (nI k)), (0, .ref 15), (1, .ref 3)] [] s (qVP (fun s => lrnS L b s ∧ fW wLS σ s)) := by
        intro g
        induction g with
        | zero =>
          intro j s hgj hjL hP fr h4 hrows hrow
          have hjz : j = 3 := by omega
          subst hjz
          have hg := goodS_all L b k hk hP
          rw [parT, hg, if_neg (by decide)] at hpar
          by_cases heq : 4 * k + 3 = L
          · rw [if_pos heq] at hpar
            refine fin s k 3 fr heq (Nat.le_refl _) h4 (fun q => absurd q hL0) (fun _ q => absurd rfl q) (fun _ _ => hpar.symm) (fun _ k' hk' j' hj' => ?_)
            rcases Nat.lt_or_eq_of_le hk' with h | rfl
            · exact hrows k' h j' hj'
            · exact hrow j' hj'
          · rw [if_neg heq] at hpar
            obtain ⟨v, hv, hbv⟩ := hby (4 * k + 3) (by omega)
            rw [hb0] at hbv
            have hbt : btE L b (4 * k + 3) = nI v := by unfold btE; rw [if_pos (by omega), hbv]
            have hbs : s.1 4 (4 * k + 3) = nI v := by rw [fr.at (by omega), hb0]; exact hbv
            have hLs : s.1 3 1 = nI L := (fr.at (by omega)).trans hL
            have hps : s.1 15 2 = 3 := (fr.at (by omega)).trans hp
            refine m_iload dX8_learn_12 0 rfl ?_
            refine m_aload_n dX8_learn_14 4 rfl ?_
            refine m_getI 1 dX8_learn_15 fl_X8_25_7 rfl (by decide) (by first | assumption | rfl) ?_
            refine mW.top hLs ?_
            refine m_icmp_ge dX8_learn_18 102 (by decide) (fun h => ?_) (fun h => ?_)
            · exact absurd ((nle (by omega) (by omega)).mp h) (by omega)
            clear h
            refine m_aload_n dX8_learn_21 3 rfl ?_
            refine m_getI 4 dX8_learn_22 fl_X8_9_6 rfl (by decide) (by first | assumption | rfl) ?_
            refine mW.top h4 ?_
            refine m_iconst (v := -1) dX8_learn_25 (by decide) ?_
            refine m_icmp_ne dX8_learn_26 102 (by decide) (fun h => ?_) (fun h => ?_)
            · exact absurd rfl h
            clear h
            refine m_aload_n dX8_learn_29 4 rfl ?_
            refine m_getR 0 (_ + 1) dX8_learn_30 fl_X8_30_7 rfl (by decide) rfl (by first | assumption | rfl) ?_
            refine m_iload dX8_learn_33 0 rfl ?_
            refine m_iald dX8_learn_35 (by first | assumption | rfl) (4 * k + 3) rfl (by first | assumption | omega | decide) ?_
            refine mW.top hbs ?_
            refine m_i2c dX8_learn_36 ?_
            refine mW.top (i2cN hv) ?_
            refine m_istore (ls1 := [(5, _), (4, _), (3, _), (2, _), (0, _), (1, _)]) dX8_learn_37 (by decide) rfl ?_
            refine m_iload_n dX8_learn_39 2 rfl ?_
            refine m_aload_n dX8_learn_40 4 rfl ?_
            refine m_getI 2 dX8_learn_41 fl_X8_22_6 rfl (by decide) (by first | assumption | rfl) ?_
            refine mW.top hps ?_
            refine m_icmp_ne dX8_learn_44 72 (by decide) (fun h => ?_) (fun h => ?_)
            · exact absurd rfl h
            clear h
            refine m_iinc (v := nI (k + 1)) (ls1 := [(2, _), (5, _), (4, _), (3, _), (0, _), (1, _)]) dX8_learn_47 3 rfl (nI_1 k) (by decide) rfl ?_
            refine m_iconst (v := 0) dX8_learn_50 (by decide) ?_
            refine m_istore_n (ls1 := [(3, _), (2, _), (5, _), (4, _), (0, _), (1, _)]) dX8_learn_51 (by decide) rfl ?_
            refine m_aload_n dX8_learn_52 4 rfl ?_
            refine m_iload dX8_learn_53 2 rfl ?_
            refine m_bipush (v := 59) dX8_learn_55 (by decide) ?_
            by_cases h59 : nI v = 59
            · rw [hbt, if_neg (fun q => q h59)] at hpar
              refine m_icmp_ne dX8_learn_57 64 (by decide) (fun h => ?_) (fun h => ?_)
              · exact absurd h59 h
              clear h
              refine m_iconst (v := -1) dX8_learn_60 (by decide) ?_
              refine m_goto dX8_learn_61 66 (by decide) ?_
              refine m_putI 4 dX8_learn_66 fw_X8_9_6 rfl (by decide) rfl rfl (by first | assumption | rfl) ?_
              refine m_goto dX8_learn_69 96 (by decide) ?_
              refine m_iinc (v := nI (4 * (k + 1) + 0)) (ls1 := [(4, _), (3, _), (2, _), (5, _), (0, _), (1, _)]) dX8_learn_96 3 rfl ((nI_1 _).trans (congrArg nI (by omega))) (by decide) rfl ?_
              refine m_goto dX8_learn_99 12 (by decide) ?_
              refine mW.sub (ls1 := [(4, _), (3, _), (2, _), (0, _), (1, _)]) [0, 1, 2, 4, 5] rfl ?_
              refine ih (k + 1) _ (by omega) (by omega) hpar (fW.us (by omega) fr) (by rw [us_at, if_pos ⟨rfl, rfl⟩]) (fun k' hk' j' hj' => ?_)
              rw [us_at, if_neg (by omega)]
              rcases Nat.lt_succ_iff_lt_or_eq.mp hk' with h | rfl
              · exact hrows k' h j' hj'
              · exact hrow j' hj'
            · rw [hbt, if_pos h59] at hpar
              refine m_icmp_ne dX8_learn_57 64 (by decide) (fun h => ?_) (fun h => ?_)
              rotate_left
              · exact absurd h h59
              clear h
              refine m_iload dX8_learn_64 3 rfl ?_
              refine m_putI 4 dX8_learn_66 fw_X8_9_6 rfl (by decide) rfl rfl (by first | assumption | rfl) ?_
              refine m_goto dX8_learn_69 96 (by decide) ?_
              refine m_iinc (v := nI (4 * k + 3 + 1)) (ls1 := [(4, _), (3, _), (2, _), (5, _), (0, _), (1, _)]) dX8_learn_96 3 rfl (nI_1 _) (by decide) rfl ?_
              refine m_goto dX8_learn_99 12 (by decide) ?_
              refine mW.sub (ls1 := [(4, _), (3, _), (2, _), (0, _), (1, _)]) [0, 1, 2, 4, 5] rfl ?_
              exact badH _ (k + 1) 0 (4 * k + 3 + 1) (4 * k + 3) (fW.us (by omega) fr) (by omega) (by omega) (by rw [us_at, if_pos ⟨rfl, rfl⟩]) hpar.symm
        | succ g ihg =>
          intro j s hgj hjL hP fr h4 hrows hrow
          have hj : j < 3 := by omega
          by_cases heq : 4 * k + j = L
          · have hno := PS_out L b k j (by omega)
            have hg := goodS_at L b k j hk hj hP hno
            rw [parT, hg, if_pos hj] at hpar
            exact fin s k j fr heq (by omega) h4 (fun q => absurd q hL0) (fun _ _ => hpar.symm.trans (congrArg (fun x => (nI x, 0)) heq)) (fun _ q => absurd q (by omega)) (fun q => absurd q (by omega))
          · obtain ⟨v, hv, hbv⟩ := hby (4 * k + j) (by omega)
            rw [hb0] at hbv
            have hb := hbv
            have hbs : s.1 4 (4 * k + j) = nI v := by rw [fr.at (by omega), hb0]; exact hbv
            have hLs : s.1 3 1 = nI L := (fr.at (by omega)).trans hL
            have hps : s.1 15 2 = 3 := (fr.at (by omega)).trans hp
            have hms : s.1 15 1 = 12 := (fr.at (by omega)).trans hm
            skip
            skip
            refine m_iload dX8_learn_12 0 rfl ?_
            refine m_aload_n dX8_learn_14 4 rfl ?_
            refine m_getI 1 dX8_learn_15 fl_X8_25_7 rfl (by decide) (by first | assumption | rfl) ?_
            refine mW.top hLs ?_
            refine m_icmp_ge dX8_learn_18 102 (by decide) (fun h => ?_) (fun h => ?_)
            · exact absurd ((nle (by omega) (by omega)).mp h) (by omega)
            clear h
            refine m_aload_n dX8_learn_21 3 rfl ?_
            refine m_getI 4 dX8_learn_22 fl_X8_9_6 rfl (by decide) (by first | assumption | rfl) ?_
            refine mW.top h4 ?_
            refine m_iconst (v := -1) dX8_learn_25 (by decide) ?_
            refine m_icmp_ne dX8_learn_26 102 (by decide) (fun h => ?_) (fun h => ?_)
            · exact absurd rfl h
            clear h
            refine m_aload_n dX8_learn_29 4 rfl ?_
            refine m_getR 0 (_ + 1) dX8_learn_30 fl_X8_30_7 rfl (by decide) rfl (by first | assumption | rfl) ?_
            refine m_iload dX8_learn_33 0 rfl ?_
            refine m_iald dX8_learn_35 (by first | assumption | rfl) (4 * k + j) rfl (by first | assumption | omega | decide) ?_
            refine mW.top hbs ?_
            refine m_i2c dX8_learn_36 ?_
            refine mW.top (i2cN hv) ?_
            refine m_istore (ls1 := [(5, _), (4, _), (3, _), (2, _), (0, _), (1, _)]) dX8_learn_37 (by decide) rfl ?_
            refine m_iload_n dX8_learn_39 2 rfl ?_
            refine m_aload_n dX8_learn_40 4 rfl ?_
            refine m_getI 2 dX8_learn_41 fl_X8_22_6 rfl (by decide) (by first | assumption | rfl) ?_
            refine mW.top hps ?_
            refine m_icmp_ne dX8_learn_44 72 (by decide) (fun h => ?_) (fun h => ?_)
            rotate_left
            · exact absurd ((neq (b := 3) (by omega) (by omega)).mp h) (by omega)
            clear h
            refine m_aload_n dX8_learn_72 4 rfl ?_
            refine m_aload_n dX8_learn_73 4 rfl ?_
            refine m_iload_n dX8_learn_74 3 rfl ?_
            refine m_iload_n dX8_learn_75 2 rfl ?_
            refine m_iload dX8_learn_76 0 rfl ?_
            refine m_callU (As := [_, _, _]) dX8_learn_78 cu_takes_steers rfl rfl rfl (by decide) (show d - 1 < d by omega) rfl rfl (Nat.le_of_ble_eq_true rfl) (c_takesS (d := d - 1) (by omega) L b k j v hk hj hv (by omega) hb hms) (fun v1 σ1 hv1 => ?_)
            refine m_qI hv1 ?_
            clear hv1 v1 σ1
            have f1 : fW wLS σ (us s (17 + k) j (mS' L b k j)) := fW.us (by omega) fr
            cases hPj : PS L b k j
            · have hg := goodS_at L b k j hk hj hP hPj
              rw [parT, hg, if_pos hj] at hpar
              refine m_if_eq dX8_learn_81 88 (by decide) (fun h => ?_) (fun h => ?_)
              rotate_left
              · exact absurd rfl h
              clear h
              refine m_iload dX8_learn_88 1 rfl ?_
              refine m_putI 4 dX8_learn_90 fw_X8_9_6 rfl (by decide) rfl rfl (by first | assumption | rfl) ?_
              refine m_iinc (v := nI (j + 1)) (ls1 := [(3, _), (5, _), (4, _), (2, _), (0, _), (1, _)]) dX8_learn_93 2 rfl (nI_1 j) (by decide) rfl ?_
              refine m_iinc (v := nI (4 * k + j + 1)) (ls1 := [(4, _), (3, _), (5, _), (2, _), (0, _), (1, _)]) dX8_learn_96 2 rfl (nI_1 _) (by decide) rfl ?_
              refine m_goto dX8_learn_99 12 (by decide) ?_
              refine mW.sub (ls1 := [(4, _), (3, _), (2, _), (0, _), (1, _)]) [0, 1, 3, 4, 5] rfl ?_
              exact badH _ k (j + 1) (4 * k + j + 1) (4 * k + j) (fW.us (by omega) f1) (by omega) (by omega) (by rw [us_at, if_pos ⟨rfl, rfl⟩]) hpar.symm
            · have hmv : mS' L b k j = steB L b k j := by unfold mS'; rw [hPj]; rfl
              refine m_if_eq dX8_learn_81 88 (by decide) (fun h => ?_) (fun h => ?_)
              · exact absurd h (by decide)
              clear h
              refine m_iconst (v := -1) dX8_learn_84 (by decide) ?_
              refine m_goto dX8_learn_85 90 (by decide) ?_
              refine m_putI 4 dX8_learn_90 fw_X8_9_6 rfl (by decide) rfl rfl (by first | assumption | rfl) ?_
              refine m_iinc (v := nI (j + 1)) (ls1 := [(3, _), (5, _), (4, _), (2, _), (0, _), (1, _)]) dX8_learn_93 2 rfl (nI_1 j) (by decide) rfl ?_
              refine m_iinc (v := nI (4 * k + (j + 1))) (ls1 := [(4, _), (3, _), (5, _), (2, _), (0, _), (1, _)]) dX8_learn_96 2 rfl (nI_1 _) (by decide) rfl ?_
              refine m_goto dX8_learn_99 12 (by decide) ?_
              refine mW.sub (ls1 := [(4, _), (3, _), (2, _), (0, _), (1, _)]) [0, 1, 3, 4, 5] rfl ?_
              refine ihg (j + 1) _ (by omega) (by omega) (fun i hi => ?_) (fW.us (by omega) f1) (by rw [us_at, if_pos ⟨rfl, rfl⟩]) (fun k' hk' j' hj' => ?_) (fun j' hj' => ?_)
              · rcases Nat.lt_succ_iff_lt_or_eq.mp hi with h | rfl
                · exact hP i h
                · exact hPj
              · rw [us_at, if_neg (by omega), us_at, if_neg (by omega)]
                exact hrows k' hk' j' hj'
              · rw [us_at, if_neg (by omega), us_at]
                rcases Nat.lt_succ_iff_lt_or_eq.mp hj' with h | rfl
                · rw [if_neg (by omega)]; exact hrow j' h
                · rw [if_pos ⟨rfl, rfl⟩]; exact hmv
      exact row 3 0 s (by omega) (by omega) (fun i hi => absurd hi (Nat.not_lt_zero _)) fr h4 hrows (fun j' hj' => absurd hj' (Nat.not_lt_zero _))
  exact key 13 0 (us σ 15 4 (-1)) rfl (by omega) hpe.symm (fW.us (by omega) fW.rf) (by rw [us_at, if_pos ⟨rfl, rfl⟩]) (fun k' hk' => absurd hk' (Nat.not_lt_zero _))
end CL


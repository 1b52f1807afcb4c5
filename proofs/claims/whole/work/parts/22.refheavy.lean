/-! ===== the reference: sort, weight, the next moment to look ===== -/
/-- how many of the first b weights are in a like cell with a -/
def alN (bits : Int32) (cl : Nat → Nat → Int32) (t a : Nat) : Nat → Nat
  | 0 => 0
  | b + 1 => alN bits cl t a b + (if bitI bits (nI a) ∧ bitI bits (nI (b + 1)) ∧ cl a t = cl (b + 1) t then 1 else 0)
def mxN (bits : Int32) (cl : Nat → Nat → Int32) (t : Nat) : Nat → Nat
  | 0 => 0
  | a + 1 => if alN bits cl t (a + 1) 9 ≤ mxN bits cl t a then mxN bits cl t a else alN bits cl t (a + 1) 9
def asP (bits : Int32) (cl : Nat → Nat → Int32) : Nat → Int32 × Nat
  | 0 => (-1, 0)
  | t + 1 => if (asP bits cl t).1 = -1 ∨ mxN bits cl t 9 < (asP bits cl t).2 then (nI t, mxN bits cl t 9) else asP bits cl t
theorem alN_le (bits : Int32) (cl : Nat → Nat → Int32) (t a : Nat) : ∀ b, alN bits cl t a b ≤ b
  | 0 => Nat.le_refl _
  | b + 1 => by
    unfold alN
    have := alN_le bits cl t a b
    split <;> omega
theorem mxN_le (bits : Int32) (cl : Nat → Nat → Int32) (t : Nat) : ∀ a, mxN bits cl t a ≤ 9
  | 0 => by show (0 : Nat) ≤ 9; decide
  | a + 1 => by
    unfold mxN
    have := mxN_le bits cl t a
    have := alN_le bits cl t (a + 1) 9
    split <;> omega
theorem asP_le (bits : Int32) (cl : Nat → Nat → Int32) : ∀ t, (asP bits cl t).2 ≤ 9
  | 0 => by show (0 : Nat) ≤ 9; decide
  | t + 1 => by
    unfold asP
    split
    · exact mxN_le _ _ _ _
    · exact asP_le bits cl t
section HV
variable {G : mG} {l : Launch} {d : Nat} {σ : mS}
abbrev wJ (q k : Nat) : Nat → Nat → Prop := fun y z => (y = 114 + q ∧ z = k) ∨ (y = 111 ∧ 28 ≤ z ∧ z ≤ 31) ∨ (128 ≤ y ∧ y ≤ 141) ∨ y = 147
theorem rep_J {s0 s : mS} {D : Deb} {k q : Nat} {v : Int32} (h : repR s0 D) (hq : q < 5) (f : fW (wJ q k) s0 s) (hv : s.1 (114 + q) k = v) : repR s (setJ D k q v) := by
  obtain ⟨h1, h2, h3, h4, h5, h6, h7, h8, h9, h10, h11⟩ := h
  refine ⟨h1, h2, h3, (f.at (by omega)).trans h4, (f.at (by omega)).trans h5, (f.at (by omega)).trans h6, (f.at (by omega)).trans h7, fun i hi j hj => ?_, fun i (hi : i < D.2.1.1) j hj => (f.at (by omega)).trans (h9 i hi j hj), fun i (hi : i < D.2.2.1.1) j hj => (f.at (by omega)).trans (h10 i hi j hj), h11⟩
  show _ = if i = k ∧ j = q then v else D.1.2 i j
  by_cases e : i = k ∧ j = q
  · rw [if_pos e]; obtain ⟨rfl, rfl⟩ := e; exact hv
  · rw [if_neg e]; exact (f.at (by omega)).trans (h8 i hi j hj)
/-- the cars stand in the rows as told -/
def rdR (s : mS) (D : Deb) : Prop := s.1 111 2 = nI D.1.1 ∧ ∀ k, k < D.1.1 → ∀ j, j < 5 → s.1 (114 + j) k = D.1.2 k j
theorem c_ofRow (n i : Int32) (h : i = -1 ∨ i = 0 ∨ i = 1) : mMet G l d kX11_ofRow [.ref 111, .int n, .int i] σ (qI (if i = -1 then n else if n ≤ i then -1 else if i = 0 then σ.1 142 0 else σ.1 142 1) σ) := by
  refine mMet.of cm_X11_ofRow rfl (Nat.le_of_ble_eq_true rfl) rfl (fun v1 σ1 h => by rw [h.1]; rfl) ?_
  rcases h with rfl | rfl | rfl
  · refine m_iload_n dX11_ofRow_0 2 rfl ?_
    refine m_iconst (v := -1) dX11_ofRow_1 (by decide) ?_
    refine m_icmp_ne dX11_ofRow_2 9 (by decide) (fun h2 => ?_) (fun h2 => ?_)
    · exact absurd rfl h2
    refine m_iload_n dX11_ofRow_5 1 rfl ?_
    refine m_goto dX11_ofRow_6 24 (by decide) ?_
    refine m_ireturn dX11_ofRow_24 ?_
    exact qI_of (if_pos rfl).symm
  · refine m_iload_n dX11_ofRow_0 2 rfl ?_
    refine m_iconst (v := -1) dX11_ofRow_1 (by decide) ?_
    refine m_icmp_ne dX11_ofRow_2 9 (by decide) (fun h2 => ?_) (fun h2 => ?_)
    rotate_left
    · exact absurd h2 (by decide)
    refine m_iload_n dX11_ofRow_9 2 rfl ?_
    refine m_iload_n dX11_ofRow_10 1 rfl ?_
    refine m_icmp_ge dX11_ofRow_11 23 (by decide) (fun h11 => ?_) (fun h11 => ?_)
    · refine m_iconst (v := -1) dX11_ofRow_23 (by decide) ?_
      refine m_ireturn dX11_ofRow_24 ?_
      refine qI_of ?_
      rw [if_neg (show ¬ (0 : Int32) = -1 by decide)]
      first | exact (if_pos h11).symm | exact (if_neg h11).symm
    · refine m_aload_n dX11_ofRow_14 0 rfl ?_
      refine m_getR 40 142 dX11_ofRow_15 fl_X11_100_10 rfl (by decide) rfl (by first | assumption | rfl) ?_
      refine m_iload_n dX11_ofRow_18 2 rfl ?_
      refine m_iald dX11_ofRow_19 (by first | assumption | rfl) 0 rfl (by first | assumption | omega | decide) ?_
      refine m_goto dX11_ofRow_20 24 (by decide) ?_
      refine m_ireturn dX11_ofRow_24 ?_
      refine qI_of ?_
      rw [if_neg (show ¬ (0 : Int32) = -1 by decide)]
      first | exact (if_pos h11).symm | exact (if_neg h11).symm
  · refine m_iload_n dX11_ofRow_0 2 rfl ?_
    refine m_iconst (v := -1) dX11_ofRow_1 (by decide) ?_
    refine m_icmp_ne dX11_ofRow_2 9 (by decide) (fun h2 => ?_) (fun h2 => ?_)
    rotate_left
    · exact absurd h2 (by decide)
    refine m_iload_n dX11_ofRow_9 2 rfl ?_
    refine m_iload_n dX11_ofRow_10 1 rfl ?_
    refine m_icmp_ge dX11_ofRow_11 23 (by decide) (fun h11 => ?_) (fun h11 => ?_)
    · refine m_iconst (v := -1) dX11_ofRow_23 (by decide) ?_
      refine m_ireturn dX11_ofRow_24 ?_
      refine qI_of ?_
      rw [if_neg (show ¬ (1 : Int32) = -1 by decide)]
      first | exact (if_pos h11).symm | exact (if_neg h11).symm
    · refine m_aload_n dX11_ofRow_14 0 rfl ?_
      refine m_getR 40 142 dX11_ofRow_15 fl_X11_100_10 rfl (by decide) rfl (by first | assumption | rfl) ?_
      refine m_iload_n dX11_ofRow_18 2 rfl ?_
      refine m_iald dX11_ofRow_19 (by first | assumption | rfl) 1 rfl (by first | assumption | omega | decide) ?_
      refine m_goto dX11_ofRow_20 24 (by decide) ?_
      refine m_ireturn dX11_ofRow_24 ?_
      refine qI_of ?_
      rw [if_neg (show ¬ (1 : Int32) = -1 by decide)]
      first | exact (if_pos h11).symm | exact (if_neg h11).symm
theorem c_sortsBy (hd : 8 ≤ d) (L0 L1 e : Nat) (ok : okR σ L0 L1 e) (z : Nat) (hs : okS σ z) (k : Nat) (hk : k < (Dt σ L0 L1 e).1.1) : mMet G l d kX11_sortsBy [.ref 111, .int (nI k)] σ (qIP (fun r s => r = soP (Dt σ L0 L1 e) k z (seF σ) 3 ∧ rdR s (Dt σ L0 L1 e) ∧ fW wScr σ s)) := by
  have hn : (Dt σ L0 L1 e).1.1 ≤ 8 := parC_n L0 (tx σ 0)
  refine mMet.of cm_X11_sortsBy rfl (Nat.le_of_ble_eq_true rfl) rfl (fun v1 σ1 h => by obtain ⟨r, h1, -⟩ := h; rw [h1]; rfl) ?_
  refine m_aload_n dX11_sortsBy_0 0 rfl ?_
  refine m_callV (As := []) dX11_sortsBy_1 cv_X11_270 (by first | assumption | rfl) (by decide) (by omega) rfl rfl (Nat.le_of_ble_eq_true rfl) (c_asTold (d := d - 1) (by omega) L0 L1 e ok) (fun v1 σ1 hv1 => ?_)
  refine m_qVP hv1 (fun ha => ?_)
  clear hv1 v1
  rename mS => s0
  obtain ⟨a1, a2, a3⟩ := ha
  generalize Dt σ L0 L1 e = D at *
  have hk8 : k < 8 := by omega
  have hse : seF s0 = seF σ := seF_eq (fun y _ _ => a3.row (fun z => by omega))
  have q41 : okS s0 z := hs.tr a3 (by omega) (fun y z _ _ => by omega)
  have hold : s0.1 114 k = D.1.2 k 0 := a1.2.2.2.2.2.2.2.1 k hk 0 (by decide)
  refine m_aload_n dX11_sortsBy_4 0 rfl ?_
  refine m_getR 3 114 dX11_sortsBy_5 fl_X11_16_10 rfl (by decide) rfl (by first | assumption | rfl) ?_
  refine m_iload_n dX11_sortsBy_8 1 rfl ?_
  refine m_iald dX11_sortsBy_9 (by first | assumption | rfl) k rfl (by first | assumption | omega | decide) ?_
  refine mW.top hold ?_
  refine m_istore_n (ls1 := [(2, _), (0, _), (1, _)]) dX11_sortsBy_10 (by decide) rfl ?_
  refine m_iconst (v := 0) dX11_sortsBy_11 (by decide) ?_
  refine m_istore_n (ls1 := [(3, _), (2, _), (0, _), (1, _)]) dX11_sortsBy_12 (by decide) rfl ?_
  refine m_iconst (v := 0) dX11_sortsBy_13 (by decide) ?_
  refine m_istore (ls1 := [(4, _), (3, _), (2, _), (0, _), (1, _)]) dX11_sortsBy_14 (by decide) rfl ?_
  refine down (N := 3) (fun i (q : mS × Int32) => q.2 = soP D k z (seF σ) i ∧ fW (wJ 0 k) s0 q.1) (fun i q => mW G l d kX11_sortsBy 16 [(4, .int (nI i)), (3, .int q.2), (2, .int (D.1.2 k 0)), (0, .ref 111), (1, .int (nI k))] [] q.1 _) ?_ ?_ 0 (s0, 0) (Nat.zero_le _) ⟨rfl, fW.rf⟩
  · rintro ⟨s, f⟩ ⟨hf, fr⟩
    show mW G l d kX11_sortsBy 16 [(4, .int (nI 3)), (3, .int f), (2, .int (D.1.2 k 0)), (0, .ref 111), (1, .int (nI k))] [] s _
    refine m_iload dX11_sortsBy_16 0 rfl ?_
    refine m_iconst (v := 3) dX11_sortsBy_18 (by decide) ?_
    refine m_icmp_ge dX11_sortsBy_19 54 (by decide) (fun h => ?_) (fun h => ?_)
    · refine m_aload_n dX11_sortsBy_54 3 rfl ?_
      refine m_getR 3 114 dX11_sortsBy_55 fl_X11_16_10 rfl (by decide) rfl (by first | assumption | rfl) ?_
      refine m_iload_n dX11_sortsBy_58 4 rfl ?_
      refine m_iload_n dX11_sortsBy_59 2 rfl ?_
      refine m_iast dX11_sortsBy_60 (by first | assumption | rfl) k rfl (by first | assumption | omega | decide) ?_
      refine m_iload_n dX11_sortsBy_61 1 rfl ?_
      have fr2 : fW (wJ 0 k) s0 (us s 114 k (D.1.2 k 0)) := fW.us (by omega) fr
      refine m_ireturn dX11_sortsBy_62 ⟨_, rfl, hf, ⟨(fr2.at (by omega)).trans a1.2.2.2.1, fun i hi j hj => ?_⟩, a3.tr (fr2.mono (fun y z h => by omega))⟩
      by_cases eq : i = k ∧ j = 0
      · obtain ⟨rfl, rfl⟩ := eq; rw [us_at, if_pos ⟨rfl, rfl⟩]
      · exact (fr2.at (by omega)).trans (a1.2.2.2.2.2.2.2.1 i hi j hj)
    · exact absurd (Int32.le_refl _) h
  · rintro i ⟨s, f⟩ hi ⟨hf, fr⟩ ih
    have hf' : f = soP D k z (seF σ) i := hf
    show mW G l d kX11_sortsBy 16 [(4, .int (nI i)), (3, .int f), (2, .int (D.1.2 k 0)), (0, .ref 111), (1, .int (nI k))] [] s _
    refine m_iload dX11_sortsBy_16 0 rfl ?_
    refine m_iconst (v := 3) dX11_sortsBy_18 (by decide) ?_
    refine m_icmp_ge dX11_sortsBy_19 54 (by decide) (fun h => ?_) (fun h => ?_)
    · exact absurd ((nle (a := 3) (by omega) (by omega)).mp h) (by omega)
    · clear h
      refine m_aload_n dX11_sortsBy_22 3 rfl ?_
      refine m_getR 3 114 dX11_sortsBy_23 fl_X11_16_10 rfl (by decide) rfl (by first | assumption | rfl) ?_
      refine m_iload_n dX11_sortsBy_26 4 rfl ?_
      refine m_iload dX11_sortsBy_27 0 rfl ?_
      refine m_iast dX11_sortsBy_29 (by first | assumption | rfl) k rfl (by first | assumption | omega | decide) ?_
      have f1 : fW (wJ 0 k) s0 (us s 114 k (nI i)) := fW.us (by omega) fr
      have r1 : repR (us s 114 k (nI i)) (setJ D k 0 (nI i)) := rep_J a1 (by decide) f1 (by rw [us_at, if_pos ⟨rfl, rfl⟩])
      have s1 : okS (us s 114 k (nI i)) z := q41.tr f1 (by omega) (fun y z _ _ => by omega)
      have e1 : seF (us s 114 k (nI i)) = seF σ := (seF_eq (fun y _ _ => f1.row (fun z => by omega))).trans hse
      have hM := c_isSeen (G := G) (l := l) (d := d - 1) (by omega) _ r1 z s1
      rw [e1] at hM
      refine m_iload_n dX11_sortsBy_30 1 rfl ?_
      refine m_aload_n dX11_sortsBy_31 3 rfl ?_
      refine m_callV (As := []) dX11_sortsBy_32 cv_X11_337 (by first | assumption | rfl) (by decide) (by omega) rfl rfl (Nat.le_of_ble_eq_true rfl) hM (fun v1 σ1 hv1 => ?_)
      refine m_qIP hv1 (fun r1 hz => ?_)
      clear hv1 v1
      rename mS => s2
      obtain ⟨rfl, z1, z2⟩ := hz
      refine m_sel (pcJ := 46) ?_ (fun kt0 kf0 => m_if_eq dX11_sortsBy_35 45 (by decide) (fun h => (m_iconst (v := 0) dX11_sortsBy_45 (by decide) (kt0 h))) (fun h => (m_iconst (v := 1) dX11_sortsBy_38 (by decide) (m_iload dX11_sortsBy_39 0 rfl (m_ishl dX11_sortsBy_41 (m_goto dX11_sortsBy_42 46 (by decide) (kf0 h)))))))
      refine m_ior dX11_sortsBy_46 ?_
      refine m_istore_n (ls1 := [(3, _), (4, _), (2, _), (0, _), (1, _)]) dX11_sortsBy_47 (by decide) rfl ?_
      refine m_iinc (v := nI (i + 1)) (ls1 := [(4, _), (3, _), (2, _), (0, _), (1, _)]) dX11_sortsBy_48 1 rfl (nI_1 i) (by decide) rfl ?_
      refine m_goto dX11_sortsBy_51 16 (by decide) ?_
      refine mW.sub (ls1 := [(4, _), (3, _), (2, _), (0, _), (1, _)]) [0, 1, 2, 3, 4] rfl ?_
      refine ih (s2, _) ⟨?_, f1.tr (z2.mono (fun y z h => by omega))⟩
      show f ||| _ = _
      rw [hf', soP]
      by_cases q : agP (setJ D k 0 (nI i)) (seF σ) z = true
      · rw [q]; rfl
      · rw [Bool.eq_false_iff.mpr q]; rfl
theorem ix24 (v t : Nat) : 24 * nI v + nI t = nI (24 * v + t) := by rw [show (24 : Int32) = nI 24 from rfl, pk_mul, nI_add]
theorem c_heavyBy (hd : 8 ≤ d) (L0 L1 e : Nat) (ok : okR σ L0 L1 e) (z : Nat) (hs : okS σ z) (k : Nat) (hk : k < (Dt σ L0 L1 e).1.1) : mMet G l d kX11_heavyBy [.ref 111, .int (nI k)] σ (qIP (fun r s => r = hvP (Dt σ L0 L1 e) k z (seF σ) 9 ∧ (∀ v, 1 ≤ v → v ≤ 9 → ∀ t, t < 24 → s.1 147 (24 * v + t) = cellD (setJ (Dt σ L0 L1 e) k 4 (nI v)) k t) ∧ rdR s (Dt σ L0 L1 e) ∧ fW wScr σ s)) := by
  have hn : (Dt σ L0 L1 e).1.1 ≤ 8 := parC_n L0 (tx σ 0)
  refine mMet.of cm_X11_heavyBy rfl (Nat.le_of_ble_eq_true rfl) rfl (fun v1 σ1 h => by obtain ⟨r, h1, -⟩ := h; rw [h1]; rfl) ?_
  refine m_aload_n dX11_heavyBy_0 0 rfl ?_
  refine m_callV (As := []) dX11_heavyBy_1 cv_X11_270 (by first | assumption | rfl) (by decide) (by omega) rfl rfl (Nat.le_of_ble_eq_true rfl) (c_asTold (d := d - 1) (by omega) L0 L1 e ok) (fun v1 σ1 hv1 => ?_)
  refine m_qVP hv1 (fun ha => ?_)
  clear hv1 v1
  rename mS => s0
  obtain ⟨a1, a2, a3⟩ := ha
  generalize Dt σ L0 L1 e = D at *
  have hk8 : k < 8 := by omega
  have hse : seF s0 = seF σ := seF_eq (fun y _ _ => a3.row (fun z => by omega))
  have q41 : okS s0 z := hs.tr a3 (by omega) (fun y z _ _ => by omega)
  have hold : s0.1 118 k = D.1.2 k 4 := a1.2.2.2.2.2.2.2.1 k hk 4 (by decide)
  refine m_aload_n dX11_heavyBy_4 0 rfl ?_
  refine m_getR 7 118 dX11_heavyBy_5 fl_X11_28_10 rfl (by decide) rfl (by first | assumption | rfl) ?_
  refine m_iload_n dX11_heavyBy_8 1 rfl ?_
  refine m_iald dX11_heavyBy_9 (by first | assumption | rfl) k rfl (by first | assumption | omega | decide) ?_
  refine mW.top hold ?_
  refine m_istore_n (ls1 := [(2, _), (0, _), (1, _)]) dX11_heavyBy_10 (by decide) rfl ?_
  refine m_iconst (v := 0) dX11_heavyBy_11 (by decide) ?_
  refine m_istore_n (ls1 := [(3, _), (2, _), (0, _), (1, _)]) dX11_heavyBy_12 (by decide) rfl ?_
  refine m_iconst (v := 1) dX11_heavyBy_13 (by decide) ?_
  refine m_istore (ls1 := [(4, _), (3, _), (2, _), (0, _), (1, _)]) dX11_heavyBy_14 (by decide) rfl ?_
  refine down (N := 10) (fun i (q : mS × Int32) => 1 ≤ i ∧ q.2 = hvP D k z (seF σ) (i - 1) ∧ (∀ v, 1 ≤ v → v < i → ∀ t, t < 24 → q.1.1 147 (24 * v + t) = cellD (setJ D k 4 (nI v)) k t) ∧ fW (wJ 4 k) s0 q.1) (fun i q => mW G l d kX11_heavyBy 16 [(4, .int (nI i)), (3, .int q.2), (2, .int (D.1.2 k 4)), (0, .ref 111), (1, .int (nI k))] [] q.1 _) ?_ ?_ 1 (s0, 0) (by decide) ⟨Nat.le_refl _, rfl, fun v h1 h2 => absurd h2 (by omega), fW.rf⟩
  · rintro ⟨s, f⟩ ⟨-, hf, hcl, fr⟩
    show mW G l d kX11_heavyBy 16 [(4, .int (nI 10)), (3, .int f), (2, .int (D.1.2 k 4)), (0, .ref 111), (1, .int (nI k))] [] s _
    refine m_iload dX11_heavyBy_16 0 rfl ?_
    refine m_bipush (v := 10) dX11_heavyBy_18 (by decide) ?_
    refine m_icmp_ge dX11_heavyBy_20 112 (by decide) (fun h => ?_) (fun h => ?_)
    · refine m_aload_n dX11_heavyBy_112 3 rfl ?_
      refine m_getR 7 118 dX11_heavyBy_113 fl_X11_28_10 rfl (by decide) rfl (by first | assumption | rfl) ?_
      refine m_iload_n dX11_heavyBy_116 4 rfl ?_
      refine m_iload_n dX11_heavyBy_117 2 rfl ?_
      refine m_iast dX11_heavyBy_118 (by first | assumption | rfl) k rfl (by first | assumption | omega | decide) ?_
      refine m_iload_n dX11_heavyBy_119 1 rfl ?_
      have fr2 : fW (wJ 4 k) s0 (us s 118 k (D.1.2 k 4)) := fW.us (by omega) fr
      refine m_ireturn dX11_heavyBy_120 ⟨_, rfl, hf, fun v h1 h2 t ht => ?_, ⟨(fr2.at (by omega)).trans a1.2.2.2.1, fun i hi j hj => ?_⟩, a3.tr (fr2.mono (fun y z h => by omega))⟩
      · rw [us_at, if_neg (by omega)]; exact hcl v h1 (by omega) t ht
      · by_cases eq : i = k ∧ j = 4
        · obtain ⟨rfl, rfl⟩ := eq; rw [us_at, if_pos ⟨rfl, rfl⟩]
        · exact (fr2.at (by omega)).trans (a1.2.2.2.2.2.2.2.1 i hi j hj)
    · exact absurd (Int32.le_refl _) h
  · rintro i ⟨s, f⟩ hi ⟨hi1, hf, hcl, fr⟩ ih
    obtain ⟨u, rfl⟩ : ∃ u, i = u + 1 := ⟨i - 1, by omega⟩
    have hf' : f = hvP D k z (seF σ) u := hf
    show mW G l d kX11_heavyBy 16 [(4, .int (nI (u + 1))), (3, .int f), (2, .int (D.1.2 k 4)), (0, .ref 111), (1, .int (nI k))] [] s _
    refine m_iload dX11_heavyBy_16 0 rfl ?_
    refine m_bipush (v := 10) dX11_heavyBy_18 (by decide) ?_
    refine m_icmp_ge dX11_heavyBy_20 112 (by decide) (fun h => ?_) (fun h => ?_)
    · exact absurd ((nle (a := 10) (by omega) (by omega)).mp h) (by omega)
    · clear h
      refine m_aload_n dX11_heavyBy_23 3 rfl ?_
      refine m_getR 7 118 dX11_heavyBy_24 fl_X11_28_10 rfl (by decide) rfl (by first | assumption | rfl) ?_
      refine m_iload_n dX11_heavyBy_27 4 rfl ?_
      refine m_iload dX11_heavyBy_28 0 rfl ?_
      refine m_iast dX11_heavyBy_30 (by first | assumption | rfl) k rfl (by first | assumption | omega | decide) ?_
      have f1 : fW (wJ 4 k) s0 (us s 118 k (nI (u + 1))) := fW.us (by omega) fr
      have r1 : repR (us s 118 k (nI (u + 1))) (setJ D k 4 (nI (u + 1))) := rep_J a1 (by decide) f1 (by rw [us_at, if_pos ⟨rfl, rfl⟩])
      have s1 : okS (us s 118 k (nI (u + 1))) z := q41.tr f1 (by omega) (fun y z _ _ => by omega)
      have e1 : seF (us s 118 k (nI (u + 1))) = seF σ := (seF_eq (fun y _ _ => f1.row (fun z => by omega))).trans hse
      have hM := c_isSeen (G := G) (l := l) (d := d - 1) (by omega) _ r1 z s1
      rw [e1] at hM
      refine m_iload_n dX11_heavyBy_31 1 rfl ?_
      refine m_aload_n dX11_heavyBy_32 3 rfl ?_
      refine m_callV (As := []) dX11_heavyBy_33 cv_X11_337 (by first | assumption | rfl) (by decide) (by omega) rfl rfl (Nat.le_of_ble_eq_true rfl) hM (fun v1 σ1 hv1 => ?_)
      refine m_qIP hv1 (fun r1 hz => ?_)
      clear hv1 v1
      rename mS => s2
      obtain ⟨rfl, z1, z2⟩ := hz
      refine m_sel (pcJ := 47) ?_ (fun kt0 kf0 => m_if_eq dX11_heavyBy_36 46 (by decide) (fun h => (m_iconst (v := 0) dX11_heavyBy_46 (by decide) (kt0 h))) (fun h => (m_iconst (v := 1) dX11_heavyBy_39 (by decide) (m_iload dX11_heavyBy_40 0 rfl (m_ishl dX11_heavyBy_42 (m_goto dX11_heavyBy_43 47 (by decide) (kf0 h)))))))
      refine m_ior dX11_heavyBy_47 ?_
      refine m_istore_n (ls1 := [(3, _), (4, _), (2, _), (0, _), (1, _)]) dX11_heavyBy_48 (by decide) rfl ?_
      refine m_iconst (v := 0) dX11_heavyBy_49 (by decide) ?_
      refine m_istore (ls1 := [(5, _), (3, _), (4, _), (2, _), (0, _), (1, _)]) dX11_heavyBy_50 (by decide) rfl ?_
      generalize hE : setJ D k 4 (nI (u + 1)) = E at *
      have hkE : k < E.1.1 := by rw [← hE]; exact hk
      have hcl2 : ∀ v, 1 ≤ v → v < u + 1 → ∀ t, t < 24 → s2.1 147 (24 * v + t) = cellD (setJ D k 4 (nI v)) k t := fun v h1 h2 t ht => by
        rw [z2.at (by omega), us_at, if_neg (by omega)]; exact hcl v h1 h2 t ht
      have f2 : fW (wJ 4 k) s0 s2 := f1.tr (z2.mono (fun y z h => by omega))
      refine down (N := 24) (fun t (s3 : mS) => (∀ t', t' < t → s3.1 147 (24 * (u + 1) + t') = cellD E k t') ∧ fW (fun y z => y = 147 ∧ 24 * (u + 1) ≤ z) s2 s3) (fun t s3 => mW G l d kX11_heavyBy 52 [(5, .int (nI t)), (3, .int (f ||| (if bI (agP E (seF σ) z) = 0 then 0 else (1 : Int32) <<< (nI (u + 1) &&& 31)))), (4, .int (nI (u + 1))), (2, .int (D.1.2 k 4)), (0, .ref 111), (1, .int (nI k))] [] s3 _) ?_ ?_ 0 s2 (Nat.zero_le _) ⟨fun t h => absurd h (Nat.not_lt_zero _), fW.rf⟩
      · rintro s3 ⟨b1, b2⟩
        refine m_iload dX11_heavyBy_52 0 rfl ?_
        refine m_bipush (v := 24) dX11_heavyBy_54 (by decide) ?_
        refine m_icmp_ge dX11_heavyBy_56 106 (by decide) (fun h => ?_) (fun h => ?_)
        · refine m_iinc (v := nI (u + 1 + 1)) (ls1 := [(4, _), (5, _), (3, _), (2, _), (0, _), (1, _)]) dX11_heavyBy_106 2 rfl (nI_1 (u + 1)) (by decide) rfl ?_
          refine m_goto dX11_heavyBy_109 16 (by decide) ?_
          refine mW.sub (ls1 := [(4, _), (3, _), (2, _), (0, _), (1, _)]) [0, 2, 3, 4, 5] rfl ?_
          refine ih (s3, _) ⟨by omega, ?_, fun v h1 h2 t ht => ?_, f2.tr (b2.mono (fun y z h => by omega))⟩
          · show f ||| _ = hvP D k z (seF σ) (u + 1)
            rw [hf', hvP, hE]
            by_cases q : agP E (seF σ) z = true
            · rw [q]; rfl
            · rw [Bool.eq_false_iff.mpr q]; rfl
          · by_cases ev : v = u + 1
            · subst ev; rw [hE]; exact b1 t ht
            · show s3.1 147 (24 * v + t) = _
              rw [b2.at (by omega)]; exact hcl2 v h1 (by omega) t ht
        · exact absurd (Int32.le_refl _) h
      · rintro t s3 ht ⟨b1, b2⟩ ihT
        obtain ⟨q0, q1, -⟩ := (z1.1 t ht).2.2.2 k hkE
        have q0' := (b2.at (y := 134) (z := 8 * t + k) (by omega)).trans q0
        have q1' := (b2.at (y := 135) (z := 8 * t + k) (by omega)).trans q1
        refine m_iload dX11_heavyBy_52 0 rfl ?_
        refine m_bipush (v := 24) dX11_heavyBy_54 (by decide) ?_
        refine m_icmp_ge dX11_heavyBy_56 106 (by decide) (fun h => ?_) (fun h => ?_)
        · exact absurd ((nle (a := 24) (by omega) (by omega)).mp h) (by omega)
        · clear h
          refine m_aload_n dX11_heavyBy_59 4 rfl ?_
          refine m_getR 46 147 dX11_heavyBy_60 fl_X11_115_10 rfl (by decide) rfl (by first | assumption | rfl) ?_
          refine m_bipush (v := 24) dX11_heavyBy_63 (by decide) ?_
          refine m_iload dX11_heavyBy_65 2 rfl ?_
          refine m_imul dX11_heavyBy_67 ?_
          refine m_iload dX11_heavyBy_68 0 rfl ?_
          refine m_iadd dX11_heavyBy_70 ?_
          refine mW.top (w := nI (24 * (u + 1) + t)) (ix24 (u + 1) t) ?_
          refine m_bipush (v := 6) dX11_heavyBy_71 (by decide) ?_
          refine m_aload_n dX11_heavyBy_73 4 rfl ?_
          refine m_getR 32 134 dX11_heavyBy_74 fl_X11_76_10 rfl (by decide) rfl (by first | assumption | rfl) ?_
          refine m_bipush (v := 8) dX11_heavyBy_77 (by decide) ?_
          refine m_iload dX11_heavyBy_79 0 rfl ?_
          refine m_imul dX11_heavyBy_81 ?_
          refine m_iload_n dX11_heavyBy_82 5 rfl ?_
          refine m_iadd dX11_heavyBy_83 ?_
          refine mW.top (w := nI (8 * t + k)) (ix8 t k) ?_
          refine m_iald dX11_heavyBy_84 (by first | assumption | rfl) (8 * t + k) rfl (by first | assumption | omega | decide) ?_
          refine mW.top q0' ?_
          refine m_imul dX11_heavyBy_85 ?_
          refine m_aload_n dX11_heavyBy_86 4 rfl ?_
          refine m_getR 33 135 dX11_heavyBy_87 fl_X11_79_10 rfl (by decide) rfl (by first | assumption | rfl) ?_
          refine m_bipush (v := 8) dX11_heavyBy_90 (by decide) ?_
          refine m_iload dX11_heavyBy_92 0 rfl ?_
          refine m_imul dX11_heavyBy_94 ?_
          refine m_iload_n dX11_heavyBy_95 5 rfl ?_
          refine m_iadd dX11_heavyBy_96 ?_
          refine mW.top (w := nI (8 * t + k)) (ix8 t k) ?_
          refine m_iald dX11_heavyBy_97 (by first | assumption | rfl) (8 * t + k) rfl (by first | assumption | omega | decide) ?_
          refine mW.top q1' ?_
          refine m_iadd dX11_heavyBy_98 ?_
          refine m_iast dX11_heavyBy_99 (by first | assumption | rfl) (24 * (u + 1) + t) rfl (by first | assumption | omega | decide) ?_
          refine m_iinc (v := nI (t + 1)) (ls1 := [(5, _), (3, _), (4, _), (2, _), (0, _), (1, _)]) dX11_heavyBy_100 0 rfl (nI_1 t) (by decide) rfl ?_
          refine m_goto dX11_heavyBy_103 52 (by decide) ?_
          refine ihT _ ⟨fun t' ht' => ?_, fW.us (by omega) b2⟩
          rcases Nat.lt_succ_iff_lt_or_eq.mp ht' with h | rfl
          · rw [us_at, if_neg (by omega)]; exact b1 t' h
          · rw [us_at, if_pos ⟨rfl, rfl⟩]; rfl
end HV


/-! ===== the class: play ===== -/
theorem drv_cut (n : Nat) (c : Nat → Nat → Int32) (k : Nat) (mo : Int32) (r : RS) : (driveR n c k mo r).2.2.2.2.2.2.1 = r.2.2.2.2.2.2.1 := by
  unfold driveR driveW
  split
  · rfl
  · split
    · rfl
    · unfold rInto intoR
      split <;> rfl
theorem dA_cut (n : Nat) (c : Nat → Nat → Int32) (mo cut : Int32) (r : RS) : ∀ k, (driveAll n c mo cut r k).2.2.2.2.2.2.1 = r.2.2.2.2.2.2.1
  | 0 => rfl
  | k + 1 => by
    unfold driveAll
    split
    · exact dA_cut n c mo cut r k
    · rw [drv_cut]; exact dA_cut n c mo cut r k
theorem orT_no (T : Nat → Bool) (h : ∀ k, T k = false) : ∀ n, orT T n = 0
  | 0 => rfl
  | n + 1 => by unfold orT; rw [orT_no T h n, h n, if_neg (by decide)]; rfl
theorem tcP_start (D : Deb) (n : Nat) : tcP (startR D) n = 0 := orT_no _ (fun k => decide_eq_false (fun q => q ⟨rfl, rfl⟩)) n
/-- what a run may change -/
abbrev wPl (R : Nat) : Nat → Nat → Prop := fun y z => (y = R ∧ 5 ≤ z ∧ z ≤ 9) ∨ (R + 2 ≤ y ∧ y ≤ R + 7) ∨ (R + 9 ≤ y ∧ y ≤ R + 17)
/-- what the class's rows hold behind a moment -/
def rmom (R : Nat) (D : Deb) (t : Nat) (s : mS) : Prop := s.1 (R + 16) t = rungD D (nI t) ∧ s.1 (R + 17) t = (RSt D (t + 1)).2.2.2.2.2.2.2.2.2.2 ∧ ∀ k, k < D.1.1 → ∀ p, p < 6 → s.1 (R + 9 + p) (8 * t + k) = aAt (RSt D (t + 1)) k p
/-- what they hold of the run as a whole -/
def rall (R : Nat) (D : Deb) (r : RS) (s : mS) : Prop := s.1 R 5 = nI D.1.1 ∧ s.1 R 6 = r.2.2.2.2.2.2.2.1 ∧ s.1 R 7 = r.2.2.2.2.2.2.2.2.1 ∧ s.1 R 8 = r.2.2.2.2.2.2.2.2.2.1 ∧ s.1 R 9 = tcP r D.1.1 ∧ rnow R D.1.1 r s
def outC (R : Nat) (D : Deb) (s : mS) : Prop := rall R D (RSt D 24) s ∧ ∀ t, t < 24 → rmom R D t s
def midC (R : Nat) (D : Deb) (t : Nat) (s : mS) : Prop := rall R D (RSt D t) s ∧ rbrd R D.1.1 (RSt D t) s ∧ (∀ u, t ≤ u → u < 24 → s.1 (R + 16) u = 0 ∧ s.1 (R + 17) u = 0) ∧ ∀ u, u < t → rmom R D u s
section CB
variable {G : mG} {l : Launch} {d : Nat} {σ : mS}
theorem c_begin {R C : Nat} (hd : 1 ≤ d) (hR : R = 47 ∨ R = 80) (hC : C = 5 ∨ C = 66) (D : Deb) (wf : wfD D) (h3 : σ.1 C 3 = nI D.1.1) (hc : crow C D.1.1 D.1.2 σ) : mMet G l d kX3_begin [.ref R, .ref C] σ (qVP (fun s => midC R D 0 s ∧ fW (wPl R) σ s)) := by
  obtain ⟨g0, g1, g2, g3, g4, g5, g6, g7⟩ := sh_run hR
  have n0 := g2 0 (by decide)
  have n1 := g2 1 (by decide)
  have n2 := g2 2 (by decide)
  have n3 := g2 3 (by decide)
  have n4 := g2 4 (by decide)
  have n5 := g2 5 (by decide)
  have hC0 := (sh_car0 hC).1
  have hC1 := (sh_car0 hC).2
  have hn := wf.1
  refine mMet.of cm_X3_begin rfl (Nat.le_of_ble_eq_true rfl) rfl (fun v1 σ1 h => by rw [h.1]; trivial) ?_
  refine m_aload_n dX3_begin_0 0 rfl ?_
  refine m_aload_n dX3_begin_1 1 rfl ?_
  refine m_getI 3 dX3_begin_2 fl_X3_59_0 rfl (by decide) (by first | assumption | rfl) ?_
  refine mW.top h3 ?_
  refine m_putI 5 dX3_begin_5 fw_X3_48_3 rfl (by decide) rfl rfl (by first | assumption | rfl) ?_
  refine m_aload_n dX3_begin_8 0 rfl ?_
  refine m_iconst (v := 0) dX3_begin_9 (by decide) ?_
  refine m_putI 6 dX3_begin_10 fw_X3_62_3 rfl (by decide) rfl rfl (by first | assumption | rfl) ?_
  refine m_aload_n dX3_begin_13 0 rfl ?_
  refine m_iconst (v := -1) dX3_begin_14 (by decide) ?_
  refine m_putI 7 dX3_begin_15 fw_X3_29_3 rfl (by decide) rfl rfl (by first | assumption | rfl) ?_
  refine m_aload_n dX3_begin_18 0 rfl ?_
  refine m_iconst (v := -1) dX3_begin_19 (by decide) ?_
  refine m_putI 8 dX3_begin_20 fw_X3_33_3 rfl (by decide) rfl rfl (by first | assumption | rfl) ?_
  refine m_aload_n dX3_begin_23 0 rfl ?_
  refine m_iconst (v := 0) dX3_begin_24 (by decide) ?_
  refine m_putI 9 dX3_begin_25 fw_X3_65_3 rfl (by decide) rfl rfl (by first | assumption | rfl) ?_
  refine mW.cut (fun s1 => s1.1 R 5 = nI D.1.1 ∧ s1.1 R 6 = 0 ∧ s1.1 R 7 = -1 ∧ s1.1 R 8 = -1 ∧ s1.1 R 9 = 0 ∧ fW (wPl R) σ s1) ⟨?_, ?_, ?_, ?_, ?_, fW.us (by omega) (fW.us (by omega) (fW.us (by omega) (fW.us (by omega) (fW.us (by omega) fW.rf))))⟩ (fun s1 hs1 => ?_)
  · rw [us_at, if_neg (by omega), us_at, if_neg (by omega), us_at, if_neg (by omega), us_at, if_neg (by omega), us_at, if_pos ⟨rfl, rfl⟩]
  · rw [us_at, if_neg (by omega), us_at, if_neg (by omega), us_at, if_neg (by omega), us_at, if_pos ⟨rfl, rfl⟩]
  · rw [us_at, if_neg (by omega), us_at, if_neg (by omega), us_at, if_pos ⟨rfl, rfl⟩]
  · rw [us_at, if_neg (by omega), us_at, if_pos ⟨rfl, rfl⟩]
  · rw [us_at, if_pos ⟨rfl, rfl⟩]
  obtain ⟨a5, a6, a7, a8, a9, fa⟩ := hs1
  refine m_aload_n dX3_begin_28 0 rfl ?_
  refine m_getR 3 (R + 16) dX3_begin_29 fl_X3_23_3 rfl (by decide) rfl (by first | assumption | rfl) ?_
  refine m_iconst (v := 0) dX3_begin_32 (by decide) ?_
  refine m_callS (As := [_, _]) dX3_begin_33 cs_X3_68 (by omega) rfl rfl (Nat.le_of_ble_eq_true rfl) (c_fill (d := d - 1) g6 0) (fun v1 σ1 hv1 => ?_)
  refine m_qVP hv1 (fun hq => ?_)
  clear hv1 v1
  rename mS => s2
  obtain ⟨p1, f1⟩ := hq
  refine m_aload_n dX3_begin_36 0 rfl ?_
  refine m_getR 4 (R + 17) dX3_begin_37 fl_X3_26_3 rfl (by decide) rfl (by first | assumption | rfl) ?_
  refine m_iconst (v := 0) dX3_begin_40 (by decide) ?_
  refine m_callS (As := [_, _]) dX3_begin_41 cs_X3_68 (by omega) rfl rfl (Nat.le_of_ble_eq_true rfl) (c_fill (d := d - 1) g7 0) (fun v1 σ1 hv1 => ?_)
  refine m_qVP hv1 (fun hq => ?_)
  clear hv1 v1
  rename mS => s3
  obtain ⟨p2, f2⟩ := hq
  refine m_aload_n dX3_begin_44 0 rfl ?_
  refine m_getR 2 (R + 15) dX3_begin_45 fl_X3_19_3 rfl (by decide) rfl (by first | assumption | rfl) ?_
  refine m_iconst (v := -1) dX3_begin_48 (by decide) ?_
  refine m_callS (As := [_, _]) dX3_begin_49 cs_X3_68 (by omega) rfl rfl (Nat.le_of_ble_eq_true rfl) (c_fill (d := d - 1) g5 (-1)) (fun v1 σ1 hv1 => ?_)
  refine m_qVP hv1 (fun hq => ?_)
  clear hv1 v1
  rename mS => s4
  obtain ⟨p3, f3⟩ := hq
  have fo : ∀ a b, ¬ (a = R + 15 ∨ a = R + 16 ∨ a = R + 17) → s4.1 a b = s1.1 a b := fun a b hab => by rw [f3.at (by omega), f2.at (by omega), f1.at (by omega)]
  have f4 : fW (wPl R) σ s4 := (((fa.tr (f1.mono (fun y z h => by omega))).tr (f2.mono (fun y z h => by omega))).tr (f3.mono (fun y z h => by omega)))
  have b16 : ∀ u, u < 24 → s4.1 (R + 16) u = 0 := fun u hu => by rw [f3.at (by omega), f2.at (by omega)]; exact p1 u hu
  have b17 : ∀ u, u < 24 → s4.1 (R + 17) u = 0 := fun u hu => by rw [f3.at (by omega)]; exact p2 u hu
  have b5 : s4.1 R 5 = nI D.1.1 := (fo _ _ (by omega)).trans a5
  have b6 : s4.1 R 6 = 0 := (fo _ _ (by omega)).trans a6
  have b7 : s4.1 R 7 = -1 := (fo _ _ (by omega)).trans a7
  have b8 : s4.1 R 8 = -1 := (fo _ _ (by omega)).trans a8
  have b9 : s4.1 R 9 = 0 := (fo _ _ (by omega)).trans a9
  clear fo a5 a6 a7 a8 a9 p1 p2 f1 f2 f3 fa
  clear s1 s2 s3
  refine m_iconst (v := 0) dX3_begin_52 (by decide) ?_
  refine m_istore_n (ls1 := [(2, _), (0, _), (1, _)]) dX3_begin_53 (by decide) rfl ?_
  refine down (N := D.1.1) (fun i (q : mS) => (∀ k, k < i → q.1 (R + 2) k = D.1.2 k 1 ∧ q.1 (R + 3) k = D.1.2 k 2 ∧ q.1 (R + 4) k = D.1.2 k 3 ∧ q.1 (R + 5) k = 0 ∧ q.1 (R + 6) k = 0 ∧ q.1 (R + 7) k = 1) ∧ (∀ x y, x < 6 → y < 6 → q.1 (R + 15) (6 * x + y) = whoIn (fun k => D.1.2 k 1) (fun k => D.1.2 k 2) (nI x) (nI y) i) ∧ fW (fun y z => (R + 2 ≤ y ∧ y ≤ R + 7) ∨ y = R + 15) s4 q) (fun i q => mW G l d kX3_begin 54 [(2, .int (nI i)), (0, .ref R), (1, .ref C)] [] q _) ?_ ?_ 0 s4 (Nat.zero_le _) ⟨fun k hk => absurd hk (Nat.not_lt_zero _), fun x y hx hy => p3 _ (by omega), fW.rf⟩
  · rintro q ⟨e1, e2, e3⟩
    refine m_iload_n dX3_begin_54 0 rfl ?_
    refine m_aload_n dX3_begin_55 1 rfl ?_
    refine m_getI 5 dX3_begin_56 fl_X3_48_3 rfl (by decide) (by first | assumption | rfl) ?_
    refine mW.top ((e3.at (by omega)).trans b5) ?_
    refine m_icmp_ge dX3_begin_59 151 (by decide) (fun h => ?_) (fun h => ?_)
    rotate_left
    · exact absurd (Int32.le_refl _) h
    refine m_return dX3_begin_151 ⟨rfl, ⟨⟨(e3.at (by omega)).trans b5, (e3.at (by omega)).trans b6, (e3.at (by omega)).trans b7, (e3.at (by omega)).trans b8, ((e3.at (by omega)).trans b9).trans (tcP_start D _).symm, fun k hk => ?_⟩, e2, fun u _ hu => ⟨(e3.at (by omega)).trans (b16 u hu), (e3.at (by omega)).trans (b17 u hu)⟩, fun u hu => absurd hu (Nat.not_lt_zero _)⟩, f4.tr (e3.mono (fun y z h => by omega))⟩
    obtain ⟨k1, k2, k3, k4, k5, k6⟩ := e1 k hk
    refine ⟨k1, k2, k3, k4, k5, k6.trans ?_⟩
    show (1 : Int32) = if bitI 0 (nI k) then 0 else 1
    rw [if_neg (bit_zero k (by omega))]
  · rintro i q hi ⟨e1, e2, e3⟩ ih
    have hi8 : i < 8 := by omega
    have hCi := sh_car (k := i) hC hi8
    have fc : ∀ j, j < 5 → q.1 (C + 1 + 1 + i) j = D.1.2 i j := fun j hj => ((e3.at (by omega)).trans (f4.at (by omega))).trans (hc i hi j hj)
    obtain ⟨w1, w2, w3⟩ := wf.2.2.1 i hi
    obtain ⟨x, hx, ex⟩ := six_of w1
    obtain ⟨y, hy, ey⟩ := six_of w2
    refine m_iload_n dX3_begin_54 0 rfl ?_
    refine m_aload_n dX3_begin_55 1 rfl ?_
    refine m_getI 5 dX3_begin_56 fl_X3_48_3 rfl (by decide) (by first | assumption | rfl) ?_
    refine mW.top ((e3.at (by omega)).trans b5) ?_
    refine m_icmp_ge dX3_begin_59 151 (by decide) (fun h => ?_) (fun h => ?_)
    · exact absurd ((nle (by omega) (by omega)).mp h) (by omega)
    clear h
    have fc1 := (fc 1 (by decide)).trans ex
    have fc2 := (fc 2 (by decide)).trans ey
    have fc3 := fc 3 (by decide)
    refine m_aload_n dX3_begin_62 2 rfl ?_
    refine m_getR 0 (C + 1) dX3_begin_63 fl_X3_74_0 rfl (by decide) rfl (by first | assumption | rfl) ?_
    refine m_iload_n dX3_begin_66 0 rfl ?_
    refine m_aald dX3_begin_67 (by first | assumption | rfl) i rfl (by first | assumption | omega | decide) ?_
    refine m_astore_n (ls1 := [(3, _), (2, _), (0, _), (1, _)]) dX3_begin_68 (by decide) rfl ?_
    refine m_aload_n dX3_begin_69 2 rfl ?_
    refine m_getR 0 (R + 1) dX3_begin_70 fl_X3_13_3 rfl (by decide) rfl (by first | assumption | rfl) ?_
    refine m_iconst (v := 0) dX3_begin_73 (by decide) ?_
    refine m_aald dX3_begin_74 (by first | assumption | rfl) 0 rfl (by first | assumption | omega | decide) ?_
    refine m_iload_n dX3_begin_75 1 rfl ?_
    refine m_aload_n dX3_begin_76 0 rfl ?_
    refine m_iconst (v := 1) dX3_begin_77 (by decide) ?_
    refine m_iald dX3_begin_78 (by first | assumption | rfl) 1 rfl (by first | assumption | omega | decide) ?_
    refine mW.top fc1 ?_
    refine m_iast dX3_begin_79 (by first | assumption | rfl) i rfl (by first | assumption | omega | decide) ?_
    refine m_aload_n dX3_begin_80 2 rfl ?_
    refine m_getR 0 (R + 1) dX3_begin_81 fl_X3_13_3 rfl (by decide) rfl (by first | assumption | rfl) ?_
    refine m_iconst (v := 1) dX3_begin_84 (by decide) ?_
    refine m_aald dX3_begin_85 (by first | assumption | rfl) 1 rfl (by first | assumption | omega | decide) ?_
    refine m_iload_n dX3_begin_86 1 rfl ?_
    refine m_aload_n dX3_begin_87 0 rfl ?_
    refine m_iconst (v := 2) dX3_begin_88 (by decide) ?_
    refine m_iald dX3_begin_89 (by first | assumption | rfl) 2 rfl (by first | assumption | omega | decide) ?_
    refine mW.top (w := nI y) (by rw [us_at, if_neg (by omega)]; exact fc2) ?_
    refine m_iast dX3_begin_90 (by first | assumption | rfl) i rfl (by first | assumption | omega | decide) ?_
    refine m_aload_n dX3_begin_91 2 rfl ?_
    refine m_getR 0 (R + 1) dX3_begin_92 fl_X3_13_3 rfl (by decide) rfl (by first | assumption | rfl) ?_
    refine m_iconst (v := 2) dX3_begin_95 (by decide) ?_
    refine m_aald dX3_begin_96 (by first | assumption | rfl) 2 rfl (by first | assumption | omega | decide) ?_
    refine m_iload_n dX3_begin_97 1 rfl ?_
    refine m_aload_n dX3_begin_98 0 rfl ?_
    refine m_iconst (v := 3) dX3_begin_99 (by decide) ?_
    refine m_iald dX3_begin_100 (by first | assumption | rfl) 3 rfl (by first | assumption | omega | decide) ?_
    refine mW.top (w := D.1.2 i 3) (by rw [us_at, if_neg (by omega), us_at, if_neg (by omega)]; exact fc3) ?_
    refine m_iast dX3_begin_101 (by first | assumption | rfl) i rfl (by first | assumption | omega | decide) ?_
    refine m_aload_n dX3_begin_102 2 rfl ?_
    refine m_getR 0 (R + 1) dX3_begin_103 fl_X3_13_3 rfl (by decide) rfl (by first | assumption | rfl) ?_
    refine m_iconst (v := 3) dX3_begin_106 (by decide) ?_
    refine m_aald dX3_begin_107 (by first | assumption | rfl) 3 rfl (by first | assumption | omega | decide) ?_
    refine m_iload_n dX3_begin_108 1 rfl ?_
    refine m_iconst (v := 0) dX3_begin_109 (by decide) ?_
    refine m_iast dX3_begin_110 (by first | assumption | rfl) i rfl (by first | assumption | omega | decide) ?_
    refine m_aload_n dX3_begin_111 2 rfl ?_
    refine m_getR 0 (R + 1) dX3_begin_112 fl_X3_13_3 rfl (by decide) rfl (by first | assumption | rfl) ?_
    refine m_iconst (v := 4) dX3_begin_115 (by decide) ?_
    refine m_aald dX3_begin_116 (by first | assumption | rfl) 4 rfl (by first | assumption | omega | decide) ?_
    refine m_iload_n dX3_begin_117 1 rfl ?_
    refine m_iconst (v := 0) dX3_begin_118 (by decide) ?_
    refine m_iast dX3_begin_119 (by first | assumption | rfl) i rfl (by first | assumption | omega | decide) ?_
    refine m_aload_n dX3_begin_120 2 rfl ?_
    refine m_getR 0 (R + 1) dX3_begin_121 fl_X3_13_3 rfl (by decide) rfl (by first | assumption | rfl) ?_
    refine m_iconst (v := 5) dX3_begin_124 (by decide) ?_
    refine m_aald dX3_begin_125 (by first | assumption | rfl) 5 rfl (by first | assumption | omega | decide) ?_
    refine m_iload_n dX3_begin_126 1 rfl ?_
    refine m_iconst (v := 1) dX3_begin_127 (by decide) ?_
    refine m_iast dX3_begin_128 (by first | assumption | rfl) i rfl (by first | assumption | omega | decide) ?_
    refine mW.cut (fun s5 => (∀ k, k < i + 1 → s5.1 (R + 2) k = D.1.2 k 1 ∧ s5.1 (R + 3) k = D.1.2 k 2 ∧ s5.1 (R + 4) k = D.1.2 k 3 ∧ s5.1 (R + 5) k = 0 ∧ s5.1 (R + 6) k = 0 ∧ s5.1 (R + 7) k = 1) ∧ fW (fun y z => R + 2 ≤ y ∧ y ≤ R + 7) q s5) ⟨fun k hk => ?_, fW.us (by omega) (fW.us (by omega) (fW.us (by omega) (fW.us (by omega) (fW.us (by omega) (fW.us (by omega) fW.rf)))))⟩ (fun s5 hs5 => ?_)
    · by_cases e : k = i
      · subst e
        refine ⟨?_, ?_, ?_, ?_, ?_, ?_⟩
        · rw [us_at, if_neg (by omega), us_at, if_neg (by omega), us_at, if_neg (by omega), us_at, if_neg (by omega), us_at, if_neg (by omega), us_at, if_pos ⟨rfl, rfl⟩, ex]
        · rw [us_at, if_neg (by omega), us_at, if_neg (by omega), us_at, if_neg (by omega), us_at, if_neg (by omega), us_at, if_pos ⟨rfl, rfl⟩, ey]
        · rw [us_at, if_neg (by omega), us_at, if_neg (by omega), us_at, if_neg (by omega), us_at, if_pos ⟨rfl, rfl⟩]
        · rw [us_at, if_neg (by omega), us_at, if_neg (by omega), us_at, if_pos ⟨rfl, rfl⟩]
        · rw [us_at, if_neg (by omega), us_at, if_pos ⟨rfl, rfl⟩]
        · rw [us_at, if_pos ⟨rfl, rfl⟩]
      · obtain ⟨k1, k2, k3, k4, k5, k6⟩ := e1 k (by omega)
        have un : ∀ {s : mS} {a : Nat} {v : Int32} (b : Nat), (us s a i v).1 b k = s.1 b k := fun b => by rw [us_at, if_neg (fun z => e z.2)]
        simp only [un]
        exact ⟨k1, k2, k3, k4, k5, k6⟩
    obtain ⟨m1, m2⟩ := hs5
    have fd1 : s5.1 (C + 1 + 1 + i) 1 = nI x := (m2.at (by omega)).trans fc1
    have fd2 : s5.1 (C + 1 + 1 + i) 2 = nI y := (m2.at (by omega)).trans fc2
    refine m_aload_n dX3_begin_129 2 rfl ?_
    refine m_getR 2 (R + 15) dX3_begin_130 fl_X3_19_3 rfl (by decide) rfl (by first | assumption | rfl) ?_
    refine m_aload_n dX3_begin_133 0 rfl ?_
    refine m_iconst (v := 1) dX3_begin_134 (by decide) ?_
    refine m_iald dX3_begin_135 (by first | assumption | rfl) 1 rfl (by first | assumption | omega | decide) ?_
    refine mW.top fd1 ?_
    refine m_bipush (v := 6) dX3_begin_136 (by decide) ?_
    refine m_imul dX3_begin_138 ?_
    refine m_aload_n dX3_begin_139 0 rfl ?_
    refine m_iconst (v := 2) dX3_begin_140 (by decide) ?_
    refine m_iald dX3_begin_141 (by first | assumption | rfl) 2 rfl (by first | assumption | omega | decide) ?_
    refine mW.top fd2 ?_
    refine m_iadd dX3_begin_142 ?_
    refine mW.top (ix6 x y) ?_
    refine m_iload_n dX3_begin_143 1 rfl ?_
    refine m_iast dX3_begin_144 (by first | assumption | rfl) (6 * x + y) rfl (by first | assumption | omega | decide) ?_
    refine m_iinc (v := nI (i + 1)) (ls1 := [(2, _), (3, _), (0, _), (1, _)]) dX3_begin_145 1 rfl (nI_1 i) (by decide) rfl ?_
    refine m_goto dX3_begin_148 54 (by decide) ?_
    refine mW.sub (ls1 := [(2, _), (0, _), (1, _)]) [0, 2, 3] rfl ?_
    refine ih _ ⟨fun k hk => ?_, fun a b ha hb => ?_, fW.us (by omega) (e3.tr (m2.mono (fun y z h => by omega)))⟩
    · have un : ∀ b, b ≠ R + 15 → (us s5 (R + 15) (6 * x + y) (nI i)).1 b k = s5.1 b k := fun b hb => by rw [us_at, if_neg (fun z => hb z.1)]
      rw [un _ (by omega), un _ (by omega), un _ (by omega), un _ (by omega), un _ (by omega), un _ (by omega)]
      exact m1 k hk
    · rw [us_at, whoIn, ex, ey]
      have eqN : ∀ i j, i < 1000 → j < 1000 → (nI i = nI j ↔ i = j) := fun i j hi hj => neq (by omega) (by omega)
      by_cases z : x = a ∧ y = b
      · obtain ⟨rfl, rfl⟩ := z
        rw [if_pos ⟨rfl, rfl⟩, if_pos ⟨rfl, rfl⟩]
      · rw [if_neg (by omega), if_neg (fun w => z ⟨(eqN _ _ (by omega) (by omega)).mp w.1, (eqN _ _ (by omega) (by omega)).mp w.2⟩), m2.at (by omega)]
        exact e2 a b ha hb
/-- a debate as the class's rows tell it: cars at C, events at E, steers -/
def depC (C E : Nat) (D : Deb) (s : mS) : Prop := s.1 C 3 = nI D.1.1 ∧ crow C D.1.1 D.1.2 s ∧ D.2.1.1 ≤ 13 ∧ strow D.2.1.1 D.2.1.2 s ∧ evOK D.2.2.1.1 D.2.2.1.2 ∧ evrow E D.2.2.1.1 D.2.2.1.2 s
theorem depC.tr {C E : Nat} {D : Deb} {s s1 : mS} {W : Nat → Nat → Prop} (hn : D.1.1 ≤ 8) (h : depC C E D s) (f : fW W s s1) (h1 : ¬ W C 3) (h2 : ∀ k j, k < 8 → ¬ W (C + 2 + k) j) (h3 : ¬ W 15 3) (h4 : ∀ i j, i < 13 → ¬ W (17 + i) j) (h5 : ¬ W E 3) (h6 : ∀ j, ¬ W (E + 1) j ∧ ¬ W (E + 2) j ∧ ¬ W (E + 3) j) : depC C E D s1 := by
  obtain ⟨a1, a2, a3, a4, a5, a6⟩ := h
  exact ⟨(f.at h1).trans a1, a2.tr f (fun k j hk => h2 k j (by omega)), a3, ⟨(f.at h3).trans a4.1, fun i hi j hj => (f.at (h4 i j (by omega))).trans (a4.2 i hi j hj)⟩, a5, ⟨(f.at h5).trans a6.1, fun i hi => ⟨(f.at (h6 i).1).trans (a6.2 i hi).1, (f.at (h6 i).2.1).trans (a6.2 i hi).2.1, (f.at (h6 i).2.2).trans (a6.2 i hi).2.2⟩⟩⟩
theorem c_play {R C E : Nat} (hd : 4 ≤ d) (hR : R = 47 ∨ R = 80) (hC : C = 5 ∨ C = 66) (hE : E = 30 ∨ E = 76) (D : Deb) (wf : wfD D) (hdep : depC C E D σ) (mask : Int32) (hmask : D.2.2.2 = mask) : mMet G l d kX3_play [.ref R, .ref C, .ref 15, .ref E, .int mask] σ (qVP (fun s => outC R D s ∧ fW (wPl R) σ s)) := by
  obtain ⟨g0, g1, g2, g3, g4, g5, g6, g7⟩ := sh_run hR
  have n5 := g2 5 (by decide)
  have hn := wf.1
  have tr : ∀ s, fW (wPl R) σ s → depC C E D s := fun s f => hdep.tr hn f (by omega) (fun k j hk => by omega) (by omega) (fun i j hi => by omega) (by omega) (fun j => by omega)
  refine mMet.of cm_X3_play rfl (Nat.le_of_ble_eq_true rfl) rfl (fun v1 σ1 h => by rw [h.1]; trivial) ?_
  refine m_aload_n dX3_play_0 0 rfl ?_
  refine m_aload_n dX3_play_1 1 rfl ?_
  refine m_callV (As := [_]) dX3_play_2 cv_X3_36 (by first | assumption | rfl) (by decide) (by omega) rfl rfl (Nat.le_of_ble_eq_true rfl) (c_begin (d := d - 1) (by omega) hR hC D wf hdep.1 hdep.2.1) (fun v1 σ1 hv1 => ?_)
  refine m_qVP hv1 (fun hq => ?_)
  clear hv1 v1
  rename mS => s0
  obtain ⟨m0, f0⟩ := hq
  refine m_iconst (v := 0) dX3_play_5 (by decide) ?_
  refine m_istore (ls1 := [(5, _), (0, _), (1, _), (2, _), (3, _), (4, _)]) dX3_play_6 (by decide) rfl ?_
  refine down (N := 24) (fun t (q : mS) => midC R D t q ∧ fW (wPl R) σ q) (fun t q => mW G l d kX3_play 8 [(5, .int (nI t)), (0, .ref R), (1, .ref C), (2, .ref 15), (3, .ref E), (4, .int mask)] [] q _) ?_ ?_ 0 s0 (Nat.zero_le _) ⟨m0, f0⟩
  · rintro q ⟨b1, b2⟩
    refine m_iload dX3_play_8 0 rfl ?_
    refine m_bipush (v := 24) dX3_play_10 (by decide) ?_
    refine m_icmp_ge dX3_play_12 94 (by decide) (fun h => ?_) (fun h => ?_)
    · exact m_return dX3_play_94 ⟨rfl, ⟨b1.1, b1.2.2.2⟩, b2⟩
    · exact absurd (Int32.le_refl _) h
  · rintro t q ht ⟨⟨⟨r5, r6, r7, r8, r9, rn⟩, rb, rz, ro⟩, b2⟩ ih
    obtain ⟨d1, d2, d3, d4, d5, d6⟩ := tr q b2
    have wft := wf.run t
    refine m_iload dX3_play_8 0 rfl ?_
    refine m_bipush (v := 24) dX3_play_10 (by decide) ?_
    refine m_icmp_ge dX3_play_12 94 (by decide) (fun h => ?_) (fun h => ?_)
    · exact absurd ((nle (a := 24) (by omega) (by omega)).mp h) (by omega)
    clear h
    refine m_aload_n dX3_play_15 1 rfl ?_
    refine m_aload_n dX3_play_16 4 rfl ?_
    refine m_iload dX3_play_17 5 rfl ?_
    refine m_iload dX3_play_19 0 rfl ?_
    refine m_callV (As := [_, _, _]) dX3_play_21 cv_X3_40 (by first | assumption | rfl) (by decide) (by omega) rfl rfl (Nat.le_of_ble_eq_true rfl) (c_doEvents (d := d - 1) hR hE D.1.1 t D.2.2.1.1 D.2.2.1.2 mask (RSt D t).2.2.2.2.2.2.1 hn ht d5 d6 r5 (rz t (Nat.le_refl _) ht).1 (fun k hk => (rn k hk).2.2.2.2.2)) (fun v1 σ1 hv1 => ?_)
    refine m_qVP hv1 (fun hq => ?_)
    clear hv1 v1
    rename mS => s1
    obtain ⟨p1, p2, f1⟩ := hq
    have hc1 : crow C D.1.1 D.1.2 s1 := d2.tr f1 (fun k j hk => by omega)
    have hs1 : strow D.2.1.1 D.2.1.2 s1 := ⟨(f1.at (by omega)).trans d4.1, fun i hi j hj => (f1.at (by omega)).trans (d4.2 i hi j hj)⟩
    refine m_aload_n dX3_play_24 1 rfl ?_
    refine m_aload_n dX3_play_25 2 rfl ?_
    refine m_aload_n dX3_play_26 3 rfl ?_
    refine m_iload dX3_play_27 0 rfl ?_
    refine m_callV (As := [_, _, _]) dX3_play_29 cv_X3_44 (by first | assumption | rfl) (by decide) (by omega) rfl rfl (Nat.le_of_ble_eq_true rfl) (c_doSteers (d := d - 1) hR hC D.1.1 t D.2.1.1 D.1.2 D.2.1.2 (RSt D t).2.2.1 hn ht d3 hc1 hs1 wf.2.1 (fun k hk => (wft.1 k hk).2.2.1) ((f1.at (by omega)).trans r5) (fun k hk => (f1.at (by omega)).trans (rn k hk).2.2.1)) (fun v1 σ1 hv1 => ?_)
    refine m_qVP hv1 (fun hq => ?_)
    clear hv1 v1
    rename mS => s2
    obtain ⟨p3, f2⟩ := hq
    have f12 : fW (fun y z => (y = R + 16 ∧ z = t) ∨ y = R + 7 ∨ y = R + 4) q s2 := (f1.mono (fun y z h => by omega)).tr (f2.mono (fun y z h => by omega))
    have hrung : s2.1 (R + 16) t = rungD D (nI t) := (f2.at (by omega)).trans (by rw [p1]; unfold rungD; rw [hmask])
    have hcu : ∀ k, k < D.1.1 → s2.1 (R + 7) k = if bitI (cutD D (nI t) (RSt D t).2.2.2.2.2.2.1) (nI k) then 0 else 1 := fun k hk => (f2.at (by omega)).trans (by rw [p2 k hk]; unfold cutD; rw [hmask])
    have k0 : cRr R D.1.1 t (readyR D (nI t) (RSt D t)) s2 := by
      refine ⟨⟨(f12.at (by omega)).trans r5, (f12.at (by omega)).trans r6, (f12.at (by omega)).trans r7, (f12.at (by omega)).trans r8, (f12.at (by omega)).trans r9, (f12.at (by omega)).trans (rz t (Nat.le_refl _) ht).2⟩, fun k hk => ⟨(f12.at (by omega)).trans (rn k hk).1, (f12.at (by omega)).trans (rn k hk).2.1, p3 k hk, (f12.at (by omega)).trans (rn k hk).2.2.2.1, (f12.at (by omega)).trans (rn k hk).2.2.2.2.1, hcu k hk⟩, fun x y hx hy => (f12.at (by omega)).trans (rb x y hx hy)⟩
    have hc2 : crow C D.1.1 D.1.2 s2 := d2.tr f12 (fun k j hk => by omega)
    have wfr := wft.ready wf.2.1 (nI t)
    -- behind the going
    have fin : ∀ (s3 : mS) (k : Nat), cRr R D.1.1 t (goR D (nI t) (RSt D t)) s3 → fW (wGo R t) s2 s3 → mW G l d kX3_play 82 [(6, .int (nI k)), (5, .int (nI t)), (0, .ref R), (1, .ref C), (2, .ref 15), (3, .ref E), (4, .int mask)] [] s3 (qVP (fun s => outC R D s ∧ fW (wPl R) σ s)) := by
      intro s3 k k3 f3
      refine m_aload_n dX3_play_82 2 rfl ?_
      refine m_iload dX3_play_83 1 rfl ?_
      refine m_callV (As := [_]) dX3_play_85 cv_X3_55 (by first | assumption | rfl) (by decide) (by omega) rfl rfl (Nat.le_of_ble_eq_true rfl) (c_keepC (d := d - 1) (by omega) hR t ht) (fun v1 σ1 hv1 => ?_)
      refine m_qVP hv1 (fun hq => ?_)
      clear hv1 v1
      rename mS => s4
      obtain ⟨p4, f4⟩ := hq
      refine m_iinc (v := nI (t + 1)) (ls1 := [(5, _), (6, _), (0, _), (1, _), (2, _), (3, _), (4, _)]) dX3_play_88 1 rfl (nI_1 t) (by decide) rfl ?_
      refine m_goto dX3_play_91 8 (by decide) ?_
      refine mW.sub (ls1 := [(5, _), (0, _), (1, _), (2, _), (3, _), (4, _)]) [0, 2, 3, 4, 5, 6] rfl ?_
      obtain ⟨⟨c1, c2, c3, c4, c5, c6⟩, c7, c8⟩ := k3
      have f24 : ∀ a b, ¬ ((a = R ∧ 6 ≤ b ∧ b ≤ 9) ∨ (R + 2 ≤ a ∧ a ≤ R + 7) ∨ (R + 9 ≤ a ∧ a ≤ R + 15 ∧ 8 * t ≤ b ∧ b < 8 * t + 8) ∨ a = R + 15 ∨ (a = R + 16 ∧ b = t) ∨ (a = R + 17 ∧ b = t)) → s4.1 a b = q.1 a b := fun a b hab => by rw [f4.at (by omega), f3.at (by omega), f12.at (by omega)]
      refine ih s4 ⟨⟨⟨(f4.at (by omega)).trans c1, (f4.at (by omega)).trans c2, (f4.at (by omega)).trans c3, (f4.at (by omega)).trans c4, (f4.at (by omega)).trans c5, fun i hi => ?_⟩, fun x y hx hy => (f4.at (by omega)).trans (c8 x y hx hy), fun u hu hu2 => ⟨(f24 _ _ (by omega)).trans (rz u (by omega) hu2).1, (f24 _ _ (by omega)).trans (rz u (by omega) hu2).2⟩, fun u hu => ?_⟩, ?_⟩
      · obtain ⟨e1, e2, e3, e4, e5, e6⟩ := c7 i hi
        exact ⟨(f4.at (by omega)).trans e1, (f4.at (by omega)).trans e2, (f4.at (by omega)).trans e3, (f4.at (by omega)).trans e4, (f4.at (by omega)).trans e5, (f4.at (by omega)).trans e6⟩
      · rcases Nat.lt_succ_iff_lt_or_eq.mp hu with h | rfl
        · obtain ⟨o1, o2, o3⟩ := ro u h
          exact ⟨(f24 _ _ (by omega)).trans o1, (f24 _ _ (by omega)).trans o2, fun k hk p hp => (f24 _ _ (by omega)).trans (o3 k hk p hp)⟩
        · refine ⟨((f4.at (by omega)).trans (f3.at (by omega))).trans hrung, (f4.at (by omega)).trans c6, fun k hk p hp => ?_⟩
          rw [p4 p hp k (by omega)]
          obtain ⟨e1, e2, e3, e4, e5, e6⟩ := c7 k hk
          rcases (show p = 0 ∨ p = 1 ∨ p = 2 ∨ p = 3 ∨ p = 4 ∨ p = 5 by omega) with rfl | rfl | rfl | rfl | rfl | rfl
          · exact e1
          · exact e2
          · exact e3
          · exact e4
          · exact e5
          · exact e6
      · exact ((b2.tr (f12.mono (fun y z h => by omega))).tr (f3.mono (fun y z h => by omega))).tr (f4.mono (fun y z h => by omega))
    refine m_iconst (v := 0) dX3_play_32 (by decide) ?_
    refine m_istore (ls1 := [(6, _), (5, _), (0, _), (1, _), (2, _), (3, _), (4, _)]) dX3_play_33 (by decide) rfl ?_
    by_cases hru : rungD D (nI t) = 0
    · have go : goR D (nI t) (RSt D t) = driveAll D.1.1 D.1.2 (nI t) (cutD D (nI t) (RSt D t).2.2.2.2.2.2.1) (readyR D (nI t) (RSt D t)) D.1.1 := by unfold goR; rw [if_pos hru]
      refine down (N := D.1.1) (fun k (s3 : mS) => cRr R D.1.1 t (driveAll D.1.1 D.1.2 (nI t) (cutD D (nI t) (RSt D t).2.2.2.2.2.2.1) (readyR D (nI t) (RSt D t)) k) s3 ∧ fW (wGo R t) s2 s3) (fun k s3 => mW G l d kX3_play 35 [(6, .int (nI k)), (5, .int (nI t)), (0, .ref R), (1, .ref C), (2, .ref 15), (3, .ref E), (4, .int mask)] [] s3 _) ?_ ?_ 0 s2 (Nat.zero_le _) ⟨k0, fW.rf⟩
      · rintro s3 ⟨k3, f3⟩
        refine m_iload dX3_play_35 0 rfl ?_
        refine m_aload_n dX3_play_37 2 rfl ?_
        refine m_getI 5 dX3_play_38 fl_X3_48_3 rfl (by decide) (by first | assumption | rfl) ?_
        refine mW.top k3.1.1 ?_
        refine m_icmp_ge dX3_play_41 82 (by decide) (fun h => ?_) (fun h => ?_)
        · exact fin s3 D.1.1 (go ▸ k3) f3
        · exact absurd (Int32.le_refl _) h
      · rintro k s3 hk ⟨k3, f3⟩ ihk
        have hk8 : k < 8 := by omega
        have hr3 : s3.1 (R + 16) t = rungD D (nI t) := (f3.at (by omega)).trans hrung
        have wfk := wfr.all hn D.1.2 (nI t) (cutD D (nI t) (RSt D t).2.2.2.2.2.2.1) k (by omega)
        have hcut := (k3.2.1 k hk).2.2.2.2.2
        rw [dA_cut] at hcut
        have hcut : s3.1 (R + 7) k = if bitI (cutD D (nI t) (RSt D t).2.2.2.2.2.2.1) (nI k) then 0 else 1 := hcut
        refine m_iload dX3_play_35 0 rfl ?_
        refine m_aload_n dX3_play_37 2 rfl ?_
        refine m_getI 5 dX3_play_38 fl_X3_48_3 rfl (by decide) (by first | assumption | rfl) ?_
        refine mW.top k3.1.1 ?_
        refine m_icmp_ge dX3_play_41 82 (by decide) (fun h => ?_) (fun h => ?_)
        · exact absurd ((nle (by omega) (by omega)).mp h) (by omega)
        clear h
        refine m_aload_n dX3_play_44 2 rfl ?_
        refine m_getR 3 (R + 16) dX3_play_45 fl_X3_23_3 rfl (by decide) rfl (by first | assumption | rfl) ?_
        refine m_iload dX3_play_48 1 rfl ?_
        refine m_iald dX3_play_50 (by first | assumption | rfl) t rfl (by first | assumption | omega | decide) ?_
        refine mW.top hr3 ?_
        refine m_if_ne dX3_play_51 82 (by decide) (fun h => ?_) (fun h => ?_)
        · exact absurd hru h
        clear h
        by_cases hbt : bitI (cutD D (nI t) (RSt D t).2.2.2.2.2.2.1) (nI k)
        · rw [if_pos hbt] at hcut
          refine m_aload_n dX3_play_54 2 rfl ?_
          refine m_getR 0 (R + 1) dX3_play_55 fl_X3_13_3 rfl (by decide) rfl (by first | assumption | rfl) ?_
          refine m_iconst (v := 5) dX3_play_58 (by decide) ?_
          refine m_aald dX3_play_59 (by first | assumption | rfl) 5 rfl (by first | assumption | omega | decide) ?_
          refine m_iload dX3_play_60 0 rfl ?_
          refine m_iald dX3_play_62 (by first | assumption | rfl) k rfl (by first | assumption | omega | decide) ?_
          refine mW.top hcut ?_
          refine m_iconst (v := 1) dX3_play_63 (by decide) ?_
          refine m_icmp_ne dX3_play_64 76 (by decide) (fun h => ?_) (fun h => ?_)
          rotate_left
          · exact absurd h (by decide)
          clear h
          refine m_iinc (v := nI (k + 1)) (ls1 := [(6, _), (5, _), (0, _), (1, _), (2, _), (3, _), (4, _)]) dX3_play_76 0 rfl (nI_1 k) (by decide) rfl ?_
          refine m_goto dX3_play_79 35 (by decide) ?_
          refine ihk s3 ⟨?_, f3⟩
          rw [driveAll, if_pos hbt]; exact k3
        · rw [if_neg hbt] at hcut
          refine m_aload_n dX3_play_54 2 rfl ?_
          refine m_getR 0 (R + 1) dX3_play_55 fl_X3_13_3 rfl (by decide) rfl (by first | assumption | rfl) ?_
          refine m_iconst (v := 5) dX3_play_58 (by decide) ?_
          refine m_aald dX3_play_59 (by first | assumption | rfl) 5 rfl (by first | assumption | omega | decide) ?_
          refine m_iload dX3_play_60 0 rfl ?_
          refine m_iald dX3_play_62 (by first | assumption | rfl) k rfl (by first | assumption | omega | decide) ?_
          refine mW.top hcut ?_
          refine m_iconst (v := 1) dX3_play_63 (by decide) ?_
          refine m_icmp_ne dX3_play_64 76 (by decide) (fun h => ?_) (fun h => ?_)
          · exact absurd rfl h
          clear h
          refine m_aload_n dX3_play_67 2 rfl ?_
          refine m_aload_n dX3_play_68 3 rfl ?_
          refine m_iload dX3_play_69 1 rfl ?_
          refine m_iload dX3_play_71 0 rfl ?_
          refine m_callV (As := [_, _, _]) dX3_play_73 cv_X3_51 (by first | assumption | rfl) (by decide) (by omega) rfl rfl (Nat.le_of_ble_eq_true rfl) (c_go (d := d - 1) (by omega) hR hC D.1.1 t (8 * t + k) k _ D.1.2 hn (by omega) ht wfk k3 (hc2.tr f3 (fun k j hk => by omega)) hk) (fun v1 σ1 hv1 => ?_)
          refine m_qVP hv1 (fun hq => ?_)
          clear hv1 v1
          rename mS => s5
          obtain ⟨k5, f5⟩ := hq
          refine m_iinc (v := nI (k + 1)) (ls1 := [(6, _), (5, _), (0, _), (1, _), (2, _), (3, _), (4, _)]) dX3_play_76 0 rfl (nI_1 k) (by decide) rfl ?_
          refine m_goto dX3_play_79 35 (by decide) ?_
          refine ihk s5 ⟨?_, f3.tr f5⟩
          rw [driveAll, if_neg hbt]; exact k5
    · have go : goR D (nI t) (RSt D t) = readyR D (nI t) (RSt D t) := by unfold goR; rw [if_neg hru]
      refine m_iload dX3_play_35 0 rfl ?_
      refine m_aload_n dX3_play_37 2 rfl ?_
      refine m_getI 5 dX3_play_38 fl_X3_48_3 rfl (by decide) (by first | assumption | rfl) ?_
      refine mW.top k0.1.1 ?_
      refine m_icmp_ge dX3_play_41 82 (by decide) (fun h => ?_) (fun h => ?_)
      · exact fin s2 0 (go ▸ k0) fW.rf
      clear h
      refine m_aload_n dX3_play_44 2 rfl ?_
      refine m_getR 3 (R + 16) dX3_play_45 fl_X3_23_3 rfl (by decide) rfl (by first | assumption | rfl) ?_
      refine m_iload dX3_play_48 1 rfl ?_
      refine m_iald dX3_play_50 (by first | assumption | rfl) t rfl (by first | assumption | omega | decide) ?_
      refine mW.top hrung ?_
      refine m_if_ne dX3_play_51 82 (by decide) (fun h => ?_) (fun h => ?_)
      · exact fin s2 0 (go ▸ k0) fW.rf
      · exact absurd h hru
end CB


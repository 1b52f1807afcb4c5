/-! ===== the class: where to stand, how to steer ===== -/
theorem m1_lt (p : Nat) (hp : p < 1000) : ¬ nI p ≤ -1 := fun q => by
  rw [Int32.le_iff_toInt_le, nI_toInt (by omega), show (-1 : Int32).toInt = -1 from rfl] at q
  omega
theorem ne_m1 {c : Nat} (h : c < 1000000) : ¬ nI c = -1 := fun q => by
  have := congrArg Int32.toInt q
  rw [nI_toInt (by omega), show (-1 : Int32).toInt = -1 from rfl] at this
  omega
theorem six_nI {a : Nat} (h : a < 6) : six (nI a) := ⟨(nle (a := 0) (by omega) (by omega)).mpr (Nat.zero_le _), (nle (b := 5) (by omega) (by omega)).mpr (by omega)⟩
/-- what is best so far: nothing, or a cell and its points; something, once a free cell was passed -/
theorem stP_of {D : Deb} (h : wfD D) (k : Nat) (hk : k < D.1.1) : ∀ c, c ≤ 36 → (stP D k c = (-1, -1) ∧ ∀ a, a < c → othP (fun i => D.1.2 i 1) (fun i => D.1.2 i 2) k (nI (a / 6)) (nI (a % 6)) D.1.1 = true) ∨ ∃ b p, b < c ∧ p ≤ 576 ∧ stP D k c = (nI b, nI p)
  | 0, _ => Or.inl ⟨rfl, fun a ha => absurd ha (Nat.not_lt_zero _)⟩
  | c + 1, hc => by
    have ih := stP_of h k hk c (by omega)
    unfold stP
    by_cases q : othP (fun i => D.1.2 i 1) (fun i => D.1.2 i 2) k (nI (c / 6)) (nI (c % 6)) D.1.1 = true
    · rw [if_pos q]
      rcases ih with ⟨e, ha⟩ | ⟨b, p, hb, hp, e⟩
      · refine Or.inl ⟨e, fun a ha' => ?_⟩
        rcases Nat.lt_succ_iff_lt_or_eq.mp ha' with h1 | rfl
        · exact ha a h1
        · exact q
      · exact Or.inr ⟨b, p, by omega, hp, e⟩
    · rw [if_neg q]
      obtain ⟨p, hp, ep⟩ := pts_of (h.pXY k (nI (c / 6)) (nI (c % 6)) (six_nI (by omega)) (six_nI (by omega)) (Bool.eq_false_iff.mpr q)) k hk
      right
      by_cases z : ptsD (setXY D k (nI (c / 6)) (nI (c % 6))) k ≤ (stP D k c).2
      · rw [if_pos z]
        rcases ih with ⟨e, ha⟩ | ⟨b, p, hb, hp, e⟩
        · rw [e, ep] at z
          exact absurd z (m1_lt p (by omega))
        · exact ⟨b, p, by omega, hp, e⟩
      · rw [if_neg z, ep]
        exact ⟨c, p, by omega, hp, rfl⟩
theorem stP_ok {D : Deb} (h : wfD D) (k : Nat) (hk : k < D.1.1) : ∃ c p, c < 36 ∧ p ≤ 576 ∧ stP D k 36 = (nI c, nI p) := by
  rcases stP_of h k hk 36 (Nat.le_refl _) with ⟨-, ha⟩ | q
  · exfalso
    obtain ⟨x, hx, ex⟩ := six_of (h.2.2.1 k hk).1
    obtain ⟨y, hy, ey⟩ := six_of (h.2.2.1 k hk).2.1
    have := ha (6 * x + y) (by omega)
    rw [show (6 * x + y) / 6 = x by omega, show (6 * x + y) % 6 = y by omega, othP_free D.1.1 (fun i hi hik z => hik (h.2.2.2 i k hi hk (z.1.trans ex.symm) (z.2.trans ey.symm)))] at this
    exact absurd this (by decide)
  · exact q
theorem btP_ok {D : Deb} (h : wfD D) (k mo : Nat) (hk : k < D.1.1) : ∀ v, 1 ≤ v → v ≤ 3 → ∃ b p, b < v ∧ p ≤ 576 ∧ btP D k mo v = (nI b, nI p) := by
  have wfb : ∀ v, wfD (btD D k mo v) := fun v => by
    unfold btD
    split
    · exact h
    · refine ⟨h.1, fun i hi => ?_, h.2.2⟩
      show ∃ j, j < 8 ∧ (if i = D.2.1.1 then (if 1 = 0 then nI mo else if 1 = 1 then nI k else nI v) else D.2.1.2 i 1) = nI j
      by_cases e : i = D.2.1.1
      · rw [if_pos e, if_neg (by decide), if_pos rfl]
        exact ⟨k, by have := h.1; omega, rfl⟩
      · rw [if_neg e]
        have hi : i < D.2.1.1 + 1 := hi
        exact h.2.1 i (by omega)
  have hkb : ∀ v, k < (btD D k mo v).1.1 := fun v => by unfold btD; split <;> exact hk
  intro v
  induction v with
  | zero => intro h1; omega
  | succ v ih =>
    intro h1 h2
    obtain ⟨p, hp, ep⟩ := pts_of (wfb v) k (hkb v)
    unfold btP
    by_cases z : ptsD (btD D k mo v) k ≤ (btP D k mo v).2
    · rw [if_pos z]
      by_cases e : v = 0
      · subst e
        rw [ep] at z
        exact absurd z (m1_lt p (by omega))
      · obtain ⟨b, p, hb, hp, e⟩ := ih (by omega) (by omega)
        exact ⟨b, p, by omega, hp, e⟩
    · rw [if_neg z, ep]
      exact ⟨v, p, by omega, hp, rfl⟩
theorem tri_XY {D : Deb} {s : mS} {k : Nat} {u v x y : Int32} (ht : triC (setXY D k u v) s) : triC (setXY D k x y) (us (us s (68 + k) 1 x) (68 + k) 2 y) := by
  refine ⟨?_, fun i hi j hj => ?_⟩
  · rw [us_at, if_neg (by omega), us_at, if_neg (by omega)]; exact ht.1
  · have e0 : (setXY D k u v).1.2 i j = if i = k ∧ j = 1 then u else if i = k ∧ j = 2 then v else D.1.2 i j := rfl
    have := ht.2 i hi j hj
    show (us (us s (68 + k) 1 x) (68 + k) 2 y).1 (66 + 2 + i) j = if i = k ∧ j = 1 then x else if i = k ∧ j = 2 then y else D.1.2 i j
    rw [us_at, us_at]
    by_cases q1 : i = k ∧ j = 1
    · rw [if_neg (by omega), if_pos (by omega), if_pos q1]
    · by_cases q2 : i = k ∧ j = 2
      · rw [if_pos (by omega), if_neg q1, if_pos q2]
      · rw [if_neg (by omega), if_neg (by omega), if_neg q1, if_neg q2]
        rw [e0, if_neg q1, if_neg q2] at this
        exact this
theorem tri_selfXY {D : Deb} {s : mS} (k : Nat) (ht : triC D s) : triC (setXY D k (D.1.2 k 1) (D.1.2 k 2)) s := by
  refine ⟨ht.1, fun i hi j hj => (ht.2 i hi j hj).trans ?_⟩
  show D.1.2 i j = if i = k ∧ j = 1 then D.1.2 k 1 else if i = k ∧ j = 2 then D.1.2 k 2 else D.1.2 i j
  by_cases q1 : i = k ∧ j = 1
  · obtain ⟨rfl, rfl⟩ := q1
    rw [if_pos ⟨rfl, rfl⟩]
  · by_cases q2 : i = k ∧ j = 2
    · obtain ⟨rfl, rfl⟩ := q2
      rw [if_neg q1, if_pos ⟨rfl, rfl⟩]
    · rw [if_neg q1, if_neg q2]
section PN
variable {G : mG} {l : Launch} {d : Nat} {σ : mS}
theorem dX9_bestStand_0 : decode cX9_bestStand 0 = .ok (.aload_n 0, 1) := by decide +kernel
theorem dX9_bestStand_1 : decode cX9_bestStand 1 = .ok (.getfield 12, 3) := by decide +kernel
theorem dX9_bestStand_4 : decode cX9_bestStand 4 = .ok (.aload_n 0, 1) := by decide +kernel
theorem dX9_bestStand_5 : decode cX9_bestStand 5 = .ok (.getfield 41, 3) := by decide +kernel
theorem dX9_bestStand_8 : decode cX9_bestStand 8 = .ok (.invokevirtual 55, 3) := by decide +kernel
theorem dX9_bestStand_11 : decode cX9_bestStand 11 = .ok (.iconst (-1), 1) := by decide +kernel
theorem dX9_bestStand_12 : decode cX9_bestStand 12 = .ok (.istore_n 2, 1) := by decide +kernel
theorem dX9_bestStand_13 : decode cX9_bestStand 13 = .ok (.iconst 0, 1) := by decide +kernel
theorem dX9_bestStand_14 : decode cX9_bestStand 14 = .ok (.istore_n 3, 1) := by decide +kernel
theorem dX9_bestStand_15 : decode cX9_bestStand 15 = .ok (.iconst 0, 1) := by decide +kernel
theorem dX9_bestStand_16 : decode cX9_bestStand 16 = .ok (.istore 4, 2) := by decide +kernel
theorem dX9_bestStand_18 : decode cX9_bestStand 18 = .ok (.iload 4, 2) := by decide +kernel
theorem dX9_bestStand_20 : decode cX9_bestStand 20 = .ok (.bipush 36, 2) := by decide +kernel
theorem dX9_bestStand_22 : decode cX9_bestStand 22 = .ok (.if_icmp .ge 122, 3) := by decide +kernel
theorem dX9_bestStand_25 : decode cX9_bestStand 25 = .ok (.aload_n 0, 1) := by decide +kernel
theorem dX9_bestStand_26 : decode cX9_bestStand 26 = .ok (.getfield 41, 3) := by decide +kernel
theorem dX9_bestStand_29 : decode cX9_bestStand 29 = .ok (.iload 4, 2) := by decide +kernel
theorem dX9_bestStand_31 : decode cX9_bestStand 31 = .ok (.bipush 6, 2) := by decide +kernel
theorem dX9_bestStand_33 : decode cX9_bestStand 33 = .ok (.idiv, 1) := by decide +kernel
theorem dX9_bestStand_34 : decode cX9_bestStand 34 = .ok (.iload 4, 2) := by decide +kernel
theorem dX9_bestStand_36 : decode cX9_bestStand 36 = .ok (.bipush 6, 2) := by decide +kernel
theorem dX9_bestStand_38 : decode cX9_bestStand 38 = .ok (.irem, 1) := by decide +kernel
theorem dX9_bestStand_39 : decode cX9_bestStand 39 = .ok (.aload_n 0, 1) := by decide +kernel
theorem dX9_bestStand_40 : decode cX9_bestStand 40 = .ok (.getfield 41, 3) := by decide +kernel
theorem dX9_bestStand_43 : decode cX9_bestStand 43 = .ok (.getfield 59, 3) := by decide +kernel
theorem dX9_bestStand_46 : decode cX9_bestStand 46 = .ok (.iload_n 1, 1) := by decide +kernel
theorem dX9_bestStand_47 : decode cX9_bestStand 47 = .ok (.invokevirtual 63, 3) := by decide +kernel
theorem dX9_bestStand_50 : decode cX9_bestStand 50 = .ok (.ifCond .eq 6, 3) := by decide +kernel
theorem dX9_bestStand_53 : decode cX9_bestStand 53 = .ok (.goto 85, 3) := by decide +kernel
theorem dX9_bestStand_56 : decode cX9_bestStand 56 = .ok (.aload_n 0, 1) := by decide +kernel
theorem dX9_bestStand_57 : decode cX9_bestStand 57 = .ok (.getfield 12, 3) := by decide +kernel
theorem dX9_bestStand_60 : decode cX9_bestStand 60 = .ok (.getfield 67, 3) := by decide +kernel
theorem dX9_bestStand_63 : decode cX9_bestStand 63 = .ok (.iload_n 1, 1) := by decide +kernel
theorem dX9_bestStand_64 : decode cX9_bestStand 64 = .ok (.aaload, 1) := by decide +kernel
theorem dX9_bestStand_65 : decode cX9_bestStand 65 = .ok (.iconst 1, 1) := by decide +kernel
theorem dX9_bestStand_66 : decode cX9_bestStand 66 = .ok (.iload 4, 2) := by decide +kernel
theorem dX9_bestStand_68 : decode cX9_bestStand 68 = .ok (.bipush 6, 2) := by decide +kernel
theorem dX9_bestStand_70 : decode cX9_bestStand 70 = .ok (.idiv, 1) := by decide +kernel
theorem dX9_bestStand_71 : decode cX9_bestStand 71 = .ok (.iastore, 1) := by decide +kernel
theorem dX9_bestStand_72 : decode cX9_bestStand 72 = .ok (.aload_n 0, 1) := by decide +kernel
theorem dX9_bestStand_73 : decode cX9_bestStand 73 = .ok (.getfield 12, 3) := by decide +kernel
theorem dX9_bestStand_76 : decode cX9_bestStand 76 = .ok (.getfield 67, 3) := by decide +kernel
theorem dX9_bestStand_79 : decode cX9_bestStand 79 = .ok (.iload_n 1, 1) := by decide +kernel
theorem dX9_bestStand_80 : decode cX9_bestStand 80 = .ok (.aaload, 1) := by decide +kernel
theorem dX9_bestStand_81 : decode cX9_bestStand 81 = .ok (.iconst 2, 1) := by decide +kernel
theorem dX9_bestStand_82 : decode cX9_bestStand 82 = .ok (.iload 4, 2) := by decide +kernel
theorem dX9_bestStand_84 : decode cX9_bestStand 84 = .ok (.bipush 6, 2) := by decide +kernel
theorem dX9_bestStand_86 : decode cX9_bestStand 86 = .ok (.irem, 1) := by decide +kernel
theorem dX9_bestStand_87 : decode cX9_bestStand 87 = .ok (.iastore, 1) := by decide +kernel
theorem dX9_bestStand_88 : decode cX9_bestStand 88 = .ok (.aload_n 0, 1) := by decide +kernel
theorem dX9_bestStand_89 : decode cX9_bestStand 89 = .ok (.getfield 28, 3) := by decide +kernel
theorem dX9_bestStand_92 : decode cX9_bestStand 92 = .ok (.aload_n 0, 1) := by decide +kernel
theorem dX9_bestStand_93 : decode cX9_bestStand 93 = .ok (.getfield 12, 3) := by decide +kernel
theorem dX9_bestStand_96 : decode cX9_bestStand 96 = .ok (.aload_n 0, 1) := by decide +kernel
theorem dX9_bestStand_97 : decode cX9_bestStand 97 = .ok (.getfield 44, 3) := by decide +kernel
theorem dX9_bestStand_100 : decode cX9_bestStand 100 = .ok (.aload_n 0, 1) := by decide +kernel
theorem dX9_bestStand_101 : decode cX9_bestStand 101 = .ok (.getfield 48, 3) := by decide +kernel
theorem dX9_bestStand_104 : decode cX9_bestStand 104 = .ok (.iconst 0, 1) := by decide +kernel
theorem dX9_bestStand_105 : decode cX9_bestStand 105 = .ok (.invokevirtual 70, 3) := by decide +kernel
theorem dX9_bestStand_108 : decode cX9_bestStand 108 = .ok (.aload_n 0, 1) := by decide +kernel
theorem dX9_bestStand_109 : decode cX9_bestStand 109 = .ok (.getfield 28, 3) := by decide +kernel
theorem dX9_bestStand_112 : decode cX9_bestStand 112 = .ok (.getfield 74, 3) := by decide +kernel
theorem dX9_bestStand_115 : decode cX9_bestStand 115 = .ok (.iconst 3, 1) := by decide +kernel
theorem dX9_bestStand_116 : decode cX9_bestStand 116 = .ok (.aaload, 1) := by decide +kernel
theorem dX9_bestStand_117 : decode cX9_bestStand 117 = .ok (.iload_n 1, 1) := by decide +kernel
theorem dX9_bestStand_118 : decode cX9_bestStand 118 = .ok (.iaload, 1) := by decide +kernel
theorem dX9_bestStand_119 : decode cX9_bestStand 119 = .ok (.iload_n 2, 1) := by decide +kernel
theorem dX9_bestStand_120 : decode cX9_bestStand 120 = .ok (.if_icmp .le 18, 3) := by decide +kernel
theorem dX9_bestStand_123 : decode cX9_bestStand 123 = .ok (.aload_n 0, 1) := by decide +kernel
theorem dX9_bestStand_124 : decode cX9_bestStand 124 = .ok (.getfield 28, 3) := by decide +kernel
theorem dX9_bestStand_127 : decode cX9_bestStand 127 = .ok (.getfield 74, 3) := by decide +kernel
theorem dX9_bestStand_130 : decode cX9_bestStand 130 = .ok (.iconst 3, 1) := by decide +kernel
theorem dX9_bestStand_131 : decode cX9_bestStand 131 = .ok (.aaload, 1) := by decide +kernel
theorem dX9_bestStand_132 : decode cX9_bestStand 132 = .ok (.iload_n 1, 1) := by decide +kernel
theorem dX9_bestStand_133 : decode cX9_bestStand 133 = .ok (.iaload, 1) := by decide +kernel
theorem dX9_bestStand_134 : decode cX9_bestStand 134 = .ok (.istore_n 2, 1) := by decide +kernel
theorem dX9_bestStand_135 : decode cX9_bestStand 135 = .ok (.iload 4, 2) := by decide +kernel
theorem dX9_bestStand_137 : decode cX9_bestStand 137 = .ok (.istore_n 3, 1) := by decide +kernel
theorem dX9_bestStand_138 : decode cX9_bestStand 138 = .ok (.iinc 4 1, 3) := by decide +kernel
theorem dX9_bestStand_141 : decode cX9_bestStand 141 = .ok (.goto (-123), 3) := by decide +kernel
theorem dX9_bestStand_144 : decode cX9_bestStand 144 = .ok (.iload_n 2, 1) := by decide +kernel
theorem dX9_bestStand_145 : decode cX9_bestStand 145 = .ok (.bipush 36, 2) := by decide +kernel
theorem dX9_bestStand_147 : decode cX9_bestStand 147 = .ok (.imul, 1) := by decide +kernel
theorem dX9_bestStand_148 : decode cX9_bestStand 148 = .ok (.iload_n 3, 1) := by decide +kernel
theorem dX9_bestStand_149 : decode cX9_bestStand 149 = .ok (.iadd, 1) := by decide +kernel
theorem dX9_bestStand_150 : decode cX9_bestStand 150 = .ok (.ireturn, 1) := by decide +kernel
theorem dX9_bestTurn_0 : decode cX9_bestTurn 0 = .ok (.aload_n 0, 1) := by decide +kernel
theorem dX9_bestTurn_1 : decode cX9_bestTurn 1 = .ok (.getfield 28, 3) := by decide +kernel
theorem dX9_bestTurn_4 : decode cX9_bestTurn 4 = .ok (.aload_n 0, 1) := by decide +kernel
theorem dX9_bestTurn_5 : decode cX9_bestTurn 5 = .ok (.getfield 41, 3) := by decide +kernel
theorem dX9_bestTurn_8 : decode cX9_bestTurn 8 = .ok (.aload_n 0, 1) := by decide +kernel
theorem dX9_bestTurn_9 : decode cX9_bestTurn 9 = .ok (.getfield 44, 3) := by decide +kernel
theorem dX9_bestTurn_12 : decode cX9_bestTurn 12 = .ok (.aload_n 0, 1) := by decide +kernel
theorem dX9_bestTurn_13 : decode cX9_bestTurn 13 = .ok (.getfield 48, 3) := by decide +kernel
theorem dX9_bestTurn_16 : decode cX9_bestTurn 16 = .ok (.iconst 0, 1) := by decide +kernel
theorem dX9_bestTurn_17 : decode cX9_bestTurn 17 = .ok (.invokevirtual 70, 3) := by decide +kernel
theorem dX9_bestTurn_20 : decode cX9_bestTurn 20 = .ok (.aload_n 0, 1) := by decide +kernel
theorem dX9_bestTurn_21 : decode cX9_bestTurn 21 = .ok (.getfield 28, 3) := by decide +kernel
theorem dX9_bestTurn_24 : decode cX9_bestTurn 24 = .ok (.getfield 74, 3) := by decide +kernel
theorem dX9_bestTurn_27 : decode cX9_bestTurn 27 = .ok (.iconst 3, 1) := by decide +kernel
theorem dX9_bestTurn_28 : decode cX9_bestTurn 28 = .ok (.aaload, 1) := by decide +kernel
theorem dX9_bestTurn_29 : decode cX9_bestTurn 29 = .ok (.iload_n 1, 1) := by decide +kernel
theorem dX9_bestTurn_30 : decode cX9_bestTurn 30 = .ok (.iaload, 1) := by decide +kernel
theorem dX9_bestTurn_31 : decode cX9_bestTurn 31 = .ok (.istore_n 3, 1) := by decide +kernel
theorem dX9_bestTurn_32 : decode cX9_bestTurn 32 = .ok (.iconst 0, 1) := by decide +kernel
theorem dX9_bestTurn_33 : decode cX9_bestTurn 33 = .ok (.istore 4, 2) := by decide +kernel
theorem dX9_bestTurn_35 : decode cX9_bestTurn 35 = .ok (.iconst 1, 1) := by decide +kernel
theorem dX9_bestTurn_36 : decode cX9_bestTurn 36 = .ok (.istore 5, 2) := by decide +kernel
theorem dX9_bestTurn_38 : decode cX9_bestTurn 38 = .ok (.iload 5, 2) := by decide +kernel
theorem dX9_bestTurn_40 : decode cX9_bestTurn 40 = .ok (.iconst 3, 1) := by decide +kernel
theorem dX9_bestTurn_41 : decode cX9_bestTurn 41 = .ok (.if_icmp .ge 78, 3) := by decide +kernel
theorem dX9_bestTurn_44 : decode cX9_bestTurn 44 = .ok (.aload_n 0, 1) := by decide +kernel
theorem dX9_bestTurn_45 : decode cX9_bestTurn 45 = .ok (.getfield 44, 3) := by decide +kernel
theorem dX9_bestTurn_48 : decode cX9_bestTurn 48 = .ok (.iload_n 2, 1) := by decide +kernel
theorem dX9_bestTurn_49 : decode cX9_bestTurn 49 = .ok (.iload_n 1, 1) := by decide +kernel
theorem dX9_bestTurn_50 : decode cX9_bestTurn 50 = .ok (.iload 5, 2) := by decide +kernel
theorem dX9_bestTurn_52 : decode cX9_bestTurn 52 = .ok (.invokevirtual 77, 3) := by decide +kernel
theorem dX9_bestTurn_55 : decode cX9_bestTurn 55 = .ok (.aload_n 0, 1) := by decide +kernel
theorem dX9_bestTurn_56 : decode cX9_bestTurn 56 = .ok (.getfield 28, 3) := by decide +kernel
theorem dX9_bestTurn_59 : decode cX9_bestTurn 59 = .ok (.aload_n 0, 1) := by decide +kernel
theorem dX9_bestTurn_60 : decode cX9_bestTurn 60 = .ok (.getfield 41, 3) := by decide +kernel
theorem dX9_bestTurn_63 : decode cX9_bestTurn 63 = .ok (.aload_n 0, 1) := by decide +kernel
theorem dX9_bestTurn_64 : decode cX9_bestTurn 64 = .ok (.getfield 44, 3) := by decide +kernel
theorem dX9_bestTurn_67 : decode cX9_bestTurn 67 = .ok (.aload_n 0, 1) := by decide +kernel
theorem dX9_bestTurn_68 : decode cX9_bestTurn 68 = .ok (.getfield 48, 3) := by decide +kernel
theorem dX9_bestTurn_71 : decode cX9_bestTurn 71 = .ok (.iconst 0, 1) := by decide +kernel
theorem dX9_bestTurn_72 : decode cX9_bestTurn 72 = .ok (.invokevirtual 70, 3) := by decide +kernel
theorem dX9_bestTurn_75 : decode cX9_bestTurn 75 = .ok (.aload_n 0, 1) := by decide +kernel
theorem dX9_bestTurn_76 : decode cX9_bestTurn 76 = .ok (.getfield 44, 3) := by decide +kernel
theorem dX9_bestTurn_79 : decode cX9_bestTurn 79 = .ok (.invokevirtual 83, 3) := by decide +kernel
theorem dX9_bestTurn_82 : decode cX9_bestTurn 82 = .ok (.aload_n 0, 1) := by decide +kernel
theorem dX9_bestTurn_83 : decode cX9_bestTurn 83 = .ok (.getfield 28, 3) := by decide +kernel
theorem dX9_bestTurn_86 : decode cX9_bestTurn 86 = .ok (.getfield 74, 3) := by decide +kernel
theorem dX9_bestTurn_89 : decode cX9_bestTurn 89 = .ok (.iconst 3, 1) := by decide +kernel
theorem dX9_bestTurn_90 : decode cX9_bestTurn 90 = .ok (.aaload, 1) := by decide +kernel
theorem dX9_bestTurn_91 : decode cX9_bestTurn 91 = .ok (.iload_n 1, 1) := by decide +kernel
theorem dX9_bestTurn_92 : decode cX9_bestTurn 92 = .ok (.iaload, 1) := by decide +kernel
theorem dX9_bestTurn_93 : decode cX9_bestTurn 93 = .ok (.iload_n 3, 1) := by decide +kernel
theorem dX9_bestTurn_94 : decode cX9_bestTurn 94 = .ok (.if_icmp .le 19, 3) := by decide +kernel
theorem dX9_bestTurn_97 : decode cX9_bestTurn 97 = .ok (.aload_n 0, 1) := by decide +kernel
theorem dX9_bestTurn_98 : decode cX9_bestTurn 98 = .ok (.getfield 28, 3) := by decide +kernel
theorem dX9_bestTurn_101 : decode cX9_bestTurn 101 = .ok (.getfield 74, 3) := by decide +kernel
theorem dX9_bestTurn_104 : decode cX9_bestTurn 104 = .ok (.iconst 3, 1) := by decide +kernel
theorem dX9_bestTurn_105 : decode cX9_bestTurn 105 = .ok (.aaload, 1) := by decide +kernel
theorem dX9_bestTurn_106 : decode cX9_bestTurn 106 = .ok (.iload_n 1, 1) := by decide +kernel
theorem dX9_bestTurn_107 : decode cX9_bestTurn 107 = .ok (.iaload, 1) := by decide +kernel
theorem dX9_bestTurn_108 : decode cX9_bestTurn 108 = .ok (.istore_n 3, 1) := by decide +kernel
theorem dX9_bestTurn_109 : decode cX9_bestTurn 109 = .ok (.iload 5, 2) := by decide +kernel
theorem dX9_bestTurn_111 : decode cX9_bestTurn 111 = .ok (.istore 4, 2) := by decide +kernel
theorem dX9_bestTurn_113 : decode cX9_bestTurn 113 = .ok (.iinc 5 1, 3) := by decide +kernel
theorem dX9_bestTurn_116 : decode cX9_bestTurn 116 = .ok (.goto (-78), 3) := by decide +kernel
theorem dX9_bestTurn_119 : decode cX9_bestTurn 119 = .ok (.iload_n 3, 1) := by decide +kernel
theorem dX9_bestTurn_120 : decode cX9_bestTurn 120 = .ok (.iconst 3, 1) := by decide +kernel
theorem dX9_bestTurn_121 : decode cX9_bestTurn 121 = .ok (.imul, 1) := by decide +kernel
theorem dX9_bestTurn_122 : decode cX9_bestTurn 122 = .ok (.iload 4, 2) := by decide +kernel
theorem dX9_bestTurn_124 : decode cX9_bestTurn 124 = .ok (.iadd, 1) := by decide +kernel
theorem dX9_bestTurn_125 : decode cX9_bestTurn 125 = .ok (.ireturn, 1) := by decide +kernel
theorem dX10_standPart_0 : decode cX10_standPart 0 = .ok (.iload_n 1, 1) := by decide +kernel
theorem dX10_standPart_1 : decode cX10_standPart 1 = .ok (.iconst 2, 1) := by decide +kernel
theorem dX10_standPart_2 : decode cX10_standPart 2 = .ok (.if_icmp .ne 8, 3) := by decide +kernel
theorem dX10_standPart_5 : decode cX10_standPart 5 = .ok (.iload_n 0, 1) := by decide +kernel
theorem dX10_standPart_6 : decode cX10_standPart 6 = .ok (.bipush 36, 2) := by decide +kernel
theorem dX10_standPart_8 : decode cX10_standPart 8 = .ok (.idiv, 1) := by decide +kernel
theorem dX10_standPart_9 : decode cX10_standPart 9 = .ok (.ireturn, 1) := by decide +kernel
theorem dX10_standPart_10 : decode cX10_standPart 10 = .ok (.iload_n 0, 1) := by decide +kernel
theorem dX10_standPart_11 : decode cX10_standPart 11 = .ok (.bipush 36, 2) := by decide +kernel
theorem dX10_standPart_13 : decode cX10_standPart 13 = .ok (.irem, 1) := by decide +kernel
theorem dX10_standPart_14 : decode cX10_standPart 14 = .ok (.istore_n 2, 1) := by decide +kernel
theorem dX10_standPart_15 : decode cX10_standPart 15 = .ok (.iload_n 1, 1) := by decide +kernel
theorem dX10_standPart_16 : decode cX10_standPart 16 = .ok (.ifCond .ne 10, 3) := by decide +kernel
theorem dX10_standPart_19 : decode cX10_standPart 19 = .ok (.iload_n 2, 1) := by decide +kernel
theorem dX10_standPart_20 : decode cX10_standPart 20 = .ok (.bipush 6, 2) := by decide +kernel
theorem dX10_standPart_22 : decode cX10_standPart 22 = .ok (.idiv, 1) := by decide +kernel
theorem dX10_standPart_23 : decode cX10_standPart 23 = .ok (.goto 7, 3) := by decide +kernel
theorem dX10_standPart_26 : decode cX10_standPart 26 = .ok (.iload_n 2, 1) := by decide +kernel
theorem dX10_standPart_27 : decode cX10_standPart 27 = .ok (.bipush 6, 2) := by decide +kernel
theorem dX10_standPart_29 : decode cX10_standPart 29 = .ok (.irem, 1) := by decide +kernel
theorem dX10_standPart_30 : decode cX10_standPart 30 = .ok (.ireturn, 1) := by decide +kernel
theorem dX10_turnPart_0 : decode cX10_turnPart 0 = .ok (.iload_n 1, 1) := by decide +kernel
theorem dX10_turnPart_1 : decode cX10_turnPart 1 = .ok (.ifCond .ne 9, 3) := by decide +kernel
theorem dX10_turnPart_4 : decode cX10_turnPart 4 = .ok (.iload_n 0, 1) := by decide +kernel
theorem dX10_turnPart_5 : decode cX10_turnPart 5 = .ok (.iconst 3, 1) := by decide +kernel
theorem dX10_turnPart_6 : decode cX10_turnPart 6 = .ok (.irem, 1) := by decide +kernel
theorem dX10_turnPart_7 : decode cX10_turnPart 7 = .ok (.goto 6, 3) := by decide +kernel
theorem dX10_turnPart_10 : decode cX10_turnPart 10 = .ok (.iload_n 0, 1) := by decide +kernel
theorem dX10_turnPart_11 : decode cX10_turnPart 11 = .ok (.iconst 3, 1) := by decide +kernel
theorem dX10_turnPart_12 : decode cX10_turnPart 12 = .ok (.idiv, 1) := by decide +kernel
theorem dX10_turnPart_13 : decode cX10_turnPart 13 = .ok (.ireturn, 1) := by decide +kernel
theorem c_bestStand (hd : 6 ≤ d) (D : Deb) (h : setC D σ) (k : Nat) (hk : k < D.1.1) : mMet G l d kX9_bestStand [.ref 65, .int (nI k)] σ (qIP (fun r s => r = (stP D k 36).2 * 36 + (stP D k 36).1 ∧ fW (wTr D.2.1.1) σ s)) := by
  have hn := h.1.1
  have h12 := h.2.2.1
  have hk8 : k < 8 := by omega
  have hsk := sh_car (k := k) (Or.inr rfl) hk8
  obtain ⟨g0, g1, g2, g3, g4, g5, g6, g7⟩ := sh_run (R := 80) (Or.inr rfl)
  have n3 := g2 3 (by decide)
  refine mMet.of cm_X9_bestStand rfl (Nat.le_of_ble_eq_true rfl) rfl (fun v1 σ1 h => by obtain ⟨r, h1, -⟩ := h; rw [h1]; rfl) ?_
  refine m_aload_n dX9_bestStand_0 0 rfl ?_
  refine m_getR 4 66 dX9_bestStand_1 fl_X9_12_8 rfl (by decide) rfl (by first | assumption | rfl) ?_
  refine m_aload_n dX9_bestStand_4 0 rfl ?_
  refine m_getR 0 5 dX9_bestStand_5 fl_X9_41_8 rfl (by decide) rfl (by first | assumption | rfl) ?_
  refine m_callV (As := [_]) dX9_bestStand_8 cv_X9_55 (by first | assumption | rfl) (by decide) (by omega) rfl rfl (Nat.le_of_ble_eq_true rfl) (c_becomeLike (d := d - 1) (by omega)) (fun v1 σ1 hv1 => ?_)
  refine m_qVP hv1 (fun hq => ?_)
  clear hv1 v1
  rename mS => s0
  obtain ⟨l1, l2, l3⟩ := hq
  have t0 := tri_selfXY k (tri_like h l1 l2)
  have f0 : fW (wTr D.2.1.1) σ s0 := l3.mono (fun y z h => by omega)
  refine m_iconst (v := -1) dX9_bestStand_11 (by decide) ?_
  refine m_istore_n (ls1 := [(2, _), (0, _), (1, _)]) dX9_bestStand_12 (by decide) rfl ?_
  refine m_iconst (v := 0) dX9_bestStand_13 (by decide) ?_
  refine m_istore_n (ls1 := [(3, _), (2, _), (0, _), (1, _)]) dX9_bestStand_14 (by decide) rfl ?_
  refine m_iconst (v := 0) dX9_bestStand_15 (by decide) ?_
  refine m_istore (ls1 := [(4, _), (3, _), (2, _), (0, _), (1, _)]) dX9_bestStand_16 (by decide) rfl ?_
  refine down (N := 36) (fun c (q : mS × Int32 × Int32) => q.2.1 = (stP D k c).2 ∧ q.2.2 = (if (stP D k c).1 = -1 then 0 else (stP D k c).1) ∧ (∃ u v, triC (setXY D k u v) q.1) ∧ fW (wTr D.2.1.1) σ q.1) (fun c q => mW G l d kX9_bestStand 18 [(4, .int (nI c)), (3, .int q.2.2), (2, .int q.2.1), (0, .ref 65), (1, .int (nI k))] [] q.1 _) ?_ ?_ 0 (s0, -1, 0) (Nat.zero_le _) ⟨rfl, rfl, ⟨_, _, t0⟩, f0⟩
  · rintro ⟨s, mo, be⟩ ⟨hm, hb, -, f⟩
    have hm : mo = (stP D k 36).2 := hm
    have hb : be = (if (stP D k 36).1 = -1 then 0 else (stP D k 36).1) := hb
    obtain ⟨c, p, hc, hp, e⟩ := stP_ok h.1 k hk
    have hb2 : be = (stP D k 36).1 := by rw [hb, e, if_neg (ne_m1 (by omega))]
    show mW G l d kX9_bestStand 18 [(4, .int (nI 36)), (3, .int be), (2, .int mo), (0, .ref 65), (1, .int (nI k))] [] s _
    refine m_iload dX9_bestStand_18 0 rfl ?_
    refine m_bipush (v := 36) dX9_bestStand_20 (by decide) ?_
    refine m_icmp_ge dX9_bestStand_22 144 (by decide) (fun h => ?_) (fun h => ?_)
    · refine m_iload_n dX9_bestStand_144 2 rfl ?_
      refine m_bipush (v := 36) dX9_bestStand_145 (by decide) ?_
      refine m_imul dX9_bestStand_147 ?_
      refine m_iload_n dX9_bestStand_148 1 rfl ?_
      refine m_iadd dX9_bestStand_149 ?_
      exact m_ireturn dX9_bestStand_150 ⟨_, rfl, by rw [hm, hb2], f⟩
    · exact absurd (Int32.le_refl _) h
  · rintro c ⟨s, mo, be⟩ hc ⟨hm, hb, ⟨u, v, ht⟩, f⟩ ih
    have hm : mo = (stP D k c).2 := hm
    have hb : be = (if (stP D k c).1 = -1 then 0 else (stP D k c).1) := hb
    have ht : triC (setXY D k u v) s := ht
    have f : fW (wTr D.2.1.1) σ s := f
    have hs := h.tr f
    show mW G l d kX9_bestStand 18 [(4, .int (nI c)), (3, .int be), (2, .int mo), (0, .ref 65), (1, .int (nI k))] [] s _
    have hoth : othP (cX s 5) (cY s 5) k (nI (c / 6)) (nI (c % 6)) D.1.1 = othP (fun i => D.1.2 i 1) (fun i => D.1.2 i 2) k (nI (c / 6)) (nI (c % 6)) D.1.1 := othP_cong _ (fun i hi _ => ⟨hs.2.2.2.2.1 i hi 1 (by decide), hs.2.2.2.2.1 i hi 2 (by decide)⟩)
    refine m_iload dX9_bestStand_18 0 rfl ?_
    refine m_bipush (v := 36) dX9_bestStand_20 (by decide) ?_
    refine m_icmp_ge dX9_bestStand_22 144 (by decide) (fun hz => ?_) (fun hz => ?_)
    · exact absurd ((nle (a := 36) (by omega) (by omega)).mp hz) (by omega)
    clear hz
    refine m_aload_n dX9_bestStand_25 3 rfl ?_
    refine m_getR 0 5 dX9_bestStand_26 fl_X9_41_8 rfl (by decide) rfl (by first | assumption | rfl) ?_
    refine m_iload dX9_bestStand_29 0 rfl ?_
    refine m_bipush (v := 6) dX9_bestStand_31 (by decide) ?_
    refine m_idiv dX9_bestStand_33 (by decide) ?_
    refine mW.top (nd6 c (by omega)) ?_
    refine m_iload dX9_bestStand_34 0 rfl ?_
    refine m_bipush (v := 6) dX9_bestStand_36 (by decide) ?_
    refine m_irem dX9_bestStand_38 (by decide) ?_
    refine mW.top (nr6 c (by omega)) ?_
    refine m_aload_n dX9_bestStand_39 3 rfl ?_
    refine m_getR 0 5 dX9_bestStand_40 fl_X9_41_8 rfl (by decide) rfl (by first | assumption | rfl) ?_
    refine m_getI 3 dX9_bestStand_43 fl_X9_59_0 rfl (by decide) (by first | assumption | rfl) ?_
    refine mW.top hs.2.2.2.1 ?_
    refine m_iload_n dX9_bestStand_46 4 rfl ?_
    refine m_callV (As := [_, _, _, _]) dX9_bestStand_47 cv_X9_63 (by first | assumption | rfl) (by decide) (by omega) rfl rfl (Nat.le_of_ble_eq_true rfl) (c_isTaken (d := d - 1) (Or.inl rfl) D.1.1 k hn (by omega) (nI (c / 6)) (nI (c % 6))) (fun v1 σ1 hv1 => ?_)
    refine m_qI hv1 ?_
    clear hv1 v1 σ1
    rw [hoth]
    refine m_if_eq dX9_bestStand_50 56 (by decide) (fun z1 => ?_) (fun z1 => ?_)
    rotate_left
    · refine m_goto dX9_bestStand_53 138 (by decide) ?_
      refine m_iinc (v := nI (c + 1)) (ls1 := [(4, _), (3, _), (2, _), (0, _), (1, _)]) dX9_bestStand_138 0 rfl (nI_1 c) (by decide) rfl ?_
      refine m_goto dX9_bestStand_141 18 (by decide) ?_
      refine ih (s, mo, be) ⟨?_, ?_, ⟨u, v, ht⟩, f⟩
      · show mo = (stP D k (c + 1)).2
        rw [stP, if_pos (bI_ne.mp z1)]; exact hm
      · show be = (if (stP D k (c + 1)).1 = -1 then 0 else (stP D k (c + 1)).1)
        rw [stP, if_pos (bI_ne.mp z1)]; exact hb
    have hfree := bI_eq.mp z1
    clear z1
    have wfE := h.1.pXY k (nI (c / 6)) (nI (c % 6)) (six_nI (by omega)) (six_nI (by omega)) hfree
    have tE : triC (setXY D k (nI (c / 6)) (nI (c % 6))) (us (us s (68 + k) 1 (nI (c / 6))) (68 + k) 2 (nI (c % 6))) := tri_XY ht
    have hstep : stP D k (c + 1) = if ptsD (setXY D k (nI (c / 6)) (nI (c % 6))) k ≤ (stP D k c).2 then stP D k c else (nI c, ptsD (setXY D k (nI (c / 6)) (nI (c % 6))) k) := by rw [stP, if_neg (by rw [hfree]; decide)]
    have eD : (setXY D k (nI (c / 6)) (nI (c % 6))).2 = D.2 := rfl
    have eN : (setXY D k (nI (c / 6)) (nI (c % 6))).1.1 = D.1.1 := rfl
    have tE2 : ∀ s', triC (setXY D k (nI (c / 6)) (nI (c % 6))) s' → ∃ u v, triC (setXY D k u v) s' := fun s' q => ⟨_, _, q⟩
    generalize setXY D k (nI (c / 6)) (nI (c % 6)) = E at *
    refine m_aload_n dX9_bestStand_56 3 rfl ?_
    refine m_getR 4 66 dX9_bestStand_57 fl_X9_12_8 rfl (by decide) rfl (by first | assumption | rfl) ?_
    refine m_getR 0 67 dX9_bestStand_60 fl_X9_67_0 rfl (by decide) rfl (by first | assumption | rfl) ?_
    refine m_iload_n dX9_bestStand_63 4 rfl ?_
    refine m_aald dX9_bestStand_64 (by first | assumption | rfl) k rfl (by first | assumption | omega | decide) ?_
    refine m_iconst (v := 1) dX9_bestStand_65 (by decide) ?_
    refine m_iload dX9_bestStand_66 0 rfl ?_
    refine m_bipush (v := 6) dX9_bestStand_68 (by decide) ?_
    refine m_idiv dX9_bestStand_70 (by decide) ?_
    refine mW.top (nd6 c (by omega)) ?_
    refine m_iast dX9_bestStand_71 (by first | assumption | rfl) 1 rfl (by first | assumption | omega | decide) ?_
    refine m_aload_n dX9_bestStand_72 3 rfl ?_
    refine m_getR 4 66 dX9_bestStand_73 fl_X9_12_8 rfl (by decide) rfl (by first | assumption | rfl) ?_
    refine m_getR 0 67 dX9_bestStand_76 fl_X9_67_0 rfl (by decide) rfl (by first | assumption | rfl) ?_
    refine m_iload_n dX9_bestStand_79 4 rfl ?_
    refine m_aald dX9_bestStand_80 (by first | assumption | rfl) k rfl (by first | assumption | omega | decide) ?_
    refine m_iconst (v := 2) dX9_bestStand_81 (by decide) ?_
    refine m_iload dX9_bestStand_82 0 rfl ?_
    refine m_bipush (v := 6) dX9_bestStand_84 (by decide) ?_
    refine m_irem dX9_bestStand_86 (by decide) ?_
    refine mW.top (nr6 c (by omega)) ?_
    refine m_iast dX9_bestStand_87 (by first | assumption | rfl) 2 rfl (by first | assumption | omega | decide) ?_
    have hs2 : setC D (us (us s (68 + k) 1 (nI (c / 6))) (68 + k) 2 (nI (c % 6))) := hs.tr (fW.us (by omega) (fW.us (by omega) fW.rf))
    have f2 : fW (wTr D.2.1.1) σ (us (us s (68 + k) 1 (nI (c / 6))) (68 + k) 2 (nI (c % 6))) := fW.us (by omega) (fW.us (by omega) f)
    generalize us (us s (68 + k) 1 (nI (c / 6))) (68 + k) 2 (nI (c % 6)) = s2 at *
    refine m_aload_n dX9_bestStand_88 3 rfl ?_
    refine m_getR 6 80 dX9_bestStand_89 fl_X9_28_8 rfl (by decide) rfl (by first | assumption | rfl) ?_
    refine m_aload_n dX9_bestStand_92 3 rfl ?_
    refine m_getR 4 66 dX9_bestStand_93 fl_X9_12_8 rfl (by decide) rfl (by first | assumption | rfl) ?_
    refine m_aload_n dX9_bestStand_96 3 rfl ?_
    refine m_getR 1 15 dX9_bestStand_97 fl_X9_44_8 rfl (by decide) rfl (by first | assumption | rfl) ?_
    refine m_aload_n dX9_bestStand_100 3 rfl ?_
    refine m_getR 2 30 dX9_bestStand_101 fl_X9_48_8 rfl (by decide) rfl (by first | assumption | rfl) ?_
    refine m_iconst (v := 0) dX9_bestStand_104 (by decide) ?_
    refine m_callV (As := [_, _, _, _]) dX9_bestStand_105 cv_X9_70 (by first | assumption | rfl) (by decide) (by omega) rfl rfl (Nat.le_of_ble_eq_true rfl) (c_play (d := d - 1) (by omega) (Or.inr rfl) (Or.inr rfl) (Or.inl rfl) E wfE (tri_dep hs2 tE eD) 0 (by rw [eD]; exact h.2.1)) (fun v1 σ1 hv1 => ?_)
    refine m_qVP hv1 (fun hq => ?_)
    clear hv1 v1
    rename mS => s3
    obtain ⟨o1, f1⟩ := hq
    have hP : s3.1 (80 + 5) k = ptsD E k := (o1.1.2.2.2.2.2 k (by rw [eN]; exact hk)).2.2.2.1
    have hP' : s3.1 (81 + 1 + 3) k = ptsD E k := hP
    have t3 : ∃ u v, triC (setXY D k u v) s3 := tE2 s3 (tE.tr (by rw [eN]; exact hn) f1 (by omega) (fun y z h1 h2 => by omega))
    have f3 : fW (wTr D.2.1.1) σ s3 := f2.tr (f1.mono (fun y z h => by omega))
    refine m_aload_n dX9_bestStand_108 3 rfl ?_
    refine m_getR 6 80 dX9_bestStand_109 fl_X9_28_8 rfl (by decide) rfl (by first | assumption | rfl) ?_
    refine m_getR 0 81 dX9_bestStand_112 fl_X9_74_3 rfl (by decide) rfl (by first | assumption | rfl) ?_
    refine m_iconst (v := 3) dX9_bestStand_115 (by decide) ?_
    refine m_aald dX9_bestStand_116 (by first | assumption | rfl) 3 rfl (by first | assumption | omega | decide) ?_
    refine m_iload_n dX9_bestStand_117 4 rfl ?_
    refine m_iald dX9_bestStand_118 (by first | assumption | rfl) k rfl (by first | assumption | omega | decide) ?_
    refine mW.top hP' ?_
    refine m_iload_n dX9_bestStand_119 2 rfl ?_
    refine m_icmp_le dX9_bestStand_120 138 (by decide) (fun z1 => ?_) (fun z1 => ?_)
    · refine m_iinc (v := nI (c + 1)) (ls1 := [(4, _), (3, _), (2, _), (0, _), (1, _)]) dX9_bestStand_138 0 rfl (nI_1 c) (by decide) rfl ?_
      refine m_goto dX9_bestStand_141 18 (by decide) ?_
      rw [hm] at z1
      rw [if_pos z1] at hstep
      refine ih (s3, mo, be) ⟨?_, ?_, t3, f3⟩
      · show mo = (stP D k (c + 1)).2
        rw [hstep]; exact hm
      · show be = (if (stP D k (c + 1)).1 = -1 then 0 else (stP D k (c + 1)).1)
        rw [hstep]; exact hb
    · refine m_aload_n dX9_bestStand_123 3 rfl ?_
      refine m_getR 6 80 dX9_bestStand_124 fl_X9_28_8 rfl (by decide) rfl (by first | assumption | rfl) ?_
      refine m_getR 0 81 dX9_bestStand_127 fl_X9_74_3 rfl (by decide) rfl (by first | assumption | rfl) ?_
      refine m_iconst (v := 3) dX9_bestStand_130 (by decide) ?_
      refine m_aald dX9_bestStand_131 (by first | assumption | rfl) 3 rfl (by first | assumption | omega | decide) ?_
      refine m_iload_n dX9_bestStand_132 4 rfl ?_
      refine m_iald dX9_bestStand_133 (by first | assumption | rfl) k rfl (by first | assumption | omega | decide) ?_
      refine mW.top hP' ?_
      refine m_istore_n (ls1 := [(2, _), (4, _), (3, _), (0, _), (1, _)]) dX9_bestStand_134 (by decide) rfl ?_
      refine m_iload dX9_bestStand_135 1 rfl ?_
      refine m_istore_n (ls1 := [(3, _), (2, _), (4, _), (0, _), (1, _)]) dX9_bestStand_137 (by decide) rfl ?_
      refine m_iinc (v := nI (c + 1)) (ls1 := [(4, _), (3, _), (2, _), (0, _), (1, _)]) dX9_bestStand_138 2 rfl (nI_1 c) (by decide) rfl ?_
      refine m_goto dX9_bestStand_141 18 (by decide) ?_
      rw [hm] at z1
      rw [if_neg z1] at hstep
      refine ih (s3, ptsD E k, nI c) ⟨?_, ?_, t3, f3⟩
      · show ptsD E k = (stP D k (c + 1)).2
        rw [hstep]
      · show nI c = (if (stP D k (c + 1)).1 = -1 then 0 else (stP D k (c + 1)).1)
        rw [hstep, if_neg (ne_m1 (by omega))]
theorem c_bestTurn (hd : 6 ≤ d) (D : Deb) (h : setC D σ) (k mo : Nat) (hk : k < D.1.1) (hmo : mo < 24) : mMet G l d kX9_bestTurn [.ref 65, .int (nI k), .int (nI mo)] σ (qIP (fun r s => r = (btP D k mo 3).2 * 3 + (btP D k mo 3).1 ∧ fW (wTr D.2.1.1) σ s)) := by
  have hn := h.1.1
  have h12 := h.2.2.1
  have hk8 : k < 8 := by omega
  obtain ⟨g0, g1, g2, g3, g4, g5, g6, g7⟩ := sh_run (R := 80) (Or.inr rfl)
  have n3 := g2 3 (by decide)
  refine mMet.of cm_X9_bestTurn rfl (Nat.le_of_ble_eq_true rfl) rfl (fun v1 σ1 h => by obtain ⟨r, h1, -⟩ := h; rw [h1]; rfl) ?_
  refine m_aload_n dX9_bestTurn_0 0 rfl ?_
  refine m_getR 6 80 dX9_bestTurn_1 fl_X9_28_8 rfl (by decide) rfl (by first | assumption | rfl) ?_
  refine m_aload_n dX9_bestTurn_4 0 rfl ?_
  refine m_getR 0 5 dX9_bestTurn_5 fl_X9_41_8 rfl (by decide) rfl (by first | assumption | rfl) ?_
  refine m_aload_n dX9_bestTurn_8 0 rfl ?_
  refine m_getR 1 15 dX9_bestTurn_9 fl_X9_44_8 rfl (by decide) rfl (by first | assumption | rfl) ?_
  refine m_aload_n dX9_bestTurn_12 0 rfl ?_
  refine m_getR 2 30 dX9_bestTurn_13 fl_X9_48_8 rfl (by decide) rfl (by first | assumption | rfl) ?_
  refine m_iconst (v := 0) dX9_bestTurn_16 (by decide) ?_
  refine m_callV (As := [_, _, _, _]) dX9_bestTurn_17 cv_X9_70 (by first | assumption | rfl) (by decide) (by omega) rfl rfl (Nat.le_of_ble_eq_true rfl) (c_play (d := d - 1) (by omega) (Or.inr rfl) (Or.inl rfl) (Or.inl rfl) D h.1 h.2.2.2 0 h.2.1) (fun v1 σ1 hv1 => ?_)
  refine m_qVP hv1 (fun hq => ?_)
  clear hv1 v1
  rename mS => s0
  obtain ⟨o0, f0⟩ := hq
  have hP0 : s0.1 (81 + 1 + 3) k = ptsD D k := (o0.1.2.2.2.2.2 k hk).2.2.2.1
  refine m_aload_n dX9_bestTurn_20 0 rfl ?_
  refine m_getR 6 80 dX9_bestTurn_21 fl_X9_28_8 rfl (by decide) rfl (by first | assumption | rfl) ?_
  refine m_getR 0 81 dX9_bestTurn_24 fl_X9_74_3 rfl (by decide) rfl (by first | assumption | rfl) ?_
  refine m_iconst (v := 3) dX9_bestTurn_27 (by decide) ?_
  refine m_aald dX9_bestTurn_28 (by first | assumption | rfl) 3 rfl (by first | assumption | omega | decide) ?_
  refine m_iload_n dX9_bestTurn_29 1 rfl ?_
  refine m_iald dX9_bestTurn_30 (by first | assumption | rfl) k rfl (by first | assumption | omega | decide) ?_
  refine mW.top hP0 ?_
  refine m_istore_n (ls1 := [(3, _), (0, _), (1, _), (2, _)]) dX9_bestTurn_31 (by decide) rfl ?_
  refine m_iconst (v := 0) dX9_bestTurn_32 (by decide) ?_
  refine m_istore (ls1 := [(4, _), (3, _), (0, _), (1, _), (2, _)]) dX9_bestTurn_33 (by decide) rfl ?_
  refine m_iconst (v := 1) dX9_bestTurn_35 (by decide) ?_
  refine m_istore (ls1 := [(5, _), (4, _), (3, _), (0, _), (1, _), (2, _)]) dX9_bestTurn_36 (by decide) rfl ?_
  have b1 : btP D k mo 1 = (nI 0, ptsD D k) := by
    obtain ⟨p, hp, ep⟩ := pts_of h.1 k hk
    have e0 : btD D k mo 0 = D := by unfold btD; rw [if_pos rfl]
    have z : ¬ ptsD (btD D k mo 0) k ≤ (btP D k mo 0).2 := by rw [e0, ep]; exact m1_lt p (by omega)
    rw [btP, if_neg z, e0]
  refine down (N := 3) (fun v (q : mS × Int32 × Int32) => 1 ≤ v ∧ q.2 = btP D k mo v ∧ fW (wTr D.2.1.1) σ q.1) (fun v q => mW G l d kX9_bestTurn 38 [(5, .int (nI v)), (4, .int q.2.1), (3, .int q.2.2), (0, .ref 65), (1, .int (nI k)), (2, .int (nI mo))] [] q.1 _) ?_ ?_ 1 (s0, nI 0, ptsD D k) (by decide) ⟨Nat.le_refl _, b1.symm, f0.mono (fun y z h => by omega)⟩
  · rintro ⟨s, be, ms⟩ ⟨-, hq, f⟩
    have hb : be = (btP D k mo 3).1 := congrArg Prod.fst hq
    have hm : ms = (btP D k mo 3).2 := congrArg Prod.snd hq
    show mW G l d kX9_bestTurn 38 [(5, .int (nI 3)), (4, .int be), (3, .int ms), (0, .ref 65), (1, .int (nI k)), (2, .int (nI mo))] [] s _
    refine m_iload dX9_bestTurn_38 0 rfl ?_
    refine m_iconst (v := 3) dX9_bestTurn_40 (by decide) ?_
    refine m_icmp_ge dX9_bestTurn_41 119 (by decide) (fun hz => ?_) (fun hz => ?_)
    · refine m_iload_n dX9_bestTurn_119 2 rfl ?_
      refine m_iconst (v := 3) dX9_bestTurn_120 (by decide) ?_
      refine m_imul dX9_bestTurn_121 ?_
      refine m_iload dX9_bestTurn_122 1 rfl ?_
      refine m_iadd dX9_bestTurn_124 ?_
      exact m_ireturn dX9_bestTurn_125 ⟨_, rfl, by rw [hm, hb], f⟩
    · exact absurd (Int32.le_refl _) hz
  · rintro v ⟨s, be, ms⟩ hv ⟨hv1, hq, f⟩ ih
    have hb : be = (btP D k mo v).1 := congrArg Prod.fst hq
    have hm : ms = (btP D k mo v).2 := congrArg Prod.snd hq
    have f : fW (wTr D.2.1.1) σ s := f
    have hs := h.tr f
    show mW G l d kX9_bestTurn 38 [(5, .int (nI v)), (4, .int be), (3, .int ms), (0, .ref 65), (1, .int (nI k)), (2, .int (nI mo))] [] s _
    have eB : btD D k mo v = addS D (nI mo) (nI k) (nI v) := by unfold btD; rw [if_neg (by omega)]
    refine m_iload dX9_bestTurn_38 0 rfl ?_
    refine m_iconst (v := 3) dX9_bestTurn_40 (by decide) ?_
    refine m_icmp_ge dX9_bestTurn_41 119 (by decide) (fun hz => ?_) (fun hz => ?_)
    · exact absurd ((nle (a := 3) (by omega) (by omega)).mp hz) (by omega)
    clear hz
    refine m_aload_n dX9_bestTurn_44 3 rfl ?_
    refine m_getR 1 15 dX9_bestTurn_45 fl_X9_44_8 rfl (by decide) rfl (by first | assumption | rfl) ?_
    refine m_iload_n dX9_bestTurn_48 5 rfl ?_
    refine m_iload_n dX9_bestTurn_49 4 rfl ?_
    refine m_iload dX9_bestTurn_50 0 rfl ?_
    refine m_callV (As := [_, _, _]) dX9_bestTurn_52 cv_X9_77 (by first | assumption | rfl) (by decide) (by omega) rfl rfl (Nat.le_of_ble_eq_true rfl) (c_lend (d := d - 1) D.2.1.1 h12 hs.2.2.2.2.2.2.1.1 (nI mo) (nI k) (nI v)) (fun v1 σ1 hv1 => ?_)
    refine m_qV hv1 ?_
    clear hv1 v1 σ1
    have hd2 : depC 5 30 (addS D (nI mo) (nI k) (nI v)) (us (us (us (us s (17 + D.2.1.1) 0 (nI mo)) (17 + D.2.1.1) 1 (nI k)) (17 + D.2.1.1) 2 (nI v)) 15 3 (nI (D.2.1.1 + 1))) := by
      obtain ⟨a1, a2, a3, a4, a5, a6⟩ := hs.2.2.2
      have un : ∀ a b, a ≠ 15 → a ≠ 17 + D.2.1.1 → (us (us (us (us s (17 + D.2.1.1) 0 (nI mo)) (17 + D.2.1.1) 1 (nI k)) (17 + D.2.1.1) 2 (nI v)) 15 3 (nI (D.2.1.1 + 1))).1 a b = s.1 a b := fun a b h1 h2 => by
        rw [us_at, if_neg (fun z => h1 z.1), us_at, if_neg (fun z => h2 z.1), us_at, if_neg (fun z => h2 z.1), us_at, if_neg (fun z => h2 z.1)]
      refine ⟨(un _ _ (by omega) (by omega)).trans a1, fun i hi j hj => ?_, by show D.2.1.1 + 1 ≤ 13; omega, ⟨?_, fun i hi j hj => ?_⟩, a5, ⟨(un _ _ (by omega) (by omega)).trans a6.1, fun i hi => ⟨(un _ _ (by omega) (by omega)).trans (a6.2 i hi).1, (un _ _ (by omega) (by omega)).trans (a6.2 i hi).2.1, (un _ _ (by omega) (by omega)).trans (a6.2 i hi).2.2⟩⟩⟩
      · have hi : i < D.1.1 := hi
        exact (un _ _ (by omega) (by omega)).trans (a2 i hi j hj)
      · rw [us_at, if_pos ⟨rfl, rfl⟩]; rfl
      · show _ = if i = D.2.1.1 then (if j = 0 then nI mo else if j = 1 then nI k else nI v) else D.2.1.2 i j
        have hi : i < D.2.1.1 + 1 := hi
        by_cases e : i = D.2.1.1
        · subst e
          rw [if_pos rfl]
          rcases (show j = 0 ∨ j = 1 ∨ j = 2 by omega) with rfl | rfl | rfl
          · rw [us_at, if_neg (by omega), us_at, if_neg (by omega), us_at, if_neg (by omega), us_at, if_pos ⟨rfl, rfl⟩, if_pos rfl]
          · rw [us_at, if_neg (by omega), us_at, if_neg (by omega), us_at, if_pos ⟨rfl, rfl⟩, if_neg (by decide), if_pos rfl]
          · rw [us_at, if_neg (by omega), us_at, if_pos ⟨rfl, rfl⟩, if_neg (by decide), if_neg (by decide)]
        · rw [if_neg e, un _ _ (by omega) (by omega)]
          exact a4.2 i (by omega) j hj
    have wfE : wfD (addS D (nI mo) (nI k) (nI v)) := by
      refine ⟨h.1.1, fun i hi => ?_, h.1.2.2⟩
      show ∃ j, j < 8 ∧ (if i = D.2.1.1 then (if 1 = 0 then nI mo else if 1 = 1 then nI k else nI v) else D.2.1.2 i 1) = nI j
      have hi : i < D.2.1.1 + 1 := hi
      by_cases e : i = D.2.1.1
      · rw [if_pos e, if_neg (by decide), if_pos rfl]
        exact ⟨k, hk8, rfl⟩
      · rw [if_neg e]
        exact h.1.2.1 i (by omega)
    have h15 : (us (us (us (us s (17 + D.2.1.1) 0 (nI mo)) (17 + D.2.1.1) 1 (nI k)) (17 + D.2.1.1) 2 (nI v)) 15 3 (nI (D.2.1.1 + 1))).1 15 3 = nI (D.2.1.1 + 1) := by rw [us_at, if_pos ⟨rfl, rfl⟩]
    have fS : fW (fun y z => (y = 15 ∧ z = 3) ∨ y = 17 + D.2.1.1) s (us (us (us (us s (17 + D.2.1.1) 0 (nI mo)) (17 + D.2.1.1) 1 (nI k)) (17 + D.2.1.1) 2 (nI v)) 15 3 (nI (D.2.1.1 + 1))) := fW.us (by omega) (fW.us (by omega) (fW.us (by omega) (fW.us (by omega) fW.rf)))
    generalize us (us (us (us s (17 + D.2.1.1) 0 (nI mo)) (17 + D.2.1.1) 1 (nI k)) (17 + D.2.1.1) 2 (nI v)) 15 3 (nI (D.2.1.1 + 1)) = s1 at *
    have hstep : btP D k mo (v + 1) = if ptsD (addS D (nI mo) (nI k) (nI v)) k ≤ ms then btP D k mo v else (nI v, ptsD (addS D (nI mo) (nI k) (nI v)) k) := by rw [btP, eB, hm]
    have hkE : k < (addS D (nI mo) (nI k) (nI v)).1.1 := hk
    have hmE : (addS D (nI mo) (nI k) (nI v)).2.2.2 = 0 := h.2.1
    generalize addS D (nI mo) (nI k) (nI v) = E at *
    refine m_aload_n dX9_bestTurn_55 3 rfl ?_
    refine m_getR 6 80 dX9_bestTurn_56 fl_X9_28_8 rfl (by decide) rfl (by first | assumption | rfl) ?_
    refine m_aload_n dX9_bestTurn_59 3 rfl ?_
    refine m_getR 0 5 dX9_bestTurn_60 fl_X9_41_8 rfl (by decide) rfl (by first | assumption | rfl) ?_
    refine m_aload_n dX9_bestTurn_63 3 rfl ?_
    refine m_getR 1 15 dX9_bestTurn_64 fl_X9_44_8 rfl (by decide) rfl (by first | assumption | rfl) ?_
    refine m_aload_n dX9_bestTurn_67 3 rfl ?_
    refine m_getR 2 30 dX9_bestTurn_68 fl_X9_48_8 rfl (by decide) rfl (by first | assumption | rfl) ?_
    refine m_iconst (v := 0) dX9_bestTurn_71 (by decide) ?_
    refine m_callV (As := [_, _, _, _]) dX9_bestTurn_72 cv_X9_70 (by first | assumption | rfl) (by decide) (by omega) rfl rfl (Nat.le_of_ble_eq_true rfl) (c_play (d := d - 1) (by omega) (Or.inr rfl) (Or.inl rfl) (Or.inl rfl) E wfE hd2 0 hmE) (fun v1 σ1 hv1 => ?_)
    refine m_qVP hv1 (fun hq2 => ?_)
    clear hv1 v1
    rename mS => s2
    obtain ⟨o1, f1⟩ := hq2
    refine m_aload_n dX9_bestTurn_75 3 rfl ?_
    refine m_getR 1 15 dX9_bestTurn_76 fl_X9_44_8 rfl (by decide) rfl (by first | assumption | rfl) ?_
    refine m_callV (As := []) dX9_bestTurn_79 cv_X9_83 (by first | assumption | rfl) (by decide) (by omega) rfl rfl (Nat.le_of_ble_eq_true rfl) (c_giveBack (d := d - 1) D.2.1.1 h12 ((f1.at (by omega)).trans h15)) (fun v1 σ1 hv1 => ?_)
    refine m_qV hv1 ?_
    clear hv1 v1 σ1
    have hP : (us s2 15 3 (nI D.2.1.1)).1 (81 + 1 + 3) k = ptsD E k := by
      rw [us_at, if_neg (by omega)]
      exact (o1.1.2.2.2.2.2 k hkE).2.2.2.1
    have f3 : fW (wTr D.2.1.1) σ (us s2 15 3 (nI D.2.1.1)) := by
      refine f.tr ⟨f1.1.trans fS.1, fun y z => ?_⟩
      rw [us_at]
      by_cases e : y = 15 ∧ z = 3
      · rw [if_pos e, e.1, e.2]
        exact Or.inr hs.2.2.2.2.2.2.1.1.symm
      · rw [if_neg e]
        rcases f1.2 y z with q | q
        · exact Or.inl (by omega)
        · rw [q]
          rcases fS.2 y z with q | q
          · exact Or.inl (by omega)
          · exact Or.inr q
    generalize us s2 15 3 (nI D.2.1.1) = s3 at *
    refine m_aload_n dX9_bestTurn_82 3 rfl ?_
    refine m_getR 6 80 dX9_bestTurn_83 fl_X9_28_8 rfl (by decide) rfl (by first | assumption | rfl) ?_
    refine m_getR 0 81 dX9_bestTurn_86 fl_X9_74_3 rfl (by decide) rfl (by first | assumption | rfl) ?_
    refine m_iconst (v := 3) dX9_bestTurn_89 (by decide) ?_
    refine m_aald dX9_bestTurn_90 (by first | assumption | rfl) 3 rfl (by first | assumption | omega | decide) ?_
    refine m_iload_n dX9_bestTurn_91 4 rfl ?_
    refine m_iald dX9_bestTurn_92 (by first | assumption | rfl) k rfl (by first | assumption | omega | decide) ?_
    refine mW.top hP ?_
    refine m_iload_n dX9_bestTurn_93 2 rfl ?_
    refine m_icmp_le dX9_bestTurn_94 113 (by decide) (fun z1 => ?_) (fun z1 => ?_)
    · refine m_iinc (v := nI (v + 1)) (ls1 := [(5, _), (4, _), (3, _), (0, _), (1, _), (2, _)]) dX9_bestTurn_113 0 rfl (nI_1 v) (by decide) rfl ?_
      refine m_goto dX9_bestTurn_116 38 (by decide) ?_
      refine ih (s3, be, ms) ⟨by omega, ?_, f3⟩
      show (be, ms) = btP D k mo (v + 1)
      rw [hstep, if_pos z1]; exact hq
    · refine m_aload_n dX9_bestTurn_97 3 rfl ?_
      refine m_getR 6 80 dX9_bestTurn_98 fl_X9_28_8 rfl (by decide) rfl (by first | assumption | rfl) ?_
      refine m_getR 0 81 dX9_bestTurn_101 fl_X9_74_3 rfl (by decide) rfl (by first | assumption | rfl) ?_
      refine m_iconst (v := 3) dX9_bestTurn_104 (by decide) ?_
      refine m_aald dX9_bestTurn_105 (by first | assumption | rfl) 3 rfl (by first | assumption | omega | decide) ?_
      refine m_iload_n dX9_bestTurn_106 4 rfl ?_
      refine m_iald dX9_bestTurn_107 (by first | assumption | rfl) k rfl (by first | assumption | omega | decide) ?_
      refine mW.top hP ?_
      refine m_istore_n (ls1 := [(3, _), (5, _), (4, _), (0, _), (1, _), (2, _)]) dX9_bestTurn_108 (by decide) rfl ?_
      refine m_iload dX9_bestTurn_109 1 rfl ?_
      refine m_istore (ls1 := [(4, _), (3, _), (5, _), (0, _), (1, _), (2, _)]) dX9_bestTurn_111 (by decide) rfl ?_
      refine m_iinc (v := nI (v + 1)) (ls1 := [(5, _), (4, _), (3, _), (0, _), (1, _), (2, _)]) dX9_bestTurn_113 2 rfl (nI_1 v) (by decide) rfl ?_
      refine m_goto dX9_bestTurn_116 38 (by decide) ?_
      refine ih (s3, nI v, ptsD E k) ⟨by omega, ?_, f3⟩
      show (nI v, ptsD E k) = btP D k mo (v + 1)
      rw [hstep, if_neg z1]
theorem n36 (p c : Nat) : nI p * 36 + nI c = nI (36 * p + c) := by rw [show (36 : Int32) = nI 36 from rfl, pk_mul, nI_add, Nat.mul_comm]
theorem n3' (p c : Nat) : nI p * 3 + nI c = nI (3 * p + c) := by rw [show (3 : Int32) = nI 3 from rfl, pk_mul, nI_add, Nat.mul_comm]
theorem c_standPart (c p : Nat) (hc : c < 36) (hp : p ≤ 576) (w : Int32) : mMet G l d kX10_standPart [.int (nI p * 36 + nI c), .int w] σ (qI (if w = 2 then nI p else if w = 0 then nI (c / 6) else nI (c % 6)) σ) := by
  rw [n36]
  have e1 : nI (36 * p + c) / 36 = nI p := by rw [show (36 : Int32) = nI 36 from rfl, pk_div (by omega) (by decide) (by decide), show (36 * p + c) / 36 = p by omega]
  have e2 : nI (36 * p + c) - nI (36 * p + c) / 36 * 36 = nI c := by rw [show (36 : Int32) = nI 36 from rfl, pk_rem (by omega) (by decide) (by decide), show (36 * p + c) % 36 = c by omega]
  refine mMet.of cm_X10_standPart rfl (Nat.le_of_ble_eq_true rfl) rfl (fun v1 σ1 h => by rw [h.1]; rfl) ?_
  refine m_iload_n dX10_standPart_0 1 rfl ?_
  refine m_iconst (v := 2) dX10_standPart_1 (by decide) ?_
  refine m_icmp_ne dX10_standPart_2 10 (by decide) (fun h => ?_) (fun h => ?_)
  rotate_left
  · refine m_iload_n dX10_standPart_5 0 rfl ?_
    refine m_bipush (v := 36) dX10_standPart_6 (by decide) ?_
    refine m_idiv dX10_standPart_8 (by decide) ?_
    refine mW.top e1 ?_
    exact m_ireturn dX10_standPart_9 (qI_of (by rw [if_pos h]))
  rw [if_neg h]
  refine m_iload_n dX10_standPart_10 0 rfl ?_
  refine m_bipush (v := 36) dX10_standPart_11 (by decide) ?_
  refine m_irem dX10_standPart_13 (by decide) ?_
  refine mW.top e2 ?_
  refine m_istore_n (ls1 := [(2, _), (0, _), (1, _)]) dX10_standPart_14 (by decide) rfl ?_
  refine m_iload_n dX10_standPart_15 2 rfl ?_
  refine m_if_ne dX10_standPart_16 26 (by decide) (fun z1 => ?_) (fun z1 => ?_)
  · refine m_iload_n dX10_standPart_26 0 rfl ?_
    refine m_bipush (v := 6) dX10_standPart_27 (by decide) ?_
    refine m_irem dX10_standPart_29 (by decide) ?_
    refine mW.top (nr6 c (by omega)) ?_
    exact m_ireturn dX10_standPart_30 (qI_of (by rw [if_neg z1]))
  · refine m_iload_n dX10_standPart_19 0 rfl ?_
    refine m_bipush (v := 6) dX10_standPart_20 (by decide) ?_
    refine m_idiv dX10_standPart_22 (by decide) ?_
    refine mW.top (nd6 c (by omega)) ?_
    refine m_goto dX10_standPart_23 30 (by decide) ?_
    exact m_ireturn dX10_standPart_30 (qI_of (by rw [if_pos z1]))
theorem c_turnPart (c p : Nat) (hc : c < 3) (hp : p ≤ 576) (w : Int32) : mMet G l d kX10_turnPart [.int (nI p * 3 + nI c), .int w] σ (qI (if w = 0 then nI c else nI p) σ) := by
  rw [n3']
  have e1 : nI (3 * p + c) / 3 = nI p := by rw [show (3 : Int32) = nI 3 from rfl, pk_div (by omega) (by decide) (by decide), show (3 * p + c) / 3 = p by omega]
  have e2 : nI (3 * p + c) - nI (3 * p + c) / 3 * 3 = nI c := by rw [show (3 : Int32) = nI 3 from rfl, pk_rem (by omega) (by decide) (by decide), show (3 * p + c) % 3 = c by omega]
  refine mMet.of cm_X10_turnPart rfl (Nat.le_of_ble_eq_true rfl) rfl (fun v1 σ1 h => by rw [h.1]; rfl) ?_
  refine m_iload_n dX10_turnPart_0 1 rfl ?_
  refine m_if_ne dX10_turnPart_1 10 (by decide) (fun h => ?_) (fun h => ?_)
  · refine m_iload_n dX10_turnPart_10 0 rfl ?_
    refine m_iconst (v := 3) dX10_turnPart_11 (by decide) ?_
    refine m_idiv dX10_turnPart_12 (by decide) ?_
    refine mW.top e1 ?_
    exact m_ireturn dX10_turnPart_13 (qI_of (by rw [if_neg h]))
  · refine m_iload_n dX10_turnPart_4 0 rfl ?_
    refine m_iconst (v := 3) dX10_turnPart_5 (by decide) ?_
    refine m_irem dX10_turnPart_6 (by decide) ?_
    refine mW.top e2 ?_
    refine m_goto dX10_turnPart_7 13 (by decide) ?_
    exact m_ireturn dX10_turnPart_13 (qI_of (by rw [if_pos h]))
/-- the parts of what bestStand and bestTurn find, as the reference answers -/
theorem c_standA (D : Deb) (wf : wfD D) (k : Nat) (hk : k < D.1.1) (w : Int32) (hw : wI w 3) : mMet G l d kX10_standPart [.int ((stP D k 36).2 * 36 + (stP D k 36).1), .int w] σ (qI (stA D k w) σ) := by
  obtain ⟨c, p, hc, hp, e⟩ := stP_ok wf k hk
  have h := c_standPart (G := G) (l := l) (d := d) (σ := σ) c p hc hp w
  unfold stA
  rw [e]
  refine h.conseq (fun v s q => ⟨q.1.trans (congrArg (fun x => some (Value.int x)) ?_), q.2⟩)
  obtain ⟨j, hj, rfl⟩ := wI_of (by decide) hw
  show _ = if nI j = 0 then nI c / 6 else if nI j = 1 then nI c - nI c / 6 * 6 else nI p
  rw [nd6 c (by omega)]
  have e6 : nI c - nI (c / 6) * 6 = nI (c % 6) := by rw [← nd6 c (by omega)]; exact nr6 c (by omega)
  rw [e6]
  rcases (show j = 0 ∨ j = 1 ∨ j = 2 by omega) with rfl | rfl | rfl
  · rfl
  · rfl
  · rfl
theorem c_turnA (D : Deb) (wf : wfD D) (k mo : Nat) (hk : k < D.1.1) (w : Int32) : mMet G l d kX10_turnPart [.int ((btP D k mo 3).2 * 3 + (btP D k mo 3).1), .int w] σ (qI (btA D k mo w) σ) := by
  obtain ⟨c, p, hc, hp, e⟩ := btP_ok wf k mo hk 3 (by decide) (Nat.le_refl _)
  have h := c_turnPart (G := G) (l := l) (d := d) (σ := σ) c p hc hp w
  unfold btA
  rw [e]
  exact h
end PN


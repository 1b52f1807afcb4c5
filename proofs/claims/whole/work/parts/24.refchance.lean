/-! ===== longs; the reference: chance ===== -/
theorem lcmp_eq {x y : Int64} : lg_cmp x y = 0 ↔ x = y := by
  unfold lg_cmp
  by_cases h : x > y
  · rw [if_pos h]
    exact ⟨fun q => absurd q (by decide), fun q => absurd h (by rw [q]; exact Int64.lt_irrefl)⟩
  · rw [if_neg h]
    by_cases h2 : x = y
    · rw [if_pos h2]; exact ⟨fun _ => h2, fun _ => rfl⟩
    · rw [if_neg h2]; exact ⟨fun q => absurd q (by decide), fun q => absurd q h2⟩
theorem lcmp_le {x y : Int64} : lg_cmp x y ≤ 0 ↔ ¬ y < x := by
  unfold lg_cmp
  by_cases h : x > y
  · rw [if_pos h]
    exact ⟨fun q => absurd q (by decide), fun q => absurd h q⟩
  · rw [if_neg h]
    refine ⟨fun _ => h, fun _ => ?_⟩
    split <;> decide
theorem sh1 : ∀ e, e ≤ 8 → (1 : Int32) <<< (nI e &&& 31) = nI (2 ^ e) := by decide +kernel
theorem sh16 : ∀ e, e ≤ 8 → (1 : Int64) <<< ((4 * nI e).toInt64 &&& 63) = lN (16 ^ e) := by decide +kernel
def wtN (c m : Nat) : Nat → Nat
  | 0 => 1
  | i + 1 => wtN c m i * (if bitI (nI m) (nI i) then 16 - c else c)
theorem wtN_le (c m : Nat) (hc : c ≤ 16) : ∀ i, wtN c m i ≤ 16 ^ i
  | 0 => Nat.le_refl _
  | i + 1 => by
    unfold wtN
    rw [Nat.pow_succ]
    exact Nat.mul_le_mul (wtN_le c m hc i) (by split <;> omega)
def chN (D : Deb) (c k : Nat) : Nat → Nat
  | 0 => 0
  | m + 1 => chN D c k m + (if 0 < (RSt (maskD D (nI m)) 24).2.2.2.2.1 k then wtN c m D.2.2.1.1 else 0)
theorem chN_le (D : Deb) (c k : Nat) (hc : c ≤ 16) : ∀ m, chN D c k m ≤ m * 16 ^ D.2.2.1.1
  | 0 => Nat.zero_le _
  | m + 1 => by
    unfold chN
    have h1 := chN_le D c k hc m
    have h2 := wtN_le c m hc D.2.2.1.1
    rw [Nat.succ_mul]
    split <;> omega
theorem p16 : ∀ e, e ≤ 8 → 16 ^ e ≤ 4294967296 := by decide +kernel
theorem p2 : ∀ e, e ≤ 8 → 2 ^ e ≤ 256 := by decide +kernel
theorem p16p (e : Nat) : 0 < 16 ^ e := Nat.pow_pos (by decide)
/-- the sum over all sets, in lowest terms -/
def chA (D : Deb) (c k : Nat) (w : Int32) : Int64 := lN (if w = 0 then chN D c k (2 ^ D.2.2.1.1) / Nat.gcd (chN D c k (2 ^ D.2.2.1.1)) (16 ^ D.2.2.1.1) else 16 ^ D.2.2.1.1 / Nat.gcd (chN D c k (2 ^ D.2.2.1.1)) (16 ^ D.2.2.1.1))
section CH
variable {G : mG} {l : Launch} {d : Nat} {σ : mS} {μ : mM} {pc : Nat} {ls : List (Nat × Value)} {st : List Value} {Q : Option Value → mS → Prop}
theorem mW.topL {v w : Int64} (h : v = w) (k : mW G l d μ pc ls (.long w :: st) σ Q) : mW G l d μ pc ls (.long v :: st) σ Q := h ▸ k
theorem dX11_lowest_0 : decode cX11_lowest 0 = .ok (.lload_n 0, 1) := by decide +kernel
theorem dX11_lowest_1 : decode cX11_lowest 1 = .ok (.lstore 5, 2) := by decide +kernel
theorem dX11_lowest_3 : decode cX11_lowest 3 = .ok (.lload_n 2, 1) := by decide +kernel
theorem dX11_lowest_4 : decode cX11_lowest 4 = .ok (.lstore 7, 2) := by decide +kernel
theorem dX11_lowest_6 : decode cX11_lowest 6 = .ok (.lload 7, 2) := by decide +kernel
theorem dX11_lowest_8 : decode cX11_lowest 8 = .ok (.lconst 0, 1) := by decide +kernel
theorem dX11_lowest_9 : decode cX11_lowest 9 = .ok (.lcmp, 1) := by decide +kernel
theorem dX11_lowest_10 : decode cX11_lowest 10 = .ok (.ifCond .eq 21, 3) := by decide +kernel
theorem dX11_lowest_13 : decode cX11_lowest 13 = .ok (.lload 5, 2) := by decide +kernel
theorem dX11_lowest_15 : decode cX11_lowest 15 = .ok (.lload 7, 2) := by decide +kernel
theorem dX11_lowest_17 : decode cX11_lowest 17 = .ok (.lrem, 1) := by decide +kernel
theorem dX11_lowest_18 : decode cX11_lowest 18 = .ok (.lstore 9, 2) := by decide +kernel
theorem dX11_lowest_20 : decode cX11_lowest 20 = .ok (.lload 7, 2) := by decide +kernel
theorem dX11_lowest_22 : decode cX11_lowest 22 = .ok (.lstore 5, 2) := by decide +kernel
theorem dX11_lowest_24 : decode cX11_lowest 24 = .ok (.lload 9, 2) := by decide +kernel
theorem dX11_lowest_26 : decode cX11_lowest 26 = .ok (.lstore 7, 2) := by decide +kernel
theorem dX11_lowest_28 : decode cX11_lowest 28 = .ok (.goto (-22), 3) := by decide +kernel
theorem dX11_lowest_31 : decode cX11_lowest 31 = .ok (.iload 4, 2) := by decide +kernel
theorem dX11_lowest_33 : decode cX11_lowest 33 = .ok (.ifCond .ne 10, 3) := by decide +kernel
theorem dX11_lowest_36 : decode cX11_lowest 36 = .ok (.lload_n 0, 1) := by decide +kernel
theorem dX11_lowest_37 : decode cX11_lowest 37 = .ok (.lload 5, 2) := by decide +kernel
theorem dX11_lowest_39 : decode cX11_lowest 39 = .ok (.ldiv, 1) := by decide +kernel
theorem dX11_lowest_40 : decode cX11_lowest 40 = .ok (.goto 7, 3) := by decide +kernel
theorem dX11_lowest_43 : decode cX11_lowest 43 = .ok (.lload_n 2, 1) := by decide +kernel
theorem dX11_lowest_44 : decode cX11_lowest 44 = .ok (.lload 5, 2) := by decide +kernel
theorem dX11_lowest_46 : decode cX11_lowest 46 = .ok (.ldiv, 1) := by decide +kernel
theorem dX11_lowest_47 : decode cX11_lowest 47 = .ok (.lreturn, 1) := by decide +kernel
theorem dX11_chanceOf_0 : decode cX11_chanceOf 0 = .ok (.aload_n 0, 1) := by decide +kernel
theorem dX11_chanceOf_1 : decode cX11_chanceOf 1 = .ok (.invokevirtual 270, 3) := by decide +kernel
theorem dX11_chanceOf_4 : decode cX11_chanceOf 4 = .ok (.lconst 0, 1) := by decide +kernel
theorem dX11_chanceOf_5 : decode cX11_chanceOf 5 = .ok (.lstore 4, 2) := by decide +kernel
theorem dX11_chanceOf_7 : decode cX11_chanceOf 7 = .ok (.iconst 0, 1) := by decide +kernel
theorem dX11_chanceOf_8 : decode cX11_chanceOf 8 = .ok (.istore 6, 2) := by decide +kernel
theorem dX11_chanceOf_10 : decode cX11_chanceOf 10 = .ok (.iload 6, 2) := by decide +kernel
theorem dX11_chanceOf_12 : decode cX11_chanceOf 12 = .ok (.iconst 1, 1) := by decide +kernel
theorem dX11_chanceOf_13 : decode cX11_chanceOf 13 = .ok (.aload_n 0, 1) := by decide +kernel
theorem dX11_chanceOf_14 : decode cX11_chanceOf 14 = .ok (.getfield 204, 3) := by decide +kernel
theorem dX11_chanceOf_17 : decode cX11_chanceOf 17 = .ok (.ishl, 1) := by decide +kernel
theorem dX11_chanceOf_18 : decode cX11_chanceOf 18 = .ok (.if_icmp .ge 92, 3) := by decide +kernel
theorem dX11_chanceOf_21 : decode cX11_chanceOf 21 = .ok (.lconst 1, 1) := by decide +kernel
theorem dX11_chanceOf_22 : decode cX11_chanceOf 22 = .ok (.lstore 7, 2) := by decide +kernel
theorem dX11_chanceOf_24 : decode cX11_chanceOf 24 = .ok (.iconst 0, 1) := by decide +kernel
theorem dX11_chanceOf_25 : decode cX11_chanceOf 25 = .ok (.istore 9, 2) := by decide +kernel
theorem dX11_chanceOf_27 : decode cX11_chanceOf 27 = .ok (.iload 9, 2) := by decide +kernel
theorem dX11_chanceOf_29 : decode cX11_chanceOf 29 = .ok (.aload_n 0, 1) := by decide +kernel
theorem dX11_chanceOf_30 : decode cX11_chanceOf 30 = .ok (.getfield 204, 3) := by decide +kernel
theorem dX11_chanceOf_33 : decode cX11_chanceOf 33 = .ok (.if_icmp .ge 34, 3) := by decide +kernel
theorem dX11_chanceOf_36 : decode cX11_chanceOf 36 = .ok (.lload 7, 2) := by decide +kernel
theorem dX11_chanceOf_38 : decode cX11_chanceOf 38 = .ok (.iload 6, 2) := by decide +kernel
theorem dX11_chanceOf_40 : decode cX11_chanceOf 40 = .ok (.iload 9, 2) := by decide +kernel
theorem dX11_chanceOf_42 : decode cX11_chanceOf 42 = .ok (.invokestatic 252, 3) := by decide +kernel
theorem dX11_chanceOf_45 : decode cX11_chanceOf 45 = .ok (.ifCond .eq 11, 3) := by decide +kernel
theorem dX11_chanceOf_48 : decode cX11_chanceOf 48 = .ok (.bipush 16, 2) := by decide +kernel
theorem dX11_chanceOf_50 : decode cX11_chanceOf 50 = .ok (.iload_n 1, 1) := by decide +kernel
theorem dX11_chanceOf_51 : decode cX11_chanceOf 51 = .ok (.isub, 1) := by decide +kernel
theorem dX11_chanceOf_52 : decode cX11_chanceOf 52 = .ok (.i2l, 1) := by decide +kernel
theorem dX11_chanceOf_53 : decode cX11_chanceOf 53 = .ok (.goto 5, 3) := by decide +kernel
theorem dX11_chanceOf_56 : decode cX11_chanceOf 56 = .ok (.iload_n 1, 1) := by decide +kernel
theorem dX11_chanceOf_57 : decode cX11_chanceOf 57 = .ok (.i2l, 1) := by decide +kernel
theorem dX11_chanceOf_58 : decode cX11_chanceOf 58 = .ok (.lmul, 1) := by decide +kernel
theorem dX11_chanceOf_59 : decode cX11_chanceOf 59 = .ok (.lstore 7, 2) := by decide +kernel
theorem dX11_chanceOf_61 : decode cX11_chanceOf 61 = .ok (.iinc 9 1, 3) := by decide +kernel
theorem dX11_chanceOf_64 : decode cX11_chanceOf 64 = .ok (.goto (-37), 3) := by decide +kernel
theorem dX11_chanceOf_67 : decode cX11_chanceOf 67 = .ok (.lload 7, 2) := by decide +kernel
theorem dX11_chanceOf_69 : decode cX11_chanceOf 69 = .ok (.lconst 0, 1) := by decide +kernel
theorem dX11_chanceOf_70 : decode cX11_chanceOf 70 = .ok (.lcmp, 1) := by decide +kernel
theorem dX11_chanceOf_71 : decode cX11_chanceOf 71 = .ok (.ifCond .le 33, 3) := by decide +kernel
theorem dX11_chanceOf_74 : decode cX11_chanceOf 74 = .ok (.aload_n 0, 1) := by decide +kernel
theorem dX11_chanceOf_75 : decode cX11_chanceOf 75 = .ok (.iload 6, 2) := by decide +kernel
theorem dX11_chanceOf_77 : decode cX11_chanceOf 77 = .ok (.putfield 223, 3) := by decide +kernel
theorem dX11_chanceOf_80 : decode cX11_chanceOf 80 = .ok (.aload_n 0, 1) := by decide +kernel
theorem dX11_chanceOf_81 : decode cX11_chanceOf 81 = .ok (.invokevirtual 273, 3) := by decide +kernel
theorem dX11_chanceOf_84 : decode cX11_chanceOf 84 = .ok (.lload 4, 2) := by decide +kernel
theorem dX11_chanceOf_86 : decode cX11_chanceOf 86 = .ok (.aload_n 0, 1) := by decide +kernel
theorem dX11_chanceOf_87 : decode cX11_chanceOf 87 = .ok (.getfield 70, 3) := by decide +kernel
theorem dX11_chanceOf_90 : decode cX11_chanceOf 90 = .ok (.iload_n 2, 1) := by decide +kernel
theorem dX11_chanceOf_91 : decode cX11_chanceOf 91 = .ok (.iaload, 1) := by decide +kernel
theorem dX11_chanceOf_92 : decode cX11_chanceOf 92 = .ok (.ifCond .le 8, 3) := by decide +kernel
theorem dX11_chanceOf_95 : decode cX11_chanceOf 95 = .ok (.lload 7, 2) := by decide +kernel
theorem dX11_chanceOf_97 : decode cX11_chanceOf 97 = .ok (.goto 4, 3) := by decide +kernel
theorem dX11_chanceOf_100 : decode cX11_chanceOf 100 = .ok (.lconst 0, 1) := by decide +kernel
theorem dX11_chanceOf_101 : decode cX11_chanceOf 101 = .ok (.ladd, 1) := by decide +kernel
theorem dX11_chanceOf_102 : decode cX11_chanceOf 102 = .ok (.lstore 4, 2) := by decide +kernel
theorem dX11_chanceOf_104 : decode cX11_chanceOf 104 = .ok (.iinc 6 1, 3) := by decide +kernel
theorem dX11_chanceOf_107 : decode cX11_chanceOf 107 = .ok (.goto (-97), 3) := by decide +kernel
theorem dX11_chanceOf_110 : decode cX11_chanceOf 110 = .ok (.lload 4, 2) := by decide +kernel
theorem dX11_chanceOf_112 : decode cX11_chanceOf 112 = .ok (.lconst 1, 1) := by decide +kernel
theorem dX11_chanceOf_113 : decode cX11_chanceOf 113 = .ok (.iconst 4, 1) := by decide +kernel
theorem dX11_chanceOf_114 : decode cX11_chanceOf 114 = .ok (.aload_n 0, 1) := by decide +kernel
theorem dX11_chanceOf_115 : decode cX11_chanceOf 115 = .ok (.getfield 204, 3) := by decide +kernel
theorem dX11_chanceOf_118 : decode cX11_chanceOf 118 = .ok (.imul, 1) := by decide +kernel
theorem dX11_chanceOf_119 : decode cX11_chanceOf 119 = .ok (.lshl, 1) := by decide +kernel
theorem dX11_chanceOf_120 : decode cX11_chanceOf 120 = .ok (.iload_n 3, 1) := by decide +kernel
theorem dX11_chanceOf_121 : decode cX11_chanceOf 121 = .ok (.invokestatic 353, 3) := by decide +kernel
theorem dX11_chanceOf_124 : decode cX11_chanceOf 124 = .ok (.lreturn, 1) := by decide +kernel
theorem c_no (v : Int32) : mMet G l d kX11_no [.int v] σ (qL (-9223372036854775808 - v.toInt64) σ) := by
  refine mMet.of cm_X11_no rfl (Nat.le_of_ble_eq_true rfl) rfl (fun v1 σ1 h => by rw [h.1]; trivial) ?_
  refine m_ldc2_w dX11_no_0 kl_X11_134 ?_
  refine m_iload_n dX11_no_3 0 rfl ?_
  refine m_i2l dX11_no_4 ?_
  refine m_lsub dX11_no_5 ?_
  exact m_lreturn dX11_no_6 ⟨rfl, rfl⟩
theorem c_lowest (a b : Nat) (ha : a < 2 ^ 60) (hb : b < 2 ^ 60) (hb0 : 0 < b) (w : Int32) : mMet G l d kX11_lowest [.long (lN a), .long (lN b), .int w] σ (qL (lN (if w = 0 then a / Nat.gcd a b else b / Nat.gcd a b)) σ) := by
  refine mMet.of cm_X11_lowest rfl (Nat.le_of_ble_eq_true rfl) rfl (fun v1 σ1 h => by rw [h.1]; trivial) ?_
  refine m_lload_n dX11_lowest_0 0 rfl ?_
  refine m_lstore (ls1 := [(5, _), (0, _), (2, _), (4, _)]) dX11_lowest_1 (by decide) rfl ?_
  refine m_lload_n dX11_lowest_3 2 rfl ?_
  refine m_lstore (ls1 := [(7, _), (5, _), (0, _), (2, _), (4, _)]) dX11_lowest_4 (by decide) rfl ?_
  have key : ∀ n x y : Nat, y ≤ n → x < 2 ^ 60 → y < 2 ^ 60 → Nat.gcd x y = Nat.gcd a b → mW G l d kX11_lowest 6 [(7, .long (lN y)), (5, .long (lN x)), (0, .long (lN a)), (2, .long (lN b)), (4, .int w)] [] σ (qL (lN (if w = 0 then a / Nat.gcd a b else b / Nat.gcd a b)) σ) := by
    have hz : ∀ x y : Nat, y = 0 → x < 2 ^ 60 → Nat.gcd x y = Nat.gcd a b → mW G l d kX11_lowest 31 [(7, .long (lN y)), (5, .long (lN x)), (0, .long (lN a)), (2, .long (lN b)), (4, .int w)] [] σ (qL (lN (if w = 0 then a / Nat.gcd a b else b / Nat.gcd a b)) σ) := by
      intro x y hy hx hg
      subst hy
      rw [Nat.gcd_zero_right] at hg
      subst hg
      have h0 : 0 < Nat.gcd a b := Nat.gcd_pos_of_pos_right _ hb0
      have hne : ¬ lN (Nat.gcd a b) = 0 := fun q => by
        have := (pk_lEQ (a := Nat.gcd a b) (b := 0) (by omega) (by decide)).mp q
        omega
      refine m_iload dX11_lowest_31 4 rfl ?_
      refine m_if_ne dX11_lowest_33 43 (by decide) (fun h => ?_) (fun h => ?_)
      · refine m_lload_n dX11_lowest_43 3 rfl ?_
        refine m_lload dX11_lowest_44 1 rfl ?_
        refine m_ldiv dX11_lowest_46 hne ?_
        refine mW.topL (pk_lDiv (by omega) h0 (by omega)) ?_
        exact m_lreturn dX11_lowest_47 ⟨by rw [if_neg h], rfl⟩
      · refine m_lload_n dX11_lowest_36 2 rfl ?_
        refine m_lload dX11_lowest_37 1 rfl ?_
        refine m_ldiv dX11_lowest_39 hne ?_
        refine mW.topL (pk_lDiv (by omega) h0 (by omega)) ?_
        refine m_goto dX11_lowest_40 47 (by decide) ?_
        exact m_lreturn dX11_lowest_47 ⟨by rw [if_pos h], rfl⟩
    intro n
    induction n with
    | zero =>
      intro x y hy hx hy2 hg
      refine m_lload dX11_lowest_6 0 rfl ?_
      refine m_lconst (v := 0) dX11_lowest_8 (by decide) ?_
      refine m_lcmp dX11_lowest_9 ?_
      refine m_if_eq dX11_lowest_10 31 (by decide) (fun h => ?_) (fun h => ?_)
      · exact hz x y (by omega) hx hg
      · exact absurd (lcmp_eq.mpr (by rw [show y = 0 by omega]; rfl)) h
    | succ n ih =>
      intro x y hy hx hy2 hg
      refine m_lload dX11_lowest_6 0 rfl ?_
      refine m_lconst (v := 0) dX11_lowest_8 (by decide) ?_
      refine m_lcmp dX11_lowest_9 ?_
      refine m_if_eq dX11_lowest_10 31 (by decide) (fun h => ?_) (fun h => ?_)
      · exact hz x y ((pk_lEQ (b := 0) (by omega) (by decide)).mp (lcmp_eq.mp h)) hx hg
      · have hy0 : 0 < y := Nat.pos_of_ne_zero (fun q => h (lcmp_eq.mpr (by rw [q]; rfl)))
        have hne : ¬ lN y = 0 := fun q => h (lcmp_eq.mpr q)
        clear h
        have hml := Nat.mod_lt x hy0
        refine m_lload dX11_lowest_13 1 rfl ?_
        refine m_lload dX11_lowest_15 0 rfl ?_
        refine m_lrem dX11_lowest_17 hne ?_
        refine mW.topL (pk_lRem (by omega) hy0 (by omega)) ?_
        refine m_lstore (ls1 := [(9, _), (7, _), (5, _), (0, _), (2, _), (4, _)]) dX11_lowest_18 (by decide) rfl ?_
        refine m_lload dX11_lowest_20 1 rfl ?_
        refine m_lstore (ls1 := [(5, _), (9, _), (7, _), (0, _), (2, _), (4, _)]) dX11_lowest_22 (by decide) rfl ?_
        refine m_lload dX11_lowest_24 1 rfl ?_
        refine m_lstore (ls1 := [(7, _), (5, _), (9, _), (0, _), (2, _), (4, _)]) dX11_lowest_26 (by decide) rfl ?_
        refine m_goto dX11_lowest_28 6 (by decide) ?_
        refine mW.sub (ls1 := [(7, _), (5, _), (0, _), (2, _), (4, _)]) [0, 1, 3, 4, 5] rfl ?_
        refine ih y (x % y) (by omega) hy2 (by omega) ?_
        rw [← hg, Nat.gcd_comm x y, Nat.gcd_rec y x, Nat.gcd_comm]
  exact key b a b (Nat.le_refl _) ha hb rfl
theorem c_chanceOf (hd : 8 ≤ d) (L0 L1 e : Nat) (ok : okR σ L0 L1 e) (c k : Nat) (hc : c ≤ 16) (hk : k < (Dt σ L0 L1 e).1.1) (w : Int32) : mMet G l d kX11_chanceOf [.ref 111, .int (nI c), .int (nI k), .int w] σ (qLP (fun r s => r = chA (Dt σ L0 L1 e) c k w ∧ rdR s (Dt σ L0 L1 e) ∧ fW wScr σ s)) := by
  have hn : (Dt σ L0 L1 e).1.1 ≤ 8 := parC_n L0 (tx σ 0)
  have he8 : e ≤ 8 := ok.2.2.2.2.2
  have heD : (Dt σ L0 L1 e).2.2.1.1 = e := rfl
  refine mMet.of cm_X11_chanceOf rfl (Nat.le_of_ble_eq_true rfl) rfl (fun v1 σ1 h => by obtain ⟨r, h1, -⟩ := h; rw [h1]; trivial) ?_
  refine m_aload_n dX11_chanceOf_0 0 rfl ?_
  refine m_callV (As := []) dX11_chanceOf_1 cv_X11_270 (by first | assumption | rfl) (by decide) (by omega) rfl rfl (Nat.le_of_ble_eq_true rfl) (c_asTold (d := d - 1) (by omega) L0 L1 e ok) (fun v1 σ1 hv1 => ?_)
  refine m_qVP hv1 (fun ha => ?_)
  clear hv1 v1
  rename mS => s0
  obtain ⟨a1, a2, a3⟩ := ha
  have q12 : s0.1 111 12 = nI e := (a3.at (by omega)).trans ok.2.2.2.2.1
  generalize Dt σ L0 L1 e = D at *
  have hk8 : k < 8 := by omega
  have rM := repM.of a1
  have hp2 := p2 e he8
  have hp16 := p16 e he8
  refine m_lconst (v := 0) dX11_chanceOf_4 (by decide) ?_
  refine m_lstore (ls1 := [(4, _), (0, _), (1, _), (2, _), (3, _)]) dX11_chanceOf_5 (by decide) rfl ?_
  refine m_iconst (v := 0) dX11_chanceOf_7 (by decide) ?_
  refine m_istore (ls1 := [(6, _), (4, _), (0, _), (1, _), (2, _), (3, _)]) dX11_chanceOf_8 (by decide) rfl ?_
  refine down (N := 2 ^ e) (fun m (q : mS × Nat) => q.2 = chN D c k m ∧ fW wSq s0 q.1) (fun m q => mW G l d kX11_chanceOf 10 [(6, .int (nI m)), (4, .long (lN q.2)), (0, .ref 111), (1, .int (nI c)), (2, .int (nI k)), (3, .int w)] [] q.1 _) ?_ ?_ 0 (s0, 0) (Nat.zero_le _) ⟨rfl, fW.rf⟩
  · rintro ⟨s, f⟩ ⟨hf, fr⟩
    have hf' : f = chN D c k (2 ^ e) := hf
    have q12' : s.1 111 12 = nI e := (fr.at (by omega)).trans q12
    have hfl : f ≤ 2 ^ e * 16 ^ e := by rw [hf', ← heD]; exact chN_le D c k hc _
    have hfl2 : f < 2 ^ 60 := Nat.lt_of_le_of_lt (Nat.le_trans hfl (Nat.mul_le_mul hp2 hp16)) (by decide)
    show mW G l d kX11_chanceOf 10 [(6, .int (nI (2 ^ e))), (4, .long (lN f)), (0, .ref 111), (1, .int (nI c)), (2, .int (nI k)), (3, .int w)] [] s _
    refine m_iload dX11_chanceOf_10 0 rfl ?_
    refine m_iconst (v := 1) dX11_chanceOf_12 (by decide) ?_
    refine m_aload_n dX11_chanceOf_13 2 rfl ?_
    refine m_getI 12 dX11_chanceOf_14 fl_X11_204_10 rfl (by decide) (by first | assumption | rfl) ?_
    refine mW.top q12' ?_
    refine m_ishl dX11_chanceOf_17 ?_
    refine mW.top (sh1 e he8) ?_
    refine m_icmp_ge dX11_chanceOf_18 110 (by decide) (fun h => ?_) (fun h => ?_)
    · refine m_lload dX11_chanceOf_110 1 rfl ?_
      refine m_lconst (v := 1) dX11_chanceOf_112 (by decide) ?_
      refine m_iconst (v := 4) dX11_chanceOf_113 (by decide) ?_
      refine m_aload_n dX11_chanceOf_114 2 rfl ?_
      refine m_getI 12 dX11_chanceOf_115 fl_X11_204_10 rfl (by decide) (by first | assumption | rfl) ?_
      refine mW.top q12' ?_
      refine m_imul dX11_chanceOf_118 ?_
      refine m_lshl dX11_chanceOf_119 ?_
      refine mW.topL (sh16 e he8) ?_
      refine m_iload_n dX11_chanceOf_120 5 rfl ?_
      refine m_callS (As := [_, _, _]) dX11_chanceOf_121 cs_X11_353 (by omega) rfl rfl (Nat.le_of_ble_eq_true rfl) (c_lowest (d := d - 1) f (16 ^ e) hfl2 (by omega) (p16p e) w) (fun v1 σ1 hv1 => ?_)
      refine m_qL hv1 ?_
      clear hv1 v1 σ1
      refine m_lreturn dX11_chanceOf_124 ⟨_, rfl, ?_, ⟨(fr.at (by omega)).trans a1.2.2.2.1, fun i hi j hj => (fr.at (by omega)).trans (a1.2.2.2.2.2.2.2.1 i hi j hj)⟩, a3.tr (fr.mono (fun y z h => by omega))⟩
      unfold chA
      rw [heD, hf']
    · exact absurd (Int32.le_refl _) h
  · rintro m ⟨s, f⟩ hm ⟨hf, fr⟩ ih
    have hf' : f = chN D c k m := hf
    have q12' : s.1 111 12 = nI e := (fr.at (by omega)).trans q12
    show mW G l d kX11_chanceOf 10 [(6, .int (nI m)), (4, .long (lN f)), (0, .ref 111), (1, .int (nI c)), (2, .int (nI k)), (3, .int w)] [] s _
    refine m_iload dX11_chanceOf_10 0 rfl ?_
    refine m_iconst (v := 1) dX11_chanceOf_12 (by decide) ?_
    refine m_aload_n dX11_chanceOf_13 2 rfl ?_
    refine m_getI 12 dX11_chanceOf_14 fl_X11_204_10 rfl (by decide) (by first | assumption | rfl) ?_
    refine mW.top q12' ?_
    refine m_ishl dX11_chanceOf_17 ?_
    refine mW.top (sh1 e he8) ?_
    refine m_icmp_ge dX11_chanceOf_18 110 (by decide) (fun h => ?_) (fun h => ?_)
    · exact absurd ((nle (a := 2 ^ e) (by omega) (by omega)).mp h) (by omega)
    · clear h
      refine m_lconst (v := 1) dX11_chanceOf_21 (by decide) ?_
      refine m_lstore (ls1 := [(7, _), (6, _), (4, _), (0, _), (1, _), (2, _), (3, _)]) dX11_chanceOf_22 (by decide) rfl ?_
      refine m_iconst (v := 0) dX11_chanceOf_24 (by decide) ?_
      refine m_istore (ls1 := [(9, _), (7, _), (6, _), (4, _), (0, _), (1, _), (2, _), (3, _)]) dX11_chanceOf_25 (by decide) rfl ?_
      refine down (N := e) (fun i (p : Nat) => p = wtN c m i) (fun i p => mW G l d kX11_chanceOf 27 [(9, .int (nI i)), (7, .long (lN p)), (6, .int (nI m)), (4, .long (lN f)), (0, .ref 111), (1, .int (nI c)), (2, .int (nI k)), (3, .int w)] [] s _) ?_ ?_ 0 1 (Nat.zero_le _) rfl
      · rintro p hp
        have hpl : p ≤ 16 ^ e := by rw [hp]; exact wtN_le c m hc e
        refine m_iload dX11_chanceOf_27 0 rfl ?_
        refine m_aload_n dX11_chanceOf_29 4 rfl ?_
        refine m_getI 12 dX11_chanceOf_30 fl_X11_204_10 rfl (by decide) (by first | assumption | rfl) ?_
        refine mW.top q12' ?_
        refine m_icmp_ge dX11_chanceOf_33 67 (by decide) (fun h => ?_) (fun h => ?_)
        rotate_left
        · exact absurd (Int32.le_refl _) h
        clear h
        refine m_lload dX11_chanceOf_67 1 rfl ?_
        refine m_lconst (v := 0) dX11_chanceOf_69 (by decide) ?_
        refine m_lcmp dX11_chanceOf_70 ?_
        refine m_if_le dX11_chanceOf_71 104 (by decide) (fun h => ?_) (fun h => ?_)
        · have hp0 : p = 0 := Nat.eq_zero_of_not_pos (fun q => lcmp_le.mp h ((pk_lLT (a := 0) (by decide) (by omega)).mpr q))
          clear h
          refine m_iinc (v := nI (m + 1)) (ls1 := [(6, _), (9, _), (7, _), (4, _), (0, _), (1, _), (2, _), (3, _)]) dX11_chanceOf_104 2 rfl (nI_1 m) (by decide) rfl ?_
          refine m_goto dX11_chanceOf_107 10 (by decide) ?_
          refine mW.sub (ls1 := [(6, _), (4, _), (0, _), (1, _), (2, _), (3, _)]) [0, 3, 4, 5, 6, 7] rfl ?_
          refine ih (s, f) ⟨?_, fr⟩
          show f = chN D c k (m + 1)
          rw [chN, heD, ← hp, hp0, ite_self]; exact hf'
        · clear h
          refine m_aload_n dX11_chanceOf_74 4 rfl ?_
          refine m_iload dX11_chanceOf_75 2 rfl ?_
          refine m_putI 21 dX11_chanceOf_77 fw_X11_223_10 rfl (by decide) rfl rfl (by first | assumption | rfl) ?_
          refine m_aload_n dX11_chanceOf_80 4 rfl ?_
          refine m_callV (As := []) dX11_chanceOf_81 cv_X11_273 (by first | assumption | rfl) (by decide) (by omega) rfl rfl (Nat.le_of_ble_eq_true rfl) (c_runsD (d := d - 1) (by omega) _ ((rM.tr (sqp fr)) (nI m))) (fun v1 σ1 hv1 => ?_)
          refine m_qVP hv1 (fun hz => ?_)
          clear hv1 v1
          rename mS => s2
          obtain ⟨z1, z2⟩ := hz
          have f2 : fW wSq s0 s2 := fr.tr ((fW.us (by omega) fW.rf).tr (z2.mono (fun y z h => by omega)))
          have hp3 : s2.1 132 k = (RSt (maskD D (nI m)) 24).2.2.2.2.1 k := (z1.2.1 k hk).2.2.2.2.1
          have kJ : ∀ v : Nat, v = (if 0 < (RSt (maskD D (nI m)) 24).2.2.2.2.1 k then wtN c m D.2.2.1.1 else 0) → mW G l d kX11_chanceOf 101 [(9, .int (nI e)), (7, .long (lN p)), (6, .int (nI m)), (4, .long (lN f)), (0, .ref 111), (1, .int (nI c)), (2, .int (nI k)), (3, .int w)] [.long (lN v), .long (lN f)] s2 (qLP (fun r s => r = chA D c k w ∧ rdR s D ∧ fW wScr σ s)) := by
            intro v hv
            refine m_ladd dX11_chanceOf_101 ?_
            refine mW.topL (w := lN (f + v)) (lN_add f v) ?_
            refine m_lstore (ls1 := [(4, _), (9, _), (7, _), (6, _), (0, _), (1, _), (2, _), (3, _)]) dX11_chanceOf_102 (by decide) rfl ?_
            refine m_iinc (v := nI (m + 1)) (ls1 := [(6, _), (4, _), (9, _), (7, _), (0, _), (1, _), (2, _), (3, _)]) dX11_chanceOf_104 3 rfl (nI_1 m) (by decide) rfl ?_
            refine m_goto dX11_chanceOf_107 10 (by decide) ?_
            refine mW.sub (ls1 := [(6, _), (4, _), (0, _), (1, _), (2, _), (3, _)]) [0, 1, 4, 5, 6, 7] rfl ?_
            refine ih (s2, f + v) ⟨?_, f2⟩
            show f + v = chN D c k (m + 1)
            rw [chN, ← hv, hf']
          refine m_lload dX11_chanceOf_84 3 rfl ?_
          refine m_aload_n dX11_chanceOf_86 4 rfl ?_
          refine m_getR 26 132 dX11_chanceOf_87 fl_X11_70_10 rfl (by decide) rfl (by first | assumption | rfl) ?_
          refine m_iload_n dX11_chanceOf_90 6 rfl ?_
          refine m_iald dX11_chanceOf_91 (by first | assumption | rfl) k rfl (by first | assumption | omega | decide) ?_
          refine mW.top hp3 ?_
          refine m_if_le dX11_chanceOf_92 100 (by decide) (fun h => ?_) (fun h => ?_)
          · refine m_lconst (v := 0) dX11_chanceOf_100 (by decide) ?_
            exact kJ 0 (by rw [if_neg (Int32.not_lt.mpr h)])
          · refine m_lload dX11_chanceOf_95 1 rfl ?_
            refine m_goto dX11_chanceOf_97 101 (by decide) ?_
            exact kJ p (by rw [if_pos (Int32.not_le.mp h), heD, hp])
      · rintro i p hi hp ihI
        refine m_iload dX11_chanceOf_27 0 rfl ?_
        refine m_aload_n dX11_chanceOf_29 4 rfl ?_
        refine m_getI 12 dX11_chanceOf_30 fl_X11_204_10 rfl (by decide) (by first | assumption | rfl) ?_
        refine mW.top q12' ?_
        refine m_icmp_ge dX11_chanceOf_33 67 (by decide) (fun h => ?_) (fun h => ?_)
        · exact absurd ((nle (by omega) (by omega)).mp h) (by omega)
        · clear h
          have kJ : ∀ v : Nat, v = (if bitI (nI m) (nI i) then 16 - c else c) → mW G l d kX11_chanceOf 58 [(9, .int (nI i)), (7, .long (lN p)), (6, .int (nI m)), (4, .long (lN f)), (0, .ref 111), (1, .int (nI c)), (2, .int (nI k)), (3, .int w)] [.long (lN v), .long (lN p)] s (qLP (fun r s => r = chA D c k w ∧ rdR s D ∧ fW wScr σ s)) := by
            intro v hv
            refine m_lmul dX11_chanceOf_58 ?_
            refine mW.topL (w := lN (p * v)) (lN_mul p v) ?_
            refine m_lstore (ls1 := [(7, _), (9, _), (6, _), (4, _), (0, _), (1, _), (2, _), (3, _)]) dX11_chanceOf_59 (by decide) rfl ?_
            refine m_iinc (v := nI (i + 1)) (ls1 := [(9, _), (7, _), (6, _), (4, _), (0, _), (1, _), (2, _), (3, _)]) dX11_chanceOf_61 1 rfl (nI_1 i) (by decide) rfl ?_
            refine m_goto dX11_chanceOf_64 27 (by decide) ?_
            refine ihI (p * v) ?_
            show p * v = wtN c m (i + 1)
            rw [wtN, ← hv, hp]
          refine m_lload dX11_chanceOf_36 1 rfl ?_
          refine m_iload dX11_chanceOf_38 2 rfl ?_
          refine m_iload dX11_chanceOf_40 0 rfl ?_
          refine m_callS (As := [_, _]) dX11_chanceOf_42 cs_X11_252 (by omega) rfl rfl (Nat.le_of_ble_eq_true rfl) (c_isIn (d := d - 1) (nI m) (nI i)) (fun v1 σ1 hv1 => ?_)
          refine m_qI hv1 ?_
          clear hv1 v1 σ1
          refine m_if_eq dX11_chanceOf_45 56 (by decide) (fun h => ?_) (fun h => ?_)
          · refine m_iload_n dX11_chanceOf_56 5 rfl ?_
            refine m_i2l dX11_chanceOf_57 ?_
            refine mW.topL (w := lN c) (nI_l (by omega)) ?_
            exact kJ c (by rw [if_neg (bI0 h)])
          · refine m_bipush (v := 16) dX11_chanceOf_48 (by decide) ?_
            refine m_iload_n dX11_chanceOf_50 5 rfl ?_
            refine m_isub dX11_chanceOf_51 ?_
            refine mW.top (w := nI (16 - c)) (pk_sub (a := 16) hc) ?_
            refine m_i2l dX11_chanceOf_52 ?_
            refine mW.topL (w := lN (16 - c)) (nI_l (by omega)) ?_
            refine m_goto dX11_chanceOf_53 58 (by decide) ?_
            exact kJ (16 - c) (by rw [if_pos (bI1 h)])
end CH


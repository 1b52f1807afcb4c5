/-! ===== the reference: the next moment to look ===== -/
section AK
variable {G : mG} {l : Launch} {d : Nat} {σ : mS}
def akP (D : Deb) (k z : Nat) (w : Nat → Nat → Int32) : Int32 := (asP (hvP D k z w 9) (fun v t => cellD (setJ D k 4 (nI v)) k t) 24).1
theorem c_askOf (hd : 9 ≤ d) (L0 L1 e : Nat) (ok : okR σ L0 L1 e) (z : Nat) (hs : okS σ z) (k : Nat) (hk : k < (Dt σ L0 L1 e).1.1) : mMet G l d kX11_askOf [.ref 111, .int (nI k)] σ (qIP (fun r s => r = akP (Dt σ L0 L1 e) k z (seF σ) ∧ rdR s (Dt σ L0 L1 e) ∧ fW wScr σ s)) := by
  refine mMet.of cm_X11_askOf rfl (Nat.le_of_ble_eq_true rfl) rfl (fun v1 σ1 h => by obtain ⟨r, h1, -⟩ := h; rw [h1]; rfl) ?_
  refine m_aload_n dX11_askOf_0 0 rfl ?_
  refine m_iload_n dX11_askOf_1 1 rfl ?_
  refine m_callV (As := [_]) dX11_askOf_2 cv_X11_347 (by first | assumption | rfl) (by decide) (by omega) rfl rfl (Nat.le_of_ble_eq_true rfl) (c_heavyBy (d := d - 1) (by omega) L0 L1 e ok z hs k hk) (fun v1 σ1 hv1 => ?_)
  refine m_qIP hv1 (fun r1 ha => ?_)
  clear hv1 v1
  rename mS => s0
  obtain ⟨rfl, hcl, hrd, fr⟩ := ha
  unfold akP
  obtain ⟨cl, hcE⟩ : ∃ cl : Nat → Nat → Int32, cl = fun v t => cellD (setJ (Dt σ L0 L1 e) k 4 (nI v)) k t := ⟨_, rfl⟩
  have hcl2 : ∀ v, 1 ≤ v → v ≤ 9 → ∀ t, t < 24 → s0.1 147 (24 * v + t) = cl v t := by rw [hcE]; exact hcl
  rw [← hcE]
  clear hcl hcE
  generalize hvP (Dt σ L0 L1 e) k z (seF σ) 9 = bits
  refine m_istore_n (ls1 := [(2, _), (0, _), (1, _)]) dX11_askOf_5 (by decide) rfl ?_
  refine m_iconst (v := -1) dX11_askOf_6 (by decide) ?_
  refine m_istore_n (ls1 := [(3, _), (2, _), (0, _), (1, _)]) dX11_askOf_7 (by decide) rfl ?_
  refine m_iconst (v := 0) dX11_askOf_8 (by decide) ?_
  refine m_istore (ls1 := [(4, _), (3, _), (2, _), (0, _), (1, _)]) dX11_askOf_9 (by decide) rfl ?_
  refine m_iconst (v := 0) dX11_askOf_11 (by decide) ?_
  refine m_istore (ls1 := [(5, _), (4, _), (3, _), (2, _), (0, _), (1, _)]) dX11_askOf_12 (by decide) rfl ?_
  refine down (N := 24) (fun t (q : Int32 × Nat) => q = asP bits cl t) (fun t q => mW G l d kX11_askOf 14 [(5, .int (nI t)), (4, .int (nI q.2)), (3, .int q.1), (2, .int bits), (0, .ref 111), (1, .int (nI k))] [] s0 _) ?_ ?_ 0 (-1, 0) (Nat.zero_le _) rfl
  · rintro ⟨be, le⟩ hq
    refine m_iload dX11_askOf_14 0 rfl ?_
    refine m_bipush (v := 24) dX11_askOf_16 (by decide) ?_
    refine m_icmp_ge dX11_askOf_18 183 (by decide) (fun h => ?_) (fun h => ?_)
    · refine m_iload_n dX11_askOf_183 2 rfl ?_
      refine m_ireturn dX11_askOf_184 ⟨_, rfl, congrArg Prod.fst hq, hrd, fr⟩
    · exact absurd (Int32.le_refl _) h
  · rintro t ⟨be, le⟩ ht hq ih
    have hq9 : le ≤ 9 := by have := asP_le bits cl t; rw [← hq] at this; exact this
    show mW G l d kX11_askOf 14 [(5, .int (nI t)), (4, .int (nI le)), (3, .int be), (2, .int bits), (0, .ref 111), (1, .int (nI k))] [] s0 _
    refine m_iload dX11_askOf_14 0 rfl ?_
    refine m_bipush (v := 24) dX11_askOf_16 (by decide) ?_
    refine m_icmp_ge dX11_askOf_18 183 (by decide) (fun h => ?_) (fun h => ?_)
    · exact absurd ((nle (a := 24) (by omega) (by omega)).mp h) (by omega)
    · clear h
      refine m_iconst (v := 0) dX11_askOf_21 (by decide) ?_
      refine m_istore (ls1 := [(6, _), (5, _), (4, _), (3, _), (2, _), (0, _), (1, _)]) dX11_askOf_22 (by decide) rfl ?_
      refine m_iconst (v := 1) dX11_askOf_24 (by decide) ?_
      refine m_istore (ls1 := [(7, _), (6, _), (5, _), (4, _), (3, _), (2, _), (0, _), (1, _)]) dX11_askOf_25 (by decide) rfl ?_
      refine down (N := 10) (fun a (m : Nat) => 1 ≤ a ∧ m = mxN bits cl t (a - 1)) (fun a m => mW G l d kX11_askOf 27 [(7, .int (nI a)), (6, .int (nI m)), (5, .int (nI t)), (4, .int (nI le)), (3, .int be), (2, .int bits), (0, .ref 111), (1, .int (nI k))] [] s0 _) ?_ ?_ 1 0 (by decide) ⟨Nat.le_refl _, rfl⟩
      · rintro m ⟨-, hm⟩
        have hm : m = mxN bits cl t 9 := hm
        have hm9 : m ≤ 9 := by rw [hm]; exact mxN_le _ _ _ _
        refine m_iload dX11_askOf_27 0 rfl ?_
        refine m_bipush (v := 10) dX11_askOf_29 (by decide) ?_
        refine m_icmp_ge dX11_askOf_31 132 (by decide) (fun h => ?_) (fun h => ?_)
        rotate_left
        · exact absurd (Int32.le_refl _) h
        clear h
        have kT : (be = -1 ∨ m < le) → mW G l d kX11_askOf 149 [(7, .int (nI 10)), (6, .int (nI m)), (5, .int (nI t)), (4, .int (nI le)), (3, .int be), (2, .int bits), (0, .ref 111), (1, .int (nI k))] [.int 1] s0 (qIP (fun r s => r = (asP bits cl 24).1 ∧ rdR s (Dt σ L0 L1 e) ∧ fW wScr σ s)) := by
          intro hp
          refine m_istore (ls1 := [(7, _), (6, _), (5, _), (4, _), (3, _), (2, _), (0, _), (1, _)]) dX11_askOf_149 (by decide) rfl ?_
          refine m_iload dX11_askOf_151 0 rfl ?_
          refine m_if_eq dX11_askOf_153 161 (by decide) (fun h => ?_) (fun h => ?_)
          · exact absurd h (by decide)
          · clear h
            refine m_iload dX11_askOf_156 2 rfl ?_
            refine m_goto dX11_askOf_158 162 (by decide) ?_
            refine m_istore_n (ls1 := [(3, _), (7, _), (6, _), (5, _), (4, _), (2, _), (0, _), (1, _)]) dX11_askOf_162 (by decide) rfl ?_
            refine m_iload dX11_askOf_163 1 rfl ?_
            refine m_if_eq dX11_askOf_165 173 (by decide) (fun h => ?_) (fun h => ?_)
            · exact absurd h (by decide)
            · clear h
              refine m_iload dX11_askOf_168 2 rfl ?_
              refine m_goto dX11_askOf_170 175 (by decide) ?_
              refine m_istore (ls1 := [(4, _), (3, _), (7, _), (6, _), (5, _), (2, _), (0, _), (1, _)]) dX11_askOf_175 (by decide) rfl ?_
              refine m_iinc (v := nI (t + 1)) (ls1 := [(5, _), (4, _), (3, _), (7, _), (6, _), (2, _), (0, _), (1, _)]) dX11_askOf_177 4 rfl (nI_1 t) (by decide) rfl ?_
              refine m_goto dX11_askOf_180 14 (by decide) ?_
              refine mW.sub (ls1 := [(5, _), (4, _), (3, _), (2, _), (0, _), (1, _)]) [0, 1, 2, 5, 6, 7] rfl ?_
              refine ih (nI t, m) ?_
              show (nI t, m) = asP bits cl (t + 1)
              rw [asP, ← hq, if_pos (by rw [← hm]; exact hp), hm]
        have kF : ¬ (be = -1 ∨ m < le) → mW G l d kX11_askOf 149 [(7, .int (nI 10)), (6, .int (nI m)), (5, .int (nI t)), (4, .int (nI le)), (3, .int be), (2, .int bits), (0, .ref 111), (1, .int (nI k))] [.int 0] s0 (qIP (fun r s => r = (asP bits cl 24).1 ∧ rdR s (Dt σ L0 L1 e) ∧ fW wScr σ s)) := by
          intro hp
          refine m_istore (ls1 := [(7, _), (6, _), (5, _), (4, _), (3, _), (2, _), (0, _), (1, _)]) dX11_askOf_149 (by decide) rfl ?_
          refine m_iload dX11_askOf_151 0 rfl ?_
          refine m_if_eq dX11_askOf_153 161 (by decide) (fun h => ?_) (fun h => ?_)
          rotate_left
          · exact absurd rfl h
          · clear h
            refine m_iload_n dX11_askOf_161 4 rfl ?_
            refine m_istore_n (ls1 := [(3, _), (7, _), (6, _), (5, _), (4, _), (2, _), (0, _), (1, _)]) dX11_askOf_162 (by decide) rfl ?_
            refine m_iload dX11_askOf_163 1 rfl ?_
            refine m_if_eq dX11_askOf_165 173 (by decide) (fun h => ?_) (fun h => ?_)
            rotate_left
            · exact absurd rfl h
            · clear h
              refine m_iload dX11_askOf_173 4 rfl ?_
              refine m_istore (ls1 := [(4, _), (3, _), (7, _), (6, _), (5, _), (2, _), (0, _), (1, _)]) dX11_askOf_175 (by decide) rfl ?_
              refine m_iinc (v := nI (t + 1)) (ls1 := [(5, _), (4, _), (3, _), (7, _), (6, _), (2, _), (0, _), (1, _)]) dX11_askOf_177 4 rfl (nI_1 t) (by decide) rfl ?_
              refine m_goto dX11_askOf_180 14 (by decide) ?_
              refine mW.sub (ls1 := [(5, _), (4, _), (3, _), (2, _), (0, _), (1, _)]) [0, 1, 2, 5, 6, 7] rfl ?_
              refine ih (be, le) ?_
              show (be, le) = asP bits cl (t + 1)
              rw [asP, ← hq, if_neg (by rw [← hm]; exact hp)]
        refine m_iload_n dX11_askOf_132 4 rfl ?_
        refine m_iconst (v := -1) dX11_askOf_133 (by decide) ?_
        refine m_icmp_eq dX11_askOf_134 144 (by decide) (fun h => ?_) (fun h => ?_)
        · refine m_iconst (v := 1) dX11_askOf_144 (by decide) ?_
          refine m_goto dX11_askOf_145 149 (by decide) ?_
          exact kT (Or.inl h)
        · refine m_iload dX11_askOf_137 1 rfl ?_
          refine m_iload dX11_askOf_139 3 rfl ?_
          refine m_icmp_ge dX11_askOf_141 148 (by decide) (fun h2 => ?_) (fun h2 => ?_)
          · refine m_iconst (v := 0) dX11_askOf_148 (by decide) ?_
            exact kF (fun q => q.elim h (fun q => absurd ((nle (by omega) (by omega)).mp h2) (by omega)))
          · refine m_iconst (v := 1) dX11_askOf_144 (by decide) ?_
            refine m_goto dX11_askOf_145 149 (by decide) ?_
            refine kT (Or.inr ?_)
            exact Nat.lt_of_not_le (fun q => h2 ((nle (by omega) (by omega)).mpr q))
      · rintro a m ha ⟨ha1, hm⟩ ihA
        have hm9 : m ≤ 9 := by rw [hm]; exact mxN_le _ _ _ _
        refine m_iload dX11_askOf_27 0 rfl ?_
        refine m_bipush (v := 10) dX11_askOf_29 (by decide) ?_
        refine m_icmp_ge dX11_askOf_31 132 (by decide) (fun h => ?_) (fun h => ?_)
        · exact absurd ((nle (a := 10) (by omega) (by omega)).mp h) (by omega)
        · clear h
          refine m_iconst (v := 0) dX11_askOf_34 (by decide) ?_
          refine m_istore (ls1 := [(8, _), (7, _), (6, _), (5, _), (4, _), (3, _), (2, _), (0, _), (1, _)]) dX11_askOf_35 (by decide) rfl ?_
          refine m_iconst (v := 1) dX11_askOf_37 (by decide) ?_
          refine m_istore (ls1 := [(9, _), (8, _), (7, _), (6, _), (5, _), (4, _), (3, _), (2, _), (0, _), (1, _)]) dX11_askOf_38 (by decide) rfl ?_
          refine down (N := 10) (fun b (n : Nat) => 1 ≤ b ∧ n = alN bits cl t a (b - 1)) (fun b n => mW G l d kX11_askOf 40 [(9, .int (nI b)), (8, .int (nI n)), (7, .int (nI a)), (6, .int (nI m)), (5, .int (nI t)), (4, .int (nI le)), (3, .int be), (2, .int bits), (0, .ref 111), (1, .int (nI k))] [] s0 _) ?_ ?_ 1 0 (by decide) ⟨Nat.le_refl _, rfl⟩
          · rintro n ⟨-, hn⟩
            have hn : n = alN bits cl t a 9 := hn
            have hn9 : n ≤ 9 := by rw [hn]; exact alN_le _ _ _ _ _
            refine m_iload dX11_askOf_40 0 rfl ?_
            refine m_bipush (v := 10) dX11_askOf_42 (by decide) ?_
            refine m_icmp_ge dX11_askOf_44 110 (by decide) (fun h => ?_) (fun h => ?_)
            · clear h
              refine m_iload dX11_askOf_110 1 rfl ?_
              refine m_iload dX11_askOf_112 3 rfl ?_
              refine m_sel (pcJ := 124) ?_ (fun kt0 kf0 => m_icmp_le dX11_askOf_114 122 (by decide) (fun h => (m_iload dX11_askOf_122 3 rfl (kt0 h))) (fun h => (m_iload dX11_askOf_117 1 rfl (m_goto dX11_askOf_119 124 (by decide) (kf0 h)))))
              refine mW.top (w := nI (mxN bits cl t a)) ?_ ?_
              · obtain ⟨u, rfl⟩ : ∃ u, a = u + 1 := ⟨a - 1, by omega⟩
                have hm : m = mxN bits cl t u := hm
                rw [mxN, ← hm, ← hn]
                by_cases hq3 : n ≤ m
                · rw [if_pos hq3, if_pos ((nle (by omega) (by omega)).mpr hq3)]
                · rw [if_neg hq3, if_neg (fun q => hq3 ((nle (by omega) (by omega)).mp q))]
              · refine m_istore (ls1 := [(6, _), (9, _), (8, _), (7, _), (5, _), (4, _), (3, _), (2, _), (0, _), (1, _)]) dX11_askOf_124 (by decide) rfl ?_
                refine m_iinc (v := nI (a + 1)) (ls1 := [(7, _), (6, _), (9, _), (8, _), (5, _), (4, _), (3, _), (2, _), (0, _), (1, _)]) dX11_askOf_126 3 rfl (nI_1 a) (by decide) rfl ?_
                refine m_goto dX11_askOf_129 27 (by decide) ?_
                refine mW.sub (ls1 := [(7, _), (6, _), (5, _), (4, _), (3, _), (2, _), (0, _), (1, _)]) [0, 1, 4, 5, 6, 7, 8, 9] rfl ?_
                exact ihA _ ⟨by omega, rfl⟩
            · exact absurd (Int32.le_refl _) h
          · rintro b n hb ⟨hb1, hn⟩ ihB
            have hn9 : n ≤ 9 := by rw [hn]; exact Nat.le_trans (alN_le _ _ _ _ _) (by omega)
            obtain ⟨c, rfl⟩ : ∃ c, b = c + 1 := ⟨b - 1, by omega⟩
            have hn : n = alN bits cl t a c := hn
            refine m_iload dX11_askOf_40 0 rfl ?_
            refine m_bipush (v := 10) dX11_askOf_42 (by decide) ?_
            refine m_icmp_ge dX11_askOf_44 110 (by decide) (fun h => ?_) (fun h => ?_)
            · exact absurd ((nle (a := 10) (by omega) (by omega)).mp h) (by omega)
            · clear h
              have kJ : ∀ v : Int32, v = nI (if bitI bits (nI a) ∧ bitI bits (nI (c + 1)) ∧ cl a t = cl (c + 1) t then 1 else 0) → mW G l d kX11_askOf 101 [(9, .int (nI (c + 1))), (8, .int (nI n)), (7, .int (nI a)), (6, .int (nI m)), (5, .int (nI t)), (4, .int (nI le)), (3, .int be), (2, .int bits), (0, .ref 111), (1, .int (nI k))] [.int v, .int (nI n)] s0 (qIP (fun r s => r = (asP bits cl 24).1 ∧ rdR s (Dt σ L0 L1 e) ∧ fW wScr σ s)) := by
                intro v hv
                refine m_iadd dX11_askOf_101 ?_
                refine mW.top (w := nI (alN bits cl t a (c + 1))) (by rw [alN, ← hn, hv, nI_add]) ?_
                refine m_istore (ls1 := [(8, _), (9, _), (7, _), (6, _), (5, _), (4, _), (3, _), (2, _), (0, _), (1, _)]) dX11_askOf_102 (by decide) rfl ?_
                refine m_iinc (v := nI (c + 1 + 1)) (ls1 := [(9, _), (8, _), (7, _), (6, _), (5, _), (4, _), (3, _), (2, _), (0, _), (1, _)]) dX11_askOf_104 1 rfl (nI_1 (c + 1)) (by decide) rfl ?_
                refine m_goto dX11_askOf_107 40 (by decide) ?_
                exact ihB _ ⟨by omega, rfl⟩
              refine m_iload dX11_askOf_47 1 rfl ?_
              refine m_iload_n dX11_askOf_49 7 rfl ?_
              refine m_iload dX11_askOf_50 2 rfl ?_
              refine m_callS (As := [_, _]) dX11_askOf_52 cs_X11_252 (by omega) rfl rfl (Nat.le_of_ble_eq_true rfl) (c_isIn (d := d - 1) bits (nI a)) (fun v1 σ1 hv1 => ?_)
              refine m_qI hv1 ?_
              clear hv1 v1 σ1
              refine m_if_eq dX11_askOf_55 100 (by decide) (fun h1 => ?_) (fun h1 => ?_)
              · refine m_iconst (v := 0) dX11_askOf_100 (by decide) ?_
                exact kJ _ (by rw [if_neg (fun q => bI0 h1 q.1)]; rfl)
              · refine m_iload_n dX11_askOf_58 7 rfl ?_
                refine m_iload dX11_askOf_59 0 rfl ?_
                refine m_callS (As := [_, _]) dX11_askOf_61 cs_X11_252 (by omega) rfl rfl (Nat.le_of_ble_eq_true rfl) (c_isIn (d := d - 1) bits (nI (c + 1))) (fun v1 σ1 hv1 => ?_)
                refine m_qI hv1 ?_
                clear hv1 v1 σ1
                refine m_if_eq dX11_askOf_64 100 (by decide) (fun h2 => ?_) (fun h2 => ?_)
                · refine m_iconst (v := 0) dX11_askOf_100 (by decide) ?_
                  exact kJ _ (by rw [if_neg (fun q => bI0 h2 q.2.1)]; rfl)
                · refine m_aload_n dX11_askOf_67 8 rfl ?_
                  refine m_getR 46 147 dX11_askOf_68 fl_X11_115_10 rfl (by decide) rfl (by first | assumption | rfl) ?_
                  refine m_bipush (v := 24) dX11_askOf_71 (by decide) ?_
                  refine m_iload dX11_askOf_73 2 rfl ?_
                  refine m_imul dX11_askOf_75 ?_
                  refine m_iload dX11_askOf_76 4 rfl ?_
                  refine m_iadd dX11_askOf_78 ?_
                  refine mW.top (w := nI (24 * a + t)) (ix24 a t) ?_
                  refine m_iald dX11_askOf_79 (by first | assumption | rfl) (24 * a + t) rfl (by first | assumption | omega | decide) ?_
                  refine mW.top (hcl2 a (by omega) (by omega) t ht) ?_
                  refine m_aload_n dX11_askOf_80 8 rfl ?_
                  refine m_getR 46 147 dX11_askOf_81 fl_X11_115_10 rfl (by decide) rfl (by first | assumption | rfl) ?_
                  refine m_bipush (v := 24) dX11_askOf_84 (by decide) ?_
                  refine m_iload dX11_askOf_86 0 rfl ?_
                  refine m_imul dX11_askOf_88 ?_
                  refine m_iload dX11_askOf_89 4 rfl ?_
                  refine m_iadd dX11_askOf_91 ?_
                  refine mW.top (w := nI (24 * (c + 1) + t)) (ix24 (c + 1) t) ?_
                  refine m_iald dX11_askOf_92 (by first | assumption | rfl) (24 * (c + 1) + t) rfl (by first | assumption | omega | decide) ?_
                  refine mW.top (hcl2 (c + 1) (by omega) (by omega) t ht) ?_
                  refine m_icmp_ne dX11_askOf_93 100 (by decide) (fun h3 => ?_) (fun h3 => ?_)
                  · refine m_iconst (v := 0) dX11_askOf_100 (by decide) ?_
                    exact kJ _ (by rw [if_neg (fun q => h3 q.2.2)]; rfl)
                  · refine m_iconst (v := 1) dX11_askOf_96 (by decide) ?_
                    refine m_goto dX11_askOf_97 101 (by decide) ?_
                    exact kJ _ (by rw [if_pos (And.intro (bI1 h1) (And.intro (bI1 h2) h3))]; rfl)
end AK


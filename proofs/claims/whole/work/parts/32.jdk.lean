/-! ===== the class: texts of the JDK, small things ===== -/
/-- the first place from k on, of f places, that holds v -/
def ixP (L : List Int32) (v : Int32) : Nat → Nat → Int32
  | 0, _ => -1
  | f + 1, k => if L.getD k 0 = v then nI k else ixP L v f (k + 1)
section JD
variable {G : mG} {l : Launch} {d : Nat} {σ : mS}
theorem dJ1_canEncode_9a6ad_0 : decode cJ1_canEncode_9a6ad 0 = .ok (.iload_n 0, 1) := by decide +kernel
theorem dJ1_canEncode_9a6ad_1 : decode cJ1_canEncode_9a6ad 1 = .ok (.ifCond .lt 14, 3) := by decide +kernel
theorem dJ1_canEncode_9a6ad_4 : decode cJ1_canEncode_9a6ad 4 = .ok (.iload_n 0, 1) := by decide +kernel
theorem dJ1_canEncode_9a6ad_5 : decode cJ1_canEncode_9a6ad 5 = .ok (.sipush 255, 3) := by decide +kernel
theorem dJ1_canEncode_9a6ad_8 : decode cJ1_canEncode_9a6ad 8 = .ok (.if_icmp .gt 7, 3) := by decide +kernel
theorem dJ1_canEncode_9a6ad_11 : decode cJ1_canEncode_9a6ad 11 = .ok (.iconst 1, 1) := by decide +kernel
theorem dJ1_canEncode_9a6ad_12 : decode cJ1_canEncode_9a6ad 12 = .ok (.goto 4, 3) := by decide +kernel
theorem dJ1_canEncode_9a6ad_15 : decode cJ1_canEncode_9a6ad 15 = .ok (.iconst 0, 1) := by decide +kernel
theorem dJ1_canEncode_9a6ad_16 : decode cJ1_canEncode_9a6ad 16 = .ok (.ireturn, 1) := by decide +kernel
theorem dJ0_isLatin1_aae02_0 : decode cJ0_isLatin1_aae02 0 = .ok (.getstatic 38, 3) := by decide +kernel
theorem dJ0_isLatin1_aae02_3 : decode cJ0_isLatin1_aae02 3 = .ok (.ifCond .eq 14, 3) := by decide +kernel
theorem dJ0_isLatin1_aae02_6 : decode cJ0_isLatin1_aae02 6 = .ok (.aload_n 0, 1) := by decide +kernel
theorem dJ0_isLatin1_aae02_7 : decode cJ0_isLatin1_aae02 7 = .ok (.getfield 15, 3) := by decide +kernel
theorem dJ0_isLatin1_aae02_10 : decode cJ0_isLatin1_aae02 10 = .ok (.ifCond .ne 7, 3) := by decide +kernel
theorem dJ0_isLatin1_aae02_13 : decode cJ0_isLatin1_aae02 13 = .ok (.iconst 1, 1) := by decide +kernel
theorem dJ0_isLatin1_aae02_14 : decode cJ0_isLatin1_aae02 14 = .ok (.goto 4, 3) := by decide +kernel
theorem dJ0_isLatin1_aae02_17 : decode cJ0_isLatin1_aae02 17 = .ok (.iconst 0, 1) := by decide +kernel
theorem dJ0_isLatin1_aae02_18 : decode cJ0_isLatin1_aae02 18 = .ok (.ireturn, 1) := by decide +kernel
theorem dJ0_coder_7d493_0 : decode cJ0_coder_7d493 0 = .ok (.getstatic 38, 3) := by decide +kernel
theorem dJ0_coder_7d493_3 : decode cJ0_coder_7d493 3 = .ok (.ifCond .eq 10, 3) := by decide +kernel
theorem dJ0_coder_7d493_6 : decode cJ0_coder_7d493 6 = .ok (.aload_n 0, 1) := by decide +kernel
theorem dJ0_coder_7d493_7 : decode cJ0_coder_7d493 7 = .ok (.getfield 15, 3) := by decide +kernel
theorem dJ0_coder_7d493_10 : decode cJ0_coder_7d493 10 = .ok (.goto 4, 3) := by decide +kernel
theorem dJ0_coder_7d493_13 : decode cJ0_coder_7d493 13 = .ok (.iconst 1, 1) := by decide +kernel
theorem dJ0_coder_7d493_14 : decode cJ0_coder_7d493 14 = .ok (.ireturn, 1) := by decide +kernel
theorem dJ0_length_8abf5_0 : decode cJ0_length_8abf5 0 = .ok (.aload_n 0, 1) := by decide +kernel
theorem dJ0_length_8abf5_1 : decode cJ0_length_8abf5 1 = .ok (.getfield 9, 3) := by decide +kernel
theorem dJ0_length_8abf5_4 : decode cJ0_length_8abf5 4 = .ok (.arraylength, 1) := by decide +kernel
theorem dJ0_length_8abf5_5 : decode cJ0_length_8abf5 5 = .ok (.aload_n 0, 1) := by decide +kernel
theorem dJ0_length_8abf5_6 : decode cJ0_length_8abf5 6 = .ok (.invokevirtual 335, 3) := by decide +kernel
theorem dJ0_length_8abf5_9 : decode cJ0_length_8abf5 9 = .ok (.ishr, 1) := by decide +kernel
theorem dJ0_length_8abf5_10 : decode cJ0_length_8abf5 10 = .ok (.ireturn, 1) := by decide +kernel
theorem dJ1_indexOfChar_4cfef_0 : decode cJ1_indexOfChar_4cfef 0 = .ok (.iload_n 1, 1) := by decide +kernel
theorem dJ1_indexOfChar_4cfef_1 : decode cJ1_indexOfChar_4cfef 1 = .ok (.i2b, 1) := by decide +kernel
theorem dJ1_indexOfChar_4cfef_2 : decode cJ1_indexOfChar_4cfef 2 = .ok (.istore 4, 2) := by decide +kernel
theorem dJ1_indexOfChar_4cfef_4 : decode cJ1_indexOfChar_4cfef 4 = .ok (.iload_n 2, 1) := by decide +kernel
theorem dJ1_indexOfChar_4cfef_5 : decode cJ1_indexOfChar_4cfef 5 = .ok (.istore 5, 2) := by decide +kernel
theorem dJ1_indexOfChar_4cfef_7 : decode cJ1_indexOfChar_4cfef 7 = .ok (.iload 5, 2) := by decide +kernel
theorem dJ1_indexOfChar_4cfef_9 : decode cJ1_indexOfChar_4cfef 9 = .ok (.iload_n 3, 1) := by decide +kernel
theorem dJ1_indexOfChar_4cfef_10 : decode cJ1_indexOfChar_4cfef 10 = .ok (.if_icmp .ge 21, 3) := by decide +kernel
theorem dJ1_indexOfChar_4cfef_13 : decode cJ1_indexOfChar_4cfef 13 = .ok (.aload_n 0, 1) := by decide +kernel
theorem dJ1_indexOfChar_4cfef_14 : decode cJ1_indexOfChar_4cfef 14 = .ok (.iload 5, 2) := by decide +kernel
theorem dJ1_indexOfChar_4cfef_16 : decode cJ1_indexOfChar_4cfef 16 = .ok (.baload, 1) := by decide +kernel
theorem dJ1_indexOfChar_4cfef_17 : decode cJ1_indexOfChar_4cfef 17 = .ok (.iload 4, 2) := by decide +kernel
theorem dJ1_indexOfChar_4cfef_19 : decode cJ1_indexOfChar_4cfef 19 = .ok (.if_icmp .ne 6, 3) := by decide +kernel
theorem dJ1_indexOfChar_4cfef_22 : decode cJ1_indexOfChar_4cfef 22 = .ok (.iload 5, 2) := by decide +kernel
theorem dJ1_indexOfChar_4cfef_24 : decode cJ1_indexOfChar_4cfef 24 = .ok (.ireturn, 1) := by decide +kernel
theorem dJ1_indexOfChar_4cfef_25 : decode cJ1_indexOfChar_4cfef 25 = .ok (.iinc 5 1, 3) := by decide +kernel
theorem dJ1_indexOfChar_4cfef_28 : decode cJ1_indexOfChar_4cfef 28 = .ok (.goto (-21), 3) := by decide +kernel
theorem dJ1_indexOfChar_4cfef_31 : decode cJ1_indexOfChar_4cfef 31 = .ok (.iconst (-1), 1) := by decide +kernel
theorem dJ1_indexOfChar_4cfef_32 : decode cJ1_indexOfChar_4cfef 32 = .ok (.ireturn, 1) := by decide +kernel
theorem dJ1_indexOf_4cfef_0 : decode cJ1_indexOf_4cfef 0 = .ok (.iload_n 1, 1) := by decide +kernel
theorem dJ1_indexOf_4cfef_1 : decode cJ1_indexOf_4cfef 1 = .ok (.invokestatic 88, 3) := by decide +kernel
theorem dJ1_indexOf_4cfef_4 : decode cJ1_indexOf_4cfef 4 = .ok (.ifCond .ne 5, 3) := by decide +kernel
theorem dJ1_indexOf_4cfef_7 : decode cJ1_indexOf_4cfef 7 = .ok (.iconst (-1), 1) := by decide +kernel
theorem dJ1_indexOf_4cfef_8 : decode cJ1_indexOf_4cfef 8 = .ok (.ireturn, 1) := by decide +kernel
theorem dJ1_indexOf_4cfef_9 : decode cJ1_indexOf_4cfef 9 = .ok (.iload_n 2, 1) := by decide +kernel
theorem dJ1_indexOf_4cfef_10 : decode cJ1_indexOf_4cfef 10 = .ok (.iconst 0, 1) := by decide +kernel
theorem dJ1_indexOf_4cfef_11 : decode cJ1_indexOf_4cfef 11 = .ok (.invokestatic 92, 3) := by decide +kernel
theorem dJ1_indexOf_4cfef_14 : decode cJ1_indexOf_4cfef 14 = .ok (.istore_n 2, 1) := by decide +kernel
theorem dJ1_indexOf_4cfef_15 : decode cJ1_indexOf_4cfef 15 = .ok (.iload_n 3, 1) := by decide +kernel
theorem dJ1_indexOf_4cfef_16 : decode cJ1_indexOf_4cfef 16 = .ok (.aload_n 0, 1) := by decide +kernel
theorem dJ1_indexOf_4cfef_17 : decode cJ1_indexOf_4cfef 17 = .ok (.arraylength, 1) := by decide +kernel
theorem dJ1_indexOf_4cfef_18 : decode cJ1_indexOf_4cfef 18 = .ok (.invokestatic 38, 3) := by decide +kernel
theorem dJ1_indexOf_4cfef_21 : decode cJ1_indexOf_4cfef 21 = .ok (.istore_n 3, 1) := by decide +kernel
theorem dJ1_indexOf_4cfef_22 : decode cJ1_indexOf_4cfef 22 = .ok (.iload_n 2, 1) := by decide +kernel
theorem dJ1_indexOf_4cfef_23 : decode cJ1_indexOf_4cfef 23 = .ok (.iload_n 3, 1) := by decide +kernel
theorem dJ1_indexOf_4cfef_24 : decode cJ1_indexOf_4cfef 24 = .ok (.if_icmp .lt 5, 3) := by decide +kernel
theorem dJ1_indexOf_4cfef_27 : decode cJ1_indexOf_4cfef 27 = .ok (.iconst (-1), 1) := by decide +kernel
theorem dJ1_indexOf_4cfef_28 : decode cJ1_indexOf_4cfef 28 = .ok (.ireturn, 1) := by decide +kernel
theorem dJ1_indexOf_4cfef_29 : decode cJ1_indexOf_4cfef 29 = .ok (.aload_n 0, 1) := by decide +kernel
theorem dJ1_indexOf_4cfef_30 : decode cJ1_indexOf_4cfef 30 = .ok (.iload_n 1, 1) := by decide +kernel
theorem dJ1_indexOf_4cfef_31 : decode cJ1_indexOf_4cfef 31 = .ok (.iload_n 2, 1) := by decide +kernel
theorem dJ1_indexOf_4cfef_32 : decode cJ1_indexOf_4cfef 32 = .ok (.iload_n 3, 1) := by decide +kernel
theorem dJ1_indexOf_4cfef_33 : decode cJ1_indexOf_4cfef 33 = .ok (.invokestatic 95, 3) := by decide +kernel
theorem dJ1_indexOf_4cfef_36 : decode cJ1_indexOf_4cfef 36 = .ok (.ireturn, 1) := by decide +kernel
theorem dJ0_indexOf_7cf53_0 : decode cJ0_indexOf_7cf53 0 = .ok (.aload_n 0, 1) := by decide +kernel
theorem dJ0_indexOf_7cf53_1 : decode cJ0_indexOf_7cf53 1 = .ok (.invokevirtual 492, 3) := by decide +kernel
theorem dJ0_indexOf_7cf53_4 : decode cJ0_indexOf_7cf53 4 = .ok (.ifCond .eq 19, 3) := by decide +kernel
theorem dJ0_indexOf_7cf53_7 : decode cJ0_indexOf_7cf53 7 = .ok (.aload_n 0, 1) := by decide +kernel
theorem dJ0_indexOf_7cf53_8 : decode cJ0_indexOf_7cf53 8 = .ok (.getfield 9, 3) := by decide +kernel
theorem dJ0_indexOf_7cf53_11 : decode cJ0_indexOf_7cf53 11 = .ok (.iload_n 1, 1) := by decide +kernel
theorem dJ0_indexOf_7cf53_12 : decode cJ0_indexOf_7cf53 12 = .ok (.iload_n 2, 1) := by decide +kernel
theorem dJ0_indexOf_7cf53_13 : decode cJ0_indexOf_7cf53 13 = .ok (.aload_n 0, 1) := by decide +kernel
theorem dJ0_indexOf_7cf53_14 : decode cJ0_indexOf_7cf53 14 = .ok (.invokevirtual 505, 3) := by decide +kernel
theorem dJ0_indexOf_7cf53_17 : decode cJ0_indexOf_7cf53 17 = .ok (.invokestatic 637, 3) := by decide +kernel
theorem dJ0_indexOf_7cf53_20 : decode cJ0_indexOf_7cf53 20 = .ok (.goto 16, 3) := by decide +kernel
theorem dJ0_indexOf_7cf53_23 : decode cJ0_indexOf_7cf53 23 = .ok (.aload_n 0, 1) := by decide +kernel
theorem dJ0_indexOf_7cf53_24 : decode cJ0_indexOf_7cf53 24 = .ok (.getfield 9, 3) := by decide +kernel
theorem dJ0_indexOf_7cf53_27 : decode cJ0_indexOf_7cf53 27 = .ok (.iload_n 1, 1) := by decide +kernel
theorem dJ0_indexOf_7cf53_28 : decode cJ0_indexOf_7cf53 28 = .ok (.iload_n 2, 1) := by decide +kernel
theorem dJ0_indexOf_7cf53_29 : decode cJ0_indexOf_7cf53 29 = .ok (.aload_n 0, 1) := by decide +kernel
theorem dJ0_indexOf_7cf53_30 : decode cJ0_indexOf_7cf53 30 = .ok (.invokevirtual 505, 3) := by decide +kernel
theorem dJ0_indexOf_7cf53_33 : decode cJ0_indexOf_7cf53 33 = .ok (.invokestatic 640, 3) := by decide +kernel
theorem dJ0_indexOf_7cf53_36 : decode cJ0_indexOf_7cf53 36 = .ok (.ireturn, 1) := by decide +kernel
theorem dJ0_indexOf_0f7a4_0 : decode cJ0_indexOf_0f7a4 0 = .ok (.aload_n 0, 1) := by decide +kernel
theorem dJ0_indexOf_0f7a4_1 : decode cJ0_indexOf_0f7a4 1 = .ok (.iload_n 1, 1) := by decide +kernel
theorem dJ0_indexOf_0f7a4_2 : decode cJ0_indexOf_0f7a4 2 = .ok (.iconst 0, 1) := by decide +kernel
theorem dJ0_indexOf_0f7a4_3 : decode cJ0_indexOf_0f7a4 3 = .ok (.invokevirtual 633, 3) := by decide +kernel
theorem dJ0_indexOf_0f7a4_6 : decode cJ0_indexOf_0f7a4 6 = .ok (.ireturn, 1) := by decide +kernel
theorem dJ7_fill_53178_0 : decode cJ7_fill_53178 0 = .ok (.iconst 0, 1) := by decide +kernel
theorem dJ7_fill_53178_1 : decode cJ7_fill_53178 1 = .ok (.istore_n 2, 1) := by decide +kernel
theorem dJ7_fill_53178_2 : decode cJ7_fill_53178 2 = .ok (.aload_n 0, 1) := by decide +kernel
theorem dJ7_fill_53178_3 : decode cJ7_fill_53178 3 = .ok (.arraylength, 1) := by decide +kernel
theorem dJ7_fill_53178_4 : decode cJ7_fill_53178 4 = .ok (.istore_n 3, 1) := by decide +kernel
theorem dJ7_fill_53178_5 : decode cJ7_fill_53178 5 = .ok (.iload_n 2, 1) := by decide +kernel
theorem dJ7_fill_53178_6 : decode cJ7_fill_53178 6 = .ok (.iload_n 3, 1) := by decide +kernel
theorem dJ7_fill_53178_7 : decode cJ7_fill_53178 7 = .ok (.if_icmp .ge 13, 3) := by decide +kernel
theorem dJ7_fill_53178_10 : decode cJ7_fill_53178 10 = .ok (.aload_n 0, 1) := by decide +kernel
theorem dJ7_fill_53178_11 : decode cJ7_fill_53178 11 = .ok (.iload_n 2, 1) := by decide +kernel
theorem dJ7_fill_53178_12 : decode cJ7_fill_53178 12 = .ok (.iload_n 1, 1) := by decide +kernel
theorem dJ7_fill_53178_13 : decode cJ7_fill_53178 13 = .ok (.iastore, 1) := by decide +kernel
theorem dJ7_fill_53178_14 : decode cJ7_fill_53178 14 = .ok (.iinc 2 1, 3) := by decide +kernel
theorem dJ7_fill_53178_17 : decode cJ7_fill_53178 17 = .ok (.goto (-12), 3) := by decide +kernel
theorem dJ7_fill_53178_20 : decode cJ7_fill_53178 20 = .ok (.return_, 1) := by decide +kernel
theorem codeMax : cJ9_max_7cf53 = Lib.Math.max.code := by decide +kernel
theorem codeMin : cJ9_min_7cf53 = Lib.Math.min.code := by decide +kernel
theorem nameMax : yJ9_max_7cf53 = Lib.Math.max.name := by decide +kernel
theorem nameMin : yJ9_min_7cf53 = Lib.Math.min.name := by decide +kernel
variable {μ : mM} {pc : Nat} {ls : List (Nat × Value)} {st : List Value} {Q : Option Value → mS → Prop} in
theorem m_mmax {index : Nat} {x y : Int32} (hd : decode μ.2.1 pc = .ok (.invokestatic index, 3)) (hC : mCS μ.1.cls index 2 kJ9_max_7cf53) (hn : Cond.methodLink μ.1.cls index yJ9_max_7cf53 ∈ mtbl) (hd0 : 0 < d) (hw : (st.map fun v => v.category).sum ≤ 8) (k : mW G l d μ (pc + 3) ls (.int (if x < y then y else x) :: st) σ Q) : mW G l d μ pc ls (.int y :: .int x :: st) σ Q := by
  obtain ⟨c1, c2, c3, c5, c6, c7⟩ := hC
  rw [nameMax] at hn
  have c1 : Cond.code Lib.Math.max.name Lib.Math.max.code 2 (some .int) ∈ mtbl := by rw [← codeMax, ← nameMax]; exact c1
  have c3 : Cond.static Lib.Math.max.name ∈ mtbl := by rw [← nameMax]; exact c3
  intro p e s m args below meth c H locs cells slots lsr Z R hR hF hP hS hl hQ
  have hts := hF.2.2.2.2.2.1
  exact va_mmax hF.1 hF.2.1 (hF.2.2.1.trans hl.1.symm) hF.2.2.2.2.1 (hts _ hn) (hts _ c3) (hts _ c5) (hts _ c1) (by omega) (by rw [mv_cats]; omega) hR.2.2.1 hR.2.2.2 hd (k p e s m args below meth c H locs cells slots lsr Z R hR hF hP hS hl hQ)
variable {μ : mM} {pc : Nat} {ls : List (Nat × Value)} {st : List Value} {Q : Option Value → mS → Prop} in
theorem m_mmin {index : Nat} {x y : Int32} (hd : decode μ.2.1 pc = .ok (.invokestatic index, 3)) (hC : mCS μ.1.cls index 2 kJ9_min_7cf53) (hn : Cond.methodLink μ.1.cls index yJ9_min_7cf53 ∈ mtbl) (hd0 : 0 < d) (hw : (st.map fun v => v.category).sum ≤ 8) (k : mW G l d μ (pc + 3) ls (.int (if y < x then y else x) :: st) σ Q) : mW G l d μ pc ls (.int y :: .int x :: st) σ Q := by
  obtain ⟨c1, c2, c3, c5, c6, c7⟩ := hC
  rw [nameMin] at hn
  have c1 : Cond.code Lib.Math.min.name Lib.Math.min.code 2 (some .int) ∈ mtbl := by rw [← codeMin, ← nameMin]; exact c1
  have c3 : Cond.static Lib.Math.min.name ∈ mtbl := by rw [← nameMin]; exact c3
  intro p e s m args below meth c H locs cells slots lsr Z R hR hF hP hS hl hQ
  have hts := hF.2.2.2.2.2.1
  exact va_mmin hF.1 hF.2.1 (hF.2.2.1.trans hl.1.symm) hF.2.2.2.2.1 (hts _ hn) (hts _ c3) (hts _ c5) (hts _ c1) (by omega) (by rw [mv_cats]; omega) hR.2.2.1 hR.2.2.2 hd (k p e s m args below meth c H locs cells slots lsr Z R hR hF hP hS hl hQ)
theorem lkNo {w : Cond} (h : w ∈ mtbl ∨ w ∈ mnest) (hno : w ∉ mnest) : w ∈ mtbl := h.resolve_right hno
theorem ml_J1_92 : Cond.methodLink "java/lang/StringLatin1" 92 yJ9_max_7cf53 ∈ mtbl := cs_J1_92.2.1.elim id (fun q => absurd q (by simp [mnest]))
theorem ml_J1_38 : Cond.methodLink "java/lang/StringLatin1" 38 yJ9_min_7cf53 ∈ mtbl := cs_J1_38.2.1.elim id (fun q => absurd q (by simp [mnest]))
theorem ml_X9_117 : Cond.methodLink "DodgemDebate$Trials" 117 yJ9_max_7cf53 ∈ mtbl := cs_X9_117.2.1.elim id (fun q => absurd q (by simp [mnest]))
theorem ml_X10_255 : Cond.methodLink "DodgemDebate" 255 yJ9_min_7cf53 ∈ mtbl := cs_X10_255.2.1.elim id (fun q => absurd q (by simp [mnest]))
theorem c_canEncode (v : Int32) (h : 0 ≤ v ∧ v ≤ 255) : mMet G l d kJ1_canEncode_9a6ad [.int v] σ (qI 1 σ) := by
  refine mMet.of cm_J1_canEncode_9a6ad rfl (Nat.le_of_ble_eq_true rfl) rfl (fun v1 σ1 h => by rw [h.1]; rfl) ?_
  refine m_iload_n dJ1_canEncode_9a6ad_0 0 rfl ?_
  refine m_if_lt dJ1_canEncode_9a6ad_1 15 (by decide) (fun h1 => ?_) (fun h1 => ?_)
  · refine m_iconst (v := 0) dJ1_canEncode_9a6ad_15 (by decide) ?_
    refine m_ireturn dJ1_canEncode_9a6ad_16 ?_
    first | exact qI_of rfl | exact absurd h.1 (Int32.not_le.mpr h1) | exact absurd h.2 (Int32.not_le.mpr h8)
  · refine m_iload_n dJ1_canEncode_9a6ad_4 0 rfl ?_
    refine m_sipush (v := 255) dJ1_canEncode_9a6ad_5 (by decide) ?_
    refine m_icmp_gt dJ1_canEncode_9a6ad_8 15 (by decide) (fun h8 => ?_) (fun h8 => ?_)
    · refine m_iconst (v := 0) dJ1_canEncode_9a6ad_15 (by decide) ?_
      refine m_ireturn dJ1_canEncode_9a6ad_16 ?_
      first | exact qI_of rfl | exact absurd h.1 (Int32.not_le.mpr h1) | exact absurd h.2 (Int32.not_le.mpr h8)
    · refine m_iconst (v := 1) dJ1_canEncode_9a6ad_11 (by decide) ?_
      refine m_goto dJ1_canEncode_9a6ad_12 16 (by decide) ?_
      refine m_ireturn dJ1_canEncode_9a6ad_16 ?_
      first | exact qI_of rfl | exact absurd h.1 (Int32.not_le.mpr h1) | exact absurd h.2 (Int32.not_le.mpr h8)
theorem c_isLatin1 {i : Nat} (q : String × Nat × String × List Int32) (hq : mstr[i]? = some q) : mMet G l d kJ0_isLatin1_aae02 [.ref (1010 + i)] σ (qI 1 σ) := by
  refine mMet.of cm_J0_isLatin1_aae02 rfl (Nat.le_of_ble_eq_true rfl) rfl (fun v1 σ1 h => by rw [h.1]; rfl) ?_
  refine m_compact dJ0_isLatin1_aae02_0 fs_COMPACT_STRINGS ?_
  refine m_if_eq dJ0_isLatin1_aae02_3 17 (by decide) (fun h3 => ?_) (fun h3 => ?_)
  · refine m_iconst (v := 0) dJ0_isLatin1_aae02_17 (by decide) ?_
    refine m_ireturn dJ0_isLatin1_aae02_18 ?_
    first | exact absurd h3 (by decide) | exact absurd rfl h10 | exact qI_of rfl
  · refine m_aload_n dJ0_isLatin1_aae02_6 0 rfl ?_
    refine m_coder dJ0_isLatin1_aae02_7 q hq fs_coder ?_
    refine m_if_ne dJ0_isLatin1_aae02_10 17 (by decide) (fun h10 => ?_) (fun h10 => ?_)
    · refine m_iconst (v := 0) dJ0_isLatin1_aae02_17 (by decide) ?_
      refine m_ireturn dJ0_isLatin1_aae02_18 ?_
      first | exact absurd h3 (by decide) | exact absurd rfl h10 | exact qI_of rfl
    · refine m_iconst (v := 1) dJ0_isLatin1_aae02_13 (by decide) ?_
      refine m_goto dJ0_isLatin1_aae02_14 18 (by decide) ?_
      refine m_ireturn dJ0_isLatin1_aae02_18 ?_
      first | exact absurd h3 (by decide) | exact absurd rfl h10 | exact qI_of rfl
theorem c_coder {i : Nat} (q : String × Nat × String × List Int32) (hq : mstr[i]? = some q) : mMet G l d kJ0_coder_7d493 [.ref (1010 + i)] σ (qI 0 σ) := by
  refine mMet.of cm_J0_coder_7d493 rfl (Nat.le_of_ble_eq_true rfl) rfl (fun v1 σ1 h => by rw [h.1]; rfl) ?_
  refine m_compact dJ0_coder_7d493_0 fs_COMPACT_STRINGS ?_
  refine m_if_eq dJ0_coder_7d493_3 13 (by decide) (fun h3 => ?_) (fun h3 => ?_)
  · refine m_iconst (v := 1) dJ0_coder_7d493_13 (by decide) ?_
    refine m_ireturn dJ0_coder_7d493_14 ?_
    first | exact absurd h3 (by decide) | exact qI_of rfl
  · refine m_aload_n dJ0_coder_7d493_6 0 rfl ?_
    refine m_coder dJ0_coder_7d493_7 q hq fs_coder ?_
    refine m_goto dJ0_coder_7d493_10 14 (by decide) ?_
    refine m_ireturn dJ0_coder_7d493_14 ?_
    first | exact absurd h3 (by decide) | exact qI_of rfl
theorem c_length (hd : 1 ≤ d) {i : Nat} (q : String × Nat × String × List Int32) (hq : mstr[i]? = some q) (hl : q.2.2.2.length ≤ 256) : mMet G l d kJ0_length_8abf5 [.ref (1010 + i)] σ (qI (nI q.2.2.2.length) σ) := by
  refine mMet.of cm_J0_length_8abf5 rfl (Nat.le_of_ble_eq_true rfl) rfl (fun v1 σ1 h => by rw [h.1]; rfl) ?_
  refine m_aload_n dJ0_length_8abf5_0 0 rfl ?_
  refine m_value dJ0_length_8abf5_1 q hq fs_value ?_
  refine m_blen dJ0_length_8abf5_4 q hq ?_
  refine m_aload_n dJ0_length_8abf5_5 0 rfl ?_
  refine m_callX (As := []) dJ0_length_8abf5_6 cx_J0_335 q hq (by omega) rfl rfl (Nat.le_of_ble_eq_true rfl) (c_coder (d := d - 1) q hq) (fun v1 σ1 hv1 => ?_)
  refine m_qI hv1 ?_
  clear hv1 v1 σ1
  refine m_ishr dJ0_length_8abf5_9 ?_
  refine mW.top (w := nI q.2.2.2.length) (by rw [pk_shrN (by omega) _ 0 (by decide)]; simp) ?_
  exact m_ireturn dJ0_length_8abf5_10 ⟨rfl, rfl⟩
theorem c_indexOfChar {i : Nat} (q : String × Nat × String × List Int32) (hq : mstr[i]? = some q) (hl : q.2.2.2.length ≤ 256) (c : Int32) : mMet G l d kJ1_indexOfChar_4cfef [.ref (1020 + i), .int c, .int 0, .int (nI q.2.2.2.length)] σ (qI (ixP q.2.2.2 c.toInt8.toInt32 q.2.2.2.length 0) σ) := by
  refine mMet.of cm_J1_indexOfChar_4cfef rfl (Nat.le_of_ble_eq_true rfl) rfl (fun v1 σ1 h => by rw [h.1]; rfl) ?_
  refine m_iload_n dJ1_indexOfChar_4cfef_0 1 rfl ?_
  refine m_i2b dJ1_indexOfChar_4cfef_1 ?_
  refine m_istore (ls1 := [(4, _), (0, _), (1, _), (2, _), (3, _)]) dJ1_indexOfChar_4cfef_2 (by decide) rfl ?_
  refine m_iload_n dJ1_indexOfChar_4cfef_4 3 rfl ?_
  refine m_istore (ls1 := [(5, _), (4, _), (0, _), (1, _), (2, _), (3, _)]) dJ1_indexOfChar_4cfef_5 (by decide) rfl ?_
  have key : ∀ f k, k + f = q.2.2.2.length → mW G l d kJ1_indexOfChar_4cfef 7 [(5, .int (nI k)), (4, .int c.toInt8.toInt32), (0, .ref (1020 + i)), (1, .int c), (2, .int 0), (3, .int (nI q.2.2.2.length))] [] σ (qI (ixP q.2.2.2 c.toInt8.toInt32 f k) σ) := by
    intro f
    induction f with
    | zero =>
      intro k hk
      refine m_iload dJ1_indexOfChar_4cfef_7 0 rfl ?_
      refine m_iload_n dJ1_indexOfChar_4cfef_9 5 rfl ?_
      refine m_icmp_ge dJ1_indexOfChar_4cfef_10 31 (by decide) (fun h => ?_) (fun h => ?_)
      · refine m_iconst (v := -1) dJ1_indexOfChar_4cfef_31 (by decide) ?_
        exact m_ireturn dJ1_indexOfChar_4cfef_32 ⟨rfl, rfl⟩
      · exact absurd ((nle (by omega) (by omega)).mpr (by omega)) h
    | succ f ih =>
      intro k hk
      refine m_iload dJ1_indexOfChar_4cfef_7 0 rfl ?_
      refine m_iload_n dJ1_indexOfChar_4cfef_9 5 rfl ?_
      refine m_icmp_ge dJ1_indexOfChar_4cfef_10 31 (by decide) (fun h => ?_) (fun h => ?_)
      · exact absurd ((nle (by omega) (by omega)).mp h) (by omega)
      · clear h
        rw [ixP]
        refine m_aload_n dJ1_indexOfChar_4cfef_13 2 rfl ?_
        refine m_iload dJ1_indexOfChar_4cfef_14 0 rfl ?_
        refine m_bald dJ1_indexOfChar_4cfef_16 q hq (j := k) rfl (by omega) hl ?_
        refine m_iload dJ1_indexOfChar_4cfef_17 1 rfl ?_
        refine m_icmp_ne dJ1_indexOfChar_4cfef_19 25 (by decide) (fun h => ?_) (fun h => ?_)
        · rw [if_neg h]
          refine m_iinc (v := nI (k + 1)) (ls1 := [(5, _), (4, _), (0, _), (1, _), (2, _), (3, _)]) dJ1_indexOfChar_4cfef_25 0 rfl (nI_1 k) (by decide) rfl ?_
          refine m_goto dJ1_indexOfChar_4cfef_28 7 (by decide) ?_
          exact ih (k + 1) (by omega)
        · rw [if_pos h]
          refine m_iload dJ1_indexOfChar_4cfef_22 0 rfl ?_
          exact m_ireturn dJ1_indexOfChar_4cfef_24 ⟨rfl, rfl⟩
  exact key _ 0 (Nat.zero_add _)
theorem c_indexOfL (hd : 1 ≤ d) {i : Nat} (q : String × Nat × String × List Int32) (hq : mstr[i]? = some q) (hl : q.2.2.2.length ≤ 256) (h0 : 0 < q.2.2.2.length) (c : Int32) (hc : 0 ≤ c ∧ c ≤ 255) : mMet G l d kJ1_indexOf_4cfef [.ref (1020 + i), .int c, .int 0, .int (nI q.2.2.2.length)] σ (qI (ixP q.2.2.2 c.toInt8.toInt32 q.2.2.2.length 0) σ) := by
  refine mMet.of cm_J1_indexOf_4cfef rfl (Nat.le_of_ble_eq_true rfl) rfl (fun v1 σ1 h => by rw [h.1]; rfl) ?_
  refine m_iload_n dJ1_indexOf_4cfef_0 1 rfl ?_
  refine m_callS (As := [_]) dJ1_indexOf_4cfef_1 cs_J1_88 (by omega) rfl rfl (Nat.le_of_ble_eq_true rfl) (c_canEncode (d := d - 1) c hc) (fun v1 σ1 hv1 => ?_)
  refine m_qI hv1 ?_
  clear hv1 v1 σ1
  refine m_if_ne dJ1_indexOf_4cfef_4 9 (by decide) (fun h => ?_) (fun h => ?_)
  rotate_left
  · exact absurd h (by decide)
  clear h
  refine m_iload_n dJ1_indexOf_4cfef_9 2 rfl ?_
  refine m_iconst (v := 0) dJ1_indexOf_4cfef_10 (by decide) ?_
  refine m_mmax dJ1_indexOf_4cfef_11 cs_J1_92 ml_J1_92 (by omega) (Nat.le_of_ble_eq_true rfl) ?_
  refine mW.top (w := 0) rfl ?_
  refine m_istore_n (ls1 := [(2, _), (0, _), (1, _), (3, _)]) dJ1_indexOf_4cfef_14 (by decide) rfl ?_
  refine m_iload_n dJ1_indexOf_4cfef_15 3 rfl ?_
  refine m_aload_n dJ1_indexOf_4cfef_16 1 rfl ?_
  refine m_blen dJ1_indexOf_4cfef_17 q hq ?_
  refine m_mmin dJ1_indexOf_4cfef_18 cs_J1_38 ml_J1_38 (by omega) (Nat.le_of_ble_eq_true rfl) ?_
  refine mW.top (w := nI q.2.2.2.length) (by split <;> rfl) ?_
  refine m_istore_n (ls1 := [(3, _), (2, _), (0, _), (1, _)]) dJ1_indexOf_4cfef_21 (by decide) rfl ?_
  refine m_iload_n dJ1_indexOf_4cfef_22 1 rfl ?_
  refine m_iload_n dJ1_indexOf_4cfef_23 0 rfl ?_
  refine m_icmp_lt dJ1_indexOf_4cfef_24 29 (by decide) (fun h => ?_) (fun h => ?_)
  rotate_left
  · exact absurd ((nlt (a := 0) (by omega) (by omega)).mpr h0) h
  clear h
  refine m_aload_n dJ1_indexOf_4cfef_29 2 rfl ?_
  refine m_iload_n dJ1_indexOf_4cfef_30 3 rfl ?_
  refine m_iload_n dJ1_indexOf_4cfef_31 1 rfl ?_
  refine m_iload_n dJ1_indexOf_4cfef_32 0 rfl ?_
  refine m_callS (As := [_, _, _, _]) dJ1_indexOf_4cfef_33 cs_J1_95 (by omega) rfl rfl (Nat.le_of_ble_eq_true rfl) (c_indexOfChar (d := d - 1) q hq hl c) (fun v1 σ1 hv1 => ?_)
  refine m_qI hv1 ?_
  clear hv1 v1 σ1
  exact m_ireturn dJ1_indexOf_4cfef_36 ⟨rfl, rfl⟩
theorem c_indexOf2 (hd : 2 ≤ d) {i : Nat} (q : String × Nat × String × List Int32) (hq : mstr[i]? = some q) (hl : q.2.2.2.length ≤ 256) (h0 : 0 < q.2.2.2.length) (c : Int32) (hc : 0 ≤ c ∧ c ≤ 255) : mMet G l d kJ0_indexOf_7cf53 [.ref (1010 + i), .int c, .int 0] σ (qI (ixP q.2.2.2 c.toInt8.toInt32 q.2.2.2.length 0) σ) := by
  refine mMet.of cm_J0_indexOf_7cf53 rfl (Nat.le_of_ble_eq_true rfl) rfl (fun v1 σ1 h => by rw [h.1]; rfl) ?_
  refine m_aload_n dJ0_indexOf_7cf53_0 0 rfl ?_
  refine m_callX (As := []) dJ0_indexOf_7cf53_1 cx_J0_492 q hq (by omega) rfl rfl (Nat.le_of_ble_eq_true rfl) (c_isLatin1 (d := d - 1) q hq) (fun v1 σ1 hv1 => ?_)
  refine m_qI hv1 ?_
  clear hv1 v1 σ1
  refine m_if_eq dJ0_indexOf_7cf53_4 23 (by decide) (fun h => ?_) (fun h => ?_)
  · exact absurd h (by decide)
  clear h
  refine m_aload_n dJ0_indexOf_7cf53_7 0 rfl ?_
  refine m_value dJ0_indexOf_7cf53_8 q hq fs_value ?_
  refine m_iload_n dJ0_indexOf_7cf53_11 1 rfl ?_
  refine m_iload_n dJ0_indexOf_7cf53_12 2 rfl ?_
  refine m_aload_n dJ0_indexOf_7cf53_13 0 rfl ?_
  refine m_callX (As := []) dJ0_indexOf_7cf53_14 cx_J0_505 q hq (by omega) rfl rfl (Nat.le_of_ble_eq_true rfl) (c_length (d := d - 1) (by omega) q hq hl) (fun v1 σ1 hv1 => ?_)
  refine m_qI hv1 ?_
  clear hv1 v1 σ1
  refine m_callS (As := [_, _, _, _]) dJ0_indexOf_7cf53_17 cs_J0_637 (by omega) rfl rfl (Nat.le_of_ble_eq_true rfl) (c_indexOfL (d := d - 1) (by omega) q hq hl h0 c hc) (fun v1 σ1 hv1 => ?_)
  refine m_qI hv1 ?_
  clear hv1 v1 σ1
  refine m_goto dJ0_indexOf_7cf53_20 36 (by decide) ?_
  exact m_ireturn dJ0_indexOf_7cf53_36 ⟨rfl, rfl⟩
theorem c_indexOf (hd : 3 ≤ d) {i : Nat} (q : String × Nat × String × List Int32) (hq : mstr[i]? = some q) (hl : q.2.2.2.length ≤ 256) (h0 : 0 < q.2.2.2.length) (c : Int32) (hc : 0 ≤ c ∧ c ≤ 255) : mMet G l d kJ0_indexOf_0f7a4 [.ref (1010 + i), .int c] σ (qI (ixP q.2.2.2 c.toInt8.toInt32 q.2.2.2.length 0) σ) := by
  refine mMet.of cm_J0_indexOf_0f7a4 rfl (Nat.le_of_ble_eq_true rfl) rfl (fun v1 σ1 h => by rw [h.1]; rfl) ?_
  refine m_aload_n dJ0_indexOf_0f7a4_0 0 rfl ?_
  refine m_iload_n dJ0_indexOf_0f7a4_1 1 rfl ?_
  refine m_iconst (v := 0) dJ0_indexOf_0f7a4_2 (by decide) ?_
  refine m_callX (As := [_, _]) dJ0_indexOf_0f7a4_3 cx_J0_633 q hq (by omega) rfl rfl (Nat.le_of_ble_eq_true rfl) (c_indexOf2 (d := d - 1) (by omega) q hq hl h0 c hc) (fun v1 σ1 hv1 => ?_)
  refine m_qI hv1 ?_
  clear hv1 v1 σ1
  exact m_ireturn dJ0_indexOf_0f7a4_6 ⟨rfl, rfl⟩
/-- Arrays.fill -/
theorem c_fill {x n : Nat} (hx : mshp x = (11, n)) (v : Int32) : mMet G l d kJ7_fill_53178 [.ref x, .int v] σ (qVP (fun s => (∀ i, i < n → s.1 x i = v) ∧ fW (fun y z => y = x ∧ z < n) σ s)) := by
  have hn := mshp_len hx
  refine mMet.of cm_J7_fill_53178 rfl (Nat.le_of_ble_eq_true rfl) rfl (fun v1 σ1 h => by rw [h.1]; trivial) ?_
  refine m_iconst (v := 0) dJ7_fill_53178_0 (by decide) ?_
  refine m_istore_n (ls1 := [(2, _), (0, _), (1, _)]) dJ7_fill_53178_1 (by decide) rfl ?_
  refine m_aload_n dJ7_fill_53178_2 1 rfl ?_
  refine m_alen dJ7_fill_53178_3 (by first | assumption | rfl) ?_
  refine m_istore_n (ls1 := [(3, _), (2, _), (0, _), (1, _)]) dJ7_fill_53178_4 (by decide) rfl ?_
  refine mW.sub (ls1 := [(2, _), (3, _), (0, _), (1, _)]) [1, 0, 2, 3] rfl ?_
  refine down (N := n) (fun i (q : mS) => (∀ b, b < i → q.1 x b = v) ∧ fW (fun y z => y = x ∧ z < n) σ q) (fun i q => mW G l d kJ7_fill_53178 5 [(2, .int (nI i)), (3, .int (nI n)), (0, .ref x), (1, .int v)] [] q _) ?_ ?_ 0 σ (Nat.zero_le _) ⟨fun b hb => absurd hb (Nat.not_lt_zero _), fW.rf⟩
  · rintro q ⟨b1, b2⟩
    refine m_iload_n dJ7_fill_53178_5 0 rfl ?_
    refine m_iload_n dJ7_fill_53178_6 1 rfl ?_
    refine m_icmp_ge dJ7_fill_53178_7 20 (by decide) (fun h => ?_) (fun h => ?_)
    · exact m_return dJ7_fill_53178_20 ⟨rfl, b1, b2⟩
    · exact absurd (Int32.le_refl _) h
  · rintro i q hi ⟨b1, b2⟩ ih
    refine m_iload_n dJ7_fill_53178_5 0 rfl ?_
    refine m_iload_n dJ7_fill_53178_6 1 rfl ?_
    refine m_icmp_ge dJ7_fill_53178_7 20 (by decide) (fun h => ?_) (fun h => ?_)
    · exact absurd ((nle (by omega) (by omega)).mp h) (by omega)
    · clear h
      refine m_aload_n dJ7_fill_53178_10 2 rfl ?_
      refine m_iload_n dJ7_fill_53178_11 0 rfl ?_
      refine m_iload_n dJ7_fill_53178_12 3 rfl ?_
      refine m_iast dJ7_fill_53178_13 (by first | assumption | rfl) i rfl (by first | assumption | omega | decide) ?_
      refine m_iinc (v := nI (i + 1)) (ls1 := [(2, _), (3, _), (0, _), (1, _)]) dJ7_fill_53178_14 0 rfl (nI_1 i) (by decide) rfl ?_
      refine m_goto dJ7_fill_53178_17 5 (by decide) ?_
      refine ih _ ⟨fun b hb => ?_, fW.us ⟨rfl, hi⟩ b2⟩
      rcases Nat.lt_succ_iff_lt_or_eq.mp hb with h | rfl
      · rw [us_at, if_neg (by omega)]; exact b1 b h
      · rw [us_at, if_pos ⟨rfl, rfl⟩]
end JD


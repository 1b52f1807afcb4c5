/-! ===== the class: a car goes ===== -/
theorem crow.tr {C n : Nat} {c : Nat → Nat → Int32} {s s1 : mS} {W : Nat → Nat → Prop} (h : crow C n c s) (f : fW W s s1) (hw : ∀ k j, k < n → ¬ W (C + 2 + k) j) : crow C n c s1 := fun k hk j hj => (f.at (hw k j hk)).trans (h k hk j hj)
theorem jam_rel {R n m : Nat} {r : RS} {s : mS} {v : Int32} (hR : R = 47 ∨ R = 80) (h : cRr R n m r s) (hv : v = r.2.2.2.2.2.2.2.2.2.2 + 1) : cRr R n m (jamR r) (us s (R + 17) m v) := by
  obtain ⟨⟨c1, c2, c3, c4, c5, c6⟩, hnow, hb⟩ := h
  have e : ∀ a b, a ≠ R + 17 → (us s (R + 17) m v).1 a b = s.1 a b := fun a b h => by rw [us_at, if_neg (fun q => h q.1)]
  refine ⟨⟨(e _ _ (by omega)).trans c1, (e _ _ (by omega)).trans c2, (e _ _ (by omega)).trans c3, (e _ _ (by omega)).trans c4, (e _ _ (by omega)).trans c5, by rw [us_at, if_pos ⟨rfl, rfl⟩]; exact hv⟩, fun i hi => ?_, fun x y hx hy => (e _ _ (by omega)).trans (hb x y hx hy)⟩
  obtain ⟨d1, d2, d3, d4, d5, d6⟩ := hnow i hi
  exact ⟨(e _ _ (by omega)).trans d1, (e _ _ (by omega)).trans d2, (e _ _ (by omega)).trans d3, (e _ _ (by omega)).trans d4, (e _ _ (by omega)).trans d5, (e _ _ (by omega)).trans d6⟩
theorem turn_rel {R n m k : Nat} {r : RS} {s : mS} {w : Int32} (hR : R = 47 ∨ R = 80) (h : cRr R n m r s) : cRr R n m (turnR k w r) (us s (R + 4) k w) := by
  obtain ⟨⟨c1, c2, c3, c4, c5, c6⟩, hnow, hb⟩ := h
  have e : ∀ a b, a ≠ R + 4 → (us s (R + 4) k w).1 a b = s.1 a b := fun a b h => by rw [us_at, if_neg (fun q => h q.1)]
  refine ⟨⟨(e _ _ (by omega)).trans c1, (e _ _ (by omega)).trans c2, (e _ _ (by omega)).trans c3, (e _ _ (by omega)).trans c4, (e _ _ (by omega)).trans c5, (e _ _ (by omega)).trans c6⟩, fun i hi => ?_, fun x y hx hy => (e _ _ (by omega)).trans (hb x y hx hy)⟩
  obtain ⟨d1, d2, d3, d4, d5, d6⟩ := hnow i hi
  refine ⟨(e _ _ (by omega)).trans d1, (e _ _ (by omega)).trans d2, ?_, (e _ _ (by omega)).trans d4, (e _ _ (by omega)).trans d5, (e _ _ (by omega)).trans d6⟩
  show (us s (R + 4) k w).1 (R + 4) i = upd r.2.2.1 k w i
  rw [us_at, upd_at]
  by_cases q : i = k
  · rw [if_pos ⟨rfl, q⟩, if_pos q]
  · rw [if_neg (fun z => q z.2), if_neg q, d3]
theorem shS_fW {W : Nat → Nat → Prop} {s0 s : mS} {R k x0 y0 x y : Nat} (f : fW W s0 s) (h1 : ∀ z, W (R + 15) z) (h2 : ∀ z, W (R + 2) z) (h3 : ∀ z, W (R + 3) z) : fW W s0 (shS s R k x0 y0 x y) := fW.us (h3 _) (fW.us (h2 _) (fW.us (h1 _) (fW.us (h1 _) f)))
theorem ns_STEPX : Cond.fieldLinkNest "DodgemDebate$Run" 93 "DodgemDebate" "STEP_X" "[I" "DodgemDebate" ∈ mnest := by simp [mnest]
theorem ns_STEPY : Cond.fieldLinkNest "DodgemDebate$Run" 96 "DodgemDebate" "STEP_Y" "[I" "DodgemDebate" ∈ mnest := by simp [mnest]
section CD
variable {G : mG} {l : Launch} {d : Nat} {σ : mS}
theorem c_go {R C : Nat} (hd : 2 ≤ d) (hR : R = 47 ∨ R = 80) (hC : C = 5 ∨ C = 66) (n m N k : Nat) (r : RS) (c : Nat → Nat → Int32) (hn : n ≤ 8) (hN : N ≤ 999) (hm : m < 24) (wf : wfR n N r) (hcr : cRr R n m r σ) (hc : crow C n c σ) (hk : k < n) : mMet G l d kX3_go [.ref R, .ref C, .int (nI m), .int (nI k)] σ (qVP (fun s => cRr R n m (driveR n c k (nI m) r) s ∧ fW (wGo R m) σ s)) := by
  obtain ⟨h0, h1, h2, h3, h4, h5, h6, h7⟩ := sh_run hR
  have n0 := h2 0 (by decide)
  have n1 := h2 1 (by decide)
  have n2 := h2 2 (by decide)
  have hC0 := (sh_car0 hC).1
  have hC1 := (sh_car0 hC).2
  have hCk := sh_car (k := k) hC (by omega)
  have hk8 : k < 8 := by omega
  obtain ⟨v, hv, ev⟩ := wy_of (wf.1 k hk).2.2.1
  obtain ⟨d1, d2, d3, d4, d5, d6⟩ := hcr.2.1 k hk
  have ev' : σ.1 (R + 4) k = nI v := d3.trans ev
  obtain ⟨w, hw, ew⟩ := wy_of (wayR_ok wf (fun i => c i 0) k hk)
  obtain ⟨a0, ha0, ea0⟩ := six_of (wf.1 k hk).1
  obtain ⟨b0, hb0, eb0⟩ := six_of (wf.1 k hk).2.1
  have ec0 : σ.1 (C + 1 + 1 + k) 0 = c k 0 := hc k hk 0 (by decide)
  refine mMet.of cm_X3_go rfl (Nat.le_of_ble_eq_true rfl) rfl (fun v1 σ1 h => by rw [h.1]; trivial) ?_
  unfold driveR
  rw [ew]
  refine m_aload_n dX3_go_0 0 rfl ?_
  refine m_getR 0 (R + 1) dX3_go_1 fl_X3_13_3 rfl (by decide) rfl (by first | assumption | rfl) ?_
  refine m_iconst (v := 2) dX3_go_4 (by decide) ?_
  refine m_aald dX3_go_5 (by first | assumption | rfl) 2 rfl (by first | assumption | omega | decide) ?_
  refine m_iload_n dX3_go_6 3 rfl ?_
  refine m_iald dX3_go_7 (by first | assumption | rfl) k rfl (by first | assumption | omega | decide) ?_
  refine mW.top ev' ?_
  refine m_istore (ls1 := [(4, _), (0, _), (1, _), (2, _), (3, _)]) dX3_go_8 (by decide) rfl ?_
  refine m_aload_n dX3_go_10 2 rfl ?_
  refine m_getR 0 (C + 1) dX3_go_11 fl_X3_74_0 rfl (by decide) rfl (by first | assumption | rfl) ?_
  refine m_iload_n dX3_go_14 4 rfl ?_
  refine m_aald dX3_go_15 (by first | assumption | rfl) k rfl (by first | assumption | omega | decide) ?_
  refine m_iconst (v := 0) dX3_go_16 (by decide) ?_
  refine m_iald dX3_go_17 (by first | assumption | rfl) 0 rfl (by first | assumption | omega | decide) ?_
  refine mW.top ec0 ?_
  refine m_iconst (v := 2) dX3_go_18 (by decide) ?_
  refine m_sel (pcJ := 31) ?_ (fun kt0 kf0 => m_icmp_ne dX3_go_19 29 (by decide) (fun h => (m_iload dX3_go_29 0 rfl (kf0 h))) (fun h => (m_iload dX3_go_22 0 rfl (m_iconst (v := 2) dX3_go_24 (by decide) (m_ixor dX3_go_25 (m_goto dX3_go_26 31 (by decide) (kt0 h)))))))
  refine mW.top (w := nI w) (by rw [← ew]; unfold wayR; rw [ev, xor2 v hv]) ?_
  refine m_istore (ls1 := [(5, _), (4, _), (0, _), (1, _), (2, _), (3, _)]) dX3_go_31 (by decide) rfl ?_
  refine m_aload_n dX3_go_33 2 rfl ?_
  refine m_getR 0 (R + 1) dX3_go_34 fl_X3_13_3 rfl (by decide) rfl (by first | assumption | rfl) ?_
  refine m_iconst (v := 0) dX3_go_37 (by decide) ?_
  refine m_aald dX3_go_38 (by first | assumption | rfl) 0 rfl (by first | assumption | omega | decide) ?_
  refine m_iload_n dX3_go_39 5 rfl ?_
  refine m_iald dX3_go_40 (by first | assumption | rfl) k rfl (by first | assumption | omega | decide) ?_
  refine mW.top d1 ?_
  refine m_gets (i := 0) dX3_go_41 _ rfl (Or.inr ns_STEPX) ?_
  refine m_iload dX3_go_44 0 rfl ?_
  refine m_xald (i := 0) (j := w) dX3_go_46 _ rfl rfl hw (by decide) ?_
  refine mW.top (w := stX (nI w)) (stepx w hw) ?_
  refine m_iadd dX3_go_47 ?_
  refine m_istore (ls1 := [(6, _), (5, _), (4, _), (0, _), (1, _), (2, _), (3, _)]) dX3_go_48 (by decide) rfl ?_
  refine m_aload_n dX3_go_50 3 rfl ?_
  refine m_getR 0 (R + 1) dX3_go_51 fl_X3_13_3 rfl (by decide) rfl (by first | assumption | rfl) ?_
  refine m_iconst (v := 1) dX3_go_54 (by decide) ?_
  refine m_aald dX3_go_55 (by first | assumption | rfl) 1 rfl (by first | assumption | omega | decide) ?_
  refine m_iload_n dX3_go_56 6 rfl ?_
  refine m_iald dX3_go_57 (by first | assumption | rfl) k rfl (by first | assumption | omega | decide) ?_
  refine mW.top d2 ?_
  refine m_gets (i := 1) dX3_go_58 _ rfl (Or.inr ns_STEPY) ?_
  refine m_iload dX3_go_61 1 rfl ?_
  refine m_xald (i := 1) (j := w) dX3_go_63 _ rfl rfl hw (by decide) ?_
  refine mW.top (w := stY (nI w)) (stepy w hw) ?_
  refine m_iadd dX3_go_64 ?_
  refine m_istore (ls1 := [(7, _), (6, _), (5, _), (4, _), (0, _), (1, _), (2, _), (3, _)]) dX3_go_65 (by decide) rfl ?_
  refine m_iload dX3_go_67 1 rfl ?_
  refine m_iload dX3_go_69 0 rfl ?_
  refine m_callS (As := [_, _]) dX3_go_71 cs_X3_99 (by omega) rfl rfl (Nat.le_of_ble_eq_true rfl) (c_onFloor (d := d - 1) _ _) (fun v1 σ1 hv1 => ?_)
  refine m_qI hv1 ?_
  clear hv1 v1 σ1
  refine m_if_ne dX3_go_74 90 (by decide) (fun g1 => ?_) (fun g1 => ?_)
  rotate_left
  · have q1 : ¬ (six (r.1 k + stX (nI w)) ∧ six (r.2.1 k + stY (nI w))) := fun z => bI0 g1 ((fl6 _ _).mpr z)
    have q2 : ¬ six (r.1 k + stX (nI w)) ∨ ¬ six (r.2.1 k + stY (nI w)) := Decidable.not_and_iff_or_not.mp q1
    unfold driveW
    rw [if_pos q2, ev]
    refine m_aload_n dX3_go_77 4 rfl ?_
    refine m_getR 0 (R + 1) dX3_go_78 fl_X3_13_3 rfl (by decide) rfl (by first | assumption | rfl) ?_
    refine m_iconst (v := 2) dX3_go_81 (by decide) ?_
    refine m_aald dX3_go_82 (by first | assumption | rfl) 2 rfl (by first | assumption | omega | decide) ?_
    refine m_iload_n dX3_go_83 7 rfl ?_
    refine m_iload dX3_go_84 3 rfl ?_
    refine m_iconst (v := 2) dX3_go_86 (by decide) ?_
    refine m_ixor dX3_go_87 ?_
    refine mW.top (xor2 v hv) ?_
    refine m_iast dX3_go_88 (by first | assumption | rfl) k rfl (by first | assumption | omega | decide) ?_
    exact m_return dX3_go_89 ⟨rfl, turn_rel hR hcr, fW.us (by omega) fW.rf⟩
  obtain ⟨s1, s2⟩ := (fl6 _ _).mp (bI1 g1)
  clear g1
  obtain ⟨a, ha, ea⟩ := six_of s1
  obtain ⟨b, hb, eb⟩ := six_of s2
  have q2 : ¬ (¬ six (r.1 k + stX (nI w)) ∨ ¬ six (r.2.1 k + stY (nI w))) := fun z => z.elim (fun q => q s1) (fun q => q s2)
  unfold driveW
  rw [if_neg q2, ea, eb]
  have hbd := hcr.2.2 a b ha hb
  refine m_aload_n dX3_go_90 4 rfl ?_
  refine m_getR 2 (R + 15) dX3_go_91 fl_X3_19_3 rfl (by decide) rfl (by first | assumption | rfl) ?_
  refine m_iload dX3_go_94 1 rfl ?_
  refine m_bipush (v := 6) dX3_go_96 (by decide) ?_
  refine m_imul dX3_go_98 ?_
  refine m_iload dX3_go_99 0 rfl ?_
  refine m_iadd dX3_go_101 ?_
  refine mW.top (ix6 a b) ?_
  refine m_iald dX3_go_102 (by first | assumption | rfl) (6 * a + b) rfl (by first | assumption | omega | decide) ?_
  refine mW.top hbd ?_
  refine m_istore (ls1 := [(8, _), (7, _), (6, _), (5, _), (4, _), (0, _), (1, _), (2, _), (3, _)]) dX3_go_103 (by decide) rfl ?_
  refine m_iload dX3_go_105 0 rfl ?_
  refine m_iconst (v := -1) dX3_go_107 (by decide) ?_
  rcases whoIn_of r.1 r.2.1 (nI a) (nI b) n hn with h8 | ⟨o, ho, h8⟩
  · -- nobody is there
    rw [h8, if_pos rfl]
    refine m_icmp_eq dX3_go_108 223 (by decide) (fun h => ?_) (fun h => ?_)
    rotate_left
    · exact absurd rfl h
    clear h
    refine m_aload_n dX3_go_223 5 rfl ?_
    refine m_iload_n dX3_go_224 8 rfl ?_
    refine m_iload dX3_go_225 2 rfl ?_
    refine m_iload dX3_go_227 1 rfl ?_
    refine m_callV (As := [_, _, _]) dX3_go_229 cv_X3_107 (by first | assumption | rfl) (by decide) (by omega) rfl rfl (Nat.le_of_ble_eq_true rfl) (c_shift (d := d - 1) hR k a0 b0 a b hk8 ha0 hb0 ha hb (d1.trans ea0) (d2.trans eb0)) (fun v1 σ1 hv1 => ?_)
    refine m_qV hv1 ?_
    clear hv1 v1 σ1
    exact m_return dX3_go_232 ⟨rfl, sh_rel hR hn hcr wf k a0 b0 a b hk ha0 hb0 ha hb ea0 eb0 (whoIn_none n hn h8), shS_fW fW.rf (fun z => by omega) (fun z => by omega) (fun z => by omega)⟩
  · -- somebody is
    have hne : ¬ nI o = -1 := fun q => by
      have := congrArg Int32.toInt q
      rw [nI_toInt (by omega)] at this
      have e1 : (-1 : Int32).toInt = -1 := rfl
      omega
    rw [h8, if_neg hne, nI_clamp (by omega)]
    obtain ⟨-, ox, oy⟩ := whoIn_at n hn h8 (by omega)
    have hok : o ≠ k := fun e => by
      subst e
      exact st_ne ⟨(nle (a := 0) (by omega) (by omega)).mpr (Nat.zero_le _), (nle (b := 3) (by omega) (by omega)).mpr (by omega)⟩ (wf.1 o hk).1 (wf.1 o hk).2.1 ⟨ea.trans ox.symm, eb.trans oy.symm⟩
    refine m_icmp_eq dX3_go_108 223 (by decide) (fun h => ?_) (fun h => ?_)
    · exact absurd h hne
    clear h
    refine m_aload_n dX3_go_111 5 rfl ?_
    refine m_iload_n dX3_go_112 7 rfl ?_
    refine m_iload_n dX3_go_113 8 rfl ?_
    refine m_iload dX3_go_114 0 rfl ?_
    refine m_iload dX3_go_116 3 rfl ?_
    refine m_callV (As := [_, _, _, _]) dX3_go_118 cv_X3_103 (by first | assumption | rfl) (by decide) (by omega) rfl rfl (Nat.le_of_ble_eq_true rfl) (c_countStrike (d := d - 1) hR n m N k o w r hn (by omega) wf hcr hk ho hw) (fun v1 σ1 hv1 => ?_)
    refine m_qVP hv1 (fun hq => ?_)
    clear hv1 v1
    rename mS => s3
    obtain ⟨k1, f1⟩ := hq
    have wf1 := wf.strike k o (nI w) (nI m)
    generalize hr1 : strikeR k o (nI w) (nI m) r = r1 at *
    have x1 : ∀ i, r1.1 i = r.1 i := fun i => by rw [← hr1]; rfl
    have y1 : ∀ i, r1.2.1 i = r.2.1 i := fun i => by rw [← hr1]; rfl
    have hc1 : crow C n c s3 := hc.tr f1 (fun k j hk => by omega)
    have ck : s3.1 (C + 1 + 1 + k) 4 = c k 4 := hc1 k hk 4 (by decide)
    have co : s3.1 (C + 1 + 1 + o) 4 = c o 4 := hc1 o ho 4 (by decide)
    have hCo := sh_car (k := o) hC (by omega)
    have ho8 : o < 8 := by omega
    unfold rInto
    rw [hr1]
    -- both stay
    have stay : ¬ mayR n (fun i => c i 4) k o (nI w) r1 → ∀ ls1, mW G l d kX3_go 202 ((0, .ref R) :: (1, .ref C) :: (2, .int (nI m)) :: (3, .int (nI k)) :: ls1) [] s3 (qVP (fun s => cRr R n m (intoR n (fun i => c i 4) k o (nI w) r1) s ∧ fW (wGo R m) σ s)) := by
      intro q ls1
      unfold intoR
      rw [if_neg q]
      have e17 : s3.1 (R + 17) m = r1.2.2.2.2.2.2.2.2.2.2 := k1.1.2.2.2.2.2
      refine m_aload_n dX3_go_202 0 rfl ?_
      refine m_getR 4 (R + 17) dX3_go_203 fl_X3_26_3 rfl (by decide) rfl h0 ?_
      refine m_iload_n dX3_go_206 2 rfl ?_
      refine m_dup2 dX3_go_207 rfl rfl ?_
      refine m_iald dX3_go_208 h7 m rfl hm ?_
      refine mW.top e17 ?_
      refine m_iconst (v := 1) dX3_go_209 (by decide) ?_
      refine m_iadd dX3_go_210 ?_
      refine m_iast dX3_go_211 h7 m rfl hm ?_
      exact m_return dX3_go_212 ⟨rfl, jam_rel hR k1 rfl, fW.us (by omega) f1⟩
    refine m_iload dX3_go_121 2 rfl ?_
    refine m_gets (i := 0) dX3_go_123 _ rfl (Or.inr ns_STEPX) ?_
    refine m_iload dX3_go_126 3 rfl ?_
    refine m_xald (i := 0) (j := w) dX3_go_128 _ rfl rfl hw (by decide) ?_
    refine mW.top (w := stX (nI w)) (stepx w hw) ?_
    refine m_iadd dX3_go_129 ?_
    refine m_istore (ls1 := [(9, _), (8, _), (7, _), (6, _), (5, _), (4, _), (0, _), (1, _), (2, _), (3, _)]) dX3_go_130 (by decide) rfl ?_
    refine m_iload dX3_go_132 2 rfl ?_
    refine m_gets (i := 1) dX3_go_134 _ rfl (Or.inr ns_STEPY) ?_
    refine m_iload dX3_go_137 4 rfl ?_
    refine m_xald (i := 1) (j := w) dX3_go_139 _ rfl rfl hw (by decide) ?_
    refine mW.top (w := stY (nI w)) (stepy w hw) ?_
    refine m_iadd dX3_go_140 ?_
    refine m_istore (ls1 := [(10, _), (9, _), (8, _), (7, _), (6, _), (5, _), (4, _), (0, _), (1, _), (2, _), (3, _)]) dX3_go_141 (by decide) rfl ?_
    refine m_aload_n dX3_go_143 8 rfl ?_
    refine m_getR 0 (C + 1) dX3_go_144 fl_X3_74_0 rfl (by decide) rfl (by first | assumption | rfl) ?_
    refine m_iload_n dX3_go_147 10 rfl ?_
    refine m_aald dX3_go_148 (by first | assumption | rfl) k rfl (by first | assumption | omega | decide) ?_
    refine m_iconst (v := 4) dX3_go_149 (by decide) ?_
    refine m_iald dX3_go_150 (by first | assumption | rfl) 4 rfl (by first | assumption | omega | decide) ?_
    refine mW.top ck ?_
    refine m_aload_n dX3_go_151 8 rfl ?_
    refine m_getR 0 (C + 1) dX3_go_152 fl_X3_74_0 rfl (by decide) rfl (by first | assumption | rfl) ?_
    refine m_iload dX3_go_155 2 rfl ?_
    refine m_aald dX3_go_157 (by first | assumption | rfl) o rfl (by first | assumption | omega | decide) ?_
    refine m_iconst (v := 4) dX3_go_158 (by decide) ?_
    refine m_iald dX3_go_159 (by first | assumption | rfl) 4 rfl (by first | assumption | omega | decide) ?_
    refine mW.top co ?_
    refine m_sel (pcJ := 168) ?_ (fun kt0 kf0 => m_icmp_ge dX3_go_160 167 (by decide) (fun h => (m_iconst (v := 0) dX3_go_167 (by decide) (kt0 h))) (fun h => (m_iconst (v := 1) dX3_go_163 (by decide) (m_goto dX3_go_164 168 (by decide) (kf0 h)))))
    refine m_istore (ls1 := [(11, _), (10, _), (9, _), (8, _), (7, _), (6, _), (5, _), (4, _), (0, _), (1, _), (2, _), (3, _)]) dX3_go_168 (by decide) rfl ?_
    refine m_iload dX3_go_170 0 rfl ?_
    by_cases hwt : c o 4 ≤ c k 4
    rotate_left
    · rw [if_neg hwt]
      refine m_if_ne dX3_go_172 202 (by decide) (fun h => ?_) (fun h => ?_)
      rotate_left
      · exact absurd h (by decide)
      clear h
      refine mW.sub (ls1 := [(0, _), (1, _), (2, _), (3, _), (11, _), (10, _), (9, _), (8, _), (7, _), (6, _), (5, _), (4, _)]) [8, 9, 10, 11, 0, 1, 2, 3, 4, 5, 6, 7] rfl ?_
      exact stay (fun z => hwt z.1) _
    rw [if_pos hwt]
    refine m_if_ne dX3_go_172 202 (by decide) (fun h => ?_) (fun h => ?_)
    · exact absurd rfl h
    clear h
    refine m_iload dX3_go_175 2 rfl ?_
    refine m_iload dX3_go_177 1 rfl ?_
    refine m_callS (As := [_, _]) dX3_go_179 cs_X3_99 (by omega) rfl rfl (Nat.le_of_ble_eq_true rfl) (c_onFloor (d := d - 1) _ _) (fun v1 σ1 hv1 => ?_)
    refine m_qI hv1 ?_
    clear hv1 v1 σ1
    refine m_if_eq dX3_go_182 202 (by decide) (fun g2 => ?_) (fun g2 => ?_)
    · refine mW.sub (ls1 := [(0, _), (1, _), (2, _), (3, _), (11, _), (10, _), (9, _), (8, _), (7, _), (6, _), (5, _), (4, _)]) [8, 9, 10, 11, 0, 1, 2, 3, 4, 5, 6, 7] rfl ?_
      refine stay (fun z => bI0 g2 ((fl6 _ _).mpr ?_)) _
      have z1 := z.2.1
      have z2 := z.2.2.1
      rw [x1, ox] at z1
      rw [y1, oy] at z2
      exact ⟨z1, z2⟩
    obtain ⟨t1, t2⟩ := (fl6 _ _).mp (bI1 g2)
    clear g2
    obtain ⟨a2, ha2, ea2⟩ := six_of t1
    obtain ⟨b2, hb2, eb2⟩ := six_of t2
    rw [ea2, eb2]
    have hbd2 := k1.2.2 a2 b2 ha2 hb2
    refine m_aload_n dX3_go_185 8 rfl ?_
    refine m_getR 2 (R + 15) dX3_go_186 fl_X3_19_3 rfl (by decide) rfl (by first | assumption | rfl) ?_
    refine m_iload dX3_go_189 2 rfl ?_
    refine m_bipush (v := 6) dX3_go_191 (by decide) ?_
    refine m_imul dX3_go_193 ?_
    refine m_iload dX3_go_194 1 rfl ?_
    refine m_iadd dX3_go_196 ?_
    refine mW.top (ix6 a2 b2) ?_
    refine m_iald dX3_go_197 (by first | assumption | rfl) (6 * a2 + b2) rfl (by first | assumption | omega | decide) ?_
    refine mW.top hbd2 ?_
    refine m_iconst (v := -1) dX3_go_198 (by decide) ?_
    refine m_icmp_eq dX3_go_199 213 (by decide) (fun g3 => ?_) (fun g3 => ?_)
    rotate_left
    · refine mW.sub (ls1 := [(0, _), (1, _), (2, _), (3, _), (11, _), (10, _), (9, _), (8, _), (7, _), (6, _), (5, _), (4, _)]) [8, 9, 10, 11, 0, 1, 2, 3, 4, 5, 6, 7] rfl ?_
      refine stay (fun z => g3 ?_) _
      have z1 := z.2.2.2
      rw [x1 o, y1 o, ox, oy, ea2, eb2] at z1
      exact z1
    have may : mayR n (fun i => c i 4) k o (nI w) r1 := by
      refine ⟨hwt, ?_, ?_, ?_⟩
      · rw [x1, ox]; exact t1
      · rw [y1, oy]; exact t2
      · rw [x1 o, y1 o, ox, oy, ea2, eb2]; exact g3
    unfold intoR
    rw [if_pos may, x1 o, y1 o, ox, oy, ea2, eb2]
    clear stay
    have no1 := k1.2.1 o ho
    have nk1 := k1.2.1 k hk
    refine m_aload_n dX3_go_213 8 rfl ?_
    refine m_iload dX3_go_214 3 rfl ?_
    refine m_iload dX3_go_216 2 rfl ?_
    refine m_iload dX3_go_218 1 rfl ?_
    refine m_callV (As := [_, _, _]) dX3_go_220 cv_X3_107 (by first | assumption | rfl) (by decide) (by omega) rfl rfl (Nat.le_of_ble_eq_true rfl) (c_shift (d := d - 1) hR o a b a2 b2 ho8 ha hb ha2 hb2 (no1.1.trans ((x1 o).trans ox)) (no1.2.1.trans ((y1 o).trans oy))) (fun v1 σ1 hv1 => ?_)
    refine m_qV hv1 ?_
    clear hv1 v1 σ1
    have k2 := sh_rel hR hn k1 wf1 o a b a2 b2 ho ha hb ha2 hb2 ((x1 o).trans ox) ((y1 o).trans oy) (whoIn_none n hn g3)
    have wf2 := wf1.move o (nI a2) (nI b2) (by rw [← ea2]; exact t1) (by rw [← eb2]; exact t2) (fun i hi _ => whoIn_none n hn g3 i hi)
    have f2 : fW (wGo R m) σ (shS s3 R o a b a2 b2) := shS_fW f1 (fun z => by omega) (fun z => by omega) (fun z => by omega)
    generalize shS s3 R o a b a2 b2 = s4 at *
    have nk2 := k2.2.1 k hk
    have xk : (moveR o (nI a2) (nI b2) r1).1 k = nI a0 := by
      show upd r1.1 o (nI a2) k = _
      rw [upd_at, if_neg (fun e => hok e.symm), x1, ea0]
    have yk : (moveR o (nI a2) (nI b2) r1).2.1 k = nI b0 := by
      show upd r1.2.1 o (nI b2) k = _
      rw [upd_at, if_neg (fun e => hok e.symm), y1, eb0]
    refine m_aload_n dX3_go_223 8 rfl ?_
    refine m_iload_n dX3_go_224 11 rfl ?_
    refine m_iload dX3_go_225 5 rfl ?_
    refine m_iload dX3_go_227 4 rfl ?_
    refine m_callV (As := [_, _, _]) dX3_go_229 cv_X3_107 (by first | assumption | rfl) (by decide) (by omega) rfl rfl (Nat.le_of_ble_eq_true rfl) (c_shift (d := d - 1) hR k a0 b0 a b hk8 ha0 hb0 ha hb (nk2.1.trans xk) (nk2.2.1.trans yk)) (fun v1 σ1 hv1 => ?_)
    refine m_qV hv1 ?_
    clear hv1 v1 σ1
    refine m_return dX3_go_232 ⟨rfl, sh_rel hR hn k2 wf2 k a0 b0 a b hk ha0 hb0 ha hb xk yk (fun i hi z => ?_), shS_fW f2 (fun z => by omega) (fun z => by omega) (fun z => by omega)⟩
    have z1 : upd r1.1 o (nI a2) i = nI a := z.1
    have z2 : upd r1.2.1 o (nI b2) i = nI b := z.2
    rw [upd_at] at z1 z2
    by_cases e : i = o
    · rw [if_pos e] at z1 z2
      refine st_ne (w := nI w) ⟨(nle (a := 0) (by omega) (by omega)).mpr (Nat.zero_le _), (nle (b := 3) (by omega) (by omega)).mpr (by omega)⟩ (x := nI a) (y := nI b) (by rw [← ea]; exact s1) (by rw [← eb]; exact s2) ⟨?_, ?_⟩
      · exact ea2.trans z1
      · exact eb2.trans z2
    · rw [if_neg e, x1] at z1
      rw [if_neg e, y1] at z2
      exact e (wf.2 i o hi ho (z1.trans ox.symm) (z2.trans oy.symm))
end CD


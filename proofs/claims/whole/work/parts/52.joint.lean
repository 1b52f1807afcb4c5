/-! ===== class and reference side by side ===== -/
theorem btE_cong {L : Nat} {b c : Nat → Int32} (h : ∀ i, i < L → b i = c i) : btE L b = btE L c := by
  funext i
  unfold btE
  by_cases q : i < L
  · rw [if_pos q, if_pos q, h i q]
  · rw [if_neg q, if_neg q]
theorem carB_cong {L : Nat} {b c : Nat → Int32} (h : ∀ i, i < L → b i = c i) : carB L b = carB L c := by
  have e := btE_cong h
  funext k j
  unfold carB
  rw [e]
theorem steB_cong {L : Nat} {b c : Nat → Int32} (h : ∀ i, i < L → b i = c i) : steB L b = steB L c := by
  have e := btE_cong h
  funext k j
  unfold steB
  rw [e]
theorem parT_cong {z : Nat} {g : Nat → Nat} {L : Nat} {b c : Nat → Int32} (h : btE L b = btE L c) : ∀ f k, parT z g L b f k = parT z g L c f k
  | 0, _ => rfl
  | f + 1, k => by
    rw [parT, parT, h, parT_cong h f (k + 1)]
theorem parC_cong {L : Nat} {b c : Nat → Int32} (h : ∀ i, i < L → b i = c i) : parC L b = parC L c := by
  have e := btE_cong h
  have e2 : goodC L b = goodC L c := by
    funext k
    unfold goodC
    rw [carB_cong h]
  unfold parC
  rw [e2, parT_cong e]
theorem parS_cong {L : Nat} {b c : Nat → Int32} (h : ∀ i, i < L → b i = c i) : parS L b = parS L c := by
  have e := btE_cong h
  have e2 : goodS L b = goodS L c := by
    funext k
    unfold goodS
    rw [e]
  unfold parS
  rw [e2, parT_cong e]
theorem takB_false {X Y : Nat → Int32} {x y : Int32} : ∀ n, takB X Y x y n = false → ∀ k, k < n → ¬ (X k = x ∧ Y k = y)
  | 0, _, k, hk => absurd hk (Nat.not_lt_zero _)
  | n + 1, h, k, hk => by
    rw [takB, Bool.or_eq_false_iff] at h
    rcases Nat.lt_succ_iff_lt_or_eq.mp hk with h1 | rfl
    · exact takB_false n h.1 k h1
    · exact of_decide_eq_false h.2
theorem way3 {b : Int32} (h : wayB b ≠ -1) : 0 ≤ wayB b ∧ wayB b ≤ 3 := by
  unfold wayB at h ⊢
  by_cases h0 : b = 101
  · rw [if_pos h0]; decide
  · rw [if_neg h0] at h ⊢
    by_cases h1 : b = 110
    · rw [if_pos h1]; decide
    · rw [if_neg h1] at h ⊢
      by_cases h2 : b = 119
      · rw [if_pos h2]; decide
      · rw [if_neg h2] at h ⊢
        by_cases h3 : b = 115
        · rw [if_pos h3]; decide
        · rw [if_neg h3] at h
          exact absurd rfl h
/-- what a text tells of a car that is well -/
theorem carB_ok {L : Nat} {b : Nat → Int32} {k : Nat} (h : k < (parC L b).2) : six (carB L b k 1) ∧ six (carB L b k 2) ∧ (0 ≤ carB L b k 3 ∧ carB L b k 3 ≤ 3) ∧ takB (fun i => carB L b i 1) (fun i => carB L b i 2) (carB L b k 1) (carB L b k 2) k = false := by
  have g := parC_good h
  unfold goodC at g
  by_cases c1 : k = 8 ∨ carB L b k 0 = -1
  · rw [if_pos c1] at g; exact absurd g (by decide)
  rw [if_neg c1] at g
  by_cases c2 : ¬ six (carB L b k 1)
  · rw [if_pos c2] at g; exact absurd g (by decide)
  rw [if_neg c2] at g
  by_cases c3 : ¬ six (carB L b k 2) ∨ takB (fun i => carB L b i 1) (fun i => carB L b i 2) (carB L b k 1) (carB L b k 2) k = true
  · rw [if_pos c3] at g; exact absurd g (by decide)
  rw [if_neg c3] at g
  by_cases c4 : carB L b k 3 = -1
  · rw [if_pos c4] at g; exact absurd g (by decide)
  have c2 := Decidable.not_not.mp c2
  have c5 : six (carB L b k 2) := Decidable.not_not.mp (fun q => c3 (Or.inl q))
  refine ⟨c2, c5, way3 c4, ?_⟩
  cases q : takB (fun i => carB L b i 1) (fun i => carB L b i 2) (carB L b k 1) (carB L b k 2) k with
  | false => rfl
  | true => exact absurd (Or.inr q) c3
theorem Dt_wf (σ : mS) (L0 L1 e : Nat) : wfD (Dt σ L0 L1 e) := by
  refine ⟨parC_n L0 (tx σ 0), Dt_st σ L0 L1 e, fun k hk => ?_, fun i j hi hj e1 e2 => ?_⟩
  · obtain ⟨a, b, c, -⟩ := carB_ok hk
    exact ⟨a, b, c⟩
  · rcases Nat.lt_trichotomy i j with q | q | q
    · exact absurd ⟨e1, e2⟩ (takB_false j (carB_ok hj).2.2.2 i q)
    · exact q
    · exact absurd ⟨e1.symm, e2.symm⟩ (takB_false i (carB_ok hi).2.2.2 j q)
-- ===== a car has at most three points a moment =====
theorem into_pts (n : Nat) (wt : Nat → Int32) (k o : Nat) (w : Int32) (r : RS) : (intoR n wt k o w r).2.2.2.1 = r.2.2.2.1 := by
  unfold intoR
  split <;> rfl
theorem drive_pts (n : Nat) (c : Nat → Nat → Int32) (k : Nat) (mo : Int32) (r : RS) (i : Nat) : ∃ q, q ≤ 3 ∧ (driveR n c k mo r).2.2.2.1 i = r.2.2.2.1 i + nI q ∧ (i ≠ k → q = 0) := by
  unfold driveR driveW
  split
  · exact ⟨0, by decide, (Int32.add_zero _).symm, fun _ => rfl⟩
  · split
    · exact ⟨0, by decide, (Int32.add_zero _).symm, fun _ => rfl⟩
    · unfold rInto
      rw [into_pts]
      show ∃ q, q ≤ 3 ∧ upd r.2.2.2.1 k _ i = r.2.2.2.1 i + nI q ∧ (i ≠ k → q = 0)
      rw [upd_at]
      by_cases e : i = k
      · subst e
        rw [if_pos rfl]
        split
        · exact ⟨3, by decide, rfl, fun q => absurd rfl q⟩
        · split
          · exact ⟨1, by decide, rfl, fun q => absurd rfl q⟩
          · exact ⟨2, by decide, rfl, fun q => absurd rfl q⟩
      · rw [if_neg e]
        exact ⟨0, by decide, (Int32.add_zero _).symm, fun _ => rfl⟩
theorem all_pts (n : Nat) (c : Nat → Nat → Int32) (mo cut : Int32) (r : RS) (i : Nat) : ∀ k, ∃ q, q ≤ 3 ∧ (driveAll n c mo cut r k).2.2.2.1 i = r.2.2.2.1 i + nI q ∧ (k ≤ i → q = 0)
  | 0 => ⟨0, by decide, (Int32.add_zero _).symm, fun _ => rfl⟩
  | k + 1 => by
    obtain ⟨q, h1, h2, h3⟩ := all_pts n c mo cut r i k
    unfold driveAll
    split
    · exact ⟨q, h1, h2, fun z => h3 (by omega)⟩
    · obtain ⟨u, g1, g2, g3⟩ := drive_pts n c k mo (driveAll n c mo cut r k) i
      by_cases e : i = k
      · have q0 : q = 0 := h3 (by omega)
        subst q0
        refine ⟨u, g1, ?_, fun z => absurd z (by omega)⟩
        rw [g2, h2]
        show _ + nI 0 + nI u = _
        rw [show nI 0 = 0 from rfl, Int32.add_zero]
      · have u0 := g3 e
        subst u0
        refine ⟨q, h1, ?_, fun z => h3 (by omega)⟩
        rw [g2, h2]
        show _ + nI 0 = _
        rw [show nI 0 = 0 from rfl, Int32.add_zero]
theorem run_pts (D : Deb) (i : Nat) : ∀ t, ∃ q, q ≤ 3 * t ∧ (RSt D t).2.2.2.1 i = nI q
  | 0 => ⟨0, Nat.le_refl _, rfl⟩
  | t + 1 => by
    obtain ⟨q, h1, h2⟩ := run_pts D i t
    rw [RSt]
    unfold goR
    split
    · obtain ⟨u, g1, g2, -⟩ := all_pts D.1.1 D.1.2 (nI t) (cutD D (nI t) (RSt D t).2.2.2.2.2.2.1) (readyR D (nI t) (RSt D t)) i D.1.1
      refine ⟨q + u, by omega, ?_⟩
      rw [g2]
      show (RSt D t).2.2.2.1 i + nI u = _
      rw [h2, nI_add]
    · exact ⟨q, by omega, h2⟩
theorem nar_small : ∀ q, q < 100 → (nI q).toInt8.toInt32 = nI q ∧ (nI q).toInt16.toInt32 = nI q := by decide +kernel
theorem nar_pts (D : Deb) (i t : Nat) (ht : t ≤ 24) (f : Int32) : narF f ((RSt D t).2.2.2.1 i) = (RSt D t).2.2.2.1 i := by
  obtain ⟨q, h1, h2⟩ := run_pts D i t
  obtain ⟨g1, g2⟩ := nar_small q (by omega)
  rw [h2]
  unfold narF
  split
  · exact g1
  · split
    · exact g2
    · rfl
-- ===== the relation =====
def jT (L : Nat → Nat) (s : mS) : Prop := okL s L ∧ okT s L ∧ ∀ j, j < 2 → ∀ i, i < L j → s.1 (1 + 2 * j + 1) i = s.1 113 (47 * j + i) ∧ ∃ v, v < 256 ∧ s.1 113 (47 * j + i) = nI v
def jE (e : Nat) (s : mS) : Prop := s.1 111 12 = nI e ∧ s.1 30 3 = nI e ∧ e ≤ 8 ∧ ∀ i, i < e → s.1 31 i = s.1 122 i ∧ s.1 32 i = s.1 123 i ∧ s.1 33 i = s.1 124 i ∧ fitE (s.1 122 i) (s.1 123 i) (s.1 124 i)
def jS (z : Nat) (s : mS) : Prop := s.1 111 41 = nI z ∧ s.1 34 4 = nI z ∧ z ≤ 8 ∧ ∀ i, i < z → s.1 35 i = s.1 143 i ∧ s.1 36 i = s.1 144 i ∧ s.1 37 i = s.1 145 i ∧ s.1 38 i = s.1 146 i ∧ wI (s.1 143 i) 24 ∧ wI (s.1 144 i) 8
def jH (S : Nat → Nat) (s : mS) : Prop := okH s S ∧ okG s (s.1 148) S ∧ ∀ j, j < 4 → s.1 45 j = s.1 149 j ∧ ∀ i, i < 60 → s.1 (41 + j) i = s.1 151 (60 * j + i)
def jC (s : mS) : Prop := s.1 39 3 = s.1 111 52 ∧ s.1 5 1 = 8 ∧ s.1 5 2 = 5 ∧ s.1 15 1 = 12 ∧ s.1 15 2 = 3
/-- it isn't read yet, or it is read and run -/
def jR (L : Nat → Nat) (e : Nat) (s : mS) : Prop := s.1 0 10 = 1 ∨ setP (Dt s (L 0) (L 1) e) (parC (L 0) (tx s 0)).1 (parS (L 1) (tx s 1)).1 s
def J (s : mS) : Prop := ∃ (L : Nat → Nat) (e z : Nat) (S : Nat → Nat), jT L s ∧ jE e s ∧ jS z s ∧ jH S s ∧ jC s ∧ jR L e s
theorem jT.eq {L : Nat → Nat} {s s1 : mS} (h : jT L s) (k : ∀ y z, ((1 ≤ y ∧ y ≤ 4) ∨ y = 112 ∨ y = 113) → s1.1 y z = s.1 y z) : jT L s1 := by
  obtain ⟨h1, h2, h3⟩ := h
  refine ⟨fun j hj => ?_, fun j hj => ?_, fun j hj i hi => ?_⟩
  · rw [k 112 j (by omega)]; exact h1 j hj
  · rw [k _ 1 (by omega)]; exact h2 j hj
  · rw [k _ i (by omega), k 113 _ (by omega)]; exact h3 j hj i hi
theorem jE.eq {e : Nat} {s s1 : mS} (h : jE e s) (k : ∀ y z, ((30 ≤ y ∧ y ≤ 33) ∨ (y = 111 ∧ z = 12) ∨ (122 ≤ y ∧ y ≤ 124)) → s1.1 y z = s.1 y z) : jE e s1 := by
  obtain ⟨h1, h2, h3, h4⟩ := h
  refine ⟨(k _ _ (by omega)).trans h1, (k _ _ (by omega)).trans h2, h3, fun i hi => ?_⟩
  rw [k 31 i (by omega), k 32 i (by omega), k 33 i (by omega), k 122 i (by omega), k 123 i (by omega), k 124 i (by omega)]
  exact h4 i hi
theorem jS.eq {z : Nat} {s s1 : mS} (h : jS z s) (k : ∀ y w, ((34 ≤ y ∧ y ≤ 38) ∨ (y = 111 ∧ w = 41) ∨ (143 ≤ y ∧ y ≤ 146)) → s1.1 y w = s.1 y w) : jS z s1 := by
  obtain ⟨h1, h2, h3, h4⟩ := h
  refine ⟨(k _ _ (by omega)).trans h1, (k _ _ (by omega)).trans h2, h3, fun i hi => ?_⟩
  rw [k 35 i (by omega), k 36 i (by omega), k 37 i (by omega), k 38 i (by omega), k 143 i (by omega), k 144 i (by omega), k 145 i (by omega), k 146 i (by omega)]
  exact h4 i hi
theorem jH.eq {S : Nat → Nat} {s s1 : mS} (h : jH S s) (k : ∀ y z, ((40 ≤ y ∧ y ≤ 46) ∨ (148 ≤ y ∧ y ≤ 151)) → s1.1 y z = s.1 y z) : jH S s1 := by
  obtain ⟨h1, h2, h3⟩ := h
  refine ⟨fun j hj => ?_, fun j hj => ?_, fun j hj => ⟨?_, fun i hi => ?_⟩⟩
  · rw [k 148 j (by omega), k 150 j (by omega)]; exact h1 j hj
  · rw [k 46 j (by omega), k 148 j (by omega)]; exact h2 j hj
  · rw [k 45 j (by omega), k 149 j (by omega)]; exact (h3 j hj).1
  · rw [k _ i (by omega), k 151 _ (by omega)]; exact (h3 j hj).2 i hi
theorem jC.eq {s s1 : mS} (h : jC s) (k : ∀ y z, ((y = 39 ∧ z = 3) ∨ (y = 111 ∧ z = 52) ∨ ((y = 5 ∨ y = 15) ∧ (z = 1 ∨ z = 2))) → s1.1 y z = s.1 y z) : jC s1 := by
  obtain ⟨h1, h2, h3, h4, h5⟩ := h
  exact ⟨by rw [k 39 3 (by omega), k 111 52 (by omega)]; exact h1, (k _ _ (by omega)).trans h2, (k _ _ (by omega)).trans h3, (k _ _ (by omega)).trans h4, (k _ _ (by omega)).trans h5⟩
theorem setP.eq {D : Deb} {f0 f1 : Int32} {s s1 : mS} (h : setP D f0 f1 s) (k : ∀ y z, (y = 0 ∨ (5 ≤ y ∧ y ≤ 33) ∨ (47 ≤ y ∧ y ≤ 109)) → s1.1 y z = s.1 y z) : setP D f0 f1 s1 := by
  have f : fW (fun y z => ¬ (y = 0 ∨ (5 ≤ y ∧ y ≤ 33) ∨ (47 ≤ y ∧ y ≤ 109))) s (s1.1, s.2) := ⟨rfl, fun y z => by
    by_cases q : y = 0 ∨ (5 ≤ y ∧ y ≤ 33) ∨ (47 ≤ y ∧ y ≤ 109)
    · exact Or.inr (k y z q)
    · exact Or.inl q⟩
  have h12 := h.s12
  have h2 : setP D f0 f1 (s1.1, s.2) := h.trW f (fun y z h => by omega)
  exact h2
/-- what is told to the reference, of the rows that tell it -/
theorem Dt_eq {s s1 : mS} (k : ∀ y z, (y = 113 ∨ (122 ≤ y ∧ y ≤ 124)) → s1.1 y z = s.1 y z) (L0 L1 e : Nat) : Dt s1 L0 L1 e = Dt s L0 L1 e ∧ tx s1 0 = tx s 0 ∧ tx s1 1 = tx s 1 := by
  have t : ∀ j, tx s1 j = tx s j := fun j => funext (fun i => k 113 _ (by omega))
  have ev : evF s1 = evF s := by
    funext i j
    unfold evF
    by_cases q : j < 3
    · rw [if_pos q, if_pos q, k _ _ (by omega)]
    · rw [if_neg q, if_neg q]
  refine ⟨?_, t 0, t 1⟩
  unfold Dt
  rw [t, t, ev]
theorem jR.eq {L : Nat → Nat} {e : Nat} {s s1 : mS} (h : jR L e s) (k : ∀ y z, (y = 0 ∨ (5 ≤ y ∧ y ≤ 33) ∨ (47 ≤ y ∧ y ≤ 109) ∨ y = 113 ∨ (122 ≤ y ∧ y ≤ 124)) → s1.1 y z = s.1 y z) : jR L e s1 := by
  obtain ⟨d1, d2, d3⟩ := Dt_eq (fun y z h => k y z (by omega)) (L 0) (L 1) e
  rcases h with h | h
  · exact Or.inl ((k _ _ (by omega)).trans h)
  · refine Or.inr ?_
    rw [d1, d2, d3]
    exact h.eq (fun y z h => k y z (by omega))
def mkA (L : Nat → Nat) (e z : Nat) (s : mS) : PA := ((L 0, L 1, e, z), Dt s (L 0) (L 1) e, seF s, (parC (L 0) (tx s 0)).1, (parS (L 1) (tx s 1)).1, s.1 111 52)
theorem jo {L : Nat → Nat} {e z : Nat} {s : mS} (h1 : jT L s) (h2 : jE e s) (h3 : jS z s) : oA (mkA L e z s) s := by
  refine ⟨⟨(h1.1 0 (by decide)).1, (h1.1 0 (by decide)).2, (h1.1 1 (by decide)).1, (h1.1 1 (by decide)).2, h2.1, h2.2.2.1⟩, ⟨h3.1, h3.2.2.1, fun i hi => ?_⟩, rfl, rfl, rfl, rfl, rfl⟩
  obtain ⟨-, -, -, -, a, b⟩ := h3.2.2.2 i hi
  exact ⟨wI_of (by decide) a, wI_of (by decide) b⟩
theorem jc {L : Nat → Nat} {e z : Nat} {s : mS} (h1 : jT L s) (h2 : jE e s) (h3 : jS z s) (h5 : jC s) (h6 : jR L e s) : cA True (mkA L e z s) s := by
  have c0 : ∀ i, i < L 0 → s.1 2 i = tx s 0 i := fun i hi => (h1.2.2 0 (by decide) i hi).1
  have c1 : ∀ i, i < L 1 → s.1 4 i = tx s 1 i := fun i hi => (h1.2.2 1 (by decide) i hi).1
  refine ⟨⟨⟨(h1.2.1 0 (by decide)).1, (h1.2.1 0 (by decide)).2, fun i hi => ?_⟩, ⟨(h1.2.1 1 (by decide)).1, (h1.2.1 1 (by decide)).2, fun i hi => ?_⟩, ⟨parC_cong c0, carB_cong c0⟩, ⟨parS_cong c1, steB_cong c1⟩, h5.2, ⟨Dt_wf _ _ _ _, rfl, rfl, ⟨h2.2.2.1, fun i hi => ?_⟩⟩, ⟨h2.2.1, fun i hi => ?_⟩, ⟨h3.2.1, h3.2.2.1, fun i hi => ?_⟩, h5.1⟩, h6.imp_left (fun q => ⟨trivial, q⟩)⟩
  · obtain ⟨e1, v, hv, e2⟩ := h1.2.2 0 (by decide) i hi
    exact ⟨v, hv, e1.trans e2⟩
  · obtain ⟨e1, v, hv, e2⟩ := h1.2.2 1 (by decide) i hi
    exact ⟨v, hv, e1.trans e2⟩
  · obtain ⟨-, -, -, a, -, c⟩ := h2.2.2.2 i hi
    refine ⟨?_, wI_of (by decide) c⟩
    obtain ⟨j, hj, ej⟩ := wI_of (by decide) a
    show s.1 122 i = 0 ∨ s.1 122 i = 1
    rw [ej]
    rcases (show j = 0 ∨ j = 1 by omega) with rfl | rfl
    · exact Or.inl rfl
    · exact Or.inr rfl
  · obtain ⟨a, b, c, -⟩ := h2.2.2.2 i hi
    exact ⟨a, b, c⟩
  · obtain ⟨a, b, c, d, p, q⟩ := h3.2.2.2 i hi
    exact ⟨a, b, c, d, wI_of (by decide) p, wI_of (by decide) q⟩
theorem seF_eq2 {s s1 : mS} (k : ∀ y z, (143 ≤ y ∧ y ≤ 146) → s1.1 y z = s.1 y z) : seF s1 = seF s := seF_eq (fun y h1 h2 => funext (fun z => k y z ⟨h1, h2⟩))
theorem oA.fr {a : PA} {s s1 : mS} (h : oA a s) (k : ∀ y z, 111 ≤ y → s1.1 y z = s.1 y z) : oA a s1 := by
  obtain ⟨⟨a1, a2, a3, a4, a5, a6⟩, ⟨b1, b2, b3⟩, c, d, e, f, g⟩ := h
  obtain ⟨d1, d2, d3⟩ := Dt_eq (s := s) (s1 := s1) (fun y z h => k y z (by omega)) a.1.1 a.1.2.1 (aE a)
  refine ⟨⟨(k _ _ (by omega)).trans a1, a2, (k _ _ (by omega)).trans a3, a4, (k _ _ (by omega)).trans a5, a6⟩, ⟨(k _ _ (by omega)).trans b1, b2, fun i hi => ?_⟩, d1.trans c, (seF_eq2 (fun y z h => k y z (by omega))).trans d, by rw [d2]; exact e, by rw [d3]; exact f, (k _ _ (by omega)).trans g⟩
  rw [k 143 i (by omega), k 144 i (by omega)]
  exact b3 i hi
/-- behind a question that changed nothing that is told -/
theorem J_q {L : Nat → Nat} {e z : Nat} {S : Nat → Nat} {s s1 s2 : mS} (h1 : jT L s) (h2 : jE e s) (h3 : jS z s) (h4 : jH S s) (h5 : jC s) (A : cA True (mkA L e z s) s1) (f1 : ∀ y w, wQ y w ∨ s1.1 y w = s.1 y w) (f2 : fW wScr s1 s2) : J s2 := by
  have k : ∀ y w, ¬ wQ y w → ¬ wScr y w → s2.1 y w = s.1 y w := fun y w q1 q2 => (f2.at q2).trans ((f1 y w).resolve_left q1)
  refine ⟨L, e, z, S, h1.eq (fun y w h => k y w (by omega) (by omega)), h2.eq (fun y w h => k y w (by omega) (by omega)), h3.eq (fun y w h => k y w (by omega) (by omega)), h4.eq (fun y w h => k y w (by omega) (by omega)), h5.eq (fun y w h => k y w (by omega) (by omega)), ?_⟩
  obtain ⟨d1, d2, d3⟩ := Dt_eq (s := s) (s1 := s2) (fun y w h => k y w (by omega) (by omega)) (L 0) (L 1) e
  rcases A.2 with ⟨-, q⟩ | q
  · exact Or.inl ((f2.at (by omega)).trans q)
  · refine Or.inr ?_
    rw [d1, d2, d3]
    exact setP.eq q (fun y w h => f2.at (by omega))
section JP
variable {G : mG} {l : Launch} {d : Nat} {σ : mS} {μc μr : mM} {As : List Value}
/-- both are called alike, and answer alike -/
def pI (G : mG) (l : Launch) (d : Nat) (μc μr : mM) (As : List Value) (s : mS) : Prop := mMet G l d μc (.ref 0 :: As) s (qIP (fun r s1 => mMet G l d μr (.ref 111 :: As) s1 (qIP (fun r2 s2 => r2 = r ∧ J s2))))
def pL (G : mG) (l : Launch) (d : Nat) (μc μr : mM) (As : List Value) (s : mS) : Prop := mMet G l d μc (.ref 0 :: As) s (qLP (fun r s1 => mMet G l d μr (.ref 111 :: As) s1 (qLP (fun r2 s2 => r2 = r ∧ J s2))))
theorem pq {f : PA → Int32} (h : J σ) (hc : ∀ a, cA True a σ → mMet G l d μc (.ref 0 :: As) σ (qC True a σ (f a))) (hr : ∀ a s1, oA a s1 → mMet G l d μr (.ref 111 :: As) s1 (qA a s1 (f a))) : pI G l d μc μr As σ := by
  obtain ⟨L, e, z, S, h1, h2, h3, h4, h5, h6⟩ := h
  refine mMet.conseq (hc _ (jc h1 h2 h3 h5 h6)) ?_
  rintro v s1 ⟨r, rfl, e1, A1, f1⟩
  refine ⟨r, rfl, mMet.conseq (hr _ s1 ((jo h1 h2 h3).fr (fun y w h => f1.at (by omega)))) ?_⟩
  rintro v s2 ⟨r2, rfl, e2, -, f2⟩
  exact ⟨r2, rfl, e2.trans e1.symm, J_q h1 h2 h3 h4 h5 A1 f1.2 f2⟩
theorem pqL {f : PA → Int64} (h : J σ) (hc : ∀ a, cA True a σ → mMet G l d μc (.ref 0 :: As) σ (qLP (fun r s => r = f a ∧ cA True a s ∧ ∀ y z, wQ y z ∨ s.1 y z = σ.1 y z))) (hr : ∀ a s1, oA a s1 → mMet G l d μr (.ref 111 :: As) s1 (qLA a s1 (f a))) : pL G l d μc μr As σ := by
  obtain ⟨L, e, z, S, h1, h2, h3, h4, h5, h6⟩ := h
  refine mMet.conseq (hc _ (jc h1 h2 h3 h5 h6)) ?_
  rintro v s1 ⟨r, rfl, e1, A1, f1⟩
  refine ⟨r, rfl, mMet.conseq (hr _ s1 ((jo h1 h2 h3).fr (fun y w h => (f1 y w).resolve_left (by omega)))) ?_⟩
  rintro v s2 ⟨r2, rfl, e2, -, f2⟩
  exact ⟨r2, rfl, e2.trans e1.symm, J_q h1 h2 h3 h4 h5 A1 f1 f2⟩
theorem b_fault (hd : 11 ≤ d) (h : J σ) (t : Int32) : pI G l d kX10_fault kX11_fault [.int t] σ := pq (f := fun a => anFault a t) h (fun a A => k_fault (by omega) A t) (fun a s A => r_fault (by omega) A t)
theorem b_car (hd : 11 ≤ d) (h : J σ) (k w : Int32) : pI G l d kX10_car kX11_car [.int k, .int w] σ := pq (f := fun a => anCar a k w) h (fun a A => k_car (by omega) A k w) (fun a s A => r_car (by omega) A k w)
theorem b_steer (hd : 11 ≤ d) (h : J σ) (i w : Int32) : pI G l d kX10_steer kX11_steer [.int i, .int w] σ := pq (f := fun a => anSteer a i w) h (fun a A => k_steer (by omega) A i w) (fun a s A => r_steer (by omega) A i w)
theorem b_at (hd : 11 ≤ d) (h : J σ) (m k w : Int32) : pI G l d kX10_at kX11_at [.int m, .int k, .int w] σ := pq (f := fun a => anAt a m k w) h (fun a A => k_at (by omega) A m k w) (fun a s A => r_at (by omega) A m k w)
theorem b_who (hd : 11 ≤ d) (h : J σ) (m x y : Int32) : pI G l d kX10_who kX11_who [.int m, .int x, .int y] σ := pq (f := fun a => anWho a m x y) h (fun a A => k_who (by omega) A m x y) (fun a s A => r_who (by omega) A m x y)
theorem b_house (hd : 11 ≤ d) (h : J σ) (m w : Int32) : pI G l d kX10_house kX11_house [.int m, .int w] σ := pq (f := fun a => anHouse a m w) h (fun a A => k_house (by omega) A m w) (fun a s A => r_house (by omega) A m w)
theorem b_strikes (hd : 11 ≤ d) (h : J σ) : pI G l d kX10_strikes kX11_strikes [] σ := pq (f := fun a => (RSt (aD a) 24).2.2.2.2.2.2.2.1) h (fun a A => k_strikes (by omega) A) (fun a s A => r_strikes (by omega) A)
theorem b_first (hd : 11 ≤ d) (h : J σ) (w : Int32) : pI G l d kX10_first kX11_first [.int w] σ := pq (f := fun a => anFirst a w) h (fun a A => k_first (by omega) A w) (fun a s A => r_first (by omega) A w)
theorem b_best (hd : 11 ≤ d) (h : J σ) : pI G l d kX10_best kX11_best [] σ := pq (f := fun a => beA (aD a)) h (fun a A => k_best (by omega) A) (fun a s A => r_best (by omega) A)
theorem b_meek (hd : 11 ≤ d) (h : J σ) : pI G l d kX10_meek kX11_meek [] σ := pq (f := fun a => meekD (aD a)) h (fun a A => k_meek (by omega) A) (fun a s A => r_meek (by omega) A)
theorem b_jam (hd : 11 ≤ d) (h : J σ) (w : Int32) : pI G l d kX10_jam kX11_jam [.int w] σ := pq (f := fun a => anJam a w) h (fun a A => k_jam (by omega) A w) (fun a s A => r_jam (by omega) A w)
theorem b_carried (hd : 11 ≤ d) (h : J σ) : pI G l d kX10_carried kX11_carried [] σ := pq (f := fun a => caA (aD a)) h (fun a A => k_carried (by omega) A) (fun a s A => r_carried (by omega) A)
theorem b_stand (hd : 11 ≤ d) (h : J σ) (k w : Int32) : pI G l d kX10_stand kX11_stand [.int k, .int w] σ := pq (f := fun a => anStand a k w) h (fun a A => k_stand (by omega) A k w) (fun a s A => r_stand (by omega) A k w)
theorem b_better (hd : 11 ≤ d) (h : J σ) (k m w : Int32) : pI G l d kX10_better kX11_better [.int k, .int m, .int w] σ := pq (f := fun a => anBetter a k m w) h (fun a A => k_better (by omega) A k m w) (fun a s A => r_better (by omega) A k m w)
theorem b_ring (hd : 11 ≤ d) (h : J σ) (w : Int32) : pI G l d kX10_ring kX11_ring [.int w] σ := pq (f := fun a => anRing a w) h (fun a A => k_ring (by omega) A w) (fun a s A => r_ring (by omega) A w)
theorem b_spare (hd : 11 ≤ d) (h : J σ) (i : Int32) : pI G l d kX10_spare kX11_spare [.int i] σ := pq (f := fun a => anSpare a i) h (fun a A => k_spare (by omega) A i) (fun a s A => r_spare (by omega) A i)
theorem b_never (hd : 11 ≤ d) (h : J σ) : pI G l d kX10_never kX11_never [] σ := pq (f := fun a => nvP (aD a) (aZ a) (aW a) (aE a)) h (fun a A => k_never (by omega) A) (fun a s A => r_never (by omega) A)
theorem b_was (hd : 11 ≤ d) (h : J σ) (k w : Int32) : pI G l d kX10_was kX11_was [.int k, .int w] σ := pq (f := fun a => anWas a k w) h (fun a A => k_was (by omega) A k w) (fun a s A => r_was (by omega) A k w)
theorem b_ask (hd : 11 ≤ d) (h : J σ) (k : Int32) : pI G l d kX10_ask kX11_ask [.int k] σ := pq (f := fun a => anAsk a k) h (fun a A => k_ask (by omega) A k) (fun a s A => r_ask (by omega) A k)
theorem b_ages (hd : 11 ≤ d) (h : J σ) (x n w : Int32) : pI G l d kX10_ages kX11_ages [.int x, .int n, .int w] σ := pq (f := fun a => anAges a x n w) h (fun a A => k_ages (by omega) A x n w) (fun a s A => r_ages (by omega) A x n w)
theorem b_count (hd : 11 ≤ d) (h : J σ) (w : Int32) : pI G l d kX10_count kX11_count [.int w] σ := pq (f := fun a => cnB a w) h (fun a A => k_count (by omega) A w) (fun a s A => a_count (by omega) A w)
theorem b_chance (hd : 11 ≤ d) (h : J σ) (c k w : Int32) : pL G l d kX10_chance kX11_chance [.int c, .int k, .int w] σ := pqL (f := fun a => anChance a c k w) h (fun a A => mMet.conseq (k_chance (by omega) A c k w) (fun v s h => by obtain ⟨r, h1, h2, h3, h4⟩ := h; exact ⟨r, h1, h2, h3, h4.2⟩)) (fun a s A => r_chance (by omega) A c k w)
theorem b_digest (hd : 11 ≤ d) (h : J σ) : pL G l d kX10_digest kX11_digest [] σ := pqL (f := fun a => dgA a) h (fun a A => k_digest (by omega) A) (fun a s A => a_digest (by omega) A)
end JP


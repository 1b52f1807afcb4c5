/-! ===== both are told alike ===== -/
section JQ
variable {G : mG} {l : Launch} {d : Nat} {σ : mS}
theorem us_un {s : mS} {a b y z : Nat} {v : Int32} (h : ¬ (y = a ∧ z = b)) : (us s a b v).1 y z = s.1 y z := by rw [us_at, if_neg h]
theorem us_hit {s : mS} {a b : Nat} {v : Int32} : (us s a b v).1 a b = v := by rw [us_at, if_pos ⟨rfl, rfl⟩]
theorem b_type (hd : 11 ≤ d) (h : J σ) (t b : Int32) : pI G l d kX10_type kX11_type [.int t, .int b] σ := by
  obtain ⟨L, e, z, S, h1, h2, h3, h4, h5, h6⟩ := h
  refine mMet.conseq (k_type (by omega) L h1.2.1 t b) ?_
  rintro v s1 ⟨r, rfl, e1, e2⟩
  by_cases g : wI t 2 ∧ wI b 256 ∧ L (cN t) ≠ 47
  rotate_left
  · rw [if_neg g] at e2
    subst e2
    refine ⟨r, rfl, mMet.conseq (r_type (by omega) L h1.1 t b) ?_⟩
    rintro v s2 ⟨r2, rfl, e3, e4⟩
    rw [if_neg g] at e4
    subst e4
    exact ⟨r2, rfl, e3.trans e1.symm, L, e, z, S, h1, h2, h3, h4, h5, h6⟩
  rw [if_pos g] at e2
  obtain ⟨j, hj, rfl⟩ := wI_of (by decide) g.1
  obtain ⟨bv, hbv, rfl⟩ := wI_of (by decide) g.2.1
  have cj : cN (nI j) = j := clN (by omega)
  have f1 : fW (fun y z => (y = 0 ∧ z = 10) ∨ (y = 1 + 2 * j ∧ z = 1) ∨ (y = 1 + 2 * j + 1 ∧ z = L j)) σ s1 := by
    rw [e2, cj]; exact fW.us (by omega) (fW.us (by omega) (fW.us (by omega) fW.rf))
  have i1 : s1.1 0 10 = 1 := by rw [e2]; exact us_hit
  have i2 : s1.1 (1 + 2 * j) 1 = nI (L j + 1) := by rw [e2, cj, us_un (by omega)]; exact us_hit
  have i3 : s1.1 (1 + 2 * j + 1) (L j) = nI bv := by rw [e2, cj, us_un (by omega), us_un (by omega)]; exact us_hit
  clear e2
  have hL : okL s1 L := fun q hq => by rw [f1.at (by omega)]; exact h1.1 q hq
  refine ⟨r, rfl, mMet.conseq (r_type (by omega) L hL (nI j) (nI bv)) ?_⟩
  rintro v s2 ⟨r2, rfl, e3, e4⟩
  rw [if_pos g] at e4
  have lj := (h1.1 j hj).2
  have l47 : L j ≠ 47 := by have := g.2.2; rw [cj] at this; exact this
  have f2 : fW (fun y z => (y = 112 ∧ z = j) ∨ (y = 113 ∧ z = 47 * j + L j)) s1 s2 := by
    rw [e4, cj]; exact fW.us (by omega) (fW.us (by omega) fW.rf)
  have i4 : s2.1 112 j = nI (L j + 1) := by rw [e4, cj]; exact us_hit
  have i5 : s2.1 113 (47 * j + L j) = nI bv := by rw [e4, cj, us_un (by omega)]; exact us_hit
  clear e4
  have k : ∀ y z, ¬ ((y = 0 ∧ z = 10) ∨ (y = 1 + 2 * j ∧ z = 1) ∨ (y = 1 + 2 * j + 1 ∧ z = L j) ∨ (y = 112 ∧ z = j) ∨ (y = 113 ∧ z = 47 * j + L j)) → s2.1 y z = σ.1 y z := fun y z q => (f2.at (by omega)).trans (f1.at (by omega))
  refine ⟨r2, rfl, e3.trans e1.symm, fun q => if q = j then L j + 1 else L q, e, z, S, ⟨fun q hq => ?_, fun q hq => ?_, fun q hq i hi => ?_⟩, h2.eq (fun y w h => k y w (by omega)), h3.eq (fun y w h => k y w (by omega)), h4.eq (fun y w h => k y w (by omega)), h5.eq (fun y w h => k y w (by omega)), Or.inl ((f2.at (by omega)).trans i1)⟩
  · by_cases c : q = j
    · subst c
      show s2.1 112 q = nI (if q = q then L q + 1 else L q) ∧ (if q = q then L q + 1 else L q) ≤ 47
      rw [if_pos rfl]
      exact ⟨i4, by omega⟩
    · show s2.1 112 q = nI (if q = j then L j + 1 else L q) ∧ (if q = j then L j + 1 else L q) ≤ 47
      rw [if_neg c, k _ _ (by omega)]
      exact h1.1 q hq
  · by_cases c : q = j
    · subst c
      show s2.1 (1 + 2 * q) 1 = nI (if q = q then L q + 1 else L q) ∧ (if q = q then L q + 1 else L q) ≤ 47
      rw [if_pos rfl]
      exact ⟨(f2.at (by omega)).trans i2, by omega⟩
    · show s2.1 (1 + 2 * q) 1 = nI (if q = j then L j + 1 else L q) ∧ (if q = j then L j + 1 else L q) ≤ 47
      rw [if_neg c, k _ _ (by omega)]
      exact h1.2.1 q hq
  · have hi : i < if q = j then L j + 1 else L q := hi
    by_cases c : q = j
    · subst c
      rw [if_pos rfl] at hi
      by_cases ci : i = L q
      · subst ci
        rw [i5, f2.at (by omega), i3]
        exact ⟨rfl, bv, hbv, rfl⟩
      · rw [k _ _ (by omega), k _ _ (by omega)]
        exact h1.2.2 q hq i (by omega)
    · rw [if_neg c] at hi
      have lq := (h1.1 q hq).2
      rw [k _ _ (by omega), k _ _ (by omega)]
      exact h1.2.2 q hq i hi
theorem b_wipe (hd : 11 ≤ d) (h : J σ) (t : Int32) : pI G l d kX10_wipe kX11_wipe [.int t] σ := by
  obtain ⟨L, e, z, S, h1, h2, h3, h4, h5, h6⟩ := h
  refine mMet.conseq (k_wipe (by omega) L h1.2.1 t) ?_
  rintro v s1 ⟨r, rfl, e1, e2⟩
  by_cases g : wI t 2
  rotate_left
  · rw [if_neg g] at e2
    subst e2
    refine ⟨r, rfl, mMet.conseq (r_wipe (by omega) L h1.1 t) ?_⟩
    rintro v s2 ⟨r2, rfl, e3, e4⟩
    rw [if_neg g] at e4
    subst e4
    exact ⟨r2, rfl, e3.trans e1.symm, L, e, z, S, h1, h2, h3, h4, h5, h6⟩
  rw [if_pos g] at e2
  obtain ⟨j, hj, rfl⟩ := wI_of (by decide) g
  have cj : cN (nI j) = j := clN (by omega)
  have f1 : fW (fun y z => (y = 0 ∧ z = 10) ∨ (y = 1 + 2 * j ∧ z = 1)) σ s1 := by
    rw [e2, cj]; exact fW.us (by omega) (fW.us (by omega) fW.rf)
  have i1 : s1.1 0 10 = 1 := by rw [e2]; exact us_hit
  have i2 : s1.1 (1 + 2 * j) 1 = 0 := by rw [e2, cj, us_un (by omega)]; exact us_hit
  clear e2
  have hL : okL s1 L := fun q hq => by rw [f1.at (by omega)]; exact h1.1 q hq
  refine ⟨r, rfl, mMet.conseq (r_wipe (by omega) L hL (nI j)) ?_⟩
  rintro v s2 ⟨r2, rfl, e3, e4⟩
  rw [if_pos g] at e4
  have f2 : fW (fun y z => y = 112 ∧ z = j) s1 s2 := by
    rw [e4, cj]; exact fW.us ⟨rfl, rfl⟩ fW.rf
  have i4 : s2.1 112 j = 0 := by rw [e4, cj]; exact us_hit
  clear e4
  have k : ∀ y z, ¬ ((y = 0 ∧ z = 10) ∨ (y = 1 + 2 * j ∧ z = 1) ∨ (y = 112 ∧ z = j)) → s2.1 y z = σ.1 y z := fun y z q => (f2.at (by omega)).trans (f1.at (by omega))
  refine ⟨r2, rfl, e3.trans e1.symm, fun q => if q = j then 0 else L q, e, z, S, ⟨fun q hq => ?_, fun q hq => ?_, fun q hq i hi => ?_⟩, h2.eq (fun y w h => k y w (by omega)), h3.eq (fun y w h => k y w (by omega)), h4.eq (fun y w h => k y w (by omega)), h5.eq (fun y w h => k y w (by omega)), Or.inl ((f2.at (by omega)).trans i1)⟩
  · show s2.1 112 q = nI (if q = j then 0 else L q) ∧ (if q = j then 0 else L q) ≤ 47
    by_cases c : q = j
    · rw [if_pos c, c]
      exact ⟨i4, by omega⟩
    · rw [if_neg c, k _ _ (by omega)]
      exact h1.1 q hq
  · show s2.1 (1 + 2 * q) 1 = nI (if q = j then 0 else L q) ∧ (if q = j then 0 else L q) ≤ 47
    by_cases c : q = j
    · rw [if_pos c, c]
      exact ⟨(f2.at (by omega)).trans i2, by omega⟩
    · rw [if_neg c, k _ _ (by omega)]
      exact h1.2.1 q hq
  · have hi : i < if q = j then 0 else L q := hi
    by_cases c : q = j
    · rw [if_pos c] at hi
      exact absurd hi (Nat.not_lt_zero _)
    · rw [if_neg c] at hi
      rw [k _ _ (by omega), k _ _ (by omega)]
      exact h1.2.2 q hq i hi
theorem b_undo (hd : 11 ≤ d) (h : J σ) (t : Int32) : pI G l d kX10_undo kX11_undo [.int t] σ := by
  obtain ⟨L, e, z, S, h1, h2, h3, h4, h5, h6⟩ := h
  refine mMet.conseq (k_undo (by omega) L h1.2.1 t) ?_
  rintro v s1 ⟨r, rfl, e1, e2⟩
  by_cases g : wI t 2 ∧ L (cN t) ≠ 0
  rotate_left
  · rw [if_neg g] at e2
    subst e2
    refine ⟨r, rfl, mMet.conseq (r_undo (by omega) L h1.1 t) ?_⟩
    rintro v s2 ⟨r2, rfl, e3, e4⟩
    rw [if_neg g] at e4
    subst e4
    exact ⟨r2, rfl, e3.trans e1.symm, L, e, z, S, h1, h2, h3, h4, h5, h6⟩
  rw [if_pos g] at e2
  obtain ⟨j, hj, rfl⟩ := wI_of (by decide) g.1
  have cj : cN (nI j) = j := clN (by omega)
  have f1 : fW (fun y z => (y = 0 ∧ z = 10) ∨ (y = 1 + 2 * j ∧ z = 1)) σ s1 := by
    rw [e2, cj]; exact fW.us (by omega) (fW.us (by omega) fW.rf)
  have i1 : s1.1 0 10 = 1 := by rw [e2]; exact us_hit
  have i2 : s1.1 (1 + 2 * j) 1 = nI (L j - 1) := by rw [e2, cj, us_un (by omega)]; exact us_hit
  clear e2
  have hL : okL s1 L := fun q hq => by rw [f1.at (by omega)]; exact h1.1 q hq
  refine ⟨r, rfl, mMet.conseq (r_undo (by omega) L hL (nI j)) ?_⟩
  rintro v s2 ⟨r2, rfl, e3, e4⟩
  rw [if_pos g] at e4
  have lj := (h1.1 j hj).2
  have f2 : fW (fun y z => y = 112 ∧ z = j) s1 s2 := by
    rw [e4, cj]; exact fW.us ⟨rfl, rfl⟩ fW.rf
  have i4 : s2.1 112 j = nI (L j - 1) := by rw [e4, cj]; exact us_hit
  clear e4
  have k : ∀ y z, ¬ ((y = 0 ∧ z = 10) ∨ (y = 1 + 2 * j ∧ z = 1) ∨ (y = 112 ∧ z = j)) → s2.1 y z = σ.1 y z := fun y z q => (f2.at (by omega)).trans (f1.at (by omega))
  refine ⟨r2, rfl, e3.trans e1.symm, fun q => if q = j then L j - 1 else L q, e, z, S, ⟨fun q hq => ?_, fun q hq => ?_, fun q hq i hi => ?_⟩, h2.eq (fun y w h => k y w (by omega)), h3.eq (fun y w h => k y w (by omega)), h4.eq (fun y w h => k y w (by omega)), h5.eq (fun y w h => k y w (by omega)), Or.inl ((f2.at (by omega)).trans i1)⟩
  · show s2.1 112 q = nI (if q = j then L j - 1 else L q) ∧ (if q = j then L j - 1 else L q) ≤ 47
    by_cases c : q = j
    · rw [if_pos c, c]
      exact ⟨i4, by omega⟩
    · rw [if_neg c, k _ _ (by omega)]
      exact h1.1 q hq
  · show s2.1 (1 + 2 * q) 1 = nI (if q = j then L j - 1 else L q) ∧ (if q = j then L j - 1 else L q) ≤ 47
    by_cases c : q = j
    · rw [if_pos c, c]
      exact ⟨(f2.at (by omega)).trans i2, by omega⟩
    · rw [if_neg c, k _ _ (by omega)]
      exact h1.2.1 q hq
  · have hi : i < if q = j then L j - 1 else L q := hi
    have hi2 : i < L q := by
      by_cases c : q = j
      · rw [if_pos c] at hi; rw [c]; omega
      · rw [if_neg c] at hi; exact hi
    rw [k _ _ (by omega), k _ _ (by omega)]
    exact h1.2.2 q hq i hi2
theorem b_event (hd : 11 ≤ d) (h : J σ) (kd m c : Int32) : pI G l d kX10_event kX11_event [.int kd, .int m, .int c] σ := by
  obtain ⟨L, e, z, S, h1, h2, h3, h4, h5, h6⟩ := h
  have he8 := h2.2.2.1
  refine mMet.conseq (k_event (by omega) e h2.2.1 he8 kd m c) ?_
  rintro v s1 ⟨r, rfl, e1, e2⟩
  by_cases g : (wI kd 2 ∧ wI m 24 ∧ wI c 8) ∧ e ≠ 8
  rotate_left
  · rw [if_neg g] at e2
    subst e2
    refine ⟨r, rfl, mMet.conseq (r_event (by omega) e h2.1 he8 kd m c) ?_⟩
    rintro v s2 ⟨r2, rfl, e3, e4⟩
    rw [if_neg g] at e4
    subst e4
    exact ⟨r2, rfl, e3.trans e1.symm, L, e, z, S, h1, h2, h3, h4, h5, h6⟩
  rw [if_pos g] at e2
  have f1 : fW (fun y z => (y = 0 ∧ z = 10) ∨ (y = 30 ∧ z = 3) ∨ (31 ≤ y ∧ y ≤ 33 ∧ z = e)) σ s1 := by
    rw [e2]; exact fW.us (by omega) (fW.us (by omega) (fW.us (by omega) (fW.us (by omega) (fW.us (by omega) fW.rf))))
  have i1 : s1.1 0 10 = 1 := by rw [e2]; exact us_hit
  have i2 : s1.1 30 3 = nI (e + 1) := by rw [e2, us_un (by omega)]; exact us_hit
  have i3 : s1.1 33 e = c := by rw [e2, us_un (by omega), us_un (by omega)]; exact us_hit
  have i4 : s1.1 32 e = m := by rw [e2, us_un (by omega), us_un (by omega), us_un (by omega)]; exact us_hit
  have i5 : s1.1 31 e = kd := by rw [e2, us_un (by omega), us_un (by omega), us_un (by omega), us_un (by omega)]; exact us_hit
  clear e2
  refine ⟨r, rfl, mMet.conseq (r_event (by omega) e ((f1.at (by omega)).trans h2.1) he8 kd m c) ?_⟩
  rintro v s2 ⟨r2, rfl, e3, e4⟩
  rw [if_pos g] at e4
  have f2 : fW (fun y z => (y = 111 ∧ z = 12) ∨ (122 ≤ y ∧ y ≤ 124 ∧ z = e)) s1 s2 := by
    rw [e4]; exact fW.us (by omega) (fW.us (by omega) (fW.us (by omega) (fW.us (by omega) fW.rf)))
  have n2 : s2.1 111 12 = nI (e + 1) := by rw [e4]; exact us_hit
  have n3 : s2.1 124 e = c := by rw [e4, us_un (by omega)]; exact us_hit
  have n4 : s2.1 123 e = m := by rw [e4, us_un (by omega), us_un (by omega)]; exact us_hit
  have n5 : s2.1 122 e = kd := by rw [e4, us_un (by omega), us_un (by omega), us_un (by omega)]; exact us_hit
  clear e4
  have k : ∀ y z, ¬ ((y = 0 ∧ z = 10) ∨ (y = 30 ∧ z = 3) ∨ (31 ≤ y ∧ y ≤ 33 ∧ z = e) ∨ (y = 111 ∧ z = 12) ∨ (122 ≤ y ∧ y ≤ 124 ∧ z = e)) → s2.1 y z = σ.1 y z := fun y z q => (f2.at (by omega)).trans (f1.at (by omega))
  refine ⟨r2, rfl, e3.trans e1.symm, L, e + 1, z, S, h1.eq (fun y w h => k y w (by omega)), ⟨n2, (f2.at (by omega)).trans i2, by omega, fun i hi => ?_⟩, h3.eq (fun y w h => k y w (by omega)), h4.eq (fun y w h => k y w (by omega)), h5.eq (fun y w h => k y w (by omega)), Or.inl ((f2.at (by omega)).trans i1)⟩
  by_cases ci : i = e
  · subst ci
    rw [n3, n4, n5, f2.at (by omega), f2.at (by omega), f2.at (by omega), i3, i4, i5]
    exact ⟨rfl, rfl, rfl, g.1⟩
  · rw [k 31 i (by omega), k 32 i (by omega), k 33 i (by omega), k 122 i (by omega), k 123 i (by omega), k 124 i (by omega)]
    exact h2.2.2.2 i (by omega)
theorem b_back (hd : 11 ≤ d) (h : J σ) : pI G l d kX10_back kX11_back [] σ := by
  obtain ⟨L, e, z, S, h1, h2, h3, h4, h5, h6⟩ := h
  have he8 := h2.2.2.1
  refine mMet.conseq (k_back e h2.2.1 he8) ?_
  rintro v s1 ⟨r, rfl, e1, e2⟩
  by_cases g : e ≠ 0
  rotate_left
  · rw [if_neg g] at e2
    subst e2
    refine ⟨r, rfl, mMet.conseq (r_back e h2.1 he8) ?_⟩
    rintro v s2 ⟨r2, rfl, e3, e4⟩
    rw [if_neg g] at e4
    subst e4
    exact ⟨r2, rfl, e3.trans e1.symm, L, e, z, S, h1, h2, h3, h4, h5, h6⟩
  rw [if_pos g] at e2
  have f1 : fW (fun y z => (y = 0 ∧ z = 10) ∨ (y = 30 ∧ z = 3)) σ s1 := by
    rw [e2]; exact fW.us (by omega) (fW.us (by omega) fW.rf)
  have i1 : s1.1 0 10 = 1 := by rw [e2]; exact us_hit
  have i2 : s1.1 30 3 = nI (e - 1) := by rw [e2, us_un (by omega)]; exact us_hit
  clear e2
  refine ⟨r, rfl, mMet.conseq (r_back e ((f1.at (by omega)).trans h2.1) he8) ?_⟩
  rintro v s2 ⟨r2, rfl, e3, e4⟩
  rw [if_pos g] at e4
  have f2 : fW (fun y z => y = 111 ∧ z = 12) s1 s2 := by
    rw [e4]; exact fW.us ⟨rfl, rfl⟩ fW.rf
  have n2 : s2.1 111 12 = nI (e - 1) := by rw [e4]; exact us_hit
  clear e4
  have k : ∀ y z, ¬ ((y = 0 ∧ z = 10) ∨ (y = 30 ∧ z = 3) ∨ (y = 111 ∧ z = 12)) → s2.1 y z = σ.1 y z := fun y z q => (f2.at (by omega)).trans (f1.at (by omega))
  refine ⟨r2, rfl, e3.trans e1.symm, L, e - 1, z, S, h1.eq (fun y w h => k y w (by omega)), ⟨n2, (f2.at (by omega)).trans i2, by omega, fun i hi => ?_⟩, h3.eq (fun y w h => k y w (by omega)), h4.eq (fun y w h => k y w (by omega)), h5.eq (fun y w h => k y w (by omega)), Or.inl ((f2.at (by omega)).trans i1)⟩
  rw [k 31 i (by omega), k 32 i (by omega), k 33 i (by omega), k 122 i (by omega), k 123 i (by omega), k 124 i (by omega)]
  exact h2.2.2.2 i (by omega)
theorem b_seen (hd : 11 ≤ d) (h : J σ) (m c x y : Int32) : pI G l d kX10_seen kX11_seen [.int m, .int c, .int x, .int y] σ := by
  obtain ⟨L, e, z, S, h1, h2, h3, h4, h5, h6⟩ := h
  have hz8 := h3.2.2.1
  refine mMet.conseq (k_seen (by omega) z h3.2.1 hz8 m c x y) ?_
  rintro v s1 ⟨r, rfl, e1, e2⟩
  by_cases g : (wI m 24 ∧ wI c 8 ∧ wI x 6 ∧ wI y 6) ∧ z ≠ 8
  rotate_left
  · rw [if_neg g] at e2
    subst e2
    refine ⟨r, rfl, mMet.conseq (r_seen (by omega) z h3.1 hz8 m c x y) ?_⟩
    rintro v s2 ⟨r2, rfl, e3, e4⟩
    rw [if_neg g] at e4
    subst e4
    exact ⟨r2, rfl, e3.trans e1.symm, L, e, z, S, h1, h2, h3, h4, h5, h6⟩
  rw [if_pos g] at e2
  have f1 : fW (fun a b => (a = 34 ∧ b = 4) ∨ (35 ≤ a ∧ a ≤ 38 ∧ b = z)) σ s1 := by
    rw [e2]; exact fW.us (by omega) (fW.us (by omega) (fW.us (by omega) (fW.us (by omega) (fW.us (by omega) fW.rf))))
  have i2 : s1.1 34 4 = nI (z + 1) := by rw [e2]; exact us_hit
  have i3 : s1.1 38 z = y := by rw [e2, us_un (by omega)]; exact us_hit
  have i4 : s1.1 37 z = x := by rw [e2, us_un (by omega), us_un (by omega)]; exact us_hit
  have i5 : s1.1 36 z = c := by rw [e2, us_un (by omega), us_un (by omega), us_un (by omega)]; exact us_hit
  have i6 : s1.1 35 z = m := by rw [e2, us_un (by omega), us_un (by omega), us_un (by omega), us_un (by omega)]; exact us_hit
  clear e2
  refine ⟨r, rfl, mMet.conseq (r_seen (by omega) z ((f1.at (by omega)).trans h3.1) hz8 m c x y) ?_⟩
  rintro v s2 ⟨r2, rfl, e3, e4⟩
  rw [if_pos g] at e4
  have f2 : fW (fun a b => (a = 111 ∧ b = 41) ∨ (143 ≤ a ∧ a ≤ 146 ∧ b = z)) s1 s2 := by
    rw [e4]; exact fW.us (by omega) (fW.us (by omega) (fW.us (by omega) (fW.us (by omega) (fW.us (by omega) fW.rf))))
  have n2 : s2.1 111 41 = nI (z + 1) := by rw [e4]; exact us_hit
  have n3 : s2.1 146 z = y := by rw [e4, us_un (by omega)]; exact us_hit
  have n4 : s2.1 145 z = x := by rw [e4, us_un (by omega), us_un (by omega)]; exact us_hit
  have n5 : s2.1 144 z = c := by rw [e4, us_un (by omega), us_un (by omega), us_un (by omega)]; exact us_hit
  have n6 : s2.1 143 z = m := by rw [e4, us_un (by omega), us_un (by omega), us_un (by omega), us_un (by omega)]; exact us_hit
  clear e4
  have k : ∀ a b, ¬ ((a = 34 ∧ b = 4) ∨ (35 ≤ a ∧ a ≤ 38 ∧ b = z) ∨ (a = 111 ∧ b = 41) ∨ (143 ≤ a ∧ a ≤ 146 ∧ b = z)) → s2.1 a b = σ.1 a b := fun a b q => (f2.at (by omega)).trans (f1.at (by omega))
  refine ⟨r2, rfl, e3.trans e1.symm, L, e, z + 1, S, h1.eq (fun y w h => k y w (by omega)), h2.eq (fun y w h => k y w (by omega)), ⟨n2, (f2.at (by omega)).trans i2, by omega, fun i hi => ?_⟩, h4.eq (fun y w h => k y w (by omega)), h5.eq (fun y w h => k y w (by omega)), h6.eq (fun y w h => k y w (by omega))⟩
  by_cases ci : i = z
  · subst ci
    rw [n3, n4, n5, n6, f2.at (by omega), f2.at (by omega), f2.at (by omega), f2.at (by omega), i3, i4, i5, i6]
    exact ⟨rfl, rfl, rfl, rfl, g.1.1, g.1.2.1⟩
  · rw [k 35 i (by omega), k 36 i (by omega), k 37 i (by omega), k 38 i (by omega), k 143 i (by omega), k 144 i (by omega), k 145 i (by omega), k 146 i (by omega)]
    exact h3.2.2.2 i (by omega)
theorem b_forget (hd : 11 ≤ d) (h : J σ) : pI G l d kX10_forget kX11_forget [] σ := by
  obtain ⟨L, e, z, S, h1, h2, h3, h4, h5, h6⟩ := h
  refine mMet.conseq (k_forget z h3.2.1) ?_
  rintro v s1 ⟨r, rfl, e1, e2⟩
  have f1 : fW (fun a b => a = 34 ∧ b = 4) σ s1 := by rw [e2]; exact fW.us ⟨rfl, rfl⟩ fW.rf
  have i2 : s1.1 34 4 = 0 := by rw [e2]; exact us_hit
  clear e2
  refine ⟨r, rfl, mMet.conseq (r_forget z ((f1.at (by omega)).trans h3.1)) ?_⟩
  rintro v s2 ⟨r2, rfl, e3, e4⟩
  have f2 : fW (fun a b => a = 111 ∧ b = 41) s1 s2 := by rw [e4]; exact fW.us ⟨rfl, rfl⟩ fW.rf
  have n2 : s2.1 111 41 = 0 := by rw [e4]; exact us_hit
  clear e4
  have k : ∀ a b, ¬ ((a = 34 ∧ b = 4) ∨ (a = 111 ∧ b = 41)) → s2.1 a b = σ.1 a b := fun a b q => (f2.at (by omega)).trans (f1.at (by omega))
  exact ⟨r2, rfl, e3.trans e1.symm, L, e, 0, S, h1.eq (fun y w h => k y w (by omega)), h2.eq (fun y w h => k y w (by omega)), ⟨n2, (f2.at (by omega)).trans i2, by omega, fun i hi => absurd hi (Nat.not_lt_zero _)⟩, h4.eq (fun y w h => k y w (by omega)), h5.eq (fun y w h => k y w (by omega)), h6.eq (fun y w h => k y w (by omega))⟩
end JQ


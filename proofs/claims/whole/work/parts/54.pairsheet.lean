/-! ===== the sheets, side by side ===== -/
theorem lkS_eq {th f0 f1 : Nat → Int32} {S : Nat → Nat} {s f i : Int32} (h : wI s 4) (hf : ∀ j, j < 4 → f0 j = f1 j) : lkS th f0 S s f i = lkS th f1 S s f i := by
  obtain ⟨j, hj, rfl⟩ := wI_of (by decide) h
  unfold lkS
  rw [clN (by omega), hf j hj]
theorem cyS_eq {th f0 f1 : Nat → Int32} {S : Nat → Nat} {s t i j n : Int32} (h : wI s 4) (h2 : wI t 4) (hf : ∀ j, j < 4 → f0 j = f1 j) : cyS th f0 S s i t j n = cyS th f1 S s i t j n := by
  obtain ⟨u, hu, rfl⟩ := wI_of (by decide) h
  obtain ⟨v, hv, rfl⟩ := wI_of (by decide) h2
  unfold cyS
  rw [clN (show u < 1000 by omega), clN (show v < 1000 by omega), hf u hu, hf v hv]
theorem rdK_cong {n e : Nat} {it ju : Nat → Int32} (h : ∀ i, i < n → it i = ju i) : ∀ f k, rdK n e it f k = rdK n e ju f k
  | 0, _ => rfl
  | f + 1, k => by
    rw [rdK, rdK, rdK_cong h f (k + 1)]
    by_cases q : 3 * k + 2 < n
    · rw [h (3 * k) (by omega), h (3 * k + 1) (by omega), h (3 * k + 2) (by omega)]
    · rw [if_neg (fun z => q z.1), if_neg (fun z => q z.1)]
theorem rdK_in {n e : Nat} {it : Nat → Int32} : ∀ f k i, k ≤ i → i < rdK n e it f k → 3 * i + 2 < n
  | 0, k, i, h1, h2 => absurd h2 (by rw [rdK]; omega)
  | f + 1, k, i, h1, h2 => by
    rw [rdK] at h2
    by_cases q : 3 * k + 2 < n ∧ fitE (it (3 * k)) (it (3 * k + 1)) (it (3 * k + 2)) ∧ e + k < 8
    · rw [if_pos q] at h2
      by_cases c : i = k
      · subst c; exact q.1
      · exact rdK_in f (k + 1) i (by omega) h2
    · rw [if_neg q] at h2
      exact absurd h2 (by omega)
theorem J_find {L : Nat → Nat} {e z : Nat} {S : Nat → Nat} {s : mS} (h1 : jT L s) (h2 : jE e s) (h3 : jS z s) (h4 : jH S s) (h5 : jC s) (h6 : jR L e s) (n : Int32) : J (us (us s 39 3 n) 111 52 n) := by
  have k : ∀ y w, ¬ ((y = 39 ∧ w = 3) ∨ (y = 111 ∧ w = 52)) → (us (us s 39 3 n) 111 52 n).1 y w = s.1 y w := fun y w q => by rw [us_un (by omega), us_un (by omega)]
  refine ⟨L, e, z, S, h1.eq (fun y w h => k y w (by omega)), h2.eq (fun y w h => k y w (by omega)), h3.eq (fun y w h => k y w (by omega)), h4.eq (fun y w h => k y w (by omega)), ⟨?_, (k _ _ (by omega)).trans h5.2.1, (k _ _ (by omega)).trans h5.2.2.1, (k _ _ (by omega)).trans h5.2.2.2.1, (k _ _ (by omega)).trans h5.2.2.2.2⟩, h6.eq (fun y w h => k y w (by omega))⟩
  rw [us_un (by omega), us_hit, us_hit]
theorem jR_of {L : Nat → Nat} {e z : Nat} {s s1 s2 : mS} (A : cA True (mkA L e z s) s1) (k2 : ∀ y w, y ≤ 110 → (y < 34 ∨ 46 < y) → s2.1 y w = s1.1 y w) (kd : ∀ y w, (y = 113 ∨ (122 ≤ y ∧ y ≤ 124)) → s2.1 y w = s.1 y w) : jR L e s2 := by
  obtain ⟨d1, d2, d3⟩ := Dt_eq kd (L 0) (L 1) e
  rcases A.2 with ⟨-, q⟩ | q
  · exact Or.inl ((k2 _ _ (by omega) (by omega)).trans q)
  · refine Or.inr ?_
    rw [d1, d2, d3]
    exact setP.eq q (fun y w h => k2 y w (by omega) (by omega))
section JS
variable {G : mG} {l : Launch} {d : Nat} {σ : mS}
theorem b_sheet (hd : 11 ≤ d) (h : J σ) (s f n : Int32) : pI G l d kX10_sheet kX11_sheet [.int s, .int f, .int n] σ := by
  obtain ⟨L, e, z, S, h1, h2, h3, h4, h5, h6⟩ := h
  refine mMet.conseq (k_sheet (by omega) s f n) ?_
  rintro v s1 ⟨r, rfl, e1, c1, c2, c3⟩
  refine ⟨r, rfl, mMet.conseq (r_sheet (by omega) s f n) ?_⟩
  rintro v s2 ⟨r2, rfl, e2, d1, d2, d3⟩
  refine ⟨r2, rfl, e2.trans e1.symm, ?_⟩
  by_cases g : wI s 4 ∧ wI f 3 ∧ n ≤ 60
  rotate_left
  · rw [d1 g, c1 g]
    exact ⟨L, e, z, S, h1, h2, h3, h4, h5, h6⟩
  by_cases q : n < 0
  · rw [d2 g q, c2 g q]
    exact J_find h1 h2 h3 h4 h5 h6 5
  obtain ⟨i1, f1⟩ := c3 g q
  obtain ⟨i2, f2⟩ := d3 g q
  obtain ⟨j, hj, rfl⟩ := wI_of (by decide) g.1
  obtain ⟨m, hm, rfl⟩ := nI_of q
  have m60 : m ≤ 60 := (nI_leI (b := 60) hm (by decide)).mp g.2.2
  have cj : cN (nI j) = j := clN (by omega)
  rw [cj] at i1 i2 f1 f2
  have fa : fW (fun y z => y = 41 + j ∨ (y = 45 ∧ z = j) ∨ (y = 46 ∧ z = j)) σ s1 := (fW.us (by omega) (fW.us (by omega) fW.rf)).tr (f1.mono (fun y z h => by omega))
  have fb : fW (fun y z => (y = 148 ∧ z = j) ∨ (y = 149 ∧ z = j) ∨ (y = 150 ∧ z = j) ∨ (y = 151 ∧ 60 * j ≤ z ∧ z < 60 * j + 60)) s1 s2 := (fW.us (by omega) (fW.us (by omega) (fW.us (by omega) fW.rf))).tr (f2.mono (fun y z h => by omega))
  have a45 : s1.1 45 j = f := by rw [f1.at (by omega), us_un (by omega)]; exact us_hit
  have a46 : s1.1 46 j = nI m := by rw [f1.at (by omega)]; exact us_hit
  have b148 : s2.1 148 j = 1 := by rw [f2.at (by omega), us_un (by omega), us_un (by omega)]; exact us_hit
  have b149 : s2.1 149 j = f := by rw [f2.at (by omega), us_un (by omega)]; exact us_hit
  have b150 : s2.1 150 j = nI m := by rw [f2.at (by omega)]; exact us_hit
  have k : ∀ y w, ¬ (y = 41 + j ∨ (y = 45 ∧ w = j) ∨ (y = 46 ∧ w = j) ∨ (y = 148 ∧ w = j) ∨ (y = 149 ∧ w = j) ∨ (y = 150 ∧ w = j) ∨ (y = 151 ∧ 60 * j ≤ w ∧ w < 60 * j + 60)) → s2.1 y w = σ.1 y w := fun y w q => (fb.at (by omega)).trans (fa.at (by omega))
  refine ⟨L, e, z, fun q => if q = j then m else S q, h1.eq (fun y w h => k y w (by omega)), h2.eq (fun y w h => k y w (by omega)), h3.eq (fun y w h => k y w (by omega)), ⟨fun q hq => ?_, fun q hq => ?_, fun q hq => ⟨?_, fun i hi => ?_⟩⟩, h5.eq (fun y w h => k y w (by omega)), h6.eq (fun y w h => k y w (by omega))⟩
  · show (s2.1 148 q = 0 ∨ s2.1 148 q = 1) ∧ s2.1 150 q = nI (if q = j then m else S q) ∧ (if q = j then m else S q) ≤ 60
    by_cases c : q = j
    · rw [if_pos c, c]
      exact ⟨Or.inr b148, b150, m60⟩
    · rw [if_neg c, k _ _ (by omega), k _ _ (by omega)]
      exact h4.1 q hq
  · show s2.1 46 q = (if s2.1 148 q = 0 then -1 else nI (if q = j then m else S q)) ∧ (if q = j then m else S q) ≤ 60
    by_cases c : q = j
    · rw [if_pos c, c, b148, if_neg (by decide), fb.at (by omega)]
      exact ⟨a46, m60⟩
    · rw [if_neg c, k _ _ (by omega), k _ _ (by omega)]
      exact h4.2.1 q hq
  · by_cases c : q = j
    · rw [c, b149, fb.at (by omega), a45]
    · rw [k _ _ (by omega), k _ _ (by omega)]
      exact (h4.2.2 q hq).1
  · by_cases c : q = j
    · rw [c, i2 i hi, fb.at (by omega), i1 i hi]
    · rw [k _ _ (by omega), k _ _ (by omega)]
      exact (h4.2.2 q hq).2 i hi
theorem b_lose (hd : 11 ≤ d) (h : J σ) (s : Int32) : pI G l d kX10_lose kX11_lose [.int s] σ := by
  obtain ⟨L, e, z, S, h1, h2, h3, h4, h5, h6⟩ := h
  refine mMet.conseq (k_lose (by omega) (σ.1 148) S h4.2.1 s) ?_
  rintro v s1 ⟨r, rfl, e1, e2⟩
  have f1 : fW (fun y z => (y = 39 ∧ z = 3) ∨ y = 46) σ s1 := by
    rw [e2]
    split
    · split
      · exact fW.us (by omega) fW.rf
      · exact fW.us (by omega) fW.rf
    · exact fW.rf
  have R148 : s1.1 148 = σ.1 148 := f1.row (fun z => by omega)
  have hH : okH s1 S := fun j hj => by rw [f1.at (by omega), f1.at (by omega)]; exact h4.1 j hj
  refine ⟨r, rfl, mMet.conseq (r_lose (by omega) S hH s) ?_⟩
  rintro v s2 ⟨r2, rfl, e3, e4⟩
  rw [R148] at e3 e4
  refine ⟨r2, rfl, e3.trans e1.symm, ?_⟩
  clear f1 R148 hH
  by_cases g : wI s 4
  rotate_left
  · rw [if_neg g] at e4 e2
    rw [e4, e2]
    exact ⟨L, e, z, S, h1, h2, h3, h4, h5, h6⟩
  rw [if_pos g] at e4 e2
  by_cases q : σ.1 148 (cN s) = 0
  · rw [if_pos q] at e4 e2
    rw [e4, e2]
    exact J_find h1 h2 h3 h4 h5 h6 1
  rw [if_neg q] at e4 e2
  obtain ⟨j, hj, rfl⟩ := wI_of (by decide) g
  rw [clN (by omega)] at e2 e4 q
  have k : ∀ y w, ¬ ((y = 46 ∧ w = j) ∨ (y = 148 ∧ w = j)) → s2.1 y w = σ.1 y w := fun y w q => by rw [e4, us_un (by omega), e2, us_un (by omega)]
  have b148 : s2.1 148 j = 0 := by rw [e4]; exact us_hit
  have b46 : s2.1 46 j = -1 := by rw [e4, us_un (by omega), e2]; exact us_hit
  clear q
  refine ⟨L, e, z, S, h1.eq (fun y w h => k y w (by omega)), h2.eq (fun y w h => k y w (by omega)), h3.eq (fun y w h => k y w (by omega)), ⟨fun q hq => ?_, fun q hq => ?_, fun q hq => ⟨?_, fun i hi => ?_⟩⟩, h5.eq (fun y w h => k y w (by omega)), h6.eq (fun y w h => k y w (by omega))⟩
  · by_cases c : q = j
    · subst c
      rw [k 150 _ (by omega)]
      exact ⟨Or.inl b148, (h4.1 q hq).2⟩
    · rw [k _ _ (by omega), k _ _ (by omega)]
      exact h4.1 q hq
  · by_cases c : q = j
    · subst c
      rw [b148, if_pos rfl]
      exact ⟨b46, (h4.1 q hq).2.2⟩
    · rw [k _ _ (by omega), k _ _ (by omega)]
      exact h4.2.1 q hq
  · rw [k _ _ (by omega), k _ _ (by omega)]
    exact (h4.2.2 q hq).1
  · rw [k _ _ (by omega), k _ _ (by omega)]
    exact (h4.2.2 q hq).2 i hi
theorem b_put (hd : 11 ≤ d) (h : J σ) (s f i v : Int32) : pI G l d kX10_put kX11_put [.int s, .int f, .int i, .int v] σ := by
  obtain ⟨L, e, z, S, h1, h2, h3, h4, h5, h6⟩ := h
  refine mMet.conseq (k_put (by omega) (σ.1 148) S h4.2.1 s f i v) ?_
  rintro v9 s1 ⟨r, rfl, e1, e2⟩
  have f1 : fW (fun y z => y ≤ 110) σ s1 := by
    rw [e2]
    split
    · rename_i g
      obtain ⟨j, hj, ej⟩ := wI_of (by decide) g.1
      have cj : cN s < 4 := by rw [ej, clN (by omega)]; exact hj
      split
      · exact fW.us (by omega) fW.rf
      · exact fW.us (by omega) fW.rf
    · exact fW.rf
  have R148 : s1.1 148 = σ.1 148 := f1.row (fun z => by omega)
  have R149 : s1.1 149 = σ.1 149 := f1.row (fun z => by omega)
  have hH : okH s1 S := fun j hj => by rw [f1.at (by omega), f1.at (by omega)]; exact h4.1 j hj
  refine ⟨r, rfl, mMet.conseq (r_put (by omega) S hH s f i v) ?_⟩
  rintro v9 s2 ⟨r2, rfl, e3, e4⟩
  rw [R148, R149] at e3 e4
  clear f1 R148 R149 hH
  have hf : ∀ j, j < 4 → σ.1 149 j = σ.1 45 j := fun j hj => (h4.2.2 j hj).1.symm
  by_cases g : wI s 4 ∧ wI f 3
  rotate_left
  · refine ⟨r2, rfl, ?_, ?_⟩
    · rw [e3, e1]; unfold ptR; rw [if_neg g, if_neg g]
    · rw [if_neg g] at e4 e2
      rw [e4, e2]
      exact ⟨L, e, z, S, h1, h2, h3, h4, h5, h6⟩
  rw [if_pos g, lkS_eq g.1 hf] at e4
  rw [if_pos g] at e2
  refine ⟨r2, rfl, ?_, ?_⟩
  · rw [e3, e1]; unfold ptR; rw [if_pos g, if_pos g, lkS_eq g.1 hf]
  by_cases q : lkS (σ.1 148) (σ.1 45) S s f i = 0
  rotate_left
  · rw [if_neg q] at e4 e2
    rw [e4, e2]
    exact J_find h1 h2 h3 h4 h5 h6 _
  rw [if_pos q] at e4 e2
  obtain ⟨j, hj, rfl⟩ := wI_of (by decide) g.1
  have cj : cN (nI j) = j := clN (by omega)
  unfold lkS at q
  rw [cj] at e2 e4 q
  have hS60 := (h4.1 j hj).2.2
  obtain ⟨x, hx, rfl⟩ := wI_of (by omega) (lkF_0 q)
  rw [clN (show x < 1000 by omega)] at e2 e4
  rw [hf j hj] at e4
  have k : ∀ y w, ¬ ((y = 41 + j ∧ w = x) ∨ (y = 151 ∧ w = 60 * j + x)) → s2.1 y w = σ.1 y w := fun y w q => by rw [e4, us_un (by omega), e2, us_un (by omega)]
  have a1 : s2.1 151 (60 * j + x) = narF (σ.1 45 j) v := by rw [e4]; exact us_hit
  have a2 : s2.1 (41 + j) x = narF (σ.1 45 j) v := by rw [e4, us_un (by omega), e2]; exact us_hit
  refine ⟨L, e, z, S, h1.eq (fun y w h => k y w (by omega)), h2.eq (fun y w h => k y w (by omega)), h3.eq (fun y w h => k y w (by omega)), ⟨fun q hq => ?_, fun q hq => ?_, fun q hq => ⟨?_, fun i hi => ?_⟩⟩, h5.eq (fun y w h => k y w (by omega)), h6.eq (fun y w h => k y w (by omega))⟩
  · rw [k _ _ (by omega), k _ _ (by omega)]
    exact h4.1 q hq
  · rw [k _ _ (by omega), k _ _ (by omega)]
    exact h4.2.1 q hq
  · rw [k _ _ (by omega), k _ _ (by omega)]
    exact (h4.2.2 q hq).1
  · by_cases c : q = j ∧ i = x
    · rw [c.1, c.2, a1, a2]
    · rw [k _ _ (by omega), k _ _ (by omega)]
      exact (h4.2.2 q hq).2 i hi
theorem b_get (hd : 11 ≤ d) (h : J σ) (s f i : Int32) : pI G l d kX10_get kX11_get [.int s, .int f, .int i] σ := by
  obtain ⟨L, e, z, S, h1, h2, h3, h4, h5, h6⟩ := h
  refine mMet.conseq (k_get (by omega) (σ.1 148) S h4.2.1 s f i) ?_
  rintro v9 s1 ⟨r, rfl, e1, e2⟩
  have f1 : fW (fun y z => y = 39 ∧ z = 3) σ s1 := by
    rw [e2]
    split
    · split
      · exact fW.rf
      · exact fW.us ⟨rfl, rfl⟩ fW.rf
    · exact fW.rf
  have R148 : s1.1 148 = σ.1 148 := f1.row (fun z => by omega)
  have R149 : s1.1 149 = σ.1 149 := f1.row (fun z => by omega)
  have R151 : s1.1 151 = σ.1 151 := f1.row (fun z => by omega)
  have hH : okH s1 S := fun j hj => by rw [f1.at (by omega), f1.at (by omega)]; exact h4.1 j hj
  refine ⟨r, rfl, mMet.conseq (r_get (by omega) S hH s f i) ?_⟩
  rintro v9 s2 ⟨r2, rfl, e3, e4⟩
  rw [R148, R149, R151] at e3
  rw [R148, R149] at e4
  clear f1 R148 R149 R151 hH
  have hf : ∀ j, j < 4 → σ.1 149 j = σ.1 45 j := fun j hj => (h4.2.2 j hj).1.symm
  by_cases g : wI s 4 ∧ wI f 3
  rotate_left
  · refine ⟨r2, rfl, ?_, ?_⟩
    · rw [e3, e1]; unfold gtR; rw [if_neg g, if_neg g]
    · rw [if_neg g] at e4 e2
      rw [e4, e2]
      exact ⟨L, e, z, S, h1, h2, h3, h4, h5, h6⟩
  rw [if_pos g, lkS_eq g.1 hf] at e4
  rw [if_pos g] at e2
  by_cases q : lkS (σ.1 148) (σ.1 45) S s f i = 0
  rotate_left
  · refine ⟨r2, rfl, ?_, ?_⟩
    · rw [e3, e1]; unfold gtR; rw [if_pos g, if_pos g, lkS_eq g.1 hf, if_neg q, if_neg q]
    · rw [if_neg q] at e4 e2
      rw [e4, e2]
      exact J_find h1 h2 h3 h4 h5 h6 _
  refine ⟨r2, rfl, ?_, ?_⟩
  · rw [e3, e1]; unfold gtR; rw [if_pos g, if_pos g, lkS_eq g.1 hf, if_pos q, if_pos q]
    obtain ⟨j, hj, rfl⟩ := wI_of (by decide) g.1
    have cj : cN (nI j) = j := clN (by omega)
    unfold lkS at q
    rw [cj] at q ⊢
    have hS60 := (h4.1 j hj).2.2
    obtain ⟨x, hx, rfl⟩ := wI_of (by omega) (lkF_0 q)
    rw [clN (show x < 1000 by omega)]
    exact ((h4.2.2 j hj).2 x (by omega)).symm
  · rw [if_pos q] at e4 e2
    rw [e4, e2]
    exact ⟨L, e, z, S, h1, h2, h3, h4, h5, h6⟩
theorem b_copy (hd : 11 ≤ d) (h : J σ) (s i t j n : Int32) : pI G l d kX10_copy kX11_copy [.int s, .int i, .int t, .int j, .int n] σ := by
  obtain ⟨L, e, z, S, h1, h2, h3, h4, h5, h6⟩ := h
  refine mMet.conseq (k_copy (by omega) (σ.1 148) S h4.2.1 s i t j n) ?_
  rintro v9 s1 ⟨r, rfl, e1, c1, c2, c3⟩
  have f1 : fW (fun y z => y ≤ 110) σ s1 := by
    by_cases g : wI s 4 ∧ wI t 4
    rotate_left
    · rw [c1 g]; exact fW.rf
    obtain ⟨v, hv, ev⟩ := wI_of (by decide) g.2
    have cj : cN t < 4 := by rw [ev, clN (by omega)]; exact hv
    by_cases q : cyS (σ.1 148) (σ.1 45) S s i t j n = 0
    · exact (c3 g q).2.mono (fun y z h => by omega)
    · rw [c2 g q]; exact fW.us (by omega) fW.rf
  have R148 : s1.1 148 = σ.1 148 := f1.row (fun z => by omega)
  have R149 : s1.1 149 = σ.1 149 := f1.row (fun z => by omega)
  have R151 : s1.1 151 = σ.1 151 := f1.row (fun z => by omega)
  have hH : okH s1 S := fun j hj => by rw [f1.at (by omega), f1.at (by omega)]; exact h4.1 j hj
  refine ⟨r, rfl, mMet.conseq (r_copy (by omega) S hH s i t j n) ?_⟩
  rintro v9 s2 ⟨r2, rfl, e3, d1, d2, d3⟩
  rw [R148, R149] at e3 d2 d3
  rw [R151] at d3
  have hf : ∀ j, j < 4 → σ.1 149 j = σ.1 45 j := fun j hj => (h4.2.2 j hj).1.symm
  by_cases g : wI s 4 ∧ wI t 4
  rotate_left
  · refine ⟨r2, rfl, ?_, ?_⟩
    · rw [e3, e1]; unfold cyR; rw [if_neg g, if_neg g]
    · rw [d1 g, c1 g]
      exact ⟨L, e, z, S, h1, h2, h3, h4, h5, h6⟩
  have ec := cyS_eq (th := σ.1 148) (S := S) (i := i) (j := j) (n := n) g.1 g.2 hf
  rw [ec] at d2 d3
  refine ⟨r2, rfl, ?_, ?_⟩
  · rw [e3, e1]; unfold cyR; rw [if_pos g, if_pos g, ec]
  by_cases q : cyS (σ.1 148) (σ.1 45) S s i t j n = 0
  rotate_left
  · rw [d2 g q, c2 g q]
    exact J_find h1 h2 h3 h4 h5 h6 _
  obtain ⟨i1, fa⟩ := c3 g q
  obtain ⟨i2, fb⟩ := d3 g q
  clear c1 c2 c3 d1 d2 d3 f1 R148 R149 R151 hH ec e1 e3
  obtain ⟨u, hu, rfl⟩ := wI_of (by decide) g.1
  obtain ⟨v, hv, rfl⟩ := wI_of (by decide) g.2
  rw [clN (show u < 1000 by omega)] at i1 i2
  rw [clN (show v < 1000 by omega)] at i1 i2 fa fb
  have su := (h4.1 u hu).2.2
  have sv := (h4.1 v hv).2.2
  have ok : cpOK i n (S u) ∧ cpOK j n (S v) := by
    unfold cyS cpF at q
    rw [clN (show u < 1000 by omega), clN (show v < 1000 by omega)] at q
    by_cases q1 : σ.1 148 u = 0 ∨ σ.1 148 v = 0
    · rw [if_pos q1] at q; exact absurd q (by decide)
    rw [if_neg q1] at q
    by_cases q2 : σ.1 45 u = σ.1 45 v
    · rw [if_pos q2] at q
      by_cases q3 : cpOK i n (S u) ∧ cpOK j n (S v)
      · exact q3
      · rw [if_neg q3] at q; exact absurd q (by decide)
    · rw [if_neg q2] at q; exact absurd q (by decide)
  have o1 := ok.1.2.2
  have o2 := ok.2.2.2
  clear q
  generalize cN i = x at *
  generalize cN j = y at *
  generalize cN n = m at *
  have k : ∀ a b, ¬ ((a = 41 + v ∧ y ≤ b ∧ b < y + m) ∨ a = 152 ∨ (a = 151 ∧ 60 * v + y ≤ b ∧ b < 60 * v + y + m)) → s2.1 a b = σ.1 a b := fun a b q => (fb.at (by omega)).trans (fa.at (by omega))
  refine ⟨L, e, z, S, h1.eq (fun y w h => k y w (by omega)), h2.eq (fun y w h => k y w (by omega)), h3.eq (fun y w h => k y w (by omega)), ⟨fun q hq => ?_, fun q hq => ?_, fun q hq => ⟨?_, fun w hw => ?_⟩⟩, h5.eq (fun y w h => k y w (by omega)), h6.eq (fun y w h => k y w (by omega))⟩
  · rw [k _ _ (by omega), k _ _ (by omega)]
    exact h4.1 q hq
  · rw [k _ _ (by omega), k _ _ (by omega)]
    exact h4.2.1 q hq
  · rw [k _ _ (by omega), k _ _ (by omega)]
    exact (h4.2.2 q hq).1
  · by_cases c : q = v ∧ y ≤ w ∧ w < y + m
    · obtain ⟨rfl, c2, c3⟩ := c
      obtain ⟨a, rfl⟩ : ∃ a, w = y + a := ⟨w - y, by omega⟩
      have g1 := i1 a (by omega)
      have g2 := i2 a (by omega)
      rw [show 60 * q + (y + a) = 60 * q + y + a by omega, g2, fb.at (by omega), g1, show 60 * u + x + a = 60 * u + (x + a) by omega]
      exact (h4.2.2 u hu).2 (x + a) (by omega)
    · rw [k _ _ (by omega), k _ _ (by omega)]
      exact (h4.2.2 q hq).2 w hw
theorem b_read (hd : 11 ≤ d) (h : J σ) (s : Int32) : pI G l d kX10_read kX11_read [.int s] σ := by
  obtain ⟨L, e, z, S, h1, h2, h3, h4, h5, h6⟩ := h
  have he8 := h2.2.2.1
  refine mMet.conseq (k_read (by omega) (σ.1 148) S h4.2.1 e h2.2.1 he8 s) ?_
  rintro v9 s1 ⟨r, rfl, e1, c1, c2, c3⟩
  have f1 : fW (fun y z => y ≤ 110) σ s1 := by
    by_cases g : wI s 4
    rotate_left
    · rw [c1 g]; exact fW.rf
    by_cases q : σ.1 148 (cN s) = 0
    · rw [c2 g q]; exact fW.us (by omega) fW.rf
    · exact (c3 g q).2.2.2.mono (fun y z h => by omega)
  have R148 : s1.1 148 = σ.1 148 := f1.row (fun z => by omega)
  have R151 : s1.1 151 = σ.1 151 := f1.row (fun z => by omega)
  have hH : okH s1 S := fun j hj => by rw [f1.at (by omega), f1.at (by omega)]; exact h4.1 j hj
  refine ⟨r, rfl, mMet.conseq (r_read (by omega) S hH e ((f1.at (by omega)).trans h2.1) he8 s) ?_⟩
  rintro v9 s2 ⟨r2, rfl, e3, d1, d2, d3⟩
  rw [R148, R151] at e3
  rw [R148] at d2 d3
  rw [R151] at d3
  clear f1 R148 R151 hH
  unfold reR at e3
  by_cases g : wI s 4
  rotate_left
  · rw [if_neg g] at e1 e3
    refine ⟨r2, rfl, e3.trans e1.symm, ?_⟩
    rw [d1 g, c1 g]
    exact ⟨L, e, z, S, h1, h2, h3, h4, h5, h6⟩
  rw [if_pos g] at e1 e3
  by_cases q : σ.1 148 (cN s) = 0
  · rw [if_pos q] at e1 e3
    refine ⟨r2, rfl, e3.trans e1.symm, ?_⟩
    rw [d2 g q, c2 g q]
    exact J_find h1 h2 h3 h4 h5 h6 1
  rw [if_neg q] at e1 e3
  obtain ⟨st, i1, i2, fa⟩ := c3 g q
  obtain ⟨o8, i3, i4, fb⟩ := d3 g q
  clear c1 c2 c3 d1 d2 d3
  obtain ⟨j, hj, rfl⟩ := wI_of (by decide) g
  rw [clN (show j < 1000 by omega)] at e1 i1 i2 e3 o8 i3 i4
  have s60 := (h4.1 j hj).2.2
  have hit := (h4.2.2 j hj).2
  have eK : rdK (S j) e (fun i => σ.1 151 (60 * j + i)) 9 0 = rdK (S j) e (σ.1 (41 + j)) 9 0 := rdK_cong (fun i hi => (hit i (by omega)).symm) 9 0
  rw [eK] at e3 o8 i3 i4
  have hin : ∀ i, i < rdK (S j) e (σ.1 (41 + j)) 9 0 → 3 * i + 2 < S j := fun i hi => rdK_in 9 0 i (Nat.zero_le _) hi
  refine ⟨r2, rfl, e3.trans e1.symm, ?_⟩
  generalize rdK (S j) e (σ.1 (41 + j)) 9 0 = K at *
  have k : ∀ y w, ¬ ((y = 0 ∧ w = 10) ∨ (y = 30 ∧ w = 3) ∨ (31 ≤ y ∧ y ≤ 33 ∧ e ≤ w) ∨ (y = 111 ∧ w = 12) ∨ (122 ≤ y ∧ y ≤ 124 ∧ e ≤ w)) → s2.1 y w = σ.1 y w := fun y w q => (fb.at (by omega)).trans (fa.at (by omega))
  refine ⟨L, e + K, z, S, h1.eq (fun y w h => k y w (by omega)), ⟨i3, (fb.at (by omega)).trans i1, o8, fun i hi => ?_⟩, h3.eq (fun y w h => k y w (by omega)), h4.eq (fun y w h => k y w (by omega)), h5.eq (fun y w h => k y w (by omega)), Or.inl ((fb.at (by omega)).trans st)⟩
  by_cases ci : i < e
  · rw [k 31 i (by omega), k 32 i (by omega), k 33 i (by omega), k 122 i (by omega), k 123 i (by omega), k 124 i (by omega)]
    exact h2.2.2.2 i ci
  · obtain ⟨b, rfl⟩ : ∃ b, i = e + b := ⟨i - e, by omega⟩
    have hb : b < K := by omega
    have hb2 := hin b hb
    obtain ⟨p1, p2, p3⟩ := i2 b hb
    obtain ⟨q1, q2, q3, q4⟩ := i4 b hb
    have t1 : s2.1 31 (e + b) = s1.1 31 (e + b) := fb.at (by omega)
    have t2 : s2.1 32 (e + b) = s1.1 32 (e + b) := fb.at (by omega)
    have t3 : s2.1 33 (e + b) = s1.1 33 (e + b) := fb.at (by omega)
    rw [t1, t2, t3, p1, p2, p3, q1, q2, q3]
    exact ⟨hit _ (by omega), hit _ (by omega), hit _ (by omega), q4⟩
theorem b_write (hd : 11 ≤ d) (h : J σ) (c s : Int32) : pI G l d kX10_write kX11_write [.int c, .int s] σ := by
  obtain ⟨L, e, z, S, h1, h2, h3, h4, h5, h6⟩ := h
  have A0 := jc h1 h2 h3 h5 h6
  have O0 := jo h1 h2 h3
  refine mMet.conseq (k_write (by omega) A0 (σ.1 148) S h4.2.1 c s) ?_
  rintro v9 s1 ⟨r, rfl, e1, c1, c2, c3⟩
  have f1 : fW (fun y z => y ≤ 110) σ s1 := by
    by_cases g : wI c (aD (mkA L e z σ)).1.1 ∧ wI s 4
    rotate_left
    · exact (c1 g).2.mono (fun y z h => by omega)
    obtain ⟨j, hj, ej⟩ := wI_of (by decide) g.2
    have cj : cN s < 4 := by rw [ej, clN (by omega)]; exact hj
    by_cases q : σ.1 148 (cN s) = 0
    · obtain ⟨s9, -, f9, e9⟩ := c2 g q
      rw [e9]; exact fW.us (by omega) (f9.mono (fun y z h => by omega))
    · exact (c3 g q).2.2.mono (fun y z h => by omega)
  have R148 : s1.1 148 = σ.1 148 := f1.row (fun z => by omega)
  have R149 : s1.1 149 = σ.1 149 := f1.row (fun z => by omega)
  have hH : okH s1 S := fun j hj => by rw [f1.at (by omega), f1.at (by omega)]; exact h4.1 j hj
  refine ⟨r, rfl, mMet.conseq (r_write (by omega) (O0.fr (fun y w h => f1.at (by omega))) S hH c s) ?_⟩
  rintro v9 s2 ⟨r2, rfl, e3, d1, d2, d3⟩
  rw [R148] at e3 d2 d3
  refine ⟨r2, rfl, e3.trans e1.symm, ?_⟩
  clear R148 R149 hH e1 e3 O0
  by_cases g : wI c (aD (mkA L e z σ)).1.1 ∧ wI s 4
  rotate_left
  · exact J_q h1 h2 h3 h4 h5 (c1 g).1 (c1 g).2.2 (d1 g)
  by_cases q : σ.1 148 (cN s) = 0
  · obtain ⟨s8, A8, f8, e8⟩ := c2 g q
    obtain ⟨s9, f9, e9⟩ := d2 g q
    clear c1 c2 c3 d1 d2 d3
    have k : ∀ y w, ¬ wQ y w → ¬ wScr y w → ¬ ((y = 39 ∧ w = 3) ∨ (y = 111 ∧ w = 52)) → s2.1 y w = σ.1 y w := fun y w q1 q2 q3 => by
      rw [e9, us_un (by omega), f9.at q2, e8, us_un (by omega), f8.at q1]
    have k8 : ∀ y w, y ≤ 110 → ¬ (y = 39 ∧ w = 3) → s2.1 y w = s8.1 y w := fun y w q1 q2 => by
      rw [e9, us_un (by omega), f9.at (by omega), e8, us_un (by omega)]
    refine ⟨L, e, z, S, h1.eq (fun y w h => k y w (by omega) (by omega) (by omega)), h2.eq (fun y w h => k y w (by omega) (by omega) (by omega)), h3.eq (fun y w h => k y w (by omega) (by omega) (by omega)), h4.eq (fun y w h => k y w (by omega) (by omega) (by omega)), ⟨?_, (k _ _ (by omega) (by omega) (by omega)).trans h5.2.1, (k _ _ (by omega) (by omega) (by omega)).trans h5.2.2.1, (k _ _ (by omega) (by omega) (by omega)).trans h5.2.2.2.1, (k _ _ (by omega) (by omega) (by omega)).trans h5.2.2.2.2⟩, jR_of A8 (fun y w h1 h2 => k8 y w h1 (by omega)) (fun y w h => k y w (by omega) (by omega) (by omega))⟩
    rw [e9, us_hit, us_un (by omega), f9.at (by omega), e8, us_hit]
  obtain ⟨A8, i1, fa⟩ := c3 g q
  obtain ⟨i2, fb⟩ := d3 g q
  clear c1 c2 c3 d1 d2 d3 f1
  obtain ⟨j, hj, rfl⟩ := wI_of (by decide) g.2
  rw [clN (show j < 1000 by omega)] at i1 i2 fa fb
  have s60 := (h4.1 j hj).2.2
  have m60 : min (S j) 24 ≤ 60 := by omega
  have m24 : min (S j) 24 ≤ 24 := by omega
  have hI : ∀ i, i < min (S j) 24 → s2.1 151 (60 * j + i) = s1.1 (41 + j) i := fun i hi => by
    rw [i2 i hi, i1 i hi]
    exact nar_pts _ _ _ (by omega) _
  clear i1 i2
  generalize min (S j) 24 = M at *
  have k : ∀ y w, ¬ wQ y w → ¬ wScr y w → ¬ ((y = 41 + j ∧ w < M) ∨ (y = 151 ∧ 60 * j ≤ w ∧ w < 60 * j + M)) → s2.1 y w = σ.1 y w := fun y w q1 q2 q3 => (fb.at (by omega)).trans (fa.at (by omega))
  refine ⟨L, e, z, S, h1.eq (fun y w h => k y w (by omega) (by omega) (by omega)), h2.eq (fun y w h => k y w (by omega) (by omega) (by omega)), h3.eq (fun y w h => k y w (by omega) (by omega) (by omega)), ⟨fun q hq => ?_, fun q hq => ?_, fun q hq => ⟨?_, fun i hi => ?_⟩⟩, h5.eq (fun y w h => k y w (by omega) (by omega) (by omega)), jR_of A8 (fun y w h1 h2 => fb.at (by omega)) (fun y w h => k y w (by omega) (by omega) (by omega))⟩
  · rw [k _ _ (by omega) (by omega) (by omega), k _ _ (by omega) (by omega) (by omega)]
    exact h4.1 q hq
  · rw [k _ _ (by omega) (by omega) (by omega), k _ _ (by omega) (by omega) (by omega)]
    exact h4.2.1 q hq
  · rw [k _ _ (by omega) (by omega) (by omega), k _ _ (by omega) (by omega) (by omega)]
    exact (h4.2.2 q hq).1
  · by_cases cq : q = j ∧ i < M
    · obtain ⟨rfl, c2⟩ := cq
      rw [hI i c2, fb.at (by omega)]
    · rw [k _ _ (by omega) (by omega) (by omega), k _ _ (by omega) (by omega) (by omega)]
      exact (h4.2.2 q hq).2 i hi
end JS


/-! ===== the class: what it is told, and settle ===== -/
theorem outC.tr {R : Nat} {D : Deb} {s s1 : mS} {W : Nat → Nat → Prop} (h : outC R D s) (f : fW W s s1) (hw : ∀ y z, R ≤ y → y ≤ R + 17 → ¬ W y z) : outC R D s1 := by
  obtain ⟨⟨a5, a6, a7, a8, a9, an⟩, am⟩ := h
  have k : ∀ y z, R ≤ y → y ≤ R + 17 → s1.1 y z = s.1 y z := fun y z h1 h2 => f.at (hw y z h1 h2)
  refine ⟨⟨(k _ _ (by omega) (by omega)).trans a5, (k _ _ (by omega) (by omega)).trans a6, (k _ _ (by omega) (by omega)).trans a7, (k _ _ (by omega) (by omega)).trans a8, (k _ _ (by omega) (by omega)).trans a9, fun i hi => ?_⟩, fun t ht => ⟨(k _ _ (by omega) (by omega)).trans (am t ht).1, (k _ _ (by omega) (by omega)).trans (am t ht).2.1, fun i hi p hp => (k _ _ (by omega) (by omega)).trans ((am t ht).2.2 i hi p hp)⟩⟩
  obtain ⟨c1, c2, c3, c4, c5, c6⟩ := an i hi
  exact ⟨(k _ _ (by omega) (by omega)).trans c1, (k _ _ (by omega) (by omega)).trans c2, (k _ _ (by omega) (by omega)).trans c3, (k _ _ (by omega) (by omega)).trans c4, (k _ _ (by omega) (by omega)).trans c5, (k _ _ (by omega) (by omega)).trans c6⟩
/-- a text as the class holds it -/
def txC (T L : Nat) (s : mS) : Prop := s.1 T 1 = nI L ∧ L ≤ 47 ∧ ∀ i, i < L → ∃ v, v < 256 ∧ s.1 (T + 1) i = nI v
/-- what the class was told is what a says -/
def tolC (a : PA) (s : mS) : Prop := txC 1 a.1.1 s ∧ txC 3 a.1.2.1 s ∧
  (parC a.1.1 (s.1 2) = (a.2.2.2.1, (aD a).1.1) ∧ carB a.1.1 (s.1 2) = (aD a).1.2) ∧
  (parS a.1.2.1 (s.1 4) = (a.2.2.2.2.1, (aD a).2.1.1) ∧ steB a.1.2.1 (s.1 4) = (aD a).2.1.2) ∧
  (s.1 5 1 = 8 ∧ s.1 5 2 = 5 ∧ s.1 15 1 = 12 ∧ s.1 15 2 = 3) ∧
  (wfD (aD a) ∧ (aD a).2.2.2 = 0 ∧ (aD a).2.2.1.1 = aE a ∧ evOK (aD a).2.2.1.1 (aD a).2.2.1.2) ∧
  evrow 30 (aD a).2.2.1.1 (aD a).2.2.1.2 s ∧ serow (aZ a) (aW a) s ∧ s.1 39 3 = a.2.2.2.2.2
/-- it is read and run -/
def setP (D : Deb) (f0 f1 : Int32) (s : mS) : Prop := s.1 0 10 = 0 ∧ s.1 5 4 = f0 ∧ s.1 15 4 = f1 ∧ setC D s ∧ outC 47 D s ∧ kpS D s
abbrev setA (a : PA) (s : mS) : Prop := setP (aD a) a.2.2.2.1 a.2.2.2.2.1 s
/-- p: it may be that it isn't read yet -/
def cA (p : Prop) (a : PA) (s : mS) : Prop := tolC a s ∧ ((p ∧ s.1 0 10 = 1) ∨ setA a s)
/-- what a question may change in the class -/
abbrev wQ : Nat → Nat → Prop := fun y z => (y = 0 ∧ z = 10) ∨ (y = 5 ∧ (z = 3 ∨ z = 4)) ∨ (6 ≤ y ∧ y ≤ 14) ∨ (y = 15 ∧ (z = 3 ∨ z = 4)) ∨ (16 ≤ y ∧ y ≤ 29) ∨ (47 ≤ y ∧ y ≤ 110)
theorem txC.tr {T L : Nat} {s s1 : mS} {W : Nat → Nat → Prop} (h : txC T L s) (f : fW W s s1) (h1 : ¬ W T 1) (h2 : ∀ z, ¬ W (T + 1) z) : txC T L s1 :=
  ⟨(f.at h1).trans h.1, h.2.1, fun i hi => by rw [f.at (h2 i)]; exact h.2.2 i hi⟩
theorem evrow.tr {E e : Nat} {v : Nat → Nat → Int32} {s s1 : mS} {W : Nat → Nat → Prop} (h : evrow E e v s) (f : fW W s s1) (h1 : ¬ W E 3) (h2 : ∀ j, ¬ W (E + 1) j ∧ ¬ W (E + 2) j ∧ ¬ W (E + 3) j) : evrow E e v s1 :=
  ⟨(f.at h1).trans h.1, fun i hi => ⟨(f.at (h2 i).1).trans (h.2 i hi).1, (f.at (h2 i).2.1).trans (h.2 i hi).2.1, (f.at (h2 i).2.2).trans (h.2 i hi).2.2⟩⟩
theorem tolC.trW {a : PA} {s s1 : mS} {W : Nat → Nat → Prop} (h : tolC a s) (f : fW W s s1) (hw : ∀ y z, ((1 ≤ y ∧ y ≤ 4) ∨ ((y = 5 ∨ y = 15) ∧ (z = 1 ∨ z = 2)) ∨ (30 ≤ y ∧ y ≤ 38) ∨ (y = 39 ∧ z = 3)) → ¬ W y z) : tolC a s1 := by
  obtain ⟨h1, h2, h3, h4, h5, h6, h7, h8, h9⟩ := h
  have r2 : s1.1 2 = s.1 2 := f.row (fun z => hw 2 z (by omega))
  have r4 : s1.1 4 = s.1 4 := f.row (fun z => hw 4 z (by omega))
  refine ⟨h1.tr f (hw _ _ (by omega)) (fun z => hw _ _ (by omega)), h2.tr f (hw _ _ (by omega)) (fun z => hw _ _ (by omega)), by rw [r2]; exact h3, by rw [r4]; exact h4, ⟨(f.at (hw _ _ (by omega))).trans h5.1, (f.at (hw _ _ (by omega))).trans h5.2.1, (f.at (hw _ _ (by omega))).trans h5.2.2.1, (f.at (hw _ _ (by omega))).trans h5.2.2.2⟩, h6, h7.tr f (hw _ _ (by omega)) (fun j => ⟨hw _ _ (by omega), hw _ _ (by omega), hw _ _ (by omega)⟩), h8.tr f (fun y q h1 h2 => hw _ _ (by omega)), (f.at (hw _ _ (by omega))).trans h9⟩
theorem tolC.tr {a : PA} {s s1 : mS} (h : tolC a s) (f : fW wQ s s1) : tolC a s1 := h.trW f (fun y z h => by omega)
theorem kpS.tr {D : Deb} {s s1 : mS} {W : Nat → Nat → Prop} (h : kpS D s) (f : fW W s s1) (h1 : ¬ W 65 9) (h2 : ∀ z, ¬ W 109 z) : kpS D s1 := by
  rcases h with h | ⟨h, k⟩
  · exact Or.inl ((f.at h1).trans h)
  · exact Or.inr ⟨(f.at h1).trans h, fun m hm => (f.at (h2 m)).trans (k m hm)⟩
theorem setC.trW {D : Deb} {s s1 : mS} {W : Nat → Nat → Prop} (h : setC D s) (f : fW W s s1) (hw : ∀ y z, ((y = 5 ∧ z = 3) ∨ (7 ≤ y ∧ y ≤ 14) ∨ (y = 15 ∧ z = 3) ∨ (17 ≤ y ∧ y < 17 + D.2.1.1) ∨ (y = 30 ∧ z = 3) ∨ (31 ≤ y ∧ y ≤ 33)) → ¬ W y z) : setC D s1 := by
  obtain ⟨w, m0, h12, a1, a2, a3, a4, a5, a6⟩ := h
  have := w.1
  exact ⟨w, m0, h12, (f.at (hw _ _ (by omega))).trans a1, a2.tr f (fun k j hk => hw _ _ (by omega)), a3, ⟨(f.at (hw _ _ (by omega))).trans a4.1, fun i hi j hj => (f.at (hw _ _ (by omega))).trans (a4.2 i hi j hj)⟩, a5, a6.tr f (hw _ _ (by omega)) (fun j => ⟨hw _ _ (by omega), hw _ _ (by omega), hw _ _ (by omega)⟩)⟩
theorem setP.trW {D : Deb} {f0 f1 : Int32} {s s1 : mS} {W : Nat → Nat → Prop} (h : setP D f0 f1 s) (f : fW W s s1) (hw : ∀ y z, ((y = 0 ∧ z = 10) ∨ ((y = 5 ∨ y = 15) ∧ (z = 3 ∨ z = 4)) ∨ (7 ≤ y ∧ y ≤ 14) ∨ (17 ≤ y ∧ y < 17 + D.2.1.1) ∨ (y = 30 ∧ z = 3) ∨ (31 ≤ y ∧ y ≤ 33) ∨ (47 ≤ y ∧ y ≤ 64) ∨ (y = 65 ∧ z = 9) ∨ y = 109) → ¬ W y z) : setP D f0 f1 s1 := by
  obtain ⟨h1, h2, h3, h4, h5, h6⟩ := h
  exact ⟨(f.at (hw _ _ (by omega))).trans h1, (f.at (hw _ _ (by omega))).trans h2, (f.at (hw _ _ (by omega))).trans h3, h4.trW f (fun y z h => hw _ _ (by omega)), h5.tr f (fun y z h1 h2 => hw _ _ (by omega)), h6.tr f (hw _ _ (by omega)) (fun z => hw _ _ (by omega))⟩
theorem setP.tr {D : Deb} {f0 f1 : Int32} {s s1 : mS} (h : setP D f0 f1 s) (f : fW (wTr D.2.1.1) s s1) : setP D f0 f1 s1 := by
  have h12 := h.2.2.2.1.2.2.1
  exact h.trW f (fun y z h => by omega)
theorem setP.fs {D : Deb} {f0 f1 : Int32} {s s1 : mS} (h : setP D f0 f1 s) (f : fW wFs s s1) (h9 : s1.1 65 9 = 1) (kn : knS D s1) : setP D f0 f1 s1 := by
  have h12 := h.2.2.2.1.2.2.1
  obtain ⟨h1, h2, h3, h4, h5, h6⟩ := h
  exact ⟨(f.at (by omega)).trans h1, (f.at (by omega)).trans h2, (f.at (by omega)).trans h3, h4.fs f, h5.tr f (fun y z h1 h2 => by omega), Or.inr ⟨h9, kn⟩⟩
theorem setP.n {D : Deb} {f0 f1 : Int32} {s : mS} (h : setP D f0 f1 s) : s.1 5 3 = nI D.1.1 := h.2.2.2.1.2.2.2.1
theorem setP.row {D : Deb} {f0 f1 : Int32} {s : mS} (h : setP D f0 f1 s) {k j : Nat} (hk : k < D.1.1) (hj : j < 5) : s.1 (7 + k) j = D.1.2 k j := h.2.2.2.1.2.2.2.2.1 k hk j hj
theorem setP.ns {D : Deb} {f0 f1 : Int32} {s : mS} (h : setP D f0 f1 s) : s.1 15 3 = nI D.2.1.1 := h.2.2.2.1.2.2.2.2.2.2.1.1
theorem setP.srow {D : Deb} {f0 f1 : Int32} {s : mS} (h : setP D f0 f1 s) {i j : Nat} (hi : i < D.2.1.1) (hj : j < 3) : s.1 (17 + i) j = D.2.1.2 i j := h.2.2.2.1.2.2.2.2.2.2.1.2 i hi j hj
theorem setP.out {D : Deb} {f0 f1 : Int32} {s : mS} (h : setP D f0 f1 s) : outC 47 D s := h.2.2.2.2.1
theorem setP.set {D : Deb} {f0 f1 : Int32} {s : mS} (h : setP D f0 f1 s) : setC D s := h.2.2.2.1
theorem setP.wf {D : Deb} {f0 f1 : Int32} {s : mS} (h : setP D f0 f1 s) : wfD D := h.2.2.2.1.1
theorem setP.n8 {D : Deb} {f0 f1 : Int32} {s : mS} (h : setP D f0 f1 s) : D.1.1 ≤ 8 := h.wf.1
theorem setP.s12 {D : Deb} {f0 f1 : Int32} {s : mS} (h : setP D f0 f1 s) : D.2.1.1 ≤ 12 := h.2.2.2.1.2.2.1
theorem wTr_Q {ns : Nat} (h : ns ≤ 12) {s s1 : mS} (f : fW (wTr ns) s s1) : fW wQ s s1 := f.mono (fun y z h => by omega)
theorem wFs_Q {s s1 : mS} (f : fW wFs s s1) : fW wQ s s1 := f.mono (fun y z h => by omega)
/-- the class's answer to a question -/
def qC (p : Prop) (a : PA) (σ : mS) (r : Int32) : Option Value → mS → Prop := qIP (fun r1 s => r1 = r ∧ cA p a s ∧ fW wQ σ s)
def qLC (p : Prop) (a : PA) (σ : mS) (r : Int64) : Option Value → mS → Prop := qLP (fun r1 s => r1 = r ∧ cA p a s ∧ fW wQ σ s)
theorem qC_mk {p : Prop} {a : PA} {σ s : mS} {r r1 : Int32} (h : r1 = r) (A : cA p a s) (f : fW wQ σ s) : qC p a σ r (some (.int r1)) s := ⟨r1, rfl, h, A, f⟩
theorem qLC_mk {p : Prop} {a : PA} {σ s : mS} {r r1 : Int64} (h : r1 = r) (A : cA p a s) (f : fW wQ σ s) : qLC p a σ r (some (.long r1)) s := ⟨r1, rfl, h, A, f⟩
theorem qC_fit {p : Prop} {a : PA} {σ : mS} {r : Int32} (v : Option Value) (σ1 : mS) (h : qC p a σ r v σ1) : mFit (some .int) v := by obtain ⟨r, h1, -⟩ := h; rw [h1]; rfl
theorem qLC_fit {p : Prop} {a : PA} {σ : mS} {r : Int64} (v : Option Value) (σ1 : mS) (h : qLC p a σ r v σ1) : mFit (some .long) v := by obtain ⟨r, h1, -⟩ := h; rw [h1]; trivial
-- ===== one bell more =====
theorem rungE_add {v v1 : Nat → Nat → Int32} {mask mo : Int32} (e : Nat) (h : ∀ a, a < e → ∀ j, j < 3 → v1 a j = v a j) (hne : ¬ v1 e 1 = mo) : rungE v1 mask mo (e + 1) = rungE v mask mo e := by
  rw [rungE, if_neg (fun q => hne q.1)]
  exact rungE_cong e h
theorem cutE_add {v v1 : Nat → Nat → Int32} {mask mo cut : Int32} (e : Nat) (h : ∀ a, a < e → ∀ j, j < 3 → v1 a j = v a j) (hne : ¬ v1 e 1 = mo) : cutE v1 mask mo cut (e + 1) = cutE v mask mo cut e := by
  rw [cutE, if_neg (fun q => hne q.1)]
  exact cutE_cong e h
theorem addE_old (D : Deb) (t : Int32) : ∀ a, a < D.2.2.1.1 → ∀ j, j < 3 → (addE D t).2.2.1.2 a j = D.2.2.1.2 a j := fun a ha j _ => by
  show (if a = D.2.2.1.1 then _ else D.2.2.1.2 a j) = _
  rw [if_neg (by omega)]
theorem addE_new (D : Deb) (t : Int32) : (addE D t).2.2.1.2 D.2.2.1.1 1 = t ∧ (addE D t).2.2.1.2 D.2.2.1.1 0 = 0 := by
  constructor
  · show (if D.2.2.1.1 = D.2.2.1.1 then (if 1 = 1 then t else 0) else _) = t
    rw [if_pos rfl, if_pos rfl]
  · show (if D.2.2.1.1 = D.2.2.1.1 then (if 0 = 1 then t else 0) else _) = 0
    rw [if_pos rfl, if_neg (by decide)]
theorem addE_go (D : Deb) (t u : Int32) (h : ¬ t = u) (r : RS) : goR (addE D t) u r = goR D u r := by
  have h0 : ¬ (addE D t).2.2.1.2 D.2.2.1.1 1 = u := by rw [(addE_new D t).1]; exact h
  have e1 : rungD (addE D t) u = rungD D u := rungE_add (v1 := (addE D t).2.2.1.2) D.2.2.1.1 (addE_old D t) h0
  have e2 : ∀ c, cutD (addE D t) u c = cutD D u c := fun c => cutE_add (v1 := (addE D t).2.2.1.2) D.2.2.1.1 (addE_old D t) h0
  unfold goR readyR
  rw [e1, e2]
  rfl
theorem addE_run (D : Deb) (t : Nat) (ht : t < 1000) : ∀ u, u ≤ t → RSt (addE D (nI t)) u = RSt D u
  | 0, _ => rfl
  | u + 1, hu => by
    rw [RSt, RSt, addE_run D t ht u (by omega)]
    exact addE_go D (nI t) (nI u) (fun q => absurd ((neq (by omega) (by omega)).mp q) (by omega)) _
/-- who is an aye where it is rung at t -/
def agh (D : Deb) (t : Nat) : Nat := ayP (RSt D t).1 D.1.1
theorem addE_ay (D : Deb) (h0 : D.2.2.2 = 0) (he : D.2.2.1.1 ≤ 8) (t : Nat) (ht : t < 24) : ayD (addE D (nI t)) t = agh D t := by
  have e1 : rungD (addE D (nI t)) (nI t) = 1 := by
    show rungE (addE D (nI t)).2.2.1.2 D.2.2.2 (nI t) (D.2.2.1.1 + 1) = 1
    rw [rungE, h0, if_pos ⟨(addE_new D (nI t)).1, bit_zero10 _ (by omega)⟩, if_pos (addE_new D (nI t)).2]
  have e2 : RSt (addE D (nI t)) (t + 1) = readyR (addE D (nI t)) (nI t) (RSt D t) := by
    rw [RSt, addE_run D t (by omega) t (Nat.le_refl _)]
    unfold goR
    rw [if_neg (by rw [e1]; decide)]
  show ayP (RSt (addE D (nI t)) (t + 1)).1 D.1.1 = _
  rw [e2]
  rfl
theorem rgP_eq (D : Deb) (h0 : D.2.2.2 = 0) (he : D.2.2.1.1 ≤ 8) (hn : D.1.1 ≤ 8) : ∀ t, t < 24 → rgP D (t + 1) = (nI (jmP (fun u => nI (agh D u)) t), nI (agh D (jmP (fun u => nI (agh D u)) t)))
  | 0, ht => by
    have h8 := ayP_le (RSt D 0).1 D.1.1
    rw [rgP, addE_ay D h0 he 0 ht]
    exact if_neg (m1_lt _ (by show agh D 0 < 1000; unfold agh; omega))
  | t + 1, ht => by
    have ih := rgP_eq D h0 he hn t (by omega)
    rw [rgP, addE_ay D h0 he (t + 1) ht, ih, jmP]
    show (if nI (agh D (t + 1)) ≤ nI (agh D (jmP (fun u => nI (agh D u)) t)) then _ else _) = _
    by_cases q : nI (agh D (jmP (fun u => nI (agh D u)) t)) < nI (agh D (t + 1))
    · rw [if_neg (Int32.not_le.mpr q), if_pos q]
    · rw [if_pos (Int32.not_lt.mp q), if_neg q]
section ST
variable {G : mG} {l : Launch} {d : Nat} {σ : mS} {a : PA} {p : Prop}
theorem dX10_settle_0 : decode cX10_settle 0 = .ok (.aload_n 0, 1) := by decide +kernel
theorem dX10_settle_1 : decode cX10_settle 1 = .ok (.getfield 77, 3) := by decide +kernel
theorem dX10_settle_4 : decode cX10_settle 4 = .ok (.ifCond .ne 4, 3) := by decide +kernel
theorem dX10_settle_7 : decode cX10_settle 7 = .ok (.return_, 1) := by decide +kernel
theorem dX10_settle_8 : decode cX10_settle 8 = .ok (.aload_n 0, 1) := by decide +kernel
theorem dX10_settle_9 : decode cX10_settle 9 = .ok (.getfield 22, 3) := by decide +kernel
theorem dX10_settle_12 : decode cX10_settle 12 = .ok (.aload_n 0, 1) := by decide +kernel
theorem dX10_settle_13 : decode cX10_settle 13 = .ok (.getfield 12, 3) := by decide +kernel
theorem dX10_settle_16 : decode cX10_settle 16 = .ok (.invokevirtual 292, 3) := by decide +kernel
theorem dX10_settle_19 : decode cX10_settle 19 = .ok (.aload_n 0, 1) := by decide +kernel
theorem dX10_settle_20 : decode cX10_settle 20 = .ok (.getfield 29, 3) := by decide +kernel
theorem dX10_settle_23 : decode cX10_settle 23 = .ok (.aload_n 0, 1) := by decide +kernel
theorem dX10_settle_24 : decode cX10_settle 24 = .ok (.getfield 16, 3) := by decide +kernel
theorem dX10_settle_27 : decode cX10_settle 27 = .ok (.invokevirtual 296, 3) := by decide +kernel
theorem dX10_settle_30 : decode cX10_settle 30 = .ok (.aload_n 0, 1) := by decide +kernel
theorem dX10_settle_31 : decode cX10_settle 31 = .ok (.getfield 57, 3) := by decide +kernel
theorem dX10_settle_34 : decode cX10_settle 34 = .ok (.aload_n 0, 1) := by decide +kernel
theorem dX10_settle_35 : decode cX10_settle 35 = .ok (.getfield 22, 3) := by decide +kernel
theorem dX10_settle_38 : decode cX10_settle 38 = .ok (.aload_n 0, 1) := by decide +kernel
theorem dX10_settle_39 : decode cX10_settle 39 = .ok (.getfield 29, 3) := by decide +kernel
theorem dX10_settle_42 : decode cX10_settle 42 = .ok (.aload_n 0, 1) := by decide +kernel
theorem dX10_settle_43 : decode cX10_settle 43 = .ok (.getfield 36, 3) := by decide +kernel
theorem dX10_settle_46 : decode cX10_settle 46 = .ok (.iconst 0, 1) := by decide +kernel
theorem dX10_settle_47 : decode cX10_settle 47 = .ok (.invokevirtual 297, 3) := by decide +kernel
theorem dX10_settle_50 : decode cX10_settle 50 = .ok (.aload_n 0, 1) := by decide +kernel
theorem dX10_settle_51 : decode cX10_settle 51 = .ok (.getfield 66, 3) := by decide +kernel
theorem dX10_settle_54 : decode cX10_settle 54 = .ok (.iconst 0, 1) := by decide +kernel
theorem dX10_settle_55 : decode cX10_settle 55 = .ok (.putfield 301, 3) := by decide +kernel
theorem dX10_settle_58 : decode cX10_settle 58 = .ok (.aload_n 0, 1) := by decide +kernel
theorem dX10_settle_59 : decode cX10_settle 59 = .ok (.iconst 0, 1) := by decide +kernel
theorem dX10_settle_60 : decode cX10_settle 60 = .ok (.putfield 77, 3) := by decide +kernel
theorem dX10_settle_63 : decode cX10_settle 63 = .ok (.return_, 1) := by decide +kernel
theorem dX10_ayesAhead_0 : decode cX10_ayesAhead 0 = .ok (.iload_n 1, 1) := by decide +kernel
theorem dX10_ayesAhead_1 : decode cX10_ayesAhead 1 = .ok (.ifCond .ne 13, 3) := by decide +kernel
theorem dX10_ayesAhead_4 : decode cX10_ayesAhead 4 = .ok (.aload_n 0, 1) := by decide +kernel
theorem dX10_ayesAhead_5 : decode cX10_ayesAhead 5 = .ok (.getfield 22, 3) := by decide +kernel
theorem dX10_ayesAhead_8 : decode cX10_ayesAhead 8 = .ok (.invokevirtual 304, 3) := by decide +kernel
theorem dX10_ayesAhead_11 : decode cX10_ayesAhead 11 = .ok (.goto 13, 3) := by decide +kernel
theorem dX10_ayesAhead_14 : decode cX10_ayesAhead 14 = .ok (.aload_n 0, 1) := by decide +kernel
theorem dX10_ayesAhead_15 : decode cX10_ayesAhead 15 = .ok (.getfield 57, 3) := by decide +kernel
theorem dX10_ayesAhead_18 : decode cX10_ayesAhead 18 = .ok (.iload_n 1, 1) := by decide +kernel
theorem dX10_ayesAhead_19 : decode cX10_ayesAhead 19 = .ok (.iconst 1, 1) := by decide +kernel
theorem dX10_ayesAhead_20 : decode cX10_ayesAhead 20 = .ok (.isub, 1) := by decide +kernel
theorem dX10_ayesAhead_21 : decode cX10_ayesAhead 21 = .ok (.invokevirtual 307, 3) := by decide +kernel
theorem dX10_ayesAhead_24 : decode cX10_ayesAhead 24 = .ok (.ireturn, 1) := by decide +kernel
theorem c_settle (hd : 7 ≤ d) (h : cA p a σ) : mMet G l d kX10_settle [.ref 0] σ (qVP (fun s => tolC a s ∧ setA a s ∧ fW wQ σ s)) := by
  refine mMet.of cm_X10_settle rfl (Nat.le_of_ble_eq_true rfl) rfl (fun v1 σ1 h => by rw [h.1]; trivial) ?_
  obtain ⟨T, ⟨-, hs⟩ | hs⟩ := h
  rotate_left
  · refine m_aload_n dX10_settle_0 0 rfl ?_
    refine m_getI 10 dX10_settle_1 fl_X10_77_9 rfl (by decide) (by first | assumption | rfl) ?_
    refine mW.top hs.1 ?_
    refine m_if_ne dX10_settle_4 8 (by decide) (fun z0 => ?_) (fun z0 => ?_)
    · exact absurd rfl z0
    · exact m_return dX10_settle_7 ⟨rfl, T, hs, fW.rf⟩
  refine m_aload_n dX10_settle_0 0 rfl ?_
  refine m_getI 10 dX10_settle_1 fl_X10_77_9 rfl (by decide) (by first | assumption | rfl) ?_
  refine mW.top hs ?_
  refine m_if_ne dX10_settle_4 8 (by decide) (fun z0 => ?_) (fun z0 => ?_)
  rotate_left
  · exact absurd z0 (by decide)
  clear z0
  have T0 := T
  obtain ⟨⟨t1, t2, t3⟩, ⟨u1, u2, u3⟩, ⟨e1, e2⟩, ⟨e3, e4⟩, ⟨m1, m2, m3, m4'⟩, ⟨wf, mk, ee, eo⟩, ev, se, fi⟩ := T
  refine m_aload_n dX10_settle_8 0 rfl ?_
  refine m_getR 2 5 dX10_settle_9 fl_X10_22_9 rfl (by decide) rfl (by first | assumption | rfl) ?_
  refine m_aload_n dX10_settle_12 0 rfl ?_
  refine m_getR 0 1 dX10_settle_13 fl_X10_12_9 rfl (by decide) rfl (by first | assumption | rfl) ?_
  refine m_callU (As := [_]) dX10_settle_16 cu_learn_cars rfl rfl rfl (by decide) (show d - 1 < d by omega) rfl rfl (Nat.le_of_ble_eq_true rfl) (c_learnC (d := d - 1) (by omega) a.1.1 t1 t2 t3 m1 m2) (fun v1 σ1 hv1 => ?_)
  refine m_qVP hv1 (fun hq => ?_)
  clear hv1 v1
  rename mS => s0
  obtain ⟨⟨l1, l2, l3⟩, f1⟩ := hq
  have r4 : s0.1 4 = σ.1 4 := f1.row (fun z => by omega)
  refine m_aload_n dX10_settle_19 0 rfl ?_
  refine m_getR 3 15 dX10_settle_20 fl_X10_29_9 rfl (by decide) rfl (by first | assumption | rfl) ?_
  refine m_aload_n dX10_settle_23 0 rfl ?_
  refine m_getR 1 3 dX10_settle_24 fl_X10_16_9 rfl (by decide) rfl (by first | assumption | rfl) ?_
  refine m_callU (As := [_]) dX10_settle_27 cu_learn_steers rfl rfl rfl (by decide) (show d - 1 < d by omega) rfl rfl (Nat.le_of_ble_eq_true rfl) (c_learnS (d := d - 1) (by omega) a.1.2.1 ((f1.at (by omega)).trans u1) u2 (fun i hi => by rw [r4]; exact u3 i hi) ((f1.at (by omega)).trans m3) ((f1.at (by omega)).trans m4')) (fun v1 σ1 hv1 => ?_)
  refine m_qVP hv1 (fun hq => ?_)
  clear hv1 v1
  rename mS => s1
  obtain ⟨⟨k1, k2, k3⟩, f2⟩ := hq
  rw [r4] at k1 k2 k3
  rw [e1] at l1 l2 l3
  rw [e3] at k1 k2 k3
  rw [e2] at l3
  rw [e4] at k3
  have hn := wf.1
  have h12 : (aD a).2.1.1 ≤ 12 := by have := parS_n a.1.2.1 (σ.1 4); rw [e3] at this; exact this
  have f01 : fW wQ σ s1 := (f1.mono (fun y z h => by omega)).tr (f2.mono (fun y z h => by omega))
  have dep : depC 5 30 (aD a) s1 := ⟨(f2.at (by omega)).trans l2, fun k hk j hj => (f2.at (by omega)).trans (l3 k hk j hj), by omega, ⟨k2, k3⟩, eo, ev.tr f01 (by omega) (fun j => by omega)⟩
  have g1 : s1.1 5 4 = a.2.2.2.1 := (f2.at (by omega)).trans l1
  refine m_aload_n dX10_settle_30 0 rfl ?_
  refine m_getR 7 47 dX10_settle_31 fl_X10_57_9 rfl (by decide) rfl (by first | assumption | rfl) ?_
  refine m_aload_n dX10_settle_34 0 rfl ?_
  refine m_getR 2 5 dX10_settle_35 fl_X10_22_9 rfl (by decide) rfl (by first | assumption | rfl) ?_
  refine m_aload_n dX10_settle_38 0 rfl ?_
  refine m_getR 3 15 dX10_settle_39 fl_X10_29_9 rfl (by decide) rfl (by first | assumption | rfl) ?_
  refine m_aload_n dX10_settle_42 0 rfl ?_
  refine m_getR 4 30 dX10_settle_43 fl_X10_36_9 rfl (by decide) rfl (by first | assumption | rfl) ?_
  refine m_iconst (v := 0) dX10_settle_46 (by decide) ?_
  refine m_callV (As := [_, _, _, _]) dX10_settle_47 cv_X10_297 (by first | assumption | rfl) (by decide) (by omega) rfl rfl (Nat.le_of_ble_eq_true rfl) (c_play (d := d - 1) (by omega) (Or.inl rfl) (Or.inl rfl) (Or.inl rfl) (aD a) wf dep 0 mk) (fun v1 σ1 hv1 => ?_)
  refine m_qVP hv1 (fun hq => ?_)
  clear hv1 v1
  rename mS => s2
  obtain ⟨o1, f3⟩ := hq
  refine m_aload_n dX10_settle_50 0 rfl ?_
  refine m_getR 8 65 dX10_settle_51 fl_X10_66_9 rfl (by decide) rfl (by first | assumption | rfl) ?_
  refine m_iconst (v := 0) dX10_settle_54 (by decide) ?_
  refine m_putI 9 dX10_settle_55 fw_X10_301_8 rfl (by decide) rfl rfl (by first | assumption | rfl) ?_
  refine m_aload_n dX10_settle_58 0 rfl ?_
  refine m_iconst (v := 0) dX10_settle_59 (by decide) ?_
  refine m_putI 10 dX10_settle_60 fw_X10_77_9 rfl (by decide) rfl rfl (by first | assumption | rfl) ?_
  have f4 : fW (fun y z => (y = 0 ∧ z = 10) ∨ (y = 65 ∧ z = 9)) s2 (us (us s2 65 9 0) 0 10 0) := fW.us (by omega) (fW.us (by omega) fW.rf)
  have f5 : fW (fun y z => (y = 0 ∧ z = 10) ∨ (y = 65 ∧ z = 9) ∨ (47 ≤ y ∧ y ≤ 64)) s1 (us (us s2 65 9 0) 0 10 0) := (f3.mono (fun y z h => by omega)).tr (f4.mono (fun y z h => by omega))
  have fw : fW wQ σ (us (us s2 65 9 0) 0 10 0) := f01.tr (f5.mono (fun y z h => by omega))
  refine m_return dX10_settle_63 ⟨rfl, T0.tr fw, ⟨?_, (f5.at (by omega)).trans g1, (f5.at (by omega)).trans k1, ⟨wf, mk, h12, ?_⟩, o1.tr f4 (fun y z h1 h2 => by omega), Or.inl ?_⟩, fw⟩
  · rw [us_at, if_pos ⟨rfl, rfl⟩]
  · exact dep.tr hn f5 (by omega) (fun k j hk => by omega) (by omega) (fun i j hi => by omega) (by omega) (fun j => by omega)
  · rw [us_at, if_neg (by omega), us_at, if_pos ⟨rfl, rfl⟩]
theorem c_ayesAhead (hd : 2 ≤ d) (D : Deb) {f0 f1 : Int32} (S : setP D f0 f1 σ) (t : Nat) (ht : t < 24) : mMet G l d kX10_ayesAhead [.ref 0, .int (nI t)] σ (qI (nI (agh D t)) σ) := by
  refine mMet.of cm_X10_ayesAhead rfl (Nat.le_of_ble_eq_true rfl) rfl (fun v1 σ1 h => by rw [h.1]; rfl) ?_
  refine m_iload_n dX10_ayesAhead_0 1 rfl ?_
  refine m_if_ne dX10_ayesAhead_1 14 (by decide) (fun z0 => ?_) (fun z0 => ?_)
  · obtain ⟨u, rfl⟩ : ∃ u, t = u + 1 := ⟨t - 1, by have : ¬ t = 0 := fun q => z0 (by rw [q]; rfl); omega⟩
    refine m_aload_n dX10_ayesAhead_14 0 rfl ?_
    refine m_getR 7 47 dX10_ayesAhead_15 fl_X10_57_9 rfl (by decide) rfl (by first | assumption | rfl) ?_
    refine m_iload_n dX10_ayesAhead_18 1 rfl ?_
    refine m_iconst (v := 1) dX10_ayesAhead_19 (by decide) ?_
    refine m_isub dX10_ayesAhead_20 ?_
    refine mW.top (w := nI u) (by rw [show (1 : Int32) = nI 1 from rfl, pk_sub (by omega)]; rfl) ?_
    refine m_callV (As := [_]) dX10_ayesAhead_21 cv_X10_307 (by first | assumption | rfl) (by decide) (by omega) rfl rfl (Nat.le_of_ble_eq_true rfl) (c_ayes (d := d - 1) (by omega) (Or.inl rfl) D S.n8 S.out u (by omega)) (fun v1 σ1 hv1 => ?_)
    refine m_qI hv1 ?_
    clear hv1 v1 σ1
    exact m_ireturn dX10_ayesAhead_24 ⟨rfl, rfl⟩
  · have h0 : t = 0 := (neq (b := 0) (by omega) (by decide)).mp z0
    subst h0
    refine m_aload_n dX10_ayesAhead_4 0 rfl ?_
    refine m_getR 2 5 dX10_ayesAhead_5 fl_X10_22_9 rfl (by decide) rfl (by first | assumption | rfl) ?_
    refine m_callV (As := []) dX10_ayesAhead_8 cv_X10_304 (by first | assumption | rfl) (by decide) (by omega) rfl rfl (Nat.le_of_ble_eq_true rfl) (c_ayesAsTold (d := d - 1) (Or.inl rfl) D.1.1 D.1.2 S.n8 S.n S.set.2.2.2.2.1) (fun v1 σ1 hv1 => ?_)
    refine m_qI hv1 ?_
    clear hv1 v1 σ1
    refine m_goto dX10_ayesAhead_11 24 (by decide) ?_
    exact m_ireturn dX10_ayesAhead_24 ⟨rfl, rfl⟩
end ST


/-! ===== what lies beyond the cars doesn't matter ===== -/
section RQ
variable {n : Nat} {r q : RS}
/-- alike for the first n cars, but for the strikes of this moment by which both stay -/
def Req (n : Nat) (r q : RS) : Prop := (∀ k, k < n → r.1 k = q.1 k ∧ r.2.1 k = q.2.1 k ∧ r.2.2.1 k = q.2.2.1 k ∧ r.2.2.2.1 k = q.2.2.2.1 k ∧ r.2.2.2.2.1 k = q.2.2.2.2.1 k ∧ r.2.2.2.2.2.1 k = q.2.2.2.2.2.1 k) ∧ r.2.2.2.2.2.2.1 = q.2.2.2.2.2.2.1 ∧ r.2.2.2.2.2.2.2.1 = q.2.2.2.2.2.2.2.1 ∧ r.2.2.2.2.2.2.2.2.1 = q.2.2.2.2.2.2.2.2.1 ∧ r.2.2.2.2.2.2.2.2.2.1 = q.2.2.2.2.2.2.2.2.2.1
def ReqJ (n : Nat) (r q : RS) : Prop := Req n r q ∧ r.2.2.2.2.2.2.2.2.2.2 = q.2.2.2.2.2.2.2.2.2.2
theorem upd_cong {f g : Nat → Int32} {k i : Nat} {v w : Int32} (h : f i = g i) (hv : v = w) : upd f k v i = upd g k w i := by
  subst hv
  by_cases e : i = k
  · subst e; rw [pk_us, pk_us]
  · rw [pk_un e, pk_un e, h]
theorem whoIn_cong {xs ys xs' ys' : Nat → Int32} {x y : Int32} : ∀ n, (∀ k, k < n → xs k = xs' k ∧ ys k = ys' k) → whoIn xs ys x y n = whoIn xs' ys' x y n
  | 0, _ => rfl
  | n + 1, h => by
    unfold whoIn
    rw [(h n (by omega)).1, (h n (by omega)).2, whoIn_cong n (fun k hk => h k (by omega))]
theorem ReqJ.rf : ReqJ n r r := ⟨⟨fun _ _ => ⟨rfl, rfl, rfl, rfl, rfl, rfl⟩, rfl, rfl, rfl, rfl⟩, rfl⟩
theorem ReqJ.turn {k : Nat} {w w1 : Int32} (h : ReqJ n r q) (hw : w = w1) : ReqJ n (turnR k w r) (turnR k w1 q) :=
  ⟨⟨fun i hi => ⟨(h.1.1 i hi).1, (h.1.1 i hi).2.1, upd_cong (h.1.1 i hi).2.2.1 hw, (h.1.1 i hi).2.2.2.1, (h.1.1 i hi).2.2.2.2.1, (h.1.1 i hi).2.2.2.2.2⟩, h.1.2⟩, h.2⟩
theorem ReqJ.move {k : Nat} {x x1 y y1 : Int32} (h : ReqJ n r q) (hx : x = x1) (hy : y = y1) : ReqJ n (moveR k x y r) (moveR k x1 y1 q) :=
  ⟨⟨fun i hi => ⟨upd_cong (h.1.1 i hi).1 hx, upd_cong (h.1.1 i hi).2.1 hy, (h.1.1 i hi).2.2.1, (h.1.1 i hi).2.2.2.1, (h.1.1 i hi).2.2.2.2.1, (h.1.1 i hi).2.2.2.2.2⟩, h.1.2⟩, h.2⟩
theorem ReqJ.jam (h : ReqJ n r q) : ReqJ n (jamR r) (jamR q) := ⟨h.1, congrArg (· + 1) h.2⟩
theorem ReqJ.strike {k o : Nat} {w mo : Int32} (h : ReqJ n r q) (hk : k < n) (ho : o < n) : ReqJ n (strikeR k o w mo r) (strikeR k o w mo q) := by
  obtain ⟨⟨h1, h2, h3, h4, h5⟩, h6⟩ := h
  refine ⟨⟨fun i hi => ⟨(h1 i hi).1, (h1 i hi).2.1, (h1 i hi).2.2.1, upd_cong (h1 i hi).2.2.2.1 ?_, upd_cong (h1 i hi).2.2.2.2.1 ?_, upd_cong (h1 i hi).2.2.2.2.2 ?_⟩, h2, ?_, ?_, ?_⟩, h6⟩
  · rw [(h1 k hk).2.2.2.1, (h1 o ho).2.2.1]
  · rw [(h1 o ho).2.2.2.2.1]
  · rw [(h1 k hk).2.2.2.2.2]
  · show r.2.2.2.2.2.2.2.1 + 1 = q.2.2.2.2.2.2.2.1 + 1
    rw [h3]
  · show (if r.2.2.2.2.2.2.2.2.1 = -1 then mo else r.2.2.2.2.2.2.2.2.1) = (if q.2.2.2.2.2.2.2.2.1 = -1 then mo else q.2.2.2.2.2.2.2.2.1)
    rw [h4]
  · show (if r.2.2.2.2.2.2.2.2.1 = -1 then nI k else r.2.2.2.2.2.2.2.2.2.1) = (if q.2.2.2.2.2.2.2.2.1 = -1 then nI k else q.2.2.2.2.2.2.2.2.2.1)
    rw [h4, h5]
theorem ReqJ.into {k o : Nat} {w : Int32} {wt wu : Nat → Int32} (h : ReqJ n r q) (hk : k < n) (ho : o < n) (hw : ∀ i, i < n → wt i = wu i) : ReqJ n (intoR n wt k o w r) (intoR n wu k o w q) := by
  have e1 := (h.1.1 o ho).1
  have e2 := (h.1.1 o ho).2.1
  have e3 : ∀ x y, whoIn r.1 r.2.1 x y n = whoIn q.1 q.2.1 x y n := fun x y => whoIn_cong n (fun k hk => ⟨(h.1.1 k hk).1, (h.1.1 k hk).2.1⟩)
  unfold intoR
  have e4 : mayR n wt k o w r ↔ mayR n wu k o w q := by
    unfold mayR
    rw [e1, e2, e3, hw k hk, hw o ho]
  by_cases hm : mayR n wt k o w r
  · rw [if_pos hm, if_pos (e4.mp hm)]
    exact (h.move (by rw [e1]) (by rw [e2])).move e1 e2
  · rw [if_neg hm, if_neg (fun z => hm (e4.mpr z))]
    exact h.jam
theorem ReqJ.drvW {k : Nat} {w mo : Int32} {wt wu : Nat → Int32} (hn : n ≤ 8) (h : ReqJ n r q) (hk : k < n) (hw : ∀ i, i < n → wt i = wu i) : ReqJ n (driveW n wt k mo w r) (driveW n wu k mo w q) := by
  have e1 := (h.1.1 k hk).1
  have e2 := (h.1.1 k hk).2.1
  have e0 := (h.1.1 k hk).2.2.1
  have e3 : ∀ x y, whoIn r.1 r.2.1 x y n = whoIn q.1 q.2.1 x y n := fun x y => whoIn_cong n (fun k hk => ⟨(h.1.1 k hk).1, (h.1.1 k hk).2.1⟩)
  unfold driveW
  rw [e1, e2, e3, e0]
  split
  · exact h.turn rfl
  · split
    · exact h.move rfl rfl
    · rename_i h1 h2
      rcases whoIn_of q.1 q.2.1 (q.1 k + stX w) (q.2.1 k + stY w) n hn with h3 | ⟨j, hj, h3⟩
      · exact absurd h3 h2
      · rw [h3, nI_clamp (by omega)]
        exact (h.strike hk hj).into hk hj hw
theorem ReqJ.drv {k : Nat} {mo : Int32} {c c1 : Nat → Nat → Int32} (hn : n ≤ 8) (h : ReqJ n r q) (hk : k < n) (hc : ∀ k, k < n → ∀ j, j < 5 → c k j = c1 k j) : ReqJ n (driveR n c k mo r) (driveR n c1 k mo q) := by
  have e0 : wayR (fun i => c i 0) k r = wayR (fun i => c1 i 0) k q := by
    unfold wayR
    rw [(h.1.1 k hk).2.2.1]
    show (if c k 0 = 2 then _ else _) = (if c1 k 0 = 2 then _ else _)
    rw [hc k hk 0 (by decide)]
  unfold driveR
  rw [e0]
  exact h.drvW hn hk (fun i hi => hc i hi 4 (by decide))
theorem ReqJ.all {c c1 : Nat → Nat → Int32} {mo cut : Int32} (hn : n ≤ 8) (h : ReqJ n r q) (hc : ∀ k, k < n → ∀ j, j < 5 → c k j = c1 k j) : ∀ k, k ≤ n → ReqJ n (driveAll n c mo cut r k) (driveAll n c1 mo cut q k)
  | 0, _ => h
  | k + 1, hk => by
    unfold driveAll
    split
    · exact ReqJ.all hn h hc k (by omega)
    · exact (ReqJ.all hn h hc k (by omega)).drv hn (by omega) hc
/-- the steers tell of cars 0 to 7 -/
def stOK (D : Deb) : Prop := ∀ i, i < D.2.1.1 → ∃ j, j < 8 ∧ D.2.1.2 i 1 = nI j
/-- the same debate, as far as it is told -/
def Deq (D E : Deb) : Prop := D.1.1 = E.1.1 ∧ D.2.1.1 = E.2.1.1 ∧ D.2.2.1.1 = E.2.2.1.1 ∧ D.2.2.2 = E.2.2.2 ∧ (∀ k, k < D.1.1 → ∀ j, j < 5 → D.1.2 k j = E.1.2 k j) ∧ (∀ i, i < D.2.1.1 → ∀ j, j < 3 → D.2.1.2 i j = E.2.1.2 i j) ∧ ∀ i, i < D.2.2.1.1 → ∀ j, j < 3 → D.2.2.1.2 i j = E.2.2.1.2 i j
theorem Deq.rf {D : Deb} : Deq D D := ⟨rfl, rfl, rfl, rfl, fun _ _ _ _ => rfl, fun _ _ _ _ => rfl, fun _ _ _ _ => rfl⟩
theorem steerW_cong {c s c1 s1 : Nat → Nat → Int32} {mo : Int32} {w w1 : Nat → Int32} (hn : n ≤ 8) (h : ∀ k, k < n → w k = w1 k) (hc : ∀ k, k < n → ∀ j, j < 5 → c k j = c1 k j) : ∀ i, (∀ a, a < i → ∀ j, j < 3 → s a j = s1 a j) → (∀ a, a < i → ∃ j, j < 8 ∧ s a 1 = nI j) → ∀ k, k < n → steerW n c s mo w i k = steerW n c1 s1 mo w1 i k
  | 0, _, _, k, hk => h k hk
  | i + 1, ha, hs, k, hk => by
    have ih := steerW_cong (mo := mo) hn h hc i (fun a h => ha a (by omega)) (fun a h => hs a (by omega))
    unfold steerW
    obtain ⟨j, hj, e⟩ := hs i (by omega)
    have e0 := ha i (by omega) 0 (by decide)
    have e1 := ha i (by omega) 1 (by decide)
    have e2 := ha i (by omega) 2 (by decide)
    rw [← e0, ← e1, ← e2, e, nI_clamp (show j < 2 ^ 31 by omega)]
    by_cases hjn : j < n
    · rw [← hc j hjn 0 (by decide)]
      split
      · exact upd_cong (ih k hk) (by rw [ih j hjn])
      · exact ih k hk
    · have hno : ¬ nI j < nI n := fun q => hjn ((nlt (by omega) (by omega)).mp q)
      rw [if_neg (fun q => hno q.2.1), if_neg (fun q => hno q.2.1)]
      exact ih k hk
theorem rungE_cong {v v1 : Nat → Nat → Int32} {mask mo : Int32} : ∀ i, (∀ a, a < i → ∀ j, j < 3 → v a j = v1 a j) → rungE v mask mo i = rungE v1 mask mo i
  | 0, _ => rfl
  | i + 1, h => by
    unfold rungE
    rw [rungE_cong i (fun a ha => h a (by omega)), h i (by omega) 0 (by decide), h i (by omega) 1 (by decide)]
theorem cutE_cong {v v1 : Nat → Nat → Int32} {mask mo cu : Int32} : ∀ i, (∀ a, a < i → ∀ j, j < 3 → v a j = v1 a j) → cutE v mask mo cu i = cutE v1 mask mo cu i
  | 0, _ => rfl
  | i + 1, h => by
    unfold cutE
    rw [cutE_cong i (fun a ha => h a (by omega)), h i (by omega) 0 (by decide), h i (by omega) 1 (by decide), h i (by omega) 2 (by decide)]
theorem Deq.rung {D E : Deb} (h : Deq D E) (mo : Int32) : rungD D mo = rungD E mo := by
  unfold rungD
  rw [← h.2.2.1, ← h.2.2.2.1]
  exact rungE_cong _ h.2.2.2.2.2.2
theorem Deq.cut {D E : Deb} (h : Deq D E) (mo cu : Int32) : cutD D mo cu = cutD E mo cu := by
  unfold cutD
  rw [← h.2.2.1, ← h.2.2.2.1]
  exact cutE_cong _ h.2.2.2.2.2.2
theorem Req.ready {D E : Deb} {mo : Int32} (hD : Deq D E) (hn : D.1.1 ≤ 8) (hs : stOK D) (h : Req D.1.1 r q) : ReqJ D.1.1 (readyR D mo r) (readyR E mo q) := by
  obtain ⟨h1, h2, h3, h4, h5⟩ := h
  refine ⟨⟨fun i hi => ⟨(h1 i hi).1, (h1 i hi).2.1, ?_, (h1 i hi).2.2.2.1, (h1 i hi).2.2.2.2.1, (h1 i hi).2.2.2.2.2⟩, ?_, h3, h4, h5⟩, rfl⟩
  · show steerW D.1.1 D.1.2 D.2.1.2 mo r.2.2.1 D.2.1.1 i = steerW E.1.1 E.1.2 E.2.1.2 mo q.2.2.1 E.2.1.1 i
    rw [← hD.1, ← hD.2.1]
    exact steerW_cong hn (fun k hk => (h1 k hk).2.2.1) hD.2.2.2.2.1 _ hD.2.2.2.2.2.1 hs i hi
  · show cutD D mo _ = cutD E mo _
    rw [h2, hD.cut]
theorem Req.go {D E : Deb} {mo : Int32} (hD : Deq D E) (hn : D.1.1 ≤ 8) (hs : stOK D) (h : Req D.1.1 r q) : ReqJ D.1.1 (goR D mo r) (goR E mo q) := by
  unfold goR
  rw [h.2.1, hD.rung, hD.cut]
  split
  · rw [← hD.1]
    exact (h.ready hD hn hs).all hn hD.2.2.2.2.1 D.1.1 (Nat.le_refl _)
  · exact h.ready hD hn hs
theorem RSt_cong {D E : Deb} (hD : Deq D E) (hn : D.1.1 ≤ 8) (hs : stOK D) : ∀ t, ReqJ D.1.1 (RSt D t) (RSt E t)
  | 0 => ⟨⟨fun k hk => ⟨hD.2.2.2.2.1 k hk 1 (by decide), hD.2.2.2.2.1 k hk 2 (by decide), hD.2.2.2.2.1 k hk 3 (by decide), rfl, rfl, rfl⟩, rfl, rfl, rfl, rfl⟩, rfl⟩
  | t + 1 => (RSt_cong hD hn hs t).1.go hD hn hs
end RQ

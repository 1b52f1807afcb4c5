/-! ===== what lies beyond the cars doesn't matter ===== -/
section RQ
variable {n : Nat} {r q : RS}
/-- alike for the first n cars, but for the strikes of this moment by which both stay -/
def Req (n : Nat) (r q : RS) : Prop := (∀ k, k < n → r.1 k = q.1 k ∧ r.2.1 k = q.2.1 k ∧ r.2.2.1 k = q.2.2.1 k ∧ r.2.2.2.1 k = q.2.2.2.1 k ∧ r.2.2.2.2.1 k = q.2.2.2.2.1 k ∧ r.2.2.2.2.2.1 k = q.2.2.2.2.2.1 k) ∧ r.2.2.2.2.2.2.1 = q.2.2.2.2.2.2.1 ∧ r.2.2.2.2.2.2.2.1 = q.2.2.2.2.2.2.2.1 ∧ r.2.2.2.2.2.2.2.2.1 = q.2.2.2.2.2.2.2.2.1 ∧ r.2.2.2.2.2.2.2.2.2.1 = q.2.2.2.2.2.2.2.2.2.1
def ReqJ (n : Nat) (r q : RS) : Prop := Req n r q ∧ r.2.2.2.2.2.2.2.2.2.2 = q.2.2.2.2.2.2.2.2.2.2
theorem upd_cong {f g : Nat → Int32} {k i : Nat} {v w : Int32} (h : f i = g i) (hv : v = w) : upd f k v i = upd g k w i := by
  subst hv
  by_cases e : i = k
  · subst e; rw [pk_us, pk_us]
  · rw [pk_un e, pk_un e, h]
theorem whoIn_cong {xs ys xs' ys' : Nat → Int32} {x y : Int32} : ∀ n, (∀ k, k < n → xs k = xs' k ∧ ys k = ys' k) → whoIn xs ys x y n = whoIn xs' ys' x y n
  | 0, _ => rfl
  | n + 1, h => by
    unfold whoIn
    rw [(h n (by omega)).1, (h n (by omega)).2, whoIn_cong n (fun k hk => h k (by omega))]
theorem ReqJ.rf : ReqJ n r r := ⟨⟨fun _ _ => ⟨rfl, rfl, rfl, rfl, rfl, rfl⟩, rfl, rfl, rfl, rfl⟩, rfl⟩
theorem ReqJ.turn {k : Nat} {w w1 : Int32} (h : ReqJ n r q) (hw : w = w1) : ReqJ n (turnR k w r) (turnR k w1 q) :=
  ⟨⟨fun i hi => ⟨(h.1.1 i hi).1, (h.1.1 i hi).2.1, upd_cong (h.1.1 i hi).2.2.1 hw, (h.1.1 i hi).2.2.2.1, (h.1.1 i hi).2.2.2.2.1, (h.1.1 i hi).2.2.2.2.2⟩, h.1.2⟩, h.2⟩
theorem ReqJ.move {k : Nat} {x x1 y y1 : Int32} (h : ReqJ n r q) (hx : x = x1) (hy : y = y1) : ReqJ n (moveR k x y r) (moveR k x1 y1 q) :=
  ⟨⟨fun i hi => ⟨upd_cong (h.1.1 i hi).1 hx, upd_cong (h.1.1 i hi).2.1 hy, (h.1.1 i hi).2.2.1, (h.1.1 i hi).2.2.2.1, (h.1.1 i hi).2.2.2.2.1, (h.1.1 i hi).2.2.2.2.2⟩, h.1.2⟩, h.2⟩
theorem ReqJ.jam (h : ReqJ n r q) : ReqJ n (jamR r) (jamR q) := ⟨h.1, congrArg (· + 1) h.2⟩
theorem ReqJ.strike {k o : Nat} {w mo : Int32} (h : ReqJ n r q) (hk : k < n) (ho : o < n) : ReqJ n (strikeR k o w mo r) (strikeR k o w mo q) := by
  obtain ⟨⟨h1, h2, h3, h4, h5⟩, h6⟩ := h
  refine ⟨⟨fun i hi => ⟨(h1 i hi).1, (h1 i hi).2.1, (h1 i hi).2.2.1, upd_cong (h1 i hi).2.2.2.1 ?_, upd_cong (h1 i hi).2.2.2.2.1 ?_, upd_cong (h1 i hi).2.2.2.2.2 ?_⟩, h2, ?_, ?_, ?_⟩, h6⟩
  · rw [(h1 k hk).2.2.2.1, (h1 o ho).2.2.1]
  · rw [(h1 o ho).2.2.2.2.1]
  · rw [(h1 k hk).2.2.2.2.2]
  · show r.2.2.2.2.2.2.2.1 + 1 = q.2.2.2.2.2.2.2.1 + 1
    rw [h3]
  · show (if r.2.2.2.2.2.2.2.2.1 = -1 then mo else r.2.2.2.2.2.2.2.2.1) = (if q.2.2.2.2.2.2.2.2.1 = -1 then mo else q.2.2.2.2.2.2.2.2.1)
    rw [h4]
  · show (if r.2.2.2.2.2.2.2.2.1 = -1 then nI k else r.2.2.2.2.2.2.2.2.2.1) = (if q.2.2.2.2.2.2.2.2.1 = -1 then nI k else q.2.2.2.2.2.2.2.2.2.1)
    rw [h4, h5]
theorem ReqJ.into {k o : Nat} {w : Int32} {wt : Nat → Int32} (h : ReqJ n r q) (ho : o < n) : ReqJ n (intoR n wt k o w r) (intoR n wt k o w q) := by
  have e1 := (h.1.1 o ho).1
  have e2 := (h.1.1 o ho).2.1
  have e3 : ∀ x y, whoIn r.1 r.2.1 x y n = whoIn q.1 q.2.1 x y n := fun x y => whoIn_cong n (fun k hk => ⟨(h.1.1 k hk).1, (h.1.1 k hk).2.1⟩)
  unfold intoR
  have e4 : mayR n wt k o w r ↔ mayR n wt k o w q := by
    unfold mayR
    rw [e1, e2, e3]
  by_cases hm : mayR n wt k o w r
  · rw [if_pos hm, if_pos (e4.mp hm)]
    exact (h.move (by rw [e1]) (by rw [e2])).move e1 e2
  · rw [if_neg hm, if_neg (fun z => hm (e4.mpr z))]
    exact h.jam
theorem ReqJ.drvW {k : Nat} {w mo : Int32} {wt : Nat → Int32} (hn : n ≤ 8) (h : ReqJ n r q) (hk : k < n) : ReqJ n (driveW n wt k mo w r) (driveW n wt k mo w q) := by
  have e1 := (h.1.1 k hk).1
  have e2 := (h.1.1 k hk).2.1
  have e0 := (h.1.1 k hk).2.2.1
  have e3 : ∀ x y, whoIn r.1 r.2.1 x y n = whoIn q.1 q.2.1 x y n := fun x y => whoIn_cong n (fun k hk => ⟨(h.1.1 k hk).1, (h.1.1 k hk).2.1⟩)
  unfold driveW
  rw [e1, e2, e3, e0]
  split
  · exact h.turn rfl
  · split
    · exact h.move rfl rfl
    · rename_i h1 h2
      rcases whoIn_of q.1 q.2.1 (q.1 k + stX w) (q.2.1 k + stY w) n hn with h3 | ⟨j, hj, h3⟩
      · exact absurd h3 h2
      · rw [h3, nI_clamp (by omega)]
        exact (h.strike hk hj).into hj
theorem ReqJ.drv {k : Nat} {mo : Int32} {c : Nat → Nat → Int32} (hn : n ≤ 8) (h : ReqJ n r q) (hk : k < n) : ReqJ n (driveR n c k mo r) (driveR n c k mo q) := by
  have e0 : wayR (fun i => c i 0) k r = wayR (fun i => c i 0) k q := by
    unfold wayR
    rw [(h.1.1 k hk).2.2.1]
  unfold driveR
  rw [e0]
  exact h.drvW hn hk
theorem ReqJ.all {c : Nat → Nat → Int32} {mo cut : Int32} (hn : n ≤ 8) (h : ReqJ n r q) : ∀ k, k ≤ n → ReqJ n (driveAll n c mo cut r k) (driveAll n c mo cut q k)
  | 0, _ => h
  | k + 1, hk => by
    unfold driveAll
    split
    · exact ReqJ.all hn h k (by omega)
    · exact (ReqJ.all hn h k (by omega)).drv hn (by omega)
/-- the steers tell of cars 0 to 7 -/
def stOK (D : Deb) : Prop := ∀ i, i < D.2.1.1 → ∃ j, j < 8 ∧ D.2.1.2 i 1 = nI j
theorem steerW_cong {c s : Nat → Nat → Int32} {mo : Int32} {w w1 : Nat → Int32} (hn : n ≤ 8) (h : ∀ k, k < n → w k = w1 k) : ∀ i, (∀ a, a < i → ∃ j, j < 8 ∧ s a 1 = nI j) → ∀ k, k < n → steerW n c s mo w i k = steerW n c s mo w1 i k
  | 0, _, k, hk => h k hk
  | i + 1, hs, k, hk => by
    have ih := steerW_cong (c := c) (s := s) (mo := mo) hn h i (fun a ha => hs a (by omega))
    unfold steerW
    obtain ⟨j, hj, e⟩ := hs i (by omega)
    split
    · rename_i hc
      have hjn : j < n := by
        have := hc.2.1
        rw [e] at this
        exact (nlt (by omega) (by omega)).mp this
      rw [e, nI_clamp (by omega)]
      exact upd_cong (ih k hk) (by rw [ih j hjn])
    · exact ih k hk
theorem Req.ready {D : Deb} {mo : Int32} (hn : D.1.1 ≤ 8) (hs : stOK D) (h : Req D.1.1 r q) : ReqJ D.1.1 (readyR D mo r) (readyR D mo q) := by
  obtain ⟨h1, h2, h3, h4, h5⟩ := h
  refine ⟨⟨fun i hi => ⟨(h1 i hi).1, (h1 i hi).2.1, steerW_cong hn (fun k hk => (h1 k hk).2.2.1) _ hs i hi, (h1 i hi).2.2.2.1, (h1 i hi).2.2.2.2.1, (h1 i hi).2.2.2.2.2⟩, ?_, h3, h4, h5⟩, rfl⟩
  show cutD D mo _ = cutD D mo _
  rw [h2]
theorem Req.go {D : Deb} {mo : Int32} (hn : D.1.1 ≤ 8) (hs : stOK D) (h : Req D.1.1 r q) : ReqJ D.1.1 (goR D mo r) (goR D mo q) := by
  unfold goR
  rw [h.2.1]
  split
  · exact (h.ready hn hs).all hn D.1.1 (Nat.le_refl _)
  · exact h.ready hn hs
end RQ

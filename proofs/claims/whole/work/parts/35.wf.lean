/-! ===== a run's cars stand on the floor, each in a cell of its own ===== -/
def wfR (n N : Nat) (r : RS) : Prop := (∀ k, k < n → six (r.1 k) ∧ six (r.2.1 k) ∧ (0 ≤ r.2.2.1 k ∧ r.2.2.1 k ≤ 3) ∧ (∃ p, p ≤ 3 * N ∧ r.2.2.2.1 k = nI p) ∧ (∃ p, p ≤ N ∧ r.2.2.2.2.1 k = nI p) ∧ ∃ p, p ≤ N ∧ r.2.2.2.2.2.1 k = nI p) ∧ ∀ i j, i < n → j < n → r.1 i = r.1 j → r.2.1 i = r.2.1 j → i = j
theorem upd_at (f : Nat → Int32) (k i : Nat) (v : Int32) : upd f k v i = if i = k then v else f i := by
  by_cases h : i = k
  · subst h; rw [pk_us, if_pos rfl]
  · rw [pk_un h, if_neg h]
section WF
variable {n N : Nat} {r : RS}
theorem wfR.mono {M : Nat} (h : wfR n N r) (hm : N ≤ M) : wfR n M r := by
  refine ⟨fun k hk => ?_, h.2⟩
  obtain ⟨a1, a2, a3, ⟨p, hp, e⟩, ⟨q, hq, f⟩, ⟨u, hu, g⟩⟩ := h.1 k hk
  exact ⟨a1, a2, a3, ⟨p, by omega, e⟩, ⟨q, by omega, f⟩, ⟨u, by omega, g⟩⟩
theorem wfR.turn (h : wfR n N r) (k : Nat) (w : Int32) (hw : 0 ≤ w ∧ w ≤ 3) : wfR n N (turnR k w r) := by
  refine ⟨fun i hi => ?_, h.2⟩
  obtain ⟨a1, a2, a3, a4⟩ := h.1 i hi
  refine ⟨a1, a2, ?_, a4⟩
  show 0 ≤ upd r.2.2.1 k w i ∧ upd r.2.2.1 k w i ≤ 3
  rw [upd_at]
  split
  · exact hw
  · exact a3
theorem wfR.move (h : wfR n N r) (k : Nat) (x y : Int32) (hx : six x) (hy : six y) (hf : ∀ i, i < n → i ≠ k → ¬ (r.1 i = x ∧ r.2.1 i = y)) : wfR n N (moveR k x y r) := by
  refine ⟨fun i hi => ?_, fun i j hi hj e1 e2 => ?_⟩
  · obtain ⟨a1, a2, a3⟩ := h.1 i hi
    refine ⟨?_, ?_, a3⟩
    · show six (upd r.1 k x i)
      rw [upd_at]; split
      · exact hx
      · exact a1
    · show six (upd r.2.1 k y i)
      rw [upd_at]; split
      · exact hy
      · exact a2
  · have e1 : upd r.1 k x i = upd r.1 k x j := e1
    have e2 : upd r.2.1 k y i = upd r.2.1 k y j := e2
    rw [upd_at, upd_at] at e1 e2
    by_cases ei : i = k
    · by_cases ej : j = k
      · rw [ei, ej]
      · rw [if_pos ei, if_neg ej] at e1 e2
        exact absurd ⟨e1.symm, e2.symm⟩ (hf j hj ej)
    · by_cases ej : j = k
      · rw [if_neg ei, if_pos ej] at e1 e2
        exact absurd ⟨e1, e2⟩ (hf i hi ei)
      · rw [if_neg ei, if_neg ej] at e1 e2
        exact h.2 i j hi hj e1 e2
theorem wfR.jam (h : wfR n N r) : wfR n N (jamR r) := h
theorem nI_1' {p : Nat} {x : Int32} (h : x = nI p) : x + 1 = nI (p + 1) := by rw [h, nI_1]
theorem wfR.strike (h : wfR n N r) (k o : Nat) (w mo : Int32) : wfR n (N + 1) (strikeR k o w mo r) := by
  refine ⟨fun i hi => ?_, h.2⟩
  obtain ⟨a1, a2, a3, ⟨p, hp, e⟩, ⟨q, hq, f⟩, ⟨u, hu, g⟩⟩ := h.1 i hi
  refine ⟨a1, a2, a3, ?_, ?_, ?_⟩
  · show ∃ p, p ≤ 3 * (N + 1) ∧ upd r.2.2.2.1 k _ i = nI p
    rw [upd_at]
    split
    · rename_i hk
      subst hk
      rw [e]
      split
      · exact ⟨p + 3, by omega, nI_add p 3⟩
      · split
        · exact ⟨p + 1, by omega, nI_add p 1⟩
        · exact ⟨p + 2, by omega, nI_add p 2⟩
    · exact ⟨p, by omega, e⟩
  · show ∃ p, p ≤ N + 1 ∧ upd r.2.2.2.2.1 o _ i = nI p
    rw [upd_at]
    split
    · rename_i hk
      subst hk
      exact ⟨q + 1, by omega, nI_1' f⟩
    · exact ⟨q, by omega, f⟩
  · show ∃ p, p ≤ N + 1 ∧ upd r.2.2.2.2.2.1 k _ i = nI p
    rw [upd_at]
    split
    · rename_i hk
      subst hk
      exact ⟨u + 1, by omega, nI_1' g⟩
    · exact ⟨u, by omega, g⟩
theorem whoIn_none {xs ys : Nat → Int32} {x y : Int32} : ∀ n, n ≤ 8 → whoIn xs ys x y n = -1 → ∀ k, k < n → ¬ (xs k = x ∧ ys k = y)
  | 0, _, _, k, hk => absurd hk (Nat.not_lt_zero _)
  | n + 1, hn, h, k, hk => by
    unfold whoIn at h
    split at h
    · exfalso
      have := congrArg Int32.toInt h
      rw [nI_toInt (by omega)] at this
      have e1 : (-1 : Int32).toInt = -1 := rfl
      omega
    · rename_i q
      rcases Nat.lt_succ_iff_lt_or_eq.mp hk with h1 | rfl
      · exact whoIn_none n (by omega) h k h1
      · exact q
theorem whoIn_free {xs ys : Nat → Int32} {x y : Int32} : ∀ n, (∀ k, k < n → ¬ (xs k = x ∧ ys k = y)) → whoIn xs ys x y n = -1
  | 0, _ => rfl
  | n + 1, h => by
    unfold whoIn
    rw [if_neg (h n (by omega))]
    exact whoIn_free n (fun k hk => h k (by omega))
theorem whoIn_hit {xs ys : Nat → Int32} {x y : Int32} {k : Nat} (hx : xs k = x) (hy : ys k = y) : ∀ n, k < n → (∀ j, j < n → xs j = x → ys j = y → j = k) → whoIn xs ys x y n = nI k
  | 0, hk, _ => absurd hk (Nat.not_lt_zero _)
  | n + 1, hk, hu => by
    unfold whoIn
    by_cases q : xs n = x ∧ ys n = y
    · rw [if_pos q, hu n (by omega) q.1 q.2]
    · rw [if_neg q]
      have hkn : k ≠ n := fun e => q (by rw [← e]; exact ⟨hx, hy⟩)
      exact whoIn_hit hx hy n (by omega) (fun j hj => hu j (by omega))
theorem whoIn_at {xs ys : Nat → Int32} {x y : Int32} {j : Nat} : ∀ n, n ≤ 8 → whoIn xs ys x y n = nI j → j < 8 → j < n ∧ xs j = x ∧ ys j = y
  | 0, _, h, hj => by
    exfalso
    have := congrArg Int32.toInt h
    rw [nI_toInt (by omega)] at this
    have e1 : (whoIn xs ys x y 0).toInt = -1 := rfl
    omega
  | n + 1, hn, h, hj => by
    unfold whoIn at h
    split at h
    · rename_i q
      have e := (neq (by omega) (by omega)).mp h
      subst e
      exact ⟨by omega, q⟩
    · obtain ⟨a, b⟩ := whoIn_at n (by omega) h hj
      exact ⟨by omega, b⟩
theorem st_way : ∀ w, w < 4 → (stX (nI w) = 1 ∨ stX (nI w) = -1 ∨ stX (nI w) = 0) ∧ (stX (nI w) = 0 → stY (nI w) = 1 ∨ stY (nI w) = -1) := by decide
theorem m4_2 : ∀ w, w < 4 → 0 ≤ m4 (nI w + 2) ∧ m4 (nI w + 2) ≤ 3 := by decide +kernel
theorem m4_1 : ∀ w, w < 4 → (0 ≤ m4 (nI w + 1) ∧ m4 (nI w + 1) ≤ 3) ∧ (0 ≤ m4 (nI w + 3) ∧ m4 (nI w + 3) ≤ 3) := by decide +kernel
theorem wy_of {v : Int32} (h : 0 ≤ v ∧ v ≤ 3) : ∃ w, w < 4 ∧ v = nI w := by
  obtain ⟨j, hj, e⟩ := inN (m := 3) (by decide) h
  exact ⟨j, by omega, e⟩
theorem six_of {v : Int32} (h : six v) : ∃ w, w < 6 ∧ v = nI w := by
  obtain ⟨j, hj, e⟩ := inN (m := 5) (by decide) h
  exact ⟨j, by omega, e⟩
theorem wayR_ok (h : wfR n N r) (st : Nat → Int32) (k : Nat) (hk : k < n) : 0 ≤ wayR st k r ∧ wayR st k r ≤ 3 := by
  obtain ⟨w, hw, e⟩ := wy_of (h.1 k hk).2.2.1
  unfold wayR
  split
  · rw [e]; exact m4_2 w hw
  · exact (h.1 k hk).2.2.1
/-- the cell ahead isn't one's own -/
theorem st_ne {x y w : Int32} (hw : 0 ≤ w ∧ w ≤ 3) (hx : six x) (hy : six y) : ¬ (x + stX w = x ∧ y + stY w = y) := by
  obtain ⟨v, hv, rfl⟩ := wy_of hw
  obtain ⟨a, ha, rfl⟩ := six_of hx
  obtain ⟨b, hb, rfl⟩ := six_of hy
  have h : ∀ v, v < 4 → ∀ a, a < 6 → ∀ b, b < 6 → ¬ (nI a + stX (nI v) = nI a ∧ nI b + stY (nI v) = nI b) := by decide +kernel
  exact h v hv a ha b hb
theorem wfR.drvW (hn : n ≤ 8) (h : wfR n N r) (wt : Nat → Int32) (k : Nat) (hk : k < n) (mo w : Int32) (hw : 0 ≤ w ∧ w ≤ 3) : wfR n (N + 1) (driveW n wt k mo w r) := by
  obtain ⟨v, hv, ev⟩ := wy_of (h.1 k hk).2.2.1
  unfold driveW
  by_cases q1 : ¬ six (r.1 k + stX w) ∨ ¬ six (r.2.1 k + stY w)
  · rw [if_pos q1]
    exact (h.turn k _ (by rw [ev]; exact m4_2 v hv)).mono (by omega)
  · rw [if_neg q1]
    have s1 : six (r.1 k + stX w) := Decidable.not_not.mp (fun z => q1 (Or.inl z))
    have s2 : six (r.2.1 k + stY w) := Decidable.not_not.mp (fun z => q1 (Or.inr z))
    by_cases q2 : whoIn r.1 r.2.1 (r.1 k + stX w) (r.2.1 k + stY w) n = -1
    · rw [if_pos q2]
      exact (h.move k _ _ s1 s2 (fun i hi _ => whoIn_none n hn q2 i hi)).mono (by omega)
    · rw [if_neg q2]
      rcases whoIn_of r.1 r.2.1 (r.1 k + stX w) (r.2.1 k + stY w) n hn with h3 | ⟨j, hj, h3⟩
      · exact absurd h3 q2
      · rw [h3, nI_clamp (by omega)]
        obtain ⟨-, ex, ey⟩ := whoIn_at n hn h3 (by omega)
        have hjk : j ≠ k := fun e => by
          subst e
          exact st_ne hw (h.1 j hj).1 (h.1 j hj).2.1 ⟨ex.symm, ey.symm⟩
        have hs := h.strike k j w mo
        unfold rInto intoR
        split
        · rename_i hm
          obtain ⟨m1, m2, m3, m4⟩ := hm
          have g1 : wfR n (N + 1) (moveR j ((strikeR k j w mo r).1 j + stX w) ((strikeR k j w mo r).2.1 j + stY w) (strikeR k j w mo r)) := hs.move j _ _ m2 m3 (fun i hi _ => whoIn_none n hn m4 i hi)
          refine g1.move k _ _ (h.1 j hj).1 (h.1 j hj).2.1 (fun i hi hik z => ?_)
          have z1 : upd r.1 j (r.1 j + stX w) i = r.1 j := z.1
          have z2 : upd r.2.1 j (r.2.1 j + stY w) i = r.2.1 j := z.2
          rw [upd_at] at z1 z2
          by_cases e : i = j
          · rw [if_pos e] at z1 z2
            exact st_ne hw (h.1 j hj).1 (h.1 j hj).2.1 ⟨z1, z2⟩
          · rw [if_neg e] at z1 z2
            exact e (h.2 i j hi hj z1 z2)
        · exact hs.jam
theorem wfR.drv (hn : n ≤ 8) (h : wfR n N r) (c : Nat → Nat → Int32) (k : Nat) (hk : k < n) (mo : Int32) : wfR n (N + 1) (driveR n c k mo r) := h.drvW hn _ k hk mo _ (wayR_ok h _ k hk)
theorem wfR.all (hn : n ≤ 8) (h : wfR n N r) (c : Nat → Nat → Int32) (mo cut : Int32) : ∀ k, k ≤ n → wfR n (N + k) (driveAll n c mo cut r k)
  | 0, _ => h
  | k + 1, hk => by
    unfold driveAll
    split
    · exact (wfR.all hn h c mo cut k (by omega)).mono (by omega)
    · exact (wfR.all hn h c mo cut k (by omega)).drv hn c k (by omega) mo
theorem steerW_ok (c s : Nat → Nat → Int32) (mo : Int32) (w : Nat → Int32) (hw : ∀ k, k < n → 0 ≤ w k ∧ w k ≤ 3) : ∀ i, (∀ a, a < i → ∃ j, j < 8 ∧ s a 1 = nI j) → ∀ k, k < n → 0 ≤ steerW n c s mo w i k ∧ steerW n c s mo w i k ≤ 3
  | 0, _, k, hk => hw k hk
  | i + 1, hs, k, hk => by
    have ih := steerW_ok c s mo w hw i (fun a ha => hs a (by omega))
    unfold steerW
    split
    · rename_i q
      obtain ⟨j, hj, e⟩ := hs i (by omega)
      rw [upd_at]
      split
      · rename_i ek
        obtain ⟨v, hv, ev⟩ := wy_of (ih k hk)
        rw [← ek, ev]
        split
        · exact (m4_1 v hv).1
        · exact (m4_1 v hv).2
      · exact ih k hk
    · exact ih k hk
theorem wfR.ready {D : Deb} (h : wfR D.1.1 N r) (hs : stOK D) (mo : Int32) : wfR D.1.1 N (readyR D mo r) := by
  refine ⟨fun k hk => ?_, h.2⟩
  obtain ⟨a1, a2, a3, a4⟩ := h.1 k hk
  exact ⟨a1, a2, steerW_ok _ _ mo _ (fun i hi => (h.1 i hi).2.2.1) _ hs k hk, a4⟩
theorem wfR.go {D : Deb} (hn : D.1.1 ≤ 8) (h : wfR D.1.1 N r) (hs : stOK D) (mo : Int32) : wfR D.1.1 (N + 8) (goR D mo r) := by
  unfold goR
  split
  · exact ((h.ready hs mo).all hn _ mo _ D.1.1 (Nat.le_refl _)).mono (by omega)
  · exact (h.ready hs mo).mono (by omega)
end WF
/-- the cars of a debate stand on the floor, each in a cell of its own -/
def wfD (D : Deb) : Prop := D.1.1 ≤ 8 ∧ stOK D ∧ (∀ k, k < D.1.1 → six (D.1.2 k 1) ∧ six (D.1.2 k 2) ∧ 0 ≤ D.1.2 k 3 ∧ D.1.2 k 3 ≤ 3) ∧ ∀ i j, i < D.1.1 → j < D.1.1 → D.1.2 i 1 = D.1.2 j 1 → D.1.2 i 2 = D.1.2 j 2 → i = j
theorem wfD.start {D : Deb} (h : wfD D) : wfR D.1.1 0 (startR D) := ⟨fun k hk => ⟨(h.2.2.1 k hk).1, (h.2.2.1 k hk).2.1, (h.2.2.1 k hk).2.2, ⟨0, Nat.zero_le _, rfl⟩, ⟨0, Nat.zero_le _, rfl⟩, ⟨0, Nat.zero_le _, rfl⟩⟩, h.2.2.2⟩
theorem wfD.run {D : Deb} (h : wfD D) : ∀ t, wfR D.1.1 (8 * t) (RSt D t)
  | 0 => h.start
  | t + 1 => ((h.run t).go h.1 h.2.1 (nI t)).mono (by omega)
/-- bits of a set -/
def orT (T : Nat → Bool) : Nat → Int32
  | 0 => 0
  | k + 1 => orT T k ||| (if T k then bit1 k else 0)
theorem orT_cong {T U : Nat → Bool} : ∀ n, (∀ k, k < n → T k = U k) → orT T n = orT U n
  | 0, _ => rfl
  | n + 1, h => by unfold orT; rw [orT_cong n (fun k hk => h k (by omega)), h n (by omega)]
theorem orT_add (T : Nat → Bool) (k : Nat) : ∀ n, k < n → orT (fun i => T i || decide (i = k)) n = orT T n ||| bit1 k
  | 0, h => absurd h (Nat.not_lt_zero _)
  | n + 1, h => by
    unfold orT
    by_cases e : k = n
    · subst e
      have e1 : orT (fun i => T i || decide (i = k)) k = orT T k := orT_cong k (fun i hi => by rw [decide_eq_false (show ¬ i = k by omega), Bool.or_false])
      rw [e1]
      simp only [decide_true, Bool.or_true, if_true]
      cases T k
      · simp
      · simp only [if_true]; rw [Int32.or_assoc, Int32.or_self]
    · rw [orT_add T k n (by omega), decide_eq_false (show ¬ n = k by omega), Bool.or_false, Int32.or_assoc, Int32.or_assoc, Int32.or_comm (bit1 k)]
/-- who has struck or was struck -/
def tcP (r : RS) (n : Nat) : Int32 := orT (fun k => decide (¬ (r.2.2.2.2.1 k = 0 ∧ r.2.2.2.2.2.1 k = 0))) n
theorem orT_not : ∀ (b0 b1 b2 b3 b4 b5 b6 b7 : Bool), ∀ n, n ≤ 8 → ~~~ (orT (fun k => [b0, b1, b2, b3, b4, b5, b6, b7].getD k false) n) &&& ((1 : Int32) <<< (nI n &&& 31) - 1) = orT (fun k => !([b0, b1, b2, b3, b4, b5, b6, b7].getD k false)) n := by decide +kernel
theorem orT_neg (T : Nat → Bool) (n : Nat) (hn : n ≤ 8) : ~~~ (orT T n) &&& ((1 : Int32) <<< (nI n &&& 31) - 1) = orT (fun k => !(T k)) n := by
  have h := orT_not (T 0) (T 1) (T 2) (T 3) (T 4) (T 5) (T 6) (T 7) n hn
  have e : ∀ k, k < n → [T 0, T 1, T 2, T 3, T 4, T 5, T 6, T 7].getD k false = T k := fun k hk => by
    rcases (show k = 0 ∨ k = 1 ∨ k = 2 ∨ k = 3 ∨ k = 4 ∨ k = 5 ∨ k = 6 ∨ k = 7 by omega) with rfl | rfl | rfl | rfl | rfl | rfl | rfl | rfl <;> rfl
  have e2 : orT (fun k => !([T 0, T 1, T 2, T 3, T 4, T 5, T 6, T 7].getD k false)) n = orT (fun k => !(T k)) n := orT_cong n (fun k hk => congrArg (fun x => !x) (e k hk))
  rw [orT_cong n e, e2] at h
  exact h
theorem meek_orT (s b : Nat → Int32) : ∀ n, meekP s b n = orT (fun k => !(decide (¬ (s k = 0 ∧ b k = 0)))) n
  | 0 => rfl
  | n + 1 => by
    unfold meekP orT
    rw [meek_orT s b n]
    by_cases q : s n = 0 ∧ b n = 0
    · rw [if_pos q]; simp [q]; rfl
    · rw [if_neg q]; simp [q]
theorem tcP_meek (r : RS) (n : Nat) (hn : n ≤ 8) : ~~~ (tcP r n) &&& ((1 : Int32) <<< (nI n &&& 31) - 1) = meekP r.2.2.2.2.1 r.2.2.2.2.2.1 n := by
  rw [tcP, orT_neg _ n hn, meek_orT]


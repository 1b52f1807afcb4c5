/-! ===== forms of contracts; numbers; loops ===== -/
/-- the answer r, the store σ0 -/
def qI (r : Int32) (σ0 : mS) : Option Value → mS → Prop := fun v σ => v = some (.int r) ∧ σ = σ0
def qL (r : Int64) (σ0 : mS) : Option Value → mS → Prop := fun v σ => v = some (.long r) ∧ σ = σ0
def qR (r : Nat) (σ0 : mS) : Option Value → mS → Prop := fun v σ => v = some (.ref r) ∧ σ = σ0
def qV (σ0 : mS) : Option Value → mS → Prop := fun v σ => v = none ∧ σ = σ0
/-- no answer, a store of which P holds; an int and a store -/
def qVP (P : mS → Prop) : Option Value → mS → Prop := fun v σ => v = none ∧ P σ
def qIP (P : Int32 → mS → Prop) : Option Value → mS → Prop := fun v σ => ∃ r, v = some (.int r) ∧ P r σ
def qLP (P : Int64 → mS → Prop) : Option Value → mS → Prop := fun v σ => ∃ r, v = some (.long r) ∧ P r σ
/-- a truth as an int -/
def bI (b : Bool) : Int32 := if b then 1 else 0
theorem bI_t : bI true = 1 := rfl
theorem bI_f : bI false = 0 := rfl
theorem bI_nar (b : Bool) : narrow .boolean (.int (bI b)) = .int (bI b) := by cases b <;> rfl
theorem bI_ne {b : Bool} : bI b ≠ 0 ↔ b = true := by cases b <;> decide
theorem bI_eq {b : Bool} : bI b = 0 ↔ b = false := by cases b <;> decide
section MB
variable {G : mG} {l : Launch} {d : Nat} {μ : mM} {pc : Nat} {ls : List (Nat × Value)} {st : List Value} {σ : mS} {Q : Option Value → mS → Prop}
/-- a choice of two values, and on at the place where both roads meet -/
theorem m_sel {P : Prop} [Decidable P] {a b : Int32} {pcJ : Nat} {X : Prop} (k : mW G l d μ pcJ ls (.int (if P then a else b) :: st) σ Q) (f : (P → mW G l d μ pcJ ls (.int a :: st) σ Q) → (¬ P → mW G l d μ pcJ ls (.int b :: st) σ Q) → X) : X :=
  f (fun h => by rw [if_pos h] at k; exact k) (fun h => by rw [if_neg h] at k; exact k)
theorem mW.cut (P : mS → Prop) (hP : P σ) (k : ∀ s, P s → mW G l d μ pc ls st s Q) : mW G l d μ pc ls st σ Q := k σ hP
theorem mW.sto {σ1 : mS} (h : σ = σ1) (k : mW G l d μ pc ls st σ1 Q) : mW G l d μ pc ls st σ Q := h ▸ k
/-- another first value on the stack that is the same -/
theorem mW.top {v w : Int32} (h : v = w) (k : mW G l d μ pc ls (.int w :: st) σ Q) : mW G l d μ pc ls (.int v :: st) σ Q := h ▸ k
theorem m_qI {v : Option Value} {σ1 : mS} {r : Int32} {σ0 : mS} (h : qI r σ0 v σ1) (k : mW G l d μ pc ls (.int r :: st) σ0 Q) : mW G l d μ pc ls (v.toList ++ st) σ1 Q := by
  obtain ⟨rfl, rfl⟩ := h
  exact k
theorem m_qL {v : Option Value} {σ1 : mS} {r : Int64} {σ0 : mS} (h : qL r σ0 v σ1) (k : mW G l d μ pc ls (.long r :: st) σ0 Q) : mW G l d μ pc ls (v.toList ++ st) σ1 Q := by
  obtain ⟨rfl, rfl⟩ := h
  exact k
theorem m_qR {v : Option Value} {σ1 : mS} {r : Nat} {σ0 : mS} (h : qR r σ0 v σ1) (k : mW G l d μ pc ls (.ref r :: st) σ0 Q) : mW G l d μ pc ls (v.toList ++ st) σ1 Q := by
  obtain ⟨rfl, rfl⟩ := h
  exact k
theorem m_qV {v : Option Value} {σ1 : mS} {σ0 : mS} (h : qV σ0 v σ1) (k : mW G l d μ pc ls st σ0 Q) : mW G l d μ pc ls (v.toList ++ st) σ1 Q := by
  obtain ⟨rfl, rfl⟩ := h
  exact k
theorem m_qVP {v : Option Value} {σ1 : mS} {P : mS → Prop} (h : qVP P v σ1) (k : P σ1 → mW G l d μ pc ls st σ1 Q) : mW G l d μ pc ls (v.toList ++ st) σ1 Q := by
  obtain ⟨rfl, h⟩ := h
  exact k h
theorem m_qIP {v : Option Value} {σ1 : mS} {P : Int32 → mS → Prop} (h : qIP P v σ1) (k : ∀ r, P r σ1 → mW G l d μ pc ls (.int r :: st) σ1 Q) : mW G l d μ pc ls (v.toList ++ st) σ1 Q := by
  obtain ⟨r, rfl, h⟩ := h
  exact k r h
theorem m_qLP {v : Option Value} {σ1 : mS} {P : Int64 → mS → Prop} (h : qLP P v σ1) (k : ∀ r, P r σ1 → mW G l d μ pc ls (.long r :: st) σ1 Q) : mW G l d μ pc ls (v.toList ++ st) σ1 Q := by
  obtain ⟨r, rfl, h⟩ := h
  exact k r h
/-- a weaker end -/
theorem mMet.conseq {As : List Value} {Q1 : Option Value → mS → Prop} (h : mMet G l d μ As σ Q1) (hq : ∀ v s, Q1 v s → Q v s) : mMet G l d μ As σ Q := by
  intro p e h1 h2 h3 s m args below h4 h5 h6 h7
  obtain ⟨n, o, g1, g2, g3, ⟨⟨v, σ1, q1, q2⟩, g4⟩, g5⟩ := h p e h1 h2 h3 s m args below h4 h5 h6 h7
  exact ⟨n, o, g1, g2, g3, ⟨⟨v, σ1, hq v σ1 q1, q2⟩, g4⟩, g5⟩
end MB
theorem nle {a b : Nat} (ha : a < 1000000) (hb : b < 1000000) : nI a ≤ nI b ↔ a ≤ b := nI_leI (by omega) (by omega)
theorem nlt {a b : Nat} (ha : a < 1000000) (hb : b < 1000000) : nI a < nI b ↔ a < b := nI_ltI (by omega) (by omega)
theorem neq {a b : Nat} (ha : a < 1000000) (hb : b < 1000000) : nI a = nI b ↔ a = b := nI_eq (by omega) (by omega)
theorem nI_ofI {x : Int32} {n : Nat} (h0 : 0 ≤ x) (hn : n < 1000000) (h : x < nI n) : ∃ j, j < n ∧ x = nI j := by
  rcases pk_ix x (n := n) (by omega) with h1 | h1 | h1
  · exact absurd h1 (Int32.not_lt.mpr h0)
  · exact absurd h (Int32.not_lt.mpr h1)
  · exact h1
/-- a loop that counts up to N -/
theorem down {S : Type} {N : Nat} (I : Nat → S → Prop) (g : Nat → S → Prop) (hx : ∀ s, I N s → g N s) (hs : ∀ k s, k < N → I k s → (∀ s', I (k + 1) s' → g (k + 1) s') → g k s) : ∀ k s, k ≤ N → I k s → g k s := by
  have h : ∀ j k s, N - k = j → k ≤ N → I k s → g k s := by
    intro j
    induction j with
    | zero =>
      intro k s e hk hI
      have : k = N := by omega
      subst this
      exact hx s hI
    | succ j ih =>
      intro k s e hk hI
      exact hs k s (by omega) hI (fun s' h' => ih (k + 1) s' (by omega) (by omega) h')
  exact fun k s => h (N - k) k s rfl
theorem qI_of {r r1 : Int32} {σ : mS} (h : r1 = r) : qI r σ (some (.int r1)) σ := ⟨by rw [h], rfl⟩
theorem bI_pos {P : Prop} [Decidable P] (h : P) : (1 : Int32) = bI (decide P) := by rw [decide_eq_true h]; rfl
theorem bI_neg {P : Prop} [Decidable P] (h : ¬ P) : (0 : Int32) = bI (decide P) := by rw [decide_eq_false h]; rfl
theorem ge_no {x y : Int32} {a b : Nat} (hx : x = nI a) (h : x ≤ y) (hy : y = nI b) (hb : b < a) (ha : a < 1000000) : False := by
  subst hx hy
  have := (nle (by omega) (by omega)).mp h
  omega
theorem ge_yes {x y : Int32} (h : ¬ x ≤ y) (hx : x = y) : False := h (by rw [hx]; exact Int32.le_refl _)
theorem bI0 {P : Prop} [Decidable P] (h : bI (decide P) = 0) : ¬ P := of_decide_eq_false (bI_eq.mp h)
theorem bI1 {P : Prop} [Decidable P] (h : ¬ bI (decide P) = 0) : P := of_decide_eq_true (bI_ne.mp h)
theorem nadd {a b c : Nat} (h : a + b = c) : nI a + nI b = nI c := by rw [nI_add, h]
theorem naddL {a c : Nat} {v : Int32} (b : Nat) (hv : v = nI b) (h : a + b = c) : nI a + v = nI c := by rw [hv, nI_add, h]

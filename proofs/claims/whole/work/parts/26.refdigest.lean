/-! ===== the reference: its answers out of what is told; the digest ===== -/
/-- lengths of the two texts, how many events, how many sightings; the debate; sightings; the two faults; the latest finding -/
abbrev PA : Type := (Nat × Nat × Nat × Nat) × Deb × (Nat → Nat → Int32) × Int32 × Int32 × Int32
abbrev aE (a : PA) : Nat := a.1.2.2.1
abbrev aZ (a : PA) : Nat := a.1.2.2.2
abbrev aD (a : PA) : Deb := a.2.1
abbrev aW (a : PA) : Nat → Nat → Int32 := a.2.2.1
/-- the reference's rows tell a -/
def oA (a : PA) (s : mS) : Prop := okR s a.1.1 a.1.2.1 (aE a) ∧ okS s (aZ a) ∧ Dt s a.1.1 a.1.2.1 (aE a) = aD a ∧ seF s = aW a ∧ (parC a.1.1 (tx s 0)).1 = a.2.2.2.1 ∧ (parS a.1.2.1 (tx s 1)).1 = a.2.2.2.2.1 ∧ s.1 111 52 = a.2.2.2.2.2
theorem oA.scr {a : PA} {σ s : mS} (h : oA a σ) (f : fW wScr σ s) : oA a s := by
  obtain ⟨h1, h2, h3, h4, h5, h6, h7⟩ := h
  have t0 : tx s 0 = tx σ 0 := funext fun i => f.at (by omega)
  have t1 : tx s 1 = tx σ 1 := funext fun i => f.at (by omega)
  refine ⟨h1.scr f, h2.tr f (by omega) (fun y z _ _ => by omega), (Dt_scr f _ _ _).trans h3, (seF_eq (fun y _ _ => f.row (fun z => by omega))).trans h4, ?_, ?_, (f.at (by omega)).trans h7⟩
  · rw [t0]; exact h5
  · rw [t1]; exact h6
def qA (a : PA) (σ : mS) (r : Int32) : Option Value → mS → Prop := qIP (fun r1 s => r1 = r ∧ oA a s ∧ fW wScr σ s)
def qB (a : PA) (σ : mS) (r : Int32) : Option Value → mS → Prop := qIP (fun r1 s => r1 = r ∧ oA a s ∧ rdR s (aD a) ∧ fW wScr σ s)
def qLA (a : PA) (σ : mS) (r : Int64) : Option Value → mS → Prop := qLP (fun r1 s => r1 = r ∧ oA a s ∧ fW wScr σ s)
def qLB (a : PA) (σ : mS) (r : Int64) : Option Value → mS → Prop := qLP (fun r1 s => r1 = r ∧ oA a s ∧ rdR s (aD a) ∧ fW wScr σ s)
def fo (f : Nat → Int64) (h : Int64) : Nat → Int64
  | 0 => h
  | i + 1 => 31 * fo f h i + f i
def foo (g : Nat → Int64 → Int64) (h : Int64) : Nat → Int64
  | 0 => h
  | i + 1 => g i (foo g h i)
def hoA (D : Deb) (t : Nat) (w : Int32) : Int32 := if w = 0 then nI (ayD D t) else if w = 1 then nI D.1.1 - nI (ayD D t) else rungD D (nI t)
def fiA (D : Deb) (w : Int32) : Int32 := if w = 0 then (RSt D 24).2.2.2.2.2.2.2.2.1 else (RSt D 24).2.2.2.2.2.2.2.2.2.1
def jaA (D : Deb) (w : Int32) : Int32 := if w = 0 then nI (jmP (jmD D) 23) else jmD D (jmP (jmD D) 23)
def caA (D : Deb) : Int32 := nI (crP D.1.1 (fun t => rungD D (nI t)) (ayD D) 24)
def beA (D : Deb) : Int32 := bestP (RSt D 24).2.2.2.1 D.1.1
def spA (D : Deb) (i : Int32) : Int32 := if i = -1 then (spR D).1 else if (spR D).1 ≤ i then -1 else if i = 0 then (spR D).2.1 else (spR D).2.2
def cnB (a : PA) (w : Int32) : Int32 := cnA (aD a) a.1.1 a.1.2.1 (aZ a) a.2.2.2.2.2 w
section WA
variable {G : mG} {l : Launch} {d : Nat} {σ : mS} {a : PA} {μ : mM} {As : List Value}
theorem toA {r : Int32} (A : oA a σ) (h : mMet G l d μ As σ (qIP (fun r1 s => r1 = r ∧ fW wScr σ s))) : mMet G l d μ As σ (qA a σ r) :=
  h.conseq (fun v s q => by obtain ⟨r1, q1, q2, q3⟩ := q; exact ⟨r1, q1, q2, A.scr q3, q3⟩)
theorem toA3 {P : Int32 → mS → Prop} {r : Int32} (A : oA a σ) (h : mMet G l d μ As σ (qIP (fun r1 s => r1 = r ∧ P r1 s ∧ fW wScr σ s))) : mMet G l d μ As σ (qA a σ r) :=
  h.conseq (fun v s q => by obtain ⟨r1, q1, q2, -, q3⟩ := q; exact ⟨r1, q1, q2, A.scr q3, q3⟩)
theorem a_atOf (hd : 8 ≤ d) (A : oA a σ) (t k w : Nat) (ht : t < 24) (hk : k < (aD a).1.1) (hw : w ≤ 5) : mMet G l d kX11_atOf [.ref 111, .int (nI t), .int (nI k), .int (nI w)] σ (qA a σ (aAt (RSt (aD a) (t + 1)) k w)) := by
  have h := c_atOf (G := G) (l := l) hd _ _ _ A.1 t k w ht (by rw [A.2.2.1]; exact hk) hw
  rw [A.2.2.1] at h; exact toA A h
theorem a_houseOf (hd : 8 ≤ d) (A : oA a σ) (t : Nat) (ht : t < 24) (w : Int32) : mMet G l d kX11_houseOf [.ref 111, .int (nI t), .int w] σ (qA a σ (hoA (aD a) t w)) := by
  have h := c_houseOf (G := G) (l := l) hd _ _ _ A.1 t ht w
  rw [A.2.2.1] at h; exact toA A h
theorem a_whoOf (hd : 8 ≤ d) (A : oA a σ) (t : Nat) (ht : t < 24) (x y : Int32) : mMet G l d kX11_whoOf [.ref 111, .int (nI t), .int x, .int y] σ (qA a σ (whoIn (RSt (aD a) (t + 1)).1 (RSt (aD a) (t + 1)).2.1 x y (aD a).1.1)) := by
  have h := c_whoOf (G := G) (l := l) hd _ _ _ A.1 t ht x y
  rw [A.2.2.1] at h; exact toA A h
theorem a_strikesOf (hd : 8 ≤ d) (A : oA a σ) : mMet G l d kX11_strikesOf [.ref 111] σ (qA a σ (RSt (aD a) 24).2.2.2.2.2.2.2.1) := by
  have h := c_strikesOf (G := G) (l := l) hd _ _ _ A.1
  rw [A.2.2.1] at h; exact toA A h
theorem a_firstOf (hd : 8 ≤ d) (A : oA a σ) (w : Int32) : mMet G l d kX11_firstOf [.ref 111, .int w] σ (qA a σ (fiA (aD a) w)) := by
  have h := c_firstOf (G := G) (l := l) hd _ _ _ A.1 w
  rw [A.2.2.1] at h; exact toA A h
theorem a_meekOf (hd : 8 ≤ d) (A : oA a σ) : mMet G l d kX11_meekOf [.ref 111] σ (qA a σ (meekD (aD a))) := by
  have h := c_meekOf (G := G) (l := l) hd _ _ _ A.1
  rw [A.2.2.1] at h; exact toA A h
theorem a_bestOf (hd : 8 ≤ d) (A : oA a σ) : mMet G l d kX11_bestOf [.ref 111] σ (qA a σ (beA (aD a))) := by
  have h := c_bestOf (G := G) (l := l) hd _ _ _ A.1
  rw [A.2.2.1] at h; exact toA A h
theorem a_jamOf (hd : 8 ≤ d) (A : oA a σ) (w : Int32) : mMet G l d kX11_jamOf [.ref 111, .int w] σ (qA a σ (jaA (aD a) w)) := by
  have h := c_jamOf (G := G) (l := l) hd _ _ _ A.1 w
  rw [A.2.2.1] at h; exact toA A h
theorem a_carriedOf (hd : 8 ≤ d) (A : oA a σ) : mMet G l d kX11_carriedOf [.ref 111] σ (qA a σ (caA (aD a))) := by
  have h := c_carriedOf (G := G) (l := l) hd _ _ _ A.1
  rw [A.2.2.1] at h; exact toA A h
theorem a_standOf (hd : 8 ≤ d) (A : oA a σ) (k : Nat) (hk : k < (aD a).1.1) (w : Int32) : mMet G l d kX11_standOf [.ref 111, .int (nI k), .int w] σ (qA a σ (stA (aD a) k w)) := by
  have h := c_standOf (G := G) (l := l) hd _ _ _ A.1 k (by rw [A.2.2.1]; exact hk) w
  rw [A.2.2.1] at h; exact toA3 (P := fun _ s => s.1 111 2 = nI (aD a).1.1) A h
theorem a_betterOf (hd : 8 ≤ d) (A : oA a σ) (k mo : Nat) (hk : k < (aD a).1.1) (hmo : mo < 24) (w : Int32) : mMet G l d kX11_betterOf [.ref 111, .int (nI k), .int (nI mo), .int w] σ (qA a σ (btA (aD a) k mo w)) := by
  have h := c_betterOf (G := G) (l := l) hd _ _ _ A.1 k mo (by rw [A.2.2.1]; exact hk) hmo w
  rw [A.2.2.1] at h; exact toA3 (P := fun _ s => s.1 111 2 = nI (aD a).1.1) A h
theorem a_ringOf (hd : 8 ≤ d) (A : oA a σ) (w : Int32) : mMet G l d kX11_ringOf [.ref 111, .int w] σ (qA a σ (rgA (aD a) w)) := by
  have h := c_ringOf (G := G) (l := l) hd _ _ _ A.1 w
  rw [A.2.2.1] at h; exact toA A h
theorem a_neverNow (hd : 8 ≤ d) (A : oA a σ) : mMet G l d kX11_neverNow [.ref 111] σ (qA a σ (nvP (aD a) (aZ a) (aW a) (aE a))) := by
  have h := c_neverNow (G := G) (l := l) hd _ _ _ A.1 _ A.2.1
  rw [A.2.2.1, A.2.2.2.1] at h; exact toA A h
theorem a_sortsBy (hd : 8 ≤ d) (A : oA a σ) (k : Nat) (hk : k < (aD a).1.1) : mMet G l d kX11_sortsBy [.ref 111, .int (nI k)] σ (qA a σ (soP (aD a) k (aZ a) (aW a) 3)) := by
  have h := c_sortsBy (G := G) (l := l) hd _ _ _ A.1 _ A.2.1 k (by rw [A.2.2.1]; exact hk)
  rw [A.2.2.1, A.2.2.2.1] at h; exact toA3 (P := fun _ s => rdR s (aD a)) A h
theorem a_heavyBy (hd : 8 ≤ d) (A : oA a σ) (k : Nat) (hk : k < (aD a).1.1) : mMet G l d kX11_heavyBy [.ref 111, .int (nI k)] σ (qA a σ (hvP (aD a) k (aZ a) (aW a) 9)) := by
  have h := c_heavyBy (G := G) (l := l) hd _ _ _ A.1 _ A.2.1 k (by rw [A.2.2.1]; exact hk)
  rw [A.2.2.1, A.2.2.2.1] at h
  exact h.conseq (fun v s q => by obtain ⟨r1, q1, q2, -, -, q3⟩ := q; exact ⟨r1, q1, q2, A.scr q3, q3⟩)
theorem a_askOf (hd : 9 ≤ d) (A : oA a σ) (k : Nat) (hk : k < (aD a).1.1) : mMet G l d kX11_askOf [.ref 111, .int (nI k)] σ (qA a σ (akP (aD a) k (aZ a) (aW a))) := by
  have h := c_askOf (G := G) (l := l) hd _ _ _ A.1 _ A.2.1 k (by rw [A.2.2.1]; exact hk)
  rw [A.2.2.1, A.2.2.2.1] at h; exact toA3 (P := fun _ s => rdR s (aD a)) A h
theorem a_chanceOf (hd : 8 ≤ d) (A : oA a σ) (c k : Nat) (hc : c ≤ 16) (hk : k < (aD a).1.1) (w : Int32) : mMet G l d kX11_chanceOf [.ref 111, .int (nI c), .int (nI k), .int w] σ (qLB a σ (chA (aD a) c k w)) := by
  have h := c_chanceOf (G := G) (l := l) hd _ _ _ A.1 c k hc (by rw [A.2.2.1]; exact hk) w
  rw [A.2.2.1] at h
  exact h.conseq (fun v s q => by obtain ⟨r1, q1, q2, q4, q3⟩ := q; exact ⟨r1, q1, q2, A.scr q3, q4, q3⟩)
theorem a_agesOf (hd : 8 ≤ d) (A : oA a σ) (x : Int32) (n : Nat) (hn : n ≤ 8) (w : Int32) : mMet G l d kX11_agesOf [.ref 111, .int x, .int (nI n), .int w] σ (qA a σ (agA (aD a) x n w)) := by
  have h := c_agesOf (G := G) (l := l) hd _ _ _ A.1 x n hn w
  rw [A.2.2.1] at h; exact toA A h
theorem a_count (hd : 9 ≤ d) (A : oA a σ) (w : Int32) : mMet G l d kX11_count [.ref 111, .int w] σ (qA a σ (cnB a w)) := by
  have h := c_count (G := G) (l := l) hd _ _ _ A.1 _ A.2.1.1 w
  rw [A.2.2.1, A.2.2.2.2.2.2] at h; exact toA A h
theorem a_steerTold (hd : 6 ≤ d) (A : oA a σ) (i w : Nat) (hi : i < 12) (hw : w < 3) : mMet G l d kX11_steerTold [.ref 111, .int (nI i), .int (nI w)] σ (qB a σ (slA (aD a) i w)) := by
  have h := c_steerTold (G := G) (l := l) hd _ _ _ A.1 i w hi hw
  rw [A.2.2.1] at h
  exact h.conseq (fun v s q => by obtain ⟨r1, q1, q2, q4, q3⟩ := q; exact ⟨r1, q1, q2, A.scr q3, q4, q3⟩)
theorem a_faultOf (hd : 4 ≤ d) (A : oA a σ) (t : Int32) : mMet G l d kX11_faultOf [.ref 111, .int t] σ (qB a σ (if t = 0 then a.2.2.2.1 else a.2.2.2.2.1)) := by
  have h := c_faultOf (G := G) (l := l) hd _ _ A.1.1 A.1.2.2.1 A.1.2.1 A.1.2.2.2.1 t
  rw [A.2.2.2.2.1, A.2.2.2.2.2.1] at h
  exact h.conseq (fun v s q => by
    obtain ⟨r1, q1, q2, q4, q3⟩ := q
    have q5 : fW wScr σ s := q3.mono (fun y z h => by omega)
    refine ⟨r1, q1, q2, A.scr q5, ?_, q5⟩
    rw [← A.2.2.1]; exact q4.rd _)
theorem a_isCar (hd : 6 ≤ d) (A : oA a σ) (v : Int32) : mMet G l d kX11_isCar [.ref 111, .int v] σ (qB a σ (bI (decide (0 ≤ v ∧ v < nI (aD a).1.1)))) := by
  have h := c_isCar (G := G) (l := l) hd _ _ A.1.1 A.1.2.2.1 A.1.2.1 A.1.2.2.2.1 v
  exact h.conseq (fun u s q => by
    obtain ⟨r1, q1, q2, q4, q3⟩ := q
    have q5 : fW wScr σ s := q3.mono (fun y z h => by omega)
    refine ⟨r1, q1, ?_, A.scr q5, ?_, q5⟩
    · rw [← A.2.2.1]; exact q2
    · rw [← A.2.2.1]; exact q4.rd _)
/-- who is spared, with the row of the plan -/
theorem a_spareBy (hd : 8 ≤ d) (A : oA a σ) : mMet G l d kX11_spareBy [.ref 111] σ (qIP (fun r s => r = (spR (aD a)).1 ∧ (r = 1 → s.1 142 0 = (spR (aD a)).2.1) ∧ (r = 2 → s.1 142 0 = (spR (aD a)).2.1 ∧ s.1 142 1 = (spR (aD a)).2.2) ∧ oA a s ∧ fW wScr σ s)) := by
  have h := c_spareBy (G := G) (l := l) hd _ _ _ A.1
  rw [A.2.2.1] at h
  exact h.conseq (fun v s q => by obtain ⟨r1, q1, q2, q3, q4, q5⟩ := q; exact ⟨r1, q1, q2, q3, q4, A.scr q5, q5⟩)
theorem spR_of (D : Deb) : (spR D).1 = -1 ∨ (spR D).1 = 0 ∨ (spR D).1 = 1 ∨ (spR D).1 = 2 := by
  unfold spR
  (repeat' split) <;> first | exact Or.inl rfl | exact Or.inr (Or.inl rfl) | exact Or.inr (Or.inr (Or.inl rfl)) | exact Or.inr (Or.inr (Or.inr rfl))
/-- the plan's row, as it is told -/
theorem a_ofRow (i : Int32) (hi : i = -1 ∨ i = 0 ∨ i = 1) (D : Deb) (h1 : (spR D).1 = 1 → σ.1 142 0 = (spR D).2.1) (h2 : (spR D).1 = 2 → σ.1 142 0 = (spR D).2.1 ∧ σ.1 142 1 = (spR D).2.2) : mMet G l d kX11_ofRow [.ref 111, .int (spR D).1, .int i] σ (qI (spA D i) σ) := by
  have h := c_ofRow (G := G) (l := l) (d := d) (σ := σ) (spR D).1 i hi
  refine h.conseq (fun v s q => ⟨q.1.trans (congrArg (fun x => some (Value.int x)) ?_), q.2⟩)
  unfold spA
  rcases hi with rfl | rfl | rfl
  · rfl
  · rw [if_neg (show ¬ (0 : Int32) = -1 by decide), if_neg (show ¬ (0 : Int32) = -1 by decide)]
    rcases spR_of D with q | q | q | q
    · rw [if_pos (by rw [q]; decide), if_pos (by rw [q]; decide)]
    · rw [if_pos (by rw [q]; decide), if_pos (by rw [q]; decide)]
    · have n0 : ¬ (spR D).1 ≤ 0 := by rw [q]; decide
      rw [if_neg n0, if_neg n0, if_pos rfl, if_pos rfl, h1 q]
    · have n0 : ¬ (spR D).1 ≤ 0 := by rw [q]; decide
      rw [if_neg n0, if_neg n0, if_pos rfl, if_pos rfl, (h2 q).1]
  · rw [if_neg (show ¬ (1 : Int32) = -1 by decide), if_neg (show ¬ (1 : Int32) = -1 by decide)]
    rcases spR_of D with q | q | q | q
    · rw [if_pos (by rw [q]; decide), if_pos (by rw [q]; decide)]
    · rw [if_pos (by rw [q]; decide), if_pos (by rw [q]; decide)]
    · rw [if_pos (by rw [q]; decide), if_pos (by rw [q]; decide)]
    · have n0 : ¬ (spR D).1 ≤ 1 := by rw [q]; decide
      have n1 : ¬ (1 : Int32) = 0 := by decide
      rw [if_neg n0, if_neg n0, if_neg n1, if_neg n1, (h2 q).2]
end WA


/-! ===== texts: what they tell ===== -/
def sortB (b : Int32) : Int32 := if b = 98 then 0 else if b = 109 then 1 else if b = 104 then 2 else -1
def wayB (b : Int32) : Int32 := if b = 101 then 0 else if b = 110 then 1 else if b = 119 then 2 else if b = 115 then 3 else -1
/-- the byte at i, -1 behind the end -/
def btE (L : Nat) (b : Nat → Int32) (i : Nat) : Int32 := if i < L then b i else -1
def takB (X Y : Nat → Int32) (x y : Int32) : Nat → Bool
  | 0 => false
  | k + 1 => takB X Y x y k || decide (X k = x ∧ Y k = y)
/-- what a text tells of car k: 0 sort, 1 x, 2 y, 3 way, 4 weight -/
def carB (L : Nat) (b : Nat → Int32) (k j : Nat) : Int32 := match j with
  | 0 => sortB (btE L b (6 * k))
  | 1 => btE L b (6 * k + 1) - 48
  | 2 => btE L b (6 * k + 2) - 48
  | 3 => wayB (btE L b (6 * k + 3))
  | 4 => btE L b (6 * k + 4) - 48
  | _ => 0
/-- how many signs of car k are well (5: all) -/
def goodC (L : Nat) (b : Nat → Int32) (k : Nat) : Nat :=
  if k = 8 ∨ carB L b k 0 = -1 then 0 else if ¬ six (carB L b k 1) then 1
  else if ¬ six (carB L b k 2) ∨ takB (fun i => carB L b i 1) (fun i => carB L b i 2) (carB L b k 1) (carB L b k 2) k = true then 2
  else if carB L b k 3 = -1 then 3 else if ¬ (1 ≤ carB L b k 4 ∧ carB L b k 4 ≤ 9) then 4 else 5
/-- steers: 0 moment, 1 car, 2 turn -/
def steB (L : Nat) (b : Nat → Int32) (k j : Nat) : Int32 := match j with
  | 0 => btE L b (4 * k) - 97
  | 1 => btE L b (4 * k + 1) - 48
  | 2 => if btE L b (4 * k + 2) = 108 then 1 else 2
  | _ => 0
def goodS (L : Nat) (b : Nat → Int32) (k : Nat) : Nat :=
  if k = 12 ∨ ¬ (97 ≤ btE L b (4 * k) ∧ btE L b (4 * k) ≤ 120) then 0 else if ¬ (48 ≤ btE L b (4 * k + 1) ∧ btE L b (4 * k + 1) ≤ 55) then 1
  else if btE L b (4 * k + 2) ≠ 108 ∧ btE L b (4 * k + 2) ≠ 114 then 2 else 3
/-- from part k on: the fault (-1: none), how many parts -/
def parT (z : Nat) (good : Nat → Nat) (L : Nat) (b : Nat → Int32) : Nat → Nat → Int32 × Nat
  | 0, _ => (-1, 0)
  | f + 1, k => if good k < z then (nI ((z + 1) * k + good k), 0) else if (z + 1) * k + z = L then (-1, k + 1) else if btE L b ((z + 1) * k + z) ≠ 59 then (nI ((z + 1) * k + z), 0) else parT z good L b f (k + 1)
def parC (L : Nat) (b : Nat → Int32) : Int32 × Nat := if L = 0 then (-1, 0) else parT 5 (goodC L b) L b 9 0
def parS (L : Nat) (b : Nat → Int32) : Int32 × Nat := if L = 0 then (-1, 0) else parT 3 (goodS L b) L b 13 0
theorem goodC_le (L : Nat) (b : Nat → Int32) (k : Nat) : goodC L b k ≤ 5 := by unfold goodC; (repeat' split) <;> omega
theorem goodS_le (L : Nat) (b : Nat → Int32) (k : Nat) : goodS L b k ≤ 3 := by unfold goodS; (repeat' split) <;> omega
theorem parT_n (z N : Nat) (good : Nat → Nat) (L : Nat) (b : Nat → Int32) (h : good N = 0) (hz : 0 < z) : ∀ f k, k ≤ N → (parT z good L b f k).2 ≤ N
  | 0, k, _ => Nat.zero_le _
  | f + 1, k, hk => by
    unfold parT
    split
    · exact Nat.zero_le _
    · rename_i h1
      have hkN : k ≠ N := fun e => h1 (by rw [e, h]; exact hz)
      split
      · show k + 1 ≤ N; omega
      · split
        · exact Nat.zero_le _
        · exact parT_n z N good L b h hz f (k + 1) (by omega)
theorem parC_n (L : Nat) (b : Nat → Int32) : (parC L b).2 ≤ 8 := by
  unfold parC
  split
  · exact Nat.zero_le _
  · exact parT_n 5 8 _ L b (by unfold goodC; rw [if_pos (Or.inl rfl)]) (by decide) 9 0 (by decide)
theorem parS_n (L : Nat) (b : Nat → Int32) : (parS L b).2 ≤ 12 := by
  unfold parS
  split
  · exact Nat.zero_le _
  · exact parT_n 3 12 _ L b (by unfold goodS; rw [if_pos (Or.inl rfl)]) (by decide) 13 0 (by decide)

/-! ===== the model: a debate and its moments, as numbers ===== -/
/-- cars: how many, and of car k what j (0 sort, 1 x, 2 y, 3 way, 4 weight); steers likewise (0 moment, 1 car, 2 turn); events (0 kind, 1 moment, 2 car); those that are spared, as bits -/
abbrev Deb : Type := (Nat × (Nat → Nat → Int32)) × (Nat × (Nat → Nat → Int32)) × (Nat × (Nat → Nat → Int32)) × Int32
/-- x, y, way, points, struck, strikes by car; cut bits, strikes, first moment, first car, strikes of this moment by which both stay -/
abbrev RS : Type := (Nat → Int32) × (Nat → Int32) × (Nat → Int32) × (Nat → Int32) × (Nat → Int32) × (Nat → Int32) × Int32 × Int32 × Int32 × Int32 × Int32
def stX (w : Int32) : Int32 := if w = 0 then 1 else if w = 2 then -1 else 0
def stY (w : Int32) : Int32 := if w = 1 then 1 else if w = 3 then -1 else 0
/-- the remainder by 4 -/
def m4 (x : Int32) : Int32 := x - x / 4 * 4
abbrev six (v : Int32) : Prop := 0 ≤ v ∧ v ≤ 5
theorem six_iff (v : Int32) : six v ↔ 0 ≤ v ∧ v ≤ 5 := Iff.rfl
/-- bit k -/
abbrev bitI (b : Int32) (k : Int32) : Prop := b >>> (k &&& 31) &&& 1 = 1
def whoIn (xs ys : Nat → Int32) (x y : Int32) : Nat → Int32
  | 0 => -1
  | k + 1 => if xs k = x ∧ ys k = y then nI k else whoIn xs ys x y k
def strikeR (k o : Nat) (way mo : Int32) (r : RS) : RS :=
  (r.1, r.2.1, r.2.2.1, upd r.2.2.2.1 k (r.2.2.2.1 k + (if m4 (r.2.2.1 o - way + 4) = 2 then 3 else if m4 (r.2.2.1 o - way + 4) = 0 then 1 else 2)), upd r.2.2.2.2.1 o (r.2.2.2.2.1 o + 1), upd r.2.2.2.2.2.1 k (r.2.2.2.2.2.1 k + 1), r.2.2.2.2.2.2.1, r.2.2.2.2.2.2.2.1 + 1, (if r.2.2.2.2.2.2.2.2.1 = -1 then mo else r.2.2.2.2.2.2.2.2.1), (if r.2.2.2.2.2.2.2.2.1 = -1 then nI k else r.2.2.2.2.2.2.2.2.2.1), r.2.2.2.2.2.2.2.2.2.2)
def moveR (k : Nat) (x y : Int32) (r : RS) : RS := (upd r.1 k x, upd r.2.1 k y, r.2.2)
def jamR (r : RS) : RS := (r.1, r.2.1, r.2.2.1, r.2.2.2.1, r.2.2.2.2.1, r.2.2.2.2.2.1, r.2.2.2.2.2.2.1, r.2.2.2.2.2.2.2.1, r.2.2.2.2.2.2.2.2.1, r.2.2.2.2.2.2.2.2.2.1, r.2.2.2.2.2.2.2.2.2.2 + 1)
/-- may car k shift car o by the way w -/
abbrev mayR (n : Nat) (wt : Nat → Int32) (k o : Nat) (w : Int32) (r : RS) : Prop := wt o ≤ wt k ∧ six (r.1 o + stX w) ∧ six (r.2.1 o + stY w) ∧ whoIn r.1 r.2.1 (r.1 o + stX w) (r.2.1 o + stY w) n = -1
def intoR (n : Nat) (wt : Nat → Int32) (k o : Nat) (w : Int32) (r : RS) : RS :=
  if mayR n wt k o w r then moveR k (r.1 o) (r.2.1 o) (moveR o (r.1 o + stX w) (r.2.1 o + stY w) r) else jamR r
def rInto (n : Nat) (wt : Nat → Int32) (k o : Nat) (w mo : Int32) (r : RS) : RS := intoR n wt k o w (strikeR k o w mo r)
/-- the way in which car k goes -/
def wayR (st : Nat → Int32) (k : Nat) (r : RS) : Int32 := if st k = 2 then m4 (r.2.2.1 k + 2) else r.2.2.1 k
def turnR (k : Nat) (w : Int32) (r : RS) : RS := (r.1, r.2.1, upd r.2.2.1 k w, r.2.2.2)
def driveW (n : Nat) (wt : Nat → Int32) (k : Nat) (mo w : Int32) (r : RS) : RS :=
  if ¬ six (r.1 k + stX w) ∨ ¬ six (r.2.1 k + stY w) then turnR k (m4 (r.2.2.1 k + 2)) r
  else if whoIn r.1 r.2.1 (r.1 k + stX w) (r.2.1 k + stY w) n = -1 then moveR k (r.1 k + stX w) (r.2.1 k + stY w) r
  else rInto n wt k (whoIn r.1 r.2.1 (r.1 k + stX w) (r.2.1 k + stY w) n).toNatClampNeg w mo r
/-- car k goes -/
def driveR (n : Nat) (c : Nat → Nat → Int32) (k : Nat) (mo : Int32) (r : RS) : RS := driveW n (fun i => c i 4) k mo (wayR (fun i => c i 0) k r) r
/-- the ways behind the first i steers of the moment -/
def steerW (n : Nat) (c s : Nat → Nat → Int32) (mo : Int32) (w : Nat → Int32) : Nat → (Nat → Int32)
  | 0 => w
  | i + 1 => if s i 0 = mo ∧ s i 1 < nI n ∧ c (s i 1).toNatClampNeg 0 ≠ 1 then upd (steerW n c s mo w i) (s i 1).toNatClampNeg (m4 (steerW n c s mo w i (s i 1).toNatClampNeg + (if s i 2 = 1 then 1 else 3))) else steerW n c s mo w i
/-- whether it is rung, and the cut bits, behind the first i events of the moment -/
def rungE (v : Nat → Nat → Int32) (mask mo : Int32) : Nat → Int32
  | 0 => 0
  | i + 1 => if v i 1 = mo ∧ ¬ bitI mask (nI i) then (if v i 0 = 0 then 1 else rungE v mask mo i) else rungE v mask mo i
def cutE (v : Nat → Nat → Int32) (mask mo cut : Int32) : Nat → Int32
  | 0 => cut
  | i + 1 => if v i 1 = mo ∧ ¬ bitI mask (nI i) then cutE v mask mo cut i ||| (if v i 0 = 1 then (1 : Int32) <<< (v i 2 &&& 31) else 0) else cutE v mask mo cut i
/-- the first k cars go -/
def driveAll (n : Nat) (c : Nat → Nat → Int32) (mo cut : Int32) (r : RS) : Nat → RS
  | 0 => r
  | k + 1 => if bitI cut (nI k) then driveAll n c mo cut r k else driveR n c k mo (driveAll n c mo cut r k)
def rungD (D : Deb) (mo : Int32) : Int32 := rungE D.2.2.1.2 D.2.2.2 mo D.2.2.1.1
def cutD (D : Deb) (mo cut : Int32) : Int32 := cutE D.2.2.1.2 D.2.2.2 mo cut D.2.2.1.1
/-- ahead of the going: events and steers done -/
def readyR (D : Deb) (mo : Int32) (r : RS) : RS := (r.1, r.2.1, steerW D.1.1 D.1.2 D.2.1.2 mo r.2.2.1 D.2.1.1, r.2.2.2.1, r.2.2.2.2.1, r.2.2.2.2.2.1, cutD D mo r.2.2.2.2.2.2.1, r.2.2.2.2.2.2.2.1, r.2.2.2.2.2.2.2.2.1, r.2.2.2.2.2.2.2.2.2.1, 0)
def goR (D : Deb) (mo : Int32) (r : RS) : RS := if rungD D mo = 0 then driveAll D.1.1 D.1.2 mo (cutD D mo r.2.2.2.2.2.2.1) (readyR D mo r) D.1.1 else readyR D mo r
def startR (D : Deb) : RS := (fun k => D.1.2 k 1, fun k => D.1.2 k 2, fun k => D.1.2 k 3, fun _ => 0, fun _ => 0, fun _ => 0, 0, 0, -1, -1, 0)
/-- behind the first t moments -/
def RSt (D : Deb) : Nat → RS
  | 0 => startR D
  | t + 1 => goR D (nI t) (RSt D t)

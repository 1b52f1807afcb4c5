/-! ===== the reference: spare, and what was seen ===== -/
def meekD (D : Deb) : Int32 := meekP (RSt D 24).2.2.2.2.1 (RSt D 24).2.2.2.2.2.1 D.1.1
def bit1 (a : Nat) : Int32 := (1 : Int32) <<< (nI a &&& 31)
def spOK (D : Deb) (m : Int32) : Bool := decide (meekD (maskD D m) = 0)
def sp1 (D : Deb) : Nat → Nat → Option Nat
  | 0, _ => none
  | f + 1, a => if spOK D (bit1 a) then some a else sp1 D f (a + 1)
def sp2i (D : Deb) (a : Nat) : Nat → Nat → Option Nat
  | 0, _ => none
  | f + 1, b => if spOK D (bit1 a ||| bit1 b) then some b else sp2i D a f (b + 1)
def sp2 (D : Deb) (e : Nat) : Nat → Nat → Option (Nat × Nat)
  | 0, _ => none
  | f + 1, a => match sp2i D a (e - (a + 1)) (a + 1) with
    | some b => some (a, b)
    | none => sp2 D e f (a + 1)
/-- how many had better not be, and which -/
def spR (D : Deb) : Int32 × Int32 × Int32 :=
  if spOK D 0 then (0, 0, 0) else match sp1 D D.2.2.1.1 0 with
    | some a => (1, nI a, 0)
    | none => match sp2 D D.2.2.1.1 D.2.2.1.1 0 with
      | some (a, b) => (2, nI a, nI b)
      | none => (-1, 0, 0)
/-- whether the first i of what was seen come out -/
def agP (D : Deb) (w : Nat → Nat → Int32) : Nat → Bool
  | 0 => true
  | i + 1 => agP D w i && decide (w i 1 < nI D.1.1 ∧ (RSt D ((w i 0).toNatClampNeg + 1)).1 (w i 1).toNatClampNeg = w i 2 ∧ (RSt D ((w i 0).toNatClampNeg + 1)).2.1 (w i 1).toNatClampNeg = w i 3)
def nvP (D : Deb) (z : Nat) (w : Nat → Nat → Int32) : Nat → Int32
  | 0 => 0
  | i + 1 => nvP D z w i ||| (if agP (maskD D (bit1 i)) w z then bit1 i else 0)
def soP (D : Deb) (k z : Nat) (w : Nat → Nat → Int32) : Nat → Int32
  | 0 => 0
  | v + 1 => soP D k z w v ||| (if agP (setJ D k 0 (nI v)) w z then bit1 v else 0)
/-- weights 1 .. v -/
def hvP (D : Deb) (k z : Nat) (w : Nat → Nat → Int32) : Nat → Int32
  | 0 => 0
  | v + 1 => hvP D k z w v ||| (if agP (setJ D k 4 (nI (v + 1))) w z then bit1 (v + 1) else 0)
section SP
variable {G : mG} {l : Launch} {d : Nat} {σ : mS}
abbrev wSp : Nat → Nat → Prop := fun y z => (y = 111 ∧ (z = 21 ∨ (28 ≤ z ∧ z ≤ 31))) ∨ (128 ≤ y ∧ y ≤ 142)
abbrev wSq : Nat → Nat → Prop := fun y z => (y = 111 ∧ (z = 21 ∨ (28 ≤ z ∧ z ≤ 31))) ∨ (128 ≤ y ∧ y ≤ 141)
theorem sqp {s : mS} (f : fW wSq σ s) : fW wSp σ s := f.mono (fun y z h => by omega)
/-- whatever is spared, the rows tell the debate D -/
def repM (σ : mS) (D : Deb) : Prop := ∀ m, repR (us σ 111 21 m) (maskD D m)
theorem repM.of {D : Deb} (h : repR σ D) : repM σ D := by
  intro m
  obtain ⟨h1, h2, h3, h4, h5, h6, h7, h8, h9, h10, h11⟩ := h
  refine ⟨h1, h2, h3, ?_, ?_, ?_, ?_, fun i hi j hj => ?_, fun i hi j hj => ?_, fun i hi j hj => ?_, h11⟩
  · simp [us_at]; exact h4
  · simp [us_at]; exact h5
  · simp [us_at]; exact h6
  · rw [us_at, if_pos ⟨rfl, rfl⟩]; rfl
  · rw [us_at, if_neg (by omega)]; exact h8 i hi j hj
  · rw [us_at, if_neg (by omega)]; exact h9 i hi j hj
  · rw [us_at, if_neg (by omega)]; exact h10 i hi j hj
theorem repM.tr {D : Deb} {s : mS} (h : repM σ D) (f : fW wSp σ s) : repM s D := by
  intro m
  have f1 : ∀ y z, ¬ ((y = 111 ∧ (28 ≤ z ∧ z ≤ 31)) ∨ (128 ≤ y ∧ y ≤ 142)) → (us s 111 21 m).1 y z = (us σ 111 21 m).1 y z := by
    intro y z hyz
    rw [us_at, us_at]
    by_cases e : y = 111 ∧ z = 21
    · rw [if_pos e, if_pos e]
    · rw [if_neg e, if_neg e]; exact f.at (by omega)
  obtain ⟨h1, h2, h3, h4, h5, h6, h7, h8, h9, h10, h11⟩ := h m
  exact ⟨h1, h2, h3, (f1 _ _ (by omega)).trans h4, (f1 _ _ (by omega)).trans h5, (f1 _ _ (by omega)).trans h6, (f1 _ _ (by omega)).trans h7, fun i hi j hj => (f1 _ _ (by omega)).trans (h8 i hi j hj), fun i hi j hj => (f1 _ _ (by omega)).trans (h9 i hi j hj), fun i hi j hj => (f1 _ _ (by omega)).trans (h10 i hi j hj), h11⟩
theorem dX11_isSpared_0 : decode cX11_isSpared 0 = .ok (.aload_n 0, 1) := by decide +kernel
theorem dX11_isSpared_1 : decode cX11_isSpared 1 = .ok (.iload_n 1, 1) := by decide +kernel
theorem dX11_isSpared_2 : decode cX11_isSpared 2 = .ok (.putfield 223, 3) := by decide +kernel
theorem dX11_isSpared_5 : decode cX11_isSpared 5 = .ok (.aload_n 0, 1) := by decide +kernel
theorem dX11_isSpared_6 : decode cX11_isSpared 6 = .ok (.invokevirtual 273, 3) := by decide +kernel
theorem dX11_isSpared_9 : decode cX11_isSpared 9 = .ok (.aload_n 0, 1) := by decide +kernel
theorem dX11_isSpared_10 : decode cX11_isSpared 10 = .ok (.invokevirtual 301, 3) := by decide +kernel
theorem dX11_isSpared_13 : decode cX11_isSpared 13 = .ok (.ifCond .ne 7, 3) := by decide +kernel
theorem dX11_isSpared_16 : decode cX11_isSpared 16 = .ok (.iconst 1, 1) := by decide +kernel
theorem dX11_isSpared_17 : decode cX11_isSpared 17 = .ok (.goto 4, 3) := by decide +kernel
theorem dX11_isSpared_20 : decode cX11_isSpared 20 = .ok (.iconst 0, 1) := by decide +kernel
theorem dX11_isSpared_21 : decode cX11_isSpared 21 = .ok (.ireturn, 1) := by decide +kernel
theorem dX11_spareBy_0 : decode cX11_spareBy 0 = .ok (.aload_n 0, 1) := by decide +kernel
theorem dX11_spareBy_1 : decode cX11_spareBy 1 = .ok (.invokevirtual 270, 3) := by decide +kernel
theorem dX11_spareBy_4 : decode cX11_spareBy 4 = .ok (.aload_n 0, 1) := by decide +kernel
theorem dX11_spareBy_5 : decode cX11_spareBy 5 = .ok (.iconst 0, 1) := by decide +kernel
theorem dX11_spareBy_6 : decode cX11_spareBy 6 = .ok (.invokevirtual 325, 3) := by decide +kernel
theorem dX11_spareBy_9 : decode cX11_spareBy 9 = .ok (.ifCond .eq 5, 3) := by decide +kernel
theorem dX11_spareBy_12 : decode cX11_spareBy 12 = .ok (.iconst 0, 1) := by decide +kernel
theorem dX11_spareBy_13 : decode cX11_spareBy 13 = .ok (.ireturn, 1) := by decide +kernel
theorem dX11_spareBy_14 : decode cX11_spareBy 14 = .ok (.iconst 0, 1) := by decide +kernel
theorem dX11_spareBy_15 : decode cX11_spareBy 15 = .ok (.istore_n 1, 1) := by decide +kernel
theorem dX11_spareBy_16 : decode cX11_spareBy 16 = .ok (.iload_n 1, 1) := by decide +kernel
theorem dX11_spareBy_17 : decode cX11_spareBy 17 = .ok (.aload_n 0, 1) := by decide +kernel
theorem dX11_spareBy_18 : decode cX11_spareBy 18 = .ok (.getfield 204, 3) := by decide +kernel
theorem dX11_spareBy_21 : decode cX11_spareBy 21 = .ok (.if_icmp .ge 28, 3) := by decide +kernel
theorem dX11_spareBy_24 : decode cX11_spareBy 24 = .ok (.aload_n 0, 1) := by decide +kernel
theorem dX11_spareBy_25 : decode cX11_spareBy 25 = .ok (.getfield 100, 3) := by decide +kernel
theorem dX11_spareBy_28 : decode cX11_spareBy 28 = .ok (.iconst 0, 1) := by decide +kernel
theorem dX11_spareBy_29 : decode cX11_spareBy 29 = .ok (.iload_n 1, 1) := by decide +kernel
theorem dX11_spareBy_30 : decode cX11_spareBy 30 = .ok (.iastore, 1) := by decide +kernel
theorem dX11_spareBy_31 : decode cX11_spareBy 31 = .ok (.aload_n 0, 1) := by decide +kernel
theorem dX11_spareBy_32 : decode cX11_spareBy 32 = .ok (.iconst 1, 1) := by decide +kernel
theorem dX11_spareBy_33 : decode cX11_spareBy 33 = .ok (.iload_n 1, 1) := by decide +kernel
theorem dX11_spareBy_34 : decode cX11_spareBy 34 = .ok (.ishl, 1) := by decide +kernel
theorem dX11_spareBy_35 : decode cX11_spareBy 35 = .ok (.invokevirtual 325, 3) := by decide +kernel
theorem dX11_spareBy_38 : decode cX11_spareBy 38 = .ok (.ifCond .eq 5, 3) := by decide +kernel
theorem dX11_spareBy_41 : decode cX11_spareBy 41 = .ok (.iconst 1, 1) := by decide +kernel
theorem dX11_spareBy_42 : decode cX11_spareBy 42 = .ok (.ireturn, 1) := by decide +kernel
theorem dX11_spareBy_43 : decode cX11_spareBy 43 = .ok (.iinc 1 1, 3) := by decide +kernel
theorem dX11_spareBy_46 : decode cX11_spareBy 46 = .ok (.goto (-30), 3) := by decide +kernel
theorem dX11_spareBy_49 : decode cX11_spareBy 49 = .ok (.iconst 0, 1) := by decide +kernel
theorem dX11_spareBy_50 : decode cX11_spareBy 50 = .ok (.istore_n 1, 1) := by decide +kernel
theorem dX11_spareBy_51 : decode cX11_spareBy 51 = .ok (.iload_n 1, 1) := by decide +kernel
theorem dX11_spareBy_52 : decode cX11_spareBy 52 = .ok (.aload_n 0, 1) := by decide +kernel
theorem dX11_spareBy_53 : decode cX11_spareBy 53 = .ok (.getfield 204, 3) := by decide +kernel
theorem dX11_spareBy_56 : decode cX11_spareBy 56 = .ok (.if_icmp .ge 57, 3) := by decide +kernel
theorem dX11_spareBy_59 : decode cX11_spareBy 59 = .ok (.iload_n 1, 1) := by decide +kernel
theorem dX11_spareBy_60 : decode cX11_spareBy 60 = .ok (.iconst 1, 1) := by decide +kernel
theorem dX11_spareBy_61 : decode cX11_spareBy 61 = .ok (.iadd, 1) := by decide +kernel
theorem dX11_spareBy_62 : decode cX11_spareBy 62 = .ok (.istore_n 2, 1) := by decide +kernel
theorem dX11_spareBy_63 : decode cX11_spareBy 63 = .ok (.iload_n 2, 1) := by decide +kernel
theorem dX11_spareBy_64 : decode cX11_spareBy 64 = .ok (.aload_n 0, 1) := by decide +kernel
theorem dX11_spareBy_65 : decode cX11_spareBy 65 = .ok (.getfield 204, 3) := by decide +kernel
theorem dX11_spareBy_68 : decode cX11_spareBy 68 = .ok (.if_icmp .ge 39, 3) := by decide +kernel
theorem dX11_spareBy_71 : decode cX11_spareBy 71 = .ok (.aload_n 0, 1) := by decide +kernel
theorem dX11_spareBy_72 : decode cX11_spareBy 72 = .ok (.getfield 100, 3) := by decide +kernel
theorem dX11_spareBy_75 : decode cX11_spareBy 75 = .ok (.iconst 0, 1) := by decide +kernel
theorem dX11_spareBy_76 : decode cX11_spareBy 76 = .ok (.iload_n 1, 1) := by decide +kernel
theorem dX11_spareBy_77 : decode cX11_spareBy 77 = .ok (.iastore, 1) := by decide +kernel
theorem dX11_spareBy_78 : decode cX11_spareBy 78 = .ok (.aload_n 0, 1) := by decide +kernel
theorem dX11_spareBy_79 : decode cX11_spareBy 79 = .ok (.getfield 100, 3) := by decide +kernel
theorem dX11_spareBy_82 : decode cX11_spareBy 82 = .ok (.iconst 1, 1) := by decide +kernel
theorem dX11_spareBy_83 : decode cX11_spareBy 83 = .ok (.iload_n 2, 1) := by decide +kernel
theorem dX11_spareBy_84 : decode cX11_spareBy 84 = .ok (.iastore, 1) := by decide +kernel
theorem dX11_spareBy_85 : decode cX11_spareBy 85 = .ok (.aload_n 0, 1) := by decide +kernel
theorem dX11_spareBy_86 : decode cX11_spareBy 86 = .ok (.iconst 1, 1) := by decide +kernel
theorem dX11_spareBy_87 : decode cX11_spareBy 87 = .ok (.iload_n 1, 1) := by decide +kernel
theorem dX11_spareBy_88 : decode cX11_spareBy 88 = .ok (.ishl, 1) := by decide +kernel
theorem dX11_spareBy_89 : decode cX11_spareBy 89 = .ok (.iconst 1, 1) := by decide +kernel
theorem dX11_spareBy_90 : decode cX11_spareBy 90 = .ok (.iload_n 2, 1) := by decide +kernel
theorem dX11_spareBy_91 : decode cX11_spareBy 91 = .ok (.ishl, 1) := by decide +kernel
theorem dX11_spareBy_92 : decode cX11_spareBy 92 = .ok (.ior, 1) := by decide +kernel
theorem dX11_spareBy_93 : decode cX11_spareBy 93 = .ok (.invokevirtual 325, 3) := by decide +kernel
theorem dX11_spareBy_96 : decode cX11_spareBy 96 = .ok (.ifCond .eq 5, 3) := by decide +kernel
theorem dX11_spareBy_99 : decode cX11_spareBy 99 = .ok (.iconst 2, 1) := by decide +kernel
theorem dX11_spareBy_100 : decode cX11_spareBy 100 = .ok (.ireturn, 1) := by decide +kernel
theorem dX11_spareBy_101 : decode cX11_spareBy 101 = .ok (.iinc 2 1, 3) := by decide +kernel
theorem dX11_spareBy_104 : decode cX11_spareBy 104 = .ok (.goto (-41), 3) := by decide +kernel
theorem dX11_spareBy_107 : decode cX11_spareBy 107 = .ok (.iinc 1 1, 3) := by decide +kernel
theorem dX11_spareBy_110 : decode cX11_spareBy 110 = .ok (.goto (-59), 3) := by decide +kernel
theorem dX11_spareBy_113 : decode cX11_spareBy 113 = .ok (.iconst (-1), 1) := by decide +kernel
theorem dX11_spareBy_114 : decode cX11_spareBy 114 = .ok (.ireturn, 1) := by decide +kernel
theorem dX11_ofRow_0 : decode cX11_ofRow 0 = .ok (.iload_n 2, 1) := by decide +kernel
theorem dX11_ofRow_1 : decode cX11_ofRow 1 = .ok (.iconst (-1), 1) := by decide +kernel
theorem dX11_ofRow_2 : decode cX11_ofRow 2 = .ok (.if_icmp .ne 7, 3) := by decide +kernel
theorem dX11_ofRow_5 : decode cX11_ofRow 5 = .ok (.iload_n 1, 1) := by decide +kernel
theorem dX11_ofRow_6 : decode cX11_ofRow 6 = .ok (.goto 18, 3) := by decide +kernel
theorem dX11_ofRow_9 : decode cX11_ofRow 9 = .ok (.iload_n 2, 1) := by decide +kernel
theorem dX11_ofRow_10 : decode cX11_ofRow 10 = .ok (.iload_n 1, 1) := by decide +kernel
theorem dX11_ofRow_11 : decode cX11_ofRow 11 = .ok (.if_icmp .ge 12, 3) := by decide +kernel
theorem dX11_ofRow_14 : decode cX11_ofRow 14 = .ok (.aload_n 0, 1) := by decide +kernel
theorem dX11_ofRow_15 : decode cX11_ofRow 15 = .ok (.getfield 100, 3) := by decide +kernel
theorem dX11_ofRow_18 : decode cX11_ofRow 18 = .ok (.iload_n 2, 1) := by decide +kernel
theorem dX11_ofRow_19 : decode cX11_ofRow 19 = .ok (.iaload, 1) := by decide +kernel
theorem dX11_ofRow_20 : decode cX11_ofRow 20 = .ok (.goto 4, 3) := by decide +kernel
theorem dX11_ofRow_23 : decode cX11_ofRow 23 = .ok (.iconst (-1), 1) := by decide +kernel
theorem dX11_ofRow_24 : decode cX11_ofRow 24 = .ok (.ireturn, 1) := by decide +kernel
theorem dX11_isSeen_0 : decode cX11_isSeen 0 = .ok (.aload_n 0, 1) := by decide +kernel
theorem dX11_isSeen_1 : decode cX11_isSeen 1 = .ok (.invokevirtual 273, 3) := by decide +kernel
theorem dX11_isSeen_4 : decode cX11_isSeen 4 = .ok (.iconst 1, 1) := by decide +kernel
theorem dX11_isSeen_5 : decode cX11_isSeen 5 = .ok (.istore_n 1, 1) := by decide +kernel
theorem dX11_isSeen_6 : decode cX11_isSeen 6 = .ok (.iconst 0, 1) := by decide +kernel
theorem dX11_isSeen_7 : decode cX11_isSeen 7 = .ok (.istore_n 2, 1) := by decide +kernel
theorem dX11_isSeen_8 : decode cX11_isSeen 8 = .ok (.iload_n 2, 1) := by decide +kernel
theorem dX11_isSeen_9 : decode cX11_isSeen 9 = .ok (.aload_n 0, 1) := by decide +kernel
theorem dX11_isSeen_10 : decode cX11_isSeen 10 = .ok (.getfield 334, 3) := by decide +kernel
theorem dX11_isSeen_13 : decode cX11_isSeen 13 = .ok (.if_icmp .ge 79, 3) := by decide +kernel
theorem dX11_isSeen_16 : decode cX11_isSeen 16 = .ok (.iload_n 1, 1) := by decide +kernel
theorem dX11_isSeen_17 : decode cX11_isSeen 17 = .ok (.ifCond .eq 75, 3) := by decide +kernel
theorem dX11_isSeen_20 : decode cX11_isSeen 20 = .ok (.bipush 8, 2) := by decide +kernel
theorem dX11_isSeen_22 : decode cX11_isSeen 22 = .ok (.aload_n 0, 1) := by decide +kernel
theorem dX11_isSeen_23 : decode cX11_isSeen 23 = .ok (.getfield 103, 3) := by decide +kernel
theorem dX11_isSeen_26 : decode cX11_isSeen 26 = .ok (.iload_n 2, 1) := by decide +kernel
theorem dX11_isSeen_27 : decode cX11_isSeen 27 = .ok (.iaload, 1) := by decide +kernel
theorem dX11_isSeen_28 : decode cX11_isSeen 28 = .ok (.imul, 1) := by decide +kernel
theorem dX11_isSeen_29 : decode cX11_isSeen 29 = .ok (.aload_n 0, 1) := by decide +kernel
theorem dX11_isSeen_30 : decode cX11_isSeen 30 = .ok (.getfield 106, 3) := by decide +kernel
theorem dX11_isSeen_33 : decode cX11_isSeen 33 = .ok (.iload_n 2, 1) := by decide +kernel
theorem dX11_isSeen_34 : decode cX11_isSeen 34 = .ok (.iaload, 1) := by decide +kernel
theorem dX11_isSeen_35 : decode cX11_isSeen 35 = .ok (.iadd, 1) := by decide +kernel
theorem dX11_isSeen_36 : decode cX11_isSeen 36 = .ok (.istore_n 3, 1) := by decide +kernel
theorem dX11_isSeen_37 : decode cX11_isSeen 37 = .ok (.aload_n 0, 1) := by decide +kernel
theorem dX11_isSeen_38 : decode cX11_isSeen 38 = .ok (.getfield 106, 3) := by decide +kernel
theorem dX11_isSeen_41 : decode cX11_isSeen 41 = .ok (.iload_n 2, 1) := by decide +kernel
theorem dX11_isSeen_42 : decode cX11_isSeen 42 = .ok (.iaload, 1) := by decide +kernel
theorem dX11_isSeen_43 : decode cX11_isSeen 43 = .ok (.aload_n 0, 1) := by decide +kernel
theorem dX11_isSeen_44 : decode cX11_isSeen 44 = .ok (.getfield 161, 3) := by decide +kernel
theorem dX11_isSeen_47 : decode cX11_isSeen 47 = .ok (.if_icmp .ge 37, 3) := by decide +kernel
theorem dX11_isSeen_50 : decode cX11_isSeen 50 = .ok (.aload_n 0, 1) := by decide +kernel
theorem dX11_isSeen_51 : decode cX11_isSeen 51 = .ok (.getfield 76, 3) := by decide +kernel
theorem dX11_isSeen_54 : decode cX11_isSeen 54 = .ok (.iload_n 3, 1) := by decide +kernel
theorem dX11_isSeen_55 : decode cX11_isSeen 55 = .ok (.iaload, 1) := by decide +kernel
theorem dX11_isSeen_56 : decode cX11_isSeen 56 = .ok (.aload_n 0, 1) := by decide +kernel
theorem dX11_isSeen_57 : decode cX11_isSeen 57 = .ok (.getfield 109, 3) := by decide +kernel
theorem dX11_isSeen_60 : decode cX11_isSeen 60 = .ok (.iload_n 2, 1) := by decide +kernel
theorem dX11_isSeen_61 : decode cX11_isSeen 61 = .ok (.iaload, 1) := by decide +kernel
theorem dX11_isSeen_62 : decode cX11_isSeen 62 = .ok (.if_icmp .ne 22, 3) := by decide +kernel
theorem dX11_isSeen_65 : decode cX11_isSeen 65 = .ok (.aload_n 0, 1) := by decide +kernel
theorem dX11_isSeen_66 : decode cX11_isSeen 66 = .ok (.getfield 79, 3) := by decide +kernel
theorem dX11_isSeen_69 : decode cX11_isSeen 69 = .ok (.iload_n 3, 1) := by decide +kernel
theorem dX11_isSeen_70 : decode cX11_isSeen 70 = .ok (.iaload, 1) := by decide +kernel
theorem dX11_isSeen_71 : decode cX11_isSeen 71 = .ok (.aload_n 0, 1) := by decide +kernel
theorem dX11_isSeen_72 : decode cX11_isSeen 72 = .ok (.getfield 112, 3) := by decide +kernel
theorem dX11_isSeen_75 : decode cX11_isSeen 75 = .ok (.iload_n 2, 1) := by decide +kernel
theorem dX11_isSeen_76 : decode cX11_isSeen 76 = .ok (.iaload, 1) := by decide +kernel
theorem dX11_isSeen_77 : decode cX11_isSeen 77 = .ok (.if_icmp .ne 7, 3) := by decide +kernel
theorem dX11_isSeen_80 : decode cX11_isSeen 80 = .ok (.iconst 1, 1) := by decide +kernel
theorem dX11_isSeen_81 : decode cX11_isSeen 81 = .ok (.goto 4, 3) := by decide +kernel
theorem dX11_isSeen_84 : decode cX11_isSeen 84 = .ok (.iconst 0, 1) := by decide +kernel
theorem dX11_isSeen_85 : decode cX11_isSeen 85 = .ok (.istore_n 1, 1) := by decide +kernel
theorem dX11_isSeen_86 : decode cX11_isSeen 86 = .ok (.iinc 2 1, 3) := by decide +kernel
theorem dX11_isSeen_89 : decode cX11_isSeen 89 = .ok (.goto (-81), 3) := by decide +kernel
theorem dX11_isSeen_92 : decode cX11_isSeen 92 = .ok (.iload_n 1, 1) := by decide +kernel
theorem dX11_isSeen_93 : decode cX11_isSeen 93 = .ok (.ireturn, 1) := by decide +kernel
theorem dX11_neverNow_0 : decode cX11_neverNow 0 = .ok (.aload_n 0, 1) := by decide +kernel
theorem dX11_neverNow_1 : decode cX11_neverNow 1 = .ok (.invokevirtual 270, 3) := by decide +kernel
theorem dX11_neverNow_4 : decode cX11_neverNow 4 = .ok (.iconst 0, 1) := by decide +kernel
theorem dX11_neverNow_5 : decode cX11_neverNow 5 = .ok (.istore_n 1, 1) := by decide +kernel
theorem dX11_neverNow_6 : decode cX11_neverNow 6 = .ok (.iconst 0, 1) := by decide +kernel
theorem dX11_neverNow_7 : decode cX11_neverNow 7 = .ok (.istore_n 2, 1) := by decide +kernel
theorem dX11_neverNow_8 : decode cX11_neverNow 8 = .ok (.iload_n 2, 1) := by decide +kernel
theorem dX11_neverNow_9 : decode cX11_neverNow 9 = .ok (.aload_n 0, 1) := by decide +kernel
theorem dX11_neverNow_10 : decode cX11_neverNow 10 = .ok (.getfield 204, 3) := by decide +kernel
theorem dX11_neverNow_13 : decode cX11_neverNow 13 = .ok (.if_icmp .ge 33, 3) := by decide +kernel
theorem dX11_neverNow_16 : decode cX11_neverNow 16 = .ok (.aload_n 0, 1) := by decide +kernel
theorem dX11_neverNow_17 : decode cX11_neverNow 17 = .ok (.iconst 1, 1) := by decide +kernel
theorem dX11_neverNow_18 : decode cX11_neverNow 18 = .ok (.iload_n 2, 1) := by decide +kernel
theorem dX11_neverNow_19 : decode cX11_neverNow 19 = .ok (.ishl, 1) := by decide +kernel
theorem dX11_neverNow_20 : decode cX11_neverNow 20 = .ok (.putfield 223, 3) := by decide +kernel
theorem dX11_neverNow_23 : decode cX11_neverNow 23 = .ok (.iload_n 1, 1) := by decide +kernel
theorem dX11_neverNow_24 : decode cX11_neverNow 24 = .ok (.aload_n 0, 1) := by decide +kernel
theorem dX11_neverNow_25 : decode cX11_neverNow 25 = .ok (.invokevirtual 337, 3) := by decide +kernel
theorem dX11_neverNow_28 : decode cX11_neverNow 28 = .ok (.ifCond .eq 9, 3) := by decide +kernel
theorem dX11_neverNow_31 : decode cX11_neverNow 31 = .ok (.iconst 1, 1) := by decide +kernel
theorem dX11_neverNow_32 : decode cX11_neverNow 32 = .ok (.iload_n 2, 1) := by decide +kernel
theorem dX11_neverNow_33 : decode cX11_neverNow 33 = .ok (.ishl, 1) := by decide +kernel
theorem dX11_neverNow_34 : decode cX11_neverNow 34 = .ok (.goto 4, 3) := by decide +kernel
theorem dX11_neverNow_37 : decode cX11_neverNow 37 = .ok (.iconst 0, 1) := by decide +kernel
theorem dX11_neverNow_38 : decode cX11_neverNow 38 = .ok (.ior, 1) := by decide +kernel
theorem dX11_neverNow_39 : decode cX11_neverNow 39 = .ok (.istore_n 1, 1) := by decide +kernel
theorem dX11_neverNow_40 : decode cX11_neverNow 40 = .ok (.iinc 2 1, 3) := by decide +kernel
theorem dX11_neverNow_43 : decode cX11_neverNow 43 = .ok (.goto (-35), 3) := by decide +kernel
theorem dX11_neverNow_46 : decode cX11_neverNow 46 = .ok (.iload_n 1, 1) := by decide +kernel
theorem dX11_neverNow_47 : decode cX11_neverNow 47 = .ok (.ireturn, 1) := by decide +kernel
theorem dX11_sortsBy_0 : decode cX11_sortsBy 0 = .ok (.aload_n 0, 1) := by decide +kernel
theorem dX11_sortsBy_1 : decode cX11_sortsBy 1 = .ok (.invokevirtual 270, 3) := by decide +kernel
theorem dX11_sortsBy_4 : decode cX11_sortsBy 4 = .ok (.aload_n 0, 1) := by decide +kernel
theorem dX11_sortsBy_5 : decode cX11_sortsBy 5 = .ok (.getfield 16, 3) := by decide +kernel
theorem dX11_sortsBy_8 : decode cX11_sortsBy 8 = .ok (.iload_n 1, 1) := by decide +kernel
theorem dX11_sortsBy_9 : decode cX11_sortsBy 9 = .ok (.iaload, 1) := by decide +kernel
theorem dX11_sortsBy_10 : decode cX11_sortsBy 10 = .ok (.istore_n 2, 1) := by decide +kernel
theorem dX11_sortsBy_11 : decode cX11_sortsBy 11 = .ok (.iconst 0, 1) := by decide +kernel
theorem dX11_sortsBy_12 : decode cX11_sortsBy 12 = .ok (.istore_n 3, 1) := by decide +kernel
theorem dX11_sortsBy_13 : decode cX11_sortsBy 13 = .ok (.iconst 0, 1) := by decide +kernel
theorem dX11_sortsBy_14 : decode cX11_sortsBy 14 = .ok (.istore 4, 2) := by decide +kernel
theorem dX11_sortsBy_16 : decode cX11_sortsBy 16 = .ok (.iload 4, 2) := by decide +kernel
theorem dX11_sortsBy_18 : decode cX11_sortsBy 18 = .ok (.iconst 3, 1) := by decide +kernel
theorem dX11_sortsBy_19 : decode cX11_sortsBy 19 = .ok (.if_icmp .ge 35, 3) := by decide +kernel
theorem dX11_sortsBy_22 : decode cX11_sortsBy 22 = .ok (.aload_n 0, 1) := by decide +kernel
theorem dX11_sortsBy_23 : decode cX11_sortsBy 23 = .ok (.getfield 16, 3) := by decide +kernel
theorem dX11_sortsBy_26 : decode cX11_sortsBy 26 = .ok (.iload_n 1, 1) := by decide +kernel
theorem dX11_sortsBy_27 : decode cX11_sortsBy 27 = .ok (.iload 4, 2) := by decide +kernel
theorem dX11_sortsBy_29 : decode cX11_sortsBy 29 = .ok (.iastore, 1) := by decide +kernel
theorem dX11_sortsBy_30 : decode cX11_sortsBy 30 = .ok (.iload_n 3, 1) := by decide +kernel
theorem dX11_sortsBy_31 : decode cX11_sortsBy 31 = .ok (.aload_n 0, 1) := by decide +kernel
theorem dX11_sortsBy_32 : decode cX11_sortsBy 32 = .ok (.invokevirtual 337, 3) := by decide +kernel
theorem dX11_sortsBy_35 : decode cX11_sortsBy 35 = .ok (.ifCond .eq 10, 3) := by decide +kernel
theorem dX11_sortsBy_38 : decode cX11_sortsBy 38 = .ok (.iconst 1, 1) := by decide +kernel
theorem dX11_sortsBy_39 : decode cX11_sortsBy 39 = .ok (.iload 4, 2) := by decide +kernel
theorem dX11_sortsBy_41 : decode cX11_sortsBy 41 = .ok (.ishl, 1) := by decide +kernel
theorem dX11_sortsBy_42 : decode cX11_sortsBy 42 = .ok (.goto 4, 3) := by decide +kernel
theorem dX11_sortsBy_45 : decode cX11_sortsBy 45 = .ok (.iconst 0, 1) := by decide +kernel
theorem dX11_sortsBy_46 : decode cX11_sortsBy 46 = .ok (.ior, 1) := by decide +kernel
theorem dX11_sortsBy_47 : decode cX11_sortsBy 47 = .ok (.istore_n 3, 1) := by decide +kernel
theorem dX11_sortsBy_48 : decode cX11_sortsBy 48 = .ok (.iinc 4 1, 3) := by decide +kernel
theorem dX11_sortsBy_51 : decode cX11_sortsBy 51 = .ok (.goto (-35), 3) := by decide +kernel
theorem dX11_sortsBy_54 : decode cX11_sortsBy 54 = .ok (.aload_n 0, 1) := by decide +kernel
theorem dX11_sortsBy_55 : decode cX11_sortsBy 55 = .ok (.getfield 16, 3) := by decide +kernel
theorem dX11_sortsBy_58 : decode cX11_sortsBy 58 = .ok (.iload_n 1, 1) := by decide +kernel
theorem dX11_sortsBy_59 : decode cX11_sortsBy 59 = .ok (.iload_n 2, 1) := by decide +kernel
theorem dX11_sortsBy_60 : decode cX11_sortsBy 60 = .ok (.iastore, 1) := by decide +kernel
theorem dX11_sortsBy_61 : decode cX11_sortsBy 61 = .ok (.iload_n 3, 1) := by decide +kernel
theorem dX11_sortsBy_62 : decode cX11_sortsBy 62 = .ok (.ireturn, 1) := by decide +kernel
theorem c_isSpared (hd : 7 ≤ d) (D : Deb) (h : repM σ D) (m : Int32) : mMet G l d kX11_isSpared [.ref 111, .int m] σ (qIP (fun r s => r = bI (spOK D m) ∧ fW wSq σ s)) := by
  refine mMet.of cm_X11_isSpared rfl (Nat.le_of_ble_eq_true rfl) rfl (fun v1 σ1 h => by obtain ⟨r, h1, h2, -⟩ := h; rw [h1, h2]; exact bI_nar _) ?_
  refine m_aload_n dX11_isSpared_0 0 rfl ?_
  refine m_iload_n dX11_isSpared_1 1 rfl ?_
  refine m_putI 21 dX11_isSpared_2 fw_X11_223_10 rfl (by decide) rfl rfl (by first | assumption | rfl) ?_
  refine m_aload_n dX11_isSpared_5 0 rfl ?_
  refine m_callV (As := []) dX11_isSpared_6 cv_X11_273 (by first | assumption | rfl) (by decide) (by omega) rfl rfl (Nat.le_of_ble_eq_true rfl) (c_runsD (d := d - 1) (by omega) _ (h m)) (fun v1 σ1 hv1 => ?_)
  refine m_qVP hv1 (fun hz => ?_)
  clear hv1 v1
  rename mS => s2
  obtain ⟨z1, z2⟩ := hz
  have r2 := (h m).run z2
  have f2 : fW wSq σ s2 := (fW.us (by omega) fW.rf).tr (z2.mono (fun y z h => by omega))
  refine m_aload_n dX11_isSpared_9 0 rfl ?_
  refine m_callV (As := []) dX11_isSpared_10 cv_X11_301 (by first | assumption | rfl) (by decide) (by omega) rfl rfl (Nat.le_of_ble_eq_true rfl) (c_meekNow (d := d - 1) _ r2.1 r2.2.2.2.1) (fun v1 σ1 hv1 => ?_)
  refine m_qI hv1 ?_
  clear hv1 v1 σ1
  refine m_sel (pcJ := 21) ?_ (fun kt0 kf0 => m_if_ne dX11_isSpared_13 20 (by decide) (fun h => (m_iconst (v := 0) dX11_isSpared_20 (by decide) (kf0 h))) (fun h => (m_iconst (v := 1) dX11_isSpared_16 (by decide) (m_goto dX11_isSpared_17 21 (by decide) (kt0 h)))))
  refine m_ireturn dX11_isSpared_21 ⟨_, rfl, ?_, f2⟩
  have e : meekP (s2.1 132) (s2.1 133) (maskD D m).1.1 = meekD (maskD D m) := meekP_cong _ (fun k hk => ⟨(z1.2.1 k hk).2.2.2.2.1, (z1.2.1 k hk).2.2.2.2.2⟩)
  rw [e]
  unfold spOK
  by_cases q : meekD (maskD D m) = 0
  · rw [if_pos q, decide_eq_true q]; rfl
  · rw [if_neg q, decide_eq_false q]; rfl
theorem c_spareBy (hd : 8 ≤ d) (L0 L1 e : Nat) (ok : okR σ L0 L1 e) : mMet G l d kX11_spareBy [.ref 111] σ (qIP (fun r s => r = (spR (Dt σ L0 L1 e)).1 ∧ (r = 1 → s.1 142 0 = (spR (Dt σ L0 L1 e)).2.1) ∧ (r = 2 → s.1 142 0 = (spR (Dt σ L0 L1 e)).2.1 ∧ s.1 142 1 = (spR (Dt σ L0 L1 e)).2.2) ∧ fW wScr σ s)) := by
  have he8 : (Dt σ L0 L1 e).2.2.1.1 ≤ 8 := ok.2.2.2.2.2
  have hev : σ.1 111 12 = nI (Dt σ L0 L1 e).2.2.1.1 := ok.2.2.2.2.1
  refine mMet.of cm_X11_spareBy rfl (Nat.le_of_ble_eq_true rfl) rfl (fun v1 σ1 h => by obtain ⟨r, h1, -⟩ := h; rw [h1]; rfl) ?_
  refine m_aload_n dX11_spareBy_0 0 rfl ?_
  refine m_callV (As := []) dX11_spareBy_1 cv_X11_270 (by first | assumption | rfl) (by decide) (by omega) rfl rfl (Nat.le_of_ble_eq_true rfl) (c_asTold (d := d - 1) (by omega) L0 L1 e ok) (fun v1 σ1 hv1 => ?_)
  refine m_qVP hv1 (fun ha => ?_)
  clear hv1 v1
  rename mS => s0
  obtain ⟨a1, a2, a3⟩ := ha
  generalize Dt σ L0 L1 e = D at *
  have q12 : s0.1 111 12 = nI D.2.2.1.1 := (a3.at (by omega)).trans hev
  have m0 := repM.of a1
  have fin : ∀ s, fW wSp s0 s → fW wScr σ s := fun s f => a3.tr (f.mono (fun y z h => by omega))
  refine m_aload_n dX11_spareBy_4 0 rfl ?_
  refine m_iconst (v := 0) dX11_spareBy_5 (by decide) ?_
  refine m_callV (As := [_]) dX11_spareBy_6 cv_X11_325 (by first | assumption | rfl) (by decide) (by omega) rfl rfl (Nat.le_of_ble_eq_true rfl) (c_isSpared (d := d - 1) (by omega) D m0 0) (fun v1 σ1 hv1 => ?_)
  refine m_qIP hv1 (fun r1 hb => ?_)
  clear hv1 v1
  rename mS => s1
  obtain ⟨rfl, b1⟩ := hb
  refine m_if_eq dX11_spareBy_9 14 (by decide) (fun h9 => ?_) (fun h9 => ?_)
  · have n0 : ¬ spOK D 0 = true := by rw [bI_eq.mp h9]; decide
    refine m_iconst (v := 0) dX11_spareBy_14 (by decide) ?_
    refine m_istore_n (ls1 := [(1, _), (0, _)]) dX11_spareBy_15 (by decide) rfl ?_
    -- single events
    have K2 : sp1 D D.2.2.1.1 0 = none → ∀ s, fW wSp s0 s → mW G l d kX11_spareBy 49 [(1, .int (nI D.2.2.1.1)), (0, .ref 111)] [] s (qIP (fun r s => r = (spR D).1 ∧ (r = 1 → s.1 142 0 = (spR D).2.1) ∧ (r = 2 → s.1 142 0 = (spR D).2.1 ∧ s.1 142 1 = (spR D).2.2) ∧ fW wScr σ s)) := by
      intro hn1 s f
      refine m_iconst (v := 0) dX11_spareBy_49 (by decide) ?_
      refine m_istore_n (ls1 := [(1, _), (0, _)]) dX11_spareBy_50 (by decide) rfl ?_
      have key : ∀ F a (s : mS), F + a = D.2.2.1.1 → sp2 D D.2.2.1.1 D.2.2.1.1 0 = sp2 D D.2.2.1.1 F a → fW wSp s0 s → mW G l d kX11_spareBy 51 [(1, .int (nI a)), (0, .ref 111)] [] s (qIP (fun r s => r = (spR D).1 ∧ (r = 1 → s.1 142 0 = (spR D).2.1) ∧ (r = 2 → s.1 142 0 = (spR D).2.1 ∧ s.1 142 1 = (spR D).2.2) ∧ fW wScr σ s)) := by
        intro F
        induction F with
        | zero =>
          intro a s hFa hsp f
          have hl : s.1 111 12 = nI D.2.2.1.1 := (f.at (by omega)).trans q12
          refine m_iload_n dX11_spareBy_51 0 rfl ?_
          refine m_aload_n dX11_spareBy_52 1 rfl ?_
          refine m_getI 12 dX11_spareBy_53 fl_X11_204_10 rfl (by decide) (by first | assumption | rfl) ?_
          refine m_icmp_ge dX11_spareBy_56 113 (by decide) (fun h => ?_) (fun h => ?_)
          · refine m_iconst (v := -1) dX11_spareBy_113 (by decide) ?_
            have hR : spR D = (-1, 0, 0) := by unfold spR; rw [if_neg n0, hn1, hsp]; rfl
            refine m_ireturn dX11_spareBy_114 ⟨_, rfl, ?_, fun q => absurd q (by decide), fun q => absurd q (by decide), fin s f⟩
            rw [hR]
          · exact (ge_yes h (by rw [hl]; congr 1; omega)).elim
        | succ F ih =>
          intro a s hFa hsp f
          have hl : s.1 111 12 = nI D.2.2.1.1 := (f.at (by omega)).trans q12
          refine m_iload_n dX11_spareBy_51 0 rfl ?_
          refine m_aload_n dX11_spareBy_52 1 rfl ?_
          refine m_getI 12 dX11_spareBy_53 fl_X11_204_10 rfl (by decide) (by first | assumption | rfl) ?_
          refine m_icmp_ge dX11_spareBy_56 113 (by decide) (fun h => ?_) (fun h => ?_)
          · exact (ge_no hl h rfl (by omega) (by omega)).elim
          · clear h
            refine m_iload_n dX11_spareBy_59 0 rfl ?_
            refine m_iconst (v := 1) dX11_spareBy_60 (by decide) ?_
            refine m_iadd dX11_spareBy_61 ?_
            refine mW.top (w := nI (a + 1)) (nI_1 a) ?_
            refine m_istore_n (ls1 := [(2, _), (1, _), (0, _)]) dX11_spareBy_62 (by decide) rfl ?_
            have inner : ∀ H b (s : mS), H + b = D.2.2.1.1 → a < b → sp2i D a (D.2.2.1.1 - (a + 1)) (a + 1) = sp2i D a H b → fW wSp s0 s → mW G l d kX11_spareBy 63 [(2, .int (nI b)), (1, .int (nI a)), (0, .ref 111)] [] s (qIP (fun r s => r = (spR D).1 ∧ (r = 1 → s.1 142 0 = (spR D).2.1) ∧ (r = 2 → s.1 142 0 = (spR D).2.1 ∧ s.1 142 1 = (spR D).2.2) ∧ fW wScr σ s)) := by
              intro H
              induction H with
              | zero =>
                intro b s hHb hab hi f
                have hl : s.1 111 12 = nI D.2.2.1.1 := (f.at (by omega)).trans q12
                refine m_iload_n dX11_spareBy_63 0 rfl ?_
                refine m_aload_n dX11_spareBy_64 2 rfl ?_
                refine m_getI 12 dX11_spareBy_65 fl_X11_204_10 rfl (by decide) (by first | assumption | rfl) ?_
                refine m_icmp_ge dX11_spareBy_68 107 (by decide) (fun h => ?_) (fun h => ?_)
                · refine m_iinc (v := nI (a + 1)) (ls1 := [(1, _), (2, _), (0, _)]) dX11_spareBy_107 1 rfl (nI_1 a) (by decide) rfl ?_
                  refine m_goto dX11_spareBy_110 51 (by decide) ?_
                  refine mW.sub (ls1 := [(1, _), (0, _)]) [0, 2] rfl ?_
                  refine ih (a + 1) s (by omega) ?_ f
                  rw [hsp, sp2, hi]; rfl
                · exact (ge_yes h (by rw [hl]; congr 1; omega)).elim
              | succ H ihH =>
                intro b s hHb hab hi f
                have hl : s.1 111 12 = nI D.2.2.1.1 := (f.at (by omega)).trans q12
                refine m_iload_n dX11_spareBy_63 0 rfl ?_
                refine m_aload_n dX11_spareBy_64 2 rfl ?_
                refine m_getI 12 dX11_spareBy_65 fl_X11_204_10 rfl (by decide) (by first | assumption | rfl) ?_
                refine m_icmp_ge dX11_spareBy_68 107 (by decide) (fun h => ?_) (fun h => ?_)
                · exact (ge_no hl h rfl (by omega) (by omega)).elim
                · clear h
                  refine m_aload_n dX11_spareBy_71 2 rfl ?_
                  refine m_getR 40 142 dX11_spareBy_72 fl_X11_100_10 rfl (by decide) rfl (by first | assumption | rfl) ?_
                  refine m_iconst (v := 0) dX11_spareBy_75 (by decide) ?_
                  refine m_iload_n dX11_spareBy_76 1 rfl ?_
                  refine m_iast dX11_spareBy_77 (by first | assumption | rfl) 0 rfl (by first | assumption | omega | decide) ?_
                  refine m_aload_n dX11_spareBy_78 2 rfl ?_
                  refine m_getR 40 142 dX11_spareBy_79 fl_X11_100_10 rfl (by decide) rfl (by first | assumption | rfl) ?_
                  refine m_iconst (v := 1) dX11_spareBy_82 (by decide) ?_
                  refine m_iload_n dX11_spareBy_83 0 rfl ?_
                  refine m_iast dX11_spareBy_84 (by first | assumption | rfl) 1 rfl (by first | assumption | omega | decide) ?_
                  refine m_aload_n dX11_spareBy_85 2 rfl ?_
                  refine m_iconst (v := 1) dX11_spareBy_86 (by decide) ?_
                  refine m_iload_n dX11_spareBy_87 1 rfl ?_
                  refine m_ishl dX11_spareBy_88 ?_
                  refine m_iconst (v := 1) dX11_spareBy_89 (by decide) ?_
                  refine m_iload_n dX11_spareBy_90 0 rfl ?_
                  refine m_ishl dX11_spareBy_91 ?_
                  refine m_ior dX11_spareBy_92 ?_
                  have f1 : fW wSp s0 (us (us s 142 0 (nI a)) 142 1 (nI b)) := fW.us (by omega) (fW.us (by omega) f)
                  refine m_callV (As := [_]) dX11_spareBy_93 cv_X11_325 (by first | assumption | rfl) (by decide) (by omega) rfl rfl (Nat.le_of_ble_eq_true rfl) (c_isSpared (d := d - 1) (by omega) D (m0.tr f1) (bit1 a ||| bit1 b)) (fun v1 σ1 hv1 => ?_)
                  refine m_qIP hv1 (fun r1 hc => ?_)
                  clear hv1 v1
                  rename mS => s3
                  obtain ⟨rfl, c1⟩ := hc
                  refine m_if_eq dX11_spareBy_96 101 (by decide) (fun h96 => ?_) (fun h96 => ?_)
                  · refine m_iinc (v := nI (b + 1)) (ls1 := [(2, _), (1, _), (0, _)]) dX11_spareBy_101 0 rfl (nI_1 b) (by decide) rfl ?_
                    refine m_goto dX11_spareBy_104 63 (by decide) ?_
                    refine ihH (b + 1) s3 (by omega) (by omega) ?_ (f1.tr (sqp c1))
                    rw [hi, sp2i, bI_eq.mp h96]; rfl
                  · refine m_iconst (v := 2) dX11_spareBy_99 (by decide) ?_
                    have hR : spR D = (2, nI a, nI b) := by
                      unfold spR
                      rw [if_neg n0, hn1, hsp, sp2, hi, sp2i, bI_ne.mp h96]; rfl
                    refine m_ireturn dX11_spareBy_100 ⟨_, rfl, ?_, fun q => absurd q (by decide), fun _ => ?_, fin s3 (f1.tr (sqp c1))⟩
                    · rw [hR]
                    · rw [hR, c1.at (y := 142) (z := 0) (by omega), c1.at (y := 142) (z := 1) (by omega)]; simp [us_at]
            exact inner (D.2.2.1.1 - (a + 1)) (a + 1) s (by omega) (by omega) rfl f
      exact key D.2.2.1.1 0 s (by omega) rfl f
    have key1 : ∀ F a (s : mS), F + a = D.2.2.1.1 → sp1 D D.2.2.1.1 0 = sp1 D F a → fW wSp s0 s → mW G l d kX11_spareBy 16 [(1, .int (nI a)), (0, .ref 111)] [] s (qIP (fun r s => r = (spR D).1 ∧ (r = 1 → s.1 142 0 = (spR D).2.1) ∧ (r = 2 → s.1 142 0 = (spR D).2.1 ∧ s.1 142 1 = (spR D).2.2) ∧ fW wScr σ s)) := by
      intro F
      induction F with
      | zero =>
        intro a s hFa hsp f
        have hl : s.1 111 12 = nI D.2.2.1.1 := (f.at (by omega)).trans q12
        refine m_iload_n dX11_spareBy_16 0 rfl ?_
        refine m_aload_n dX11_spareBy_17 1 rfl ?_
        refine m_getI 12 dX11_spareBy_18 fl_X11_204_10 rfl (by decide) (by first | assumption | rfl) ?_
        refine m_icmp_ge dX11_spareBy_21 49 (by decide) (fun h => ?_) (fun h => ?_)
        · have ea : a = D.2.2.1.1 := by omega
          subst ea
          exact K2 hsp s f
        · exact (ge_yes h (by rw [hl]; congr 1; omega)).elim
      | succ F ih =>
        intro a s hFa hsp f
        have hl : s.1 111 12 = nI D.2.2.1.1 := (f.at (by omega)).trans q12
        refine m_iload_n dX11_spareBy_16 0 rfl ?_
        refine m_aload_n dX11_spareBy_17 1 rfl ?_
        refine m_getI 12 dX11_spareBy_18 fl_X11_204_10 rfl (by decide) (by first | assumption | rfl) ?_
        refine m_icmp_ge dX11_spareBy_21 49 (by decide) (fun h => ?_) (fun h => ?_)
        · exact (ge_no hl h rfl (by omega) (by omega)).elim
        · clear h
          refine m_aload_n dX11_spareBy_24 1 rfl ?_
          refine m_getR 40 142 dX11_spareBy_25 fl_X11_100_10 rfl (by decide) rfl (by first | assumption | rfl) ?_
          refine m_iconst (v := 0) dX11_spareBy_28 (by decide) ?_
          refine m_iload_n dX11_spareBy_29 0 rfl ?_
          refine m_iast dX11_spareBy_30 (by first | assumption | rfl) 0 rfl (by first | assumption | omega | decide) ?_
          refine m_aload_n dX11_spareBy_31 1 rfl ?_
          refine m_iconst (v := 1) dX11_spareBy_32 (by decide) ?_
          refine m_iload_n dX11_spareBy_33 0 rfl ?_
          refine m_ishl dX11_spareBy_34 ?_
          have f1 : fW wSp s0 (us s 142 0 (nI a)) := fW.us (by omega) f
          refine m_callV (As := [_]) dX11_spareBy_35 cv_X11_325 (by first | assumption | rfl) (by decide) (by omega) rfl rfl (Nat.le_of_ble_eq_true rfl) (c_isSpared (d := d - 1) (by omega) D (m0.tr f1) (bit1 a)) (fun v1 σ1 hv1 => ?_)
          refine m_qIP hv1 (fun r1 hc => ?_)
          clear hv1 v1
          rename mS => s3
          obtain ⟨rfl, c1⟩ := hc
          refine m_if_eq dX11_spareBy_38 43 (by decide) (fun h38 => ?_) (fun h38 => ?_)
          · refine m_iinc (v := nI (a + 1)) (ls1 := [(1, _), (0, _)]) dX11_spareBy_43 0 rfl (nI_1 a) (by decide) rfl ?_
            refine m_goto dX11_spareBy_46 16 (by decide) ?_
            refine ih (a + 1) s3 (by omega) ?_ (f1.tr (sqp c1))
            rw [hsp, sp1, bI_eq.mp h38]; rfl
          · refine m_iconst (v := 1) dX11_spareBy_41 (by decide) ?_
            have hR : spR D = (1, nI a, 0) := by
              unfold spR
              rw [if_neg n0, hsp, sp1, bI_ne.mp h38]; rfl
            refine m_ireturn dX11_spareBy_42 ⟨_, rfl, ?_, fun _ => ?_, fun q => absurd q (by decide), fin s3 (f1.tr (sqp c1))⟩
            · rw [hR]
            · rw [hR, c1.at (y := 142) (z := 0) (by omega)]; simp [us_at]
    exact key1 D.2.2.1.1 0 s1 (by omega) rfl (sqp b1)
  · refine m_iconst (v := 0) dX11_spareBy_12 (by decide) ?_
    have hR : spR D = (0, 0, 0) := by unfold spR; rw [if_pos (bI_ne.mp h9)]
    refine m_ireturn dX11_spareBy_13 ⟨_, rfl, ?_, fun q => absurd q (by decide), fun q => absurd q (by decide), fin s1 (sqp b1)⟩
    rw [hR]
end SP


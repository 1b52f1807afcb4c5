/-! ===== the small machine: what a frame of the system does, over a store of numbers ===== -/
def mshpL : List (Nat × Nat) := [(9, 11), (7, 2), (11, 47), (7, 2), (11, 47), (0, 5), (13, 8), (11, 5), (11, 5), (11, 5), (11, 5), (11, 5), (11, 5), (11, 5), (11, 5), (6, 5), (13, 13), (11, 3), (11, 3), (11, 3), (11, 3), (11, 3), (11, 3), (11, 3), (11, 3), (11, 3), (11, 3), (11, 3), (11, 3), (11, 3), (1, 4), (11, 8), (11, 8), (11, 8), (5, 5), (11, 8), (11, 8), (11, 8), (11, 8), (4, 4), (13, 4), (11, 60), (11, 60), (11, 60), (11, 60), (11, 4), (11, 4), (3, 10), (13, 6), (11, 8), (11, 8), (11, 8), (11, 8), (11, 8), (11, 8), (13, 6), (11, 192), (11, 192), (11, 192), (11, 192), (11, 192), (11, 192), (11, 36), (11, 24), (11, 24), (8, 10), (0, 5), (13, 8), (11, 5), (11, 5), (11, 5), (11, 5), (11, 5), (11, 5), (11, 5), (11, 5), (1, 4), (11, 8), (11, 8), (11, 8), (3, 10), (13, 6), (11, 8), (11, 8), (11, 8), (11, 8), (11, 8), (11, 8), (13, 6), (11, 192), (11, 192), (11, 192), (11, 192), (11, 192), (11, 192), (11, 36), (11, 24), (11, 24), (13, 10), (11, 24), (11, 24), (11, 24), (11, 24), (11, 24), (11, 24), (11, 24), (11, 24), (11, 24), (11, 24), (11, 256), (2, 1), (10, 53), (11, 2), (11, 94), (11, 9), (11, 9), (11, 9), (11, 9), (11, 9), (11, 13), (11, 13), (11, 13), (11, 9), (11, 9), (11, 9), (11, 9), (11, 9), (11, 9), (11, 8), (11, 8), (11, 8), (11, 8), (11, 8), (11, 8), (11, 192), (11, 192), (11, 192), (11, 192), (11, 192), (11, 24), (11, 24), (11, 24), (11, 2), (11, 8), (11, 8), (11, 8), (11, 8), (11, 240), (12, 4), (11, 4), (11, 4), (11, 240), (11, 60)]
/-- the shape of the cell x: (class, fields), (11, length) ints, (12, length) booleans, (13, length) rows of ints -/
def mshp (x : Nat) : Nat × Nat := mshpL.getD x (99, 0)
abbrev mNA : Nat := 153
def mkd (ci k : Nat) : Nat := match ci, k with
  | 0, 0 => 1
  | 1, 0 => 1
  | 1, 1 => 1
  | 1, 2 => 1
  | 3, 0 => 1
  | 3, 1 => 1
  | 3, 2 => 1
  | 3, 3 => 1
  | 3, 4 => 1
  | 4, 0 => 1
  | 4, 1 => 1
  | 4, 2 => 1
  | 5, 0 => 1
  | 5, 1 => 1
  | 5, 2 => 1
  | 5, 3 => 1
  | 6, 0 => 1
  | 7, 0 => 1
  | 8, 4 => 1
  | 8, 5 => 1
  | 8, 6 => 1
  | 8, 7 => 1
  | 8, 8 => 1
  | 9, 0 => 1
  | 9, 1 => 1
  | 9, 2 => 1
  | 9, 3 => 1
  | 9, 4 => 1
  | 9, 5 => 1
  | 9, 6 => 1
  | 9, 7 => 1
  | 9, 8 => 1
  | 9, 9 => 1
  | 10, 0 => 1
  | 10, 1 => 1
  | 10, 3 => 1
  | 10, 4 => 1
  | 10, 5 => 1
  | 10, 6 => 1
  | 10, 7 => 1
  | 10, 9 => 1
  | 10, 10 => 1
  | 10, 11 => 1
  | 10, 13 => 1
  | 10, 14 => 1
  | 10, 15 => 1
  | 10, 18 => 1
  | 10, 19 => 1
  | 10, 20 => 1
  | 10, 22 => 1
  | 10, 23 => 1
  | 10, 24 => 1
  | 10, 25 => 1
  | 10, 26 => 1
  | 10, 27 => 1
  | 10, 32 => 1
  | 10, 33 => 1
  | 10, 34 => 1
  | 10, 35 => 1
  | 10, 36 => 1
  | 10, 37 => 1
  | 10, 38 => 1
  | 10, 39 => 1
  | 10, 40 => 1
  | 10, 42 => 1
  | 10, 43 => 1
  | 10, 44 => 1
  | 10, 45 => 1
  | 10, 46 => 1
  | 10, 47 => 1
  | 10, 48 => 1
  | 10, 49 => 1
  | 10, 50 => 1
  | 10, 51 => 1
  | 8, 0 => 1
  | 8, 1 => 1
  | 8, 2 => 1
  | 8, 3 => 1
  | 2, 0 => 2
  | _, _ => 0
def moff (ci x k : Nat) : Nat := match ci, k with
  | 8, 0 => 5
  | 8, 1 => 15
  | 8, 2 => 30
  | 8, 3 => 34
  | 0, 0 => x + 1
  | 1, 0 => x + 1
  | 1, 1 => x + 2
  | 1, 2 => x + 3
  | 3, 0 => x + 1
  | 3, 1 => x + 8
  | 3, 2 => x + 15
  | 3, 3 => x + 16
  | 3, 4 => x + 17
  | 4, 0 => x + 1
  | 4, 1 => x + 6
  | 4, 2 => x + 7
  | 5, 0 => x + 1
  | 5, 1 => x + 2
  | 5, 2 => x + 3
  | 5, 3 => x + 4
  | 6, 0 => x + 1
  | 7, 0 => x + 1
  | 8, 4 => x + 1
  | 8, 5 => x + 11
  | 8, 6 => x + 15
  | 8, 7 => x + 33
  | 8, 8 => x + 44
  | 9, 0 => x + 1
  | 9, 1 => x + 3
  | 9, 2 => x + 5
  | 9, 3 => x + 15
  | 9, 4 => x + 30
  | 9, 5 => x + 34
  | 9, 6 => x + 39
  | 9, 7 => x + 47
  | 9, 8 => x + 65
  | 9, 9 => x + 110
  | 10, 0 => x + 1
  | 10, 1 => x + 2
  | 10, 3 => x + 3
  | 10, 4 => x + 4
  | 10, 5 => x + 5
  | 10, 6 => x + 6
  | 10, 7 => x + 7
  | 10, 9 => x + 8
  | 10, 10 => x + 9
  | 10, 11 => x + 10
  | 10, 13 => x + 11
  | 10, 14 => x + 12
  | 10, 15 => x + 13
  | 10, 18 => x + 14
  | 10, 19 => x + 15
  | 10, 20 => x + 16
  | 10, 22 => x + 17
  | 10, 23 => x + 18
  | 10, 24 => x + 19
  | 10, 25 => x + 20
  | 10, 26 => x + 21
  | 10, 27 => x + 22
  | 10, 32 => x + 23
  | 10, 33 => x + 24
  | 10, 34 => x + 25
  | 10, 35 => x + 26
  | 10, 36 => x + 27
  | 10, 37 => x + 28
  | 10, 38 => x + 29
  | 10, 39 => x + 30
  | 10, 40 => x + 31
  | 10, 42 => x + 32
  | 10, 43 => x + 33
  | 10, 44 => x + 34
  | 10, 45 => x + 35
  | 10, 46 => x + 36
  | 10, 47 => x + 37
  | 10, 48 => x + 38
  | 10, 49 => x + 39
  | 10, 50 => x + 40
  | 10, 51 => x + 41
  | _, _ => 0
abbrev mS : Type := (Nat → Nat → Int32) × Int64
/-- the names of things in the real heap: classes and slots, array classes, what may be written, addresses, the script -/
abbrev mG : Type := va_G × (Nat → ClassId) × (Nat → Prop) × (Nat → Nat) × Nat × (Nat → Int32)
abbrev mM : Type := MethodName × ByteArray × Nat × Option FieldType
def mv (G : mG) : Value → Value
  | .ref x => .ref (G.2.2.2.1 x)
  | v => v
theorem mv_cat {G : mG} {v : Value} {n : Nat} (h : v.category = n) : (mv G v).category = n := by cases v <;> exact h
theorem mv_cats {G : mG} (st : List Value) : ((st.map (mv G)).map fun v => v.category) = st.map fun v => v.category := by
  rw [List.map_map]
  exact List.map_congr_left (fun v _ => mv_cat rfl)
def mlv (G : mG) (q : Nat × Value) : Nat × Value := (q.1, mv G q.2)
theorem mlv_at {G : mG} {ls : List (Nat × Value)} {j i : Nat} {v : Value} (h : ls[j]? = some (i, v)) : (ls.map (mlv G))[j]? = some (i, mv G v) := by
  rw [List.getElem?_map, h]; rfl
def mst1 (i : Nat) (v : Value) (ls : List (Nat × Value)) : List (Nat × Value) := (i, v) :: ls.filter (fun q => !(q.1 == i) && !(q.1 + 1 == i && q.2.category == 2))
def mst2 (i : Nat) (v : Value) (ls : List (Nat × Value)) : List (Nat × Value) := (i, v) :: ls.filter (fun q => !(q.1 == i) && (!(q.1 == i + 1) && !(q.1 + 1 == i && q.2.category == 2)))
theorem mst1_map {G : mG} (i : Nat) (v : Value) (ls : List (Nat × Value)) : (i, mv G v) :: (ls.map (mlv G)).filter (fun q => !(q.1 == i) && !(q.1 + 1 == i && q.2.category == 2)) = (mst1 i v ls).map (mlv G) := by
  unfold mst1
  rw [List.map_cons, List.filter_map]
  refine congrArg _ (congrArg (List.map (mlv G)) (List.filter_congr fun q _ => ?_))
  show (!(q.1 == i) && !(q.1 + 1 == i && (mv G q.2).category == 2)) = _
  rw [mv_cat rfl]
theorem mst2_map {G : mG} (i : Nat) (v : Value) (ls : List (Nat × Value)) : (i, mv G v) :: (ls.map (mlv G)).filter (fun q => !(q.1 == i) && (!(q.1 == i + 1) && !(q.1 + 1 == i && q.2.category == 2))) = (mst2 i v ls).map (mlv G) := by
  unfold mst2
  rw [List.map_cons, List.filter_map]
  refine congrArg _ (congrArg (List.map (mlv G)) (List.filter_congr fun q _ => ?_))
  show (!(q.1 == i) && (!(q.1 == i + 1) && !(q.1 + 1 == i && (mv G q.2).category == 2))) = _
  rw [mv_cat rfl]
def mfv (G : mG) (σ : mS) (ci x k : Nat) : Value := match mkd ci k with
  | 0 => .int (σ.1 x k)
  | 1 => .ref (G.2.2.2.1 (moff ci x k))
  | _ => .long σ.2
/-- what the cell x holds -/
def mE (G : mG) (σ : mS) (x : Nat) : va_E := match (mshp x).1 with
  | 11 => .inl (G.2.1 0, (mshp x).2, .inl (σ.1 x))
  | 12 => .inl (G.2.1 2, (mshp x).2, .inl (σ.1 x))
  | 13 => .inl (G.2.1 1, (mshp x).2, .inr (.inr (.inr (.inr (fun j => some (G.2.2.2.1 (x + 1 + j)))))))
  | ci => .inr (ci, (List.range (mshp x).2).map (mfv G σ ci x))
def mws (G : mG) (σ : mS) : va_W := (List.range mNA).map (fun x => (G.2.2.2.1 x, mE G σ x))
theorem mws_at {G : mG} {σ : mS} {x : Nat} (h : x < mNA) : (mws G σ)[x]? = some (G.2.2.2.1 x, mE G σ x) := by
  unfold mws
  rw [List.getElem?_map, List.getElem?_range h]
  rfl
theorem mshp_lt {x t n : Nat} (h : mshp x = (t, n)) (ht : t ≠ 99) : x < mNA := by
  by_cases hx : x < mNA
  · exact hx
  · exfalso
    apply ht
    have h1 : mshp x = (99, 0) := by
      unfold mshp
      rw [List.getD_eq_getElem?_getD, List.getElem?_eq_none (by show mshpL.length ≤ x; exact Nat.le_of_not_lt hx)]
      rfl
    rw [h1] at h
    exact (congrArg Prod.fst h).symm
/-- the words that go from frame to frame -/
def mxtra : List Cond := [.selects "DodgemDebate$Cars" ⟨"DodgemDebate$Told", "takes", "(IIC)Z"⟩ ⟨"DodgemDebate$Told", "takes", "(IIC)Z"⟩, .selects "DodgemDebate$Steers" ⟨"DodgemDebate$Told", "takes", "(IIC)Z"⟩ ⟨"DodgemDebate$Told", "takes", "(IIC)Z"⟩]
def mtbl : List Cond := (mxtra ++ lw_tbl).filter goodWord
def mnest : List Cond := [.fieldLinkNest "DodgemDebate$Run" 93 "DodgemDebate" "STEP_X" "[I" "DodgemDebate", .fieldLinkNest "DodgemDebate$Run" 96 "DodgemDebate" "STEP_Y" "[I" "DodgemDebate", .methodLinkNest "DodgemDebate$Run" 99 ⟨"DodgemDebate", "onFloor", "(II)Z"⟩ "DodgemDebate", .methodLinkNest "DodgemDebate$Events" 21 ⟨"DodgemDebate", "within", "(II)Z"⟩ "DodgemDebate", .methodLinkNest "DodgemDebate$Sheets" 37 ⟨"DodgemDebate", "within", "(II)Z"⟩ "DodgemDebate", .declares ⟨"DodgemDebate$Told", "meaning", "(IIC)I"⟩, .declares ⟨"DodgemDebate$Told", "learn", "(LDodgemDebate$Text;)V"⟩]
def mstr : List (String × Nat × String × List Int32) := [("DodgemDebate$Cars", 13, "bmh", [98, 109, 104]), ("DodgemDebate$Cars", 21, "012345", [48, 49, 50, 51, 52, 53]), ("DodgemDebate$Cars", 30, "enws", [101, 110, 119, 115]), ("DodgemDebate$Cars", 32, "0123456789", [48, 49, 50, 51, 52, 53, 54, 55, 56, 57]), ("DodgemDebate$Steers", 13, "abcdefghijklmnopqrstuvwx", [97, 98, 99, 100, 101, 102, 103, 104, 105, 106, 107, 108, 109, 110, 111, 112, 113, 114, 115, 116, 117, 118, 119, 120]), ("DodgemDebate$Steers", 21, "01234567", [48, 49, 50, 51, 52, 53, 54, 55])]
def msta : List (String × List Int32) := [("STEP_X", [1, 0, -1, 0]), ("STEP_Y", [0, 1, 0, -1]), ("DIGEST_MOMENTS", [0, 7, 15, 23])]
/-- what lies outside: statics 1000 on, texts 1010 on, their bytes 1020 on, the script 1030 -/
def mExt (G : mG) (U : State) (H : Heap) : Prop :=
  (∀ w ∈ mnest, va_Nw w U) ∧
  (∀ (i : Nat) (q : String × List Int32), msta[i]? = some q → va_Z "DodgemDebate" q.1 "[I" (.ref (G.2.2.2.1 (1000 + i))) G.2.2.1 U H ∧ va_T .int (G.2.2.2.1 (1000 + i)) q.2.length (fun j => .int (q.2.getD j 0)) G.2.2.1 U H) ∧
  va_Z "java/lang/String" "COMPACT_STRINGS" "Z" (.int 1) G.2.2.1 U H ∧
  (∀ (i : Nat) (q : String × Nat × String × List Int32), mstr[i]? = some q → vk_R q.1 q.2.1 q.2.2.1 (G.2.2.2.1 (1010 + i)) U ∧ va_O "java/lang/String" (G.2.2.2.1 (1010 + i)) G.2.2.1 U H ∧ va_OF "java/lang/String" "coder" "B" (.int 0) (G.2.2.2.1 (1010 + i)) G.2.2.1 U H ∧ va_OF "java/lang/String" "value" "[B" (.ref (G.2.2.2.1 (1020 + i))) (G.2.2.2.1 (1010 + i)) G.2.2.1 U H ∧ va_T .byte (G.2.2.2.1 (1020 + i)) q.2.2.2.length (fun j => .int (q.2.2.2.getD j 0)) G.2.2.1 U H) ∧
  va_T .int (G.2.2.2.1 1030) G.2.2.2.2.1 (fun j => .int (G.2.2.2.2.2 j)) G.2.2.1 U H
def mtys (G : mG) : List (ClassId × FieldType) := [(G.2.1 0, .int), (G.2.1 1, .array .int), (G.2.1 2, .boolean)]
/-- what holds of the tables and of what lies outside, at a state -/
def mEnv (G : mG) (U : State) : Prop := va_K G.1 vwCl (mtys G) U ∧ mExt G U U.heap ∧ (∀ q, U.heap.size ≤ q → G.2.2.1 q) ∧ (∀ x y, x < mNA → y < mNA → G.2.2.2.1 x = G.2.2.2.1 y → x = y) ∧ ∀ x, x < mNA → G.2.2.1 (G.2.2.2.1 x)
def mFix (G : mG) (μ : mM) (p : Program) (s : State) (m : MethodId) (args : Array Value) (meth : Method) (c : Code) : Prop :=
  p.tables.exec = Jvm.exec ∧ c.code = μ.2.1 ∧ c.maxLocals = μ.2.2.1 ∧ meth.sig.returnType = μ.2.2.2 ∧ s.vm.findClass μ.1.cls = some m.cls ∧ (∀ w ∈ mtbl, w.before args s = true) ∧ meth.locks = false ∧ mEnv G s
def mRet (μ : mM) (pc : Nat) : Option Value → Prop
  | none => decode μ.2.1 pc = .ok (.return_, 1)
  | some (.int _) => decode μ.2.1 pc = .ok (.ireturn, 1)
  | some (.long _) => decode μ.2.1 pc = .ok (.lreturn, 1)
  | some (.ref _) => decode μ.2.1 pc = .ok (.areturn, 1)
  | _ => False
/-- the judgement: from the frame of method μ at pc with these locals, this stack, this store, it comes to a return that Q allows; d frames are left -/
def mW (G : mG) (l : Launch) (d : Nat) (μ : mM) (pc : Nat) (ls : List (Nat × Value)) (st : List Value) (σ : mS) (Q : Option Value → mS → Prop) : Prop :=
  ∀ (p : Program) (e : Env) (s : State) (m : MethodId) (args : Array Value) (below : List Frame) (meth : Method) (c : Code) (H : Heap) (locs : List Loc) (cells slots : Nat) (lsr : Array Slot) (Z : State → Prop) (R : Room),
    (d ≤ R.frames ∧ 39 * d ≤ R.locals ∧ cells ≤ R.cells ∧ slots ≤ R.slots) → mFix G μ p s m args meth c → va_P G.1 vwCl (mws G σ) H → va_S G.2.2.1 s.heap H locs → lv_has lsr μ.2.2.1 (ls.map (mlv G)) →
    (∀ (v : Option Value) (σ1 : mS) (H1 : Heap) (locs1 : List Loc) (lsr1 : Array Slot) (pc1 : Nat), Q v σ1 → va_P G.1 vwCl (mws G σ1) H1 → va_S G.2.2.1 s.heap H1 locs1 → mRet μ pc1 v → W p l e R s m args below meth c H1 locs1 cells slots Z (F0 m pc1 lsr1 ((v.map (mv G)).toList))) →
    W p l e R s m args below meth c H locs cells slots Z (F0 m pc lsr (st.map (mv G)))
section MM
variable {G : mG} {l : Launch} {d : Nat} {μ : mM} {pc : Nat} {ls : List (Nat × Value)} {st : List Value} {σ : mS} {Q : Option Value → mS → Prop}
theorem mW.post {Q1 : Option Value → mS → Prop} (h : mW G l d μ pc ls st σ Q1) (hq : ∀ v σ1, Q1 v σ1 → Q v σ1) : mW G l d μ pc ls st σ Q :=
  fun p e s m args below meth c H locs cells slots lsr Z R hR hF hP hS hl hQ => h p e s m args below meth c H locs cells slots lsr Z R hR hF hP hS hl (fun v σ1 H1 locs1 lsr1 pc1 h1 => hQ v σ1 H1 locs1 lsr1 pc1 (hq v σ1 h1))
theorem lv_pick_map (ls : List (Nat × Value)) : ∀ ks : List Nat, lv_pick (ls.map (mlv G)) ks = (lv_pick ls ks).map (mlv G)
  | [] => rfl
  | k :: ks => by
    have ih := lv_pick_map ls ks
    unfold lv_pick at ih ⊢
    rw [List.filterMap_cons, List.filterMap_cons, List.getElem?_map]
    cases ls[k]? with
    | none => exact ih
    | some q => exact congrArg (List.cons _) ih
/-- fewer locals, by their places -/
theorem mW.sub {ls1 : List (Nat × Value)} (ks : List Nat) (h1 : lv_pick ls ks = ls1) (h : mW G l d μ pc ls1 st σ Q) : mW G l d μ pc ls st σ Q := by
  subst h1
  intro p e s m args below meth c H locs cells slots lsr Z R hR hF hP hS hl hQ
  exact h p e s m args below meth c H locs cells slots lsr Z R hR hF hP hS (lv_sub hl ks (lv_pick_map ls ks)) hQ

theorem m_iadd {x y : Int32} (hd : decode μ.2.1 pc = .ok (.iadd, 1))  (k : mW G l d μ (pc + 1) ls (.int (x + y) :: st) σ Q) : mW G l d μ pc ls (.int y :: .int x :: st) σ Q :=
  fun p e s m args below meth c H locs cells slots lsr Z R hR hF hP hS hl hQ => lv_iadd hF.1 hF.2.1 hd  (k p e s m args below meth c H locs cells slots lsr Z R hR hF hP hS hl hQ)
theorem m_isub {x y : Int32} (hd : decode μ.2.1 pc = .ok (.isub, 1))  (k : mW G l d μ (pc + 1) ls (.int (x - y) :: st) σ Q) : mW G l d μ pc ls (.int y :: .int x :: st) σ Q :=
  fun p e s m args below meth c H locs cells slots lsr Z R hR hF hP hS hl hQ => lv_isub hF.1 hF.2.1 hd  (k p e s m args below meth c H locs cells slots lsr Z R hR hF hP hS hl hQ)
theorem m_imul {x y : Int32} (hd : decode μ.2.1 pc = .ok (.imul, 1))  (k : mW G l d μ (pc + 1) ls (.int (x * y) :: st) σ Q) : mW G l d μ pc ls (.int y :: .int x :: st) σ Q :=
  fun p e s m args below meth c H locs cells slots lsr Z R hR hF hP hS hl hQ => lv_imul hF.1 hF.2.1 hd  (k p e s m args below meth c H locs cells slots lsr Z R hR hF hP hS hl hQ)
theorem m_iand {x y : Int32} (hd : decode μ.2.1 pc = .ok (.iand, 1))  (k : mW G l d μ (pc + 1) ls (.int (x &&& y) :: st) σ Q) : mW G l d μ pc ls (.int y :: .int x :: st) σ Q :=
  fun p e s m args below meth c H locs cells slots lsr Z R hR hF hP hS hl hQ => lv_iand hF.1 hF.2.1 hd  (k p e s m args below meth c H locs cells slots lsr Z R hR hF hP hS hl hQ)
theorem m_ior {x y : Int32} (hd : decode μ.2.1 pc = .ok (.ior, 1))  (k : mW G l d μ (pc + 1) ls (.int (x ||| y) :: st) σ Q) : mW G l d μ pc ls (.int y :: .int x :: st) σ Q :=
  fun p e s m args below meth c H locs cells slots lsr Z R hR hF hP hS hl hQ => lv_ior hF.1 hF.2.1 hd  (k p e s m args below meth c H locs cells slots lsr Z R hR hF hP hS hl hQ)
theorem m_ixor {x y : Int32} (hd : decode μ.2.1 pc = .ok (.ixor, 1))  (k : mW G l d μ (pc + 1) ls (.int (x ^^^ y) :: st) σ Q) : mW G l d μ pc ls (.int y :: .int x :: st) σ Q :=
  fun p e s m args below meth c H locs cells slots lsr Z R hR hF hP hS hl hQ => lv_ixor hF.1 hF.2.1 hd  (k p e s m args below meth c H locs cells slots lsr Z R hR hF hP hS hl hQ)
theorem m_ishl {x y : Int32} (hd : decode μ.2.1 pc = .ok (.ishl, 1))  (k : mW G l d μ (pc + 1) ls (.int (x <<< (y &&& 31)) :: st) σ Q) : mW G l d μ pc ls (.int y :: .int x :: st) σ Q :=
  fun p e s m args below meth c H locs cells slots lsr Z R hR hF hP hS hl hQ => lv_ishl hF.1 hF.2.1 hd  (k p e s m args below meth c H locs cells slots lsr Z R hR hF hP hS hl hQ)
theorem m_ishr {x y : Int32} (hd : decode μ.2.1 pc = .ok (.ishr, 1))  (k : mW G l d μ (pc + 1) ls (.int (x >>> (y &&& 31)) :: st) σ Q) : mW G l d μ pc ls (.int y :: .int x :: st) σ Q :=
  fun p e s m args below meth c H locs cells slots lsr Z R hR hF hP hS hl hQ => lv_ishr hF.1 hF.2.1 hd  (k p e s m args below meth c H locs cells slots lsr Z R hR hF hP hS hl hQ)
theorem m_iushr {x y v : Int32} (hd : decode μ.2.1 pc = .ok (.iushr, 1)) (hv : (x.toUInt32 >>> (y.toUInt32 &&& Int32.toUInt32 31)).toInt32 = v) (k : mW G l d μ (pc + 1) ls (.int v :: st) σ Q) : mW G l d μ pc ls (.int y :: .int x :: st) σ Q :=
  fun p e s m args below meth c H locs cells slots lsr Z R hR hF hP hS hl hQ => lv_iushr hF.1 hF.2.1 hd hv (k p e s m args below meth c H locs cells slots lsr Z R hR hF hP hS hl hQ)
theorem m_idiv {x y : Int32} (hd : decode μ.2.1 pc = .ok (.idiv, 1)) (hne : ¬ y = 0) (k : mW G l d μ (pc + 1) ls (.int (x / y) :: st) σ Q) : mW G l d μ pc ls (.int y :: .int x :: st) σ Q :=
  fun p e s m args below meth c H locs cells slots lsr Z R hR hF hP hS hl hQ => lv_idiv hF.1 hF.2.1 hd hne (k p e s m args below meth c H locs cells slots lsr Z R hR hF hP hS hl hQ)
theorem m_irem {x y : Int32} (hd : decode μ.2.1 pc = .ok (.irem, 1)) (hne : ¬ y = 0) (k : mW G l d μ (pc + 1) ls (.int (x - x / y * y) :: st) σ Q) : mW G l d μ pc ls (.int y :: .int x :: st) σ Q :=
  fun p e s m args below meth c H locs cells slots lsr Z R hR hF hP hS hl hQ => lv_irem hF.1 hF.2.1 hd hne (k p e s m args below meth c H locs cells slots lsr Z R hR hF hP hS hl hQ)
theorem m_ineg {x : Int32} (hd : decode μ.2.1 pc = .ok (.ineg, 1))  (k : mW G l d μ (pc + 1) ls (.int (-x) :: st) σ Q) : mW G l d μ pc ls (.int x :: st) σ Q :=
  fun p e s m args below meth c H locs cells slots lsr Z R hR hF hP hS hl hQ => lv_ineg hF.1 hF.2.1 hd  (k p e s m args below meth c H locs cells slots lsr Z R hR hF hP hS hl hQ)
theorem m_ladd {x y : Int64} (hd : decode μ.2.1 pc = .ok (.ladd, 1))  (k : mW G l d μ (pc + 1) ls (.long (x + y) :: st) σ Q) : mW G l d μ pc ls (.long y :: .long x :: st) σ Q :=
  fun p e s m args below meth c H locs cells slots lsr Z R hR hF hP hS hl hQ => lv_ladd hF.1 hF.2.1 hd  (k p e s m args below meth c H locs cells slots lsr Z R hR hF hP hS hl hQ)
theorem m_lsub {x y : Int64} (hd : decode μ.2.1 pc = .ok (.lsub, 1))  (k : mW G l d μ (pc + 1) ls (.long (x - y) :: st) σ Q) : mW G l d μ pc ls (.long y :: .long x :: st) σ Q :=
  fun p e s m args below meth c H locs cells slots lsr Z R hR hF hP hS hl hQ => lv_lsub hF.1 hF.2.1 hd  (k p e s m args below meth c H locs cells slots lsr Z R hR hF hP hS hl hQ)
theorem m_lmul {x y : Int64} (hd : decode μ.2.1 pc = .ok (.lmul, 1))  (k : mW G l d μ (pc + 1) ls (.long (x * y) :: st) σ Q) : mW G l d μ pc ls (.long y :: .long x :: st) σ Q :=
  fun p e s m args below meth c H locs cells slots lsr Z R hR hF hP hS hl hQ => lv_lmul hF.1 hF.2.1 hd  (k p e s m args below meth c H locs cells slots lsr Z R hR hF hP hS hl hQ)
theorem m_land {x y : Int64} (hd : decode μ.2.1 pc = .ok (.land, 1))  (k : mW G l d μ (pc + 1) ls (.long (x &&& y) :: st) σ Q) : mW G l d μ pc ls (.long y :: .long x :: st) σ Q :=
  fun p e s m args below meth c H locs cells slots lsr Z R hR hF hP hS hl hQ => lv_land hF.1 hF.2.1 hd  (k p e s m args below meth c H locs cells slots lsr Z R hR hF hP hS hl hQ)
theorem m_ldiv {x y : Int64} (hd : decode μ.2.1 pc = .ok (.ldiv, 1)) (hne : ¬ y = 0) (k : mW G l d μ (pc + 1) ls (.long (x / y) :: st) σ Q) : mW G l d μ pc ls (.long y :: .long x :: st) σ Q :=
  fun p e s m args below meth c H locs cells slots lsr Z R hR hF hP hS hl hQ => lv_ldiv hF.1 hF.2.1 hd hne (k p e s m args below meth c H locs cells slots lsr Z R hR hF hP hS hl hQ)
theorem m_lrem {x y : Int64} (hd : decode μ.2.1 pc = .ok (.lrem, 1)) (hne : ¬ y = 0) (k : mW G l d μ (pc + 1) ls (.long (x - x / y * y) :: st) σ Q) : mW G l d μ pc ls (.long y :: .long x :: st) σ Q :=
  fun p e s m args below meth c H locs cells slots lsr Z R hR hF hP hS hl hQ => lv_lrem hF.1 hF.2.1 hd hne (k p e s m args below meth c H locs cells slots lsr Z R hR hF hP hS hl hQ)
theorem m_lshl {x : Int64} {y : Int32} (hd : decode μ.2.1 pc = .ok (.lshl, 1))  (k : mW G l d μ (pc + 1) ls (.long (x <<< (y.toInt64 &&& 63)) :: st) σ Q) : mW G l d μ pc ls (.int y :: .long x :: st) σ Q :=
  fun p e s m args below meth c H locs cells slots lsr Z R hR hF hP hS hl hQ => lv_lshl hF.1 hF.2.1 hd rfl (k p e s m args below meth c H locs cells slots lsr Z R hR hF hP hS hl hQ)
theorem m_lcmp {x y : Int64} (hd : decode μ.2.1 pc = .ok (.lcmp, 1))  (k : mW G l d μ (pc + 1) ls (.int (lg_cmp x y) :: st) σ Q) : mW G l d μ pc ls (.long y :: .long x :: st) σ Q :=
  fun p e s m args below meth c H locs cells slots lsr Z R hR hF hP hS hl hQ => W.lcmp hF.1 hF.2.1 hd  (k p e s m args below meth c H locs cells slots lsr Z R hR hF hP hS hl hQ)
theorem m_i2l {x : Int32} (hd : decode μ.2.1 pc = .ok (.i2l, 1))  (k : mW G l d μ (pc + 1) ls (.long x.toInt64 :: st) σ Q) : mW G l d μ pc ls (.int x :: st) σ Q :=
  fun p e s m args below meth c H locs cells slots lsr Z R hR hF hP hS hl hQ => lv_i2l hF.1 hF.2.1 hd rfl (k p e s m args below meth c H locs cells slots lsr Z R hR hF hP hS hl hQ)
theorem m_i2b {x : Int32} (hd : decode μ.2.1 pc = .ok (.i2b, 1))  (k : mW G l d μ (pc + 1) ls (.int x.toInt8.toInt32 :: st) σ Q) : mW G l d μ pc ls (.int x :: st) σ Q :=
  fun p e s m args below meth c H locs cells slots lsr Z R hR hF hP hS hl hQ => lv_i2b hF.1 hF.2.1 hd rfl (k p e s m args below meth c H locs cells slots lsr Z R hR hF hP hS hl hQ)
theorem m_i2s {x : Int32} (hd : decode μ.2.1 pc = .ok (.i2s, 1))  (k : mW G l d μ (pc + 1) ls (.int x.toInt16.toInt32 :: st) σ Q) : mW G l d μ pc ls (.int x :: st) σ Q :=
  fun p e s m args below meth c H locs cells slots lsr Z R hR hF hP hS hl hQ => lv_i2s hF.1 hF.2.1 hd rfl (k p e s m args below meth c H locs cells slots lsr Z R hR hF hP hS hl hQ)
theorem m_i2c {x : Int32} (hd : decode μ.2.1 pc = .ok (.i2c, 1))  (k : mW G l d μ (pc + 1) ls (.int (x.toUInt32 % 65536).toInt32 :: st) σ Q) : mW G l d μ pc ls (.int x :: st) σ Q :=
  fun p e s m args below meth c H locs cells slots lsr Z R hR hF hP hS hl hQ => lv_i2c hF.1 hF.2.1 hd rfl (k p e s m args below meth c H locs cells slots lsr Z R hR hF hP hS hl hQ)
theorem m_iconst {n : Int} {v : Int32} (hd : decode μ.2.1 pc = .ok (.iconst n, 1)) (hv : Int32.ofInt n = v) (k : mW G l d μ (pc + 1) ls (.int v :: st) σ Q) : mW G l d μ pc ls (st) σ Q :=
  fun p e s m args below meth c H locs cells slots lsr Z R hR hF hP hS hl hQ => lv_iconst hF.1 hF.2.1 hd hv (k p e s m args below meth c H locs cells slots lsr Z R hR hF hP hS hl hQ)
theorem m_bipush {n : Int} {v : Int32} (hd : decode μ.2.1 pc = .ok (.bipush n, 2)) (hv : (Int8.ofInt n).toInt32 = v) (k : mW G l d μ (pc + 2) ls (.int v :: st) σ Q) : mW G l d μ pc ls (st) σ Q :=
  fun p e s m args below meth c H locs cells slots lsr Z R hR hF hP hS hl hQ => lv_bipush hF.1 hF.2.1 hd hv (k p e s m args below meth c H locs cells slots lsr Z R hR hF hP hS hl hQ)
theorem m_sipush {n : Int} {v : Int32} (hd : decode μ.2.1 pc = .ok (.sipush n, 3)) (hv : (Int16.ofInt n).toInt32 = v) (k : mW G l d μ (pc + 3) ls (.int v :: st) σ Q) : mW G l d μ pc ls (st) σ Q :=
  fun p e s m args below meth c H locs cells slots lsr Z R hR hF hP hS hl hQ => lv_sipush hF.1 hF.2.1 hd hv (k p e s m args below meth c H locs cells slots lsr Z R hR hF hP hS hl hQ)
theorem m_lconst {n : Fin 2} {v : Int64} (hd : decode μ.2.1 pc = .ok (.lconst n, 1)) (hv : Int64.ofNat (n : Nat) = v) (k : mW G l d μ (pc + 1) ls (.long v :: st) σ Q) : mW G l d μ pc ls (st) σ Q :=
  fun p e s m args below meth c H locs cells slots lsr Z R hR hF hP hS hl hQ => lv_lconst hF.1 hF.2.1 hd hv (k p e s m args below meth c H locs cells slots lsr Z R hR hF hP hS hl hQ)
theorem m_dup {va : Value} (hd : decode μ.2.1 pc = .ok (.dup, 1)) (hc : va.category = 1) (k : mW G l d μ (pc + 1) ls (va :: va :: st) σ Q) : mW G l d μ pc ls (va :: st) σ Q :=
  fun p e s m args below meth c H locs cells slots lsr Z R hR hF hP hS hl hQ => lv_dup hF.1 hF.2.1 hd (mv_cat hc) (k p e s m args below meth c H locs cells slots lsr Z R hR hF hP hS hl hQ)
theorem m_pop {va : Value} (hd : decode μ.2.1 pc = .ok (.pop, 1)) (hc : va.category = 1) (k : mW G l d μ (pc + 1) ls (st) σ Q) : mW G l d μ pc ls (va :: st) σ Q :=
  fun p e s m args below meth c H locs cells slots lsr Z R hR hF hP hS hl hQ => lv_pop hF.1 hF.2.1 hd (mv_cat hc) (k p e s m args below meth c H locs cells slots lsr Z R hR hF hP hS hl hQ)
theorem m_dup2 {va vb : Value} (hd : decode μ.2.1 pc = .ok (.dup2, 1)) (hc : va.category = 1) (hb : vb.category = 1) (k : mW G l d μ (pc + 1) ls (va :: vb :: va :: vb :: st) σ Q) : mW G l d μ pc ls (va :: vb :: st) σ Q :=
  fun p e s m args below meth c H locs cells slots lsr Z R hR hF hP hS hl hQ => lv_dup2_11 hF.1 hF.2.1 hd (mv_cat hc) (mv_cat hb) (k p e s m args below meth c H locs cells slots lsr Z R hR hF hP hS hl hQ)
theorem m_iload {i : Nat} {x : Int32} (hd : decode μ.2.1 pc = .ok (.iload i, 2)) (j : Nat) (hj : ls[j]? = some (i, .int x)) (k : mW G l d μ (pc + 2) ls (.int x :: st) σ Q) : mW G l d μ pc ls st σ Q :=
  fun p e s m args below meth c H locs cells slots lsr Z R hR hF hP hS hl hQ => lv_iload hF.1 hF.2.1 hd (lv_at hl j (mlv_at hj)) (k p e s m args below meth c H locs cells slots lsr Z R hR hF hP hS hl hQ)
theorem m_iload_n {i : Fin 4} {x : Int32} (hd : decode μ.2.1 pc = .ok (.iload_n i, 1)) (j : Nat) (hj : ls[j]? = some ((i : Nat), .int x)) (k : mW G l d μ (pc + 1) ls (.int x :: st) σ Q) : mW G l d μ pc ls st σ Q :=
  fun p e s m args below meth c H locs cells slots lsr Z R hR hF hP hS hl hQ => lv_iload_n hF.1 hF.2.1 hd rfl (lv_at hl j (mlv_at hj)) (k p e s m args below meth c H locs cells slots lsr Z R hR hF hP hS hl hQ)
theorem m_lload {i : Nat} {x : Int64} (hd : decode μ.2.1 pc = .ok (.lload i, 2)) (j : Nat) (hj : ls[j]? = some (i, .long x)) (k : mW G l d μ (pc + 2) ls (.long x :: st) σ Q) : mW G l d μ pc ls st σ Q :=
  fun p e s m args below meth c H locs cells slots lsr Z R hR hF hP hS hl hQ => lv_lload hF.1 hF.2.1 hd (lv_at hl j (mlv_at hj)) (k p e s m args below meth c H locs cells slots lsr Z R hR hF hP hS hl hQ)
theorem m_lload_n {i : Fin 4} {x : Int64} (hd : decode μ.2.1 pc = .ok (.lload_n i, 1)) (j : Nat) (hj : ls[j]? = some ((i : Nat), .long x)) (k : mW G l d μ (pc + 1) ls (.long x :: st) σ Q) : mW G l d μ pc ls st σ Q :=
  fun p e s m args below meth c H locs cells slots lsr Z R hR hF hP hS hl hQ => lv_lload_n hF.1 hF.2.1 hd rfl (lv_at hl j (mlv_at hj)) (k p e s m args below meth c H locs cells slots lsr Z R hR hF hP hS hl hQ)
theorem m_aload {i : Nat} {x : Nat} (hd : decode μ.2.1 pc = .ok (.aload i, 2)) (j : Nat) (hj : ls[j]? = some (i, .ref x)) (k : mW G l d μ (pc + 2) ls (.ref x :: st) σ Q) : mW G l d μ pc ls st σ Q :=
  fun p e s m args below meth c H locs cells slots lsr Z R hR hF hP hS hl hQ => lv_aload hF.1 hF.2.1 hd (lv_at hl j (mlv_at hj)) (k p e s m args below meth c H locs cells slots lsr Z R hR hF hP hS hl hQ)
theorem m_aload_n {i : Fin 4} {x : Nat} (hd : decode μ.2.1 pc = .ok (.aload_n i, 1)) (j : Nat) (hj : ls[j]? = some ((i : Nat), .ref x)) (k : mW G l d μ (pc + 1) ls (.ref x :: st) σ Q) : mW G l d μ pc ls st σ Q :=
  fun p e s m args below meth c H locs cells slots lsr Z R hR hF hP hS hl hQ => lv_aload_n hF.1 hF.2.1 hd rfl (lv_at hl j (mlv_at hj)) (k p e s m args below meth c H locs cells slots lsr Z R hR hF hP hS hl hQ)
theorem m_istore {i : Nat} {x : Int32} {ls1 : List (Nat × Value)} (hd : decode μ.2.1 pc = .ok (.istore i, 2)) (hn : i < μ.2.2.1) (h1 : mst1 i (.int x) ls = ls1) (k : mW G l d μ (pc + 2) ls1 st σ Q) : mW G l d μ pc ls (.int x :: st) σ Q := by
  subst h1
  exact fun p e s m args below meth c H locs cells slots lsr Z R hR hF hP hS hl hQ => lv_istore hF.1 hF.2.1 hd  hl hn (mst1_map (G := G) i (.int x) ls) (fun ls2 hl2 => k p e s m args below meth c H locs cells slots ls2 Z R hR hF hP hS hl2 hQ)
theorem m_istore_n {i : Fin 4} {x : Int32} {ls1 : List (Nat × Value)} (hd : decode μ.2.1 pc = .ok (.istore_n i, 1)) (hn : (i : Nat) < μ.2.2.1) (h1 : mst1 (i : Nat) (.int x) ls = ls1) (k : mW G l d μ (pc + 1) ls1 st σ Q) : mW G l d μ pc ls (.int x :: st) σ Q := by
  subst h1
  exact fun p e s m args below meth c H locs cells slots lsr Z R hR hF hP hS hl hQ => lv_istore_n hF.1 hF.2.1 hd rfl hl hn (mst1_map (G := G) (i : Nat) (.int x) ls) (fun ls2 hl2 => k p e s m args below meth c H locs cells slots ls2 Z R hR hF hP hS hl2 hQ)
theorem m_lstore {i : Nat} {x : Int64} {ls1 : List (Nat × Value)} (hd : decode μ.2.1 pc = .ok (.lstore i, 2)) (hn : i + 1 < μ.2.2.1) (h1 : mst2 i (.long x) ls = ls1) (k : mW G l d μ (pc + 2) ls1 st σ Q) : mW G l d μ pc ls (.long x :: st) σ Q := by
  subst h1
  exact fun p e s m args below meth c H locs cells slots lsr Z R hR hF hP hS hl hQ => lv_lstore hF.1 hF.2.1 hd  hl hn (mst2_map (G := G) i (.long x) ls) (fun ls2 hl2 => k p e s m args below meth c H locs cells slots ls2 Z R hR hF hP hS hl2 hQ)
theorem m_lstore_n {i : Fin 4} {x : Int64} {ls1 : List (Nat × Value)} (hd : decode μ.2.1 pc = .ok (.lstore_n i, 1)) (hn : (i : Nat) + 1 < μ.2.2.1) (h1 : mst2 (i : Nat) (.long x) ls = ls1) (k : mW G l d μ (pc + 1) ls1 st σ Q) : mW G l d μ pc ls (.long x :: st) σ Q := by
  subst h1
  exact fun p e s m args below meth c H locs cells slots lsr Z R hR hF hP hS hl hQ => lv_lstore_n hF.1 hF.2.1 hd rfl hl hn (mst2_map (G := G) (i : Nat) (.long x) ls) (fun ls2 hl2 => k p e s m args below meth c H locs cells slots ls2 Z R hR hF hP hS hl2 hQ)
theorem m_astore {i : Nat} {x : Nat} {ls1 : List (Nat × Value)} (hd : decode μ.2.1 pc = .ok (.astore i, 2)) (hn : i < μ.2.2.1) (h1 : mst1 i (.ref x) ls = ls1) (k : mW G l d μ (pc + 2) ls1 st σ Q) : mW G l d μ pc ls (.ref x :: st) σ Q := by
  subst h1
  exact fun p e s m args below meth c H locs cells slots lsr Z R hR hF hP hS hl hQ => lv_astore hF.1 hF.2.1 hd  hl hn (mst1_map (G := G) i (.ref x) ls) (fun ls2 hl2 => k p e s m args below meth c H locs cells slots ls2 Z R hR hF hP hS hl2 hQ)
theorem m_astore_n {i : Fin 4} {x : Nat} {ls1 : List (Nat × Value)} (hd : decode μ.2.1 pc = .ok (.astore_n i, 1)) (hn : (i : Nat) < μ.2.2.1) (h1 : mst1 (i : Nat) (.ref x) ls = ls1) (k : mW G l d μ (pc + 1) ls1 st σ Q) : mW G l d μ pc ls (.ref x :: st) σ Q := by
  subst h1
  exact fun p e s m args below meth c H locs cells slots lsr Z R hR hF hP hS hl hQ => lv_astore_n hF.1 hF.2.1 hd rfl hl hn (mst1_map (G := G) (i : Nat) (.ref x) ls) (fun ls2 hl2 => k p e s m args below meth c H locs cells slots ls2 Z R hR hF hP hS hl2 hQ)
theorem m_iinc {i : Nat} {n : Int} {x v : Int32} {ls1 : List (Nat × Value)} (hd : decode μ.2.1 pc = .ok (.iinc i n, 3)) (j : Nat) (hj : ls[j]? = some (i, .int x)) (hv : x + Int32.ofInt n = v) (hn : i < μ.2.2.1) (h1 : mst1 i (.int v) ls = ls1) (k : mW G l d μ (pc + 3) ls1 st σ Q) : mW G l d μ pc ls st σ Q := by
  subst h1
  exact fun p e s m args below meth c H locs cells slots lsr Z R hR hF hP hS hl hQ => lv_iinc hF.1 hF.2.1 hd hl (mlv_at hj) hv hn (mst1_map (G := G) i (.int v) ls) (fun ls2 hl2 => k p e s m args below meth c H locs cells slots ls2 Z R hR hF hP hS hl2 hQ)
theorem m_icmp_eq {x y : Int32} {off : Int} (hd : decode μ.2.1 pc = .ok (.if_icmp .eq off, 3)) (tgt : Nat) (ht : (pc : Int) + off = (tgt : Int)) (kt : x = y → mW G l d μ tgt ls st σ Q) (kf : ¬ (x = y) → mW G l d μ (pc + 3) ls st σ Q) : mW G l d μ pc ls (.int y :: .int x :: st) σ Q :=
  fun p e s m args below meth c H locs cells slots lsr Z R hR hF hP hS hl hQ => lv_icmp_eq hF.1 hF.2.1 hd ht (fun h => kt h p e s m args below meth c H locs cells slots lsr Z R hR hF hP hS hl hQ) (fun h => kf h p e s m args below meth c H locs cells slots lsr Z R hR hF hP hS hl hQ)
theorem m_if_eq {x : Int32} {off : Int} (hd : decode μ.2.1 pc = .ok (.ifCond .eq off, 3)) (tgt : Nat) (ht : (pc : Int) + off = (tgt : Int)) (kt : x = 0 → mW G l d μ tgt ls st σ Q) (kf : ¬ (x = 0) → mW G l d μ (pc + 3) ls st σ Q) : mW G l d μ pc ls (.int x :: st) σ Q :=
  fun p e s m args below meth c H locs cells slots lsr Z R hR hF hP hS hl hQ => lv_if_eq hF.1 hF.2.1 hd ht (fun h => kt h p e s m args below meth c H locs cells slots lsr Z R hR hF hP hS hl hQ) (fun h => kf h p e s m args below meth c H locs cells slots lsr Z R hR hF hP hS hl hQ)
theorem m_icmp_ne {x y : Int32} {off : Int} (hd : decode μ.2.1 pc = .ok (.if_icmp .ne off, 3)) (tgt : Nat) (ht : (pc : Int) + off = (tgt : Int)) (kt : x ≠ y → mW G l d μ tgt ls st σ Q) (kf : x = y → mW G l d μ (pc + 3) ls st σ Q) : mW G l d μ pc ls (.int y :: .int x :: st) σ Q :=
  fun p e s m args below meth c H locs cells slots lsr Z R hR hF hP hS hl hQ => lv_icmp_ne hF.1 hF.2.1 hd ht (fun h => kt h p e s m args below meth c H locs cells slots lsr Z R hR hF hP hS hl hQ) (fun h => kf h p e s m args below meth c H locs cells slots lsr Z R hR hF hP hS hl hQ)
theorem m_if_ne {x : Int32} {off : Int} (hd : decode μ.2.1 pc = .ok (.ifCond .ne off, 3)) (tgt : Nat) (ht : (pc : Int) + off = (tgt : Int)) (kt : x ≠ 0 → mW G l d μ tgt ls st σ Q) (kf : x = 0 → mW G l d μ (pc + 3) ls st σ Q) : mW G l d μ pc ls (.int x :: st) σ Q :=
  fun p e s m args below meth c H locs cells slots lsr Z R hR hF hP hS hl hQ => lv_if_ne hF.1 hF.2.1 hd ht (fun h => kt h p e s m args below meth c H locs cells slots lsr Z R hR hF hP hS hl hQ) (fun h => kf h p e s m args below meth c H locs cells slots lsr Z R hR hF hP hS hl hQ)
theorem m_icmp_lt {x y : Int32} {off : Int} (hd : decode μ.2.1 pc = .ok (.if_icmp .lt off, 3)) (tgt : Nat) (ht : (pc : Int) + off = (tgt : Int)) (kt : x < y → mW G l d μ tgt ls st σ Q) (kf : ¬ (x < y) → mW G l d μ (pc + 3) ls st σ Q) : mW G l d μ pc ls (.int y :: .int x :: st) σ Q :=
  fun p e s m args below meth c H locs cells slots lsr Z R hR hF hP hS hl hQ => lv_icmp_lt hF.1 hF.2.1 hd ht (fun h => kt h p e s m args below meth c H locs cells slots lsr Z R hR hF hP hS hl hQ) (fun h => kf h p e s m args below meth c H locs cells slots lsr Z R hR hF hP hS hl hQ)
theorem m_if_lt {x : Int32} {off : Int} (hd : decode μ.2.1 pc = .ok (.ifCond .lt off, 3)) (tgt : Nat) (ht : (pc : Int) + off = (tgt : Int)) (kt : x < 0 → mW G l d μ tgt ls st σ Q) (kf : ¬ (x < 0) → mW G l d μ (pc + 3) ls st σ Q) : mW G l d μ pc ls (.int x :: st) σ Q :=
  fun p e s m args below meth c H locs cells slots lsr Z R hR hF hP hS hl hQ => lv_if_lt hF.1 hF.2.1 hd ht (fun h => kt h p e s m args below meth c H locs cells slots lsr Z R hR hF hP hS hl hQ) (fun h => kf h p e s m args below meth c H locs cells slots lsr Z R hR hF hP hS hl hQ)
theorem m_icmp_ge {x y : Int32} {off : Int} (hd : decode μ.2.1 pc = .ok (.if_icmp .ge off, 3)) (tgt : Nat) (ht : (pc : Int) + off = (tgt : Int)) (kt : y ≤ x → mW G l d μ tgt ls st σ Q) (kf : ¬ (y ≤ x) → mW G l d μ (pc + 3) ls st σ Q) : mW G l d μ pc ls (.int y :: .int x :: st) σ Q :=
  fun p e s m args below meth c H locs cells slots lsr Z R hR hF hP hS hl hQ => lv_icmp_ge hF.1 hF.2.1 hd ht (fun h => kt h p e s m args below meth c H locs cells slots lsr Z R hR hF hP hS hl hQ) (fun h => kf h p e s m args below meth c H locs cells slots lsr Z R hR hF hP hS hl hQ)
theorem m_if_ge {x : Int32} {off : Int} (hd : decode μ.2.1 pc = .ok (.ifCond .ge off, 3)) (tgt : Nat) (ht : (pc : Int) + off = (tgt : Int)) (kt : 0 ≤ x → mW G l d μ tgt ls st σ Q) (kf : ¬ (0 ≤ x) → mW G l d μ (pc + 3) ls st σ Q) : mW G l d μ pc ls (.int x :: st) σ Q :=
  fun p e s m args below meth c H locs cells slots lsr Z R hR hF hP hS hl hQ => lv_if_ge hF.1 hF.2.1 hd ht (fun h => kt h p e s m args below meth c H locs cells slots lsr Z R hR hF hP hS hl hQ) (fun h => kf h p e s m args below meth c H locs cells slots lsr Z R hR hF hP hS hl hQ)
theorem m_icmp_gt {x y : Int32} {off : Int} (hd : decode μ.2.1 pc = .ok (.if_icmp .gt off, 3)) (tgt : Nat) (ht : (pc : Int) + off = (tgt : Int)) (kt : y < x → mW G l d μ tgt ls st σ Q) (kf : ¬ (y < x) → mW G l d μ (pc + 3) ls st σ Q) : mW G l d μ pc ls (.int y :: .int x :: st) σ Q :=
  fun p e s m args below meth c H locs cells slots lsr Z R hR hF hP hS hl hQ => lv_icmp_gt hF.1 hF.2.1 hd ht (fun h => kt h p e s m args below meth c H locs cells slots lsr Z R hR hF hP hS hl hQ) (fun h => kf h p e s m args below meth c H locs cells slots lsr Z R hR hF hP hS hl hQ)
theorem m_if_gt {x : Int32} {off : Int} (hd : decode μ.2.1 pc = .ok (.ifCond .gt off, 3)) (tgt : Nat) (ht : (pc : Int) + off = (tgt : Int)) (kt : 0 < x → mW G l d μ tgt ls st σ Q) (kf : ¬ (0 < x) → mW G l d μ (pc + 3) ls st σ Q) : mW G l d μ pc ls (.int x :: st) σ Q :=
  fun p e s m args below meth c H locs cells slots lsr Z R hR hF hP hS hl hQ => lv_if_gt hF.1 hF.2.1 hd ht (fun h => kt h p e s m args below meth c H locs cells slots lsr Z R hR hF hP hS hl hQ) (fun h => kf h p e s m args below meth c H locs cells slots lsr Z R hR hF hP hS hl hQ)
theorem m_icmp_le {x y : Int32} {off : Int} (hd : decode μ.2.1 pc = .ok (.if_icmp .le off, 3)) (tgt : Nat) (ht : (pc : Int) + off = (tgt : Int)) (kt : x ≤ y → mW G l d μ tgt ls st σ Q) (kf : ¬ (x ≤ y) → mW G l d μ (pc + 3) ls st σ Q) : mW G l d μ pc ls (.int y :: .int x :: st) σ Q :=
  fun p e s m args below meth c H locs cells slots lsr Z R hR hF hP hS hl hQ => lv_icmp_le hF.1 hF.2.1 hd ht (fun h => kt h p e s m args below meth c H locs cells slots lsr Z R hR hF hP hS hl hQ) (fun h => kf h p e s m args below meth c H locs cells slots lsr Z R hR hF hP hS hl hQ)
theorem m_if_le {x : Int32} {off : Int} (hd : decode μ.2.1 pc = .ok (.ifCond .le off, 3)) (tgt : Nat) (ht : (pc : Int) + off = (tgt : Int)) (kt : x ≤ 0 → mW G l d μ tgt ls st σ Q) (kf : ¬ (x ≤ 0) → mW G l d μ (pc + 3) ls st σ Q) : mW G l d μ pc ls (.int x :: st) σ Q :=
  fun p e s m args below meth c H locs cells slots lsr Z R hR hF hP hS hl hQ => lv_if_le hF.1 hF.2.1 hd ht (fun h => kt h p e s m args below meth c H locs cells slots lsr Z R hR hF hP hS hl hQ) (fun h => kf h p e s m args below meth c H locs cells slots lsr Z R hR hF hP hS hl hQ)
theorem m_goto {off : Int} (hd : decode μ.2.1 pc = .ok (.goto off, 3)) (tgt : Nat) (ht : (pc : Int) + off = (tgt : Int)) (k : mW G l d μ tgt ls st σ Q) : mW G l d μ pc ls st σ Q :=
  fun p e s m args below meth c H locs cells slots lsr Z R hR hF hP hS hl hQ => lv_goto hF.1 hF.2.1 hd ht (k p e s m args below meth c H locs cells slots lsr Z R hR hF hP hS hl hQ)
-- ===== the heap =====
theorem mshp_small : ∀ q ∈ mshpL, q.2 ≤ 256 := by decide +kernel
theorem mshp_len {x t n : Nat} (h : mshp x = (t, n)) : n ≤ 256 := by
  have h1 : (mshpL.getD x (99, 0)).2 = n := congrArg Prod.snd h
  rw [← h1, List.getD_eq_getElem?_getD]
  cases hq : mshpL[x]? with
  | none => exact Nat.zero_le _
  | some q => exact mshp_small q (List.mem_of_getElem? hq)
theorem mshp_tag : ∀ q ∈ mshpL, q.1 ≤ 13 := by decide +kernel
theorem mE_i {x n : Nat} (h : mshp x = (11, n)) : mE G σ x = .inl (G.2.1 0, n, .inl (σ.1 x)) := by unfold mE; rw [h]; rfl
theorem mE_z {x n : Nat} (h : mshp x = (12, n)) : mE G σ x = .inl (G.2.1 2, n, .inl (σ.1 x)) := by unfold mE; rw [h]; rfl
theorem mE_g {x n : Nat} (h : mshp x = (13, n)) : mE G σ x = .inl (G.2.1 1, n, .inr (.inr (.inr (.inr (fun j => some (G.2.2.2.1 (x + 1 + j))))))) := by unfold mE; rw [h]; rfl
theorem mE_o {x ci n : Nat} (h : mshp x = (ci, n)) (hc : ci ≤ 10) : mE G σ x = .inr (ci, (List.range n).map (mfv G σ ci x)) := by
  unfold mE
  rw [h]
  rcases (show ci = 0 ∨ ci = 1 ∨ ci = 2 ∨ ci = 3 ∨ ci = 4 ∨ ci = 5 ∨ ci = 6 ∨ ci = 7 ∨ ci = 8 ∨ ci = 9 ∨ ci = 10 by omega) with rfl | rfl | rfl | rfl | rfl | rfl | rfl | rfl | rfl | rfl | rfl <;> rfl
/-- the store with one number changed -/
def us (σ : mS) (x j : Nat) (v : Int32) : mS := (fun y => if y = x then upd (σ.1 x) j v else σ.1 y, σ.2)
theorem us_ne {x y j : Nat} {v : Int32} (h : y ≠ x) : (us σ x j v).1 y = σ.1 y := if_neg h
theorem us_eq {x j : Nat} {v : Int32} : (us σ x j v).1 x = upd (σ.1 x) j v := if_pos rfl
theorem mE_ne {σ1 : mS} {y : Nat} (h : σ1.1 y = σ.1 y) (h2 : σ1.2 = σ.2) : mE G σ1 y = mE G σ y := by
  have e : mfv G σ1 (mshp y).1 y = mfv G σ (mshp y).1 y := by
    funext k
    unfold mfv
    rw [h, h2]
  unfold mE
  rw [h]
  split <;> first | rfl | (rw [e])
theorem mws_set {σ1 : mS} {x : Nat} {ee : va_E} (hx : x < mNA) (h1 : mE G σ1 x = ee) (h2 : ∀ y, y ≠ x → mE G σ1 y = mE G σ y) : (mws G σ).set x (G.2.2.2.1 x, ee) = mws G σ1 := by
  apply List.ext_getElem?
  intro y
  by_cases hy : y = x
  · subst hy
    rw [List.getElem?_set_self (by unfold mws; rw [List.length_map, List.length_range]; exact hx), mws_at hx, h1]
  · rw [List.getElem?_set_ne (fun h => hy h.symm)]
    by_cases hl : y < mNA
    · rw [mws_at hl, mws_at hl, h2 y hy]
    · rw [List.getElem?_eq_none (by unfold mws; rw [List.length_map, List.length_range]; omega), List.getElem?_eq_none (by unfold mws; rw [List.length_map, List.length_range]; omega)]
theorem mws_D {s : State} (h : mEnv G s) : va_D G.2.2.1 (mws G σ) := by
  have hlen : (mws G σ).length = mNA := by unfold mws; rw [List.length_map, List.length_range]
  refine ⟨fun i j p q hi hj e => ?_, fun k q hk => ?_⟩
  · have li : i < mNA := by rw [← hlen]; exact (List.getElem?_eq_some_iff.mp hi).1
    have lj : j < mNA := by rw [← hlen]; exact (List.getElem?_eq_some_iff.mp hj).1
    rw [mws_at li] at hi
    rw [mws_at lj] at hj
    cases hi; cases hj
    exact h.2.2.2.1 i j li lj e
  · have lk : k < mNA := by rw [← hlen]; exact (List.getElem?_eq_some_iff.mp hk).1
    rw [mws_at lk] at hk
    cases hk
    exact h.2.2.2.2 k lk
theorem m_env {p : Program} {s : State} {m : MethodId} {args : Array Value} {meth : Method} {c : Code} (hF : mFix G μ p s m args meth c) : mEnv G s := hF.2.2.2.2.2.2.2
theorem m_ix {j n : Nat} (hj : j < n) (hn : n ≤ 256) : vp_in (nI j) n ∧ (nI j).toNatClampNeg = j := ⟨vp_in_nI hj (Nat.lt_of_le_of_lt hn (by decide)), nI_clamp (Nat.lt_of_lt_of_le hj (Nat.le_trans hn (by decide)))⟩
theorem m_iald {x n : Nat} {i : Int32} (hd : decode μ.2.1 pc = .ok (.iaload, 1)) (hx : mshp x = (11, n)) (j : Nat) (hi : i = nI j) (hj : j < n) (k : mW G l d μ (pc + 1) ls (.int (σ.1 x j) :: st) σ Q) : mW G l d μ pc ls (.int i :: .ref x :: st) σ Q := by
  subst hi
  intro p e s m args below meth c H locs cells slots lsr Z R hR hF hP hS hl hQ
  obtain ⟨h1, h2⟩ := m_ix hj (mshp_len hx)
  refine va_iald hF.1 hF.2.1 (m_env hF).1 hP x 0 (f := σ.1 x) (n := n) (cA := G.2.1 0) (by rw [mws_at (mshp_lt hx (by decide)), mE_i hx]) rfl h1 hd ?_
  rw [h2]
  exact k p e s m args below meth c H locs cells slots lsr Z R hR hF hP hS hl hQ
theorem m_iast {x n : Nat} {i v : Int32} (hd : decode μ.2.1 pc = .ok (.iastore, 1)) (hx : mshp x = (11, n)) (j : Nat) (hi : i = nI j) (hj : j < n) (k : mW G l d μ (pc + 1) ls st (us σ x j v) Q) : mW G l d μ pc ls (.int v :: .int i :: .ref x :: st) σ Q := by
  subst hi
  intro p e s m args below meth c H locs cells slots lsr Z R hR hF hP hS hl hQ
  obtain ⟨h1, h2⟩ := m_ix hj (mshp_len hx)
  refine va_iast hF.1 hF.2.1 (m_env hF).1 hP (mws_D (m_env hF)) hS x 0 (f := σ.1 x) (n := n) (cA := G.2.1 0) (by rw [mws_at (mshp_lt hx (by decide)), mE_i hx]) rfl h1 hd (fun H1 locs1 hP1 _ hS1 => ?_)
  rw [h2, mws_set (σ1 := us σ x j v) (mshp_lt hx (by decide)) (by rw [mE_i hx, us_eq]) (fun y hy => mE_ne (us_ne hy) rfl)] at hP1
  exact k p e s m args below meth c H1 locs1 cells slots lsr Z R hR hF hP1 hS1 hl hQ
theorem m_zald {x n : Nat} {i : Int32} (hd : decode μ.2.1 pc = .ok (.baload, 1)) (hx : mshp x = (12, n)) (j : Nat) (hi : i = nI j) (hj : j < n) (k : mW G l d μ (pc + 1) ls (.int (σ.1 x j) :: st) σ Q) : mW G l d μ pc ls (.int i :: .ref x :: st) σ Q := by
  subst hi
  intro p e s m args below meth c H locs cells slots lsr Z R hR hF hP hS hl hQ
  obtain ⟨h1, h2⟩ := m_ix hj (mshp_len hx)
  refine va_zald hF.1 hF.2.1 (m_env hF).1 hP x 2 (f := σ.1 x) (n := n) (cA := G.2.1 2) (by rw [mws_at (mshp_lt hx (by decide)), mE_z hx]) rfl h1 hd ?_
  rw [h2]
  exact k p e s m args below meth c H locs cells slots lsr Z R hR hF hP hS hl hQ
theorem m_zast {x n : Nat} {i v : Int32} (hd : decode μ.2.1 pc = .ok (.bastore, 1)) (hx : mshp x = (12, n)) (j : Nat) (hi : i = nI j) (hj : j < n) (hv : vp_nar .boolean v = v) (k : mW G l d μ (pc + 1) ls st (us σ x j v) Q) : mW G l d μ pc ls (.int v :: .int i :: .ref x :: st) σ Q := by
  subst hi
  intro p e s m args below meth c H locs cells slots lsr Z R hR hF hP hS hl hQ
  obtain ⟨h1, h2⟩ := m_ix hj (mshp_len hx)
  refine va_zast hF.1 hF.2.1 (m_env hF).1 hP (mws_D (m_env hF)) hS x 2 (f := σ.1 x) (n := n) (cA := G.2.1 2) (by rw [mws_at (mshp_lt hx (by decide)), mE_z hx]) rfl h1 hd (fun H1 locs1 hP1 _ hS1 => ?_)
  rw [h2, hv, mws_set (σ1 := us σ x j v) (mshp_lt hx (by decide)) (by rw [mE_z hx, us_eq]) (fun y hy => mE_ne (us_ne hy) rfl)] at hP1
  exact k p e s m args below meth c H1 locs1 cells slots lsr Z R hR hF hP1 hS1 hl hQ
theorem m_aald {x n : Nat} {i : Int32} (hd : decode μ.2.1 pc = .ok (.aaload, 1)) (hx : mshp x = (13, n)) (j : Nat) (hi : i = nI j) (hj : j < n) (k : mW G l d μ (pc + 1) ls (.ref (x + 1 + j) :: st) σ Q) : mW G l d μ pc ls (.int i :: .ref x :: st) σ Q := by
  subst hi
  intro p e s m args below meth c H locs cells slots lsr Z R hR hF hP hS hl hQ
  obtain ⟨h1, h2⟩ := m_ix hj (mshp_len hx)
  have hlt : (nI j).toNatClampNeg < n := by rw [h2]; exact hj
  have ha : (mws G σ)[x]? = some (G.2.2.2.1 x, .inl (G.2.1 1, n, .inr (.inr (.inr (.inr (fun j => some (G.2.2.2.1 (x + 1 + j)))))))) := by rw [mws_at (mshp_lt hx (by decide)), mE_g hx]
  refine W.aald (v := va_rf ((fun j => some (G.2.2.2.1 (x + 1 + j))) (nI j).toNatClampNeg)) (ty := .array .int) hF.1 hF.2.1 (hP x _ ha) (((m_env hF).1.2 1 _ rfl).1 n (fun i => va_rf ((fun j => some (G.2.2.2.1 (x + 1 + j))) i))) rfl (fun q => by cases q) (by show ¬ (nI j < 0 ∨ (arrV _ _ _).slots.size ≤ _); rw [arrV_size]; exact h1) (by show (arrV _ _ _).slots[_]? = _; rw [arrV_read _ _ hlt]) rfl rfl hd ?_
  rw [h2]
  exact k p e s m args below meth c H locs cells slots lsr Z R hR hF hP hS hl hQ
theorem m_alen {x n : Nat} (hd : decode μ.2.1 pc = .ok (.arraylength, 1)) (hx : mshp x = (11, n)) (k : mW G l d μ (pc + 1) ls (.int (nI n) :: st) σ Q) : mW G l d μ pc ls (.ref x :: st) σ Q := by
  intro p e s m args below meth c H locs cells slots lsr Z R hR hF hP hS hl hQ
  refine va_alen hF.1 hF.2.1 (m_env hF).1 hP x 0 (cA := G.2.1 0) (x := (n, .inl (σ.1 x))) (by rw [mws_at (mshp_lt hx (by decide)), mE_i hx]) (ty := .int) rfl (v := nI n) rfl hd ?_
  exact k p e s m args below meth c H locs cells slots lsr Z R hR hF hP hS hl hQ
-- ===== fields =====
def mFT (ci : Nat) : Nat → FieldType := match ci with
  | 0 => tyX0
  | 1 => tyX1
  | 2 => tyX2
  | 3 => tyX3
  | 4 => tyX4
  | 5 => tyX5
  | 6 => tyX6
  | 7 => tyX7
  | 8 => tyX9
  | 9 => tyX10
  | _ => tyX11
/-- entry index of class own's pool is field k of class ci -/
def mFL (own : String) (index ci k : Nat) : Prop := ∃ (q : vw_C) (ref : String), vwCl[ci]? = some q ∧ k < q.2.2 ∧ (∀ w ∈ u_ws q.1 q.2.1 q.2.2, w ∈ mtbl) ∧ Cond.fieldLink own index ref (q.2.1 k).2.1 (q.2.1 k).2.2.1 ∈ mtbl ∧ (ref = (q.2.1 k).1 ∨ Cond.sameField ref (q.2.1 k).1 (q.2.1 k).2.1 (q.2.1 k).2.2.1 ∈ mtbl)
def mFW (own : String) (index ci k : Nat) : Prop := mFL own index ci k ∧ ∃ q : vw_C, vwCl[ci]? = some q ∧ (q.2.1 k).2.2.2 = false ∧ (∀ k, k < q.2.2 → parseFieldDescriptor (q.2.1 k).2.2.1 = some (mFT ci k)) ∧ ∀ a, a < q.2.2 → ∀ b, b < q.2.2 → a ≠ b → (q.2.1 a).2.1 ≠ (q.2.1 b).2.1
theorem m_same {args : Array Value} {s : State} {ref C n dd : String} (hts : ∀ w ∈ mtbl, w.before args s = true) (h : ref = C ∨ Cond.sameField ref C n dd ∈ mtbl) : ∀ x, s.fieldFound? C n dd = some x → s.fieldFound? ref n dd = some x := by
  rcases h with rfl | h
  · exact fun _ h => h
  · exact fun x hx => u_same (hts _ h) x hx
theorem mshp_N {x ci N : Nat} {q : vw_C} (hx : mshp x = (ci, N)) (hc : vwCl[ci]? = some q) : N = q.2.2 := by
  have h1 : ∀ r ∈ mshpL, ∀ q : vw_C, vwCl[r.1]? = some q → r.2 = q.2.2 := by
    intro r hr q hq
    have h2 : mshpL.all (fun r => decide ((vwCl[r.1]?).map (fun q : vw_C => q.2.2) = none ∨ (vwCl[r.1]?).map (fun q : vw_C => q.2.2) = some r.2)) = true := by decide +kernel
    have h3 := List.all_eq_true.mp h2 r hr
    rw [hq] at h3
    simp at h3
    exact h3.symm
  have hlt : x < mshpL.length := by
    by_cases h : x < mshpL.length
    · exact h
    · exfalso
      have e : mshp x = (99, 0) := by
        unfold mshp
        rw [List.getD_eq_getElem?_getD, List.getElem?_eq_none (Nat.le_of_not_lt h)]; rfl
      rw [e] at hx
      have e2 : (99 : Nat) = ci := congrArg Prod.fst hx
      rw [← e2] at hc
      have e3 : (vwCl[99]? : Option vw_C) = none := rfl
      rw [e3] at hc
      cases hc
  have hm : mshp x ∈ mshpL := by
    unfold mshp
    rw [List.getD_eq_getElem?_getD, List.getElem?_eq_getElem hlt]
    exact List.getElem_mem hlt
  have := h1 _ hm q (by rw [hx]; exact hc)
  rw [hx] at this
  exact this
theorem m_getF {x ci N k index : Nat} {v : Value} (hd : decode μ.2.1 pc = .ok (.getfield index, 3)) (hL : mFL μ.1.cls index ci k) (hx : mshp x = (ci, N)) (hc : ci ≤ 10) (hv : mfv G σ ci x k = mv G v) (kk : mW G l d μ (pc + 3) ls (v :: st) σ Q) : mW G l d μ pc ls (.ref x :: st) σ Q := by
  intro p e s m args below meth c H locs cells slots lsr Z R hR hF hP hS hl hQ
  obtain ⟨q, ref, h1, h2, h3, h4, h5⟩ := hL
  have hN := mshp_N hx h1
  have hts := hF.2.2.2.2.2.1
  refine va_get (ci := ci) (v := mv G v) (C := q.1) (T := q.2.1) (N := q.2.2) hF.1 hF.2.1 hts h3 hF.2.2.2.2.1 (m_env hF).1 hP x (fs := (List.range N).map (mfv G σ ci x)) (by rw [mws_at (mshp_lt hx (by omega)), mE_o hx hc]) h1 k h2 (hts _ h4) (m_same hts h5) ?_ hd ?_
  · rw [List.getElem?_map, List.getElem?_range (by rw [hN]; exact h2), ← hv]; rfl
  · exact kk p e s m args below meth c H locs cells slots lsr Z R hR hF hP hS hl hQ
theorem m_getI {x ci N index : Nat} (k : Nat) (hd : decode μ.2.1 pc = .ok (.getfield index, 3)) (hL : mFL μ.1.cls index ci k) (hk : mkd ci k = 0) (hc : ci ≤ 10) (hx : mshp x = (ci, N)) (kk : mW G l d μ (pc + 3) ls (.int (σ.1 x k) :: st) σ Q) : mW G l d μ pc ls (.ref x :: st) σ Q :=
  m_getF hd hL hx hc (by unfold mfv; rw [hk]; rfl) kk
theorem m_getR {x ci N index : Nat} (k r : Nat) (hd : decode μ.2.1 pc = .ok (.getfield index, 3)) (hL : mFL μ.1.cls index ci k) (hk : mkd ci k = 1) (hc : ci ≤ 10) (hr : moff ci x k = r) (hx : mshp x = (ci, N)) (kk : mW G l d μ (pc + 3) ls (.ref r :: st) σ Q) : mW G l d μ pc ls (.ref x :: st) σ Q :=
  m_getF hd hL hx hc (by unfold mfv; rw [hk, hr]; rfl) kk
theorem m_getL {x ci N index : Nat} (k : Nat) (hd : decode μ.2.1 pc = .ok (.getfield index, 3)) (hL : mFL μ.1.cls index ci k) (hk : mkd ci k = 2) (hc : ci ≤ 10) (hx : mshp x = (ci, N)) (kk : mW G l d μ (pc + 3) ls (.long σ.2 :: st) σ Q) : mW G l d μ pc ls (.ref x :: st) σ Q :=
  m_getF hd hL hx hc (by unfold mfv; rw [hk]; rfl) kk
theorem mfv_us {x ci N k : Nat} {v : Int32} (hk : mkd ci k = 0) (hkN : k < N) : ((List.range N).map (mfv G σ ci x)).set k (.int v) = (List.range N).map (mfv G (us σ x k v) ci x) := by
  apply List.ext_getElem?
  intro i
  by_cases hi : i = k
  · subst hi
    rw [List.getElem?_set_self (by rw [List.length_map, List.length_range]; exact hkN), List.getElem?_map, List.getElem?_range hkN]
    show some (Value.int v) = some (mfv G (us σ x i v) ci x i)
    unfold mfv
    rw [hk, us_eq]
    show some (Value.int v) = some (Value.int (upd (σ.1 x) i v i))
    rw [pk_us]
  · rw [List.getElem?_set_ne (fun h => hi h.symm), List.getElem?_map, List.getElem?_map]
    by_cases hiN : i < N
    · rw [List.getElem?_range hiN]
      show some (mfv G σ ci x i) = some (mfv G (us σ x k v) ci x i)
      unfold mfv
      rw [us_eq, pk_un hi]
      rfl
    · rw [List.getElem?_eq_none (by rw [List.length_range]; omega)]
      rfl
theorem mhash_only : ∀ y, y < mNA → (mshp y).1 = 2 → y = 110 := by decide +kernel
theorem mE_hash {y : Nat} {v : Int64} (hy : y ≠ 110) : mE G (σ.1, v) y = mE G σ y := by
  by_cases h2 : (mshp y).1 = 2
  · by_cases hl : y < mNA
    · exact absurd (mhash_only y hl h2) hy
    · exfalso
      have e : mshp y = (99, 0) := by
        unfold mshp
        rw [List.getD_eq_getElem?_getD, List.getElem?_eq_none (by show mshpL.length ≤ y; exact Nat.le_of_not_lt hl)]
        rfl
      rw [e] at h2
      exact absurd h2 (by decide)
  · have e : mfv G (σ.1, v) (mshp y).1 y = mfv G σ (mshp y).1 y := by
      funext k
      unfold mfv
      have h3 : mkd (mshp y).1 k = 0 ∨ mkd (mshp y).1 k = 1 := by
        unfold mkd
        split <;> first | exact Or.inr rfl | exact Or.inl rfl | (exfalso; exact h2 (by assumption))
      rcases h3 with h3 | h3 <;> (rw [h3]; rfl)
    unfold mE
    split <;> first | rfl | (rw [e])
theorem m_putI {x ci N index : Nat} {v : Int32} (k : Nat) (hd : decode μ.2.1 pc = .ok (.putfield index, 3)) (hL : mFW μ.1.cls index ci k) (hk : mkd ci k = 0) (hc : ci ≤ 10) (hn : narrow (mFT ci k) (.int v) = .int v) (hfit : fits (mFT ci k) (.int v) = true) (hx : mshp x = (ci, N)) (kk : mW G l d μ (pc + 3) ls st (us σ x k v) Q) : mW G l d μ pc ls (.int v :: .ref x :: st) σ Q := by
  intro p e s m args below meth c H locs cells slots lsr Z R hR hF hP hS hl hQ
  obtain ⟨⟨q, ref, h1, h2, h3, h4, h5⟩, q', h1', h6, h7, h8⟩ := hL
  cases h1.symm.trans h1'
  have hN := mshp_N hx h1
  have hts := hF.2.2.2.2.2.1
  refine va_put (ci := ci) (v := .int v) (ty := mFT ci k) (C := q.1) (T := q.2.1) (N := q.2.2) hF.1 hF.2.1 hts h3 (mFT ci) h7 h8 hF.2.2.2.2.1 (m_env hF).1 hP (mws_D (m_env hF)) hS x (fs := (List.range N).map (mfv G σ ci x)) (by rw [mws_at (mshp_lt hx (by omega)), mE_o hx hc]) h1 k h2 (hts _ h4) (m_same hts h5) h6 (h7 k h2) hn hfit (by rw [List.length_map, List.length_range, hN]; exact h2) hd (fun H1 locs1 hP1 _ hS1 => ?_)
  rw [mfv_us hk (by rw [hN]; exact h2), mws_set (σ1 := us σ x k v) (mshp_lt hx (by omega)) (mE_o hx hc) (fun y hy => mE_ne (us_ne hy) rfl)] at hP1
  exact kk p e s m args below meth c H1 locs1 cells slots lsr Z R hR hF hP1 hS1 hl hQ
/-- Hash.value: the one long of the store -/
theorem m_putL {index : Nat} {v : Int64} (hd : decode μ.2.1 pc = .ok (.putfield index, 3)) (hL : mFW μ.1.cls index 2 0) (kk : mW G l d μ (pc + 3) ls st (σ.1, v) Q) : mW G l d μ pc ls (.long v :: .ref 110 :: st) σ Q := by
  intro p e s m args below meth c H locs cells slots lsr Z R hR hF hP hS hl hQ
  obtain ⟨⟨q, ref, h1, h2, h3, h4, h5⟩, q', h1', h6, h7, h8⟩ := hL
  cases h1.symm.trans h1'
  have hx : mshp 110 = (2, 1) := rfl
  have hN := mshp_N hx h1
  have hts := hF.2.2.2.2.2.1
  refine va_put (ci := 2) (v := .long v) (ty := mFT 2 0) (C := q.1) (T := q.2.1) (N := q.2.2) hF.1 hF.2.1 hts h3 (mFT 2) h7 h8 hF.2.2.2.2.1 (m_env hF).1 hP (mws_D (m_env hF)) hS 110 (fs := (List.range 1).map (mfv G σ 2 110)) (by rw [mws_at (mshp_lt hx (by decide)), mE_o hx (by decide)]) h1 0 h2 (hts _ h4) (m_same hts h5) h6 (h7 0 h2) rfl rfl (by rw [List.length_map, List.length_range]; decide) hd (fun H1 locs1 hP1 _ hS1 => ?_)
  have hP2 : va_P G.1 vwCl (mws G (σ.1, v)) H1 := by
    rw [← mws_set (G := G) (σ := σ) (σ1 := (σ.1, v)) (x := 110) (ee := .inr (2, [Value.long v])) (mshp_lt hx (by decide)) (mE_o hx (by decide)) (fun y hy => mE_hash hy)]
    exact hP1
  exact kk p e s m args below meth c H1 locs1 cells slots lsr Z R hR hF hP2 hS1 hl hQ
-- ===== what lies outside =====
theorem m_xald {i : Nat} {j : Nat} {ii : Int32} (hd : decode μ.2.1 pc = .ok (.iaload, 1)) (q : String × List Int32) (hq : msta[i]? = some q) (hi : ii = nI j) (hj : j < q.2.length) (hl4 : q.2.length ≤ 256) (k : mW G l d μ (pc + 1) ls (.int (q.2.getD j 0) :: st) σ Q) : mW G l d μ pc ls (.int ii :: .ref (1000 + i) :: st) σ Q := by
  subst hi
  intro p e s m args below meth c H locs cells slots lsr Z R hR hF hP hS hl hQ
  obtain ⟨h1, h2⟩ := m_ix hj hl4
  refine va_ti hF.1 hF.2.1 ((m_env hF).2.1.2.1 i q hq).2 hS h1 (v := .int (q.2.getD j 0)) (by rw [h2]) hd ?_
  exact k p e s m args below meth c H locs cells slots lsr Z R hR hF hP hS hl hQ
/-- the script -/
theorem m_sald {j : Nat} {ii : Int32} (hd : decode μ.2.1 pc = .ok (.iaload, 1)) (hi : ii = nI j) (hj : j < G.2.2.2.2.1) (hl4 : G.2.2.2.2.1 ≤ 384) (k : mW G l d μ (pc + 1) ls (.int (G.2.2.2.2.2 j) :: st) σ Q) : mW G l d μ pc ls (.int ii :: .ref 1030 :: st) σ Q := by
  subst hi
  intro p e s m args below meth c H locs cells slots lsr Z R hR hF hP hS hl hQ
  refine va_ti hF.1 hF.2.1 ((m_env hF).2.1.2.2.2.2) hS (vp_in_nI hj (Nat.lt_of_le_of_lt hl4 (by decide))) (v := .int (G.2.2.2.2.2 j)) (by rw [nI_clamp (Nat.lt_of_lt_of_le hj (Nat.le_trans hl4 (by decide)))]) hd ?_
  exact k p e s m args below meth c H locs cells slots lsr Z R hR hF hP hS hl hQ
theorem m_slen (hd : decode μ.2.1 pc = .ok (.arraylength, 1)) (k : mW G l d μ (pc + 1) ls (.int (nI G.2.2.2.2.1) :: st) σ Q) : mW G l d μ pc ls (.ref 1030 :: st) σ Q := by
  intro p e s m args below meth c H locs cells slots lsr Z R hR hF hP hS hl hQ
  refine va_tlen hF.1 hF.2.1 ((m_env hF).2.1.2.2.2.2) hS (v := nI G.2.2.2.2.1) rfl hd ?_
  exact k p e s m args below meth c H locs cells slots lsr Z R hR hF hP hS hl hQ
/-- the digest's moments are read with their length too -/
theorem m_xlen {i : Nat} (hd : decode μ.2.1 pc = .ok (.arraylength, 1)) (q : String × List Int32) (hq : msta[i]? = some q) (k : mW G l d μ (pc + 1) ls (.int (nI q.2.length) :: st) σ Q) : mW G l d μ pc ls (.ref (1000 + i) :: st) σ Q := by
  intro p e s m args below meth c H locs cells slots lsr Z R hR hF hP hS hl hQ
  refine va_tlen hF.1 hF.2.1 ((m_env hF).2.1.2.1 i q hq).2 hS (v := nI q.2.length) rfl hd ?_
  exact k p e s m args below meth c H locs cells slots lsr Z R hR hF hP hS hl hQ
/-- the bytes of a constant text -/
theorem m_bald {i : Nat} {j : Nat} {ii : Int32} (hd : decode μ.2.1 pc = .ok (.baload, 1)) (q : String × Nat × String × List Int32) (hq : mstr[i]? = some q) (hi : ii = nI j) (hj : j < q.2.2.2.length) (hl4 : q.2.2.2.length ≤ 256) (k : mW G l d μ (pc + 1) ls (.int (q.2.2.2.getD j 0) :: st) σ Q) : mW G l d μ pc ls (.int ii :: .ref (1020 + i) :: st) σ Q := by
  subst hi
  intro p e s m args below meth c H locs cells slots lsr Z R hR hF hP hS hl hQ
  obtain ⟨h1, h2⟩ := m_ix hj hl4
  refine va_tb hF.1 hF.2.1 ((m_env hF).2.1.2.2.2.1 i q hq).2.2.2.2 hS h1 (v := .int (q.2.2.2.getD j 0)) (by rw [h2]) hd ?_
  exact k p e s m args below meth c H locs cells slots lsr Z R hR hF hP hS hl hQ
theorem m_blen {i : Nat} (hd : decode μ.2.1 pc = .ok (.arraylength, 1)) (q : String × Nat × String × List Int32) (hq : mstr[i]? = some q) (k : mW G l d μ (pc + 1) ls (.int (nI q.2.2.2.length) :: st) σ Q) : mW G l d μ pc ls (.ref (1020 + i) :: st) σ Q := by
  intro p e s m args below meth c H locs cells slots lsr Z R hR hF hP hS hl hQ
  refine va_tlen hF.1 hF.2.1 ((m_env hF).2.1.2.2.2.1 i q hq).2.2.2.2 hS (v := nI q.2.2.2.length) rfl hd ?_
  exact k p e s m args below meth c H locs cells slots lsr Z R hR hF hP hS hl hQ
theorem m_ldcS {i index : Nat} (hd : decode μ.2.1 pc = .ok (.ldc index, 2)) (q : String × Nat × String × List Int32) (hq : mstr[i]? = some q) (h1 : q.1 = μ.1.cls) (h2 : q.2.1 = index) (k : mW G l d μ (pc + 2) ls (.ref (1010 + i) :: st) σ Q) : mW G l d μ pc ls st σ Q := by
  subst h2
  intro p e s m args below meth c H locs cells slots lsr Z R hR hF hP hS hl hQ
  refine va_ldcS (own := q.1) hF.1 hF.2.1 (by rw [h1]; exact hF.2.2.2.2.1) ((m_env hF).2.1.2.2.2.1 i q hq).1 hd ?_
  exact k p e s m args below meth c H locs cells slots lsr Z R hR hF hP hS hl hQ
theorem m_coder {i index : Nat} (hd : decode μ.2.1 pc = .ok (.getfield index, 3)) (q : String × Nat × String × List Int32) (hq : mstr[i]? = some q) (hL : Cond.fieldLink μ.1.cls index "java/lang/String" "coder" "B" ∈ mtbl) (k : mW G l d μ (pc + 3) ls (.int 0 :: st) σ Q) : mW G l d μ pc ls (.ref (1010 + i) :: st) σ Q := by
  intro p e s m args below meth c H locs cells slots lsr Z R hR hF hP hS hl hQ
  refine vk_getf hF.1 hF.2.1 ((m_env hF).2.1.2.2.2.1 i q hq).2.2.1 hS hF.2.2.2.2.1 (hF.2.2.2.2.2.1 _ hL) (fun _ h => h) hd ?_
  exact k p e s m args below meth c H locs cells slots lsr Z R hR hF hP hS hl hQ
theorem m_value {i index : Nat} (hd : decode μ.2.1 pc = .ok (.getfield index, 3)) (q : String × Nat × String × List Int32) (hq : mstr[i]? = some q) (hL : Cond.fieldLink μ.1.cls index "java/lang/String" "value" "[B" ∈ mtbl) (k : mW G l d μ (pc + 3) ls (.ref (1020 + i) :: st) σ Q) : mW G l d μ pc ls (.ref (1010 + i) :: st) σ Q := by
  intro p e s m args below meth c H locs cells slots lsr Z R hR hF hP hS hl hQ
  refine vk_getf hF.1 hF.2.1 ((m_env hF).2.1.2.2.2.1 i q hq).2.2.2.1 hS hF.2.2.2.2.1 (hF.2.2.2.2.2.1 _ hL) (fun _ h => h) hd ?_
  exact k p e s m args below meth c H locs cells slots lsr Z R hR hF hP hS hl hQ
theorem m_compact {index : Nat} (hd : decode μ.2.1 pc = .ok (.getstatic index, 3)) (hL : Cond.fieldLink μ.1.cls index "java/lang/String" "COMPACT_STRINGS" "Z" ∈ mtbl) (k : mW G l d μ (pc + 3) ls (.int 1 :: st) σ Q) : mW G l d μ pc ls st σ Q := by
  intro p e s m args below meth c H locs cells slots lsr Z R hR hF hP hS hl hQ
  refine va_gets hF.1 hF.2.1 (m_env hF).2.1.2.2.1 hS hF.2.2.2.2.1 (hF.2.2.2.2.2.1 _ hL) (fun _ h => h) hd ?_
  exact k p e s m args below meth c H locs cells slots lsr Z R hR hF hP hS hl hQ
theorem m_gets {i index : Nat} (hd : decode μ.2.1 pc = .ok (.getstatic index, 3)) (q : String × List Int32) (hq : msta[i]? = some q) (hL : Cond.fieldLink μ.1.cls index "DodgemDebate" q.1 "[I" ∈ mtbl ∨ Cond.fieldLinkNest μ.1.cls index "DodgemDebate" q.1 "[I" "DodgemDebate" ∈ mnest) (k : mW G l d μ (pc + 3) ls (.ref (1000 + i) :: st) σ Q) : mW G l d μ pc ls st σ Q := by
  intro p e s m args below meth c H locs cells slots lsr Z R hR hF hP hS hl hQ
  have hk := k p e s m args below meth c H locs cells slots lsr Z R hR hF hP hS hl hQ
  rcases hL with hL | hL
  · exact va_gets hF.1 hF.2.1 ((m_env hF).2.1.2.1 i q hq).1 hS hF.2.2.2.2.1 (hF.2.2.2.2.2.1 _ hL) (fun _ h => h) hd hk
  · exact va_getsN hF.1 hF.2.1 ((m_env hF).2.1.2.1 i q hq).1 hS hF.2.2.2.2.1 (va_Nw.use rfl ((m_env hF).2.1.1 _ hL)) (fun _ h => h) hd hk
theorem m_ldc {index : Nat} {v : Int32} (hd : decode μ.2.1 pc = .ok (.ldc index, 2)) (hL : Cond.constant μ.1.cls index v ∈ mtbl) (k : mW G l d μ (pc + 2) ls (.int v :: st) σ Q) : mW G l d μ pc ls st σ Q :=
  fun p e s m args below meth c H locs cells slots lsr Z R hR hF hP hS hl hQ => lv_ldc hF.1 hF.2.1 hF.2.2.2.2.1 (hF.2.2.2.2.2.1 _ hL) hd (k p e s m args below meth c H locs cells slots lsr Z R hR hF hP hS hl hQ)
theorem m_ldc_w {index : Nat} {v : Int32} (hd : decode μ.2.1 pc = .ok (.ldc_w index, 3)) (hL : Cond.constant μ.1.cls index v ∈ mtbl) (k : mW G l d μ (pc + 3) ls (.int v :: st) σ Q) : mW G l d μ pc ls st σ Q :=
  fun p e s m args below meth c H locs cells slots lsr Z R hR hF hP hS hl hQ => lv_ldcw hF.1 hF.2.1 hF.2.2.2.2.1 (hF.2.2.2.2.2.1 _ hL) hd (k p e s m args below meth c H locs cells slots lsr Z R hR hF hP hS hl hQ)
theorem m_ldc2_w {index : Nat} {v : Int64} (hd : decode μ.2.1 pc = .ok (.ldc2_w index, 3)) (hL : Cond.constantLong μ.1.cls index v ∈ mtbl) (k : mW G l d μ (pc + 3) ls (.long v :: st) σ Q) : mW G l d μ pc ls st σ Q :=
  fun p e s m args below meth c H locs cells slots lsr Z R hR hF hP hS hl hQ => lv_ldc2 hF.1 hF.2.1 hF.2.2.2.2.1 (hF.2.2.2.2.2.1 _ hL) hd (k p e s m args below meth c H locs cells slots lsr Z R hR hF hP hS hl hQ)
theorem m_tableIn {dflt lo hi : Int} {offs : Array Int} {len : Nat} {x : Int32} {off : Int} (hd : decode μ.2.1 pc = .ok (.tableswitch dflt lo hi offs, len)) (h1 : ¬ x.toInt < lo) (h2 : ¬ hi < x.toInt) (ho : offs[(x.toInt - lo).toNat]? = some off) (tgt : Nat) (ht : (pc : Int) + off = (tgt : Int)) (k : mW G l d μ tgt ls st σ Q) : mW G l d μ pc ls (.int x :: st) σ Q :=
  fun p e s m args below meth c H locs cells slots lsr Z R hR hF hP hS hl hQ => lv_tableIn hF.1 hF.2.1 hd h1 h2 ho ht (k p e s m args below meth c H locs cells slots lsr Z R hR hF hP hS hl hQ)
theorem m_tableOut {dflt lo hi : Int} {offs : Array Int} {len : Nat} {x : Int32} (hd : decode μ.2.1 pc = .ok (.tableswitch dflt lo hi offs, len)) (h : x.toInt < lo ∨ hi < x.toInt) (tgt : Nat) (ht : (pc : Int) + dflt = (tgt : Int)) (k : mW G l d μ tgt ls st σ Q) : mW G l d μ pc ls (.int x :: st) σ Q :=
  fun p e s m args below meth c H locs cells slots lsr Z R hR hF hP hS hl hQ => lv_tableOut hF.1 hF.2.1 hd h ht (k p e s m args below meth c H locs cells slots lsr Z R hR hF hP hS hl hQ)
end MM


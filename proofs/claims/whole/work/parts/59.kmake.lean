/-! ===== making, with names for the cells: the world that the constructors build ===== -/
abbrev oL : Type := List (Nat × List Nat)
def gG (g : nG) (adr : Nat → Nat) : mG := (g.1, g.2.1, g.2.2.1, adr, g.2.2.2)
def nzL : List Nat := [0, 5, 15, 46, 47, 66, 80]
def σn (x k : Nat) : Int32 := if x = 0 then (if k = 10 then 1 else 0) else if x = 46 then (if k < 4 then -1 else 0) else if x = 5 ∨ x = 66 then (if k = 1 then 8 else if k = 2 then 5 else if k = 4 then -1 else 0) else if x = 15 then (if k = 1 then 12 else if k = 2 then 3 else if k = 4 then -1 else 0) else (if k = 7 ∨ k = 8 then -1 else 0)
/-- the numbers behind the constructors -/
def σi (x : Nat) : Nat → Int32 := if nzL.contains x = true then σn x else fun _ => 0
theorem σi_z {x : Nat} (h : nzL.contains x = false) : σi x = fun _ => 0 := by
  unfold σi
  rw [if_neg (by rw [h]; decide)]
def s00 : mS := (σi, 0)
def fsP (g : nG) (adr : Nat → Nat) (y : Nat) (D : List Nat) : List Value := (List.range (mshp y).2).map (fun k => if D.contains k = true then mfv (gG g adr) s00 (mshp y).1 y k else defaultValue (mFT (mshp y).1 k))
/-- what an open cell holds: the fields, or places, of D are set -/
def opE (g : nG) (adr : Nat → Nat) (y : Nat) (D : List Nat) : va_E := if (mshp y).1 = 11 then .inl (g.2.1 0, (mshp y).2, .inl (fun j => if D.contains j = true then σi y j else 0)) else .inr ((mshp y).1, fsP g adr y D)
def clE (g : nG) (adr : Nat → Nat) (y : Nat) (e : va_E) : Prop := ∀ H : Heap, va_at g.1 vwCl (adr y, e) H → va_at g.1 vwCl (adr y, mE (gG g adr) s00 y) H
/-- the first n cells are as they shall be, but those that are open -/
def kV (g : nG) (n : Nat) (adr : Nat → Nat) (τ : Nat → va_E) (o : oL) : Prop := ∀ y, y < n → (∀ D, o.lookup y = some D → τ y = opE g adr y D) ∧ (o.lookup y = none → clE g adr y (τ y))
def agr (n : Nat) (adr adr1 : Nat → Nat) : Prop := ∀ z, z < n ∨ 1000 ≤ z → adr1 z = adr z
theorem agr.rf {n : Nat} {adr : Nat → Nat} : agr n adr adr := fun _ _ => rfl
theorem agr.tr {n n1 : Nat} {adr adr1 adr2 : Nat → Nat} (hn : n ≤ n1) (h1 : agr n adr adr1) (h2 : agr n1 adr1 adr2) : agr n adr adr2 := fun z hz => (h2 z (by omega)).trans (h1 z hz)
def oky (n y : Nat) (k : Nat) : Bool := (mkd (mshp y).1 k != 1) || decide (moff (mshp y).1 y k < n)
def okc (n y : Nat) : Bool := if (mshp y).1 = 13 then decide (y + 1 + (mshp y).2 ≤ n) else if 11 ≤ (mshp y).1 then decide ((mshp y).1 ≤ 12) else (List.range (mshp y).2).all (oky n y)
/-- no cell of the first n points beyond n -/
def okn (n : Nat) (o : oL) : Bool := (List.range n).all (fun y => match o.lookup y with
  | some D => D.all (oky n y)
  | none => okc n y)
theorem oky_of {n y k ci N : Nat} (hs : mshp y = (ci, N)) (h : oky n y k = true) (h1 : mkd ci k = 1) : moff ci y k < n := by
  unfold oky at h
  rw [hs, h1] at h
  exact of_decide_eq_true (by simpa using h)
theorem mfv_ext {g : nG} {adr adr1 : Nat → Nat} {n ci y k : Nat} (ha : agr n adr adr1) (h : mkd ci k = 1 → moff ci y k < n) : mfv (gG g adr1) s00 ci y k = mfv (gG g adr) s00 ci y k := by
  unfold mfv
  generalize hq : mkd ci k = q at h ⊢
  match q, h with
  | 0, _ => rfl
  | 1, h =>
    show Value.ref (adr1 (moff ci y k)) = Value.ref (adr (moff ci y k))
    rw [ha _ (Or.inl (h rfl))]
  | q + 2, _ => rfl
theorem arrV_same {c : ClassId} {N : Nat} {f f1 : Nat → Value} (h : ∀ j, j < N → f j = f1 j) : arrV c N f = arrV c N f1 := by
  unfold arrV
  have e : (fun j : Fin N => f j.val) = fun j : Fin N => f1 j.val := funext fun j => h j.val j.isLt
  rw [e]
theorem mE_ext {g : nG} {adr adr1 : Nat → Nat} {n y : Nat} (ha : agr n adr adr1) (hy : y < n) (hk : okc n y = true) {H : Heap} (h : va_at g.1 vwCl (adr y, mE (gG g adr) s00 y) H) : va_at g.1 vwCl (adr1 y, mE (gG g adr1) s00 y) H := by
  rw [ha y (Or.inl hy)]
  obtain ⟨⟨t, N⟩, hs⟩ : ∃ q : Nat × Nat, mshp y = q := ⟨_, rfl⟩
  unfold okc at hk
  rw [hs] at hk
  by_cases h13 : t = 13
  · subst h13
    rw [if_pos rfl] at hk
    have hk := of_decide_eq_true hk
    rw [mE_g hs] at h ⊢
    have h : H[adr y]? = some (vp_cell (g.2.1 1) (N, .inr (.inr (.inr (.inr (fun j => some (adr (y + 1 + j)))))))) := h
    show H[adr y]? = some (vp_cell (g.2.1 1) (N, .inr (.inr (.inr (.inr (fun j => some (adr1 (y + 1 + j))))))))
    rw [h, vp_cell_q, vp_cell_q]
    refine congrArg some (arrV_same fun j hj => ?_)
    rw [ha (y + 1 + j) (Or.inl (by have : y + 1 + N ≤ n := hk; omega))]
  · rw [if_neg h13] at hk
    have e : mE (gG g adr1) s00 y = mE (gG g adr) s00 y := by
      by_cases h11 : 11 ≤ t
      · rw [if_pos h11] at hk
        have hk : t ≤ 12 := of_decide_eq_true hk
        have ht : t = 11 ∨ t = 12 := by omega
        rcases ht with rfl | rfl
        · rw [mE_i hs, mE_i hs]; rfl
        · rw [mE_z hs, mE_z hs]; rfl
      · rw [if_neg h11] at hk
        rw [mE_o hs (by omega), mE_o hs (by omega)]
        refine congrArg (fun q => Sum.inr (t, q)) (List.map_congr_left fun k hk1 => ?_)
        exact mfv_ext ha (oky_of hs (List.all_eq_true.mp hk k hk1))
    rw [e]
    exact h
theorem kV.ext {g : nG} {n : Nat} {adr adr1 : Nat → Nat} {τ τ1 : Nat → va_E} {o : oL} (h : kV g n adr τ o) (hk : okn n o = true) (ha : agr n adr adr1) (ht : ∀ y, y < n → τ1 y = τ y) : kV g n adr1 τ1 o := by
  intro y hy
  have h9 : (match o.lookup y with
    | some D => D.all (oky n y)
    | none => okc n y) = true := List.all_eq_true.mp hk y (List.mem_range.mpr hy)
  refine ⟨fun D hD => ?_, fun hN H h1 => ?_⟩
  · rw [ht y hy, (h y hy).1 D hD]
    rw [hD] at h9
    unfold opE
    by_cases e11 : (mshp y).1 = 11
    · rw [if_pos e11, if_pos e11]
    · rw [if_neg e11, if_neg e11]
      refine congrArg (fun q => Sum.inr ((mshp y).1, q)) (List.map_congr_left fun k _ => ?_)
      by_cases hc : D.contains k = true
      · rw [if_pos hc, if_pos hc]
        exact (mfv_ext ha (oky_of rfl (List.all_eq_true.mp h9 k (List.contains_iff_mem.mp hc)))).symm
      · rw [if_neg hc, if_neg hc]
  · rw [hN] at h9
    rw [ht y hy, ha y (Or.inl hy)] at h1
    exact mE_ext ha hy h9 ((h y hy).2 hN H h1)
/-- references that stay what they are -/
def rfv (n : Nat) : Value → Bool
  | .ref x => decide (x < n ∨ 1000 ≤ x)
  | _ => true
theorem mv_ext {g : nG} {n : Nat} {adr adr1 : Nat → Nat} {v : Value} (ha : agr n adr adr1) (h : rfv n v = true) : mv (gG g adr1) v = mv (gG g adr) v := by
  cases v with
  | ref x =>
    show Value.ref (adr1 x) = Value.ref (adr x)
    rw [ha x (of_decide_eq_true h)]
  | _ => rfl
theorem mvs_ext {g : nG} {n : Nat} {adr adr1 : Nat → Nat} {st : List Value} (ha : agr n adr adr1) (h : st.all (rfv n) = true) : st.map (mv (gG g adr1)) = st.map (mv (gG g adr)) :=
  List.map_congr_left fun v hv => mv_ext ha (List.all_eq_true.mp h v hv)
theorem mlvs_ext {g : nG} {n : Nat} {adr adr1 : Nat → Nat} {ls : List (Nat × Value)} (ha : agr n adr adr1) (h : ls.all (fun q => rfv n q.2) = true) : ls.map (mlv (gG g adr1)) = ls.map (mlv (gG g adr)) :=
  List.map_congr_left fun q hq => by
    show (q.1, _) = (q.1, _)
    rw [mv_ext ha (List.all_eq_true.mp h q hq)]
abbrev kT : Type := Nat × List (Nat × Value) × List Value × Nat × oL
/-- from this frame, with n cells of which o are open, it comes to the frame t -/
def kW (g : nG) (l : Launch) (d : Nat) (μ : mM) (pc : Nat) (ls : List (Nat × Value)) (st : List Value) (n : Nat) (o : oL) (c0 s0 : Nat) (t : kT) : Prop :=
  ∀ (adr : Nat → Nat) (τ : Nat → va_E), kV g n adr τ o → nW g l d μ pc (ls.map (mlv (gG g adr))) (st.map (mv (gG g adr))) n adr τ c0 s0 (fun pc1 ls1 st1 n1 adr1 τ1 => pc1 = t.1 ∧ ls1 = t.2.1.map (mlv (gG g adr1)) ∧ st1 = t.2.2.1.map (mv (gG g adr1)) ∧ n1 = t.2.2.2.1 ∧ kV g n1 adr1 τ1 t.2.2.2.2 ∧ agr n adr adr1)
/-- a constructor: from n cells, o open, to n1 cells, o1 open -/
def kMet (g : nG) (l : Launch) (d : Nat) (μ : mM) (As : List Value) (n : Nat) (o : oL) (mc ms n1 : Nat) (o1 : oL) : Prop :=
  ∀ (adr : Nat → Nat) (τ : Nat → va_E), kV g n adr τ o → nMet g l d μ (As.map (mv (gG g adr))) n adr τ mc ms (fun n2 adr1 τ1 => n2 = n1 ∧ kV g n1 adr1 τ1 o1 ∧ agr n adr adr1)
section KM
variable {g : nG} {l : Launch} {d : Nat} {μ : mM} {pc : Nat} {ls : List (Nat × Value)} {st : List Value} {n : Nat} {o : oL} {c0 s0 : Nat} {t : kT}
theorem k_stop : kW g l d μ pc ls st n o c0 s0 (pc, ls, st, n, o) := fun adr τ hV => n_stop ⟨rfl, rfl, rfl, rfl, hV, agr.rf⟩
theorem k_aload_n {i : Fin 4} {x : Nat} (hd : decode μ.2.1 pc = .ok (.aload_n i, 1)) (j : Nat) (hj : ls[j]? = some ((i : Nat), .ref x)) (k : kW g l d μ (pc + 1) ls (.ref x :: st) n o c0 s0 t) : kW g l d μ pc ls st n o c0 s0 t :=
  fun adr τ hV => n_aload_n hd j (mlv_at hj) (k adr τ hV)
theorem k_aload {i : Nat} {x : Nat} (hd : decode μ.2.1 pc = .ok (.aload i, 2)) (j : Nat) (hj : ls[j]? = some (i, .ref x)) (k : kW g l d μ (pc + 2) ls (.ref x :: st) n o c0 s0 t) : kW g l d μ pc ls st n o c0 s0 t :=
  fun adr τ hV => n_aload hd j (mlv_at hj) (k adr τ hV)
theorem k_iload_n {i : Fin 4} {x : Int32} (hd : decode μ.2.1 pc = .ok (.iload_n i, 1)) (j : Nat) (hj : ls[j]? = some ((i : Nat), .int x)) (k : kW g l d μ (pc + 1) ls (.int x :: st) n o c0 s0 t) : kW g l d μ pc ls st n o c0 s0 t :=
  fun adr τ hV => n_iload_n hd j (mlv_at hj) (k adr τ hV)
theorem k_dup {va : Value} (hd : decode μ.2.1 pc = .ok (.dup, 1)) (hc : va.category = 1) (k : kW g l d μ (pc + 1) ls (va :: va :: st) n o c0 s0 t) : kW g l d μ pc ls (va :: st) n o c0 s0 t :=
  fun adr τ hV => n_dup hd (mv_cat hc) (k adr τ hV)
theorem k_iconst {z : Int} {v : Int32} (hd : decode μ.2.1 pc = .ok (.iconst z, 1)) (hv : Int32.ofInt z = v) (k : kW g l d μ (pc + 1) ls (.int v :: st) n o c0 s0 t) : kW g l d μ pc ls st n o c0 s0 t :=
  fun adr τ hV => n_iconst hd hv (k adr τ hV)
theorem k_bipush {z : Int} {v : Int32} (hd : decode μ.2.1 pc = .ok (.bipush z, 2)) (hv : (Int8.ofInt z).toInt32 = v) (k : kW g l d μ (pc + 2) ls (.int v :: st) n o c0 s0 t) : kW g l d μ pc ls st n o c0 s0 t :=
  fun adr τ hV => n_bipush hd hv (k adr τ hV)
theorem k_sipush {z : Int} {v : Int32} (hd : decode μ.2.1 pc = .ok (.sipush z, 3)) (hv : (Int16.ofInt z).toInt32 = v) (k : kW g l d μ (pc + 3) ls (.int v :: st) n o c0 s0 t) : kW g l d μ pc ls st n o c0 s0 t :=
  fun adr τ hV => n_sipush hd hv (k adr τ hV)
theorem k_astore_n {i : Fin 4} {x : Nat} {ls1 : List (Nat × Value)} (hd : decode μ.2.1 pc = .ok (.astore_n i, 1)) (hn : (i : Nat) < μ.2.2.1) (h1 : mst1 (i : Nat) (.ref x) ls = ls1) (k : kW g l d μ (pc + 1) ls1 st n o c0 s0 t) : kW g l d μ pc ls (.ref x :: st) n o c0 s0 t := by
  subst h1
  exact fun adr τ hV => n_astore_n hd hn (mst1_map (G := gG g adr) (i : Nat) (.ref x) ls) (k adr τ hV)
theorem k_istore_n {i : Fin 4} {x : Int32} {ls1 : List (Nat × Value)} (hd : decode μ.2.1 pc = .ok (.istore_n i, 1)) (hn : (i : Nat) < μ.2.2.1) (h1 : mst1 (i : Nat) (.int x) ls = ls1) (k : kW g l d μ (pc + 1) ls1 st n o c0 s0 t) : kW g l d μ pc ls (.int x :: st) n o c0 s0 t := by
  subst h1
  exact fun adr τ hV => n_istore_n hd hn (mst1_map (G := gG g adr) (i : Nat) (.int x) ls) (k adr τ hV)
theorem k_objInit {idx x : Nat} (hd : decode μ.2.1 pc = .ok (.invokespecial idx, 3)) (h1 : Cond.methodLink μ.1.cls idx Lib.objectInit ∈ mtbl) (h2 : Cond.instanceMethod Lib.objectInit ∈ mtbl) (h3 : Cond.code Lib.objectInit ⟨#[0xb1]⟩ 1 none ∈ mtbl) (hd1 : 1 ≤ d) (hw : (st.map fun v => v.category).sum ≤ 8) (k : kW g l d μ (pc + 3) ls st n o c0 s0 t) : kW g l d μ pc ls (.ref x :: st) n o c0 s0 t :=
  fun adr τ hV => n_objInit hd h1 h2 h3 hd1 (by rw [mv_cats]; exact hw) (k adr τ hV)
/-- what makes a cell: from the new world on -/
theorem k_grow {n1 : Nat} {o1 : oL} {ls0 : List (Nat × Value)} {st0 st1 : List Value} {pc1 : Nat} {adr adr1 : Nat → Nat} {τ1 : Nat → va_E} (hn : n ≤ n1) (ha : agr n adr adr1) (hV : kV g n1 adr1 τ1 o1) (hl : ls.all (fun q => rfv n q.2) = true) (hl0 : ls.map (mlv (gG g adr)) = ls0) (hs0 : st1.map (mv (gG g adr1)) = st0) (k : kW g l d μ pc1 ls st1 n1 o1 c0 s0 t) : nW g l d μ pc1 ls0 st0 n1 adr1 τ1 c0 s0 (fun pc1 ls1 st1 n1 adr1 τ1 => pc1 = t.1 ∧ ls1 = t.2.1.map (mlv (gG g adr1)) ∧ st1 = t.2.2.1.map (mv (gG g adr1)) ∧ n1 = t.2.2.2.1 ∧ kV g n1 adr1 τ1 t.2.2.2.2 ∧ agr n adr adr1) := by
  subst hl0 hs0
  rw [← mlvs_ext ha hl]
  exact (k adr1 τ1 hV).post (fun pc2 ls2 st2 n2 adr2 τ2 q => ⟨q.1, q.2.1, q.2.2.1, q.2.2.2.1, q.2.2.2.2.1, ha.tr hn q.2.2.2.2.2⟩)
theorem agr_uN {adr : Nat → Nat} {q : Nat} (hn : n < 1000) : agr n adr (uN adr n q) := fun z hz => uN_ne (by omega)
theorem kV.push {adr adr1 : Nat → Nat} {τ τ1 : Nat → va_E} {o1 : oL} (h : kV g n adr τ o) (hk : okn n o = true) (ha : agr n adr adr1) (ht : ∀ y, y < n → τ1 y = τ y) (ho : ∀ y, y < n → o1.lookup y = o.lookup y) (hn : (∀ D, o1.lookup n = some D → τ1 n = opE g adr1 n D) ∧ (o1.lookup n = none → clE g adr1 n (τ1 n))) : kV g (n + 1) adr1 τ1 o1 := by
  intro y hy
  by_cases e : y = n
  · subst e; exact hn
  · have hy : y < n := by omega
    rw [ho y hy]
    exact h.ext hk ha ht y hy
theorem lk_ne {x y : Nat} {D : List Nat} (h : y ≠ x) : List.lookup y ((x, D) :: o) = o.lookup y := by
  rw [List.lookup_cons, show (y == x) = false from by simpa using h]
theorem lk_eq {x : Nat} {D : List Nat} : List.lookup x ((x, D) :: o) = some D := by
  rw [List.lookup_cons, show (x == x) = true from by simp]
theorem k_new {index ci N : Nat} (hd : decode μ.2.1 pc = .ok (.new index, 3)) (hN : nNW μ.1.cls index ci N) (hs : mshp n = (ci, N)) (hc : ci ≤ 10) (hn : n < 1000) (ho : okn n o = true) (hl : ls.all (fun q => rfv n q.2) = true) (hst : st.all (rfv n) = true) (k : kW g l d μ (pc + 3) ls (.ref n :: st) (n + 1) ((n, []) :: o) c0 s0 t) : kW g l d μ pc ls st n o (c0 + 1) (s0 + N) t := by
  intro adr τ hV
  refine n_new hd hN (fun q => ?_)
  have ha : agr n adr (uN adr n q) := agr_uN hn
  refine k_grow (n := n) (o1 := (n, []) :: o) (st1 := .ref n :: st) (Nat.le_succ n) ha (hV.push ho ha (fun y hy => uE_ne (by omega)) (fun y hy => lk_ne (by omega)) ⟨fun D hD => ?_, fun h => ?_⟩) hl rfl ?_ k
  · rw [lk_eq] at hD
    cases hD
    rw [uE_eq]
    unfold opE
    rw [hs, if_neg (show ¬ ci = 11 by omega)]
    refine congrArg (fun z => Sum.inr (ci, z)) ?_
    unfold fsP dfl
    rw [hs]
    exact List.map_congr_left fun k _ => rfl
  · rw [lk_eq] at h; cases h
  · show Value.ref (uN adr n q n) :: st.map _ = _
    rw [uN_eq, mvs_ext ha hst]
theorem k_newI {i : Int32} {N : Nat} (hd : decode μ.2.1 pc = .ok (.newarray .int, 2)) (ha0 : Cond.arrayClass .int ∈ mtbl) (hi : i = nI N) (hN : N ≤ 1000) (hs : mshp n = (11, N)) (hz : nzL.contains n = false) (hn : n < 1000) (ho : okn n o = true) (hno : o.lookup n = none) (hl : ls.all (fun q => rfv n q.2) = true) (hst : st.all (rfv n) = true) (k : kW g l d μ (pc + 2) ls (.ref n :: st) (n + 1) o c0 s0 t) : kW g l d μ pc ls (.int i :: st) n o (c0 + 1) (s0 + N) t := by
  intro adr τ hV
  refine n_newI hd ha0 hi hN (fun q => ?_)
  have ha : agr n adr (uN adr n q) := agr_uN hn
  refine k_grow (n := n) (o1 := o) (st1 := .ref n :: st) (Nat.le_succ n) ha (hV.push ho ha (fun y hy => uE_ne (by omega)) (fun y hy => rfl) ⟨fun D hD => ?_, fun h H h1 => ?_⟩) hl rfl ?_ k
  · rw [hno] at hD; cases hD
  · rw [uE_eq] at h1
    rw [mE_i hs, show s00.1 n = fun _ => 0 from σi_z hz]
    exact h1
  · show Value.ref (uN adr n q n) :: st.map _ = _
    rw [uN_eq, mvs_ext ha hst]
theorem k_newZ {i : Int32} {N : Nat} (hd : decode μ.2.1 pc = .ok (.newarray .boolean, 2)) (ha0 : Cond.arrayClass .boolean ∈ mtbl) (hi : i = nI N) (hN : N ≤ 1000) (hs : mshp n = (12, N)) (hz : nzL.contains n = false) (hn : n < 1000) (ho : okn n o = true) (hno : o.lookup n = none) (hl : ls.all (fun q => rfv n q.2) = true) (hst : st.all (rfv n) = true) (k : kW g l d μ (pc + 2) ls (.ref n :: st) (n + 1) o c0 s0 t) : kW g l d μ pc ls (.int i :: st) n o (c0 + 1) (s0 + N) t := by
  intro adr τ hV
  refine n_newZ hd ha0 hi hN (fun q => ?_)
  have ha : agr n adr (uN adr n q) := agr_uN hn
  refine k_grow (n := n) (o1 := o) (st1 := .ref n :: st) (Nat.le_succ n) ha (hV.push ho ha (fun y hy => uE_ne (by omega)) (fun y hy => rfl) ⟨fun D hD => ?_, fun h H h1 => ?_⟩) hl rfl ?_ k
  · rw [hno] at hD; cases hD
  · rw [uE_eq] at h1
    rw [mE_z hs, show s00.1 n = fun _ => 0 from σi_z hz]
    exact h1
  · show Value.ref (uN adr n q n) :: st.map _ = _
    rw [uN_eq, mvs_ext ha hst]
/-- a new row that is filled at once -/
theorem k_newO {i : Int32} {N : Nat} (hd : decode μ.2.1 pc = .ok (.newarray .int, 2)) (ha0 : Cond.arrayClass .int ∈ mtbl) (hi : i = nI N) (hN : N ≤ 1000) (hs : mshp n = (11, N)) (hn : n < 1000) (ho : okn n o = true) (hl : ls.all (fun q => rfv n q.2) = true) (hst : st.all (rfv n) = true) (k : kW g l d μ (pc + 2) ls (.ref n :: st) (n + 1) ((n, []) :: o) c0 s0 t) : kW g l d μ pc ls (.int i :: st) n o (c0 + 1) (s0 + N) t := by
  intro adr τ hV
  refine n_newI hd ha0 hi hN (fun q => ?_)
  have ha : agr n adr (uN adr n q) := agr_uN hn
  refine k_grow (n := n) (o1 := (n, []) :: o) (st1 := .ref n :: st) (Nat.le_succ n) ha (hV.push ho ha (fun y hy => uE_ne (by omega)) (fun y hy => lk_ne (by omega)) ⟨fun D hD => ?_, fun h => ?_⟩) hl rfl ?_ k
  · rw [lk_eq] at hD
    cases hD
    rw [uE_eq]
    unfold opE
    rw [hs, if_pos rfl]
    rfl
  · rw [lk_eq] at h; cases h
  · show Value.ref (uN adr n q n) :: st.map _ = _
    rw [uN_eq, mvs_ext ha hst]
theorem k_mna {i1 i2 : Int32} {index N K : Nat} (hd : decode μ.2.1 pc = .ok (.multianewarray index 2, 4)) (ha0 : Cond.arrayClass .int ∈ mtbl) (hc0 : Cond.classLink μ.1.cls index "[[I" ∈ mtbl) (e1 : i1 = nI N) (e2 : i2 = nI K) (hN : N ≤ 1000) (hK : K ≤ 1000) (hs : mshp n = (13, N)) (hr : (List.range N).all (fun j => decide (mshp (n + 1 + j) = (11, K)) && !nzL.contains (n + 1 + j)) = true) (hn : n + 1 + N ≤ 1000) (ho : okn n o = true) (hno : (List.range (1 + N)).all (fun j => (o.lookup (n + j)).isNone) = true) (hl : ls.all (fun q => rfv n q.2) = true) (hst : st.all (rfv n) = true) (k : kW g l d μ (pc + 4) ls (.ref n :: st) (n + 1 + N) o c0 s0 t) : kW g l d μ pc ls (.int i2 :: .int i1 :: st) n o (c0 + 1 + N) (s0 + N + N * K) t := by
  intro adr τ hV
  refine n_mna hd ha0 hc0 e1 e2 hN hK (fun q r => ?_)
  have ha : agr n adr (gN adr n N q r) := fun z hz => by
    rcases hz with hz | hz
    · exact gN_lt hz
    · exact gN_hi (by omega)
  refine k_grow (n := n) (o1 := o) (st1 := .ref n :: st) (by omega) ha (fun y hy => ?_) hl rfl ?_ k
  · by_cases h1 : y < n
    · exact hV.ext ho ha (fun y hy => gE_lt hy) y h1
    · have hno1 : o.lookup y = none := by
        have h9 : (o.lookup (n + (y - n))).isNone = true := List.all_eq_true.mp hno (y - n) (List.mem_range.mpr (by omega))
        rw [show n + (y - n) = y by omega] at h9
        exact Option.isNone_iff_eq_none.mp h9
      refine ⟨fun D hD => ?_, fun _ H h2 => ?_⟩
      · rw [hno1] at hD; cases hD
      · by_cases h3 : y = n
        · subst h3
          rw [mE_g hs]
          have h2 : H[gN adr y N q r y]? = some (vp_cell (g.2.1 1) (N, .inr (.inr (.inr (.inr (fun j => some (r j))))))) := by
            rw [gE_eq] at h2
            exact h2
          show H[gN adr y N q r y]? = some (vp_cell (g.2.1 1) (N, .inr (.inr (.inr (.inr (fun j => some (gN adr y N q r (y + 1 + j))))))))
          rw [h2, vp_cell_q, vp_cell_q]
          refine congrArg some (arrV_same fun j hj => ?_)
          rw [gN_row (by omega) (by omega), show y + 1 + j - (y + 1) = j by omega]
        · have h9 : (decide (mshp (n + 1 + (y - n - 1)) = (11, K)) && !nzL.contains (n + 1 + (y - n - 1))) = true := List.all_eq_true.mp hr (y - n - 1) (List.mem_range.mpr (by omega))
          rw [show n + 1 + (y - n - 1) = y by omega] at h9
          have h9 := Bool.and_eq_true_iff.mp h9
          rw [mE_i (of_decide_eq_true h9.1), show s00.1 y = fun _ => 0 from σi_z (by simpa using h9.2)]
          rw [gE_row (by omega)] at h2
          exact h2
  · show Value.ref (gN adr n N q r n) :: st.map _ = _
    rw [mvs_ext ha hst, gN_eq]

theorem fsP_at {adr : Nat → Nat} {y k ci N : Nat} {D : List Nat} (hs : mshp y = (ci, N)) (hk : k < N) : (fsP g adr y D)[k]? = some (if D.contains k = true then mfv (gG g adr) s00 ci y k else defaultValue (mFT ci k)) := by
  unfold fsP
  rw [hs, List.getElem?_map, List.getElem?_range hk]
  rfl
theorem fsP_len {adr : Nat → Nat} {y ci N : Nat} {D : List Nat} (hs : mshp y = (ci, N)) : (fsP g adr y D).length = N := by
  unfold fsP
  rw [hs, List.length_map, List.length_range]
theorem ct_cons {k j : Nat} {D : List Nat} : (k :: D).contains j = true ↔ j = k ∨ D.contains j = true := by
  rw [List.contains_iff_mem, List.contains_iff_mem, List.mem_cons]
theorem fsP_set {adr : Nat → Nat} {y k ci N : Nat} {D : List Nat} {v : Value} (hs : mshp y = (ci, N)) (hk : k < N) (hv : v = mfv (gG g adr) s00 ci y k) : (fsP g adr y D).set k v = fsP g adr y (k :: D) := by
  apply List.ext_getElem?
  intro j
  by_cases hj : j < N
  · rw [fsP_at hs hj]
    by_cases e : j = k
    · subst e
      rw [List.getElem?_set_self (by rw [fsP_len hs]; exact hj), if_pos (ct_cons.mpr (Or.inl rfl)), hv]
    · rw [List.getElem?_set_ne (fun h => e h.symm), fsP_at hs hj]
      by_cases hc : D.contains j = true
      · rw [if_pos hc, if_pos (ct_cons.mpr (Or.inr hc))]
      · rw [if_neg hc, if_neg (fun h => (ct_cons.mp h).elim e hc)]
  · rw [List.getElem?_eq_none (by rw [List.length_set, fsP_len hs]; omega), List.getElem?_eq_none (by rw [fsP_len hs]; omega)]
theorem opE_o {adr : Nat → Nat} {y ci N : Nat} {D : List Nat} (hs : mshp y = (ci, N)) (hc : ci ≤ 10) : opE g adr y D = .inr (ci, fsP g adr y D) := by
  unfold opE
  rw [hs, if_neg (show ¬ ci = 11 by omega)]
theorem kV.head {adr : Nat → Nat} {τ : Nat → va_E} {x : Nat} {D D1 : List Nat} {e : va_E} (h : kV g n adr τ ((x, D) :: o)) (he : e = opE g adr x D1) : kV g n adr (uE τ x e) ((x, D1) :: o) := by
  intro y hy
  by_cases e1 : y = x
  · subst e1
    refine ⟨fun D2 hD => ?_, fun h1 => ?_⟩
    · rw [lk_eq] at hD
      cases hD
      rw [uE_eq]; exact he
    · rw [lk_eq] at h1; cases h1
  · have h9 := h y hy
    rw [lk_ne e1] at h9 ⊢
    rw [uE_ne e1]
    exact h9
/-- a field of the open object -/
theorem k_putf {index ci N x : Nat} {v : Value} {D : List Nat} (k : Nat) (hd : decode μ.2.1 pc = .ok (.putfield index, 3)) (hL : (mFF μ.1.cls index ci k ∧ μ.1.name = "<init>") ∨ mFW μ.1.cls index ci k) (hs : mshp x = (ci, N)) (hc : ci ≤ 10) (hk : k < N) (hx : x < n) (hv : ∀ adr, mv (gG g adr) v = mfv (gG g adr) s00 ci x k) (hn : ∀ adr, narrow (mFT ci k) (mv (gG g adr) v) = mv (gG g adr) v) (hfit : ∀ adr, fits (mFT ci k) (mv (gG g adr) v) = true) (kk : kW g l d μ (pc + 3) ls st n ((x, k :: D) :: o) c0 s0 t) : kW g l d μ pc ls (v :: .ref x :: st) n ((x, D) :: o) c0 s0 t := by
  intro adr τ hV
  have hτ : τ x = .inr (ci, fsP g adr x D) := ((hV x hx).1 D lk_eq).trans (opE_o hs hc)
  have hV1 : kV g n adr (uE τ x (.inr (ci, (fsP g adr x D).set k (mv (gG g adr) v)))) ((x, k :: D) :: o) := hV.head (by rw [fsP_set hs hk (hv adr), opE_o hs hc])
  rcases hL with ⟨h1, h2⟩ | h1
  · exact n_putF x k hd h1 h2 hx rfl hτ (by rw [fsP_len hs]; exact hk) (hn adr) (hfit adr) (kk adr _ hV1)
  · exact n_putI x k hd h1 hx rfl hτ (by rw [fsP_len hs]; exact hk) (hn adr) (hfit adr) (kk adr _ hV1)
theorem k_getf {index ci N x : Nat} {v : Value} {D : List Nat} (k : Nat) (hd : decode μ.2.1 pc = .ok (.getfield index, 3)) (hL : mFL μ.1.cls index ci k) (hs : mshp x = (ci, N)) (hc : ci ≤ 10) (hk : k < N) (hx : x < n) (hD : D.contains k = true) (hv : ∀ adr, mv (gG g adr) v = mfv (gG g adr) s00 ci x k) (hlk : o.lookup x = some D) (kk : kW g l d μ (pc + 3) ls (v :: st) n o c0 s0 t) : kW g l d μ pc ls (.ref x :: st) n o c0 s0 t := by
  intro adr τ hV
  have hτ : τ x = .inr (ci, fsP g adr x D) := ((hV x hx).1 D hlk).trans (opE_o hs hc)
  refine n_getR x k hd hL hx rfl hτ (v := mv (gG g adr) v) (by rw [fsP_at hs hk, if_pos hD, hv adr]) (kk adr τ hV)
theorem k_iast {x N : Nat} {i v : Int32} {D : List Nat} (j : Nat) (hd : decode μ.2.1 pc = .ok (.iastore, 1)) (hs : mshp x = (11, N)) (hx : x < n) (hi : i = nI j) (hj : j < N) (hN : N ≤ 256) (hv : v = σi x j) (kk : kW g l d μ (pc + 1) ls st n ((x, j :: D) :: o) c0 s0 t) : kW g l d μ pc ls (.int v :: .int i :: .ref x :: st) n ((x, D) :: o) c0 s0 t := by
  intro adr τ hV
  have hτ : τ x = .inl (g.2.1 0, N, .inl (fun j => if D.contains j = true then σi x j else 0)) := by
    rw [(hV x hx).1 D lk_eq]
    unfold opE
    rw [hs, if_pos rfl]
  refine n_iast x j hd hx rfl hτ hi hj hN (kk adr _ (hV.head ?_))
  unfold opE
  rw [hs, if_pos rfl]
  have e : upd (fun j => if D.contains j = true then σi x j else 0) j v = fun k => if (j :: D).contains k = true then σi x k else 0 := by
    funext k
    unfold upd
    by_cases e : k = j
    · subst e
      rw [if_pos rfl, if_pos (ct_cons.mpr (Or.inl rfl)), hv]
    · rw [if_neg e]
      show (if D.contains k = true then σi x k else 0) = _
      by_cases hc : D.contains k = true
      · rw [if_pos hc, if_pos (ct_cons.mpr (Or.inr hc))]
      · rw [if_neg hc, if_neg (fun h => (ct_cons.mp h).elim e hc)]
  rw [e]
def isI : FieldType → Bool
  | .int => true
  | .boolean => true
  | _ => false
def isJ : FieldType → Bool
  | .long => true
  | _ => false
theorem isI_d {t : FieldType} (h : isI t = true) : defaultValue t = .int 0 := by cases t <;> first | rfl | cases h
theorem isJ_d {t : FieldType} (h : isJ t = true) : defaultValue t = .long 0 := by cases t <;> first | rfl | cases h
def ful (ci N x : Nat) (D : List Nat) : Bool := (List.range N).all (fun k => D.contains k || (decide (mkd ci k = 0) && decide (σi x k = 0) && isI (mFT ci k)) || (decide (mkd ci k = 2) && isJ (mFT ci k)))
theorem kV.close {adr : Nat → Nat} {τ : Nat → va_E} {x : Nat} {D : List Nat} (h : kV g n adr τ ((x, D) :: o)) (hx : x < n) (hl : o.lookup x = none) (hc : clE g adr x (opE g adr x D)) : kV g n adr τ o := by
  intro y hy
  by_cases e1 : y = x
  · subst e1
    refine ⟨fun D2 hD => ?_, fun _ => ?_⟩
    · rw [hl] at hD; cases hD
    · rw [(h y hy).1 D lk_eq]; exact hc
  · have h9 := h y hy
    rw [lk_ne e1] at h9
    exact h9
theorem k_close {x ci N : Nat} {D : List Nat} (hs : mshp x = (ci, N)) (hc : ci ≤ 10) (hx : x < n) (hl : o.lookup x = none) (hf : ful ci N x D = true) (kk : kW g l d μ pc ls st n o c0 s0 t) : kW g l d μ pc ls st n ((x, D) :: o) c0 s0 t := by
  intro adr τ hV
  refine kk adr τ (hV.close hx hl (fun H h => ?_))
  rw [opE_o hs hc] at h
  rw [mE_o hs hc]
  have e : fsP g adr x D = (List.range N).map (mfv (gG g adr) s00 ci x) := by
    unfold fsP
    rw [hs]
    refine List.map_congr_left fun k hk => ?_
    show (if D.contains k = true then mfv (gG g adr) s00 ci x k else defaultValue (mFT ci k)) = _
    have h9 : (D.contains k || (decide (mkd ci k = 0) && decide (σi x k = 0) && isI (mFT ci k)) || (decide (mkd ci k = 2) && isJ (mFT ci k))) = true := List.all_eq_true.mp hf k hk
    by_cases hD : D.contains k = true
    · rw [if_pos hD]
    · rw [if_neg hD]
      rcases Bool.or_eq_true_iff.mp h9 with h1 | h1
      · rcases Bool.or_eq_true_iff.mp h1 with h2 | h2
        · exact absurd h2 hD
        · obtain ⟨h3, h4⟩ := Bool.and_eq_true_iff.mp h2
          obtain ⟨h5, h6⟩ := Bool.and_eq_true_iff.mp h3
          rw [isI_d h4]
          unfold mfv
          rw [of_decide_eq_true h5]
          show Value.int 0 = Value.int (σi x k)
          rw [of_decide_eq_true h6]
      · obtain ⟨h3, h4⟩ := Bool.and_eq_true_iff.mp h1
        rw [isJ_d h4]
        unfold mfv
        rw [of_decide_eq_true h3]
        rfl
  rw [← e]
  exact h
theorem k_closeA {x N : Nat} {D : List Nat} (hs : mshp x = (11, N)) (hx : x < n) (hl : o.lookup x = none) (hf : ∀ j, D.contains j = false → σi x j = 0) (kk : kW g l d μ pc ls st n o c0 s0 t) : kW g l d μ pc ls st n ((x, D) :: o) c0 s0 t := by
  intro adr τ hV
  refine kk adr τ (hV.close hx hl (fun H h => ?_))
  rw [mE_i hs]
  unfold opE at h
  rw [hs, if_pos rfl] at h
  have e : (fun j => if D.contains j = true then σi x j else 0) = s00.1 x := by
    funext j
    show _ = σi x j
    by_cases hD : D.contains j = true
    · rw [if_pos hD]
    · rw [if_neg hD, hf j (by simpa using hD)]
  rw [← e]
  exact h
theorem kMet.of {As : List Value} {ls0 ls1 : List (Nat × Value)} {mc ms n1 pc1 : Nat} {o1 : oL} (hpl : plainName μ.1.cls = true) (hlen : (lg_sl As).length ≤ μ.2.2.1) (hls : lv_args 0 As = ls0) (hret : μ.2.2.2 = none) (hd : decode μ.2.1 pc1 = .ok (.return_, 1)) (h : kW g l d μ 0 ls0 [] n o mc ms (pc1, ls1, [], n1, o1)) : kMet g l d μ As n o mc ms n1 o1 := by
  intro adr τ hV
  refine nMet.of hpl (by rw [lg_sl_map]; exact hlen) (ls0 := ls0.map (mlv (gG g adr))) (by rw [lv_args_map, hls]) hret ?_
  refine (h adr τ hV).post (fun pc2 ls2 st2 n2 adr2 τ2 q => ?_)
  obtain ⟨rfl, -, q3, rfl, q5, q6⟩ := q
  exact ⟨hd, q3, rfl, q5, q6⟩
theorem k_callI {μ1 : mM} {x index na d1 mc ms n1 : Nat} {o1 : oL} {As stk : List Value} (hd : decode μ.2.1 pc = .ok (.invokespecial index, 3)) (hC : nCI μ.1.cls index na μ1) (hd1 : d1 < d) (hn : As.length = na) (hst : stk = As.reverse ++ .ref x :: st) (hw : (st.map fun v => v.category).sum ≤ 8) (hnn : n ≤ n1) (hl : ls.all (fun q => rfv n q.2) = true) (hst0 : st.all (rfv n) = true)
    (hM : kMet g l d1 μ1 (.ref x :: As) n o mc ms n1 o1) (k : kW g l d μ (pc + 3) ls st n1 o1 c0 s0 t) : kW g l d μ pc ls stk n o (c0 + mc) (s0 + ms) t := by
  subst hst
  intro adr τ hV
  refine n_callI (As := As.map (mv (gG g adr))) (st := st.map (mv (gG g adr))) (a := adr x) hd hC hd1 (by rw [List.length_map]; exact hn) (by rw [List.map_append, List.map_reverse]; rfl) (by rw [mv_cats]; exact hw) (hM adr τ hV) ?_
  rintro n2 adr1 τ1 ⟨rfl, hV1, ha⟩
  exact k_grow (n := n) hnn ha hV1 hl rfl (mvs_ext ha hst0) k
end KM

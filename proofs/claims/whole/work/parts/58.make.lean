/-! ===== making: a machine whose world grows, cell by cell ===== -/
abbrev nG : Type := va_G × (Nat → ClassId) × (Nat → Prop) × Nat × (Nat → Int32)
def uN (f : Nat → Nat) (n q : Nat) : Nat → Nat := fun y => if y = n then q else f y
def uE (f : Nat → va_E) (n : Nat) (e : va_E) : Nat → va_E := fun y => if y = n then e else f y
theorem uN_ne {f : Nat → Nat} {n q y : Nat} (h : y ≠ n) : uN f n q y = f y := if_neg h
theorem uE_ne {f : Nat → va_E} {n y : Nat} {e : va_E} (h : y ≠ n) : uE f n e y = f y := if_neg h
theorem uN_eq {f : Nat → Nat} {n q : Nat} : uN f n q n = q := if_pos rfl
theorem uE_eq {f : Nat → va_E} {n : Nat} {e : va_E} : uE f n e n = e := if_pos rfl
/-- the first n cells -/
def nw (n : Nat) (adr : Nat → Nat) (τ : Nat → va_E) : va_W := (List.range n).map (fun x => (adr x, τ x))
theorem nw_len {n : Nat} {adr : Nat → Nat} {τ : Nat → va_E} : (nw n adr τ).length = n := by unfold nw; rw [List.length_map, List.length_range]
theorem nw_at {n x : Nat} {adr : Nat → Nat} {τ : Nat → va_E} (h : x < n) : (nw n adr τ)[x]? = some (adr x, τ x) := by
  unfold nw
  rw [List.getElem?_map, List.getElem?_range h]
  rfl
theorem nw_no {n x : Nat} {adr : Nat → Nat} {τ : Nat → va_E} (h : ¬ x < n) : (nw n adr τ)[x]? = none := List.getElem?_eq_none (by rw [nw_len]; omega)
theorem nw_push {n q : Nat} {adr : Nat → Nat} {τ : Nat → va_E} {e : va_E} : nw n adr τ ++ [(q, e)] = nw (n + 1) (uN adr n q) (uE τ n e) := by
  apply List.ext_getElem?
  intro y
  by_cases h : y < n
  · rw [List.getElem?_append_left (by rw [nw_len]; exact h), nw_at h, nw_at (by omega), uN_ne (by omega), uE_ne (by omega)]
  · by_cases h2 : y = n
    · subst h2
      rw [List.getElem?_append_right (by rw [nw_len]; omega), nw_len, Nat.sub_self, nw_at (by omega), uN_eq, uE_eq]
      rfl
    · rw [nw_no (by omega), List.getElem?_eq_none (by rw [List.length_append, nw_len, List.length_singleton]; omega)]
theorem nw_set {n x : Nat} {adr : Nat → Nat} {τ : Nat → va_E} {e : va_E} (hx : x < n) : (nw n adr τ).set x (adr x, e) = nw n adr (uE τ x e) := by
  apply List.ext_getElem?
  intro y
  by_cases h : y = x
  · subst h
    rw [List.getElem?_set_self (by rw [nw_len]; exact hx), nw_at hx, uE_eq]
  · rw [List.getElem?_set_ne (fun q => h q.symm)]
    by_cases h2 : y < n
    · rw [nw_at h2, nw_at h2, uE_ne h]
    · rw [nw_no h2, nw_no h2]
abbrev ntys (g : nG) : List (ClassId × FieldType) := [(g.2.1 0, .int), (g.2.1 1, .array .int), (g.2.1 2, .boolean)]
def nnest : List Cond := [.methodLinkNest "DodgemDebate" 11 ⟨"DodgemDebate$Text", "<init>", "()V"⟩ "DodgemDebate", .methodLinkNest "DodgemDebate" 35 ⟨"DodgemDebate$Events", "<init>", "()V"⟩ "DodgemDebate", .methodLinkNest "DodgemDebate" 42 ⟨"DodgemDebate$Sightings", "<init>", "()V"⟩ "DodgemDebate", .methodLinkNest "DodgemDebate" 49 ⟨"DodgemDebate$Sheets", "<init>", "()V"⟩ "DodgemDebate", .methodLinkNest "DodgemDebate" 56 ⟨"DodgemDebate$Run", "<init>", "()V"⟩ "DodgemDebate", .methodLinkNest "DodgemDebate" 72 ⟨"DodgemDebate$Hash", "<init>", "()V"⟩ "DodgemDebate", .methodLinkNest "DodgemDebate$Trials" 20 ⟨"DodgemDebate$Events", "<init>", "()V"⟩ "DodgemDebate", .methodLinkNest "DodgemDebate$Trials" 27 ⟨"DodgemDebate$Run", "<init>", "()V"⟩ "DodgemDebate"]
def nNs (U : State) : Prop := ∀ w ∈ nnest, va_Nw w U
theorem nNs.warm {s U : State} (hW : s.WarmedH U.vm) (h : nNs s) : nNs U := by
  intro w hw
  have h9 := h w hw
  simp only [nnest, List.mem_cons, List.not_mem_nil, or_false] at hw
  rcases hw with rfl | rfl | rfl | rfl | rfl | rfl | rfl | rfl <;> exact va_Nw.warmM hW h9
theorem nNs.same {s U : State} (e : s.vm = U.vm) (h : nNs s) : nNs U := by
  intro w hw
  have h9 := h w hw
  have hg : w.onTables = true := by
    simp only [nnest, List.mem_cons, List.not_mem_nil, or_false] at hw
    rcases hw with rfl | rfl | rfl | rfl | rfl | rfl | rfl | rfl <;> rfl
  exact va_Nw.same hg e h9
def nEnv (g : nG) (U : State) : Prop := va_K g.1 vwCl (ntys g) U ∧ (va_AOA .int U ∧ nNs U) ∧ (∀ q, U.heap.size ≤ q → g.2.2.1 q)
theorem nEnv.warm {g : nG} {s U : State} {H : Heap} {locs : List Loc} (hW : s.WarmedH U.vm) (hS : va_S g.2.2.1 s.heap H locs) (hU : U.heap = H) (h : nEnv g s) : nEnv g U :=
  ⟨va_K.moved hW.alike h.1, ⟨h.2.1.1.moved hW.alike, h.2.1.2.warm hW⟩, fun q hq => h.2.2 q (Nat.le_trans hS.1 (by rw [← hU]; exact hq))⟩
theorem nEnv.calling {g : nG} {U : State} (f : JFrame) (mk : MethodId) (a : Array Value) (h : nEnv g U) : nEnv g (U.calling f mk a) :=
  ⟨va_K.moved (U := U.calling f mk a) (Vm.Alike.refl U.vm) h.1, ⟨h.2.1.1.moved (U := U.calling f mk a) (Vm.Alike.refl U.vm), nNs.same (s := U) (U := U.calling f mk a) rfl h.2.1.2⟩, h.2.2⟩
def nFix (g : nG) (μ : mM) (p : Program) (s : State) (m : MethodId) (args : Array Value) (meth : Method) (c : Code) : Prop :=
  p.tables.exec = Jvm.exec ∧ c.code = μ.2.1 ∧ c.maxLocals = μ.2.2.1 ∧ meth.sig.returnType = μ.2.2.2 ∧ s.vm.findClass μ.1.cls = some m.cls ∧ (∀ w ∈ mtbl, w.before args s = true) ∧ meth.locks = false ∧ (μ.1.name = "<init>" → meth.name = "<init>") ∧ nEnv g s
/-- from this frame, with these cells, and so many cells and places to spare, it comes to a frame that Q allows -/
def nW (g : nG) (l : Launch) (d : Nat) (μ : mM) (pc : Nat) (ls : List (Nat × Value)) (st : List Value) (n : Nat) (adr : Nat → Nat) (τ : Nat → va_E) (c0 s0 : Nat) (Q : Nat → List (Nat × Value) → List Value → Nat → (Nat → Nat) → (Nat → va_E) → Prop) : Prop :=
  ∀ (p : Program) (e : Env) (s : State) (m : MethodId) (args : Array Value) (below : List Frame) (meth : Method) (c : Code) (H : Heap) (locs : List Loc) (cells slots : Nat) (lsr : Array Slot) (Z : State → Prop) (R : Room),
    (d ≤ R.frames ∧ 39 * d ≤ R.locals ∧ cells + c0 ≤ R.cells ∧ slots + s0 ≤ R.slots) → nFix g μ p s m args meth c → va_P g.1 vwCl (nw n adr τ) H → va_D g.2.2.1 (nw n adr τ) → va_S g.2.2.1 s.heap H locs → lv_has lsr μ.2.2.1 ls →
    (∀ (pc1 : Nat) (ls1 : List (Nat × Value)) (st1 : List Value) (n1 : Nat) (adr1 : Nat → Nat) (τ1 : Nat → va_E) (H1 : Heap) (locs1 : List Loc) (lsr1 : Array Slot) (cells1 slots1 : Nat), Q pc1 ls1 st1 n1 adr1 τ1 → va_P g.1 vwCl (nw n1 adr1 τ1) H1 → va_D g.2.2.1 (nw n1 adr1 τ1) → va_S g.2.2.1 s.heap H1 locs1 → lv_has lsr1 μ.2.2.1 ls1 → cells1 ≤ cells + c0 → slots1 ≤ slots + s0 → W p l e R s m args below meth c H1 locs1 cells1 slots1 Z (F0 m pc1 lsr1 st1)) →
    W p l e R s m args below meth c H locs cells slots Z (F0 m pc lsr st)
abbrev nrm (d mc ms : Nat) : Room := { frames := d, cells := mc, slots := ms, locals := 39 * d }
def nMet (g : nG) (l : Launch) (d : Nat) (μ : mM) (As : List Value) (n : Nat) (adr : Nat → Nat) (τ : Nat → va_E) (mc ms : Nat) (P : Nat → (Nat → Nat) → (Nat → va_E) → Prop) : Prop :=
  Met l μ.1 (mwd μ) (nrm d mc ms) (va_Pc As (fun U => va_P g.1 vwCl (nw n adr τ) U.heap ∧ va_D g.2.2.1 (nw n adr τ) ∧ nEnv g U)) (fun _ st o t => (∃ (n1 : Nat) (adr1 : Nat → Nat) (τ1 : Nat → va_E), P n1 adr1 τ1 ∧ o = .returned none ∧ va_P g.1 vwCl (nw n1 adr1 τ1) t.heap ∧ va_D g.2.2.1 (nw n1 adr1 τ1)) ∧ va_F g.2.2.1 st t) mc ms g.2.2.1
section NM
variable {g : nG} {l : Launch} {d : Nat} {μ : mM} {pc : Nat} {ls : List (Nat × Value)} {st : List Value} {n : Nat} {adr : Nat → Nat} {τ : Nat → va_E} {c0 s0 : Nat} {Q : Nat → List (Nat × Value) → List Value → Nat → (Nat → Nat) → (Nat → va_E) → Prop}
theorem n_stop (h : Q pc ls st n adr τ) : nW g l d μ pc ls st n adr τ c0 s0 Q :=
  fun p e s m args below meth c H locs cells slots lsr Z R hR hF hP hD hS hl hQ => hQ pc ls st n adr τ H locs lsr cells slots h hP hD hS hl (Nat.le_add_right _ _) (Nat.le_add_right _ _)
theorem n_aload_n {i : Fin 4} {x : Nat} (hd : decode μ.2.1 pc = .ok (.aload_n i, 1)) (j : Nat) (hj : ls[j]? = some ((i : Nat), .ref x)) (k : nW g l d μ (pc + 1) ls (.ref x :: st) n adr τ c0 s0 Q) : nW g l d μ pc ls st n adr τ c0 s0 Q :=
  fun p e s m args below meth c H locs cells slots lsr Z R hR hF hP hD hS hl hQ => lv_aload_n hF.1 hF.2.1 hd rfl (lv_at hl j hj) (k p e s m args below meth c H locs cells slots lsr Z R hR hF hP hD hS hl hQ)
theorem n_aload {i : Nat} {x : Nat} (hd : decode μ.2.1 pc = .ok (.aload i, 2)) (j : Nat) (hj : ls[j]? = some (i, .ref x)) (k : nW g l d μ (pc + 2) ls (.ref x :: st) n adr τ c0 s0 Q) : nW g l d μ pc ls st n adr τ c0 s0 Q :=
  fun p e s m args below meth c H locs cells slots lsr Z R hR hF hP hD hS hl hQ => lv_aload hF.1 hF.2.1 hd (lv_at hl j hj) (k p e s m args below meth c H locs cells slots lsr Z R hR hF hP hD hS hl hQ)
theorem n_iload_n {i : Fin 4} {x : Int32} (hd : decode μ.2.1 pc = .ok (.iload_n i, 1)) (j : Nat) (hj : ls[j]? = some ((i : Nat), .int x)) (k : nW g l d μ (pc + 1) ls (.int x :: st) n adr τ c0 s0 Q) : nW g l d μ pc ls st n adr τ c0 s0 Q :=
  fun p e s m args below meth c H locs cells slots lsr Z R hR hF hP hD hS hl hQ => lv_iload_n hF.1 hF.2.1 hd rfl (lv_at hl j hj) (k p e s m args below meth c H locs cells slots lsr Z R hR hF hP hD hS hl hQ)
theorem n_dup {va : Value} (hd : decode μ.2.1 pc = .ok (.dup, 1)) (hc : va.category = 1) (k : nW g l d μ (pc + 1) ls (va :: va :: st) n adr τ c0 s0 Q) : nW g l d μ pc ls (va :: st) n adr τ c0 s0 Q :=
  fun p e s m args below meth c H locs cells slots lsr Z R hR hF hP hD hS hl hQ => lv_dup hF.1 hF.2.1 hd hc (k p e s m args below meth c H locs cells slots lsr Z R hR hF hP hD hS hl hQ)
theorem n_iconst {z : Int} {v : Int32} (hd : decode μ.2.1 pc = .ok (.iconst z, 1)) (hv : Int32.ofInt z = v) (k : nW g l d μ (pc + 1) ls (.int v :: st) n adr τ c0 s0 Q) : nW g l d μ pc ls st n adr τ c0 s0 Q :=
  fun p e s m args below meth c H locs cells slots lsr Z R hR hF hP hD hS hl hQ => lv_iconst hF.1 hF.2.1 hd hv (k p e s m args below meth c H locs cells slots lsr Z R hR hF hP hD hS hl hQ)
theorem n_bipush {z : Int} {v : Int32} (hd : decode μ.2.1 pc = .ok (.bipush z, 2)) (hv : (Int8.ofInt z).toInt32 = v) (k : nW g l d μ (pc + 2) ls (.int v :: st) n adr τ c0 s0 Q) : nW g l d μ pc ls st n adr τ c0 s0 Q :=
  fun p e s m args below meth c H locs cells slots lsr Z R hR hF hP hD hS hl hQ => lv_bipush hF.1 hF.2.1 hd hv (k p e s m args below meth c H locs cells slots lsr Z R hR hF hP hD hS hl hQ)
theorem n_sipush {z : Int} {v : Int32} (hd : decode μ.2.1 pc = .ok (.sipush z, 3)) (hv : (Int16.ofInt z).toInt32 = v) (k : nW g l d μ (pc + 3) ls (.int v :: st) n adr τ c0 s0 Q) : nW g l d μ pc ls st n adr τ c0 s0 Q :=
  fun p e s m args below meth c H locs cells slots lsr Z R hR hF hP hD hS hl hQ => lv_sipush hF.1 hF.2.1 hd hv (k p e s m args below meth c H locs cells slots lsr Z R hR hF hP hD hS hl hQ)
theorem n_astore_n {i : Fin 4} {x : Nat} {ls1 : List (Nat × Value)} (hd : decode μ.2.1 pc = .ok (.astore_n i, 1)) (hn : (i : Nat) < μ.2.2.1) (h1 : (((i : Nat), Value.ref x) :: ls.filter (fun q => !(q.1 == (i : Nat)) && !(q.1 + 1 == (i : Nat) && q.2.category == 2))) = ls1) (k : nW g l d μ (pc + 1) ls1 st n adr τ c0 s0 Q) : nW g l d μ pc ls (.ref x :: st) n adr τ c0 s0 Q :=
  fun p e s m args below meth c H locs cells slots lsr Z R hR hF hP hD hS hl hQ => lv_astore_n hF.1 hF.2.1 hd rfl hl hn h1 (fun ls2 hl2 => k p e s m args below meth c H locs cells slots ls2 Z R hR hF hP hD hS hl2 hQ)
theorem n_istore_n {i : Fin 4} {x : Int32} {ls1 : List (Nat × Value)} (hd : decode μ.2.1 pc = .ok (.istore_n i, 1)) (hn : (i : Nat) < μ.2.2.1) (h1 : (((i : Nat), Value.int x) :: ls.filter (fun q => !(q.1 == (i : Nat)) && !(q.1 + 1 == (i : Nat) && q.2.category == 2))) = ls1) (k : nW g l d μ (pc + 1) ls1 st n adr τ c0 s0 Q) : nW g l d μ pc ls (.int x :: st) n adr τ c0 s0 Q :=
  fun p e s m args below meth c H locs cells slots lsr Z R hR hF hP hD hS hl hQ => lv_istore_n hF.1 hF.2.1 hd rfl hl hn h1 (fun ls2 hl2 => k p e s m args below meth c H locs cells slots ls2 Z R hR hF hP hD hS hl2 hQ)
theorem nW.post {Q1 : Nat → List (Nat × Value) → List Value → Nat → (Nat → Nat) → (Nat → va_E) → Prop} (h : nW g l d μ pc ls st n adr τ c0 s0 Q1) (hq : ∀ pc1 ls1 st1 n1 adr1 τ1, Q1 pc1 ls1 st1 n1 adr1 τ1 → Q pc1 ls1 st1 n1 adr1 τ1) : nW g l d μ pc ls st n adr τ c0 s0 Q :=
  fun p e s m args below meth c H locs cells slots lsr Z R hR hF hP hD hS hl hQ => h p e s m args below meth c H locs cells slots lsr Z R hR hF hP hD hS hl (fun pc1 ls1 st1 n1 adr1 τ1 H1 locs1 lsr1 cells1 slots1 h1 => hQ pc1 ls1 st1 n1 adr1 τ1 H1 locs1 lsr1 cells1 slots1 (hq _ _ _ _ _ _ h1))
theorem n_objInit {idx a : Nat} (hd : decode μ.2.1 pc = .ok (.invokespecial idx, 3)) (h1 : Cond.methodLink μ.1.cls idx Lib.objectInit ∈ mtbl) (h2 : Cond.instanceMethod Lib.objectInit ∈ mtbl) (h3 : Cond.code Lib.objectInit ⟨#[0xb1]⟩ 1 none ∈ mtbl) (hd1 : 1 ≤ d) (hw : (st.map fun v => v.category).sum ≤ 8) (k : nW g l d μ (pc + 3) ls st n adr τ c0 s0 Q) : nW g l d μ pc ls (.ref a :: st) n adr τ c0 s0 Q :=
  fun p e s m args below meth c H locs cells slots lsr Z R hR hF hP hD hS hl hQ => W.objInit hF.1 hF.2.1 hF.2.2.2.2.1 (hF.2.2.2.2.2.1 _ h1) (hF.2.2.2.2.2.1 _ h2) (hF.2.2.2.2.2.1 _ h3) (g := F0 m pc lsr (.ref a :: st)) rfl (by rw [hF.2.2.1]; exact hl.1) rfl hd (by omega) (by
    have h9 : 2 * (F0 m pc lsr (.ref a :: st)).monitorRoom + (st.map fun v => v.category).sum ≤ 8 := lv_room hw
    omega) (k p e s m args below meth c H locs cells slots lsr Z R hR hF hP hD hS hl hQ)
/-- the fields of a new object of class ci -/
def dfl (ci N : Nat) : List Value := (List.range N).map (fun k => defaultValue (mFT ci k))
theorem dfl_V {ci N j : Nat} (h : j < N) : defaultValue (mFT ci j) = vp_V (dfl ci N) j := by
  unfold vp_V dfl
  rw [List.getD_eq_getElem?_getD, List.getElem?_map, List.getElem?_range h]
  rfl
def nNW (own : String) (index ci N : Nat) : Prop := ∃ q : vw_C, vwCl[ci]? = some q ∧ q.2.2 = N ∧ (∀ w ∈ u_ws q.1 q.2.1 q.2.2, w ∈ mtbl) ∧ (∀ k, k < q.2.2 → parseFieldDescriptor (q.2.1 k).2.2.1 = some (mFT ci k)) ∧ Cond.classLink own index q.1 ∈ mtbl ∧ Cond.instantiable q.1 q.2.2 ∈ mtbl ∧ Cond.initialized q.1 ∈ mtbl
theorem n_new {index ci N : Nat} (hd : decode μ.2.1 pc = .ok (.new index, 3)) (hN : nNW μ.1.cls index ci N) (k : ∀ q, nW g l d μ (pc + 3) ls (.ref q :: st) (n + 1) (uN adr n q) (uE τ n (.inr (ci, dfl ci N))) c0 s0 Q) : nW g l d μ pc ls st n adr τ (c0 + 1) (s0 + N) Q := by
  intro p e s m args below meth c H locs cells slots lsr Z R hR hF hP hD hS hl hQ
  obtain ⟨q, h1, h2, h3, h4, h5, h6, h7⟩ := hN
  subst h2
  have hts := hF.2.2.2.2.2.1
  refine va_new (ci := ci) (fs := dfl ci q.2.2) (C := q.1) (T := q.2.1) (N := q.2.2) hF.1 hF.2.1 hts h3 (mFT ci) h4 hF.2.2.2.2.1 (hts _ h5) (hts _ h6) (hts _ h7) hF.2.2.2.2.2.2.2.2.1 hP hD hS hF.2.2.2.2.2.2.2.2.2.2 h1 (fun j hj => dfl_V hj) (by omega) (by omega) hd (fun a H1 hP1 hD1 hS1 => ?_)
  rw [nw_push] at hP1 hD1
  exact k a p e s m args below meth c H1 locs (cells + 1) (slots + q.2.2) lsr Z R ⟨hR.1, hR.2.1, by omega, by omega⟩ hF hP1 hD1 hS1 hl (fun pc1 ls1 st1 n1 adr1 τ1 H2 locs2 lsr2 cells2 slots2 q1 q2 q3 q4 q5 q6 q7 => hQ pc1 ls1 st1 n1 adr1 τ1 H2 locs2 lsr2 cells2 slots2 q1 q2 q3 q4 q5 (by omega) (by omega))
theorem n_newI {i : Int32} {N : Nat} (hd : decode μ.2.1 pc = .ok (.newarray .int, 2)) (ha : Cond.arrayClass .int ∈ mtbl) (hi : i = nI N) (hN : N ≤ 1000) (k : ∀ q, nW g l d μ (pc + 2) ls (.ref q :: st) (n + 1) (uN adr n q) (uE τ n (.inl (g.2.1 0, N, .inl (fun _ => 0)))) c0 s0 Q) : nW g l d μ pc ls (.int i :: st) n adr τ (c0 + 1) (s0 + N) Q := by
  subst hi
  intro p e s m args below meth c H locs cells slots lsr Z R hR hF hP hD hS hl hQ
  have hts := hF.2.2.2.2.2.1
  have hK := hF.2.2.2.2.2.2.2.2.1
  refine va_newa (N' := N) (a0 := (N, .inl (fun _ => 0))) hF.1 hF.2.1 (atype := .int) (hts _ ha) (ty := .int) rfl hK hP hD hS hF.2.2.2.2.2.2.2.2.2.2 (fun _ => rfl) (nI_pos (by omega)) (nI_clamp (by omega)) (by show N * 4 ≤ 536870912; omega) (by omega) (by omega) hd (fun q cA H1 hK1 hP1 hD1 hS1 => ?_)
  have e1 : s.vm.findClass ("[" ++ FieldType.int.toString) = some (g.2.1 0) := (hK.2 0 _ rfl).2
  have e2 : s.vm.findClass ("[" ++ FieldType.int.toString) = some cA := (hK1.2 3 (cA, .int) rfl).2
  have e3 : cA = g.2.1 0 := Option.some.inj (e2.symm.trans e1)
  subst e3
  rw [nw_push] at hP1 hD1
  exact k q p e s m args below meth c H1 locs (cells + 1) (slots + N) lsr Z R ⟨hR.1, hR.2.1, by omega, by omega⟩ hF hP1 hD1 hS1 hl (fun pc1 ls1 st1 n1 adr1 τ1 H2 locs2 lsr2 cells2 slots2 q1 q2 q3 q4 q5 q6 q7 => hQ pc1 ls1 st1 n1 adr1 τ1 H2 locs2 lsr2 cells2 slots2 q1 q2 q3 q4 q5 (by omega) (by omega))
theorem n_newZ {i : Int32} {N : Nat} (hd : decode μ.2.1 pc = .ok (.newarray .boolean, 2)) (ha : Cond.arrayClass .boolean ∈ mtbl) (hi : i = nI N) (hN : N ≤ 1000) (k : ∀ q, nW g l d μ (pc + 2) ls (.ref q :: st) (n + 1) (uN adr n q) (uE τ n (.inl (g.2.1 2, N, .inl (fun _ => 0)))) c0 s0 Q) : nW g l d μ pc ls (.int i :: st) n adr τ (c0 + 1) (s0 + N) Q := by
  subst hi
  intro p e s m args below meth c H locs cells slots lsr Z R hR hF hP hD hS hl hQ
  have hts := hF.2.2.2.2.2.1
  have hK := hF.2.2.2.2.2.2.2.2.1
  refine va_newa (N' := N) (a0 := (N, .inl (fun _ => 0))) hF.1 hF.2.1 (atype := .boolean) (hts _ ha) (ty := .boolean) rfl hK hP hD hS hF.2.2.2.2.2.2.2.2.2.2 (fun _ => rfl) (nI_pos (by omega)) (nI_clamp (by omega)) (by show N * 1 ≤ 536870912; omega) (by omega) (by omega) hd (fun q cA H1 hK1 hP1 hD1 hS1 => ?_)
  have e1 : s.vm.findClass ("[" ++ FieldType.boolean.toString) = some (g.2.1 2) := (hK.2 2 _ rfl).2
  have e2 : s.vm.findClass ("[" ++ FieldType.boolean.toString) = some cA := (hK1.2 3 (cA, .boolean) rfl).2
  have e3 : cA = g.2.1 2 := Option.some.inj (e2.symm.trans e1)
  subst e3
  rw [nw_push] at hP1 hD1
  exact k q p e s m args below meth c H1 locs (cells + 1) (slots + N) lsr Z R ⟨hR.1, hR.2.1, by omega, by omega⟩ hF hP1 hD1 hS1 hl (fun pc1 ls1 st1 n1 adr1 τ1 H2 locs2 lsr2 cells2 slots2 q1 q2 q3 q4 q5 q6 q7 => hQ pc1 ls1 st1 n1 adr1 τ1 H2 locs2 lsr2 cells2 slots2 q1 q2 q3 q4 q5 (by omega) (by omega))
/-- the addresses and cells behind new int[N][K] -/
def gN (adr : Nat → Nat) (n N q : Nat) (r : Nat → Nat) : Nat → Nat := fun y => if y < n then adr y else if y = n then q else if y < n + 1 + N then r (y - (n + 1)) else adr y
def gE (g : nG) (τ : Nat → va_E) (n N K : Nat) (r : Nat → Nat) : Nat → va_E := fun y => if y < n then τ y else if y = n then .inl (g.2.1 1, N, .inr (.inr (.inr (.inr (fun j => some (r j)))))) else .inl (g.2.1 0, K, .inl (fun _ => 0))
theorem gN_lt {adr r : Nat → Nat} {n N q y : Nat} (h : y < n) : gN adr n N q r y = adr y := if_pos h
theorem gN_eq {adr r : Nat → Nat} {n N q : Nat} : gN adr n N q r n = q := by
  unfold gN
  rw [if_neg (Nat.lt_irrefl n), if_pos rfl]
theorem gN_row {adr r : Nat → Nat} {n N q y : Nat} (h1 : n < y) (h2 : y < n + 1 + N) : gN adr n N q r y = r (y - (n + 1)) := by
  unfold gN
  rw [if_neg (by omega), if_neg (by omega), if_pos h2]
theorem gN_hi {adr r : Nat → Nat} {n N q y : Nat} (h1 : n + 1 + N ≤ y) : gN adr n N q r y = adr y := by
  unfold gN
  rw [if_neg (by omega), if_neg (by omega), if_neg (by omega)]
theorem gE_lt {g : nG} {τ : Nat → va_E} {r : Nat → Nat} {n N K y : Nat} (h : y < n) : gE g τ n N K r y = τ y := if_pos h
theorem gE_eq {g : nG} {τ : Nat → va_E} {r : Nat → Nat} {n N K : Nat} : gE g τ n N K r n = .inl (g.2.1 1, N, .inr (.inr (.inr (.inr (fun j => some (r j)))))) := by
  unfold gE
  rw [if_neg (Nat.lt_irrefl n), if_pos rfl]
theorem gE_row {g : nG} {τ : Nat → va_E} {r : Nat → Nat} {n N K y : Nat} (h1 : n < y) : gE g τ n N K r y = .inl (g.2.1 0, K, .inl (fun _ => 0)) := by
  unfold gE
  rw [if_neg (by omega), if_neg (by omega)]
theorem n_mna {i1 i2 : Int32} {index N K : Nat} (hd : decode μ.2.1 pc = .ok (.multianewarray index 2, 4)) (ha : Cond.arrayClass .int ∈ mtbl) (hc : Cond.classLink μ.1.cls index "[[I" ∈ mtbl) (e1 : i1 = nI N) (e2 : i2 = nI K) (hN : N ≤ 1000) (hK : K ≤ 1000) (k : ∀ q r, nW g l d μ (pc + 4) ls (.ref q :: st) (n + 1 + N) (gN adr n N q r) (gE g τ n N K r) c0 s0 Q) : nW g l d μ pc ls (.int i2 :: .int i1 :: st) n adr τ (c0 + 1 + N) (s0 + N + N * K) Q := by
  subst e1 e2
  intro p e s m args below meth c H locs cells slots lsr Z R hR hF hP hD hS hl hQ
  have hts := hF.2.2.2.2.2.1
  have hKn := hF.2.2.2.2.2.2.2.2.1
  have f1 : s.vm.findClass ("[" ++ FieldType.int.toString) = some (g.2.1 0) := (hKn.2 0 _ rfl).2
  have hcy : s.vm.findClass (FieldType.array .int).toString = some (g.2.1 0) := f1
  refine va_mna (X := nw n adr τ) (L := []) (f := τ) (ty := .int) (cy := g.2.1 0) (N' := N) (K' := K) (z := (K, .inl (fun _ => 0))) hF.1 hF.2.1 hF.2.2.2.2.1 (hts _ hc) hF.2.2.2.2.2.2.2.2.2.1.1 (hts _ ha) hcy hKn (by rw [show va_pl [] τ = [] from rfl, List.append_nil]; exact hP) (by rw [show va_pl [] τ = [] from rfl, List.append_nil]; exact hD) hS hF.2.2.2.2.2.2.2.2.2.2 (nI_pos (by omega)) (nI_pos (by omega)) (nI_clamp (by omega)) (nI_clamp (by omega)) (by omega) (by show K * 4 ≤ 536870912; omega) (by omega) rfl rfl (by omega) (by omega) (fun c9 => ?_) hd (fun q r cA H1 hr1 hr2 hK1 hP1 hD1 hS1 => ?_)
  · rw [vp_cell_i]
    show ({ cls := c9, slots := Array.replicate K (.int 0), vm := .none } : Cell) = _
    rw [arrV_new]
  have g1 : s.vm.findClass ("[" ++ (FieldType.array .int).toString) = some (g.2.1 1) := (hKn.2 1 _ rfl).2
  have g2 : s.vm.findClass ("[" ++ (FieldType.array .int).toString) = some cA := (hK1.2 3 (cA, .array .int) rfl).2
  have g3 : cA = g.2.1 1 := Option.some.inj (g2.symm.trans g1)
  subst g3
  have hat : ∀ y, y < n + 1 + N → ∃ e, ((nw n adr τ ++ [(q, .inl (g.2.1 1, N, .inr (.inr (.inr (.inr (fun i => if i < N then some (r i) else none))))))]) ++ va_pl ([] ++ (List.range N).map r) (vr_up τ ((List.range N).map r) (.inl (g.2.1 0, (K, .inl (fun _ => 0))))))[y]? = some (gN adr n N q r y, e) ∧ ∀ H9, va_at g.1 vwCl (gN adr n N q r y, e) H9 → va_at g.1 vwCl (gN adr n N q r y, gE g τ n N K r y) H9 := by
    intro y hy
    by_cases h : y < n
    · rw [List.getElem?_append_left (by rw [List.length_append, nw_len]; omega), List.getElem?_append_left (by rw [nw_len]; exact h), nw_at h, gN_lt h, gE_lt h]
      exact ⟨_, rfl, fun _ h => h⟩
    · by_cases h2 : y = n
      · subst h2
        rw [List.getElem?_append_left (by rw [List.length_append, nw_len, List.length_singleton]; omega), List.getElem?_append_right (by rw [nw_len]; omega), nw_len, Nat.sub_self, gN_eq, gE_eq]
        refine ⟨_, rfl, fun H9 h9 => ?_⟩
        have h9 : H9[q]? = some (vp_cell (g.2.1 1) (N, .inr (.inr (.inr (.inr (fun i => if i < N then some (r i) else none)))))) := h9
        show H9[q]? = some (vp_cell (g.2.1 1) (N, .inr (.inr (.inr (.inr (fun j => some (r j)))))))
        rw [h9, vp_cell_q, vp_cell_q]
        unfold arrV
        congr 2
        congr 1
        funext j
        show va_rf (if j.val < N then some (r j.val) else none) = _
        rw [if_pos j.isLt]
      · rw [List.getElem?_append_right (by rw [List.length_append, nw_len, List.length_singleton]; omega), List.length_append, nw_len, List.length_singleton, gN_row (by omega) hy, gE_row (by omega)]
        unfold va_pl
        rw [List.nil_append, List.getElem?_map, List.getElem?_map, List.getElem?_range (by omega)]
        refine ⟨_, rfl, fun H9 h9 => ?_⟩
        have e : vr_up τ ((List.range N).map r) (.inl (g.2.1 0, (K, .inl (fun _ => 0)))) (r (y - (n + 1))) = .inl (g.2.1 0, (K, .inl (fun _ => 0))) := vr_up_in (List.mem_map.mpr ⟨y - (n + 1), List.mem_range.mpr (by omega), rfl⟩)
        rw [e] at h9
        exact h9
  have hP2 : va_P g.1 vwCl (nw (n + 1 + N) (gN adr n N q r) (gE g τ n N K r)) H1 := fun y x hx => by
    by_cases h : y < n + 1 + N
    · rw [nw_at h] at hx
      cases hx
      obtain ⟨e, h1, h2⟩ := hat y h
      exact h2 _ (hP1 y _ h1)
    · rw [nw_no h] at hx
      cases hx
  have hD2 : va_D g.2.2.1 (nw (n + 1 + N) (gN adr n N q r) (gE g τ n N K r)) := by
    refine ⟨fun i j x y hx hy hxy => ?_, fun y x hx => ?_⟩
    · by_cases hi : i < n + 1 + N
      · by_cases hj : j < n + 1 + N
        · rw [nw_at hi] at hx
          rw [nw_at hj] at hy
          cases hx
          cases hy
          obtain ⟨e, h1, -⟩ := hat i hi
          obtain ⟨e', h1', -⟩ := hat j hj
          exact hD1.1 i j _ _ h1 h1' hxy
        · rw [nw_no hj] at hy; cases hy
      · rw [nw_no hi] at hx; cases hx
    · by_cases h : y < n + 1 + N
      · rw [nw_at h] at hx
        cases hx
        obtain ⟨e, h1, -⟩ := hat y h
        have h9 := hD1.2 y _ h1
        exact h9
      · rw [nw_no h] at hx; cases hx
  exact k q r p e s m args below meth c H1 locs (cells + 1 + N) (slots + N + N * K) lsr Z R ⟨hR.1, hR.2.1, by omega, by omega⟩ hF hP2 hD2 hS1 hl (fun pc1 ls1 st1 n1 adr1 τ1 H2 locs2 lsr2 cells2 slots2 q1 q2 q3 q4 q5 q6 q7 => hQ pc1 ls1 st1 n1 adr1 τ1 H2 locs2 lsr2 cells2 slots2 q1 q2 q3 q4 q5 (by omega) (by omega))
/-- a final field, in its constructor -/
def mFF (own : String) (index ci k : Nat) : Prop := mFL own index ci k ∧ ∃ q : vw_C, vwCl[ci]? = some q ∧ (q.2.1 k).2.2.2 = true ∧ (q.2.1 k).1 = own ∧ (∀ k, k < q.2.2 → parseFieldDescriptor (q.2.1 k).2.2.1 = some (mFT ci k)) ∧ ∀ a, a < q.2.2 → ∀ b, b < q.2.2 → a ≠ b → (q.2.1 a).2.1 ≠ (q.2.1 b).2.1
theorem n_putF {index ci a : Nat} {v : Value} {fs : List Value} (x k : Nat) (hd : decode μ.2.1 pc = .ok (.putfield index, 3)) (hL : mFF μ.1.cls index ci k) (hi : μ.1.name = "<init>") (hx : x < n) (ha : a = adr x) (hτ : τ x = .inr (ci, fs)) (hlen : k < fs.length) (hn : narrow (mFT ci k) v = v) (hfit : fits (mFT ci k) v = true) (kk : nW g l d μ (pc + 3) ls st n adr (uE τ x (.inr (ci, fs.set k v))) c0 s0 Q) : nW g l d μ pc ls (v :: .ref a :: st) n adr τ c0 s0 Q := by
  subst ha
  intro p e s m args below meth c H locs cells slots lsr Z R hR hF hP hD hS hl hQ
  obtain ⟨⟨q, ref, h1, h2, h3, h4, h5⟩, q', h1', h6, h9, h7, h8⟩ := hL
  cases h1.symm.trans h1'
  have hts := hF.2.2.2.2.2.1
  refine va_putF (ci := ci) (v := v) (ty := mFT ci k) (C := q.1) (T := q.2.1) (N := q.2.2) hF.1 hF.2.1 hts h3 (mFT ci) h7 h8 hF.2.2.2.2.1 hF.2.2.2.2.2.2.2.2.1 hP hD hS x (fs := fs) (by rw [nw_at hx, hτ]) h1 k h2 (hts _ h4) (m_same hts h5) h6 (hF.2.2.2.2.2.2.2.1 hi) h9 (h7 k h2) hn hfit hlen hd (fun H1 locs1 hP1 hD1 hS1 => ?_)
  rw [nw_set hx] at hP1 hD1
  exact kk p e s m args below meth c H1 locs1 cells slots lsr Z R hR hF hP1 hD1 hS1 hl hQ
theorem n_putI {index ci a : Nat} {v : Value} {fs : List Value} (x k : Nat) (hd : decode μ.2.1 pc = .ok (.putfield index, 3)) (hL : mFW μ.1.cls index ci k) (hx : x < n) (ha : a = adr x) (hτ : τ x = .inr (ci, fs)) (hlen : k < fs.length) (hn : narrow (mFT ci k) v = v) (hfit : fits (mFT ci k) v = true) (kk : nW g l d μ (pc + 3) ls st n adr (uE τ x (.inr (ci, fs.set k v))) c0 s0 Q) : nW g l d μ pc ls (v :: .ref a :: st) n adr τ c0 s0 Q := by
  subst ha
  intro p e s m args below meth c H locs cells slots lsr Z R hR hF hP hD hS hl hQ
  obtain ⟨⟨q, ref, h1, h2, h3, h4, h5⟩, q', h1', h6, h7, h8⟩ := hL
  cases h1.symm.trans h1'
  have hts := hF.2.2.2.2.2.1
  refine va_put (ci := ci) (v := v) (ty := mFT ci k) (C := q.1) (T := q.2.1) (N := q.2.2) hF.1 hF.2.1 hts h3 (mFT ci) h7 h8 hF.2.2.2.2.1 hF.2.2.2.2.2.2.2.2.1 hP hD hS x (fs := fs) (by rw [nw_at hx, hτ]) h1 k h2 (hts _ h4) (m_same hts h5) h6 (h7 k h2) hn hfit hlen hd (fun H1 locs1 hP1 hD1 hS1 => ?_)
  rw [nw_set hx] at hP1 hD1
  exact kk p e s m args below meth c H1 locs1 cells slots lsr Z R hR hF hP1 hD1 hS1 hl hQ
theorem n_getR {index ci a : Nat} {v : Value} {fs : List Value} (x k : Nat) (hd : decode μ.2.1 pc = .ok (.getfield index, 3)) (hL : mFL μ.1.cls index ci k) (hx : x < n) (ha : a = adr x) (hτ : τ x = .inr (ci, fs)) (hv : fs[k]? = some v) (kk : nW g l d μ (pc + 3) ls (v :: st) n adr τ c0 s0 Q) : nW g l d μ pc ls (.ref a :: st) n adr τ c0 s0 Q := by
  subst ha
  intro p e s m args below meth c H locs cells slots lsr Z R hR hF hP hD hS hl hQ
  obtain ⟨q, ref, h1, h2, h3, h4, h5⟩ := hL
  have hts := hF.2.2.2.2.2.1
  refine va_get (ci := ci) (v := v) (C := q.1) (T := q.2.1) (N := q.2.2) hF.1 hF.2.1 hts h3 hF.2.2.2.2.1 hF.2.2.2.2.2.2.2.2.1 hP x (fs := fs) (by rw [nw_at hx, hτ]) h1 k h2 (hts _ h4) (m_same hts h5) hv hd ?_
  exact kk p e s m args below meth c H locs cells slots lsr Z R hR hF hP hD hS hl hQ
theorem n_iast {a N : Nat} {i v : Int32} {f : Nat → Int32} (x j : Nat) (hd : decode μ.2.1 pc = .ok (.iastore, 1)) (hx : x < n) (ha : a = adr x) (hτ : τ x = .inl (g.2.1 0, N, .inl f)) (hi : i = nI j) (hj : j < N) (hN : N ≤ 256) (kk : nW g l d μ (pc + 1) ls st n adr (uE τ x (.inl (g.2.1 0, N, .inl (upd f j v)))) c0 s0 Q) : nW g l d μ pc ls (.int v :: .int i :: .ref a :: st) n adr τ c0 s0 Q := by
  subst ha hi
  intro p e s m args below meth c H locs cells slots lsr Z R hR hF hP hD hS hl hQ
  obtain ⟨h1, h2⟩ := m_ix hj hN
  refine va_iast hF.1 hF.2.1 hF.2.2.2.2.2.2.2.2.1 hP hD hS x 0 (f := f) (n := N) (cA := g.2.1 0) (by rw [nw_at hx, hτ]) rfl h1 hd (fun H1 locs1 hP1 hD1 hS1 => ?_)
  rw [h2, nw_set hx] at hP1 hD1
  exact kk p e s m args below meth c H1 locs1 cells slots lsr Z R hR hF hP1 hD1 hS1 hl hQ
/-- a contract out of the walk of a constructor -/
theorem nMet.of {As : List Value} {ls0 : List (Nat × Value)} {mc ms : Nat} {P : Nat → (Nat → Nat) → (Nat → va_E) → Prop} (hpl : plainName μ.1.cls = true) (hlen : (lg_sl As).length ≤ μ.2.2.1) (hls : lv_args 0 As = ls0) (hret : μ.2.2.2 = none) (h : nW g l d μ 0 ls0 [] n adr τ mc ms (fun pc1 _ st1 n1 adr1 τ1 => decode μ.2.1 pc1 = .ok (.return_, 1) ∧ st1 = [] ∧ P n1 adr1 τ1)) : nMet g l d μ As n adr τ mc ms P := by
  subst hls
  refine Met.ofW (cc := μ.2.1) (maxL := μ.2.2.1) (ret := μ.2.2.2) hpl rfl ?_
  intro p e s m args below meth c s₁ B hml hv
  obtain ⟨rfl, hP, hD, hE⟩ := hv
  have hts := atoms_spec (ws := mwd μ) B.pre
  have hF : nFix g μ p s m As.toArray meth c := ⟨B.exec, B.bytes, hml, B.returns, findClass_of_methodNamed B.named, fun w hw => hts w (List.mem_cons_of_mem _ hw), B.notSynchronized, fun h9 => (name_of_methodNamed B.named B.method).1.trans h9, hE⟩
  have hl := lv_entry As (n := μ.2.2.1) hlen
  rw [lg_entry_eq]
  refine h p e s m _ below meth c s.heap [] 0 0 _ _ (nrm d mc ms) ⟨Nat.le_refl _, Nat.le_refl _, Nat.le_of_eq (Nat.zero_add _), Nat.le_of_eq (Nat.zero_add _)⟩ hF hP hD va_S.rf hl ?_
  rintro pc1 ls1 st1 n1 adr1 τ1 H1 locs1 lsr1 cells1 slots1 ⟨hd, rfl, hq⟩ hP1 hD1 hS1 hl1 hc1 hs1
  refine W.widen (k := mc) (n := ms) (by omega) (by omega) ?_
  exact W.vret hF.1 hF.2.1 (hF.2.2.2.1.trans hret) (fun t ht _ => ⟨⟨n1, adr1, τ1, hq, rfl, by rw [ht]; exact hP1, hD1⟩, hS1.F ht⟩) hS1.2.2 hd
def nCI (own : String) (index n : Nat) (μ1 : mM) : Prop := Cond.code μ1.1 μ1.2.1 μ1.2.2.1 μ1.2.2.2 ∈ mtbl ∧ (Cond.methodLink own index μ1.1 ∈ mtbl ∨ Cond.methodLinkNest own index μ1.1 "DodgemDebate" ∈ nnest) ∧ Cond.instanceMethod μ1.1 ∈ mtbl ∧ Cond.initialized μ1.1.cls ∈ mtbl ∧ mArity μ1.1 n ∧ μ1.2.2.1 ≤ 20 ∧ μ1.1.name = "<init>" ∧ μ1.2.2.2 = none
theorem n_blind {As : List Value} : FrameBlind (va_Pc As (fun U => va_P g.1 vwCl (nw n adr τ) U.heap ∧ va_D g.2.2.1 (nw n adr τ) ∧ nEnv g U)) := fun a U f mk q => ⟨q.1, q.2.1, q.2.2.1, q.2.2.2.calling f mk a⟩
theorem n_callI {μ1 : mM} {a index na d1 mc ms : Nat} {As stk : List Value} {P : Nat → (Nat → Nat) → (Nat → va_E) → Prop} (hd : decode μ.2.1 pc = .ok (.invokespecial index, 3)) (hC : nCI μ.1.cls index na μ1) (hd1 : d1 < d) (hn : As.length = na) (hst : stk = As.reverse ++ .ref a :: st) (hw : (st.map fun v => v.category).sum ≤ 8)
    (hM : nMet g l d1 μ1 (.ref a :: As) n adr τ mc ms P) (k : ∀ n1 adr1 τ1, P n1 adr1 τ1 → nW g l d μ (pc + 3) ls st n1 adr1 τ1 c0 s0 Q) : nW g l d μ pc ls stk n adr τ (c0 + mc) (s0 + ms) Q := by
  subst hst
  intro p e s m args below meth c H locs cells slots lsr Z R hR hF hP hD hS hl hQ
  obtain ⟨c1, c2, c3, c5, c6, c7, c8, c9⟩ := hC
  have hts := hF.2.2.2.2.2.1
  have hrr : (nrm d1 mc ms).frames + 1 ≤ R.frames ∧ 8 + (μ1.2.2.1 + 11) + (nrm d1 mc ms).locals ≤ R.locals := by
    show d1 + 1 ≤ R.frames ∧ 8 + (μ1.2.2.1 + 11) + 39 * d1 ≤ R.locals
    omega
  have hw1 : mwd μ1 = Cond.code μ1.1 μ1.2.1 μ1.2.2.1 none :: mtbl := by unfold mwd; rw [c9]
  have hrun : va_Run p l e R s m args below meth c H locs cells slots mc ms (F0 m pc lsr (As.reverse ++ .ref a :: st)) st (fun st o t => (∃ (n1 : Nat) (adr1 : Nat → Nat) (τ1 : Nat → va_E), P n1 adr1 τ1 ∧ o = .returned none ∧ va_P g.1 vwCl (nw n1 adr1 τ1) t.heap ∧ va_D g.2.2.1 (nw n1 adr1 τ1)) ∧ va_F g.2.2.1 st t) g.2.2.1 :=
    by
      have hpre : PreS s H (va_Pc (.ref a :: As) (fun U => va_P g.1 vwCl (nw n adr τ) U.heap ∧ va_D g.2.2.1 (nw n adr τ) ∧ nEnv g U)) (.ref a :: As) := ⟨n_blind, fun U hU hW => ⟨rfl, by rw [hU]; exact hP, hD, hF.2.2.2.2.2.2.2.2.warm hW hS hU⟩⟩
      rcases c2 with c2 | c2
      · exact va_runI (b := a) (As := As) (bytes := μ1.2.1) (maxL := μ1.2.2.1) (n := na) (own := μ.1.cls) (Ts := mtbl) (index := index) (rm := nrm d1 mc ms) (ws := mwd μ1) ⟨hF.1, hF.2.1, hF.2.2.1, hF.2.2.2.2.1, hts⟩ hM ⟨callB_of na hts (mwd_in c1) hw1 rfl rfl (hts _ c5) (hts _ c2) c6 hrr, c8, hts _ c3⟩ hpre rfl hn hl.1 rfl (lv_room hw) hd ⟨by omega, by omega⟩
      · exact va_runIN (b := a) (As := As) (bytes := μ1.2.1) (maxL := μ1.2.2.1) (n := na) (own := μ.1.cls) (host := "DodgemDebate") (Ts := mtbl) (index := index) (rm := nrm d1 mc ms) (ws := mwd μ1) ⟨hF.1, hF.2.1, hF.2.2.1, hF.2.2.2.2.1, hts⟩ hM ⟨va_cnB na hts (mwd_in c1) hw1 rfl rfl (hF.2.2.2.2.2.2.2.2.2.1.2 _ c2) (hts _ c5) c6 hrr, c8, hts _ c3⟩ hpre rfl hn hl.1 rfl (lv_room hw) hd ⟨by omega, by omega⟩
  intro T hT X
  obtain ⟨v, st₀, t, T', L, h0, X', hL, e1, e2, ⟨⟨n1, adr1, τ1, hq, hv, hP1, hD1⟩, hz, hk⟩, stp⟩ := hrun T hT X
  cases hv
  rw [h0] at hz hk
  obtain ⟨t2, a1, b1⟩ := k n1 adr1 τ1 hq p e s m args below meth c T'.heap (locs ++ L) (cells + mc) (slots + ms) lsr Z R ⟨hR.1, hR.2.1, by omega, by omega⟩ hF (by rw [e1]; exact hP1) hD1
    ⟨Nat.le_trans hS.1 (by rw [e1]; exact hz), fun q h1 h2 => by rw [e1, hk q (Nat.lt_of_lt_of_le h1 hS.1) h2]; exact hS.2.1 q h1 h2, fun q hq => by
      rcases List.mem_append.mp hq with h | h
      · exact hS.2.2 q h
      · exact hL q h⟩ hl (fun pc1 ls1 st1 n1 adr1 τ1 H2 locs2 lsr2 cells2 slots2 q1 q2 q3 q4 q5 q6 q7 => hQ pc1 ls1 st1 n1 adr1 τ1 H2 locs2 lsr2 cells2 slots2 q1 q2 q3 q4 q5 (by omega) (by omega)) T' rfl X'
  exact ⟨t2, stp t2 a1, b1⟩
end NM

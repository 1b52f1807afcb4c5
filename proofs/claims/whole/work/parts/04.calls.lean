/-! ===== contracts and calls of the small machine ===== -/
theorem mtb {w : Cond} (i : Nat) (h : tables_1[i]? = some w) (hg : goodWord w = true) : w ∈ mtbl := List.mem_filter.mpr ⟨List.mem_append_right _ (List.mem_append_right _ (List.mem_of_getElem? h)), hg⟩
theorem mtbs {w : Cond} (h : w ∈ k2_sels lw_privs) (hg : goodWord w = true) : w ∈ mtbl := List.mem_filter.mpr ⟨List.mem_append_right _ (List.mem_append_left _ h), hg⟩
theorem mtbx {w : Cond} (h : w ∈ mxtra) (hg : goodWord w = true) : w ∈ mtbl := List.mem_filter.mpr ⟨List.mem_append_left _ h, hg⟩
theorem mtbl_good {w : Cond} (h : w ∈ mtbl) : goodWord w = true := (List.mem_filter.mp h).2
theorem mtbl_in {ws : List Cond} (h : ∀ w ∈ ws, w ∈ mtbl) : GoodIn mtbl ws := fun w hw => ⟨h w hw, good_of_word (mtbl_good (h w hw))⟩
/-- the words of a method's contract -/
def mwd (μ : mM) : List Cond := .code μ.1 μ.2.1 μ.2.2.1 μ.2.2.2 :: mtbl
theorem mwd_in {μ : mM} (h : Cond.code μ.1 μ.2.1 μ.2.2.1 μ.2.2.2 ∈ mtbl) : GoodIn mtbl (mwd μ) := mtbl_in (fun w hw => by
  rcases List.mem_cons.mp hw with rfl | h1
  · exact h
  · exact h1)
abbrev mrm (d : Nat) : Room := { frames := d, cells := 0, slots := 0, locals := 39 * d }
/-- a method's end: an answer and a store that Q allows -/
def mQc (G : mG) (Q : Option Value → mS → Prop) : Array Value → State → Outcome → State → Prop := fun _ st o t => (∃ (v : Option Value) (σ1 : mS), Q v σ1 ∧ o = .returned (v.map (mv G)) ∧ va_P G.1 vwCl (mws G σ1) t.heap) ∧ va_F G.2.2.1 st t
/-- the contract of method μ from these arguments and this store, with d frames -/
def mMet (G : mG) (l : Launch) (d : Nat) (μ : mM) (As : List Value) (σ : mS) (Q : Option Value → mS → Prop) : Prop :=
  Met l μ.1 (mwd μ) (mrm d) (va_Pc (As.map (mv G)) (fun U => va_P G.1 vwCl (mws G σ) U.heap ∧ mEnv G U)) (mQc G Q) 0 0 G.2.2.1
theorem mExt.warm {G : mG} {s U : State} {H : Heap} {locs : List Loc} (hW : s.WarmedH U.vm) (hS : va_S G.2.2.1 s.heap H locs) (hU : U.heap = H) (h : mExt G s s.heap) : mExt G U U.heap := by
  subst hU
  have hvm := hW.alike
  obtain ⟨h1, h2, h3, h4, h5⟩ := h
  refine ⟨fun w hw => ?_, fun i q hq => ⟨((h2 i q hq).1.kept hS.2.1).moved hvm, ((h2 i q hq).2.kept hS.2.1).moved hvm⟩, (h3.kept hS.2.1).moved hvm, fun i q hq => ⟨(h4 i q hq).1.warm hW, ((h4 i q hq).2.1.kept hS.2.1).moved hvm, ((h4 i q hq).2.2.1.kept hS.2.1).moved hvm, ((h4 i q hq).2.2.2.1.kept hS.2.1).moved hvm, ((h4 i q hq).2.2.2.2.kept hS.2.1).moved hvm⟩, (h5.kept hS.2.1).moved hvm⟩
  have h9 := h1 w hw
  simp only [mnest, List.mem_cons, List.not_mem_nil, or_false] at hw
  rcases hw with rfl | rfl | rfl | rfl | rfl | rfl | rfl <;> first | exact va_Nw.warmF hW h9 | exact va_Nw.warmM hW h9 | exact va_Nw.warmD hW h9
theorem mEnv.warm {G : mG} {s U : State} {H : Heap} {locs : List Loc} (hW : s.WarmedH U.vm) (hS : va_S G.2.2.1 s.heap H locs) (hU : U.heap = H) (h : mEnv G s) : mEnv G U :=
  ⟨va_K.moved hW.alike h.1, h.2.1.warm hW hS hU, fun q hq => h.2.2.1 q (Nat.le_trans hS.1 (by rw [← hU]; exact hq)), h.2.2.2⟩
theorem mEnv.calling {G : mG} {U : State} (g : JFrame) (mk : MethodId) (a : Array Value) (h : mEnv G U) : mEnv G (U.calling g mk a) := by
  have e1 : (U.calling g mk a).vm = U.vm := rfl
  have e2 : (U.calling g mk a).heap = U.heap := rfl
  obtain ⟨h1, ⟨i1, i2, i3, i4, i5⟩, h3, h4⟩ := h
  have hvm : U.vm.Alike (U.calling g mk a).vm := Vm.Alike.refl U.vm
  refine ⟨va_K.moved hvm h1, ⟨fun w hw => ?_, fun i q hq => ⟨(i2 i q hq).1.moved hvm, (i2 i q hq).2.moved hvm⟩, i3.moved hvm, fun i q hq => ⟨(i4 i q hq).1.same e1, (i4 i q hq).2.1.moved hvm, (i4 i q hq).2.2.1.moved hvm, (i4 i q hq).2.2.2.1.moved hvm, (i4 i q hq).2.2.2.2.moved hvm⟩, i5.moved hvm⟩, h3, h4⟩
  have h9 := i1 w hw
  have hg : w.onTables = true := by
    simp only [mnest, List.mem_cons, List.not_mem_nil, or_false] at hw
    rcases hw with rfl | rfl | rfl | rfl | rfl | rfl | rfl <;> rfl
  exact va_Nw.same hg e1.symm h9
section MC
variable {G : mG} {l : Launch} {d : Nat} {μ : mM} {pc : Nat} {ls : List (Nat × Value)} {st : List Value} {σ : mS} {Q : Option Value → mS → Prop}
/-- an answer fits the method's type -/
def mFit : Option FieldType → Option Value → Prop
  | none, none => True
  | some ty, some (.int r) => narrow ty (.int r) = .int r
  | some .long, some (.long _) => True
  | some (.object _), some (.ref _) => True
  | _, _ => False
theorem lv_args_map : ∀ (i : Nat) (As : List Value), lv_args i (As.map (mv G)) = (lv_args i As).map (mlv G)
  | _, [] => rfl
  | i, v :: vs => by
    show (i, mv G v) :: lv_args (if (mv G v).category = 2 then i + 2 else i + 1) (vs.map (mv G)) = mlv G (i, v) :: (lv_args (if v.category = 2 then i + 2 else i + 1) vs).map (mlv G)
    rw [mv_cat rfl, lv_args_map]
    rfl
theorem lg_sl_map : ∀ As : List Value, (lg_sl (As.map (mv G))).length = (lg_sl As).length
  | [] => rfl
  | v :: vs => by
    have ih := lg_sl_map vs
    unfold lg_sl at ih ⊢
    rw [List.map_cons, List.flatMap_cons, List.flatMap_cons, List.length_append, List.length_append, ih, mv_cat (G := G) (v := v) rfl]
    by_cases h : v.category = 2
    · rw [if_pos h, if_pos h]; rfl
    · rw [if_neg h, if_neg h]; rfl
/-- a contract out of the walk of its body -/
theorem mMet.of {As : List Value} {ls0 : List (Nat × Value)} (hcode : Cond.code μ.1 μ.2.1 μ.2.2.1 μ.2.2.2 ∈ mtbl) (hpl : plainName μ.1.cls = true) (hlen : (lg_sl As).length ≤ μ.2.2.1) (hls : lv_args 0 As = ls0) (hfit : ∀ v σ1, Q v σ1 → mFit μ.2.2.2 v) (h : mW G l d μ 0 ls0 [] σ Q) : mMet G l d μ As σ Q := by
  subst hls
  refine Met.ofW (cc := μ.2.1) (maxL := μ.2.2.1) (ret := μ.2.2.2) hpl rfl ?_
  intro p e s m args below meth c s₁ B hml hv
  obtain ⟨rfl, hP, hE⟩ := hv
  have hts := atoms_spec (ws := mwd μ) B.pre
  have hF : mFix G μ p s m (As.map (mv G)).toArray meth c := ⟨B.exec, B.bytes, hml, B.returns, findClass_of_methodNamed B.named, fun w hw => hts w (List.mem_cons_of_mem _ hw), B.notSynchronized, hE⟩
  have hl := lv_entry (As.map (mv G)) (n := μ.2.2.1) (by rw [lg_sl_map]; exact hlen)
  rw [lg_entry_eq]
  rw [lv_args_map] at hl
  refine h p e s m _ below meth c s.heap [] 0 0 _ _ (mrm d) ⟨Nat.le_refl _, Nat.le_refl _, Nat.zero_le _, Nat.zero_le _⟩ hF hP va_S.rf hl ?_
  intro v σ1 H1 locs1 lsr1 pc1 hq hP1 hS1 hret
  have hfv := hfit v σ1 hq
  have hend : ∀ t : State, t.heap = H1 → s.WarmedH t.vm → mQc G Q (As.map (mv G)).toArray s (.returned (v.map (mv G))) t := fun t ht _ => ⟨⟨v, σ1, hq, rfl, by rw [ht]; exact hP1⟩, hS1.F ht⟩
  have hr := hF.2.2.2.1
  have hlk := hF.2.2.2.2.2.2.1
  match v, hret, hfv with
  | none, hret, hfv =>
    have e : μ.2.2.2 = none := by
      cases h9 : μ.2.2.2 with
      | none => rfl
      | some ty => rw [h9] at hfv; cases ty <;> exact hfv.elim
    exact W.vret hF.1 hF.2.1 (hr.trans e) hend hS1.2.2 hret
  | some (.int r), hret, hfv =>
    cases h9 : μ.2.2.2 with
    | none => rw [h9] at hfv; exact hfv.elim
    | some ty =>
      rw [h9] at hfv
      exact W.zret hF.1 hF.2.1 (hr.trans h9) (by cases ty <;> exact hfv) hend hS1.2.2 hret
  | some (.long r), hret, hfv =>
    cases h9 : μ.2.2.2 with
    | none => rw [h9] at hfv; exact hfv.elim
    | some ty =>
      rw [h9] at hfv
      cases ty with
      | long => exact W.lret hF.1 hF.2.1 (hr.trans h9) hend hS1.2.2 hret
      | _ => exact hfv.elim
  | some (.ref r), hret, hfv =>
    cases h9 : μ.2.2.2 with
    | none => rw [h9] at hfv; exact hfv.elim
    | some ty =>
      rw [h9] at hfv
      cases ty with
      | object nm => exact W.aret hF.1 hF.2.1 (hr.trans h9) (Or.inl ⟨_, rfl⟩) (Or.inr ⟨_, rfl⟩) hend hS1.2.2 hret
      | _ => exact hfv.elim
/-- returns -/
theorem m_ret (v : Option Value) (hs : v.toList = st) (hr : mRet μ pc v) (hq : Q v σ) : mW G l d μ pc ls st σ Q := by
  subst hs
  intro p e s m args below meth c H locs cells slots lsr Z R hR hF hP hS hl hQ
  have := hQ v σ H locs lsr pc hq hP hS hr
  cases v <;> exact this
theorem m_ireturn {r : Int32} (hd : decode μ.2.1 pc = .ok (.ireturn, 1)) (hq : Q (some (.int r)) σ) : mW G l d μ pc ls [.int r] σ Q := m_ret (some (.int r)) rfl hd hq
theorem m_lreturn {r : Int64} (hd : decode μ.2.1 pc = .ok (.lreturn, 1)) (hq : Q (some (.long r)) σ) : mW G l d μ pc ls [.long r] σ Q := m_ret (some (.long r)) rfl hd hq
theorem m_areturn {r : Nat} (hd : decode μ.2.1 pc = .ok (.areturn, 1)) (hq : Q (some (.ref r)) σ) : mW G l d μ pc ls [.ref r] σ Q := m_ret (some (.ref r)) rfl hd hq
theorem m_return (hd : decode μ.2.1 pc = .ok (.return_, 1)) (hq : Q none σ) : mW G l d μ pc ls [] σ Q := m_ret none rfl hd hq
/-- what a run of a callee gives its caller -/
theorem m_goes {As rest : List Value} {Q1 : Option Value → mS → Prop} {p : Program} {e : Env} {s : State} {m : MethodId} {args : Array Value} {below : List Frame} {meth : Method} {c : Code} {H : Heap} {locs : List Loc} {cells slots : Nat} {lsr : Array Slot} {Z : State → Prop} {R : Room} {stk : List Value} {a : Array Value}
    (hr : va_Run p l e R s m args below meth c H locs cells slots 0 0 (F0 m pc lsr stk) (rest.map (mv G)) (mQc G Q1 a) G.2.2.1) (hS : va_S G.2.2.1 s.heap H locs)
    (kk : ∀ (v : Option Value) (σ1 : mS) (H1 : Heap) (locs1 : List Loc), Q1 v σ1 → va_P G.1 vwCl (mws G σ1) H1 → va_S G.2.2.1 s.heap H1 locs1 → W p l e R s m args below meth c H1 locs1 cells slots Z (F0 m (pc + 3) lsr ((v.toList ++ rest).map (mv G)))) : W p l e R s m args below meth c H locs cells slots Z (F0 m pc lsr stk) := by
  intro T hT X
  obtain ⟨v, st₀, t, T', L, h0, X', hL, e1, e2, ⟨⟨v1, σ1, hq, hv, hP1⟩, hz, hk⟩, stp⟩ := hr T hT X
  cases hv
  rw [h0] at hz hk
  obtain ⟨t2, a1, b1⟩ := kk v1 σ1 T'.heap (locs ++ L) hq (by rw [e1]; exact hP1)
    ⟨Nat.le_trans hS.1 (by rw [e1]; exact hz), fun q h1 h2 => by rw [e1, hk q (Nat.lt_of_lt_of_le h1 hS.1) h2]; exact hS.2.1 q h1 h2, fun q hq => by
      rcases List.mem_append.mp hq with h | h
      · exact hS.2.2 q h
      · exact hL q h⟩ T' rfl X'
  refine ⟨t2, stp t2 ?_, b1⟩
  rw [List.map_append] at a1
  cases v1 <;> exact a1
def mArity (y : MethodName) (n : Nat) : Prop := y.cls ≠ "java/lang/invoke/MethodHandle" ∧ y.cls ≠ "java/lang/invoke/VarHandle" ∧ (parseMethodDescriptor y.desc).map (fun dd => dd.parameters.length) = some n
/-- how class own's entry index calls μ1 on an object of class ci -/
def mCV (own : String) (index ci n : Nat) (μ1 : mM) : Prop := (∃ q : vw_C, vwCl[ci]? = some q ∧ μ1.1.cls = q.1) ∧ Cond.code μ1.1 μ1.2.1 μ1.2.2.1 μ1.2.2.2 ∈ mtbl ∧ Cond.methodLink own index μ1.1 ∈ mtbl ∧ Cond.instanceMethod μ1.1 ∈ mtbl ∧ Cond.selects μ1.1.cls μ1.1 μ1.1 ∈ mtbl ∧ Cond.initialized μ1.1.cls ∈ mtbl ∧ mArity μ1.1 n ∧ μ1.2.2.1 ≤ 20
def mCS (own : String) (index n : Nat) (μ1 : mM) : Prop := Cond.code μ1.1 μ1.2.1 μ1.2.2.1 μ1.2.2.2 ∈ mtbl ∧ (Cond.methodLink own index μ1.1 ∈ mtbl ∨ Cond.methodLinkNest own index μ1.1 "DodgemDebate" ∈ mnest) ∧ Cond.static μ1.1 ∈ mtbl ∧ Cond.initialized μ1.1.cls ∈ mtbl ∧ mArity μ1.1 n ∧ μ1.2.2.1 ≤ 20
theorem m_blind {As : List Value} : FrameBlind (va_Pc (As.map (mv G)) (fun U => va_P G.1 vwCl (mws G σ) U.heap ∧ mEnv G U)) := fun a U g mk q => ⟨q.1, q.2.1, q.2.2.calling g mk a⟩
theorem m_roomy {d d1 n : Nat} {R : Room} (h : d ≤ R.frames ∧ 39 * d ≤ R.locals) (h1 : d1 < d) (hn : n ≤ 20) : (mrm d1).frames + 1 ≤ R.frames ∧ 8 + (n + 11) + (mrm d1).locals ≤ R.locals := by
  show d1 + 1 ≤ R.frames ∧ 8 + (n + 11) + 39 * d1 ≤ R.locals
  omega
theorem m_callV {μ1 : mM} {ci N x index n d1 : Nat} {As stk : List Value} {Q1 : Option Value → mS → Prop} (hd : decode μ.2.1 pc = .ok (.invokevirtual index, 3)) (hC : mCV μ.1.cls index ci n μ1) (hx : mshp x = (ci, N)) (hc : ci ≤ 10) (hd1 : d1 < d) (hn : As.length = n) (hst : stk = As.reverse ++ .ref x :: st) (hw : (st.map fun v => v.category).sum ≤ 8)
    (hM : mMet G l d1 μ1 (.ref x :: As) σ Q1) (k : ∀ (v : Option Value) (σ1 : mS), Q1 v σ1 → mW G l d μ (pc + 3) ls (v.toList ++ st) σ1 Q) : mW G l d μ pc ls stk σ Q := by
  subst hst
  intro p e s m args below meth c H locs cells slots lsr Z R hR hF hP hS hl hQ
  obtain ⟨⟨q, hq, hcl⟩, c1, c2, c3, c4, c5, c6, c7⟩ := hC
  have hts := hF.2.2.2.2.2.1
  have hrun : va_Run p l e R s m args below meth c H locs cells slots 0 0 (F0 m pc lsr ((As.reverse ++ .ref x :: st).map (mv G))) (st.map (mv G)) (mQc G Q1 (Value.ref (G.2.2.2.1 x) :: As.map (mv G)).toArray) G.2.2.1 := by
    refine va_runV (C := μ1.1.cls) (b := G.2.2.2.1 x) (As := As.map (mv G)) (bytes := μ1.2.1) (maxL := μ1.2.2.1) (ret := μ1.2.2.2) (n := n) (own := μ.1.cls) (Ts := mtbl) (index := index) (rm := mrm d1) (ws := mwd μ1) ⟨hF.1, hF.2.1, hF.2.2.1, hF.2.2.2.2.1, hts⟩ hM ⟨callB_of n hts (mwd_in c1) rfl rfl rfl (hts _ c5) (hts _ c2) c6 (m_roomy ⟨hR.1, hR.2.1⟩ hd1 c7), hts _ c3, hts _ c4⟩ ⟨m_blind, ?_, fun U hU hW => ⟨rfl, by rw [hU]; exact hP, (m_env hF).warm hW hS hU⟩⟩ rfl (by rw [List.length_map]; exact hn) hl.1 (by rw [List.map_append, List.map_reverse]; rfl) (lv_room (by rw [mv_cats]; exact hw)) hd ⟨hR.2.2.1, hR.2.2.2⟩
    rw [hcl]
    exact va_recv (m_env hF).1 hP hq (q0 := x) (fs := (List.range N).map (mfv G σ ci x)) (by rw [mws_at (mshp_lt hx (by omega)), mE_o hx hc])
  exact m_goes (As := As) hrun hS (fun v σ1 H1 locs1 hq1 hP1 hS1 => k v σ1 hq1 p e s m args below meth c H1 locs1 cells slots lsr Z R hR hF hP1 hS1 hl hQ)
theorem m_callS {μ1 : mM} {index n d1 : Nat} {As stk : List Value} {Q1 : Option Value → mS → Prop} (hd : decode μ.2.1 pc = .ok (.invokestatic index, 3)) (hC : mCS μ.1.cls index n μ1) (hd1 : d1 < d) (hn : As.length = n) (hst : stk = As.reverse ++ st) (hw : (st.map fun v => v.category).sum ≤ 8)
    (hM : mMet G l d1 μ1 As σ Q1) (k : ∀ (v : Option Value) (σ1 : mS), Q1 v σ1 → mW G l d μ (pc + 3) ls (v.toList ++ st) σ1 Q) : mW G l d μ pc ls stk σ Q := by
  subst hst
  intro p e s m args below meth c H locs cells slots lsr Z R hR hF hP hS hl hQ
  obtain ⟨c1, c2, c3, c5, c6, c7⟩ := hC
  have hts := hF.2.2.2.2.2.1
  have hrun : va_Run p l e R s m args below meth c H locs cells slots 0 0 (F0 m pc lsr ((As.reverse ++ st).map (mv G))) (st.map (mv G)) (mQc G Q1 (As.map (mv G)).toArray) G.2.2.1 := by
    rcases c2 with c2 | c2
    · exact va_runS (As := As.map (mv G)) (bytes := μ1.2.1) (maxL := μ1.2.2.1) (ret := μ1.2.2.2) (n := n) (own := μ.1.cls) (Ts := mtbl) (index := index) (rm := mrm d1) (ws := mwd μ1) ⟨hF.1, hF.2.1, hF.2.2.1, hF.2.2.2.2.1, hts⟩ hM ⟨callB_of n hts (mwd_in c1) rfl rfl rfl (hts _ c5) (hts _ c2) c6 (m_roomy ⟨hR.1, hR.2.1⟩ hd1 c7), hts _ c3⟩ ⟨m_blind, fun U hU hW => ⟨rfl, by rw [hU]; exact hP, (m_env hF).warm hW hS hU⟩⟩ rfl (by rw [List.length_map]; exact hn) hl.1 (by rw [List.map_append, List.map_reverse]) (lv_room (by rw [mv_cats]; exact hw)) hd ⟨hR.2.2.1, hR.2.2.2⟩
    · exact va_runSN (As := As.map (mv G)) (bytes := μ1.2.1) (maxL := μ1.2.2.1) (ret := μ1.2.2.2) (n := n) (own := μ.1.cls) (Ts := mtbl) (index := index) (rm := mrm d1) (ws := mwd μ1) (host := "DodgemDebate") ⟨hF.1, hF.2.1, hF.2.2.1, hF.2.2.2.2.1, hts⟩ hM ⟨va_cnB n hts (mwd_in c1) rfl rfl rfl ((m_env hF).2.1.1 _ c2) (hts _ c5) c6 (m_roomy ⟨hR.1, hR.2.1⟩ hd1 c7), hts _ c3, trivial⟩ ⟨m_blind, fun U hU hW => ⟨rfl, by rw [hU]; exact hP, (m_env hF).warm hW hS hU⟩⟩ rfl (by rw [List.length_map]; exact hn) hl.1 (by rw [List.map_append, List.map_reverse]) (lv_room (by rw [mv_cats]; exact hw)) hd ⟨hR.2.2.1, hR.2.2.2⟩
  exact m_goes (As := As) hrun hS (fun v σ1 H1 locs1 hq1 hP1 hS1 => k v σ1 hq1 p e s m args below meth c H1 locs1 cells slots lsr Z R hR hF hP1 hS1 hl hQ)
/-- a method of a constant text -/
def mCX (own : String) (index n : Nat) (μ1 : mM) : Prop := μ1.1.cls = "java/lang/String" ∧ Cond.code μ1.1 μ1.2.1 μ1.2.2.1 μ1.2.2.2 ∈ mtbl ∧ Cond.methodLink own index μ1.1 ∈ mtbl ∧ Cond.instanceMethod μ1.1 ∈ mtbl ∧ Cond.selects μ1.1.cls μ1.1 μ1.1 ∈ mtbl ∧ Cond.initialized μ1.1.cls ∈ mtbl ∧ mArity μ1.1 n ∧ μ1.2.2.1 ≤ 20
theorem m_callX {μ1 : mM} {i index n d1 : Nat} {As stk : List Value} {Q1 : Option Value → mS → Prop} (hd : decode μ.2.1 pc = .ok (.invokevirtual index, 3)) (hC : mCX μ.1.cls index n μ1) (q : String × Nat × String × List Int32) (hq : mstr[i]? = some q) (hd1 : d1 < d) (hn : As.length = n) (hst : stk = As.reverse ++ .ref (1010 + i) :: st) (hw : (st.map fun v => v.category).sum ≤ 8)
    (hM : mMet G l d1 μ1 (.ref (1010 + i) :: As) σ Q1) (k : ∀ (v : Option Value) (σ1 : mS), Q1 v σ1 → mW G l d μ (pc + 3) ls (v.toList ++ st) σ1 Q) : mW G l d μ pc ls stk σ Q := by
  subst hst
  intro p e s m args below meth c H locs cells slots lsr Z R hR hF hP hS hl hQ
  obtain ⟨hcl, c1, c2, c3, c4, c5, c6, c7⟩ := hC
  have hts := hF.2.2.2.2.2.1
  have hrun : va_Run p l e R s m args below meth c H locs cells slots 0 0 (F0 m pc lsr ((As.reverse ++ .ref (1010 + i) :: st).map (mv G))) (st.map (mv G)) (mQc G Q1 (Value.ref (G.2.2.2.1 (1010 + i)) :: As.map (mv G)).toArray) G.2.2.1 := by
    refine va_runV (C := μ1.1.cls) (b := G.2.2.2.1 (1010 + i)) (As := As.map (mv G)) (bytes := μ1.2.1) (maxL := μ1.2.2.1) (ret := μ1.2.2.2) (n := n) (own := μ.1.cls) (Ts := mtbl) (index := index) (rm := mrm d1) (ws := mwd μ1) ⟨hF.1, hF.2.1, hF.2.2.1, hF.2.2.2.2.1, hts⟩ hM ⟨callB_of n hts (mwd_in c1) rfl rfl rfl (hts _ c5) (hts _ c2) c6 (m_roomy ⟨hR.1, hR.2.1⟩ hd1 c7), hts _ c3, hts _ c4⟩ ⟨m_blind, ?_, fun U hU hW => ⟨rfl, by rw [hU]; exact hP, (m_env hF).warm hW hS hU⟩⟩ rfl (by rw [List.length_map]; exact hn) hl.1 (by rw [List.map_append, List.map_reverse]; rfl) (lv_room (by rw [mv_cats]; exact hw)) hd ⟨hR.2.2.1, hR.2.2.2⟩
    rw [hcl]
    obtain ⟨cell, g1, g2, g3, -⟩ := ((m_env hF).2.1.2.2.2.1 i q hq).2.1.kept hS.2.1
    exact ⟨cell, g1, g2, g3⟩
  exact m_goes (As := As) hrun hS (fun v σ1 H1 locs1 hq1 hP1 hS1 => k v σ1 hq1 p e s m args below meth c H1 locs1 cells slots lsr Z R hR hF hP1 hS1 hl hQ)
/-- an inherited method, or one that overrides what the reference names -/
def mCU (own C owner : String) (index n : Nat) (x : MethodName) (μ1 : mM) : Prop := Cond.code μ1.1 μ1.2.1 μ1.2.2.1 μ1.2.2.2 ∈ mtbl ∧ Cond.methodLink own index x ∈ mtbl ∧ Cond.sameMethod x.cls owner x.name x.desc ∈ mtbl ∧ Cond.selects C x μ1.1 ∈ mtbl ∧ Cond.instanceMethod μ1.1 ∈ mtbl ∧ Cond.initialized μ1.1.cls ∈ mtbl ∧ (owner ≠ "java/lang/invoke/MethodHandle" ∧ owner ≠ "java/lang/invoke/VarHandle" ∧ (parseMethodDescriptor x.desc).map (fun dd => dd.parameters.length) = some n) ∧ (Cond.declares ⟨owner, x.name, x.desc⟩ ∈ mnest ∨ μ1.1 = ⟨owner, x.name, x.desc⟩) ∧ μ1.2.2.1 ≤ 20
theorem m_callU {μ1 : mM} {ci N x index n d1 : Nat} {C owner : String} {xn : MethodName} {As stk : List Value} {Q1 : Option Value → mS → Prop} {qc : vw_C} (hd : decode μ.2.1 pc = .ok (.invokevirtual index, 3)) (hC : mCU μ.1.cls C owner index n xn μ1) (hqc : vwCl[ci]? = some qc) (hcl : C = qc.1) (hx : mshp x = (ci, N)) (hc : ci ≤ 10) (hd1 : d1 < d) (hn : As.length = n) (hst : stk = As.reverse ++ .ref x :: st) (hw : (st.map fun v => v.category).sum ≤ 8)
    (hM : mMet G l d1 μ1 (.ref x :: As) σ Q1) (k : ∀ (v : Option Value) (σ1 : mS), Q1 v σ1 → mW G l d μ (pc + 3) ls (v.toList ++ st) σ1 Q) : mW G l d μ pc ls stk σ Q := by
  subst hst
  intro p e s m args below meth c H locs cells slots lsr Z R hR hF hP hS hl hQ
  obtain ⟨c1, c2, c3, c4, c5, c6, c7, c8, c9⟩ := hC
  have hts := hF.2.2.2.2.2.1
  have hG := mwd_in c1
  have hr9 := m_roomy ⟨hR.1, hR.2.1⟩ hd1 c9
  have hcu : va_CU R s args μ.1.cls C owner index xn μ1.1 μ1.2.1 μ1.2.2.1 μ1.2.2.2 (mwd μ1) (mrm d1) 0 0 n := by
    refine ⟨⟨rfl, rfl, hr9.1, hr9.2, pay_in hts hG, List.mem_cons_self⟩, hts _ c1, hts _ c6, ⟨c7.1, c7.2.1⟩, fun sig h => ?_, hts _ c2, hts _ c3, ?_, hts _ c4, hts _ c5⟩
    · have h2 := c7.2.2
      rw [h] at h2
      exact (Option.some.inj h2).symm
    · rcases c8 with c8 | c8
      · exact va_Decl.abs ((m_env hF).2.1.1 _ c8)
      · rw [← c8]
        exact va_Decl.of (hts _ c5) (hts _ c1)
  have hrun : va_Run p l e R s m args below meth c H locs cells slots 0 0 (F0 m pc lsr ((As.reverse ++ .ref x :: st).map (mv G))) (st.map (mv G)) (mQc G Q1 (Value.ref (G.2.2.2.1 x) :: As.map (mv G)).toArray) G.2.2.1 := by
    refine va_runU (C := C) (owner := owner) (x := xn) (b := G.2.2.2.1 x) (As := As.map (mv G)) (bytes := μ1.2.1) (maxL := μ1.2.2.1) (ret := μ1.2.2.2) (n := n) (own := μ.1.cls) (Ts := mtbl) (index := index) (rm := mrm d1) (ws := mwd μ1) ⟨hF.1, hF.2.1, hF.2.2.1, hF.2.2.2.2.1, hts⟩ hM hcu ⟨m_blind, ?_, fun U hU hW => ⟨rfl, by rw [hU]; exact hP, (m_env hF).warm hW hS hU⟩⟩ rfl (by rw [List.length_map]; exact hn) hl.1 (by rw [List.map_append, List.map_reverse]; rfl) (lv_room (by rw [mv_cats]; exact hw)) hd ⟨hR.2.2.1, hR.2.2.2⟩
    rw [hcl]
    exact va_recv (m_env hF).1 hP hqc (q0 := x) (fs := (List.range N).map (mfv G σ ci x)) (by rw [mws_at (mshp_lt hx (by omega)), mE_o hx hc])
  exact m_goes (As := As) hrun hS (fun v σ1 H1 locs1 hq1 hP1 hS1 => k v σ1 hq1 p e s m args below meth c H1 locs1 cells slots lsr Z R hR hF hP1 hS1 hl hQ)
/-- the store with one row changed -/
def ur (σ : mS) (y : Nat) (f : Nat → Int32) : mS := (fun z => if z = y then f else σ.1 z, σ.2)
theorem ur_ne {y z : Nat} {f : Nat → Int32} (h : z ≠ y) : (ur σ y f).1 z = σ.1 z := if_neg h
theorem ur_eq {y : Nat} {f : Nat → Int32} : (ur σ y f).1 y = f := if_pos rfl
theorem nfw : nativeFrameWords "java/lang/System" "arraycopy" 5 + 11 ≤ 31 := by decide
theorem m_copy {x y nx ny index sp dp n : Nat} {isp idp inn : Int32} (hd : decode μ.2.1 pc = .ok (.invokestatic index, 3)) (hL : Cond.methodLink μ.1.cls index arraycopyName ∈ mtbl) (hnat : Cond.native arraycopyName ∈ mtbl) (hsta : Cond.static arraycopyName ∈ mtbl) (hini : Cond.initialized "java/lang/System" ∈ mtbl) (hx : mshp x = (11, nx)) (hy : mshp y = (11, ny)) (e1 : isp = nI sp) (e2 : idp = nI dp) (e3 : inn = nI n) (h1 : sp + n ≤ nx) (h2 : dp + n ≤ ny) (hd0 : 0 < d) (hw : (st.map fun v => v.category).sum ≤ 8)
    (k : mW G l d μ (pc + 3) ls st (ur σ y (va_cpy (σ.1 x) (σ.1 y) sp dp n)) Q) : mW G l d μ pc ls (.int inn :: .int idp :: .ref y :: .int isp :: .ref x :: st) σ Q := by
  subst e1 e2 e3
  intro p e s m args below meth c H locs cells slots lsr Z R hR hF hP hS hl hQ
  have hts := hF.2.2.2.2.2.1
  have lx := mshp_len hx
  have ly := mshp_len hy
  have b : ∀ q, q ≤ 256 → q < 2 ^ 31 := fun q hq => Nat.lt_of_le_of_lt hq (by decide)
  refine va_copyi hF.1 hF.2.1 (hF.2.2.1.trans hl.1.symm) hF.2.2.2.2.1 (hts _ hL) (hts _ hnat) (hts _ hsta) (hts _ hini) (m_env hF).1 hP (mws_D (m_env hF)) hS x y 0 0 (a0 := G.2.2.2.1 x) (c0 := G.2.1 0) (c1 := G.2.1 0) (n0 := nx) (n1 := ny) (f := σ.1 x) (g := σ.1 y) (ty := .int) (by rw [mws_at (mshp_lt hx (by decide)), mE_i hx]) (by rw [mws_at (mshp_lt hy (by decide)), mE_i hy]) rfl rfl rfl (nI_pos (b _ (by omega))) (nI_pos (b _ (by omega))) (nI_pos (b _ (by omega))) (by rw [nI_clamp (b _ (by omega)), nI_clamp (b _ (by omega))]; exact h1) (by rw [nI_clamp (b _ (by omega)), nI_clamp (b _ (by omega))]; exact h2) (fun _ _ => rfl) (by omega) (by rw [mv_cats]; have := nfw; omega) hd (fun H1 locs1 hP1 _ hS1 => ?_)
  rw [nI_clamp (b sp (by omega)), nI_clamp (b dp (by omega)), nI_clamp (b n (by omega)), mws_set (σ1 := ur σ y (va_cpy (σ.1 x) (σ.1 y) sp dp n)) (mshp_lt hy (by decide)) (by rw [mE_i hy, ur_eq]) (fun z hz => mE_ne (ur_ne hz) rfl)] at hP1
  exact k p e s m args below meth c H1 locs1 cells slots lsr Z R hR hF hP1 hS1 hl hQ
end MC

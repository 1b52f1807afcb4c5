/-! ===== the start: what the Statement gives, as the machine wants it ===== -/
theorem st_sel {C : String} {x0 y z : MethodName} {s : State} {args : Array Value} (hy : y.cls ≠ "java/lang/invoke/MethodHandle" ∧ y.cls ≠ "java/lang/invoke/VarHandle") (hyz : y.cls = z.cls) (hsel : (Cond.selects C x0 z).before args s = true) (hpriv : (Cond.privateMethod y).before args s = true) (hinst : (Cond.instanceMethod y).before args s = true) : (Cond.selects C y y).before args s = true := by
  obtain ⟨c, r, mL, hc, -, hL, -, kT, hkT, hkTi⟩ := Cond.selects_spec hsel
  obtain ⟨mk, methM, hnamed, hmethM, -, -⟩ := Cond.instanceMethod_spec hinst
  have hfound : s.methodFound? y.cls y.name y.desc = some mk := State.methodFound?_of_named hnamed hy
  have e1 := findClass_of_methodNamed hnamed
  have e2 := findClass_of_methodNamed hL
  rw [hyz] at e1
  have hcls : mk.cls = mL.cls := Option.some.inj (e1.symm.trans e2)
  have hsel2 : selectMethod {} s.vm c mk = .method mk := selectMethod_private hmethM (Cond.privateMethod_at hpriv mk methM hnamed hmethM)
  simp only [Cond.before, Cond.holds, Cond.value, hc, hfound, hnamed, hsel2, hcls, hkT]
  simp; exact hkTi
theorem st_words {s : State} {args : Array Value} (hts : ∀ w ∈ lw_tbl, w.before args s = true) : ∀ w ∈ mtbl, w.before args s = true := by
  intro w hw
  have ht : ∀ (i : Nat) (w : Cond), tables_1[i]? = some w → w.before args s = true := fun i w hi => hts w (List.mem_append_right _ (List.mem_of_getElem? hi))
  rcases List.mem_append.mp (List.mem_filter.mp hw).1 with h | h
  · simp only [mxtra, List.mem_cons, List.not_mem_nil, or_false] at h
    rcases h with rfl | rfl
    · exact st_sel (x0 := ⟨"DodgemDebate$Cars", "learn", "(LDodgemDebate$Text;)V"⟩) (z := ⟨"DodgemDebate$Told", "learn", "(LDodgemDebate$Text;)V"⟩) ⟨by decide, by decide⟩ rfl (ht 350 _ (by decide +kernel)) (ht 354 _ (by decide +kernel)) (ht 355 _ (by decide +kernel))
    · exact st_sel (x0 := ⟨"DodgemDebate$Steers", "learn", "(LDodgemDebate$Text;)V"⟩) (z := ⟨"DodgemDebate$Told", "learn", "(LDodgemDebate$Text;)V"⟩) ⟨by decide, by decide⟩ rfl (ht 465 _ (by decide +kernel)) (ht 354 _ (by decide +kernel)) (ht 355 _ (by decide +kernel))
  · exact hts w h
theorem st_env {s : State} {args : Array Value} (hts : ∀ w ∈ lw_tbl, w.before args s = true) (L : Nat) (xs : Nat → Int32) : ∃ g : nG, nEnv g s ∧ g.2.2.1 = (fun q => s.heap.size ≤ q) ∧ g.2.2.2 = (L, xs) := by
  have ht : ∀ (i : Nat) (w : Cond), tables_1[i]? = some w → w.before args s = true := fun i w hi => hts w (List.mem_append_right _ (List.mem_of_getElem? hi))
  have hm := st_words hts
  obtain ⟨cI, kI, compI, i1, i2, i3⟩ := Cond.arrayClass_spec (hm _ al_int)
  obtain ⟨cZ, kZ, compZ, z1, z2, z3⟩ := Cond.arrayClass_spec (hm _ al_boolean)
  obtain ⟨compA, cA, kA, a1, a2, a3, a4⟩ := Cond.arrayOver_specA (t := .int) (ht 53 (.arrayOver (.array .int)) (by decide +kernel))
  have hk : ∀ k : Nat, ∃ q : ClassId × (Nat → Nat), ∀ r : vw_C, vwCl[k]? = some r → u_Kn s r.1 r.2.1 r.2.2 q.1 q.2 := by
    intro k
    match k with
    | 0 =>
      obtain ⟨c, iS, h⟩ := u_known (C := RX0) (T := TX0) (N := 5) (n := 5) hm iw_0 (ht 48 (.instantiable RX0 5) (by decide +kernel))
      exact ⟨(c, iS), fun r hr => by cases hr; exact h⟩
    | 1 =>
      obtain ⟨c, iS, h⟩ := u_known (C := RX1) (T := TX1) (N := 4) (n := 4) hm iw_1 (ht 109 (.instantiable RX1 4) (by decide +kernel))
      exact ⟨(c, iS), fun r hr => by cases hr; exact h⟩
    | 2 =>
      obtain ⟨c, iS, h⟩ := u_known (C := RX2) (T := TX2) (N := 1) (n := 1) hm iw_2 (ht 272 (.instantiable RX2 1) (by decide +kernel))
      exact ⟨(c, iS), fun r hr => by cases hr; exact h⟩
    | 3 =>
      obtain ⟨c, iS, h⟩ := u_known (C := RX3) (T := TX3) (N := 10) (n := 10) hm iw_3 (ht 181 (.instantiable RX3 10) (by decide +kernel))
      exact ⟨(c, iS), fun r hr => by cases hr; exact h⟩
    | 4 =>
      obtain ⟨c, iS, h⟩ := u_known (C := RX4) (T := TX4) (N := 4) (n := 4) hm iw_4 (ht 157 (.instantiable RX4 4) (by decide +kernel))
      exact ⟨(c, iS), fun r hr => by cases hr; exact h⟩
    | 5 =>
      obtain ⟨c, iS, h⟩ := u_known (C := RX5) (T := TX5) (N := 5) (n := 5) hm iw_5 (ht 134 (.instantiable RX5 5) (by decide +kernel))
      exact ⟨(c, iS), fun r hr => by cases hr; exact h⟩
    | 6 =>
      obtain ⟨c, iS, h⟩ := u_known (C := RX6) (T := TX6) (N := 5) (n := 5) hm iw_6 (ht 96 (.instantiable RX6 5) (by decide +kernel))
      exact ⟨(c, iS), fun r hr => by cases hr; exact h⟩
    | 7 =>
      obtain ⟨c, iS, h⟩ := u_known (C := RX7) (T := TX7) (N := 2) (n := 2) hm iw_7 (ht 31 (.instantiable RX7 2) (by decide +kernel))
      exact ⟨(c, iS), fun r hr => by cases hr; exact h⟩
    | 8 =>
      obtain ⟨c, iS, h⟩ := u_known (C := RX9) (T := TX9) (N := 10) (n := 10) hm iw_8 (ht 226 (.instantiable RX9 10) (by decide +kernel))
      exact ⟨(c, iS), fun r hr => by cases hr; exact h⟩
    | 9 =>
      obtain ⟨c, iS, h⟩ := u_known (C := RX10) (T := TX10) (N := 11) (n := 11) hm iw_9 (ht 23 (.instantiable RX10 11) (by decide +kernel))
      exact ⟨(c, iS), fun r hr => by cases hr; exact h⟩
    | 10 =>
      obtain ⟨c, iS, h⟩ := u_known (C := RX11) (T := TX11) (N := 53) (n := 53) hm iw_10 (ht 885 (.instantiable RX11 53) (by decide +kernel))
      exact ⟨(c, iS), fun r hr => by cases hr; exact h⟩
    | k + 11 => exact ⟨(cI, fun _ => 0), fun r hr => by simp [vwCl] at hr⟩
  obtain ⟨D, hD⟩ := Classical.axiomOfChoice hk
  refine ⟨((fun k => (D k).1, fun k => (D k).2), (fun i => if i = 0 then cI else if i = 1 then cA else cZ), (fun q => s.heap.size ≤ q), L, xs), ⟨⟨fun c q hq => hD c q hq, fun k q hq => ?_⟩, ⟨va_AOA.of (ht 53 (.arrayOver (.array .int)) (by decide +kernel)), fun w hw => ?_⟩, fun q hq => hq⟩, rfl, rfl⟩
  · match k, hq with
    | 0, hq => cases hq; exact ⟨fun n z => ⟨fun k h => (by cases h), kI, i2, compI, i3⟩, i1⟩
    | 1, hq => cases hq; exact ⟨fun n z => ⟨fun k h => (by cases h), kA, a2, compA, a3⟩, a4⟩
    | 2, hq => cases hq; exact ⟨fun n z => ⟨fun k h => (by cases h), kZ, z2, compZ, z3⟩, z1⟩
    | k + 3, hq => simp at hq
  · simp only [nnest, List.mem_cons, List.not_mem_nil, or_false] at hw
    rcases hw with rfl | rfl | rfl | rfl | rfl | rfl | rfl | rfl
    · exact va_Nw.of rfl (ht 32 _ (by decide +kernel))
    · exact va_Nw.of rfl (ht 110 _ (by decide +kernel))
    · exact va_Nw.of rfl (ht 135 _ (by decide +kernel))
    · exact va_Nw.of rfl (ht 158 _ (by decide +kernel))
    · exact va_Nw.of rfl (ht 182 _ (by decide +kernel))
    · exact va_Nw.of rfl (ht 273 _ (by decide +kernel))
    · exact va_Nw.of rfl (ht 234 _ (by decide +kernel))
    · exact va_Nw.of rfl (ht 236 _ (by decide +kernel))
theorem st_str {args : Array Value} {s : State} {own tx : String} {k : Nat} {bs : List Int32} {A : Nat → Prop} (h31 : bs.length < 2 ^ 31) (hr : (Cond.stringRef own k tx).before args s = true) (hex : (Cond.exactly (.string own k) "java/lang/String").before args s = true) (hco : (Cond.eq (.field (.string own k) "java/lang/String" "coder" "B") (.int 0)).before args s = true) (har : (Cond.arrayOf (.field (.string own k) "java/lang/String" "value" "[B") .byte).before args s = true) (hle : (Cond.eq (.length (.field (.string own k) "java/lang/String" "value" "[B")) (.int (Int32.ofNat bs.length))).before args s = true)
    (hel : ∀ j : Nat, j < bs.length → (Cond.eq (.elem (.field (.string own k) "java/lang/String" "value" "[B") (.int (Int32.ofNat j))) (.int (bs.getD j 0))).before args s = true) (hA : ∀ a : Nat, a < s.heap.size → ¬ A a) :
    ∃ q : Nat × Nat, vk_R own k tx q.1 s ∧ va_O "java/lang/String" q.1 A s s.heap ∧ va_OF "java/lang/String" "coder" "B" (.int 0) q.1 A s s.heap ∧ va_OF "java/lang/String" "value" "[B" (.ref q.2) q.1 A s s.heap ∧ va_T .byte q.2 bs.length (fun j => .int (bs.getD j 0)) A s s.heap := by
  obtain ⟨a, c, cA, kA, q1, q2, q3, q4, q5, q6, -⟩ := Cond.exactly_spec (args := args) (first := s) (o := none) (s := s) (idx := []) (t := .string own k) (cls := "java/lang/String") hex
  obtain ⟨t, ht, hT⟩ := va_Tof (f := fun j => .int (bs.getD j 0)) (A := A) h31 har (va_eqt hle) (fun j hj => va_eqt (hel j hj)) hA
  exact ⟨(a, t), vk_R.of hr q1, ⟨cA, q3, q5, by rw [q6]; exact q2, hA a (Array.getElem?_eq_some_iff.mp q3).1⟩, vk_OFof q1 (va_eqt hco) hA, vk_OFof q1 ht hA, hT⟩
theorem st_arr {args : Array Value} {s : State} {C n : String} {bs : List Int32} {A : Nat → Prop} (h31 : bs.length < 2 ^ 31) (hl : (Cond.laysStatic C n "[I").before args s = true) (hini : (Cond.initialized C).before args s = true) (har : (Cond.arrayOf (.static C n "[I") .int).before args s = true) (hle : (Cond.eq (.length (.static C n "[I")) (.int (Int32.ofNat bs.length))).before args s = true)
    (hel : ∀ j : Nat, j < bs.length → (Cond.eq (.elem (.static C n "[I") (.int (Int32.ofNat j))) (.int (bs.getD j 0))).before args s = true) (hA : ∀ a : Nat, a < s.heap.size → ¬ A a) :
    ∃ t : Nat, va_Z C n "[I" (.ref t) A s s.heap ∧ va_T .int t bs.length (fun j => .int (bs.getD j 0)) A s s.heap := by
  obtain ⟨t, ht, hT⟩ := va_Tof (f := fun j => .int (bs.getD j 0)) (A := A) h31 har (va_eqt hle) (fun j hj => va_eqt (hel j hj)) hA
  exact ⟨t, va_Zref hl hini ht hA, hT⟩
def gv1 : List Cond := flatC (Jvm.Cond.and given_1 narrow_1)
theorem gs_0 : ∀ j : Nat, j < ([98, 109, 104] : List Int32).length → Cond.eq (.elem (.field (.string "DodgemDebate$Cars" 13) "java/lang/String" "value" "[B") (.int (Int32.ofNat j))) (.int (([98, 109, 104] : List Int32).getD j 0)) ∈ gv1 := by decide +kernel
theorem gs_1 : ∀ j : Nat, j < ([48, 49, 50, 51, 52, 53] : List Int32).length → Cond.eq (.elem (.field (.string "DodgemDebate$Cars" 21) "java/lang/String" "value" "[B") (.int (Int32.ofNat j))) (.int (([48, 49, 50, 51, 52, 53] : List Int32).getD j 0)) ∈ gv1 := by decide +kernel
theorem gs_2 : ∀ j : Nat, j < ([101, 110, 119, 115] : List Int32).length → Cond.eq (.elem (.field (.string "DodgemDebate$Cars" 30) "java/lang/String" "value" "[B") (.int (Int32.ofNat j))) (.int (([101, 110, 119, 115] : List Int32).getD j 0)) ∈ gv1 := by decide +kernel
theorem gs_3 : ∀ j : Nat, j < ([48, 49, 50, 51, 52, 53, 54, 55, 56, 57] : List Int32).length → Cond.eq (.elem (.field (.string "DodgemDebate$Cars" 32) "java/lang/String" "value" "[B") (.int (Int32.ofNat j))) (.int (([48, 49, 50, 51, 52, 53, 54, 55, 56, 57] : List Int32).getD j 0)) ∈ gv1 := by decide +kernel
theorem gs_4 : ∀ j : Nat, j < ([97, 98, 99, 100, 101, 102, 103, 104, 105, 106, 107, 108, 109, 110, 111, 112, 113, 114, 115, 116, 117, 118, 119, 120] : List Int32).length → Cond.eq (.elem (.field (.string "DodgemDebate$Steers" 13) "java/lang/String" "value" "[B") (.int (Int32.ofNat j))) (.int (([97, 98, 99, 100, 101, 102, 103, 104, 105, 106, 107, 108, 109, 110, 111, 112, 113, 114, 115, 116, 117, 118, 119, 120] : List Int32).getD j 0)) ∈ gv1 := by decide +kernel
theorem gs_5 : ∀ j : Nat, j < ([48, 49, 50, 51, 52, 53, 54, 55] : List Int32).length → Cond.eq (.elem (.field (.string "DodgemDebate$Steers" 21) "java/lang/String" "value" "[B") (.int (Int32.ofNat j))) (.int (([48, 49, 50, 51, 52, 53, 54, 55] : List Int32).getD j 0)) ∈ gv1 := by decide +kernel
theorem ga_0 : ∀ j : Nat, j < ([1, 0, -1, 0] : List Int32).length → Cond.eq (.elem (.static "DodgemDebate" "STEP_X" "[I") (.int (Int32.ofNat j))) (.int (([1, 0, -1, 0] : List Int32).getD j 0)) ∈ gv1 := by decide +kernel
theorem ga_1 : ∀ j : Nat, j < ([0, 1, 0, -1] : List Int32).length → Cond.eq (.elem (.static "DodgemDebate" "STEP_Y" "[I") (.int (Int32.ofNat j))) (.int (([0, 1, 0, -1] : List Int32).getD j 0)) ∈ gv1 := by decide +kernel
theorem ga_2 : ∀ j : Nat, j < ([0, 7, 15, 23] : List Int32).length → Cond.eq (.elem (.static "DodgemDebate" "DIGEST_MOMENTS" "[I") (.int (Int32.ofNat j))) (.int (([0, 7, 15, 23] : List Int32).getD j 0)) ∈ gv1 := by decide +kernel
theorem st_ext {s : State} {b L : Nat} {xs : Nat → Int32} (hts : ∀ w ∈ lw_tbl, w.before #[Value.ref b] s = true) (hX : va_X b L xs s s.heap) (hbl : b < s.heap.size) (hgv : (Jvm.Cond.and given_1 narrow_1).before #[Value.ref b] s = true) : ∃ ext : Nat → Nat, ext 1030 = b ∧ ∀ G : mG, G.2.2.1 = (fun q => s.heap.size ≤ q) → (∀ z, 1000 ≤ z → G.2.2.2.1 z = ext z) → G.2.2.2.2 = (L, xs) → mExt G s s.heap := by
  have ht : ∀ (i : Nat) (w : Cond), tables_1[i]? = some w → w.before #[Value.ref b] s = true := fun i w hi => hts w (List.mem_append_right _ (List.mem_of_getElem? hi))
  have hs : ∀ w ∈ gv1, w.before #[Value.ref b] s = true := flat_of_before _ hgv
  have hA : ∀ a : Nat, a < s.heap.size → ¬ (fun q : Nat => s.heap.size ≤ q) a := fun a h => Nat.not_le.mpr h
  obtain ⟨t0, tz0, tt0⟩ := st_arr (bs := [1, 0, -1, 0]) (A := fun q => s.heap.size ≤ q) (by decide) (ht 490 (.laysStatic "DodgemDebate" "STEP_X" "[I") (by decide +kernel)) (ht 1 (.initialized "DodgemDebate") (by decide +kernel)) (hs (.arrayOf (.static "DodgemDebate" "STEP_X" "[I") .int) (by decide +kernel)) (hs (.eq (.length (.static "DodgemDebate" "STEP_X" "[I")) (.int (Int32.ofNat 4))) (by decide +kernel)) (fun j hj => hs _ (ga_0 j hj)) hA
  obtain ⟨t1, tz1, tt1⟩ := st_arr (bs := [0, 1, 0, -1]) (A := fun q => s.heap.size ≤ q) (by decide) (ht 492 (.laysStatic "DodgemDebate" "STEP_Y" "[I") (by decide +kernel)) (ht 1 (.initialized "DodgemDebate") (by decide +kernel)) (hs (.arrayOf (.static "DodgemDebate" "STEP_Y" "[I") .int) (by decide +kernel)) (hs (.eq (.length (.static "DodgemDebate" "STEP_Y" "[I")) (.int (Int32.ofNat 4))) (by decide +kernel)) (fun j hj => hs _ (ga_1 j hj)) hA
  obtain ⟨t2, tz2, tt2⟩ := st_arr (bs := [0, 7, 15, 23]) (A := fun q => s.heap.size ≤ q) (by decide) (ht 875 (.laysStatic "DodgemDebate" "DIGEST_MOMENTS" "[I") (by decide +kernel)) (ht 1 (.initialized "DodgemDebate") (by decide +kernel)) (hs (.arrayOf (.static "DodgemDebate" "DIGEST_MOMENTS" "[I") .int) (by decide +kernel)) (hs (.eq (.length (.static "DodgemDebate" "DIGEST_MOMENTS" "[I")) (.int (Int32.ofNat 4))) (by decide +kernel)) (fun j hj => hs _ (ga_2 j hj)) hA
  obtain ⟨q0, qs0⟩ := st_str (bs := [98, 109, 104]) (A := fun q => s.heap.size ≤ q) (by decide) (ht 363 (.stringRef "DodgemDebate$Cars" 13 "bmh") (by decide +kernel)) (hs (.exactly (.string "DodgemDebate$Cars" 13) "java/lang/String") (by decide +kernel)) (hs (.eq (.field (.string "DodgemDebate$Cars" 13) "java/lang/String" "coder" "B") (.int 0)) (by decide +kernel)) (hs (.arrayOf (.field (.string "DodgemDebate$Cars" 13) "java/lang/String" "value" "[B") .byte) (by decide +kernel)) (hs (.eq (.length (.field (.string "DodgemDebate$Cars" 13) "java/lang/String" "value" "[B")) (.int (Int32.ofNat 3))) (by decide +kernel)) (fun j hj => hs _ (gs_0 j hj)) hA
  obtain ⟨q1, qs1⟩ := st_str (bs := [48, 49, 50, 51, 52, 53]) (A := fun q => s.heap.size ≤ q) (by decide) (ht 450 (.stringRef "DodgemDebate$Cars" 21 "012345") (by decide +kernel)) (hs (.exactly (.string "DodgemDebate$Cars" 21) "java/lang/String") (by decide +kernel)) (hs (.eq (.field (.string "DodgemDebate$Cars" 21) "java/lang/String" "coder" "B") (.int 0)) (by decide +kernel)) (hs (.arrayOf (.field (.string "DodgemDebate$Cars" 21) "java/lang/String" "value" "[B") .byte) (by decide +kernel)) (hs (.eq (.length (.field (.string "DodgemDebate$Cars" 21) "java/lang/String" "value" "[B")) (.int (Int32.ofNat 6))) (by decide +kernel)) (fun j hj => hs _ (gs_1 j hj)) hA
  obtain ⟨q2, qs2⟩ := st_str (bs := [101, 110, 119, 115]) (A := fun q => s.heap.size ≤ q) (by decide) (ht 455 (.stringRef "DodgemDebate$Cars" 30 "enws") (by decide +kernel)) (hs (.exactly (.string "DodgemDebate$Cars" 30) "java/lang/String") (by decide +kernel)) (hs (.eq (.field (.string "DodgemDebate$Cars" 30) "java/lang/String" "coder" "B") (.int 0)) (by decide +kernel)) (hs (.arrayOf (.field (.string "DodgemDebate$Cars" 30) "java/lang/String" "value" "[B") .byte) (by decide +kernel)) (hs (.eq (.length (.field (.string "DodgemDebate$Cars" 30) "java/lang/String" "value" "[B")) (.int (Int32.ofNat 4))) (by decide +kernel)) (fun j hj => hs _ (gs_2 j hj)) hA
  obtain ⟨q3, qs3⟩ := st_str (bs := [48, 49, 50, 51, 52, 53, 54, 55, 56, 57]) (A := fun q => s.heap.size ≤ q) (by decide) (ht 456 (.stringRef "DodgemDebate$Cars" 32 "0123456789") (by decide +kernel)) (hs (.exactly (.string "DodgemDebate$Cars" 32) "java/lang/String") (by decide +kernel)) (hs (.eq (.field (.string "DodgemDebate$Cars" 32) "java/lang/String" "coder" "B") (.int 0)) (by decide +kernel)) (hs (.arrayOf (.field (.string "DodgemDebate$Cars" 32) "java/lang/String" "value" "[B") .byte) (by decide +kernel)) (hs (.eq (.length (.field (.string "DodgemDebate$Cars" 32) "java/lang/String" "value" "[B")) (.int (Int32.ofNat 10))) (by decide +kernel)) (fun j hj => hs _ (gs_3 j hj)) hA
  obtain ⟨q4, qs4⟩ := st_str (bs := [97, 98, 99, 100, 101, 102, 103, 104, 105, 106, 107, 108, 109, 110, 111, 112, 113, 114, 115, 116, 117, 118, 119, 120]) (A := fun q => s.heap.size ≤ q) (by decide) (ht 460 (.stringRef "DodgemDebate$Steers" 13 "abcdefghijklmnopqrstuvwx") (by decide +kernel)) (hs (.exactly (.string "DodgemDebate$Steers" 13) "java/lang/String") (by decide +kernel)) (hs (.eq (.field (.string "DodgemDebate$Steers" 13) "java/lang/String" "coder" "B") (.int 0)) (by decide +kernel)) (hs (.arrayOf (.field (.string "DodgemDebate$Steers" 13) "java/lang/String" "value" "[B") .byte) (by decide +kernel)) (hs (.eq (.length (.field (.string "DodgemDebate$Steers" 13) "java/lang/String" "value" "[B")) (.int (Int32.ofNat 24))) (by decide +kernel)) (fun j hj => hs _ (gs_4 j hj)) hA
  obtain ⟨q5, qs5⟩ := st_str (bs := [48, 49, 50, 51, 52, 53, 54, 55]) (A := fun q => s.heap.size ≤ q) (by decide) (ht 462 (.stringRef "DodgemDebate$Steers" 21 "01234567") (by decide +kernel)) (hs (.exactly (.string "DodgemDebate$Steers" 21) "java/lang/String") (by decide +kernel)) (hs (.eq (.field (.string "DodgemDebate$Steers" 21) "java/lang/String" "coder" "B") (.int 0)) (by decide +kernel)) (hs (.arrayOf (.field (.string "DodgemDebate$Steers" 21) "java/lang/String" "value" "[B") .byte) (by decide +kernel)) (hs (.eq (.length (.field (.string "DodgemDebate$Steers" 21) "java/lang/String" "value" "[B")) (.int (Int32.ofNat 8))) (by decide +kernel)) (fun j hj => hs _ (gs_5 j hj)) hA
  have hcs := va_Zof (A := fun q => s.heap.size ≤ q) (ht 377 (.laysStatic "java/lang/String" "COMPACT_STRINGS" "Z") (by decide +kernel)) (ht 13 (.initialized "java/lang/String") (by decide +kernel)) (va_eqt (hs (.eq (.static "java/lang/String" "COMPACT_STRINGS" "Z") (.int 1)) (by decide +kernel))) hA
  have hscr : va_T .int b L (fun j => .int (xs j)) (fun q => s.heap.size ≤ q) s s.heap := by
    obtain ⟨scr, h1, h2, h3, h4, h5⟩ := hX
    exact ⟨scr, h1, h2, h3, Nat.le_of_eq h4.symm, by rw [h4], h5, hA b hbl⟩
  refine ⟨fun z => ([t0, t1, t2, 0, 0, 0, 0, 0, 0, 0, q0.1, q1.1, q2.1, q3.1, q4.1, q5.1, 0, 0, 0, 0, q0.2, q1.2, q2.2, q3.2, q4.2, q5.2, 0, 0, 0, 0, b] : List Nat).getD (z - 1000) 0, rfl, ?_⟩
  rintro ⟨g1, g2, g3, adr, g5⟩ hG ha hL
  have hG : g3 = fun q => s.heap.size ≤ q := hG
  have hL : g5 = (L, xs) := hL
  subst hG hL
  refine ⟨fun w hw => ?_, fun i q hq => ?_, hcs, fun i q hq => ?_, ?_⟩
  · simp only [mnest, List.mem_cons, List.not_mem_nil, or_false] at hw
    rcases hw with rfl | rfl | rfl | rfl | rfl | rfl | rfl
    · exact va_Nw.of rfl (ht 489 _ (by decide +kernel))
    · exact va_Nw.of rfl (ht 491 _ (by decide +kernel))
    · exact va_Nw.of rfl (ht 493 _ (by decide +kernel))
    · exact va_Nw.of rfl (ht 531 _ (by decide +kernel))
    · exact va_Nw.of rfl (ht 825 _ (by decide +kernel))
    · exact va_Nw.of rfl (ht 358 _ (by decide +kernel))
    · exact va_Nw.of rfl (ht 349 _ (by decide +kernel))
  · match i, hq with
    | 0, hq =>
      cases hq
      have e : adr (1000 + 0) = t0 := ha (1000 + 0) (by decide)
      show va_Z "DodgemDebate" _ "[I" (.ref (adr (1000 + 0))) (fun q => s.heap.size ≤ q) s s.heap ∧ va_T .int (adr (1000 + 0)) _ _ (fun q => s.heap.size ≤ q) s s.heap
      rw [e]
      exact ⟨tz0, tt0⟩
    | 1, hq =>
      cases hq
      have e : adr (1000 + 1) = t1 := ha (1000 + 1) (by decide)
      show va_Z "DodgemDebate" _ "[I" (.ref (adr (1000 + 1))) (fun q => s.heap.size ≤ q) s s.heap ∧ va_T .int (adr (1000 + 1)) _ _ (fun q => s.heap.size ≤ q) s s.heap
      rw [e]
      exact ⟨tz1, tt1⟩
    | 2, hq =>
      cases hq
      have e : adr (1000 + 2) = t2 := ha (1000 + 2) (by decide)
      show va_Z "DodgemDebate" _ "[I" (.ref (adr (1000 + 2))) (fun q => s.heap.size ≤ q) s s.heap ∧ va_T .int (adr (1000 + 2)) _ _ (fun q => s.heap.size ≤ q) s s.heap
      rw [e]
      exact ⟨tz2, tt2⟩
    | i + 3, hq => simp [msta] at hq
  · match i, hq with
    | 0, hq =>
      cases hq
      have e1 : adr (1010 + 0) = q0.1 := ha (1010 + 0) (by decide)
      have e2 : adr (1020 + 0) = q0.2 := ha (1020 + 0) (by decide)
      show vk_R _ _ _ (adr (1010 + 0)) s ∧ va_O "java/lang/String" (adr (1010 + 0)) (fun q => s.heap.size ≤ q) s s.heap ∧ va_OF "java/lang/String" "coder" "B" (.int 0) (adr (1010 + 0)) (fun q => s.heap.size ≤ q) s s.heap ∧ va_OF "java/lang/String" "value" "[B" (.ref (adr (1020 + 0))) (adr (1010 + 0)) (fun q => s.heap.size ≤ q) s s.heap ∧ va_T .byte (adr (1020 + 0)) _ _ (fun q => s.heap.size ≤ q) s s.heap
      rw [e1, e2]
      exact qs0
    | 1, hq =>
      cases hq
      have e1 : adr (1010 + 1) = q1.1 := ha (1010 + 1) (by decide)
      have e2 : adr (1020 + 1) = q1.2 := ha (1020 + 1) (by decide)
      show vk_R _ _ _ (adr (1010 + 1)) s ∧ va_O "java/lang/String" (adr (1010 + 1)) (fun q => s.heap.size ≤ q) s s.heap ∧ va_OF "java/lang/String" "coder" "B" (.int 0) (adr (1010 + 1)) (fun q => s.heap.size ≤ q) s s.heap ∧ va_OF "java/lang/String" "value" "[B" (.ref (adr (1020 + 1))) (adr (1010 + 1)) (fun q => s.heap.size ≤ q) s s.heap ∧ va_T .byte (adr (1020 + 1)) _ _ (fun q => s.heap.size ≤ q) s s.heap
      rw [e1, e2]
      exact qs1
    | 2, hq =>
      cases hq
      have e1 : adr (1010 + 2) = q2.1 := ha (1010 + 2) (by decide)
      have e2 : adr (1020 + 2) = q2.2 := ha (1020 + 2) (by decide)
      show vk_R _ _ _ (adr (1010 + 2)) s ∧ va_O "java/lang/String" (adr (1010 + 2)) (fun q => s.heap.size ≤ q) s s.heap ∧ va_OF "java/lang/String" "coder" "B" (.int 0) (adr (1010 + 2)) (fun q => s.heap.size ≤ q) s s.heap ∧ va_OF "java/lang/String" "value" "[B" (.ref (adr (1020 + 2))) (adr (1010 + 2)) (fun q => s.heap.size ≤ q) s s.heap ∧ va_T .byte (adr (1020 + 2)) _ _ (fun q => s.heap.size ≤ q) s s.heap
      rw [e1, e2]
      exact qs2
    | 3, hq =>
      cases hq
      have e1 : adr (1010 + 3) = q3.1 := ha (1010 + 3) (by decide)
      have e2 : adr (1020 + 3) = q3.2 := ha (1020 + 3) (by decide)
      show vk_R _ _ _ (adr (1010 + 3)) s ∧ va_O "java/lang/String" (adr (1010 + 3)) (fun q => s.heap.size ≤ q) s s.heap ∧ va_OF "java/lang/String" "coder" "B" (.int 0) (adr (1010 + 3)) (fun q => s.heap.size ≤ q) s s.heap ∧ va_OF "java/lang/String" "value" "[B" (.ref (adr (1020 + 3))) (adr (1010 + 3)) (fun q => s.heap.size ≤ q) s s.heap ∧ va_T .byte (adr (1020 + 3)) _ _ (fun q => s.heap.size ≤ q) s s.heap
      rw [e1, e2]
      exact qs3
    | 4, hq =>
      cases hq
      have e1 : adr (1010 + 4) = q4.1 := ha (1010 + 4) (by decide)
      have e2 : adr (1020 + 4) = q4.2 := ha (1020 + 4) (by decide)
      show vk_R _ _ _ (adr (1010 + 4)) s ∧ va_O "java/lang/String" (adr (1010 + 4)) (fun q => s.heap.size ≤ q) s s.heap ∧ va_OF "java/lang/String" "coder" "B" (.int 0) (adr (1010 + 4)) (fun q => s.heap.size ≤ q) s s.heap ∧ va_OF "java/lang/String" "value" "[B" (.ref (adr (1020 + 4))) (adr (1010 + 4)) (fun q => s.heap.size ≤ q) s s.heap ∧ va_T .byte (adr (1020 + 4)) _ _ (fun q => s.heap.size ≤ q) s s.heap
      rw [e1, e2]
      exact qs4
    | 5, hq =>
      cases hq
      have e1 : adr (1010 + 5) = q5.1 := ha (1010 + 5) (by decide)
      have e2 : adr (1020 + 5) = q5.2 := ha (1020 + 5) (by decide)
      show vk_R _ _ _ (adr (1010 + 5)) s ∧ va_O "java/lang/String" (adr (1010 + 5)) (fun q => s.heap.size ≤ q) s s.heap ∧ va_OF "java/lang/String" "coder" "B" (.int 0) (adr (1010 + 5)) (fun q => s.heap.size ≤ q) s s.heap ∧ va_OF "java/lang/String" "value" "[B" (.ref (adr (1020 + 5))) (adr (1010 + 5)) (fun q => s.heap.size ≤ q) s s.heap ∧ va_T .byte (adr (1020 + 5)) _ _ (fun q => s.heap.size ≤ q) s s.heap
      rw [e1, e2]
      exact qs5
    | i + 6, hq => simp [mstr] at hq
  · have e : adr 1030 = b := ha 1030 (by decide)
    show va_T .int (adr 1030) L (fun j => .int (xs j)) (fun q => s.heap.size ≤ q) s s.heap
    rw [e]
    exact hscr
/-- the relation holds behind the constructors -/
theorem z00 {x k : Nat} (h : nzL.contains x = false) : s00.1 x k = nI 0 := by
  show σi x k = nI 0
  rw [σi_z h, nI_0]
theorem J0 : J s00 := by
  refine ⟨fun _ => 0, 0, 0, fun _ => 0, ⟨fun j hj => ⟨z00 (by decide), Nat.zero_le _⟩, fun j hj => ?_, fun j hj i hi => absurd hi (Nat.not_lt_zero _)⟩, ⟨z00 (by decide), z00 (by decide), Nat.zero_le _, fun i hi => absurd hi (Nat.not_lt_zero _)⟩, ⟨z00 (by decide), z00 (by decide), Nat.zero_le _, fun i hi => absurd hi (Nat.not_lt_zero _)⟩, ⟨fun j hj => ⟨Or.inl ((z00 (by decide)).trans nI_0), z00 (by decide), Nat.zero_le _⟩, fun j hj => ⟨?_, Nat.zero_le _⟩, fun j hj => ⟨(z00 (by decide)).trans (z00 (by decide)).symm, fun i hi => ?_⟩⟩, ⟨(z00 (by decide)).trans (z00 (by decide)).symm, rfl, rfl, rfl, rfl⟩, Or.inl rfl⟩
  · rcases (show j = 0 ∨ j = 1 by omega) with rfl | rfl <;> exact ⟨z00 (by decide), Nat.zero_le _⟩
  · rw [if_pos ((z00 (by decide)).trans nI_0)]
    show (if j < 4 then (-1 : Int32) else 0) = -1
    rw [if_pos hj]
  · rcases (show j = 0 ∨ j = 1 ∨ j = 2 ∨ j = 3 by omega) with rfl | rfl | rfl | rfl <;> exact (z00 (by decide)).trans (z00 (by decide)).symm
theorem kV.done {g : nG} {adr : Nat → Nat} {τ : Nat → va_E} {H : Heap} (hV : kV g 153 adr τ []) (hP : va_P g.1 vwCl (nw 153 adr τ) H) : va_P g.1 vwCl (mws (gG g adr) s00) H := by
  intro k q hq
  have hk : k < 153 := by
    have h9 := (List.getElem?_eq_some_iff.mp hq).1
    unfold mws at h9
    rw [List.length_map, List.length_range] at h9
    exact h9
  rw [mws_at hk] at hq
  cases hq
  exact (hV k hk).2 rfl H (hP k _ (nw_at hk))

/-! ===== the class is told ===== -/
/-- how long the class's two texts are -/
def okT (σ : mS) (L : Nat → Nat) : Prop := ∀ j, j < 2 → σ.1 (1 + 2 * j) 1 = nI (L j) ∧ L j ≤ 47
section TL
variable {G : mG} {l : Launch} {d : Nat} {σ : mS}
theorem dX10_textOf_0 : decode cX10_textOf 0 = .ok (.iload_n 1, 1) := by decide +kernel
theorem dX10_textOf_1 : decode cX10_textOf 1 = .ok (.ifCond .ne 10, 3) := by decide +kernel
theorem dX10_textOf_4 : decode cX10_textOf 4 = .ok (.aload_n 0, 1) := by decide +kernel
theorem dX10_textOf_5 : decode cX10_textOf 5 = .ok (.getfield 12, 3) := by decide +kernel
theorem dX10_textOf_8 : decode cX10_textOf 8 = .ok (.goto 7, 3) := by decide +kernel
theorem dX10_textOf_11 : decode cX10_textOf 11 = .ok (.aload_n 0, 1) := by decide +kernel
theorem dX10_textOf_12 : decode cX10_textOf 12 = .ok (.getfield 16, 3) := by decide +kernel
theorem dX10_textOf_15 : decode cX10_textOf 15 = .ok (.areturn, 1) := by decide +kernel
theorem dX10_type_0 : decode cX10_type 0 = .ok (.iload_n 1, 1) := by decide +kernel
theorem dX10_type_1 : decode cX10_type 1 = .ok (.iconst 2, 1) := by decide +kernel
theorem dX10_type_2 : decode cX10_type 2 = .ok (.invokestatic 81, 3) := by decide +kernel
theorem dX10_type_5 : decode cX10_type 5 = .ok (.ifCond .eq 13, 3) := by decide +kernel
theorem dX10_type_8 : decode cX10_type 8 = .ok (.iload_n 2, 1) := by decide +kernel
theorem dX10_type_9 : decode cX10_type 9 = .ok (.sipush 256, 3) := by decide +kernel
theorem dX10_type_12 : decode cX10_type 12 = .ok (.invokestatic 81, 3) := by decide +kernel
theorem dX10_type_15 : decode cX10_type 15 = .ok (.ifCond .ne 6, 3) := by decide +kernel
theorem dX10_type_18 : decode cX10_type 18 = .ok (.bipush (-2), 2) := by decide +kernel
theorem dX10_type_20 : decode cX10_type 20 = .ok (.ireturn, 1) := by decide +kernel
theorem dX10_type_21 : decode cX10_type 21 = .ok (.aload_n 0, 1) := by decide +kernel
theorem dX10_type_22 : decode cX10_type 22 = .ok (.iload_n 1, 1) := by decide +kernel
theorem dX10_type_23 : decode cX10_type 23 = .ok (.invokevirtual 85, 3) := by decide +kernel
theorem dX10_type_26 : decode cX10_type 26 = .ok (.astore_n 3, 1) := by decide +kernel
theorem dX10_type_27 : decode cX10_type 27 = .ok (.aload_n 3, 1) := by decide +kernel
theorem dX10_type_28 : decode cX10_type 28 = .ok (.getfield 89, 3) := by decide +kernel
theorem dX10_type_31 : decode cX10_type 31 = .ok (.bipush 47, 2) := by decide +kernel
theorem dX10_type_33 : decode cX10_type 33 = .ok (.if_icmp .lt 6, 3) := by decide +kernel
theorem dX10_type_36 : decode cX10_type 36 = .ok (.bipush (-4), 2) := by decide +kernel
theorem dX10_type_38 : decode cX10_type 38 = .ok (.ireturn, 1) := by decide +kernel
theorem dX10_type_39 : decode cX10_type 39 = .ok (.aload_n 3, 1) := by decide +kernel
theorem dX10_type_40 : decode cX10_type 40 = .ok (.iload_n 2, 1) := by decide +kernel
theorem dX10_type_41 : decode cX10_type 41 = .ok (.invokevirtual 93, 3) := by decide +kernel
theorem dX10_type_44 : decode cX10_type 44 = .ok (.aload_n 0, 1) := by decide +kernel
theorem dX10_type_45 : decode cX10_type 45 = .ok (.iconst 1, 1) := by decide +kernel
theorem dX10_type_46 : decode cX10_type 46 = .ok (.putfield 77, 3) := by decide +kernel
theorem dX10_type_49 : decode cX10_type 49 = .ok (.aload_n 3, 1) := by decide +kernel
theorem dX10_type_50 : decode cX10_type 50 = .ok (.getfield 89, 3) := by decide +kernel
theorem dX10_type_53 : decode cX10_type 53 = .ok (.ireturn, 1) := by decide +kernel
theorem dX10_wipe_0 : decode cX10_wipe 0 = .ok (.iload_n 1, 1) := by decide +kernel
theorem dX10_wipe_1 : decode cX10_wipe 1 = .ok (.iconst 2, 1) := by decide +kernel
theorem dX10_wipe_2 : decode cX10_wipe 2 = .ok (.invokestatic 81, 3) := by decide +kernel
theorem dX10_wipe_5 : decode cX10_wipe 5 = .ok (.ifCond .ne 6, 3) := by decide +kernel
theorem dX10_wipe_8 : decode cX10_wipe 8 = .ok (.bipush (-2), 2) := by decide +kernel
theorem dX10_wipe_10 : decode cX10_wipe 10 = .ok (.ireturn, 1) := by decide +kernel
theorem dX10_wipe_11 : decode cX10_wipe 11 = .ok (.aload_n 0, 1) := by decide +kernel
theorem dX10_wipe_12 : decode cX10_wipe 12 = .ok (.iload_n 1, 1) := by decide +kernel
theorem dX10_wipe_13 : decode cX10_wipe 13 = .ok (.invokevirtual 85, 3) := by decide +kernel
theorem dX10_wipe_16 : decode cX10_wipe 16 = .ok (.astore_n 2, 1) := by decide +kernel
theorem dX10_wipe_17 : decode cX10_wipe 17 = .ok (.aload_n 2, 1) := by decide +kernel
theorem dX10_wipe_18 : decode cX10_wipe 18 = .ok (.getfield 89, 3) := by decide +kernel
theorem dX10_wipe_21 : decode cX10_wipe 21 = .ok (.istore_n 3, 1) := by decide +kernel
theorem dX10_wipe_22 : decode cX10_wipe 22 = .ok (.aload_n 2, 1) := by decide +kernel
theorem dX10_wipe_23 : decode cX10_wipe 23 = .ok (.iconst 0, 1) := by decide +kernel
theorem dX10_wipe_24 : decode cX10_wipe 24 = .ok (.putfield 89, 3) := by decide +kernel
theorem dX10_wipe_27 : decode cX10_wipe 27 = .ok (.aload_n 0, 1) := by decide +kernel
theorem dX10_wipe_28 : decode cX10_wipe 28 = .ok (.iconst 1, 1) := by decide +kernel
theorem dX10_wipe_29 : decode cX10_wipe 29 = .ok (.putfield 77, 3) := by decide +kernel
theorem dX10_wipe_32 : decode cX10_wipe 32 = .ok (.iload_n 3, 1) := by decide +kernel
theorem dX10_wipe_33 : decode cX10_wipe 33 = .ok (.ireturn, 1) := by decide +kernel
theorem dX10_undo_0 : decode cX10_undo 0 = .ok (.iload_n 1, 1) := by decide +kernel
theorem dX10_undo_1 : decode cX10_undo 1 = .ok (.iconst 2, 1) := by decide +kernel
theorem dX10_undo_2 : decode cX10_undo 2 = .ok (.invokestatic 81, 3) := by decide +kernel
theorem dX10_undo_5 : decode cX10_undo 5 = .ok (.ifCond .ne 6, 3) := by decide +kernel
theorem dX10_undo_8 : decode cX10_undo 8 = .ok (.bipush (-2), 2) := by decide +kernel
theorem dX10_undo_10 : decode cX10_undo 10 = .ok (.ireturn, 1) := by decide +kernel
theorem dX10_undo_11 : decode cX10_undo 11 = .ok (.aload_n 0, 1) := by decide +kernel
theorem dX10_undo_12 : decode cX10_undo 12 = .ok (.iload_n 1, 1) := by decide +kernel
theorem dX10_undo_13 : decode cX10_undo 13 = .ok (.invokevirtual 85, 3) := by decide +kernel
theorem dX10_undo_16 : decode cX10_undo 16 = .ok (.astore_n 2, 1) := by decide +kernel
theorem dX10_undo_17 : decode cX10_undo 17 = .ok (.aload_n 2, 1) := by decide +kernel
theorem dX10_undo_18 : decode cX10_undo 18 = .ok (.getfield 89, 3) := by decide +kernel
theorem dX10_undo_21 : decode cX10_undo 21 = .ok (.ifCond .ne 6, 3) := by decide +kernel
theorem dX10_undo_24 : decode cX10_undo 24 = .ok (.bipush (-3), 2) := by decide +kernel
theorem dX10_undo_26 : decode cX10_undo 26 = .ok (.ireturn, 1) := by decide +kernel
theorem dX10_undo_27 : decode cX10_undo 27 = .ok (.aload_n 2, 1) := by decide +kernel
theorem dX10_undo_28 : decode cX10_undo 28 = .ok (.dup, 1) := by decide +kernel
theorem dX10_undo_29 : decode cX10_undo 29 = .ok (.getfield 89, 3) := by decide +kernel
theorem dX10_undo_32 : decode cX10_undo 32 = .ok (.iconst 1, 1) := by decide +kernel
theorem dX10_undo_33 : decode cX10_undo 33 = .ok (.isub, 1) := by decide +kernel
theorem dX10_undo_34 : decode cX10_undo 34 = .ok (.putfield 89, 3) := by decide +kernel
theorem dX10_undo_37 : decode cX10_undo 37 = .ok (.aload_n 0, 1) := by decide +kernel
theorem dX10_undo_38 : decode cX10_undo 38 = .ok (.iconst 1, 1) := by decide +kernel
theorem dX10_undo_39 : decode cX10_undo 39 = .ok (.putfield 77, 3) := by decide +kernel
theorem dX10_undo_42 : decode cX10_undo 42 = .ok (.aload_n 2, 1) := by decide +kernel
theorem dX10_undo_43 : decode cX10_undo 43 = .ok (.getfield 89, 3) := by decide +kernel
theorem dX10_undo_46 : decode cX10_undo 46 = .ok (.ireturn, 1) := by decide +kernel
theorem dX10_event_0 : decode cX10_event 0 = .ok (.iload_n 1, 1) := by decide +kernel
theorem dX10_event_1 : decode cX10_event 1 = .ok (.iload_n 2, 1) := by decide +kernel
theorem dX10_event_2 : decode cX10_event 2 = .ok (.iload_n 3, 1) := by decide +kernel
theorem dX10_event_3 : decode cX10_event 3 = .ok (.invokestatic 115, 3) := by decide +kernel
theorem dX10_event_6 : decode cX10_event 6 = .ok (.ifCond .ne 6, 3) := by decide +kernel
theorem dX10_event_9 : decode cX10_event 9 = .ok (.bipush (-2), 2) := by decide +kernel
theorem dX10_event_11 : decode cX10_event 11 = .ok (.ireturn, 1) := by decide +kernel
theorem dX10_event_12 : decode cX10_event 12 = .ok (.aload_n 0, 1) := by decide +kernel
theorem dX10_event_13 : decode cX10_event 13 = .ok (.getfield 36, 3) := by decide +kernel
theorem dX10_event_16 : decode cX10_event 16 = .ok (.getfield 119, 3) := by decide +kernel
theorem dX10_event_19 : decode cX10_event 19 = .ok (.bipush 8, 2) := by decide +kernel
theorem dX10_event_21 : decode cX10_event 21 = .ok (.if_icmp .lt 6, 3) := by decide +kernel
theorem dX10_event_24 : decode cX10_event 24 = .ok (.bipush (-4), 2) := by decide +kernel
theorem dX10_event_26 : decode cX10_event 26 = .ok (.ireturn, 1) := by decide +kernel
theorem dX10_event_27 : decode cX10_event 27 = .ok (.aload_n 0, 1) := by decide +kernel
theorem dX10_event_28 : decode cX10_event 28 = .ok (.getfield 36, 3) := by decide +kernel
theorem dX10_event_31 : decode cX10_event 31 = .ok (.iload_n 1, 1) := by decide +kernel
theorem dX10_event_32 : decode cX10_event 32 = .ok (.iload_n 2, 1) := by decide +kernel
theorem dX10_event_33 : decode cX10_event 33 = .ok (.iload_n 3, 1) := by decide +kernel
theorem dX10_event_34 : decode cX10_event 34 = .ok (.invokevirtual 120, 3) := by decide +kernel
theorem dX10_event_37 : decode cX10_event 37 = .ok (.aload_n 0, 1) := by decide +kernel
theorem dX10_event_38 : decode cX10_event 38 = .ok (.iconst 1, 1) := by decide +kernel
theorem dX10_event_39 : decode cX10_event 39 = .ok (.putfield 77, 3) := by decide +kernel
theorem dX10_event_42 : decode cX10_event 42 = .ok (.aload_n 0, 1) := by decide +kernel
theorem dX10_event_43 : decode cX10_event 43 = .ok (.getfield 36, 3) := by decide +kernel
theorem dX10_event_46 : decode cX10_event 46 = .ok (.getfield 119, 3) := by decide +kernel
theorem dX10_event_49 : decode cX10_event 49 = .ok (.ireturn, 1) := by decide +kernel
theorem dX10_back_0 : decode cX10_back 0 = .ok (.aload_n 0, 1) := by decide +kernel
theorem dX10_back_1 : decode cX10_back 1 = .ok (.getfield 36, 3) := by decide +kernel
theorem dX10_back_4 : decode cX10_back 4 = .ok (.getfield 119, 3) := by decide +kernel
theorem dX10_back_7 : decode cX10_back 7 = .ok (.ifCond .ne 6, 3) := by decide +kernel
theorem dX10_back_10 : decode cX10_back 10 = .ok (.bipush (-3), 2) := by decide +kernel
theorem dX10_back_12 : decode cX10_back 12 = .ok (.ireturn, 1) := by decide +kernel
theorem dX10_back_13 : decode cX10_back 13 = .ok (.aload_n 0, 1) := by decide +kernel
theorem dX10_back_14 : decode cX10_back 14 = .ok (.getfield 36, 3) := by decide +kernel
theorem dX10_back_17 : decode cX10_back 17 = .ok (.dup, 1) := by decide +kernel
theorem dX10_back_18 : decode cX10_back 18 = .ok (.getfield 119, 3) := by decide +kernel
theorem dX10_back_21 : decode cX10_back 21 = .ok (.iconst 1, 1) := by decide +kernel
theorem dX10_back_22 : decode cX10_back 22 = .ok (.isub, 1) := by decide +kernel
theorem dX10_back_23 : decode cX10_back 23 = .ok (.putfield 119, 3) := by decide +kernel
theorem dX10_back_26 : decode cX10_back 26 = .ok (.aload_n 0, 1) := by decide +kernel
theorem dX10_back_27 : decode cX10_back 27 = .ok (.iconst 1, 1) := by decide +kernel
theorem dX10_back_28 : decode cX10_back 28 = .ok (.putfield 77, 3) := by decide +kernel
theorem dX10_back_31 : decode cX10_back 31 = .ok (.aload_n 0, 1) := by decide +kernel
theorem dX10_back_32 : decode cX10_back 32 = .ok (.getfield 36, 3) := by decide +kernel
theorem dX10_back_35 : decode cX10_back 35 = .ok (.getfield 119, 3) := by decide +kernel
theorem dX10_back_38 : decode cX10_back 38 = .ok (.ireturn, 1) := by decide +kernel
theorem dX10_seen_0 : decode cX10_seen 0 = .ok (.iload_n 1, 1) := by decide +kernel
theorem dX10_seen_1 : decode cX10_seen 1 = .ok (.bipush 24, 2) := by decide +kernel
theorem dX10_seen_3 : decode cX10_seen 3 = .ok (.invokestatic 81, 3) := by decide +kernel
theorem dX10_seen_6 : decode cX10_seen 6 = .ok (.ifCond .eq 21, 3) := by decide +kernel
theorem dX10_seen_9 : decode cX10_seen 9 = .ok (.iload_n 2, 1) := by decide +kernel
theorem dX10_seen_10 : decode cX10_seen 10 = .ok (.bipush 8, 2) := by decide +kernel
theorem dX10_seen_12 : decode cX10_seen 12 = .ok (.invokestatic 81, 3) := by decide +kernel
theorem dX10_seen_15 : decode cX10_seen 15 = .ok (.ifCond .eq 12, 3) := by decide +kernel
theorem dX10_seen_18 : decode cX10_seen 18 = .ok (.iload_n 3, 1) := by decide +kernel
theorem dX10_seen_19 : decode cX10_seen 19 = .ok (.iload 4, 2) := by decide +kernel
theorem dX10_seen_21 : decode cX10_seen 21 = .ok (.invokestatic 141, 3) := by decide +kernel
theorem dX10_seen_24 : decode cX10_seen 24 = .ok (.ifCond .ne 6, 3) := by decide +kernel
theorem dX10_seen_27 : decode cX10_seen 27 = .ok (.bipush (-2), 2) := by decide +kernel
theorem dX10_seen_29 : decode cX10_seen 29 = .ok (.ireturn, 1) := by decide +kernel
theorem dX10_seen_30 : decode cX10_seen 30 = .ok (.aload_n 0, 1) := by decide +kernel
theorem dX10_seen_31 : decode cX10_seen 31 = .ok (.getfield 43, 3) := by decide +kernel
theorem dX10_seen_34 : decode cX10_seen 34 = .ok (.getfield 199, 3) := by decide +kernel
theorem dX10_seen_37 : decode cX10_seen 37 = .ok (.bipush 8, 2) := by decide +kernel
theorem dX10_seen_39 : decode cX10_seen 39 = .ok (.if_icmp .lt 6, 3) := by decide +kernel
theorem dX10_seen_42 : decode cX10_seen 42 = .ok (.bipush (-4), 2) := by decide +kernel
theorem dX10_seen_44 : decode cX10_seen 44 = .ok (.ireturn, 1) := by decide +kernel
theorem dX10_seen_45 : decode cX10_seen 45 = .ok (.aload_n 0, 1) := by decide +kernel
theorem dX10_seen_46 : decode cX10_seen 46 = .ok (.getfield 43, 3) := by decide +kernel
theorem dX10_seen_49 : decode cX10_seen 49 = .ok (.iload_n 1, 1) := by decide +kernel
theorem dX10_seen_50 : decode cX10_seen 50 = .ok (.iload_n 2, 1) := by decide +kernel
theorem dX10_seen_51 : decode cX10_seen 51 = .ok (.iload_n 3, 1) := by decide +kernel
theorem dX10_seen_52 : decode cX10_seen 52 = .ok (.iload 4, 2) := by decide +kernel
theorem dX10_seen_54 : decode cX10_seen 54 = .ok (.invokevirtual 200, 3) := by decide +kernel
theorem dX10_seen_57 : decode cX10_seen 57 = .ok (.aload_n 0, 1) := by decide +kernel
theorem dX10_seen_58 : decode cX10_seen 58 = .ok (.getfield 43, 3) := by decide +kernel
theorem dX10_seen_61 : decode cX10_seen 61 = .ok (.getfield 199, 3) := by decide +kernel
theorem dX10_seen_64 : decode cX10_seen 64 = .ok (.ireturn, 1) := by decide +kernel
theorem dX10_forget_0 : decode cX10_forget 0 = .ok (.aload_n 0, 1) := by decide +kernel
theorem dX10_forget_1 : decode cX10_forget 1 = .ok (.getfield 43, 3) := by decide +kernel
theorem dX10_forget_4 : decode cX10_forget 4 = .ok (.getfield 199, 3) := by decide +kernel
theorem dX10_forget_7 : decode cX10_forget 7 = .ok (.istore_n 1, 1) := by decide +kernel
theorem dX10_forget_8 : decode cX10_forget 8 = .ok (.aload_n 0, 1) := by decide +kernel
theorem dX10_forget_9 : decode cX10_forget 9 = .ok (.getfield 43, 3) := by decide +kernel
theorem dX10_forget_12 : decode cX10_forget 12 = .ok (.iconst 0, 1) := by decide +kernel
theorem dX10_forget_13 : decode cX10_forget 13 = .ok (.putfield 199, 3) := by decide +kernel
theorem dX10_forget_16 : decode cX10_forget 16 = .ok (.iload_n 1, 1) := by decide +kernel
theorem dX10_forget_17 : decode cX10_forget 17 = .ok (.ireturn, 1) := by decide +kernel
theorem c_textOf (j : Nat) (hj : j < 2) : mMet G l d kX10_textOf [.ref 0, .int (nI j)] σ (qR (1 + 2 * j) σ) := by
  refine mMet.of cm_X10_textOf rfl (Nat.le_of_ble_eq_true rfl) rfl (fun v1 σ1 h => by rw [h.1]; trivial) ?_
  refine m_iload_n dX10_textOf_0 1 rfl ?_
  refine m_if_ne dX10_textOf_1 11 (by decide) (fun z1 => ?_) (fun z1 => ?_)
  · have e : j = 1 := by have : ¬ j = 0 := fun q => z1 (by rw [q]; rfl)
                         omega
    subst e
    refine m_aload_n dX10_textOf_11 0 rfl ?_
    refine m_getR 1 3 dX10_textOf_12 fl_X10_16_9 rfl (by decide) rfl (by first | assumption | rfl) ?_
    exact m_areturn dX10_textOf_15 ⟨rfl, rfl⟩
  · have e : j = 0 := (neq (b := 0) (by omega) (by decide)).mp z1
    subst e
    refine m_aload_n dX10_textOf_4 0 rfl ?_
    refine m_getR 0 1 dX10_textOf_5 fl_X10_12_9 rfl (by decide) rfl (by first | assumption | rfl) ?_
    refine m_goto dX10_textOf_8 15 (by decide) ?_
    exact m_areturn dX10_textOf_15 ⟨rfl, rfl⟩
theorem sh_tx {j : Nat} (hj : j < 2) : mshp (1 + 2 * j) = (7, 2) ∧ (1 + 2 * j = 1 ∨ 1 + 2 * j = 3) := by
  rcases (show j = 0 ∨ j = 1 by omega) with rfl | rfl
  · exact ⟨rfl, Or.inl rfl⟩
  · exact ⟨rfl, Or.inr rfl⟩
theorem k_type (hd : 2 ≤ d) (L : Nat → Nat) (hL : okT σ L) (t b : Int32) : mMet G l d kX10_type [.ref 0, .int t, .int b] σ (qIP (fun r s => r = tyR L t b ∧ s = if wI t 2 ∧ wI b 256 ∧ L (cN t) ≠ 47 then us (us (us σ (1 + 2 * cN t + 1) (L (cN t)) b) (1 + 2 * cN t) 1 (nI (L (cN t) + 1))) 0 10 1 else σ)) := by
  refine mMet.of cm_X10_type rfl (Nat.le_of_ble_eq_true rfl) rfl (fun v1 σ1 h => by obtain ⟨r, h1, -⟩ := h; rw [h1]; rfl) ?_
  refine m_iload_n dX10_type_0 1 rfl ?_
  refine m_iconst (v := 2) dX10_type_1 (by decide) ?_
  refine m_callS (As := [_, _]) dX10_type_2 cs_X10_81 (by omega) rfl rfl (Nat.le_of_ble_eq_true rfl) (c_within (d := d - 1) t 2) (fun v1 σ1 hv1 => ?_)
  refine m_qI hv1 ?_
  clear hv1 v1 σ1
  refine m_if_eq dX10_type_5 18 (by decide) (fun z1 => ?_) (fun z1 => ?_)
  · refine m_bipush (v := -2) dX10_type_18 (by decide) ?_
    exact m_ireturn dX10_type_20 ⟨_, rfl, (if_neg (fun q => bI0 z1 q.1)).symm, (if_neg (fun q => bI0 z1 q.1)).symm⟩
  refine m_iload_n dX10_type_8 2 rfl ?_
  refine m_sipush (v := 256) dX10_type_9 (by decide) ?_
  refine m_callS (As := [_, _]) dX10_type_12 cs_X10_81 (by omega) rfl rfl (Nat.le_of_ble_eq_true rfl) (c_within (d := d - 1) b 256) (fun v1 σ1 hv1 => ?_)
  refine m_qI hv1 ?_
  clear hv1 v1 σ1
  refine m_if_ne dX10_type_15 21 (by decide) (fun z2 => ?_) (fun z2 => ?_)
  rotate_left
  · refine m_bipush (v := -2) dX10_type_18 (by decide) ?_
    exact m_ireturn dX10_type_20 ⟨_, rfl, (if_neg (fun q => bI0 z2 q.2)).symm, (if_neg (fun q => bI0 z2 q.2.1)).symm⟩
  have w1 : wI t 2 := bI1 z1
  have w2 : wI b 256 := bI1 z2
  clear z1 z2
  obtain ⟨j, hj, rfl⟩ := wI_of (by decide) w1
  have cj : cN (nI j) = j := clN (by omega)
  obtain ⟨s0, hT⟩ := sh_tx hj
  obtain ⟨h1, h47⟩ := hL j hj
  refine m_aload_n dX10_type_21 0 rfl ?_
  refine m_iload_n dX10_type_22 1 rfl ?_
  refine m_callV (As := [_]) dX10_type_23 cv_X10_85 (by first | assumption | rfl) (by decide) (by omega) rfl rfl (Nat.le_of_ble_eq_true rfl) (c_textOf (d := d - 1) j hj) (fun v1 σ1 hv1 => ?_)
  refine m_qR hv1 ?_
  clear hv1 v1 σ1
  refine m_astore_n (ls1 := [(3, _), (0, _), (1, _), (2, _)]) dX10_type_26 (by decide) rfl ?_
  refine m_aload_n dX10_type_27 0 rfl ?_
  refine m_getI 1 dX10_type_28 fl_X10_89_7 rfl (by decide) (by first | assumption | rfl) ?_
  refine mW.top h1 ?_
  refine m_bipush (v := 47) dX10_type_31 (by decide) ?_
  refine m_icmp_lt dX10_type_33 39 (by decide) (fun z1 => ?_) (fun z1 => ?_)
  rotate_left
  · have e47 : L j = 47 := by
      have : ¬ L j < 47 := fun q => z1 ((nlt (b := 47) (by omega) (by decide)).mpr q)
      omega
    refine m_bipush (v := -4) dX10_type_36 (by decide) ?_
    refine m_ireturn dX10_type_38 ⟨_, rfl, ?_, ?_⟩
    · unfold tyR
      rw [if_pos ⟨w1, w2⟩, cj, if_pos e47]
    · rw [cj]; exact (if_neg (fun q => q.2.2 e47)).symm
  have lt47 := (nlt (b := 47) (by omega) (by decide)).mp z1
  refine m_aload_n dX10_type_39 0 rfl ?_
  refine m_iload_n dX10_type_40 3 rfl ?_
  refine m_callV (As := [_]) dX10_type_41 cv_X10_93 (by first | assumption | rfl) (by decide) (by omega) rfl rfl (Nat.le_of_ble_eq_true rfl) (c_txAppend (d := d - 1) hT (L j) lt47 h1 b) (fun v1 σ1 hv1 => ?_)
  refine m_qV hv1 ?_
  clear hv1 v1 σ1
  refine m_aload_n dX10_type_44 1 rfl ?_
  refine m_iconst (v := 1) dX10_type_45 (by decide) ?_
  refine m_putI 10 dX10_type_46 fw_X10_77_9 rfl (by decide) rfl rfl (by first | assumption | rfl) ?_
  refine m_aload_n dX10_type_49 0 rfl ?_
  refine m_getI 1 dX10_type_50 fl_X10_89_7 rfl (by decide) (by first | assumption | rfl) ?_
  refine mW.top (w := nI (L j + 1)) (by rw [us_at, if_neg (by omega), us_at, if_pos ⟨rfl, rfl⟩]) ?_
  refine m_ireturn dX10_type_53 ⟨_, rfl, ?_, ?_⟩
  · unfold tyR
    rw [if_pos ⟨w1, w2⟩, cj, if_neg (by omega)]
  · rw [cj, if_pos ⟨w1, w2, by omega⟩]
theorem k_wipe (hd : 2 ≤ d) (L : Nat → Nat) (hL : okT σ L) (t : Int32) : mMet G l d kX10_wipe [.ref 0, .int t] σ (qIP (fun r s => r = wpR L t ∧ s = if wI t 2 then us (us σ (1 + 2 * cN t) 1 0) 0 10 1 else σ)) := by
  refine mMet.of cm_X10_wipe rfl (Nat.le_of_ble_eq_true rfl) rfl (fun v1 σ1 h => by obtain ⟨r, h1, -⟩ := h; rw [h1]; rfl) ?_
  refine m_iload_n dX10_wipe_0 1 rfl ?_
  refine m_iconst (v := 2) dX10_wipe_1 (by decide) ?_
  refine m_callS (As := [_, _]) dX10_wipe_2 cs_X10_81 (by omega) rfl rfl (Nat.le_of_ble_eq_true rfl) (c_within (d := d - 1) t 2) (fun v1 σ1 hv1 => ?_)
  refine m_qI hv1 ?_
  clear hv1 v1 σ1
  refine m_if_ne dX10_wipe_5 11 (by decide) (fun z1 => ?_) (fun z1 => ?_)
  rotate_left
  · refine m_bipush (v := -2) dX10_wipe_8 (by decide) ?_
    exact m_ireturn dX10_wipe_10 ⟨_, rfl, (if_neg (fun q => bI0 z1 q)).symm, (if_neg (fun q => bI0 z1 q)).symm⟩
  have w1 : wI t 2 := bI1 z1
  clear z1
  obtain ⟨j, hj, rfl⟩ := wI_of (by decide) w1
  have cj : cN (nI j) = j := clN (by omega)
  obtain ⟨s0, hT⟩ := sh_tx hj
  obtain ⟨h1, h47⟩ := hL j hj
  refine m_aload_n dX10_wipe_11 0 rfl ?_
  refine m_iload_n dX10_wipe_12 1 rfl ?_
  refine m_callV (As := [_]) dX10_wipe_13 cv_X10_85 (by first | assumption | rfl) (by decide) (by omega) rfl rfl (Nat.le_of_ble_eq_true rfl) (c_textOf (d := d - 1) j hj) (fun v1 σ1 hv1 => ?_)
  refine m_qR hv1 ?_
  clear hv1 v1 σ1
  refine m_astore_n (ls1 := [(2, _), (0, _), (1, _)]) dX10_wipe_16 (by decide) rfl ?_
  refine m_aload_n dX10_wipe_17 0 rfl ?_
  refine m_getI 1 dX10_wipe_18 fl_X10_89_7 rfl (by decide) (by first | assumption | rfl) ?_
  refine mW.top h1 ?_
  refine m_istore_n (ls1 := [(3, _), (2, _), (0, _), (1, _)]) dX10_wipe_21 (by decide) rfl ?_
  refine m_aload_n dX10_wipe_22 1 rfl ?_
  refine m_iconst (v := 0) dX10_wipe_23 (by decide) ?_
  refine m_putI 1 dX10_wipe_24 fw_X10_89_7 rfl (by decide) rfl rfl (by first | assumption | rfl) ?_
  refine m_aload_n dX10_wipe_27 2 rfl ?_
  refine m_iconst (v := 1) dX10_wipe_28 (by decide) ?_
  refine m_putI 10 dX10_wipe_29 fw_X10_77_9 rfl (by decide) rfl rfl (by first | assumption | rfl) ?_
  refine m_iload_n dX10_wipe_32 0 rfl ?_
  refine m_ireturn dX10_wipe_33 ⟨_, rfl, ?_, ?_⟩
  · unfold wpR
    rw [if_pos w1, cj]
  · rw [cj, if_pos w1]
theorem k_undo (hd : 2 ≤ d) (L : Nat → Nat) (hL : okT σ L) (t : Int32) : mMet G l d kX10_undo [.ref 0, .int t] σ (qIP (fun r s => r = unR L t ∧ s = if wI t 2 ∧ L (cN t) ≠ 0 then us (us σ (1 + 2 * cN t) 1 (nI (L (cN t) - 1))) 0 10 1 else σ)) := by
  refine mMet.of cm_X10_undo rfl (Nat.le_of_ble_eq_true rfl) rfl (fun v1 σ1 h => by obtain ⟨r, h1, -⟩ := h; rw [h1]; rfl) ?_
  refine m_iload_n dX10_undo_0 1 rfl ?_
  refine m_iconst (v := 2) dX10_undo_1 (by decide) ?_
  refine m_callS (As := [_, _]) dX10_undo_2 cs_X10_81 (by omega) rfl rfl (Nat.le_of_ble_eq_true rfl) (c_within (d := d - 1) t 2) (fun v1 σ1 hv1 => ?_)
  refine m_qI hv1 ?_
  clear hv1 v1 σ1
  refine m_if_ne dX10_undo_5 11 (by decide) (fun z1 => ?_) (fun z1 => ?_)
  rotate_left
  · refine m_bipush (v := -2) dX10_undo_8 (by decide) ?_
    exact m_ireturn dX10_undo_10 ⟨_, rfl, (if_neg (fun q => bI0 z1 q)).symm, (if_neg (fun q => bI0 z1 q.1)).symm⟩
  have w1 : wI t 2 := bI1 z1
  clear z1
  obtain ⟨j, hj, rfl⟩ := wI_of (by decide) w1
  have cj : cN (nI j) = j := clN (by omega)
  obtain ⟨s0, hT⟩ := sh_tx hj
  obtain ⟨h1, h47⟩ := hL j hj
  refine m_aload_n dX10_undo_11 0 rfl ?_
  refine m_iload_n dX10_undo_12 1 rfl ?_
  refine m_callV (As := [_]) dX10_undo_13 cv_X10_85 (by first | assumption | rfl) (by decide) (by omega) rfl rfl (Nat.le_of_ble_eq_true rfl) (c_textOf (d := d - 1) j hj) (fun v1 σ1 hv1 => ?_)
  refine m_qR hv1 ?_
  clear hv1 v1 σ1
  refine m_astore_n (ls1 := [(2, _), (0, _), (1, _)]) dX10_undo_16 (by decide) rfl ?_
  refine m_aload_n dX10_undo_17 0 rfl ?_
  refine m_getI 1 dX10_undo_18 fl_X10_89_7 rfl (by decide) (by first | assumption | rfl) ?_
  refine mW.top h1 ?_
  refine m_if_ne dX10_undo_21 27 (by decide) (fun z1 => ?_) (fun z1 => ?_)
  rotate_left
  · have e0 : L j = 0 := (neq (b := 0) (by omega) (by decide)).mp z1
    refine m_bipush (v := -3) dX10_undo_24 (by decide) ?_
    refine m_ireturn dX10_undo_26 ⟨_, rfl, ?_, ?_⟩
    · unfold unR
      rw [if_pos w1, cj, if_pos e0]
    · rw [cj]; exact (if_neg (fun q => q.2 e0)).symm
  have ne0 : L j ≠ 0 := fun q => z1 (by rw [q]; rfl)
  refine m_aload_n dX10_undo_27 0 rfl ?_
  refine m_dup dX10_undo_28 rfl ?_
  refine m_getI 1 dX10_undo_29 fl_X10_89_7 rfl (by decide) (by first | assumption | rfl) ?_
  refine mW.top h1 ?_
  refine m_iconst (v := 1) dX10_undo_32 (by decide) ?_
  refine m_isub dX10_undo_33 ?_
  refine mW.top (w := nI (L j - 1)) (pk_sub (b := 1) (by omega)) ?_
  refine m_putI 1 dX10_undo_34 fw_X10_89_7 rfl (by decide) rfl rfl (by first | assumption | rfl) ?_
  refine m_aload_n dX10_undo_37 1 rfl ?_
  refine m_iconst (v := 1) dX10_undo_38 (by decide) ?_
  refine m_putI 10 dX10_undo_39 fw_X10_77_9 rfl (by decide) rfl rfl (by first | assumption | rfl) ?_
  refine m_aload_n dX10_undo_42 0 rfl ?_
  refine m_getI 1 dX10_undo_43 fl_X10_89_7 rfl (by decide) (by first | assumption | rfl) ?_
  refine mW.top (w := nI (L j - 1)) (by rw [us_at, if_neg (by omega), us_at, if_pos ⟨rfl, rfl⟩]) ?_
  refine m_ireturn dX10_undo_46 ⟨_, rfl, ?_, ?_⟩
  · unfold unR
    rw [if_pos w1, cj, if_neg ne0]
  · rw [cj, if_pos ⟨w1, ne0⟩]
theorem k_event (hd : 2 ≤ d) (e : Nat) (he : σ.1 30 3 = nI e) (he8 : e ≤ 8) (k m c : Int32) : mMet G l d kX10_event [.ref 0, .int k, .int m, .int c] σ (qIP (fun r s => r = evR e k m c ∧ s = if (wI k 2 ∧ wI m 24 ∧ wI c 8) ∧ e ≠ 8 then us (us (us (us (us σ 31 e k) 32 e m) 33 e c) 30 3 (nI (e + 1))) 0 10 1 else σ)) := by
  refine mMet.of cm_X10_event rfl (Nat.le_of_ble_eq_true rfl) rfl (fun v1 σ1 h => by obtain ⟨r, h1, -⟩ := h; rw [h1]; rfl) ?_
  refine m_iload_n dX10_event_0 1 rfl ?_
  refine m_iload_n dX10_event_1 2 rfl ?_
  refine m_iload_n dX10_event_2 3 rfl ?_
  refine m_callS (As := [_, _, _]) dX10_event_3 cs_X10_115 (by omega) rfl rfl (Nat.le_of_ble_eq_true rfl) (c_fits (d := d - 1) (by omega) k m c) (fun v1 σ1 hv1 => ?_)
  refine m_qI hv1 ?_
  clear hv1 v1 σ1
  refine m_if_ne dX10_event_6 12 (by decide) (fun z1 => ?_) (fun z1 => ?_)
  rotate_left
  · refine m_bipush (v := -2) dX10_event_9 (by decide) ?_
    exact m_ireturn dX10_event_11 ⟨_, rfl, (if_neg (fun q => bI0 z1 q)).symm, (if_neg (fun q => bI0 z1 q.1)).symm⟩
  have w1 : wI k 2 ∧ wI m 24 ∧ wI c 8 := bI1 z1
  clear z1
  refine m_aload_n dX10_event_12 0 rfl ?_
  refine m_getR 4 30 dX10_event_13 fl_X10_36_9 rfl (by decide) rfl (by first | assumption | rfl) ?_
  refine m_getI 3 dX10_event_16 fl_X10_119_1 rfl (by decide) (by first | assumption | rfl) ?_
  refine mW.top he ?_
  refine m_bipush (v := 8) dX10_event_19 (by decide) ?_
  refine m_icmp_lt dX10_event_21 27 (by decide) (fun z1 => ?_) (fun z1 => ?_)
  rotate_left
  · have e8 : e = 8 := by
      have : ¬ e < 8 := fun q => z1 ((nlt (b := 8) (by omega) (by decide)).mpr q)
      omega
    refine m_bipush (v := -4) dX10_event_24 (by decide) ?_
    refine m_ireturn dX10_event_26 ⟨_, rfl, ?_, ?_⟩
    · unfold evR
      rw [if_pos w1, if_pos e8]
    · exact (if_neg (fun q => q.2 e8)).symm
  have lt8 := (nlt (b := 8) (by omega) (by decide)).mp z1
  refine m_aload_n dX10_event_27 0 rfl ?_
  refine m_getR 4 30 dX10_event_28 fl_X10_36_9 rfl (by decide) rfl (by first | assumption | rfl) ?_
  refine m_iload_n dX10_event_31 1 rfl ?_
  refine m_iload_n dX10_event_32 2 rfl ?_
  refine m_iload_n dX10_event_33 3 rfl ?_
  refine m_callV (As := [_, _, _]) dX10_event_34 cv_X10_120 (by first | assumption | rfl) (by decide) (by omega) rfl rfl (Nat.le_of_ble_eq_true rfl) (c_evAppend (d := d - 1) (Or.inl rfl) e lt8 he k m c) (fun v1 σ1 hv1 => ?_)
  refine m_qV hv1 ?_
  clear hv1 v1 σ1
  refine m_aload_n dX10_event_37 0 rfl ?_
  refine m_iconst (v := 1) dX10_event_38 (by decide) ?_
  refine m_putI 10 dX10_event_39 fw_X10_77_9 rfl (by decide) rfl rfl (by first | assumption | rfl) ?_
  refine m_aload_n dX10_event_42 0 rfl ?_
  refine m_getR 4 30 dX10_event_43 fl_X10_36_9 rfl (by decide) rfl (by first | assumption | rfl) ?_
  refine m_getI 3 dX10_event_46 fl_X10_119_1 rfl (by decide) (by first | assumption | rfl) ?_
  refine mW.top (w := nI (e + 1)) (by rw [us_at, if_neg (by omega), us_at, if_pos ⟨rfl, rfl⟩]) ?_
  refine m_ireturn dX10_event_49 ⟨_, rfl, ?_, ?_⟩
  · unfold evR
    rw [if_pos w1, if_neg (by omega)]
  · rw [if_pos ⟨w1, by omega⟩]
theorem k_back (e : Nat) (he : σ.1 30 3 = nI e) (he8 : e ≤ 8) : mMet G l d kX10_back [.ref 0] σ (qIP (fun r s => r = bkR e ∧ s = if e ≠ 0 then us (us σ 30 3 (nI (e - 1))) 0 10 1 else σ)) := by
  refine mMet.of cm_X10_back rfl (Nat.le_of_ble_eq_true rfl) rfl (fun v1 σ1 h => by obtain ⟨r, h1, -⟩ := h; rw [h1]; rfl) ?_
  refine m_aload_n dX10_back_0 0 rfl ?_
  refine m_getR 4 30 dX10_back_1 fl_X10_36_9 rfl (by decide) rfl (by first | assumption | rfl) ?_
  refine m_getI 3 dX10_back_4 fl_X10_119_1 rfl (by decide) (by first | assumption | rfl) ?_
  refine mW.top he ?_
  refine m_if_ne dX10_back_7 13 (by decide) (fun z1 => ?_) (fun z1 => ?_)
  rotate_left
  · have e0 : e = 0 := (neq (b := 0) (by omega) (by decide)).mp z1
    refine m_bipush (v := -3) dX10_back_10 (by decide) ?_
    refine m_ireturn dX10_back_12 ⟨_, rfl, ?_, ?_⟩
    · unfold bkR
      rw [if_pos e0]
    · exact (if_neg (fun q => q e0)).symm
  have ne0 : e ≠ 0 := fun q => z1 (by rw [q]; rfl)
  refine m_aload_n dX10_back_13 0 rfl ?_
  refine m_getR 4 30 dX10_back_14 fl_X10_36_9 rfl (by decide) rfl (by first | assumption | rfl) ?_
  refine m_dup dX10_back_17 rfl ?_
  refine m_getI 3 dX10_back_18 fl_X10_119_1 rfl (by decide) (by first | assumption | rfl) ?_
  refine mW.top he ?_
  refine m_iconst (v := 1) dX10_back_21 (by decide) ?_
  refine m_isub dX10_back_22 ?_
  refine mW.top (w := nI (e - 1)) (pk_sub (b := 1) (by omega)) ?_
  refine m_putI 3 dX10_back_23 fw_X10_119_1 rfl (by decide) rfl rfl (by first | assumption | rfl) ?_
  refine m_aload_n dX10_back_26 0 rfl ?_
  refine m_iconst (v := 1) dX10_back_27 (by decide) ?_
  refine m_putI 10 dX10_back_28 fw_X10_77_9 rfl (by decide) rfl rfl (by first | assumption | rfl) ?_
  refine m_aload_n dX10_back_31 0 rfl ?_
  refine m_getR 4 30 dX10_back_32 fl_X10_36_9 rfl (by decide) rfl (by first | assumption | rfl) ?_
  refine m_getI 3 dX10_back_35 fl_X10_119_1 rfl (by decide) (by first | assumption | rfl) ?_
  refine mW.top (w := nI (e - 1)) (by rw [us_at, if_neg (by omega), us_at, if_pos ⟨rfl, rfl⟩]) ?_
  refine m_ireturn dX10_back_38 ⟨_, rfl, ?_, ?_⟩
  · unfold bkR
    rw [if_neg ne0]
  · rw [if_pos ne0]
theorem k_seen (hd : 2 ≤ d) (z : Nat) (hz : σ.1 34 4 = nI z) (hz8 : z ≤ 8) (m c x y : Int32) : mMet G l d kX10_seen [.ref 0, .int m, .int c, .int x, .int y] σ (qIP (fun r s => r = seR z m c x y ∧ s = if (wI m 24 ∧ wI c 8 ∧ wI x 6 ∧ wI y 6) ∧ z ≠ 8 then us (us (us (us (us σ 35 z m) 36 z c) 37 z x) 38 z y) 34 4 (nI (z + 1)) else σ)) := by
  refine mMet.of cm_X10_seen rfl (Nat.le_of_ble_eq_true rfl) rfl (fun v1 σ1 h => by obtain ⟨r, h1, -⟩ := h; rw [h1]; rfl) ?_
  refine m_iload_n dX10_seen_0 1 rfl ?_
  refine m_bipush (v := 24) dX10_seen_1 (by decide) ?_
  refine m_callS (As := [_, _]) dX10_seen_3 cs_X10_81 (by omega) rfl rfl (Nat.le_of_ble_eq_true rfl) (c_within (d := d - 1) m 24) (fun v1 σ1 hv1 => ?_)
  refine m_qI hv1 ?_
  clear hv1 v1 σ1
  refine m_if_eq dX10_seen_6 27 (by decide) (fun z1 => ?_) (fun z1 => ?_)
  · refine m_bipush (v := -2) dX10_seen_27 (by decide) ?_
    exact m_ireturn dX10_seen_29 ⟨_, rfl, (if_neg (fun q => bI0 z1 q.1)).symm, (if_neg (fun q => bI0 z1 q.1.1)).symm⟩
  refine m_iload_n dX10_seen_9 2 rfl ?_
  refine m_bipush (v := 8) dX10_seen_10 (by decide) ?_
  refine m_callS (As := [_, _]) dX10_seen_12 cs_X10_81 (by omega) rfl rfl (Nat.le_of_ble_eq_true rfl) (c_within (d := d - 1) c 8) (fun v1 σ1 hv1 => ?_)
  refine m_qI hv1 ?_
  clear hv1 v1 σ1
  refine m_if_eq dX10_seen_15 27 (by decide) (fun z2 => ?_) (fun z2 => ?_)
  · refine m_bipush (v := -2) dX10_seen_27 (by decide) ?_
    exact m_ireturn dX10_seen_29 ⟨_, rfl, (if_neg (fun q => bI0 z2 q.2.1)).symm, (if_neg (fun q => bI0 z2 q.1.2.1)).symm⟩
  refine m_iload_n dX10_seen_18 3 rfl ?_
  refine m_iload dX10_seen_19 4 rfl ?_
  refine m_callS (As := [_, _]) dX10_seen_21 cs_X10_141 (by omega) rfl rfl (Nat.le_of_ble_eq_true rfl) (c_onFloor (d := d - 1) x y) (fun v1 σ1 hv1 => ?_)
  refine m_qI hv1 ?_
  clear hv1 v1 σ1
  refine m_if_ne dX10_seen_24 30 (by decide) (fun z3 => ?_) (fun z3 => ?_)
  rotate_left
  · have no : ¬ (wI x 6 ∧ wI y 6) := fun q => bI0 z3 ⟨q.1.1, q.1.2, q.2.1, q.2.2⟩
    refine m_bipush (v := -2) dX10_seen_27 (by decide) ?_
    exact m_ireturn dX10_seen_29 ⟨_, rfl, (if_neg (fun q => no q.2.2)).symm, (if_neg (fun q => no q.1.2.2)).symm⟩
  have w3 := bI1 z3
  have w1 : wI m 24 ∧ wI c 8 ∧ wI x 6 ∧ wI y 6 := ⟨bI1 z1, bI1 z2, ⟨w3.1, w3.2.1⟩, w3.2.2.1, w3.2.2.2⟩
  clear z1 z2 z3 w3
  refine m_aload_n dX10_seen_30 0 rfl ?_
  refine m_getR 5 34 dX10_seen_31 fl_X10_43_9 rfl (by decide) rfl (by first | assumption | rfl) ?_
  refine m_getI 4 dX10_seen_34 fl_X10_199_5 rfl (by decide) (by first | assumption | rfl) ?_
  refine mW.top hz ?_
  refine m_bipush (v := 8) dX10_seen_37 (by decide) ?_
  refine m_icmp_lt dX10_seen_39 45 (by decide) (fun z1 => ?_) (fun z1 => ?_)
  rotate_left
  · have e8 : z = 8 := by
      have : ¬ z < 8 := fun q => z1 ((nlt (b := 8) (by omega) (by decide)).mpr q)
      omega
    refine m_bipush (v := -4) dX10_seen_42 (by decide) ?_
    refine m_ireturn dX10_seen_44 ⟨_, rfl, ?_, ?_⟩
    · unfold seR
      rw [if_pos w1, if_pos e8]
    · exact (if_neg (fun q => q.2 e8)).symm
  have lt8 := (nlt (b := 8) (by omega) (by decide)).mp z1
  refine m_aload_n dX10_seen_45 0 rfl ?_
  refine m_getR 5 34 dX10_seen_46 fl_X10_43_9 rfl (by decide) rfl (by first | assumption | rfl) ?_
  refine m_iload_n dX10_seen_49 1 rfl ?_
  refine m_iload_n dX10_seen_50 2 rfl ?_
  refine m_iload_n dX10_seen_51 3 rfl ?_
  refine m_iload dX10_seen_52 4 rfl ?_
  refine m_callV (As := [_, _, _, _]) dX10_seen_54 cv_X10_200 (by first | assumption | rfl) (by decide) (by omega) rfl rfl (Nat.le_of_ble_eq_true rfl) (c_seAppend (d := d - 1) z lt8 hz m c x y) (fun v1 σ1 hv1 => ?_)
  refine m_qV hv1 ?_
  clear hv1 v1 σ1
  refine m_aload_n dX10_seen_57 0 rfl ?_
  refine m_getR 5 34 dX10_seen_58 fl_X10_43_9 rfl (by decide) rfl (by first | assumption | rfl) ?_
  refine m_getI 4 dX10_seen_61 fl_X10_199_5 rfl (by decide) (by first | assumption | rfl) ?_
  refine mW.top (w := nI (z + 1)) (by rw [us_at, if_pos ⟨rfl, rfl⟩]) ?_
  refine m_ireturn dX10_seen_64 ⟨_, rfl, ?_, ?_⟩
  · unfold seR
    rw [if_pos w1, if_neg (by omega)]
  · rw [if_pos ⟨w1, by omega⟩]
theorem k_forget (z : Nat) (hz : σ.1 34 4 = nI z) : mMet G l d kX10_forget [.ref 0] σ (qIP (fun r s => r = nI z ∧ s = us σ 34 4 0)) := by
  refine mMet.of cm_X10_forget rfl (Nat.le_of_ble_eq_true rfl) rfl (fun v1 σ1 h => by obtain ⟨r, h1, -⟩ := h; rw [h1]; rfl) ?_
  refine m_aload_n dX10_forget_0 0 rfl ?_
  refine m_getR 5 34 dX10_forget_1 fl_X10_43_9 rfl (by decide) rfl (by first | assumption | rfl) ?_
  refine m_getI 4 dX10_forget_4 fl_X10_199_5 rfl (by decide) (by first | assumption | rfl) ?_
  refine mW.top hz ?_
  refine m_istore_n (ls1 := [(1, _), (0, _)]) dX10_forget_7 (by decide) rfl ?_
  refine m_aload_n dX10_forget_8 1 rfl ?_
  refine m_getR 5 34 dX10_forget_9 fl_X10_43_9 rfl (by decide) rfl (by first | assumption | rfl) ?_
  refine m_iconst (v := 0) dX10_forget_12 (by decide) ?_
  refine m_putI 4 dX10_forget_13 fw_X10_199_5 rfl (by decide) rfl rfl (by first | assumption | rfl) ?_
  refine m_iload_n dX10_forget_16 0 rfl ?_
  exact m_ireturn dX10_forget_17 ⟨_, rfl, rfl, rfl⟩
end TL


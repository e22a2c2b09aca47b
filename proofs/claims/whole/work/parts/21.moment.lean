/-! ===== AnswerSquare.Moment: the present one, at 11 ===== -/
/-- the present talk is n long -/
def zmN (μ : ZMem) (n : Nat) : Prop := μ.1 11 6 = nI n ∧ n ≤ 30
theorem sp_has_t {μ : ZMem} {n j : Nat} (h : zmN μ n) (hj : j < n) {i : Int32} (hi : i = nI j) : Sp layC mX1_has 0 [.ref 11, .int i] μ (some (.int 1)) μ := by
  obtain ⟨hn, h30⟩ := h
  subst hi
  refine Sp.mk (L := [some (.ref 11), some (.int (nI j))]) rfl (by decide +kernel) rfl rfl (fun Q hQ => ?_)
  refine z_iload_n dX1_has_0 rfl ?_
  refine z_if_lt (tgt := 22) dX1_has_1 (by decide) (fun h => absurd h (nI_pos (by omega))) (fun _ => ?_)
  refine z_iload_n dX1_has_4 rfl ?_
  refine z_aload_n dX1_has_5 rfl ?_
  refine z_getI dX1_has_6 zf_X1_30 (by first | rfl | assumption) rfl ?_
  refine z_icmp_ge (tgt := 22) dX1_has_9 (by decide) (fun h => absurd h (by rw [hn]; exact nI_ge hj (by omega))) (fun _ => ?_)
  refine z_iload_n dX1_has_12 rfl ?_
  refine z_bipush (v := 30) dX1_has_13 (by decide) ?_
  refine z_icmp_ge (tgt := 22) dX1_has_15 (by decide) (fun h => absurd h (nI_ge (b := 30) (by omega) (by decide))) (fun _ => ?_)
  refine z_iconst (v := 1) dX1_has_18 (by decide) ?_
  refine z_goto (tgt := 23) dX1_has_19 (by decide) ?_
  refine z_zret dX1_has_23 rfl (by decide) ?_
  exact hQ
theorem sp_has_f {μ : ZMem} {n : Nat} (h : zmN μ n) {i : Int32} (hi : i < 0 ∨ nI n ≤ i) : Sp layC mX1_has 0 [.ref 11, .int i] μ (some (.int 0)) μ := by
  obtain ⟨hn, h30⟩ := h
  refine Sp.mk (L := [some (.ref 11), some (.int i)]) rfl (by decide +kernel) rfl rfl (fun Q hQ => ?_)
  refine z_iload_n dX1_has_0 rfl ?_
  refine z_if_lt (tgt := 22) dX1_has_1 (by decide) (fun hb1 => ?_) (fun hb1 => ?_)
  · refine z_iconst (v := 0) dX1_has_22 (by decide) ?_
    refine z_zret dX1_has_23 rfl (by decide) ?_
    exact hQ
  · refine z_iload_n dX1_has_4 rfl ?_
    refine z_aload_n dX1_has_5 rfl ?_
    refine z_getI dX1_has_6 zf_X1_30 (by first | rfl | assumption) rfl ?_
    refine z_icmp_ge (tgt := 22) dX1_has_9 (by decide) (fun _ => ?_) (fun h => absurd (by rw [hn]; exact hi.resolve_left hb1) h)
    refine z_iconst (v := 0) dX1_has_22 (by decide) ?_
    refine z_zret dX1_has_23 rfl (by decide) ?_
    exact hQ
theorem sp_timesIn {μ : ZMem} {n : Nat} (h : zmN μ n) (w : Int32) : Sp layC mX1_timesIn 0 [.ref 11, .int w] μ (some (.int (zfold (fun k a => if μ.1 12 k = w then a + 1 else a) 0 n))) μ := by
  obtain ⟨hn, h30⟩ := h
  refine Sp.mk (L := [some (.ref 11), some (.int w), none, none]) rfl (by decide +kernel) rfl rfl (fun Q hQ => ?_)
  refine z_iconst (v := 0) dX1_timesIn_0 (by decide) ?_
  refine z_istore_n dX1_timesIn_1 (by decide) ?_
  refine z_iconst (v := 0) dX1_timesIn_2 (by decide) ?_
  refine z_istore_n dX1_timesIn_3 (by decide) ?_
  refine zdown (P := fun k => ZW layC mX1_timesIn 0 Q 4 [some (.ref 11), some (.int w), some (.int (zfold (fun k a => if μ.1 12 k = w then a + 1 else a) 0 k)), some (.int (nI k))] [] μ) n ?_ ?_ 0 (Nat.zero_le n)
  · refine z_iload_n dX1_timesIn_4 rfl ?_
    refine z_aload_n dX1_timesIn_5 rfl ?_
    refine z_getI dX1_timesIn_6 zf_X1_30 (by first | rfl | assumption) rfl ?_
    refine z_icmp_ge (tgt := 31) dX1_timesIn_9 (by decide) (fun _ => ?_) (fun h => absurd (by rw [hn]; exact Int32.le_refl _) h)
    refine z_iload_n dX1_timesIn_31 rfl ?_
    refine z_iret dX1_timesIn_32 rfl ?_
    exact hQ
  · intro k hk ih
    refine z_iload_n dX1_timesIn_4 rfl ?_
    refine z_aload_n dX1_timesIn_5 rfl ?_
    refine z_getI dX1_timesIn_6 zf_X1_30 (by first | rfl | assumption) rfl ?_
    refine z_icmp_ge (tgt := 31) dX1_timesIn_9 (by decide) (fun h => absurd h (by rw [hn]; exact nI_ge hk (by omega))) (fun _ => ?_)
    refine z_aload_n dX1_timesIn_12 rfl ?_
    refine z_getR dX1_timesIn_13 zf_X1_9 (by first | rfl | assumption) rfl ?_
    refine z_iload_n dX1_timesIn_16 rfl ?_
    refine z_iald dX1_timesIn_17 (by first | rfl | assumption) rfl (by first | assumption | omega | decide) (by decide) ?_
    refine z_iload_n dX1_timesIn_18 rfl ?_
    refine z_icmp_ne (tgt := 25) dX1_timesIn_19 (by decide) (fun hb19 => ?_) (fun hb19 => ?_)
    · refine z_iinc (v := 1) dX1_timesIn_25 rfl (by decide) (by decide) ?_
      refine z_goto (tgt := 4) dX1_timesIn_28 (by decide) ?_
      exact ZW.eq ih rfl (by simp [zfold, nI_succ, hb19])
    · refine z_iinc (v := 1) dX1_timesIn_22 rfl (by decide) (by decide) ?_
      refine z_iinc (v := 1) dX1_timesIn_25 rfl (by decide) (by decide) ?_
      refine z_goto (tgt := 4) dX1_timesIn_28 (by decide) ?_
      exact ZW.eq ih rfl (by simp [zfold, nI_succ, hb19])

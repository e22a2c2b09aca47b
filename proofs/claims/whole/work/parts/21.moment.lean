/-! ===== AnswerSquare.Moment: the present one, at 11 ===== -/
/-- the present talk is n long -/
def zmN (μ : ZMem) (n : Nat) : Prop := μ.1 11 6 = nI n ∧ n ≤ 30
theorem sp_has_t {μ : ZMem} {n j : Nat} (h : zmN μ n) (hj : j < n) {i : Int32} (hi : i = nI j) : Sp layC mX1_has 0 [.ref 11, .int i] μ (some (.int 1)) μ := by
  obtain ⟨hn, h30⟩ := h
  subst hi
  refine Sp.mk (L := [some (.ref 11), some (.int (nI j))]) rfl (by decide +kernel) rfl rfl (fun Q hQ => ?_)
  refine z_iload_n dX1_has_0 rfl ?_
  refine z_if_lt (tgt := 22) dX1_has_1 (by decide) (fun hx_ => absurd hx_ (nI_pos (by omega))) (fun _ => ?_)
  refine z_iload_n dX1_has_4 rfl ?_
  refine z_aload_n dX1_has_5 rfl ?_
  refine z_getI dX1_has_6 zf_X1_30 (by first | rfl | assumption) rfl ?_
  refine z_icmp_ge (tgt := 22) dX1_has_9 (by decide) (fun hx_ => absurd hx_ (by rw [hn]; exact nI_ge hj (by omega))) (fun _ => ?_)
  refine z_iload_n dX1_has_12 rfl ?_
  refine z_bipush (v := 30) dX1_has_13 (by decide) ?_
  refine z_icmp_ge (tgt := 22) dX1_has_15 (by decide) (fun hx_ => absurd hx_ (nI_ge (b := 30) (by omega) (by decide))) (fun _ => ?_)
  refine z_iconst (v := 1) dX1_has_18 (by decide) ?_
  refine z_goto (tgt := 23) dX1_has_19 (by decide) ?_
  refine z_zret dX1_has_23 rfl (by decide) ?_
  exact hQ
theorem sp_has_f {μ : ZMem} {n : Nat} (h : zmN μ n) {i : Int32} (hi : i < 0 ∨ nI n ≤ i) : Sp layC mX1_has 0 [.ref 11, .int i] μ (some (.int 0)) μ := by
  obtain ⟨hn, h30⟩ := h
  refine Sp.mk (L := [some (.ref 11), some (.int i)]) rfl (by decide +kernel) rfl rfl (fun Q hQ => ?_)
  refine z_iload_n dX1_has_0 rfl ?_
  refine z_if_lt (tgt := 22) dX1_has_1 (by decide) (fun hb1 => ?_) (fun hb1 => ?_)
  · refine z_iconst (v := 0) dX1_has_22 (by decide) ?_
    refine z_zret dX1_has_23 rfl (by decide) ?_
    exact hQ
  · refine z_iload_n dX1_has_4 rfl ?_
    refine z_aload_n dX1_has_5 rfl ?_
    refine z_getI dX1_has_6 zf_X1_30 (by first | rfl | assumption) rfl ?_
    refine z_icmp_ge (tgt := 22) dX1_has_9 (by decide) (fun _ => ?_) (fun hx_ => absurd (by rw [hn]; exact hi.resolve_left hb1) hx_)
    refine z_iconst (v := 0) dX1_has_22 (by decide) ?_
    refine z_zret dX1_has_23 rfl (by decide) ?_
    exact hQ
theorem sp_timesIn {μ : ZMem} {n : Nat} (h : zmN μ n) (w : Int32) : Sp layC mX1_timesIn 0 [.ref 11, .int w] μ (some (.int (zfold (fun k a => if μ.1 12 k = w then a + 1 else a) 0 n))) μ := by
  obtain ⟨hn, h30⟩ := h
  refine Sp.mk (L := [some (.ref 11), some (.int w), none, none]) rfl (by decide +kernel) rfl rfl (fun Q hQ => ?_)
  refine z_iconst (v := 0) dX1_timesIn_0 (by decide) ?_
  refine z_istore_n (i := 2) dX1_timesIn_1 rfl (by decide) ?_
  refine z_iconst (v := 0) dX1_timesIn_2 (by decide) ?_
  refine z_istore_n (i := 3) dX1_timesIn_3 rfl (by decide) ?_
  refine zdown (P := fun k => ZW layC mX1_timesIn 0 Q 4 [some (.ref 11), some (.int w), some (.int (zfold (fun k a => if μ.1 12 k = w then a + 1 else a) 0 k)), some (.int (nI k))] [] μ) n ?_ ?_ 0 (Nat.zero_le n)
  · refine z_iload_n dX1_timesIn_4 rfl ?_
    refine z_aload_n dX1_timesIn_5 rfl ?_
    refine z_getI dX1_timesIn_6 zf_X1_30 (by first | rfl | assumption) rfl ?_
    refine z_icmp_ge (tgt := 37) dX1_timesIn_9 (by decide) (fun _ => ?_) (fun hx_ => absurd (by rw [hn]; exact Int32.le_refl _) hx_)
    refine z_iload_n dX1_timesIn_37 rfl ?_
    refine z_iret dX1_timesIn_38 rfl ?_
    exact hQ
  · intro k hk ih
    refine z_iload_n dX1_timesIn_4 rfl ?_
    refine z_aload_n dX1_timesIn_5 rfl ?_
    refine z_getI dX1_timesIn_6 zf_X1_30 (by first | rfl | assumption) rfl ?_
    refine z_icmp_ge (tgt := 37) dX1_timesIn_9 (by decide) (fun hx_ => absurd hx_ (by rw [hn]; exact nI_ge hk (by omega))) (fun _ => ?_)
    refine z_iload_n dX1_timesIn_12 rfl ?_
    refine z_bipush (v := 30) dX1_timesIn_13 (by decide) ?_
    refine z_icmp_ge (tgt := 37) dX1_timesIn_15 (by decide) (fun hx_ => absurd hx_ (nI_ge (b := 30) (by omega) (by decide))) (fun _ => ?_)
    refine z_aload_n dX1_timesIn_18 rfl ?_
    refine z_getR dX1_timesIn_19 zf_X1_9 (by first | rfl | assumption) rfl ?_
    refine z_iload_n dX1_timesIn_22 rfl ?_
    refine z_iald dX1_timesIn_23 (by first | rfl | assumption) rfl (by first | assumption | omega | decide) (by decide) ?_
    refine z_iload_n dX1_timesIn_24 rfl ?_
    refine z_icmp_ne (tgt := 31) dX1_timesIn_25 (by decide) (fun hb25 => ?_) (fun hb25 => ?_)
    · refine z_iinc (v := 1) dX1_timesIn_31 rfl (by decide) (by decide) ?_
      refine z_goto (tgt := 4) dX1_timesIn_34 (by decide) ?_
      exact ZW.eq ih rfl (by simp [zfold, nI_succ, hb25])
    · refine z_iinc (v := 1) dX1_timesIn_28 rfl (by decide) (by decide) ?_
      refine z_iinc (v := 1) dX1_timesIn_31 rfl (by decide) (by decide) ?_
      refine z_goto (tgt := 4) dX1_timesIn_34 (by decide) ?_
      exact ZW.eq ih rfl (by simp [zfold, nI_succ, hb25])
theorem sp_timesBy {μ : ZMem} {n : Nat} (h : zmN μ n) (w : Int32) : Sp layC mX1_timesBy 0 [.ref 11, .int w] μ (some (.int (zfold (fun k a => if μ.1 14 k = w then a + 1 else a) 0 n))) μ := by
  obtain ⟨hn, h30⟩ := h
  refine Sp.mk (L := [some (.ref 11), some (.int w), none, none]) rfl (by decide +kernel) rfl rfl (fun Q hQ => ?_)
  refine z_iconst (v := 0) dX1_timesBy_0 (by decide) ?_
  refine z_istore_n (i := 2) dX1_timesBy_1 rfl (by decide) ?_
  refine z_iconst (v := 0) dX1_timesBy_2 (by decide) ?_
  refine z_istore_n (i := 3) dX1_timesBy_3 rfl (by decide) ?_
  refine zdown (P := fun k => ZW layC mX1_timesBy 0 Q 4 [some (.ref 11), some (.int w), some (.int (zfold (fun k a => if μ.1 14 k = w then a + 1 else a) 0 k)), some (.int (nI k))] [] μ) n ?_ ?_ 0 (Nat.zero_le n)
  · refine z_iload_n dX1_timesBy_4 rfl ?_
    refine z_aload_n dX1_timesBy_5 rfl ?_
    refine z_getI dX1_timesBy_6 zf_X1_30 (by first | rfl | assumption) rfl ?_
    refine z_icmp_ge (tgt := 37) dX1_timesBy_9 (by decide) (fun _ => ?_) (fun hx_ => absurd (by rw [hn]; exact Int32.le_refl _) hx_)
    refine z_iload_n dX1_timesBy_37 rfl ?_
    refine z_iret dX1_timesBy_38 rfl ?_
    exact hQ
  · intro k hk ih
    refine z_iload_n dX1_timesBy_4 rfl ?_
    refine z_aload_n dX1_timesBy_5 rfl ?_
    refine z_getI dX1_timesBy_6 zf_X1_30 (by first | rfl | assumption) rfl ?_
    refine z_icmp_ge (tgt := 37) dX1_timesBy_9 (by decide) (fun hx_ => absurd hx_ (by rw [hn]; exact nI_ge hk (by omega))) (fun _ => ?_)
    refine z_iload_n dX1_timesBy_12 rfl ?_
    refine z_bipush (v := 30) dX1_timesBy_13 (by decide) ?_
    refine z_icmp_ge (tgt := 37) dX1_timesBy_15 (by decide) (fun hx_ => absurd hx_ (nI_ge (b := 30) (by omega) (by decide))) (fun _ => ?_)
    refine z_aload_n dX1_timesBy_18 rfl ?_
    refine z_getR dX1_timesBy_19 zf_X1_18 (by first | rfl | assumption) rfl ?_
    refine z_iload_n dX1_timesBy_22 rfl ?_
    refine z_iald dX1_timesBy_23 (by first | rfl | assumption) rfl (by first | assumption | omega | decide) (by decide) ?_
    refine z_iload_n dX1_timesBy_24 rfl ?_
    refine z_icmp_ne (tgt := 31) dX1_timesBy_25 (by decide) (fun hb25 => ?_) (fun hb25 => ?_)
    · refine z_iinc (v := 1) dX1_timesBy_31 rfl (by decide) (by decide) ?_
      refine z_goto (tgt := 4) dX1_timesBy_34 (by decide) ?_
      exact ZW.eq ih rfl (by simp [zfold, nI_succ, hb25])
    · refine z_iinc (v := 1) dX1_timesBy_28 rfl (by decide) (by decide) ?_
      refine z_iinc (v := 1) dX1_timesBy_31 rfl (by decide) (by decide) ?_
      refine z_goto (tgt := 4) dX1_timesBy_34 (by decide) ?_
      exact ZW.eq ih rfl (by simp [zfold, nI_succ, hb25])
/-- the first in talk that answers what i says; -9: none -/
def zfa (t : Nat → Int32) (n : Nat) (i : Int32) : Int32 := zff (fun k => decide (t k = i)) 0 n
theorem sp_firstAnswerTo {μ : ZMem} {n : Nat} (h : zmN μ n) (i : Int32) : Sp layC mX1_firstAnswerTo 0 [.ref 11, .int i] μ (some (.int (zfa (μ.1 15) n i))) μ := by
  obtain ⟨hn, h30⟩ := h
  refine Sp.mk (L := [some (.ref 11), some (.int i), none]) rfl (by decide +kernel) rfl rfl (fun Q hQ => ?_)
  refine z_iconst (v := 0) dX1_firstAnswerTo_0 (by decide) ?_
  refine z_istore_n (i := 2) dX1_firstAnswerTo_1 rfl (by decide) ?_
  unfold zfa at hQ
  generalize hp : (fun k => decide (μ.1 15 k = i)) = p at hQ
  refine zdown (P := fun k => zff p 0 n = zff p k (n - k) → ZW layC mX1_firstAnswerTo 0 Q 2 [some (.ref 11), some (.int i), some (.int (nI k))] [] μ) n ?_ ?_ 0 (Nat.zero_le n) rfl
  · intro e
    refine z_iload_n dX1_firstAnswerTo_2 rfl ?_
    refine z_aload_n dX1_firstAnswerTo_3 rfl ?_
    refine z_getI dX1_firstAnswerTo_4 zf_X1_30 (by first | rfl | assumption) rfl ?_
    refine z_icmp_ge (tgt := 34) dX1_firstAnswerTo_7 (by decide) (fun _ => ?_) (fun hx_ => absurd (by rw [hn]; exact Int32.le_refl _) hx_)
    refine z_bipush (v := -9) dX1_firstAnswerTo_34 (by decide) ?_
    refine z_iret dX1_firstAnswerTo_36 rfl ?_
    rw [e, zff_end] at hQ
    exact hQ
  · intro k hk ih e
    rw [zff_step hk] at e
    refine z_iload_n dX1_firstAnswerTo_2 rfl ?_
    refine z_aload_n dX1_firstAnswerTo_3 rfl ?_
    refine z_getI dX1_firstAnswerTo_4 zf_X1_30 (by first | rfl | assumption) rfl ?_
    refine z_icmp_ge (tgt := 34) dX1_firstAnswerTo_7 (by decide) (fun hx_ => absurd hx_ (by rw [hn]; exact nI_ge hk (by omega))) (fun _ => ?_)
    refine z_iload_n dX1_firstAnswerTo_10 rfl ?_
    refine z_bipush (v := 30) dX1_firstAnswerTo_11 (by decide) ?_
    refine z_icmp_ge (tgt := 34) dX1_firstAnswerTo_13 (by decide) (fun hx_ => absurd hx_ (nI_ge (b := 30) (by omega) (by decide))) (fun _ => ?_)
    refine z_aload_n dX1_firstAnswerTo_16 rfl ?_
    refine z_getR dX1_firstAnswerTo_17 zf_X1_21 (by first | rfl | assumption) rfl ?_
    refine z_iload_n dX1_firstAnswerTo_20 rfl ?_
    refine z_iald dX1_firstAnswerTo_21 (by first | rfl | assumption) rfl (by first | assumption | omega | decide) (by decide) ?_
    refine z_iload_n dX1_firstAnswerTo_22 rfl ?_
    refine z_icmp_ne (tgt := 28) dX1_firstAnswerTo_23 (by decide) (fun hb23 => ?_) (fun hb23 => ?_)
    · refine z_iinc (v := 1) dX1_firstAnswerTo_28 rfl (by decide) (by decide) ?_
      refine z_goto (tgt := 2) dX1_firstAnswerTo_31 (by decide) ?_
      exact ZW.eq (ih (by rw [e, if_neg (by rw [← hp]; simp [hb23])])) rfl (by simp [nI_succ])
    · refine z_iload_n dX1_firstAnswerTo_26 rfl ?_
      refine z_iret dX1_firstAnswerTo_27 rfl ?_
      rw [e, if_pos (by rw [← hp]; simp [hb23])] at hQ
      exact hQ
theorem sp_isOpen {μ : ZMem} {n : Nat} (h : zmN μ n) (i : Int32) : Sp layC mX1_isOpen 1 [.ref 11, .int i] μ (some (.int (if zfa (μ.1 15) n i = -9 then 1 else 0))) μ := by
  refine Sp.mk (L := [some (.ref 11), some (.int i)]) rfl (by decide +kernel) rfl rfl (fun Q hQ => ?_)
  refine z_aload_n dX1_isOpen_0 rfl ?_
  refine z_iload_n dX1_isOpen_1 rfl ?_
  refine z_cV1r (dy := 0) dX1_isOpen_2 zl_X1_63 zy_X1_firstAnswerTo (by first | rfl | assumption) rfl (by decide) (Nat.le_of_ble_eq_true rfl) (sp_firstAnswerTo h i) ?_
  refine z_bipush (v := -9) dX1_isOpen_5 (by decide) ?_
  refine z_icmp_ne (tgt := 14) dX1_isOpen_7 (by decide) (fun hb7 => ?_) (fun hb7 => ?_)
  · refine z_iconst (v := 0) dX1_isOpen_14 (by decide) ?_
    refine z_zret dX1_isOpen_15 rfl (by decide) ?_
    first | (rw [if_pos hb7] at hQ; exact hQ) | (rw [if_neg hb7] at hQ; exact hQ)
  · refine z_iconst (v := 1) dX1_isOpen_10 (by decide) ?_
    refine z_goto (tgt := 15) dX1_isOpen_11 (by decide) ?_
    refine z_zret dX1_isOpen_15 rfl (by decide) ?_
    first | (rw [if_pos hb7] at hQ; exact hQ) | (rw [if_neg hb7] at hQ; exact hQ)
theorem sp_isThere {μ : ZMem} {n k : Nat} (h : zmN μ n) (hk : k < n) (ho old : Int32) : Sp layC mX1_isThere 1 [.ref 11, .int (nI k), .int ho, .int old] μ (some (.int (if μ.1 11 7 + ho - μ.1 13 k ≤ old then 1 else 0))) μ := by
  refine Sp.mk (L := [some (.ref 11), some (.int (nI k)), some (.int ho), some (.int old)]) rfl (by decide +kernel) rfl rfl (fun Q hQ => ?_)
  have h30 := h.2
  refine z_aload_n dX1_isThere_0 rfl ?_
  refine z_iload_n dX1_isThere_1 rfl ?_
  refine z_cV1r (dy := 0) dX1_isThere_2 zl_X1_49 zy_X1_has (by first | rfl | assumption) rfl (by decide) (Nat.le_of_ble_eq_true rfl) (sp_has_t h hk rfl) ?_
  refine z_if_eq (tgt := 29) dX1_isThere_5 (by decide) (fun hx_ => absurd hx_ (by decide)) (fun _ => ?_)
  refine z_aload_n dX1_isThere_8 rfl ?_
  refine z_getI dX1_isThere_9 zf_X1_34 (by first | rfl | assumption) rfl ?_
  refine z_iload_n dX1_isThere_12 rfl ?_
  refine z_iadd dX1_isThere_13 ?_
  refine z_aload_n dX1_isThere_14 rfl ?_
  refine z_getR dX1_isThere_15 zf_X1_15 (by first | rfl | assumption) rfl ?_
  refine z_iload_n dX1_isThere_18 rfl ?_
  refine z_iald dX1_isThere_19 (by first | rfl | assumption) rfl (by first | assumption | omega | decide) (by decide) ?_
  refine z_isub dX1_isThere_20 ?_
  refine z_iload_n dX1_isThere_21 rfl ?_
  refine z_icmp_gt (tgt := 29) dX1_isThere_22 (by decide) (fun hb22 => ?_) (fun hb22 => ?_)
  · refine z_iconst (v := 0) dX1_isThere_29 (by decide) ?_
    refine z_zret dX1_isThere_30 rfl (by decide) ?_
    first | (rw [if_neg (Int32.not_le.mpr hb22)] at hQ; exact hQ) | (rw [if_pos (Int32.not_lt.mp hb22)] at hQ; exact hQ)
  · refine z_iconst (v := 1) dX1_isThere_25 (by decide) ?_
    refine z_goto (tgt := 30) dX1_isThere_26 (by decide) ?_
    refine z_zret dX1_isThere_30 rfl (by decide) ?_
    first | (rw [if_neg (Int32.not_le.mpr hb22)] at hQ; exact hQ) | (rw [if_pos (Int32.not_lt.mp hb22)] at hQ; exact hQ)
/-- what is there (bits): of the first n in talk, said or heard not more than 'old' hours ahead of 'hr' -/
def zthere (wh at_ : Nat → Int32) (hr old : Int32) (n : Nat) : Int32 := zfold (fun k a => if hr - at_ k ≤ old then a ||| (1 <<< (wh k &&& 31)) else a) 0 n
theorem sp_there {μ : ZMem} {n : Nat} (h : zmN μ n) (ho old : Int32) : Sp layC mX1_there 2 [.ref 11, .int ho, .int old] μ (some (.int (zthere (μ.1 12) (μ.1 13) (μ.1 11 7 + ho) old n))) μ := by
  have hn := h.1
  have h30 := h.2
  refine Sp.mk (L := [some (.ref 11), some (.int ho), some (.int old), none, none]) rfl (by decide +kernel) rfl rfl (fun Q hQ => ?_)
  refine z_iconst (v := 0) dX1_there_0 (by decide) ?_
  refine z_istore_n (i := 3) dX1_there_1 rfl (by decide) ?_
  refine z_iconst (v := 0) dX1_there_2 (by decide) ?_
  refine z_istore dX1_there_3 (by decide) ?_
  refine zdown (P := fun k => ZW layC mX1_there 2 Q 5 [some (.ref 11), some (.int ho), some (.int old), some (.int (zthere (μ.1 12) (μ.1 13) (μ.1 11 7 + ho) old k)), some (.int (nI k))] [] μ) n ?_ ?_ 0 (Nat.zero_le n)
  · refine z_iload dX1_there_5 rfl ?_
    refine z_aload_n dX1_there_7 rfl ?_
    refine z_getI dX1_there_8 zf_X1_30 (by first | rfl | assumption) rfl ?_
    refine z_icmp_ge (tgt := 50) dX1_there_11 (by decide) (fun _ => ?_) (fun hx_ => absurd (by rw [hn]; exact Int32.le_refl _) hx_)
    refine z_iload_n dX1_there_50 rfl ?_
    refine z_iret dX1_there_51 rfl ?_
    exact hQ
  · intro k hk ih
    refine z_iload dX1_there_5 rfl ?_
    refine z_aload_n dX1_there_7 rfl ?_
    refine z_getI dX1_there_8 zf_X1_30 (by first | rfl | assumption) rfl ?_
    refine z_icmp_ge (tgt := 50) dX1_there_11 (by decide) (fun hx_ => absurd hx_ (by rw [hn]; exact nI_ge hk (by omega))) (fun _ => ?_)
    refine z_iload dX1_there_14 rfl ?_
    refine z_bipush (v := 30) dX1_there_16 (by decide) ?_
    refine z_icmp_ge (tgt := 50) dX1_there_18 (by decide) (fun hx_ => absurd hx_ (nI_ge (b := 30) (by omega) (by decide))) (fun _ => ?_)
    refine z_aload_n dX1_there_21 rfl ?_
    refine z_iload dX1_there_22 rfl ?_
    refine z_iload_n dX1_there_24 rfl ?_
    refine z_iload_n dX1_there_25 rfl ?_
    refine z_cV3r (dy := 1) dX1_there_26 zl_X1_67 zy_X1_isThere (by first | rfl | assumption) rfl (by decide) (Nat.le_of_ble_eq_true rfl) (sp_isThere h hk ho old) ?_
    refine z_if_eqb (tgt := 44) dX1_there_29 (by decide) (fun hb29 => ?_) (fun hb29 => ?_)
    · refine z_iinc (v := 1) dX1_there_44 rfl (by decide) (by decide) ?_
      refine z_goto (tgt := 5) dX1_there_47 (by decide) ?_
      exact ZW.eq ih rfl (by simp [zthere, zfold, nI_succ, hb29])
    · refine z_iload_n dX1_there_32 rfl ?_
      refine z_iconst (v := 1) dX1_there_33 (by decide) ?_
      refine z_aload_n dX1_there_34 rfl ?_
      refine z_getR dX1_there_35 zf_X1_9 (by first | rfl | assumption) rfl ?_
      refine z_iload dX1_there_38 rfl ?_
      refine z_iald dX1_there_40 (by first | rfl | assumption) rfl (by first | assumption | omega | decide) (by decide) ?_
      refine z_ishl dX1_there_41 ?_
      refine z_ior dX1_there_42 ?_
      refine z_istore_n (i := 3) dX1_there_43 rfl (by decide) ?_
      refine z_iinc (v := 1) dX1_there_44 rfl (by decide) (by decide) ?_
      refine z_goto (tgt := 5) dX1_there_47 (by decide) ?_
      exact ZW.eq ih rfl (by simp [zthere, zfold, nI_succ, hb29])
theorem sp_latestOf {μ : ZMem} {n : Nat} (h : zmN μ n) (set old : Int32) : Sp layC mX1_latestOf 2 [.ref 11, .int set, .int old] μ (some (.int (zlf (fun k => !decide (set &&& (1 <<< (μ.1 12 k &&& 31)) = 0) && decide (μ.1 11 7 + 0 - μ.1 13 k ≤ old)) n))) μ := by
  have hn := h.1
  have h30 := h.2
  refine Sp.mk (L := [some (.ref 11), some (.int set), some (.int old), none]) rfl (by decide +kernel) rfl rfl (fun Q hQ => ?_)
  refine z_aload_n dX1_latestOf_0 rfl ?_
  refine z_getI dX1_latestOf_1 zf_X1_30 (by first | rfl | assumption) rfl ?_
  refine z_bipush (v := 30) dX1_latestOf_4 (by decide) ?_
  refine z_min dX1_latestOf_6 zm_2_96 (by decide) (Nat.le_of_ble_eq_true rfl) ?_
  refine z_iconst (v := 1) dX1_latestOf_9 (by decide) ?_
  refine z_isub dX1_latestOf_10 ?_
  refine z_istore_n (i := 3) dX1_latestOf_11 rfl (by decide) ?_
  generalize hp : (fun k => !decide (set &&& (1 <<< (μ.1 12 k &&& 31)) = 0) && decide (μ.1 11 7 + 0 - μ.1 13 k ≤ old)) = p at hQ
  have key : ∀ m, m ≤ n → zlf p n = zlf p m → ZW layC mX1_latestOf 2 Q 12 [some (.ref 11), some (.int set), some (.int old), some (.int (nI m - 1))] [] μ := by
    intro m
    induction m with
    | zero =>
      intro _ e
      refine z_iload_n dX1_latestOf_12 rfl ?_
      refine z_if_lt (tgt := 47) dX1_latestOf_13 (by decide) (fun _ => ?_) (fun hx_ => absurd (by decide) hx_)
      refine z_bipush (v := -9) dX1_latestOf_47 (by decide) ?_
      refine z_iret dX1_latestOf_49 rfl ?_
      rw [e] at hQ
      exact hQ
    | succ m ih =>
      intro hm e
      rw [nI_pred]
      have e' : zlf p n = if p m = true then nI m else zlf p m := e
      refine z_iload_n dX1_latestOf_12 rfl ?_
      refine z_if_lt (tgt := 47) dX1_latestOf_13 (by decide) (fun hx_ => absurd hx_ (nI_pos (by omega))) (fun _ => ?_)
      refine z_iload_n dX1_latestOf_16 rfl ?_
      refine z_iconst (v := 1) dX1_latestOf_17 (by decide) ?_
      refine z_aload_n dX1_latestOf_18 rfl ?_
      refine z_getR dX1_latestOf_19 zf_X1_9 (by first | rfl | assumption) rfl ?_
      refine z_iload_n dX1_latestOf_22 rfl ?_
      refine z_iald dX1_latestOf_23 (by first | rfl | assumption) rfl (show m < 30 by omega) (by decide) ?_
      refine z_ishl dX1_latestOf_24 ?_
      refine z_iand dX1_latestOf_25 ?_
      refine z_if_eq (tgt := 41) dX1_latestOf_26 (by decide) (fun hb26 => ?_) (fun hb26 => ?_)
      · refine z_iinc (v := -1) dX1_latestOf_41 rfl (by decide) (by decide) ?_
        refine z_goto (tgt := 12) dX1_latestOf_44 (by decide) ?_
        exact ZW.eq (ih (by omega) (by rw [e', if_neg (by rw [← hp]; first | (simp only [hb26, hb36]; decide) | (simp [hb26, hb36]; done) | (simp [hb26]; done))])) rfl (by simp only [zsub1]; rfl)
      · refine z_aload_n dX1_latestOf_29 rfl ?_
        refine z_iload_n dX1_latestOf_30 rfl ?_
        refine z_iconst (v := 0) dX1_latestOf_31 (by decide) ?_
        refine z_iload_n dX1_latestOf_32 rfl ?_
        refine z_cV3r (dy := 1) dX1_latestOf_33 zl_X1_67 zy_X1_isThere (by first | rfl | assumption) rfl (by decide) (Nat.le_of_ble_eq_true rfl) (sp_isThere h (by omega) 0 old) ?_
        refine z_if_eqb (tgt := 41) dX1_latestOf_36 (by decide) (fun hb36 => ?_) (fun hb36 => ?_)
        · refine z_iinc (v := -1) dX1_latestOf_41 rfl (by decide) (by decide) ?_
          refine z_goto (tgt := 12) dX1_latestOf_44 (by decide) ?_
          exact ZW.eq (ih (by omega) (by rw [e', if_neg (by rw [← hp]; first | (simp only [hb26, hb36]; decide) | (simp [hb26, hb36]; done) | (simp [hb26]; done))])) rfl (by simp only [zsub1]; rfl)
        · refine z_iload_n dX1_latestOf_39 rfl ?_
          refine z_iret dX1_latestOf_40 rfl ?_
          rw [e', if_pos (by rw [← hp]; simp only [hb26, hb36]; decide)] at hQ
          exact hQ
  exact ZW.eq (key n (Nat.le_refl n) rfl) rfl (by rw [hn, if_neg (show ¬ (30 : Int32) < nI n from nI_nlt (a := 30) (by omega) (by decide))]; rfl)
theorem zff_cases (p : Nat → Bool) : ∀ (m k : Nat), zff p k m = -9 ∨ ∃ j, k ≤ j ∧ j < k + m ∧ zff p k m = nI j ∧ p j = true := by
  intro m
  induction m with
  | zero => intro k; exact Or.inl rfl
  | succ m ih =>
    intro k
    have e : zff p k (m + 1) = if p k = true then nI k else zff p (k + 1) m := rfl
    by_cases hp : p k = true
    · rw [e, if_pos hp]
      exact Or.inr ⟨k, Nat.le_refl k, by omega, rfl, hp⟩
    · rw [e, if_neg hp]
      rcases ih (k + 1) with h | ⟨j, h1, h2, h3, h4⟩
      · exact Or.inl h
      · exact Or.inr ⟨j, by omega, by omega, h3, h4⟩
theorem zfa_cases (t : Nat → Int32) (n : Nat) (i : Int32) : zfa t n i = -9 ∨ ∃ j, j < n ∧ zfa t n i = nI j ∧ t j = i := by
  rcases zff_cases (fun k => decide (t k = i)) n 0 with h | ⟨j, h1, h2, h3, h4⟩
  · exact Or.inl h
  · exact Or.inr ⟨j, by omega, h3, by simpa using h4⟩
theorem nI_ne9 {j : Nat} (h : j < 2 ^ 31) : ¬ nI j = -9 := by
  intro e
  have h1 := nI_toInt h
  rw [e] at h1
  have : (-9 : Int32).toInt = -9 := by decide
  omega
theorem sp_openOnes {μ : ZMem} {n : Nat} (h : zmN μ n) : Sp layC mX1_openOnes 2 [.ref 11] μ (some (.int (zfold (fun k a => if zfa (μ.1 15) n (nI k) = -9 then a + 1 else a) 0 n))) μ := by
  have hn := h.1
  have h30 := h.2
  refine Sp.mk (L := [some (.ref 11), none, none]) rfl (by decide +kernel) rfl rfl (fun Q hQ => ?_)
  refine z_iconst (v := 0) dX1_openOnes_0 (by decide) ?_
  refine z_istore_n (i := 1) dX1_openOnes_1 rfl (by decide) ?_
  refine z_iconst (v := 0) dX1_openOnes_2 (by decide) ?_
  refine z_istore_n (i := 2) dX1_openOnes_3 rfl (by decide) ?_
  refine zdown (P := fun k => ZW layC mX1_openOnes 2 Q 4 [some (.ref 11), some (.int (zfold (fun k a => if zfa (μ.1 15) n (nI k) = -9 then a + 1 else a) 0 k)), some (.int (nI k))] [] μ) n ?_ ?_ 0 (Nat.zero_le n)
  · refine z_iload_n dX1_openOnes_4 rfl ?_
    refine z_aload_n dX1_openOnes_5 rfl ?_
    refine z_getI dX1_openOnes_6 zf_X1_30 (by first | rfl | assumption) rfl ?_
    refine z_icmp_ge (tgt := 35) dX1_openOnes_9 (by decide) (fun _ => ?_) (fun hx_ => absurd (by rw [hn]; exact Int32.le_refl _) hx_)
    refine z_iload_n dX1_openOnes_35 rfl ?_
    refine z_iret dX1_openOnes_36 rfl ?_
    exact hQ
  · intro k hk ih
    refine z_iload_n dX1_openOnes_4 rfl ?_
    refine z_aload_n dX1_openOnes_5 rfl ?_
    refine z_getI dX1_openOnes_6 zf_X1_30 (by first | rfl | assumption) rfl ?_
    refine z_icmp_ge (tgt := 35) dX1_openOnes_9 (by decide) (fun hx_ => absurd hx_ (by rw [hn]; exact nI_ge hk (by omega))) (fun _ => ?_)
    refine z_iload_n dX1_openOnes_12 rfl ?_
    refine z_bipush (v := 30) dX1_openOnes_13 (by decide) ?_
    refine z_icmp_ge (tgt := 35) dX1_openOnes_15 (by decide) (fun hx_ => absurd hx_ (nI_ge (b := 30) (by omega) (by decide))) (fun _ => ?_)
    refine z_aload_n dX1_openOnes_18 rfl ?_
    refine z_iload_n dX1_openOnes_19 rfl ?_
    refine z_cV1r (dy := 1) dX1_openOnes_20 zl_X1_71 zy_X1_isOpen (by first | rfl | assumption) rfl (by decide) (Nat.le_of_ble_eq_true rfl) (sp_isOpen h (nI k)) ?_
    refine z_if_eqb (tgt := 29) dX1_openOnes_23 (by decide) (fun hb23 => ?_) (fun hb23 => ?_)
    · refine z_iinc (v := 1) dX1_openOnes_29 rfl (by decide) (by decide) ?_
      refine z_goto (tgt := 4) dX1_openOnes_32 (by decide) ?_
      exact ZW.eq ih rfl (by simp [zfold, nI_succ, hb23])
    · refine z_iinc (v := 1) dX1_openOnes_26 rfl (by decide) (by decide) ?_
      refine z_iinc (v := 1) dX1_openOnes_29 rfl (by decide) (by decide) ?_
      refine z_goto (tgt := 4) dX1_openOnes_32 (by decide) ?_
      exact ZW.eq ih rfl (by simp [zfold, nI_succ, hb23])
theorem sp_lastOpen {μ : ZMem} {n : Nat} (h : zmN μ n) : Sp layC mX1_lastOpen 2 [.ref 11] μ (some (.int (zlf (fun k => decide (zfa (μ.1 15) n (nI k) = -9)) n))) μ := by
  have hn := h.1
  have h30 := h.2
  refine Sp.mk (L := [some (.ref 11), none]) rfl (by decide +kernel) rfl rfl (fun Q hQ => ?_)
  refine z_aload_n dX1_lastOpen_0 rfl ?_
  refine z_getI dX1_lastOpen_1 zf_X1_30 (by first | rfl | assumption) rfl ?_
  refine z_bipush (v := 30) dX1_lastOpen_4 (by decide) ?_
  refine z_min dX1_lastOpen_6 zm_2_96 (by decide) (Nat.le_of_ble_eq_true rfl) ?_
  refine z_iconst (v := 1) dX1_lastOpen_9 (by decide) ?_
  refine z_isub dX1_lastOpen_10 ?_
  refine z_istore_n (i := 1) dX1_lastOpen_11 rfl (by decide) ?_
  generalize hp : (fun k => decide (zfa (μ.1 15) n (nI k) = -9)) = p at hQ
  have key : ∀ m, m ≤ n → zlf p n = zlf p m → ZW layC mX1_lastOpen 2 Q 12 [some (.ref 11), some (.int (nI m - 1))] [] μ := by
    intro m
    induction m with
    | zero =>
      intro _ e
      refine z_iload_n dX1_lastOpen_12 rfl ?_
      refine z_if_lt (tgt := 32) dX1_lastOpen_13 (by decide) (fun _ => ?_) (fun hx_ => absurd (by decide) hx_)
      refine z_bipush (v := -9) dX1_lastOpen_32 (by decide) ?_
      refine z_iret dX1_lastOpen_34 rfl ?_
      rw [e] at hQ
      exact hQ
    | succ m ih =>
      intro hm e
      rw [nI_pred]
      have e' : zlf p n = if p m = true then nI m else zlf p m := e
      refine z_iload_n dX1_lastOpen_12 rfl ?_
      refine z_if_lt (tgt := 32) dX1_lastOpen_13 (by decide) (fun hx_ => absurd hx_ (nI_pos (by omega))) (fun _ => ?_)
      refine z_aload_n dX1_lastOpen_16 rfl ?_
      refine z_iload_n dX1_lastOpen_17 rfl ?_
      refine z_cV1r (dy := 1) dX1_lastOpen_18 zl_X1_71 zy_X1_isOpen (by first | rfl | assumption) rfl (by decide) (Nat.le_of_ble_eq_true rfl) (sp_isOpen h (nI m)) ?_
      refine z_if_eqb (tgt := 26) dX1_lastOpen_21 (by decide) (fun hb21 => ?_) (fun hb21 => ?_)
      · refine z_iinc (v := -1) dX1_lastOpen_26 rfl (by decide) (by decide) ?_
        refine z_goto (tgt := 12) dX1_lastOpen_29 (by decide) ?_
        exact ZW.eq (ih (by omega) (by rw [e', if_neg (by rw [← hp]; simpa using hb21)])) rfl (by simp only [zsub1]; rfl)
      · refine z_iload_n dX1_lastOpen_24 rfl ?_
        refine z_iret dX1_lastOpen_25 rfl ?_
        rw [e', if_pos (by rw [← hp]; simpa using hb21)] at hQ
        exact hQ
  exact ZW.eq (key n (Nat.le_refl n) rfl) rfl (by rw [hn, if_neg (show ¬ (30 : Int32) < nI n from nI_nlt (a := 30) (by omega) (by decide))]; rfl)
/-- which of the first k is farthest, the first of several -/
def zbst (f : Nat → Int32) : Nat → Nat
  | 0 => 0
  | k + 1 => if k = 0 then 0 else if f (zbst f k) < f k then k else zbst f k
theorem zbst_lt (f : Nat → Int32) : ∀ k, 0 < k → zbst f k < k := by
  intro k
  induction k with
  | zero => intro h; omega
  | succ k ih =>
    intro _
    show (if k = 0 then 0 else if f (zbst f k) < f k then k else zbst f k) < k + 1
    by_cases h0 : k = 0
    · rw [if_pos h0]; omega
    · rw [if_neg h0]
      have := ih (by omega)
      split <;> omega
theorem zbst_congr {f g : Nat → Int32} : ∀ {n : Nat}, (∀ k, k < n → f k = g k) → zbst f n = zbst g n := by
  intro n
  induction n with
  | zero => intro _; rfl
  | succ n ih =>
    intro h
    show (if n = 0 then 0 else if f (zbst f n) < f n then n else zbst f n) = (if n = 0 then 0 else if g (zbst g n) < g n then n else zbst g n)
    rw [ih (fun k hk => h k (by omega)), h n (by omega)]
    by_cases h0 : n = 0
    · rw [if_pos h0, if_pos h0]
    · rw [if_neg h0, if_neg h0, h _ (by have := zbst_lt g n (by omega); omega)]
theorem sp_farthest {μ : ZMem} {n : Nat} (h : zmN μ n) : Sp layC mX1_farthest 1 [.ref 11] μ (some (.int (if n = 0 then -9 else nI (zbst (μ.1 17) n)))) μ := by
  have hn := h.1
  have h30 := h.2
  refine Sp.mk (L := [some (.ref 11), none, none]) rfl (by decide +kernel) rfl rfl (fun Q hQ => ?_)
  refine z_bipush (v := -9) dX1_farthest_0 (by decide) ?_
  refine z_istore_n (i := 1) dX1_farthest_2 rfl (by decide) ?_
  refine z_iconst (v := 0) dX1_farthest_3 (by decide) ?_
  refine z_istore_n (i := 2) dX1_farthest_4 rfl (by decide) ?_
  refine zdown (P := fun k => ZW layC mX1_farthest 1 Q 5 [some (.ref 11), some (.int (if k = 0 then -9 else nI (zbst (μ.1 17) k))), some (.int (nI k))] [] μ) n ?_ ?_ 0 (Nat.zero_le n)
  · refine z_iload_n dX1_farthest_5 rfl ?_
    refine z_aload_n dX1_farthest_6 rfl ?_
    refine z_getI dX1_farthest_7 zf_X1_30 (by first | rfl | assumption) rfl ?_
    refine z_icmp_ge (tgt := 50) dX1_farthest_10 (by decide) (fun _ => ?_) (fun hx_ => absurd (by rw [hn]; exact Int32.le_refl _) hx_)
    refine z_iload_n dX1_farthest_50 rfl ?_
    refine z_iret dX1_farthest_51 rfl ?_
    exact hQ
  · intro k hk ih
    by_cases h0 : k = 0
    · subst h0
      refine z_iload_n dX1_farthest_5 rfl ?_
      refine z_aload_n dX1_farthest_6 rfl ?_
      refine z_getI dX1_farthest_7 zf_X1_30 (by first | rfl | assumption) rfl ?_
      refine z_icmp_ge (tgt := 50) dX1_farthest_10 (by decide) (fun hx_ => absurd hx_ (by rw [hn]; exact nI_ge hk (by omega))) (fun _ => ?_)
      refine z_iload_n dX1_farthest_13 rfl ?_
      refine z_bipush (v := 30) dX1_farthest_14 (by decide) ?_
      refine z_icmp_ge (tgt := 50) dX1_farthest_16 (by decide) (fun hx_ => absurd hx_ (nI_ge (b := 30) (by omega) (by decide))) (fun _ => ?_)
      refine z_aload_n dX1_farthest_19 rfl ?_
      refine z_iload_n dX1_farthest_20 rfl ?_
      refine z_cV1r (dy := 0) dX1_farthest_21 zl_X1_49 zy_X1_has (by first | rfl | assumption) rfl (by decide) (Nat.le_of_ble_eq_true rfl) (sp_has_f h (Or.inl (show (-9 : Int32) < 0 by decide))) ?_
      refine z_if_eq (tgt := 42) dX1_farthest_24 (by decide) (fun _ => ?_) (fun hx_ => absurd (rfl) hx_)
      refine z_iload_n dX1_farthest_42 rfl ?_
      refine z_istore_n (i := 1) dX1_farthest_43 rfl (by decide) ?_
      refine z_iinc (v := 1) dX1_farthest_44 rfl (by decide) (by decide) ?_
      refine z_goto (tgt := 5) dX1_farthest_47 (by decide) ?_
      exact ZW.eq ih rfl (by simp [zbst, nI_succ])
    · rw [if_neg h0]
      have hb := zbst_lt (μ.1 17) k (by omega)
      refine z_iload_n dX1_farthest_5 rfl ?_
      refine z_aload_n dX1_farthest_6 rfl ?_
      refine z_getI dX1_farthest_7 zf_X1_30 (by first | rfl | assumption) rfl ?_
      refine z_icmp_ge (tgt := 50) dX1_farthest_10 (by decide) (fun hx_ => absurd hx_ (by rw [hn]; exact nI_ge hk (by omega))) (fun _ => ?_)
      refine z_iload_n dX1_farthest_13 rfl ?_
      refine z_bipush (v := 30) dX1_farthest_14 (by decide) ?_
      refine z_icmp_ge (tgt := 50) dX1_farthest_16 (by decide) (fun hx_ => absurd hx_ (nI_ge (b := 30) (by omega) (by decide))) (fun _ => ?_)
      refine z_aload_n dX1_farthest_19 rfl ?_
      refine z_iload_n dX1_farthest_20 rfl ?_
      refine z_cV1r (dy := 0) dX1_farthest_21 zl_X1_49 zy_X1_has (by first | rfl | assumption) rfl (by decide) (Nat.le_of_ble_eq_true rfl) (sp_has_t h (show zbst (μ.1 17) k < n by omega) rfl) ?_
      refine z_if_eq (tgt := 42) dX1_farthest_24 (by decide) (fun hx_ => absurd hx_ (by decide)) (fun _ => ?_)
      refine z_aload_n dX1_farthest_27 rfl ?_
      refine z_getR dX1_farthest_28 zf_X1_27 (by first | rfl | assumption) rfl ?_
      refine z_iload_n dX1_farthest_31 rfl ?_
      refine z_iald dX1_farthest_32 (by first | rfl | assumption) rfl (by first | assumption | omega | decide) (by decide) ?_
      refine z_aload_n dX1_farthest_33 rfl ?_
      refine z_getR dX1_farthest_34 zf_X1_27 (by first | rfl | assumption) rfl ?_
      refine z_iload_n dX1_farthest_37 rfl ?_
      refine z_iald dX1_farthest_38 (by first | rfl | assumption) rfl (show zbst (μ.1 17) k < 30 by omega) (by decide) ?_
      refine z_icmp_le (tgt := 44) dX1_farthest_39 (by decide) (fun hb39 => ?_) (fun hb39 => ?_)
      · refine z_iinc (v := 1) dX1_farthest_44 rfl (by decide) (by decide) ?_
        refine z_goto (tgt := 5) dX1_farthest_47 (by decide) ?_
        exact ZW.eq ih rfl (by
          rw [if_neg (show ¬ k + 1 = 0 by omega), nI_succ]
          have e0 : zbst (μ.1 17) (k + 1) = if k = 0 then 0 else if μ.1 17 (zbst (μ.1 17) k) < μ.1 17 k then k else zbst (μ.1 17) k := rfl
          rw [e0, if_neg h0]
          first | (rw [if_neg (Int32.not_lt.mpr hb39)]; rfl) | (rw [if_pos (Int32.not_le.mp hb39)]; rfl))
      · refine z_iload_n dX1_farthest_42 rfl ?_
        refine z_istore_n (i := 1) dX1_farthest_43 rfl (by decide) ?_
        refine z_iinc (v := 1) dX1_farthest_44 rfl (by decide) (by decide) ?_
        refine z_goto (tgt := 5) dX1_farthest_47 (by decide) ?_
        exact ZW.eq ih rfl (by
          rw [if_neg (show ¬ k + 1 = 0 by omega), nI_succ]
          have e0 : zbst (μ.1 17) (k + 1) = if k = 0 then 0 else if μ.1 17 (zbst (μ.1 17) k) < μ.1 17 k then k else zbst (μ.1 17) k := rfl
          rw [e0, if_neg h0]
          first | (rw [if_neg (Int32.not_lt.mpr hb39)]; rfl) | (rw [if_pos (Int32.not_le.mp hb39)]; rfl))
/-- who said first what answers a sound, of each sound that is answered (bits) -/
def zfas (ro to_ by_ : Nat → Int32) (n : Nat) (m : Nat) : Int32 := zfold (fun k a => if ro k = nI k ∧ ¬ zfa to_ n (nI k) = -9 then a ||| (1 <<< (by_ (zfa to_ n (nI k)).toNatClampNeg &&& 31)) else a) 0 m
theorem sp_firstAnswerers {μ : ZMem} {n : Nat} (h : zmN μ n) : Sp layC mX1_firstAnswerers 1 [.ref 11] μ (some (.int (zfas (μ.1 16) (μ.1 15) (μ.1 14) n n))) μ := by
  have hn := h.1
  have h30 := h.2
  refine Sp.mk (L := [some (.ref 11), none, none, none]) rfl (by decide +kernel) rfl rfl (fun Q hQ => ?_)
  refine z_iconst (v := 0) dX1_firstAnswerers_0 (by decide) ?_
  refine z_istore_n (i := 1) dX1_firstAnswerers_1 rfl (by decide) ?_
  refine z_iconst (v := 0) dX1_firstAnswerers_2 (by decide) ?_
  refine z_istore_n (i := 2) dX1_firstAnswerers_3 rfl (by decide) ?_
  have key : ∀ k, k ≤ n → ∀ z, ZW layC mX1_firstAnswerers 1 Q 4 [some (.ref 11), some (.int (zfas (μ.1 16) (μ.1 15) (μ.1 14) n k)), some (.int (nI k)), z] [] μ := by
    refine zdown n ?_ ?_
    · intro z
      refine z_iload_n dX1_firstAnswerers_4 rfl ?_
      refine z_aload_n dX1_firstAnswerers_5 rfl ?_
      refine z_getI dX1_firstAnswerers_6 zf_X1_30 (by first | rfl | assumption) rfl ?_
      refine z_icmp_ge (tgt := 64) dX1_firstAnswerers_9 (by decide) (fun _ => ?_) (fun hx_ => absurd (by rw [hn]; exact Int32.le_refl _) hx_)
      refine z_iload_n dX1_firstAnswerers_64 rfl ?_
      refine z_iret dX1_firstAnswerers_65 rfl ?_
      exact hQ
    · intro k hk ih z
      refine z_iload_n dX1_firstAnswerers_4 rfl ?_
      refine z_aload_n dX1_firstAnswerers_5 rfl ?_
      refine z_getI dX1_firstAnswerers_6 zf_X1_30 (by first | rfl | assumption) rfl ?_
      refine z_icmp_ge (tgt := 64) dX1_firstAnswerers_9 (by decide) (fun hx_ => absurd hx_ (by rw [hn]; exact nI_ge hk (by omega))) (fun _ => ?_)
      refine z_iload_n dX1_firstAnswerers_12 rfl ?_
      refine z_bipush (v := 30) dX1_firstAnswerers_13 (by decide) ?_
      refine z_icmp_ge (tgt := 64) dX1_firstAnswerers_15 (by decide) (fun hx_ => absurd hx_ (nI_ge (b := 30) (by omega) (by decide))) (fun _ => ?_)
      refine z_aload_n dX1_firstAnswerers_18 rfl ?_
      refine z_getR dX1_firstAnswerers_19 zf_X1_24 (by first | rfl | assumption) rfl ?_
      refine z_iload_n dX1_firstAnswerers_22 rfl ?_
      refine z_iald dX1_firstAnswerers_23 (by first | rfl | assumption) rfl (by first | assumption | omega | decide) (by decide) ?_
      refine z_iload_n dX1_firstAnswerers_24 rfl ?_
      refine z_icmp_ne (tgt := 36) dX1_firstAnswerers_25 (by decide) (fun hb25 => ?_) (fun hb25 => ?_)
      · refine z_bipush (v := -9) dX1_firstAnswerers_36 (by decide) ?_
        refine z_istore_n (i := 3) dX1_firstAnswerers_38 rfl (by decide) ?_
        refine z_aload_n dX1_firstAnswerers_39 rfl ?_
        refine z_iload_n dX1_firstAnswerers_40 rfl ?_
        refine z_cV1r (dy := 0) dX1_firstAnswerers_41 zl_X1_49 zy_X1_has (by first | rfl | assumption) rfl (by decide) (Nat.le_of_ble_eq_true rfl) (sp_has_f h (Or.inl (by decide))) ?_
        refine z_if_eq (tgt := 58) dX1_firstAnswerers_44 (by decide) (fun _ => ?_) (fun hx_ => absurd (rfl) hx_)
        refine z_iinc (v := 1) dX1_firstAnswerers_58 rfl (by decide) (by decide) ?_
        refine z_goto (tgt := 4) dX1_firstAnswerers_61 (by decide) ?_
        exact ZW.eq (ih _) rfl (by simp [zfas, zfold, nI_succ, hb25]; rfl)
      · refine z_aload_n dX1_firstAnswerers_28 rfl ?_
        refine z_iload_n dX1_firstAnswerers_29 rfl ?_
        refine z_cV1r (dy := 0) dX1_firstAnswerers_30 zl_X1_63 zy_X1_firstAnswerTo (by first | rfl | assumption) rfl (by decide) (Nat.le_of_ble_eq_true rfl) (sp_firstAnswerTo h (nI k)) ?_
        refine z_goto (tgt := 38) dX1_firstAnswerers_33 (by decide) ?_
        rcases zfa_cases (μ.1 15) n (nI k) with e | ⟨j, hj, e, -⟩
        · rw [e]
          refine z_istore_n (i := 3) dX1_firstAnswerers_38 rfl (by decide) ?_
          refine z_aload_n dX1_firstAnswerers_39 rfl ?_
          refine z_iload_n dX1_firstAnswerers_40 rfl ?_
          refine z_cV1r (dy := 0) dX1_firstAnswerers_41 zl_X1_49 zy_X1_has (by first | rfl | assumption) rfl (by decide) (Nat.le_of_ble_eq_true rfl) (sp_has_f h (Or.inl (by decide))) ?_
          refine z_if_eq (tgt := 58) dX1_firstAnswerers_44 (by decide) (fun _ => ?_) (fun hx_ => absurd (rfl) hx_)
          refine z_iinc (v := 1) dX1_firstAnswerers_58 rfl (by decide) (by decide) ?_
          refine z_goto (tgt := 4) dX1_firstAnswerers_61 (by decide) ?_
          exact ZW.eq (ih _) rfl (by simp [zfas, zfold, nI_succ, e]; rfl)
        · rw [e]
          refine z_istore_n (i := 3) dX1_firstAnswerers_38 rfl (by decide) ?_
          refine z_aload_n dX1_firstAnswerers_39 rfl ?_
          refine z_iload_n dX1_firstAnswerers_40 rfl ?_
          refine z_cV1r (dy := 0) dX1_firstAnswerers_41 zl_X1_49 zy_X1_has (by first | rfl | assumption) rfl (by decide) (Nat.le_of_ble_eq_true rfl) (sp_has_t h hj rfl) ?_
          refine z_if_eq (tgt := 58) dX1_firstAnswerers_44 (by decide) (fun hx_ => absurd hx_ (by decide)) (fun _ => ?_)
          refine z_iload_n dX1_firstAnswerers_47 rfl ?_
          refine z_iconst (v := 1) dX1_firstAnswerers_48 (by decide) ?_
          refine z_aload_n dX1_firstAnswerers_49 rfl ?_
          refine z_getR dX1_firstAnswerers_50 zf_X1_18 (by first | rfl | assumption) rfl ?_
          refine z_iload_n dX1_firstAnswerers_53 rfl ?_
          refine z_iald dX1_firstAnswerers_54 (by first | rfl | assumption) rfl (by first | assumption | omega | decide) (by decide) ?_
          refine z_ishl dX1_firstAnswerers_55 ?_
          refine z_ior dX1_firstAnswerers_56 ?_
          refine z_istore_n (i := 1) dX1_firstAnswerers_57 rfl (by decide) ?_
          refine z_iinc (v := 1) dX1_firstAnswerers_58 rfl (by decide) (by decide) ?_
          refine z_goto (tgt := 4) dX1_firstAnswerers_61 (by decide) ?_
          exact ZW.eq (ih _) rfl (by simp [zfas, zfold, nI_succ, e, hb25, nI_ne9 (show j < 2 ^ 31 by omega), nI_clamp (show j < 2 ^ 31 by omega)]; rfl)
  exact key 0 (Nat.zero_le n) none
/-- what is in talk ahead of the first w (bits); 0: w never is -/
def zah (f : Nat → Int32) (w : Int32) : Nat → Nat → Int32 → Int32
  | _, 0, _ => 0
  | k, m + 1, a => if f k = w then a else zah f w (k + 1) m (a ||| (1 <<< (f k &&& 31)))
theorem sp_aheadOf {μ : ZMem} {n : Nat} (h : zmN μ n) (w : Int32) : Sp layC mX1_aheadOf 0 [.ref 11, .int w] μ (some (.int (zah (μ.1 12) w 0 n 0))) μ := by
  have hn := h.1
  have h30 := h.2
  refine Sp.mk (L := [some (.ref 11), some (.int w), none, none]) rfl (by decide +kernel) rfl rfl (fun Q hQ => ?_)
  refine z_iconst (v := 0) dX1_aheadOf_0 (by decide) ?_
  refine z_istore_n (i := 2) dX1_aheadOf_1 rfl (by decide) ?_
  refine z_iconst (v := 0) dX1_aheadOf_2 (by decide) ?_
  refine z_istore_n (i := 3) dX1_aheadOf_3 rfl (by decide) ?_
  have key : ∀ k, k ≤ n → ∀ a, zah (μ.1 12) w 0 n 0 = zah (μ.1 12) w k (n - k) a → ZW layC mX1_aheadOf 0 Q 4 [some (.ref 11), some (.int w), some (.int a), some (.int (nI k))] [] μ := by
    refine zdown n ?_ ?_
    · intro a e
      refine z_iload_n dX1_aheadOf_4 rfl ?_
      refine z_aload_n dX1_aheadOf_5 rfl ?_
      refine z_getI dX1_aheadOf_6 zf_X1_30 (by first | rfl | assumption) rfl ?_
      refine z_icmp_ge (tgt := 47) dX1_aheadOf_9 (by decide) (fun _ => ?_) (fun hx_ => absurd (by rw [hn]; exact Int32.le_refl _) hx_)
      refine z_iconst (v := 0) dX1_aheadOf_47 (by decide) ?_
      refine z_iret dX1_aheadOf_48 rfl ?_
      rw [e, Nat.sub_self] at hQ
      exact hQ
    · intro k hk ih a e
      rw [show n - k = (n - (k + 1)) + 1 by omega] at e
      refine z_iload_n dX1_aheadOf_4 rfl ?_
      refine z_aload_n dX1_aheadOf_5 rfl ?_
      refine z_getI dX1_aheadOf_6 zf_X1_30 (by first | rfl | assumption) rfl ?_
      refine z_icmp_ge (tgt := 47) dX1_aheadOf_9 (by decide) (fun hx_ => absurd hx_ (by rw [hn]; exact nI_ge hk (by omega))) (fun _ => ?_)
      refine z_iload_n dX1_aheadOf_12 rfl ?_
      refine z_bipush (v := 30) dX1_aheadOf_13 (by decide) ?_
      refine z_icmp_ge (tgt := 47) dX1_aheadOf_15 (by decide) (fun hx_ => absurd hx_ (nI_ge (b := 30) (by omega) (by decide))) (fun _ => ?_)
      refine z_aload_n dX1_aheadOf_18 rfl ?_
      refine z_getR dX1_aheadOf_19 zf_X1_9 (by first | rfl | assumption) rfl ?_
      refine z_iload_n dX1_aheadOf_22 rfl ?_
      refine z_iald dX1_aheadOf_23 (by first | rfl | assumption) rfl (by first | assumption | omega | decide) (by decide) ?_
      refine z_iload_n dX1_aheadOf_24 rfl ?_
      refine z_icmp_ne (tgt := 30) dX1_aheadOf_25 (by decide) (fun hb25 => ?_) (fun hb25 => ?_)
      · refine z_iload_n dX1_aheadOf_30 rfl ?_
        refine z_iconst (v := 1) dX1_aheadOf_31 (by decide) ?_
        refine z_aload_n dX1_aheadOf_32 rfl ?_
        refine z_getR dX1_aheadOf_33 zf_X1_9 (by first | rfl | assumption) rfl ?_
        refine z_iload_n dX1_aheadOf_36 rfl ?_
        refine z_iald dX1_aheadOf_37 (by first | rfl | assumption) rfl (by first | assumption | omega | decide) (by decide) ?_
        refine z_ishl dX1_aheadOf_38 ?_
        refine z_ior dX1_aheadOf_39 ?_
        refine z_istore_n (i := 2) dX1_aheadOf_40 rfl (by decide) ?_
        refine z_iinc (v := 1) dX1_aheadOf_41 rfl (by decide) (by decide) ?_
        refine z_goto (tgt := 4) dX1_aheadOf_44 (by decide) ?_
        exact ZW.eq (ih (a ||| (1 <<< (μ.1 12 k &&& 31))) (by rw [e]; simp only [zah, if_neg hb25])) rfl (by simp [nI_succ])
      · refine z_iload_n dX1_aheadOf_28 rfl ?_
        refine z_iret dX1_aheadOf_29 rfl ?_
        rw [e] at hQ
        simp only [zah, if_pos hb25] at hQ
        exact hQ
  exact key 0 (Nat.zero_le n) 0 rfl
theorem sp_reset {μ : ZMem} : Sp layC mX1_reset 0 [.ref 11] μ none (zI (zI (zI (zI μ 11 6 0) 11 7 0) 11 8 0) 11 9 0) := by
  refine Sp.mk (L := [some (.ref 11)]) rfl (by decide +kernel) rfl rfl (fun Q hQ => ?_)
  refine z_aload_n dX1_reset_0 rfl ?_
  refine z_iconst (v := 0) dX1_reset_1 (by decide) ?_
  refine z_putI dX1_reset_2 zf_X1_30p (by first | rfl | assumption) rfl rfl rfl ?_
  refine z_aload_n dX1_reset_5 rfl ?_
  refine z_iconst (v := 0) dX1_reset_6 (by decide) ?_
  refine z_putI dX1_reset_7 zf_X1_34p (by first | rfl | assumption) rfl rfl rfl ?_
  refine z_aload_n dX1_reset_10 rfl ?_
  refine z_iconst (v := 0) dX1_reset_11 (by decide) ?_
  refine z_putI dX1_reset_12 zf_X1_37p (by first | rfl | assumption) rfl rfl rfl ?_
  refine z_aload_n dX1_reset_15 rfl ?_
  refine z_iconst (v := 0) dX1_reset_16 (by decide) ?_
  refine z_putI dX1_reset_17 zf_X1_40p (by first | rfl | assumption) rfl rfl rfl ?_
  refine z_vret dX1_reset_20 rfl ?_
  exact hQ
def zrem (μ : ZMem) (b : Int32) : ZMem := zI (zI μ 11 9 (((μ.1 11 9 <<< ((1 : Int32) &&& 31)) ||| b) &&& 4095)) 11 8 (if μ.1 11 8 + 1 < 12 then μ.1 11 8 + 1 else 12)
theorem sp_remember {μ : ZMem} (b : Int32) : Sp layC mX1_remember 1 [.ref 11, .int b] μ none (zrem μ b) := by
  refine Sp.mk (L := [some (.ref 11), some (.int b)]) rfl (by decide +kernel) rfl rfl (fun Q hQ => ?_)
  refine z_aload_n dX1_remember_0 rfl ?_
  refine z_aload_n dX1_remember_1 rfl ?_
  refine z_getI dX1_remember_2 zf_X1_40 (by first | rfl | assumption) rfl ?_
  refine z_iconst (v := 1) dX1_remember_5 (by decide) ?_
  refine z_ishl dX1_remember_6 ?_
  refine z_iload_n dX1_remember_7 rfl ?_
  refine z_ior dX1_remember_8 ?_
  refine z_sipush (v := 4095) dX1_remember_9 (by decide) ?_
  refine z_iand dX1_remember_12 ?_
  refine z_putI dX1_remember_13 zf_X1_40p (by first | rfl | assumption) rfl rfl rfl ?_
  refine z_aload_n dX1_remember_16 rfl ?_
  refine z_bipush (v := 12) dX1_remember_17 (by decide) ?_
  refine z_aload_n dX1_remember_19 rfl ?_
  refine z_getI dX1_remember_20 zf_X1_37 (by first | rfl | assumption) rfl ?_
  refine z_iconst (v := 1) dX1_remember_23 (by decide) ?_
  refine z_iadd dX1_remember_24 ?_
  refine z_min dX1_remember_25 zm_2_96 (by decide) (Nat.le_of_ble_eq_true rfl) ?_
  refine z_putI dX1_remember_28 zf_X1_37p (by first | rfl | assumption) rfl rfl rfl ?_
  refine z_vret dX1_remember_31 rfl ?_
  exact hQ
theorem sp_passHour_f {μ : ZMem} (h : (99 : Int32) ≤ μ.1 11 7) : Sp layC mX1_passHour 2 [.ref 11] μ (some (.int 0)) μ := by
  refine Sp.mk (L := [some (.ref 11)]) rfl (by decide +kernel) rfl rfl (fun Q hQ => ?_)
  refine z_aload_n dX1_passHour_0 rfl ?_
  refine z_getI dX1_passHour_1 zf_X1_34 (by first | rfl | assumption) rfl ?_
  refine z_bipush (v := 99) dX1_passHour_4 (by decide) ?_
  refine z_icmp_lt (tgt := 11) dX1_passHour_6 (by decide) (fun hx_ => absurd hx_ (Int32.not_lt.mpr h)) (fun _ => ?_)
  refine z_iconst (v := 0) dX1_passHour_9 (by decide) ?_
  refine z_zret dX1_passHour_10 rfl (by decide) ?_
  exact hQ
theorem sp_passHour_t {μ : ZMem} (h : μ.1 11 7 < 99) : Sp layC mX1_passHour 2 [.ref 11] μ (some (.int 1)) (zrem (zI μ 11 7 (μ.1 11 7 + 1)) 1) := by
  refine Sp.mk (L := [some (.ref 11)]) rfl (by decide +kernel) rfl rfl (fun Q hQ => ?_)
  refine z_aload_n dX1_passHour_0 rfl ?_
  refine z_getI dX1_passHour_1 zf_X1_34 (by first | rfl | assumption) rfl ?_
  refine z_bipush (v := 99) dX1_passHour_4 (by decide) ?_
  refine z_icmp_lt (tgt := 11) dX1_passHour_6 (by decide) (fun _ => ?_) (fun hx_ => absurd h hx_)
  refine z_aload_n dX1_passHour_11 rfl ?_
  refine z_dup dX1_passHour_12 rfl ?_
  refine z_getI dX1_passHour_13 zf_X1_34 (by first | rfl | assumption) rfl ?_
  refine z_iconst (v := 1) dX1_passHour_16 (by decide) ?_
  refine z_iadd dX1_passHour_17 ?_
  refine z_putI dX1_passHour_18 zf_X1_34p (by first | rfl | assumption) rfl rfl rfl ?_
  refine z_aload_n dX1_passHour_21 rfl ?_
  refine z_iconst (v := 1) dX1_passHour_22 (by decide) ?_
  refine z_cV1v (dy := 1) dX1_passHour_23 zl_X1_53 zy_X1_remember (by first | rfl | assumption) rfl (by decide) (Nat.le_of_ble_eq_true rfl) (sp_remember 1) ?_
  refine z_iconst (v := 1) dX1_passHour_26 (by decide) ?_
  refine z_zret dX1_passHour_27 rfl (by decide) ?_
  exact hQ
theorem sp_takeBack_f {μ : ZMem} (h : μ.1 11 8 = 0) : Sp layC mX1_takeBack 0 [.ref 11] μ (some (.int 0)) μ := by
  refine Sp.mk (L := [some (.ref 11)]) rfl (by decide +kernel) rfl rfl (fun Q hQ => ?_)
  refine z_aload_n dX1_takeBack_0 rfl ?_
  refine z_getI dX1_takeBack_1 zf_X1_37 (by first | rfl | assumption) rfl ?_
  refine z_if_gt (tgt := 9) dX1_takeBack_4 (by decide) (fun hx_ => absurd hx_ (by have e : μ.1 11 8 = 0 := h; show ¬ (0 : Int32) < μ.1 11 8; rw [e]; decide)) (fun _ => ?_)
  refine z_iconst (v := 0) dX1_takeBack_7 (by decide) ?_
  refine z_zret dX1_takeBack_8 rfl (by decide) ?_
  exact hQ
def ztb (μ : ZMem) : ZMem := zI (zI μ 11 9 (μ.1 11 9 >>> ((1 : Int32) &&& 31))) 11 8 (μ.1 11 8 - 1)
theorem sp_takeBack_h {μ : ZMem} (h : 0 < μ.1 11 8) (hb : ¬ μ.1 11 9 &&& 1 = 0) : Sp layC mX1_takeBack 0 [.ref 11] μ (some (.int 1)) (ztb (zI μ 11 7 (μ.1 11 7 - 1))) := by
  refine Sp.mk (L := [some (.ref 11)]) rfl (by decide +kernel) rfl rfl (fun Q hQ => ?_)
  refine z_aload_n dX1_takeBack_0 rfl ?_
  refine z_getI dX1_takeBack_1 zf_X1_37 (by first | rfl | assumption) rfl ?_
  refine z_if_gt (tgt := 9) dX1_takeBack_4 (by decide) (fun _ => ?_) (fun hx_ => absurd h hx_)
  refine z_aload_n dX1_takeBack_9 rfl ?_
  refine z_getI dX1_takeBack_10 zf_X1_40 (by first | rfl | assumption) rfl ?_
  refine z_iconst (v := 1) dX1_takeBack_13 (by decide) ?_
  refine z_iand dX1_takeBack_14 ?_
  refine z_if_eq (tgt := 31) dX1_takeBack_15 (by decide) (fun hx_ => absurd hx_ hb) (fun _ => ?_)
  refine z_aload_n dX1_takeBack_18 rfl ?_
  refine z_dup dX1_takeBack_19 rfl ?_
  refine z_getI dX1_takeBack_20 zf_X1_34 (by first | rfl | assumption) rfl ?_
  refine z_iconst (v := 1) dX1_takeBack_23 (by decide) ?_
  refine z_isub dX1_takeBack_24 ?_
  refine z_putI dX1_takeBack_25 zf_X1_34p (by first | rfl | assumption) rfl rfl rfl ?_
  refine z_goto (tgt := 41) dX1_takeBack_28 (by decide) ?_
  refine z_aload_n dX1_takeBack_41 rfl ?_
  refine z_dup dX1_takeBack_42 rfl ?_
  refine z_getI dX1_takeBack_43 zf_X1_40 (by first | rfl | assumption) rfl ?_
  refine z_iconst (v := 1) dX1_takeBack_46 (by decide) ?_
  refine z_ishr dX1_takeBack_47 ?_
  refine z_putI dX1_takeBack_48 zf_X1_40p (by first | rfl | assumption) rfl rfl rfl ?_
  refine z_aload_n dX1_takeBack_51 rfl ?_
  refine z_dup dX1_takeBack_52 rfl ?_
  refine z_getI dX1_takeBack_53 zf_X1_37 (by first | rfl | assumption) rfl ?_
  refine z_iconst (v := 1) dX1_takeBack_56 (by decide) ?_
  refine z_isub dX1_takeBack_57 ?_
  refine z_putI dX1_takeBack_58 zf_X1_37p (by first | rfl | assumption) rfl rfl rfl ?_
  refine z_iconst (v := 1) dX1_takeBack_61 (by decide) ?_
  refine z_zret dX1_takeBack_62 rfl (by decide) ?_
  exact hQ
theorem sp_takeBack_s {μ : ZMem} (h : 0 < μ.1 11 8) (hb : μ.1 11 9 &&& 1 = 0) : Sp layC mX1_takeBack 0 [.ref 11] μ (some (.int 1)) (ztb (zI μ 11 6 (μ.1 11 6 - 1))) := by
  refine Sp.mk (L := [some (.ref 11)]) rfl (by decide +kernel) rfl rfl (fun Q hQ => ?_)
  refine z_aload_n dX1_takeBack_0 rfl ?_
  refine z_getI dX1_takeBack_1 zf_X1_37 (by first | rfl | assumption) rfl ?_
  refine z_if_gt (tgt := 9) dX1_takeBack_4 (by decide) (fun _ => ?_) (fun hx_ => absurd h hx_)
  refine z_aload_n dX1_takeBack_9 rfl ?_
  refine z_getI dX1_takeBack_10 zf_X1_40 (by first | rfl | assumption) rfl ?_
  refine z_iconst (v := 1) dX1_takeBack_13 (by decide) ?_
  refine z_iand dX1_takeBack_14 ?_
  refine z_if_eq (tgt := 31) dX1_takeBack_15 (by decide) (fun _ => ?_) (fun hx_ => absurd hb hx_)
  refine z_aload_n dX1_takeBack_31 rfl ?_
  refine z_dup dX1_takeBack_32 rfl ?_
  refine z_getI dX1_takeBack_33 zf_X1_30 (by first | rfl | assumption) rfl ?_
  refine z_iconst (v := 1) dX1_takeBack_36 (by decide) ?_
  refine z_isub dX1_takeBack_37 ?_
  refine z_putI dX1_takeBack_38 zf_X1_30p (by first | rfl | assumption) rfl rfl rfl ?_
  refine z_aload_n dX1_takeBack_41 rfl ?_
  refine z_dup dX1_takeBack_42 rfl ?_
  refine z_getI dX1_takeBack_43 zf_X1_40 (by first | rfl | assumption) rfl ?_
  refine z_iconst (v := 1) dX1_takeBack_46 (by decide) ?_
  refine z_ishr dX1_takeBack_47 ?_
  refine z_putI dX1_takeBack_48 zf_X1_40p (by first | rfl | assumption) rfl rfl rfl ?_
  refine z_aload_n dX1_takeBack_51 rfl ?_
  refine z_dup dX1_takeBack_52 rfl ?_
  refine z_getI dX1_takeBack_53 zf_X1_37 (by first | rfl | assumption) rfl ?_
  refine z_iconst (v := 1) dX1_takeBack_56 (by decide) ?_
  refine z_isub dX1_takeBack_57 ?_
  refine z_putI dX1_takeBack_58 zf_X1_37p (by first | rfl | assumption) rfl rfl rfl ?_
  refine z_iconst (v := 1) dX1_takeBack_61 (by decide) ?_
  refine z_zret dX1_takeBack_62 rfl (by decide) ?_
  exact hQ
theorem sp_add_f {μ : ZMem} (h : zmN μ 30) (w p a : Int32) : Sp layC mX1_add 2 [.ref 11, .int w, .int p, .int a] μ (some (.int 0)) μ := by
  have hn := h.1
  refine Sp.mk (L := [some (.ref 11), some (.int w), some (.int p), some (.int a)]) rfl (by decide +kernel) rfl rfl (fun Q hQ => ?_)
  refine z_aload_n dX1_add_0 rfl ?_
  refine z_getI dX1_add_1 zf_X1_30 (by first | rfl | assumption) rfl ?_
  refine z_if_lt (tgt := 16) dX1_add_4 (by decide) (fun hx_ => absurd hx_ (by rw [hn]; decide)) (fun _ => ?_)
  refine z_aload_n dX1_add_7 rfl ?_
  refine z_getI dX1_add_8 zf_X1_30 (by first | rfl | assumption) rfl ?_
  refine z_bipush (v := 30) dX1_add_11 (by decide) ?_
  refine z_icmp_lt (tgt := 18) dX1_add_13 (by decide) (fun hx_ => absurd hx_ (by rw [hn]; decide)) (fun _ => ?_)
  refine z_iconst (v := 0) dX1_add_16 (by decide) ?_
  refine z_zret dX1_add_17 rfl (by decide) ?_
  exact hQ
/-- one more in talk: what it is, by whom, what it answers, its root, how far -/
def zadd (μ : ZMem) (n : Nat) (w p a ro fa : Int32) : ZMem := zrem (zI (zI (zI (zI (zI (zI (zI μ 12 n w) 13 n (μ.1 11 7)) 14 n p) 15 n a) 16 n ro) 17 n fa) 11 6 (μ.1 11 6 + 1)) 0
theorem sp_add_s {μ : ZMem} {n : Nat} (h : zmN μ n) (hlt : n < 30) (w p : Int32) : Sp layC mX1_add 2 [.ref 11, .int w, .int p, .int (-9)] μ (some (.int 1)) (zadd μ n w p (-9) (μ.1 11 6) 0) := by
  have hn := h.1
  have h30 := h.2
  refine Sp.mk (L := [some (.ref 11), some (.int w), some (.int p), some (.int (-9))]) rfl (by decide +kernel) rfl rfl (fun Q hQ => ?_)
  refine z_aload_n dX1_add_0 rfl ?_
  refine z_getI dX1_add_1 zf_X1_30 (by first | rfl | assumption) rfl ?_
  refine z_if_lt (tgt := 16) dX1_add_4 (by decide) (fun hx_ => absurd hx_ (by rw [hn]; exact nI_pos (by omega))) (fun _ => ?_)
  refine z_aload_n dX1_add_7 rfl ?_
  refine z_getI dX1_add_8 zf_X1_30 (by first | rfl | assumption) rfl ?_
  refine z_bipush (v := 30) dX1_add_11 (by decide) ?_
  refine z_icmp_lt (tgt := 18) dX1_add_13 (by decide) (fun _ => ?_) (fun hx_ => absurd (by rw [hn]; exact nI_lt (b := 30) hlt (by decide)) hx_)
  refine z_aload_n dX1_add_18 rfl ?_
  refine z_getR dX1_add_19 zf_X1_9 (by first | rfl | assumption) rfl ?_
  refine z_aload_n dX1_add_22 rfl ?_
  refine z_getI dX1_add_23 zf_X1_30 (by first | rfl | assumption) rfl ?_
  refine z_iload_n dX1_add_26 rfl ?_
  refine z_iast dX1_add_27 (by first | rfl | assumption) hn (by omega) (by decide) ?_
  refine z_aload_n dX1_add_28 rfl ?_
  refine z_getR dX1_add_29 zf_X1_15 (by first | rfl | assumption) rfl ?_
  refine z_aload_n dX1_add_32 rfl ?_
  refine z_getI dX1_add_33 zf_X1_30 (by first | rfl | assumption) rfl ?_
  refine z_aload_n dX1_add_36 rfl ?_
  refine z_getI dX1_add_37 zf_X1_34 (by first | rfl | assumption) rfl ?_
  refine z_iast dX1_add_40 (by first | rfl | assumption) hn (by omega) (by decide) ?_
  refine z_aload_n dX1_add_41 rfl ?_
  refine z_getR dX1_add_42 zf_X1_18 (by first | rfl | assumption) rfl ?_
  refine z_aload_n dX1_add_45 rfl ?_
  refine z_getI dX1_add_46 zf_X1_30 (by first | rfl | assumption) rfl ?_
  refine z_iload_n dX1_add_49 rfl ?_
  refine z_iast dX1_add_50 (by first | rfl | assumption) hn (by omega) (by decide) ?_
  refine z_aload_n dX1_add_51 rfl ?_
  refine z_getR dX1_add_52 zf_X1_21 (by first | rfl | assumption) rfl ?_
  refine z_aload_n dX1_add_55 rfl ?_
  refine z_getI dX1_add_56 zf_X1_30 (by first | rfl | assumption) rfl ?_
  refine z_iload_n dX1_add_59 rfl ?_
  refine z_iast dX1_add_60 (by first | rfl | assumption) hn (by omega) (by decide) ?_
  refine z_aload_n dX1_add_61 rfl ?_
  refine z_getR dX1_add_62 zf_X1_24 (by first | rfl | assumption) rfl ?_
  refine z_aload_n dX1_add_65 rfl ?_
  refine z_getI dX1_add_66 zf_X1_30 (by first | rfl | assumption) rfl ?_
  refine z_aload_n dX1_add_69 rfl ?_
  refine z_iload_n dX1_add_70 rfl ?_
  refine z_cV1r (dy := 0) dX1_add_71 zl_X1_49 zy_X1_has (by first | rfl | assumption) rfl (by decide) (Nat.le_of_ble_eq_true rfl) (by refine sp_has_f (n := n) ?_ (Or.inl (show (-9 : Int32) < 0 by decide)); exact ⟨hn, h30⟩) ?_
  refine z_if_eq (tgt := 86) dX1_add_74 (by decide) (fun _ => ?_) (fun hx_ => absurd (rfl) hx_)
  refine z_aload_n dX1_add_86 rfl ?_
  refine z_getI dX1_add_87 zf_X1_30 (by first | rfl | assumption) rfl ?_
  refine z_iast dX1_add_90 (by first | rfl | assumption) hn (by omega) (by decide) ?_
  refine z_aload_n dX1_add_91 rfl ?_
  refine z_getR dX1_add_92 zf_X1_27 (by first | rfl | assumption) rfl ?_
  refine z_aload_n dX1_add_95 rfl ?_
  refine z_getI dX1_add_96 zf_X1_30 (by first | rfl | assumption) rfl ?_
  refine z_aload_n dX1_add_99 rfl ?_
  refine z_iload_n dX1_add_100 rfl ?_
  refine z_cV1r (dy := 0) dX1_add_101 zl_X1_49 zy_X1_has (by first | rfl | assumption) rfl (by decide) (Nat.le_of_ble_eq_true rfl) (by refine sp_has_f (n := n) ?_ (Or.inl (show (-9 : Int32) < 0 by decide)); exact ⟨hn, h30⟩) ?_
  refine z_if_eq (tgt := 118) dX1_add_104 (by decide) (fun _ => ?_) (fun hx_ => absurd (rfl) hx_)
  refine z_iconst (v := 0) dX1_add_118 (by decide) ?_
  refine z_iast dX1_add_119 (by first | rfl | assumption) hn (by omega) (by decide) ?_
  refine z_aload_n dX1_add_120 rfl ?_
  refine z_dup dX1_add_121 rfl ?_
  refine z_getI dX1_add_122 zf_X1_30 (by first | rfl | assumption) rfl ?_
  refine z_iconst (v := 1) dX1_add_125 (by decide) ?_
  refine z_iadd dX1_add_126 ?_
  refine z_putI dX1_add_127 zf_X1_30p (by first | rfl | assumption) rfl rfl rfl ?_
  refine z_aload_n dX1_add_130 rfl ?_
  refine z_iconst (v := 0) dX1_add_131 (by decide) ?_
  refine z_cV1v (dy := 1) dX1_add_132 zl_X1_53 zy_X1_remember (by first | rfl | assumption) rfl (by decide) (Nat.le_of_ble_eq_true rfl) (sp_remember 0) ?_
  refine z_iconst (v := 1) dX1_add_135 (by decide) ?_
  refine z_zret dX1_add_136 rfl (by decide) ?_
  exact hQ
theorem sp_add_a {μ : ZMem} {n j : Nat} (h : zmN μ n) (hlt : n < 30) (hj : j < n) (w p : Int32) : Sp layC mX1_add 2 [.ref 11, .int w, .int p, .int (nI j)] μ (some (.int 1)) (zadd μ n w p (nI j) (μ.1 16 j) (μ.1 17 j + 1)) := by
  have hn := h.1
  have h30 := h.2
  refine Sp.mk (L := [some (.ref 11), some (.int w), some (.int p), some (.int (nI j))]) rfl (by decide +kernel) rfl rfl (fun Q hQ => ?_)
  refine z_aload_n dX1_add_0 rfl ?_
  refine z_getI dX1_add_1 zf_X1_30 (by first | rfl | assumption) rfl ?_
  refine z_if_lt (tgt := 16) dX1_add_4 (by decide) (fun hx_ => absurd hx_ (by rw [hn]; exact nI_pos (by omega))) (fun _ => ?_)
  refine z_aload_n dX1_add_7 rfl ?_
  refine z_getI dX1_add_8 zf_X1_30 (by first | rfl | assumption) rfl ?_
  refine z_bipush (v := 30) dX1_add_11 (by decide) ?_
  refine z_icmp_lt (tgt := 18) dX1_add_13 (by decide) (fun _ => ?_) (fun hx_ => absurd (by rw [hn]; exact nI_lt (b := 30) hlt (by decide)) hx_)
  refine z_aload_n dX1_add_18 rfl ?_
  refine z_getR dX1_add_19 zf_X1_9 (by first | rfl | assumption) rfl ?_
  refine z_aload_n dX1_add_22 rfl ?_
  refine z_getI dX1_add_23 zf_X1_30 (by first | rfl | assumption) rfl ?_
  refine z_iload_n dX1_add_26 rfl ?_
  refine z_iast dX1_add_27 (by first | rfl | assumption) hn (by omega) (by decide) ?_
  refine z_aload_n dX1_add_28 rfl ?_
  refine z_getR dX1_add_29 zf_X1_15 (by first | rfl | assumption) rfl ?_
  refine z_aload_n dX1_add_32 rfl ?_
  refine z_getI dX1_add_33 zf_X1_30 (by first | rfl | assumption) rfl ?_
  refine z_aload_n dX1_add_36 rfl ?_
  refine z_getI dX1_add_37 zf_X1_34 (by first | rfl | assumption) rfl ?_
  refine z_iast dX1_add_40 (by first | rfl | assumption) hn (by omega) (by decide) ?_
  refine z_aload_n dX1_add_41 rfl ?_
  refine z_getR dX1_add_42 zf_X1_18 (by first | rfl | assumption) rfl ?_
  refine z_aload_n dX1_add_45 rfl ?_
  refine z_getI dX1_add_46 zf_X1_30 (by first | rfl | assumption) rfl ?_
  refine z_iload_n dX1_add_49 rfl ?_
  refine z_iast dX1_add_50 (by first | rfl | assumption) hn (by omega) (by decide) ?_
  refine z_aload_n dX1_add_51 rfl ?_
  refine z_getR dX1_add_52 zf_X1_21 (by first | rfl | assumption) rfl ?_
  refine z_aload_n dX1_add_55 rfl ?_
  refine z_getI dX1_add_56 zf_X1_30 (by first | rfl | assumption) rfl ?_
  refine z_iload_n dX1_add_59 rfl ?_
  refine z_iast dX1_add_60 (by first | rfl | assumption) hn (by omega) (by decide) ?_
  refine z_aload_n dX1_add_61 rfl ?_
  refine z_getR dX1_add_62 zf_X1_24 (by first | rfl | assumption) rfl ?_
  refine z_aload_n dX1_add_65 rfl ?_
  refine z_getI dX1_add_66 zf_X1_30 (by first | rfl | assumption) rfl ?_
  refine z_aload_n dX1_add_69 rfl ?_
  refine z_iload_n dX1_add_70 rfl ?_
  refine z_cV1r (dy := 0) dX1_add_71 zl_X1_49 zy_X1_has (by first | rfl | assumption) rfl (by decide) (Nat.le_of_ble_eq_true rfl) (by refine sp_has_t (n := n) ?_ hj rfl; exact ⟨hn, h30⟩) ?_
  refine z_if_eq (tgt := 86) dX1_add_74 (by decide) (fun hx_ => absurd hx_ (by decide)) (fun _ => ?_)
  refine z_aload_n dX1_add_77 rfl ?_
  refine z_getR dX1_add_78 zf_X1_24 (by first | rfl | assumption) rfl ?_
  refine z_iload_n dX1_add_81 rfl ?_
  refine z_iald dX1_add_82 (by first | rfl | assumption) rfl (show j < 30 by omega) (by decide) ?_
  refine z_goto (tgt := 90) dX1_add_83 (by decide) ?_
  refine z_iast dX1_add_90 (by first | rfl | assumption) hn (by omega) (by decide) ?_
  refine z_aload_n dX1_add_91 rfl ?_
  refine z_getR dX1_add_92 zf_X1_27 (by first | rfl | assumption) rfl ?_
  refine z_aload_n dX1_add_95 rfl ?_
  refine z_getI dX1_add_96 zf_X1_30 (by first | rfl | assumption) rfl ?_
  refine z_aload_n dX1_add_99 rfl ?_
  refine z_iload_n dX1_add_100 rfl ?_
  refine z_cV1r (dy := 0) dX1_add_101 zl_X1_49 zy_X1_has (by first | rfl | assumption) rfl (by decide) (Nat.le_of_ble_eq_true rfl) (by refine sp_has_t (n := n) ?_ hj rfl; exact ⟨hn, h30⟩) ?_
  refine z_if_eq (tgt := 118) dX1_add_104 (by decide) (fun hx_ => absurd hx_ (by decide)) (fun _ => ?_)
  refine z_aload_n dX1_add_107 rfl ?_
  refine z_getR dX1_add_108 zf_X1_27 (by first | rfl | assumption) rfl ?_
  refine z_iload_n dX1_add_111 rfl ?_
  refine z_iald dX1_add_112 (by first | rfl | assumption) rfl (show j < 30 by omega) (by decide) ?_
  refine z_iconst (v := 1) dX1_add_113 (by decide) ?_
  refine z_iadd dX1_add_114 ?_
  refine z_goto (tgt := 119) dX1_add_115 (by decide) ?_
  refine z_iast dX1_add_119 (by first | rfl | assumption) hn (by omega) (by decide) ?_
  refine z_aload_n dX1_add_120 rfl ?_
  refine z_dup dX1_add_121 rfl ?_
  refine z_getI dX1_add_122 zf_X1_30 (by first | rfl | assumption) rfl ?_
  refine z_iconst (v := 1) dX1_add_125 (by decide) ?_
  refine z_iadd dX1_add_126 ?_
  refine z_putI dX1_add_127 zf_X1_30p (by first | rfl | assumption) rfl rfl rfl ?_
  refine z_aload_n dX1_add_130 rfl ?_
  refine z_iconst (v := 0) dX1_add_131 (by decide) ?_
  refine z_cV1v (dy := 1) dX1_add_132 zl_X1_53 zy_X1_remember (by first | rfl | assumption) rfl (by decide) (Nat.le_of_ble_eq_true rfl) (sp_remember 0) ?_
  refine z_iconst (v := 1) dX1_add_135 (by decide) ?_
  refine z_zret dX1_add_136 rfl (by decide) ?_
  exact hQ

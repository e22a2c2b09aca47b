/-! ===== the reference: what was told, kinds, images ===== -/
theorem spM_forget {μ : ZMem} : Sp layM mX4_forget 0 [.ref 0] μ (some (.int (μ.1 0 20))) (zI μ 0 20 0) := by
  refine Sp.mk (L := [some (.ref 0), none]) rfl (by decide +kernel) rfl rfl (fun Q hQ => ?_)
  refine z_aload_n dX4_forget_0 rfl ?_
  refine z_getI dX4_forget_1 zf_X4_102 (by first | rfl | assumption) rfl ?_
  refine z_istore_n (i := 1) dX4_forget_4 rfl (by decide) ?_
  refine z_aload_n dX4_forget_5 rfl ?_
  refine z_iconst (v := 0) dX4_forget_6 (by decide) ?_
  refine z_putI dX4_forget_7 zf_X4_102p (by first | rfl | assumption) rfl rfl rfl ?_
  refine z_iload_n dX4_forget_10 rfl ?_
  refine z_iret dX4_forget_11 rfl ?_
  exact hQ
theorem spM_tells_bad {μ : ZMem} {ns : Nat} (h : zsM μ ns) {w v : Int32} (hb : (w < 0 ∨ nI ns ≤ w) ∨ (∃ i, i < ns ∧ w = nI i) ∧ ((v < 0 ∨ nI ns ≤ v) ∨ (∃ j, j < ns ∧ v = nI j) ∧ w = v)) : Sp layM mX4_tells 2 [.ref 0, .int w, .int v] μ (some (.int (-1))) μ := by
  refine Sp.mk (L := [some (.ref 0), some (.int w), some (.int v)]) rfl (by decide +kernel) rfl rfl (fun Q hQ => ?_)
  rcases hb with hb | ⟨⟨i, hi, hw⟩, hb | ⟨⟨j, hj, hv⟩, e⟩⟩
  · refine z_aload_n dX4_tells_0 rfl ?_
    refine z_iload_n dX4_tells_1 rfl ?_
    refine z_cV1r (dy := 1) dX4_tells_2 zl_X4_117 zy_X4_isSaying (by first | rfl | assumption) rfl (by decide) (Nat.le_of_ble_eq_true rfl) (sp_isSaying_f h hb) ?_
    refine z_if_eq (tgt := 21) dX4_tells_5 (by decide) (fun _ => ?_) (fun hx_ => absurd (rfl) hx_)
    refine z_iconst (v := -1) dX4_tells_21 (by decide) ?_
    refine z_iret dX4_tells_22 rfl ?_
    exact hQ
  · refine z_aload_n dX4_tells_0 rfl ?_
    refine z_iload_n dX4_tells_1 rfl ?_
    refine z_cV1r (dy := 1) dX4_tells_2 zl_X4_117 zy_X4_isSaying (by first | rfl | assumption) rfl (by decide) (Nat.le_of_ble_eq_true rfl) (sp_isSaying_t h hi hw) ?_
    refine z_if_eq (tgt := 21) dX4_tells_5 (by decide) (fun hx_ => absurd hx_ (by decide)) (fun _ => ?_)
    refine z_aload_n dX4_tells_8 rfl ?_
    refine z_iload_n dX4_tells_9 rfl ?_
    refine z_cV1r (dy := 1) dX4_tells_10 zl_X4_117 zy_X4_isSaying (by first | rfl | assumption) rfl (by decide) (Nat.le_of_ble_eq_true rfl) (sp_isSaying_f h hb) ?_
    refine z_if_eq (tgt := 21) dX4_tells_13 (by decide) (fun _ => ?_) (fun hx_ => absurd (rfl) hx_)
    refine z_iconst (v := -1) dX4_tells_21 (by decide) ?_
    refine z_iret dX4_tells_22 rfl ?_
    exact hQ
  · refine z_aload_n dX4_tells_0 rfl ?_
    refine z_iload_n dX4_tells_1 rfl ?_
    refine z_cV1r (dy := 1) dX4_tells_2 zl_X4_117 zy_X4_isSaying (by first | rfl | assumption) rfl (by decide) (Nat.le_of_ble_eq_true rfl) (sp_isSaying_t h hi hw) ?_
    refine z_if_eq (tgt := 21) dX4_tells_5 (by decide) (fun hx_ => absurd hx_ (by decide)) (fun _ => ?_)
    refine z_aload_n dX4_tells_8 rfl ?_
    refine z_iload_n dX4_tells_9 rfl ?_
    refine z_cV1r (dy := 1) dX4_tells_10 zl_X4_117 zy_X4_isSaying (by first | rfl | assumption) rfl (by decide) (Nat.le_of_ble_eq_true rfl) (sp_isSaying_t h hj hv) ?_
    refine z_if_eq (tgt := 21) dX4_tells_13 (by decide) (fun hx_ => absurd hx_ (by decide)) (fun _ => ?_)
    refine z_iload_n dX4_tells_16 rfl ?_
    refine z_iload_n dX4_tells_17 rfl ?_
    refine z_icmp_ne (tgt := 23) dX4_tells_18 (by decide) (fun hx_ => absurd e hx_) (fun _ => ?_)
    refine z_iconst (v := -1) dX4_tells_21 (by decide) ?_
    refine z_iret dX4_tells_22 rfl ?_
    exact hQ
theorem spM_tells_full {μ : ZMem} {ns i j : Nat} (h : zsM μ ns) (hi : i < ns) (hj : j < ns) (hne : ¬ nI i = nI j) (hf : μ.1 0 20 = nI 6) : Sp layM mX4_tells 2 [.ref 0, .int (nI i), .int (nI j)] μ (some (.int (-3))) μ := by
  refine Sp.mk (L := [some (.ref 0), some (.int (nI i)), some (.int (nI j))]) rfl (by decide +kernel) rfl rfl (fun Q hQ => ?_)
  refine z_aload_n dX4_tells_0 rfl ?_
  refine z_iload_n dX4_tells_1 rfl ?_
  refine z_cV1r (dy := 1) dX4_tells_2 zl_X4_117 zy_X4_isSaying (by first | rfl | assumption) rfl (by decide) (Nat.le_of_ble_eq_true rfl) (sp_isSaying_t h hi rfl) ?_
  refine z_if_eq (tgt := 21) dX4_tells_5 (by decide) (fun hx_ => absurd hx_ (by decide)) (fun _ => ?_)
  refine z_aload_n dX4_tells_8 rfl ?_
  refine z_iload_n dX4_tells_9 rfl ?_
  refine z_cV1r (dy := 1) dX4_tells_10 zl_X4_117 zy_X4_isSaying (by first | rfl | assumption) rfl (by decide) (Nat.le_of_ble_eq_true rfl) (sp_isSaying_t h hj rfl) ?_
  refine z_if_eq (tgt := 21) dX4_tells_13 (by decide) (fun hx_ => absurd hx_ (by decide)) (fun _ => ?_)
  refine z_iload_n dX4_tells_16 rfl ?_
  refine z_iload_n dX4_tells_17 rfl ?_
  refine z_icmp_ne (tgt := 23) dX4_tells_18 (by decide) (fun _ => ?_) (fun hx_ => absurd hx_ hne)
  refine z_aload_n dX4_tells_23 rfl ?_
  refine z_getI dX4_tells_24 zf_X4_102 (by first | rfl | assumption) rfl ?_
  refine z_bipush (v := 6) dX4_tells_27 (by decide) ?_
  refine z_icmp_ne (tgt := 35) dX4_tells_29 (by decide) (fun hx_ => absurd hf hx_) (fun _ => ?_)
  refine z_bipush (v := -3) dX4_tells_32 (by decide) ?_
  refine z_iret dX4_tells_34 rfl ?_
  exact hQ
theorem spM_tells {μ : ZMem} {ns i j f : Nat} (h : zsM μ ns) (hi : i < ns) (hj : j < ns) (hne : ¬ nI i = nI j) (hf : μ.1 0 20 = nI f) (h6 : f < 6) : Sp layM mX4_tells 2 [.ref 0, .int (nI i), .int (nI j)] μ (some (.int (μ.1 0 20 + 1))) (zI (zI (zI μ 11 f (nI i)) 12 f (nI j)) 0 20 (μ.1 0 20 + 1)) := by
  refine Sp.mk (L := [some (.ref 0), some (.int (nI i)), some (.int (nI j))]) rfl (by decide +kernel) rfl rfl (fun Q hQ => ?_)
  refine z_aload_n dX4_tells_0 rfl ?_
  refine z_iload_n dX4_tells_1 rfl ?_
  refine z_cV1r (dy := 1) dX4_tells_2 zl_X4_117 zy_X4_isSaying (by first | rfl | assumption) rfl (by decide) (Nat.le_of_ble_eq_true rfl) (sp_isSaying_t h hi rfl) ?_
  refine z_if_eq (tgt := 21) dX4_tells_5 (by decide) (fun hx_ => absurd hx_ (by decide)) (fun _ => ?_)
  refine z_aload_n dX4_tells_8 rfl ?_
  refine z_iload_n dX4_tells_9 rfl ?_
  refine z_cV1r (dy := 1) dX4_tells_10 zl_X4_117 zy_X4_isSaying (by first | rfl | assumption) rfl (by decide) (Nat.le_of_ble_eq_true rfl) (sp_isSaying_t h hj rfl) ?_
  refine z_if_eq (tgt := 21) dX4_tells_13 (by decide) (fun hx_ => absurd hx_ (by decide)) (fun _ => ?_)
  refine z_iload_n dX4_tells_16 rfl ?_
  refine z_iload_n dX4_tells_17 rfl ?_
  refine z_icmp_ne (tgt := 23) dX4_tells_18 (by decide) (fun _ => ?_) (fun hx_ => absurd hx_ hne)
  refine z_aload_n dX4_tells_23 rfl ?_
  refine z_getI dX4_tells_24 zf_X4_102 (by first | rfl | assumption) rfl ?_
  refine z_bipush (v := 6) dX4_tells_27 (by decide) ?_
  refine z_icmp_ne (tgt := 35) dX4_tells_29 (by decide) (fun _ => ?_) (fun hx_ => absurd hx_ (fun e => by have := (nI_eq (b := 6) (by omega) (by decide)).mp (hf.symm.trans e); omega))
  refine z_aload_n dX4_tells_35 rfl ?_
  refine z_getR dX4_tells_36 zf_X4_42 (by first | rfl | assumption) rfl ?_
  refine z_aload_n dX4_tells_39 rfl ?_
  refine z_getI dX4_tells_40 zf_X4_102 (by first | rfl | assumption) rfl ?_
  refine z_iload_n dX4_tells_43 rfl ?_
  refine z_iast dX4_tells_44 (by first | rfl | assumption) hf h6 (by decide) ?_
  refine z_aload_n dX4_tells_45 rfl ?_
  refine z_getR dX4_tells_46 zf_X4_45 (by first | rfl | assumption) rfl ?_
  refine z_aload_n dX4_tells_49 rfl ?_
  refine z_getI dX4_tells_50 zf_X4_102 (by first | rfl | assumption) rfl ?_
  refine z_iload_n dX4_tells_53 rfl ?_
  refine z_iast dX4_tells_54 (by first | rfl | assumption) hf h6 (by decide) ?_
  refine z_aload_n dX4_tells_55 rfl ?_
  refine z_dup dX4_tells_56 rfl ?_
  refine z_getI dX4_tells_57 zf_X4_102 (by first | rfl | assumption) rfl ?_
  refine z_iconst (v := 1) dX4_tells_60 (by decide) ?_
  refine z_iadd dX4_tells_61 ?_
  refine z_putI dX4_tells_62 zf_X4_102p (by first | rfl | assumption) rfl rfl rfl ?_
  refine z_aload_n dX4_tells_65 rfl ?_
  refine z_getI dX4_tells_66 zf_X4_102 (by first | rfl | assumption) rfl ?_
  refine z_iret dX4_tells_69 rfl ?_
  exact hQ
/-- whether talk tells each of m facts so -/
def zft (wh ta tb : Nat → Int32) (n : Nat) : Nat → Prop
  | 0 => True
  | k + 1 => zft wh ta tb n k ∧ ¬ zfa wh n (ta k) = -9 ∧ zfa wh n (ta k) < zfa wh n (tb k)
theorem spM_fits {μ : ZMem} {n f : Nat} (hm : znM μ n) (hf : μ.1 0 20 = nI f) (h6 : f ≤ 6) {r : Int32} (hr : (zft (μ.1 9) (μ.1 11) (μ.1 12) n f ∧ r = 1) ∨ (¬ zft (μ.1 9) (μ.1 11) (μ.1 12) n f ∧ r = 0)) : Sp layM mX4_fits 1 [.ref 0] μ (some (.int r)) μ := by
  refine Sp.mk (L := [some (.ref 0), none, none, none]) rfl (by decide +kernel) rfl rfl (fun Q hQ => ?_)
  refine z_iconst (v := 1) dX4_fits_0 (by decide) ?_
  refine z_istore_n (i := 1) dX4_fits_1 rfl (by decide) ?_
  refine z_iconst (v := 0) dX4_fits_2 (by decide) ?_
  refine z_istore_n (i := 2) dX4_fits_3 rfl (by decide) ?_
  have key : ∀ k, k ≤ f → ∀ z (x : Int32), ((zft (μ.1 9) (μ.1 11) (μ.1 12) n k ∧ x = 1) ∨ (¬ zft (μ.1 9) (μ.1 11) (μ.1 12) n k ∧ x = 0)) → ZW layM mX4_fits 1 Q 4 [some (.ref 0), some (.int x), some (.int (nI k)), z] [] μ := by
    refine zdown f ?_ ?_
    · intro z x hx
      rcases hx with ⟨h1, rfl⟩ | ⟨h1, rfl⟩
      · have er : r = 1 := hr.elim (fun q => q.2) (fun q => absurd h1 q.1)
        rw [er] at hQ
        refine z_iload_n dX4_fits_4 rfl ?_
        refine z_aload_n dX4_fits_5 rfl ?_
        refine z_getI dX4_fits_6 zf_X4_102 (by first | rfl | assumption) rfl ?_
        refine z_icmp_ge (tgt := 59) dX4_fits_9 (by decide) (fun _ => ?_) (fun hx_ => absurd (by rw [hf]; exact Int32.le_refl _) hx_)
        refine z_iload_n dX4_fits_59 rfl ?_
        refine z_if_eq (tgt := 67) dX4_fits_60 (by decide) (fun hx_ => absurd hx_ (by decide)) (fun _ => ?_)
        refine z_iconst (v := 1) dX4_fits_63 (by decide) ?_
        refine z_goto (tgt := 68) dX4_fits_64 (by decide) ?_
        refine z_iret dX4_fits_68 rfl ?_
        exact hQ
      · have er : r = 0 := hr.elim (fun q => absurd q.1 h1) (fun q => q.2)
        rw [er] at hQ
        refine z_iload_n dX4_fits_4 rfl ?_
        refine z_aload_n dX4_fits_5 rfl ?_
        refine z_getI dX4_fits_6 zf_X4_102 (by first | rfl | assumption) rfl ?_
        refine z_icmp_ge (tgt := 59) dX4_fits_9 (by decide) (fun _ => ?_) (fun hx_ => absurd (by rw [hf]; exact Int32.le_refl _) hx_)
        refine z_iload_n dX4_fits_59 rfl ?_
        refine z_if_eq (tgt := 67) dX4_fits_60 (by decide) (fun _ => ?_) (fun hx_ => absurd (rfl) hx_)
        refine z_iconst (v := 0) dX4_fits_67 (by decide) ?_
        refine z_iret dX4_fits_68 rfl ?_
        exact hQ
    · intro k hk ih z x hx
      refine z_iload_n dX4_fits_4 rfl ?_
      refine z_aload_n dX4_fits_5 rfl ?_
      refine z_getI dX4_fits_6 zf_X4_102 (by first | rfl | assumption) rfl ?_
      refine z_icmp_ge (tgt := 59) dX4_fits_9 (by decide) (fun hx_ => absurd hx_ (by rw [hf]; exact nI_ge hk (by omega))) (fun _ => ?_)
      refine z_aload_n dX4_fits_12 rfl ?_
      refine z_aload_n dX4_fits_13 rfl ?_
      refine z_getR dX4_fits_14 zf_X4_42 (by first | rfl | assumption) rfl ?_
      refine z_iload_n dX4_fits_17 rfl ?_
      refine z_iald dX4_fits_18 (by first | rfl | assumption) rfl (show k < 6 by omega) (by decide) ?_
      refine z_cV1r (dy := 0) dX4_fits_19 zl_X4_176 zy_X4_firstOf (by first | rfl | assumption) rfl (by decide) (Nat.le_of_ble_eq_true rfl) (sp_firstOf hm _) ?_
      refine z_istore_n (i := 3) dX4_fits_22 rfl (by decide) ?_
      refine z_iload_n dX4_fits_23 rfl ?_
      refine z_if_eq (tgt := 51) dX4_fits_24 (by decide) (fun hb24 => ?_) (fun hb24 => ?_)
      · refine z_iconst (v := 0) dX4_fits_51 (by decide) ?_
        refine z_istore_n (i := 1) dX4_fits_52 rfl (by decide) ?_
        refine z_iinc (v := 1) dX4_fits_53 rfl (by decide) (by decide) ?_
        refine z_goto (tgt := 4) dX4_fits_56 (by decide) ?_
        refine ZW.eq (ih (some (.int (zfa (μ.1 9) n (μ.1 11 k)))) _ ?_) rfl (by rw [nI_succ k]; rfl)
        first | exact Or.inl ⟨⟨hx.elim (fun q => q.1) (fun q => absurd q.2 hb24), hb30, Int32.not_le.mp hb44⟩, rfl⟩ | (refine Or.inr ⟨?_, rfl⟩; rintro ⟨q1, q2, q3⟩; first | exact hx.elim (fun q => absurd (q.2.symm.trans hb24) (by decide)) (fun q => q.1 q1) | exact q2 hb30 | exact Int32.not_lt.mpr hb44 q3)
      · refine z_iload_n dX4_fits_27 rfl ?_
        refine z_bipush (v := -9) dX4_fits_28 (by decide) ?_
        refine z_icmp_eq (tgt := 51) dX4_fits_30 (by decide) (fun hb30 => ?_) (fun hb30 => ?_)
        · refine z_iconst (v := 0) dX4_fits_51 (by decide) ?_
          refine z_istore_n (i := 1) dX4_fits_52 rfl (by decide) ?_
          refine z_iinc (v := 1) dX4_fits_53 rfl (by decide) (by decide) ?_
          refine z_goto (tgt := 4) dX4_fits_56 (by decide) ?_
          refine ZW.eq (ih (some (.int (zfa (μ.1 9) n (μ.1 11 k)))) _ ?_) rfl (by rw [nI_succ k]; rfl)
          first | exact Or.inl ⟨⟨hx.elim (fun q => q.1) (fun q => absurd q.2 hb24), hb30, Int32.not_le.mp hb44⟩, rfl⟩ | (refine Or.inr ⟨?_, rfl⟩; rintro ⟨q1, q2, q3⟩; first | exact hx.elim (fun q => absurd (q.2.symm.trans hb24) (by decide)) (fun q => q.1 q1) | exact q2 hb30 | exact Int32.not_lt.mpr hb44 q3)
        · refine z_aload_n dX4_fits_33 rfl ?_
          refine z_aload_n dX4_fits_34 rfl ?_
          refine z_getR dX4_fits_35 zf_X4_45 (by first | rfl | assumption) rfl ?_
          refine z_iload_n dX4_fits_38 rfl ?_
          refine z_iald dX4_fits_39 (by first | rfl | assumption) rfl (show k < 6 by omega) (by decide) ?_
          refine z_cV1r (dy := 0) dX4_fits_40 zl_X4_176 zy_X4_firstOf (by first | rfl | assumption) rfl (by decide) (Nat.le_of_ble_eq_true rfl) (sp_firstOf hm _) ?_
          refine z_iload_n dX4_fits_43 rfl ?_
          refine z_icmp_le (tgt := 51) dX4_fits_44 (by decide) (fun hb44 => ?_) (fun hb44 => ?_)
          · refine z_iconst (v := 0) dX4_fits_51 (by decide) ?_
            refine z_istore_n (i := 1) dX4_fits_52 rfl (by decide) ?_
            refine z_iinc (v := 1) dX4_fits_53 rfl (by decide) (by decide) ?_
            refine z_goto (tgt := 4) dX4_fits_56 (by decide) ?_
            refine ZW.eq (ih (some (.int (zfa (μ.1 9) n (μ.1 11 k)))) _ ?_) rfl (by rw [nI_succ k]; rfl)
            first | exact Or.inl ⟨⟨hx.elim (fun q => q.1) (fun q => absurd q.2 hb24), hb30, Int32.not_le.mp hb44⟩, rfl⟩ | (refine Or.inr ⟨?_, rfl⟩; rintro ⟨q1, q2, q3⟩; first | exact hx.elim (fun q => absurd (q.2.symm.trans hb24) (by decide)) (fun q => q.1 q1) | exact q2 hb30 | exact Int32.not_lt.mpr hb44 q3)
          · refine z_iconst (v := 1) dX4_fits_47 (by decide) ?_
            refine z_goto (tgt := 52) dX4_fits_48 (by decide) ?_
            refine z_istore_n (i := 1) dX4_fits_52 rfl (by decide) ?_
            refine z_iinc (v := 1) dX4_fits_53 rfl (by decide) (by decide) ?_
            refine z_goto (tgt := 4) dX4_fits_56 (by decide) ?_
            refine ZW.eq (ih (some (.int (zfa (μ.1 9) n (μ.1 11 k)))) _ ?_) rfl (by rw [nI_succ k]; rfl)
            first | exact Or.inl ⟨⟨hx.elim (fun q => q.1) (fun q => absurd q.2 hb24), hb30, Int32.not_le.mp hb44⟩, rfl⟩ | (refine Or.inr ⟨?_, rfl⟩; rintro ⟨q1, q2, q3⟩; first | exact hx.elim (fun q => absurd (q.2.symm.trans hb24) (by decide)) (fun q => q.1 q1) | exact q2 hb30 | exact Int32.not_lt.mpr hb44 q3)
  exact key 0 (Nat.zero_le _) none 1 (Or.inl ⟨trivial, rfl⟩)
def ztrM (μ : ZMem) (k : Int64) : ZMem := zJ μ 0 0 (μ.2.1 0 0 + k)
theorem spM_mark_bad {μ : ZMem} {ns : Nat} (h : zsM μ ns) {kind w : Int32} (hb : (kind < 0 ∨ 5 < kind) ∨ (¬ kind < 0 ∧ ¬ 5 < kind) ∧ (w < 0 ∨ nI ns ≤ w)) : Sp layM mX4_mark 2 [.ref 0, .int kind, .int w] μ (some (.int (-1000000))) μ := by
  refine Sp.mk (L := [some (.ref 0), some (.int kind), some (.int w), none, none]) rfl (by decide +kernel) rfl rfl (fun Q hQ => ?_)
  rcases hb with hb | ⟨⟨h1, h2⟩, hb⟩
  · refine z_iload_n dX4_mark_0 rfl ?_
    refine z_iconst (v := 0) dX4_mark_1 (by decide) ?_
    refine z_iconst (v := 5) dX4_mark_2 (by decide) ?_
    refine z_cS3r (dy := 0) dX4_mark_3 zl_X4_57 zy_X4_in (by decide) (Nat.le_of_ble_eq_true rfl) (sp_in_f hb) ?_
    refine z_if_eq (tgt := 17) dX4_mark_6 (by decide) (fun _ => ?_) (fun hx_ => absurd (rfl) hx_)
    refine z_ldc dX4_mark_17 zm_4_112 ?_
    refine z_iret dX4_mark_19 rfl ?_
    exact hQ
  · refine z_iload_n dX4_mark_0 rfl ?_
    refine z_iconst (v := 0) dX4_mark_1 (by decide) ?_
    refine z_iconst (v := 5) dX4_mark_2 (by decide) ?_
    refine z_cS3r (dy := 0) dX4_mark_3 zl_X4_57 zy_X4_in (by decide) (Nat.le_of_ble_eq_true rfl) (sp_in_t h1 h2) ?_
    refine z_if_eq (tgt := 17) dX4_mark_6 (by decide) (fun hx_ => absurd hx_ (by decide)) (fun _ => ?_)
    refine z_aload_n dX4_mark_9 rfl ?_
    refine z_iload_n dX4_mark_10 rfl ?_
    refine z_cV1r (dy := 1) dX4_mark_11 zl_X4_117 zy_X4_isSaying (by first | rfl | assumption) rfl (by decide) (Nat.le_of_ble_eq_true rfl) (sp_isSaying_f h hb) ?_
    refine z_if_ne (tgt := 20) dX4_mark_14 (by decide) (fun hx_ => absurd (rfl) hx_) (fun _ => ?_)
    refine z_ldc dX4_mark_17 zm_4_112 ?_
    refine z_iret dX4_mark_19 rfl ?_
    exact hQ
theorem spM_mark_0 {μ : ZMem} {ns n j : Nat} (h : zsM μ ns) (hm : znM μ n) (hj : j < ns) : Sp layM mX4_mark 2 [.ref 0, .int (nI 0), .int (nI j)] μ (some (.int (μ.1 3 j))) (ztrM μ 1) := by
  have h8 := h.2
  refine Sp.mk (L := [some (.ref 0), some (.int (nI 0)), some (.int (nI j)), none, none]) rfl (by decide +kernel) rfl rfl (fun Q hQ => ?_)
  refine z_iload_n dX4_mark_0 rfl ?_
  refine z_iconst (v := 0) dX4_mark_1 (by decide) ?_
  refine z_iconst (v := 5) dX4_mark_2 (by decide) ?_
  refine z_cS3r (dy := 0) dX4_mark_3 zl_X4_57 zy_X4_in (by decide) (Nat.le_of_ble_eq_true rfl) (sp_in_t (by decide) (by decide)) ?_
  refine z_if_eq (tgt := 17) dX4_mark_6 (by decide) (fun hx_ => absurd hx_ (by decide)) (fun _ => ?_)
  refine z_aload_n dX4_mark_9 rfl ?_
  refine z_iload_n dX4_mark_10 rfl ?_
  refine z_cV1r (dy := 1) dX4_mark_11 zl_X4_117 zy_X4_isSaying (by first | rfl | assumption) rfl (by decide) (Nat.le_of_ble_eq_true rfl) (sp_isSaying_t h hj rfl) ?_
  refine z_if_ne (tgt := 20) dX4_mark_14 (by decide) (fun _ => ?_) (fun hx_ => absurd hx_ (by decide))
  refine z_aload_n dX4_mark_20 rfl ?_
  refine z_getR dX4_mark_21 zf_X4_20 (by first | rfl | assumption) rfl ?_
  refine z_iload_n dX4_mark_24 rfl ?_
  refine z_iald dX4_mark_25 (by first | rfl | assumption) rfl (show j < 16 by omega) (by decide) ?_
  refine z_cS1r (dy := 0) dX4_mark_26 zl_X4_170 zy_X4_manyOf (by decide) (Nat.le_of_ble_eq_true rfl) (sp_manyOf _) ?_
  refine z_istore_n (i := 3) dX4_mark_29 rfl (by decide) ?_
  refine z_aload_n dX4_mark_30 rfl ?_
  refine z_getR dX4_mark_31 zf_X4_17 (by first | rfl | assumption) rfl ?_
  refine z_iload_n dX4_mark_34 rfl ?_
  refine z_iald dX4_mark_35 (by first | rfl | assumption) rfl (show j < 16 by omega) (by decide) ?_
  refine z_aload_n dX4_mark_36 rfl ?_
  refine z_iload_n dX4_mark_37 rfl ?_
  refine z_cV1r (dy := 0) dX4_mark_38 zl_X4_127 zy_X4_oftenOf (by first | rfl | assumption) rfl (by decide) (Nat.le_of_ble_eq_true rfl) (sp_oftenOf hm _) ?_
  refine z_isub dX4_mark_41 ?_
  refine z_istore dX4_mark_42 (by decide) ?_
  refine z_iload_n dX4_mark_44 rfl ?_
  refine z_tsw_in (off := 35) (tgt := 80) dX4_mark_45 (by decide) (by decide) (by decide) (by decide) ?_
  refine z_aload_n dX4_mark_80 rfl ?_
  refine z_dup dX4_mark_81 rfl ?_
  refine z_getJ dX4_mark_82 zf_X4_183 (by first | rfl | assumption) rfl ?_
  refine z_lconst (v := 1) dX4_mark_85 (by decide) ?_
  refine z_ladd dX4_mark_86 ?_
  refine z_putJ dX4_mark_87 zf_X4_183p (by first | rfl | assumption) rfl rfl ?_
  refine z_aload_n dX4_mark_90 rfl ?_
  refine z_getR dX4_mark_91 zf_X4_17 (by first | rfl | assumption) rfl ?_
  refine z_iload_n dX4_mark_94 rfl ?_
  refine z_iald dX4_mark_95 (by first | rfl | assumption) rfl (show j < 16 by omega) (by decide) ?_
  refine z_iret dX4_mark_96 rfl ?_
  exact hQ
theorem spM_mark_1 {μ : ZMem} {ns n j : Nat} (h : zsM μ ns) (hm : znM μ n) (hj : j < ns) : Sp layM mX4_mark 2 [.ref 0, .int (nI 1), .int (nI j)] μ (some (.int (μ.1 3 j + zmany (μ.1 4 j)))) (ztrM μ 11) := by
  have h8 := h.2
  refine Sp.mk (L := [some (.ref 0), some (.int (nI 1)), some (.int (nI j)), none, none]) rfl (by decide +kernel) rfl rfl (fun Q hQ => ?_)
  refine z_iload_n dX4_mark_0 rfl ?_
  refine z_iconst (v := 0) dX4_mark_1 (by decide) ?_
  refine z_iconst (v := 5) dX4_mark_2 (by decide) ?_
  refine z_cS3r (dy := 0) dX4_mark_3 zl_X4_57 zy_X4_in (by decide) (Nat.le_of_ble_eq_true rfl) (sp_in_t (by decide) (by decide)) ?_
  refine z_if_eq (tgt := 17) dX4_mark_6 (by decide) (fun hx_ => absurd hx_ (by decide)) (fun _ => ?_)
  refine z_aload_n dX4_mark_9 rfl ?_
  refine z_iload_n dX4_mark_10 rfl ?_
  refine z_cV1r (dy := 1) dX4_mark_11 zl_X4_117 zy_X4_isSaying (by first | rfl | assumption) rfl (by decide) (Nat.le_of_ble_eq_true rfl) (sp_isSaying_t h hj rfl) ?_
  refine z_if_ne (tgt := 20) dX4_mark_14 (by decide) (fun _ => ?_) (fun hx_ => absurd hx_ (by decide))
  refine z_aload_n dX4_mark_20 rfl ?_
  refine z_getR dX4_mark_21 zf_X4_20 (by first | rfl | assumption) rfl ?_
  refine z_iload_n dX4_mark_24 rfl ?_
  refine z_iald dX4_mark_25 (by first | rfl | assumption) rfl (show j < 16 by omega) (by decide) ?_
  refine z_cS1r (dy := 0) dX4_mark_26 zl_X4_170 zy_X4_manyOf (by decide) (Nat.le_of_ble_eq_true rfl) (sp_manyOf _) ?_
  refine z_istore_n (i := 3) dX4_mark_29 rfl (by decide) ?_
  refine z_aload_n dX4_mark_30 rfl ?_
  refine z_getR dX4_mark_31 zf_X4_17 (by first | rfl | assumption) rfl ?_
  refine z_iload_n dX4_mark_34 rfl ?_
  refine z_iald dX4_mark_35 (by first | rfl | assumption) rfl (show j < 16 by omega) (by decide) ?_
  refine z_aload_n dX4_mark_36 rfl ?_
  refine z_iload_n dX4_mark_37 rfl ?_
  refine z_cV1r (dy := 0) dX4_mark_38 zl_X4_127 zy_X4_oftenOf (by first | rfl | assumption) rfl (by decide) (Nat.le_of_ble_eq_true rfl) (sp_oftenOf hm _) ?_
  refine z_isub dX4_mark_41 ?_
  refine z_istore dX4_mark_42 (by decide) ?_
  refine z_iload_n dX4_mark_44 rfl ?_
  refine z_tsw_in (off := 52) (tgt := 97) dX4_mark_45 (by decide) (by decide) (by decide) (by decide) ?_
  refine z_aload_n dX4_mark_97 rfl ?_
  refine z_dup dX4_mark_98 rfl ?_
  refine z_getJ dX4_mark_99 zf_X4_183 (by first | rfl | assumption) rfl ?_
  refine z_ldc2 dX4_mark_102 zm_4_113 ?_
  refine z_ladd dX4_mark_105 ?_
  refine z_putJ dX4_mark_106 zf_X4_183p (by first | rfl | assumption) rfl rfl ?_
  refine z_aload_n dX4_mark_109 rfl ?_
  refine z_getR dX4_mark_110 zf_X4_17 (by first | rfl | assumption) rfl ?_
  refine z_iload_n dX4_mark_113 rfl ?_
  refine z_iald dX4_mark_114 (by first | rfl | assumption) rfl (show j < 16 by omega) (by decide) ?_
  refine z_iload_n dX4_mark_115 rfl ?_
  refine z_iadd dX4_mark_116 ?_
  refine z_iret dX4_mark_117 rfl ?_
  exact hQ
theorem spM_mark_2 {μ : ZMem} {ns n j : Nat} (h : zsM μ ns) (hm : znM μ n) (hj : j < ns) : Sp layM mX4_mark 2 [.ref 0, .int (nI 2), .int (nI j)] μ (some (.int (μ.1 3 j - zfold (fun k a => if μ.1 9 k = nI j then a + 1 else a) 0 n))) (ztrM μ 101) := by
  have h8 := h.2
  refine Sp.mk (L := [some (.ref 0), some (.int (nI 2)), some (.int (nI j)), none, none]) rfl (by decide +kernel) rfl rfl (fun Q hQ => ?_)
  refine z_iload_n dX4_mark_0 rfl ?_
  refine z_iconst (v := 0) dX4_mark_1 (by decide) ?_
  refine z_iconst (v := 5) dX4_mark_2 (by decide) ?_
  refine z_cS3r (dy := 0) dX4_mark_3 zl_X4_57 zy_X4_in (by decide) (Nat.le_of_ble_eq_true rfl) (sp_in_t (by decide) (by decide)) ?_
  refine z_if_eq (tgt := 17) dX4_mark_6 (by decide) (fun hx_ => absurd hx_ (by decide)) (fun _ => ?_)
  refine z_aload_n dX4_mark_9 rfl ?_
  refine z_iload_n dX4_mark_10 rfl ?_
  refine z_cV1r (dy := 1) dX4_mark_11 zl_X4_117 zy_X4_isSaying (by first | rfl | assumption) rfl (by decide) (Nat.le_of_ble_eq_true rfl) (sp_isSaying_t h hj rfl) ?_
  refine z_if_ne (tgt := 20) dX4_mark_14 (by decide) (fun _ => ?_) (fun hx_ => absurd hx_ (by decide))
  refine z_aload_n dX4_mark_20 rfl ?_
  refine z_getR dX4_mark_21 zf_X4_20 (by first | rfl | assumption) rfl ?_
  refine z_iload_n dX4_mark_24 rfl ?_
  refine z_iald dX4_mark_25 (by first | rfl | assumption) rfl (show j < 16 by omega) (by decide) ?_
  refine z_cS1r (dy := 0) dX4_mark_26 zl_X4_170 zy_X4_manyOf (by decide) (Nat.le_of_ble_eq_true rfl) (sp_manyOf _) ?_
  refine z_istore_n (i := 3) dX4_mark_29 rfl (by decide) ?_
  refine z_aload_n dX4_mark_30 rfl ?_
  refine z_getR dX4_mark_31 zf_X4_17 (by first | rfl | assumption) rfl ?_
  refine z_iload_n dX4_mark_34 rfl ?_
  refine z_iald dX4_mark_35 (by first | rfl | assumption) rfl (show j < 16 by omega) (by decide) ?_
  refine z_aload_n dX4_mark_36 rfl ?_
  refine z_iload_n dX4_mark_37 rfl ?_
  refine z_cV1r (dy := 0) dX4_mark_38 zl_X4_127 zy_X4_oftenOf (by first | rfl | assumption) rfl (by decide) (Nat.le_of_ble_eq_true rfl) (sp_oftenOf hm _) ?_
  refine z_isub dX4_mark_41 ?_
  refine z_istore dX4_mark_42 (by decide) ?_
  refine z_iload_n dX4_mark_44 rfl ?_
  refine z_tsw_in (off := 73) (tgt := 118) dX4_mark_45 (by decide) (by decide) (by decide) (by decide) ?_
  refine z_aload_n dX4_mark_118 rfl ?_
  refine z_dup dX4_mark_119 rfl ?_
  refine z_getJ dX4_mark_120 zf_X4_183 (by first | rfl | assumption) rfl ?_
  refine z_ldc2 dX4_mark_123 zm_4_114 ?_
  refine z_ladd dX4_mark_126 ?_
  refine z_putJ dX4_mark_127 zf_X4_183p (by first | rfl | assumption) rfl rfl ?_
  refine z_iload dX4_mark_130 rfl ?_
  refine z_iret dX4_mark_132 rfl ?_
  exact hQ
theorem spM_mark_3 {μ : ZMem} {ns n j : Nat} (h : zsM μ ns) (hm : znM μ n) (hj : j < ns) : Sp layM mX4_mark 2 [.ref 0, .int (nI 3), .int (nI j)] μ (some (.int (2 * (μ.1 3 j + zmany (μ.1 4 j))))) (ztrM μ 1011) := by
  have h8 := h.2
  refine Sp.mk (L := [some (.ref 0), some (.int (nI 3)), some (.int (nI j)), none, none]) rfl (by decide +kernel) rfl rfl (fun Q hQ => ?_)
  refine z_iload_n dX4_mark_0 rfl ?_
  refine z_iconst (v := 0) dX4_mark_1 (by decide) ?_
  refine z_iconst (v := 5) dX4_mark_2 (by decide) ?_
  refine z_cS3r (dy := 0) dX4_mark_3 zl_X4_57 zy_X4_in (by decide) (Nat.le_of_ble_eq_true rfl) (sp_in_t (by decide) (by decide)) ?_
  refine z_if_eq (tgt := 17) dX4_mark_6 (by decide) (fun hx_ => absurd hx_ (by decide)) (fun _ => ?_)
  refine z_aload_n dX4_mark_9 rfl ?_
  refine z_iload_n dX4_mark_10 rfl ?_
  refine z_cV1r (dy := 1) dX4_mark_11 zl_X4_117 zy_X4_isSaying (by first | rfl | assumption) rfl (by decide) (Nat.le_of_ble_eq_true rfl) (sp_isSaying_t h hj rfl) ?_
  refine z_if_ne (tgt := 20) dX4_mark_14 (by decide) (fun _ => ?_) (fun hx_ => absurd hx_ (by decide))
  refine z_aload_n dX4_mark_20 rfl ?_
  refine z_getR dX4_mark_21 zf_X4_20 (by first | rfl | assumption) rfl ?_
  refine z_iload_n dX4_mark_24 rfl ?_
  refine z_iald dX4_mark_25 (by first | rfl | assumption) rfl (show j < 16 by omega) (by decide) ?_
  refine z_cS1r (dy := 0) dX4_mark_26 zl_X4_170 zy_X4_manyOf (by decide) (Nat.le_of_ble_eq_true rfl) (sp_manyOf _) ?_
  refine z_istore_n (i := 3) dX4_mark_29 rfl (by decide) ?_
  refine z_aload_n dX4_mark_30 rfl ?_
  refine z_getR dX4_mark_31 zf_X4_17 (by first | rfl | assumption) rfl ?_
  refine z_iload_n dX4_mark_34 rfl ?_
  refine z_iald dX4_mark_35 (by first | rfl | assumption) rfl (show j < 16 by omega) (by decide) ?_
  refine z_aload_n dX4_mark_36 rfl ?_
  refine z_iload_n dX4_mark_37 rfl ?_
  refine z_cV1r (dy := 0) dX4_mark_38 zl_X4_127 zy_X4_oftenOf (by first | rfl | assumption) rfl (by decide) (Nat.le_of_ble_eq_true rfl) (sp_oftenOf hm _) ?_
  refine z_isub dX4_mark_41 ?_
  refine z_istore dX4_mark_42 (by decide) ?_
  refine z_iload_n dX4_mark_44 rfl ?_
  refine z_tsw_in (off := 88) (tgt := 133) dX4_mark_45 (by decide) (by decide) (by decide) (by decide) ?_
  refine z_aload_n dX4_mark_133 rfl ?_
  refine z_dup dX4_mark_134 rfl ?_
  refine z_getJ dX4_mark_135 zf_X4_183 (by first | rfl | assumption) rfl ?_
  refine z_ldc2 dX4_mark_138 zm_4_115 ?_
  refine z_ladd dX4_mark_141 ?_
  refine z_putJ dX4_mark_142 zf_X4_183p (by first | rfl | assumption) rfl rfl ?_
  refine z_iconst (v := 2) dX4_mark_145 (by decide) ?_
  refine z_aload_n dX4_mark_146 rfl ?_
  refine z_getR dX4_mark_147 zf_X4_17 (by first | rfl | assumption) rfl ?_
  refine z_iload_n dX4_mark_150 rfl ?_
  refine z_iald dX4_mark_151 (by first | rfl | assumption) rfl (show j < 16 by omega) (by decide) ?_
  refine z_iload_n dX4_mark_152 rfl ?_
  refine z_iadd dX4_mark_153 ?_
  refine z_imul dX4_mark_154 ?_
  refine z_iret dX4_mark_155 rfl ?_
  exact hQ
theorem spM_mark_4 {μ : ZMem} {ns np n j : Nat} (h : zsM μ ns) (hp : zpM μ np) (hm : znM μ n) (hj : j < ns) : Sp layM mX4_mark 2 [.ref 0, .int (nI 4), .int (nI j)] μ (some (.int (μ.1 3 j - zfold (fun k a => if μ.1 9 k = nI j then a + 1 else a) 0 n + zmany (zkn (μ.1 7) (nI j) np)))) (ztrM μ 10101) := by
  have h8 := h.2
  refine Sp.mk (L := [some (.ref 0), some (.int (nI 4)), some (.int (nI j)), none, none]) rfl (by decide +kernel) rfl rfl (fun Q hQ => ?_)
  refine z_iload_n dX4_mark_0 rfl ?_
  refine z_iconst (v := 0) dX4_mark_1 (by decide) ?_
  refine z_iconst (v := 5) dX4_mark_2 (by decide) ?_
  refine z_cS3r (dy := 0) dX4_mark_3 zl_X4_57 zy_X4_in (by decide) (Nat.le_of_ble_eq_true rfl) (sp_in_t (by decide) (by decide)) ?_
  refine z_if_eq (tgt := 17) dX4_mark_6 (by decide) (fun hx_ => absurd hx_ (by decide)) (fun _ => ?_)
  refine z_aload_n dX4_mark_9 rfl ?_
  refine z_iload_n dX4_mark_10 rfl ?_
  refine z_cV1r (dy := 1) dX4_mark_11 zl_X4_117 zy_X4_isSaying (by first | rfl | assumption) rfl (by decide) (Nat.le_of_ble_eq_true rfl) (sp_isSaying_t h hj rfl) ?_
  refine z_if_ne (tgt := 20) dX4_mark_14 (by decide) (fun _ => ?_) (fun hx_ => absurd hx_ (by decide))
  refine z_aload_n dX4_mark_20 rfl ?_
  refine z_getR dX4_mark_21 zf_X4_20 (by first | rfl | assumption) rfl ?_
  refine z_iload_n dX4_mark_24 rfl ?_
  refine z_iald dX4_mark_25 (by first | rfl | assumption) rfl (show j < 16 by omega) (by decide) ?_
  refine z_cS1r (dy := 0) dX4_mark_26 zl_X4_170 zy_X4_manyOf (by decide) (Nat.le_of_ble_eq_true rfl) (sp_manyOf _) ?_
  refine z_istore_n (i := 3) dX4_mark_29 rfl (by decide) ?_
  refine z_aload_n dX4_mark_30 rfl ?_
  refine z_getR dX4_mark_31 zf_X4_17 (by first | rfl | assumption) rfl ?_
  refine z_iload_n dX4_mark_34 rfl ?_
  refine z_iald dX4_mark_35 (by first | rfl | assumption) rfl (show j < 16 by omega) (by decide) ?_
  refine z_aload_n dX4_mark_36 rfl ?_
  refine z_iload_n dX4_mark_37 rfl ?_
  refine z_cV1r (dy := 0) dX4_mark_38 zl_X4_127 zy_X4_oftenOf (by first | rfl | assumption) rfl (by decide) (Nat.le_of_ble_eq_true rfl) (sp_oftenOf hm _) ?_
  refine z_isub dX4_mark_41 ?_
  refine z_istore dX4_mark_42 (by decide) ?_
  refine z_iload_n dX4_mark_44 rfl ?_
  refine z_tsw_in (off := 111) (tgt := 156) dX4_mark_45 (by decide) (by decide) (by decide) (by decide) ?_
  refine z_aload_n dX4_mark_156 rfl ?_
  refine z_dup dX4_mark_157 rfl ?_
  refine z_getJ dX4_mark_158 zf_X4_183 (by first | rfl | assumption) rfl ?_
  refine z_ldc2 dX4_mark_161 zm_4_116 ?_
  refine z_ladd dX4_mark_164 ?_
  refine z_putJ dX4_mark_165 zf_X4_183p (by first | rfl | assumption) rfl rfl ?_
  refine z_iload dX4_mark_168 rfl ?_
  refine z_aload_n dX4_mark_170 rfl ?_
  refine z_iload_n dX4_mark_171 rfl ?_
  refine z_cV1r (dy := 0) dX4_mark_172 zl_X4_123 zy_X4_knownBy (by first | rfl | assumption) rfl (by decide) (Nat.le_of_ble_eq_true rfl) (by refine sp_knownBy (np := np) ?_ (show j < 32 by omega); exact hp) ?_
  refine z_cS1r (dy := 0) dX4_mark_175 zl_X4_170 zy_X4_manyOf (by decide) (Nat.le_of_ble_eq_true rfl) (sp_manyOf _) ?_
  refine z_iadd dX4_mark_178 ?_
  refine z_iret dX4_mark_179 rfl ?_
  exact hQ
theorem spM_mark_5 {μ : ZMem} {ns n j : Nat} (h : zsM μ ns) (hm : znM μ n) (hj : j < ns) : Sp layM mX4_mark 2 [.ref 0, .int (nI 5), .int (nI j)] μ (some (.int (μ.1 3 j + μ.1 9 121))) (ztrM μ 100001) := by
  have h8 := h.2
  refine Sp.mk (L := [some (.ref 0), some (.int (nI 5)), some (.int (nI j)), none, none]) rfl (by decide +kernel) rfl rfl (fun Q hQ => ?_)
  refine z_iload_n dX4_mark_0 rfl ?_
  refine z_iconst (v := 0) dX4_mark_1 (by decide) ?_
  refine z_iconst (v := 5) dX4_mark_2 (by decide) ?_
  refine z_cS3r (dy := 0) dX4_mark_3 zl_X4_57 zy_X4_in (by decide) (Nat.le_of_ble_eq_true rfl) (sp_in_t (by decide) (by decide)) ?_
  refine z_if_eq (tgt := 17) dX4_mark_6 (by decide) (fun hx_ => absurd hx_ (by decide)) (fun _ => ?_)
  refine z_aload_n dX4_mark_9 rfl ?_
  refine z_iload_n dX4_mark_10 rfl ?_
  refine z_cV1r (dy := 1) dX4_mark_11 zl_X4_117 zy_X4_isSaying (by first | rfl | assumption) rfl (by decide) (Nat.le_of_ble_eq_true rfl) (sp_isSaying_t h hj rfl) ?_
  refine z_if_ne (tgt := 20) dX4_mark_14 (by decide) (fun _ => ?_) (fun hx_ => absurd hx_ (by decide))
  refine z_aload_n dX4_mark_20 rfl ?_
  refine z_getR dX4_mark_21 zf_X4_20 (by first | rfl | assumption) rfl ?_
  refine z_iload_n dX4_mark_24 rfl ?_
  refine z_iald dX4_mark_25 (by first | rfl | assumption) rfl (show j < 16 by omega) (by decide) ?_
  refine z_cS1r (dy := 0) dX4_mark_26 zl_X4_170 zy_X4_manyOf (by decide) (Nat.le_of_ble_eq_true rfl) (sp_manyOf _) ?_
  refine z_istore_n (i := 3) dX4_mark_29 rfl (by decide) ?_
  refine z_aload_n dX4_mark_30 rfl ?_
  refine z_getR dX4_mark_31 zf_X4_17 (by first | rfl | assumption) rfl ?_
  refine z_iload_n dX4_mark_34 rfl ?_
  refine z_iald dX4_mark_35 (by first | rfl | assumption) rfl (show j < 16 by omega) (by decide) ?_
  refine z_aload_n dX4_mark_36 rfl ?_
  refine z_iload_n dX4_mark_37 rfl ?_
  refine z_cV1r (dy := 0) dX4_mark_38 zl_X4_127 zy_X4_oftenOf (by first | rfl | assumption) rfl (by decide) (Nat.le_of_ble_eq_true rfl) (sp_oftenOf hm _) ?_
  refine z_isub dX4_mark_41 ?_
  refine z_istore dX4_mark_42 (by decide) ?_
  refine z_iload_n dX4_mark_44 rfl ?_
  refine z_tsw_out (tgt := 180) dX4_mark_45 (by decide) (by decide) ?_
  refine z_aload_n dX4_mark_180 rfl ?_
  refine z_dup dX4_mark_181 rfl ?_
  refine z_getJ dX4_mark_182 zf_X4_183 (by first | rfl | assumption) rfl ?_
  refine z_ldc2 dX4_mark_185 zm_4_117 ?_
  refine z_ladd dX4_mark_188 ?_
  refine z_putJ dX4_mark_189 zf_X4_183p (by first | rfl | assumption) rfl rfl ?_
  refine z_aload_n dX4_mark_192 rfl ?_
  refine z_getR dX4_mark_193 zf_X4_17 (by first | rfl | assumption) rfl ?_
  refine z_iload_n dX4_mark_196 rfl ?_
  refine z_iald dX4_mark_197 (by first | rfl | assumption) rfl (show j < 16 by omega) (by decide) ?_
  refine z_aload_n dX4_mark_198 rfl ?_
  refine z_getR dX4_mark_199 zf_X4_35 (by first | rfl | assumption) rfl ?_
  refine z_bipush (v := 121) dX4_mark_202 (by decide) ?_
  refine z_iald dX4_mark_204 (by first | rfl | assumption) rfl (by first | assumption | omega | decide) (by decide) ?_
  refine z_iadd dX4_mark_205 ?_
  refine z_iret dX4_mark_206 rfl ?_
  exact hQ
theorem spM_keep_bad {μ : ZMem} {i : Int32} (h : i < 0 ∨ 1 < i) : Sp layM mX4_keep 1 [.ref 0, .int i] μ (some (.int (-1))) μ := by
  refine Sp.mk (L := [some (.ref 0), some (.int i), none]) rfl (by decide +kernel) rfl rfl (fun Q hQ => ?_)
  refine z_iload_n dX4_keep_0 rfl ?_
  refine z_iconst (v := 0) dX4_keep_1 (by decide) ?_
  refine z_iconst (v := 1) dX4_keep_2 (by decide) ?_
  refine z_cS3r (dy := 0) dX4_keep_3 zl_X4_57 zy_X4_in (by decide) (Nat.le_of_ble_eq_true rfl) (sp_in_f h) ?_
  refine z_if_ne (tgt := 11) dX4_keep_6 (by decide) (fun hx_ => absurd (rfl) hx_) (fun _ => ?_)
  refine z_iconst (v := -1) dX4_keep_9 (by decide) ?_
  refine z_iret dX4_keep_10 rfl ?_
  exact hQ
theorem spM_back_bad {μ : ZMem} {i : Int32} (h : i < 0 ∨ 1 < i) : Sp layM mX4_back 1 [.ref 0, .int i] μ (some (.int (-1))) μ := by
  refine Sp.mk (L := [some (.ref 0), some (.int i), none]) rfl (by decide +kernel) rfl rfl (fun Q hQ => ?_)
  refine z_iload_n dX4_back_0 rfl ?_
  refine z_iconst (v := 0) dX4_back_1 (by decide) ?_
  refine z_iconst (v := 1) dX4_back_2 (by decide) ?_
  refine z_cS3r (dy := 0) dX4_back_3 zl_X4_57 zy_X4_in (by decide) (Nat.le_of_ble_eq_true rfl) (sp_in_f h) ?_
  refine z_if_ne (tgt := 11) dX4_back_6 (by decide) (fun hx_ => absurd (rfl) hx_) (fun _ => ?_)
  refine z_iconst (v := -1) dX4_back_9 (by decide) ?_
  refine z_iret dX4_back_10 rfl ?_
  exact hQ
/-- the first m of 147 copied from place b on to place a on -/
def zcpy (N : Nat → Int32) (a b m : Nat) : Nat → Int32 := fun i => if a ≤ i ∧ i < a + m then N (b + (i - a)) else N i
theorem zcpy_0 (N : Nat → Int32) (a b : Nat) : zcpy N a b 0 = N := by
  funext i
  unfold zcpy
  rw [if_neg (by omega)]
theorem zcpy_s (N : Nat → Int32) (a b m : Nat) (h : b + 147 ≤ a ∨ a + 147 ≤ b) (hm : m < 147) : upd (zcpy N a b m) (a + m) (zcpy N a b m (b + m)) = zcpy N a b (m + 1) := by
  funext i
  unfold upd zcpy
  by_cases e : i = a + m
  · subst e
    rw [if_pos rfl, if_neg (by omega), if_pos (by omega), show a + m - a = m by omega]
  · rw [if_neg e]
    by_cases h2 : a ≤ i ∧ i < a + m
    · rw [if_pos h2, if_pos (by omega)]
    · rw [if_neg h2, if_neg (by omega)]
theorem spM_keep_0 {μ : ZMem} : Sp layM mX4_keep 1 [.ref 0, .int 0] μ (some (.int (zcpy (μ.1 9) 147 0 147 121))) (zI (zrow μ 9 (zcpy (μ.1 9) 147 0 147)) 10 0 (vp_nar .boolean 1)) := by
  refine Sp.mk (L := [some (.ref 0), some (.int 0), none]) rfl (by decide +kernel) rfl rfl (fun Q hQ => ?_)
  refine z_iload_n dX4_keep_0 rfl ?_
  refine z_iconst (v := 0) dX4_keep_1 (by decide) ?_
  refine z_iconst (v := 1) dX4_keep_2 (by decide) ?_
  refine z_cS3r (dy := 0) dX4_keep_3 zl_X4_57 zy_X4_in (by decide) (Nat.le_of_ble_eq_true rfl) (sp_in_t (by decide) (by decide)) ?_
  refine z_if_ne (tgt := 11) dX4_keep_6 (by decide) (fun _ => ?_) (fun hx_ => absurd hx_ (by decide))
  refine z_iconst (v := 0) dX4_keep_11 (by decide) ?_
  refine z_istore_n (i := 2) dX4_keep_12 rfl (by decide) ?_
  have key := zdown (P := fun k => ZW layM mX4_keep 1 Q 13 [some (.ref 0), some (.int 0), some (.int (nI k))] [] (zrow μ 9 (zcpy (μ.1 9) 147 0 k))) 147 ?_ ?_ 0 (Nat.zero_le _)
  · exact ZW.eq key rfl rfl rfl (by rw [zcpy_0, zrow_self])
  · refine z_iload_n dX4_keep_13 rfl ?_
    refine z_sipush (v := 147) dX4_keep_14 (by decide) ?_
    refine z_icmp_ge (tgt := 46) dX4_keep_17 (by decide) (fun _ => ?_) (fun hx_ => absurd (by decide) hx_)
    refine z_aload_n dX4_keep_46 rfl ?_
    refine z_getR dX4_keep_47 zf_X4_38 (by first | rfl | assumption) rfl ?_
    refine z_iload_n dX4_keep_50 rfl ?_
    refine z_iconst (v := 1) dX4_keep_51 (by decide) ?_
    refine z_zast dX4_keep_52 (by first | rfl | assumption) rfl (by decide) (by decide) ?_
    refine z_aload_n dX4_keep_53 rfl ?_
    refine z_getR dX4_keep_54 zf_X4_35 (by first | rfl | assumption) rfl ?_
    refine z_bipush (v := 121) dX4_keep_57 (by decide) ?_
    refine z_iald dX4_keep_59 (by first | rfl | assumption) rfl (by first | assumption | omega | decide) (by decide) ?_
    refine z_iret dX4_keep_60 rfl ?_
    exact hQ
  · intro k hk ih
    refine z_iload_n dX4_keep_13 rfl ?_
    refine z_sipush (v := 147) dX4_keep_14 (by decide) ?_
    refine z_icmp_ge (tgt := 46) dX4_keep_17 (by decide) (fun hx_ => absurd hx_ (nI_ge (b := 147) (by omega) (by decide))) (fun _ => ?_)
    refine z_aload_n dX4_keep_20 rfl ?_
    refine z_getR dX4_keep_21 zf_X4_35 (by first | rfl | assumption) rfl ?_
    refine z_sipush (v := 147) dX4_keep_24 (by decide) ?_
    refine z_iconst (v := 1) dX4_keep_27 (by decide) ?_
    refine z_iload_n dX4_keep_28 rfl ?_
    refine z_iadd dX4_keep_29 ?_
    refine z_imul dX4_keep_30 ?_
    refine z_iload_n dX4_keep_31 rfl ?_
    refine z_iadd dX4_keep_32 ?_
    refine z_aload_n dX4_keep_33 rfl ?_
    refine z_getR dX4_keep_34 zf_X4_35 (by first | rfl | assumption) rfl ?_
    refine z_iload_n dX4_keep_37 rfl ?_
    refine z_iald dX4_keep_38 (by first | rfl | assumption) rfl (show k < 441 by omega) (by decide) ?_
    refine z_iast dX4_keep_39 (by first | rfl | assumption) (show (147 : Int32) * (1 + 0) + nI k = nI (147 + k) from zix 147 k (by decide)) (by omega) (by decide) ?_
    rw [show (zrow μ 9 (zcpy (μ.1 9) 147 0 k)).1 9 k = zcpy (μ.1 9) 147 0 k (0 + k) by rw [Nat.zero_add]; rfl, zI_rr, zcpy_s _ _ _ _ (by omega) hk]
    refine z_iinc (v := 1) dX4_keep_40 rfl (by decide) (by decide) ?_
    refine z_goto (tgt := 13) dX4_keep_43 (by decide) ?_
    exact ZW.eq ih rfl (by rw [nI_succ k]; rfl)
theorem spM_back_0f {μ : ZMem} (h : μ.1 10 0 = 0) : Sp layM mX4_back 1 [.ref 0, .int 0] μ (some (.int (-2))) μ := by
  refine Sp.mk (L := [some (.ref 0), some (.int 0), none]) rfl (by decide +kernel) rfl rfl (fun Q hQ => ?_)
  refine z_iload_n dX4_back_0 rfl ?_
  refine z_iconst (v := 0) dX4_back_1 (by decide) ?_
  refine z_iconst (v := 1) dX4_back_2 (by decide) ?_
  refine z_cS3r (dy := 0) dX4_back_3 zl_X4_57 zy_X4_in (by decide) (Nat.le_of_ble_eq_true rfl) (sp_in_t (by decide) (by decide)) ?_
  refine z_if_ne (tgt := 11) dX4_back_6 (by decide) (fun _ => ?_) (fun hx_ => absurd hx_ (by decide))
  refine z_aload_n dX4_back_11 rfl ?_
  refine z_getR dX4_back_12 zf_X4_38 (by first | rfl | assumption) rfl ?_
  refine z_iload_n dX4_back_15 rfl ?_
  refine z_zald dX4_back_16 (by first | rfl | assumption) rfl (by decide) (by decide) ?_
  refine z_if_ne (tgt := 23) dX4_back_17 (by decide) (fun hx_ => absurd h hx_) (fun _ => ?_)
  refine z_bipush (v := -2) dX4_back_20 (by decide) ?_
  refine z_iret dX4_back_22 rfl ?_
  exact hQ
theorem spM_back_0 {μ : ZMem} (h : ¬ μ.1 10 0 = 0) : Sp layM mX4_back 1 [.ref 0, .int 0] μ (some (.int (zcpy (μ.1 9) 0 147 147 121))) (zrow μ 9 (zcpy (μ.1 9) 0 147 147)) := by
  refine Sp.mk (L := [some (.ref 0), some (.int 0), none]) rfl (by decide +kernel) rfl rfl (fun Q hQ => ?_)
  refine z_iload_n dX4_back_0 rfl ?_
  refine z_iconst (v := 0) dX4_back_1 (by decide) ?_
  refine z_iconst (v := 1) dX4_back_2 (by decide) ?_
  refine z_cS3r (dy := 0) dX4_back_3 zl_X4_57 zy_X4_in (by decide) (Nat.le_of_ble_eq_true rfl) (sp_in_t (by decide) (by decide)) ?_
  refine z_if_ne (tgt := 11) dX4_back_6 (by decide) (fun _ => ?_) (fun hx_ => absurd hx_ (by decide))
  refine z_aload_n dX4_back_11 rfl ?_
  refine z_getR dX4_back_12 zf_X4_38 (by first | rfl | assumption) rfl ?_
  refine z_iload_n dX4_back_15 rfl ?_
  refine z_zald dX4_back_16 (by first | rfl | assumption) rfl (by decide) (by decide) ?_
  refine z_if_ne (tgt := 23) dX4_back_17 (by decide) (fun _ => ?_) (fun hx_ => absurd hx_ h)
  refine z_iconst (v := 0) dX4_back_23 (by decide) ?_
  refine z_istore_n (i := 2) dX4_back_24 rfl (by decide) ?_
  have key := zdown (P := fun k => ZW layM mX4_back 1 Q 25 [some (.ref 0), some (.int 0), some (.int (nI k))] [] (zrow μ 9 (zcpy (μ.1 9) 0 147 k))) 147 ?_ ?_ 0 (Nat.zero_le _)
  · exact ZW.eq key rfl rfl rfl (by rw [zcpy_0, zrow_self])
  · refine z_iload_n dX4_back_25 rfl ?_
    refine z_sipush (v := 147) dX4_back_26 (by decide) ?_
    refine z_icmp_ge (tgt := 58) dX4_back_29 (by decide) (fun _ => ?_) (fun hx_ => absurd (by decide) hx_)
    refine z_aload_n dX4_back_58 rfl ?_
    refine z_getR dX4_back_59 zf_X4_35 (by first | rfl | assumption) rfl ?_
    refine z_bipush (v := 121) dX4_back_62 (by decide) ?_
    refine z_iald dX4_back_64 (by first | rfl | assumption) rfl (by first | assumption | omega | decide) (by decide) ?_
    refine z_iret dX4_back_65 rfl ?_
    exact hQ
  · intro k hk ih
    refine z_iload_n dX4_back_25 rfl ?_
    refine z_sipush (v := 147) dX4_back_26 (by decide) ?_
    refine z_icmp_ge (tgt := 58) dX4_back_29 (by decide) (fun hx_ => absurd hx_ (nI_ge (b := 147) (by omega) (by decide))) (fun _ => ?_)
    refine z_aload_n dX4_back_32 rfl ?_
    refine z_getR dX4_back_33 zf_X4_35 (by first | rfl | assumption) rfl ?_
    refine z_iload_n dX4_back_36 rfl ?_
    refine z_aload_n dX4_back_37 rfl ?_
    refine z_getR dX4_back_38 zf_X4_35 (by first | rfl | assumption) rfl ?_
    refine z_sipush (v := 147) dX4_back_41 (by decide) ?_
    refine z_iconst (v := 1) dX4_back_44 (by decide) ?_
    refine z_iload_n dX4_back_45 rfl ?_
    refine z_iadd dX4_back_46 ?_
    refine z_imul dX4_back_47 ?_
    refine z_iload_n dX4_back_48 rfl ?_
    refine z_iadd dX4_back_49 ?_
    refine z_iald dX4_back_50 (by first | rfl | assumption) (show (147 : Int32) * (1 + 0) + nI k = nI (147 + k) from zix 147 k (by decide)) (by omega) (by decide) ?_
    refine z_iast dX4_back_51 (by first | rfl | assumption) rfl (show k < 441 by omega) (by decide) ?_
    have hz := zcpy_s (μ.1 9) 0 147 k (by omega) hk
    rw [Nat.zero_add] at hz
    rw [show (zrow μ 9 (zcpy (μ.1 9) 0 147 k)).1 9 (147 + k) = zcpy (μ.1 9) 0 147 k (147 + k) from rfl, zI_rr, hz]
    refine z_iinc (v := 1) dX4_back_52 rfl (by decide) (by decide) ?_
    refine z_goto (tgt := 25) dX4_back_55 (by decide) ?_
    exact ZW.eq ih rfl (by rw [nI_succ k]; rfl)
theorem spM_keep_1 {μ : ZMem} : Sp layM mX4_keep 1 [.ref 0, .int 1] μ (some (.int (zcpy (μ.1 9) 294 0 147 121))) (zI (zrow μ 9 (zcpy (μ.1 9) 294 0 147)) 10 1 (vp_nar .boolean 1)) := by
  refine Sp.mk (L := [some (.ref 0), some (.int 1), none]) rfl (by decide +kernel) rfl rfl (fun Q hQ => ?_)
  refine z_iload_n dX4_keep_0 rfl ?_
  refine z_iconst (v := 0) dX4_keep_1 (by decide) ?_
  refine z_iconst (v := 1) dX4_keep_2 (by decide) ?_
  refine z_cS3r (dy := 0) dX4_keep_3 zl_X4_57 zy_X4_in (by decide) (Nat.le_of_ble_eq_true rfl) (sp_in_t (by decide) (by decide)) ?_
  refine z_if_ne (tgt := 11) dX4_keep_6 (by decide) (fun _ => ?_) (fun hx_ => absurd hx_ (by decide))
  refine z_iconst (v := 0) dX4_keep_11 (by decide) ?_
  refine z_istore_n (i := 2) dX4_keep_12 rfl (by decide) ?_
  have key := zdown (P := fun k => ZW layM mX4_keep 1 Q 13 [some (.ref 0), some (.int 1), some (.int (nI k))] [] (zrow μ 9 (zcpy (μ.1 9) 294 0 k))) 147 ?_ ?_ 0 (Nat.zero_le _)
  · exact ZW.eq key rfl rfl rfl (by rw [zcpy_0, zrow_self])
  · refine z_iload_n dX4_keep_13 rfl ?_
    refine z_sipush (v := 147) dX4_keep_14 (by decide) ?_
    refine z_icmp_ge (tgt := 46) dX4_keep_17 (by decide) (fun _ => ?_) (fun hx_ => absurd (by decide) hx_)
    refine z_aload_n dX4_keep_46 rfl ?_
    refine z_getR dX4_keep_47 zf_X4_38 (by first | rfl | assumption) rfl ?_
    refine z_iload_n dX4_keep_50 rfl ?_
    refine z_iconst (v := 1) dX4_keep_51 (by decide) ?_
    refine z_zast dX4_keep_52 (by first | rfl | assumption) rfl (by decide) (by decide) ?_
    refine z_aload_n dX4_keep_53 rfl ?_
    refine z_getR dX4_keep_54 zf_X4_35 (by first | rfl | assumption) rfl ?_
    refine z_bipush (v := 121) dX4_keep_57 (by decide) ?_
    refine z_iald dX4_keep_59 (by first | rfl | assumption) rfl (by first | assumption | omega | decide) (by decide) ?_
    refine z_iret dX4_keep_60 rfl ?_
    exact hQ
  · intro k hk ih
    refine z_iload_n dX4_keep_13 rfl ?_
    refine z_sipush (v := 147) dX4_keep_14 (by decide) ?_
    refine z_icmp_ge (tgt := 46) dX4_keep_17 (by decide) (fun hx_ => absurd hx_ (nI_ge (b := 147) (by omega) (by decide))) (fun _ => ?_)
    refine z_aload_n dX4_keep_20 rfl ?_
    refine z_getR dX4_keep_21 zf_X4_35 (by first | rfl | assumption) rfl ?_
    refine z_sipush (v := 147) dX4_keep_24 (by decide) ?_
    refine z_iconst (v := 1) dX4_keep_27 (by decide) ?_
    refine z_iload_n dX4_keep_28 rfl ?_
    refine z_iadd dX4_keep_29 ?_
    refine z_imul dX4_keep_30 ?_
    refine z_iload_n dX4_keep_31 rfl ?_
    refine z_iadd dX4_keep_32 ?_
    refine z_aload_n dX4_keep_33 rfl ?_
    refine z_getR dX4_keep_34 zf_X4_35 (by first | rfl | assumption) rfl ?_
    refine z_iload_n dX4_keep_37 rfl ?_
    refine z_iald dX4_keep_38 (by first | rfl | assumption) rfl (show k < 441 by omega) (by decide) ?_
    refine z_iast dX4_keep_39 (by first | rfl | assumption) (show (147 : Int32) * (1 + 1) + nI k = nI (294 + k) from zix 294 k (by decide)) (by omega) (by decide) ?_
    rw [show (zrow μ 9 (zcpy (μ.1 9) 294 0 k)).1 9 k = zcpy (μ.1 9) 294 0 k (0 + k) by rw [Nat.zero_add]; rfl, zI_rr, zcpy_s _ _ _ _ (by omega) hk]
    refine z_iinc (v := 1) dX4_keep_40 rfl (by decide) (by decide) ?_
    refine z_goto (tgt := 13) dX4_keep_43 (by decide) ?_
    exact ZW.eq ih rfl (by rw [nI_succ k]; rfl)
theorem spM_back_1f {μ : ZMem} (h : μ.1 10 1 = 0) : Sp layM mX4_back 1 [.ref 0, .int 1] μ (some (.int (-2))) μ := by
  refine Sp.mk (L := [some (.ref 0), some (.int 1), none]) rfl (by decide +kernel) rfl rfl (fun Q hQ => ?_)
  refine z_iload_n dX4_back_0 rfl ?_
  refine z_iconst (v := 0) dX4_back_1 (by decide) ?_
  refine z_iconst (v := 1) dX4_back_2 (by decide) ?_
  refine z_cS3r (dy := 0) dX4_back_3 zl_X4_57 zy_X4_in (by decide) (Nat.le_of_ble_eq_true rfl) (sp_in_t (by decide) (by decide)) ?_
  refine z_if_ne (tgt := 11) dX4_back_6 (by decide) (fun _ => ?_) (fun hx_ => absurd hx_ (by decide))
  refine z_aload_n dX4_back_11 rfl ?_
  refine z_getR dX4_back_12 zf_X4_38 (by first | rfl | assumption) rfl ?_
  refine z_iload_n dX4_back_15 rfl ?_
  refine z_zald dX4_back_16 (by first | rfl | assumption) rfl (by decide) (by decide) ?_
  refine z_if_ne (tgt := 23) dX4_back_17 (by decide) (fun hx_ => absurd h hx_) (fun _ => ?_)
  refine z_bipush (v := -2) dX4_back_20 (by decide) ?_
  refine z_iret dX4_back_22 rfl ?_
  exact hQ
theorem spM_back_1 {μ : ZMem} (h : ¬ μ.1 10 1 = 0) : Sp layM mX4_back 1 [.ref 0, .int 1] μ (some (.int (zcpy (μ.1 9) 0 294 147 121))) (zrow μ 9 (zcpy (μ.1 9) 0 294 147)) := by
  refine Sp.mk (L := [some (.ref 0), some (.int 1), none]) rfl (by decide +kernel) rfl rfl (fun Q hQ => ?_)
  refine z_iload_n dX4_back_0 rfl ?_
  refine z_iconst (v := 0) dX4_back_1 (by decide) ?_
  refine z_iconst (v := 1) dX4_back_2 (by decide) ?_
  refine z_cS3r (dy := 0) dX4_back_3 zl_X4_57 zy_X4_in (by decide) (Nat.le_of_ble_eq_true rfl) (sp_in_t (by decide) (by decide)) ?_
  refine z_if_ne (tgt := 11) dX4_back_6 (by decide) (fun _ => ?_) (fun hx_ => absurd hx_ (by decide))
  refine z_aload_n dX4_back_11 rfl ?_
  refine z_getR dX4_back_12 zf_X4_38 (by first | rfl | assumption) rfl ?_
  refine z_iload_n dX4_back_15 rfl ?_
  refine z_zald dX4_back_16 (by first | rfl | assumption) rfl (by decide) (by decide) ?_
  refine z_if_ne (tgt := 23) dX4_back_17 (by decide) (fun _ => ?_) (fun hx_ => absurd hx_ h)
  refine z_iconst (v := 0) dX4_back_23 (by decide) ?_
  refine z_istore_n (i := 2) dX4_back_24 rfl (by decide) ?_
  have key := zdown (P := fun k => ZW layM mX4_back 1 Q 25 [some (.ref 0), some (.int 1), some (.int (nI k))] [] (zrow μ 9 (zcpy (μ.1 9) 0 294 k))) 147 ?_ ?_ 0 (Nat.zero_le _)
  · exact ZW.eq key rfl rfl rfl (by rw [zcpy_0, zrow_self])
  · refine z_iload_n dX4_back_25 rfl ?_
    refine z_sipush (v := 147) dX4_back_26 (by decide) ?_
    refine z_icmp_ge (tgt := 58) dX4_back_29 (by decide) (fun _ => ?_) (fun hx_ => absurd (by decide) hx_)
    refine z_aload_n dX4_back_58 rfl ?_
    refine z_getR dX4_back_59 zf_X4_35 (by first | rfl | assumption) rfl ?_
    refine z_bipush (v := 121) dX4_back_62 (by decide) ?_
    refine z_iald dX4_back_64 (by first | rfl | assumption) rfl (by first | assumption | omega | decide) (by decide) ?_
    refine z_iret dX4_back_65 rfl ?_
    exact hQ
  · intro k hk ih
    refine z_iload_n dX4_back_25 rfl ?_
    refine z_sipush (v := 147) dX4_back_26 (by decide) ?_
    refine z_icmp_ge (tgt := 58) dX4_back_29 (by decide) (fun hx_ => absurd hx_ (nI_ge (b := 147) (by omega) (by decide))) (fun _ => ?_)
    refine z_aload_n dX4_back_32 rfl ?_
    refine z_getR dX4_back_33 zf_X4_35 (by first | rfl | assumption) rfl ?_
    refine z_iload_n dX4_back_36 rfl ?_
    refine z_aload_n dX4_back_37 rfl ?_
    refine z_getR dX4_back_38 zf_X4_35 (by first | rfl | assumption) rfl ?_
    refine z_sipush (v := 147) dX4_back_41 (by decide) ?_
    refine z_iconst (v := 1) dX4_back_44 (by decide) ?_
    refine z_iload_n dX4_back_45 rfl ?_
    refine z_iadd dX4_back_46 ?_
    refine z_imul dX4_back_47 ?_
    refine z_iload_n dX4_back_48 rfl ?_
    refine z_iadd dX4_back_49 ?_
    refine z_iald dX4_back_50 (by first | rfl | assumption) (show (147 : Int32) * (1 + 1) + nI k = nI (294 + k) from zix 294 k (by decide)) (by omega) (by decide) ?_
    refine z_iast dX4_back_51 (by first | rfl | assumption) rfl (show k < 441 by omega) (by decide) ?_
    have hz := zcpy_s (μ.1 9) 0 294 k (by omega) hk
    rw [Nat.zero_add] at hz
    rw [show (zrow μ 9 (zcpy (μ.1 9) 0 294 k)).1 9 (294 + k) = zcpy (μ.1 9) 0 294 k (294 + k) from rfl, zI_rr, hz]
    refine z_iinc (v := 1) dX4_back_52 rfl (by decide) (by decide) ?_
    refine z_goto (tgt := 25) dX4_back_55 (by decide) ?_
    exact ZW.eq ih rfl (by rw [nI_succ k]; rfl)

/-! ===== AnswerSquare: what only looks, and the simple deeds ===== -/
theorem sp_thereNow {μ : ZMem} {n : Nat} (h : zmN μ n) (hd : zDu (μ.2.2 0 1)) : Sp layC mX3_thereNow 3 [.ref 0] μ (some (.int (zthere (μ.1 12) (μ.1 13) (μ.1 11 7 + 0) (μ.1 (μ.2.2 0 1) 5) n))) μ := by
  have hl0 := hd.l0
  refine Sp.mk (L := [some (.ref 0)]) rfl (by decide +kernel) rfl rfl (fun Q hQ => ?_)
  refine z_aload_n dX3_thereNow_0 rfl ?_
  refine z_getR dX3_thereNow_1 zf_X3_29 (by first | rfl | assumption) rfl ?_
  refine z_iconst (v := 0) dX3_thereNow_4 (by decide) ?_
  refine z_aload_n dX3_thereNow_5 rfl ?_
  refine z_getM dX3_thereNow_6 zf_X3_19 (by first | rfl | assumption) rfl ?_
  refine z_getI dX3_thereNow_9 zf_X3_137 (by first | rfl | assumption) rfl ?_
  refine z_cV2r (dy := 2) dX3_thereNow_12 zl_X3_185 zy_X1_there (by first | rfl | assumption) rfl (by decide) (Nat.le_of_ble_eq_true rfl) (sp_there h 0 _) ?_
  refine z_iret dX3_thereNow_15 rfl ?_
  exact hQ
theorem spC_clear {μ : ZMem} : Sp layC mX3_clear 0 [.ref 0] μ (some (.int (μ.1 1 1))) (zI μ 1 1 0) := by
  refine Sp.mk (L := [some (.ref 0), none]) rfl (by decide +kernel) rfl rfl (fun Q hQ => ?_)
  refine z_aload_n dX3_clear_0 rfl ?_
  refine z_getR dX3_clear_1 zf_X3_12 (by first | rfl | assumption) rfl ?_
  refine z_getI dX3_clear_4 zf_X3_61 (by first | rfl | assumption) rfl ?_
  refine z_istore_n (i := 1) dX3_clear_7 rfl (by decide) ?_
  refine z_aload_n dX3_clear_8 rfl ?_
  refine z_getR dX3_clear_9 zf_X3_12 (by first | rfl | assumption) rfl ?_
  refine z_iconst (v := 0) dX3_clear_12 (by decide) ?_
  refine z_putI dX3_clear_13 zf_X3_61p (by first | rfl | assumption) rfl rfl rfl ?_
  refine z_iload_n dX3_clear_16 rfl ?_
  refine z_iret dX3_clear_17 rfl ?_
  exact hQ
theorem sp_put_t {μ : ZMem} {t : Nat} (ht : μ.1 1 1 = nI t) (h : t < 200) (c : Int32) : Sp layC mX2_put 0 [.ref 1, .int c] μ (some (.int 1)) (zI (zI μ 2 t c) 1 1 (μ.1 1 1 + 1)) := by
  refine Sp.mk (L := [some (.ref 1), some (.int c)]) rfl (by decide +kernel) rfl rfl (fun Q hQ => ?_)
  refine z_aload_n dX2_put_0 rfl ?_
  refine z_getI dX2_put_1 zf_X2_15 (by first | rfl | assumption) rfl ?_
  refine z_if_lt (tgt := 17) dX2_put_4 (by decide) (fun hx_ => absurd hx_ (by rw [ht]; exact nI_pos (by omega))) (fun _ => ?_)
  refine z_aload_n dX2_put_7 rfl ?_
  refine z_getI dX2_put_8 zf_X2_15 (by first | rfl | assumption) rfl ?_
  refine z_sipush (v := 200) dX2_put_11 (by decide) ?_
  refine z_icmp_lt (tgt := 19) dX2_put_14 (by decide) (fun _ => ?_) (fun hx_ => absurd (by rw [ht]; exact nI_lt (b := 200) h (by decide)) hx_)
  refine z_aload_n dX2_put_19 rfl ?_
  refine z_getR dX2_put_20 zf_X2_9 (by first | rfl | assumption) rfl ?_
  refine z_aload_n dX2_put_23 rfl ?_
  refine z_getI dX2_put_24 zf_X2_15 (by first | rfl | assumption) rfl ?_
  refine z_iload_n dX2_put_27 rfl ?_
  refine z_iast dX2_put_28 (by first | rfl | assumption) ht h (by decide) ?_
  refine z_aload_n dX2_put_29 rfl ?_
  refine z_dup dX2_put_30 rfl ?_
  refine z_getI dX2_put_31 zf_X2_15 (by first | rfl | assumption) rfl ?_
  refine z_iconst (v := 1) dX2_put_34 (by decide) ?_
  refine z_iadd dX2_put_35 ?_
  refine z_putI dX2_put_36 zf_X2_15p (by first | rfl | assumption) rfl rfl rfl ?_
  refine z_iconst (v := 1) dX2_put_39 (by decide) ?_
  refine z_zret dX2_put_40 rfl (by decide) ?_
  exact hQ
theorem sp_put_f {μ : ZMem} (ht : μ.1 1 1 = nI 200) (c : Int32) : Sp layC mX2_put 0 [.ref 1, .int c] μ (some (.int 0)) μ := by
  refine Sp.mk (L := [some (.ref 1), some (.int c)]) rfl (by decide +kernel) rfl rfl (fun Q hQ => ?_)
  refine z_aload_n dX2_put_0 rfl ?_
  refine z_getI dX2_put_1 zf_X2_15 (by first | rfl | assumption) rfl ?_
  refine z_if_lt (tgt := 17) dX2_put_4 (by decide) (fun hx_ => absurd hx_ (by rw [ht]; decide)) (fun _ => ?_)
  refine z_aload_n dX2_put_7 rfl ?_
  refine z_getI dX2_put_8 zf_X2_15 (by first | rfl | assumption) rfl ?_
  refine z_sipush (v := 200) dX2_put_11 (by decide) ?_
  refine z_icmp_lt (tgt := 19) dX2_put_14 (by decide) (fun hx_ => absurd hx_ (by rw [ht]; decide)) (fun _ => ?_)
  refine z_iconst (v := 0) dX2_put_17 (by decide) ?_
  refine z_zret dX2_put_18 rfl (by decide) ?_
  exact hQ
theorem spC_type_bad {μ : ZMem} {c : Int32} (h : c < 0 ∨ 255 < c) : Sp layC mX3_type 1 [.ref 0, .int c] μ (some (.int (-1))) μ := by
  refine Sp.mk (L := [some (.ref 0), some (.int c)]) rfl (by decide +kernel) rfl rfl (fun Q hQ => ?_)
  refine z_iload_n dX3_type_0 rfl ?_
  refine z_if_lt (tgt := 11) dX3_type_1 (by decide) (fun hb1 => ?_) (fun hb1 => ?_)
  · refine z_iconst (v := -1) dX3_type_11 (by decide) ?_
    refine z_iret dX3_type_12 rfl ?_
    exact hQ
  · refine z_iload_n dX3_type_4 rfl ?_
    refine z_sipush (v := 255) dX3_type_5 (by decide) ?_
    refine z_icmp_le (tgt := 13) dX3_type_8 (by decide) (fun hx_ => absurd hx_ (Int32.not_le.mpr (h.resolve_left hb1))) (fun _ => ?_)
    refine z_iconst (v := -1) dX3_type_11 (by decide) ?_
    refine z_iret dX3_type_12 rfl ?_
    exact hQ
theorem spC_type_t {μ : ZMem} {t : Nat} (ht : μ.1 1 1 = nI t) (h : t < 200) {c : Int32} (h0 : ¬ c < 0) (h1 : ¬ 255 < c) : Sp layC mX3_type 1 [.ref 0, .int c] μ (some (.int (μ.1 1 1 + 1))) (zI (zI μ 2 t c) 1 1 (μ.1 1 1 + 1)) := by
  refine Sp.mk (L := [some (.ref 0), some (.int c)]) rfl (by decide +kernel) rfl rfl (fun Q hQ => ?_)
  refine z_iload_n dX3_type_0 rfl ?_
  refine z_if_lt (tgt := 11) dX3_type_1 (by decide) (fun hx_ => absurd hx_ h0) (fun _ => ?_)
  refine z_iload_n dX3_type_4 rfl ?_
  refine z_sipush (v := 255) dX3_type_5 (by decide) ?_
  refine z_icmp_le (tgt := 13) dX3_type_8 (by decide) (fun _ => ?_) (fun hx_ => absurd (Int32.not_lt.mp h1) hx_)
  refine z_aload_n dX3_type_13 rfl ?_
  refine z_getR dX3_type_14 zf_X3_12 (by first | rfl | assumption) rfl ?_
  refine z_iload_n dX3_type_17 rfl ?_
  refine z_cV1r (dy := 0) dX3_type_18 zl_X3_57 zy_X2_put (by first | rfl | assumption) rfl (by decide) (Nat.le_of_ble_eq_true rfl) (sp_put_t ht h c) ?_
  refine z_if_eq (tgt := 34) dX3_type_21 (by decide) (fun hx_ => absurd hx_ (by decide)) (fun _ => ?_)
  refine z_aload_n dX3_type_24 rfl ?_
  refine z_getR dX3_type_25 zf_X3_12 (by first | rfl | assumption) rfl ?_
  refine z_getI dX3_type_28 zf_X3_61 (by first | rfl | assumption) rfl ?_
  refine z_goto (tgt := 36) dX3_type_31 (by decide) ?_
  refine z_iret dX3_type_36 rfl ?_
  exact hQ
theorem spC_type_f {μ : ZMem} (ht : μ.1 1 1 = nI 200) {c : Int32} (h0 : ¬ c < 0) (h1 : ¬ 255 < c) : Sp layC mX3_type 1 [.ref 0, .int c] μ (some (.int (-3))) μ := by
  refine Sp.mk (L := [some (.ref 0), some (.int c)]) rfl (by decide +kernel) rfl rfl (fun Q hQ => ?_)
  refine z_iload_n dX3_type_0 rfl ?_
  refine z_if_lt (tgt := 11) dX3_type_1 (by decide) (fun hx_ => absurd hx_ h0) (fun _ => ?_)
  refine z_iload_n dX3_type_4 rfl ?_
  refine z_sipush (v := 255) dX3_type_5 (by decide) ?_
  refine z_icmp_le (tgt := 13) dX3_type_8 (by decide) (fun _ => ?_) (fun hx_ => absurd (Int32.not_lt.mp h1) hx_)
  refine z_aload_n dX3_type_13 rfl ?_
  refine z_getR dX3_type_14 zf_X3_12 (by first | rfl | assumption) rfl ?_
  refine z_iload_n dX3_type_17 rfl ?_
  refine z_cV1r (dy := 0) dX3_type_18 zl_X3_57 zy_X2_put (by first | rfl | assumption) rfl (by decide) (Nat.le_of_ble_eq_true rfl) (sp_put_f ht c) ?_
  refine z_if_eq (tgt := 34) dX3_type_21 (by decide) (fun _ => ?_) (fun hx_ => absurd (rfl) hx_)
  refine z_bipush (v := -3) dX3_type_34 (by decide) ?_
  refine z_iret dX3_type_36 rfl ?_
  exact hQ
theorem spC_saying_bad {μ : ZMem} {ns : Nat} (h : zdS μ (μ.2.2 0 1) ns) {w : Int32} (hw : w < 0 ∨ nI ns ≤ w) (what : Int32) : Sp layC mX3_saying 1 [.ref 0, .int w, .int what] μ (some (.int (-1))) μ := by
  have hl0 := h.1.l0
  refine Sp.mk (L := [some (.ref 0), some (.int w), some (.int what)]) rfl (by decide +kernel) rfl rfl (fun Q hQ => ?_)
  refine z_aload_n dX3_saying_0 rfl ?_
  refine z_getM dX3_saying_1 zf_X3_19 (by first | rfl | assumption) rfl ?_
  refine z_iload_n dX3_saying_4 rfl ?_
  refine z_cV1r (dy := 0) dX3_saying_5 zl_X3_78 zy_X0_hasSaying (by first | rfl | assumption) rfl (by decide) (Nat.le_of_ble_eq_true rfl) (sp_hasSaying_f h hw) ?_
  refine z_if_ne (tgt := 13) dX3_saying_8 (by decide) (fun hx_ => absurd (rfl) hx_) (fun _ => ?_)
  refine z_iconst (v := -1) dX3_saying_11 (by decide) ?_
  refine z_iret dX3_saying_12 rfl ?_
  exact hQ
theorem spC_saying {μ : ZMem} {ns np n j : Nat} (h : zdS μ (μ.2.2 0 1) ns) (hp : zdP μ (μ.2.2 0 1) np) (hm : zmN μ n) (hj : j < ns) (what : Int32) : Sp layC mX3_saying 1 [.ref 0, .int (nI j), .int what] μ (some (.int (zsel [if zbt (μ.1 (μ.2.2 0 1) 7) (nI j) then 1 else 0, μ.1 ((μ.2.2 0 1) + 1) j, μ.1 ((μ.2.2 0 1) + 2) j, zkn (μ.1 ((μ.2.2 0 1) + 3)) (nI j) np, zfold (fun k a => if μ.1 12 k = nI j then a + 1 else a) 0 n] what (-1)))) μ := by
  have hl0 := h.1.l0
  have hl1 := h.1.l1
  have hl2 := h.1.l2
  have h8 := h.2.2
  refine Sp.mk (L := [some (.ref 0), some (.int (nI j)), some (.int what)]) rfl (by decide +kernel) rfl rfl (fun Q hQ => ?_)
  refine z_aload_n dX3_saying_0 rfl ?_
  refine z_getM dX3_saying_1 zf_X3_19 (by first | rfl | assumption) rfl ?_
  refine z_iload_n dX3_saying_4 rfl ?_
  refine z_cV1r (dy := 0) dX3_saying_5 zl_X3_78 zy_X0_hasSaying (by first | rfl | assumption) rfl (by decide) (Nat.le_of_ble_eq_true rfl) (sp_hasSaying_t h hj rfl) ?_
  refine z_if_ne (tgt := 13) dX3_saying_8 (by decide) (fun _ => ?_) (fun hx_ => absurd hx_ (by decide))
  refine z_iload_n dX3_saying_13 rfl ?_
  rcases zsw_cases 5 what (by decide) with ⟨q, hq, rfl⟩ | ho
  · rw [zsel_at _ _ (by omega)] at hQ
    match q, hq with
    | 0, _ =>
      refine z_tsw_in (off := 34) (tgt := 48) dX3_saying_14 (by decide) (by decide) (by decide) (by decide) ?_
      refine z_aload_n dX3_saying_48 rfl ?_
      refine z_getM dX3_saying_49 zf_X3_19 (by first | rfl | assumption) rfl ?_
      refine z_iload_n dX3_saying_52 rfl ?_
      refine z_cV1r (dy := 0) dX3_saying_53 zl_X3_81 zy_X0_isSound (by first | rfl | assumption) rfl (by decide) (Nat.le_of_ble_eq_true rfl) (sp_isSound h.1 (nI j)) ?_
      refine z_if_eqb (tgt := 63) dX3_saying_56 (by decide) (fun hb56 => ?_) (fun hb56 => ?_)
      · refine z_iconst (v := 0) dX3_saying_63 (by decide) ?_
        refine z_iret dX3_saying_64 rfl ?_
        first | (refine zq hQ ?_; simp [hb56]; done)
      · refine z_iconst (v := 1) dX3_saying_59 (by decide) ?_
        refine z_goto (tgt := 64) dX3_saying_60 (by decide) ?_
        refine z_iret dX3_saying_64 rfl ?_
        first | (refine zq hQ ?_; simp [hb56]; done)
    | 1, _ =>
      refine z_tsw_in (off := 51) (tgt := 65) dX3_saying_14 (by decide) (by decide) (by decide) (by decide) ?_
      refine z_aload_n dX3_saying_65 rfl ?_
      refine z_getM dX3_saying_66 zf_X3_19 (by first | rfl | assumption) rfl ?_
      refine z_getR dX3_saying_69 zf_X3_84 (by first | rfl | assumption) rfl ?_
      refine z_iload_n dX3_saying_72 rfl ?_
      refine z_iald dX3_saying_73 (by first | rfl | assumption) rfl (by first | assumption | omega | decide) (by decide) ?_
      refine z_iret dX3_saying_74 rfl ?_
      exact hQ
    | 2, _ =>
      refine z_tsw_in (off := 61) (tgt := 75) dX3_saying_14 (by decide) (by decide) (by decide) (by decide) ?_
      refine z_aload_n dX3_saying_75 rfl ?_
      refine z_getM dX3_saying_76 zf_X3_19 (by first | rfl | assumption) rfl ?_
      refine z_getR dX3_saying_79 zf_X3_87 (by first | rfl | assumption) rfl ?_
      refine z_iload_n dX3_saying_82 rfl ?_
      refine z_iald dX3_saying_83 (by first | rfl | assumption) rfl (by first | assumption | omega | decide) (by decide) ?_
      refine z_iret dX3_saying_84 rfl ?_
      exact hQ
    | 3, _ =>
      refine z_tsw_in (off := 71) (tgt := 85) dX3_saying_14 (by decide) (by decide) (by decide) (by decide) ?_
      refine z_aload_n dX3_saying_85 rfl ?_
      refine z_getM dX3_saying_86 zf_X3_19 (by first | rfl | assumption) rfl ?_
      refine z_iload_n dX3_saying_89 rfl ?_
      refine z_cV1r (dy := 0) dX3_saying_90 zl_X3_90 zy_X0_knowers (by first | rfl | assumption) rfl (by decide) (Nat.le_of_ble_eq_true rfl) (sp_knowers hp (nI j)) ?_
      refine z_iret dX3_saying_93 rfl ?_
      exact hQ
    | 4, _ =>
      refine z_tsw_in (off := 80) (tgt := 94) dX3_saying_14 (by decide) (by decide) (by decide) (by decide) ?_
      refine z_aload_n dX3_saying_94 rfl ?_
      refine z_getR dX3_saying_95 zf_X3_29 (by first | rfl | assumption) rfl ?_
      refine z_iload_n dX3_saying_98 rfl ?_
      refine z_cV1r (dy := 0) dX3_saying_99 zl_X3_94 zy_X1_timesIn (by first | rfl | assumption) rfl (by decide) (Nat.le_of_ble_eq_true rfl) (sp_timesIn hm (nI j)) ?_
      refine z_iret dX3_saying_102 rfl ?_
      exact hQ
  · rw [zsel_out ho] at hQ
    refine z_tsw_out (tgt := 103) dX3_saying_14 ho (by decide) ?_
    refine z_iconst (v := -1) dX3_saying_103 (by decide) ?_
    refine z_iret dX3_saying_104 rfl ?_
    exact hQ
theorem spC_person_bad {μ : ZMem} {np : Nat} (h : zdP μ (μ.2.2 0 1) np) {w : Int32} (hw : w < 0 ∨ nI np ≤ w) (what : Int32) : Sp layC mX3_person 4 [.ref 0, .int w, .int what] μ (some (.int (-1))) μ := by
  have hl0 := h.1.l0
  refine Sp.mk (L := [some (.ref 0), some (.int w), some (.int what)]) rfl (by decide +kernel) rfl rfl (fun Q hQ => ?_)
  refine z_aload_n dX3_person_0 rfl ?_
  refine z_getM dX3_person_1 zf_X3_19 (by first | rfl | assumption) rfl ?_
  refine z_iload_n dX3_person_4 rfl ?_
  refine z_cV1r (dy := 0) dX3_person_5 zl_X3_97 zy_X0_hasPerson (by first | rfl | assumption) rfl (by decide) (Nat.le_of_ble_eq_true rfl) (sp_hasPerson_f h hw) ?_
  refine z_if_ne (tgt := 13) dX3_person_8 (by decide) (fun hx_ => absurd (rfl) hx_) (fun _ => ?_)
  refine z_iconst (v := -1) dX3_person_11 (by decide) ?_
  refine z_iret dX3_person_12 rfl ?_
  exact hQ
theorem spC_person {μ : ZMem} {ns np n j : Nat} (h : zdS μ (μ.2.2 0 1) ns) (hp : zdP μ (μ.2.2 0 1) np) (hm : zmN μ n) (hj : j < np) (what : Int32) : Sp layC mX3_person 4 [.ref 0, .int (nI j), .int what] μ (some (.int (zsel [μ.1 ((μ.2.2 0 1) + 3) j, μ.1 ((μ.2.2 0 1) + 3) j &&& zan (μ.1 (μ.2.2 0 1) 8) (μ.1 ((μ.2.2 0 1) + 2)) (zthere (μ.1 12) (μ.1 13) (μ.1 11 7 + 0) (μ.1 (μ.2.2 0 1) 5) n) ns, zfold (fun k a => if μ.1 14 k = nI j then a + 1 else a) 0 n] what (-1)))) μ := by
  have hl0 := h.1.l0
  have hl3 := h.1.l3
  have h5 := hp.2.2
  refine Sp.mk (L := [some (.ref 0), some (.int (nI j)), some (.int what)]) rfl (by decide +kernel) rfl rfl (fun Q hQ => ?_)
  refine z_aload_n dX3_person_0 rfl ?_
  refine z_getM dX3_person_1 zf_X3_19 (by first | rfl | assumption) rfl ?_
  refine z_iload_n dX3_person_4 rfl ?_
  refine z_cV1r (dy := 0) dX3_person_5 zl_X3_97 zy_X0_hasPerson (by first | rfl | assumption) rfl (by decide) (Nat.le_of_ble_eq_true rfl) (sp_hasPerson_t hp hj rfl) ?_
  refine z_if_ne (tgt := 13) dX3_person_8 (by decide) (fun _ => ?_) (fun hx_ => absurd hx_ (by decide))
  refine z_iload_n dX3_person_13 rfl ?_
  rcases zsw_cases 3 what (by decide) with ⟨q, hq, rfl⟩ | ho
  · rw [zsel_at _ _ (by omega)] at hQ
    match q, hq with
    | 0, _ =>
      refine z_tsw_in (off := 26) (tgt := 40) dX3_person_14 (by decide) (by decide) (by decide) (by decide) ?_
      refine z_aload_n dX3_person_40 rfl ?_
      refine z_getM dX3_person_41 zf_X3_19 (by first | rfl | assumption) rfl ?_
      refine z_getR dX3_person_44 zf_X3_100 (by first | rfl | assumption) rfl ?_
      refine z_iload_n dX3_person_47 rfl ?_
      refine z_iald dX3_person_48 (by first | rfl | assumption) rfl (by first | assumption | omega | decide) (by decide) ?_
      refine z_iret dX3_person_49 rfl ?_
      exact hQ
    | 1, _ =>
      refine z_tsw_in (off := 36) (tgt := 50) dX3_person_14 (by decide) (by decide) (by decide) (by decide) ?_
      refine z_aload_n dX3_person_50 rfl ?_
      refine z_getM dX3_person_51 zf_X3_19 (by first | rfl | assumption) rfl ?_
      refine z_getR dX3_person_54 zf_X3_100 (by first | rfl | assumption) rfl ?_
      refine z_iload_n dX3_person_57 rfl ?_
      refine z_iald dX3_person_58 (by first | rfl | assumption) rfl (by first | assumption | omega | decide) (by decide) ?_
      refine z_aload_n dX3_person_59 rfl ?_
      refine z_getM dX3_person_60 zf_X3_19 (by first | rfl | assumption) rfl ?_
      refine z_aload_n dX3_person_63 rfl ?_
      refine z_cV0r (dy := 3) dX3_person_64 zl_X3_103 zy_X3_thereNow (by first | rfl | assumption) rfl (by decide) (Nat.le_of_ble_eq_true rfl) (sp_thereNow hm h.1) ?_
      refine z_cV1r (dy := 2) dX3_person_67 zl_X3_107 zy_X0_answering (by first | rfl | assumption) rfl (by decide) (Nat.le_of_ble_eq_true rfl) (sp_answering h _) ?_
      refine z_iand dX3_person_70 ?_
      refine z_iret dX3_person_71 rfl ?_
      exact hQ
    | 2, _ =>
      refine z_tsw_in (off := 58) (tgt := 72) dX3_person_14 (by decide) (by decide) (by decide) (by decide) ?_
      refine z_aload_n dX3_person_72 rfl ?_
      refine z_getR dX3_person_73 zf_X3_29 (by first | rfl | assumption) rfl ?_
      refine z_iload_n dX3_person_76 rfl ?_
      refine z_cV1r (dy := 0) dX3_person_77 zl_X3_110 zy_X1_timesBy (by first | rfl | assumption) rfl (by decide) (Nat.le_of_ble_eq_true rfl) (sp_timesBy hm (nI j)) ?_
      refine z_iret dX3_person_80 rfl ?_
      exact hQ
  · rw [zsel_out ho] at hQ
    refine z_tsw_out (tgt := 81) dX3_person_14 ho (by decide) ?_
    refine z_iconst (v := -1) dX3_person_81 (by decide) ?_
    refine z_iret dX3_person_82 rfl ?_
    exact hQ
theorem spC_talk_bad {μ : ZMem} {n : Nat} (h : zmN μ n) {w : Int32} (hw : w < 0 ∨ nI n ≤ w) (what : Int32) : Sp layC mX3_talk 2 [.ref 0, .int w, .int what] μ (some (.int (-1))) μ := by
  refine Sp.mk (L := [some (.ref 0), some (.int w), some (.int what)]) rfl (by decide +kernel) rfl rfl (fun Q hQ => ?_)
  refine z_aload_n dX3_talk_0 rfl ?_
  refine z_getR dX3_talk_1 zf_X3_29 (by first | rfl | assumption) rfl ?_
  refine z_iload_n dX3_talk_4 rfl ?_
  refine z_cV1r (dy := 0) dX3_talk_5 zl_X3_113 zy_X1_has (by first | rfl | assumption) rfl (by decide) (Nat.le_of_ble_eq_true rfl) (sp_has_f h hw) ?_
  refine z_if_ne (tgt := 13) dX3_talk_8 (by decide) (fun hx_ => absurd (rfl) hx_) (fun _ => ?_)
  refine z_iconst (v := -1) dX3_talk_11 (by decide) ?_
  refine z_iret dX3_talk_12 rfl ?_
  exact hQ
theorem spC_talk {μ : ZMem} {n k : Nat} (hd : zDu (μ.2.2 0 1)) (h : zmN μ n) (hk : k < n) (what : Int32) : Sp layC mX3_talk 2 [.ref 0, .int (nI k), .int what] μ (some (.int (zsel [μ.1 12 k, μ.1 13 k, μ.1 14 k, μ.1 15 k, μ.1 16 k, μ.1 17 k, if zfa (μ.1 15) n (nI k) = -9 then 1 else 0, if μ.1 11 7 + 0 - μ.1 13 k ≤ μ.1 (μ.2.2 0 1) 5 then 1 else 0] what (-1)))) μ := by
  have hl0 := hd.l0
  have h30 := h.2
  refine Sp.mk (L := [some (.ref 0), some (.int (nI k)), some (.int what)]) rfl (by decide +kernel) rfl rfl (fun Q hQ => ?_)
  refine z_aload_n dX3_talk_0 rfl ?_
  refine z_getR dX3_talk_1 zf_X3_29 (by first | rfl | assumption) rfl ?_
  refine z_iload_n dX3_talk_4 rfl ?_
  refine z_cV1r (dy := 0) dX3_talk_5 zl_X3_113 zy_X1_has (by first | rfl | assumption) rfl (by decide) (Nat.le_of_ble_eq_true rfl) (sp_has_t h hk rfl) ?_
  refine z_if_ne (tgt := 13) dX3_talk_8 (by decide) (fun _ => ?_) (fun hx_ => absurd hx_ (by decide))
  refine z_iload_n dX3_talk_13 rfl ?_
  rcases zsw_cases 8 what (by decide) with ⟨q, hq, rfl⟩ | ho
  · rw [zsel_at _ _ (by omega)] at hQ
    match q, hq with
    | 0, _ =>
      refine z_tsw_in (off := 46) (tgt := 60) dX3_talk_14 (by decide) (by decide) (by decide) (by decide) ?_
      refine z_aload_n dX3_talk_60 rfl ?_
      refine z_getR dX3_talk_61 zf_X3_29 (by first | rfl | assumption) rfl ?_
      refine z_getR dX3_talk_64 zf_X3_116 (by first | rfl | assumption) rfl ?_
      refine z_iload_n dX3_talk_67 rfl ?_
      refine z_iald dX3_talk_68 (by first | rfl | assumption) rfl (by first | assumption | omega | decide) (by decide) ?_
      refine z_iret dX3_talk_69 rfl ?_
      exact hQ
    | 1, _ =>
      refine z_tsw_in (off := 56) (tgt := 70) dX3_talk_14 (by decide) (by decide) (by decide) (by decide) ?_
      refine z_aload_n dX3_talk_70 rfl ?_
      refine z_getR dX3_talk_71 zf_X3_29 (by first | rfl | assumption) rfl ?_
      refine z_getR dX3_talk_74 zf_X3_119 (by first | rfl | assumption) rfl ?_
      refine z_iload_n dX3_talk_77 rfl ?_
      refine z_iald dX3_talk_78 (by first | rfl | assumption) rfl (by first | assumption | omega | decide) (by decide) ?_
      refine z_iret dX3_talk_79 rfl ?_
      exact hQ
    | 2, _ =>
      refine z_tsw_in (off := 66) (tgt := 80) dX3_talk_14 (by decide) (by decide) (by decide) (by decide) ?_
      refine z_aload_n dX3_talk_80 rfl ?_
      refine z_getR dX3_talk_81 zf_X3_29 (by first | rfl | assumption) rfl ?_
      refine z_getR dX3_talk_84 zf_X3_122 (by first | rfl | assumption) rfl ?_
      refine z_iload_n dX3_talk_87 rfl ?_
      refine z_iald dX3_talk_88 (by first | rfl | assumption) rfl (by first | assumption | omega | decide) (by decide) ?_
      refine z_iret dX3_talk_89 rfl ?_
      exact hQ
    | 3, _ =>
      refine z_tsw_in (off := 76) (tgt := 90) dX3_talk_14 (by decide) (by decide) (by decide) (by decide) ?_
      refine z_aload_n dX3_talk_90 rfl ?_
      refine z_getR dX3_talk_91 zf_X3_29 (by first | rfl | assumption) rfl ?_
      refine z_getR dX3_talk_94 zf_X3_125 (by first | rfl | assumption) rfl ?_
      refine z_iload_n dX3_talk_97 rfl ?_
      refine z_iald dX3_talk_98 (by first | rfl | assumption) rfl (by first | assumption | omega | decide) (by decide) ?_
      refine z_iret dX3_talk_99 rfl ?_
      exact hQ
    | 4, _ =>
      refine z_tsw_in (off := 86) (tgt := 100) dX3_talk_14 (by decide) (by decide) (by decide) (by decide) ?_
      refine z_aload_n dX3_talk_100 rfl ?_
      refine z_getR dX3_talk_101 zf_X3_29 (by first | rfl | assumption) rfl ?_
      refine z_getR dX3_talk_104 zf_X3_128 (by first | rfl | assumption) rfl ?_
      refine z_iload_n dX3_talk_107 rfl ?_
      refine z_iald dX3_talk_108 (by first | rfl | assumption) rfl (by first | assumption | omega | decide) (by decide) ?_
      refine z_iret dX3_talk_109 rfl ?_
      exact hQ
    | 5, _ =>
      refine z_tsw_in (off := 96) (tgt := 110) dX3_talk_14 (by decide) (by decide) (by decide) (by decide) ?_
      refine z_aload_n dX3_talk_110 rfl ?_
      refine z_getR dX3_talk_111 zf_X3_29 (by first | rfl | assumption) rfl ?_
      refine z_getR dX3_talk_114 zf_X3_131 (by first | rfl | assumption) rfl ?_
      refine z_iload_n dX3_talk_117 rfl ?_
      refine z_iald dX3_talk_118 (by first | rfl | assumption) rfl (by first | assumption | omega | decide) (by decide) ?_
      refine z_iret dX3_talk_119 rfl ?_
      exact hQ
    | 6, _ =>
      refine z_tsw_in (off := 106) (tgt := 120) dX3_talk_14 (by decide) (by decide) (by decide) (by decide) ?_
      refine z_aload_n dX3_talk_120 rfl ?_
      refine z_getR dX3_talk_121 zf_X3_29 (by first | rfl | assumption) rfl ?_
      refine z_iload_n dX3_talk_124 rfl ?_
      refine z_cV1r (dy := 1) dX3_talk_125 zl_X3_134 zy_X1_isOpen (by first | rfl | assumption) rfl (by decide) (Nat.le_of_ble_eq_true rfl) (sp_isOpen h (nI k)) ?_
      refine z_if_eqb (tgt := 135) dX3_talk_128 (by decide) (fun hb128 => ?_) (fun hb128 => ?_)
      · refine z_iconst (v := 0) dX3_talk_135 (by decide) ?_
        refine z_iret dX3_talk_136 rfl ?_
        refine zq hQ ?_
        simp [hb128]
      · refine z_iconst (v := 1) dX3_talk_131 (by decide) ?_
        refine z_goto (tgt := 136) dX3_talk_132 (by decide) ?_
        refine z_iret dX3_talk_136 rfl ?_
        refine zq hQ ?_
        simp [hb128]
    | 7, _ =>
      refine z_tsw_in (off := 123) (tgt := 137) dX3_talk_14 (by decide) (by decide) (by decide) (by decide) ?_
      refine z_aload_n dX3_talk_137 rfl ?_
      refine z_getR dX3_talk_138 zf_X3_29 (by first | rfl | assumption) rfl ?_
      refine z_iload_n dX3_talk_141 rfl ?_
      refine z_iconst (v := 0) dX3_talk_142 (by decide) ?_
      refine z_aload_n dX3_talk_143 rfl ?_
      refine z_getM dX3_talk_144 zf_X3_19 (by first | rfl | assumption) rfl ?_
      refine z_getI dX3_talk_147 zf_X3_137 (by first | rfl | assumption) rfl ?_
      refine z_cV3r (dy := 1) dX3_talk_150 zl_X3_140 zy_X1_isThere (by first | rfl | assumption) rfl (by decide) (Nat.le_of_ble_eq_true rfl) (sp_isThere h hk 0 _) ?_
      refine z_if_eqb (tgt := 160) dX3_talk_153 (by decide) (fun hb153 => ?_) (fun hb153 => ?_)
      · refine z_iconst (v := 0) dX3_talk_160 (by decide) ?_
        refine z_iret dX3_talk_161 rfl ?_
        first | (rw [show ([μ.1 12 k, μ.1 13 k, μ.1 14 k, μ.1 15 k, μ.1 16 k, μ.1 17 k, if zfa (μ.1 15) n (nI k) = -9 then 1 else 0, if μ.1 11 7 + 0 - μ.1 13 k ≤ μ.1 (μ.2.2 0 1) 5 then 1 else 0] : List Int32).getD 7 (-1) = (if μ.1 11 7 + 0 - μ.1 13 k ≤ μ.1 (μ.2.2 0 1) 5 then 1 else 0) from rfl] at hQ; first | (rw [if_pos hb153] at hQ; exact hQ) | (rw [if_neg hb153] at hQ; exact hQ))
      · refine z_iconst (v := 1) dX3_talk_156 (by decide) ?_
        refine z_goto (tgt := 161) dX3_talk_157 (by decide) ?_
        refine z_iret dX3_talk_161 rfl ?_
        first | (rw [show ([μ.1 12 k, μ.1 13 k, μ.1 14 k, μ.1 15 k, μ.1 16 k, μ.1 17 k, if zfa (μ.1 15) n (nI k) = -9 then 1 else 0, if μ.1 11 7 + 0 - μ.1 13 k ≤ μ.1 (μ.2.2 0 1) 5 then 1 else 0] : List Int32).getD 7 (-1) = (if μ.1 11 7 + 0 - μ.1 13 k ≤ μ.1 (μ.2.2 0 1) 5 then 1 else 0) from rfl] at hQ; first | (rw [if_pos hb153] at hQ; exact hQ) | (rw [if_neg hb153] at hQ; exact hQ))
  · rw [zsel_out ho] at hQ
    refine z_tsw_out (tgt := 162) dX3_talk_14 ho (by decide) ?_
    refine z_iconst (v := -1) dX3_talk_162 (by decide) ?_
    refine z_iret dX3_talk_163 rfl ?_
    exact hQ
theorem spC_hears_bad {μ : ZMem} {ns : Nat} (h : zdS μ (μ.2.2 0 1) ns) {w : Int32} (hw : (w < 0 ∨ nI ns ≤ w) ∨ ∃ j, j < ns ∧ w = nI j ∧ ¬ zbt (μ.1 (μ.2.2 0 1) 7) w) : Sp layC mX3_hears 3 [.ref 0, .int w] μ (some (.int (-1))) μ := by
  have hl0 := h.1.l0
  refine Sp.mk (L := [some (.ref 0), some (.int w)]) rfl (by decide +kernel) rfl rfl (fun Q hQ => ?_)
  rcases hw with hw | ⟨j, hj, hw, hs⟩
  · refine z_aload_n dX3_hears_0 rfl ?_
    refine z_getM dX3_hears_1 zf_X3_19 (by first | rfl | assumption) rfl ?_
    refine z_iload_n dX3_hears_4 rfl ?_
    refine z_cV1r (dy := 0) dX3_hears_5 zl_X3_78 zy_X0_hasSaying (by first | rfl | assumption) rfl (by decide) (Nat.le_of_ble_eq_true rfl) (sp_hasSaying_f h hw) ?_
    refine z_if_eq (tgt := 22) dX3_hears_8 (by decide) (fun _ => ?_) (fun hx_ => absurd (rfl) hx_)
    refine z_iconst (v := -1) dX3_hears_22 (by decide) ?_
    refine z_iret dX3_hears_23 rfl ?_
    exact hQ
  · refine z_aload_n dX3_hears_0 rfl ?_
    refine z_getM dX3_hears_1 zf_X3_19 (by first | rfl | assumption) rfl ?_
    refine z_iload_n dX3_hears_4 rfl ?_
    refine z_cV1r (dy := 0) dX3_hears_5 zl_X3_78 zy_X0_hasSaying (by first | rfl | assumption) rfl (by decide) (Nat.le_of_ble_eq_true rfl) (sp_hasSaying_t h hj hw) ?_
    refine z_if_eq (tgt := 22) dX3_hears_8 (by decide) (fun hx_ => absurd hx_ (by decide)) (fun _ => ?_)
    refine z_aload_n dX3_hears_11 rfl ?_
    refine z_getM dX3_hears_12 zf_X3_19 (by first | rfl | assumption) rfl ?_
    refine z_iload_n dX3_hears_15 rfl ?_
    refine z_cV1r (dy := 0) dX3_hears_16 zl_X3_81 zy_X0_isSound (by first | rfl | assumption) rfl (by decide) (Nat.le_of_ble_eq_true rfl) (sp_isSound h.1 w) ?_
    rw [if_neg hs]
    refine z_if_ne (tgt := 24) dX3_hears_19 (by decide) (fun hx_ => absurd (rfl) hx_) (fun _ => ?_)
    refine z_iconst (v := -1) dX3_hears_22 (by decide) ?_
    refine z_iret dX3_hears_23 rfl ?_
    exact hQ
theorem spC_hears_full {μ : ZMem} {ns j : Nat} (h : zdS μ (μ.2.2 0 1) ns) (hm : zmN μ 30) (hj : j < ns) (hs : zbt (μ.1 (μ.2.2 0 1) 7) (nI j)) : Sp layC mX3_hears 3 [.ref 0, .int (nI j)] μ (some (.int (-3))) μ := by
  have hl0 := h.1.l0
  refine Sp.mk (L := [some (.ref 0), some (.int (nI j))]) rfl (by decide +kernel) rfl rfl (fun Q hQ => ?_)
  refine z_aload_n dX3_hears_0 rfl ?_
  refine z_getM dX3_hears_1 zf_X3_19 (by first | rfl | assumption) rfl ?_
  refine z_iload_n dX3_hears_4 rfl ?_
  refine z_cV1r (dy := 0) dX3_hears_5 zl_X3_78 zy_X0_hasSaying (by first | rfl | assumption) rfl (by decide) (Nat.le_of_ble_eq_true rfl) (sp_hasSaying_t h hj rfl) ?_
  refine z_if_eq (tgt := 22) dX3_hears_8 (by decide) (fun hx_ => absurd hx_ (by decide)) (fun _ => ?_)
  refine z_aload_n dX3_hears_11 rfl ?_
  refine z_getM dX3_hears_12 zf_X3_19 (by first | rfl | assumption) rfl ?_
  refine z_iload_n dX3_hears_15 rfl ?_
  refine z_cV1r (dy := 0) dX3_hears_16 zl_X3_81 zy_X0_isSound (by first | rfl | assumption) rfl (by decide) (Nat.le_of_ble_eq_true rfl) (sp_isSound h.1 (nI j)) ?_
  rw [if_pos hs]
  refine z_if_ne (tgt := 24) dX3_hears_19 (by decide) (fun _ => ?_) (fun hx_ => absurd hx_ (by decide))
  refine z_aload_n dX3_hears_24 rfl ?_
  refine z_getR dX3_hears_25 zf_X3_29 (by first | rfl | assumption) rfl ?_
  refine z_iload_n dX3_hears_28 rfl ?_
  refine z_bipush (v := -9) dX3_hears_29 (by decide) ?_
  refine z_bipush (v := -9) dX3_hears_31 (by decide) ?_
  refine z_cV3r (dy := 2) dX3_hears_33 zl_X3_144 zy_X1_add (by first | rfl | assumption) rfl (by decide) (Nat.le_of_ble_eq_true rfl) (sp_add_f hm _ _ _) ?_
  refine z_if_eq (tgt := 51) dX3_hears_36 (by decide) (fun _ => ?_) (fun hx_ => absurd (rfl) hx_)
  refine z_bipush (v := -3) dX3_hears_51 (by decide) ?_
  refine z_iret dX3_hears_53 rfl ?_
  exact hQ
theorem spC_hears {μ : ZMem} {ns n j : Nat} (h : zdS μ (μ.2.2 0 1) ns) (hm : zmN μ n) (hn : n < 30) (hj : j < ns) (hs : zbt (μ.1 (μ.2.2 0 1) 7) (nI j)) : Sp layC mX3_hears 3 [.ref 0, .int (nI j)] μ (some (.int (μ.1 11 6 + 1 - 1))) (zadd μ n (nI j) (-9) (-9) (μ.1 11 6) 0) := by
  have hl0 := h.1.l0
  refine Sp.mk (L := [some (.ref 0), some (.int (nI j))]) rfl (by decide +kernel) rfl rfl (fun Q hQ => ?_)
  refine z_aload_n dX3_hears_0 rfl ?_
  refine z_getM dX3_hears_1 zf_X3_19 (by first | rfl | assumption) rfl ?_
  refine z_iload_n dX3_hears_4 rfl ?_
  refine z_cV1r (dy := 0) dX3_hears_5 zl_X3_78 zy_X0_hasSaying (by first | rfl | assumption) rfl (by decide) (Nat.le_of_ble_eq_true rfl) (sp_hasSaying_t h hj rfl) ?_
  refine z_if_eq (tgt := 22) dX3_hears_8 (by decide) (fun hx_ => absurd hx_ (by decide)) (fun _ => ?_)
  refine z_aload_n dX3_hears_11 rfl ?_
  refine z_getM dX3_hears_12 zf_X3_19 (by first | rfl | assumption) rfl ?_
  refine z_iload_n dX3_hears_15 rfl ?_
  refine z_cV1r (dy := 0) dX3_hears_16 zl_X3_81 zy_X0_isSound (by first | rfl | assumption) rfl (by decide) (Nat.le_of_ble_eq_true rfl) (sp_isSound h.1 (nI j)) ?_
  rw [if_pos hs]
  refine z_if_ne (tgt := 24) dX3_hears_19 (by decide) (fun _ => ?_) (fun hx_ => absurd hx_ (by decide))
  refine z_aload_n dX3_hears_24 rfl ?_
  refine z_getR dX3_hears_25 zf_X3_29 (by first | rfl | assumption) rfl ?_
  refine z_iload_n dX3_hears_28 rfl ?_
  refine z_bipush (v := -9) dX3_hears_29 (by decide) ?_
  refine z_bipush (v := -9) dX3_hears_31 (by decide) ?_
  refine z_cV3r (dy := 2) dX3_hears_33 zl_X3_144 zy_X1_add (by first | rfl | assumption) rfl (by decide) (Nat.le_of_ble_eq_true rfl) (sp_add_s hm hn _ _) ?_
  refine z_if_eq (tgt := 51) dX3_hears_36 (by decide) (fun hx_ => absurd hx_ (by decide)) (fun _ => ?_)
  refine z_aload_n dX3_hears_39 rfl ?_
  refine z_getR dX3_hears_40 zf_X3_29 (by first | rfl | assumption) rfl ?_
  refine z_getI dX3_hears_43 zf_X3_147 (by first | rfl | assumption) rfl ?_
  refine z_iconst (v := 1) dX3_hears_46 (by decide) ?_
  refine z_isub dX3_hears_47 ?_
  refine z_goto (tgt := 53) dX3_hears_48 (by decide) ?_
  refine z_iret dX3_hears_53 rfl ?_
  exact hQ
theorem spC_hour_f {μ : ZMem} (h : (99 : Int32) ≤ μ.1 11 7) : Sp layC mX3_hour 3 [.ref 0] μ (some (.int (-2))) μ := by
  refine Sp.mk (L := [some (.ref 0)]) rfl (by decide +kernel) rfl rfl (fun Q hQ => ?_)
  refine z_aload_n dX3_hour_0 rfl ?_
  refine z_getR dX3_hour_1 zf_X3_29 (by first | rfl | assumption) rfl ?_
  refine z_cV0r (dy := 2) dX3_hour_4 zl_X3_154 zy_X1_passHour (by first | rfl | assumption) rfl (by decide) (Nat.le_of_ble_eq_true rfl) (sp_passHour_f h) ?_
  refine z_if_eq (tgt := 20) dX3_hour_7 (by decide) (fun _ => ?_) (fun hx_ => absurd (rfl) hx_)
  refine z_bipush (v := -2) dX3_hour_20 (by decide) ?_
  refine z_iret dX3_hour_22 rfl ?_
  exact hQ
theorem spC_hour {μ : ZMem} (h : μ.1 11 7 < 99) : Sp layC mX3_hour 3 [.ref 0] μ (some (.int (μ.1 11 7 + 1))) (zrem (zI μ 11 7 (μ.1 11 7 + 1)) 1) := by
  refine Sp.mk (L := [some (.ref 0)]) rfl (by decide +kernel) rfl rfl (fun Q hQ => ?_)
  refine z_aload_n dX3_hour_0 rfl ?_
  refine z_getR dX3_hour_1 zf_X3_29 (by first | rfl | assumption) rfl ?_
  refine z_cV0r (dy := 2) dX3_hour_4 zl_X3_154 zy_X1_passHour (by first | rfl | assumption) rfl (by decide) (Nat.le_of_ble_eq_true rfl) (sp_passHour_t h) ?_
  refine z_if_eq (tgt := 20) dX3_hour_7 (by decide) (fun hx_ => absurd hx_ (by decide)) (fun _ => ?_)
  refine z_aload_n dX3_hour_10 rfl ?_
  refine z_getR dX3_hour_11 zf_X3_29 (by first | rfl | assumption) rfl ?_
  refine z_getI dX3_hour_14 zf_X3_158 (by first | rfl | assumption) rfl ?_
  refine z_goto (tgt := 22) dX3_hour_17 (by decide) ?_
  refine z_iret dX3_hour_22 rfl ?_
  exact hQ
theorem spC_undo_f {μ : ZMem} (h : μ.1 11 8 = 0) : Sp layC mX3_undo 1 [.ref 0] μ (some (.int (-2))) μ := by
  refine Sp.mk (L := [some (.ref 0)]) rfl (by decide +kernel) rfl rfl (fun Q hQ => ?_)
  refine z_aload_n dX3_undo_0 rfl ?_
  refine z_getR dX3_undo_1 zf_X3_29 (by first | rfl | assumption) rfl ?_
  refine z_cV0r (dy := 0) dX3_undo_4 zl_X3_161 zy_X1_takeBack (by first | rfl | assumption) rfl (by decide) (Nat.le_of_ble_eq_true rfl) (sp_takeBack_f h) ?_
  refine z_if_eq (tgt := 20) dX3_undo_7 (by decide) (fun _ => ?_) (fun hx_ => absurd (rfl) hx_)
  refine z_bipush (v := -2) dX3_undo_20 (by decide) ?_
  refine z_iret dX3_undo_22 rfl ?_
  exact hQ
theorem spC_undo_h {μ : ZMem} (h : 0 < μ.1 11 8) (hb : ¬ μ.1 11 9 &&& 1 = 0) : Sp layC mX3_undo 1 [.ref 0] μ (some (.int (μ.1 11 8 - 1))) (ztb (zI μ 11 7 (μ.1 11 7 - 1))) := by
  refine Sp.mk (L := [some (.ref 0)]) rfl (by decide +kernel) rfl rfl (fun Q hQ => ?_)
  refine z_aload_n dX3_undo_0 rfl ?_
  refine z_getR dX3_undo_1 zf_X3_29 (by first | rfl | assumption) rfl ?_
  refine z_cV0r (dy := 0) dX3_undo_4 zl_X3_161 zy_X1_takeBack (by first | rfl | assumption) rfl (by decide) (Nat.le_of_ble_eq_true rfl) (sp_takeBack_h h hb) ?_
  refine z_if_eq (tgt := 20) dX3_undo_7 (by decide) (fun hx_ => absurd hx_ (by decide)) (fun _ => ?_)
  refine z_aload_n dX3_undo_10 rfl ?_
  refine z_getR dX3_undo_11 zf_X3_29 (by first | rfl | assumption) rfl ?_
  refine z_getI dX3_undo_14 zf_X3_164 (by first | rfl | assumption) rfl ?_
  refine z_goto (tgt := 22) dX3_undo_17 (by decide) ?_
  refine z_iret dX3_undo_22 rfl ?_
  exact hQ
theorem spC_undo_s {μ : ZMem} (h : 0 < μ.1 11 8) (hb : μ.1 11 9 &&& 1 = 0) : Sp layC mX3_undo 1 [.ref 0] μ (some (.int (μ.1 11 8 - 1))) (ztb (zI μ 11 6 (μ.1 11 6 - 1))) := by
  refine Sp.mk (L := [some (.ref 0)]) rfl (by decide +kernel) rfl rfl (fun Q hQ => ?_)
  refine z_aload_n dX3_undo_0 rfl ?_
  refine z_getR dX3_undo_1 zf_X3_29 (by first | rfl | assumption) rfl ?_
  refine z_cV0r (dy := 0) dX3_undo_4 zl_X3_161 zy_X1_takeBack (by first | rfl | assumption) rfl (by decide) (Nat.le_of_ble_eq_true rfl) (sp_takeBack_s h hb) ?_
  refine z_if_eq (tgt := 20) dX3_undo_7 (by decide) (fun hx_ => absurd hx_ (by decide)) (fun _ => ?_)
  refine z_aload_n dX3_undo_10 rfl ?_
  refine z_getR dX3_undo_11 zf_X3_29 (by first | rfl | assumption) rfl ?_
  refine z_getI dX3_undo_14 zf_X3_164 (by first | rfl | assumption) rfl ?_
  refine z_goto (tgt := 22) dX3_undo_17 (by decide) ?_
  refine z_iret dX3_undo_22 rfl ?_
  exact hQ
theorem spC_trace {μ : ZMem} : Sp layC mX3_trace 0 [.ref 0] μ (some (.long (μ.2.1 0 10))) μ := by
  refine Sp.mk (L := [some (.ref 0)]) rfl (by decide +kernel) rfl rfl (fun Q hQ => ?_)
  refine z_aload_n dX3_trace_0 rfl ?_
  refine z_getJ dX3_trace_1 zf_X3_53 (by first | rfl | assumption) rfl ?_
  refine z_lret dX3_trace_4 rfl ?_
  exact hQ
theorem spC_count {μ : ZMem} (hd : zDu (μ.2.2 0 1)) (what : Int32) : Sp layC mX3_count 0 [.ref 0, .int what] μ (some (.int (zsel [μ.1 (μ.2.2 0 1) 3, μ.1 (μ.2.2 0 1) 4, μ.1 (μ.2.2 0 1) 5, μ.1 0 7, μ.1 11 8, μ.1 1 1] what (-1)))) μ := by
  have hl0 := hd.l0
  refine Sp.mk (L := [some (.ref 0), some (.int what)]) rfl (by decide +kernel) rfl rfl (fun Q hQ => ?_)
  refine z_iload_n dX3_count_0 rfl ?_
  rcases zsw_cases 6 what (by decide) with ⟨q, hq, rfl⟩ | ho
  · rw [zsel_at _ _ (by omega)] at hQ
    match q, hq with
    | 0, _ =>
      refine z_tsw_in (off := 39) (tgt := 40) dX3_count_1 (by decide) (by decide) (by decide) (by decide) ?_
      refine z_aload_n dX3_count_40 rfl ?_
      refine z_getM dX3_count_41 zf_X3_19 (by first | rfl | assumption) rfl ?_
      refine z_getI dX3_count_44 zf_X3_207 (by first | rfl | assumption) rfl ?_
      refine z_iret dX3_count_47 rfl ?_
      exact hQ
    | 1, _ =>
      refine z_tsw_in (off := 47) (tgt := 48) dX3_count_1 (by decide) (by decide) (by decide) (by decide) ?_
      refine z_aload_n dX3_count_48 rfl ?_
      refine z_getM dX3_count_49 zf_X3_19 (by first | rfl | assumption) rfl ?_
      refine z_getI dX3_count_52 zf_X3_280 (by first | rfl | assumption) rfl ?_
      refine z_iret dX3_count_55 rfl ?_
      exact hQ
    | 2, _ =>
      refine z_tsw_in (off := 55) (tgt := 56) dX3_count_1 (by decide) (by decide) (by decide) (by decide) ?_
      refine z_aload_n dX3_count_56 rfl ?_
      refine z_getM dX3_count_57 zf_X3_19 (by first | rfl | assumption) rfl ?_
      refine z_getI dX3_count_60 zf_X3_137 (by first | rfl | assumption) rfl ?_
      refine z_iret dX3_count_63 rfl ?_
      exact hQ
    | 3, _ =>
      refine z_tsw_in (off := 63) (tgt := 64) dX3_count_1 (by decide) (by decide) (by decide) (by decide) ?_
      refine z_aload_n dX3_count_64 rfl ?_
      refine z_getI dX3_count_65 zf_X3_43 (by first | rfl | assumption) rfl ?_
      refine z_iret dX3_count_68 rfl ?_
      exact hQ
    | 4, _ =>
      refine z_tsw_in (off := 68) (tgt := 69) dX3_count_1 (by decide) (by decide) (by decide) (by decide) ?_
      refine z_aload_n dX3_count_69 rfl ?_
      refine z_getR dX3_count_70 zf_X3_29 (by first | rfl | assumption) rfl ?_
      refine z_getI dX3_count_73 zf_X3_164 (by first | rfl | assumption) rfl ?_
      refine z_iret dX3_count_76 rfl ?_
      exact hQ
    | 5, _ =>
      refine z_tsw_in (off := 76) (tgt := 77) dX3_count_1 (by decide) (by decide) (by decide) (by decide) ?_
      refine z_aload_n dX3_count_77 rfl ?_
      refine z_getR dX3_count_78 zf_X3_12 (by first | rfl | assumption) rfl ?_
      refine z_getI dX3_count_81 zf_X3_61 (by first | rfl | assumption) rfl ?_
      refine z_iret dX3_count_84 rfl ?_
      exact hQ
  · rw [zsel_out ho] at hQ
    refine z_tsw_out (tgt := 85) dX3_count_1 ho (by decide) ?_
    refine z_iconst (v := -1) dX3_count_85 (by decide) ?_
    refine z_iret dX3_count_86 rfl ?_
    exact hQ

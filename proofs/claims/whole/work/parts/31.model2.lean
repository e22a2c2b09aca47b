/-! ===== the reference: its public methods that look ===== -/
theorem spM_clear {μ : ZMem} : Sp layM mX4_clear 0 [.ref 0] μ (some (.int (μ.1 0 2))) (zI μ 0 2 0) := by
  refine Sp.mk (L := [some (.ref 0), none]) rfl (by decide +kernel) rfl rfl (fun Q hQ => ?_)
  refine z_aload_n dX4_clear_0 rfl ?_
  refine z_getI dX4_clear_1 zf_X4_61 (by first | rfl | assumption) rfl ?_
  refine z_istore_n (i := 1) dX4_clear_4 rfl (by decide) ?_
  refine z_aload_n dX4_clear_5 rfl ?_
  refine z_iconst (v := 0) dX4_clear_6 (by decide) ?_
  refine z_putI dX4_clear_7 zf_X4_61p (by first | rfl | assumption) rfl rfl rfl ?_
  refine z_iload_n dX4_clear_10 rfl ?_
  refine z_iret dX4_clear_11 rfl ?_
  exact hQ
theorem spM_type_bad {μ : ZMem} {c : Int32} (h : c < 0 ∨ 255 < c) : Sp layM mX4_type 1 [.ref 0, .int c] μ (some (.int (-1))) μ := by
  refine Sp.mk (L := [some (.ref 0), some (.int c)]) rfl (by decide +kernel) rfl rfl (fun Q hQ => ?_)
  refine z_iload_n dX4_type_0 rfl ?_
  refine z_iconst (v := 0) dX4_type_1 (by decide) ?_
  refine z_sipush (v := 255) dX4_type_2 (by decide) ?_
  refine z_cS3r (dy := 0) dX4_type_5 zl_X4_57 zy_X4_in (by decide) (Nat.le_of_ble_eq_true rfl) (sp_in_f h) ?_
  refine z_if_ne (tgt := 13) dX4_type_8 (by decide) (fun hx_ => absurd (rfl) hx_) (fun _ => ?_)
  refine z_iconst (v := -1) dX4_type_11 (by decide) ?_
  refine z_iret dX4_type_12 rfl ?_
  exact hQ
theorem spM_type_f {μ : ZMem} (ht : μ.1 0 2 = nI 200) {c : Int32} (h0 : ¬ c < 0) (h1 : ¬ 255 < c) : Sp layM mX4_type 1 [.ref 0, .int c] μ (some (.int (-3))) μ := by
  refine Sp.mk (L := [some (.ref 0), some (.int c)]) rfl (by decide +kernel) rfl rfl (fun Q hQ => ?_)
  refine z_iload_n dX4_type_0 rfl ?_
  refine z_iconst (v := 0) dX4_type_1 (by decide) ?_
  refine z_sipush (v := 255) dX4_type_2 (by decide) ?_
  refine z_cS3r (dy := 0) dX4_type_5 zl_X4_57 zy_X4_in (by decide) (Nat.le_of_ble_eq_true rfl) (sp_in_t h0 h1) ?_
  refine z_if_ne (tgt := 13) dX4_type_8 (by decide) (fun _ => ?_) (fun hx_ => absurd hx_ (by decide))
  refine z_aload_n dX4_type_13 rfl ?_
  refine z_getI dX4_type_14 zf_X4_61 (by first | rfl | assumption) rfl ?_
  refine z_sipush (v := 200) dX4_type_17 (by decide) ?_
  refine z_icmp_ne (tgt := 26) dX4_type_20 (by decide) (fun hx_ => absurd (ht) hx_) (fun _ => ?_)
  refine z_bipush (v := -3) dX4_type_23 (by decide) ?_
  refine z_iret dX4_type_25 rfl ?_
  exact hQ
theorem spM_type_t {μ : ZMem} {t : Nat} (ht : μ.1 0 2 = nI t) (h : t < 200) {c : Int32} (h0 : ¬ c < 0) (h1 : ¬ 255 < c) : Sp layM mX4_type 1 [.ref 0, .int c] μ (some (.int (μ.1 0 2 + 1))) (zI (zI μ 1 t (vp_nar .byte c.toInt8.toInt32)) 0 2 (μ.1 0 2 + 1)) := by
  refine Sp.mk (L := [some (.ref 0), some (.int c)]) rfl (by decide +kernel) rfl rfl (fun Q hQ => ?_)
  refine z_iload_n dX4_type_0 rfl ?_
  refine z_iconst (v := 0) dX4_type_1 (by decide) ?_
  refine z_sipush (v := 255) dX4_type_2 (by decide) ?_
  refine z_cS3r (dy := 0) dX4_type_5 zl_X4_57 zy_X4_in (by decide) (Nat.le_of_ble_eq_true rfl) (sp_in_t h0 h1) ?_
  refine z_if_ne (tgt := 13) dX4_type_8 (by decide) (fun _ => ?_) (fun hx_ => absurd hx_ (by decide))
  refine z_aload_n dX4_type_13 rfl ?_
  refine z_getI dX4_type_14 zf_X4_61 (by first | rfl | assumption) rfl ?_
  refine z_sipush (v := 200) dX4_type_17 (by decide) ?_
  refine z_icmp_ne (tgt := 26) dX4_type_20 (by decide) (fun _ => ?_) (fun hx_ => absurd hx_ (fun e => by have e2 := ht.symm.trans e; have := (nI_eq (b := 200) (by omega) (by decide)).mp e2; omega))
  refine z_aload_n dX4_type_26 rfl ?_
  refine z_getR dX4_type_27 zf_X4_7 (by first | rfl | assumption) rfl ?_
  refine z_aload_n dX4_type_30 rfl ?_
  refine z_getI dX4_type_31 zf_X4_61 (by first | rfl | assumption) rfl ?_
  refine z_iload_n dX4_type_34 rfl ?_
  refine z_i2b dX4_type_35 ?_
  refine z_bast dX4_type_36 (by first | rfl | assumption) ht h (by decide) ?_
  refine z_aload_n dX4_type_37 rfl ?_
  refine z_dup dX4_type_38 rfl ?_
  refine z_getI dX4_type_39 zf_X4_61 (by first | rfl | assumption) rfl ?_
  refine z_iconst (v := 1) dX4_type_42 (by decide) ?_
  refine z_iadd dX4_type_43 ?_
  refine z_putI dX4_type_44 zf_X4_61p (by first | rfl | assumption) rfl rfl rfl ?_
  refine z_aload_n dX4_type_47 rfl ?_
  refine z_getI dX4_type_48 zf_X4_61 (by first | rfl | assumption) rfl ?_
  refine z_iret dX4_type_51 rfl ?_
  exact hQ
theorem spM_trace {μ : ZMem} : Sp layM mX4_trace 0 [.ref 0] μ (some (.long (μ.2.1 0 0))) μ := by
  refine Sp.mk (L := [some (.ref 0)]) rfl (by decide +kernel) rfl rfl (fun Q hQ => ?_)
  refine z_aload_n dX4_trace_0 rfl ?_
  refine z_getJ dX4_trace_1 zf_X4_183 (by first | rfl | assumption) rfl ?_
  refine z_lret dX4_trace_4 rfl ?_
  exact hQ
theorem spM_count {μ : ZMem} (what : Int32) : Sp layM mX4_count 0 [.ref 0, .int what] μ (some (.int (zsel [μ.1 2 0, μ.1 6 0, μ.1 8 0, μ.1 0 20, μ.1 9 122, μ.1 0 2] what (-1)))) μ := by
  refine Sp.mk (L := [some (.ref 0), some (.int what)]) rfl (by decide +kernel) rfl rfl (fun Q hQ => ?_)
  refine z_iload_n dX4_count_0 rfl ?_
  rcases zsw_cases 6 what (by decide) with ⟨q, hq, rfl⟩ | ho
  · rw [zsel_at _ _ (by omega)] at hQ
    match q, hq with
    | 0, _ =>
      refine z_tsw_in (off := 39) (tgt := 40) dX4_count_1 (by decide) (by decide) (by decide) (by decide) ?_
      refine z_aload_n dX4_count_40 rfl ?_
      refine z_getR dX4_count_41 zf_X4_13 (by first | rfl | assumption) rfl ?_
      refine z_iconst (v := 0) dX4_count_44 (by decide) ?_
      refine z_iald dX4_count_45 (by first | rfl | assumption) rfl (by first | assumption | omega | decide) (by decide) ?_
      refine z_iret dX4_count_46 rfl ?_
      exact hQ
    | 1, _ =>
      refine z_tsw_in (off := 46) (tgt := 47) dX4_count_1 (by decide) (by decide) (by decide) (by decide) ?_
      refine z_aload_n dX4_count_47 rfl ?_
      refine z_getR dX4_count_48 zf_X4_26 (by first | rfl | assumption) rfl ?_
      refine z_iconst (v := 0) dX4_count_51 (by decide) ?_
      refine z_iald dX4_count_52 (by first | rfl | assumption) rfl (by first | assumption | omega | decide) (by decide) ?_
      refine z_iret dX4_count_53 rfl ?_
      exact hQ
    | 2, _ =>
      refine z_tsw_in (off := 53) (tgt := 54) dX4_count_1 (by decide) (by decide) (by decide) (by decide) ?_
      refine z_aload_n dX4_count_54 rfl ?_
      refine z_getR dX4_count_55 zf_X4_32 (by first | rfl | assumption) rfl ?_
      refine z_iconst (v := 0) dX4_count_58 (by decide) ?_
      refine z_iald dX4_count_59 (by first | rfl | assumption) rfl (by first | assumption | omega | decide) (by decide) ?_
      refine z_iret dX4_count_60 rfl ?_
      exact hQ
    | 3, _ =>
      refine z_tsw_in (off := 60) (tgt := 61) dX4_count_1 (by decide) (by decide) (by decide) (by decide) ?_
      refine z_aload_n dX4_count_61 rfl ?_
      refine z_getI dX4_count_62 zf_X4_102 (by first | rfl | assumption) rfl ?_
      refine z_iret dX4_count_65 rfl ?_
      exact hQ
    | 4, _ =>
      refine z_tsw_in (off := 65) (tgt := 66) dX4_count_1 (by decide) (by decide) (by decide) (by decide) ?_
      refine z_aload_n dX4_count_66 rfl ?_
      refine z_getR dX4_count_67 zf_X4_35 (by first | rfl | assumption) rfl ?_
      refine z_bipush (v := 122) dX4_count_70 (by decide) ?_
      refine z_iald dX4_count_72 (by first | rfl | assumption) rfl (by first | assumption | omega | decide) (by decide) ?_
      refine z_iret dX4_count_73 rfl ?_
      exact hQ
    | 5, _ =>
      refine z_tsw_in (off := 73) (tgt := 74) dX4_count_1 (by decide) (by decide) (by decide) (by decide) ?_
      refine z_aload_n dX4_count_74 rfl ?_
      refine z_getI dX4_count_75 zf_X4_61 (by first | rfl | assumption) rfl ?_
      refine z_iret dX4_count_78 rfl ?_
      exact hQ
  · rw [zsel_out ho] at hQ
    refine z_tsw_out (tgt := 79) dX4_count_1 ho (by decide) ?_
    refine z_iconst (v := -1) dX4_count_79 (by decide) ?_
    refine z_iret dX4_count_80 rfl ?_
    exact hQ
theorem spM_saying_bad {μ : ZMem} {ns : Nat} (h : zsM μ ns) {w : Int32} (hw : w < 0 ∨ nI ns ≤ w) (what : Int32) : Sp layM mX4_saying 2 [.ref 0, .int w, .int what] μ (some (.int (-1))) μ := by
  refine Sp.mk (L := [some (.ref 0), some (.int w), some (.int what)]) rfl (by decide +kernel) rfl rfl (fun Q hQ => ?_)
  refine z_aload_n dX4_saying_0 rfl ?_
  refine z_iload_n dX4_saying_1 rfl ?_
  refine z_cV1r (dy := 1) dX4_saying_2 zl_X4_117 zy_X4_isSaying (by first | rfl | assumption) rfl (by decide) (Nat.le_of_ble_eq_true rfl) (sp_isSaying_f h hw) ?_
  refine z_if_ne (tgt := 10) dX4_saying_5 (by decide) (fun hx_ => absurd (rfl) hx_) (fun _ => ?_)
  refine z_iconst (v := -1) dX4_saying_8 (by decide) ?_
  refine z_iret dX4_saying_9 rfl ?_
  exact hQ
theorem spM_saying {μ : ZMem} {ns np n j : Nat} (h : zsM μ ns) (hp : zpM μ np) (hm : znM μ n) (hj : j < ns) (what : Int32) : Sp layM mX4_saying 2 [.ref 0, .int (nI j), .int what] μ (some (.int (zsel [if zbt (μ.1 5 0) (nI j) then 1 else 0, μ.1 3 j, μ.1 4 j, zkn (μ.1 7) (nI j) np, zfold (fun k a => if μ.1 9 k = nI j then a + 1 else a) 0 n] what (-1)))) μ := by
  have h8 := h.2
  refine Sp.mk (L := [some (.ref 0), some (.int (nI j)), some (.int what)]) rfl (by decide +kernel) rfl rfl (fun Q hQ => ?_)
  refine z_aload_n dX4_saying_0 rfl ?_
  refine z_iload_n dX4_saying_1 rfl ?_
  refine z_cV1r (dy := 1) dX4_saying_2 zl_X4_117 zy_X4_isSaying (by first | rfl | assumption) rfl (by decide) (Nat.le_of_ble_eq_true rfl) (sp_isSaying_t h hj rfl) ?_
  refine z_if_ne (tgt := 10) dX4_saying_5 (by decide) (fun _ => ?_) (fun hx_ => absurd hx_ (by decide))
  refine z_iload_n dX4_saying_10 rfl ?_
  rcases zsw_cases 5 what (by decide) with ⟨q, hq, rfl⟩ | ho
  · rw [zsel_at _ _ (by omega)] at hQ
    match q, hq with
    | 0, _ =>
      refine z_tsw_in (off := 33) (tgt := 44) dX4_saying_11 (by decide) (by decide) (by decide) (by decide) ?_
      refine z_aload_n dX4_saying_44 rfl ?_
      refine z_iload_n dX4_saying_45 rfl ?_
      refine z_cV1r (dy := 0) dX4_saying_46 zl_X4_120 zy_X4_isSound (by first | rfl | assumption) rfl (by decide) (Nat.le_of_ble_eq_true rfl) (sp_isSoundM (by omega)) ?_
      refine z_if_eqb (tgt := 56) dX4_saying_49 (by decide) (fun hb49 => ?_) (fun hb49 => ?_)
      · refine z_iconst (v := 0) dX4_saying_56 (by decide) ?_
        refine z_iret dX4_saying_57 rfl ?_
        refine zq hQ ?_
        simp [hb49]
      · refine z_iconst (v := 1) dX4_saying_52 (by decide) ?_
        refine z_goto (tgt := 57) dX4_saying_53 (by decide) ?_
        refine z_iret dX4_saying_57 rfl ?_
        refine zq hQ ?_
        simp [hb49]
    | 1, _ =>
      refine z_tsw_in (off := 47) (tgt := 58) dX4_saying_11 (by decide) (by decide) (by decide) (by decide) ?_
      refine z_aload_n dX4_saying_58 rfl ?_
      refine z_getR dX4_saying_59 zf_X4_17 (by first | rfl | assumption) rfl ?_
      refine z_iload_n dX4_saying_62 rfl ?_
      refine z_iald dX4_saying_63 (by first | rfl | assumption) rfl (show j < 16 by omega) (by decide) ?_
      refine z_iret dX4_saying_64 rfl ?_
      exact hQ
    | 2, _ =>
      refine z_tsw_in (off := 54) (tgt := 65) dX4_saying_11 (by decide) (by decide) (by decide) (by decide) ?_
      refine z_aload_n dX4_saying_65 rfl ?_
      refine z_getR dX4_saying_66 zf_X4_20 (by first | rfl | assumption) rfl ?_
      refine z_iload_n dX4_saying_69 rfl ?_
      refine z_iald dX4_saying_70 (by first | rfl | assumption) rfl (show j < 16 by omega) (by decide) ?_
      refine z_iret dX4_saying_71 rfl ?_
      exact hQ
    | 3, _ =>
      refine z_tsw_in (off := 61) (tgt := 72) dX4_saying_11 (by decide) (by decide) (by decide) (by decide) ?_
      refine z_aload_n dX4_saying_72 rfl ?_
      refine z_iload_n dX4_saying_73 rfl ?_
      refine z_cV1r (dy := 0) dX4_saying_74 zl_X4_123 zy_X4_knownBy (by first | rfl | assumption) rfl (by decide) (Nat.le_of_ble_eq_true rfl) (sp_knownBy hp (by omega)) ?_
      refine z_iret dX4_saying_77 rfl ?_
      exact hQ
    | 4, _ =>
      refine z_tsw_in (off := 67) (tgt := 78) dX4_saying_11 (by decide) (by decide) (by decide) (by decide) ?_
      refine z_aload_n dX4_saying_78 rfl ?_
      refine z_iload_n dX4_saying_79 rfl ?_
      refine z_cV1r (dy := 0) dX4_saying_80 zl_X4_127 zy_X4_oftenOf (by first | rfl | assumption) rfl (by decide) (Nat.le_of_ble_eq_true rfl) (sp_oftenOf hm (nI j)) ?_
      refine z_iret dX4_saying_83 rfl ?_
      exact hQ
  · rw [zsel_out ho] at hQ
    refine z_tsw_out (tgt := 84) dX4_saying_11 ho (by decide) ?_
    refine z_iconst (v := -1) dX4_saying_84 (by decide) ?_
    refine z_iret dX4_saying_85 rfl ?_
    exact hQ
theorem spM_person_bad {μ : ZMem} {np : Nat} (h : zpM μ np) {w what : Int32} (hw : (w < 0 ∨ nI np ≤ w) ∨ (∃ i, i < np ∧ w = nI i) ∧ (what < 0 ∨ 2 < what)) : Sp layM mX4_person 2 [.ref 0, .int w, .int what] μ (some (.int (-1))) μ := by
  refine Sp.mk (L := [some (.ref 0), some (.int w), some (.int what), none, none]) rfl (by decide +kernel) rfl rfl (fun Q hQ => ?_)
  rcases hw with hw | ⟨⟨i, hi, hwi⟩, hw⟩
  · refine z_aload_n dX4_person_0 rfl ?_
    refine z_iload_n dX4_person_1 rfl ?_
    refine z_cV1r (dy := 1) dX4_person_2 zl_X4_130 zy_X4_isPerson (by first | rfl | assumption) rfl (by decide) (Nat.le_of_ble_eq_true rfl) (sp_isPerson_f h hw) ?_
    refine z_if_eq (tgt := 17) dX4_person_5 (by decide) (fun _ => ?_) (fun hx_ => absurd (rfl) hx_)
    refine z_iconst (v := -1) dX4_person_17 (by decide) ?_
    refine z_iret dX4_person_18 rfl ?_
    exact hQ
  · refine z_aload_n dX4_person_0 rfl ?_
    refine z_iload_n dX4_person_1 rfl ?_
    refine z_cV1r (dy := 1) dX4_person_2 zl_X4_130 zy_X4_isPerson (by first | rfl | assumption) rfl (by decide) (Nat.le_of_ble_eq_true rfl) (sp_isPerson_t h hi hwi) ?_
    refine z_if_eq (tgt := 17) dX4_person_5 (by decide) (fun hx_ => absurd hx_ (by decide)) (fun _ => ?_)
    refine z_iload_n dX4_person_8 rfl ?_
    refine z_iconst (v := 0) dX4_person_9 (by decide) ?_
    refine z_iconst (v := 2) dX4_person_10 (by decide) ?_
    refine z_cS3r (dy := 0) dX4_person_11 zl_X4_57 zy_X4_in (by decide) (Nat.le_of_ble_eq_true rfl) (sp_in_f hw) ?_
    refine z_if_ne (tgt := 19) dX4_person_14 (by decide) (fun hx_ => absurd (rfl) hx_) (fun _ => ?_)
    refine z_iconst (v := -1) dX4_person_17 (by decide) ?_
    refine z_iret dX4_person_18 rfl ?_
    exact hQ
theorem spM_person {μ : ZMem} {ns np n j : Nat} {what : Int32} (h : zsM μ ns) (hp : zpM μ np) (hm : znM μ n) (hj : j < np) (hw0 : ¬ what < 0) (hw1 : ¬ 2 < what) : Sp layM mX4_person 2 [.ref 0, .int (nI j), .int what] μ (some (.int (if what = 0 then μ.1 7 j else if what = 1 then zmay (μ.1 7 j) (μ.1 5 0) (μ.1 4) (zthere (μ.1 9) (fun k => μ.1 9 (30 + k)) (μ.1 9 121) (μ.1 8 0) n) ns else zfold (fun k a => if μ.1 9 (60 + k) = nI j then a + 1 else a) 0 n))) μ := by
  have h5 := hp.2
  have hn := hm.1
  have h30 := hm.2
  refine Sp.mk (L := [some (.ref 0), some (.int (nI j)), some (.int what), none, none]) rfl (by decide +kernel) rfl rfl (fun Q hQ => ?_)
  refine z_aload_n dX4_person_0 rfl ?_
  refine z_iload_n dX4_person_1 rfl ?_
  refine z_cV1r (dy := 1) dX4_person_2 zl_X4_130 zy_X4_isPerson (by first | rfl | assumption) rfl (by decide) (Nat.le_of_ble_eq_true rfl) (sp_isPerson_t hp hj rfl) ?_
  refine z_if_eq (tgt := 17) dX4_person_5 (by decide) (fun hx_ => absurd hx_ (by decide)) (fun _ => ?_)
  refine z_iload_n dX4_person_8 rfl ?_
  refine z_iconst (v := 0) dX4_person_9 (by decide) ?_
  refine z_iconst (v := 2) dX4_person_10 (by decide) ?_
  refine z_cS3r (dy := 0) dX4_person_11 zl_X4_57 zy_X4_in (by decide) (Nat.le_of_ble_eq_true rfl) (sp_in_t hw0 hw1) ?_
  refine z_if_ne (tgt := 19) dX4_person_14 (by decide) (fun _ => ?_) (fun hx_ => absurd hx_ (by decide))
  refine z_iconst (v := 0) dX4_person_19 (by decide) ?_
  refine z_istore_n (i := 3) dX4_person_20 rfl (by decide) ?_
  refine z_iconst (v := 0) dX4_person_21 (by decide) ?_
  refine z_istore dX4_person_22 (by decide) ?_
  refine zdown (P := fun k => ZW layM mX4_person 2 Q 24 [some (.ref 0), some (.int (nI j)), some (.int what), some (.int (zfold (fun k a => if μ.1 9 (60 + k) = nI j then a + 1 else a) 0 k)), some (.int (nI k))] [] μ) n ?_ ?_ 0 (Nat.zero_le n)
  · refine z_iload dX4_person_24 rfl ?_
    refine z_aload_n dX4_person_26 rfl ?_
    refine z_getR dX4_person_27 zf_X4_35 (by first | rfl | assumption) rfl ?_
    refine z_bipush (v := 120) dX4_person_30 (by decide) ?_
    refine z_iald dX4_person_32 (by first | rfl | assumption) rfl (by first | assumption | omega | decide) (by decide) ?_
    refine z_icmp_ge (tgt := 64) dX4_person_33 (by decide) (fun _ => ?_) (fun hx_ => absurd (by rw [hn]; exact Int32.le_refl _) hx_)
    refine z_iload_n dX4_person_64 rfl ?_
    refine z_if_ne (tgt := 77) dX4_person_65 (by decide) (fun hb65 => ?_) (fun hb65 => ?_)
    · refine z_iload_n dX4_person_77 rfl ?_
      refine z_iconst (v := 1) dX4_person_78 (by decide) ?_
      refine z_icmp_ne (tgt := 101) dX4_person_79 (by decide) (fun hb79 => ?_) (fun hb79 => ?_)
      · refine z_iload_n dX4_person_101 rfl ?_
        refine z_iret dX4_person_102 rfl ?_
        first | (refine zq hQ ?_; simp [hb65, hb79]; done) | (refine zq hQ ?_; simp [hb65]; done)
      · refine z_aload_n dX4_person_82 rfl ?_
        refine z_iload_n dX4_person_83 rfl ?_
        refine z_aload_n dX4_person_84 rfl ?_
        refine z_aload_n dX4_person_85 rfl ?_
        refine z_getR dX4_person_86 zf_X4_35 (by first | rfl | assumption) rfl ?_
        refine z_bipush (v := 121) dX4_person_89 (by decide) ?_
        refine z_iald dX4_person_91 (by first | rfl | assumption) rfl (by first | assumption | omega | decide) (by decide) ?_
        refine z_cV1r (dy := 1) dX4_person_92 zl_X4_133 zy_X4_there (by first | rfl | assumption) rfl (by decide) (Nat.le_of_ble_eq_true rfl) (sp_thereM hm _) ?_
        refine z_cV2r (dy := 1) dX4_person_95 zl_X4_136 zy_X4_mayOf (by first | rfl | assumption) rfl (by decide) (Nat.le_of_ble_eq_true rfl) (sp_mayOf h (by omega) _) ?_
        refine z_goto (tgt := 102) dX4_person_98 (by decide) ?_
        refine z_iret dX4_person_102 rfl ?_
        first | (refine zq hQ ?_; simp [hb65, hb79]; done) | (refine zq hQ ?_; simp [hb65]; done)
    · refine z_aload_n dX4_person_68 rfl ?_
      refine z_getR dX4_person_69 zf_X4_29 (by first | rfl | assumption) rfl ?_
      refine z_iload_n dX4_person_72 rfl ?_
      refine z_iald dX4_person_73 (by first | rfl | assumption) rfl (show j < 10 by omega) (by decide) ?_
      refine z_goto (tgt := 102) dX4_person_74 (by decide) ?_
      refine z_iret dX4_person_102 rfl ?_
      first | (refine zq hQ ?_; simp [hb65, hb79]; done) | (refine zq hQ ?_; simp [hb65]; done)
  · intro k hk ih
    refine z_iload dX4_person_24 rfl ?_
    refine z_aload_n dX4_person_26 rfl ?_
    refine z_getR dX4_person_27 zf_X4_35 (by first | rfl | assumption) rfl ?_
    refine z_bipush (v := 120) dX4_person_30 (by decide) ?_
    refine z_iald dX4_person_32 (by first | rfl | assumption) rfl (by first | assumption | omega | decide) (by decide) ?_
    refine z_icmp_ge (tgt := 64) dX4_person_33 (by decide) (fun hx_ => absurd hx_ (by rw [hn]; exact nI_ge hk (by omega))) (fun _ => ?_)
    refine z_iload_n dX4_person_36 rfl ?_
    refine z_aload_n dX4_person_37 rfl ?_
    refine z_getR dX4_person_38 zf_X4_35 (by first | rfl | assumption) rfl ?_
    refine z_bipush (v := 60) dX4_person_41 (by decide) ?_
    refine z_iload dX4_person_43 rfl ?_
    refine z_iadd dX4_person_45 ?_
    refine z_iald dX4_person_46 (by first | rfl | assumption) (zix 60 k rfl) (by omega) (by decide) ?_
    refine z_iload_n dX4_person_47 rfl ?_
    refine z_icmp_ne (tgt := 55) dX4_person_48 (by decide) (fun hb48 => ?_) (fun hb48 => ?_)
    · refine z_iconst (v := 0) dX4_person_55 (by decide) ?_
      refine z_iadd dX4_person_56 ?_
      refine z_istore_n (i := 3) dX4_person_57 rfl (by decide) ?_
      refine z_iinc (v := 1) dX4_person_58 rfl (by decide) (by decide) ?_
      refine z_goto (tgt := 24) dX4_person_61 (by decide) ?_
      exact ZW.eq ih rfl (by simp [zfold, nI_succ, hb48])
    · refine z_iconst (v := 1) dX4_person_51 (by decide) ?_
      refine z_goto (tgt := 56) dX4_person_52 (by decide) ?_
      refine z_iadd dX4_person_56 ?_
      refine z_istore_n (i := 3) dX4_person_57 rfl (by decide) ?_
      refine z_iinc (v := 1) dX4_person_58 rfl (by decide) (by decide) ?_
      refine z_goto (tgt := 24) dX4_person_61 (by decide) ?_
      exact ZW.eq ih rfl (by simp [zfold, nI_succ, hb48])
theorem spM_talk_bad {μ : ZMem} {n : Nat} (h : znM μ n) {w : Int32} (hw : w < 0 ∨ nI n ≤ w) (what : Int32) : Sp layM mX4_talk 1 [.ref 0, .int w, .int what] μ (some (.int (-1))) μ := by
  have h30 := h.2
  refine Sp.mk (L := [some (.ref 0), some (.int w), some (.int what)]) rfl (by decide +kernel) rfl rfl (fun Q hQ => ?_)
  refine z_iload_n dX4_talk_0 rfl ?_
  refine z_iconst (v := 0) dX4_talk_1 (by decide) ?_
  refine z_aload_n dX4_talk_2 rfl ?_
  refine z_getR dX4_talk_3 zf_X4_35 (by first | rfl | assumption) rfl ?_
  refine z_bipush (v := 120) dX4_talk_6 (by decide) ?_
  refine z_iald dX4_talk_8 (by first | rfl | assumption) rfl (by first | assumption | omega | decide) (by decide) ?_
  refine z_iconst (v := 1) dX4_talk_9 (by decide) ?_
  refine z_isub dX4_talk_10 ?_
  refine z_cS3r (dy := 0) dX4_talk_11 zl_X4_57 zy_X4_in (by decide) (Nat.le_of_ble_eq_true rfl) (sp_in_f (hw.imp id (fun q => by rw [h.1]; exact zpred_lt (by omega) q))) ?_
  refine z_if_ne (tgt := 19) dX4_talk_14 (by decide) (fun hx_ => absurd (rfl) hx_) (fun _ => ?_)
  refine z_iconst (v := -1) dX4_talk_17 (by decide) ?_
  refine z_iret dX4_talk_18 rfl ?_
  exact hQ
theorem spM_talk {μ : ZMem} {n k : Nat} (h : znM μ n) (hv : ztv (fun k => μ.1 9 (90 + k)) n) (hk : k < n) (what : Int32) : Sp layM mX4_talk 1 [.ref 0, .int (nI k), .int what] μ (some (.int (zsel [μ.1 9 k, μ.1 9 (30 + k), μ.1 9 (60 + k), μ.1 9 (90 + k), nI (zrt (fun k => μ.1 9 (90 + k)) 30 k), nI (zfr (fun k => μ.1 9 (90 + k)) 30 k), if zfa (fun k => μ.1 9 (90 + k)) n (nI k) = -9 then 1 else 0, if μ.1 9 121 - μ.1 9 (30 + k) ≤ μ.1 8 0 then 1 else 0] what (-1)))) μ := by
  have h30 := h.2
  refine Sp.mk (L := [some (.ref 0), some (.int (nI k)), some (.int what)]) rfl (by decide +kernel) rfl rfl (fun Q hQ => ?_)
  refine z_iload_n dX4_talk_0 rfl ?_
  refine z_iconst (v := 0) dX4_talk_1 (by decide) ?_
  refine z_aload_n dX4_talk_2 rfl ?_
  refine z_getR dX4_talk_3 zf_X4_35 (by first | rfl | assumption) rfl ?_
  refine z_bipush (v := 120) dX4_talk_6 (by decide) ?_
  refine z_iald dX4_talk_8 (by first | rfl | assumption) rfl (by first | assumption | omega | decide) (by decide) ?_
  refine z_iconst (v := 1) dX4_talk_9 (by decide) ?_
  refine z_isub dX4_talk_10 ?_
  refine z_cS3r (dy := 0) dX4_talk_11 zl_X4_57 zy_X4_in (by decide) (Nat.le_of_ble_eq_true rfl) (sp_in_t (nI_pos (by omega)) (by rw [h.1]; exact zpred_nlt (by omega) hk)) ?_
  refine z_if_ne (tgt := 19) dX4_talk_14 (by decide) (fun _ => ?_) (fun hx_ => absurd hx_ (by decide))
  refine z_iload_n dX4_talk_19 rfl ?_
  rcases zsw_cases 8 what (by decide) with ⟨q, hq, rfl⟩ | ho
  · rw [zsel_at _ _ (by omega)] at hQ
    match q, hq with
    | 0, _ =>
      refine z_tsw_in (off := 48) (tgt := 68) dX4_talk_20 (by decide) (by decide) (by decide) (by decide) ?_
      refine z_aload_n dX4_talk_68 rfl ?_
      refine z_getR dX4_talk_69 zf_X4_35 (by first | rfl | assumption) rfl ?_
      refine z_iconst (v := 0) dX4_talk_72 (by decide) ?_
      refine z_iload_n dX4_talk_73 rfl ?_
      refine z_iadd dX4_talk_74 ?_
      refine z_iald dX4_talk_75 (by first | rfl | assumption) (zix0 k) (by omega) (by decide) ?_
      refine z_iret dX4_talk_76 rfl ?_
      exact hQ
    | 1, _ =>
      refine z_tsw_in (off := 57) (tgt := 77) dX4_talk_20 (by decide) (by decide) (by decide) (by decide) ?_
      refine z_aload_n dX4_talk_77 rfl ?_
      refine z_getR dX4_talk_78 zf_X4_35 (by first | rfl | assumption) rfl ?_
      refine z_bipush (v := 30) dX4_talk_81 (by decide) ?_
      refine z_iload_n dX4_talk_83 rfl ?_
      refine z_iadd dX4_talk_84 ?_
      refine z_iald dX4_talk_85 (by first | rfl | assumption) (zix 30 k rfl) (by omega) (by decide) ?_
      refine z_iret dX4_talk_86 rfl ?_
      exact hQ
    | 2, _ =>
      refine z_tsw_in (off := 67) (tgt := 87) dX4_talk_20 (by decide) (by decide) (by decide) (by decide) ?_
      refine z_aload_n dX4_talk_87 rfl ?_
      refine z_getR dX4_talk_88 zf_X4_35 (by first | rfl | assumption) rfl ?_
      refine z_bipush (v := 60) dX4_talk_91 (by decide) ?_
      refine z_iload_n dX4_talk_93 rfl ?_
      refine z_iadd dX4_talk_94 ?_
      refine z_iald dX4_talk_95 (by first | rfl | assumption) (zix 60 k rfl) (by omega) (by decide) ?_
      refine z_iret dX4_talk_96 rfl ?_
      exact hQ
    | 3, _ =>
      refine z_tsw_in (off := 77) (tgt := 97) dX4_talk_20 (by decide) (by decide) (by decide) (by decide) ?_
      refine z_aload_n dX4_talk_97 rfl ?_
      refine z_getR dX4_talk_98 zf_X4_35 (by first | rfl | assumption) rfl ?_
      refine z_bipush (v := 90) dX4_talk_101 (by decide) ?_
      refine z_iload_n dX4_talk_103 rfl ?_
      refine z_iadd dX4_talk_104 ?_
      refine z_iald dX4_talk_105 (by first | rfl | assumption) (zix 90 k rfl) (by omega) (by decide) ?_
      refine z_iret dX4_talk_106 rfl ?_
      exact hQ
    | 4, _ =>
      refine z_tsw_in (off := 87) (tgt := 107) dX4_talk_20 (by decide) (by decide) (by decide) (by decide) ?_
      refine z_aload_n dX4_talk_107 rfl ?_
      refine z_iload_n dX4_talk_108 rfl ?_
      refine z_cV1r (dy := 0) dX4_talk_109 zl_X4_139 zy_X4_rootOf (by first | rfl | assumption) rfl (by decide) (Nat.le_of_ble_eq_true rfl) (sp_rootOf h30 hv hk) ?_
      refine z_iret dX4_talk_112 rfl ?_
      exact hQ
    | 5, _ =>
      refine z_tsw_in (off := 93) (tgt := 113) dX4_talk_20 (by decide) (by decide) (by decide) (by decide) ?_
      refine z_aload_n dX4_talk_113 rfl ?_
      refine z_iload_n dX4_talk_114 rfl ?_
      refine z_cV1r (dy := 0) dX4_talk_115 zl_X4_142 zy_X4_farOf (by first | rfl | assumption) rfl (by decide) (Nat.le_of_ble_eq_true rfl) (sp_farOf h30 hv hk) ?_
      refine z_iret dX4_talk_118 rfl ?_
      exact hQ
    | 6, _ =>
      refine z_tsw_in (off := 99) (tgt := 119) dX4_talk_20 (by decide) (by decide) (by decide) (by decide) ?_
      refine z_aload_n dX4_talk_119 rfl ?_
      refine z_iload_n dX4_talk_120 rfl ?_
      refine z_cV1r (dy := 0) dX4_talk_121 zl_X4_145 zy_X4_firstAnswer (by first | rfl | assumption) rfl (by decide) (Nat.le_of_ble_eq_true rfl) (sp_firstAnswer h hv hk) ?_
      refine z_bipush (v := -9) dX4_talk_124 (by decide) ?_
      refine z_icmp_ne (tgt := 133) dX4_talk_126 (by decide) (fun hb126 => ?_) (fun hb126 => ?_)
      · refine z_iconst (v := 0) dX4_talk_133 (by decide) ?_
        refine z_iret dX4_talk_134 rfl ?_
        refine zq hQ ?_
        simp [hb126]
      · refine z_iconst (v := 1) dX4_talk_129 (by decide) ?_
        refine z_goto (tgt := 134) dX4_talk_130 (by decide) ?_
        refine z_iret dX4_talk_134 rfl ?_
        refine zq hQ ?_
        simp [hb126]
    | 7, _ =>
      refine z_tsw_in (off := 115) (tgt := 135) dX4_talk_20 (by decide) (by decide) (by decide) (by decide) ?_
      refine z_aload_n dX4_talk_135 rfl ?_
      refine z_iload_n dX4_talk_136 rfl ?_
      refine z_aload_n dX4_talk_137 rfl ?_
      refine z_getR dX4_talk_138 zf_X4_35 (by first | rfl | assumption) rfl ?_
      refine z_bipush (v := 121) dX4_talk_141 (by decide) ?_
      refine z_iald dX4_talk_143 (by first | rfl | assumption) rfl (by first | assumption | omega | decide) (by decide) ?_
      refine z_cV2r (dy := 0) dX4_talk_144 zl_X4_113 zy_X4_isThere (by first | rfl | assumption) rfl (by decide) (Nat.le_of_ble_eq_true rfl) (sp_isThereM h hk _) ?_
      refine z_if_eqb (tgt := 154) dX4_talk_147 (by decide) (fun hb147 => ?_) (fun hb147 => ?_)
      · refine z_iconst (v := 0) dX4_talk_154 (by decide) ?_
        refine z_iret dX4_talk_155 rfl ?_
        refine zq hQ ?_
        simp [hb147]
      · refine z_iconst (v := 1) dX4_talk_150 (by decide) ?_
        refine z_goto (tgt := 155) dX4_talk_151 (by decide) ?_
        refine z_iret dX4_talk_155 rfl ?_
        refine zq hQ ?_
        simp [hb147]
  · rw [zsel_out ho] at hQ
    refine z_tsw_out (tgt := 156) dX4_talk_20 ho (by decide) ?_
    refine z_iconst (v := -1) dX4_talk_156 (by decide) ?_
    refine z_iret dX4_talk_157 rfl ?_
    exact hQ
/-- what all may say together -/
def zmays (kn : Nat → Int32) (sn : Int32) (an : Nat → Int32) (set : Int32) (ns np : Nat) : Int32 := zfold (fun p a => a ||| zmay (kn p) sn an set ns) 0 np
theorem sp_silent {μ : ZMem} {ns np n : Nat} (h : zsM μ ns) (hp : zpM μ np) (hm : znM μ n) : Sp layM mX4_silent 2 [.ref 0] μ (some (.int (zff (fun q => decide (zmays (μ.1 7) (μ.1 5 0) (μ.1 4) (zthere (μ.1 9) (fun k => μ.1 9 (30 + k)) (μ.1 9 121 + nI q) (μ.1 8 0) n) ns np = 0)) 0 10))) μ := by
  have hpn := hp.1
  have h5 := hp.2
  refine Sp.mk (L := [some (.ref 0), none, none, none]) rfl (by decide +kernel) rfl rfl (fun Q hQ => ?_)
  refine z_iconst (v := 0) dX4_silent_0 (by decide) ?_
  refine z_istore_n (i := 1) dX4_silent_1 rfl (by decide) ?_
  generalize hpp : (fun q => decide (zmays (μ.1 7) (μ.1 5 0) (μ.1 4) (zthere (μ.1 9) (fun k => μ.1 9 (30 + k)) (μ.1 9 121 + nI q) (μ.1 8 0) n) ns np = 0)) = p at hQ
  have key : ∀ k, k ≤ 10 → zff p 0 10 = zff p k (10 - k) → ∀ z2 z3, ZW layM mX4_silent 2 Q 2 [some (.ref 0), some (.int (nI k)), z2, z3] [] μ := by
    refine zdown 10 ?_ ?_
    · intro e z2 z3
      rw [e, zff_end] at hQ
      refine z_iload_n dX4_silent_2 rfl ?_
      refine z_bipush (v := 9) dX4_silent_3 (by decide) ?_
      refine z_icmp_gt (tgt := 61) dX4_silent_5 (by decide) (fun _ => ?_) (fun hx_ => absurd (by decide) hx_)
      refine z_bipush (v := -9) dX4_silent_61 (by decide) ?_
      refine z_iret dX4_silent_63 rfl ?_
      exact hQ
    · intro k hk ih e z2 z3
      rw [zff_step hk] at e
      refine z_iload_n dX4_silent_2 rfl ?_
      refine z_bipush (v := 9) dX4_silent_3 (by decide) ?_
      refine z_icmp_gt (tgt := 61) dX4_silent_5 (by decide) (fun hx_ => absurd hx_ (nI_nlt (a := 9) (by omega) (by decide))) (fun _ => ?_)
      refine z_iconst (v := 0) dX4_silent_8 (by decide) ?_
      refine z_istore_n (i := 2) dX4_silent_9 rfl (by decide) ?_
      refine z_iconst (v := 0) dX4_silent_10 (by decide) ?_
      refine z_istore_n (i := 3) dX4_silent_11 rfl (by decide) ?_
      refine zdown (P := fun m => ZW layM mX4_silent 2 Q 12 [some (.ref 0), some (.int (nI k)), some (.int (zmays (μ.1 7) (μ.1 5 0) (μ.1 4) (zthere (μ.1 9) (fun k => μ.1 9 (30 + k)) (μ.1 9 121 + nI k) (μ.1 8 0) n) ns m)), some (.int (nI m))] [] μ) np ?_ ?_ 0 (Nat.zero_le _)
      · refine z_iload_n dX4_silent_12 rfl ?_
        refine z_aload_n dX4_silent_13 rfl ?_
        refine z_getR dX4_silent_14 zf_X4_26 (by first | rfl | assumption) rfl ?_
        refine z_iconst (v := 0) dX4_silent_17 (by decide) ?_
        refine z_iald dX4_silent_18 (by first | rfl | assumption) rfl (by first | assumption | omega | decide) (by decide) ?_
        refine z_icmp_ge (tgt := 49) dX4_silent_19 (by decide) (fun _ => ?_) (fun hx_ => absurd (by rw [hpn]; exact Int32.le_refl _) hx_)
        refine z_iload_n dX4_silent_49 rfl ?_
        refine z_if_ne (tgt := 55) dX4_silent_50 (by decide) (fun hb50 => ?_) (fun hb50 => ?_)
        · refine z_iinc (v := 1) dX4_silent_55 rfl (by decide) (by decide) ?_
          refine z_goto (tgt := 2) dX4_silent_58 (by decide) ?_
          exact ZW.eq (ih (by rw [e, if_neg (by rw [← hpp]; simpa using hb50)]) _ _) rfl (by rw [nI_succ k]; rfl)
        · refine z_iload_n dX4_silent_53 rfl ?_
          refine z_iret dX4_silent_54 rfl ?_
          rw [e, if_pos (by rw [← hpp]; simpa using hb50)] at hQ
          exact hQ
      · intro m hm2 ih2
        refine z_iload_n dX4_silent_12 rfl ?_
        refine z_aload_n dX4_silent_13 rfl ?_
        refine z_getR dX4_silent_14 zf_X4_26 (by first | rfl | assumption) rfl ?_
        refine z_iconst (v := 0) dX4_silent_17 (by decide) ?_
        refine z_iald dX4_silent_18 (by first | rfl | assumption) rfl (by first | assumption | omega | decide) (by decide) ?_
        refine z_icmp_ge (tgt := 49) dX4_silent_19 (by decide) (fun hx_ => absurd hx_ (by rw [hpn]; exact nI_ge hm2 (by omega))) (fun _ => ?_)
        refine z_iload_n dX4_silent_22 rfl ?_
        refine z_aload_n dX4_silent_23 rfl ?_
        refine z_iload_n dX4_silent_24 rfl ?_
        refine z_aload_n dX4_silent_25 rfl ?_
        refine z_aload_n dX4_silent_26 rfl ?_
        refine z_getR dX4_silent_27 zf_X4_35 (by first | rfl | assumption) rfl ?_
        refine z_bipush (v := 121) dX4_silent_30 (by decide) ?_
        refine z_iald dX4_silent_32 (by first | rfl | assumption) rfl (by first | assumption | omega | decide) (by decide) ?_
        refine z_iload_n dX4_silent_33 rfl ?_
        refine z_iadd dX4_silent_34 ?_
        refine z_cV1r (dy := 1) dX4_silent_35 zl_X4_133 zy_X4_there (by first | rfl | assumption) rfl (by decide) (Nat.le_of_ble_eq_true rfl) (sp_thereM hm _) ?_
        refine z_cV2r (dy := 1) dX4_silent_38 zl_X4_136 zy_X4_mayOf (by first | rfl | assumption) rfl (by decide) (Nat.le_of_ble_eq_true rfl) (sp_mayOf h (by omega) _) ?_
        refine z_ior dX4_silent_41 ?_
        refine z_istore_n (i := 2) dX4_silent_42 rfl (by decide) ?_
        refine z_iinc (v := 1) dX4_silent_43 rfl (by decide) (by decide) ?_
        refine z_goto (tgt := 12) dX4_silent_46 (by decide) ?_
        exact ZW.eq ih2 rfl (by rw [nI_succ m]; rfl)
  exact key 0 (by omega) rfl none none
/-- who said first what answers a sound: the reference's way -/
def zfasM (to_ by_ : Nat → Int32) (n : Nat) (m : Nat) : Int32 := zfold (fun k a => if to_ k = -9 ∧ ¬ zfa to_ n (nI k) = -9 then a ||| (1 <<< (by_ (zfa to_ n (nI k)).toNatClampNeg &&& 31)) else a) 0 m
theorem spM_now {μ : ZMem} {ns np n : Nat} (h : zsM μ ns) (hp : zpM μ np) (hm : znM μ n) (hv : ztv (fun k => μ.1 9 (90 + k)) n) (what : Int32) : Sp layM mX4_now 3 [.ref 0, .int what] μ (some (.int (zsel [μ.1 9 121, μ.1 9 120, zthere (μ.1 9) (fun k => μ.1 9 (30 + k)) (μ.1 9 121) (μ.1 8 0) n, zfold (fun k a => if zfa (fun k => μ.1 9 (90 + k)) n (nI k) = -9 then a + 1 else a) 0 n, if n = 0 then -9 else nI (zbst (fun k => nI (zfr (fun k => μ.1 9 (90 + k)) 30 k)) n), if n = 0 then -9 else nI (n - 1), zfasM (fun k => μ.1 9 (90 + k)) (fun k => μ.1 9 (60 + k)) n n, zff (fun q => decide (zmays (μ.1 7) (μ.1 5 0) (μ.1 4) (zthere (μ.1 9) (fun k => μ.1 9 (30 + k)) (μ.1 9 121 + nI q) (μ.1 8 0) n) ns np = 0)) 0 10] what (-1)))) μ := by
  have hn := hm.1
  have h30 := hm.2
  refine Sp.mk (L := [some (.ref 0), some (.int what), none, none, none]) rfl (by decide +kernel) rfl rfl (fun Q hQ => ?_)
  refine z_iconst (v := 0) dX4_now_0 (by decide) ?_
  refine z_istore_n (i := 2) dX4_now_1 rfl (by decide) ?_
  refine z_iload_n dX4_now_2 rfl ?_
  rcases zsw_cases 8 what (by decide) with ⟨q, hq, rfl⟩ | ho
  · rw [zsel_at _ _ (by omega)] at hQ
    match q, hq with
    | 0, _ =>
      refine z_tsw_in (off := 45) (tgt := 48) dX4_now_3 (by decide) (by decide) (by decide) (by decide) ?_
      refine z_aload_n dX4_now_48 rfl ?_
      refine z_getR dX4_now_49 zf_X4_35 (by first | rfl | assumption) rfl ?_
      refine z_bipush (v := 121) dX4_now_52 (by decide) ?_
      refine z_iald dX4_now_54 (by first | rfl | assumption) rfl (by first | assumption | omega | decide) (by decide) ?_
      refine z_iret dX4_now_55 rfl ?_
      exact hQ
    | 1, _ =>
      refine z_tsw_in (off := 53) (tgt := 56) dX4_now_3 (by decide) (by decide) (by decide) (by decide) ?_
      refine z_aload_n dX4_now_56 rfl ?_
      refine z_getR dX4_now_57 zf_X4_35 (by first | rfl | assumption) rfl ?_
      refine z_bipush (v := 120) dX4_now_60 (by decide) ?_
      refine z_iald dX4_now_62 (by first | rfl | assumption) rfl (by first | assumption | omega | decide) (by decide) ?_
      refine z_iret dX4_now_63 rfl ?_
      exact hQ
    | 2, _ =>
      refine z_tsw_in (off := 61) (tgt := 64) dX4_now_3 (by decide) (by decide) (by decide) (by decide) ?_
      refine z_aload_n dX4_now_64 rfl ?_
      refine z_aload_n dX4_now_65 rfl ?_
      refine z_getR dX4_now_66 zf_X4_35 (by first | rfl | assumption) rfl ?_
      refine z_bipush (v := 121) dX4_now_69 (by decide) ?_
      refine z_iald dX4_now_71 (by first | rfl | assumption) rfl (by first | assumption | omega | decide) (by decide) ?_
      refine z_cV1r (dy := 1) dX4_now_72 zl_X4_133 zy_X4_there (by first | rfl | assumption) rfl (by decide) (Nat.le_of_ble_eq_true rfl) (sp_thereM hm _) ?_
      refine z_iret dX4_now_75 rfl ?_
      exact hQ
    | 3, _ =>
      refine z_tsw_in (off := 73) (tgt := 76) dX4_now_3 (by decide) (by decide) (by decide) (by decide) ?_
      refine z_iconst (v := 0) dX4_now_76 (by decide) ?_
      refine z_istore_n (i := 3) dX4_now_77 rfl (by decide) ?_
      refine zdown (P := fun k => ZW layM mX4_now 3 Q 78 [some (.ref 0), some (.int (nI 3)), some (.int (zfold (fun k a => if zfa (fun k => μ.1 9 (90 + k)) n (nI k) = -9 then a + 1 else a) 0 k)), some (.int (nI k)), none] [] μ) n ?_ ?_ 0 (Nat.zero_le n)
      · refine z_iload_n dX4_now_78 rfl ?_
        refine z_aload_n dX4_now_79 rfl ?_
        refine z_getR dX4_now_80 zf_X4_35 (by first | rfl | assumption) rfl ?_
        refine z_bipush (v := 120) dX4_now_83 (by decide) ?_
        refine z_iald dX4_now_85 (by first | rfl | assumption) rfl (by first | assumption | omega | decide) (by decide) ?_
        refine z_icmp_ge (tgt := 113) dX4_now_86 (by decide) (fun _ => ?_) (fun hx_ => absurd (by rw [hn]; exact Int32.le_refl _) hx_)
        refine z_iload_n dX4_now_113 rfl ?_
        refine z_iret dX4_now_114 rfl ?_
        exact hQ
      · intro k hk ih
        refine z_iload_n dX4_now_78 rfl ?_
        refine z_aload_n dX4_now_79 rfl ?_
        refine z_getR dX4_now_80 zf_X4_35 (by first | rfl | assumption) rfl ?_
        refine z_bipush (v := 120) dX4_now_83 (by decide) ?_
        refine z_iald dX4_now_85 (by first | rfl | assumption) rfl (by first | assumption | omega | decide) (by decide) ?_
        refine z_icmp_ge (tgt := 113) dX4_now_86 (by decide) (fun hx_ => absurd hx_ (by rw [hn]; exact nI_ge hk (by omega))) (fun _ => ?_)
        refine z_iload_n dX4_now_89 rfl ?_
        refine z_aload_n dX4_now_90 rfl ?_
        refine z_iload_n dX4_now_91 rfl ?_
        refine z_cV1r (dy := 0) dX4_now_92 zl_X4_145 zy_X4_firstAnswer (by first | rfl | assumption) rfl (by decide) (Nat.le_of_ble_eq_true rfl) (sp_firstAnswer hm hv hk) ?_
        refine z_bipush (v := -9) dX4_now_95 (by decide) ?_
        refine z_icmp_ne (tgt := 104) dX4_now_97 (by decide) (fun hb97 => ?_) (fun hb97 => ?_)
        · refine z_iconst (v := 0) dX4_now_104 (by decide) ?_
          refine z_iadd dX4_now_105 ?_
          refine z_istore_n (i := 2) dX4_now_106 rfl (by decide) ?_
          refine z_iinc (v := 1) dX4_now_107 rfl (by decide) (by decide) ?_
          refine z_goto (tgt := 78) dX4_now_110 (by decide) ?_
          exact ZW.eq ih rfl (by simp [zfold, nI_succ k, hb97])
        · refine z_iconst (v := 1) dX4_now_100 (by decide) ?_
          refine z_goto (tgt := 105) dX4_now_101 (by decide) ?_
          refine z_iadd dX4_now_105 ?_
          refine z_istore_n (i := 2) dX4_now_106 rfl (by decide) ?_
          refine z_iinc (v := 1) dX4_now_107 rfl (by decide) (by decide) ?_
          refine z_goto (tgt := 78) dX4_now_110 (by decide) ?_
          exact ZW.eq ih rfl (by simp [zfold, nI_succ k, hb97])
    | 4, _ =>
      refine z_tsw_in (off := 112) (tgt := 115) dX4_now_3 (by decide) (by decide) (by decide) (by decide) ?_
      refine z_aload_n dX4_now_115 rfl ?_
      refine z_cV0r (dy := 1) dX4_now_116 zl_X4_155 zy_X4_farthest (by first | rfl | assumption) rfl (by decide) (Nat.le_of_ble_eq_true rfl) (sp_farthestM hm hv) ?_
      refine z_iret dX4_now_119 rfl ?_
      exact hQ
    | 5, _ =>
      refine z_tsw_in (off := 117) (tgt := 120) dX4_now_3 (by decide) (by decide) (by decide) (by decide) ?_
      have hQ' : Q (some (.int (if n = 0 then -9 else nI (n - 1)))) μ := hQ
      by_cases h0 : n = 0
      · rw [if_pos h0] at hQ'
        refine z_aload_n dX4_now_120 rfl ?_
        refine z_getR dX4_now_121 zf_X4_35 (by first | rfl | assumption) rfl ?_
        refine z_bipush (v := 120) dX4_now_124 (by decide) ?_
        refine z_iald dX4_now_126 (by first | rfl | assumption) rfl (by first | assumption | omega | decide) (by decide) ?_
        refine z_if_ne (tgt := 135) dX4_now_127 (by decide) (fun hx_ => absurd (by show μ.1 9 120 = 0; rw [hn, h0]; rfl) hx_) (fun _ => ?_)
        refine z_bipush (v := -9) dX4_now_130 (by decide) ?_
        refine z_goto (tgt := 144) dX4_now_132 (by decide) ?_
        refine z_iret dX4_now_144 rfl ?_
        exact hQ'
      · rw [if_neg h0] at hQ'
        have e1 : μ.1 9 120 - 1 = nI (n - 1) := by
          obtain ⟨m, rfl⟩ : ∃ m, n = m + 1 := ⟨n - 1, by omega⟩
          rw [hn, nI_pred]; rfl
        rw [← e1] at hQ'
        refine z_aload_n dX4_now_120 rfl ?_
        refine z_getR dX4_now_121 zf_X4_35 (by first | rfl | assumption) rfl ?_
        refine z_bipush (v := 120) dX4_now_124 (by decide) ?_
        refine z_iald dX4_now_126 (by first | rfl | assumption) rfl (by first | assumption | omega | decide) (by decide) ?_
        refine z_if_ne (tgt := 135) dX4_now_127 (by decide) (fun _ => ?_) (fun hx_ => absurd hx_ (by show ¬ μ.1 9 120 = 0; rw [hn]; exact nI_ne0 (by omega) (by omega)))
        refine z_aload_n dX4_now_135 rfl ?_
        refine z_getR dX4_now_136 zf_X4_35 (by first | rfl | assumption) rfl ?_
        refine z_bipush (v := 120) dX4_now_139 (by decide) ?_
        refine z_iald dX4_now_141 (by first | rfl | assumption) rfl (by first | assumption | omega | decide) (by decide) ?_
        refine z_iconst (v := 1) dX4_now_142 (by decide) ?_
        refine z_isub dX4_now_143 ?_
        refine z_iret dX4_now_144 rfl ?_
        exact hQ'
    | 6, _ =>
      refine z_tsw_in (off := 142) (tgt := 145) dX4_now_3 (by decide) (by decide) (by decide) (by decide) ?_
      refine z_iconst (v := 0) dX4_now_145 (by decide) ?_
      refine z_istore_n (i := 3) dX4_now_146 rfl (by decide) ?_
      have key : ∀ k, k ≤ n → ∀ z, ZW layM mX4_now 3 Q 147 [some (.ref 0), some (.int (nI 6)), some (.int (zfasM (fun k => μ.1 9 (90 + k)) (fun k => μ.1 9 (60 + k)) n k)), some (.int (nI k)), z] [] μ := by
        refine zdown n ?_ ?_
        · intro z
          refine z_iload_n dX4_now_147 rfl ?_
          refine z_aload_n dX4_now_148 rfl ?_
          refine z_getR dX4_now_149 zf_X4_35 (by first | rfl | assumption) rfl ?_
          refine z_bipush (v := 120) dX4_now_152 (by decide) ?_
          refine z_iald dX4_now_154 (by first | rfl | assumption) rfl (by first | assumption | omega | decide) (by decide) ?_
          refine z_icmp_ge (tgt := 216) dX4_now_155 (by decide) (fun _ => ?_) (fun hx_ => absurd (by rw [hn]; exact Int32.le_refl _) hx_)
          refine z_iload_n dX4_now_216 rfl ?_
          refine z_iret dX4_now_217 rfl ?_
          exact hQ
        · intro k hk ih z
          have es : zfasM (fun k => μ.1 9 (90 + k)) (fun k => μ.1 9 (60 + k)) n (k + 1) = if μ.1 9 (90 + k) = -9 ∧ ¬ zfa (fun k => μ.1 9 (90 + k)) n (nI k) = -9 then zfasM (fun k => μ.1 9 (90 + k)) (fun k => μ.1 9 (60 + k)) n k ||| (1 <<< (μ.1 9 (60 + (zfa (fun k => μ.1 9 (90 + k)) n (nI k)).toNatClampNeg) &&& 31)) else zfasM (fun k => μ.1 9 (90 + k)) (fun k => μ.1 9 (60 + k)) n k := rfl
          refine z_iload_n dX4_now_147 rfl ?_
          refine z_aload_n dX4_now_148 rfl ?_
          refine z_getR dX4_now_149 zf_X4_35 (by first | rfl | assumption) rfl ?_
          refine z_bipush (v := 120) dX4_now_152 (by decide) ?_
          refine z_iald dX4_now_154 (by first | rfl | assumption) rfl (by first | assumption | omega | decide) (by decide) ?_
          refine z_icmp_ge (tgt := 216) dX4_now_155 (by decide) (fun hx_ => absurd hx_ (by rw [hn]; exact nI_ge hk (by omega))) (fun _ => ?_)
          refine z_aload_n dX4_now_158 rfl ?_
          refine z_getR dX4_now_159 zf_X4_35 (by first | rfl | assumption) rfl ?_
          refine z_bipush (v := 90) dX4_now_162 (by decide) ?_
          refine z_iload_n dX4_now_164 rfl ?_
          refine z_iadd dX4_now_165 ?_
          refine z_iald dX4_now_166 (by first | rfl | assumption) (zix 90 k rfl) (by omega) (by decide) ?_
          refine z_bipush (v := -9) dX4_now_167 (by decide) ?_
          refine z_icmp_ne (tgt := 180) dX4_now_169 (by decide) (fun hb169 => ?_) (fun hb169 => ?_)
          · refine z_bipush (v := -9) dX4_now_180 (by decide) ?_
            refine z_istore dX4_now_182 (by decide) ?_
            refine z_iload_n dX4_now_184 rfl ?_
            refine z_iload dX4_now_185 rfl ?_
            refine z_bipush (v := -9) dX4_now_187 (by decide) ?_
            refine z_icmp_ne (tgt := 196) dX4_now_189 (by decide) (fun hx_ => absurd (rfl) hx_) (fun _ => ?_)
            refine z_iconst (v := 0) dX4_now_192 (by decide) ?_
            refine z_goto (tgt := 208) dX4_now_193 (by decide) ?_
            refine z_ior dX4_now_208 ?_
            refine z_istore_n (i := 2) dX4_now_209 rfl (by decide) ?_
            refine z_iinc (v := 1) dX4_now_210 rfl (by decide) (by decide) ?_
            refine z_goto (tgt := 147) dX4_now_213 (by decide) ?_
            refine ZW.eq (ih (some (.int (-9)))) rfl ?_
            rw [es, if_neg (fun q => hb169 q.1), nI_succ k, Int32.or_zero]
            rfl
          · refine z_aload_n dX4_now_172 rfl ?_
            refine z_iload_n dX4_now_173 rfl ?_
            refine z_cV1r (dy := 0) dX4_now_174 zl_X4_145 zy_X4_firstAnswer (by first | rfl | assumption) rfl (by decide) (Nat.le_of_ble_eq_true rfl) (sp_firstAnswer hm hv hk) ?_
            refine z_goto (tgt := 182) dX4_now_177 (by decide) ?_
            rcases zfa_cases (fun k => μ.1 9 (90 + k)) n (nI k) with e | ⟨j, hj, e, -⟩
            · rw [e]
              refine z_istore dX4_now_182 (by decide) ?_
              refine z_iload_n dX4_now_184 rfl ?_
              refine z_iload dX4_now_185 rfl ?_
              refine z_bipush (v := -9) dX4_now_187 (by decide) ?_
              refine z_icmp_ne (tgt := 196) dX4_now_189 (by decide) (fun hx_ => absurd (rfl) hx_) (fun _ => ?_)
              refine z_iconst (v := 0) dX4_now_192 (by decide) ?_
              refine z_goto (tgt := 208) dX4_now_193 (by decide) ?_
              refine z_ior dX4_now_208 ?_
              refine z_istore_n (i := 2) dX4_now_209 rfl (by decide) ?_
              refine z_iinc (v := 1) dX4_now_210 rfl (by decide) (by decide) ?_
              refine z_goto (tgt := 147) dX4_now_213 (by decide) ?_
              refine ZW.eq (ih (some (.int (-9)))) rfl ?_
              rw [es, if_neg (fun q => q.2 e), nI_succ k, Int32.or_zero]
              rfl
            · rw [e]
              refine z_istore dX4_now_182 (by decide) ?_
              refine z_iload_n dX4_now_184 rfl ?_
              refine z_iload dX4_now_185 rfl ?_
              refine z_bipush (v := -9) dX4_now_187 (by decide) ?_
              refine z_icmp_ne (tgt := 196) dX4_now_189 (by decide) (fun _ => ?_) (fun hx_ => absurd hx_ (nI_ne9 (by omega)))
              refine z_iconst (v := 1) dX4_now_196 (by decide) ?_
              refine z_aload_n dX4_now_197 rfl ?_
              refine z_getR dX4_now_198 zf_X4_35 (by first | rfl | assumption) rfl ?_
              refine z_bipush (v := 60) dX4_now_201 (by decide) ?_
              refine z_iload dX4_now_203 rfl ?_
              refine z_iadd dX4_now_205 ?_
              refine z_iald dX4_now_206 (by first | rfl | assumption) (zix 60 j rfl) (by omega) (by decide) ?_
              refine z_ishl dX4_now_207 ?_
              refine z_ior dX4_now_208 ?_
              refine z_istore_n (i := 2) dX4_now_209 rfl (by decide) ?_
              refine z_iinc (v := 1) dX4_now_210 rfl (by decide) (by decide) ?_
              refine z_goto (tgt := 147) dX4_now_213 (by decide) ?_
              refine ZW.eq (ih (some (.int (nI j)))) rfl ?_
              rw [es, if_pos ⟨hb169, by rw [e]; exact nI_ne9 (by omega)⟩, nI_succ k, e, nI_clamp (by omega)]
              rfl
      exact key 0 (Nat.zero_le _) none
    | 7, _ =>
      refine z_tsw_in (off := 215) (tgt := 218) dX4_now_3 (by decide) (by decide) (by decide) (by decide) ?_
      refine z_aload_n dX4_now_218 rfl ?_
      refine z_cV0r (dy := 2) dX4_now_219 zl_X4_158 zy_X4_silent (by first | rfl | assumption) rfl (by decide) (Nat.le_of_ble_eq_true rfl) (sp_silent h hp hm) ?_
      refine z_iret dX4_now_222 rfl ?_
      exact hQ
  · rw [zsel_out ho] at hQ
    refine z_tsw_out (tgt := 223) dX4_now_3 ho (by decide) ?_
    refine z_iconst (v := -1) dX4_now_223 (by decide) ?_
    refine z_iret dX4_now_224 rfl ?_
    exact hQ
theorem spM_worth_bad {μ : ZMem} {n : Nat} (h : znM μ n) {i : Int32} (hb : (i < 0 ∨ nI n ≤ i) ∨ ∃ k, k < n ∧ i = nI k ∧ ¬ μ.1 9 (90 + k) = -9) : Sp layM mX4_worth 1 [.ref 0, .int i] μ (some (.int (-1))) μ := by
  have h30 := h.2
  refine Sp.mk (L := [some (.ref 0), some (.int i), none, none]) rfl (by decide +kernel) rfl rfl (fun Q hQ => ?_)
  rcases hb with hb | ⟨k, hk, rfl, hr⟩
  · refine z_iload_n dX4_worth_0 rfl ?_
    refine z_iconst (v := 0) dX4_worth_1 (by decide) ?_
    refine z_aload_n dX4_worth_2 rfl ?_
    refine z_getR dX4_worth_3 zf_X4_35 (by first | rfl | assumption) rfl ?_
    refine z_bipush (v := 120) dX4_worth_6 (by decide) ?_
    refine z_iald dX4_worth_8 (by first | rfl | assumption) rfl (by first | assumption | omega | decide) (by decide) ?_
    refine z_iconst (v := 1) dX4_worth_9 (by decide) ?_
    refine z_isub dX4_worth_10 ?_
    refine z_cS3r (dy := 0) dX4_worth_11 zl_X4_57 zy_X4_in (by decide) (Nat.le_of_ble_eq_true rfl) (sp_in_f (hb.imp id (fun q => by rw [h.1]; exact zpred_lt (by omega) q))) ?_
    refine z_if_eq (tgt := 31) dX4_worth_14 (by decide) (fun _ => ?_) (fun hx_ => absurd (rfl) hx_)
    refine z_iconst (v := -1) dX4_worth_31 (by decide) ?_
    refine z_iret dX4_worth_32 rfl ?_
    exact hQ
  · refine z_iload_n dX4_worth_0 rfl ?_
    refine z_iconst (v := 0) dX4_worth_1 (by decide) ?_
    refine z_aload_n dX4_worth_2 rfl ?_
    refine z_getR dX4_worth_3 zf_X4_35 (by first | rfl | assumption) rfl ?_
    refine z_bipush (v := 120) dX4_worth_6 (by decide) ?_
    refine z_iald dX4_worth_8 (by first | rfl | assumption) rfl (by first | assumption | omega | decide) (by decide) ?_
    refine z_iconst (v := 1) dX4_worth_9 (by decide) ?_
    refine z_isub dX4_worth_10 ?_
    refine z_cS3r (dy := 0) dX4_worth_11 zl_X4_57 zy_X4_in (by decide) (Nat.le_of_ble_eq_true rfl) (sp_in_t (nI_pos (by omega)) (by rw [h.1]; exact zpred_nlt (by omega) hk)) ?_
    refine z_if_eq (tgt := 31) dX4_worth_14 (by decide) (fun hx_ => absurd hx_ (by decide)) (fun _ => ?_)
    refine z_aload_n dX4_worth_17 rfl ?_
    refine z_getR dX4_worth_18 zf_X4_35 (by first | rfl | assumption) rfl ?_
    refine z_bipush (v := 90) dX4_worth_21 (by decide) ?_
    refine z_iload_n dX4_worth_23 rfl ?_
    refine z_iadd dX4_worth_24 ?_
    refine z_iald dX4_worth_25 (by first | rfl | assumption) (zix 90 k rfl) (by omega) (by decide) ?_
    refine z_bipush (v := -9) dX4_worth_26 (by decide) ?_
    refine z_icmp_eq (tgt := 33) dX4_worth_28 (by decide) (fun hx_ => absurd hx_ hr) (fun _ => ?_)
    refine z_iconst (v := -1) dX4_worth_31 (by decide) ?_
    refine z_iret dX4_worth_32 rfl ?_
    exact hQ
theorem spM_worth {μ : ZMem} {ns n k : Nat} (hs : ns ≤ 8) (h : znM μ n) (hv : ztv (fun k => μ.1 9 (90 + k)) n) (hk : k < n) (hr : μ.1 9 (90 + k) = -9) (hw : ∀ j, j < n → ∃ w, w < ns ∧ μ.1 9 j = nI w) : Sp layM mX4_worth 1 [.ref 0, .int (nI k)] μ (some (.int (zwo (fun j => nI (zrt (fun k => μ.1 9 (90 + k)) 30 j)) (μ.1 3) (μ.1 9) (nI k) n))) μ := by
  have hn := h.1
  have h30 := h.2
  refine Sp.mk (L := [some (.ref 0), some (.int (nI k)), none, none]) rfl (by decide +kernel) rfl rfl (fun Q hQ => ?_)
  refine z_iload_n dX4_worth_0 rfl ?_
  refine z_iconst (v := 0) dX4_worth_1 (by decide) ?_
  refine z_aload_n dX4_worth_2 rfl ?_
  refine z_getR dX4_worth_3 zf_X4_35 (by first | rfl | assumption) rfl ?_
  refine z_bipush (v := 120) dX4_worth_6 (by decide) ?_
  refine z_iald dX4_worth_8 (by first | rfl | assumption) rfl (by first | assumption | omega | decide) (by decide) ?_
  refine z_iconst (v := 1) dX4_worth_9 (by decide) ?_
  refine z_isub dX4_worth_10 ?_
  refine z_cS3r (dy := 0) dX4_worth_11 zl_X4_57 zy_X4_in (by decide) (Nat.le_of_ble_eq_true rfl) (sp_in_t (nI_pos (by omega)) (by rw [h.1]; exact zpred_nlt (by omega) hk)) ?_
  refine z_if_eq (tgt := 31) dX4_worth_14 (by decide) (fun hx_ => absurd hx_ (by decide)) (fun _ => ?_)
  refine z_aload_n dX4_worth_17 rfl ?_
  refine z_getR dX4_worth_18 zf_X4_35 (by first | rfl | assumption) rfl ?_
  refine z_bipush (v := 90) dX4_worth_21 (by decide) ?_
  refine z_iload_n dX4_worth_23 rfl ?_
  refine z_iadd dX4_worth_24 ?_
  refine z_iald dX4_worth_25 (by first | rfl | assumption) (zix 90 k rfl) (by omega) (by decide) ?_
  refine z_bipush (v := -9) dX4_worth_26 (by decide) ?_
  refine z_icmp_eq (tgt := 33) dX4_worth_28 (by decide) (fun _ => ?_) (fun hx_ => absurd hr hx_)
  refine z_iconst (v := 0) dX4_worth_33 (by decide) ?_
  refine z_istore_n (i := 2) dX4_worth_34 rfl (by decide) ?_
  refine z_iconst (v := 0) dX4_worth_35 (by decide) ?_
  refine z_istore_n (i := 3) dX4_worth_36 rfl (by decide) ?_
  refine zdown (P := fun m => ZW layM mX4_worth 1 Q 37 [some (.ref 0), some (.int (nI k)), some (.int (zwo (fun j => nI (zrt (fun k => μ.1 9 (90 + k)) 30 j)) (μ.1 3) (μ.1 9) (nI k) m)), some (.int (nI m))] [] μ) n ?_ ?_ 0 (Nat.zero_le n)
  · refine z_iload_n dX4_worth_37 rfl ?_
    refine z_aload_n dX4_worth_38 rfl ?_
    refine z_getR dX4_worth_39 zf_X4_35 (by first | rfl | assumption) rfl ?_
    refine z_bipush (v := 120) dX4_worth_42 (by decide) ?_
    refine z_iald dX4_worth_44 (by first | rfl | assumption) rfl (by first | assumption | omega | decide) (by decide) ?_
    refine z_icmp_ge (tgt := 83) dX4_worth_45 (by decide) (fun _ => ?_) (fun hx_ => absurd (by rw [hn]; exact Int32.le_refl _) hx_)
    refine z_iload_n dX4_worth_83 rfl ?_
    refine z_iret dX4_worth_84 rfl ?_
    exact hQ
  · intro m hm ih
    obtain ⟨w, hws, hwe⟩ := hw m hm
    refine z_iload_n dX4_worth_37 rfl ?_
    refine z_aload_n dX4_worth_38 rfl ?_
    refine z_getR dX4_worth_39 zf_X4_35 (by first | rfl | assumption) rfl ?_
    refine z_bipush (v := 120) dX4_worth_42 (by decide) ?_
    refine z_iald dX4_worth_44 (by first | rfl | assumption) rfl (by first | assumption | omega | decide) (by decide) ?_
    refine z_icmp_ge (tgt := 83) dX4_worth_45 (by decide) (fun hx_ => absurd hx_ (by rw [hn]; exact nI_ge hm (by omega))) (fun _ => ?_)
    refine z_iload_n dX4_worth_48 rfl ?_
    refine z_aload_n dX4_worth_49 rfl ?_
    refine z_iload_n dX4_worth_50 rfl ?_
    refine z_cV1r (dy := 0) dX4_worth_51 zl_X4_139 zy_X4_rootOf (by first | rfl | assumption) rfl (by decide) (Nat.le_of_ble_eq_true rfl) (sp_rootOf h30 hv hm) ?_
    refine z_iload_n dX4_worth_54 rfl ?_
    refine z_icmp_ne (tgt := 74) dX4_worth_55 (by decide) (fun hb55 => ?_) (fun hb55 => ?_)
    · refine z_iconst (v := 0) dX4_worth_74 (by decide) ?_
      refine z_iadd dX4_worth_75 ?_
      refine z_istore_n (i := 2) dX4_worth_76 rfl (by decide) ?_
      refine z_iinc (v := 1) dX4_worth_77 rfl (by decide) (by decide) ?_
      refine z_goto (tgt := 37) dX4_worth_80 (by decide) ?_
      exact ZW.eq ih rfl (by simp [zwo, zfold, nI_succ, hb55, hwe, nI_clamp (show w < 2 ^ 31 by omega)])
    · refine z_aload_n dX4_worth_58 rfl ?_
      refine z_getR dX4_worth_59 zf_X4_17 (by first | rfl | assumption) rfl ?_
      refine z_aload_n dX4_worth_62 rfl ?_
      refine z_getR dX4_worth_63 zf_X4_35 (by first | rfl | assumption) rfl ?_
      refine z_iconst (v := 0) dX4_worth_66 (by decide) ?_
      refine z_iload_n dX4_worth_67 rfl ?_
      refine z_iadd dX4_worth_68 ?_
      refine z_iald dX4_worth_69 (by first | rfl | assumption) (zix0 m) (by omega) (by decide) ?_
      refine z_iald dX4_worth_70 (by first | rfl | assumption) hwe (show w < 16 by omega) (by decide) ?_
      refine z_goto (tgt := 75) dX4_worth_71 (by decide) ?_
      refine z_iadd dX4_worth_75 ?_
      refine z_istore_n (i := 2) dX4_worth_76 rfl (by decide) ?_
      refine z_iinc (v := 1) dX4_worth_77 rfl (by decide) (by decide) ?_
      refine z_goto (tgt := 37) dX4_worth_80 (by decide) ?_
      exact ZW.eq ih rfl (by simp [zwo, zfold, nI_succ, hb55, hwe, nI_clamp (show w < 2 ^ 31 by omega)])

/-! ===== AnswerSquare: saying, now, worth, images, kinds, what was told ===== -/
theorem spC_says_bad {μ : ZMem} {ns np : Nat} (h : zdS μ (μ.2.2 0 1) ns) (hp : zdP μ (μ.2.2 0 1) np) {p w : Int32} (hb : (p < 0 ∨ nI np ≤ p) ∨ (∃ i, i < np ∧ p = nI i) ∧ ((w < 0 ∨ nI ns ≤ w) ∨ ∃ j, j < ns ∧ w = nI j ∧ zbt (μ.1 (μ.2.2 0 1) 7) w)) : Sp layC mX3_says 3 [.ref 0, .int p, .int w] μ (some (.int (-1))) μ := by
  have hl0 := h.1.l0
  refine Sp.mk (L := [some (.ref 0), some (.int p), some (.int w), none]) rfl (by decide +kernel) rfl rfl (fun Q hQ => ?_)
  rcases hb with hb | ⟨⟨i, hi, hpi⟩, hb | ⟨j, hj, hwj, hs⟩⟩
  · refine z_aload_n dX3_says_0 rfl ?_
    refine z_getM dX3_says_1 zf_X3_19 (by first | rfl | assumption) rfl ?_
    refine z_iload_n dX3_says_4 rfl ?_
    refine z_cV1r (dy := 0) dX3_says_5 zl_X3_97 zy_X0_hasPerson (by first | rfl | assumption) rfl (by decide) (Nat.le_of_ble_eq_true rfl) (sp_hasPerson_f hp hb) ?_
    refine z_if_eq (tgt := 33) dX3_says_8 (by decide) (fun _ => ?_) (fun hx_ => absurd (rfl) hx_)
    refine z_iconst (v := -1) dX3_says_33 (by decide) ?_
    refine z_iret dX3_says_34 rfl ?_
    exact hQ
  · refine z_aload_n dX3_says_0 rfl ?_
    refine z_getM dX3_says_1 zf_X3_19 (by first | rfl | assumption) rfl ?_
    refine z_iload_n dX3_says_4 rfl ?_
    refine z_cV1r (dy := 0) dX3_says_5 zl_X3_97 zy_X0_hasPerson (by first | rfl | assumption) rfl (by decide) (Nat.le_of_ble_eq_true rfl) (sp_hasPerson_t hp hi hpi) ?_
    refine z_if_eq (tgt := 33) dX3_says_8 (by decide) (fun hx_ => absurd hx_ (by decide)) (fun _ => ?_)
    refine z_aload_n dX3_says_11 rfl ?_
    refine z_getM dX3_says_12 zf_X3_19 (by first | rfl | assumption) rfl ?_
    refine z_iload_n dX3_says_15 rfl ?_
    refine z_cV1r (dy := 0) dX3_says_16 zl_X3_78 zy_X0_hasSaying (by first | rfl | assumption) rfl (by decide) (Nat.le_of_ble_eq_true rfl) (sp_hasSaying_f h hb) ?_
    refine z_if_eq (tgt := 33) dX3_says_19 (by decide) (fun _ => ?_) (fun hx_ => absurd (rfl) hx_)
    refine z_iconst (v := -1) dX3_says_33 (by decide) ?_
    refine z_iret dX3_says_34 rfl ?_
    exact hQ
  · refine z_aload_n dX3_says_0 rfl ?_
    refine z_getM dX3_says_1 zf_X3_19 (by first | rfl | assumption) rfl ?_
    refine z_iload_n dX3_says_4 rfl ?_
    refine z_cV1r (dy := 0) dX3_says_5 zl_X3_97 zy_X0_hasPerson (by first | rfl | assumption) rfl (by decide) (Nat.le_of_ble_eq_true rfl) (sp_hasPerson_t hp hi hpi) ?_
    refine z_if_eq (tgt := 33) dX3_says_8 (by decide) (fun hx_ => absurd hx_ (by decide)) (fun _ => ?_)
    refine z_aload_n dX3_says_11 rfl ?_
    refine z_getM dX3_says_12 zf_X3_19 (by first | rfl | assumption) rfl ?_
    refine z_iload_n dX3_says_15 rfl ?_
    refine z_cV1r (dy := 0) dX3_says_16 zl_X3_78 zy_X0_hasSaying (by first | rfl | assumption) rfl (by decide) (Nat.le_of_ble_eq_true rfl) (sp_hasSaying_t h hj hwj) ?_
    refine z_if_eq (tgt := 33) dX3_says_19 (by decide) (fun hx_ => absurd hx_ (by decide)) (fun _ => ?_)
    refine z_aload_n dX3_says_22 rfl ?_
    refine z_getM dX3_says_23 zf_X3_19 (by first | rfl | assumption) rfl ?_
    refine z_iload_n dX3_says_26 rfl ?_
    refine z_cV1r (dy := 0) dX3_says_27 zl_X3_81 zy_X0_isSound (by first | rfl | assumption) rfl (by decide) (Nat.le_of_ble_eq_true rfl) (sp_isSound h.1 w) ?_
    rw [if_pos hs]
    refine z_if_eq (tgt := 35) dX3_says_30 (by decide) (fun hx_ => absurd hx_ (by decide)) (fun _ => ?_)
    refine z_iconst (v := -1) dX3_says_33 (by decide) ?_
    refine z_iret dX3_says_34 rfl ?_
    exact hQ
/-- the latest in talk that is there and that something answers (set: what it answers) -/
def zlat (wh at_ : Nat → Int32) (hr set old : Int32) (n : Nat) : Int32 := zlf (fun k => !decide (set &&& (1 <<< (wh k &&& 31)) = 0) && decide (hr - at_ k ≤ old)) n
theorem spC_says_state {μ : ZMem} {ns np n i j : Nat} (h : zdS μ (μ.2.2 0 1) ns) (hp : zdP μ (μ.2.2 0 1) np) (hm : zmN μ n) (hi : i < np) (hj : j < ns) (hs : ¬ zbt (μ.1 (μ.2.2 0 1) 7) (nI j)) (hb : ¬ zbt (μ.1 ((μ.2.2 0 1) + 3) i) (nI j) ∨ zlat (μ.1 12) (μ.1 13) (μ.1 11 7 + 0) (μ.1 ((μ.2.2 0 1) + 2) j) (μ.1 (μ.2.2 0 1) 5) n = -9) : Sp layC mX3_says 3 [.ref 0, .int (nI i), .int (nI j)] μ (some (.int (-2))) μ := by
  have hl0 := h.1.l0
  have hl2 := h.1.l2
  have hl3 := h.1.l3
  have h8 := h.2.2
  have h5 := hp.2.2
  refine Sp.mk (L := [some (.ref 0), some (.int (nI i)), some (.int (nI j)), none]) rfl (by decide +kernel) rfl rfl (fun Q hQ => ?_)
  refine z_aload_n dX3_says_0 rfl ?_
  refine z_getM dX3_says_1 zf_X3_19 (by first | rfl | assumption) rfl ?_
  refine z_iload_n dX3_says_4 rfl ?_
  refine z_cV1r (dy := 0) dX3_says_5 zl_X3_97 zy_X0_hasPerson (by first | rfl | assumption) rfl (by decide) (Nat.le_of_ble_eq_true rfl) (sp_hasPerson_t hp hi rfl) ?_
  refine z_if_eq (tgt := 33) dX3_says_8 (by decide) (fun hx_ => absurd hx_ (by decide)) (fun _ => ?_)
  refine z_aload_n dX3_says_11 rfl ?_
  refine z_getM dX3_says_12 zf_X3_19 (by first | rfl | assumption) rfl ?_
  refine z_iload_n dX3_says_15 rfl ?_
  refine z_cV1r (dy := 0) dX3_says_16 zl_X3_78 zy_X0_hasSaying (by first | rfl | assumption) rfl (by decide) (Nat.le_of_ble_eq_true rfl) (sp_hasSaying_t h hj rfl) ?_
  refine z_if_eq (tgt := 33) dX3_says_19 (by decide) (fun hx_ => absurd hx_ (by decide)) (fun _ => ?_)
  refine z_aload_n dX3_says_22 rfl ?_
  refine z_getM dX3_says_23 zf_X3_19 (by first | rfl | assumption) rfl ?_
  refine z_iload_n dX3_says_26 rfl ?_
  refine z_cV1r (dy := 0) dX3_says_27 zl_X3_81 zy_X0_isSound (by first | rfl | assumption) rfl (by decide) (Nat.le_of_ble_eq_true rfl) (sp_isSound h.1 (nI j)) ?_
  rw [if_neg hs]
  refine z_if_eq (tgt := 35) dX3_says_30 (by decide) (fun _ => ?_) (fun hx_ => absurd (rfl) hx_)
  refine z_aload_n dX3_says_35 rfl ?_
  refine z_getM dX3_says_36 zf_X3_19 (by first | rfl | assumption) rfl ?_
  refine z_getR dX3_says_39 zf_X3_100 (by first | rfl | assumption) rfl ?_
  refine z_iload_n dX3_says_42 rfl ?_
  refine z_iald dX3_says_43 (by first | rfl | assumption) rfl (by first | assumption | omega | decide) (by decide) ?_
  refine z_iconst (v := 1) dX3_says_44 (by decide) ?_
  refine z_iload_n dX3_says_45 rfl ?_
  refine z_ishl dX3_says_46 ?_
  refine z_iand dX3_says_47 ?_
  refine z_if_ne (tgt := 54) dX3_says_48 (by decide) (fun hb48 => ?_) (fun hb48 => ?_)
  · refine z_aload_n dX3_says_54 rfl ?_
    refine z_getR dX3_says_55 zf_X3_29 (by first | rfl | assumption) rfl ?_
    refine z_aload_n dX3_says_58 rfl ?_
    refine z_getM dX3_says_59 zf_X3_19 (by first | rfl | assumption) rfl ?_
    refine z_getR dX3_says_62 zf_X3_87 (by first | rfl | assumption) rfl ?_
    refine z_iload_n dX3_says_65 rfl ?_
    refine z_iald dX3_says_66 (by first | rfl | assumption) rfl (by first | assumption | omega | decide) (by decide) ?_
    refine z_aload_n dX3_says_67 rfl ?_
    refine z_getM dX3_says_68 zf_X3_19 (by first | rfl | assumption) rfl ?_
    refine z_getI dX3_says_71 zf_X3_137 (by first | rfl | assumption) rfl ?_
    refine z_cV2r (dy := 2) dX3_says_74 zl_X3_150 zy_X1_latestOf (by first | rfl | assumption) rfl (by decide) (Nat.le_of_ble_eq_true rfl) (sp_latestOf hm _ _) ?_
    refine z_istore_n (i := 3) dX3_says_77 rfl (by decide) ?_
    refine z_iload_n dX3_says_78 rfl ?_
    refine z_bipush (v := -9) dX3_says_79 (by decide) ?_
    have e := hb.resolve_left (fun q => q hb48)
    refine z_icmp_ne (tgt := 87) dX3_says_81 (by decide) (fun hx_ => absurd (e) hx_) (fun _ => ?_)
    refine z_bipush (v := -2) dX3_says_84 (by decide) ?_
    refine z_iret dX3_says_86 rfl ?_
    exact hQ
  · refine z_bipush (v := -2) dX3_says_51 (by decide) ?_
    refine z_iret dX3_says_53 rfl ?_
    exact hQ
theorem spC_says_full {μ : ZMem} {ns np i j : Nat} (h : zdS μ (μ.2.2 0 1) ns) (hp : zdP μ (μ.2.2 0 1) np) (hm : zmN μ 30) (hi : i < np) (hj : j < ns) (hs : ¬ zbt (μ.1 (μ.2.2 0 1) 7) (nI j)) (hk : zbt (μ.1 ((μ.2.2 0 1) + 3) i) (nI j)) (hb : ¬ zlat (μ.1 12) (μ.1 13) (μ.1 11 7 + 0) (μ.1 ((μ.2.2 0 1) + 2) j) (μ.1 (μ.2.2 0 1) 5) 30 = -9) : Sp layC mX3_says 3 [.ref 0, .int (nI i), .int (nI j)] μ (some (.int (-3))) μ := by
  have hl0 := h.1.l0
  have hl2 := h.1.l2
  have hl3 := h.1.l3
  have h8 := h.2.2
  have h5 := hp.2.2
  refine Sp.mk (L := [some (.ref 0), some (.int (nI i)), some (.int (nI j)), none]) rfl (by decide +kernel) rfl rfl (fun Q hQ => ?_)
  refine z_aload_n dX3_says_0 rfl ?_
  refine z_getM dX3_says_1 zf_X3_19 (by first | rfl | assumption) rfl ?_
  refine z_iload_n dX3_says_4 rfl ?_
  refine z_cV1r (dy := 0) dX3_says_5 zl_X3_97 zy_X0_hasPerson (by first | rfl | assumption) rfl (by decide) (Nat.le_of_ble_eq_true rfl) (sp_hasPerson_t hp hi rfl) ?_
  refine z_if_eq (tgt := 33) dX3_says_8 (by decide) (fun hx_ => absurd hx_ (by decide)) (fun _ => ?_)
  refine z_aload_n dX3_says_11 rfl ?_
  refine z_getM dX3_says_12 zf_X3_19 (by first | rfl | assumption) rfl ?_
  refine z_iload_n dX3_says_15 rfl ?_
  refine z_cV1r (dy := 0) dX3_says_16 zl_X3_78 zy_X0_hasSaying (by first | rfl | assumption) rfl (by decide) (Nat.le_of_ble_eq_true rfl) (sp_hasSaying_t h hj rfl) ?_
  refine z_if_eq (tgt := 33) dX3_says_19 (by decide) (fun hx_ => absurd hx_ (by decide)) (fun _ => ?_)
  refine z_aload_n dX3_says_22 rfl ?_
  refine z_getM dX3_says_23 zf_X3_19 (by first | rfl | assumption) rfl ?_
  refine z_iload_n dX3_says_26 rfl ?_
  refine z_cV1r (dy := 0) dX3_says_27 zl_X3_81 zy_X0_isSound (by first | rfl | assumption) rfl (by decide) (Nat.le_of_ble_eq_true rfl) (sp_isSound h.1 (nI j)) ?_
  rw [if_neg hs]
  refine z_if_eq (tgt := 35) dX3_says_30 (by decide) (fun _ => ?_) (fun hx_ => absurd (rfl) hx_)
  refine z_aload_n dX3_says_35 rfl ?_
  refine z_getM dX3_says_36 zf_X3_19 (by first | rfl | assumption) rfl ?_
  refine z_getR dX3_says_39 zf_X3_100 (by first | rfl | assumption) rfl ?_
  refine z_iload_n dX3_says_42 rfl ?_
  refine z_iald dX3_says_43 (by first | rfl | assumption) rfl (by first | assumption | omega | decide) (by decide) ?_
  refine z_iconst (v := 1) dX3_says_44 (by decide) ?_
  refine z_iload_n dX3_says_45 rfl ?_
  refine z_ishl dX3_says_46 ?_
  refine z_iand dX3_says_47 ?_
  refine z_if_ne (tgt := 54) dX3_says_48 (by decide) (fun _ => ?_) (fun hx_ => absurd hx_ hk)
  refine z_aload_n dX3_says_54 rfl ?_
  refine z_getR dX3_says_55 zf_X3_29 (by first | rfl | assumption) rfl ?_
  refine z_aload_n dX3_says_58 rfl ?_
  refine z_getM dX3_says_59 zf_X3_19 (by first | rfl | assumption) rfl ?_
  refine z_getR dX3_says_62 zf_X3_87 (by first | rfl | assumption) rfl ?_
  refine z_iload_n dX3_says_65 rfl ?_
  refine z_iald dX3_says_66 (by first | rfl | assumption) rfl (by first | assumption | omega | decide) (by decide) ?_
  refine z_aload_n dX3_says_67 rfl ?_
  refine z_getM dX3_says_68 zf_X3_19 (by first | rfl | assumption) rfl ?_
  refine z_getI dX3_says_71 zf_X3_137 (by first | rfl | assumption) rfl ?_
  refine z_cV2r (dy := 2) dX3_says_74 zl_X3_150 zy_X1_latestOf (by first | rfl | assumption) rfl (by decide) (Nat.le_of_ble_eq_true rfl) (sp_latestOf hm _ _) ?_
  refine z_istore_n (i := 3) dX3_says_77 rfl (by decide) ?_
  refine z_iload_n dX3_says_78 rfl ?_
  refine z_bipush (v := -9) dX3_says_79 (by decide) ?_
  refine z_icmp_ne (tgt := 87) dX3_says_81 (by decide) (fun _ => ?_) (fun hx_ => absurd hx_ hb)
  refine z_aload_n dX3_says_87 rfl ?_
  refine z_getR dX3_says_88 zf_X3_29 (by first | rfl | assumption) rfl ?_
  refine z_iload_n dX3_says_91 rfl ?_
  refine z_iload_n dX3_says_92 rfl ?_
  refine z_iload_n dX3_says_93 rfl ?_
  refine z_cV3r (dy := 2) dX3_says_94 zl_X3_144 zy_X1_add (by first | rfl | assumption) rfl (by decide) (Nat.le_of_ble_eq_true rfl) (sp_add_f hm _ _ _) ?_
  refine z_if_eq (tgt := 104) dX3_says_97 (by decide) (fun _ => ?_) (fun hx_ => absurd (rfl) hx_)
  refine z_bipush (v := -3) dX3_says_104 (by decide) ?_
  refine z_iret dX3_says_106 rfl ?_
  exact hQ
theorem spC_says {μ : ZMem} {ns np n i j q : Nat} (h : zdS μ (μ.2.2 0 1) ns) (hp : zdP μ (μ.2.2 0 1) np) (hm : zmN μ n) (hn : n < 30) (hi : i < np) (hj : j < ns) (hs : ¬ zbt (μ.1 (μ.2.2 0 1) 7) (nI j)) (hk : zbt (μ.1 ((μ.2.2 0 1) + 3) i) (nI j)) (hq : q < n) (hb : zlat (μ.1 12) (μ.1 13) (μ.1 11 7 + 0) (μ.1 ((μ.2.2 0 1) + 2) j) (μ.1 (μ.2.2 0 1) 5) n = nI q) : Sp layC mX3_says 3 [.ref 0, .int (nI i), .int (nI j)] μ (some (.int (nI q))) (zadd μ n (nI j) (nI i) (nI q) (μ.1 16 q) (μ.1 17 q + 1)) := by
  have hl0 := h.1.l0
  have hl2 := h.1.l2
  have hl3 := h.1.l3
  have h8 := h.2.2
  have h5 := hp.2.2
  refine Sp.mk (L := [some (.ref 0), some (.int (nI i)), some (.int (nI j)), none]) rfl (by decide +kernel) rfl rfl (fun Q hQ => ?_)
  refine z_aload_n dX3_says_0 rfl ?_
  refine z_getM dX3_says_1 zf_X3_19 (by first | rfl | assumption) rfl ?_
  refine z_iload_n dX3_says_4 rfl ?_
  refine z_cV1r (dy := 0) dX3_says_5 zl_X3_97 zy_X0_hasPerson (by first | rfl | assumption) rfl (by decide) (Nat.le_of_ble_eq_true rfl) (sp_hasPerson_t hp hi rfl) ?_
  refine z_if_eq (tgt := 33) dX3_says_8 (by decide) (fun hx_ => absurd hx_ (by decide)) (fun _ => ?_)
  refine z_aload_n dX3_says_11 rfl ?_
  refine z_getM dX3_says_12 zf_X3_19 (by first | rfl | assumption) rfl ?_
  refine z_iload_n dX3_says_15 rfl ?_
  refine z_cV1r (dy := 0) dX3_says_16 zl_X3_78 zy_X0_hasSaying (by first | rfl | assumption) rfl (by decide) (Nat.le_of_ble_eq_true rfl) (sp_hasSaying_t h hj rfl) ?_
  refine z_if_eq (tgt := 33) dX3_says_19 (by decide) (fun hx_ => absurd hx_ (by decide)) (fun _ => ?_)
  refine z_aload_n dX3_says_22 rfl ?_
  refine z_getM dX3_says_23 zf_X3_19 (by first | rfl | assumption) rfl ?_
  refine z_iload_n dX3_says_26 rfl ?_
  refine z_cV1r (dy := 0) dX3_says_27 zl_X3_81 zy_X0_isSound (by first | rfl | assumption) rfl (by decide) (Nat.le_of_ble_eq_true rfl) (sp_isSound h.1 (nI j)) ?_
  rw [if_neg hs]
  have hlat := sp_latestOf hm (μ.1 ((μ.2.2 0 1) + 2) j) (μ.1 (μ.2.2 0 1) 5)
  have e : (zlf (fun k => !decide (μ.1 ((μ.2.2 0 1) + 2) j &&& (1 <<< (μ.1 12 k &&& 31)) = 0) && decide (μ.1 11 7 + 0 - μ.1 13 k ≤ μ.1 (μ.2.2 0 1) 5)) n) = nI q := hb
  rw [e] at hlat
  refine z_if_eq (tgt := 35) dX3_says_30 (by decide) (fun _ => ?_) (fun hx_ => absurd (rfl) hx_)
  refine z_aload_n dX3_says_35 rfl ?_
  refine z_getM dX3_says_36 zf_X3_19 (by first | rfl | assumption) rfl ?_
  refine z_getR dX3_says_39 zf_X3_100 (by first | rfl | assumption) rfl ?_
  refine z_iload_n dX3_says_42 rfl ?_
  refine z_iald dX3_says_43 (by first | rfl | assumption) rfl (by first | assumption | omega | decide) (by decide) ?_
  refine z_iconst (v := 1) dX3_says_44 (by decide) ?_
  refine z_iload_n dX3_says_45 rfl ?_
  refine z_ishl dX3_says_46 ?_
  refine z_iand dX3_says_47 ?_
  refine z_if_ne (tgt := 54) dX3_says_48 (by decide) (fun _ => ?_) (fun hx_ => absurd hx_ hk)
  refine z_aload_n dX3_says_54 rfl ?_
  refine z_getR dX3_says_55 zf_X3_29 (by first | rfl | assumption) rfl ?_
  refine z_aload_n dX3_says_58 rfl ?_
  refine z_getM dX3_says_59 zf_X3_19 (by first | rfl | assumption) rfl ?_
  refine z_getR dX3_says_62 zf_X3_87 (by first | rfl | assumption) rfl ?_
  refine z_iload_n dX3_says_65 rfl ?_
  refine z_iald dX3_says_66 (by first | rfl | assumption) rfl (by first | assumption | omega | decide) (by decide) ?_
  refine z_aload_n dX3_says_67 rfl ?_
  refine z_getM dX3_says_68 zf_X3_19 (by first | rfl | assumption) rfl ?_
  refine z_getI dX3_says_71 zf_X3_137 (by first | rfl | assumption) rfl ?_
  refine z_cV2r (dy := 2) dX3_says_74 zl_X3_150 zy_X1_latestOf (by first | rfl | assumption) rfl (by decide) (Nat.le_of_ble_eq_true rfl) hlat ?_
  refine z_istore_n (i := 3) dX3_says_77 rfl (by decide) ?_
  refine z_iload_n dX3_says_78 rfl ?_
  refine z_bipush (v := -9) dX3_says_79 (by decide) ?_
  refine z_icmp_ne (tgt := 87) dX3_says_81 (by decide) (fun _ => ?_) (fun hx_ => absurd hx_ (nI_ne9 (by omega)))
  refine z_aload_n dX3_says_87 rfl ?_
  refine z_getR dX3_says_88 zf_X3_29 (by first | rfl | assumption) rfl ?_
  refine z_iload_n dX3_says_91 rfl ?_
  refine z_iload_n dX3_says_92 rfl ?_
  refine z_iload_n dX3_says_93 rfl ?_
  refine z_cV3r (dy := 2) dX3_says_94 zl_X3_144 zy_X1_add (by first | rfl | assumption) rfl (by decide) (Nat.le_of_ble_eq_true rfl) (sp_add_a hm hn hq _ _) ?_
  refine z_if_eq (tgt := 104) dX3_says_97 (by decide) (fun hx_ => absurd hx_ (by decide)) (fun _ => ?_)
  refine z_iload_n dX3_says_100 rfl ?_
  refine z_goto (tgt := 106) dX3_says_101 (by decide) ?_
  refine z_iret dX3_says_106 rfl ?_
  exact hQ
/-- in how many hours it is silent -/
def zsil (sa : Int32) (an wh at_ : Nat → Int32) (cl old : Int32) (n ns : Nat) : Int32 := zff (fun h => decide (zan sa an (zthere wh at_ (cl + nI h) old n) ns = 0)) 0 10
theorem sp_hoursToSilence {μ : ZMem} {ns n : Nat} (h : zdS μ (μ.2.2 0 1) ns) (hm : zmN μ n) : Sp layC mX3_hoursToSilence 3 [.ref 0] μ (some (.int (zsil (μ.1 (μ.2.2 0 1) 8) (μ.1 ((μ.2.2 0 1) + 2)) (μ.1 12) (μ.1 13) (μ.1 11 7) (μ.1 (μ.2.2 0 1) 5) n ns))) μ := by
  have hl0 := h.1.l0
  refine Sp.mk (L := [some (.ref 0), none]) rfl (by decide +kernel) rfl rfl (fun Q hQ => ?_)
  refine z_iconst (v := 0) dX3_hoursToSilence_0 (by decide) ?_
  refine z_istore_n (i := 1) dX3_hoursToSilence_1 rfl (by decide) ?_
  unfold zsil at hQ
  generalize hp : (fun h => decide (zan (μ.1 (μ.2.2 0 1) 8) (μ.1 ((μ.2.2 0 1) + 2)) (zthere (μ.1 12) (μ.1 13) (μ.1 11 7 + nI h) (μ.1 (μ.2.2 0 1) 5) n) ns = 0)) = p at hQ
  refine zdown (P := fun k => zff p 0 10 = zff p k (10 - k) → ZW layC mX3_hoursToSilence 3 Q 2 [some (.ref 0), some (.int (nI k))] [] μ) 10 ?_ ?_ 0 (Nat.zero_le 10) rfl
  · intro e
    refine z_iload_n dX3_hoursToSilence_2 rfl ?_
    refine z_bipush (v := 9) dX3_hoursToSilence_3 (by decide) ?_
    refine z_icmp_gt (tgt := 41) dX3_hoursToSilence_5 (by decide) (fun _ => ?_) (fun hx_ => absurd (by decide) hx_)
    refine z_bipush (v := -9) dX3_hoursToSilence_41 (by decide) ?_
    refine z_iret dX3_hoursToSilence_43 rfl ?_
    rw [e] at hQ
    exact hQ
  · intro k hk ih e
    rw [zff_step hk] at e
    refine z_iload_n dX3_hoursToSilence_2 rfl ?_
    refine z_bipush (v := 9) dX3_hoursToSilence_3 (by decide) ?_
    refine z_icmp_gt (tgt := 41) dX3_hoursToSilence_5 (by decide) (fun hx_ => absurd hx_ (nI_nlt (a := 9) (by omega) (by decide))) (fun _ => ?_)
    refine z_aload_n dX3_hoursToSilence_8 rfl ?_
    refine z_getM dX3_hoursToSilence_9 zf_X3_19 (by first | rfl | assumption) rfl ?_
    refine z_aload_n dX3_hoursToSilence_12 rfl ?_
    refine z_getR dX3_hoursToSilence_13 zf_X3_29 (by first | rfl | assumption) rfl ?_
    refine z_iload_n dX3_hoursToSilence_16 rfl ?_
    refine z_aload_n dX3_hoursToSilence_17 rfl ?_
    refine z_getM dX3_hoursToSilence_18 zf_X3_19 (by first | rfl | assumption) rfl ?_
    refine z_getI dX3_hoursToSilence_21 zf_X3_137 (by first | rfl | assumption) rfl ?_
    refine z_cV2r (dy := 2) dX3_hoursToSilence_24 zl_X3_185 zy_X1_there (by first | rfl | assumption) rfl (by decide) (Nat.le_of_ble_eq_true rfl) (sp_there hm _ _) ?_
    refine z_cV1r (dy := 2) dX3_hoursToSilence_27 zl_X3_107 zy_X0_answering (by first | rfl | assumption) rfl (by decide) (Nat.le_of_ble_eq_true rfl) (sp_answering h _) ?_
    refine z_if_ne (tgt := 35) dX3_hoursToSilence_30 (by decide) (fun hb30 => ?_) (fun hb30 => ?_)
    · refine z_iinc (v := 1) dX3_hoursToSilence_35 rfl (by decide) (by decide) ?_
      refine z_goto (tgt := 2) dX3_hoursToSilence_38 (by decide) ?_
      exact ZW.eq (ih (by rw [e, if_neg (by rw [← hp]; simpa using hb30)])) rfl (by simp [nI_succ])
    · refine z_iload_n dX3_hoursToSilence_33 rfl ?_
      refine z_iret dX3_hoursToSilence_34 rfl ?_
      rw [e, if_pos (by rw [← hp]; simpa using hb30)] at hQ
      exact hQ
theorem spC_now {μ : ZMem} {ns n : Nat} (h : zdS μ (μ.2.2 0 1) ns) (hm : zmN μ n) (what : Int32) : Sp layC mX3_now 4 [.ref 0, .int what] μ (some (.int (zsel [μ.1 11 7, μ.1 11 6, zthere (μ.1 12) (μ.1 13) (μ.1 11 7 + 0) (μ.1 (μ.2.2 0 1) 5) n, zfold (fun k a => if zfa (μ.1 15) n (nI k) = -9 then a + 1 else a) 0 n, if n = 0 then -9 else nI (zbst (μ.1 17) n), zlf (fun k => decide (zfa (μ.1 15) n (nI k) = -9)) n, zfas (μ.1 16) (μ.1 15) (μ.1 14) n n, zsil (μ.1 (μ.2.2 0 1) 8) (μ.1 ((μ.2.2 0 1) + 2)) (μ.1 12) (μ.1 13) (μ.1 11 7) (μ.1 (μ.2.2 0 1) 5) n ns] what (-1)))) μ := by
  refine Sp.mk (L := [some (.ref 0), some (.int what)]) rfl (by decide +kernel) rfl rfl (fun Q hQ => ?_)
  refine z_iload_n dX3_now_0 rfl ?_
  rcases zsw_cases 8 what (by decide) with ⟨q, hq, rfl⟩ | ho
  · rw [zsel_at _ _ (by omega)] at hQ
    match q, hq with
    | 0, _ =>
      refine z_tsw_in (off := 47) (tgt := 48) dX3_now_1 (by decide) (by decide) (by decide) (by decide) ?_
      refine z_aload_n dX3_now_48 rfl ?_
      refine z_getR dX3_now_49 zf_X3_29 (by first | rfl | assumption) rfl ?_
      refine z_getI dX3_now_52 zf_X3_158 (by first | rfl | assumption) rfl ?_
      refine z_iret dX3_now_55 rfl ?_
      exact hQ
    | 1, _ =>
      refine z_tsw_in (off := 55) (tgt := 56) dX3_now_1 (by decide) (by decide) (by decide) (by decide) ?_
      refine z_aload_n dX3_now_56 rfl ?_
      refine z_getR dX3_now_57 zf_X3_29 (by first | rfl | assumption) rfl ?_
      refine z_getI dX3_now_60 zf_X3_147 (by first | rfl | assumption) rfl ?_
      refine z_iret dX3_now_63 rfl ?_
      exact hQ
    | 2, _ =>
      refine z_tsw_in (off := 63) (tgt := 64) dX3_now_1 (by decide) (by decide) (by decide) (by decide) ?_
      refine z_aload_n dX3_now_64 rfl ?_
      refine z_cV0r (dy := 3) dX3_now_65 zl_X3_103 zy_X3_thereNow (by first | rfl | assumption) rfl (by decide) (Nat.le_of_ble_eq_true rfl) (sp_thereNow hm h.1) ?_
      refine z_iret dX3_now_68 rfl ?_
      exact hQ
    | 3, _ =>
      refine z_tsw_in (off := 68) (tgt := 69) dX3_now_1 (by decide) (by decide) (by decide) (by decide) ?_
      refine z_aload_n dX3_now_69 rfl ?_
      refine z_getR dX3_now_70 zf_X3_29 (by first | rfl | assumption) rfl ?_
      refine z_cV0r (dy := 2) dX3_now_73 zl_X3_167 zy_X1_openOnes (by first | rfl | assumption) rfl (by decide) (Nat.le_of_ble_eq_true rfl) (sp_openOnes hm) ?_
      refine z_iret dX3_now_76 rfl ?_
      exact hQ
    | 4, _ =>
      refine z_tsw_in (off := 76) (tgt := 77) dX3_now_1 (by decide) (by decide) (by decide) (by decide) ?_
      refine z_aload_n dX3_now_77 rfl ?_
      refine z_getR dX3_now_78 zf_X3_29 (by first | rfl | assumption) rfl ?_
      refine z_cV0r (dy := 1) dX3_now_81 zl_X3_170 zy_X1_farthest (by first | rfl | assumption) rfl (by decide) (Nat.le_of_ble_eq_true rfl) (sp_farthest hm) ?_
      refine z_iret dX3_now_84 rfl ?_
      exact hQ
    | 5, _ =>
      refine z_tsw_in (off := 84) (tgt := 85) dX3_now_1 (by decide) (by decide) (by decide) (by decide) ?_
      refine z_aload_n dX3_now_85 rfl ?_
      refine z_getR dX3_now_86 zf_X3_29 (by first | rfl | assumption) rfl ?_
      refine z_cV0r (dy := 2) dX3_now_89 zl_X3_173 zy_X1_lastOpen (by first | rfl | assumption) rfl (by decide) (Nat.le_of_ble_eq_true rfl) (sp_lastOpen hm) ?_
      refine z_iret dX3_now_92 rfl ?_
      exact hQ
    | 6, _ =>
      refine z_tsw_in (off := 92) (tgt := 93) dX3_now_1 (by decide) (by decide) (by decide) (by decide) ?_
      refine z_aload_n dX3_now_93 rfl ?_
      refine z_getR dX3_now_94 zf_X3_29 (by first | rfl | assumption) rfl ?_
      refine z_cV0r (dy := 1) dX3_now_97 zl_X3_176 zy_X1_firstAnswerers (by first | rfl | assumption) rfl (by decide) (Nat.le_of_ble_eq_true rfl) (sp_firstAnswerers hm) ?_
      refine z_iret dX3_now_100 rfl ?_
      exact hQ
    | 7, _ =>
      refine z_tsw_in (off := 100) (tgt := 101) dX3_now_1 (by decide) (by decide) (by decide) (by decide) ?_
      refine z_aload_n dX3_now_101 rfl ?_
      refine z_cV0r (dy := 3) dX3_now_102 zl_X3_179 zy_X3_hoursToSilence (by first | rfl | assumption) rfl (by decide) (Nat.le_of_ble_eq_true rfl) (sp_hoursToSilence h hm) ?_
      refine z_iret dX3_now_105 rfl ?_
      exact hQ
  · rw [zsel_out ho] at hQ
    refine z_tsw_out (tgt := 106) dX3_now_1 ho (by decide) ?_
    refine z_iconst (v := -1) dX3_now_106 (by decide) ?_
    refine z_iret dX3_now_107 rfl ?_
    exact hQ
theorem spC_worth_bad {μ : ZMem} {n : Nat} (hm : zmN μ n) {i : Int32} (hb : (i < 0 ∨ nI n ≤ i) ∨ ∃ k, k < n ∧ i = nI k ∧ ¬ μ.1 16 k = nI k) : Sp layC mX3_worth 2 [.ref 0, .int i] μ (some (.int (-1))) μ := by
  have h30 := hm.2
  refine Sp.mk (L := [some (.ref 0), some (.int i), none, none]) rfl (by decide +kernel) rfl rfl (fun Q hQ => ?_)
  rcases hb with hb | ⟨k, hk, rfl, hr⟩
  · refine z_aload_n dX3_worth_0 rfl ?_
    refine z_getR dX3_worth_1 zf_X3_29 (by first | rfl | assumption) rfl ?_
    refine z_iload_n dX3_worth_4 rfl ?_
    refine z_cV1r (dy := 0) dX3_worth_5 zl_X3_113 zy_X1_has (by first | rfl | assumption) rfl (by decide) (Nat.le_of_ble_eq_true rfl) (sp_has_f hm hb) ?_
    refine z_if_eq (tgt := 24) dX3_worth_8 (by decide) (fun _ => ?_) (fun hx_ => absurd (rfl) hx_)
    refine z_iconst (v := -1) dX3_worth_24 (by decide) ?_
    refine z_iret dX3_worth_25 rfl ?_
    exact hQ
  · refine z_aload_n dX3_worth_0 rfl ?_
    refine z_getR dX3_worth_1 zf_X3_29 (by first | rfl | assumption) rfl ?_
    refine z_iload_n dX3_worth_4 rfl ?_
    refine z_cV1r (dy := 0) dX3_worth_5 zl_X3_113 zy_X1_has (by first | rfl | assumption) rfl (by decide) (Nat.le_of_ble_eq_true rfl) (sp_has_t hm hk rfl) ?_
    refine z_if_eq (tgt := 24) dX3_worth_8 (by decide) (fun hx_ => absurd hx_ (by decide)) (fun _ => ?_)
    refine z_aload_n dX3_worth_11 rfl ?_
    refine z_getR dX3_worth_12 zf_X3_29 (by first | rfl | assumption) rfl ?_
    refine z_getR dX3_worth_15 zf_X3_128 (by first | rfl | assumption) rfl ?_
    refine z_iload_n dX3_worth_18 rfl ?_
    refine z_iald dX3_worth_19 (by first | rfl | assumption) rfl (by first | assumption | omega | decide) (by decide) ?_
    refine z_iload_n dX3_worth_20 rfl ?_
    refine z_icmp_eq (tgt := 26) dX3_worth_21 (by decide) (fun hx_ => absurd hx_ hr) (fun _ => ?_)
    refine z_iconst (v := -1) dX3_worth_24 (by decide) ?_
    refine z_iret dX3_worth_25 rfl ?_
    exact hQ
/-- how worthy all are together that go back to i -/
def zwo (ro wo wh : Nat → Int32) (i : Int32) (n : Nat) : Int32 := zfold (fun k a => if ro k = i then a + wo (wh k).toNatClampNeg else a) 0 n
theorem spC_worth {μ : ZMem} {ns n k : Nat} (h : zdS μ (μ.2.2 0 1) ns) (hm : zmN μ n) (hk : k < n) (hr : μ.1 16 k = nI k) (hw : ∀ j, j < n → ∃ w, w < ns ∧ μ.1 12 j = nI w) : Sp layC mX3_worth 2 [.ref 0, .int (nI k)] μ (some (.int (zwo (μ.1 16) (μ.1 ((μ.2.2 0 1) + 1)) (μ.1 12) (nI k) n))) μ := by
  have hn := hm.1
  have h30 := hm.2
  have hl0 := h.1.l0
  have h8 := h.2.2
  refine Sp.mk (L := [some (.ref 0), some (.int (nI k)), none, none]) rfl (by decide +kernel) rfl rfl (fun Q hQ => ?_)
  refine z_aload_n dX3_worth_0 rfl ?_
  refine z_getR dX3_worth_1 zf_X3_29 (by first | rfl | assumption) rfl ?_
  refine z_iload_n dX3_worth_4 rfl ?_
  refine z_cV1r (dy := 0) dX3_worth_5 zl_X3_113 zy_X1_has (by first | rfl | assumption) rfl (by decide) (Nat.le_of_ble_eq_true rfl) (sp_has_t hm hk rfl) ?_
  refine z_if_eq (tgt := 24) dX3_worth_8 (by decide) (fun hx_ => absurd hx_ (by decide)) (fun _ => ?_)
  refine z_aload_n dX3_worth_11 rfl ?_
  refine z_getR dX3_worth_12 zf_X3_29 (by first | rfl | assumption) rfl ?_
  refine z_getR dX3_worth_15 zf_X3_128 (by first | rfl | assumption) rfl ?_
  refine z_iload_n dX3_worth_18 rfl ?_
  refine z_iald dX3_worth_19 (by first | rfl | assumption) rfl (by first | assumption | omega | decide) (by decide) ?_
  refine z_iload_n dX3_worth_20 rfl ?_
  refine z_icmp_eq (tgt := 26) dX3_worth_21 (by decide) (fun _ => ?_) (fun hx_ => absurd hr hx_)
  refine z_iconst (v := 0) dX3_worth_26 (by decide) ?_
  refine z_istore_n (i := 2) dX3_worth_27 rfl (by decide) ?_
  refine z_iconst (v := 0) dX3_worth_28 (by decide) ?_
  refine z_istore_n (i := 3) dX3_worth_29 rfl (by decide) ?_
  refine zdown (P := fun m => ZW layC mX3_worth 2 Q 30 [some (.ref 0), some (.int (nI k)), some (.int (zwo (μ.1 16) (μ.1 ((μ.2.2 0 1) + 1)) (μ.1 12) (nI k) m)), some (.int (nI m))] [] μ) n ?_ ?_ 0 (Nat.zero_le n)
  · refine z_iload_n dX3_worth_30 rfl ?_
    refine z_aload_n dX3_worth_31 rfl ?_
    refine z_getR dX3_worth_32 zf_X3_29 (by first | rfl | assumption) rfl ?_
    refine z_getI dX3_worth_35 zf_X3_147 (by first | rfl | assumption) rfl ?_
    refine z_icmp_ge (tgt := 85) dX3_worth_38 (by decide) (fun _ => ?_) (fun hx_ => absurd (by rw [hn]; exact Int32.le_refl _) hx_)
    refine z_iload_n dX3_worth_85 rfl ?_
    refine z_iret dX3_worth_86 rfl ?_
    exact hQ
  · intro m hm' ih
    obtain ⟨w, hws, hwe⟩ := hw m hm'
    refine z_iload_n dX3_worth_30 rfl ?_
    refine z_aload_n dX3_worth_31 rfl ?_
    refine z_getR dX3_worth_32 zf_X3_29 (by first | rfl | assumption) rfl ?_
    refine z_getI dX3_worth_35 zf_X3_147 (by first | rfl | assumption) rfl ?_
    refine z_icmp_ge (tgt := 85) dX3_worth_38 (by decide) (fun hx_ => absurd hx_ (by rw [hn]; exact nI_ge hm' (by omega))) (fun _ => ?_)
    refine z_iload_n dX3_worth_41 rfl ?_
    refine z_bipush (v := 30) dX3_worth_42 (by decide) ?_
    refine z_icmp_ge (tgt := 85) dX3_worth_44 (by decide) (fun hx_ => absurd hx_ (nI_ge (b := 30) (by omega) (by decide))) (fun _ => ?_)
    refine z_aload_n dX3_worth_47 rfl ?_
    refine z_getR dX3_worth_48 zf_X3_29 (by first | rfl | assumption) rfl ?_
    refine z_getR dX3_worth_51 zf_X3_128 (by first | rfl | assumption) rfl ?_
    refine z_iload_n dX3_worth_54 rfl ?_
    refine z_iald dX3_worth_55 (by first | rfl | assumption) rfl (by first | assumption | omega | decide) (by decide) ?_
    refine z_iload_n dX3_worth_56 rfl ?_
    refine z_icmp_ne (tgt := 79) dX3_worth_57 (by decide) (fun hb57 => ?_) (fun hb57 => ?_)
    · refine z_iinc (v := 1) dX3_worth_79 rfl (by decide) (by decide) ?_
      refine z_goto (tgt := 30) dX3_worth_82 (by decide) ?_
      exact ZW.eq ih rfl (by simp [zwo, zfold, nI_succ, hb57, hwe, nI_clamp (show w < 2 ^ 31 by omega)])
    · refine z_iload_n dX3_worth_60 rfl ?_
      refine z_aload_n dX3_worth_61 rfl ?_
      refine z_getM dX3_worth_62 zf_X3_19 (by first | rfl | assumption) rfl ?_
      refine z_aload_n dX3_worth_65 rfl ?_
      refine z_getR dX3_worth_66 zf_X3_29 (by first | rfl | assumption) rfl ?_
      refine z_getR dX3_worth_69 zf_X3_116 (by first | rfl | assumption) rfl ?_
      refine z_iload_n dX3_worth_72 rfl ?_
      refine z_iald dX3_worth_73 (by first | rfl | assumption) rfl (by first | assumption | omega | decide) (by decide) ?_
      refine z_cV1r (dy := 1) dX3_worth_74 zl_X3_182 zy_X0_worthOf (by first | rfl | assumption) rfl (by decide) (Nat.le_of_ble_eq_true rfl) (sp_worthOf h hws hwe) ?_
      refine z_iadd dX3_worth_77 ?_
      refine z_istore_n (i := 2) dX3_worth_78 rfl (by decide) ?_
      refine z_iinc (v := 1) dX3_worth_79 rfl (by decide) (by decide) ?_
      refine z_goto (tgt := 30) dX3_worth_82 (by decide) ?_
      exact ZW.eq ih rfl (by simp [zwo, zfold, nI_succ, hb57, hwe, nI_clamp (show w < 2 ^ 31 by omega)])
theorem sp_imageOf_0 {μ : ZMem} : Sp layC mX3_imageOf 0 [.ref 0, .int 0] μ (some (.ref 18)) μ := by
  refine Sp.mk (L := [some (.ref 0), some (.int 0)]) rfl (by decide +kernel) rfl rfl (fun Q hQ => ?_)
  refine z_iload_n dX3_imageOf_0 rfl ?_
  refine z_if_ne (tgt := 11) dX3_imageOf_1 (by decide) (fun hx_ => absurd (rfl) hx_) (fun _ => ?_)
  refine z_aload_n dX3_imageOf_4 rfl ?_
  refine z_getR dX3_imageOf_5 zf_X3_33 (by first | rfl | assumption) rfl ?_
  refine z_goto (tgt := 15) dX3_imageOf_8 (by decide) ?_
  refine z_aret dX3_imageOf_15 rfl ?_
  exact hQ
theorem sp_imageOf_1 {μ : ZMem} : Sp layC mX3_imageOf 0 [.ref 0, .int 1] μ (some (.ref 25)) μ := by
  refine Sp.mk (L := [some (.ref 0), some (.int 1)]) rfl (by decide +kernel) rfl rfl (fun Q hQ => ?_)
  refine z_iload_n dX3_imageOf_0 rfl ?_
  refine z_if_ne (tgt := 11) dX3_imageOf_1 (by decide) (fun _ => ?_) (fun hx_ => absurd hx_ (by decide))
  refine z_aload_n dX3_imageOf_11 rfl ?_
  refine z_getR dX3_imageOf_12 zf_X3_36 (by first | rfl | assumption) rfl ?_
  refine z_aret dX3_imageOf_15 rfl ?_
  exact hQ
theorem spC_keep_bad {μ : ZMem} {i : Int32} (h : i < 0 ∨ 1 < i) : Sp layC mX3_keep 2 [.ref 0, .int i] μ (some (.int (-1))) μ := by
  refine Sp.mk (L := [some (.ref 0), some (.int i), none]) rfl (by decide +kernel) rfl rfl (fun Q hQ => ?_)
  refine z_iload_n dX3_keep_0 rfl ?_
  refine z_if_lt (tgt := 9) dX3_keep_1 (by decide) (fun hb1 => ?_) (fun hb1 => ?_)
  · refine z_iconst (v := -1) dX3_keep_9 (by decide) ?_
    refine z_iret dX3_keep_10 rfl ?_
    exact hQ
  · refine z_iload_n dX3_keep_4 rfl ?_
    refine z_iconst (v := 1) dX3_keep_5 (by decide) ?_
    refine z_icmp_le (tgt := 11) dX3_keep_6 (by decide) (fun hx_ => absurd hx_ (Int32.not_le.mpr (h.resolve_left hb1))) (fun _ => ?_)
    refine z_iconst (v := -1) dX3_keep_9 (by decide) ?_
    refine z_iret dX3_keep_10 rfl ?_
    exact hQ
theorem spC_keep_0 {μ : ZMem} : Sp layC mX3_keep 2 [.ref 0, .int 0] μ (some (.int (μ.1 11 7))) (zI (zbec μ 18 11) 18 10 1) := by
  refine Sp.mk (L := [some (.ref 0), some (.int 0), none]) rfl (by decide +kernel) rfl rfl (fun Q hQ => ?_)
  refine z_iload_n dX3_keep_0 rfl ?_
  refine z_if_lt (tgt := 9) dX3_keep_1 (by decide) (fun hx_ => absurd hx_ (by decide)) (fun _ => ?_)
  refine z_iload_n dX3_keep_4 rfl ?_
  refine z_iconst (v := 1) dX3_keep_5 (by decide) ?_
  refine z_icmp_le (tgt := 11) dX3_keep_6 (by decide) (fun _ => ?_) (fun hx_ => absurd (by decide) hx_)
  refine z_aload_n dX3_keep_11 rfl ?_
  refine z_iload_n dX3_keep_12 rfl ?_
  refine z_cV1r (dy := 0) dX3_keep_13 zl_X3_272 zy_X3_imageOf (by first | rfl | assumption) rfl (by decide) (Nat.le_of_ble_eq_true rfl) sp_imageOf_0 ?_
  refine z_astore_n (i := 2) dX3_keep_16 rfl (by decide) ?_
  refine z_aload_n dX3_keep_17 rfl ?_
  refine z_aload_n dX3_keep_18 rfl ?_
  refine z_getR dX3_keep_19 zf_X3_29 (by first | rfl | assumption) rfl ?_
  refine z_cV1v (dy := 1) dX3_keep_22 zl_X3_276 zy_X1_become (by first | rfl | assumption) rfl (by decide) (Nat.le_of_ble_eq_true rfl) sp_become_18_11 ?_
  refine z_aload_n dX3_keep_25 rfl ?_
  refine z_iconst (v := 1) dX3_keep_26 (by decide) ?_
  refine z_putI dX3_keep_27 zf_X3_71p (by first | rfl | assumption) rfl (by decide) rfl ?_
  refine z_aload_n dX3_keep_30 rfl ?_
  refine z_getR dX3_keep_31 zf_X3_29 (by first | rfl | assumption) rfl ?_
  refine z_getI dX3_keep_34 zf_X3_158 (by first | rfl | assumption) rfl ?_
  refine z_iret dX3_keep_37 rfl ?_
  exact hQ
theorem spC_keep_1 {μ : ZMem} : Sp layC mX3_keep 2 [.ref 0, .int 1] μ (some (.int (μ.1 11 7))) (zI (zbec μ 25 11) 25 10 1) := by
  refine Sp.mk (L := [some (.ref 0), some (.int 1), none]) rfl (by decide +kernel) rfl rfl (fun Q hQ => ?_)
  refine z_iload_n dX3_keep_0 rfl ?_
  refine z_if_lt (tgt := 9) dX3_keep_1 (by decide) (fun hx_ => absurd hx_ (by decide)) (fun _ => ?_)
  refine z_iload_n dX3_keep_4 rfl ?_
  refine z_iconst (v := 1) dX3_keep_5 (by decide) ?_
  refine z_icmp_le (tgt := 11) dX3_keep_6 (by decide) (fun _ => ?_) (fun hx_ => absurd (by decide) hx_)
  refine z_aload_n dX3_keep_11 rfl ?_
  refine z_iload_n dX3_keep_12 rfl ?_
  refine z_cV1r (dy := 0) dX3_keep_13 zl_X3_272 zy_X3_imageOf (by first | rfl | assumption) rfl (by decide) (Nat.le_of_ble_eq_true rfl) sp_imageOf_1 ?_
  refine z_astore_n (i := 2) dX3_keep_16 rfl (by decide) ?_
  refine z_aload_n dX3_keep_17 rfl ?_
  refine z_aload_n dX3_keep_18 rfl ?_
  refine z_getR dX3_keep_19 zf_X3_29 (by first | rfl | assumption) rfl ?_
  refine z_cV1v (dy := 1) dX3_keep_22 zl_X3_276 zy_X1_become (by first | rfl | assumption) rfl (by decide) (Nat.le_of_ble_eq_true rfl) sp_become_25_11 ?_
  refine z_aload_n dX3_keep_25 rfl ?_
  refine z_iconst (v := 1) dX3_keep_26 (by decide) ?_
  refine z_putI dX3_keep_27 zf_X3_71p (by first | rfl | assumption) rfl (by decide) rfl ?_
  refine z_aload_n dX3_keep_30 rfl ?_
  refine z_getR dX3_keep_31 zf_X3_29 (by first | rfl | assumption) rfl ?_
  refine z_getI dX3_keep_34 zf_X3_158 (by first | rfl | assumption) rfl ?_
  refine z_iret dX3_keep_37 rfl ?_
  exact hQ
theorem spC_back_bad {μ : ZMem} {i : Int32} (h : i < 0 ∨ 1 < i) : Sp layC mX3_back 2 [.ref 0, .int i] μ (some (.int (-1))) μ := by
  refine Sp.mk (L := [some (.ref 0), some (.int i), none]) rfl (by decide +kernel) rfl rfl (fun Q hQ => ?_)
  refine z_iload_n dX3_back_0 rfl ?_
  refine z_if_lt (tgt := 9) dX3_back_1 (by decide) (fun hb1 => ?_) (fun hb1 => ?_)
  · refine z_iconst (v := -1) dX3_back_9 (by decide) ?_
    refine z_iret dX3_back_10 rfl ?_
    exact hQ
  · refine z_iload_n dX3_back_4 rfl ?_
    refine z_iconst (v := 1) dX3_back_5 (by decide) ?_
    refine z_icmp_le (tgt := 11) dX3_back_6 (by decide) (fun hx_ => absurd hx_ (Int32.not_le.mpr (h.resolve_left hb1))) (fun _ => ?_)
    refine z_iconst (v := -1) dX3_back_9 (by decide) ?_
    refine z_iret dX3_back_10 rfl ?_
    exact hQ
theorem spC_back_0f {μ : ZMem} (h : μ.1 18 10 = 0) : Sp layC mX3_back 2 [.ref 0, .int 0] μ (some (.int (-2))) μ := by
  refine Sp.mk (L := [some (.ref 0), some (.int 0), none]) rfl (by decide +kernel) rfl rfl (fun Q hQ => ?_)
  refine z_iload_n dX3_back_0 rfl ?_
  refine z_if_lt (tgt := 9) dX3_back_1 (by decide) (fun hx_ => absurd hx_ (by decide)) (fun _ => ?_)
  refine z_iload_n dX3_back_4 rfl ?_
  refine z_iconst (v := 1) dX3_back_5 (by decide) ?_
  refine z_icmp_le (tgt := 11) dX3_back_6 (by decide) (fun _ => ?_) (fun hx_ => absurd (by decide) hx_)
  refine z_aload_n dX3_back_11 rfl ?_
  refine z_iload_n dX3_back_12 rfl ?_
  refine z_cV1r (dy := 0) dX3_back_13 zl_X3_272 zy_X3_imageOf (by first | rfl | assumption) rfl (by decide) (Nat.le_of_ble_eq_true rfl) sp_imageOf_0 ?_
  refine z_astore_n (i := 2) dX3_back_16 rfl (by decide) ?_
  refine z_aload_n dX3_back_17 rfl ?_
  refine z_getI dX3_back_18 zf_X3_71 (by first | rfl | assumption) rfl ?_
  refine z_if_ne (tgt := 27) dX3_back_21 (by decide) (fun hx_ => absurd h hx_) (fun _ => ?_)
  refine z_bipush (v := -2) dX3_back_24 (by decide) ?_
  refine z_iret dX3_back_26 rfl ?_
  exact hQ
theorem spC_back_1f {μ : ZMem} (h : μ.1 25 10 = 0) : Sp layC mX3_back 2 [.ref 0, .int 1] μ (some (.int (-2))) μ := by
  refine Sp.mk (L := [some (.ref 0), some (.int 1), none]) rfl (by decide +kernel) rfl rfl (fun Q hQ => ?_)
  refine z_iload_n dX3_back_0 rfl ?_
  refine z_if_lt (tgt := 9) dX3_back_1 (by decide) (fun hx_ => absurd hx_ (by decide)) (fun _ => ?_)
  refine z_iload_n dX3_back_4 rfl ?_
  refine z_iconst (v := 1) dX3_back_5 (by decide) ?_
  refine z_icmp_le (tgt := 11) dX3_back_6 (by decide) (fun _ => ?_) (fun hx_ => absurd (by decide) hx_)
  refine z_aload_n dX3_back_11 rfl ?_
  refine z_iload_n dX3_back_12 rfl ?_
  refine z_cV1r (dy := 0) dX3_back_13 zl_X3_272 zy_X3_imageOf (by first | rfl | assumption) rfl (by decide) (Nat.le_of_ble_eq_true rfl) sp_imageOf_1 ?_
  refine z_astore_n (i := 2) dX3_back_16 rfl (by decide) ?_
  refine z_aload_n dX3_back_17 rfl ?_
  refine z_getI dX3_back_18 zf_X3_71 (by first | rfl | assumption) rfl ?_
  refine z_if_ne (tgt := 27) dX3_back_21 (by decide) (fun hx_ => absurd h hx_) (fun _ => ?_)
  refine z_bipush (v := -2) dX3_back_24 (by decide) ?_
  refine z_iret dX3_back_26 rfl ?_
  exact hQ
theorem spC_back_0 {μ : ZMem} (h : ¬ μ.1 18 10 = 0) : Sp layC mX3_back 2 [.ref 0, .int 0] μ (some (.int (μ.1 18 7))) (zbec μ 11 18) := by
  refine Sp.mk (L := [some (.ref 0), some (.int 0), none]) rfl (by decide +kernel) rfl rfl (fun Q hQ => ?_)
  refine z_iload_n dX3_back_0 rfl ?_
  refine z_if_lt (tgt := 9) dX3_back_1 (by decide) (fun hx_ => absurd hx_ (by decide)) (fun _ => ?_)
  refine z_iload_n dX3_back_4 rfl ?_
  refine z_iconst (v := 1) dX3_back_5 (by decide) ?_
  refine z_icmp_le (tgt := 11) dX3_back_6 (by decide) (fun _ => ?_) (fun hx_ => absurd (by decide) hx_)
  refine z_aload_n dX3_back_11 rfl ?_
  refine z_iload_n dX3_back_12 rfl ?_
  refine z_cV1r (dy := 0) dX3_back_13 zl_X3_272 zy_X3_imageOf (by first | rfl | assumption) rfl (by decide) (Nat.le_of_ble_eq_true rfl) sp_imageOf_0 ?_
  refine z_astore_n (i := 2) dX3_back_16 rfl (by decide) ?_
  refine z_aload_n dX3_back_17 rfl ?_
  refine z_getI dX3_back_18 zf_X3_71 (by first | rfl | assumption) rfl ?_
  refine z_if_ne (tgt := 27) dX3_back_21 (by decide) (fun _ => ?_) (fun hx_ => absurd hx_ h)
  refine z_aload_n dX3_back_27 rfl ?_
  refine z_getR dX3_back_28 zf_X3_29 (by first | rfl | assumption) rfl ?_
  refine z_aload_n dX3_back_31 rfl ?_
  refine z_cV1v (dy := 1) dX3_back_32 zl_X3_276 zy_X1_become (by first | rfl | assumption) rfl (by decide) (Nat.le_of_ble_eq_true rfl) sp_become_11_18 ?_
  refine z_aload_n dX3_back_35 rfl ?_
  refine z_getR dX3_back_36 zf_X3_29 (by first | rfl | assumption) rfl ?_
  refine z_getI dX3_back_39 zf_X3_158 (by first | rfl | assumption) rfl ?_
  refine z_iret dX3_back_42 rfl ?_
  exact hQ
theorem spC_back_1 {μ : ZMem} (h : ¬ μ.1 25 10 = 0) : Sp layC mX3_back 2 [.ref 0, .int 1] μ (some (.int (μ.1 25 7))) (zbec μ 11 25) := by
  refine Sp.mk (L := [some (.ref 0), some (.int 1), none]) rfl (by decide +kernel) rfl rfl (fun Q hQ => ?_)
  refine z_iload_n dX3_back_0 rfl ?_
  refine z_if_lt (tgt := 9) dX3_back_1 (by decide) (fun hx_ => absurd hx_ (by decide)) (fun _ => ?_)
  refine z_iload_n dX3_back_4 rfl ?_
  refine z_iconst (v := 1) dX3_back_5 (by decide) ?_
  refine z_icmp_le (tgt := 11) dX3_back_6 (by decide) (fun _ => ?_) (fun hx_ => absurd (by decide) hx_)
  refine z_aload_n dX3_back_11 rfl ?_
  refine z_iload_n dX3_back_12 rfl ?_
  refine z_cV1r (dy := 0) dX3_back_13 zl_X3_272 zy_X3_imageOf (by first | rfl | assumption) rfl (by decide) (Nat.le_of_ble_eq_true rfl) sp_imageOf_1 ?_
  refine z_astore_n (i := 2) dX3_back_16 rfl (by decide) ?_
  refine z_aload_n dX3_back_17 rfl ?_
  refine z_getI dX3_back_18 zf_X3_71 (by first | rfl | assumption) rfl ?_
  refine z_if_ne (tgt := 27) dX3_back_21 (by decide) (fun _ => ?_) (fun hx_ => absurd hx_ h)
  refine z_aload_n dX3_back_27 rfl ?_
  refine z_getR dX3_back_28 zf_X3_29 (by first | rfl | assumption) rfl ?_
  refine z_aload_n dX3_back_31 rfl ?_
  refine z_cV1v (dy := 1) dX3_back_32 zl_X3_276 zy_X1_become (by first | rfl | assumption) rfl (by decide) (Nat.le_of_ble_eq_true rfl) sp_become_11_25 ?_
  refine z_aload_n dX3_back_35 rfl ?_
  refine z_getR dX3_back_36 zf_X3_29 (by first | rfl | assumption) rfl ?_
  refine z_getI dX3_back_39 zf_X3_158 (by first | rfl | assumption) rfl ?_
  refine z_iret dX3_back_42 rfl ?_
  exact hQ
/-! kinds -/
def ztr (μ : ZMem) (k : Int64) : ZMem := zJ μ 0 10 (μ.2.1 0 10 + k)
theorem sp_asSaying {μ : ZMem} {ns j : Nat} (h : zdS μ (μ.2.2 0 1) ns) (hj : j < ns) : Sp layC mX3_asSaying 2 [.ref 0, .int (nI j)] μ (some (.int (μ.1 ((μ.2.2 0 1) + 1) j))) (ztr μ 1) := by
  have hl0 := h.1.l0
  refine Sp.mk (L := [some (.ref 0), some (.int (nI j))]) rfl (by decide +kernel) rfl rfl (fun Q hQ => ?_)
  refine z_aload_n dX3_asSaying_0 rfl ?_
  refine z_dup dX3_asSaying_1 rfl ?_
  refine z_getJ dX3_asSaying_2 zf_X3_53 (by first | rfl | assumption) rfl ?_
  refine z_lconst (v := 1) dX3_asSaying_5 (by decide) ?_
  refine z_ladd dX3_asSaying_6 ?_
  refine z_putJ dX3_asSaying_7 zf_X3_53p (by first | rfl | assumption) rfl rfl ?_
  refine z_aload_n dX3_asSaying_10 rfl ?_
  refine z_getM dX3_asSaying_11 zf_X3_19 (by first | rfl | assumption) rfl ?_
  refine z_iload_n dX3_asSaying_14 rfl ?_
  refine z_cV1r (dy := 1) dX3_asSaying_15 zl_X3_182 zy_X0_worthOf (by first | rfl | assumption) rfl (by decide) (Nat.le_of_ble_eq_true rfl) (by refine sp_worthOf (ns := ns) ?_ hj rfl; exact h) ?_
  refine z_iret dX3_asSaying_18 rfl ?_
  exact hQ
theorem sp_asCough {μ : ZMem} {ns j : Nat} (h : zdS μ (μ.2.2 0 1) ns) (hj : j < ns) : Sp layC mX3_asCough 3 [.ref 0, .int (nI j)] μ (some (.int (μ.1 ((μ.2.2 0 1) + 1) j + zbc (μ.1 ((μ.2.2 0 1) + 2) j)))) (ztr (ztr μ 10) 1) := by
  have hl0 := h.1.l0
  refine Sp.mk (L := [some (.ref 0), some (.int (nI j))]) rfl (by decide +kernel) rfl rfl (fun Q hQ => ?_)
  refine z_aload_n dX3_asCough_0 rfl ?_
  refine z_dup dX3_asCough_1 rfl ?_
  refine z_getJ dX3_asCough_2 zf_X3_53 (by first | rfl | assumption) rfl ?_
  refine z_ldc2 dX3_asCough_5 zm_3_14 ?_
  refine z_ladd dX3_asCough_8 ?_
  refine z_putJ dX3_asCough_9 zf_X3_53p (by first | rfl | assumption) rfl rfl ?_
  refine z_aload_n dX3_asCough_12 rfl ?_
  refine z_iload_n dX3_asCough_13 rfl ?_
  refine z_cV1r (dy := 2) dX3_asCough_14 zl_X3_241 zy_X3_asSaying (by first | rfl | assumption) rfl (by decide) (Nat.le_of_ble_eq_true rfl) (by refine sp_asSaying (ns := ns) ?_ hj; exact h) ?_
  refine z_aload_n dX3_asCough_17 rfl ?_
  refine z_getM dX3_asCough_18 zf_X3_19 (by first | rfl | assumption) rfl ?_
  refine z_iload_n dX3_asCough_21 rfl ?_
  refine z_cV1r (dy := 1) dX3_asCough_22 zl_X3_261 zy_X0_answersCount (by first | rfl | assumption) rfl (by decide) (Nat.le_of_ble_eq_true rfl) (by refine sp_answersCount (ns := ns) ?_ hj rfl; exact h) ?_
  refine z_iadd dX3_asCough_25 ?_
  refine z_iret dX3_asCough_26 rfl ?_
  exact hQ
theorem sp_asBell {μ : ZMem} {ns n j : Nat} (h : zdS μ (μ.2.2 0 1) ns) (hm : zmN μ n) (hj : j < ns) : Sp layC mX3_asBell 3 [.ref 0, .int (nI j)] μ (some (.int (μ.1 ((μ.2.2 0 1) + 1) j - zfold (fun k a => if μ.1 12 k = nI j then a + 1 else a) 0 n))) (ztr (ztr μ 100) 1) := by
  have hl0 := h.1.l0
  refine Sp.mk (L := [some (.ref 0), some (.int (nI j))]) rfl (by decide +kernel) rfl rfl (fun Q hQ => ?_)
  refine z_aload_n dX3_asBell_0 rfl ?_
  refine z_dup dX3_asBell_1 rfl ?_
  refine z_getJ dX3_asBell_2 zf_X3_53 (by first | rfl | assumption) rfl ?_
  refine z_ldc2 dX3_asBell_5 zm_3_24 ?_
  refine z_ladd dX3_asBell_8 ?_
  refine z_putJ dX3_asBell_9 zf_X3_53p (by first | rfl | assumption) rfl rfl ?_
  refine z_aload_n dX3_asBell_12 rfl ?_
  refine z_iload_n dX3_asBell_13 rfl ?_
  refine z_cV1r (dy := 2) dX3_asBell_14 zl_X3_241 zy_X3_asSaying (by first | rfl | assumption) rfl (by decide) (Nat.le_of_ble_eq_true rfl) (by refine sp_asSaying (ns := ns) ?_ hj; exact h) ?_
  refine z_aload_n dX3_asBell_17 rfl ?_
  refine z_getR dX3_asBell_18 zf_X3_29 (by first | rfl | assumption) rfl ?_
  refine z_iload_n dX3_asBell_21 rfl ?_
  refine z_cV1r (dy := 0) dX3_asBell_22 zl_X3_94 zy_X1_timesIn (by first | rfl | assumption) rfl (by decide) (Nat.le_of_ble_eq_true rfl) (by refine sp_timesIn (n := n) ?_ _; exact hm) ?_
  refine z_isub dX3_asBell_25 ?_
  refine z_iret dX3_asBell_26 rfl ?_
  exact hQ
theorem sp_asKnock {μ : ZMem} {ns j : Nat} (h : zdS μ (μ.2.2 0 1) ns) (hj : j < ns) : Sp layC mX3_asKnock 4 [.ref 0, .int (nI j)] μ (some (.int ((μ.1 ((μ.2.2 0 1) + 1) j + zbc (μ.1 ((μ.2.2 0 1) + 2) j)) * 2))) (ztr (ztr (ztr μ 1000) 10) 1) := by
  have hl0 := h.1.l0
  refine Sp.mk (L := [some (.ref 0), some (.int (nI j))]) rfl (by decide +kernel) rfl rfl (fun Q hQ => ?_)
  refine z_aload_n dX3_asKnock_0 rfl ?_
  refine z_dup dX3_asKnock_1 rfl ?_
  refine z_getJ dX3_asKnock_2 zf_X3_53 (by first | rfl | assumption) rfl ?_
  refine z_ldc2 dX3_asKnock_5 zm_3_29 ?_
  refine z_ladd dX3_asKnock_8 ?_
  refine z_putJ dX3_asKnock_9 zf_X3_53p (by first | rfl | assumption) rfl rfl ?_
  refine z_aload_n dX3_asKnock_12 rfl ?_
  refine z_iload_n dX3_asKnock_13 rfl ?_
  refine z_cV1r (dy := 3) dX3_asKnock_14 zl_X3_244 zy_X3_asCough (by first | rfl | assumption) rfl (by decide) (Nat.le_of_ble_eq_true rfl) (by refine sp_asCough (ns := ns) ?_ hj; exact h) ?_
  refine z_iconst (v := 2) dX3_asKnock_17 (by decide) ?_
  refine z_imul dX3_asKnock_18 ?_
  refine z_iret dX3_asKnock_19 rfl ?_
  exact hQ
theorem sp_asEcho {μ : ZMem} {ns np n j : Nat} (h : zdS μ (μ.2.2 0 1) ns) (hp : zdP μ (μ.2.2 0 1) np) (hm : zmN μ n) (hj : j < ns) : Sp layC mX3_asEcho 4 [.ref 0, .int (nI j)] μ (some (.int (μ.1 ((μ.2.2 0 1) + 1) j - zfold (fun k a => if μ.1 12 k = nI j then a + 1 else a) 0 n + zbc (zkn (μ.1 ((μ.2.2 0 1) + 3)) (nI j) np)))) (ztr (ztr (ztr μ 10000) 100) 1) := by
  have hl0 := h.1.l0
  refine Sp.mk (L := [some (.ref 0), some (.int (nI j))]) rfl (by decide +kernel) rfl rfl (fun Q hQ => ?_)
  refine z_aload_n dX3_asEcho_0 rfl ?_
  refine z_dup dX3_asEcho_1 rfl ?_
  refine z_getJ dX3_asEcho_2 zf_X3_53 (by first | rfl | assumption) rfl ?_
  refine z_ldc2 dX3_asEcho_5 zm_3_34 ?_
  refine z_ladd dX3_asEcho_8 ?_
  refine z_putJ dX3_asEcho_9 zf_X3_53p (by first | rfl | assumption) rfl rfl ?_
  refine z_aload_n dX3_asEcho_12 rfl ?_
  refine z_iload_n dX3_asEcho_13 rfl ?_
  refine z_cV1r (dy := 3) dX3_asEcho_14 zl_X3_247 zy_X3_asBell (by first | rfl | assumption) rfl (by decide) (Nat.le_of_ble_eq_true rfl) (by refine sp_asBell (ns := ns) (n := n) ?_ ?_ hj; exact h; exact hm) ?_
  refine z_aload_n dX3_asEcho_17 rfl ?_
  refine z_getM dX3_asEcho_18 zf_X3_19 (by first | rfl | assumption) rfl ?_
  refine z_iload_n dX3_asEcho_21 rfl ?_
  refine z_cV1r (dy := 0) dX3_asEcho_22 zl_X3_90 zy_X0_knowers (by first | rfl | assumption) rfl (by decide) (Nat.le_of_ble_eq_true rfl) (by refine sp_knowers (np := np) ?_ _; exact hp) ?_
  refine z_cS1r (dy := 0) dX3_asEcho_25 zl_X3_217 zy_J6_bitCount_0f7a4 (by decide) (Nat.le_of_ble_eq_true rfl) (sp_bitCount _) ?_
  refine z_iadd dX3_asEcho_28 ?_
  refine z_iret dX3_asEcho_29 rfl ?_
  exact hQ
theorem sp_asOwl {μ : ZMem} {ns j : Nat} (h : zdS μ (μ.2.2 0 1) ns) (hj : j < ns) : Sp layC mX3_asOwl 3 [.ref 0, .int (nI j)] μ (some (.int (μ.1 ((μ.2.2 0 1) + 1) j + μ.1 11 7))) (ztr (ztr μ 100000) 1) := by
  have hl0 := h.1.l0
  refine Sp.mk (L := [some (.ref 0), some (.int (nI j))]) rfl (by decide +kernel) rfl rfl (fun Q hQ => ?_)
  refine z_aload_n dX3_asOwl_0 rfl ?_
  refine z_dup dX3_asOwl_1 rfl ?_
  refine z_getJ dX3_asOwl_2 zf_X3_53 (by first | rfl | assumption) rfl ?_
  refine z_ldc2 dX3_asOwl_5 zm_3_39 ?_
  refine z_ladd dX3_asOwl_8 ?_
  refine z_putJ dX3_asOwl_9 zf_X3_53p (by first | rfl | assumption) rfl rfl ?_
  refine z_aload_n dX3_asOwl_12 rfl ?_
  refine z_iload_n dX3_asOwl_13 rfl ?_
  refine z_cV1r (dy := 2) dX3_asOwl_14 zl_X3_241 zy_X3_asSaying (by first | rfl | assumption) rfl (by decide) (Nat.le_of_ble_eq_true rfl) (by refine sp_asSaying (ns := ns) ?_ hj; exact h) ?_
  refine z_aload_n dX3_asOwl_17 rfl ?_
  refine z_getR dX3_asOwl_18 zf_X3_29 (by first | rfl | assumption) rfl ?_
  refine z_getI dX3_asOwl_21 zf_X3_158 (by first | rfl | assumption) rfl ?_
  refine z_iadd dX3_asOwl_24 ?_
  refine z_iret dX3_asOwl_25 rfl ?_
  exact hQ
theorem spC_mark_bad {μ : ZMem} {ns : Nat} (h : zdS μ (μ.2.2 0 1) ns) {kind w : Int32} (hb : (w < 0 ∨ nI ns ≤ w) ∨ (∃ j, j < ns ∧ w = nI j) ∧ (kind.toInt < 0 ∨ 5 < kind.toInt)) : Sp layC mX3_mark 5 [.ref 0, .int kind, .int w] μ (some (.int (-1000000))) μ := by
  have hl0 := h.1.l0
  refine Sp.mk (L := [some (.ref 0), some (.int kind), some (.int w)]) rfl (by decide +kernel) rfl rfl (fun Q hQ => ?_)
  rcases hb with hb | ⟨⟨j, hj, hw⟩, ho⟩
  · refine z_aload_n dX3_mark_0 rfl ?_
    refine z_getM dX3_mark_1 zf_X3_19 (by first | rfl | assumption) rfl ?_
    refine z_iload_n dX3_mark_4 rfl ?_
    refine z_cV1r (dy := 0) dX3_mark_5 zl_X3_78 zy_X0_hasSaying (by first | rfl | assumption) rfl (by decide) (Nat.le_of_ble_eq_true rfl) (sp_hasSaying_f h hb) ?_
    refine z_if_ne (tgt := 14) dX3_mark_8 (by decide) (fun hx_ => absurd (rfl) hx_) (fun _ => ?_)
    refine z_ldc dX3_mark_11 zm_3_5 ?_
    refine z_iret dX3_mark_13 rfl ?_
    exact hQ
  · refine z_aload_n dX3_mark_0 rfl ?_
    refine z_getM dX3_mark_1 zf_X3_19 (by first | rfl | assumption) rfl ?_
    refine z_iload_n dX3_mark_4 rfl ?_
    refine z_cV1r (dy := 0) dX3_mark_5 zl_X3_78 zy_X0_hasSaying (by first | rfl | assumption) rfl (by decide) (Nat.le_of_ble_eq_true rfl) (sp_hasSaying_t h hj hw) ?_
    refine z_if_ne (tgt := 14) dX3_mark_8 (by decide) (fun _ => ?_) (fun hx_ => absurd hx_ (by decide))
    refine z_iload_n dX3_mark_14 rfl ?_
    refine z_tsw_out (tgt := 88) dX3_mark_15 ho (by decide) ?_
    refine z_ldc dX3_mark_88 zm_3_5 ?_
    refine z_iret dX3_mark_90 rfl ?_
    exact hQ
theorem spC_mark_0 {μ : ZMem} {ns j : Nat} (h : zdS μ (μ.2.2 0 1) ns) (hj : j < ns) : Sp layC mX3_mark 5 [.ref 0, .int (nI 0), .int (nI j)] μ (some (.int (μ.1 ((μ.2.2 0 1) + 1) j))) (ztr μ 1) := by
  have hl0 := h.1.l0
  refine Sp.mk (L := [some (.ref 0), some (.int (nI 0)), some (.int (nI j))]) rfl (by decide +kernel) rfl rfl (fun Q hQ => ?_)
  refine z_aload_n dX3_mark_0 rfl ?_
  refine z_getM dX3_mark_1 zf_X3_19 (by first | rfl | assumption) rfl ?_
  refine z_iload_n dX3_mark_4 rfl ?_
  refine z_cV1r (dy := 0) dX3_mark_5 zl_X3_78 zy_X0_hasSaying (by first | rfl | assumption) rfl (by decide) (Nat.le_of_ble_eq_true rfl) (sp_hasSaying_t h hj rfl) ?_
  refine z_if_ne (tgt := 14) dX3_mark_8 (by decide) (fun _ => ?_) (fun hx_ => absurd hx_ (by decide))
  refine z_iload_n dX3_mark_14 rfl ?_
  refine z_tsw_in (off := 37) (tgt := 52) dX3_mark_15 (by decide) (by decide) (by decide) (by decide) ?_
  refine z_aload_n dX3_mark_52 rfl ?_
  refine z_iload_n dX3_mark_53 rfl ?_
  refine z_cV1r (dy := 2) dX3_mark_54 zl_X3_241 zy_X3_asSaying (by first | rfl | assumption) rfl (by decide) (Nat.le_of_ble_eq_true rfl) (sp_asSaying h hj) ?_
  refine z_iret dX3_mark_57 rfl ?_
  exact hQ
theorem spC_mark_1 {μ : ZMem} {ns j : Nat} (h : zdS μ (μ.2.2 0 1) ns) (hj : j < ns) : Sp layC mX3_mark 5 [.ref 0, .int (nI 1), .int (nI j)] μ (some (.int (μ.1 ((μ.2.2 0 1) + 1) j + zbc (μ.1 ((μ.2.2 0 1) + 2) j)))) (ztr (ztr μ 10) 1) := by
  have hl0 := h.1.l0
  refine Sp.mk (L := [some (.ref 0), some (.int (nI 1)), some (.int (nI j))]) rfl (by decide +kernel) rfl rfl (fun Q hQ => ?_)
  refine z_aload_n dX3_mark_0 rfl ?_
  refine z_getM dX3_mark_1 zf_X3_19 (by first | rfl | assumption) rfl ?_
  refine z_iload_n dX3_mark_4 rfl ?_
  refine z_cV1r (dy := 0) dX3_mark_5 zl_X3_78 zy_X0_hasSaying (by first | rfl | assumption) rfl (by decide) (Nat.le_of_ble_eq_true rfl) (sp_hasSaying_t h hj rfl) ?_
  refine z_if_ne (tgt := 14) dX3_mark_8 (by decide) (fun _ => ?_) (fun hx_ => absurd hx_ (by decide))
  refine z_iload_n dX3_mark_14 rfl ?_
  refine z_tsw_in (off := 43) (tgt := 58) dX3_mark_15 (by decide) (by decide) (by decide) (by decide) ?_
  refine z_aload_n dX3_mark_58 rfl ?_
  refine z_iload_n dX3_mark_59 rfl ?_
  refine z_cV1r (dy := 3) dX3_mark_60 zl_X3_244 zy_X3_asCough (by first | rfl | assumption) rfl (by decide) (Nat.le_of_ble_eq_true rfl) (sp_asCough h hj) ?_
  refine z_iret dX3_mark_63 rfl ?_
  exact hQ
theorem spC_mark_2 {μ : ZMem} {ns n j : Nat} (h : zdS μ (μ.2.2 0 1) ns) (hm : zmN μ n) (hj : j < ns) : Sp layC mX3_mark 5 [.ref 0, .int (nI 2), .int (nI j)] μ (some (.int (μ.1 ((μ.2.2 0 1) + 1) j - zfold (fun k a => if μ.1 12 k = nI j then a + 1 else a) 0 n))) (ztr (ztr μ 100) 1) := by
  have hl0 := h.1.l0
  refine Sp.mk (L := [some (.ref 0), some (.int (nI 2)), some (.int (nI j))]) rfl (by decide +kernel) rfl rfl (fun Q hQ => ?_)
  refine z_aload_n dX3_mark_0 rfl ?_
  refine z_getM dX3_mark_1 zf_X3_19 (by first | rfl | assumption) rfl ?_
  refine z_iload_n dX3_mark_4 rfl ?_
  refine z_cV1r (dy := 0) dX3_mark_5 zl_X3_78 zy_X0_hasSaying (by first | rfl | assumption) rfl (by decide) (Nat.le_of_ble_eq_true rfl) (sp_hasSaying_t h hj rfl) ?_
  refine z_if_ne (tgt := 14) dX3_mark_8 (by decide) (fun _ => ?_) (fun hx_ => absurd hx_ (by decide))
  refine z_iload_n dX3_mark_14 rfl ?_
  refine z_tsw_in (off := 49) (tgt := 64) dX3_mark_15 (by decide) (by decide) (by decide) (by decide) ?_
  refine z_aload_n dX3_mark_64 rfl ?_
  refine z_iload_n dX3_mark_65 rfl ?_
  refine z_cV1r (dy := 3) dX3_mark_66 zl_X3_247 zy_X3_asBell (by first | rfl | assumption) rfl (by decide) (Nat.le_of_ble_eq_true rfl) (sp_asBell h hm hj) ?_
  refine z_iret dX3_mark_69 rfl ?_
  exact hQ
theorem spC_mark_3 {μ : ZMem} {ns j : Nat} (h : zdS μ (μ.2.2 0 1) ns) (hj : j < ns) : Sp layC mX3_mark 5 [.ref 0, .int (nI 3), .int (nI j)] μ (some (.int ((μ.1 ((μ.2.2 0 1) + 1) j + zbc (μ.1 ((μ.2.2 0 1) + 2) j)) * 2))) (ztr (ztr (ztr μ 1000) 10) 1) := by
  have hl0 := h.1.l0
  refine Sp.mk (L := [some (.ref 0), some (.int (nI 3)), some (.int (nI j))]) rfl (by decide +kernel) rfl rfl (fun Q hQ => ?_)
  refine z_aload_n dX3_mark_0 rfl ?_
  refine z_getM dX3_mark_1 zf_X3_19 (by first | rfl | assumption) rfl ?_
  refine z_iload_n dX3_mark_4 rfl ?_
  refine z_cV1r (dy := 0) dX3_mark_5 zl_X3_78 zy_X0_hasSaying (by first | rfl | assumption) rfl (by decide) (Nat.le_of_ble_eq_true rfl) (sp_hasSaying_t h hj rfl) ?_
  refine z_if_ne (tgt := 14) dX3_mark_8 (by decide) (fun _ => ?_) (fun hx_ => absurd hx_ (by decide))
  refine z_iload_n dX3_mark_14 rfl ?_
  refine z_tsw_in (off := 55) (tgt := 70) dX3_mark_15 (by decide) (by decide) (by decide) (by decide) ?_
  refine z_aload_n dX3_mark_70 rfl ?_
  refine z_iload_n dX3_mark_71 rfl ?_
  refine z_cV1r (dy := 4) dX3_mark_72 zl_X3_250 zy_X3_asKnock (by first | rfl | assumption) rfl (by decide) (Nat.le_of_ble_eq_true rfl) (sp_asKnock h hj) ?_
  refine z_iret dX3_mark_75 rfl ?_
  exact hQ
theorem spC_mark_4 {μ : ZMem} {ns np n j : Nat} (h : zdS μ (μ.2.2 0 1) ns) (hp : zdP μ (μ.2.2 0 1) np) (hm : zmN μ n) (hj : j < ns) : Sp layC mX3_mark 5 [.ref 0, .int (nI 4), .int (nI j)] μ (some (.int (μ.1 ((μ.2.2 0 1) + 1) j - zfold (fun k a => if μ.1 12 k = nI j then a + 1 else a) 0 n + zbc (zkn (μ.1 ((μ.2.2 0 1) + 3)) (nI j) np)))) (ztr (ztr (ztr μ 10000) 100) 1) := by
  have hl0 := h.1.l0
  refine Sp.mk (L := [some (.ref 0), some (.int (nI 4)), some (.int (nI j))]) rfl (by decide +kernel) rfl rfl (fun Q hQ => ?_)
  refine z_aload_n dX3_mark_0 rfl ?_
  refine z_getM dX3_mark_1 zf_X3_19 (by first | rfl | assumption) rfl ?_
  refine z_iload_n dX3_mark_4 rfl ?_
  refine z_cV1r (dy := 0) dX3_mark_5 zl_X3_78 zy_X0_hasSaying (by first | rfl | assumption) rfl (by decide) (Nat.le_of_ble_eq_true rfl) (sp_hasSaying_t h hj rfl) ?_
  refine z_if_ne (tgt := 14) dX3_mark_8 (by decide) (fun _ => ?_) (fun hx_ => absurd hx_ (by decide))
  refine z_iload_n dX3_mark_14 rfl ?_
  refine z_tsw_in (off := 61) (tgt := 76) dX3_mark_15 (by decide) (by decide) (by decide) (by decide) ?_
  refine z_aload_n dX3_mark_76 rfl ?_
  refine z_iload_n dX3_mark_77 rfl ?_
  refine z_cV1r (dy := 4) dX3_mark_78 zl_X3_253 zy_X3_asEcho (by first | rfl | assumption) rfl (by decide) (Nat.le_of_ble_eq_true rfl) (sp_asEcho h hp hm hj) ?_
  refine z_iret dX3_mark_81 rfl ?_
  exact hQ
theorem spC_mark_5 {μ : ZMem} {ns j : Nat} (h : zdS μ (μ.2.2 0 1) ns) (hj : j < ns) : Sp layC mX3_mark 5 [.ref 0, .int (nI 5), .int (nI j)] μ (some (.int (μ.1 ((μ.2.2 0 1) + 1) j + μ.1 11 7))) (ztr (ztr μ 100000) 1) := by
  have hl0 := h.1.l0
  refine Sp.mk (L := [some (.ref 0), some (.int (nI 5)), some (.int (nI j))]) rfl (by decide +kernel) rfl rfl (fun Q hQ => ?_)
  refine z_aload_n dX3_mark_0 rfl ?_
  refine z_getM dX3_mark_1 zf_X3_19 (by first | rfl | assumption) rfl ?_
  refine z_iload_n dX3_mark_4 rfl ?_
  refine z_cV1r (dy := 0) dX3_mark_5 zl_X3_78 zy_X0_hasSaying (by first | rfl | assumption) rfl (by decide) (Nat.le_of_ble_eq_true rfl) (sp_hasSaying_t h hj rfl) ?_
  refine z_if_ne (tgt := 14) dX3_mark_8 (by decide) (fun _ => ?_) (fun hx_ => absurd hx_ (by decide))
  refine z_iload_n dX3_mark_14 rfl ?_
  refine z_tsw_in (off := 67) (tgt := 82) dX3_mark_15 (by decide) (by decide) (by decide) (by decide) ?_
  refine z_aload_n dX3_mark_82 rfl ?_
  refine z_iload_n dX3_mark_83 rfl ?_
  refine z_cV1r (dy := 3) dX3_mark_84 zl_X3_256 zy_X3_asOwl (by first | rfl | assumption) rfl (by decide) (Nat.le_of_ble_eq_true rfl) (sp_asOwl h hj) ?_
  refine z_iret dX3_mark_87 rfl ?_
  exact hQ
/-! what was told -/
def zclr (μ : ZMem) (k : Nat) : ZMem := (fun a b => if a = 32 ∧ b < k then 0 else μ.1 a b, μ.2)
theorem zclr_put (μ : ZMem) (k : Nat) : zI (zclr μ k) 32 k 0 = zclr μ (k + 1) := by
  refine Prod.ext (funext fun a => funext fun b => ?_) rfl
  simp only [zclr, zI, zup]
  by_cases ha : a = 32
  · subst ha
    by_cases hb : b = k
    · subst hb; simp
    · by_cases hlt : b < k
      · simp [hb, hlt, show b < k + 1 by omega]
      · simp [hb, hlt, show ¬ b < k + 1 by omega]
  · simp [ha]
theorem zclr_0 (μ : ZMem) : zclr μ 0 = μ := by
  refine Prod.ext (funext fun a => funext fun b => ?_) rfl
  simp [zclr]
theorem sp_tellNothing {μ : ZMem} : Sp layC mX3_tellNothing 0 [.ref 0] μ none (zI (zclr μ 8) 0 7 0) := by
  refine Sp.mk (L := [some (.ref 0), none]) rfl (by decide +kernel) rfl rfl (fun Q hQ => ?_)
  refine z_iconst (v := 0) dX3_tellNothing_0 (by decide) ?_
  refine z_istore_n (i := 1) dX3_tellNothing_1 rfl (by decide) ?_
  have key := zdown (P := fun k => ZW layC mX3_tellNothing 0 Q 2 [some (.ref 0), some (.int (nI k))] [] (zclr μ k)) 8 ?_ ?_ 0 (Nat.zero_le 8)
  · exact ZW.eq key rfl rfl rfl (zclr_0 μ).symm
  · refine z_iload_n dX3_tellNothing_2 rfl ?_
    refine z_bipush (v := 8) dX3_tellNothing_3 (by decide) ?_
    refine z_icmp_ge (tgt := 21) dX3_tellNothing_5 (by decide) (fun _ => ?_) (fun hx_ => absurd (by decide) hx_)
    refine z_aload_n dX3_tellNothing_21 rfl ?_
    refine z_iconst (v := 0) dX3_tellNothing_22 (by decide) ?_
    refine z_putI dX3_tellNothing_23 zf_X3_43p (by first | rfl | assumption) rfl rfl rfl ?_
    refine z_vret dX3_tellNothing_26 rfl ?_
    exact hQ
  · intro k hk ih
    refine z_iload_n dX3_tellNothing_2 rfl ?_
    refine z_bipush (v := 8) dX3_tellNothing_3 (by decide) ?_
    refine z_icmp_ge (tgt := 21) dX3_tellNothing_5 (by decide) (fun hx_ => absurd hx_ (nI_ge (b := 8) (by omega) (by decide))) (fun _ => ?_)
    refine z_aload_n dX3_tellNothing_8 rfl ?_
    refine z_getR dX3_tellNothing_9 zf_X3_39 (by first | rfl | assumption) rfl ?_
    refine z_iload_n dX3_tellNothing_12 rfl ?_
    refine z_iconst (v := 0) dX3_tellNothing_13 (by decide) ?_
    refine z_iast dX3_tellNothing_14 (by first | rfl | assumption) rfl (by first | assumption | omega | decide) (by decide) ?_
    rw [zclr_put]
    refine z_iinc (v := 1) dX3_tellNothing_15 rfl (by decide) (by decide) ?_
    refine z_goto (tgt := 2) dX3_tellNothing_18 (by decide) ?_
    exact ZW.eq ih rfl (by simp [nI_succ])
theorem spC_forget {μ : ZMem} : Sp layC mX3_forget 1 [.ref 0] μ (some (.int (μ.1 0 7))) (zI (zclr μ 8) 0 7 0) := by
  refine Sp.mk (L := [some (.ref 0), none]) rfl (by decide +kernel) rfl rfl (fun Q hQ => ?_)
  refine z_aload_n dX3_forget_0 rfl ?_
  refine z_getI dX3_forget_1 zf_X3_43 (by first | rfl | assumption) rfl ?_
  refine z_istore_n (i := 1) dX3_forget_4 rfl (by decide) ?_
  refine z_aload_n dX3_forget_5 rfl ?_
  refine z_cV0v (dy := 0) dX3_forget_6 zl_X3_75 zy_X3_tellNothing (by first | rfl | assumption) rfl (by decide) (Nat.le_of_ble_eq_true rfl) sp_tellNothing ?_
  refine z_iload_n dX3_forget_9 rfl ?_
  refine z_iret dX3_forget_10 rfl ?_
  exact hQ
theorem spC_tells_bad {μ : ZMem} {ns : Nat} (h : zdS μ (μ.2.2 0 1) ns) {w v : Int32} (hb : (w < 0 ∨ nI ns ≤ w) ∨ (∃ i, i < ns ∧ w = nI i) ∧ ((v < 0 ∨ nI ns ≤ v) ∨ (∃ j, j < ns ∧ v = nI j) ∧ w = v)) : Sp layC mX3_tells 1 [.ref 0, .int w, .int v] μ (some (.int (-1))) μ := by
  have hl0 := h.1.l0
  refine Sp.mk (L := [some (.ref 0), some (.int w), some (.int v)]) rfl (by decide +kernel) rfl rfl (fun Q hQ => ?_)
  rcases hb with hb | ⟨⟨i, hi, hw⟩, hb | ⟨⟨j, hj, hv⟩, e⟩⟩
  · refine z_aload_n dX3_tells_0 rfl ?_
    refine z_getM dX3_tells_1 zf_X3_19 (by first | rfl | assumption) rfl ?_
    refine z_iload_n dX3_tells_4 rfl ?_
    refine z_cV1r (dy := 0) dX3_tells_5 zl_X3_78 zy_X0_hasSaying (by first | rfl | assumption) rfl (by decide) (Nat.le_of_ble_eq_true rfl) (sp_hasSaying_f h hb) ?_
    refine z_if_eq (tgt := 27) dX3_tells_8 (by decide) (fun _ => ?_) (fun hx_ => absurd (rfl) hx_)
    refine z_iconst (v := -1) dX3_tells_27 (by decide) ?_
    refine z_iret dX3_tells_28 rfl ?_
    exact hQ
  · refine z_aload_n dX3_tells_0 rfl ?_
    refine z_getM dX3_tells_1 zf_X3_19 (by first | rfl | assumption) rfl ?_
    refine z_iload_n dX3_tells_4 rfl ?_
    refine z_cV1r (dy := 0) dX3_tells_5 zl_X3_78 zy_X0_hasSaying (by first | rfl | assumption) rfl (by decide) (Nat.le_of_ble_eq_true rfl) (sp_hasSaying_t h hi hw) ?_
    refine z_if_eq (tgt := 27) dX3_tells_8 (by decide) (fun hx_ => absurd hx_ (by decide)) (fun _ => ?_)
    refine z_aload_n dX3_tells_11 rfl ?_
    refine z_getM dX3_tells_12 zf_X3_19 (by first | rfl | assumption) rfl ?_
    refine z_iload_n dX3_tells_15 rfl ?_
    refine z_cV1r (dy := 0) dX3_tells_16 zl_X3_78 zy_X0_hasSaying (by first | rfl | assumption) rfl (by decide) (Nat.le_of_ble_eq_true rfl) (sp_hasSaying_f h hb) ?_
    refine z_if_eq (tgt := 27) dX3_tells_19 (by decide) (fun _ => ?_) (fun hx_ => absurd (rfl) hx_)
    refine z_iconst (v := -1) dX3_tells_27 (by decide) ?_
    refine z_iret dX3_tells_28 rfl ?_
    exact hQ
  · refine z_aload_n dX3_tells_0 rfl ?_
    refine z_getM dX3_tells_1 zf_X3_19 (by first | rfl | assumption) rfl ?_
    refine z_iload_n dX3_tells_4 rfl ?_
    refine z_cV1r (dy := 0) dX3_tells_5 zl_X3_78 zy_X0_hasSaying (by first | rfl | assumption) rfl (by decide) (Nat.le_of_ble_eq_true rfl) (sp_hasSaying_t h hi hw) ?_
    refine z_if_eq (tgt := 27) dX3_tells_8 (by decide) (fun hx_ => absurd hx_ (by decide)) (fun _ => ?_)
    refine z_aload_n dX3_tells_11 rfl ?_
    refine z_getM dX3_tells_12 zf_X3_19 (by first | rfl | assumption) rfl ?_
    refine z_iload_n dX3_tells_15 rfl ?_
    refine z_cV1r (dy := 0) dX3_tells_16 zl_X3_78 zy_X0_hasSaying (by first | rfl | assumption) rfl (by decide) (Nat.le_of_ble_eq_true rfl) (sp_hasSaying_t h hj hv) ?_
    refine z_if_eq (tgt := 27) dX3_tells_19 (by decide) (fun hx_ => absurd hx_ (by decide)) (fun _ => ?_)
    refine z_iload_n dX3_tells_22 rfl ?_
    refine z_iload_n dX3_tells_23 rfl ?_
    refine z_icmp_ne (tgt := 29) dX3_tells_24 (by decide) (fun hx_ => absurd e hx_) (fun _ => ?_)
    refine z_iconst (v := -1) dX3_tells_27 (by decide) ?_
    refine z_iret dX3_tells_28 rfl ?_
    exact hQ
theorem spC_tells_full {μ : ZMem} {ns i j : Nat} (h : zdS μ (μ.2.2 0 1) ns) (hi : i < ns) (hj : j < ns) (hne : ¬ nI i = nI j) (hf : (6 : Int32) ≤ μ.1 0 7) : Sp layC mX3_tells 1 [.ref 0, .int (nI i), .int (nI j)] μ (some (.int (-3))) μ := by
  have hl0 := h.1.l0
  refine Sp.mk (L := [some (.ref 0), some (.int (nI i)), some (.int (nI j))]) rfl (by decide +kernel) rfl rfl (fun Q hQ => ?_)
  refine z_aload_n dX3_tells_0 rfl ?_
  refine z_getM dX3_tells_1 zf_X3_19 (by first | rfl | assumption) rfl ?_
  refine z_iload_n dX3_tells_4 rfl ?_
  refine z_cV1r (dy := 0) dX3_tells_5 zl_X3_78 zy_X0_hasSaying (by first | rfl | assumption) rfl (by decide) (Nat.le_of_ble_eq_true rfl) (sp_hasSaying_t h hi rfl) ?_
  refine z_if_eq (tgt := 27) dX3_tells_8 (by decide) (fun hx_ => absurd hx_ (by decide)) (fun _ => ?_)
  refine z_aload_n dX3_tells_11 rfl ?_
  refine z_getM dX3_tells_12 zf_X3_19 (by first | rfl | assumption) rfl ?_
  refine z_iload_n dX3_tells_15 rfl ?_
  refine z_cV1r (dy := 0) dX3_tells_16 zl_X3_78 zy_X0_hasSaying (by first | rfl | assumption) rfl (by decide) (Nat.le_of_ble_eq_true rfl) (sp_hasSaying_t h hj rfl) ?_
  refine z_if_eq (tgt := 27) dX3_tells_19 (by decide) (fun hx_ => absurd hx_ (by decide)) (fun _ => ?_)
  refine z_iload_n dX3_tells_22 rfl ?_
  refine z_iload_n dX3_tells_23 rfl ?_
  refine z_icmp_ne (tgt := 29) dX3_tells_24 (by decide) (fun _ => ?_) (fun hx_ => absurd hx_ hne)
  refine z_aload_n dX3_tells_29 rfl ?_
  refine z_getI dX3_tells_30 zf_X3_43 (by first | rfl | assumption) rfl ?_
  refine z_bipush (v := 6) dX3_tells_33 (by decide) ?_
  refine z_icmp_lt (tgt := 41) dX3_tells_35 (by decide) (fun hx_ => absurd hx_ (Int32.not_lt.mpr hf)) (fun _ => ?_)
  refine z_bipush (v := -3) dX3_tells_38 (by decide) ?_
  refine z_iret dX3_tells_40 rfl ?_
  exact hQ
theorem spC_tells {μ : ZMem} {ns i j : Nat} (h : zdS μ (μ.2.2 0 1) ns) (hi : i < ns) (hj : j < ns) (hne : ¬ nI i = nI j) (hf : μ.1 0 7 < 6) : Sp layC mX3_tells 1 [.ref 0, .int (nI i), .int (nI j)] μ (some (.int (μ.1 0 7 + 1))) (zI (zI μ 32 j (μ.1 32 j ||| (1 <<< (nI i &&& 31)))) 0 7 (μ.1 0 7 + 1)) := by
  have hl0 := h.1.l0
  have h8 := h.2.2
  refine Sp.mk (L := [some (.ref 0), some (.int (nI i)), some (.int (nI j))]) rfl (by decide +kernel) rfl rfl (fun Q hQ => ?_)
  refine z_aload_n dX3_tells_0 rfl ?_
  refine z_getM dX3_tells_1 zf_X3_19 (by first | rfl | assumption) rfl ?_
  refine z_iload_n dX3_tells_4 rfl ?_
  refine z_cV1r (dy := 0) dX3_tells_5 zl_X3_78 zy_X0_hasSaying (by first | rfl | assumption) rfl (by decide) (Nat.le_of_ble_eq_true rfl) (sp_hasSaying_t h hi rfl) ?_
  refine z_if_eq (tgt := 27) dX3_tells_8 (by decide) (fun hx_ => absurd hx_ (by decide)) (fun _ => ?_)
  refine z_aload_n dX3_tells_11 rfl ?_
  refine z_getM dX3_tells_12 zf_X3_19 (by first | rfl | assumption) rfl ?_
  refine z_iload_n dX3_tells_15 rfl ?_
  refine z_cV1r (dy := 0) dX3_tells_16 zl_X3_78 zy_X0_hasSaying (by first | rfl | assumption) rfl (by decide) (Nat.le_of_ble_eq_true rfl) (sp_hasSaying_t h hj rfl) ?_
  refine z_if_eq (tgt := 27) dX3_tells_19 (by decide) (fun hx_ => absurd hx_ (by decide)) (fun _ => ?_)
  refine z_iload_n dX3_tells_22 rfl ?_
  refine z_iload_n dX3_tells_23 rfl ?_
  refine z_icmp_ne (tgt := 29) dX3_tells_24 (by decide) (fun _ => ?_) (fun hx_ => absurd hx_ hne)
  refine z_aload_n dX3_tells_29 rfl ?_
  refine z_getI dX3_tells_30 zf_X3_43 (by first | rfl | assumption) rfl ?_
  refine z_bipush (v := 6) dX3_tells_33 (by decide) ?_
  refine z_icmp_lt (tgt := 41) dX3_tells_35 (by decide) (fun _ => ?_) (fun hx_ => absurd hf hx_)
  refine z_aload_n dX3_tells_41 rfl ?_
  refine z_getR dX3_tells_42 zf_X3_39 (by first | rfl | assumption) rfl ?_
  refine z_iload_n dX3_tells_45 rfl ?_
  refine z_dup2 dX3_tells_46 rfl rfl ?_
  refine z_iald dX3_tells_47 (by first | rfl | assumption) rfl (by first | assumption | omega | decide) (by decide) ?_
  refine z_iconst (v := 1) dX3_tells_48 (by decide) ?_
  refine z_iload_n dX3_tells_49 rfl ?_
  refine z_ishl dX3_tells_50 ?_
  refine z_ior dX3_tells_51 ?_
  refine z_iast dX3_tells_52 (by first | rfl | assumption) rfl (by first | assumption | omega | decide) (by decide) ?_
  refine z_aload_n dX3_tells_53 rfl ?_
  refine z_dup dX3_tells_54 rfl ?_
  refine z_getI dX3_tells_55 zf_X3_43 (by first | rfl | assumption) rfl ?_
  refine z_iconst (v := 1) dX3_tells_58 (by decide) ?_
  refine z_iadd dX3_tells_59 ?_
  refine z_putI dX3_tells_60 zf_X3_43p (by first | rfl | assumption) rfl rfl rfl ?_
  refine z_aload_n dX3_tells_63 rfl ?_
  refine z_getI dX3_tells_64 zf_X3_43 (by first | rfl | assumption) rfl ?_
  refine z_iret dX3_tells_67 rfl ?_
  exact hQ
theorem spC_fits {μ : ZMem} {n : Nat} (hm : zmN μ n) : Sp layC mX3_fits 1 [.ref 0] μ (some (.int (if zff (fun v => decide (¬ μ.1 32 v &&& (zah (μ.1 12) (nI v) 0 n 0 ^^^ -1) = 0)) 0 8 = -9 then 1 else 0))) μ := by
  refine Sp.mk (L := [some (.ref 0), none]) rfl (by decide +kernel) rfl rfl (fun Q hQ => ?_)
  refine z_iconst (v := 0) dX3_fits_0 (by decide) ?_
  refine z_istore_n (i := 1) dX3_fits_1 rfl (by decide) ?_
  generalize hp : (fun v => decide (¬ μ.1 32 v &&& (zah (μ.1 12) (nI v) 0 n 0 ^^^ -1) = 0)) = p at hQ
  refine zdown (P := fun k => zff p 0 8 = zff p k (8 - k) → ZW layC mX3_fits 1 Q 2 [some (.ref 0), some (.int (nI k))] [] μ) 8 ?_ ?_ 0 (Nat.zero_le 8) rfl
  · intro e
    rw [e, zff_end, if_pos rfl] at hQ
    refine z_iload_n dX3_fits_2 rfl ?_
    refine z_bipush (v := 8) dX3_fits_3 (by decide) ?_
    refine z_icmp_ge (tgt := 36) dX3_fits_5 (by decide) (fun _ => ?_) (fun hx_ => absurd (by decide) hx_)
    refine z_iconst (v := 1) dX3_fits_36 (by decide) ?_
    refine z_iret dX3_fits_37 rfl ?_
    exact hQ
  · intro k hk ih e
    rw [zff_step hk] at e
    refine z_iload_n dX3_fits_2 rfl ?_
    refine z_bipush (v := 8) dX3_fits_3 (by decide) ?_
    refine z_icmp_ge (tgt := 36) dX3_fits_5 (by decide) (fun hx_ => absurd hx_ (nI_ge (b := 8) (by omega) (by decide))) (fun _ => ?_)
    refine z_aload_n dX3_fits_8 rfl ?_
    refine z_getR dX3_fits_9 zf_X3_39 (by first | rfl | assumption) rfl ?_
    refine z_iload_n dX3_fits_12 rfl ?_
    refine z_iald dX3_fits_13 (by first | rfl | assumption) rfl (by first | assumption | omega | decide) (by decide) ?_
    refine z_aload_n dX3_fits_14 rfl ?_
    refine z_getR dX3_fits_15 zf_X3_29 (by first | rfl | assumption) rfl ?_
    refine z_iload_n dX3_fits_18 rfl ?_
    refine z_cV1r (dy := 0) dX3_fits_19 zl_X3_231 zy_X1_aheadOf (by first | rfl | assumption) rfl (by decide) (Nat.le_of_ble_eq_true rfl) (sp_aheadOf hm _) ?_
    refine z_iconst (v := -1) dX3_fits_22 (by decide) ?_
    refine z_ixor dX3_fits_23 ?_
    refine z_iand dX3_fits_24 ?_
    refine z_if_eq (tgt := 30) dX3_fits_25 (by decide) (fun hb25 => ?_) (fun hb25 => ?_)
    · refine z_iinc (v := 1) dX3_fits_30 rfl (by decide) (by decide) ?_
      refine z_goto (tgt := 2) dX3_fits_33 (by decide) ?_
      exact ZW.eq (ih (by rw [e, if_neg (by rw [← hp]; simpa using hb25)])) rfl (by simp [nI_succ])
    · refine z_iconst (v := 0) dX3_fits_28 (by decide) ?_
      refine z_iret dX3_fits_29 rfl ?_
      have e2 : zff p 0 8 = nI k := by rw [e, if_pos (by rw [← hp]; simpa using hb25)]
      rw [e2, if_neg (nI_ne9 (by omega))] at hQ
      exact hQ

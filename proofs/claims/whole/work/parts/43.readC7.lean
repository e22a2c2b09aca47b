/-! ===== a text is read into the duchy at 7 ===== -/
theorem sp_readFrom_d7 {μ : ZMem} {x : Nat → Nat} {t : Nat} (h : ztx μ x t) {Qs : Option Value → ZMem → Prop}
    (hok : ∀ δ n, zits x t 14 0 (zd0 (μ.1 8) (μ.1 9) (μ.1 10)) (ztk x t 0) = (some δ, n) → δ.1 ≤ 8 → δ.2.1 ≤ 5 → ∀ a b c d, Qs (some (.int (nI n))) (zset μ 7 δ a b c d))
    (hbad : ∀ f, zits x t 14 0 (zd0 (μ.1 8) (μ.1 9) (μ.1 10)) (ztk x t 0) = (none, f) → f ≤ 200 → ∀ δ a b c d, Qs (some (.int (-10 - nI f))) (zT (zDr μ 7 δ) a b c d)) :
    Spec layC mX0_readFrom 5 [.ref 7, .ref 1] μ Qs := by
  have hx : ∀ k, k < t → x k < 256 := fun k hk => (h.2.2 k hk).2
  have h200 := h.2.1
  refine Spec.mk (L := [some (.ref 7), some (.ref 1), none]) rfl (by decide +kernel) rfl rfl (fun Q hQ => ?_)
  generalize hz0 : zits x t 14 0 (zd0 (μ.1 8) (μ.1 9) (μ.1 10)) (ztk x t 0) = Z at hok hbad
  refine z_aload_n dX0_readFrom_0 rfl ?_
  refine z_iconst (v := 0) dX0_readFrom_1 (by decide) ?_
  refine z_putI dX0_readFrom_2 zf_X0_25p (by first | rfl | assumption) rfl rfl rfl ?_
  refine z_aload_n dX0_readFrom_5 rfl ?_
  refine z_iconst (v := 0) dX0_readFrom_6 (by decide) ?_
  refine z_putI dX0_readFrom_7 zf_X0_28p (by first | rfl | assumption) rfl rfl rfl ?_
  refine z_aload_n dX0_readFrom_10 rfl ?_
  refine z_iconst (v := 3) dX0_readFrom_11 (by decide) ?_
  refine z_putI dX0_readFrom_12 zf_X0_21p (by first | rfl | assumption) rfl rfl rfl ?_
  refine z_aload_n dX0_readFrom_15 rfl ?_
  refine z_iconst (v := 0) dX0_readFrom_16 (by decide) ?_
  refine z_putI dX0_readFrom_17 zf_X0_31p (by first | rfl | assumption) rfl (by decide) rfl ?_
  refine z_aload_n dX0_readFrom_20 rfl ?_
  refine z_iconst (v := 0) dX0_readFrom_21 (by decide) ?_
  refine z_putI dX0_readFrom_22 zf_X0_35p (by first | rfl | assumption) rfl rfl rfl ?_
  have e0 : zI (zI (zI (zI (zI μ 7 3 0) 7 4 0) 7 5 3) 7 6 0) 7 7 0 = zDr μ 7 (zd0 (μ.1 8) (μ.1 9) (μ.1 10)) := by
    have hs := zDq_self μ 7
    rw [← hs, zDq_3, zDq_4, zDq_5, zDq_6, zDq_7, hs]
    rfl
  rw [e0]
  refine z_iconst (v := 0) dX0_readFrom_25 (by decide) ?_
  refine z_istore_n (i := 2) dX0_readFrom_26 rfl (by decide) ?_
  refine z_aload_n dX0_readFrom_27 rfl ?_
  refine z_cV0v (dy := 3) dX0_readFrom_28 zl_X0_38 zy_X2_rewind (by first | rfl | assumption) rfl (by decide) (Nat.le_of_ble_eq_true rfl) (by refine sp_rewind (x := x) (t := t) ?_; exact h) ?_
  have key : ∀ m n δ T0, n + m = 14 → δ.1 ≤ 8 → δ.2.1 ≤ 5 → δ.2.2.2.1 ≤ 1 → (T0.1 ≤ 4 ∧ T0.2.1 ≤ t ∧ T0.2.2.1 ≤ t ∧ T0.2.2.2 < 256) → Z = zits x t m n δ T0 → ZW layC mX0_readFrom 5 Q 31 [some (.ref 7), some (.ref 1), some (.int (nI n))] [] (zT (zDr μ 7 δ) (nI T0.1) (nI T0.2.1) (nI T0.2.2.1) (nI T0.2.2.2)) := by
    intro m
    induction m with
    | zero =>
      intro n δ T0 hn b1 b2 b3 hT e
      have e2 : zits x t 0 n δ T0 = if T0.1 = 0 then (some δ, n) else (none, T0.2.1) := rfl
      rw [e2] at e
      have hn14 : n = 14 := by omega
      by_cases hend : T0.1 = 0
      · rw [if_pos hend] at e
        refine z_iload_n dX0_readFrom_31 rfl ?_
        refine z_bipush (v := 14) dX0_readFrom_32 (by decide) ?_
        refine z_icmp_ge (tgt := 70) dX0_readFrom_34 (by decide) (fun _ => ?_) (fun hx_ => absurd (by rw [hn14]; decide) hx_)
        refine z_aload_n dX0_readFrom_70 rfl ?_
        refine z_getI dX0_readFrom_71 zf_X0_43 (by first | rfl | assumption) rfl ?_
        refine z_if_eq (tgt := 85) dX0_readFrom_74 (by decide) (fun _ => ?_) (fun hx_ => absurd (by show nI T0.1 = 0; rw [hend]; rfl) hx_)
        refine z_aload_n dX0_readFrom_85 rfl ?_
        refine z_cV0v (dy := 0) dX0_readFrom_86 zl_X0_56 zy_X0_settle (by first | rfl | assumption) rfl (by decide) (Nat.le_of_ble_eq_true rfl) (sp_settle_d7 b1 b2 _ _ _ _) ?_
        refine z_iload_n dX0_readFrom_89 rfl ?_
        refine z_iret dX0_readFrom_90 rfl ?_
        exact hQ _ _ (hok δ n e b1 b2 _ _ _ _)
      · rw [if_neg hend] at e
        refine z_iload_n dX0_readFrom_31 rfl ?_
        refine z_bipush (v := 14) dX0_readFrom_32 (by decide) ?_
        refine z_icmp_ge (tgt := 70) dX0_readFrom_34 (by decide) (fun _ => ?_) (fun hx_ => absurd (by rw [hn14]; decide) hx_)
        refine z_aload_n dX0_readFrom_70 rfl ?_
        refine z_getI dX0_readFrom_71 zf_X0_43 (by first | rfl | assumption) rfl ?_
        refine z_if_eq (tgt := 85) dX0_readFrom_74 (by decide) (fun hx_ => absurd hx_ (by show ¬ nI T0.1 = 0; exact nI_ne0 (by omega) (by omega))) (fun _ => ?_)
        refine z_bipush (v := -10) dX0_readFrom_77 (by decide) ?_
        refine z_aload_n dX0_readFrom_79 rfl ?_
        refine z_getI dX0_readFrom_80 zf_X0_50 (by first | rfl | assumption) rfl ?_
        refine z_isub dX0_readFrom_83 ?_
        refine z_iret dX0_readFrom_84 rfl ?_
        exact hQ _ _ (hbad _ e (by omega) δ _ _ _ _)
    | succ m ih =>
      intro n δ T0 hn b1 b2 b3 hT e
      have e2 : zits x t (m + 1) n δ T0 = if T0.1 = 0 then (some δ, n) else match zit x t δ T0 with
        | (none, T) => (none, T.2.1)
        | (some δ', T) => zits x t m (n + 1) δ' (ztk x t T.2.2.1) := rfl
      rw [e2] at e
      by_cases hend : T0.1 = 0
      · rw [if_pos hend] at e
        refine z_iload_n dX0_readFrom_31 rfl ?_
        refine z_bipush (v := 14) dX0_readFrom_32 (by decide) ?_
        refine z_icmp_ge (tgt := 70) dX0_readFrom_34 (by decide) (fun hx_ => absurd hx_ (nI_ge (b := 14) (by omega) (by decide))) (fun _ => ?_)
        refine z_aload_n dX0_readFrom_37 rfl ?_
        refine z_getI dX0_readFrom_38 zf_X0_43 (by first | rfl | assumption) rfl ?_
        refine z_if_eq (tgt := 70) dX0_readFrom_41 (by decide) (fun _ => ?_) (fun hx_ => absurd (by show nI T0.1 = 0; rw [hend]; rfl) hx_)
        refine z_aload_n dX0_readFrom_70 rfl ?_
        refine z_getI dX0_readFrom_71 zf_X0_43 (by first | rfl | assumption) rfl ?_
        refine z_if_eq (tgt := 85) dX0_readFrom_74 (by decide) (fun _ => ?_) (fun hx_ => absurd (by show nI T0.1 = 0; rw [hend]; rfl) hx_)
        refine z_aload_n dX0_readFrom_85 rfl ?_
        refine z_cV0v (dy := 0) dX0_readFrom_86 zl_X0_56 zy_X0_settle (by first | rfl | assumption) rfl (by decide) (Nat.le_of_ble_eq_true rfl) (sp_settle_d7 b1 b2 _ _ _ _) ?_
        refine z_iload_n dX0_readFrom_89 rfl ?_
        refine z_iret dX0_readFrom_90 rfl ?_
        exact hQ _ _ (hok δ n e b1 b2 _ _ _ _)
      · rw [if_neg hend] at e
        have hri := sp_readItem_d7 (δ := δ) (T0 := T0) h b1 b2 b3 hT
        have hle := zit_le (δ := δ) hx hT
        cases hz : zit x t δ T0 with
        | mk o T =>
          rw [hz] at hri hle
          cases o with
          | none =>
            rw [hz] at e
            refine z_iload_n dX0_readFrom_31 rfl ?_
            refine z_bipush (v := 14) dX0_readFrom_32 (by decide) ?_
            refine z_icmp_ge (tgt := 70) dX0_readFrom_34 (by decide) (fun hx_ => absurd hx_ (nI_ge (b := 14) (by omega) (by decide))) (fun _ => ?_)
            refine z_aload_n dX0_readFrom_37 rfl ?_
            refine z_getI dX0_readFrom_38 zf_X0_43 (by first | rfl | assumption) rfl ?_
            refine z_if_eq (tgt := 70) dX0_readFrom_41 (by decide) (fun hx_ => absurd hx_ (by show ¬ nI T0.1 = 0; exact nI_ne0 (by omega) (by omega))) (fun _ => ?_)
            refine z_aload_n dX0_readFrom_44 rfl ?_
            refine z_aload_n dX0_readFrom_45 rfl ?_
            refine z_cV1r (dy := 4) dX0_readFrom_46 zl_X0_46 zy_X0_readItem (by first | rfl | assumption) rfl (by decide) (Nat.le_of_ble_eq_true rfl) hri ?_
            refine z_if_ne (tgt := 60) dX0_readFrom_49 (by decide) (fun hx_ => absurd (rfl) hx_) (fun _ => ?_)
            refine z_bipush (v := -10) dX0_readFrom_52 (by decide) ?_
            refine z_aload_n dX0_readFrom_54 rfl ?_
            refine z_getI dX0_readFrom_55 zf_X0_50 (by first | rfl | assumption) rfl ?_
            refine z_isub dX0_readFrom_58 ?_
            refine z_iret dX0_readFrom_59 rfl ?_
            exact hQ _ _ (hbad _ e (Nat.le_trans hle.2.1 h200) δ _ _ _ _)
          | some δ' =>
            rw [hz] at e
            obtain ⟨L, num, bb, hroom, rfl⟩ := zit_some hz
            obtain ⟨q1, q2, q3, -⟩ := ztake_le (num := num) (b := bb) hroom b1 b2 b3
            refine z_iload_n dX0_readFrom_31 rfl ?_
            refine z_bipush (v := 14) dX0_readFrom_32 (by decide) ?_
            refine z_icmp_ge (tgt := 70) dX0_readFrom_34 (by decide) (fun hx_ => absurd hx_ (nI_ge (b := 14) (by omega) (by decide))) (fun _ => ?_)
            refine z_aload_n dX0_readFrom_37 rfl ?_
            refine z_getI dX0_readFrom_38 zf_X0_43 (by first | rfl | assumption) rfl ?_
            refine z_if_eq (tgt := 70) dX0_readFrom_41 (by decide) (fun hx_ => absurd hx_ (by show ¬ nI T0.1 = 0; exact nI_ne0 (by omega) (by omega))) (fun _ => ?_)
            refine z_aload_n dX0_readFrom_44 rfl ?_
            refine z_aload_n dX0_readFrom_45 rfl ?_
            refine z_cV1r (dy := 4) dX0_readFrom_46 zl_X0_46 zy_X0_readItem (by first | rfl | assumption) rfl (by decide) (Nat.le_of_ble_eq_true rfl) hri ?_
            refine z_if_ne (tgt := 60) dX0_readFrom_49 (by decide) (fun _ => ?_) (fun hx_ => absurd hx_ (show ¬ (1 : Int32) = 0 by decide))
            refine z_iinc (v := 1) dX0_readFrom_60 rfl (by decide) (by decide) ?_
            refine z_aload_n dX0_readFrom_63 rfl ?_
            refine z_cV0v (dy := 2) dX0_readFrom_64 zl_X0_53 zy_X2_advance (by first | rfl | assumption) rfl (by decide) (Nat.le_of_ble_eq_true rfl) (by refine sp_advance (x := x) (t := t) ?_ hle.2.2.1 _ _ _; exact h) ?_
            refine z_goto (tgt := 31) dX0_readFrom_67 (by decide) ?_
            exact ZW.eq (ih (n + 1) (ztake δ L num bb) (ztk x t T.2.2.1) (by omega) q1 q2 q3 (ztk_le hx hle.2.2.1) e) rfl (by rw [nI_succ n]; rfl)
  exact key 14 0 _ (ztk x t 0) rfl (show (0 : Nat) ≤ 8 by decide) (show (0 : Nat) ≤ 5 by decide) (show (0 : Nat) ≤ 1 by decide) (ztk_le hx (Nat.zero_le _)) hz0.symm
theorem spC_duchy_d7 {μ : ZMem} {x : Nat → Nat} {t : Nat} (h : ztx μ x t) (hsp : μ.2.2 0 2 = 7) {Qs : Option Value → ZMem → Prop}
    (hok : ∀ δ n, zits x t 14 0 (zd0 (μ.1 8) (μ.1 9) (μ.1 10)) (ztk x t 0) = (some δ, n) → δ.1 ≤ 8 → δ.2.1 ≤ 5 → ∀ a b c d, Qs (some (.int (nI n))) (zdu2 μ (zset μ 7 δ a b c d)))
    (hbad : ∀ f, zits x t 14 0 (zd0 (μ.1 8) (μ.1 9) (μ.1 10)) (ztk x t 0) = (none, f) → f ≤ 200 → ∀ δ a b c d, Qs (some (.int (-10 - nI f))) (zT (zDr μ 7 δ) a b c d))
    (hn : ∀ δ n, zits x t 14 0 (zd0 (μ.1 8) (μ.1 9) (μ.1 10)) (ztk x t 0) = (some δ, n) → n < 2 ^ 31) :
    Spec layC mX3_duchy 6 [.ref 0] μ Qs := by
  refine Spec.mk (L := [some (.ref 0), none, none]) rfl (by decide +kernel) rfl rfl (fun Q hQ => ?_)
  refine z_aload_n dX3_duchy_0 rfl ?_
  refine z_getM dX3_duchy_1 zf_X3_23 (by first | rfl | assumption) rfl ?_
  refine z_aload_n dX3_duchy_4 rfl ?_
  refine z_getR dX3_duchy_5 zf_X3_12 (by first | rfl | assumption) rfl ?_
  rw [hsp]
  refine z_callV (As := [.ref 1]) (dy := 5) dX3_duchy_8 zl_X3_64 zy_X0_readFrom rfl rfl rfl (by decide) (Nat.le_of_ble_eq_true rfl) (sp_readFrom_d7 (Qs := fun r m => (∃ n, n < 2 ^ 31 ∧ r = some (.int (nI n)) ∧ Qs (some (.int (nI n))) (zdu2 μ m) ∧ m.2 = μ.2) ∨ (∃ f, f ≤ 200 ∧ r = some (.int (-10 - nI f)) ∧ Qs r m)) h (fun δ n e q1 q2 a b c d => Or.inl ⟨n, hn δ n e, rfl, hok δ n e q1 q2 a b c d, rfl⟩) (fun f e hf δ a b c d => Or.inr ⟨f, hf, rfl, hbad f e hf δ a b c d⟩)) (fun r m hm => ?_)
  rcases hm with ⟨n, hn31, rfl, hqs, hm2⟩ | ⟨f, hf, rfl, hqs⟩
  · show ZW layC mX3_duchy 6 Q 11 _ [.int (nI n)] m
    refine z_istore_n (i := 1) dX3_duchy_11 rfl (by decide) ?_
    refine z_iload_n dX3_duchy_12 rfl ?_
    refine z_if_ge (tgt := 18) dX3_duchy_13 (by decide) (fun _ => ?_) (fun hx_ => absurd (nI_pos' hn31) hx_)
    refine z_aload_n dX3_duchy_18 rfl ?_
    refine z_getM dX3_duchy_19 zf_X3_19 (by first | rfl | assumption) rfl ?_
    refine z_astore_n (i := 2) dX3_duchy_22 rfl (by decide) ?_
    refine z_aload_n dX3_duchy_23 rfl ?_
    refine z_aload_n dX3_duchy_24 rfl ?_
    refine z_getM dX3_duchy_25 zf_X3_23 (by first | rfl | assumption) rfl ?_
    refine z_putM dX3_duchy_28 zf_X3_19p (by first | rfl | assumption) rfl ⟨_, rfl⟩ ?_
    refine z_aload_n dX3_duchy_31 rfl ?_
    refine z_aload_n dX3_duchy_32 rfl ?_
    refine z_putM dX3_duchy_33 zf_X3_23p (by first | rfl | assumption) rfl ⟨_, rfl⟩ ?_
    refine z_aload_n dX3_duchy_36 rfl ?_
    refine z_getR dX3_duchy_37 zf_X3_12 (by first | rfl | assumption) rfl ?_
    refine z_iconst (v := 0) dX3_duchy_40 (by decide) ?_
    refine z_putI dX3_duchy_41 zf_X3_61p (by first | rfl | assumption) rfl rfl rfl ?_
    refine z_aload_n dX3_duchy_44 rfl ?_
    refine z_getR dX3_duchy_45 zf_X3_29 (by first | rfl | assumption) rfl ?_
    refine z_cV0v (dy := 0) dX3_duchy_48 zl_X3_68 zy_X1_reset (by first | rfl | assumption) rfl (by decide) (Nat.le_of_ble_eq_true rfl) sp_reset ?_
    refine z_aload_n dX3_duchy_51 rfl ?_
    refine z_getR dX3_duchy_52 zf_X3_33 (by first | rfl | assumption) rfl ?_
    refine z_iconst (v := 0) dX3_duchy_55 (by decide) ?_
    refine z_putI dX3_duchy_56 zf_X3_71p (by first | rfl | assumption) rfl (by decide) rfl ?_
    refine z_aload_n dX3_duchy_59 rfl ?_
    refine z_getR dX3_duchy_60 zf_X3_36 (by first | rfl | assumption) rfl ?_
    refine z_iconst (v := 0) dX3_duchy_63 (by decide) ?_
    refine z_putI dX3_duchy_64 zf_X3_71p (by first | rfl | assumption) rfl (by decide) rfl ?_
    refine z_aload_n dX3_duchy_67 rfl ?_
    refine z_cV0v (dy := 0) dX3_duchy_68 zl_X3_75 zy_X3_tellNothing (by first | rfl | assumption) rfl (by decide) (Nat.le_of_ble_eq_true rfl) sp_tellNothing ?_
    refine z_iload_n dX3_duchy_71 rfl ?_
    refine z_iret dX3_duchy_72 rfl ?_
    have e1 : m.2.2 0 2 = μ.2.2 0 2 := by rw [hm2]
    have e2 : m.2.2 0 1 = μ.2.2 0 1 := by rw [hm2]
    unfold zdu2 at hqs
    rw [← e1, ← e2] at hqs
    exact hQ _ _ hqs
  · show ZW layC mX3_duchy 6 Q 11 _ [.int (-10 - nI f)] m
    refine z_istore_n (i := 1) dX3_duchy_11 rfl (by decide) ?_
    refine z_iload_n dX3_duchy_12 rfl ?_
    refine z_if_ge (tgt := 18) dX3_duchy_13 (by decide) (fun hx_ => absurd hx_ (Int32.not_le.mpr (zfault_neg hf))) (fun _ => ?_)
    refine z_iload_n dX3_duchy_16 rfl ?_
    refine z_iret dX3_duchy_17 rfl ?_
    exact hQ _ _ hqs

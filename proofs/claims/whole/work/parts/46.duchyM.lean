theorem zDp_self (μ : ZMem) : zDp μ (μ.1 2 1) (μ.1 6 1) (μ.1 8 1) (μ.1 0 10) (μ.1 5 1) (fun k => μ.1 3 (8 + k)) (fun k => μ.1 4 (8 + k)) (fun k => μ.1 7 (5 + k)) = μ := by
  refine Prod.ext (funext fun i => funext fun j => ?_) rfl
  simp only [zDp]
  by_cases h0 : i = 0
  · subst h0; by_cases hj : j = 10 <;> simp [hj]
  · by_cases h2 : i = 2
    · subst h2; by_cases hj : j = 1 <;> simp [hj]
    · by_cases h6 : i = 6
      · subst h6; by_cases hj : j = 1 <;> simp [hj]
      · by_cases h8 : i = 8
        · subst h8; by_cases hj : j = 1 <;> simp [hj]
        · by_cases h5 : i = 5
          · subst h5; by_cases hj : j = 1 <;> simp [hj]
          · by_cases h3 : i = 3
            · subst h3
              by_cases hj : 8 ≤ j
              · simp [hj, show 8 + (j - 8) = j by omega]
              · simp [hj]
            · by_cases h4 : i = 4
              · subst h4
                by_cases hj : 8 ≤ j
                · simp [hj, show 8 + (j - 8) = j by omega]
                · simp [hj]
              · by_cases h7 : i = 7
                · subst h7
                  by_cases hj : 5 ≤ j
                  · simp [hj, show 5 + (j - 5) = j by omega]
                  · simp [hj]
                · simp [h0, h2, h6, h8, h5, h3, h4, h7]
def zdM0 (μ : ZMem) : ZD := zd0 (fun k => μ.1 3 (8 + k)) (fun k => μ.1 4 (8 + k)) (fun k => μ.1 7 (5 + k))
theorem zplain_eq (μ : ZMem) : zI (zI (zI (zI (zI μ 2 1 0) 5 1 0) 6 1 0) 8 1 3) 0 10 0 = zDm μ (zdM0 μ) := by
  have hs := zDp_self μ
  rw [← hs, zDp_f3, zDp_f7, zDp_f4, zDp_f5, zDp_f6, hs]
  rfl
theorem sp_plain {μ : ZMem} : Sp layM mX4_plain 0 [.ref 0] μ none (zDm μ (zdM0 μ)) := by
  rw [← zplain_eq]
  refine Sp.mk (L := [some (.ref 0)]) rfl (by decide +kernel) rfl rfl (fun Q hQ => ?_)
  refine z_aload_n dX4_plain_0 rfl ?_
  refine z_getR dX4_plain_1 zf_X4_13 (by first | rfl | assumption) rfl ?_
  refine z_iconst (v := 1) dX4_plain_4 (by decide) ?_
  refine z_iconst (v := 0) dX4_plain_5 (by decide) ?_
  refine z_iast dX4_plain_6 (by first | rfl | assumption) rfl (by first | assumption | omega | decide) (by decide) ?_
  refine z_aload_n dX4_plain_7 rfl ?_
  refine z_getR dX4_plain_8 zf_X4_23 (by first | rfl | assumption) rfl ?_
  refine z_iconst (v := 1) dX4_plain_11 (by decide) ?_
  refine z_iconst (v := 0) dX4_plain_12 (by decide) ?_
  refine z_iast dX4_plain_13 (by first | rfl | assumption) rfl (by first | assumption | omega | decide) (by decide) ?_
  refine z_aload_n dX4_plain_14 rfl ?_
  refine z_getR dX4_plain_15 zf_X4_26 (by first | rfl | assumption) rfl ?_
  refine z_iconst (v := 1) dX4_plain_18 (by decide) ?_
  refine z_iconst (v := 0) dX4_plain_19 (by decide) ?_
  refine z_iast dX4_plain_20 (by first | rfl | assumption) rfl (by first | assumption | omega | decide) (by decide) ?_
  refine z_aload_n dX4_plain_21 rfl ?_
  refine z_getR dX4_plain_22 zf_X4_32 (by first | rfl | assumption) rfl ?_
  refine z_iconst (v := 1) dX4_plain_25 (by decide) ?_
  refine z_iconst (v := 3) dX4_plain_26 (by decide) ?_
  refine z_iast dX4_plain_27 (by first | rfl | assumption) rfl (by first | assumption | omega | decide) (by decide) ?_
  refine z_aload_n dX4_plain_28 rfl ?_
  refine z_iconst (v := 0) dX4_plain_29 (by decide) ?_
  refine z_putI dX4_plain_30 zf_X4_91p (by first | rfl | assumption) rfl (by decide) rfl ?_
  refine z_vret dX4_plain_33 rfl ?_
  exact hQ
/-- a draft taken, the talk and all that is kept forgotten -/
def ztdK (m : ZMem) (th : Int32) (k q : Nat) : ZMem := (fun i j => if i = 3 then (if j < k then m.1 3 (8 + j) else m.1 3 j) else if i = 4 then (if j < k then m.1 4 (8 + j) &&& th else m.1 4 j) else if i = 7 then (if j < q then m.1 7 (5 + j) &&& th else m.1 7 j) else m.1 i j, m.2)
def ztd1 (m : ZMem) : ZMem := zI (zI (zI (zI m 2 0 (m.1 2 1)) 5 0 (m.1 5 1)) 6 0 (m.1 6 1)) 8 0 (m.1 8 1)
def ztd (m : ZMem) : ZMem := zI (zI (zI (zI (zI (zI (ztdK (ztd1 m) (1 <<< (m.1 2 1 &&& 31) - 1) 8 5) 9 120 0) 9 121 0) 9 122 0) 0 20 0) 10 0 0) 10 1 0
theorem sp_takeDraft {m : ZMem} : Sp layM mX4_takeDraft 0 [.ref 0] m none (ztd m) := by
  refine Sp.mk (L := [some (.ref 0), none, none]) rfl (by decide +kernel) rfl rfl (fun Q hQ => ?_)
  refine z_aload_n dX4_takeDraft_0 rfl ?_
  refine z_getR dX4_takeDraft_1 zf_X4_13 (by first | rfl | assumption) rfl ?_
  refine z_iconst (v := 0) dX4_takeDraft_4 (by decide) ?_
  refine z_aload_n dX4_takeDraft_5 rfl ?_
  refine z_getR dX4_takeDraft_6 zf_X4_13 (by first | rfl | assumption) rfl ?_
  refine z_iconst (v := 1) dX4_takeDraft_9 (by decide) ?_
  refine z_iald dX4_takeDraft_10 (by first | rfl | assumption) rfl (by first | assumption | omega | decide) (by decide) ?_
  refine z_iast dX4_takeDraft_11 (by first | rfl | assumption) rfl (by first | assumption | omega | decide) (by decide) ?_
  refine z_aload_n dX4_takeDraft_12 rfl ?_
  refine z_getR dX4_takeDraft_13 zf_X4_23 (by first | rfl | assumption) rfl ?_
  refine z_iconst (v := 0) dX4_takeDraft_16 (by decide) ?_
  refine z_aload_n dX4_takeDraft_17 rfl ?_
  refine z_getR dX4_takeDraft_18 zf_X4_23 (by first | rfl | assumption) rfl ?_
  refine z_iconst (v := 1) dX4_takeDraft_21 (by decide) ?_
  refine z_iald dX4_takeDraft_22 (by first | rfl | assumption) rfl (by first | assumption | omega | decide) (by decide) ?_
  refine z_iast dX4_takeDraft_23 (by first | rfl | assumption) rfl (by first | assumption | omega | decide) (by decide) ?_
  refine z_aload_n dX4_takeDraft_24 rfl ?_
  refine z_getR dX4_takeDraft_25 zf_X4_26 (by first | rfl | assumption) rfl ?_
  refine z_iconst (v := 0) dX4_takeDraft_28 (by decide) ?_
  refine z_aload_n dX4_takeDraft_29 rfl ?_
  refine z_getR dX4_takeDraft_30 zf_X4_26 (by first | rfl | assumption) rfl ?_
  refine z_iconst (v := 1) dX4_takeDraft_33 (by decide) ?_
  refine z_iald dX4_takeDraft_34 (by first | rfl | assumption) rfl (by first | assumption | omega | decide) (by decide) ?_
  refine z_iast dX4_takeDraft_35 (by first | rfl | assumption) rfl (by first | assumption | omega | decide) (by decide) ?_
  refine z_aload_n dX4_takeDraft_36 rfl ?_
  refine z_getR dX4_takeDraft_37 zf_X4_32 (by first | rfl | assumption) rfl ?_
  refine z_iconst (v := 0) dX4_takeDraft_40 (by decide) ?_
  refine z_aload_n dX4_takeDraft_41 rfl ?_
  refine z_getR dX4_takeDraft_42 zf_X4_32 (by first | rfl | assumption) rfl ?_
  refine z_iconst (v := 1) dX4_takeDraft_45 (by decide) ?_
  refine z_iald dX4_takeDraft_46 (by first | rfl | assumption) rfl (by first | assumption | omega | decide) (by decide) ?_
  refine z_iast dX4_takeDraft_47 (by first | rfl | assumption) rfl (by first | assumption | omega | decide) (by decide) ?_
  refine z_iconst (v := 1) dX4_takeDraft_48 (by decide) ?_
  refine z_aload_n dX4_takeDraft_49 rfl ?_
  refine z_getR dX4_takeDraft_50 zf_X4_13 (by first | rfl | assumption) rfl ?_
  refine z_iconst (v := 0) dX4_takeDraft_53 (by decide) ?_
  refine z_iald dX4_takeDraft_54 (by first | rfl | assumption) rfl (by first | assumption | omega | decide) (by decide) ?_
  refine z_ishl dX4_takeDraft_55 ?_
  refine z_iconst (v := 1) dX4_takeDraft_56 (by decide) ?_
  refine z_isub dX4_takeDraft_57 ?_
  refine z_istore_n (i := 1) dX4_takeDraft_58 rfl (by decide) ?_
  refine z_iconst (v := 0) dX4_takeDraft_59 (by decide) ?_
  refine z_istore_n (i := 2) dX4_takeDraft_60 rfl (by decide) ?_
  have e1 : zI (zI (zI (zI m 2 0 (m.1 2 1)) 5 0 (m.1 5 1)) 6 0 (m.1 6 1)) 8 0 (m.1 8 1) = ztdK (ztd1 m) (1 <<< (m.1 2 1 &&& 31) - 1) 0 0 := by
    refine Prod.ext (funext fun i => funext fun j => ?_) rfl
    simp only [ztdK, ztd1]
    by_cases h3 : i = 3
    · subst h3; simp
    · by_cases h4 : i = 4
      · subst h4; simp
      · by_cases h7 : i = 7
        · subst h7; simp
        · simp [h3, h4, h7]
  suffices hh : ∀ th, (Q none (zI (zI (zI (zI (zI (zI (ztdK (ztd1 m) th 8 5) 9 120 0) 9 121 0) 9 122 0) 0 20 0) 10 0 0) 10 1 0)) → ZW layM mX4_takeDraft 0 Q 61 [some (.ref 0), some (.int th), some (.int (nI 0))] [] (ztdK (ztd1 m) th 0 0) from ZW.eq (hh _ hQ) rfl rfl rfl e1
  clear hQ
  intro th hQ
  have lat : ∀ q, q ≤ 5 → ZW layM mX4_takeDraft 0 Q 107 [some (.ref 0), some (.int th), some (.int (nI q))] [] (ztdK (ztd1 m) th 8 q) := by
    refine zdown 5 ?_ ?_
    · refine z_iload_n dX4_takeDraft_107 rfl ?_
      refine z_iconst (v := 5) dX4_takeDraft_108 (by decide) ?_
      refine z_icmp_ge (tgt := 134) dX4_takeDraft_109 (by decide) (fun _ => ?_) (fun hx_ => absurd (by decide) hx_)
      refine z_aload_n dX4_takeDraft_134 rfl ?_
      refine z_getR dX4_takeDraft_135 zf_X4_35 (by first | rfl | assumption) rfl ?_
      refine z_bipush (v := 120) dX4_takeDraft_138 (by decide) ?_
      refine z_iconst (v := 0) dX4_takeDraft_140 (by decide) ?_
      refine z_iast dX4_takeDraft_141 (by first | rfl | assumption) rfl (by first | assumption | omega | decide) (by decide) ?_
      refine z_aload_n dX4_takeDraft_142 rfl ?_
      refine z_getR dX4_takeDraft_143 zf_X4_35 (by first | rfl | assumption) rfl ?_
      refine z_bipush (v := 121) dX4_takeDraft_146 (by decide) ?_
      refine z_iconst (v := 0) dX4_takeDraft_148 (by decide) ?_
      refine z_iast dX4_takeDraft_149 (by first | rfl | assumption) rfl (by first | assumption | omega | decide) (by decide) ?_
      refine z_aload_n dX4_takeDraft_150 rfl ?_
      refine z_getR dX4_takeDraft_151 zf_X4_35 (by first | rfl | assumption) rfl ?_
      refine z_bipush (v := 122) dX4_takeDraft_154 (by decide) ?_
      refine z_iconst (v := 0) dX4_takeDraft_156 (by decide) ?_
      refine z_iast dX4_takeDraft_157 (by first | rfl | assumption) rfl (by first | assumption | omega | decide) (by decide) ?_
      refine z_aload_n dX4_takeDraft_158 rfl ?_
      refine z_iconst (v := 0) dX4_takeDraft_159 (by decide) ?_
      refine z_putI dX4_takeDraft_160 zf_X4_102p (by first | rfl | assumption) rfl rfl rfl ?_
      refine z_aload_n dX4_takeDraft_163 rfl ?_
      refine z_getR dX4_takeDraft_164 zf_X4_38 (by first | rfl | assumption) rfl ?_
      refine z_iconst (v := 0) dX4_takeDraft_167 (by decide) ?_
      refine z_iconst (v := 0) dX4_takeDraft_168 (by decide) ?_
      refine z_zast dX4_takeDraft_169 (by first | rfl | assumption) rfl (by decide) (by decide) ?_
      refine z_aload_n dX4_takeDraft_170 rfl ?_
      refine z_getR dX4_takeDraft_171 zf_X4_38 (by first | rfl | assumption) rfl ?_
      refine z_iconst (v := 1) dX4_takeDraft_174 (by decide) ?_
      refine z_iconst (v := 0) dX4_takeDraft_175 (by decide) ?_
      refine z_zast dX4_takeDraft_176 (by first | rfl | assumption) rfl (by decide) (by decide) ?_
      refine z_vret dX4_takeDraft_177 rfl ?_
      exact hQ
    · intro q hq ih
      refine z_iload_n dX4_takeDraft_107 rfl ?_
      refine z_iconst (v := 5) dX4_takeDraft_108 (by decide) ?_
      refine z_icmp_ge (tgt := 134) dX4_takeDraft_109 (by decide) (fun hx_ => absurd hx_ (nI_ge (b := 5) (by omega) (by decide))) (fun _ => ?_)
      refine z_aload_n dX4_takeDraft_112 rfl ?_
      refine z_getR dX4_takeDraft_113 zf_X4_29 (by first | rfl | assumption) rfl ?_
      refine z_iload_n dX4_takeDraft_116 rfl ?_
      refine z_aload_n dX4_takeDraft_117 rfl ?_
      refine z_getR dX4_takeDraft_118 zf_X4_29 (by first | rfl | assumption) rfl ?_
      refine z_iconst (v := 5) dX4_takeDraft_121 (by decide) ?_
      refine z_iload_n dX4_takeDraft_122 rfl ?_
      refine z_iadd dX4_takeDraft_123 ?_
      refine z_iald dX4_takeDraft_124 (by first | rfl | assumption) (show (5 : Int32) + nI q = nI (5 + q) from nI_add 5 q) (show 5 + q < 10 by omega) (by decide) ?_
      refine z_iload_n dX4_takeDraft_125 rfl ?_
      refine z_iand dX4_takeDraft_126 ?_
      refine z_iast dX4_takeDraft_127 (by first | rfl | assumption) rfl (show q < 10 by omega) (by decide) ?_
      refine z_iinc (v := 1) dX4_takeDraft_128 rfl (by decide) (by decide) ?_
      refine z_goto (tgt := 107) dX4_takeDraft_131 (by decide) ?_
      refine ZW.eq ih rfl (by rw [nI_succ q]; rfl) rfl ?_
      refine Prod.ext (funext fun i => funext fun j => ?_) rfl
      simp only [ztdK, zI, zup]
      by_cases h7 : i = 7
      · subst h7
        by_cases hj : j = q
        · subst hj; simp; rw [if_neg (by omega)]
        · by_cases hlt : j < q
          · simp [hj, hlt, show j < q + 1 by omega]
          · simp [hj, hlt, show ¬ j < q + 1 by omega]
      · simp [h7]
  have fst : ∀ k, k ≤ 8 → ZW layM mX4_takeDraft 0 Q 61 [some (.ref 0), some (.int th), some (.int (nI k))] [] (ztdK (ztd1 m) th k 0) := by
    refine zdown 8 ?_ ?_
    · refine z_iload_n dX4_takeDraft_61 rfl ?_
      refine z_bipush (v := 8) dX4_takeDraft_62 (by decide) ?_
      refine z_icmp_ge (tgt := 105) dX4_takeDraft_64 (by decide) (fun _ => ?_) (fun hx_ => absurd (by decide) hx_)
      refine z_iconst (v := 0) dX4_takeDraft_105 (by decide) ?_
      refine z_istore_n (i := 2) dX4_takeDraft_106 rfl (by decide) ?_
      exact lat 0 (by decide)
    · intro k hk ih
      refine z_iload_n dX4_takeDraft_61 rfl ?_
      refine z_bipush (v := 8) dX4_takeDraft_62 (by decide) ?_
      refine z_icmp_ge (tgt := 105) dX4_takeDraft_64 (by decide) (fun hx_ => absurd hx_ (nI_ge (b := 8) (by omega) (by decide))) (fun _ => ?_)
      refine z_aload_n dX4_takeDraft_67 rfl ?_
      refine z_getR dX4_takeDraft_68 zf_X4_17 (by first | rfl | assumption) rfl ?_
      refine z_iload_n dX4_takeDraft_71 rfl ?_
      refine z_aload_n dX4_takeDraft_72 rfl ?_
      refine z_getR dX4_takeDraft_73 zf_X4_17 (by first | rfl | assumption) rfl ?_
      refine z_bipush (v := 8) dX4_takeDraft_76 (by decide) ?_
      refine z_iload_n dX4_takeDraft_78 rfl ?_
      refine z_iadd dX4_takeDraft_79 ?_
      refine z_iald dX4_takeDraft_80 (by first | rfl | assumption) (show (8 : Int32) + nI k = nI (8 + k) from nI_add 8 k) (show 8 + k < 16 by omega) (by decide) ?_
      refine z_iast dX4_takeDraft_81 (by first | rfl | assumption) rfl (show k < 16 by omega) (by decide) ?_
      refine z_aload_n dX4_takeDraft_82 rfl ?_
      refine z_getR dX4_takeDraft_83 zf_X4_20 (by first | rfl | assumption) rfl ?_
      refine z_iload_n dX4_takeDraft_86 rfl ?_
      refine z_aload_n dX4_takeDraft_87 rfl ?_
      refine z_getR dX4_takeDraft_88 zf_X4_20 (by first | rfl | assumption) rfl ?_
      refine z_bipush (v := 8) dX4_takeDraft_91 (by decide) ?_
      refine z_iload_n dX4_takeDraft_93 rfl ?_
      refine z_iadd dX4_takeDraft_94 ?_
      refine z_iald dX4_takeDraft_95 (by first | rfl | assumption) (show (8 : Int32) + nI k = nI (8 + k) from nI_add 8 k) (show 8 + k < 16 by omega) (by decide) ?_
      refine z_iload_n dX4_takeDraft_96 rfl ?_
      refine z_iand dX4_takeDraft_97 ?_
      refine z_iast dX4_takeDraft_98 (by first | rfl | assumption) rfl (show k < 16 by omega) (by decide) ?_
      refine z_iinc (v := 1) dX4_takeDraft_99 rfl (by decide) (by decide) ?_
      refine z_goto (tgt := 61) dX4_takeDraft_102 (by decide) ?_
      refine ZW.eq ih rfl (by rw [nI_succ k]; rfl) rfl ?_
      refine Prod.ext (funext fun i => funext fun j => ?_) rfl
      simp only [ztdK, zI, zup]
      by_cases h3 : i = 3
      · subst h3
        by_cases hj : j = k
        · subst hj; simp; intro c; omega
        · by_cases hlt : j < k
          · simp [hj, hlt, show j < k + 1 by omega]
          · simp [hj, hlt, show ¬ j < k + 1 by omega]
      · by_cases h4 : i = 4
        · subst h4
          by_cases hj : j = k
          · subst hj; simp; rw [if_neg (by omega)]
          · by_cases hlt : j < k
            · simp [hj, hlt, show j < k + 1 by omega]
            · simp [hj, hlt, show ¬ j < k + 1 by omega]
        · simp [h3, h4]
  exact fst 0 (by decide)
theorem spM_duchy {μ : ZMem} {x : Nat → Nat} {t : Nat} (h : ztm μ x t) {Qs : Option Value → ZMem → Prop}
    (hok : ∀ δ n, zits x t 14 0 (zdM0 μ) (ztk x t 0) = (some δ, n) → δ.1 ≤ 8 → δ.2.1 ≤ 5 → ∀ σ, Qs (some (.int (nI n))) (zI (ztd (zM (zDm μ δ) σ)) 0 2 0))
    (hbad : ∀ f, zits x t 14 0 (zdM0 μ) (ztk x t 0) = (none, f) → f ≤ 200 → ∀ δ σ, Qs (some (.int (-10 - nI f))) (zM (zDm μ δ) σ)) :
    Spec layM mX4_duchy 5 [.ref 0] μ Qs := by
  have hx : ∀ k, k < t → x k < 256 := fun k hk => (h.2.2 k hk).2
  have h200 := h.2.1
  refine Spec.mk (L := [some (.ref 0), none, none]) rfl (by decide +kernel) rfl rfl (fun Q hQ => ?_)
  generalize hz0 : zits x t 14 0 (zdM0 μ) (ztk x t 0) = Z at hok hbad
  refine z_aload_n dX4_duchy_0 rfl ?_
  refine z_iconst (v := 0) dX4_duchy_1 (by decide) ?_
  refine z_putI dX4_duchy_2 zf_X4_65p (by first | rfl | assumption) rfl rfl rfl ?_
  refine z_aload_n dX4_duchy_5 rfl ?_
  refine z_bipush (v := -9) dX4_duchy_6 (by decide) ?_
  refine z_putI dX4_duchy_8 zf_X4_81p (by first | rfl | assumption) rfl rfl rfl ?_
  refine z_aload_n dX4_duchy_11 rfl ?_
  have e0 : zI (zI μ 0 11 0) 0 15 (-9) = zTm μ 0 (μ.1 0 12) (μ.1 0 13) (μ.1 0 14) (-9) := by
    have hs := zTm_self μ
    have h1 : zI (zI (zTm μ (μ.1 0 11) (μ.1 0 12) (μ.1 0 13) (μ.1 0 14) (μ.1 0 15)) 0 11 0) 0 15 (-9) = zTm μ 0 (μ.1 0 12) (μ.1 0 13) (μ.1 0 14) (-9) := by rw [zTm11, zTm15]
    rw [hs] at h1
    exact h1
  rw [e0]
  have hpl : Sp layM mX4_plain 0 [.ref 0] (zTm μ 0 (μ.1 0 12) (μ.1 0 13) (μ.1 0 14) (-9)) none (zTm (zDm μ (zdM0 μ)) 0 (μ.1 0 12) (μ.1 0 13) (μ.1 0 14) (-9)) := by
    refine Sp.eq sp_plain rfl ?_
    refine Prod.ext (funext fun i => funext fun j => ?_) rfl
    simp only [zDm, zDp, zTm]
    by_cases hi : i = 0
    · subst hi
      by_cases hj : j = 10
      · subst hj; rfl
      · simp [hj]
    · simp only [hi, if_false]
      rfl
  refine z_cV0v (dy := 0) dX4_duchy_12 zl_X4_51 zy_X4_plain (by first | rfl | assumption) rfl (by decide) (Nat.le_of_ble_eq_true rfl) hpl ?_
  refine z_iconst (v := 0) dX4_duchy_15 (by decide) ?_
  refine z_istore_n (i := 1) dX4_duchy_16 rfl (by decide) ?_
  refine z_aload_n dX4_duchy_17 rfl ?_
  refine z_cV0v (dy := 1) dX4_duchy_18 zl_X4_84 zy_X4_step (by first | rfl | assumption) rfl (by decide) (Nat.le_of_ble_eq_true rfl) (by refine sp_step (μ := zDm μ (zdM0 μ)) (x := x) (t := t) (p := 0) ?_ (Nat.zero_le _) _ _ _ _; exact h) ?_
  have bad : ∀ n (l2 : Option Value) δ (σ : ZS) f, Z = (none, f) → zwf t σ → σ.2.2 = some f → ZW layM mX4_duchy 5 Q 21 [some (.ref 0), some (.int n), l2] [] (zM (zDm μ δ) σ) := by
    intro n l2 δ σ f e hw hf
    have hf2 := hw.f f hf
    have ef : (zM (zDm μ δ) σ).1 0 15 = nI f := by show zfl σ.2.2 = nI f; rw [hf]; rfl
    have hne : ¬ (zM (zDm μ δ) σ).1 0 15 = -9 := by rw [ef]; exact zfl_ne (by omega)
    refine z_aload_n dX4_duchy_21 rfl ?_
    refine z_getI dX4_duchy_22 zf_X4_81 (by first | rfl | assumption) rfl ?_
    refine z_bipush (v := -9) dX4_duchy_25 (by decide) ?_
    refine z_icmp_ne (tgt := 91) dX4_duchy_27 (by decide) (fun _ => ?_) (fun hx_ => absurd hx_ hne)
    refine z_aload_n dX4_duchy_91 rfl ?_
    refine z_getI dX4_duchy_92 zf_X4_81 (by first | rfl | assumption) rfl ?_
    refine z_bipush (v := -9) dX4_duchy_95 (by decide) ?_
    refine z_icmp_eq (tgt := 108) dX4_duchy_97 (by decide) (fun hx_ => absurd hx_ hne) (fun _ => ?_)
    refine z_bipush (v := -10) dX4_duchy_100 (by decide) ?_
    refine z_aload_n dX4_duchy_102 rfl ?_
    refine z_getI dX4_duchy_103 zf_X4_81 (by first | rfl | assumption) rfl ?_
    rw [ef]
    refine z_isub dX4_duchy_106 ?_
    refine z_iret dX4_duchy_107 rfl ?_
    exact hQ _ _ (hbad f e (by omega) δ σ)
  have key : ∀ m n δ T0 V (l2 : Option Value), n + m = 14 → δ.1 + δ.2.1 + δ.2.2.2.1 = n → δ.1 ≤ 8 → δ.2.1 ≤ 5 → δ.2.2.2.1 ≤ 1 → zwf t (T0, V, none) → Z = zits x t m n δ T0 → ZW layM mX4_duchy 5 Q 21 [some (.ref 0), some (.int (nI n)), l2] [] (zM (zDm μ δ) (T0, V, none)) := by
    intro m
    induction m with
    | zero =>
      intro n δ T0 V l2 hn hs b1 b2 b3 hT e
      have e2 : zits x t 0 n δ T0 = if T0.1 = 0 then (some δ, n) else (none, T0.2.1) := rfl
      rw [e2] at e
      by_cases hend : T0.1 = 0
      · rw [if_pos hend] at e
        have hs3 : zsrt T0 = 3 := (zsrt_3 hT).mpr hend
        refine z_aload_n dX4_duchy_21 rfl ?_
        refine z_getI dX4_duchy_22 zf_X4_81 (by first | rfl | assumption) rfl ?_
        refine z_bipush (v := -9) dX4_duchy_25 (by decide) ?_
        refine z_icmp_ne (tgt := 91) dX4_duchy_27 (by decide) (fun hx_ => absurd (rfl) hx_) (fun _ => ?_)
        refine z_aload_n dX4_duchy_30 rfl ?_
        refine z_getI dX4_duchy_31 zf_X4_78 (by first | rfl | assumption) rfl ?_
        refine z_iconst (v := 3) dX4_duchy_34 (by decide) ?_
        refine z_icmp_eq (tgt := 91) dX4_duchy_35 (by decide) (fun _ => ?_) (fun hx_ => absurd (by show nI (zsrt T0) = 3; rw [hs3]; rfl) hx_)
        refine z_aload_n dX4_duchy_91 rfl ?_
        refine z_getI dX4_duchy_92 zf_X4_81 (by first | rfl | assumption) rfl ?_
        refine z_bipush (v := -9) dX4_duchy_95 (by decide) ?_
        refine z_icmp_eq (tgt := 108) dX4_duchy_97 (by decide) (fun _ => ?_) (fun hx_ => absurd (rfl) hx_)
        refine z_aload_n dX4_duchy_108 rfl ?_
        refine z_cV0v (dy := 0) dX4_duchy_109 zl_X4_54 zy_X4_takeDraft (by first | rfl | assumption) rfl (by decide) (Nat.le_of_ble_eq_true rfl) sp_takeDraft ?_
        refine z_aload_n dX4_duchy_112 rfl ?_
        refine z_iconst (v := 0) dX4_duchy_113 (by decide) ?_
        refine z_putI dX4_duchy_114 zf_X4_61p (by first | rfl | assumption) rfl rfl rfl ?_
        refine z_iload_n dX4_duchy_117 rfl ?_
        refine z_iret dX4_duchy_118 rfl ?_
        exact hQ _ _ (hok δ n e b1 b2 _)
      · rw [if_neg hend] at e
        have hL := zsrt_lt hT
        have hs3 : ¬ nI (zsrt T0) = 3 := fun q => hend ((zsrt_3 hT).mp ((nI_eq (b := 3) (by exact Nat.lt_trans hL (by decide)) (by decide)).mp q))
        have hnr : ¬ zroomP δ (zsrt T0) := fun q => by rcases q with q | q | q <;> omega
        have hmb := sp_mayBe (μ := μ) b1 b2 b3 hL (T0, V, none)
        rw [if_neg hnr] at hmb
        refine z_aload_n dX4_duchy_21 rfl ?_
        refine z_getI dX4_duchy_22 zf_X4_81 (by first | rfl | assumption) rfl ?_
        refine z_bipush (v := -9) dX4_duchy_25 (by decide) ?_
        refine z_icmp_ne (tgt := 91) dX4_duchy_27 (by decide) (fun hx_ => absurd (rfl) hx_) (fun _ => ?_)
        refine z_aload_n dX4_duchy_30 rfl ?_
        refine z_getI dX4_duchy_31 zf_X4_78 (by first | rfl | assumption) rfl ?_
        refine z_iconst (v := 3) dX4_duchy_34 (by decide) ?_
        refine z_icmp_eq (tgt := 91) dX4_duchy_35 (by decide) (fun hx_ => absurd hx_ hs3) (fun _ => ?_)
        refine z_aload_n dX4_duchy_38 rfl ?_
        refine z_getI dX4_duchy_39 zf_X4_78 (by first | rfl | assumption) rfl ?_
        refine z_istore_n (i := 2) dX4_duchy_42 rfl (by decide) ?_
        refine z_aload_n dX4_duchy_43 rfl ?_
        refine z_aload_n dX4_duchy_44 rfl ?_
        refine z_iload_n dX4_duchy_45 rfl ?_
        refine z_cV1r (dy := 0) dX4_duchy_46 zl_X4_105 zy_X4_mayBe (by first | rfl | assumption) rfl (by decide) (Nat.le_of_ble_eq_true rfl) hmb ?_
        refine z_cV1r (dy := 2) dX4_duchy_49 zl_X4_87 zy_X4_due (by first | rfl | assumption) rfl (by decide) (Nat.le_of_ble_eq_true rfl) (by refine sp_due (x := x) (t := t) ?_ ?_ false ?_; exact h; exact hT; rfl) ?_
        refine z_pop dX4_duchy_52 rfl ?_
        refine z_aload_n dX4_duchy_53 rfl ?_
        refine z_getI dX4_duchy_54 zf_X4_81 (by first | rfl | assumption) rfl ?_
        refine z_bipush (v := -9) dX4_duchy_57 (by decide) ?_
        refine z_icmp_ne (tgt := 88) dX4_duchy_59 (by decide) (fun _ => ?_) (fun hx_ => absurd hx_ (by show ¬ nI T0.2.1 = -9; exact zfl_ne (Nat.le_trans hT.a h200)))
        refine z_goto (tgt := 21) dX4_duchy_88 (by decide) ?_
        exact bad _ _ _ (T0, V, some T0.2.1) T0.2.1 e ⟨hT.k, hT.a, hT.b, hT.v, hT.l, hT.m, hT.n, fun f q => by cases q; exact hT.a⟩ rfl
    | succ m ih =>
      intro n δ T0 V l2 hn hs b1 b2 b3 hT e
      have e2 : zits x t (m + 1) n δ T0 = if T0.1 = 0 then (some δ, n) else match zit x t δ T0 with
        | (none, T) => (none, T.2.1)
        | (some δ', T) => zits x t m (n + 1) δ' (ztk x t T.2.2.1) := rfl
      rw [e2] at e
      by_cases hend : T0.1 = 0
      · rw [if_pos hend] at e
        have hs3 : zsrt T0 = 3 := (zsrt_3 hT).mpr hend
        refine z_aload_n dX4_duchy_21 rfl ?_
        refine z_getI dX4_duchy_22 zf_X4_81 (by first | rfl | assumption) rfl ?_
        refine z_bipush (v := -9) dX4_duchy_25 (by decide) ?_
        refine z_icmp_ne (tgt := 91) dX4_duchy_27 (by decide) (fun hx_ => absurd (rfl) hx_) (fun _ => ?_)
        refine z_aload_n dX4_duchy_30 rfl ?_
        refine z_getI dX4_duchy_31 zf_X4_78 (by first | rfl | assumption) rfl ?_
        refine z_iconst (v := 3) dX4_duchy_34 (by decide) ?_
        refine z_icmp_eq (tgt := 91) dX4_duchy_35 (by decide) (fun _ => ?_) (fun hx_ => absurd (by show nI (zsrt T0) = 3; rw [hs3]; rfl) hx_)
        refine z_aload_n dX4_duchy_91 rfl ?_
        refine z_getI dX4_duchy_92 zf_X4_81 (by first | rfl | assumption) rfl ?_
        refine z_bipush (v := -9) dX4_duchy_95 (by decide) ?_
        refine z_icmp_eq (tgt := 108) dX4_duchy_97 (by decide) (fun _ => ?_) (fun hx_ => absurd (rfl) hx_)
        refine z_aload_n dX4_duchy_108 rfl ?_
        refine z_cV0v (dy := 0) dX4_duchy_109 zl_X4_54 zy_X4_takeDraft (by first | rfl | assumption) rfl (by decide) (Nat.le_of_ble_eq_true rfl) sp_takeDraft ?_
        refine z_aload_n dX4_duchy_112 rfl ?_
        refine z_iconst (v := 0) dX4_duchy_113 (by decide) ?_
        refine z_putI dX4_duchy_114 zf_X4_61p (by first | rfl | assumption) rfl rfl rfl ?_
        refine z_iload_n dX4_duchy_117 rfl ?_
        refine z_iret dX4_duchy_118 rfl ?_
        exact hQ _ _ (hok δ n e b1 b2 _)
      · rw [if_neg hend] at e
        have hL := zsrt_lt hT
        have hs3 : ¬ nI (zsrt T0) = 3 := fun q => hend ((zsrt_3 hT).mp ((nI_eq (b := 3) (by exact Nat.lt_trans hL (by decide)) (by decide)).mp q))
        have hmb := sp_mayBe (μ := μ) b1 b2 b3 hL (T0, V, none)
        by_cases hr : zroomP δ (zsrt T0)
        · rw [if_pos hr] at hmb
          have hr0 := (zsrt_L hT).mp hr
          have eL := zsrt_eq hr
          have hw1 := zvt_wf hx hT.b
          have hrow := sp_readRow (μ := μ) h hr hw1
          have hz := zitm_zit hx hr0 hT.b (r := zitm x t δ (zsrt T0) (ztk x t T0.2.2.1, zvt x t T0.2.2.1, none)) (by rw [eL])
          have hwr : zwf t (zitm x t δ (zsrt T0) (ztk x t T0.2.2.1, zvt x t T0.2.2.1, none)).2 := zitm_wf hx hw1
          generalize zitm x t δ (zsrt T0) (ztk x t T0.2.2.1, zvt x t T0.2.2.1, none) = r at hrow hz hwr
          have hwd := zdue_wf hx hwr (decide (r.2.1.1 = 3))
          refine z_aload_n dX4_duchy_21 rfl ?_
          refine z_getI dX4_duchy_22 zf_X4_81 (by first | rfl | assumption) rfl ?_
          refine z_bipush (v := -9) dX4_duchy_25 (by decide) ?_
          refine z_icmp_ne (tgt := 91) dX4_duchy_27 (by decide) (fun hx_ => absurd (rfl) hx_) (fun _ => ?_)
          refine z_aload_n dX4_duchy_30 rfl ?_
          refine z_getI dX4_duchy_31 zf_X4_78 (by first | rfl | assumption) rfl ?_
          refine z_iconst (v := 3) dX4_duchy_34 (by decide) ?_
          refine z_icmp_eq (tgt := 91) dX4_duchy_35 (by decide) (fun hx_ => absurd hx_ hs3) (fun _ => ?_)
          refine z_aload_n dX4_duchy_38 rfl ?_
          refine z_getI dX4_duchy_39 zf_X4_78 (by first | rfl | assumption) rfl ?_
          refine z_istore_n (i := 2) dX4_duchy_42 rfl (by decide) ?_
          refine z_aload_n dX4_duchy_43 rfl ?_
          refine z_aload_n dX4_duchy_44 rfl ?_
          refine z_iload_n dX4_duchy_45 rfl ?_
          refine z_cV1r (dy := 0) dX4_duchy_46 zl_X4_105 zy_X4_mayBe (by first | rfl | assumption) rfl (by decide) (Nat.le_of_ble_eq_true rfl) hmb ?_
          refine z_cV1r (dy := 2) dX4_duchy_49 zl_X4_87 zy_X4_due (by first | rfl | assumption) rfl (by decide) (Nat.le_of_ble_eq_true rfl) (by refine sp_due (x := x) (t := t) ?_ ?_ true ?_; exact h; exact hT; rfl) ?_
          refine z_pop dX4_duchy_52 rfl ?_
          refine z_aload_n dX4_duchy_53 rfl ?_
          refine z_getI dX4_duchy_54 zf_X4_81 (by first | rfl | assumption) rfl ?_
          refine z_bipush (v := -9) dX4_duchy_57 (by decide) ?_
          refine z_icmp_ne (tgt := 88) dX4_duchy_59 (by decide) (fun hx_ => absurd (rfl) hx_) (fun _ => ?_)
          refine z_aload_n dX4_duchy_62 rfl ?_
          refine z_iload_n dX4_duchy_63 rfl ?_
          refine z_cV1v (dy := 4) dX4_duchy_64 zl_X4_109 zy_X4_readRow (by first | rfl | assumption) rfl (by decide) (Nat.le_of_ble_eq_true rfl) hrow ?_
          have fin : ZW layM mX4_duchy 5 Q 21 [some (.ref 0), some (.int (nI n + 1)), some (.int (nI (zsrt T0)))] [] (zM (zDm μ r.1) (zdue x t r.2 (decide (r.2.1.1 = 3)))) := by
            cases hzi : zit x t δ T0 with
            | mk o T =>
              rw [hzi] at hz e
              cases o with
              | none => exact bad _ _ _ _ T.2.1 e hwd hz
              | some δ' =>
                obtain ⟨hz1, hz2⟩ := hz
                obtain ⟨L, num, bb, hroom, rfl⟩ := zit_some hzi
                obtain ⟨q1, q2, q3, q4⟩ := ztake_le (num := num) (b := bb) hroom b1 b2 b3
                have hle := zit_le (δ := δ) hx (T0 := T0) ⟨hT.k, hT.a, hT.b, hT.v⟩
                rw [hzi] at hle
                rw [hz1, hz2, ← nI_succ]
                exact ih (n + 1) _ _ _ _ (by omega) (by omega) q1 q2 q3 (zvt_wf hx hle.2.2.1) e
          have hsr := zsrt_lt hwr
          by_cases c : r.2.1.1 = 3
          · rw [decide_eq_true c] at fin
            refine z_aload_n dX4_duchy_67 rfl ?_
            refine z_aload_n dX4_duchy_68 rfl ?_
            refine z_getI dX4_duchy_69 zf_X4_78 (by first | rfl | assumption) rfl ?_
            refine z_iconst (v := 2) dX4_duchy_72 (by decide) ?_
            refine z_icmp_ne (tgt := 80) dX4_duchy_73 (by decide) (fun hx_ => absurd (by show nI (zsrt r.2.1) = 2; rw [(zsrt_2 hwr).mpr c]; rfl) hx_) (fun _ => ?_)
            refine z_iconst (v := 1) dX4_duchy_76 (by decide) ?_
            refine z_goto (tgt := 81) dX4_duchy_77 (by decide) ?_
            refine z_cV1r (dy := 2) dX4_duchy_81 zl_X4_87 zy_X4_due (by first | rfl | assumption) rfl (by decide) (Nat.le_of_ble_eq_true rfl) (by refine sp_due (x := x) (t := t) ?_ ?_ true ?_; exact h; exact hwr; rfl) ?_
            refine z_pop dX4_duchy_84 rfl ?_
            refine z_iinc (v := 1) dX4_duchy_85 rfl (by decide) (by decide) ?_
            refine z_goto (tgt := 21) dX4_duchy_88 (by decide) ?_
            exact fin
          · rw [decide_eq_false c] at fin
            refine z_aload_n dX4_duchy_67 rfl ?_
            refine z_aload_n dX4_duchy_68 rfl ?_
            refine z_getI dX4_duchy_69 zf_X4_78 (by first | rfl | assumption) rfl ?_
            refine z_iconst (v := 2) dX4_duchy_72 (by decide) ?_
            refine z_icmp_ne (tgt := 80) dX4_duchy_73 (by decide) (fun _ => ?_) (fun hx_ => absurd hx_ (by show ¬ nI (zsrt r.2.1) = 2; exact fun q => c ((zsrt_2 hwr).mp ((nI_eq (b := 2) (by omega) (by decide)).mp q))))
            refine z_iconst (v := 0) dX4_duchy_80 (by decide) ?_
            refine z_cV1r (dy := 2) dX4_duchy_81 zl_X4_87 zy_X4_due (by first | rfl | assumption) rfl (by decide) (Nat.le_of_ble_eq_true rfl) (by refine sp_due (x := x) (t := t) ?_ ?_ false ?_; exact h; exact hwr; rfl) ?_
            refine z_pop dX4_duchy_84 rfl ?_
            refine z_iinc (v := 1) dX4_duchy_85 rfl (by decide) (by decide) ?_
            refine z_goto (tgt := 21) dX4_duchy_88 (by decide) ?_
            exact fin
        · rw [if_neg hr] at hmb
          have hz : zit x t δ T0 = (none, T0) := if_pos (fun q => hr ((zsrt_L hT).mpr q))
          rw [hz] at e
          refine z_aload_n dX4_duchy_21 rfl ?_
          refine z_getI dX4_duchy_22 zf_X4_81 (by first | rfl | assumption) rfl ?_
          refine z_bipush (v := -9) dX4_duchy_25 (by decide) ?_
          refine z_icmp_ne (tgt := 91) dX4_duchy_27 (by decide) (fun hx_ => absurd (rfl) hx_) (fun _ => ?_)
          refine z_aload_n dX4_duchy_30 rfl ?_
          refine z_getI dX4_duchy_31 zf_X4_78 (by first | rfl | assumption) rfl ?_
          refine z_iconst (v := 3) dX4_duchy_34 (by decide) ?_
          refine z_icmp_eq (tgt := 91) dX4_duchy_35 (by decide) (fun hx_ => absurd hx_ hs3) (fun _ => ?_)
          refine z_aload_n dX4_duchy_38 rfl ?_
          refine z_getI dX4_duchy_39 zf_X4_78 (by first | rfl | assumption) rfl ?_
          refine z_istore_n (i := 2) dX4_duchy_42 rfl (by decide) ?_
          refine z_aload_n dX4_duchy_43 rfl ?_
          refine z_aload_n dX4_duchy_44 rfl ?_
          refine z_iload_n dX4_duchy_45 rfl ?_
          refine z_cV1r (dy := 0) dX4_duchy_46 zl_X4_105 zy_X4_mayBe (by first | rfl | assumption) rfl (by decide) (Nat.le_of_ble_eq_true rfl) hmb ?_
          refine z_cV1r (dy := 2) dX4_duchy_49 zl_X4_87 zy_X4_due (by first | rfl | assumption) rfl (by decide) (Nat.le_of_ble_eq_true rfl) (by refine sp_due (x := x) (t := t) ?_ ?_ false ?_; exact h; exact hT; rfl) ?_
          refine z_pop dX4_duchy_52 rfl ?_
          refine z_aload_n dX4_duchy_53 rfl ?_
          refine z_getI dX4_duchy_54 zf_X4_81 (by first | rfl | assumption) rfl ?_
          refine z_bipush (v := -9) dX4_duchy_57 (by decide) ?_
          refine z_icmp_ne (tgt := 88) dX4_duchy_59 (by decide) (fun _ => ?_) (fun hx_ => absurd hx_ (by show ¬ nI T0.2.1 = -9; exact zfl_ne (Nat.le_trans hT.a h200)))
          refine z_goto (tgt := 21) dX4_duchy_88 (by decide) ?_
          exact bad _ _ _ (T0, V, some T0.2.1) T0.2.1 e ⟨hT.k, hT.a, hT.b, hT.v, hT.l, hT.m, hT.n, fun f q => by cases q; exact hT.a⟩ rfl
  exact key 14 0 (zdM0 μ) (ztk x t 0) (zvt x t 0) _ rfl rfl (show (0 : Nat) ≤ 8 by decide) (show (0 : Nat) ≤ 5 by decide) (show (0 : Nat) ≤ 1 by decide) (zvt_wf hx (Nat.zero_le _)) hz0.symm

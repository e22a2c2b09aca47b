/-! ===== AnswerSquare.Duchy: a text is read into the duchy at 7 ===== -/
theorem sp_hasRoomFor_d7 {μ : ZMem} {δ : ZD} (h1 : δ.1 ≤ 8) (h2 : δ.2.1 ≤ 5) (h3 : δ.2.2.2.1 ≤ 1) {L : Nat} (hL : L < 256) (a b c d : Int32) : Sp layC mX0_hasRoomFor 0 [.ref 7, .int (nI L)] (zT (zDr μ 7 δ) a b c d) (some (.int (if zroomP δ L then 1 else 0))) (zT (zDr μ 7 δ) a b c d) := by
  refine Sp.mk (L := [some (.ref 7), some (.int (nI L))]) rfl (by decide +kernel) rfl rfl (fun Q hQ => ?_)
  refine z_iload_n dX0_hasRoomFor_0 rfl ?_
  by_cases h97 : L = 97
  · subst h97
    refine z_lsw (off := 43) (tgt := 44) dX0_hasRoomFor_1 (by decide) (by decide) (by decide) ?_
    by_cases hr : δ.1 < 8
    · rw [if_pos (Or.inl ⟨Or.inl rfl, hr⟩)] at hQ
      refine z_aload_n dX0_hasRoomFor_44 rfl ?_
      refine z_getI dX0_hasRoomFor_45 zf_X0_25 (by first | rfl | assumption) rfl ?_
      refine z_bipush (v := 8) dX0_hasRoomFor_48 (by decide) ?_
      refine z_icmp_ge (tgt := 57) dX0_hasRoomFor_50 (by decide) (fun hx_ => absurd hx_ (nI_ge (b := 8) hr (by decide))) (fun _ => ?_)
      refine z_iconst (v := 1) dX0_hasRoomFor_53 (by decide) ?_
      refine z_goto (tgt := 58) dX0_hasRoomFor_54 (by decide) ?_
      refine z_zret dX0_hasRoomFor_58 rfl (by decide) ?_
      exact hQ
    · rw [if_neg (by simp; omega)] at hQ
      refine z_aload_n dX0_hasRoomFor_44 rfl ?_
      refine z_getI dX0_hasRoomFor_45 zf_X0_25 (by first | rfl | assumption) rfl ?_
      refine z_bipush (v := 8) dX0_hasRoomFor_48 (by decide) ?_
      refine z_icmp_ge (tgt := 57) dX0_hasRoomFor_50 (by decide) (fun _ => ?_) (fun hx_ => absurd (nI_le (a := 8) (b := δ.1) (by omega) (by omega)) hx_)
      refine z_iconst (v := 0) dX0_hasRoomFor_57 (by decide) ?_
      refine z_zret dX0_hasRoomFor_58 rfl (by decide) ?_
      exact hQ
  · by_cases h122 : L = 122
    · subst h122
      refine z_lsw (off := 58) (tgt := 59) dX0_hasRoomFor_1 (by decide) (by decide) (by decide) ?_
      by_cases hr : δ.1 < 8
      · rw [if_pos (Or.inl ⟨Or.inr rfl, hr⟩)] at hQ
        refine z_aload_n dX0_hasRoomFor_59 rfl ?_
        refine z_getI dX0_hasRoomFor_60 zf_X0_25 (by first | rfl | assumption) rfl ?_
        refine z_bipush (v := 8) dX0_hasRoomFor_63 (by decide) ?_
        refine z_icmp_ge (tgt := 72) dX0_hasRoomFor_65 (by decide) (fun hx_ => absurd hx_ (nI_ge (b := 8) hr (by decide))) (fun _ => ?_)
        refine z_iconst (v := 1) dX0_hasRoomFor_68 (by decide) ?_
        refine z_goto (tgt := 73) dX0_hasRoomFor_69 (by decide) ?_
        refine z_zret dX0_hasRoomFor_73 rfl (by decide) ?_
        exact hQ
      · rw [if_neg (by simp; omega)] at hQ
        refine z_aload_n dX0_hasRoomFor_59 rfl ?_
        refine z_getI dX0_hasRoomFor_60 zf_X0_25 (by first | rfl | assumption) rfl ?_
        refine z_bipush (v := 8) dX0_hasRoomFor_63 (by decide) ?_
        refine z_icmp_ge (tgt := 72) dX0_hasRoomFor_65 (by decide) (fun _ => ?_) (fun hx_ => absurd (nI_le (a := 8) (b := δ.1) (by omega) (by omega)) hx_)
        refine z_iconst (v := 0) dX0_hasRoomFor_72 (by decide) ?_
        refine z_zret dX0_hasRoomFor_73 rfl (by decide) ?_
        exact hQ
    · by_cases h112 : L = 112
      · subst h112
        refine z_lsw (off := 73) (tgt := 74) dX0_hasRoomFor_1 (by decide) (by decide) (by decide) ?_
        by_cases hr : δ.2.1 < 5
        · rw [if_pos (Or.inr (Or.inl ⟨rfl, hr⟩))] at hQ
          refine z_aload_n dX0_hasRoomFor_74 rfl ?_
          refine z_getI dX0_hasRoomFor_75 zf_X0_28 (by first | rfl | assumption) rfl ?_
          refine z_iconst (v := 5) dX0_hasRoomFor_78 (by decide) ?_
          refine z_icmp_ge (tgt := 86) dX0_hasRoomFor_79 (by decide) (fun hx_ => absurd hx_ (nI_ge (b := 5) hr (by decide))) (fun _ => ?_)
          refine z_iconst (v := 1) dX0_hasRoomFor_82 (by decide) ?_
          refine z_goto (tgt := 87) dX0_hasRoomFor_83 (by decide) ?_
          refine z_zret dX0_hasRoomFor_87 rfl (by decide) ?_
          exact hQ
        · rw [if_neg (by simp; omega)] at hQ
          refine z_aload_n dX0_hasRoomFor_74 rfl ?_
          refine z_getI dX0_hasRoomFor_75 zf_X0_28 (by first | rfl | assumption) rfl ?_
          refine z_iconst (v := 5) dX0_hasRoomFor_78 (by decide) ?_
          refine z_icmp_ge (tgt := 86) dX0_hasRoomFor_79 (by decide) (fun _ => ?_) (fun hx_ => absurd (nI_le (a := 5) (b := δ.2.1) (by omega) (by omega)) hx_)
          refine z_iconst (v := 0) dX0_hasRoomFor_86 (by decide) ?_
          refine z_zret dX0_hasRoomFor_87 rfl (by decide) ?_
          exact hQ
      · by_cases h111 : L = 111
        · subst h111
          refine z_lsw (off := 87) (tgt := 88) dX0_hasRoomFor_1 (by decide) (by decide) (by decide) ?_
          by_cases hr : δ.2.2.2.1 = 0
          · rw [if_pos (Or.inr (Or.inr ⟨rfl, hr⟩))] at hQ
            refine z_aload_n dX0_hasRoomFor_88 rfl ?_
            refine z_getI dX0_hasRoomFor_89 zf_X0_31 (by first | rfl | assumption) rfl ?_
            refine z_if_ne (tgt := 99) dX0_hasRoomFor_92 (by decide) (fun hx_ => absurd (by show nI δ.2.2.2.1 = 0; rw [hr]; rfl) hx_) (fun _ => ?_)
            refine z_iconst (v := 1) dX0_hasRoomFor_95 (by decide) ?_
            refine z_goto (tgt := 100) dX0_hasRoomFor_96 (by decide) ?_
            refine z_zret dX0_hasRoomFor_100 rfl (by decide) ?_
            exact hQ
          · rw [if_neg (by simp; omega)] at hQ
            refine z_aload_n dX0_hasRoomFor_88 rfl ?_
            refine z_getI dX0_hasRoomFor_89 zf_X0_31 (by first | rfl | assumption) rfl ?_
            refine z_if_ne (tgt := 99) dX0_hasRoomFor_92 (by decide) (fun _ => ?_) (fun hx_ => absurd hx_ (by show ¬ nI δ.2.2.2.1 = 0; exact nI_ne0 (by omega) (by omega)))
            refine z_iconst (v := 0) dX0_hasRoomFor_99 (by decide) ?_
            refine z_zret dX0_hasRoomFor_100 rfl (by decide) ?_
            exact hQ
        · rw [if_neg (by simp; omega)] at hQ
          have n97 : ¬ nI L = 97 := fun q => h97 ((nI_eq (b := 97) (by omega) (by decide)).mp q)
          have n111 : ¬ nI L = 111 := fun q => h111 ((nI_eq (b := 111) (by omega) (by decide)).mp q)
          have n112 : ¬ nI L = 112 := fun q => h112 ((nI_eq (b := 112) (by omega) (by decide)).mp q)
          have n122 : ¬ nI L = 122 := fun q => h122 ((nI_eq (b := 122) (by omega) (by decide)).mp q)
          refine z_lsw (off := 100) (tgt := 101) dX0_hasRoomFor_1 (by decide) (by
            show Op.lookupswitch.offset [(97, 43), (111, 87), (112, 73), (122, 58)] 100 (nI L).toInt = 100
            rw [lv_osw n97 (by decide), lv_osw n111 (by decide), lv_osw n112 (by decide), lv_osw n122 (by decide)]; rfl) (by decide) ?_
          refine z_iconst (v := 0) dX0_hasRoomFor_101 (by decide) ?_
          refine z_zret dX0_hasRoomFor_102 rfl (by decide) ?_
          exact hQ
theorem sp_take_d7 {μ : ZMem} {δ : ZD} {L num : Nat} (hL : L < 256) (hr : zroomP δ L) (bits a b c d : Int32) : Sp layC mX0_take 0 [.ref 7, .int (nI L), .int (nI num), .int bits] (zT (zDr μ 7 δ) a b c d) none (zT (zDr μ 7 (ztake δ L num bits)) a b c d) := by
  refine Sp.mk (L := [some (.ref 7), some (.int (nI L)), some (.int (nI num)), some (.int bits)]) rfl (by decide +kernel) rfl rfl (fun Q hQ => ?_)
  by_cases h111 : L = 111
  · have e : ztake δ L num bits = (δ.1, δ.2.1, num, 1, δ.2.2.2.2) := if_pos h111
    rw [e] at hQ
    refine z_iload_n dX0_take_0 rfl ?_
    refine z_bipush (v := 111) dX0_take_1 (by decide) ?_
    refine z_icmp_ne (tgt := 19) dX0_take_3 (by decide) (fun hx_ => absurd (by rw [h111]; rfl) hx_) (fun _ => ?_)
    refine z_aload_n dX0_take_6 rfl ?_
    refine z_iload_n dX0_take_7 rfl ?_
    refine z_putI dX0_take_8 zf_X0_21p (by first | rfl | assumption) rfl rfl rfl ?_
    rw [zI_T (by decide), zDq_5]
    refine z_aload_n dX0_take_11 rfl ?_
    refine z_iconst (v := 1) dX0_take_12 (by decide) ?_
    refine z_putI dX0_take_13 zf_X0_31p (by first | rfl | assumption) rfl (by decide) rfl ?_
    rw [zI_T (by decide), zDq_6]
    refine z_goto (tgt := 120) dX0_take_16 (by decide) ?_
    refine z_vret dX0_take_120 rfl ?_
    exact hQ
  · have n111 : ¬ nI L = 111 := fun q => h111 ((nI_eq (b := 111) (by omega) (by decide)).mp q)
    by_cases h112 : L = 112
    · have hp5 : δ.2.1 < 5 := by rcases hr with hr | hr | hr <;> omega
      have e : ztake δ L num bits = (δ.1, δ.2.1 + 1, δ.2.2.1, δ.2.2.2.1, δ.2.2.2.2.1, δ.2.2.2.2.2.1, δ.2.2.2.2.2.2.1, upd δ.2.2.2.2.2.2.2 δ.2.1 bits) := by unfold ztake; rw [if_neg h111, if_pos h112]
      rw [e] at hQ
      refine z_iload_n dX0_take_0 rfl ?_
      refine z_bipush (v := 111) dX0_take_1 (by decide) ?_
      refine z_icmp_ne (tgt := 19) dX0_take_3 (by decide) (fun _ => ?_) (fun hx_ => absurd hx_ n111)
      refine z_iload_n dX0_take_19 rfl ?_
      refine z_bipush (v := 112) dX0_take_20 (by decide) ?_
      refine z_icmp_ne (tgt := 56) dX0_take_22 (by decide) (fun hx_ => absurd (by rw [h112]; rfl) hx_) (fun _ => ?_)
      refine z_aload_n dX0_take_25 rfl ?_
      refine z_getI dX0_take_26 zf_X0_28 (by first | rfl | assumption) rfl ?_
      refine z_iconst (v := 5) dX0_take_29 (by decide) ?_
      refine z_icmp_ge (tgt := 56) dX0_take_30 (by decide) (fun hx_ => absurd hx_ (nI_ge (b := 5) hp5 (by decide))) (fun _ => ?_)
      refine z_aload_n dX0_take_33 rfl ?_
      refine z_getR dX0_take_34 zf_X0_18 (by first | rfl | assumption) rfl ?_
      refine z_aload_n dX0_take_37 rfl ?_
      refine z_getI dX0_take_38 zf_X0_28 (by first | rfl | assumption) rfl ?_
      refine z_iload_n dX0_take_41 rfl ?_
      refine z_iast dX0_take_42 (by first | rfl | assumption) rfl hp5 (by decide) ?_
      rw [zI_T (by decide), zDq_r3]
      refine z_aload_n dX0_take_43 rfl ?_
      refine z_dup dX0_take_44 rfl ?_
      refine z_getI dX0_take_45 zf_X0_28 (by first | rfl | assumption) rfl ?_
      refine z_iconst (v := 1) dX0_take_48 (by decide) ?_
      refine z_iadd dX0_take_49 ?_
      refine z_putI dX0_take_50 zf_X0_28p (by first | rfl | assumption) rfl rfl rfl ?_
      rw [zI_T (by decide), zDq_4]
      refine z_goto (tgt := 120) dX0_take_53 (by decide) ?_
      refine z_vret dX0_take_120 rfl ?_
      refine zqm hQ rfl ?_
      dsimp only [zDr]
      rw [nI_succ]
      rfl
    · have n112 : ¬ nI L = 112 := fun q => h112 ((nI_eq (b := 112) (by omega) (by decide)).mp q)
      have hs8 : δ.1 < 8 := by rcases hr with hr | hr | hr <;> omega
      have e : ztake δ L num bits = (δ.1 + 1, δ.2.1, δ.2.2.1, δ.2.2.2.1, δ.2.2.2.2.1 ||| (if L = 122 then 1 <<< (nI δ.1 &&& 31) else 0), upd δ.2.2.2.2.2.1 δ.1 (nI num), upd δ.2.2.2.2.2.2.1 δ.1 bits, δ.2.2.2.2.2.2.2) := by unfold ztake; rw [if_neg h111, if_neg h112]
      rw [e] at hQ
      refine z_iload_n dX0_take_0 rfl ?_
      refine z_bipush (v := 111) dX0_take_1 (by decide) ?_
      refine z_icmp_ne (tgt := 19) dX0_take_3 (by decide) (fun _ => ?_) (fun hx_ => absurd hx_ n111)
      refine z_iload_n dX0_take_19 rfl ?_
      refine z_bipush (v := 112) dX0_take_20 (by decide) ?_
      refine z_icmp_ne (tgt := 56) dX0_take_22 (by decide) (fun _ => ?_) (fun hx_ => absurd hx_ n112)
      refine z_aload_n dX0_take_56 rfl ?_
      refine z_getI dX0_take_57 zf_X0_25 (by first | rfl | assumption) rfl ?_
      refine z_bipush (v := 8) dX0_take_60 (by decide) ?_
      refine z_icmp_ge (tgt := 120) dX0_take_62 (by decide) (fun hx_ => absurd hx_ (nI_ge (b := 8) hs8 (by decide))) (fun _ => ?_)
      refine z_aload_n dX0_take_65 rfl ?_
      refine z_getR dX0_take_66 zf_X0_9 (by first | rfl | assumption) rfl ?_
      refine z_aload_n dX0_take_69 rfl ?_
      refine z_getI dX0_take_70 zf_X0_25 (by first | rfl | assumption) rfl ?_
      refine z_iload_n dX0_take_73 rfl ?_
      refine z_iast dX0_take_74 (by first | rfl | assumption) rfl hs8 (by decide) ?_
      rw [zI_T (by decide), zDq_r1]
      refine z_aload_n dX0_take_75 rfl ?_
      refine z_getR dX0_take_76 zf_X0_15 (by first | rfl | assumption) rfl ?_
      refine z_aload_n dX0_take_79 rfl ?_
      refine z_getI dX0_take_80 zf_X0_25 (by first | rfl | assumption) rfl ?_
      refine z_iload_n dX0_take_83 rfl ?_
      refine z_iast dX0_take_84 (by first | rfl | assumption) rfl hs8 (by decide) ?_
      rw [zI_T (by decide), zDq_r2]
      by_cases h122 : L = 122
      · rw [if_pos h122] at hQ
        refine z_aload_n dX0_take_85 rfl ?_
        refine z_dup dX0_take_86 rfl ?_
        refine z_getI dX0_take_87 zf_X0_35 (by first | rfl | assumption) rfl ?_
        refine z_iload_n dX0_take_90 rfl ?_
        refine z_bipush (v := 122) dX0_take_91 (by decide) ?_
        refine z_icmp_ne (tgt := 105) dX0_take_93 (by decide) (fun hx_ => absurd (by rw [h122]; rfl) hx_) (fun _ => ?_)
        refine z_iconst (v := 1) dX0_take_96 (by decide) ?_
        refine z_aload_n dX0_take_97 rfl ?_
        refine z_getI dX0_take_98 zf_X0_25 (by first | rfl | assumption) rfl ?_
        refine z_ishl dX0_take_101 ?_
        refine z_goto (tgt := 106) dX0_take_102 (by decide) ?_
        refine z_ior dX0_take_106 ?_
        refine z_putI dX0_take_107 zf_X0_35p (by first | rfl | assumption) rfl rfl rfl ?_
        rw [zI_T (by decide), zDq_7]
        refine z_aload_n dX0_take_110 rfl ?_
        refine z_dup dX0_take_111 rfl ?_
        refine z_getI dX0_take_112 zf_X0_25 (by first | rfl | assumption) rfl ?_
        refine z_iconst (v := 1) dX0_take_115 (by decide) ?_
        refine z_iadd dX0_take_116 ?_
        refine z_putI dX0_take_117 zf_X0_25p (by first | rfl | assumption) rfl rfl rfl ?_
        rw [zI_T (by decide), zDq_3]
        refine z_vret dX0_take_120 rfl ?_
        refine zqm hQ rfl ?_
        dsimp only [zDr]
        rw [nI_succ]
        rfl
      · rw [if_neg h122] at hQ
        refine z_aload_n dX0_take_85 rfl ?_
        refine z_dup dX0_take_86 rfl ?_
        refine z_getI dX0_take_87 zf_X0_35 (by first | rfl | assumption) rfl ?_
        refine z_iload_n dX0_take_90 rfl ?_
        refine z_bipush (v := 122) dX0_take_91 (by decide) ?_
        refine z_icmp_ne (tgt := 105) dX0_take_93 (by decide) (fun _ => ?_) (fun hx_ => absurd hx_ (fun q => h122 ((nI_eq (b := 122) (by omega) (by decide)).mp q)))
        refine z_iconst (v := 0) dX0_take_105 (by decide) ?_
        refine z_ior dX0_take_106 ?_
        refine z_putI dX0_take_107 zf_X0_35p (by first | rfl | assumption) rfl rfl rfl ?_
        rw [zI_T (by decide), zDq_7]
        refine z_aload_n dX0_take_110 rfl ?_
        refine z_dup dX0_take_111 rfl ?_
        refine z_getI dX0_take_112 zf_X0_25 (by first | rfl | assumption) rfl ?_
        refine z_iconst (v := 1) dX0_take_115 (by decide) ?_
        refine z_iadd dX0_take_116 ?_
        refine z_putI dX0_take_117 zf_X0_25p (by first | rfl | assumption) rfl rfl rfl ?_
        rw [zI_T (by decide), zDq_3]
        refine z_vret dX0_take_120 rfl ?_
        refine zqm hQ rfl ?_
        dsimp only [zDr]
        rw [nI_succ]
        rfl
theorem sp_settle_d7 {μ : ZMem} {δ : ZD} (h1 : δ.1 ≤ 8) (h2 : δ.2.1 ≤ 5) (a b c d : Int32) : Sp layC mX0_settle 0 [.ref 7] (zT (zDr μ 7 δ) a b c d) none (zI (zT (zDq μ 7 (nI δ.1) (nI δ.2.1) (nI δ.2.2.1) (nI δ.2.2.2.1) δ.2.2.2.2.1 δ.2.2.2.2.2.1 (zms δ.2.2.2.2.2.2.1 (1 <<< (nI δ.1 &&& 31) - 1) δ.1) (zms δ.2.2.2.2.2.2.2 (1 <<< (nI δ.1 &&& 31) - 1) δ.2.1)) a b c d) 7 8 (zfold (fun p x => x ||| (δ.2.2.2.2.2.2.2 p &&& (1 <<< (nI δ.1 &&& 31) - 1))) 0 δ.2.1 &&& (δ.2.2.2.2.1 ^^^ -1))) := by
  refine Sp.mk (L := [some (.ref 7), none, none, none]) rfl (by decide +kernel) rfl rfl (fun Q hQ => ?_)
  refine z_iconst (v := 1) dX0_settle_0 (by decide) ?_
  refine z_aload_n dX0_settle_1 rfl ?_
  refine z_getI dX0_settle_2 zf_X0_25 (by first | rfl | assumption) rfl ?_
  refine z_ishl dX0_settle_5 ?_
  refine z_iconst (v := 1) dX0_settle_6 (by decide) ?_
  refine z_isub dX0_settle_7 ?_
  refine z_istore_n (i := 1) dX0_settle_8 rfl (by decide) ?_
  refine z_iconst (v := 0) dX0_settle_9 (by decide) ?_
  refine z_istore_n (i := 2) dX0_settle_10 rfl (by decide) ?_
  generalize hth : ((1 : Int32) <<< (nI δ.1 &&& 31) - 1) = th at hQ
  have hth' : ((1 : Int32) <<< ((zT (zDr μ 7 δ) a b c d).1 7 3 &&& 31) - 1) = th := hth
  rw [hth']
  have second : ∀ z2, ZW layC mX0_settle 0 Q 41 [some (.ref 7), some (.int th), z2, none] [] (zT (zDq μ 7 (nI δ.1) (nI δ.2.1) (nI δ.2.2.1) (nI δ.2.2.2.1) δ.2.2.2.2.1 δ.2.2.2.2.2.1 (zms δ.2.2.2.2.2.2.1 th δ.1) δ.2.2.2.2.2.2.2) a b c d) := by
    intro z2
    refine z_iconst (v := 0) dX0_settle_41 (by decide) ?_
    refine z_istore_n (i := 2) dX0_settle_42 rfl (by decide) ?_
    refine z_iconst (v := 0) dX0_settle_43 (by decide) ?_
    refine z_istore_n (i := 3) dX0_settle_44 rfl (by decide) ?_
    have key := zdown (P := fun k => ZW layC mX0_settle 0 Q 45 [some (.ref 7), some (.int th), some (.int (zfold (fun p x => x ||| (δ.2.2.2.2.2.2.2 p &&& th)) 0 k)), some (.int (nI k))] [] (zT (zDq μ 7 (nI δ.1) (nI δ.2.1) (nI δ.2.2.1) (nI δ.2.2.2.1) δ.2.2.2.2.1 δ.2.2.2.2.2.1 (zms δ.2.2.2.2.2.2.1 th δ.1) (zms δ.2.2.2.2.2.2.2 th k)) a b c d)) δ.2.1 ?_ ?_ 0 (Nat.zero_le _)
    · exact ZW.eq key rfl rfl rfl (by rw [zms_0])
    · refine z_iload_n dX0_settle_45 rfl ?_
      refine z_aload_n dX0_settle_46 rfl ?_
      refine z_getI dX0_settle_47 zf_X0_28 (by first | rfl | assumption) rfl ?_
      refine z_icmp_ge (tgt := 83) dX0_settle_50 (by decide) (fun _ => ?_) (fun hx_ => absurd (Int32.le_refl _) hx_)
      refine z_aload_n dX0_settle_83 rfl ?_
      refine z_iload_n dX0_settle_84 rfl ?_
      refine z_aload_n dX0_settle_85 rfl ?_
      refine z_getI dX0_settle_86 zf_X0_35 (by first | rfl | assumption) rfl ?_
      refine z_iconst (v := -1) dX0_settle_89 (by decide) ?_
      refine z_ixor dX0_settle_90 ?_
      refine z_iand dX0_settle_91 ?_
      refine z_putI dX0_settle_92 zf_X0_78p (by first | rfl | assumption) rfl rfl rfl ?_
      refine z_vret dX0_settle_95 rfl ?_
      exact hQ
    · intro k hk ih
      refine z_iload_n dX0_settle_45 rfl ?_
      refine z_aload_n dX0_settle_46 rfl ?_
      refine z_getI dX0_settle_47 zf_X0_28 (by first | rfl | assumption) rfl ?_
      refine z_icmp_ge (tgt := 83) dX0_settle_50 (by decide) (fun hx_ => absurd hx_ (nI_ge hk (by omega))) (fun _ => ?_)
      refine z_iload_n dX0_settle_53 rfl ?_
      refine z_iconst (v := 5) dX0_settle_54 (by decide) ?_
      refine z_icmp_ge (tgt := 83) dX0_settle_55 (by decide) (fun hx_ => absurd hx_ (nI_ge (b := 5) (by omega) (by decide))) (fun _ => ?_)
      refine z_aload_n dX0_settle_58 rfl ?_
      refine z_getR dX0_settle_59 zf_X0_18 (by first | rfl | assumption) rfl ?_
      refine z_iload_n dX0_settle_62 rfl ?_
      refine z_dup2 dX0_settle_63 rfl rfl ?_
      refine z_iald dX0_settle_64 (by first | rfl | assumption) rfl (show k < 5 by omega) (by decide) ?_
      refine z_iload_n dX0_settle_65 rfl ?_
      refine z_iand dX0_settle_66 ?_
      refine z_iast dX0_settle_67 (by first | rfl | assumption) rfl (show k < 5 by omega) (by decide) ?_
      rw [zI_T (by decide), zDq_r3, show (zT (zDq μ 7 (nI δ.1) (nI δ.2.1) (nI δ.2.2.1) (nI δ.2.2.2.1) δ.2.2.2.2.1 δ.2.2.2.2.2.1 (zms δ.2.2.2.2.2.2.1 th δ.1) (zms δ.2.2.2.2.2.2.2 th k)) a b c d).1 10 k = zms δ.2.2.2.2.2.2.2 th k k from rfl, zms_s]
      refine z_iload_n dX0_settle_68 rfl ?_
      refine z_aload_n dX0_settle_69 rfl ?_
      refine z_getR dX0_settle_70 zf_X0_18 (by first | rfl | assumption) rfl ?_
      refine z_iload_n dX0_settle_73 rfl ?_
      refine z_iald dX0_settle_74 (by first | rfl | assumption) rfl (show k < 5 by omega) (by decide) ?_
      refine z_ior dX0_settle_75 ?_
      refine z_istore_n (i := 2) dX0_settle_76 rfl (by decide) ?_
      refine z_iinc (v := 1) dX0_settle_77 rfl (by decide) (by decide) ?_
      refine z_goto (tgt := 45) dX0_settle_80 (by decide) ?_
      refine ZW.eq ih rfl ?_
      rw [nI_succ k, show (zT (zDq μ 7 (nI δ.1) (nI δ.2.1) (nI δ.2.2.1) (nI δ.2.2.2.1) δ.2.2.2.2.1 δ.2.2.2.2.2.1 (zms δ.2.2.2.2.2.2.1 th δ.1) (zms δ.2.2.2.2.2.2.2 th (k + 1))) a b c d).1 10 k = δ.2.2.2.2.2.2.2 k &&& th from (show zms δ.2.2.2.2.2.2.2 th (k + 1) k = _ by simp [zms])]
      rfl
  have key := zdown (P := fun k => ZW layC mX0_settle 0 Q 11 [some (.ref 7), some (.int th), some (.int (nI k)), none] [] (zT (zDq μ 7 (nI δ.1) (nI δ.2.1) (nI δ.2.2.1) (nI δ.2.2.2.1) δ.2.2.2.2.1 δ.2.2.2.2.2.1 (zms δ.2.2.2.2.2.2.1 th k) δ.2.2.2.2.2.2.2) a b c d)) δ.1 ?_ ?_ 0 (Nat.zero_le _)
  · exact ZW.eq key rfl rfl rfl (by rw [zms_0])
  · refine z_iload_n dX0_settle_11 rfl ?_
    refine z_aload_n dX0_settle_12 rfl ?_
    refine z_getI dX0_settle_13 zf_X0_25 (by first | rfl | assumption) rfl ?_
    refine z_icmp_ge (tgt := 41) dX0_settle_16 (by decide) (fun _ => ?_) (fun hx_ => absurd (Int32.le_refl _) hx_)
    exact second _
  · intro k hk ih
    refine z_iload_n dX0_settle_11 rfl ?_
    refine z_aload_n dX0_settle_12 rfl ?_
    refine z_getI dX0_settle_13 zf_X0_25 (by first | rfl | assumption) rfl ?_
    refine z_icmp_ge (tgt := 41) dX0_settle_16 (by decide) (fun hx_ => absurd hx_ (nI_ge hk (by omega))) (fun _ => ?_)
    refine z_iload_n dX0_settle_19 rfl ?_
    refine z_bipush (v := 8) dX0_settle_20 (by decide) ?_
    refine z_icmp_ge (tgt := 41) dX0_settle_22 (by decide) (fun hx_ => absurd hx_ (nI_ge (b := 8) (by omega) (by decide))) (fun _ => ?_)
    refine z_aload_n dX0_settle_25 rfl ?_
    refine z_getR dX0_settle_26 zf_X0_15 (by first | rfl | assumption) rfl ?_
    refine z_iload_n dX0_settle_29 rfl ?_
    refine z_dup2 dX0_settle_30 rfl rfl ?_
    refine z_iald dX0_settle_31 (by first | rfl | assumption) rfl (show k < 8 by omega) (by decide) ?_
    refine z_iload_n dX0_settle_32 rfl ?_
    refine z_iand dX0_settle_33 ?_
    refine z_iast dX0_settle_34 (by first | rfl | assumption) rfl (show k < 8 by omega) (by decide) ?_
    rw [zI_T (by decide), zDq_r2, show (zT (zDq μ 7 (nI δ.1) (nI δ.2.1) (nI δ.2.2.1) (nI δ.2.2.2.1) δ.2.2.2.2.1 δ.2.2.2.2.2.1 (zms δ.2.2.2.2.2.2.1 th k) δ.2.2.2.2.2.2.2) a b c d).1 9 k = zms δ.2.2.2.2.2.2.1 th k k from rfl, zms_s]
    refine z_iinc (v := 1) dX0_settle_35 rfl (by decide) (by decide) ?_
    refine z_goto (tgt := 11) dX0_settle_38 (by decide) ?_
    exact ZW.eq ih rfl (by rw [nI_succ k]; rfl)
/-- an item: it is taken, or not; the last token looked at -/
theorem sp_readItem_d7 {μ : ZMem} {x : Nat → Nat} {t : Nat} {δ : ZD} {T0 : ZTok} (h : ztx μ x t) (h1 : δ.1 ≤ 8) (h2 : δ.2.1 ≤ 5) (h3 : δ.2.2.2.1 ≤ 1) (h0 : T0.1 ≤ 4 ∧ T0.2.1 ≤ t ∧ T0.2.2.1 ≤ t ∧ T0.2.2.2 < 256) : Sp layC mX0_readItem 4 [.ref 7, .ref 1] (zT (zDr μ 7 δ) (nI T0.1) (nI T0.2.1) (nI T0.2.2.1) (nI T0.2.2.2)) (some (.int (if (zit x t δ T0).1.isSome = true then 1 else 0))) (zT (zDr μ 7 ((zit x t δ T0).1.getD δ)) (nI (zit x t δ T0).2.1) (nI (zit x t δ T0).2.2.1) (nI (zit x t δ T0).2.2.2.1) (nI (zit x t δ T0).2.2.2.2)) := by
  have hx : ∀ k, k < t → x k < 256 := fun k hk => (h.2.2 k hk).2
  have ht : ztx (zDr μ 7 δ) x t := h
  refine Sp.mk (L := [some (.ref 7), some (.ref 1), none, none, none]) rfl (by decide +kernel) rfl rfl (fun Q hQ => ?_)
  have hL : zlet0 T0 < 256 := by unfold zlet0; split <;> omega
  generalize hLe : zlet0 T0 = L at hL
  -- behind the letter
  have cont : ZW layC mX0_readItem 4 Q 16 [some (.ref 7), some (.ref 1), none, none, none] [.int (nI L)] (zT (zDr μ 7 δ) (nI T0.1) (nI T0.2.1) (nI T0.2.2.1) (nI T0.2.2.2)) := by
    refine z_istore_n (i := 2) dX0_readItem_16 rfl (by decide) ?_
    refine z_aload_n dX0_readItem_17 rfl ?_
    refine z_iload_n dX0_readItem_18 rfl ?_
    refine z_cV1r (dy := 0) dX0_readItem_19 zl_X0_62 zy_X0_hasRoomFor (by first | rfl | assumption) rfl (by decide) (Nat.le_of_ble_eq_true rfl) (sp_hasRoomFor_d7 h1 h2 h3 hL _ _ _ _) ?_
    by_cases hr : zroomP δ L
    · rw [if_pos hr]
      -- from the numbers on
      have nums : ∀ (num most p : Nat) (a b d : Int32), p ≤ t → most ≤ 8 → (most = if L = 97 ∨ L = 112 then 8 else 0) → zit x t δ T0 = ((zpn x t most 0 p).1.map (ztake δ L num), (zpn x t most 0 p).2) → ZW layC mX0_readItem 4 Q 66 [some (.ref 7), some (.ref 1), some (.int (nI L)), some (.int (nI num)), none] [] (zT (zDr μ 7 δ) a b (nI p) d) := by
        intro num most p a b d hp hm8 hmost hz
        rw [hz] at hQ
        have after : ZW layC mX0_readItem 4 Q 85 [some (.ref 7), some (.ref 1), some (.int (nI L)), some (.int (nI num)), none] [.int (nI most), .ref 1] (zT (zDr μ 7 δ) a b (nI p) d) := by
          have hrn := sp_readNumbers (m := most) ht hp hm8 a b d
          cases hpn : (zpn x t most 0 p).1 with
          | none =>
            rw [hpn] at hQ hrn
            refine z_cS2r (dy := 3) dX0_readItem_85 zl_X0_70 zy_X0_readNumbers (by decide) (Nat.le_of_ble_eq_true rfl) hrn ?_
            refine z_istore dX0_readItem_88 (by decide) ?_
            refine z_iload dX0_readItem_90 rfl ?_
            refine z_if_ge (tgt := 97) dX0_readItem_92 (by decide) (fun hx_ => absurd hx_ (by decide)) (fun _ => ?_)
            refine z_iconst (v := 0) dX0_readItem_95 (by decide) ?_
            refine z_zret dX0_readItem_96 rfl (by decide) ?_
            exact hQ
          | some r =>
            obtain ⟨R, hR, er⟩ := zpn_bits most 0 p 0 rfl (by decide) r hpn
            rw [hpn] at hQ hrn
            refine z_cS2r (dy := 3) dX0_readItem_85 zl_X0_70 zy_X0_readNumbers (by decide) (Nat.le_of_ble_eq_true rfl) hrn ?_
            refine z_istore dX0_readItem_88 (by decide) ?_
            refine z_iload dX0_readItem_90 rfl ?_
            refine z_if_ge (tgt := 97) dX0_readItem_92 (by decide) (fun _ => ?_) (fun hx_ => absurd (by show 0 ≤ r; rw [er]; exact nI_pos' (by omega)) hx_)
            refine z_aload_n dX0_readItem_97 rfl ?_
            refine z_iload_n dX0_readItem_98 rfl ?_
            refine z_iload_n dX0_readItem_99 rfl ?_
            refine z_iload dX0_readItem_100 rfl ?_
            refine z_cV3v (dy := 0) dX0_readItem_102 zl_X0_74 zy_X0_take (by first | rfl | assumption) rfl (by decide) (Nat.le_of_ble_eq_true rfl) (sp_take_d7 hL hr _ _ _ _ _) ?_
            refine z_iconst (v := 1) dX0_readItem_105 (by decide) ?_
            refine z_zret dX0_readItem_106 rfl (by decide) ?_
            exact hQ
        by_cases h97 : L = 97
        · rw [if_pos (Or.inl h97)] at hmost
          subst hmost
          refine z_aload_n dX0_readItem_66 rfl ?_
          refine z_iload_n dX0_readItem_67 rfl ?_
          refine z_bipush (v := 97) dX0_readItem_68 (by decide) ?_
          refine z_icmp_eq (tgt := 79) dX0_readItem_70 (by decide) (fun _ => ?_) (fun hx_ => absurd (by rw [h97]; rfl) hx_)
          refine z_bipush (v := 8) dX0_readItem_79 (by decide) ?_
          refine z_goto (tgt := 85) dX0_readItem_81 (by decide) ?_
          exact after
        · have n97 : ¬ nI L = 97 := fun q => h97 ((nI_eq (b := 97) (by omega) (by decide)).mp q)
          by_cases h112 : L = 112
          · rw [if_pos (Or.inr h112)] at hmost
            subst hmost
            refine z_aload_n dX0_readItem_66 rfl ?_
            refine z_iload_n dX0_readItem_67 rfl ?_
            refine z_bipush (v := 97) dX0_readItem_68 (by decide) ?_
            refine z_icmp_eq (tgt := 79) dX0_readItem_70 (by decide) (fun hx_ => absurd hx_ n97) (fun _ => ?_)
            refine z_iload_n dX0_readItem_73 rfl ?_
            refine z_bipush (v := 112) dX0_readItem_74 (by decide) ?_
            refine z_icmp_ne (tgt := 84) dX0_readItem_76 (by decide) (fun hx_ => absurd (by rw [h112]; rfl) hx_) (fun _ => ?_)
            refine z_bipush (v := 8) dX0_readItem_79 (by decide) ?_
            refine z_goto (tgt := 85) dX0_readItem_81 (by decide) ?_
            exact after
          · rw [if_neg (fun q => q.elim h97 h112)] at hmost
            subst hmost
            refine z_aload_n dX0_readItem_66 rfl ?_
            refine z_iload_n dX0_readItem_67 rfl ?_
            refine z_bipush (v := 97) dX0_readItem_68 (by decide) ?_
            refine z_icmp_eq (tgt := 79) dX0_readItem_70 (by decide) (fun hx_ => absurd hx_ n97) (fun _ => ?_)
            refine z_iload_n dX0_readItem_73 rfl ?_
            refine z_bipush (v := 112) dX0_readItem_74 (by decide) ?_
            refine z_icmp_ne (tgt := 84) dX0_readItem_76 (by decide) (fun _ => ?_) (fun hx_ => absurd hx_ (fun q => h112 ((nI_eq (b := 112) (by omega) (by decide)).mp q)))
            refine z_iconst (v := 0) dX0_readItem_84 (by decide) ?_
            exact after
      by_cases h112 : L = 112
      · refine z_if_ne (tgt := 27) dX0_readItem_22 (by decide) (fun _ => ?_) (fun hx_ => absurd hx_ (by decide))
        refine z_iconst (v := 0) dX0_readItem_27 (by decide) ?_
        refine z_istore_n (i := 3) dX0_readItem_28 rfl (by decide) ?_
        refine z_iload_n dX0_readItem_29 rfl ?_
        refine z_bipush (v := 112) dX0_readItem_30 (by decide) ?_
        refine z_icmp_eq (tgt := 66) dX0_readItem_32 (by decide) (fun _ => ?_) (fun hx_ => absurd (by rw [h112]; rfl) hx_)
        refine nums 0 8 T0.2.2.1 _ _ _ h0.2.2.1 (by omega) (by rw [if_pos (Or.inr h112)]) ?_
        unfold zit
        rw [hLe, if_neg (fun q => q hr), if_pos h112, h112]
      · have n112 : ¬ nI L = 112 := fun q => h112 ((nI_eq (b := 112) (by omega) (by decide)).mp q)
        obtain ⟨k4, k5, k6, k7⟩ := ztk_le hx h0.2.2.1
        -- behind the test of the number
        have num : ∀ lo : Nat, lo = (if L = 111 then 1 else 0) → ZW layC mX0_readItem 4 Q 51 [some (.ref 7), some (.ref 1), some (.int (nI L)), some (.int 0), none] [.int (nI lo), .ref 1] (zT (zDr μ 7 δ) (nI (ztk x t T0.2.2.1).1) (nI (ztk x t T0.2.2.1).2.1) (nI (ztk x t T0.2.2.1).2.2.1) (nI (ztk x t T0.2.2.1).2.2.2)) := by
          intro lo hlo
          have hlo1 : lo ≤ 1 := by rw [hlo]; split <;> omega
          have hiff : (nI (ztk x t T0.2.2.1).1 = 2 ∧ ¬ nI (ztk x t T0.2.2.1).2.2.2 < nI lo ∧ ¬ 9 < nI (ztk x t T0.2.2.1).2.2.2) ↔ ((ztk x t T0.2.2.1).1 = 2 ∧ lo ≤ (ztk x t T0.2.2.1).2.2.2 ∧ (ztk x t T0.2.2.1).2.2.2 ≤ 9) := by
            have e1 : nI (ztk x t T0.2.2.1).1 = 2 ↔ (ztk x t T0.2.2.1).1 = 2 := nI_eq (b := 2) (by omega) (by decide)
            have e2 : nI (ztk x t T0.2.2.1).2.2.2 < nI lo ↔ (ztk x t T0.2.2.1).2.2.2 < lo := nI_ltI (by omega) (by omega)
            have e3 : (9 : Int32) < nI (ztk x t T0.2.2.1).2.2.2 ↔ 9 < (ztk x t T0.2.2.1).2.2.2 := nI_ltI (a := 9) (by decide) (by omega)
            rw [e1, e2, e3]
            omega
          refine z_bipush (v := 9) dX0_readItem_51 (by decide) ?_
          refine z_cV2r (dy := 0) dX0_readItem_53 zl_X0_66 zy_X2_isNumber (by first | rfl | assumption) rfl (by decide) (Nat.le_of_ble_eq_true rfl) (sp_isNumber _ _) ?_
          by_cases hnum : (ztk x t T0.2.2.1).1 = 2 ∧ lo ≤ (ztk x t T0.2.2.1).2.2.2 ∧ (ztk x t T0.2.2.1).2.2.2 ≤ 9
          · refine z_if_neb (tgt := 61) dX0_readItem_56 (by decide) (fun _ => ?_) (fun hb => absurd (hiff.mpr hnum) hb)
            refine z_aload_n dX0_readItem_61 rfl ?_
            refine z_getI dX0_readItem_62 zf_X0_59 (by first | rfl | assumption) rfl ?_
            refine z_istore_n (i := 3) dX0_readItem_65 rfl (by decide) ?_
            refine nums (ztk x t T0.2.2.1).2.2.2 (if L = 97 then 8 else 0) (ztk x t T0.2.2.1).2.2.1 _ _ _ k6 (by split <;> omega) (by simp [h112]) ?_
            unfold zit
            rw [hLe, if_neg (fun q => q hr), if_neg h112, if_neg (fun q => q (by rw [← hlo]; exact hnum))]
          · have hz : zit x t δ T0 = (none, ztk x t T0.2.2.1) := by
              unfold zit
              rw [hLe, if_neg (fun q => q hr), if_neg h112, if_pos (by rw [← hlo]; exact hnum)]
            rw [hz] at hQ
            refine z_if_neb (tgt := 61) dX0_readItem_56 (by decide) (fun hb => absurd (hiff.mp hb) hnum) (fun _ => ?_)
            refine z_iconst (v := 0) dX0_readItem_59 (by decide) ?_
            refine z_zret dX0_readItem_60 rfl (by decide) ?_
            exact hQ
        by_cases h111 : L = 111
        · refine z_if_ne (tgt := 27) dX0_readItem_22 (by decide) (fun _ => ?_) (fun hx_ => absurd hx_ (by decide))
          refine z_iconst (v := 0) dX0_readItem_27 (by decide) ?_
          refine z_istore_n (i := 3) dX0_readItem_28 rfl (by decide) ?_
          refine z_iload_n dX0_readItem_29 rfl ?_
          refine z_bipush (v := 112) dX0_readItem_30 (by decide) ?_
          refine z_icmp_eq (tgt := 66) dX0_readItem_32 (by decide) (fun hx_ => absurd hx_ n112) (fun _ => ?_)
          refine z_aload_n dX0_readItem_35 rfl ?_
          refine z_cV0v (dy := 2) dX0_readItem_36 zl_X0_53 zy_X2_advance (by first | rfl | assumption) rfl (by decide) (Nat.le_of_ble_eq_true rfl) (sp_advance ht h0.2.2.1 _ _ _) ?_
          refine z_aload_n dX0_readItem_39 rfl ?_
          refine z_iload_n dX0_readItem_40 rfl ?_
          refine z_bipush (v := 111) dX0_readItem_41 (by decide) ?_
          refine z_icmp_ne (tgt := 50) dX0_readItem_43 (by decide) (fun hx_ => absurd (by rw [h111]; rfl) hx_) (fun _ => ?_)
          refine z_iconst (v := 1) dX0_readItem_46 (by decide) ?_
          refine z_goto (tgt := 51) dX0_readItem_47 (by decide) ?_
          exact num 1 (by rw [if_pos h111])
        · refine z_if_ne (tgt := 27) dX0_readItem_22 (by decide) (fun _ => ?_) (fun hx_ => absurd hx_ (by decide))
          refine z_iconst (v := 0) dX0_readItem_27 (by decide) ?_
          refine z_istore_n (i := 3) dX0_readItem_28 rfl (by decide) ?_
          refine z_iload_n dX0_readItem_29 rfl ?_
          refine z_bipush (v := 112) dX0_readItem_30 (by decide) ?_
          refine z_icmp_eq (tgt := 66) dX0_readItem_32 (by decide) (fun hx_ => absurd hx_ n112) (fun _ => ?_)
          refine z_aload_n dX0_readItem_35 rfl ?_
          refine z_cV0v (dy := 2) dX0_readItem_36 zl_X0_53 zy_X2_advance (by first | rfl | assumption) rfl (by decide) (Nat.le_of_ble_eq_true rfl) (sp_advance ht h0.2.2.1 _ _ _) ?_
          refine z_aload_n dX0_readItem_39 rfl ?_
          refine z_iload_n dX0_readItem_40 rfl ?_
          refine z_bipush (v := 111) dX0_readItem_41 (by decide) ?_
          refine z_icmp_ne (tgt := 50) dX0_readItem_43 (by decide) (fun _ => ?_) (fun hx_ => absurd hx_ (fun q => h111 ((nI_eq (b := 111) (by omega) (by decide)).mp q)))
          refine z_iconst (v := 0) dX0_readItem_50 (by decide) ?_
          exact num 0 (by rw [if_neg h111])
    · rw [if_neg hr]
      have hz : zit x t δ T0 = (none, T0) := by
        unfold zit
        rw [hLe, if_pos hr]
      rw [hz] at hQ
      refine z_if_ne (tgt := 27) dX0_readItem_22 (by decide) (fun hx_ => absurd (rfl) hx_) (fun _ => ?_)
      refine z_iconst (v := 0) dX0_readItem_25 (by decide) ?_
      refine z_zret dX0_readItem_26 rfl (by decide) ?_
      exact hQ
  by_cases hw : T0.1 = 1
  · have eL : L = T0.2.2.2 := by rw [← hLe]; unfold zlet0; rw [if_pos hw]
    rw [eL] at cont
    refine z_aload_n dX0_readItem_0 rfl ?_
    refine z_getI dX0_readItem_1 zf_X0_43 (by first | rfl | assumption) rfl ?_
    refine z_iconst (v := 1) dX0_readItem_4 (by decide) ?_
    refine z_icmp_ne (tgt := 15) dX0_readItem_5 (by decide) (fun hx_ => absurd (by show nI T0.1 = 1; rw [hw]; rfl) hx_) (fun _ => ?_)
    refine z_aload_n dX0_readItem_8 rfl ?_
    refine z_getI dX0_readItem_9 zf_X0_59 (by first | rfl | assumption) rfl ?_
    refine z_goto (tgt := 16) dX0_readItem_12 (by decide) ?_
    exact cont
  · have eL : L = 0 := by rw [← hLe]; unfold zlet0; rw [if_neg hw]
    rw [eL] at cont
    refine z_aload_n dX0_readItem_0 rfl ?_
    refine z_getI dX0_readItem_1 zf_X0_43 (by first | rfl | assumption) rfl ?_
    refine z_iconst (v := 1) dX0_readItem_4 (by decide) ?_
    refine z_icmp_ne (tgt := 15) dX0_readItem_5 (by decide) (fun _ => ?_) (fun hx_ => absurd hx_ (fun q => hw ((nI_eq (b := 1) (by omega) (by decide)).mp q)))
    refine z_iconst (v := 0) dX0_readItem_15 (by decide) ?_
    exact cont

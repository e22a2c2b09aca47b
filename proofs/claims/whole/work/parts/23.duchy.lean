/-! ===== AnswerSquare.Duchy: what does not read a text; at dd, which is 3 or 7 ===== -/
def zDu (dd : Nat) : Prop := dd = 3 ∨ dd = 7
theorem zDu.l0 {dd : Nat} (h : zDu dd) : layC[dd]? = some (.inr (0, zkDu dd)) := by rcases h with rfl | rfl <;> rfl
theorem zDu.l1 {dd : Nat} (h : zDu dd) : layC[dd + 1]? = some (.inl (0, 8)) := by rcases h with rfl | rfl <;> rfl
theorem zDu.l2 {dd : Nat} (h : zDu dd) : layC[dd + 2]? = some (.inl (0, 8)) := by rcases h with rfl | rfl <;> rfl
theorem zDu.l3 {dd : Nat} (h : zDu dd) : layC[dd + 3]? = some (.inl (0, 5)) := by rcases h with rfl | rfl <;> rfl
/-- how many sayings, people -/
def zdS (μ : ZMem) (dd ns : Nat) : Prop := zDu dd ∧ μ.1 dd 3 = nI ns ∧ ns ≤ 8
def zdP (μ : ZMem) (dd np : Nat) : Prop := zDu dd ∧ μ.1 dd 4 = nI np ∧ np ≤ 5
/-- x has the bit w -/
abbrev zbt (x w : Int32) : Prop := ¬ x &&& (1 <<< (w &&& 31)) = 0
theorem sp_hasSaying_t {μ : ZMem} {dd ns j : Nat} (h : zdS μ dd ns) (hj : j < ns) {i : Int32} (hi : i = nI j) : Sp layC mX0_hasSaying 0 [.ref dd, .int i] μ (some (.int 1)) μ := by
  obtain ⟨hd, hn, h8⟩ := h
  have hl0 := hd.l0
  subst hi
  refine Sp.mk (L := [some (.ref dd), some (.int (nI j))]) rfl (by decide +kernel) rfl rfl (fun Q hQ => ?_)
  refine z_iload_n dX0_hasSaying_0 rfl ?_
  refine z_if_lt (tgt := 22) dX0_hasSaying_1 (by decide) (fun hx_ => absurd hx_ (nI_pos (by omega))) (fun _ => ?_)
  refine z_iload_n dX0_hasSaying_4 rfl ?_
  refine z_aload_n dX0_hasSaying_5 rfl ?_
  refine z_getI dX0_hasSaying_6 zf_X0_25 (by first | rfl | assumption) rfl ?_
  refine z_icmp_ge (tgt := 22) dX0_hasSaying_9 (by decide) (fun hx_ => absurd hx_ (by rw [hn]; exact nI_ge hj (by omega))) (fun _ => ?_)
  refine z_iload_n dX0_hasSaying_12 rfl ?_
  refine z_bipush (v := 8) dX0_hasSaying_13 (by decide) ?_
  refine z_icmp_ge (tgt := 22) dX0_hasSaying_15 (by decide) (fun hx_ => absurd hx_ (nI_ge (b := 8) (by omega) (by decide))) (fun _ => ?_)
  refine z_iconst (v := 1) dX0_hasSaying_18 (by decide) ?_
  refine z_goto (tgt := 23) dX0_hasSaying_19 (by decide) ?_
  refine z_zret dX0_hasSaying_23 rfl (by decide) ?_
  exact hQ
theorem sp_hasSaying_f {μ : ZMem} {dd ns : Nat} (h : zdS μ dd ns) {i : Int32} (hi : i < 0 ∨ nI ns ≤ i) : Sp layC mX0_hasSaying 0 [.ref dd, .int i] μ (some (.int 0)) μ := by
  obtain ⟨hd, hn, h8⟩ := h
  have hl0 := hd.l0
  refine Sp.mk (L := [some (.ref dd), some (.int i)]) rfl (by decide +kernel) rfl rfl (fun Q hQ => ?_)
  refine z_iload_n dX0_hasSaying_0 rfl ?_
  refine z_if_lt (tgt := 22) dX0_hasSaying_1 (by decide) (fun hb1 => ?_) (fun hb1 => ?_)
  · refine z_iconst (v := 0) dX0_hasSaying_22 (by decide) ?_
    refine z_zret dX0_hasSaying_23 rfl (by decide) ?_
    exact hQ
  · refine z_iload_n dX0_hasSaying_4 rfl ?_
    refine z_aload_n dX0_hasSaying_5 rfl ?_
    refine z_getI dX0_hasSaying_6 zf_X0_25 (by first | rfl | assumption) rfl ?_
    refine z_icmp_ge (tgt := 22) dX0_hasSaying_9 (by decide) (fun _ => ?_) (fun hx_ => absurd (by rw [hn]; exact hi.resolve_left hb1) hx_)
    refine z_iconst (v := 0) dX0_hasSaying_22 (by decide) ?_
    refine z_zret dX0_hasSaying_23 rfl (by decide) ?_
    exact hQ
theorem sp_hasPerson_t {μ : ZMem} {dd np j : Nat} (h : zdP μ dd np) (hj : j < np) {i : Int32} (hi : i = nI j) : Sp layC mX0_hasPerson 0 [.ref dd, .int i] μ (some (.int 1)) μ := by
  obtain ⟨hd, hn, h8⟩ := h
  have hl0 := hd.l0
  subst hi
  refine Sp.mk (L := [some (.ref dd), some (.int (nI j))]) rfl (by decide +kernel) rfl rfl (fun Q hQ => ?_)
  refine z_iload_n dX0_hasPerson_0 rfl ?_
  refine z_if_lt (tgt := 21) dX0_hasPerson_1 (by decide) (fun hx_ => absurd hx_ (nI_pos (by omega))) (fun _ => ?_)
  refine z_iload_n dX0_hasPerson_4 rfl ?_
  refine z_aload_n dX0_hasPerson_5 rfl ?_
  refine z_getI dX0_hasPerson_6 zf_X0_28 (by first | rfl | assumption) rfl ?_
  refine z_icmp_ge (tgt := 21) dX0_hasPerson_9 (by decide) (fun hx_ => absurd hx_ (by rw [hn]; exact nI_ge hj (by omega))) (fun _ => ?_)
  refine z_iload_n dX0_hasPerson_12 rfl ?_
  refine z_iconst (v := 5) dX0_hasPerson_13 (by decide) ?_
  refine z_icmp_ge (tgt := 21) dX0_hasPerson_14 (by decide) (fun hx_ => absurd hx_ (nI_ge (b := 5) (by omega) (by decide))) (fun _ => ?_)
  refine z_iconst (v := 1) dX0_hasPerson_17 (by decide) ?_
  refine z_goto (tgt := 22) dX0_hasPerson_18 (by decide) ?_
  refine z_zret dX0_hasPerson_22 rfl (by decide) ?_
  exact hQ
theorem sp_hasPerson_f {μ : ZMem} {dd np : Nat} (h : zdP μ dd np) {i : Int32} (hi : i < 0 ∨ nI np ≤ i) : Sp layC mX0_hasPerson 0 [.ref dd, .int i] μ (some (.int 0)) μ := by
  obtain ⟨hd, hn, h8⟩ := h
  have hl0 := hd.l0
  refine Sp.mk (L := [some (.ref dd), some (.int i)]) rfl (by decide +kernel) rfl rfl (fun Q hQ => ?_)
  refine z_iload_n dX0_hasPerson_0 rfl ?_
  refine z_if_lt (tgt := 21) dX0_hasPerson_1 (by decide) (fun hb1 => ?_) (fun hb1 => ?_)
  · refine z_iconst (v := 0) dX0_hasPerson_21 (by decide) ?_
    refine z_zret dX0_hasPerson_22 rfl (by decide) ?_
    exact hQ
  · refine z_iload_n dX0_hasPerson_4 rfl ?_
    refine z_aload_n dX0_hasPerson_5 rfl ?_
    refine z_getI dX0_hasPerson_6 zf_X0_28 (by first | rfl | assumption) rfl ?_
    refine z_icmp_ge (tgt := 21) dX0_hasPerson_9 (by decide) (fun _ => ?_) (fun hx_ => absurd (by rw [hn]; exact hi.resolve_left hb1) hx_)
    refine z_iconst (v := 0) dX0_hasPerson_21 (by decide) ?_
    refine z_zret dX0_hasPerson_22 rfl (by decide) ?_
    exact hQ
theorem sp_hasAll {μ : ZMem} {dd ns : Nat} (h : zdS μ dd ns) (i : Int32) : Sp layC mX0_hasAll 1 [.ref dd, .int i] μ (some (.int (if ¬ i < 0 ∧ ¬ 1 <<< (μ.1 dd 3 &&& 31) ≤ i then 1 else 0))) μ := by
  have hl0 := h.1.l0
  have hmin : (if (8 : Int32) < μ.1 dd 3 then (8 : Int32) else μ.1 dd 3) = μ.1 dd 3 := if_neg (by rw [h.2.1]; exact nI_nlt (a := 8) h.2.2 (by decide))
  refine Sp.mk (L := [some (.ref dd), some (.int i)]) rfl (by decide +kernel) rfl rfl (fun Q hQ => ?_)
  refine z_iload_n dX0_hasAll_0 rfl ?_
  refine z_if_lt (tgt := 23) dX0_hasAll_1 (by decide) (fun hb1 => ?_) (fun hb1 => ?_)
  · refine z_iconst (v := 0) dX0_hasAll_23 (by decide) ?_
    refine z_zret dX0_hasAll_24 rfl (by decide) ?_
    refine zq hQ ?_
    simp [hb1]
  · refine z_iload_n dX0_hasAll_4 rfl ?_
    refine z_iconst (v := 1) dX0_hasAll_5 (by decide) ?_
    refine z_aload_n dX0_hasAll_6 rfl ?_
    refine z_getI dX0_hasAll_7 zf_X0_25 (by first | rfl | assumption) rfl ?_
    refine z_bipush (v := 8) dX0_hasAll_10 (by decide) ?_
    refine z_min dX0_hasAll_12 zm_2_181 (by decide) (Nat.le_of_ble_eq_true rfl) ?_
    rw [hmin]
    refine z_ishl dX0_hasAll_15 ?_
    refine z_icmp_ge (tgt := 23) dX0_hasAll_16 (by decide) (fun hb16 => ?_) (fun hb16 => ?_)
    · refine z_iconst (v := 0) dX0_hasAll_23 (by decide) ?_
      refine z_zret dX0_hasAll_24 rfl (by decide) ?_
      first | (refine zq hQ ?_; simp [hb1, hb16]; done) | (refine zq hQ ?_; simp [hb1]; done)
    · refine z_iconst (v := 1) dX0_hasAll_19 (by decide) ?_
      refine z_goto (tgt := 24) dX0_hasAll_20 (by decide) ?_
      refine z_zret dX0_hasAll_24 rfl (by decide) ?_
      first | (refine zq hQ ?_; simp [hb1, hb16]; done) | (refine zq hQ ?_; simp [hb1]; done)
theorem sp_isSound {μ : ZMem} {dd : Nat} (hd : zDu dd) (i : Int32) : Sp layC mX0_isSound 0 [.ref dd, .int i] μ (some (.int (if zbt (μ.1 dd 7) i then 1 else 0))) μ := by
  have hl0 := hd.l0
  refine Sp.mk (L := [some (.ref dd), some (.int i)]) rfl (by decide +kernel) rfl rfl (fun Q hQ => ?_)
  refine z_aload_n dX0_isSound_0 rfl ?_
  refine z_getI dX0_isSound_1 zf_X0_35 (by first | rfl | assumption) rfl ?_
  refine z_iconst (v := 1) dX0_isSound_4 (by decide) ?_
  refine z_iload_n dX0_isSound_5 rfl ?_
  refine z_ishl dX0_isSound_6 ?_
  refine z_iand dX0_isSound_7 ?_
  refine z_if_eq (tgt := 15) dX0_isSound_8 (by decide) (fun hb8 => ?_) (fun hb8 => ?_)
  · refine z_iconst (v := 0) dX0_isSound_15 (by decide) ?_
    refine z_zret dX0_isSound_16 rfl (by decide) ?_
    first | (rw [if_neg (fun q => q hb8)] at hQ; exact hQ) | (rw [if_pos hb8] at hQ; exact hQ)
  · refine z_iconst (v := 1) dX0_isSound_11 (by decide) ?_
    refine z_goto (tgt := 16) dX0_isSound_12 (by decide) ?_
    refine z_zret dX0_isSound_16 rfl (by decide) ?_
    first | (rw [if_neg (fun q => q hb8)] at hQ; exact hQ) | (rw [if_pos hb8] at hQ; exact hQ)
theorem sp_worthOf {μ : ZMem} {dd ns j : Nat} (h : zdS μ dd ns) (hj : j < ns) {i : Int32} (hi : i = nI j) : Sp layC mX0_worthOf 1 [.ref dd, .int i] μ (some (.int (μ.1 (dd + 1) j))) μ := by
  have hl0 := h.1.l0
  have hl1 := h.1.l1
  have h8 := h.2.2
  subst hi
  refine Sp.mk (L := [some (.ref dd), some (.int (nI j))]) rfl (by decide +kernel) rfl rfl (fun Q hQ => ?_)
  refine z_aload_n dX0_worthOf_0 rfl ?_
  refine z_iload_n dX0_worthOf_1 rfl ?_
  refine z_cV1r (dy := 0) dX0_worthOf_2 zl_X0_87 zy_X0_hasSaying (by first | rfl | assumption) rfl (by decide) (Nat.le_of_ble_eq_true rfl) (sp_hasSaying_t h hj rfl) ?_
  refine z_if_eq (tgt := 17) dX0_worthOf_5 (by decide) (fun hx_ => absurd hx_ (by decide)) (fun _ => ?_)
  refine z_aload_n dX0_worthOf_8 rfl ?_
  refine z_getR dX0_worthOf_9 zf_X0_9 (by first | rfl | assumption) rfl ?_
  refine z_iload_n dX0_worthOf_12 rfl ?_
  refine z_iald dX0_worthOf_13 (by first | rfl | assumption) rfl (by first | assumption | omega | decide) (by decide) ?_
  refine z_goto (tgt := 18) dX0_worthOf_14 (by decide) ?_
  refine z_iret dX0_worthOf_18 rfl ?_
  exact hQ
/-- Integer.bitCount as its code has it -/
def zbc (x0 : Int32) : Int32 :=
  let x1 := x0 - ((x0.toUInt32 >>> ((1 : Int32).toUInt32 &&& Int32.toUInt32 31)).toInt32 &&& 1431655765)
  let x2 := (x1 &&& 858993459) + ((x1.toUInt32 >>> ((2 : Int32).toUInt32 &&& Int32.toUInt32 31)).toInt32 &&& 858993459)
  let x3 := (x2 + (x2.toUInt32 >>> ((4 : Int32).toUInt32 &&& Int32.toUInt32 31)).toInt32) &&& 252645135
  let x4 := x3 + (x3.toUInt32 >>> ((8 : Int32).toUInt32 &&& Int32.toUInt32 31)).toInt32
  let x5 := x4 + (x4.toUInt32 >>> ((16 : Int32).toUInt32 &&& Int32.toUInt32 31)).toInt32
  x5 &&& 63
theorem sp_bitCount {lay : List ZE} {μ : ZMem} (x : Int32) : Sp lay mJ6_bitCount_0f7a4 0 [.int x] μ (some (.int (zbc x))) μ := by
  refine Sp.mk (L := [some (.int x)]) rfl (by decide +kernel) rfl rfl (fun Q hQ => ?_)
  refine z_iload_n dJ6_bitCount_0f7a4_0 rfl ?_
  refine z_iload_n dJ6_bitCount_0f7a4_1 rfl ?_
  refine z_iconst (v := 1) dJ6_bitCount_0f7a4_2 (by decide) ?_
  refine z_iushr dJ6_bitCount_0f7a4_3 ?_
  refine z_ldcw dJ6_bitCount_0f7a4_4 zm_2_194 ?_
  refine z_iand dJ6_bitCount_0f7a4_7 ?_
  refine z_isub dJ6_bitCount_0f7a4_8 ?_
  refine z_istore_n (i := 0) dJ6_bitCount_0f7a4_9 rfl (by decide) ?_
  refine z_iload_n dJ6_bitCount_0f7a4_10 rfl ?_
  refine z_ldcw dJ6_bitCount_0f7a4_11 zm_2_195 ?_
  refine z_iand dJ6_bitCount_0f7a4_14 ?_
  refine z_iload_n dJ6_bitCount_0f7a4_15 rfl ?_
  refine z_iconst (v := 2) dJ6_bitCount_0f7a4_16 (by decide) ?_
  refine z_iushr dJ6_bitCount_0f7a4_17 ?_
  refine z_ldcw dJ6_bitCount_0f7a4_18 zm_2_195 ?_
  refine z_iand dJ6_bitCount_0f7a4_21 ?_
  refine z_iadd dJ6_bitCount_0f7a4_22 ?_
  refine z_istore_n (i := 0) dJ6_bitCount_0f7a4_23 rfl (by decide) ?_
  refine z_iload_n dJ6_bitCount_0f7a4_24 rfl ?_
  refine z_iload_n dJ6_bitCount_0f7a4_25 rfl ?_
  refine z_iconst (v := 4) dJ6_bitCount_0f7a4_26 (by decide) ?_
  refine z_iushr dJ6_bitCount_0f7a4_27 ?_
  refine z_iadd dJ6_bitCount_0f7a4_28 ?_
  refine z_ldcw dJ6_bitCount_0f7a4_29 zm_2_196 ?_
  refine z_iand dJ6_bitCount_0f7a4_32 ?_
  refine z_istore_n (i := 0) dJ6_bitCount_0f7a4_33 rfl (by decide) ?_
  refine z_iload_n dJ6_bitCount_0f7a4_34 rfl ?_
  refine z_iload_n dJ6_bitCount_0f7a4_35 rfl ?_
  refine z_bipush (v := 8) dJ6_bitCount_0f7a4_36 (by decide) ?_
  refine z_iushr dJ6_bitCount_0f7a4_38 ?_
  refine z_iadd dJ6_bitCount_0f7a4_39 ?_
  refine z_istore_n (i := 0) dJ6_bitCount_0f7a4_40 rfl (by decide) ?_
  refine z_iload_n dJ6_bitCount_0f7a4_41 rfl ?_
  refine z_iload_n dJ6_bitCount_0f7a4_42 rfl ?_
  refine z_bipush (v := 16) dJ6_bitCount_0f7a4_43 (by decide) ?_
  refine z_iushr dJ6_bitCount_0f7a4_45 ?_
  refine z_iadd dJ6_bitCount_0f7a4_46 ?_
  refine z_istore_n (i := 0) dJ6_bitCount_0f7a4_47 rfl (by decide) ?_
  refine z_iload_n dJ6_bitCount_0f7a4_48 rfl ?_
  refine z_bipush (v := 63) dJ6_bitCount_0f7a4_49 (by decide) ?_
  refine z_iand dJ6_bitCount_0f7a4_51 ?_
  refine z_iret dJ6_bitCount_0f7a4_52 rfl ?_
  exact hQ
theorem sp_answersCount {μ : ZMem} {dd ns j : Nat} (h : zdS μ dd ns) (hj : j < ns) {i : Int32} (hi : i = nI j) : Sp layC mX0_answersCount 1 [.ref dd, .int i] μ (some (.int (zbc (μ.1 (dd + 2) j)))) μ := by
  have hl0 := h.1.l0
  have hl2 := h.1.l2
  have h8 := h.2.2
  subst hi
  refine Sp.mk (L := [some (.ref dd), some (.int (nI j))]) rfl (by decide +kernel) rfl rfl (fun Q hQ => ?_)
  refine z_aload_n dX0_answersCount_0 rfl ?_
  refine z_iload_n dX0_answersCount_1 rfl ?_
  refine z_cV1r (dy := 0) dX0_answersCount_2 zl_X0_87 zy_X0_hasSaying (by first | rfl | assumption) rfl (by decide) (Nat.le_of_ble_eq_true rfl) (sp_hasSaying_t h hj rfl) ?_
  refine z_if_eq (tgt := 20) dX0_answersCount_5 (by decide) (fun hx_ => absurd hx_ (by decide)) (fun _ => ?_)
  refine z_aload_n dX0_answersCount_8 rfl ?_
  refine z_getR dX0_answersCount_9 zf_X0_15 (by first | rfl | assumption) rfl ?_
  refine z_iload_n dX0_answersCount_12 rfl ?_
  refine z_iald dX0_answersCount_13 (by first | rfl | assumption) rfl (by first | assumption | omega | decide) (by decide) ?_
  refine z_cS1r (dy := 0) dX0_answersCount_14 zl_X0_90 zy_J6_bitCount_0f7a4 (by decide) (Nat.le_of_ble_eq_true rfl) (sp_bitCount _) ?_
  refine z_goto (tgt := 21) dX0_answersCount_17 (by decide) ?_
  refine z_iret dX0_answersCount_21 rfl ?_
  exact hQ
/-- who knows w (bits) -/
def zkn (kn : Nat → Int32) (w : Int32) (np : Nat) : Int32 := zfold (fun p a => if zbt (kn p) w then a ||| (1 <<< (nI p &&& 31)) else a) 0 np
theorem sp_knowers {μ : ZMem} {dd np : Nat} (h : zdP μ dd np) (w : Int32) : Sp layC mX0_knowers 0 [.ref dd, .int w] μ (some (.int (zkn (μ.1 (dd + 3)) w np))) μ := by
  have hl0 := h.1.l0
  have hl3 := h.1.l3
  have hn := h.2.1
  have h5 := h.2.2
  refine Sp.mk (L := [some (.ref dd), some (.int w), none, none]) rfl (by decide +kernel) rfl rfl (fun Q hQ => ?_)
  refine z_iconst (v := 0) dX0_knowers_0 (by decide) ?_
  refine z_istore_n (i := 2) dX0_knowers_1 rfl (by decide) ?_
  refine z_iconst (v := 0) dX0_knowers_2 (by decide) ?_
  refine z_istore_n (i := 3) dX0_knowers_3 rfl (by decide) ?_
  refine zdown (P := fun k => ZW layC mX0_knowers 0 Q 4 [some (.ref dd), some (.int w), some (.int (zkn (μ.1 (dd + 3)) w k)), some (.int (nI k))] [] μ) np ?_ ?_ 0 (Nat.zero_le np)
  · refine z_iload_n dX0_knowers_4 rfl ?_
    refine z_aload_n dX0_knowers_5 rfl ?_
    refine z_getI dX0_knowers_6 zf_X0_28 (by first | rfl | assumption) rfl ?_
    refine z_icmp_ge (tgt := 42) dX0_knowers_9 (by decide) (fun _ => ?_) (fun hx_ => absurd (by rw [hn]; exact Int32.le_refl _) hx_)
    refine z_iload_n dX0_knowers_42 rfl ?_
    refine z_iret dX0_knowers_43 rfl ?_
    exact hQ
  · intro k hk ih
    refine z_iload_n dX0_knowers_4 rfl ?_
    refine z_aload_n dX0_knowers_5 rfl ?_
    refine z_getI dX0_knowers_6 zf_X0_28 (by first | rfl | assumption) rfl ?_
    refine z_icmp_ge (tgt := 42) dX0_knowers_9 (by decide) (fun hx_ => absurd hx_ (by rw [hn]; exact nI_ge hk (by omega))) (fun _ => ?_)
    refine z_iload_n dX0_knowers_12 rfl ?_
    refine z_iconst (v := 5) dX0_knowers_13 (by decide) ?_
    refine z_icmp_ge (tgt := 42) dX0_knowers_14 (by decide) (fun hx_ => absurd hx_ (nI_ge (b := 5) (by omega) (by decide))) (fun _ => ?_)
    refine z_aload_n dX0_knowers_17 rfl ?_
    refine z_getR dX0_knowers_18 zf_X0_18 (by first | rfl | assumption) rfl ?_
    refine z_iload_n dX0_knowers_21 rfl ?_
    refine z_iald dX0_knowers_22 (by first | rfl | assumption) rfl (by first | assumption | omega | decide) (by decide) ?_
    refine z_iconst (v := 1) dX0_knowers_23 (by decide) ?_
    refine z_iload_n dX0_knowers_24 rfl ?_
    refine z_ishl dX0_knowers_25 ?_
    refine z_iand dX0_knowers_26 ?_
    refine z_if_eq (tgt := 36) dX0_knowers_27 (by decide) (fun hb27 => ?_) (fun hb27 => ?_)
    · refine z_iinc (v := 1) dX0_knowers_36 rfl (by decide) (by decide) ?_
      refine z_goto (tgt := 4) dX0_knowers_39 (by decide) ?_
      exact ZW.eq ih rfl (by simp [zkn, zfold, nI_succ, hb27])
    · refine z_iload_n dX0_knowers_30 rfl ?_
      refine z_iconst (v := 1) dX0_knowers_31 (by decide) ?_
      refine z_iload_n dX0_knowers_32 rfl ?_
      refine z_ishl dX0_knowers_33 ?_
      refine z_ior dX0_knowers_34 ?_
      refine z_istore_n (i := 2) dX0_knowers_35 rfl (by decide) ?_
      refine z_iinc (v := 1) dX0_knowers_36 rfl (by decide) (by decide) ?_
      refine z_goto (tgt := 4) dX0_knowers_39 (by decide) ?_
      exact ZW.eq ih rfl (by simp [zkn, zfold, nI_succ, hb27])
theorem sp_canAnswer {μ : ZMem} {dd ns j : Nat} (h : zdS μ dd ns) (hj : j < ns) (base : Int32) {i : Int32} (hi : i = nI j) : Sp layC mX0_canAnswer 1 [.ref dd, .int i, .int base] μ (some (.int (if zbt (μ.1 dd 8) (nI j) ∧ ¬ μ.1 (dd + 2) j &&& base = 0 then 1 else 0))) μ := by
  have hl0 := h.1.l0
  have hl2 := h.1.l2
  have h8 := h.2.2
  subst hi
  refine Sp.mk (L := [some (.ref dd), some (.int (nI j)), some (.int base)]) rfl (by decide +kernel) rfl rfl (fun Q hQ => ?_)
  refine z_aload_n dX0_canAnswer_0 rfl ?_
  refine z_iload_n dX0_canAnswer_1 rfl ?_
  refine z_cV1r (dy := 0) dX0_canAnswer_2 zl_X0_87 zy_X0_hasSaying (by first | rfl | assumption) rfl (by decide) (Nat.le_of_ble_eq_true rfl) (sp_hasSaying_t h hj rfl) ?_
  refine z_if_eq (tgt := 34) dX0_canAnswer_5 (by decide) (fun hx_ => absurd hx_ (by decide)) (fun _ => ?_)
  refine z_aload_n dX0_canAnswer_8 rfl ?_
  refine z_getI dX0_canAnswer_9 zf_X0_78 (by first | rfl | assumption) rfl ?_
  refine z_iconst (v := 1) dX0_canAnswer_12 (by decide) ?_
  refine z_iload_n dX0_canAnswer_13 rfl ?_
  refine z_ishl dX0_canAnswer_14 ?_
  refine z_iand dX0_canAnswer_15 ?_
  refine z_if_eq (tgt := 34) dX0_canAnswer_16 (by decide) (fun hb16 => ?_) (fun hb16 => ?_)
  · refine z_iconst (v := 0) dX0_canAnswer_34 (by decide) ?_
    refine z_zret dX0_canAnswer_35 rfl (by decide) ?_
    first | (refine zq hQ ?_; simp [hb16, hb27]; done) | (refine zq hQ ?_; simp [hb16]; done)
  · refine z_aload_n dX0_canAnswer_19 rfl ?_
    refine z_getR dX0_canAnswer_20 zf_X0_15 (by first | rfl | assumption) rfl ?_
    refine z_iload_n dX0_canAnswer_23 rfl ?_
    refine z_iald dX0_canAnswer_24 (by first | rfl | assumption) rfl (by first | assumption | omega | decide) (by decide) ?_
    refine z_iload_n dX0_canAnswer_25 rfl ?_
    refine z_iand dX0_canAnswer_26 ?_
    refine z_if_eq (tgt := 34) dX0_canAnswer_27 (by decide) (fun hb27 => ?_) (fun hb27 => ?_)
    · refine z_iconst (v := 0) dX0_canAnswer_34 (by decide) ?_
      refine z_zret dX0_canAnswer_35 rfl (by decide) ?_
      first | (refine zq hQ ?_; simp [hb16, hb27]; done) | (refine zq hQ ?_; simp [hb16]; done)
    · refine z_iconst (v := 1) dX0_canAnswer_30 (by decide) ?_
      refine z_goto (tgt := 35) dX0_canAnswer_31 (by decide) ?_
      refine z_zret dX0_canAnswer_35 rfl (by decide) ?_
      first | (refine zq hQ ?_; simp [hb16, hb27]; done) | (refine zq hQ ?_; simp [hb16]; done)
/-- what somebody may say when the base is there -/
def zan (sa : Int32) (an : Nat → Int32) (base : Int32) (ns : Nat) : Int32 := zfold (fun k a => if zbt sa (nI k) ∧ ¬ an k &&& base = 0 then a ||| (1 <<< (nI k &&& 31)) else a) 0 ns
theorem sp_answering {μ : ZMem} {dd ns : Nat} (h : zdS μ dd ns) (base : Int32) : Sp layC mX0_answering 2 [.ref dd, .int base] μ (some (.int (zan (μ.1 dd 8) (μ.1 (dd + 2)) base ns))) μ := by
  have hl0 := h.1.l0
  have hn := h.2.1
  have h8 := h.2.2
  refine Sp.mk (L := [some (.ref dd), some (.int base), none, none]) rfl (by decide +kernel) rfl rfl (fun Q hQ => ?_)
  refine z_iconst (v := 0) dX0_answering_0 (by decide) ?_
  refine z_istore_n (i := 2) dX0_answering_1 rfl (by decide) ?_
  refine z_iconst (v := 0) dX0_answering_2 (by decide) ?_
  refine z_istore_n (i := 3) dX0_answering_3 rfl (by decide) ?_
  refine zdown (P := fun k => ZW layC mX0_answering 2 Q 4 [some (.ref dd), some (.int base), some (.int (zan (μ.1 dd 8) (μ.1 (dd + 2)) base k)), some (.int (nI k))] [] μ) ns ?_ ?_ 0 (Nat.zero_le ns)
  · refine z_iload_n dX0_answering_4 rfl ?_
    refine z_aload_n dX0_answering_5 rfl ?_
    refine z_getI dX0_answering_6 zf_X0_25 (by first | rfl | assumption) rfl ?_
    refine z_icmp_ge (tgt := 33) dX0_answering_9 (by decide) (fun _ => ?_) (fun hx_ => absurd (by rw [hn]; exact Int32.le_refl _) hx_)
    refine z_iload_n dX0_answering_33 rfl ?_
    refine z_iret dX0_answering_34 rfl ?_
    exact hQ
  · intro k hk ih
    refine z_iload_n dX0_answering_4 rfl ?_
    refine z_aload_n dX0_answering_5 rfl ?_
    refine z_getI dX0_answering_6 zf_X0_25 (by first | rfl | assumption) rfl ?_
    refine z_icmp_ge (tgt := 33) dX0_answering_9 (by decide) (fun hx_ => absurd hx_ (by rw [hn]; exact nI_ge hk (by omega))) (fun _ => ?_)
    refine z_aload_n dX0_answering_12 rfl ?_
    refine z_iload_n dX0_answering_13 rfl ?_
    refine z_iload_n dX0_answering_14 rfl ?_
    refine z_cV2r (dy := 1) dX0_answering_15 zl_X0_96 zy_X0_canAnswer (by first | rfl | assumption) rfl (by decide) (Nat.le_of_ble_eq_true rfl) (sp_canAnswer h hk base rfl) ?_
    refine z_if_eqb (tgt := 27) dX0_answering_18 (by decide) (fun hb18 => ?_) (fun hb18 => ?_)
    · refine z_iinc (v := 1) dX0_answering_27 rfl (by decide) (by decide) ?_
      refine z_goto (tgt := 4) dX0_answering_30 (by decide) ?_
      exact ZW.eq ih rfl (by simp only [zan, zfold, nI_succ]; first | (rw [if_neg hb18]; rfl) | (rw [if_pos hb18]; rfl))
    · refine z_iload_n dX0_answering_21 rfl ?_
      refine z_iconst (v := 1) dX0_answering_22 (by decide) ?_
      refine z_iload_n dX0_answering_23 rfl ?_
      refine z_ishl dX0_answering_24 ?_
      refine z_ior dX0_answering_25 ?_
      refine z_istore_n (i := 2) dX0_answering_26 rfl (by decide) ?_
      refine z_iinc (v := 1) dX0_answering_27 rfl (by decide) (by decide) ?_
      refine z_goto (tgt := 4) dX0_answering_30 (by decide) ?_
      exact ZW.eq ih rfl (by simp only [zan, zfold, nI_succ]; first | (rw [if_neg hb18]; rfl) | (rw [if_pos hb18]; rfl))
def zab (an : Nat → Int32) (set : Int32) (ns : Nat) : Int32 := zfold (fun k a => if zbt set (nI k) then a ||| an k else a) 0 ns
theorem sp_answeredBy {μ : ZMem} {dd ns : Nat} (h : zdS μ dd ns) (set : Int32) : Sp layC mX0_answeredBy 0 [.ref dd, .int set] μ (some (.int (zab (μ.1 (dd + 2)) set ns))) μ := by
  have hl0 := h.1.l0
  have hl2 := h.1.l2
  have hn := h.2.1
  have h8 := h.2.2
  refine Sp.mk (L := [some (.ref dd), some (.int set), none, none]) rfl (by decide +kernel) rfl rfl (fun Q hQ => ?_)
  refine z_iconst (v := 0) dX0_answeredBy_0 (by decide) ?_
  refine z_istore_n (i := 2) dX0_answeredBy_1 rfl (by decide) ?_
  refine z_iconst (v := 0) dX0_answeredBy_2 (by decide) ?_
  refine z_istore_n (i := 3) dX0_answeredBy_3 rfl (by decide) ?_
  refine zdown (P := fun k => ZW layC mX0_answeredBy 0 Q 4 [some (.ref dd), some (.int set), some (.int (zab (μ.1 (dd + 2)) set k)), some (.int (nI k))] [] μ) ns ?_ ?_ 0 (Nat.zero_le ns)
  · refine z_iload_n dX0_answeredBy_4 rfl ?_
    refine z_aload_n dX0_answeredBy_5 rfl ?_
    refine z_getI dX0_answeredBy_6 zf_X0_25 (by first | rfl | assumption) rfl ?_
    refine z_icmp_ge (tgt := 41) dX0_answeredBy_9 (by decide) (fun _ => ?_) (fun hx_ => absurd (by rw [hn]; exact Int32.le_refl _) hx_)
    refine z_iload_n dX0_answeredBy_41 rfl ?_
    refine z_iret dX0_answeredBy_42 rfl ?_
    exact hQ
  · intro k hk ih
    refine z_iload_n dX0_answeredBy_4 rfl ?_
    refine z_aload_n dX0_answeredBy_5 rfl ?_
    refine z_getI dX0_answeredBy_6 zf_X0_25 (by first | rfl | assumption) rfl ?_
    refine z_icmp_ge (tgt := 41) dX0_answeredBy_9 (by decide) (fun hx_ => absurd hx_ (by rw [hn]; exact nI_ge hk (by omega))) (fun _ => ?_)
    refine z_iload_n dX0_answeredBy_12 rfl ?_
    refine z_bipush (v := 8) dX0_answeredBy_13 (by decide) ?_
    refine z_icmp_ge (tgt := 41) dX0_answeredBy_15 (by decide) (fun hx_ => absurd hx_ (nI_ge (b := 8) (by omega) (by decide))) (fun _ => ?_)
    refine z_iload_n dX0_answeredBy_18 rfl ?_
    refine z_iconst (v := 1) dX0_answeredBy_19 (by decide) ?_
    refine z_iload_n dX0_answeredBy_20 rfl ?_
    refine z_ishl dX0_answeredBy_21 ?_
    refine z_iand dX0_answeredBy_22 ?_
    refine z_if_eq (tgt := 35) dX0_answeredBy_23 (by decide) (fun hb23 => ?_) (fun hb23 => ?_)
    · refine z_iinc (v := 1) dX0_answeredBy_35 rfl (by decide) (by decide) ?_
      refine z_goto (tgt := 4) dX0_answeredBy_38 (by decide) ?_
      exact ZW.eq ih rfl (by simp only [zab, zfold, nI_succ]; first | (rw [if_neg (fun q => q hb23)]; rfl) | (rw [if_pos hb23]; rfl))
    · refine z_iload_n dX0_answeredBy_26 rfl ?_
      refine z_aload_n dX0_answeredBy_27 rfl ?_
      refine z_getR dX0_answeredBy_28 zf_X0_15 (by first | rfl | assumption) rfl ?_
      refine z_iload_n dX0_answeredBy_31 rfl ?_
      refine z_iald dX0_answeredBy_32 (by first | rfl | assumption) rfl (by first | assumption | omega | decide) (by decide) ?_
      refine z_ior dX0_answeredBy_33 ?_
      refine z_istore_n (i := 2) dX0_answeredBy_34 rfl (by decide) ?_
      refine z_iinc (v := 1) dX0_answeredBy_35 rfl (by decide) (by decide) ?_
      refine z_goto (tgt := 4) dX0_answeredBy_38 (by decide) ?_
      exact ZW.eq ih rfl (by simp only [zab, zfold, nI_succ]; first | (rw [if_neg (fun q => q hb23)]; rfl) | (rw [if_pos hb23]; rfl))
/-- what can be said anew within k rounds, when the base is there -/
def zre (sa : Int32) (an : Nat → Int32) (base : Int32) (ns : Nat) : Nat → Int32
  | 0 => 0
  | k + 1 => zan sa an (base ||| zre sa an base ns k) ns
theorem zre_stay {sa : Int32} {an : Nat → Int32} {base : Int32} {ns k : Nat} (h : zre sa an base ns (k + 1) = zre sa an base ns k) : ∀ j, zre sa an base ns (k + j) = zre sa an base ns k := by
  intro j
  induction j with
  | zero => rfl
  | succ j ih =>
    show zan sa an (base ||| zre sa an base ns (k + j)) ns = _
    rw [ih]
    exact h
theorem sp_reachable {μ : ZMem} {dd ns : Nat} (h : zdS μ dd ns) (base : Int32) : Sp layC mX0_reachable 3 [.ref dd, .int base] μ (some (.int (zre (μ.1 dd 8) (μ.1 (dd + 2)) base ns 8))) μ := by
  have hl0 := h.1.l0
  refine Sp.mk (L := [some (.ref dd), some (.int base), none, none, none]) rfl (by decide +kernel) rfl rfl (fun Q hQ => ?_)
  refine z_iconst (v := 0) dX0_reachable_0 (by decide) ?_
  refine z_istore_n (i := 2) dX0_reachable_1 rfl (by decide) ?_
  refine z_iconst (v := 0) dX0_reachable_2 (by decide) ?_
  refine z_istore_n (i := 3) dX0_reachable_3 rfl (by decide) ?_
  have key : ∀ k, k ≤ 8 → ∀ z, ZW layC mX0_reachable 3 Q 4 [some (.ref dd), some (.int base), some (.int (zre (μ.1 dd 8) (μ.1 (dd + 2)) base ns k)), some (.int (nI k)), z] [] μ := by
    refine zdown 8 ?_ ?_
    · intro z
      refine z_iload_n dX0_reachable_4 rfl ?_
      refine z_bipush (v := 8) dX0_reachable_5 (by decide) ?_
      refine z_icmp_ge (tgt := 36) dX0_reachable_7 (by decide) (fun _ => ?_) (fun hx_ => absurd (by decide) hx_)
      refine z_iload_n dX0_reachable_36 rfl ?_
      refine z_iret dX0_reachable_37 rfl ?_
      exact hQ
    · intro k hk ih z
      refine z_iload_n dX0_reachable_4 rfl ?_
      refine z_bipush (v := 8) dX0_reachable_5 (by decide) ?_
      refine z_icmp_ge (tgt := 36) dX0_reachable_7 (by decide) (fun hx_ => absurd hx_ (nI_ge (b := 8) (by omega) (by decide))) (fun _ => ?_)
      refine z_aload_n dX0_reachable_10 rfl ?_
      refine z_iload_n dX0_reachable_11 rfl ?_
      refine z_iload_n dX0_reachable_12 rfl ?_
      refine z_ior dX0_reachable_13 ?_
      refine z_cV1r (dy := 2) dX0_reachable_14 zl_X0_99 zy_X0_answering (by first | rfl | assumption) rfl (by decide) (Nat.le_of_ble_eq_true rfl) (sp_answering h _) ?_
      refine z_istore dX0_reachable_17 (by decide) ?_
      refine z_iload dX0_reachable_19 rfl ?_
      refine z_iload_n dX0_reachable_21 rfl ?_
      refine z_icmp_ne (tgt := 27) dX0_reachable_22 (by decide) (fun hb22 => ?_) (fun hb22 => ?_)
      · refine z_iload dX0_reachable_27 rfl ?_
        refine z_istore_n (i := 2) dX0_reachable_29 rfl (by decide) ?_
        refine z_iinc (v := 1) dX0_reachable_30 rfl (by decide) (by decide) ?_
        refine z_goto (tgt := 4) dX0_reachable_33 (by decide) ?_
        exact ZW.eq (ih _) rfl (by simp only [zre, nI_succ]; rfl)
      · refine z_iload_n dX0_reachable_25 rfl ?_
        refine z_iret dX0_reachable_26 rfl ?_
        have e8 := zre_stay hb22 (8 - k)
        rw [show k + (8 - k) = 8 by omega] at e8
        rw [e8] at hQ
        exact hQ
  exact key 0 (by omega) none
theorem sp_canFollow {μ : ZMem} {dd ns j : Nat} (h : zdS μ dd ns) (hj : j < ns) (ahead : Int32) {i : Int32} (hi : i = nI j) : Sp layC mX0_canFollow 2 [.ref dd, .int i, .int ahead] μ (some (.int (if zbt (μ.1 dd 7) (nI j) ∨ (zbt (μ.1 dd 8) (nI j) ∧ ¬ μ.1 (dd + 2) j &&& ahead = 0) then 1 else 0))) μ := by
  have hl0 := h.1.l0
  subst hi
  refine Sp.mk (L := [some (.ref dd), some (.int (nI j)), some (.int ahead)]) rfl (by decide +kernel) rfl rfl (fun Q hQ => ?_)
  refine z_aload_n dX0_canFollow_0 rfl ?_
  refine z_iload_n dX0_canFollow_1 rfl ?_
  refine z_cV1r (dy := 0) dX0_canFollow_2 zl_X0_102 zy_X0_isSound (by first | rfl | assumption) rfl (by decide) (Nat.le_of_ble_eq_true rfl) (sp_isSound h.1 (nI j)) ?_
  refine z_if_neb (tgt := 17) dX0_canFollow_5 (by decide) (fun hb5 => ?_) (fun hb5 => ?_)
  · refine z_iconst (v := 1) dX0_canFollow_17 (by decide) ?_
    refine z_goto (tgt := 22) dX0_canFollow_18 (by decide) ?_
    refine z_zret dX0_canFollow_22 rfl (by decide) ?_
    first | (rw [if_pos (Or.inl hb5)] at hQ; exact hQ) | (rw [if_pos (Or.inr hb14)] at hQ; exact hQ) | (rw [if_neg (fun q => q.elim hb5 hb14)] at hQ; exact hQ)
  · refine z_aload_n dX0_canFollow_8 rfl ?_
    refine z_iload_n dX0_canFollow_9 rfl ?_
    refine z_iload_n dX0_canFollow_10 rfl ?_
    refine z_cV2r (dy := 1) dX0_canFollow_11 zl_X0_96 zy_X0_canAnswer (by first | rfl | assumption) rfl (by decide) (Nat.le_of_ble_eq_true rfl) (sp_canAnswer h hj ahead rfl) ?_
    refine z_if_eqb (tgt := 21) dX0_canFollow_14 (by decide) (fun hb14 => ?_) (fun hb14 => ?_)
    · refine z_iconst (v := 0) dX0_canFollow_21 (by decide) ?_
      refine z_zret dX0_canFollow_22 rfl (by decide) ?_
      first | (rw [if_pos (Or.inl hb5)] at hQ; exact hQ) | (rw [if_pos (Or.inr hb14)] at hQ; exact hQ) | (rw [if_neg (fun q => q.elim hb5 hb14)] at hQ; exact hQ)
    · refine z_iconst (v := 1) dX0_canFollow_17 (by decide) ?_
      refine z_goto (tgt := 22) dX0_canFollow_18 (by decide) ?_
      refine z_zret dX0_canFollow_22 rfl (by decide) ?_
      first | (rw [if_pos (Or.inl hb5)] at hQ; exact hQ) | (rw [if_pos (Or.inr hb14)] at hQ; exact hQ) | (rw [if_neg (fun q => q.elim hb5 hb14)] at hQ; exact hQ)

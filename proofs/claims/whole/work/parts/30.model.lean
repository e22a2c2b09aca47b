/-! ===== the reference: what only looks ===== -/
def zsM (μ : ZMem) (ns : Nat) : Prop := μ.1 2 0 = nI ns ∧ ns ≤ 8
def zpM (μ : ZMem) (np : Nat) : Prop := μ.1 6 0 = nI np ∧ np ≤ 5
def znM (μ : ZMem) (n : Nat) : Prop := μ.1 9 120 = nI n ∧ n ≤ 30
theorem sp_in {lay : List ZE} {μ : ZMem} (v lo hi : Int32) : Sp lay mX4_in 0 [.int v, .int lo, .int hi] μ (some (.int (if ¬ v < lo ∧ ¬ hi < v then 1 else 0))) μ := by
  refine Sp.mk (L := [some (.int v), some (.int lo), some (.int hi)]) rfl (by decide +kernel) rfl rfl (fun Q hQ => ?_)
  refine z_iload_n dX4_in_0 rfl ?_
  refine z_iload_n dX4_in_1 rfl ?_
  refine z_icmp_lt (tgt := 14) dX4_in_2 (by decide) (fun hb2 => ?_) (fun hb2 => ?_)
  · refine z_iconst (v := 0) dX4_in_14 (by decide) ?_
    refine z_zret dX4_in_15 rfl (by decide) ?_
    first | (refine zq hQ ?_; simp [hb2, hb7]; done) | (refine zq hQ ?_; simp [hb2]; done)
  · refine z_iload_n dX4_in_5 rfl ?_
    refine z_iload_n dX4_in_6 rfl ?_
    refine z_icmp_gt (tgt := 14) dX4_in_7 (by decide) (fun hb7 => ?_) (fun hb7 => ?_)
    · refine z_iconst (v := 0) dX4_in_14 (by decide) ?_
      refine z_zret dX4_in_15 rfl (by decide) ?_
      first | (refine zq hQ ?_; simp [hb2, hb7]; done) | (refine zq hQ ?_; simp [hb2]; done)
    · refine z_iconst (v := 1) dX4_in_10 (by decide) ?_
      refine z_goto (tgt := 15) dX4_in_11 (by decide) ?_
      refine z_zret dX4_in_15 rfl (by decide) ?_
      first | (refine zq hQ ?_; simp [hb2, hb7]; done) | (refine zq hQ ?_; simp [hb2]; done)
theorem sp_in_t {lay : List ZE} {μ : ZMem} {v lo hi : Int32} (h1 : ¬ v < lo) (h2 : ¬ hi < v) : Sp lay mX4_in 0 [.int v, .int lo, .int hi] μ (some (.int 1)) μ :=
  Sp.eq (sp_in v lo hi) (by rw [if_pos ⟨h1, h2⟩]) rfl
theorem sp_in_f {lay : List ZE} {μ : ZMem} {v lo hi : Int32} (h : v < lo ∨ hi < v) : Sp lay mX4_in 0 [.int v, .int lo, .int hi] μ (some (.int 0)) μ :=
  Sp.eq (sp_in v lo hi) (by rw [if_neg (fun q => h.elim q.1 q.2)]) rfl
theorem sp_isSaying_t {μ : ZMem} {ns j : Nat} (h : zsM μ ns) (hj : j < ns) {i : Int32} (hi : i = nI j) : Sp layM mX4_isSaying 1 [.ref 0, .int i] μ (some (.int 1)) μ := by
  have h8 := h.2
  subst hi
  refine Sp.mk (L := [some (.ref 0), some (.int (nI j))]) rfl (by decide +kernel) rfl rfl (fun Q hQ => ?_)
  refine z_iload_n dX4_isSaying_0 rfl ?_
  refine z_iconst (v := 0) dX4_isSaying_1 (by decide) ?_
  refine z_aload_n dX4_isSaying_2 rfl ?_
  refine z_getR dX4_isSaying_3 zf_X4_13 (by first | rfl | assumption) rfl ?_
  refine z_iconst (v := 0) dX4_isSaying_6 (by decide) ?_
  refine z_iald dX4_isSaying_7 (by first | rfl | assumption) rfl (by first | assumption | omega | decide) (by decide) ?_
  refine z_iconst (v := 1) dX4_isSaying_8 (by decide) ?_
  refine z_isub dX4_isSaying_9 ?_
  refine z_cS3r (dy := 0) dX4_isSaying_10 zl_X4_57 zy_X4_in (by decide) (Nat.le_of_ble_eq_true rfl) (sp_in_t (nI_pos (by omega)) (by rw [h.1]; exact zpred_nlt (by omega) hj)) ?_
  refine z_zret dX4_isSaying_13 rfl (by decide) ?_
  exact hQ
theorem sp_isSaying_f {μ : ZMem} {ns : Nat} (h : zsM μ ns) {i : Int32} (hi : i < 0 ∨ nI ns ≤ i) : Sp layM mX4_isSaying 1 [.ref 0, .int i] μ (some (.int 0)) μ := by
  have h8 := h.2
  refine Sp.mk (L := [some (.ref 0), some (.int i)]) rfl (by decide +kernel) rfl rfl (fun Q hQ => ?_)
  refine z_iload_n dX4_isSaying_0 rfl ?_
  refine z_iconst (v := 0) dX4_isSaying_1 (by decide) ?_
  refine z_aload_n dX4_isSaying_2 rfl ?_
  refine z_getR dX4_isSaying_3 zf_X4_13 (by first | rfl | assumption) rfl ?_
  refine z_iconst (v := 0) dX4_isSaying_6 (by decide) ?_
  refine z_iald dX4_isSaying_7 (by first | rfl | assumption) rfl (by first | assumption | omega | decide) (by decide) ?_
  refine z_iconst (v := 1) dX4_isSaying_8 (by decide) ?_
  refine z_isub dX4_isSaying_9 ?_
  refine z_cS3r (dy := 0) dX4_isSaying_10 zl_X4_57 zy_X4_in (by decide) (Nat.le_of_ble_eq_true rfl) (sp_in_f (hi.imp id (fun q => by rw [h.1]; exact zpred_lt (by omega) q))) ?_
  refine z_zret dX4_isSaying_13 rfl (by decide) ?_
  exact hQ
theorem sp_isPerson_t {μ : ZMem} {np j : Nat} (h : zpM μ np) (hj : j < np) {i : Int32} (hi : i = nI j) : Sp layM mX4_isPerson 1 [.ref 0, .int i] μ (some (.int 1)) μ := by
  have h8 := h.2
  subst hi
  refine Sp.mk (L := [some (.ref 0), some (.int (nI j))]) rfl (by decide +kernel) rfl rfl (fun Q hQ => ?_)
  refine z_iload_n dX4_isPerson_0 rfl ?_
  refine z_iconst (v := 0) dX4_isPerson_1 (by decide) ?_
  refine z_aload_n dX4_isPerson_2 rfl ?_
  refine z_getR dX4_isPerson_3 zf_X4_26 (by first | rfl | assumption) rfl ?_
  refine z_iconst (v := 0) dX4_isPerson_6 (by decide) ?_
  refine z_iald dX4_isPerson_7 (by first | rfl | assumption) rfl (by first | assumption | omega | decide) (by decide) ?_
  refine z_iconst (v := 1) dX4_isPerson_8 (by decide) ?_
  refine z_isub dX4_isPerson_9 ?_
  refine z_cS3r (dy := 0) dX4_isPerson_10 zl_X4_57 zy_X4_in (by decide) (Nat.le_of_ble_eq_true rfl) (sp_in_t (nI_pos (by omega)) (by rw [h.1]; exact zpred_nlt (by omega) hj)) ?_
  refine z_zret dX4_isPerson_13 rfl (by decide) ?_
  exact hQ
theorem sp_isPerson_f {μ : ZMem} {np : Nat} (h : zpM μ np) {i : Int32} (hi : i < 0 ∨ nI np ≤ i) : Sp layM mX4_isPerson 1 [.ref 0, .int i] μ (some (.int 0)) μ := by
  have h8 := h.2
  refine Sp.mk (L := [some (.ref 0), some (.int i)]) rfl (by decide +kernel) rfl rfl (fun Q hQ => ?_)
  refine z_iload_n dX4_isPerson_0 rfl ?_
  refine z_iconst (v := 0) dX4_isPerson_1 (by decide) ?_
  refine z_aload_n dX4_isPerson_2 rfl ?_
  refine z_getR dX4_isPerson_3 zf_X4_26 (by first | rfl | assumption) rfl ?_
  refine z_iconst (v := 0) dX4_isPerson_6 (by decide) ?_
  refine z_iald dX4_isPerson_7 (by first | rfl | assumption) rfl (by first | assumption | omega | decide) (by decide) ?_
  refine z_iconst (v := 1) dX4_isPerson_8 (by decide) ?_
  refine z_isub dX4_isPerson_9 ?_
  refine z_cS3r (dy := 0) dX4_isPerson_10 zl_X4_57 zy_X4_in (by decide) (Nat.le_of_ble_eq_true rfl) (sp_in_f (hi.imp id (fun q => by rw [h.1]; exact zpred_lt (by omega) q))) ?_
  refine z_zret dX4_isPerson_13 rfl (by decide) ?_
  exact hQ
theorem sp_isSoundM {μ : ZMem} {j : Nat} (hj : j < 32) : Sp layM mX4_isSound 0 [.ref 0, .int (nI j)] μ (some (.int (if zbt (μ.1 5 0) (nI j) then 1 else 0))) μ := by
  refine Sp.mk (L := [some (.ref 0), some (.int (nI j))]) rfl (by decide +kernel) rfl rfl (fun Q hQ => ?_)
  refine z_aload_n dX4_isSound_0 rfl ?_
  refine z_getR dX4_isSound_1 zf_X4_23 (by first | rfl | assumption) rfl ?_
  refine z_iconst (v := 0) dX4_isSound_4 (by decide) ?_
  refine z_iald dX4_isSound_5 (by first | rfl | assumption) rfl (by first | assumption | omega | decide) (by decide) ?_
  refine z_iload_n dX4_isSound_6 rfl ?_
  refine z_ishr dX4_isSound_7 ?_
  refine z_iconst (v := 1) dX4_isSound_8 (by decide) ?_
  refine z_iand dX4_isSound_9 ?_
  refine z_iconst (v := 1) dX4_isSound_10 (by decide) ?_
  refine z_icmp_ne (tgt := 18) dX4_isSound_11 (by decide) (fun hb11 => ?_) (fun hb11 => ?_)
  · refine z_iconst (v := 0) dX4_isSound_18 (by decide) ?_
    refine z_zret dX4_isSound_19 rfl (by decide) ?_
    first | (refine zq hQ ?_; rw [if_pos ((zk1 hj).mp hb11)]; done) | (refine zq hQ ?_; rw [if_neg (fun q => hb11 ((zk1 hj).mpr q))]; done)
  · refine z_iconst (v := 1) dX4_isSound_14 (by decide) ?_
    refine z_goto (tgt := 19) dX4_isSound_15 (by decide) ?_
    refine z_zret dX4_isSound_19 rfl (by decide) ?_
    first | (refine zq hQ ?_; rw [if_pos ((zk1 hj).mp hb11)]; done) | (refine zq hQ ?_; rw [if_neg (fun q => hb11 ((zk1 hj).mpr q))]; done)
/-- how many of the eight lowest bits -/
def zmany (x : Int32) : Int32 := zfold (fun k a => a + ((x >>> (nI k &&& 31)) &&& 1)) 0 8
theorem sp_manyOf {lay : List ZE} {μ : ZMem} (x : Int32) : Sp lay mX4_manyOf 0 [.int x] μ (some (.int (zmany x))) μ := by
  refine Sp.mk (L := [some (.int x), none, none]) rfl (by decide +kernel) rfl rfl (fun Q hQ => ?_)
  refine z_iconst (v := 0) dX4_manyOf_0 (by decide) ?_
  refine z_istore_n (i := 1) dX4_manyOf_1 rfl (by decide) ?_
  refine z_iconst (v := 0) dX4_manyOf_2 (by decide) ?_
  refine z_istore_n (i := 2) dX4_manyOf_3 rfl (by decide) ?_
  refine zdown (P := fun k => ZW lay mX4_manyOf 0 Q 4 [some (.int x), some (.int (zfold (fun k a => a + ((x >>> (nI k &&& 31)) &&& 1)) 0 k)), some (.int (nI k))] [] μ) 8 ?_ ?_ 0 (Nat.zero_le _)
  · refine z_iload_n dX4_manyOf_4 rfl ?_
    refine z_bipush (v := 8) dX4_manyOf_5 (by decide) ?_
    refine z_icmp_ge (tgt := 24) dX4_manyOf_7 (by decide) (fun _ => ?_) (fun hx_ => absurd (by decide) hx_)
    refine z_iload_n dX4_manyOf_24 rfl ?_
    refine z_iret dX4_manyOf_25 rfl ?_
    exact hQ
  · intro k hk ih
    refine z_iload_n dX4_manyOf_4 rfl ?_
    refine z_bipush (v := 8) dX4_manyOf_5 (by decide) ?_
    refine z_icmp_ge (tgt := 24) dX4_manyOf_7 (by decide) (fun hx_ => absurd hx_ (nI_ge (b := 8) (by omega) (by decide))) (fun _ => ?_)
    refine z_iload_n dX4_manyOf_10 rfl ?_
    refine z_iload_n dX4_manyOf_11 rfl ?_
    refine z_iload_n dX4_manyOf_12 rfl ?_
    refine z_ishr dX4_manyOf_13 ?_
    refine z_iconst (v := 1) dX4_manyOf_14 (by decide) ?_
    refine z_iand dX4_manyOf_15 ?_
    refine z_iadd dX4_manyOf_16 ?_
    refine z_istore_n (i := 1) dX4_manyOf_17 rfl (by decide) ?_
    refine z_iinc (v := 1) dX4_manyOf_18 rfl (by decide) (by decide) ?_
    refine z_goto (tgt := 4) dX4_manyOf_21 (by decide) ?_
    exact ZW.eq ih rfl (by rw [nI_succ k]; rfl)
theorem sp_isThereM {μ : ZMem} {n k : Nat} (h : znM μ n) (hk : k < n) (hr : Int32) : Sp layM mX4_isThere 0 [.ref 0, .int (nI k), .int hr] μ (some (.int (if hr - μ.1 9 (30 + k) ≤ μ.1 8 0 then 1 else 0))) μ := by
  have h30 := h.2
  refine Sp.mk (L := [some (.ref 0), some (.int (nI k)), some (.int hr)]) rfl (by decide +kernel) rfl rfl (fun Q hQ => ?_)
  refine z_iload_n dX4_isThere_0 rfl ?_
  refine z_aload_n dX4_isThere_1 rfl ?_
  refine z_getR dX4_isThere_2 zf_X4_35 (by first | rfl | assumption) rfl ?_
  refine z_bipush (v := 30) dX4_isThere_5 (by decide) ?_
  refine z_iload_n dX4_isThere_7 rfl ?_
  refine z_iadd dX4_isThere_8 ?_
  refine z_iald dX4_isThere_9 (by first | rfl | assumption) (zix 30 k rfl) (by omega) (by decide) ?_
  refine z_isub dX4_isThere_10 ?_
  refine z_aload_n dX4_isThere_11 rfl ?_
  refine z_getR dX4_isThere_12 zf_X4_32 (by first | rfl | assumption) rfl ?_
  refine z_iconst (v := 0) dX4_isThere_15 (by decide) ?_
  refine z_iald dX4_isThere_16 (by first | rfl | assumption) rfl (by first | assumption | omega | decide) (by decide) ?_
  refine z_icmp_gt (tgt := 24) dX4_isThere_17 (by decide) (fun hb17 => ?_) (fun hb17 => ?_)
  · refine z_iconst (v := 0) dX4_isThere_24 (by decide) ?_
    refine z_zret dX4_isThere_25 rfl (by decide) ?_
    first | (rw [if_neg (Int32.not_le.mpr hb17)] at hQ; exact hQ) | (rw [if_pos (Int32.not_lt.mp hb17)] at hQ; exact hQ)
  · refine z_iconst (v := 1) dX4_isThere_20 (by decide) ?_
    refine z_goto (tgt := 25) dX4_isThere_21 (by decide) ?_
    refine z_zret dX4_isThere_25 rfl (by decide) ?_
    first | (rw [if_neg (Int32.not_le.mpr hb17)] at hQ; exact hQ) | (rw [if_pos (Int32.not_lt.mp hb17)] at hQ; exact hQ)
theorem sp_thereM {μ : ZMem} {n : Nat} (h : znM μ n) (hr : Int32) : Sp layM mX4_there 1 [.ref 0, .int hr] μ (some (.int (zthere (μ.1 9) (fun k => μ.1 9 (30 + k)) hr (μ.1 8 0) n))) μ := by
  have hn := h.1
  have h30 := h.2
  refine Sp.mk (L := [some (.ref 0), some (.int hr), none, none]) rfl (by decide +kernel) rfl rfl (fun Q hQ => ?_)
  refine z_iconst (v := 0) dX4_there_0 (by decide) ?_
  refine z_istore_n (i := 2) dX4_there_1 rfl (by decide) ?_
  refine z_iconst (v := 0) dX4_there_2 (by decide) ?_
  refine z_istore_n (i := 3) dX4_there_3 rfl (by decide) ?_
  refine zdown (P := fun k => ZW layM mX4_there 1 Q 4 [some (.ref 0), some (.int hr), some (.int (zthere (μ.1 9) (fun k => μ.1 9 (30 + k)) hr (μ.1 8 0) k)), some (.int (nI k))] [] μ) n ?_ ?_ 0 (Nat.zero_le n)
  · refine z_iload_n dX4_there_4 rfl ?_
    refine z_aload_n dX4_there_5 rfl ?_
    refine z_getR dX4_there_6 zf_X4_35 (by first | rfl | assumption) rfl ?_
    refine z_bipush (v := 120) dX4_there_9 (by decide) ?_
    refine z_iald dX4_there_11 (by first | rfl | assumption) rfl (by first | assumption | omega | decide) (by decide) ?_
    refine z_icmp_ge (tgt := 47) dX4_there_12 (by decide) (fun _ => ?_) (fun hx_ => absurd (by rw [hn]; exact Int32.le_refl _) hx_)
    refine z_iload_n dX4_there_47 rfl ?_
    refine z_iret dX4_there_48 rfl ?_
    exact hQ
  · intro k hk ih
    refine z_iload_n dX4_there_4 rfl ?_
    refine z_aload_n dX4_there_5 rfl ?_
    refine z_getR dX4_there_6 zf_X4_35 (by first | rfl | assumption) rfl ?_
    refine z_bipush (v := 120) dX4_there_9 (by decide) ?_
    refine z_iald dX4_there_11 (by first | rfl | assumption) rfl (by first | assumption | omega | decide) (by decide) ?_
    refine z_icmp_ge (tgt := 47) dX4_there_12 (by decide) (fun hx_ => absurd hx_ (by rw [hn]; exact nI_ge hk (by omega))) (fun _ => ?_)
    refine z_iload_n dX4_there_15 rfl ?_
    refine z_aload_n dX4_there_16 rfl ?_
    refine z_iload_n dX4_there_17 rfl ?_
    refine z_iload_n dX4_there_18 rfl ?_
    refine z_cV2r (dy := 0) dX4_there_19 zl_X4_113 zy_X4_isThere (by first | rfl | assumption) rfl (by decide) (Nat.le_of_ble_eq_true rfl) (sp_isThereM h hk hr) ?_
    refine z_if_eqb (tgt := 38) dX4_there_22 (by decide) (fun hb22 => ?_) (fun hb22 => ?_)
    · refine z_iconst (v := 0) dX4_there_38 (by decide) ?_
      refine z_ior dX4_there_39 ?_
      refine z_istore_n (i := 2) dX4_there_40 rfl (by decide) ?_
      refine z_iinc (v := 1) dX4_there_41 rfl (by decide) (by decide) ?_
      refine z_goto (tgt := 4) dX4_there_44 (by decide) ?_
      exact ZW.eq ih rfl (by simp [zthere, zfold, nI_succ, hb22])
    · refine z_iconst (v := 1) dX4_there_25 (by decide) ?_
      refine z_aload_n dX4_there_26 rfl ?_
      refine z_getR dX4_there_27 zf_X4_35 (by first | rfl | assumption) rfl ?_
      refine z_iconst (v := 0) dX4_there_30 (by decide) ?_
      refine z_iload_n dX4_there_31 rfl ?_
      refine z_iadd dX4_there_32 ?_
      refine z_iald dX4_there_33 (by first | rfl | assumption) (zix0 k) (by omega) (by decide) ?_
      refine z_ishl dX4_there_34 ?_
      refine z_goto (tgt := 39) dX4_there_35 (by decide) ?_
      refine z_ior dX4_there_39 ?_
      refine z_istore_n (i := 2) dX4_there_40 rfl (by decide) ?_
      refine z_iinc (v := 1) dX4_there_41 rfl (by decide) (by decide) ?_
      refine z_goto (tgt := 4) dX4_there_44 (by decide) ?_
      exact ZW.eq ih rfl (by simp [zthere, zfold, nI_succ, hb22])
theorem sp_knownBy {μ : ZMem} {np j : Nat} (h : zpM μ np) (hj : j < 32) : Sp layM mX4_knownBy 0 [.ref 0, .int (nI j)] μ (some (.int (zkn (μ.1 7) (nI j) np))) μ := by
  have hn := h.1
  have h5 := h.2
  refine Sp.mk (L := [some (.ref 0), some (.int (nI j)), none, none]) rfl (by decide +kernel) rfl rfl (fun Q hQ => ?_)
  refine z_iconst (v := 0) dX4_knownBy_0 (by decide) ?_
  refine z_istore_n (i := 2) dX4_knownBy_1 rfl (by decide) ?_
  refine z_iconst (v := 0) dX4_knownBy_2 (by decide) ?_
  refine z_istore_n (i := 3) dX4_knownBy_3 rfl (by decide) ?_
  refine zdown (P := fun k => ZW layM mX4_knownBy 0 Q 4 [some (.ref 0), some (.int (nI j)), some (.int (zkn (μ.1 7) (nI j) k)), some (.int (nI k))] [] μ) np ?_ ?_ 0 (Nat.zero_le np)
  · refine z_iload_n dX4_knownBy_4 rfl ?_
    refine z_aload_n dX4_knownBy_5 rfl ?_
    refine z_getR dX4_knownBy_6 zf_X4_26 (by first | rfl | assumption) rfl ?_
    refine z_iconst (v := 0) dX4_knownBy_9 (by decide) ?_
    refine z_iald dX4_knownBy_10 (by first | rfl | assumption) rfl (by first | assumption | omega | decide) (by decide) ?_
    refine z_icmp_ge (tgt := 35) dX4_knownBy_11 (by decide) (fun _ => ?_) (fun hx_ => absurd (by rw [hn]; exact Int32.le_refl _) hx_)
    refine z_iload_n dX4_knownBy_35 rfl ?_
    refine z_iret dX4_knownBy_36 rfl ?_
    exact hQ
  · intro k hk ih
    refine z_iload_n dX4_knownBy_4 rfl ?_
    refine z_aload_n dX4_knownBy_5 rfl ?_
    refine z_getR dX4_knownBy_6 zf_X4_26 (by first | rfl | assumption) rfl ?_
    refine z_iconst (v := 0) dX4_knownBy_9 (by decide) ?_
    refine z_iald dX4_knownBy_10 (by first | rfl | assumption) rfl (by first | assumption | omega | decide) (by decide) ?_
    refine z_icmp_ge (tgt := 35) dX4_knownBy_11 (by decide) (fun hx_ => absurd hx_ (by rw [hn]; exact nI_ge hk (by omega))) (fun _ => ?_)
    refine z_iload_n dX4_knownBy_14 rfl ?_
    refine z_aload_n dX4_knownBy_15 rfl ?_
    refine z_getR dX4_knownBy_16 zf_X4_29 (by first | rfl | assumption) rfl ?_
    refine z_iload_n dX4_knownBy_19 rfl ?_
    refine z_iald dX4_knownBy_20 (by first | rfl | assumption) rfl (show k < 10 by omega) (by decide) ?_
    refine z_iload_n dX4_knownBy_21 rfl ?_
    refine z_ishr dX4_knownBy_22 ?_
    refine z_iconst (v := 1) dX4_knownBy_23 (by decide) ?_
    refine z_iand dX4_knownBy_24 ?_
    rw [zkbit hj]
    refine z_iload_n dX4_knownBy_25 rfl ?_
    refine z_ishl dX4_knownBy_26 ?_
    refine z_ior dX4_knownBy_27 ?_
    refine z_istore_n (i := 2) dX4_knownBy_28 rfl (by decide) ?_
    refine z_iinc (v := 1) dX4_knownBy_29 rfl (by decide) (by decide) ?_
    refine z_goto (tgt := 4) dX4_knownBy_32 (by decide) ?_
    refine ZW.eq ih rfl ?_
    have e : zkn (μ.1 7) (nI j) (k + 1) = if zbt (μ.1 7 k) (nI j) then zkn (μ.1 7) (nI j) k ||| (1 <<< (nI k &&& 31)) else zkn (μ.1 7) (nI j) k := rfl
    rw [e]
    by_cases hz : zbt (μ.1 7 k) (nI j)
    · rw [if_pos hz, if_pos hz, nI_succ k]; rfl
    · rw [if_neg hz, if_neg hz, nI_succ k, show (0 : Int32) <<< (nI k &&& 31) = 0 by apply b_ext; intro i hi; rw [b_shl k (by omega) 0 hi, b_0, b_0]; simp, Int32.or_zero]; rfl
theorem sp_oftenOf {μ : ZMem} {n : Nat} (h : znM μ n) (w : Int32) : Sp layM mX4_oftenOf 0 [.ref 0, .int w] μ (some (.int (zfold (fun k a => if μ.1 9 k = w then a + 1 else a) 0 n))) μ := by
  have hn := h.1
  have h30 := h.2
  refine Sp.mk (L := [some (.ref 0), some (.int w), none, none]) rfl (by decide +kernel) rfl rfl (fun Q hQ => ?_)
  refine z_iconst (v := 0) dX4_oftenOf_0 (by decide) ?_
  refine z_istore_n (i := 2) dX4_oftenOf_1 rfl (by decide) ?_
  refine z_iconst (v := 0) dX4_oftenOf_2 (by decide) ?_
  refine z_istore_n (i := 3) dX4_oftenOf_3 rfl (by decide) ?_
  refine zdown (P := fun k => ZW layM mX4_oftenOf 0 Q 4 [some (.ref 0), some (.int w), some (.int (zfold (fun k a => if μ.1 9 k = w then a + 1 else a) 0 k)), some (.int (nI k))] [] μ) n ?_ ?_ 0 (Nat.zero_le n)
  · refine z_iload_n dX4_oftenOf_4 rfl ?_
    refine z_aload_n dX4_oftenOf_5 rfl ?_
    refine z_getR dX4_oftenOf_6 zf_X4_35 (by first | rfl | assumption) rfl ?_
    refine z_bipush (v := 120) dX4_oftenOf_9 (by decide) ?_
    refine z_iald dX4_oftenOf_11 (by first | rfl | assumption) rfl (by first | assumption | omega | decide) (by decide) ?_
    refine z_icmp_ge (tgt := 41) dX4_oftenOf_12 (by decide) (fun _ => ?_) (fun hx_ => absurd (by rw [hn]; exact Int32.le_refl _) hx_)
    refine z_iload_n dX4_oftenOf_41 rfl ?_
    refine z_iret dX4_oftenOf_42 rfl ?_
    exact hQ
  · intro k hk ih
    refine z_iload_n dX4_oftenOf_4 rfl ?_
    refine z_aload_n dX4_oftenOf_5 rfl ?_
    refine z_getR dX4_oftenOf_6 zf_X4_35 (by first | rfl | assumption) rfl ?_
    refine z_bipush (v := 120) dX4_oftenOf_9 (by decide) ?_
    refine z_iald dX4_oftenOf_11 (by first | rfl | assumption) rfl (by first | assumption | omega | decide) (by decide) ?_
    refine z_icmp_ge (tgt := 41) dX4_oftenOf_12 (by decide) (fun hx_ => absurd hx_ (by rw [hn]; exact nI_ge hk (by omega))) (fun _ => ?_)
    refine z_iload_n dX4_oftenOf_15 rfl ?_
    refine z_aload_n dX4_oftenOf_16 rfl ?_
    refine z_getR dX4_oftenOf_17 zf_X4_35 (by first | rfl | assumption) rfl ?_
    refine z_iconst (v := 0) dX4_oftenOf_20 (by decide) ?_
    refine z_iload_n dX4_oftenOf_21 rfl ?_
    refine z_iadd dX4_oftenOf_22 ?_
    refine z_iald dX4_oftenOf_23 (by first | rfl | assumption) (zix0 k) (by omega) (by decide) ?_
    refine z_iload_n dX4_oftenOf_24 rfl ?_
    refine z_icmp_ne (tgt := 32) dX4_oftenOf_25 (by decide) (fun hb25 => ?_) (fun hb25 => ?_)
    · refine z_iconst (v := 0) dX4_oftenOf_32 (by decide) ?_
      refine z_iadd dX4_oftenOf_33 ?_
      refine z_istore_n (i := 2) dX4_oftenOf_34 rfl (by decide) ?_
      refine z_iinc (v := 1) dX4_oftenOf_35 rfl (by decide) (by decide) ?_
      refine z_goto (tgt := 4) dX4_oftenOf_38 (by decide) ?_
      exact ZW.eq ih rfl (by simp [zfold, nI_succ, hb25])
    · refine z_iconst (v := 1) dX4_oftenOf_28 (by decide) ?_
      refine z_goto (tgt := 33) dX4_oftenOf_29 (by decide) ?_
      refine z_iadd dX4_oftenOf_33 ?_
      refine z_istore_n (i := 2) dX4_oftenOf_34 rfl (by decide) ?_
      refine z_iinc (v := 1) dX4_oftenOf_35 rfl (by decide) (by decide) ?_
      refine z_goto (tgt := 4) dX4_oftenOf_38 (by decide) ?_
      exact ZW.eq ih rfl (by simp [zfold, nI_succ, hb25])
/-- what a person may say when the set is there -/
def zmay (kp sn : Int32) (an : Nat → Int32) (set : Int32) (ns : Nat) : Int32 := zfold (fun k a => if zbt kp (nI k) ∧ ¬ zbt sn (nI k) ∧ ¬ an k &&& set = 0 then a ||| (1 <<< (nI k &&& 31)) else a) 0 ns
theorem sp_mayOf {μ : ZMem} {ns p : Nat} (h : zsM μ ns) (hp : p < 10) (set : Int32) : Sp layM mX4_mayOf 1 [.ref 0, .int (nI p), .int set] μ (some (.int (zmay (μ.1 7 p) (μ.1 5 0) (μ.1 4) set ns))) μ := by
  have hn := h.1
  have h8 := h.2
  refine Sp.mk (L := [some (.ref 0), some (.int (nI p)), some (.int set), none, none]) rfl (by decide +kernel) rfl rfl (fun Q hQ => ?_)
  refine z_iconst (v := 0) dX4_mayOf_0 (by decide) ?_
  refine z_istore_n (i := 3) dX4_mayOf_1 rfl (by decide) ?_
  refine z_iconst (v := 0) dX4_mayOf_2 (by decide) ?_
  refine z_istore dX4_mayOf_3 (by decide) ?_
  refine zdown (P := fun k => ZW layM mX4_mayOf 1 Q 5 [some (.ref 0), some (.int (nI p)), some (.int set), some (.int (zmay (μ.1 7 p) (μ.1 5 0) (μ.1 4) set k)), some (.int (nI k))] [] μ) ns ?_ ?_ 0 (Nat.zero_le _)
  · refine z_iload dX4_mayOf_5 rfl ?_
    refine z_aload_n dX4_mayOf_7 rfl ?_
    refine z_getR dX4_mayOf_8 zf_X4_13 (by first | rfl | assumption) rfl ?_
    refine z_iconst (v := 0) dX4_mayOf_11 (by decide) ?_
    refine z_iald dX4_mayOf_12 (by first | rfl | assumption) rfl (by first | assumption | omega | decide) (by decide) ?_
    refine z_icmp_ge (tgt := 69) dX4_mayOf_13 (by decide) (fun _ => ?_) (fun hx_ => absurd (by rw [hn]; exact Int32.le_refl _) hx_)
    refine z_iload_n dX4_mayOf_69 rfl ?_
    refine z_iret dX4_mayOf_70 rfl ?_
    exact hQ
  · intro k hk ih
    have k1 := zk1 (x := μ.1 7 p) (j := k) (by omega)
    refine z_iload dX4_mayOf_5 rfl ?_
    refine z_aload_n dX4_mayOf_7 rfl ?_
    refine z_getR dX4_mayOf_8 zf_X4_13 (by first | rfl | assumption) rfl ?_
    refine z_iconst (v := 0) dX4_mayOf_11 (by decide) ?_
    refine z_iald dX4_mayOf_12 (by first | rfl | assumption) rfl (by first | assumption | omega | decide) (by decide) ?_
    refine z_icmp_ge (tgt := 69) dX4_mayOf_13 (by decide) (fun hx_ => absurd hx_ (by rw [hn]; exact nI_ge hk (by omega))) (fun _ => ?_)
    refine z_iload_n dX4_mayOf_16 rfl ?_
    refine z_aload_n dX4_mayOf_17 rfl ?_
    refine z_getR dX4_mayOf_18 zf_X4_29 (by first | rfl | assumption) rfl ?_
    refine z_iload_n dX4_mayOf_21 rfl ?_
    refine z_iald dX4_mayOf_22 (by first | rfl | assumption) rfl (by first | assumption | omega | decide) (by decide) ?_
    refine z_iload dX4_mayOf_23 rfl ?_
    refine z_ishr dX4_mayOf_25 ?_
    refine z_iconst (v := 1) dX4_mayOf_26 (by decide) ?_
    refine z_iand dX4_mayOf_27 ?_
    refine z_iconst (v := 1) dX4_mayOf_28 (by decide) ?_
    refine z_icmp_ne (tgt := 60) dX4_mayOf_29 (by decide) (fun hb29 => ?_) (fun hb29 => ?_)
    · refine z_iconst (v := 0) dX4_mayOf_60 (by decide) ?_
      refine z_ior dX4_mayOf_61 ?_
      refine z_istore_n (i := 3) dX4_mayOf_62 rfl (by decide) ?_
      refine z_iinc (v := 1) dX4_mayOf_63 rfl (by decide) (by decide) ?_
      refine z_goto (tgt := 5) dX4_mayOf_66 (by decide) ?_
      refine ZW.eq ih rfl ?_
      simp only [zmay, zfold, nI_succ]
      split
      · rename_i hc
        first | rfl | (exfalso; first | exact hb29 (k1.mpr hc.1) | exact hc.2.1 hb38 | exact hc.2.2 hb50)
      · rename_i hc
        first | (simp only [Int32.or_zero]; rfl) | (exfalso; exact hc ⟨k1.mp hb29, hb38, hb50⟩)
    · refine z_aload_n dX4_mayOf_32 rfl ?_
      refine z_iload dX4_mayOf_33 rfl ?_
      refine z_cV1r (dy := 0) dX4_mayOf_35 zl_X4_120 zy_X4_isSound (by first | rfl | assumption) rfl (by decide) (Nat.le_of_ble_eq_true rfl) (sp_isSoundM (by omega)) ?_
      refine z_if_neb (tgt := 60) dX4_mayOf_38 (by decide) (fun hb38 => ?_) (fun hb38 => ?_)
      · refine z_iconst (v := 0) dX4_mayOf_60 (by decide) ?_
        refine z_ior dX4_mayOf_61 ?_
        refine z_istore_n (i := 3) dX4_mayOf_62 rfl (by decide) ?_
        refine z_iinc (v := 1) dX4_mayOf_63 rfl (by decide) (by decide) ?_
        refine z_goto (tgt := 5) dX4_mayOf_66 (by decide) ?_
        refine ZW.eq ih rfl ?_
        simp only [zmay, zfold, nI_succ]
        split
        · rename_i hc
          first | rfl | (exfalso; first | exact hb29 (k1.mpr hc.1) | exact hc.2.1 hb38 | exact hc.2.2 hb50)
        · rename_i hc
          first | (simp only [Int32.or_zero]; rfl) | (exfalso; exact hc ⟨k1.mp hb29, hb38, hb50⟩)
      · refine z_aload_n dX4_mayOf_41 rfl ?_
        refine z_getR dX4_mayOf_42 zf_X4_20 (by first | rfl | assumption) rfl ?_
        refine z_iload dX4_mayOf_45 rfl ?_
        refine z_iald dX4_mayOf_47 (by first | rfl | assumption) rfl (show k < 16 by omega) (by decide) ?_
        refine z_iload_n dX4_mayOf_48 rfl ?_
        refine z_iand dX4_mayOf_49 ?_
        refine z_if_eq (tgt := 60) dX4_mayOf_50 (by decide) (fun hb50 => ?_) (fun hb50 => ?_)
        · refine z_iconst (v := 0) dX4_mayOf_60 (by decide) ?_
          refine z_ior dX4_mayOf_61 ?_
          refine z_istore_n (i := 3) dX4_mayOf_62 rfl (by decide) ?_
          refine z_iinc (v := 1) dX4_mayOf_63 rfl (by decide) (by decide) ?_
          refine z_goto (tgt := 5) dX4_mayOf_66 (by decide) ?_
          refine ZW.eq ih rfl ?_
          simp only [zmay, zfold, nI_succ]
          split
          · rename_i hc
            first | rfl | (exfalso; first | exact hb29 (k1.mpr hc.1) | exact hc.2.1 hb38 | exact hc.2.2 hb50)
          · rename_i hc
            first | (simp only [Int32.or_zero]; rfl) | (exfalso; exact hc ⟨k1.mp hb29, hb38, hb50⟩)
        · refine z_iconst (v := 1) dX4_mayOf_53 (by decide) ?_
          refine z_iload dX4_mayOf_54 rfl ?_
          refine z_ishl dX4_mayOf_56 ?_
          refine z_goto (tgt := 61) dX4_mayOf_57 (by decide) ?_
          refine z_ior dX4_mayOf_61 ?_
          refine z_istore_n (i := 3) dX4_mayOf_62 rfl (by decide) ?_
          refine z_iinc (v := 1) dX4_mayOf_63 rfl (by decide) (by decide) ?_
          refine z_goto (tgt := 5) dX4_mayOf_66 (by decide) ?_
          refine ZW.eq ih rfl ?_
          simp only [zmay, zfold, nI_succ]
          split
          · rename_i hc
            first | rfl | (exfalso; first | exact hb29 (k1.mpr hc.1) | exact hc.2.1 hb38 | exact hc.2.2 hb50)
          · rename_i hc
            first | (simp only [Int32.or_zero]; rfl) | (exfalso; exact hc ⟨k1.mp hb29, hb38, hb50⟩)
theorem sp_firstOf {μ : ZMem} {n : Nat} (h : znM μ n) (w : Int32) : Sp layM mX4_firstOf 0 [.ref 0, .int w] μ (some (.int (zfa (μ.1 9) n w))) μ := by
  have hn := h.1
  have h30 := h.2
  refine Sp.mk (L := [some (.ref 0), some (.int w), none]) rfl (by decide +kernel) rfl rfl (fun Q hQ => ?_)
  refine z_iconst (v := 0) dX4_firstOf_0 (by decide) ?_
  refine z_istore_n (i := 2) dX4_firstOf_1 rfl (by decide) ?_
  unfold zfa at hQ
  generalize hp : (fun k => decide (μ.1 9 k = w)) = p at hQ
  refine zdown (P := fun k => zff p 0 n = zff p k (n - k) → ZW layM mX4_firstOf 0 Q 2 [some (.ref 0), some (.int w), some (.int (nI k))] [] μ) n ?_ ?_ 0 (Nat.zero_le n) rfl
  · intro e
    rw [e, zff_end] at hQ
    refine z_iload_n dX4_firstOf_2 rfl ?_
    refine z_aload_n dX4_firstOf_3 rfl ?_
    refine z_getR dX4_firstOf_4 zf_X4_35 (by first | rfl | assumption) rfl ?_
    refine z_bipush (v := 120) dX4_firstOf_7 (by decide) ?_
    refine z_iald dX4_firstOf_9 (by first | rfl | assumption) rfl (by first | assumption | omega | decide) (by decide) ?_
    refine z_icmp_ge (tgt := 33) dX4_firstOf_10 (by decide) (fun _ => ?_) (fun hx_ => absurd (by rw [hn]; exact Int32.le_refl _) hx_)
    refine z_bipush (v := -9) dX4_firstOf_33 (by decide) ?_
    refine z_iret dX4_firstOf_35 rfl ?_
    exact hQ
  · intro k hk ih e
    rw [zff_step hk] at e
    refine z_iload_n dX4_firstOf_2 rfl ?_
    refine z_aload_n dX4_firstOf_3 rfl ?_
    refine z_getR dX4_firstOf_4 zf_X4_35 (by first | rfl | assumption) rfl ?_
    refine z_bipush (v := 120) dX4_firstOf_7 (by decide) ?_
    refine z_iald dX4_firstOf_9 (by first | rfl | assumption) rfl (by first | assumption | omega | decide) (by decide) ?_
    refine z_icmp_ge (tgt := 33) dX4_firstOf_10 (by decide) (fun hx_ => absurd hx_ (by rw [hn]; exact nI_ge hk (by omega))) (fun _ => ?_)
    refine z_aload_n dX4_firstOf_13 rfl ?_
    refine z_getR dX4_firstOf_14 zf_X4_35 (by first | rfl | assumption) rfl ?_
    refine z_iconst (v := 0) dX4_firstOf_17 (by decide) ?_
    refine z_iload_n dX4_firstOf_18 rfl ?_
    refine z_iadd dX4_firstOf_19 ?_
    refine z_iald dX4_firstOf_20 (by first | rfl | assumption) (zix0 k) (by omega) (by decide) ?_
    refine z_iload_n dX4_firstOf_21 rfl ?_
    refine z_icmp_ne (tgt := 27) dX4_firstOf_22 (by decide) (fun hb22 => ?_) (fun hb22 => ?_)
    · refine z_iinc (v := 1) dX4_firstOf_27 rfl (by decide) (by decide) ?_
      refine z_goto (tgt := 2) dX4_firstOf_30 (by decide) ?_
      exact ZW.eq (ih (by rw [e, if_neg (by rw [← hp]; simp [hb22])])) rfl (by simp [nI_succ])
    · refine z_iload_n dX4_firstOf_25 rfl ?_
      refine z_iret dX4_firstOf_26 rfl ?_
      rw [e, if_pos (by rw [← hp]; simp [hb22])] at hQ
      exact hQ
/-- each answers something earlier, or nothing -/
def ztv (t : Nat → Int32) (n : Nat) : Prop := ∀ k, k < n → t k = -9 ∨ ∃ j, j < k ∧ t k = nI j
def zrt (t : Nat → Int32) : Nat → Nat → Nat
  | 0, k => k
  | m + 1, k => if t k = -9 then k else zrt t m (t k).toNatClampNeg
def zfr (t : Nat → Int32) : Nat → Nat → Nat
  | 0, _ => 0
  | m + 1, k => if t k = -9 then 0 else zfr t m (t k).toNatClampNeg + 1
theorem zrt_s {t : Nat → Int32} {m k : Nat} (e : t k = -9) : zrt t (m + 1) k = k := by
  show (if t k = -9 then k else zrt t m (t k).toNatClampNeg) = k
  rw [if_pos e]
theorem zrt_a {t : Nat → Int32} {m k j : Nat} (hj : j < 2 ^ 31) (e : t k = nI j) : zrt t (m + 1) k = zrt t m j := by
  show (if t k = -9 then k else zrt t m (t k).toNatClampNeg) = _
  rw [if_neg (by rw [e]; exact nI_ne9 hj), e, nI_clamp hj]
theorem zfr_s {t : Nat → Int32} {m k : Nat} (e : t k = -9) : zfr t (m + 1) k = 0 := by
  show (if t k = -9 then 0 else zfr t m (t k).toNatClampNeg + 1) = 0
  rw [if_pos e]
theorem zfr_a {t : Nat → Int32} {m k j : Nat} (hj : j < 2 ^ 31) (e : t k = nI j) : zfr t (m + 1) k = zfr t m j + 1 := by
  show (if t k = -9 then 0 else zfr t m (t k).toNatClampNeg + 1) = _
  rw [if_neg (by rw [e]; exact nI_ne9 hj), e, nI_clamp hj]
theorem zrt_more {t : Nat → Int32} {n : Nat} (h30 : n ≤ 30) (hv : ztv t n) : ∀ m k, k < n → k < m → zrt t (m + 1) k = zrt t m k := by
  intro m
  induction m with
  | zero => intro k _ h; omega
  | succ m ih =>
    intro k hk hm
    rcases hv k hk with e | ⟨j, hj, e⟩
    · rw [zrt_s e, zrt_s e]
    · rw [zrt_a (by omega) e, zrt_a (by omega) e]
      exact ih j (by omega) (by omega)
theorem zfr_more {t : Nat → Int32} {n : Nat} (h30 : n ≤ 30) (hv : ztv t n) : ∀ m k, k < n → k < m → zfr t (m + 1) k = zfr t m k := by
  intro m
  induction m with
  | zero => intro k _ h; omega
  | succ m ih =>
    intro k hk hm
    rcases hv k hk with e | ⟨j, hj, e⟩
    · rw [zfr_s e, zfr_s e]
    · rw [zfr_a (by omega) e, zfr_a (by omega) e, ih j (by omega) (by omega)]
/-- with 30 as its fuel, one step more changes nothing -/
theorem zrt_step {t : Nat → Int32} {n k j : Nat} (h30 : n ≤ 30) (hv : ztv t n) (hk : k < n) (hj : j < k) (e : t k = nI j) : zrt t 30 k = zrt t 30 j := by
  rw [← zrt_more h30 hv 30 k hk (by omega), zrt_a (by omega) e]
theorem zfr_step {t : Nat → Int32} {n k j : Nat} (h30 : n ≤ 30) (hv : ztv t n) (hk : k < n) (hj : j < k) (e : t k = nI j) : zfr t 30 k = zfr t 30 j + 1 := by
  rw [← zfr_more h30 hv 30 k hk (by omega), zfr_a (by omega) e]
theorem sp_rootOf {μ : ZMem} {n k : Nat} (h30 : n ≤ 30) (hv : ztv (fun k => μ.1 9 (90 + k)) n) (hk : k < n) : Sp layM mX4_rootOf 0 [.ref 0, .int (nI k)] μ (some (.int (nI (zrt (fun k => μ.1 9 (90 + k)) 30 k)))) μ := by
  refine Sp.mk (L := [some (.ref 0), some (.int (nI k)), none]) rfl (by decide +kernel) rfl rfl (fun Q hQ => ?_)
  refine z_iload_n dX4_rootOf_0 rfl ?_
  refine z_istore_n (i := 2) dX4_rootOf_1 rfl (by decide) ?_
  have key : ∀ m r, r < m → r < n → zrt (fun k => μ.1 9 (90 + k)) 30 k = zrt (fun k => μ.1 9 (90 + k)) 30 r → ZW layM mX4_rootOf 0 Q 2 [some (.ref 0), some (.int (nI k)), some (.int (nI r))] [] μ := by
    intro m
    induction m with
    | zero => intro r h; omega
    | succ m ih =>
      intro r hr hrn e
      rcases hv r hrn with e9 | ⟨j, hj, ej⟩
      · rw [e, zrt_s (t := fun k => μ.1 9 (90 + k)) (m := 29) (k := r) e9] at hQ
        refine z_aload_n dX4_rootOf_2 rfl ?_
        refine z_getR dX4_rootOf_3 zf_X4_35 (by first | rfl | assumption) rfl ?_
        refine z_bipush (v := 90) dX4_rootOf_6 (by decide) ?_
        refine z_iload_n dX4_rootOf_8 rfl ?_
        refine z_iadd dX4_rootOf_9 ?_
        refine z_iald dX4_rootOf_10 (by first | rfl | assumption) (zix 90 r rfl) (by omega) (by decide) ?_
        refine z_bipush (v := -9) dX4_rootOf_11 (by decide) ?_
        refine z_icmp_eq (tgt := 29) dX4_rootOf_13 (by decide) (fun _ => ?_) (fun hx_ => absurd e9 hx_)
        refine z_iload_n dX4_rootOf_29 rfl ?_
        refine z_iret dX4_rootOf_30 rfl ?_
        exact hQ
      · have ej' : μ.1 9 (90 + r) = nI j := ej
        refine z_aload_n dX4_rootOf_2 rfl ?_
        refine z_getR dX4_rootOf_3 zf_X4_35 (by first | rfl | assumption) rfl ?_
        refine z_bipush (v := 90) dX4_rootOf_6 (by decide) ?_
        refine z_iload_n dX4_rootOf_8 rfl ?_
        refine z_iadd dX4_rootOf_9 ?_
        refine z_iald dX4_rootOf_10 (by first | rfl | assumption) (zix 90 r rfl) (by omega) (by decide) ?_
        refine z_bipush (v := -9) dX4_rootOf_11 (by decide) ?_
        refine z_icmp_eq (tgt := 29) dX4_rootOf_13 (by decide) (fun hx_ => absurd hx_ (by rw [ej']; exact nI_ne9 (by omega))) (fun _ => ?_)
        refine z_aload_n dX4_rootOf_16 rfl ?_
        refine z_getR dX4_rootOf_17 zf_X4_35 (by first | rfl | assumption) rfl ?_
        refine z_bipush (v := 90) dX4_rootOf_20 (by decide) ?_
        refine z_iload_n dX4_rootOf_22 rfl ?_
        refine z_iadd dX4_rootOf_23 ?_
        refine z_iald dX4_rootOf_24 (by first | rfl | assumption) (zix 90 r rfl) (by omega) (by decide) ?_
        rw [ej']
        refine z_istore_n (i := 2) dX4_rootOf_25 rfl (by decide) ?_
        refine z_goto (tgt := 2) dX4_rootOf_26 (by decide) ?_
        exact ih j (by omega) (by omega) (by rw [e, zrt_step h30 hv hrn hj ej])
  exact key (k + 1) k (by omega) hk rfl
theorem sp_farOf {μ : ZMem} {n k : Nat} (h30 : n ≤ 30) (hv : ztv (fun k => μ.1 9 (90 + k)) n) (hk : k < n) : Sp layM mX4_farOf 0 [.ref 0, .int (nI k)] μ (some (.int (nI (zfr (fun k => μ.1 9 (90 + k)) 30 k)))) μ := by
  refine Sp.mk (L := [some (.ref 0), some (.int (nI k)), none, none]) rfl (by decide +kernel) rfl rfl (fun Q hQ => ?_)
  refine z_iconst (v := 0) dX4_farOf_0 (by decide) ?_
  refine z_istore_n (i := 2) dX4_farOf_1 rfl (by decide) ?_
  refine z_iload_n dX4_farOf_2 rfl ?_
  refine z_istore_n (i := 3) dX4_farOf_3 rfl (by decide) ?_
  have key : ∀ m r c, r < m → r < n → zfr (fun k => μ.1 9 (90 + k)) 30 k = c + zfr (fun k => μ.1 9 (90 + k)) 30 r → ZW layM mX4_farOf 0 Q 4 [some (.ref 0), some (.int (nI k)), some (.int (nI c)), some (.int (nI r))] [] μ := by
    intro m
    induction m with
    | zero => intro r c h; omega
    | succ m ih =>
      intro r c hr hrn e
      rcases hv r hrn with e9 | ⟨j, hj, ej⟩
      · rw [e, zfr_s (t := fun k => μ.1 9 (90 + k)) (m := 29) (k := r) e9, Nat.add_zero] at hQ
        refine z_aload_n dX4_farOf_4 rfl ?_
        refine z_getR dX4_farOf_5 zf_X4_35 (by first | rfl | assumption) rfl ?_
        refine z_bipush (v := 90) dX4_farOf_8 (by decide) ?_
        refine z_iload_n dX4_farOf_10 rfl ?_
        refine z_iadd dX4_farOf_11 ?_
        refine z_iald dX4_farOf_12 (by first | rfl | assumption) (zix 90 r rfl) (by omega) (by decide) ?_
        refine z_bipush (v := -9) dX4_farOf_13 (by decide) ?_
        refine z_icmp_eq (tgt := 34) dX4_farOf_15 (by decide) (fun _ => ?_) (fun hx_ => absurd e9 hx_)
        refine z_iload_n dX4_farOf_34 rfl ?_
        refine z_iret dX4_farOf_35 rfl ?_
        exact hQ
      · have ej' : μ.1 9 (90 + r) = nI j := ej
        refine z_aload_n dX4_farOf_4 rfl ?_
        refine z_getR dX4_farOf_5 zf_X4_35 (by first | rfl | assumption) rfl ?_
        refine z_bipush (v := 90) dX4_farOf_8 (by decide) ?_
        refine z_iload_n dX4_farOf_10 rfl ?_
        refine z_iadd dX4_farOf_11 ?_
        refine z_iald dX4_farOf_12 (by first | rfl | assumption) (zix 90 r rfl) (by omega) (by decide) ?_
        refine z_bipush (v := -9) dX4_farOf_13 (by decide) ?_
        refine z_icmp_eq (tgt := 34) dX4_farOf_15 (by decide) (fun hx_ => absurd hx_ (by rw [ej']; exact nI_ne9 (by omega))) (fun _ => ?_)
        refine z_aload_n dX4_farOf_18 rfl ?_
        refine z_getR dX4_farOf_19 zf_X4_35 (by first | rfl | assumption) rfl ?_
        refine z_bipush (v := 90) dX4_farOf_22 (by decide) ?_
        refine z_iload_n dX4_farOf_24 rfl ?_
        refine z_iadd dX4_farOf_25 ?_
        refine z_iald dX4_farOf_26 (by first | rfl | assumption) (zix 90 r rfl) (by omega) (by decide) ?_
        rw [ej']
        refine z_istore_n (i := 3) dX4_farOf_27 rfl (by decide) ?_
        refine z_iinc (v := 1) dX4_farOf_28 rfl (by decide) (by decide) ?_
        refine z_goto (tgt := 4) dX4_farOf_31 (by decide) ?_
        exact ZW.eq (ih j (c + 1) (by omega) (by omega) (by rw [e, zfr_step h30 hv hrn hj ej]; omega)) rfl (by rw [nI_succ c]; rfl)
  exact key (k + 1) k 0 (by omega) hk (by omega)
theorem zff_skip {p : Nat → Bool} {n : Nat} : ∀ i, i ≤ n → (∀ k, k < i → p k = false) → zff p 0 n = zff p i (n - i) := by
  intro i
  induction i with
  | zero => intro _ _; rfl
  | succ i ih =>
    intro hi hp
    rw [ih (by omega) (fun k hk => hp k (by omega)), zff_step (by omega), if_neg (by rw [hp i (by omega)]; decide)]
theorem sp_firstAnswer {μ : ZMem} {n i : Nat} (h : znM μ n) (hv : ztv (fun k => μ.1 9 (90 + k)) n) (hi : i < n) : Sp layM mX4_firstAnswer 0 [.ref 0, .int (nI i)] μ (some (.int (zfa (fun k => μ.1 9 (90 + k)) n (nI i)))) μ := by
  have hn := h.1
  have h30 := h.2
  refine Sp.mk (L := [some (.ref 0), some (.int (nI i)), none]) rfl (by decide +kernel) rfl rfl (fun Q hQ => ?_)
  refine z_iload_n dX4_firstAnswer_0 rfl ?_
  refine z_iconst (v := 1) dX4_firstAnswer_1 (by decide) ?_
  refine z_iadd dX4_firstAnswer_2 ?_
  refine z_istore_n (i := 2) dX4_firstAnswer_3 rfl (by decide) ?_
  unfold zfa at hQ
  have hskip : zff (fun k => decide (μ.1 9 (90 + k) = nI i)) 0 n = zff (fun k => decide (μ.1 9 (90 + k) = nI i)) (i + 1) (n - (i + 1)) := by
    refine zff_skip (i + 1) (by omega) (fun k hk => ?_)
    have hne : ¬ μ.1 9 (90 + k) = nI i := by
      rcases hv k (by omega) with e | ⟨j, hj, e⟩
      · have e' : μ.1 9 (90 + k) = -9 := e
        rw [e']
        exact fun q => nI_ne9 (by omega) q.symm
      · have e' : μ.1 9 (90 + k) = nI j := e
        rw [e']
        exact fun q => by have := (nI_eq (by omega) (by omega)).mp q; omega
    simp [hne]
  generalize hp : (fun k => decide (μ.1 9 (90 + k) = nI i)) = p at hQ hskip
  have key := zdown (P := fun k => i + 1 ≤ k → zff p 0 n = zff p k (n - k) → ZW layM mX4_firstAnswer 0 Q 4 [some (.ref 0), some (.int (nI i)), some (.int (nI k))] [] μ) n ?_ ?_ (i + 1) (by omega) (Nat.le_refl _) hskip
  · exact ZW.eq key rfl (by rw [nI_succ i]; rfl)
  · intro _ e
    rw [e, zff_end] at hQ
    refine z_iload_n dX4_firstAnswer_4 rfl ?_
    refine z_aload_n dX4_firstAnswer_5 rfl ?_
    refine z_getR dX4_firstAnswer_6 zf_X4_35 (by first | rfl | assumption) rfl ?_
    refine z_bipush (v := 120) dX4_firstAnswer_9 (by decide) ?_
    refine z_iald dX4_firstAnswer_11 (by first | rfl | assumption) rfl (by first | assumption | omega | decide) (by decide) ?_
    refine z_icmp_ge (tgt := 36) dX4_firstAnswer_12 (by decide) (fun _ => ?_) (fun hx_ => absurd (by rw [hn]; exact Int32.le_refl _) hx_)
    refine z_bipush (v := -9) dX4_firstAnswer_36 (by decide) ?_
    refine z_iret dX4_firstAnswer_38 rfl ?_
    exact hQ
  · intro k hk ih hik e
    rw [zff_step hk] at e
    refine z_iload_n dX4_firstAnswer_4 rfl ?_
    refine z_aload_n dX4_firstAnswer_5 rfl ?_
    refine z_getR dX4_firstAnswer_6 zf_X4_35 (by first | rfl | assumption) rfl ?_
    refine z_bipush (v := 120) dX4_firstAnswer_9 (by decide) ?_
    refine z_iald dX4_firstAnswer_11 (by first | rfl | assumption) rfl (by first | assumption | omega | decide) (by decide) ?_
    refine z_icmp_ge (tgt := 36) dX4_firstAnswer_12 (by decide) (fun hx_ => absurd hx_ (by rw [hn]; exact nI_ge hk (by omega))) (fun _ => ?_)
    refine z_aload_n dX4_firstAnswer_15 rfl ?_
    refine z_getR dX4_firstAnswer_16 zf_X4_35 (by first | rfl | assumption) rfl ?_
    refine z_bipush (v := 90) dX4_firstAnswer_19 (by decide) ?_
    refine z_iload_n dX4_firstAnswer_21 rfl ?_
    refine z_iadd dX4_firstAnswer_22 ?_
    refine z_iald dX4_firstAnswer_23 (by first | rfl | assumption) (zix 90 k rfl) (by omega) (by decide) ?_
    refine z_iload_n dX4_firstAnswer_24 rfl ?_
    refine z_icmp_ne (tgt := 30) dX4_firstAnswer_25 (by decide) (fun hb25 => ?_) (fun hb25 => ?_)
    · refine z_iinc (v := 1) dX4_firstAnswer_30 rfl (by decide) (by decide) ?_
      refine z_goto (tgt := 4) dX4_firstAnswer_33 (by decide) ?_
      exact ZW.eq (ih (by omega) (by rw [e, if_neg (by rw [← hp]; simp [hb25])])) rfl (by simp [nI_succ])
    · refine z_iload_n dX4_firstAnswer_28 rfl ?_
      refine z_iret dX4_firstAnswer_29 rfl ?_
      rw [e, if_pos (by rw [← hp]; simp [hb25])] at hQ
      exact hQ
theorem sp_farthestM {μ : ZMem} {n : Nat} (h : znM μ n) (hv : ztv (fun k => μ.1 9 (90 + k)) n) : Sp layM mX4_farthest 1 [.ref 0] μ (some (.int (if n = 0 then -9 else nI (zbst (fun k => nI (zfr (fun k => μ.1 9 (90 + k)) 30 k)) n)))) μ := by
  have hn := h.1
  have h30 := h.2
  refine Sp.mk (L := [some (.ref 0), none, none]) rfl (by decide +kernel) rfl rfl (fun Q hQ => ?_)
  refine z_bipush (v := -9) dX4_farthest_0 (by decide) ?_
  refine z_istore_n (i := 1) dX4_farthest_2 rfl (by decide) ?_
  refine z_iconst (v := 0) dX4_farthest_3 (by decide) ?_
  refine z_istore_n (i := 2) dX4_farthest_4 rfl (by decide) ?_
  generalize hf : (fun k => nI (zfr (fun k => μ.1 9 (90 + k)) 30 k)) = f at hQ
  have hfar : ∀ k, k < n → Sp layM mX4_farOf 0 [.ref 0, .int (nI k)] μ (some (.int (f k))) μ := by
    intro k hk
    rw [← hf]
    exact sp_farOf h30 hv hk
  refine zdown (P := fun k => ZW layM mX4_farthest 1 Q 5 [some (.ref 0), some (.int (if k = 0 then -9 else nI (zbst f k))), some (.int (nI k))] [] μ) n ?_ ?_ 0 (Nat.zero_le n)
  · refine z_iload_n dX4_farthest_5 rfl ?_
    refine z_aload_n dX4_farthest_6 rfl ?_
    refine z_getR dX4_farthest_7 zf_X4_35 (by first | rfl | assumption) rfl ?_
    refine z_bipush (v := 120) dX4_farthest_10 (by decide) ?_
    refine z_iald dX4_farthest_12 (by first | rfl | assumption) rfl (by first | assumption | omega | decide) (by decide) ?_
    refine z_icmp_ge (tgt := 47) dX4_farthest_13 (by decide) (fun _ => ?_) (fun hx_ => absurd (by rw [hn]; exact Int32.le_refl _) hx_)
    refine z_iload_n dX4_farthest_47 rfl ?_
    refine z_iret dX4_farthest_48 rfl ?_
    exact hQ
  · intro k hk ih
    by_cases h0 : k = 0
    · subst h0
      refine z_iload_n dX4_farthest_5 rfl ?_
      refine z_aload_n dX4_farthest_6 rfl ?_
      refine z_getR dX4_farthest_7 zf_X4_35 (by first | rfl | assumption) rfl ?_
      refine z_bipush (v := 120) dX4_farthest_10 (by decide) ?_
      refine z_iald dX4_farthest_12 (by first | rfl | assumption) rfl (by first | assumption | omega | decide) (by decide) ?_
      refine z_icmp_ge (tgt := 47) dX4_farthest_13 (by decide) (fun hx_ => absurd hx_ (by rw [hn]; exact nI_ge hk (by omega))) (fun _ => ?_)
      refine z_iload_n dX4_farthest_16 rfl ?_
      refine z_bipush (v := -9) dX4_farthest_17 (by decide) ?_
      refine z_icmp_eq (tgt := 35) dX4_farthest_19 (by decide) (fun _ => ?_) (fun hx_ => absurd (rfl) hx_)
      refine z_iload_n dX4_farthest_35 rfl ?_
      refine z_goto (tgt := 40) dX4_farthest_36 (by decide) ?_
      refine z_istore_n (i := 1) dX4_farthest_40 rfl (by decide) ?_
      refine z_iinc (v := 1) dX4_farthest_41 rfl (by decide) (by decide) ?_
      refine z_goto (tgt := 5) dX4_farthest_44 (by decide) ?_
      exact ZW.eq ih rfl (by simp [zbst, nI_succ])
    · rw [if_neg h0]
      have hb := zbst_lt f k (by omega)
      refine z_iload_n dX4_farthest_5 rfl ?_
      refine z_aload_n dX4_farthest_6 rfl ?_
      refine z_getR dX4_farthest_7 zf_X4_35 (by first | rfl | assumption) rfl ?_
      refine z_bipush (v := 120) dX4_farthest_10 (by decide) ?_
      refine z_iald dX4_farthest_12 (by first | rfl | assumption) rfl (by first | assumption | omega | decide) (by decide) ?_
      refine z_icmp_ge (tgt := 47) dX4_farthest_13 (by decide) (fun hx_ => absurd hx_ (by rw [hn]; exact nI_ge hk (by omega))) (fun _ => ?_)
      refine z_iload_n dX4_farthest_16 rfl ?_
      refine z_bipush (v := -9) dX4_farthest_17 (by decide) ?_
      refine z_icmp_eq (tgt := 35) dX4_farthest_19 (by decide) (fun hx_ => absurd hx_ (nI_ne9 (by omega))) (fun _ => ?_)
      refine z_aload_n dX4_farthest_22 rfl ?_
      refine z_iload_n dX4_farthest_23 rfl ?_
      refine z_cV1r (dy := 0) dX4_farthest_24 zl_X4_142 zy_X4_farOf (by first | rfl | assumption) rfl (by decide) (Nat.le_of_ble_eq_true rfl) (hfar k hk) ?_
      refine z_aload_n dX4_farthest_27 rfl ?_
      refine z_iload_n dX4_farthest_28 rfl ?_
      refine z_cV1r (dy := 0) dX4_farthest_29 zl_X4_142 zy_X4_farOf (by first | rfl | assumption) rfl (by decide) (Nat.le_of_ble_eq_true rfl) (hfar (zbst f k) (by omega)) ?_
      refine z_icmp_le (tgt := 39) dX4_farthest_32 (by decide) (fun hb32 => ?_) (fun hb32 => ?_)
      · refine z_iload_n dX4_farthest_39 rfl ?_
        refine z_istore_n (i := 1) dX4_farthest_40 rfl (by decide) ?_
        refine z_iinc (v := 1) dX4_farthest_41 rfl (by decide) (by decide) ?_
        refine z_goto (tgt := 5) dX4_farthest_44 (by decide) ?_
        exact ZW.eq ih rfl (by
          rw [if_neg (show ¬ k + 1 = 0 by omega), nI_succ]
          have e0 : zbst f (k + 1) = if k = 0 then 0 else if f (zbst f k) < f k then k else zbst f k := rfl
          rw [e0, if_neg h0]
          first | (rw [if_neg (Int32.not_lt.mpr hb32)]; rfl) | (rw [if_pos (Int32.not_le.mp hb32)]; rfl))
      · refine z_iload_n dX4_farthest_35 rfl ?_
        refine z_goto (tgt := 40) dX4_farthest_36 (by decide) ?_
        refine z_istore_n (i := 1) dX4_farthest_40 rfl (by decide) ?_
        refine z_iinc (v := 1) dX4_farthest_41 rfl (by decide) (by decide) ?_
        refine z_goto (tgt := 5) dX4_farthest_44 (by decide) ?_
        exact ZW.eq ih rfl (by
          rw [if_neg (show ¬ k + 1 = 0 by omega), nI_succ]
          have e0 : zbst f (k + 1) = if k = 0 then 0 else if f (zbst f k) < f k then k else zbst f k := rfl
          rw [e0, if_neg h0]
          first | (rw [if_neg (Int32.not_lt.mpr hb32)]; rfl) | (rw [if_pos (Int32.not_le.mp hb32)]; rfl))

/-! ===== the reference: what comes to what ===== -/
def zsay (kn : Nat → Int32) (sn : Int32) (np : Nat) (ns : Nat) : Int32 := zfold (fun k a => if ¬ zbt sn (nI k) ∧ ¬ zkn kn (nI k) np = 0 then a ||| (1 <<< (nI k &&& 31)) else a) 0 ns
theorem sp_sayable {μ : ZMem} {ns np : Nat} (h : zsM μ ns) (hp : zpM μ np) : Sp layM mX4_sayable 1 [.ref 0] μ (some (.int (zsay (μ.1 7) (μ.1 5 0) np ns))) μ := by
  have hn := h.1
  have h8 := h.2
  refine Sp.mk (L := [some (.ref 0), none, none]) rfl (by decide +kernel) rfl rfl (fun Q hQ => ?_)
  refine z_iconst (v := 0) dX4_sayable_0 (by decide) ?_
  refine z_istore_n (i := 1) dX4_sayable_1 rfl (by decide) ?_
  refine z_iconst (v := 0) dX4_sayable_2 (by decide) ?_
  refine z_istore_n (i := 2) dX4_sayable_3 rfl (by decide) ?_
  refine zdown (P := fun k => ZW layM mX4_sayable 1 Q 4 [some (.ref 0), some (.int (zsay (μ.1 7) (μ.1 5 0) np k)), some (.int (nI k))] [] μ) ns ?_ ?_ 0 (Nat.zero_le _)
  · refine z_iload_n dX4_sayable_4 rfl ?_
    refine z_aload_n dX4_sayable_5 rfl ?_
    refine z_getR dX4_sayable_6 zf_X4_13 (by first | rfl | assumption) rfl ?_
    refine z_iconst (v := 0) dX4_sayable_9 (by decide) ?_
    refine z_iald dX4_sayable_10 (by first | rfl | assumption) rfl (by first | assumption | omega | decide) (by decide) ?_
    refine z_icmp_ge (tgt := 46) dX4_sayable_11 (by decide) (fun _ => ?_) (fun hx_ => absurd (by rw [hn]; exact Int32.le_refl _) hx_)
    refine z_iload_n dX4_sayable_46 rfl ?_
    refine z_iret dX4_sayable_47 rfl ?_
    exact hQ
  · intro k hk ih
    refine z_iload_n dX4_sayable_4 rfl ?_
    refine z_aload_n dX4_sayable_5 rfl ?_
    refine z_getR dX4_sayable_6 zf_X4_13 (by first | rfl | assumption) rfl ?_
    refine z_iconst (v := 0) dX4_sayable_9 (by decide) ?_
    refine z_iald dX4_sayable_10 (by first | rfl | assumption) rfl (by first | assumption | omega | decide) (by decide) ?_
    refine z_icmp_ge (tgt := 46) dX4_sayable_11 (by decide) (fun hx_ => absurd hx_ (by rw [hn]; exact nI_ge hk (by omega))) (fun _ => ?_)
    refine z_iload_n dX4_sayable_14 rfl ?_
    refine z_aload_n dX4_sayable_15 rfl ?_
    refine z_iload_n dX4_sayable_16 rfl ?_
    refine z_cV1r (dy := 0) dX4_sayable_17 zl_X4_120 zy_X4_isSound (by first | rfl | assumption) rfl (by decide) (Nat.le_of_ble_eq_true rfl) (sp_isSoundM (by omega)) ?_
    refine z_if_neb (tgt := 37) dX4_sayable_20 (by decide) (fun hb20 => ?_) (fun hb20 => ?_)
    · refine z_iconst (v := 0) dX4_sayable_37 (by decide) ?_
      refine z_ior dX4_sayable_38 ?_
      refine z_istore_n (i := 1) dX4_sayable_39 rfl (by decide) ?_
      refine z_iinc (v := 1) dX4_sayable_40 rfl (by decide) (by decide) ?_
      refine z_goto (tgt := 4) dX4_sayable_43 (by decide) ?_
      refine ZW.eq ih rfl ?_
      simp only [zsay, zfold, nI_succ]
      split
      · rename_i hc
        first | rfl | (exfalso; first | exact hc.1 hb20 | exact hc.2 hb28)
      · rename_i hc
        first | (simp only [Int32.or_zero]; rfl) | (exfalso; exact hc ⟨hb20, hb28⟩)
    · refine z_aload_n dX4_sayable_23 rfl ?_
      refine z_iload_n dX4_sayable_24 rfl ?_
      refine z_cV1r (dy := 0) dX4_sayable_25 zl_X4_123 zy_X4_knownBy (by first | rfl | assumption) rfl (by decide) (Nat.le_of_ble_eq_true rfl) (sp_knownBy hp (by omega)) ?_
      refine z_if_eq (tgt := 37) dX4_sayable_28 (by decide) (fun hb28 => ?_) (fun hb28 => ?_)
      · refine z_iconst (v := 0) dX4_sayable_37 (by decide) ?_
        refine z_ior dX4_sayable_38 ?_
        refine z_istore_n (i := 1) dX4_sayable_39 rfl (by decide) ?_
        refine z_iinc (v := 1) dX4_sayable_40 rfl (by decide) (by decide) ?_
        refine z_goto (tgt := 4) dX4_sayable_43 (by decide) ?_
        refine ZW.eq ih rfl ?_
        simp only [zsay, zfold, nI_succ]
        split
        · rename_i hc
          first | rfl | (exfalso; first | exact hc.1 hb20 | exact hc.2 hb28)
        · rename_i hc
          first | (simp only [Int32.or_zero]; rfl) | (exfalso; exact hc ⟨hb20, hb28⟩)
      · refine z_iconst (v := 1) dX4_sayable_31 (by decide) ?_
        refine z_iload_n dX4_sayable_32 rfl ?_
        refine z_ishl dX4_sayable_33 ?_
        refine z_goto (tgt := 38) dX4_sayable_34 (by decide) ?_
        refine z_ior dX4_sayable_38 ?_
        refine z_istore_n (i := 1) dX4_sayable_39 rfl (by decide) ?_
        refine z_iinc (v := 1) dX4_sayable_40 rfl (by decide) (by decide) ?_
        refine z_goto (tgt := 4) dX4_sayable_43 (by decide) ?_
        refine ZW.eq ih rfl ?_
        simp only [zsay, zfold, nI_succ]
        split
        · rename_i hc
          first | rfl | (exfalso; first | exact hc.1 hb20 | exact hc.2 hb28)
        · rename_i hc
          first | (simp only [Int32.or_zero]; rfl) | (exfalso; exact hc ⟨hb20, hb28⟩)
theorem sp_nextOf {μ : ZMem} {ns np : Nat} (h : zsM μ ns) (hp : zpM μ np) (set : Int32) : Sp layM mX4_nextOf 2 [.ref 0, .int set] μ (some (.int (zan (zsay (μ.1 7) (μ.1 5 0) np ns) (μ.1 4) set ns))) μ := by
  have hn := h.1
  have h8 := h.2
  refine Sp.mk (L := [some (.ref 0), some (.int set), none, none]) rfl (by decide +kernel) rfl rfl (fun Q hQ => ?_)
  refine z_iconst (v := 0) dX4_nextOf_0 (by decide) ?_
  refine z_istore_n (i := 2) dX4_nextOf_1 rfl (by decide) ?_
  refine z_iconst (v := 0) dX4_nextOf_2 (by decide) ?_
  refine z_istore_n (i := 3) dX4_nextOf_3 rfl (by decide) ?_
  refine zdown (P := fun k => ZW layM mX4_nextOf 2 Q 4 [some (.ref 0), some (.int set), some (.int (zan (zsay (μ.1 7) (μ.1 5 0) np ns) (μ.1 4) set k)), some (.int (nI k))] [] μ) ns ?_ ?_ 0 (Nat.zero_le _)
  · refine z_iload_n dX4_nextOf_4 rfl ?_
    refine z_aload_n dX4_nextOf_5 rfl ?_
    refine z_getR dX4_nextOf_6 zf_X4_13 (by first | rfl | assumption) rfl ?_
    refine z_iconst (v := 0) dX4_nextOf_9 (by decide) ?_
    refine z_iald dX4_nextOf_10 (by first | rfl | assumption) rfl (by first | assumption | omega | decide) (by decide) ?_
    refine z_icmp_ge (tgt := 53) dX4_nextOf_11 (by decide) (fun _ => ?_) (fun hx_ => absurd (by rw [hn]; exact Int32.le_refl _) hx_)
    refine z_iload_n dX4_nextOf_53 rfl ?_
    refine z_iret dX4_nextOf_54 rfl ?_
    exact hQ
  · intro k hk ih
    have k1 := zk1 (x := zsay (μ.1 7) (μ.1 5 0) np ns) (j := k) (by omega)
    refine z_iload_n dX4_nextOf_4 rfl ?_
    refine z_aload_n dX4_nextOf_5 rfl ?_
    refine z_getR dX4_nextOf_6 zf_X4_13 (by first | rfl | assumption) rfl ?_
    refine z_iconst (v := 0) dX4_nextOf_9 (by decide) ?_
    refine z_iald dX4_nextOf_10 (by first | rfl | assumption) rfl (by first | assumption | omega | decide) (by decide) ?_
    refine z_icmp_ge (tgt := 53) dX4_nextOf_11 (by decide) (fun hx_ => absurd hx_ (by rw [hn]; exact nI_ge hk (by omega))) (fun _ => ?_)
    refine z_iload_n dX4_nextOf_14 rfl ?_
    refine z_aload_n dX4_nextOf_15 rfl ?_
    refine z_cV0r (dy := 1) dX4_nextOf_16 zl_X4_161 zy_X4_sayable (by first | rfl | assumption) rfl (by decide) (Nat.le_of_ble_eq_true rfl) (sp_sayable h hp) ?_
    refine z_iload_n dX4_nextOf_19 rfl ?_
    refine z_ishr dX4_nextOf_20 ?_
    refine z_iconst (v := 1) dX4_nextOf_21 (by decide) ?_
    refine z_iand dX4_nextOf_22 ?_
    refine z_iconst (v := 1) dX4_nextOf_23 (by decide) ?_
    refine z_icmp_ne (tgt := 44) dX4_nextOf_24 (by decide) (fun hb24 => ?_) (fun hb24 => ?_)
    · refine z_iconst (v := 0) dX4_nextOf_44 (by decide) ?_
      refine z_ior dX4_nextOf_45 ?_
      refine z_istore_n (i := 2) dX4_nextOf_46 rfl (by decide) ?_
      refine z_iinc (v := 1) dX4_nextOf_47 rfl (by decide) (by decide) ?_
      refine z_goto (tgt := 4) dX4_nextOf_50 (by decide) ?_
      refine ZW.eq ih rfl ?_
      simp only [zan, zfold, nI_succ]
      split
      · rename_i hc
        first | rfl | (exfalso; first | exact hb24 (k1.mpr hc.1) | exact hc.2 hb35)
      · rename_i hc
        first | (simp only [Int32.or_zero]; rfl) | (exfalso; exact hc ⟨k1.mp hb24, hb35⟩)
    · refine z_aload_n dX4_nextOf_27 rfl ?_
      refine z_getR dX4_nextOf_28 zf_X4_20 (by first | rfl | assumption) rfl ?_
      refine z_iload_n dX4_nextOf_31 rfl ?_
      refine z_iald dX4_nextOf_32 (by first | rfl | assumption) rfl (show k < 16 by omega) (by decide) ?_
      refine z_iload_n dX4_nextOf_33 rfl ?_
      refine z_iand dX4_nextOf_34 ?_
      refine z_if_eq (tgt := 44) dX4_nextOf_35 (by decide) (fun hb35 => ?_) (fun hb35 => ?_)
      · refine z_iconst (v := 0) dX4_nextOf_44 (by decide) ?_
        refine z_ior dX4_nextOf_45 ?_
        refine z_istore_n (i := 2) dX4_nextOf_46 rfl (by decide) ?_
        refine z_iinc (v := 1) dX4_nextOf_47 rfl (by decide) (by decide) ?_
        refine z_goto (tgt := 4) dX4_nextOf_50 (by decide) ?_
        refine ZW.eq ih rfl ?_
        simp only [zan, zfold, nI_succ]
        split
        · rename_i hc
          first | rfl | (exfalso; first | exact hb24 (k1.mpr hc.1) | exact hc.2 hb35)
        · rename_i hc
          first | (simp only [Int32.or_zero]; rfl) | (exfalso; exact hc ⟨k1.mp hb24, hb35⟩)
      · refine z_iconst (v := 1) dX4_nextOf_38 (by decide) ?_
        refine z_iload_n dX4_nextOf_39 rfl ?_
        refine z_ishl dX4_nextOf_40 ?_
        refine z_goto (tgt := 45) dX4_nextOf_41 (by decide) ?_
        refine z_ior dX4_nextOf_45 ?_
        refine z_istore_n (i := 2) dX4_nextOf_46 rfl (by decide) ?_
        refine z_iinc (v := 1) dX4_nextOf_47 rfl (by decide) (by decide) ?_
        refine z_goto (tgt := 4) dX4_nextOf_50 (by decide) ?_
        refine ZW.eq ih rfl ?_
        simp only [zan, zfold, nI_succ]
        split
        · rename_i hc
          first | rfl | (exfalso; first | exact hb24 (k1.mpr hc.1) | exact hc.2 hb35)
        · rename_i hc
          first | (simp only [Int32.or_zero]; rfl) | (exfalso; exact hc ⟨k1.mp hb24, hb35⟩)
theorem sp_reach {μ : ZMem} {ns np : Nat} (h : zsM μ ns) (hp : zpM μ np) (set : Int32) : Sp layM mX4_reach 3 [.ref 0, .int set] μ (some (.int (zre (zsay (μ.1 7) (μ.1 5 0) np ns) (μ.1 4) set ns 9))) μ := by
  refine Sp.mk (L := [some (.ref 0), some (.int set), none, none]) rfl (by decide +kernel) rfl rfl (fun Q hQ => ?_)
  refine z_iconst (v := 0) dX4_reach_0 (by decide) ?_
  refine z_istore_n (i := 2) dX4_reach_1 rfl (by decide) ?_
  refine z_iconst (v := 0) dX4_reach_2 (by decide) ?_
  refine z_istore_n (i := 3) dX4_reach_3 rfl (by decide) ?_
  refine zdown (P := fun k => ZW layM mX4_reach 3 Q 4 [some (.ref 0), some (.int set), some (.int (zre (zsay (μ.1 7) (μ.1 5 0) np ns) (μ.1 4) set ns k)), some (.int (nI k))] [] μ) 9 ?_ ?_ 0 (Nat.zero_le _)
  · refine z_iload_n dX4_reach_4 rfl ?_
    refine z_bipush (v := 8) dX4_reach_5 (by decide) ?_
    refine z_icmp_gt (tgt := 24) dX4_reach_7 (by decide) (fun _ => ?_) (fun hx_ => absurd (by decide) hx_)
    refine z_iload_n dX4_reach_24 rfl ?_
    refine z_iret dX4_reach_25 rfl ?_
    exact hQ
  · intro k hk ih
    refine z_iload_n dX4_reach_4 rfl ?_
    refine z_bipush (v := 8) dX4_reach_5 (by decide) ?_
    refine z_icmp_gt (tgt := 24) dX4_reach_7 (by decide) (fun hx_ => absurd hx_ (nI_nlt (a := 8) (by omega) (by decide))) (fun _ => ?_)
    refine z_aload_n dX4_reach_10 rfl ?_
    refine z_iload_n dX4_reach_11 rfl ?_
    refine z_iload_n dX4_reach_12 rfl ?_
    refine z_ior dX4_reach_13 ?_
    refine z_cV1r (dy := 2) dX4_reach_14 zl_X4_164 zy_X4_nextOf (by first | rfl | assumption) rfl (by decide) (Nat.le_of_ble_eq_true rfl) (sp_nextOf h hp _) ?_
    refine z_istore_n (i := 2) dX4_reach_17 rfl (by decide) ?_
    refine z_iinc (v := 1) dX4_reach_18 rfl (by decide) (by decide) ?_
    refine z_goto (tgt := 4) dX4_reach_21 (by decide) ?_
    exact ZW.eq ih rfl (by rw [nI_succ k]; rfl)
/-- all that can be said within k -/
def zal (sa : Int32) (an : Nat → Int32) (ns : Nat) (set : Int32) : Nat → Int32
  | 0 => 0
  | k + 1 => zal sa an ns set k ||| zan sa an (set ||| zal sa an ns set k) ns
def zco (sa : Int32) (an : Nat → Int32) (ns : Nat) (w : Nat) (set : Int32) : Int32 := zff (fun k => decide (zbt (zal sa an ns set k) (nI w))) 1 8
theorem sp_chainOf {μ : ZMem} {ns np j : Nat} (h : zsM μ ns) (hp : zpM μ np) (hj : j < 32) (set : Int32) : Sp layM mX4_chainOf 3 [.ref 0, .int (nI j), .int set] μ (some (.int (zco (zsay (μ.1 7) (μ.1 5 0) np ns) (μ.1 4) ns j set))) μ := by
  refine Sp.mk (L := [some (.ref 0), some (.int (nI j)), some (.int set), none, none]) rfl (by decide +kernel) rfl rfl (fun Q hQ => ?_)
  refine z_iconst (v := 0) dX4_chainOf_0 (by decide) ?_
  refine z_istore_n (i := 3) dX4_chainOf_1 rfl (by decide) ?_
  refine z_iconst (v := 1) dX4_chainOf_2 (by decide) ?_
  refine z_istore dX4_chainOf_3 (by decide) ?_
  unfold zco at hQ
  generalize hf : zal (zsay (μ.1 7) (μ.1 5 0) np ns) (μ.1 4) ns set = f at hQ
  have fs : ∀ k, f (k + 1) = f k ||| zan (zsay (μ.1 7) (μ.1 5 0) np ns) (μ.1 4) (set ||| f k) ns := by intro k; rw [← hf]; rfl
  have f0 : f 0 = 0 := by rw [← hf]; rfl
  generalize hpp : (fun k => decide (zbt (f k) (nI j))) = p at hQ
  have key := zdown (P := fun k => zff p 1 8 = zff p (k + 1) (8 - k) → ZW layM mX4_chainOf 3 Q 5 [some (.ref 0), some (.int (nI j)), some (.int set), some (.int (f k)), some (.int (nI (k + 1)))] [] μ) 8 ?_ ?_ 0 (Nat.zero_le _) rfl
  · exact ZW.eq key rfl (by rw [f0]; rfl)
  · intro e
    rw [e] at hQ
    refine z_iload dX4_chainOf_5 rfl ?_
    refine z_bipush (v := 8) dX4_chainOf_7 (by decide) ?_
    refine z_icmp_gt (tgt := 40) dX4_chainOf_9 (by decide) (fun _ => ?_) (fun hx_ => absurd (by decide) hx_)
    refine z_bipush (v := -9) dX4_chainOf_40 (by decide) ?_
    refine z_iret dX4_chainOf_42 rfl ?_
    exact hQ
  · intro k hk ih e
    have e' : zff p 1 8 = if p (k + 1) = true then nI (k + 1) else zff p (k + 1 + 1) (8 - (k + 1)) := by
      rw [e, show 8 - k = (8 - (k + 1)) + 1 by omega]; rfl
    refine z_iload dX4_chainOf_5 rfl ?_
    refine z_bipush (v := 8) dX4_chainOf_7 (by decide) ?_
    refine z_icmp_gt (tgt := 40) dX4_chainOf_9 (by decide) (fun hx_ => absurd hx_ (nI_nlt (a := 8) (by omega) (by decide))) (fun _ => ?_)
    refine z_iload_n dX4_chainOf_12 rfl ?_
    refine z_aload_n dX4_chainOf_13 rfl ?_
    refine z_iload_n dX4_chainOf_14 rfl ?_
    refine z_iload_n dX4_chainOf_15 rfl ?_
    refine z_ior dX4_chainOf_16 ?_
    refine z_cV1r (dy := 2) dX4_chainOf_17 zl_X4_164 zy_X4_nextOf (by first | rfl | assumption) rfl (by decide) (Nat.le_of_ble_eq_true rfl) (sp_nextOf h hp _) ?_
    refine z_ior dX4_chainOf_20 ?_
    rw [← fs]
    refine z_istore_n (i := 3) dX4_chainOf_21 rfl (by decide) ?_
    refine z_iload_n dX4_chainOf_22 rfl ?_
    refine z_iload_n dX4_chainOf_23 rfl ?_
    refine z_ishr dX4_chainOf_24 ?_
    refine z_iconst (v := 1) dX4_chainOf_25 (by decide) ?_
    refine z_iand dX4_chainOf_26 ?_
    refine z_iconst (v := 1) dX4_chainOf_27 (by decide) ?_
    refine z_icmp_ne (tgt := 34) dX4_chainOf_28 (by decide) (fun hb28 => ?_) (fun hb28 => ?_)
    · refine z_iinc (v := 1) dX4_chainOf_34 rfl (by decide) (by decide) ?_
      refine z_goto (tgt := 5) dX4_chainOf_37 (by decide) ?_
      exact ZW.eq (ih (by rw [e', if_neg (by rw [← hpp]; simp only [decide_eq_true_eq]; exact fun q => hb28 ((zk1 hj).mpr q))])) rfl (by rw [nI_succ (k + 1)]; rfl)
    · refine z_iload dX4_chainOf_31 rfl ?_
      refine z_iret dX4_chainOf_33 rfl ?_
      rw [e', if_pos (by rw [← hpp]; simpa using (zk1 hj).mp hb28)] at hQ
      exact hQ
theorem spM_chain_bad {μ : ZMem} {ns : Nat} (h : zsM μ ns) {w i : Int32} (hb : (w < 0 ∨ nI ns ≤ w) ∨ (∃ j, j < ns ∧ w = nI j) ∧ i < -1) : Sp layM mX4_chain 4 [.ref 0, .int w, .int i] μ (some (.int (-1))) μ := by
  refine Sp.mk (L := [some (.ref 0), some (.int w), some (.int i), none, none, none, none, none]) rfl (by decide +kernel) rfl rfl (fun Q hQ => ?_)
  rcases hb with hb | ⟨⟨j, hj, hw⟩, hi⟩
  · refine z_aload_n dX4_chain_0 rfl ?_
    refine z_iload_n dX4_chain_1 rfl ?_
    refine z_cV1r (dy := 1) dX4_chain_2 zl_X4_117 zy_X4_isSaying (by first | rfl | assumption) rfl (by decide) (Nat.le_of_ble_eq_true rfl) (sp_isSaying_f h hb) ?_
    refine z_if_eq (tgt := 13) dX4_chain_5 (by decide) (fun _ => ?_) (fun hx_ => absurd (rfl) hx_)
    refine z_iconst (v := -1) dX4_chain_13 (by decide) ?_
    refine z_iret dX4_chain_14 rfl ?_
    exact hQ
  · refine z_aload_n dX4_chain_0 rfl ?_
    refine z_iload_n dX4_chain_1 rfl ?_
    refine z_cV1r (dy := 1) dX4_chain_2 zl_X4_117 zy_X4_isSaying (by first | rfl | assumption) rfl (by decide) (Nat.le_of_ble_eq_true rfl) (sp_isSaying_t h hj hw) ?_
    refine z_if_eq (tgt := 13) dX4_chain_5 (by decide) (fun hx_ => absurd hx_ (by decide)) (fun _ => ?_)
    refine z_iload_n dX4_chain_8 rfl ?_
    refine z_iconst (v := -1) dX4_chain_9 (by decide) ?_
    refine z_icmp_ge (tgt := 15) dX4_chain_10 (by decide) (fun hx_ => absurd hx_ (Int32.not_le.mpr hi)) (fun _ => ?_)
    refine z_iconst (v := -1) dX4_chain_13 (by decide) ?_
    refine z_iret dX4_chain_14 rfl ?_
    exact hQ
/-- the length: i is -1 -/
theorem spM_chain_len {μ : ZMem} {ns np n j : Nat} (h : zsM μ ns) (hp : zpM μ np) (hm : znM μ n) (hj : j < ns) : Sp layM mX4_chain 4 [.ref 0, .int (nI j), .int (-1)] μ (some (.int (zco (zsay (μ.1 7) (μ.1 5 0) np ns) (μ.1 4) ns j (zthere (μ.1 9) (fun k => μ.1 9 (30 + k)) (μ.1 9 121) (μ.1 8 0) n)))) μ := by
  have h8 := h.2
  refine Sp.mk (L := [some (.ref 0), some (.int (nI j)), some (.int (-1)), none, none, none, none, none]) rfl (by decide +kernel) rfl rfl (fun Q hQ => ?_)
  refine z_aload_n dX4_chain_0 rfl ?_
  refine z_iload_n dX4_chain_1 rfl ?_
  refine z_cV1r (dy := 1) dX4_chain_2 zl_X4_117 zy_X4_isSaying (by first | rfl | assumption) rfl (by decide) (Nat.le_of_ble_eq_true rfl) (sp_isSaying_t h hj rfl) ?_
  refine z_if_eq (tgt := 13) dX4_chain_5 (by decide) (fun hx_ => absurd hx_ (by decide)) (fun _ => ?_)
  refine z_iload_n dX4_chain_8 rfl ?_
  refine z_iconst (v := -1) dX4_chain_9 (by decide) ?_
  refine z_icmp_ge (tgt := 15) dX4_chain_10 (by decide) (fun _ => ?_) (fun hx_ => absurd (by decide) hx_)
  refine z_aload_n dX4_chain_15 rfl ?_
  refine z_aload_n dX4_chain_16 rfl ?_
  refine z_getR dX4_chain_17 zf_X4_35 (by first | rfl | assumption) rfl ?_
  refine z_bipush (v := 121) dX4_chain_20 (by decide) ?_
  refine z_iald dX4_chain_22 (by first | rfl | assumption) rfl (by first | assumption | omega | decide) (by decide) ?_
  refine z_cV1r (dy := 1) dX4_chain_23 zl_X4_133 zy_X4_there (by first | rfl | assumption) rfl (by decide) (Nat.le_of_ble_eq_true rfl) (sp_thereM hm _) ?_
  refine z_istore_n (i := 3) dX4_chain_26 rfl (by decide) ?_
  refine z_aload_n dX4_chain_27 rfl ?_
  refine z_iload_n dX4_chain_28 rfl ?_
  refine z_iload_n dX4_chain_29 rfl ?_
  refine z_cV2r (dy := 3) dX4_chain_30 zl_X4_167 zy_X4_chainOf (by first | rfl | assumption) rfl (by decide) (Nat.le_of_ble_eq_true rfl) (sp_chainOf h hp (by omega) _) ?_
  refine z_istore dX4_chain_33 (by decide) ?_
  refine z_iload_n dX4_chain_35 rfl ?_
  refine z_iconst (v := -1) dX4_chain_36 (by decide) ?_
  refine z_icmp_eq (tgt := 46) dX4_chain_37 (by decide) (fun _ => ?_) (fun hx_ => absurd (rfl) hx_)
  refine z_iload_n dX4_chain_46 rfl ?_
  refine z_iconst (v := -1) dX4_chain_47 (by decide) ?_
  refine z_icmp_ne (tgt := 56) dX4_chain_48 (by decide) (fun hx_ => absurd (rfl) hx_) (fun _ => ?_)
  refine z_iload dX4_chain_51 rfl ?_
  refine z_goto (tgt := 58) dX4_chain_53 (by decide) ?_
  refine z_iret dX4_chain_58 rfl ?_
  exact hQ
theorem spM_chain_none {μ : ZMem} {ns np n j : Nat} {i : Int32} (h : zsM μ ns) (hp : zpM μ np) (hm : znM μ n) (hj : j < ns) (hi : -1 ≤ i) (hi1 : ¬ i = -1) (hle : zco (zsay (μ.1 7) (μ.1 5 0) np ns) (μ.1 4) ns j (zthere (μ.1 9) (fun k => μ.1 9 (30 + k)) (μ.1 9 121) (μ.1 8 0) n) ≤ i) : Sp layM mX4_chain 4 [.ref 0, .int (nI j), .int i] μ (some (.int (-9))) μ := by
  have h8 := h.2
  refine Sp.mk (L := [some (.ref 0), some (.int (nI j)), some (.int i), none, none, none, none, none]) rfl (by decide +kernel) rfl rfl (fun Q hQ => ?_)
  refine z_aload_n dX4_chain_0 rfl ?_
  refine z_iload_n dX4_chain_1 rfl ?_
  refine z_cV1r (dy := 1) dX4_chain_2 zl_X4_117 zy_X4_isSaying (by first | rfl | assumption) rfl (by decide) (Nat.le_of_ble_eq_true rfl) (sp_isSaying_t h hj rfl) ?_
  refine z_if_eq (tgt := 13) dX4_chain_5 (by decide) (fun hx_ => absurd hx_ (by decide)) (fun _ => ?_)
  refine z_iload_n dX4_chain_8 rfl ?_
  refine z_iconst (v := -1) dX4_chain_9 (by decide) ?_
  refine z_icmp_ge (tgt := 15) dX4_chain_10 (by decide) (fun _ => ?_) (fun hx_ => absurd hi hx_)
  refine z_aload_n dX4_chain_15 rfl ?_
  refine z_aload_n dX4_chain_16 rfl ?_
  refine z_getR dX4_chain_17 zf_X4_35 (by first | rfl | assumption) rfl ?_
  refine z_bipush (v := 121) dX4_chain_20 (by decide) ?_
  refine z_iald dX4_chain_22 (by first | rfl | assumption) rfl (by first | assumption | omega | decide) (by decide) ?_
  refine z_cV1r (dy := 1) dX4_chain_23 zl_X4_133 zy_X4_there (by first | rfl | assumption) rfl (by decide) (Nat.le_of_ble_eq_true rfl) (sp_thereM hm _) ?_
  refine z_istore_n (i := 3) dX4_chain_26 rfl (by decide) ?_
  refine z_aload_n dX4_chain_27 rfl ?_
  refine z_iload_n dX4_chain_28 rfl ?_
  refine z_iload_n dX4_chain_29 rfl ?_
  refine z_cV2r (dy := 3) dX4_chain_30 zl_X4_167 zy_X4_chainOf (by first | rfl | assumption) rfl (by decide) (Nat.le_of_ble_eq_true rfl) (sp_chainOf h hp (by omega) _) ?_
  refine z_istore dX4_chain_33 (by decide) ?_
  refine z_iload_n dX4_chain_35 rfl ?_
  refine z_iconst (v := -1) dX4_chain_36 (by decide) ?_
  refine z_icmp_eq (tgt := 46) dX4_chain_37 (by decide) (fun hx_ => absurd hx_ hi1) (fun _ => ?_)
  refine z_iload_n dX4_chain_40 rfl ?_
  refine z_iload dX4_chain_41 rfl ?_
  refine z_icmp_lt (tgt := 59) dX4_chain_43 (by decide) (fun hx_ => absurd hx_ (Int32.not_lt.mpr hle)) (fun _ => ?_)
  refine z_iload_n dX4_chain_46 rfl ?_
  refine z_iconst (v := -1) dX4_chain_47 (by decide) ?_
  refine z_icmp_ne (tgt := 56) dX4_chain_48 (by decide) (fun _ => ?_) (fun hx_ => absurd hx_ hi1)
  refine z_bipush (v := -9) dX4_chain_56 (by decide) ?_
  refine z_iret dX4_chain_58 rfl ?_
  exact hQ
/-- what is there after k steps sd -/
def zts (th : Int32) (sd : Nat → Nat) : Nat → Int32
  | 0 => th
  | k + 1 => zts th sd k ||| (1 <<< (nI (sd k) &&& 31))
/-- s is a step, with 'left' to come behind it -/
def zck (sa : Int32) (an : Nat → Int32) (ns w : Nat) (set : Int32) (left s : Nat) : Prop := zbt (zan sa an set ns) (nI s) ∧ (left = 0 → s = w) ∧ (¬ left = 0 → zco sa an ns w (set ||| (1 <<< (nI s &&& 31))) = nI left)
theorem spM_chain_step {μ : ZMem} {ns np n j m q : Nat} {th : Int32} (sd : Nat → Nat) (h : zsM μ ns) (hp : zpM μ np) (hm : znM μ n) (hj : j < ns) (hth : zthere (μ.1 9) (fun k => μ.1 9 (30 + k)) (μ.1 9 121) (μ.1 8 0) n = th) (hco : zco (zsay (μ.1 7) (μ.1 5 0) np ns) (μ.1 4) ns j th = nI m) (hm8 : m ≤ 8) (hq : q < m)
    (hsd : ∀ k, k ≤ q → sd k < 8 ∧ zck (zsay (μ.1 7) (μ.1 5 0) np ns) (μ.1 4) ns j (zts th sd k) (m - k - 1) (sd k) ∧ ∀ s, s < sd k → ¬ zck (zsay (μ.1 7) (μ.1 5 0) np ns) (μ.1 4) ns j (zts th sd k) (m - k - 1) s) :
    Sp layM mX4_chain 4 [.ref 0, .int (nI j), .int (nI q)] μ (some (.int (nI (sd q)))) μ := by
  have h8 := h.2
  refine Sp.mk (L := [some (.ref 0), some (.int (nI j)), some (.int (nI q)), none, none, none, none, none]) rfl (by decide +kernel) rfl rfl (fun Q hQ => ?_)
  have hi1 : ¬ nI q = -1 := by
    intro e
    have h1 := nI_toInt (show q < 2 ^ 31 by omega)
    rw [e] at h1
    have : (-1 : Int32).toInt = -1 := by decide
    omega
  refine z_aload_n dX4_chain_0 rfl ?_
  refine z_iload_n dX4_chain_1 rfl ?_
  refine z_cV1r (dy := 1) dX4_chain_2 zl_X4_117 zy_X4_isSaying (by first | rfl | assumption) rfl (by decide) (Nat.le_of_ble_eq_true rfl) (sp_isSaying_t h hj rfl) ?_
  refine z_if_eq (tgt := 13) dX4_chain_5 (by decide) (fun hx_ => absurd hx_ (by decide)) (fun _ => ?_)
  refine z_iload_n dX4_chain_8 rfl ?_
  refine z_iconst (v := -1) dX4_chain_9 (by decide) ?_
  refine z_icmp_ge (tgt := 15) dX4_chain_10 (by decide) (fun _ => ?_) (fun hx_ => absurd (by apply Int32.le_iff_toInt_le.mpr; rw [nI_toInt (by omega), show (-1 : Int32).toInt = -1 by decide]; omega) hx_)
  refine z_aload_n dX4_chain_15 rfl ?_
  refine z_aload_n dX4_chain_16 rfl ?_
  refine z_getR dX4_chain_17 zf_X4_35 (by first | rfl | assumption) rfl ?_
  refine z_bipush (v := 121) dX4_chain_20 (by decide) ?_
  refine z_iald dX4_chain_22 (by first | rfl | assumption) rfl (by first | assumption | omega | decide) (by decide) ?_
  have hthS := sp_thereM hm (μ.1 9 121)
  rw [hth] at hthS
  have hcoS := sp_chainOf h hp (show j < 32 by omega) th
  rw [hco] at hcoS
  refine z_cV1r (dy := 1) dX4_chain_23 zl_X4_133 zy_X4_there (by first | rfl | assumption) rfl (by decide) (Nat.le_of_ble_eq_true rfl) hthS ?_
  refine z_istore_n (i := 3) dX4_chain_26 rfl (by decide) ?_
  refine z_aload_n dX4_chain_27 rfl ?_
  refine z_iload_n dX4_chain_28 rfl ?_
  refine z_iload_n dX4_chain_29 rfl ?_
  refine z_cV2r (dy := 3) dX4_chain_30 zl_X4_167 zy_X4_chainOf (by first | rfl | assumption) rfl (by decide) (Nat.le_of_ble_eq_true rfl) hcoS ?_
  refine z_istore dX4_chain_33 (by decide) ?_
  refine z_iload_n dX4_chain_35 rfl ?_
  refine z_iconst (v := -1) dX4_chain_36 (by decide) ?_
  refine z_icmp_eq (tgt := 46) dX4_chain_37 (by decide) (fun hx_ => absurd hx_ hi1) (fun _ => ?_)
  refine z_iload_n dX4_chain_40 rfl ?_
  refine z_iload dX4_chain_41 rfl ?_
  refine z_icmp_lt (tgt := 59) dX4_chain_43 (by decide) (fun _ => ?_) (fun hx_ => absurd (nI_lt hq (by omega)) hx_)
  refine z_bipush (v := -9) dX4_chain_59 (by decide) ?_
  refine z_istore dX4_chain_61 (by decide) ?_
  refine z_iconst (v := 0) dX4_chain_63 (by decide) ?_
  refine z_istore dX4_chain_64 (by decide) ?_
  have key : ∀ k, k ≤ q + 1 → ∀ z7, ZW layM mX4_chain 4 Q 66 [some (.ref 0), some (.int (nI j)), some (.int (nI q)), some (.int (zts th sd k)), some (.int (nI m)), some (.int (if k = 0 then -9 else nI (sd (k - 1)))), some (.int (nI k)), z7] [] μ := by
    refine zdown (q + 1) ?_ ?_
    · intro z7
      rw [if_neg (by omega), show q + 1 - 1 = q by omega]
      refine z_iload dX4_chain_66 rfl ?_
      refine z_iload_n dX4_chain_68 rfl ?_
      refine z_icmp_gt (tgt := 146) dX4_chain_69 (by decide) (fun _ => ?_) (fun hx_ => absurd (nI_lt (by omega) (by omega)) hx_)
      refine z_iload dX4_chain_146 rfl ?_
      refine z_iret dX4_chain_148 rfl ?_
      exact hQ
    · intro k hk ih z7
      obtain ⟨hs8, hck, hmin⟩ := hsd k (by omega)
      refine z_iload dX4_chain_66 rfl ?_
      refine z_iload_n dX4_chain_68 rfl ?_
      refine z_icmp_gt (tgt := 146) dX4_chain_69 (by decide) (fun hx_ => absurd hx_ (nI_nlt (by omega) (by omega))) (fun _ => ?_)
      refine z_iconst (v := 0) dX4_chain_72 (by decide) ?_
      refine z_istore dX4_chain_73 (by decide) ?_
      refine z_iload dX4_chain_75 rfl ?_
      refine z_iload dX4_chain_77 rfl ?_
      refine z_isub dX4_chain_79 ?_
      refine z_iconst (v := 1) dX4_chain_80 (by decide) ?_
      refine z_isub dX4_chain_81 ?_
      rw [show nI m - nI k - 1 = nI (m - k - 1) by rw [pk_sub (by omega), show m - k = (m - k - 1) + 1 by omega, nI_pred]; rfl]
      refine z_istore dX4_chain_82 (by decide) ?_
      refine zdown (P := fun s => ZW layM mX4_chain 4 Q 84 [some (.ref 0), some (.int (nI j)), some (.int (nI q)), some (.int (zts th sd k)), some (.int (nI m)), some (.int (nI s)), some (.int (nI k)), some (.int (nI (m - k - 1)))] [] μ) (sd k) ?_ ?_ 0 (Nat.zero_le _)
      · have k0 := zk0 (x := zan (zsay (μ.1 7) (μ.1 5 0) np ns) (μ.1 4) (zts th sd k) ns) (j := sd k) (by omega)
        have fin : ZW layM mX4_chain 4 Q 133 [some (.ref 0), some (.int (nI j)), some (.int (nI q)), some (.int (zts th sd k)), some (.int (nI m)), some (.int (nI (sd k))), some (.int (nI k)), some (.int (nI (m - k - 1)))] [] μ := by
          refine z_iload_n dX4_chain_133 rfl ?_
          refine z_iconst (v := 1) dX4_chain_134 (by decide) ?_
          refine z_iload dX4_chain_135 rfl ?_
          refine z_ishl dX4_chain_137 ?_
          refine z_ior dX4_chain_138 ?_
          refine z_istore_n (i := 3) dX4_chain_139 rfl (by decide) ?_
          refine z_iinc (v := 1) dX4_chain_140 rfl (by decide) (by decide) ?_
          refine z_goto (tgt := 66) dX4_chain_143 (by decide) ?_
          exact ZW.eq (ih (some (.int (nI (m - k - 1))))) rfl (by rw [if_neg (by omega), show k + 1 - 1 = k by omega, nI_succ k]; rfl)
        by_cases hl : m - k - 1 = 0
        · have hsw := hck.2.1 hl
          refine z_aload_n dX4_chain_84 rfl ?_
          refine z_iload_n dX4_chain_85 rfl ?_
          refine z_cV1r (dy := 2) dX4_chain_86 zl_X4_164 zy_X4_nextOf (by first | rfl | assumption) rfl (by decide) (Nat.le_of_ble_eq_true rfl) (sp_nextOf h hp _) ?_
          refine z_iload dX4_chain_89 rfl ?_
          refine z_ishr dX4_chain_91 ?_
          refine z_iconst (v := 1) dX4_chain_92 (by decide) ?_
          refine z_iand dX4_chain_93 ?_
          refine z_if_eq (tgt := 127) dX4_chain_94 (by decide) (fun hx_ => absurd hx_ (fun e => k0.mp e hck.1)) (fun _ => ?_)
          refine z_iload dX4_chain_97 rfl ?_
          refine z_if_ne (tgt := 111) dX4_chain_99 (by decide) (fun hx_ => absurd (by rw [hl]; rfl) hx_) (fun _ => ?_)
          refine z_iload dX4_chain_102 rfl ?_
          refine z_iload_n dX4_chain_104 rfl ?_
          refine z_icmp_eq (tgt := 133) dX4_chain_105 (by decide) (fun _ => ?_) (fun hx_ => absurd (by rw [hsw]) hx_)
          exact fin
        · have hcw := sp_chainOf h hp (show j < 32 by omega) (zts th sd k ||| (1 <<< (nI (sd k) &&& 31)))
          rw [hck.2.2 hl] at hcw
          refine z_aload_n dX4_chain_84 rfl ?_
          refine z_iload_n dX4_chain_85 rfl ?_
          refine z_cV1r (dy := 2) dX4_chain_86 zl_X4_164 zy_X4_nextOf (by first | rfl | assumption) rfl (by decide) (Nat.le_of_ble_eq_true rfl) (sp_nextOf h hp _) ?_
          refine z_iload dX4_chain_89 rfl ?_
          refine z_ishr dX4_chain_91 ?_
          refine z_iconst (v := 1) dX4_chain_92 (by decide) ?_
          refine z_iand dX4_chain_93 ?_
          refine z_if_eq (tgt := 127) dX4_chain_94 (by decide) (fun hx_ => absurd hx_ (fun e => k0.mp e hck.1)) (fun _ => ?_)
          refine z_iload dX4_chain_97 rfl ?_
          refine z_if_ne (tgt := 111) dX4_chain_99 (by decide) (fun _ => ?_) (fun hx_ => absurd hx_ (nI_ne0 (by omega) (by omega)))
          refine z_aload_n dX4_chain_111 rfl ?_
          refine z_iload_n dX4_chain_112 rfl ?_
          refine z_iload_n dX4_chain_113 rfl ?_
          refine z_iconst (v := 1) dX4_chain_114 (by decide) ?_
          refine z_iload dX4_chain_115 rfl ?_
          refine z_ishl dX4_chain_117 ?_
          refine z_ior dX4_chain_118 ?_
          refine z_cV2r (dy := 3) dX4_chain_119 zl_X4_167 zy_X4_chainOf (by first | rfl | assumption) rfl (by decide) (Nat.le_of_ble_eq_true rfl) hcw ?_
          refine z_iload dX4_chain_122 rfl ?_
          refine z_icmp_eq (tgt := 133) dX4_chain_124 (by decide) (fun _ => ?_) (fun hx_ => absurd (rfl) hx_)
          exact fin
      · intro s hs ih2
        have k0 := zk0 (x := zan (zsay (μ.1 7) (μ.1 5 0) np ns) (μ.1 4) (zts th sd k) ns) (j := s) (by omega)
        have hno := hmin s hs
        have nxt : ZW layM mX4_chain 4 Q 127 [some (.ref 0), some (.int (nI j)), some (.int (nI q)), some (.int (zts th sd k)), some (.int (nI m)), some (.int (nI s)), some (.int (nI k)), some (.int (nI (m - k - 1)))] [] μ := by
          refine z_iinc (v := 1) dX4_chain_127 rfl (by decide) (by decide) ?_
          refine z_goto (tgt := 84) dX4_chain_130 (by decide) ?_
          exact ZW.eq ih2 rfl (by rw [nI_succ s]; rfl)
        refine z_aload_n dX4_chain_84 rfl ?_
        refine z_iload_n dX4_chain_85 rfl ?_
        refine z_cV1r (dy := 2) dX4_chain_86 zl_X4_164 zy_X4_nextOf (by first | rfl | assumption) rfl (by decide) (Nat.le_of_ble_eq_true rfl) (sp_nextOf h hp _) ?_
        refine z_iload dX4_chain_89 rfl ?_
        refine z_ishr dX4_chain_91 ?_
        refine z_iconst (v := 1) dX4_chain_92 (by decide) ?_
        refine z_iand dX4_chain_93 ?_
        by_cases hz : zbt (zan (zsay (μ.1 7) (μ.1 5 0) np ns) (μ.1 4) (zts th sd k) ns) (nI s)
        · by_cases hl : m - k - 1 = 0
          · have hne : ¬ s = j := fun e => hno ⟨hz, fun _ => e, fun q => absurd hl q⟩
            refine z_if_eq (tgt := 127) dX4_chain_94 (by decide) (fun hx_ => absurd hx_ (fun e => k0.mp e hz)) (fun _ => ?_)
            refine z_iload dX4_chain_97 rfl ?_
            refine z_if_ne (tgt := 111) dX4_chain_99 (by decide) (fun hx_ => absurd (by rw [hl]; rfl) hx_) (fun _ => ?_)
            refine z_iload dX4_chain_102 rfl ?_
            refine z_iload_n dX4_chain_104 rfl ?_
            refine z_icmp_eq (tgt := 133) dX4_chain_105 (by decide) (fun hx_ => absurd hx_ (fun e => hne ((nI_eq (by omega) (by omega)).mp e))) (fun _ => ?_)
            refine z_goto (tgt := 127) dX4_chain_108 (by decide) ?_
            exact nxt
          · have hne : ¬ zco (zsay (μ.1 7) (μ.1 5 0) np ns) (μ.1 4) ns j (zts th sd k ||| (1 <<< (nI s &&& 31))) = nI (m - k - 1) := fun e => hno ⟨hz, fun q => absurd q hl, fun _ => e⟩
            refine z_if_eq (tgt := 127) dX4_chain_94 (by decide) (fun hx_ => absurd hx_ (fun e => k0.mp e hz)) (fun _ => ?_)
            refine z_iload dX4_chain_97 rfl ?_
            refine z_if_ne (tgt := 111) dX4_chain_99 (by decide) (fun _ => ?_) (fun hx_ => absurd hx_ (nI_ne0 (by omega) (by omega)))
            refine z_aload_n dX4_chain_111 rfl ?_
            refine z_iload_n dX4_chain_112 rfl ?_
            refine z_iload_n dX4_chain_113 rfl ?_
            refine z_iconst (v := 1) dX4_chain_114 (by decide) ?_
            refine z_iload dX4_chain_115 rfl ?_
            refine z_ishl dX4_chain_117 ?_
            refine z_ior dX4_chain_118 ?_
            refine z_cV2r (dy := 3) dX4_chain_119 zl_X4_167 zy_X4_chainOf (by first | rfl | assumption) rfl (by decide) (Nat.le_of_ble_eq_true rfl) (sp_chainOf h hp (by omega) _) ?_
            refine z_iload dX4_chain_122 rfl ?_
            refine z_icmp_eq (tgt := 133) dX4_chain_124 (by decide) (fun hx_ => absurd hx_ hne) (fun _ => ?_)
            exact nxt
        · refine z_if_eq (tgt := 127) dX4_chain_94 (by decide) (fun _ => ?_) (fun hx_ => absurd (k0.mpr hz) hx_)
          exact nxt
  exact key 0 (by omega) none
theorem sp_inSet_t {μ : ZMem} {ns s : Nat} (hs : ns ≤ 8) (hss : s < 2 ^ ns) : Sp layM mX4_in 0 [.int (nI s), .int 0, .int (1 <<< (nI ns &&& 31) - 1)] μ (some (.int 1)) μ := by
  have hp := zpow_le ns (by omega)
  exact sp_in_t (nI_pos (by omega)) (by rw [zsh ns (by omega)]; exact zpred_nlt (by omega) hss)
theorem sp_inSet_f {μ : ZMem} {ns : Nat} (hs : ns ≤ 8) {i : Int32} (hi : i < 0 ∨ nI (2 ^ ns) ≤ i) : Sp layM mX4_in 0 [.int i, .int 0, .int (1 <<< (nI ns &&& 31) - 1)] μ (some (.int 0)) μ := by
  have hp := zpow_le ns (by omega)
  exact sp_in_f (hi.imp id (fun q => by rw [zsh ns (by omega)]; exact zpred_lt (by omega) q))
theorem spM_began_bad {μ : ZMem} {ns : Nat} (h : zsM μ ns) {i : Int32} (hi : i < 0 ∨ nI (2 ^ ns) ≤ i) : Sp layM mX4_began 4 [.ref 0, .int i] μ (some (.int (-1))) μ := by
  refine Sp.mk (L := [some (.ref 0), some (.int i), none, none]) rfl (by decide +kernel) rfl rfl (fun Q hQ => ?_)
  refine z_iload_n dX4_began_0 rfl ?_
  refine z_iconst (v := 0) dX4_began_1 (by decide) ?_
  refine z_iconst (v := 1) dX4_began_2 (by decide) ?_
  refine z_aload_n dX4_began_3 rfl ?_
  refine z_getR dX4_began_4 zf_X4_13 (by first | rfl | assumption) rfl ?_
  refine z_iconst (v := 0) dX4_began_7 (by decide) ?_
  refine z_iald dX4_began_8 (by first | rfl | assumption) rfl (by first | assumption | omega | decide) (by decide) ?_
  rw [h.1]
  refine z_ishl dX4_began_9 ?_
  refine z_iconst (v := 1) dX4_began_10 (by decide) ?_
  refine z_isub dX4_began_11 ?_
  refine z_cS3r (dy := 0) dX4_began_12 zl_X4_57 zy_X4_in (by decide) (Nat.le_of_ble_eq_true rfl) (sp_inSet_f h.2 hi) ?_
  refine z_if_ne (tgt := 20) dX4_began_15 (by decide) (fun hx_ => absurd (rfl) hx_) (fun _ => ?_)
  refine z_iconst (v := -1) dX4_began_18 (by decide) ?_
  refine z_iret dX4_began_19 rfl ?_
  exact hQ
theorem spM_sounds_bad {μ : ZMem} {ns : Nat} (h : zsM μ ns) {i : Int32} (hi : i < 0 ∨ nI (2 ^ ns) ≤ i) : Sp layM mX4_sounds 4 [.ref 0, .int i] μ (some (.int (-1))) μ := by
  refine Sp.mk (L := [some (.ref 0), some (.int i), none, none, none]) rfl (by decide +kernel) rfl rfl (fun Q hQ => ?_)
  refine z_iload_n dX4_sounds_0 rfl ?_
  refine z_iconst (v := 0) dX4_sounds_1 (by decide) ?_
  refine z_iconst (v := 1) dX4_sounds_2 (by decide) ?_
  refine z_aload_n dX4_sounds_3 rfl ?_
  refine z_getR dX4_sounds_4 zf_X4_13 (by first | rfl | assumption) rfl ?_
  refine z_iconst (v := 0) dX4_sounds_7 (by decide) ?_
  refine z_iald dX4_sounds_8 (by first | rfl | assumption) rfl (by first | assumption | omega | decide) (by decide) ?_
  rw [h.1]
  refine z_ishl dX4_sounds_9 ?_
  refine z_iconst (v := 1) dX4_sounds_10 (by decide) ?_
  refine z_isub dX4_sounds_11 ?_
  refine z_cS3r (dy := 0) dX4_sounds_12 zl_X4_57 zy_X4_in (by decide) (Nat.le_of_ble_eq_true rfl) (sp_inSet_f h.2 hi) ?_
  refine z_if_ne (tgt := 20) dX4_sounds_15 (by decide) (fun hx_ => absurd (rfl) hx_) (fun _ => ?_)
  refine z_iconst (v := -1) dX4_sounds_18 (by decide) ?_
  refine z_iret dX4_sounds_19 rfl ?_
  exact hQ
theorem spM_orders_bad {μ : ZMem} {ns : Nat} (h : zsM μ ns) {i : Int32} (hi : i < 0 ∨ nI (2 ^ ns) ≤ i) : Sp layM mX4_orders 2 [.ref 0, .int i] μ (some (.int (-1))) μ := by
  refine Sp.mk (L := [some (.ref 0), some (.int i), none, none, none]) rfl (by decide +kernel) rfl rfl (fun Q hQ => ?_)
  refine z_iload_n dX4_orders_0 rfl ?_
  refine z_iconst (v := 0) dX4_orders_1 (by decide) ?_
  refine z_iconst (v := 1) dX4_orders_2 (by decide) ?_
  refine z_aload_n dX4_orders_3 rfl ?_
  refine z_getR dX4_orders_4 zf_X4_13 (by first | rfl | assumption) rfl ?_
  refine z_iconst (v := 0) dX4_orders_7 (by decide) ?_
  refine z_iald dX4_orders_8 (by first | rfl | assumption) rfl (by first | assumption | omega | decide) (by decide) ?_
  rw [h.1]
  refine z_ishl dX4_orders_9 ?_
  refine z_iconst (v := 1) dX4_orders_10 (by decide) ?_
  refine z_isub dX4_orders_11 ?_
  refine z_cS3r (dy := 0) dX4_orders_12 zl_X4_57 zy_X4_in (by decide) (Nat.le_of_ble_eq_true rfl) (sp_inSet_f h.2 hi) ?_
  refine z_if_ne (tgt := 20) dX4_orders_15 (by decide) (fun hx_ => absurd (rfl) hx_) (fun _ => ?_)
  refine z_iconst (v := -1) dX4_orders_18 (by decide) ?_
  refine z_iret dX4_orders_19 rfl ?_
  exact hQ
def zbgM (sa sn : Int32) (an : Nat → Int32) (ns : Nat) (set : Int32) (m : Nat) : Int32 := zfold (fun k a => if zbt sn (nI k) ∧ (set &&& (sn ^^^ (-1 : Int32))) &&& (zre sa an ((1 : Int32) <<< (nI k &&& 31)) ns 9 ^^^ (-1 : Int32)) = 0 then a ||| (1 <<< (nI k &&& 31)) else a) 0 m
theorem spM_began {μ : ZMem} {ns np s : Nat} (h : zsM μ ns) (hp : zpM μ np) (hs : s < 2 ^ ns) : Sp layM mX4_began 4 [.ref 0, .int (nI s)] μ (some (.int (zbgM (zsay (μ.1 7) (μ.1 5 0) np ns) (μ.1 5 0) (μ.1 4) ns (nI s) ns))) μ := by
  have hn := h.1
  have h8 := h.2
  refine Sp.mk (L := [some (.ref 0), some (.int (nI s)), none, none]) rfl (by decide +kernel) rfl rfl (fun Q hQ => ?_)
  refine z_iload_n dX4_began_0 rfl ?_
  refine z_iconst (v := 0) dX4_began_1 (by decide) ?_
  refine z_iconst (v := 1) dX4_began_2 (by decide) ?_
  refine z_aload_n dX4_began_3 rfl ?_
  refine z_getR dX4_began_4 zf_X4_13 (by first | rfl | assumption) rfl ?_
  refine z_iconst (v := 0) dX4_began_7 (by decide) ?_
  refine z_iald dX4_began_8 (by first | rfl | assumption) rfl (by first | assumption | omega | decide) (by decide) ?_
  rw [h.1]
  refine z_ishl dX4_began_9 ?_
  refine z_iconst (v := 1) dX4_began_10 (by decide) ?_
  refine z_isub dX4_began_11 ?_
  refine z_cS3r (dy := 0) dX4_began_12 zl_X4_57 zy_X4_in (by decide) (Nat.le_of_ble_eq_true rfl) (sp_inSet_t h.2 hs) ?_
  refine z_if_ne (tgt := 20) dX4_began_15 (by decide) (fun _ => ?_) (fun hx_ => absurd hx_ (by decide))
  refine z_iconst (v := 0) dX4_began_20 (by decide) ?_
  refine z_istore_n (i := 2) dX4_began_21 rfl (by decide) ?_
  refine z_iconst (v := 0) dX4_began_22 (by decide) ?_
  refine z_istore_n (i := 3) dX4_began_23 rfl (by decide) ?_
  refine zdown (P := fun k => ZW layM mX4_began 4 Q 24 [some (.ref 0), some (.int (nI s)), some (.int (zbgM (zsay (μ.1 7) (μ.1 5 0) np ns) (μ.1 5 0) (μ.1 4) ns (nI s) k)), some (.int (nI k))] [] μ) ns ?_ ?_ 0 (Nat.zero_le _)
  · refine z_iload_n dX4_began_24 rfl ?_
    refine z_aload_n dX4_began_25 rfl ?_
    refine z_getR dX4_began_26 zf_X4_13 (by first | rfl | assumption) rfl ?_
    refine z_iconst (v := 0) dX4_began_29 (by decide) ?_
    refine z_iald dX4_began_30 (by first | rfl | assumption) rfl (by first | assumption | omega | decide) (by decide) ?_
    refine z_icmp_ge (tgt := 81) dX4_began_31 (by decide) (fun _ => ?_) (fun hx_ => absurd (by rw [hn]; exact Int32.le_refl _) hx_)
    refine z_iload_n dX4_began_81 rfl ?_
    refine z_iret dX4_began_82 rfl ?_
    exact hQ
  · intro k hk ih
    refine z_iload_n dX4_began_24 rfl ?_
    refine z_aload_n dX4_began_25 rfl ?_
    refine z_getR dX4_began_26 zf_X4_13 (by first | rfl | assumption) rfl ?_
    refine z_iconst (v := 0) dX4_began_29 (by decide) ?_
    refine z_iald dX4_began_30 (by first | rfl | assumption) rfl (by first | assumption | omega | decide) (by decide) ?_
    refine z_icmp_ge (tgt := 81) dX4_began_31 (by decide) (fun hx_ => absurd hx_ (by rw [hn]; exact nI_ge hk (by omega))) (fun _ => ?_)
    refine z_iload_n dX4_began_34 rfl ?_
    refine z_aload_n dX4_began_35 rfl ?_
    refine z_iload_n dX4_began_36 rfl ?_
    refine z_cV1r (dy := 0) dX4_began_37 zl_X4_120 zy_X4_isSound (by first | rfl | assumption) rfl (by decide) (Nat.le_of_ble_eq_true rfl) (sp_isSoundM (by omega)) ?_
    refine z_if_eqb (tgt := 72) dX4_began_40 (by decide) (fun hb40 => ?_) (fun hb40 => ?_)
    · refine z_iconst (v := 0) dX4_began_72 (by decide) ?_
      refine z_ior dX4_began_73 ?_
      refine z_istore_n (i := 2) dX4_began_74 rfl (by decide) ?_
      refine z_iinc (v := 1) dX4_began_75 rfl (by decide) (by decide) ?_
      refine z_goto (tgt := 24) dX4_began_78 (by decide) ?_
      refine ZW.eq ih rfl ?_
      simp only [zbgM, zfold, nI_succ]
      split
      · rename_i hc
        first | rfl | (exfalso; first | exact hb40 hc.1 | exact hb63 hc.2)
      · rename_i hc
        first | (simp only [Int32.or_zero]; rfl) | (exfalso; exact hc ⟨hb40, hb63⟩)
    · refine z_iload_n dX4_began_43 rfl ?_
      refine z_aload_n dX4_began_44 rfl ?_
      refine z_getR dX4_began_45 zf_X4_23 (by first | rfl | assumption) rfl ?_
      refine z_iconst (v := 0) dX4_began_48 (by decide) ?_
      refine z_iald dX4_began_49 (by first | rfl | assumption) rfl (by first | assumption | omega | decide) (by decide) ?_
      refine z_iconst (v := -1) dX4_began_50 (by decide) ?_
      refine z_ixor dX4_began_51 ?_
      refine z_iand dX4_began_52 ?_
      refine z_aload_n dX4_began_53 rfl ?_
      refine z_iconst (v := 1) dX4_began_54 (by decide) ?_
      refine z_iload_n dX4_began_55 rfl ?_
      refine z_ishl dX4_began_56 ?_
      refine z_cV1r (dy := 3) dX4_began_57 zl_X4_173 zy_X4_reach (by first | rfl | assumption) rfl (by decide) (Nat.le_of_ble_eq_true rfl) (sp_reach h hp _) ?_
      refine z_iconst (v := -1) dX4_began_60 (by decide) ?_
      refine z_ixor dX4_began_61 ?_
      refine z_iand dX4_began_62 ?_
      refine z_if_ne (tgt := 72) dX4_began_63 (by decide) (fun hb63 => ?_) (fun hb63 => ?_)
      · refine z_iconst (v := 0) dX4_began_72 (by decide) ?_
        refine z_ior dX4_began_73 ?_
        refine z_istore_n (i := 2) dX4_began_74 rfl (by decide) ?_
        refine z_iinc (v := 1) dX4_began_75 rfl (by decide) (by decide) ?_
        refine z_goto (tgt := 24) dX4_began_78 (by decide) ?_
        refine ZW.eq ih rfl ?_
        simp only [zbgM, zfold, nI_succ]
        split
        · rename_i hc
          first | rfl | (exfalso; first | exact hb40 hc.1 | exact hb63 hc.2)
        · rename_i hc
          first | (simp only [Int32.or_zero]; rfl) | (exfalso; exact hc ⟨hb40, hb63⟩)
      · refine z_iconst (v := 1) dX4_began_66 (by decide) ?_
        refine z_iload_n dX4_began_67 rfl ?_
        refine z_ishl dX4_began_68 ?_
        refine z_goto (tgt := 73) dX4_began_69 (by decide) ?_
        refine z_ior dX4_began_73 ?_
        refine z_istore_n (i := 2) dX4_began_74 rfl (by decide) ?_
        refine z_iinc (v := 1) dX4_began_75 rfl (by decide) (by decide) ?_
        refine z_goto (tgt := 24) dX4_began_78 (by decide) ?_
        refine ZW.eq ih rfl ?_
        simp only [zbgM, zfold, nI_succ]
        split
        · rename_i hc
          first | rfl | (exfalso; first | exact hb40 hc.1 | exact hb63 hc.2)
        · rename_i hc
          first | (simp only [Int32.or_zero]; rfl) | (exfalso; exact hc ⟨hb40, hb63⟩)
def zsoM (sa sn : Int32) (an : Nat → Int32) (ns : Nat) (th set : Int32) : Nat → Int32
  | 0 => -9
  | k + 1 => if (nI k &&& (sn ^^^ (-1 : Int32)) = 0 ∧ (zsoM sa sn an ns th set k = -9 ∨ zmany (nI k) < zmany (zsoM sa sn an ns th set k))) ∧ (set &&& (sn ^^^ (-1 : Int32))) &&& (zre sa an (th ||| nI k) ns 9 ^^^ (-1 : Int32)) = 0 then nI k else zsoM sa sn an ns th set k
theorem spM_sounds {μ : ZMem} {ns np n s : Nat} (h : zsM μ ns) (hp : zpM μ np) (hm : znM μ n) (hs : s < 2 ^ ns) : Sp layM mX4_sounds 4 [.ref 0, .int (nI s)] μ (some (.int (zsoM (zsay (μ.1 7) (μ.1 5 0) np ns) (μ.1 5 0) (μ.1 4) ns (zthere (μ.1 9) (fun k => μ.1 9 (30 + k)) (μ.1 9 121) (μ.1 8 0) n) (nI s) (2 ^ ns)))) μ := by
  have hn := h.1
  have h8 := h.2
  have hpw := zpow_le ns (by omega)
  have hsz : (1 : Int32) <<< (μ.1 2 0 &&& 31) = nI (2 ^ ns) := by rw [hn]; exact zsh ns (by omega)
  refine Sp.mk (L := [some (.ref 0), some (.int (nI s)), none, none, none]) rfl (by decide +kernel) rfl rfl (fun Q hQ => ?_)
  refine z_iload_n dX4_sounds_0 rfl ?_
  refine z_iconst (v := 0) dX4_sounds_1 (by decide) ?_
  refine z_iconst (v := 1) dX4_sounds_2 (by decide) ?_
  refine z_aload_n dX4_sounds_3 rfl ?_
  refine z_getR dX4_sounds_4 zf_X4_13 (by first | rfl | assumption) rfl ?_
  refine z_iconst (v := 0) dX4_sounds_7 (by decide) ?_
  refine z_iald dX4_sounds_8 (by first | rfl | assumption) rfl (by first | assumption | omega | decide) (by decide) ?_
  rw [h.1]
  refine z_ishl dX4_sounds_9 ?_
  refine z_iconst (v := 1) dX4_sounds_10 (by decide) ?_
  refine z_isub dX4_sounds_11 ?_
  refine z_cS3r (dy := 0) dX4_sounds_12 zl_X4_57 zy_X4_in (by decide) (Nat.le_of_ble_eq_true rfl) (sp_inSet_t h.2 hs) ?_
  refine z_if_ne (tgt := 20) dX4_sounds_15 (by decide) (fun _ => ?_) (fun hx_ => absurd hx_ (by decide))
  refine z_bipush (v := -9) dX4_sounds_20 (by decide) ?_
  refine z_istore_n (i := 2) dX4_sounds_22 rfl (by decide) ?_
  refine z_iconst (v := 0) dX4_sounds_23 (by decide) ?_
  refine z_istore_n (i := 3) dX4_sounds_24 rfl (by decide) ?_
  have hthS := sp_thereM hm (μ.1 9 121)
  generalize zthere (μ.1 9) (fun k => μ.1 9 (30 + k)) (μ.1 9 121) (μ.1 8 0) n = th at hQ hthS
  have key : ∀ k, k ≤ 2 ^ ns → ∀ z, ZW layM mX4_sounds 4 Q 25 [some (.ref 0), some (.int (nI s)), some (.int (zsoM (zsay (μ.1 7) (μ.1 5 0) np ns) (μ.1 5 0) (μ.1 4) ns th (nI s) k)), some (.int (nI k)), z] [] μ := by
    refine zdown (2 ^ ns) ?_ ?_
    · intro z
      refine z_iload_n dX4_sounds_25 rfl ?_
      refine z_iconst (v := 1) dX4_sounds_26 (by decide) ?_
      refine z_aload_n dX4_sounds_27 rfl ?_
      refine z_getR dX4_sounds_28 zf_X4_13 (by first | rfl | assumption) rfl ?_
      refine z_iconst (v := 0) dX4_sounds_31 (by decide) ?_
      refine z_iald dX4_sounds_32 (by first | rfl | assumption) rfl (by first | assumption | omega | decide) (by decide) ?_
      refine z_ishl dX4_sounds_33 ?_
      refine z_icmp_ge (tgt := 124) dX4_sounds_34 (by decide) (fun _ => ?_) (fun hx_ => absurd (by rw [hsz]; exact Int32.le_refl _) hx_)
      refine z_iload_n dX4_sounds_124 rfl ?_
      refine z_iret dX4_sounds_125 rfl ?_
      exact hQ
    · intro k hk ih z
      generalize hfd : zsoM (zsay (μ.1 7) (μ.1 5 0) np ns) (μ.1 5 0) (μ.1 4) ns th (nI s) k = fd
      have es : zsoM (zsay (μ.1 7) (μ.1 5 0) np ns) (μ.1 5 0) (μ.1 4) ns th (nI s) (k + 1) = if (nI k &&& (μ.1 5 0 ^^^ (-1 : Int32)) = 0 ∧ (fd = -9 ∨ zmany (nI k) < zmany fd)) ∧ (nI s &&& (μ.1 5 0 ^^^ (-1 : Int32))) &&& (zre (zsay (μ.1 7) (μ.1 5 0) np ns) (μ.1 4) (th ||| nI k) ns 9 ^^^ (-1 : Int32)) = 0 then nI k else fd := by rw [← hfd]; rfl
      have yes : (nI k &&& (μ.1 5 0 ^^^ (-1 : Int32)) = 0 ∧ (fd = -9 ∨ zmany (nI k) < zmany fd)) → ZW layM mX4_sounds 4 Q 72 [some (.ref 0), some (.int (nI s)), some (.int fd), some (.int (nI k)), z] [.int 1] μ := by
        intro hy
        refine z_istore dX4_sounds_72 (by decide) ?_
        refine z_iload dX4_sounds_74 rfl ?_
        refine z_if_eq (tgt := 116) dX4_sounds_76 (by decide) (fun hx_ => absurd hx_ (by decide)) (fun _ => ?_)
        refine z_iload_n dX4_sounds_79 rfl ?_
        refine z_aload_n dX4_sounds_80 rfl ?_
        refine z_getR dX4_sounds_81 zf_X4_23 (by first | rfl | assumption) rfl ?_
        refine z_iconst (v := 0) dX4_sounds_84 (by decide) ?_
        refine z_iald dX4_sounds_85 (by first | rfl | assumption) rfl (by first | assumption | omega | decide) (by decide) ?_
        refine z_iconst (v := -1) dX4_sounds_86 (by decide) ?_
        refine z_ixor dX4_sounds_87 ?_
        refine z_iand dX4_sounds_88 ?_
        refine z_aload_n dX4_sounds_89 rfl ?_
        refine z_aload_n dX4_sounds_90 rfl ?_
        refine z_aload_n dX4_sounds_91 rfl ?_
        refine z_getR dX4_sounds_92 zf_X4_35 (by first | rfl | assumption) rfl ?_
        refine z_bipush (v := 121) dX4_sounds_95 (by decide) ?_
        refine z_iald dX4_sounds_97 (by first | rfl | assumption) rfl (by first | assumption | omega | decide) (by decide) ?_
        refine z_cV1r (dy := 1) dX4_sounds_98 zl_X4_133 zy_X4_there (by first | rfl | assumption) rfl (by decide) (Nat.le_of_ble_eq_true rfl) hthS ?_
        refine z_iload_n dX4_sounds_101 rfl ?_
        refine z_ior dX4_sounds_102 ?_
        refine z_cV1r (dy := 3) dX4_sounds_103 zl_X4_173 zy_X4_reach (by first | rfl | assumption) rfl (by decide) (Nat.le_of_ble_eq_true rfl) (sp_reach h hp _) ?_
        refine z_iconst (v := -1) dX4_sounds_106 (by decide) ?_
        refine z_ixor dX4_sounds_107 ?_
        refine z_iand dX4_sounds_108 ?_
        refine z_if_ne (tgt := 116) dX4_sounds_109 (by decide) (fun hb109 => ?_) (fun hb109 => ?_)
        · refine z_iload_n dX4_sounds_116 rfl ?_
          refine z_istore_n (i := 2) dX4_sounds_117 rfl (by decide) ?_
          refine z_iinc (v := 1) dX4_sounds_118 rfl (by decide) (by decide) ?_
          refine z_goto (tgt := 25) dX4_sounds_121 (by decide) ?_
          refine ZW.eq (ih (some (.int 1))) rfl ?_
          rw [es, nI_succ k]
          split
          · rename_i hc
            first | rfl | (exfalso; exact hb109 hc.2)
          · rename_i hc
            first | rfl | (exfalso; exact hc ⟨hy, hb109⟩)
        · refine z_iload_n dX4_sounds_112 rfl ?_
          refine z_goto (tgt := 117) dX4_sounds_113 (by decide) ?_
          refine z_istore_n (i := 2) dX4_sounds_117 rfl (by decide) ?_
          refine z_iinc (v := 1) dX4_sounds_118 rfl (by decide) (by decide) ?_
          refine z_goto (tgt := 25) dX4_sounds_121 (by decide) ?_
          refine ZW.eq (ih (some (.int 1))) rfl ?_
          rw [es, nI_succ k]
          split
          · rename_i hc
            first | rfl | (exfalso; exact hb109 hc.2)
          · rename_i hc
            first | rfl | (exfalso; exact hc ⟨hy, hb109⟩)
      have no : ¬ (nI k &&& (μ.1 5 0 ^^^ (-1 : Int32)) = 0 ∧ (fd = -9 ∨ zmany (nI k) < zmany fd)) → ZW layM mX4_sounds 4 Q 72 [some (.ref 0), some (.int (nI s)), some (.int fd), some (.int (nI k)), z] [.int 0] μ := by
        intro hy
        refine z_istore dX4_sounds_72 (by decide) ?_
        refine z_iload dX4_sounds_74 rfl ?_
        refine z_if_eq (tgt := 116) dX4_sounds_76 (by decide) (fun _ => ?_) (fun hx_ => absurd (rfl) hx_)
        refine z_iload_n dX4_sounds_116 rfl ?_
        refine z_istore_n (i := 2) dX4_sounds_117 rfl (by decide) ?_
        refine z_iinc (v := 1) dX4_sounds_118 rfl (by decide) (by decide) ?_
        refine z_goto (tgt := 25) dX4_sounds_121 (by decide) ?_
        refine ZW.eq (ih (some (.int 0))) rfl ?_
        rw [es, if_neg (fun q => hy q.1), nI_succ k]
        rfl
      refine z_iload_n dX4_sounds_25 rfl ?_
      refine z_iconst (v := 1) dX4_sounds_26 (by decide) ?_
      refine z_aload_n dX4_sounds_27 rfl ?_
      refine z_getR dX4_sounds_28 zf_X4_13 (by first | rfl | assumption) rfl ?_
      refine z_iconst (v := 0) dX4_sounds_31 (by decide) ?_
      refine z_iald dX4_sounds_32 (by first | rfl | assumption) rfl (by first | assumption | omega | decide) (by decide) ?_
      refine z_ishl dX4_sounds_33 ?_
      refine z_icmp_ge (tgt := 124) dX4_sounds_34 (by decide) (fun hx_ => absurd hx_ (by rw [hsz]; exact nI_ge hk (by omega))) (fun _ => ?_)
      refine z_iload_n dX4_sounds_37 rfl ?_
      refine z_aload_n dX4_sounds_38 rfl ?_
      refine z_getR dX4_sounds_39 zf_X4_23 (by first | rfl | assumption) rfl ?_
      refine z_iconst (v := 0) dX4_sounds_42 (by decide) ?_
      refine z_iald dX4_sounds_43 (by first | rfl | assumption) rfl (by first | assumption | omega | decide) (by decide) ?_
      refine z_iconst (v := -1) dX4_sounds_44 (by decide) ?_
      refine z_ixor dX4_sounds_45 ?_
      refine z_iand dX4_sounds_46 ?_
      refine z_if_ne (tgt := 71) dX4_sounds_47 (by decide) (fun hb47 => ?_) (fun hb47 => ?_)
      · refine z_iconst (v := 0) dX4_sounds_71 (by decide) ?_
        first | exact yes ⟨hb47, Or.inl hb53⟩ | exact yes ⟨hb47, Or.inr (Int32.not_le.mp hb64)⟩ | (refine no ?_; rintro ⟨q1, q2⟩; first | exact hb47 q1 | (rcases q2 with q2 | q2; exact hb53 q2; exact Int32.not_lt.mpr hb64 q2))
      · refine z_iload_n dX4_sounds_50 rfl ?_
        refine z_bipush (v := -9) dX4_sounds_51 (by decide) ?_
        refine z_icmp_eq (tgt := 67) dX4_sounds_53 (by decide) (fun hb53 => ?_) (fun hb53 => ?_)
        · refine z_iconst (v := 1) dX4_sounds_67 (by decide) ?_
          refine z_goto (tgt := 72) dX4_sounds_68 (by decide) ?_
          first | exact yes ⟨hb47, Or.inl hb53⟩ | exact yes ⟨hb47, Or.inr (Int32.not_le.mp hb64)⟩ | (refine no ?_; rintro ⟨q1, q2⟩; first | exact hb47 q1 | (rcases q2 with q2 | q2; exact hb53 q2; exact Int32.not_lt.mpr hb64 q2))
        · refine z_iload_n dX4_sounds_56 rfl ?_
          refine z_cS1r (dy := 0) dX4_sounds_57 zl_X4_170 zy_X4_manyOf (by decide) (Nat.le_of_ble_eq_true rfl) (sp_manyOf _) ?_
          refine z_iload_n dX4_sounds_60 rfl ?_
          refine z_cS1r (dy := 0) dX4_sounds_61 zl_X4_170 zy_X4_manyOf (by decide) (Nat.le_of_ble_eq_true rfl) (sp_manyOf _) ?_
          refine z_icmp_ge (tgt := 71) dX4_sounds_64 (by decide) (fun hb64 => ?_) (fun hb64 => ?_)
          · refine z_iconst (v := 0) dX4_sounds_71 (by decide) ?_
            first | exact yes ⟨hb47, Or.inl hb53⟩ | exact yes ⟨hb47, Or.inr (Int32.not_le.mp hb64)⟩ | (refine no ?_; rintro ⟨q1, q2⟩; first | exact hb47 q1 | (rcases q2 with q2 | q2; exact hb53 q2; exact Int32.not_lt.mpr hb64 q2))
          · refine z_iconst (v := 1) dX4_sounds_67 (by decide) ?_
            refine z_goto (tgt := 72) dX4_sounds_68 (by decide) ?_
            first | exact yes ⟨hb47, Or.inl hb53⟩ | exact yes ⟨hb47, Or.inr (Int32.not_le.mp hb64)⟩ | (refine no ?_; rintro ⟨q1, q2⟩; first | exact hb47 q1 | (rcases q2 with q2 | q2; exact hb53 q2; exact Int32.not_lt.mpr hb64 q2))
  exact key 0 (Nat.zero_le _) none

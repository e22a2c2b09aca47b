/-! ===== AnswerSquare: chain, sounds, began, odds, orders ===== -/
theorem zsh : ∀ k, k < 9 → (1 : Int32) <<< (nI k &&& 31) = nI (2 ^ k) := by decide +kernel
theorem zpow_le : ∀ k, k < 9 → 2 ^ k ≤ 256 := by decide
theorem sp_hasAll_t {μ : ZMem} {dd ns s : Nat} (h : zdS μ dd ns) (hs : s < 2 ^ ns) : Sp layC mX0_hasAll 1 [.ref dd, .int (nI s)] μ (some (.int 1)) μ := by
  have hp := zpow_le ns (by have := h.2.2; omega)
  refine Sp.eq (sp_hasAll h (nI s)) ?_ rfl
  rw [h.2.1, zsh ns (by have := h.2.2; omega), if_pos ⟨nI_pos (by omega), nI_ge hs (by omega)⟩]
theorem sp_hasAll_f {μ : ZMem} {dd ns : Nat} (h : zdS μ dd ns) {i : Int32} (hi : i < 0 ∨ nI (2 ^ ns) ≤ i) : Sp layC mX0_hasAll 1 [.ref dd, .int i] μ (some (.int 0)) μ := by
  refine Sp.eq (sp_hasAll h i) ?_ rfl
  rw [h.2.1, zsh ns (by have := h.2.2; omega), if_neg]
  rintro ⟨h1, h2⟩
  exact hi.elim h1 h2
/-- the lowest of eight bits -/
def zlow (x : Int32) : Int32 := zff (fun k => decide (zbt x (nI k))) 0 8
theorem sp_lowest {lay : List ZE} {μ : ZMem} (x : Int32) : Sp lay mX3_lowest 0 [.int x] μ (some (.int (zlow x))) μ := by
  refine Sp.mk (L := [some (.int x), none]) rfl (by decide +kernel) rfl rfl (fun Q hQ => ?_)
  refine z_iconst (v := 0) dX3_lowest_0 (by decide) ?_
  refine z_istore_n (i := 1) dX3_lowest_1 rfl (by decide) ?_
  unfold zlow at hQ
  generalize hp : (fun k => decide (zbt x (nI k))) = p at hQ
  refine zdown (P := fun k => zff p 0 8 = zff p k (8 - k) → ZW lay mX3_lowest 0 Q 2 [some (.int x), some (.int (nI k))] [] μ) 8 ?_ ?_ 0 (Nat.zero_le 8) rfl
  · intro e
    refine z_iload_n dX3_lowest_2 rfl ?_
    refine z_bipush (v := 8) dX3_lowest_3 (by decide) ?_
    refine z_icmp_ge (tgt := 24) dX3_lowest_5 (by decide) (fun _ => ?_) (fun hx_ => absurd (by decide) hx_)
    refine z_bipush (v := -9) dX3_lowest_24 (by decide) ?_
    refine z_iret dX3_lowest_26 rfl ?_
    rw [e, zff_end] at hQ
    exact hQ
  · intro k hk ih e
    rw [zff_step hk] at e
    refine z_iload_n dX3_lowest_2 rfl ?_
    refine z_bipush (v := 8) dX3_lowest_3 (by decide) ?_
    refine z_icmp_ge (tgt := 24) dX3_lowest_5 (by decide) (fun hx_ => absurd hx_ (nI_ge (b := 8) (by omega) (by decide))) (fun _ => ?_)
    refine z_iload_n dX3_lowest_8 rfl ?_
    refine z_iconst (v := 1) dX3_lowest_9 (by decide) ?_
    refine z_iload_n dX3_lowest_10 rfl ?_
    refine z_ishl dX3_lowest_11 ?_
    refine z_iand dX3_lowest_12 ?_
    refine z_if_eq (tgt := 18) dX3_lowest_13 (by decide) (fun hb13 => ?_) (fun hb13 => ?_)
    · refine z_iinc (v := 1) dX3_lowest_18 rfl (by decide) (by decide) ?_
      refine z_goto (tgt := 2) dX3_lowest_21 (by decide) ?_
      exact ZW.eq (ih (by rw [e, if_neg (by rw [← hp]; simpa using hb13)])) rfl (by simp [nI_succ])
    · refine z_iload_n dX3_lowest_16 rfl ?_
      refine z_iret dX3_lowest_17 rfl ?_
      rw [e, if_pos (by rw [← hp]; simpa using hb13)] at hQ
      exact hQ
/-- what is so many sayings short of w -/
def zly (sa : Int32) (an : Nat → Int32) (ns : Nat) (w : Int32) : Nat → Int32
  | 0 => sa &&& (1 <<< (w &&& 31))
  | k + 1 => zab an (zly sa an ns w k) ns &&& sa
def zlm (μ : ZMem) (f : Nat → Int32) (k : Nat) : ZMem := (fun a b => if a = 33 ∧ b < k then f b else μ.1 a b, μ.2)
theorem zlm_put (μ : ZMem) (f : Nat → Int32) (k : Nat) : zI (zlm μ f k) 33 k (f k) = zlm μ f (k + 1) := by
  refine Prod.ext (funext fun a => funext fun b => ?_) rfl
  simp only [zlm, zI, zup]
  by_cases ha : a = 33
  · subst ha
    by_cases hb : b = k
    · subst hb; simp
    · by_cases hlt : b < k
      · simp [hb, hlt, show b < k + 1 by omega]
      · simp [hb, hlt, show ¬ b < k + 1 by omega]
  · simp [ha]
theorem zlm_0 (μ : ZMem) (f : Nat → Int32) : zlm μ f 0 = μ := by
  refine Prod.ext (funext fun a => funext fun b => ?_) rfl
  simp [zlm]
theorem zlm_c {μ : ZMem} {f : Nat → Int32} {k c : Nat} (h : c ≠ 33) : (zlm μ f k).1 c = μ.1 c := by
  funext b; simp [zlm, h]
theorem zDu.ne {dd c : Nat} (h : zDu dd) (hc : 11 ≤ c) : dd ≠ c ∧ dd + 1 ≠ c ∧ dd + 2 ≠ c ∧ dd + 3 ≠ c := by
  rcases h with rfl | rfl <;> omega
theorem zlm_S {μ : ZMem} {f : Nat → Int32} {k dd ns : Nat} (h : zdS μ dd ns) : zdS (zlm μ f k) dd ns :=
  ⟨h.1, by rw [zlm_c (h.1.ne (by omega)).1]; exact h.2.1, h.2.2⟩
theorem sp_answeredBy_l {μ : ZMem} {f : Nat → Int32} {k dd ns : Nat} (h : zdS μ dd ns) (set : Int32) : Sp layC mX0_answeredBy 0 [.ref dd, .int set] (zlm μ f k) (some (.int (zab (μ.1 (dd + 2)) set ns))) (zlm μ f k) := by
  have := sp_answeredBy (zlm_S (f := f) (k := k) h) set
  rwa [zlm_c (h.1.ne (by omega)).2.2.1] at this
theorem sp_chainLength {μ : ZMem} {ns m : Nat} (h : zdS μ (μ.2.2 0 1) ns) (w st : Int32) (hm : m ≤ 8) (hb : ∀ j, j < m → zly (μ.1 (μ.2.2 0 1) 8) (μ.1 ((μ.2.2 0 1) + 2)) ns w j &&& st = 0) (he : m < 8 → ¬ zly (μ.1 (μ.2.2 0 1) 8) (μ.1 ((μ.2.2 0 1) + 2)) ns w m &&& st = 0) :
    Sp layC mX3_chainLength 1 [.ref 0, .int w, .int st] μ (some (.int (if m < 8 then nI m + 1 else -9))) (zlm μ (zly (μ.1 (μ.2.2 0 1) 8) (μ.1 ((μ.2.2 0 1) + 2)) ns w) (if m < 8 then m + 1 else 8)) := by
  have hl0 := h.1.l0
  refine Sp.mk (L := [some (.ref 0), some (.int w), some (.int st), none, none]) rfl (by decide +kernel) rfl rfl (fun Q hQ => ?_)
  refine z_aload_n dX3_chainLength_0 rfl ?_
  refine z_getM dX3_chainLength_1 zf_X3_19 (by first | rfl | assumption) rfl ?_
  refine z_getI dX3_chainLength_4 zf_X3_195 (by first | rfl | assumption) rfl ?_
  refine z_iconst (v := 1) dX3_chainLength_7 (by decide) ?_
  refine z_iload_n dX3_chainLength_8 rfl ?_
  refine z_ishl dX3_chainLength_9 ?_
  refine z_iand dX3_chainLength_10 ?_
  refine z_istore_n (i := 3) dX3_chainLength_11 rfl (by decide) ?_
  refine z_iconst (v := 0) dX3_chainLength_12 (by decide) ?_
  refine z_istore dX3_chainLength_13 (by decide) ?_
  generalize hf : zly (μ.1 (μ.2.2 0 1) 8) (μ.1 ((μ.2.2 0 1) + 2)) ns w = f at hb he hQ
  have key := zdown (P := fun k => ZW layC mX3_chainLength 1 Q 15 [some (.ref 0), some (.int w), some (.int st), some (.int (f k)), some (.int (nI k))] [] (zlm μ f k)) m ?_ ?_ 0 (Nat.zero_le m)
  · exact ZW.eq key rfl (by rw [← hf]; rfl) rfl (zlm_0 μ f).symm
  · by_cases h8 : m < 8
    · rw [if_pos h8, if_pos h8] at hQ
      refine z_iload dX3_chainLength_15 rfl ?_
      refine z_bipush (v := 8) dX3_chainLength_17 (by decide) ?_
      refine z_icmp_ge (tgt := 64) dX3_chainLength_19 (by decide) (fun hx_ => absurd hx_ (nI_ge (b := 8) (by omega) (by decide))) (fun _ => ?_)
      refine z_aload_n dX3_chainLength_22 rfl ?_
      refine z_getR dX3_chainLength_23 zf_X3_47 (by first | rfl | assumption) rfl ?_
      refine z_iload dX3_chainLength_26 rfl ?_
      refine z_iload_n dX3_chainLength_28 rfl ?_
      refine z_iast dX3_chainLength_29 (by first | rfl | assumption) rfl (by first | assumption | omega | decide) (by decide) ?_
      rw [zlm_put]
      refine z_iload_n dX3_chainLength_30 rfl ?_
      refine z_iload_n dX3_chainLength_31 rfl ?_
      refine z_iand dX3_chainLength_32 ?_
      refine z_if_eq (tgt := 41) dX3_chainLength_33 (by decide) (fun hx_ => absurd hx_ (he h8)) (fun _ => ?_)
      refine z_iload dX3_chainLength_36 rfl ?_
      refine z_iconst (v := 1) dX3_chainLength_38 (by decide) ?_
      refine z_iadd dX3_chainLength_39 ?_
      refine z_iret dX3_chainLength_40 rfl ?_
      exact hQ
    · have e8 : m = 8 := by omega
      subst e8
      refine z_iload dX3_chainLength_15 rfl ?_
      refine z_bipush (v := 8) dX3_chainLength_17 (by decide) ?_
      refine z_icmp_ge (tgt := 64) dX3_chainLength_19 (by decide) (fun _ => ?_) (fun hx_ => absurd (by decide) hx_)
      refine z_bipush (v := -9) dX3_chainLength_64 (by decide) ?_
      refine z_iret dX3_chainLength_66 rfl ?_
      exact hQ
  · intro k hk ih
    refine z_iload dX3_chainLength_15 rfl ?_
    refine z_bipush (v := 8) dX3_chainLength_17 (by decide) ?_
    refine z_icmp_ge (tgt := 64) dX3_chainLength_19 (by decide) (fun hx_ => absurd hx_ (nI_ge (b := 8) (by omega) (by decide))) (fun _ => ?_)
    refine z_aload_n dX3_chainLength_22 rfl ?_
    refine z_getR dX3_chainLength_23 zf_X3_47 (by first | rfl | assumption) rfl ?_
    refine z_iload dX3_chainLength_26 rfl ?_
    refine z_iload_n dX3_chainLength_28 rfl ?_
    refine z_iast dX3_chainLength_29 (by first | rfl | assumption) rfl (by first | assumption | omega | decide) (by decide) ?_
    rw [zlm_put]
    refine z_iload_n dX3_chainLength_30 rfl ?_
    refine z_iload_n dX3_chainLength_31 rfl ?_
    refine z_iand dX3_chainLength_32 ?_
    refine z_if_eq (tgt := 41) dX3_chainLength_33 (by decide) (fun _ => ?_) (fun hx_ => absurd (hb k hk) hx_)
    refine z_aload_n dX3_chainLength_41 rfl ?_
    refine z_getM dX3_chainLength_42 zf_X3_19 (by first | rfl | assumption) rfl ?_
    refine z_iload_n dX3_chainLength_45 rfl ?_
    refine z_cV1r (dy := 0) dX3_chainLength_46 zl_X3_198 zy_X0_answeredBy (by first | rfl | assumption) rfl (by decide) (Nat.le_of_ble_eq_true rfl) (sp_answeredBy_l h _) ?_
    refine z_aload_n dX3_chainLength_49 rfl ?_
    refine z_getM dX3_chainLength_50 zf_X3_19 (by first | rfl | assumption) rfl ?_
    refine z_getI dX3_chainLength_53 zf_X3_195 (by first | rfl | assumption) rfl ?_
    refine z_iand dX3_chainLength_56 ?_
    refine z_istore_n (i := 3) dX3_chainLength_57 rfl (by decide) ?_
    refine z_iinc (v := 1) dX3_chainLength_58 rfl (by decide) (by decide) ?_
    refine z_goto (tgt := 15) dX3_chainLength_61 (by decide) ?_
    refine ZW.eq ih rfl ?_
    rw [nI_succ, show f (k + 1) = zab (μ.1 ((μ.2.2 0 1) + 2)) (f k) ns &&& μ.1 (μ.2.2 0 1) 8 by rw [← hf]; rfl, show (zlm μ f (k + 1)).1 ((zlm μ f (k + 1)).2.2 0 1) = μ.1 (μ.2.2 0 1) from zlm_c (h.1.ne (by omega)).1]
    rfl
/-- a chain's steps: what may come next, and the step -/
def zcs (sa : Int32) (an : Nat → Int32) (ns : Nat) (ly : Nat → Int32) (m : Nat) (st : Int32) : Nat → Int32 × Int32
  | 0 => (st, -9)
  | k + 1 => (zan sa an (1 <<< (zlow ((zcs sa an ns ly m st k).1 &&& ly (m - k)) &&& 31)) ns, zlow ((zcs sa an ns ly m st k).1 &&& ly (m - k)))
theorem sp_chainStep {μ : ZMem} {ns m q : Nat} (h : zdS μ (μ.2.2 0 1) ns) (st : Int32) (hm : m < 8) (hq : q ≤ m) : Sp layC mX3_chainStep 3 [.ref 0, .int (nI (m + 1)), .int (nI q), .int st] μ (some (.int (zcs (μ.1 (μ.2.2 0 1) 8) (μ.1 ((μ.2.2 0 1) + 2)) ns (μ.1 33) m st (q + 1)).2)) μ := by
  have hl0 := h.1.l0
  refine Sp.mk (L := [some (.ref 0), some (.int (nI (m + 1))), some (.int (nI q)), some (.int st), none, none, none]) rfl (by decide +kernel) rfl rfl (fun Q hQ => ?_)
  refine z_iload_n dX3_chainStep_0 rfl ?_
  refine z_istore dX3_chainStep_1 (by decide) ?_
  refine z_bipush (v := -9) dX3_chainStep_3 (by decide) ?_
  refine z_istore dX3_chainStep_5 (by decide) ?_
  refine z_iconst (v := 0) dX3_chainStep_7 (by decide) ?_
  refine z_istore dX3_chainStep_8 (by decide) ?_
  refine zdown (P := fun k => ZW layC mX3_chainStep 3 Q 10 [some (.ref 0), some (.int (nI (m + 1))), some (.int (nI q)), some (.int st), some (.int (zcs (μ.1 (μ.2.2 0 1) 8) (μ.1 ((μ.2.2 0 1) + 2)) ns (μ.1 33) m st k).1), some (.int (zcs (μ.1 (μ.2.2 0 1) 8) (μ.1 ((μ.2.2 0 1) + 2)) ns (μ.1 33) m st k).2), some (.int (nI k))] [] μ) (q + 1) ?_ ?_ 0 (Nat.zero_le _)
  · refine z_iload dX3_chainStep_10 rfl ?_
    refine z_iload_n dX3_chainStep_12 rfl ?_
    refine z_icmp_gt (tgt := 66) dX3_chainStep_13 (by decide) (fun _ => ?_) (fun hx_ => absurd (nI_lt (by omega) (by omega)) hx_)
    refine z_iload dX3_chainStep_66 rfl ?_
    refine z_iret dX3_chainStep_68 rfl ?_
    exact hQ
  · intro k hk ih
    have e1 : nI (m + 1) - 1 - nI k = nI (m - k) := by rw [nI_pred, pk_sub (by omega)]
    refine z_iload dX3_chainStep_10 rfl ?_
    refine z_iload_n dX3_chainStep_12 rfl ?_
    refine z_icmp_gt (tgt := 66) dX3_chainStep_13 (by decide) (fun hx_ => absurd hx_ (nI_nlt (by omega) (by omega))) (fun _ => ?_)
    refine z_iload dX3_chainStep_16 rfl ?_
    refine z_iload_n dX3_chainStep_18 rfl ?_
    refine z_icmp_ge (tgt := 66) dX3_chainStep_19 (by decide) (fun hx_ => absurd hx_ (nI_ge (by omega) (by omega))) (fun _ => ?_)
    refine z_iload_n dX3_chainStep_22 rfl ?_
    refine z_bipush (v := 8) dX3_chainStep_23 (by decide) ?_
    refine z_icmp_gt (tgt := 66) dX3_chainStep_25 (by decide) (fun hx_ => absurd hx_ (nI_nlt (a := 8) (by omega) (by decide))) (fun _ => ?_)
    refine z_iload dX3_chainStep_28 rfl ?_
    refine z_aload_n dX3_chainStep_30 rfl ?_
    refine z_getR dX3_chainStep_31 zf_X3_47 (by first | rfl | assumption) rfl ?_
    refine z_iload_n dX3_chainStep_34 rfl ?_
    refine z_iconst (v := 1) dX3_chainStep_35 (by decide) ?_
    refine z_isub dX3_chainStep_36 ?_
    refine z_iload dX3_chainStep_37 rfl ?_
    refine z_isub dX3_chainStep_39 ?_
    refine z_iald dX3_chainStep_40 (by first | rfl | assumption) e1 (by omega) (by decide) ?_
    refine z_iand dX3_chainStep_41 ?_
    refine z_cS1r (dy := 0) dX3_chainStep_42 zl_X3_201 zy_X3_lowest (by decide) (Nat.le_of_ble_eq_true rfl) (sp_lowest _) ?_
    refine z_istore dX3_chainStep_45 (by decide) ?_
    refine z_aload_n dX3_chainStep_47 rfl ?_
    refine z_getM dX3_chainStep_48 zf_X3_19 (by first | rfl | assumption) rfl ?_
    refine z_iconst (v := 1) dX3_chainStep_51 (by decide) ?_
    refine z_iload dX3_chainStep_52 rfl ?_
    refine z_ishl dX3_chainStep_54 ?_
    refine z_cV1r (dy := 2) dX3_chainStep_55 zl_X3_107 zy_X0_answering (by first | rfl | assumption) rfl (by decide) (Nat.le_of_ble_eq_true rfl) (sp_answering h _) ?_
    refine z_istore dX3_chainStep_58 (by decide) ?_
    refine z_iinc (v := 1) dX3_chainStep_60 rfl (by decide) (by decide) ?_
    refine z_goto (tgt := 10) dX3_chainStep_63 (by decide) ?_
    exact ZW.eq ih rfl (by rw [nI_succ k]; rfl)
theorem spC_chain_bad {μ : ZMem} {ns : Nat} (h : zdS μ (μ.2.2 0 1) ns) {w i : Int32} (hb : (w < 0 ∨ nI ns ≤ w) ∨ (∃ j, j < ns ∧ w = nI j) ∧ i < -1) : Sp layC mX3_chain 4 [.ref 0, .int w, .int i] μ (some (.int (-1))) μ := by
  have hl0 := h.1.l0
  refine Sp.mk (L := [some (.ref 0), some (.int w), some (.int i), none, none]) rfl (by decide +kernel) rfl rfl (fun Q hQ => ?_)
  rcases hb with hb | ⟨⟨j, hj, hw⟩, hi⟩
  · refine z_aload_n dX3_chain_0 rfl ?_
    refine z_getM dX3_chain_1 zf_X3_19 (by first | rfl | assumption) rfl ?_
    refine z_iload_n dX3_chain_4 rfl ?_
    refine z_cV1r (dy := 0) dX3_chain_5 zl_X3_78 zy_X0_hasSaying (by first | rfl | assumption) rfl (by decide) (Nat.le_of_ble_eq_true rfl) (sp_hasSaying_f h hb) ?_
    refine z_if_eq (tgt := 16) dX3_chain_8 (by decide) (fun _ => ?_) (fun hx_ => absurd (rfl) hx_)
    refine z_iconst (v := -1) dX3_chain_16 (by decide) ?_
    refine z_iret dX3_chain_17 rfl ?_
    exact hQ
  · refine z_aload_n dX3_chain_0 rfl ?_
    refine z_getM dX3_chain_1 zf_X3_19 (by first | rfl | assumption) rfl ?_
    refine z_iload_n dX3_chain_4 rfl ?_
    refine z_cV1r (dy := 0) dX3_chain_5 zl_X3_78 zy_X0_hasSaying (by first | rfl | assumption) rfl (by decide) (Nat.le_of_ble_eq_true rfl) (sp_hasSaying_t h hj hw) ?_
    refine z_if_eq (tgt := 16) dX3_chain_8 (by decide) (fun hx_ => absurd hx_ (by decide)) (fun _ => ?_)
    refine z_iload_n dX3_chain_11 rfl ?_
    refine z_iconst (v := -1) dX3_chain_12 (by decide) ?_
    refine z_icmp_ge (tgt := 18) dX3_chain_13 (by decide) (fun hx_ => absurd hx_ (Int32.not_le.mpr hi)) (fun _ => ?_)
    refine z_iconst (v := -1) dX3_chain_16 (by decide) ?_
    refine z_iret dX3_chain_17 rfl ?_
    exact hQ
/-- the chain's end: what may be said at once, and the layers before it -/
def zst (μ : ZMem) (ns n : Nat) : Int32 := zan (μ.1 (μ.2.2 0 1) 8) (μ.1 ((μ.2.2 0 1) + 2)) (zthere (μ.1 12) (μ.1 13) (μ.1 11 7 + 0) (μ.1 (μ.2.2 0 1) 5) n) ns
theorem spC_chain {μ : ZMem} {ns n j m : Nat} {i : Int32} (h : zdS μ (μ.2.2 0 1) ns) (hn : zmN μ n) (hj : j < ns) (hi : -1 ≤ i) (hm : m ≤ 8) (hb : ∀ k, k < m → zly (μ.1 (μ.2.2 0 1) 8) (μ.1 ((μ.2.2 0 1) + 2)) ns (nI j) k &&& zst μ ns n = 0) (he : m < 8 → ¬ zly (μ.1 (μ.2.2 0 1) 8) (μ.1 ((μ.2.2 0 1) + 2)) ns (nI j) m &&& zst μ ns n = 0) :
    Sp layC mX3_chain 4 [.ref 0, .int (nI j), .int i] μ (some (.int (if m < 8 then (if i = -1 then nI m + 1 else if nI m + 1 ≤ i then -9 else (zcs (μ.1 (μ.2.2 0 1) 8) (μ.1 ((μ.2.2 0 1) + 2)) ns (zly (μ.1 (μ.2.2 0 1) 8) (μ.1 ((μ.2.2 0 1) + 2)) ns (nI j)) m (zst μ ns n) (i.toNatClampNeg + 1)).2) else -9))) (zlm μ (zly (μ.1 (μ.2.2 0 1) 8) (μ.1 ((μ.2.2 0 1) + 2)) ns (nI j)) (if m < 8 then m + 1 else 8)) := by
  have hl0 := h.1.l0
  have hsl := sp_chainLength h (nI j) (zst μ ns n) hm hb he
  refine Sp.mk (L := [some (.ref 0), some (.int (nI j)), some (.int i), none, none]) rfl (by decide +kernel) rfl rfl (fun Q hQ => ?_)
  refine z_aload_n dX3_chain_0 rfl ?_
  refine z_getM dX3_chain_1 zf_X3_19 (by first | rfl | assumption) rfl ?_
  refine z_iload_n dX3_chain_4 rfl ?_
  refine z_cV1r (dy := 0) dX3_chain_5 zl_X3_78 zy_X0_hasSaying (by first | rfl | assumption) rfl (by decide) (Nat.le_of_ble_eq_true rfl) (sp_hasSaying_t h hj rfl) ?_
  refine z_if_eq (tgt := 16) dX3_chain_8 (by decide) (fun hx_ => absurd hx_ (by decide)) (fun _ => ?_)
  refine z_iload_n dX3_chain_11 rfl ?_
  refine z_iconst (v := -1) dX3_chain_12 (by decide) ?_
  refine z_icmp_ge (tgt := 18) dX3_chain_13 (by decide) (fun _ => ?_) (fun hx_ => absurd hi hx_)
  refine z_aload_n dX3_chain_18 rfl ?_
  refine z_getM dX3_chain_19 zf_X3_19 (by first | rfl | assumption) rfl ?_
  refine z_aload_n dX3_chain_22 rfl ?_
  refine z_cV0r (dy := 3) dX3_chain_23 zl_X3_103 zy_X3_thereNow (by first | rfl | assumption) rfl (by decide) (Nat.le_of_ble_eq_true rfl) (sp_thereNow hn h.1) ?_
  refine z_cV1r (dy := 2) dX3_chain_26 zl_X3_107 zy_X0_answering (by first | rfl | assumption) rfl (by decide) (Nat.le_of_ble_eq_true rfl) (sp_answering h _) ?_
  refine z_istore_n (i := 3) dX3_chain_29 rfl (by decide) ?_
  refine z_aload_n dX3_chain_30 rfl ?_
  refine z_iload_n dX3_chain_31 rfl ?_
  refine z_iload_n dX3_chain_32 rfl ?_
  refine z_cV2r (dy := 1) dX3_chain_33 zl_X3_188 zy_X3_chainLength (by first | rfl | assumption) rfl (by decide) (Nat.le_of_ble_eq_true rfl) hsl ?_
  refine z_istore dX3_chain_36 (by decide) ?_
  refine z_iload dX3_chain_38 rfl ?_
  refine z_bipush (v := -9) dX3_chain_40 (by decide) ?_
  by_cases h8 : m < 8
  · have h9 : ¬ nI m + 1 = -9 := by rw [nI_1]; exact nI_ne9 (by omega)
    rw [if_pos h8, if_pos h8] at hQ
    simp only [if_pos h8]
    refine z_icmp_eq (tgt := 50) dX3_chain_42 (by decide) (fun hx_ => absurd hx_ h9) (fun _ => ?_)
    refine z_iload_n dX3_chain_45 rfl ?_
    refine z_iconst (v := -1) dX3_chain_46 (by decide) ?_
    by_cases h1 : i = -1
    · rw [if_pos h1] at hQ
      refine z_icmp_ne (tgt := 53) dX3_chain_47 (by decide) (fun hx_ => absurd h1 hx_) (fun _ => ?_)
      refine z_iload dX3_chain_50 rfl ?_
      refine z_iret dX3_chain_52 rfl ?_
      exact hQ
    · rw [if_neg h1] at hQ
      refine z_icmp_ne (tgt := 53) dX3_chain_47 (by decide) (fun _ => ?_) (fun hx_ => absurd hx_ h1)
      refine z_iload_n dX3_chain_53 rfl ?_
      refine z_iload dX3_chain_54 rfl ?_
      by_cases h2 : nI m + 1 ≤ i
      · rw [if_pos h2] at hQ
        refine z_icmp_ge (tgt := 70) dX3_chain_56 (by decide) (fun _ => ?_) (fun hx_ => absurd h2 hx_)
        refine z_bipush (v := -9) dX3_chain_70 (by decide) ?_
        refine z_iret dX3_chain_72 rfl ?_
        exact hQ
      · rw [if_neg h2] at hQ
        obtain ⟨q, hq, rfl⟩ : ∃ q, q < m + 1 ∧ i = nI q := by
          rcases pk_ix i (show m + 1 < 2 ^ 31 by omega) with h3 | h3 | h3
          · exfalso
            have a1 := Int32.lt_iff_toInt_lt.mp h3
            have a2 := Int32.le_iff_toInt_le.mp hi
            have a3 : (-1 : Int32).toInt = -1 := by decide
            have a4 : (0 : Int32).toInt = 0 := by decide
            have a5 : i.toInt = (-1 : Int32).toInt := by omega
            exact h1 (Int32.toInt_inj.mp a5)
          · rw [nI_1] at h2
            exact absurd h3 h2
          · exact h3
        rw [nI_clamp (by omega)] at hQ
        have hcs := sp_chainStep (μ := zlm μ (zly (μ.1 (μ.2.2 0 1) 8) (μ.1 ((μ.2.2 0 1) + 2)) ns (nI j)) (m + 1)) (ns := ns) (m := m) (q := q) (zlm_S h) (zst μ ns n) h8 (by omega)
        have ec : ∀ k, k ≤ m + 1 → zcs ((zlm μ (zly (μ.1 (μ.2.2 0 1) 8) (μ.1 ((μ.2.2 0 1) + 2)) ns (nI j)) (m + 1)).1 (μ.2.2 0 1) 8) ((zlm μ (zly (μ.1 (μ.2.2 0 1) 8) (μ.1 ((μ.2.2 0 1) + 2)) ns (nI j)) (m + 1)).1 ((μ.2.2 0 1) + 2)) ns ((zlm μ (zly (μ.1 (μ.2.2 0 1) 8) (μ.1 ((μ.2.2 0 1) + 2)) ns (nI j)) (m + 1)).1 33) m (zst μ ns n) k = zcs (μ.1 (μ.2.2 0 1) 8) (μ.1 ((μ.2.2 0 1) + 2)) ns (zly (μ.1 (μ.2.2 0 1) 8) (μ.1 ((μ.2.2 0 1) + 2)) ns (nI j)) m (zst μ ns n) k := by
          intro k
          induction k with
          | zero => intro _; rfl
          | succ k ih =>
            intro hk
            have e33 : (zlm μ (zly (μ.1 (μ.2.2 0 1) 8) (μ.1 ((μ.2.2 0 1) + 2)) ns (nI j)) (m + 1)).1 33 (m - k) = zly (μ.1 (μ.2.2 0 1) 8) (μ.1 ((μ.2.2 0 1) + 2)) ns (nI j) (m - k) := by
              simp [zlm, show m - k < m + 1 by omega]
            simp only [zcs]
            rw [ih (by omega), e33, zlm_c (h.1.ne (by omega)).1, zlm_c (h.1.ne (by omega)).2.2.1]
        have hcs' : Sp layC mX3_chainStep 3 [.ref 0, .int (nI (m + 1)), .int (nI q), .int (zst μ ns n)] (zlm μ (zly (μ.1 (μ.2.2 0 1) 8) (μ.1 ((μ.2.2 0 1) + 2)) ns (nI j)) (m + 1)) (some (.int (zcs (μ.1 (μ.2.2 0 1) 8) (μ.1 ((μ.2.2 0 1) + 2)) ns (zly (μ.1 (μ.2.2 0 1) 8) (μ.1 ((μ.2.2 0 1) + 2)) ns (nI j)) m (zst μ ns n) (q + 1)).2)) (zlm μ (zly (μ.1 (μ.2.2 0 1) 8) (μ.1 ((μ.2.2 0 1) + 2)) ns (nI j)) (m + 1)) := by
          rw [← ec (q + 1) (by omega)]
          exact hcs
        rw [nI_1] at h2 ⊢
        refine z_icmp_ge (tgt := 70) dX3_chain_56 (by decide) (fun hx_ => absurd hx_ h2) (fun _ => ?_)
        refine z_aload_n dX3_chain_59 rfl ?_
        refine z_iload dX3_chain_60 rfl ?_
        refine z_iload_n dX3_chain_62 rfl ?_
        refine z_iload_n dX3_chain_63 rfl ?_
        refine z_cV3r (dy := 3) dX3_chain_64 zl_X3_191 zy_X3_chainStep (by first | rfl | assumption) rfl (by decide) (Nat.le_of_ble_eq_true rfl) hcs' ?_
        refine z_goto (tgt := 72) dX3_chain_67 (by decide) ?_
        refine z_iret dX3_chain_72 rfl ?_
        exact hQ
  · rw [if_neg h8, if_neg h8] at hQ
    simp only [if_neg h8]
    refine z_icmp_eq (tgt := 50) dX3_chain_42 (by decide) (fun _ => ?_) (fun hx_ => absurd (rfl) hx_)
    refine z_iload dX3_chain_50 rfl ?_
    refine z_iret dX3_chain_52 rfl ?_
    exact hQ
theorem sp_suffices {μ : ZMem} {ns : Nat} (h : zdS μ (μ.2.2 0 1) ns) (base set : Int32) : Sp layC mX3_suffices 4 [.ref 0, .int base, .int set] μ (some (.int (if (set &&& (μ.1 (μ.2.2 0 1) 7 ^^^ -1)) &&& (zre (μ.1 (μ.2.2 0 1) 8) (μ.1 ((μ.2.2 0 1) + 2)) base ns 8 ^^^ -1) = 0 then 1 else 0))) μ := by
  have hl0 := h.1.l0
  refine Sp.mk (L := [some (.ref 0), some (.int base), some (.int set)]) rfl (by decide +kernel) rfl rfl (fun Q hQ => ?_)
  refine z_iload_n dX3_suffices_0 rfl ?_
  refine z_aload_n dX3_suffices_1 rfl ?_
  refine z_getM dX3_suffices_2 zf_X3_19 (by first | rfl | assumption) rfl ?_
  refine z_getI dX3_suffices_5 zf_X3_210 (by first | rfl | assumption) rfl ?_
  refine z_iconst (v := -1) dX3_suffices_8 (by decide) ?_
  refine z_ixor dX3_suffices_9 ?_
  refine z_iand dX3_suffices_10 ?_
  refine z_aload_n dX3_suffices_11 rfl ?_
  refine z_getM dX3_suffices_12 zf_X3_19 (by first | rfl | assumption) rfl ?_
  refine z_iload_n dX3_suffices_15 rfl ?_
  refine z_cV1r (dy := 3) dX3_suffices_16 zl_X3_225 zy_X0_reachable (by first | rfl | assumption) rfl (by decide) (Nat.le_of_ble_eq_true rfl) (sp_reachable h base) ?_
  refine z_iconst (v := -1) dX3_suffices_19 (by decide) ?_
  refine z_ixor dX3_suffices_20 ?_
  refine z_iand dX3_suffices_21 ?_
  refine z_if_ne (tgt := 29) dX3_suffices_22 (by decide) (fun hb22 => ?_) (fun hb22 => ?_)
  · refine z_iconst (v := 0) dX3_suffices_29 (by decide) ?_
    refine z_zret dX3_suffices_30 rfl (by decide) ?_
    first | (rw [if_neg hb22] at hQ; exact hQ) | (rw [if_pos hb22] at hQ; exact hQ)
  · refine z_iconst (v := 1) dX3_suffices_25 (by decide) ?_
    refine z_goto (tgt := 30) dX3_suffices_26 (by decide) ?_
    refine z_zret dX3_suffices_30 rfl (by decide) ?_
    first | (rw [if_neg hb22] at hQ; exact hQ) | (rw [if_pos hb22] at hQ; exact hQ)
/-- the sounds each of which, alone, would do (bits) -/
def zbg (sa sn : Int32) (an : Nat → Int32) (ns : Nat) (set : Int32) (m : Nat) : Int32 := zfold (fun k a => if zbt sn (nI k) ∧ (set &&& (sn ^^^ (-1 : Int32))) &&& (zre sa an ((1 : Int32) <<< (nI k &&& 31)) ns 8 ^^^ (-1 : Int32)) = 0 then a ||| (1 <<< (nI k &&& 31)) else a) 0 m
theorem sp_beginnings {μ : ZMem} {ns : Nat} (h : zdS μ (μ.2.2 0 1) ns) (set : Int32) : Sp layC mX3_beginnings 5 [.ref 0, .int set] μ (some (.int (zbg (μ.1 (μ.2.2 0 1) 8) (μ.1 (μ.2.2 0 1) 7) (μ.1 ((μ.2.2 0 1) + 2)) ns set ns))) μ := by
  have hl0 := h.1.l0
  have hn := h.2.1
  have h8 := h.2.2
  refine Sp.mk (L := [some (.ref 0), some (.int set), none, none]) rfl (by decide +kernel) rfl rfl (fun Q hQ => ?_)
  refine z_iconst (v := 0) dX3_beginnings_0 (by decide) ?_
  refine z_istore_n (i := 2) dX3_beginnings_1 rfl (by decide) ?_
  refine z_iconst (v := 0) dX3_beginnings_2 (by decide) ?_
  refine z_istore_n (i := 3) dX3_beginnings_3 rfl (by decide) ?_
  refine zdown (P := fun k => ZW layC mX3_beginnings 5 Q 4 [some (.ref 0), some (.int set), some (.int (zbg (μ.1 (μ.2.2 0 1) 8) (μ.1 (μ.2.2 0 1) 7) (μ.1 ((μ.2.2 0 1) + 2)) ns set k)), some (.int (nI k))] [] μ) ns ?_ ?_ 0 (Nat.zero_le _)
  · refine z_iload_n dX3_beginnings_4 rfl ?_
    refine z_aload_n dX3_beginnings_5 rfl ?_
    refine z_getM dX3_beginnings_6 zf_X3_19 (by first | rfl | assumption) rfl ?_
    refine z_getI dX3_beginnings_9 zf_X3_207 (by first | rfl | assumption) rfl ?_
    refine z_icmp_ge (tgt := 49) dX3_beginnings_12 (by decide) (fun _ => ?_) (fun hx_ => absurd (by rw [hn]; exact Int32.le_refl _) hx_)
    refine z_iload_n dX3_beginnings_49 rfl ?_
    refine z_iret dX3_beginnings_50 rfl ?_
    exact hQ
  · intro k hk ih
    refine z_iload_n dX3_beginnings_4 rfl ?_
    refine z_aload_n dX3_beginnings_5 rfl ?_
    refine z_getM dX3_beginnings_6 zf_X3_19 (by first | rfl | assumption) rfl ?_
    refine z_getI dX3_beginnings_9 zf_X3_207 (by first | rfl | assumption) rfl ?_
    refine z_icmp_ge (tgt := 49) dX3_beginnings_12 (by decide) (fun hx_ => absurd hx_ (by rw [hn]; exact nI_ge hk (by omega))) (fun _ => ?_)
    refine z_aload_n dX3_beginnings_15 rfl ?_
    refine z_getM dX3_beginnings_16 zf_X3_19 (by first | rfl | assumption) rfl ?_
    refine z_iload_n dX3_beginnings_19 rfl ?_
    refine z_cV1r (dy := 0) dX3_beginnings_20 zl_X3_81 zy_X0_isSound (by first | rfl | assumption) rfl (by decide) (Nat.le_of_ble_eq_true rfl) (sp_isSound h.1 _) ?_
    refine z_if_eqb (tgt := 43) dX3_beginnings_23 (by decide) (fun hb23 => ?_) (fun hb23 => ?_)
    · refine z_iinc (v := 1) dX3_beginnings_43 rfl (by decide) (by decide) ?_
      refine z_goto (tgt := 4) dX3_beginnings_46 (by decide) ?_
      refine ZW.eq ih rfl ?_
      simp only [zbg, zfold, nI_succ]
      split
      · rename_i hc
        first | rfl | (exfalso; first | exact hb23 hc.1 | exact hb34 hc.2)
      · rename_i hc
        first | rfl | (exfalso; exact hc ⟨hb23, hb34⟩)
    · refine z_aload_n dX3_beginnings_26 rfl ?_
      refine z_iconst (v := 1) dX3_beginnings_27 (by decide) ?_
      refine z_iload_n dX3_beginnings_28 rfl ?_
      refine z_ishl dX3_beginnings_29 ?_
      refine z_iload_n dX3_beginnings_30 rfl ?_
      refine z_cV2r (dy := 4) dX3_beginnings_31 zl_X3_213 zy_X3_suffices (by first | rfl | assumption) rfl (by decide) (Nat.le_of_ble_eq_true rfl) (sp_suffices h _ _) ?_
      refine z_if_eqb (tgt := 43) dX3_beginnings_34 (by decide) (fun hb34 => ?_) (fun hb34 => ?_)
      · refine z_iinc (v := 1) dX3_beginnings_43 rfl (by decide) (by decide) ?_
        refine z_goto (tgt := 4) dX3_beginnings_46 (by decide) ?_
        refine ZW.eq ih rfl ?_
        simp only [zbg, zfold, nI_succ]
        split
        · rename_i hc
          first | rfl | (exfalso; first | exact hb23 hc.1 | exact hb34 hc.2)
        · rename_i hc
          first | rfl | (exfalso; exact hc ⟨hb23, hb34⟩)
      · refine z_iload_n dX3_beginnings_37 rfl ?_
        refine z_iconst (v := 1) dX3_beginnings_38 (by decide) ?_
        refine z_iload_n dX3_beginnings_39 rfl ?_
        refine z_ishl dX3_beginnings_40 ?_
        refine z_ior dX3_beginnings_41 ?_
        refine z_istore_n (i := 2) dX3_beginnings_42 rfl (by decide) ?_
        refine z_iinc (v := 1) dX3_beginnings_43 rfl (by decide) (by decide) ?_
        refine z_goto (tgt := 4) dX3_beginnings_46 (by decide) ?_
        refine ZW.eq ih rfl ?_
        simp only [zbg, zfold, nI_succ]
        split
        · rename_i hc
          first | rfl | (exfalso; first | exact hb23 hc.1 | exact hb34 hc.2)
        · rename_i hc
          first | rfl | (exfalso; exact hc ⟨hb23, hb34⟩)
theorem spC_began_bad {μ : ZMem} {ns : Nat} (h : zdS μ (μ.2.2 0 1) ns) {i : Int32} (hi : i < 0 ∨ nI (2 ^ ns) ≤ i) : Sp layC mX3_began 6 [.ref 0, .int i] μ (some (.int (-1))) μ := by
  have hl0 := h.1.l0
  refine Sp.mk (L := [some (.ref 0), some (.int i)]) rfl (by decide +kernel) rfl rfl (fun Q hQ => ?_)
  refine z_aload_n dX3_began_0 rfl ?_
  refine z_getM dX3_began_1 zf_X3_19 (by first | rfl | assumption) rfl ?_
  refine z_iload_n dX3_began_4 rfl ?_
  refine z_cV1r (dy := 1) dX3_began_5 zl_X3_204 zy_X0_hasAll (by first | rfl | assumption) rfl (by decide) (Nat.le_of_ble_eq_true rfl) (sp_hasAll_f h hi) ?_
  refine z_if_eq (tgt := 19) dX3_began_8 (by decide) (fun _ => ?_) (fun hx_ => absurd (rfl) hx_)
  refine z_iconst (v := -1) dX3_began_19 (by decide) ?_
  refine z_iret dX3_began_20 rfl ?_
  exact hQ
theorem spC_began {μ : ZMem} {ns s : Nat} (h : zdS μ (μ.2.2 0 1) ns) (hs : s < 2 ^ ns) : Sp layC mX3_began 6 [.ref 0, .int (nI s)] μ (some (.int (zbg (μ.1 (μ.2.2 0 1) 8) (μ.1 (μ.2.2 0 1) 7) (μ.1 ((μ.2.2 0 1) + 2)) ns (nI s) ns))) μ := by
  have hl0 := h.1.l0
  refine Sp.mk (L := [some (.ref 0), some (.int (nI s))]) rfl (by decide +kernel) rfl rfl (fun Q hQ => ?_)
  refine z_aload_n dX3_began_0 rfl ?_
  refine z_getM dX3_began_1 zf_X3_19 (by first | rfl | assumption) rfl ?_
  refine z_iload_n dX3_began_4 rfl ?_
  refine z_cV1r (dy := 1) dX3_began_5 zl_X3_204 zy_X0_hasAll (by first | rfl | assumption) rfl (by decide) (Nat.le_of_ble_eq_true rfl) (sp_hasAll_t h hs) ?_
  refine z_if_eq (tgt := 19) dX3_began_8 (by decide) (fun hx_ => absurd hx_ (by decide)) (fun _ => ?_)
  refine z_aload_n dX3_began_11 rfl ?_
  refine z_iload_n dX3_began_12 rfl ?_
  refine z_cV1r (dy := 5) dX3_began_13 zl_X3_222 zy_X3_beginnings (by first | rfl | assumption) rfl (by decide) (Nat.le_of_ble_eq_true rfl) (sp_beginnings h _) ?_
  refine z_goto (tgt := 20) dX3_began_16 (by decide) ?_
  refine z_iret dX3_began_20 rfl ?_
  exact hQ
theorem spC_sounds_bad {μ : ZMem} {ns : Nat} (h : zdS μ (μ.2.2 0 1) ns) {i : Int32} (hi : i < 0 ∨ nI (2 ^ ns) ≤ i) : Sp layC mX3_sounds 5 [.ref 0, .int i] μ (some (.int (-1))) μ := by
  have hl0 := h.1.l0
  refine Sp.mk (L := [some (.ref 0), some (.int i), none, none, none]) rfl (by decide +kernel) rfl rfl (fun Q hQ => ?_)
  refine z_aload_n dX3_sounds_0 rfl ?_
  refine z_getM dX3_sounds_1 zf_X3_19 (by first | rfl | assumption) rfl ?_
  refine z_iload_n dX3_sounds_4 rfl ?_
  refine z_cV1r (dy := 1) dX3_sounds_5 zl_X3_204 zy_X0_hasAll (by first | rfl | assumption) rfl (by decide) (Nat.le_of_ble_eq_true rfl) (sp_hasAll_f h hi) ?_
  refine z_if_ne (tgt := 13) dX3_sounds_8 (by decide) (fun hx_ => absurd (rfl) hx_) (fun _ => ?_)
  refine z_iconst (v := -1) dX3_sounds_11 (by decide) ?_
  refine z_iret dX3_sounds_12 rfl ?_
  exact hQ
/-- the fewest sounds that do, of the first m sets -/
def zso (sa sn : Int32) (an : Nat → Int32) (ns : Nat) (th set : Int32) : Nat → Int32
  | 0 => -9
  | k + 1 => if nI k &&& (sn ^^^ -1) = 0 ∧ ((set &&& (sn ^^^ -1)) &&& (zre sa an (th ||| nI k) ns 8 ^^^ -1) = 0) ∧ (zso sa sn an ns th set k = -9 ∨ zbc (nI k) < zbc (zso sa sn an ns th set k)) then nI k else zso sa sn an ns th set k
theorem spC_sounds {μ : ZMem} {ns n s : Nat} (h : zdS μ (μ.2.2 0 1) ns) (hm : zmN μ n) (hs : s < 2 ^ ns) : Sp layC mX3_sounds 5 [.ref 0, .int (nI s)] μ (some (.int (zso (μ.1 (μ.2.2 0 1) 8) (μ.1 (μ.2.2 0 1) 7) (μ.1 ((μ.2.2 0 1) + 2)) ns (zthere (μ.1 12) (μ.1 13) (μ.1 11 7 + 0) (μ.1 (μ.2.2 0 1) 5) n) (nI s) (2 ^ ns)))) μ := by
  have hl0 := h.1.l0
  have hn := h.2.1
  have h8 := h.2.2
  have hpw := zpow_le ns (by omega)
  have hsz : (1 : Int32) <<< (μ.1 (μ.2.2 0 1) 3 &&& 31) = nI (2 ^ ns) := by rw [hn]; exact zsh ns (by omega)
  refine Sp.mk (L := [some (.ref 0), some (.int (nI s)), none, none, none]) rfl (by decide +kernel) rfl rfl (fun Q hQ => ?_)
  refine z_aload_n dX3_sounds_0 rfl ?_
  refine z_getM dX3_sounds_1 zf_X3_19 (by first | rfl | assumption) rfl ?_
  refine z_iload_n dX3_sounds_4 rfl ?_
  refine z_cV1r (dy := 1) dX3_sounds_5 zl_X3_204 zy_X0_hasAll (by first | rfl | assumption) rfl (by decide) (Nat.le_of_ble_eq_true rfl) (sp_hasAll_t h hs) ?_
  refine z_if_ne (tgt := 13) dX3_sounds_8 (by decide) (fun _ => ?_) (fun hx_ => absurd hx_ (by decide))
  refine z_aload_n dX3_sounds_13 rfl ?_
  refine z_cV0r (dy := 3) dX3_sounds_14 zl_X3_103 zy_X3_thereNow (by first | rfl | assumption) rfl (by decide) (Nat.le_of_ble_eq_true rfl) (sp_thereNow hm h.1) ?_
  refine z_istore_n (i := 2) dX3_sounds_17 rfl (by decide) ?_
  refine z_bipush (v := -9) dX3_sounds_18 (by decide) ?_
  refine z_istore_n (i := 3) dX3_sounds_20 rfl (by decide) ?_
  refine z_iconst (v := 0) dX3_sounds_21 (by decide) ?_
  refine z_istore dX3_sounds_22 (by decide) ?_
  generalize zthere (μ.1 12) (μ.1 13) (μ.1 11 7 + 0) (μ.1 (μ.2.2 0 1) 5) n = th at hQ ⊢
  refine zdown (P := fun k => ZW layC mX3_sounds 5 Q 24 [some (.ref 0), some (.int (nI s)), some (.int th), some (.int (zso (μ.1 (μ.2.2 0 1) 8) (μ.1 (μ.2.2 0 1) 7) (μ.1 ((μ.2.2 0 1) + 2)) ns th (nI s) k)), some (.int (nI k))] [] μ) (2 ^ ns) ?_ ?_ 0 (Nat.zero_le _)
  · refine z_iload dX3_sounds_24 rfl ?_
    refine z_iconst (v := 1) dX3_sounds_26 (by decide) ?_
    refine z_aload_n dX3_sounds_27 rfl ?_
    refine z_getM dX3_sounds_28 zf_X3_19 (by first | rfl | assumption) rfl ?_
    refine z_getI dX3_sounds_31 zf_X3_207 (by first | rfl | assumption) rfl ?_
    refine z_ishl dX3_sounds_34 ?_
    refine z_icmp_ge (tgt := 92) dX3_sounds_35 (by decide) (fun _ => ?_) (fun hx_ => absurd (by rw [hsz]; exact Int32.le_refl _) hx_)
    refine z_iload_n dX3_sounds_92 rfl ?_
    refine z_iret dX3_sounds_93 rfl ?_
    exact hQ
  · intro k hk ih
    refine z_iload dX3_sounds_24 rfl ?_
    refine z_iconst (v := 1) dX3_sounds_26 (by decide) ?_
    refine z_aload_n dX3_sounds_27 rfl ?_
    refine z_getM dX3_sounds_28 zf_X3_19 (by first | rfl | assumption) rfl ?_
    refine z_getI dX3_sounds_31 zf_X3_207 (by first | rfl | assumption) rfl ?_
    refine z_ishl dX3_sounds_34 ?_
    refine z_icmp_ge (tgt := 92) dX3_sounds_35 (by decide) (fun hx_ => absurd hx_ (by rw [hsz]; exact nI_ge hk (by omega))) (fun _ => ?_)
    refine z_iload dX3_sounds_38 rfl ?_
    refine z_aload_n dX3_sounds_40 rfl ?_
    refine z_getM dX3_sounds_41 zf_X3_19 (by first | rfl | assumption) rfl ?_
    refine z_getI dX3_sounds_44 zf_X3_210 (by first | rfl | assumption) rfl ?_
    refine z_iconst (v := -1) dX3_sounds_47 (by decide) ?_
    refine z_ixor dX3_sounds_48 ?_
    refine z_iand dX3_sounds_49 ?_
    refine z_if_ne (tgt := 86) dX3_sounds_50 (by decide) (fun hb50 => ?_) (fun hb50 => ?_)
    · refine z_iinc (v := 1) dX3_sounds_86 rfl (by decide) (by decide) ?_
      refine z_goto (tgt := 24) dX3_sounds_89 (by decide) ?_
      refine ZW.eq ih rfl ?_
      simp only [zso, nI_succ]
      split
      · rename_i hc
        first | rfl | (exfalso; obtain ⟨q1, q2, q3⟩ := hc; first | exact hb50 q1 | exact hb62 q2 | (rcases q3 with q3 | q3; exact hb68 q3; exact Int32.not_lt.mpr hb80 q3))
      · rename_i hc
        first | rfl | (exfalso; apply hc; refine ⟨hb50, hb62, ?_⟩; first | exact Or.inl hb68 | exact Or.inr (Int32.not_le.mp hb80))
    · refine z_aload_n dX3_sounds_53 rfl ?_
      refine z_iload_n dX3_sounds_54 rfl ?_
      refine z_iload dX3_sounds_55 rfl ?_
      refine z_ior dX3_sounds_57 ?_
      refine z_iload_n dX3_sounds_58 rfl ?_
      refine z_cV2r (dy := 4) dX3_sounds_59 zl_X3_213 zy_X3_suffices (by first | rfl | assumption) rfl (by decide) (Nat.le_of_ble_eq_true rfl) (sp_suffices h _ _) ?_
      refine z_if_eqb (tgt := 86) dX3_sounds_62 (by decide) (fun hb62 => ?_) (fun hb62 => ?_)
      · refine z_iinc (v := 1) dX3_sounds_86 rfl (by decide) (by decide) ?_
        refine z_goto (tgt := 24) dX3_sounds_89 (by decide) ?_
        refine ZW.eq ih rfl ?_
        simp only [zso, nI_succ]
        split
        · rename_i hc
          first | rfl | (exfalso; obtain ⟨q1, q2, q3⟩ := hc; first | exact hb50 q1 | exact hb62 q2 | (rcases q3 with q3 | q3; exact hb68 q3; exact Int32.not_lt.mpr hb80 q3))
        · rename_i hc
          first | rfl | (exfalso; apply hc; refine ⟨hb50, hb62, ?_⟩; first | exact Or.inl hb68 | exact Or.inr (Int32.not_le.mp hb80))
      · refine z_iload_n dX3_sounds_65 rfl ?_
        refine z_bipush (v := -9) dX3_sounds_66 (by decide) ?_
        refine z_icmp_eq (tgt := 83) dX3_sounds_68 (by decide) (fun hb68 => ?_) (fun hb68 => ?_)
        · refine z_iload dX3_sounds_83 rfl ?_
          refine z_istore_n (i := 3) dX3_sounds_85 rfl (by decide) ?_
          refine z_iinc (v := 1) dX3_sounds_86 rfl (by decide) (by decide) ?_
          refine z_goto (tgt := 24) dX3_sounds_89 (by decide) ?_
          refine ZW.eq ih rfl ?_
          simp only [zso, nI_succ]
          split
          · rename_i hc
            first | rfl | (exfalso; obtain ⟨q1, q2, q3⟩ := hc; first | exact hb50 q1 | exact hb62 q2 | (rcases q3 with q3 | q3; exact hb68 q3; exact Int32.not_lt.mpr hb80 q3))
          · rename_i hc
            first | rfl | (exfalso; apply hc; refine ⟨hb50, hb62, ?_⟩; first | exact Or.inl hb68 | exact Or.inr (Int32.not_le.mp hb80))
        · refine z_iload dX3_sounds_71 rfl ?_
          refine z_cS1r (dy := 0) dX3_sounds_73 zl_X3_217 zy_J6_bitCount_0f7a4 (by decide) (Nat.le_of_ble_eq_true rfl) (sp_bitCount _) ?_
          refine z_iload_n dX3_sounds_76 rfl ?_
          refine z_cS1r (dy := 0) dX3_sounds_77 zl_X3_217 zy_J6_bitCount_0f7a4 (by decide) (Nat.le_of_ble_eq_true rfl) (sp_bitCount _) ?_
          refine z_icmp_ge (tgt := 86) dX3_sounds_80 (by decide) (fun hb80 => ?_) (fun hb80 => ?_)
          · refine z_iinc (v := 1) dX3_sounds_86 rfl (by decide) (by decide) ?_
            refine z_goto (tgt := 24) dX3_sounds_89 (by decide) ?_
            refine ZW.eq ih rfl ?_
            simp only [zso, nI_succ]
            split
            · rename_i hc
              first | rfl | (exfalso; obtain ⟨q1, q2, q3⟩ := hc; first | exact hb50 q1 | exact hb62 q2 | (rcases q3 with q3 | q3; exact hb68 q3; exact Int32.not_lt.mpr hb80 q3))
            · rename_i hc
              first | rfl | (exfalso; apply hc; refine ⟨hb50, hb62, ?_⟩; first | exact Or.inl hb68 | exact Or.inr (Int32.not_le.mp hb80))
          · refine z_iload dX3_sounds_83 rfl ?_
            refine z_istore_n (i := 3) dX3_sounds_85 rfl (by decide) ?_
            refine z_iinc (v := 1) dX3_sounds_86 rfl (by decide) (by decide) ?_
            refine z_goto (tgt := 24) dX3_sounds_89 (by decide) ?_
            refine ZW.eq ih rfl ?_
            simp only [zso, nI_succ]
            split
            · rename_i hc
              first | rfl | (exfalso; obtain ⟨q1, q2, q3⟩ := hc; first | exact hb50 q1 | exact hb62 q2 | (rcases q3 with q3 | q3; exact hb68 q3; exact Int32.not_lt.mpr hb80 q3))
            · rename_i hc
              first | rfl | (exfalso; apply hc; refine ⟨hb50, hb62, ?_⟩; first | exact Or.inl hb68 | exact Or.inr (Int32.not_le.mp hb80))
def zcd : Nat → Int32 → Int32 → Int32
  | 0, l, _ => l
  | m + 1, l, s => if s = 0 then l else zcd m s (l - l / s * s)
theorem sp_commonDivisor {lay : List ZE} {μ : ZMem} (a b : Int32) : Sp lay mX3_commonDivisor 0 [.int a, .int b] μ (some (.int (zcd 100 b a))) μ := by
  refine Sp.mk (L := [some (.int a), some (.int b), none, none, none, none]) rfl (by decide +kernel) rfl rfl (fun Q hQ => ?_)
  refine z_iload_n dX3_commonDivisor_0 rfl ?_
  refine z_istore_n (i := 2) dX3_commonDivisor_1 rfl (by decide) ?_
  refine z_iload_n dX3_commonDivisor_2 rfl ?_
  refine z_istore_n (i := 3) dX3_commonDivisor_3 rfl (by decide) ?_
  refine z_iconst (v := 0) dX3_commonDivisor_4 (by decide) ?_
  refine z_istore dX3_commonDivisor_5 (by decide) ?_
  have key : ∀ k, k ≤ 100 → ∀ l s z, zcd 100 b a = zcd (100 - k) l s → ZW lay mX3_commonDivisor 0 Q 7 [some (.int a), some (.int b), some (.int l), some (.int s), some (.int (nI k)), z] [] μ := by
    refine zdown 100 ?_ ?_
    · intro l s z e
      rw [e] at hQ
      refine z_iload dX3_commonDivisor_7 rfl ?_
      refine z_bipush (v := 100) dX3_commonDivisor_9 (by decide) ?_
      refine z_icmp_ge (tgt := 34) dX3_commonDivisor_11 (by decide) (fun _ => ?_) (fun hx_ => absurd (by decide) hx_)
      refine z_iload_n dX3_commonDivisor_34 rfl ?_
      refine z_iret dX3_commonDivisor_35 rfl ?_
      exact hQ
    · intro k hk ih l s z e
      rw [show 100 - k = (100 - (k + 1)) + 1 by omega] at e
      have e' : zcd 100 b a = if s = 0 then l else zcd (100 - (k + 1)) s (l - l / s * s) := e
      refine z_iload dX3_commonDivisor_7 rfl ?_
      refine z_bipush (v := 100) dX3_commonDivisor_9 (by decide) ?_
      refine z_icmp_ge (tgt := 34) dX3_commonDivisor_11 (by decide) (fun hx_ => absurd hx_ (nI_ge (b := 100) (by omega) (by decide))) (fun _ => ?_)
      refine z_iload_n dX3_commonDivisor_14 rfl ?_
      refine z_if_eq (tgt := 34) dX3_commonDivisor_15 (by decide) (fun hb15 => ?_) (fun hb15 => ?_)
      · refine z_iload_n dX3_commonDivisor_34 rfl ?_
        refine z_iret dX3_commonDivisor_35 rfl ?_
        rw [e', if_pos hb15] at hQ
        exact hQ
      · refine z_iload_n dX3_commonDivisor_18 rfl ?_
        refine z_iload_n dX3_commonDivisor_19 rfl ?_
        refine z_irem dX3_commonDivisor_20 hb15 ?_
        refine z_istore dX3_commonDivisor_21 (by decide) ?_
        refine z_iload_n dX3_commonDivisor_23 rfl ?_
        refine z_istore_n (i := 2) dX3_commonDivisor_24 rfl (by decide) ?_
        refine z_iload dX3_commonDivisor_25 rfl ?_
        refine z_istore_n (i := 3) dX3_commonDivisor_27 rfl (by decide) ?_
        refine z_iinc (v := 1) dX3_commonDivisor_28 rfl (by decide) (by decide) ?_
        refine z_goto (tgt := 7) dX3_commonDivisor_31 (by decide) ?_
        exact ZW.eq (ih s (l - l / s * s) (some (.int (l - l / s * s))) (by rw [e', if_neg hb15])) rfl (by rw [nI_succ]; rfl)
  exact key 0 (by omega) b a none rfl
def zpw (b : Int32) : Nat → Int32
  | 0 => 1
  | k + 1 => zpw b k * b
theorem spC_odds_bad {μ : ZMem} {ns : Nat} (h : zdS μ (μ.2.2 0 1) ns) {w x what : Int32} (hb : (w < 0 ∨ nI ns ≤ w) ∨ (∃ j, j < ns ∧ w = nI j) ∧ ((x < 0 ∨ 10 < x) ∨ (what < 0 ∨ 1 < what))) : Sp layC mX3_odds 6 [.ref 0, .int w, .int x, .int what] μ (some (.int (-1))) μ := by
  have hl0 := h.1.l0
  refine Sp.mk (L := [some (.ref 0), some (.int w), some (.int x), some (.int what), none, none, none, none, none]) rfl (by decide +kernel) rfl rfl (fun Q hQ => ?_)
  rcases hb with hb | ⟨⟨j, hj, hw⟩, hb⟩
  · refine z_aload_n dX3_odds_0 rfl ?_
    refine z_getM dX3_odds_1 zf_X3_19 (by first | rfl | assumption) rfl ?_
    refine z_iload_n dX3_odds_4 rfl ?_
    refine z_cV1r (dy := 0) dX3_odds_5 zl_X3_78 zy_X0_hasSaying (by first | rfl | assumption) rfl (by decide) (Nat.le_of_ble_eq_true rfl) (sp_hasSaying_f h hb) ?_
    refine z_if_eq (tgt := 30) dX3_odds_8 (by decide) (fun _ => ?_) (fun hx_ => absurd (rfl) hx_)
    refine z_iconst (v := -1) dX3_odds_30 (by decide) ?_
    refine z_iret dX3_odds_31 rfl ?_
    exact hQ
  · refine z_aload_n dX3_odds_0 rfl ?_
    refine z_getM dX3_odds_1 zf_X3_19 (by first | rfl | assumption) rfl ?_
    refine z_iload_n dX3_odds_4 rfl ?_
    refine z_cV1r (dy := 0) dX3_odds_5 zl_X3_78 zy_X0_hasSaying (by first | rfl | assumption) rfl (by decide) (Nat.le_of_ble_eq_true rfl) (sp_hasSaying_t h hj hw) ?_
    refine z_if_eq (tgt := 30) dX3_odds_8 (by decide) (fun hx_ => absurd hx_ (by decide)) (fun _ => ?_)
    refine z_iload_n dX3_odds_11 rfl ?_
    refine z_if_lt (tgt := 30) dX3_odds_12 (by decide) (fun hb12 => ?_) (fun hb12 => ?_)
    · refine z_iconst (v := -1) dX3_odds_30 (by decide) ?_
      refine z_iret dX3_odds_31 rfl ?_
      exact hQ
    · refine z_iload_n dX3_odds_15 rfl ?_
      refine z_bipush (v := 10) dX3_odds_16 (by decide) ?_
      refine z_icmp_gt (tgt := 30) dX3_odds_18 (by decide) (fun hb18 => ?_) (fun hb18 => ?_)
      · refine z_iconst (v := -1) dX3_odds_30 (by decide) ?_
        refine z_iret dX3_odds_31 rfl ?_
        exact hQ
      · have hb2 := hb.resolve_left (fun q => q.elim hb12 hb18)
        refine z_iload_n dX3_odds_21 rfl ?_
        refine z_if_lt (tgt := 30) dX3_odds_22 (by decide) (fun hb22 => ?_) (fun hb22 => ?_)
        · refine z_iconst (v := -1) dX3_odds_30 (by decide) ?_
          refine z_iret dX3_odds_31 rfl ?_
          exact hQ
        · refine z_iload_n dX3_odds_25 rfl ?_
          refine z_iconst (v := 1) dX3_odds_26 (by decide) ?_
          refine z_icmp_le (tgt := 32) dX3_odds_27 (by decide) (fun hx_ => absurd hx_ (Int32.not_le.mpr (hb2.resolve_left hb22))) (fun _ => ?_)
          refine z_iconst (v := -1) dX3_odds_30 (by decide) ?_
          refine z_iret dX3_odds_31 rfl ?_
          exact hQ
theorem spC_odds {μ : ZMem} {ns j m : Nat} {x what : Int32} (h : zdS μ (μ.2.2 0 1) ns) (hj : j < ns) (hx0 : ¬ x < 0) (hx1 : ¬ 10 < x) (hw0 : ¬ what < 0) (hw1 : ¬ 1 < what) (hm : m ≤ 100) (hc : (if zbt (μ.1 (μ.2.2 0 1) 7) (nI j) then (1 : Int32) else zbc (zbg (μ.1 (μ.2.2 0 1) 8) (μ.1 (μ.2.2 0 1) 7) (μ.1 ((μ.2.2 0 1) + 2)) ns (1 <<< (nI j &&& 31)) ns)) = nI m) :
    Sp layC mX3_odds 6 [.ref 0, .int (nI j), .int x, .int what] μ (some (.int (if zcd 100 (zpw 10 m) (zpw 10 m - zpw (10 - x) m) ≤ 0 then (if what = 0 then zpw 10 m - zpw (10 - x) m else zpw 10 m) else (if what = 0 then zpw 10 m - zpw (10 - x) m else zpw 10 m) / zcd 100 (zpw 10 m) (zpw 10 m - zpw (10 - x) m)))) μ := by
  have hl0 := h.1.l0
  refine Sp.mk (L := [some (.ref 0), some (.int (nI j)), some (.int x), some (.int what), none, none, none, none, none]) rfl (by decide +kernel) rfl rfl (fun Q hQ => ?_)
  have cont : ZW layC mX3_odds 6 Q 57 [some (.ref 0), some (.int (nI j)), some (.int x), some (.int what), none, none, none, none, none] [.int (nI m)] μ := by
    refine z_istore dX3_odds_57 (by decide) ?_
    refine z_iconst (v := 1) dX3_odds_59 (by decide) ?_
    refine z_istore dX3_odds_60 (by decide) ?_
    refine z_iconst (v := 1) dX3_odds_62 (by decide) ?_
    refine z_istore dX3_odds_63 (by decide) ?_
    refine z_iconst (v := 0) dX3_odds_65 (by decide) ?_
    refine z_istore dX3_odds_66 (by decide) ?_
    refine zdown (P := fun k => ZW layC mX3_odds 6 Q 68 [some (.ref 0), some (.int (nI j)), some (.int x), some (.int what), some (.int (nI m)), some (.int (zpw 10 k)), some (.int (zpw (10 - x) k)), some (.int (nI k)), none] [] μ) m ?_ ?_ 0 (Nat.zero_le _)
    · have tail : ZW layC mX3_odds 6 Q 111 [some (.ref 0), some (.int (nI j)), some (.int x), some (.int what), some (.int (nI m)), some (.int (zpw 10 m)), some (.int (zpw (10 - x) m)), some (.int (nI m)), none] [.int (if what = 0 then zpw 10 m - zpw (10 - x) m else zpw 10 m)] μ := by
        refine z_istore dX3_odds_111 (by decide) ?_
        refine z_iload dX3_odds_113 rfl ?_
        refine z_iload dX3_odds_115 rfl ?_
        refine z_isub dX3_odds_117 ?_
        refine z_iload dX3_odds_118 rfl ?_
        refine z_cS2r (dy := 0) dX3_odds_120 zl_X3_228 zy_X3_commonDivisor (by decide) (Nat.le_of_ble_eq_true rfl) (sp_commonDivisor _ _) ?_
        refine z_istore dX3_odds_123 (by decide) ?_
        refine z_iload dX3_odds_125 rfl ?_
        by_cases hg : zcd 100 (zpw 10 m) (zpw 10 m - zpw (10 - x) m) ≤ 0
        · rw [if_pos hg] at hQ
          refine z_if_le (tgt := 138) dX3_odds_127 (by decide) (fun _ => ?_) (fun hx_ => absurd hg hx_)
          refine z_iload dX3_odds_138 rfl ?_
          refine z_iret dX3_odds_140 rfl ?_
          exact hQ
        · rw [if_neg hg] at hQ
          refine z_if_le (tgt := 138) dX3_odds_127 (by decide) (fun hx_ => absurd hx_ hg) (fun _ => ?_)
          refine z_iload dX3_odds_130 rfl ?_
          refine z_iload dX3_odds_132 rfl ?_
          refine z_idiv dX3_odds_134 (fun e => hg (by rw [e]; decide)) ?_
          refine z_goto (tgt := 140) dX3_odds_135 (by decide) ?_
          refine z_iret dX3_odds_140 rfl ?_
          exact hQ
      refine z_iload dX3_odds_68 rfl ?_
      refine z_iload dX3_odds_70 rfl ?_
      refine z_icmp_ge (tgt := 97) dX3_odds_72 (by decide) (fun _ => ?_) (fun hx_ => absurd (Int32.le_refl _) hx_)
      refine z_iload_n dX3_odds_97 rfl ?_
      refine z_if_ne (tgt := 109) dX3_odds_98 (by decide) (fun hb98 => ?_) (fun hb98 => ?_)
      · refine z_iload dX3_odds_109 rfl ?_
        first | (rw [if_neg hb98] at tail; exact tail) | (rw [if_pos hb98] at tail; exact tail)
      · refine z_iload dX3_odds_101 rfl ?_
        refine z_iload dX3_odds_103 rfl ?_
        refine z_isub dX3_odds_105 ?_
        refine z_goto (tgt := 111) dX3_odds_106 (by decide) ?_
        first | (rw [if_neg hb98] at tail; exact tail) | (rw [if_pos hb98] at tail; exact tail)
    · intro k hk ih
      refine z_iload dX3_odds_68 rfl ?_
      refine z_iload dX3_odds_70 rfl ?_
      refine z_icmp_ge (tgt := 97) dX3_odds_72 (by decide) (fun hx_ => absurd hx_ (nI_ge hk (by omega))) (fun _ => ?_)
      refine z_iload dX3_odds_75 rfl ?_
      refine z_bipush (v := 10) dX3_odds_77 (by decide) ?_
      refine z_imul dX3_odds_79 ?_
      refine z_istore dX3_odds_80 (by decide) ?_
      refine z_iload dX3_odds_82 rfl ?_
      refine z_bipush (v := 10) dX3_odds_84 (by decide) ?_
      refine z_iload_n dX3_odds_86 rfl ?_
      refine z_isub dX3_odds_87 ?_
      refine z_imul dX3_odds_88 ?_
      refine z_istore dX3_odds_89 (by decide) ?_
      refine z_iinc (v := 1) dX3_odds_91 rfl (by decide) (by decide) ?_
      refine z_goto (tgt := 68) dX3_odds_94 (by decide) ?_
      exact ZW.eq ih rfl (by rw [nI_succ]; rfl)
  refine z_aload_n dX3_odds_0 rfl ?_
  refine z_getM dX3_odds_1 zf_X3_19 (by first | rfl | assumption) rfl ?_
  refine z_iload_n dX3_odds_4 rfl ?_
  refine z_cV1r (dy := 0) dX3_odds_5 zl_X3_78 zy_X0_hasSaying (by first | rfl | assumption) rfl (by decide) (Nat.le_of_ble_eq_true rfl) (sp_hasSaying_t h hj rfl) ?_
  refine z_if_eq (tgt := 30) dX3_odds_8 (by decide) (fun hx_ => absurd hx_ (by decide)) (fun _ => ?_)
  refine z_iload_n dX3_odds_11 rfl ?_
  refine z_if_lt (tgt := 30) dX3_odds_12 (by decide) (fun hx_ => absurd hx_ hx0) (fun _ => ?_)
  refine z_iload_n dX3_odds_15 rfl ?_
  refine z_bipush (v := 10) dX3_odds_16 (by decide) ?_
  refine z_icmp_gt (tgt := 30) dX3_odds_18 (by decide) (fun hx_ => absurd hx_ hx1) (fun _ => ?_)
  refine z_iload_n dX3_odds_21 rfl ?_
  refine z_if_lt (tgt := 30) dX3_odds_22 (by decide) (fun hx_ => absurd hx_ hw0) (fun _ => ?_)
  refine z_iload_n dX3_odds_25 rfl ?_
  refine z_iconst (v := 1) dX3_odds_26 (by decide) ?_
  refine z_icmp_le (tgt := 32) dX3_odds_27 (by decide) (fun _ => ?_) (fun hx_ => absurd (Int32.not_lt.mp hw1) hx_)
  refine z_aload_n dX3_odds_32 rfl ?_
  refine z_getM dX3_odds_33 zf_X3_19 (by first | rfl | assumption) rfl ?_
  refine z_iload_n dX3_odds_36 rfl ?_
  refine z_cV1r (dy := 0) dX3_odds_37 zl_X3_81 zy_X0_isSound (by first | rfl | assumption) rfl (by decide) (Nat.le_of_ble_eq_true rfl) (sp_isSound h.1 _) ?_
  by_cases hs : zbt (μ.1 (μ.2.2 0 1) 7) (nI j)
  · rw [if_pos hs] at hc ⊢
    refine z_if_eq (tgt := 47) dX3_odds_40 (by decide) (fun hx_ => absurd hx_ (by decide)) (fun _ => ?_)
    refine z_iconst (v := 1) dX3_odds_43 (by decide) ?_
    refine z_goto (tgt := 57) dX3_odds_44 (by decide) ?_
    rw [hc]
    exact cont
  · rw [if_neg hs] at hc ⊢
    refine z_if_eq (tgt := 47) dX3_odds_40 (by decide) (fun _ => ?_) (fun hx_ => absurd (rfl) hx_)
    refine z_aload_n dX3_odds_47 rfl ?_
    refine z_iconst (v := 1) dX3_odds_48 (by decide) ?_
    refine z_iload_n dX3_odds_49 rfl ?_
    refine z_ishl dX3_odds_50 ?_
    refine z_cV1r (dy := 5) dX3_odds_51 zl_X3_222 zy_X3_beginnings (by first | rfl | assumption) rfl (by decide) (Nat.le_of_ble_eq_true rfl) (sp_beginnings h _) ?_
    refine z_cS1r (dy := 0) dX3_odds_54 zl_X3_217 zy_J6_bitCount_0f7a4 (by decide) (Nat.le_of_ble_eq_true rfl) (sp_bitCount _) ?_
    rw [hc]
    exact cont
/-- a set without one of its eight -/
def zcb (c k : Nat) : Nat := c &&& (255 - 2 ^ k)
theorem zcb_eq : ∀ c, c < 256 → ∀ k, k < 8 → nI c &&& ((1 <<< (nI k &&& 31)) ^^^ -1) = nI (zcb c k) := by decide +kernel
theorem zcb_le (c k : Nat) : zcb c k ≤ c := Nat.and_le_left
/-- in how many orders a set can have come, by its last -/
def zwt (sa sn : Int32) (an ta row : Nat → Int32) (set : Int32) (c : Nat) (m : Nat) : Int32 := zfold (fun k a => if ¬ nI (zcb c k) = nI c ∧ ta k &&& set &&& (nI (zcb c k) ^^^ -1) = 0 ∧ (zbt sn (nI k) ∨ (zbt sa (nI k) ∧ ¬ an k &&& nI (zcb c k) = 0)) then a + row (zcb c k) else a) 0 m
theorem sp_waysTo {μ : ZMem} {ns c : Nat} (h : zdS μ (μ.2.2 0 1) ns) (hc : c < 256) (set : Int32) : Sp layC mX3_waysTo 3 [.ref 0, .int (nI c), .int set] μ (some (.int (zwt (μ.1 (μ.2.2 0 1) 8) (μ.1 (μ.2.2 0 1) 7) (μ.1 ((μ.2.2 0 1) + 2)) (μ.1 32) (μ.1 34) set c ns))) μ := by
  have hl0 := h.1.l0
  have hn := h.2.1
  have h8 := h.2.2
  refine Sp.mk (L := [some (.ref 0), some (.int (nI c)), some (.int set), none, none, none]) rfl (by decide +kernel) rfl rfl (fun Q hQ => ?_)
  refine z_iconst (v := 0) dX3_waysTo_0 (by decide) ?_
  refine z_istore_n (i := 3) dX3_waysTo_1 rfl (by decide) ?_
  refine z_iconst (v := 0) dX3_waysTo_2 (by decide) ?_
  refine z_istore dX3_waysTo_3 (by decide) ?_
  have key : ∀ k, k ≤ ns → ∀ z, ZW layC mX3_waysTo 3 Q 5 [some (.ref 0), some (.int (nI c)), some (.int set), some (.int (zwt (μ.1 (μ.2.2 0 1) 8) (μ.1 (μ.2.2 0 1) 7) (μ.1 ((μ.2.2 0 1) + 2)) (μ.1 32) (μ.1 34) set c k)), some (.int (nI k)), z] [] μ := by
    refine zdown ns ?_ ?_
    · intro z
      refine z_iload dX3_waysTo_5 rfl ?_
      refine z_aload_n dX3_waysTo_7 rfl ?_
      refine z_getM dX3_waysTo_8 zf_X3_19 (by first | rfl | assumption) rfl ?_
      refine z_getI dX3_waysTo_11 zf_X3_207 (by first | rfl | assumption) rfl ?_
      refine z_icmp_ge (tgt := 87) dX3_waysTo_14 (by decide) (fun _ => ?_) (fun hx_ => absurd (by rw [hn]; exact Int32.le_refl _) hx_)
      refine z_iload_n dX3_waysTo_87 rfl ?_
      refine z_iret dX3_waysTo_88 rfl ?_
      exact hQ
    · intro k hk ih z
      refine z_iload dX3_waysTo_5 rfl ?_
      refine z_aload_n dX3_waysTo_7 rfl ?_
      refine z_getM dX3_waysTo_8 zf_X3_19 (by first | rfl | assumption) rfl ?_
      refine z_getI dX3_waysTo_11 zf_X3_207 (by first | rfl | assumption) rfl ?_
      refine z_icmp_ge (tgt := 87) dX3_waysTo_14 (by decide) (fun hx_ => absurd hx_ (by rw [hn]; exact nI_ge hk (by omega))) (fun _ => ?_)
      refine z_iload dX3_waysTo_17 rfl ?_
      refine z_bipush (v := 8) dX3_waysTo_19 (by decide) ?_
      refine z_icmp_ge (tgt := 87) dX3_waysTo_21 (by decide) (fun hx_ => absurd hx_ (nI_ge (b := 8) (by omega) (by decide))) (fun _ => ?_)
      refine z_iload_n dX3_waysTo_24 rfl ?_
      refine z_iconst (v := 1) dX3_waysTo_25 (by decide) ?_
      refine z_iload dX3_waysTo_26 rfl ?_
      refine z_ishl dX3_waysTo_28 ?_
      refine z_iconst (v := -1) dX3_waysTo_29 (by decide) ?_
      refine z_ixor dX3_waysTo_30 ?_
      refine z_iand dX3_waysTo_31 ?_
      rw [zcb_eq c hc k (by omega)]
      refine z_istore dX3_waysTo_32 (by decide) ?_
      refine z_iload dX3_waysTo_34 rfl ?_
      refine z_iload_n dX3_waysTo_36 rfl ?_
      refine z_icmp_eq (tgt := 81) dX3_waysTo_37 (by decide) (fun hb37 => ?_) (fun hb37 => ?_)
      · refine z_iinc (v := 1) dX3_waysTo_81 rfl (by decide) (by decide) ?_
        refine z_goto (tgt := 5) dX3_waysTo_84 (by decide) ?_
        refine ZW.eq (ih (some (.int (nI (zcb c k))))) rfl ?_
        simp only [zwt, zfold, nI_succ]
        split
        · rename_i hc
          first | rfl | (exfalso; obtain ⟨q1, q2, q3⟩ := hc; first | exact q1 hb37 | exact hb54 q2 | exact hb68 q3)
        · rename_i hc
          first | rfl | (exfalso; exact hc ⟨hb37, hb54, hb68⟩)
      · refine z_aload_n dX3_waysTo_40 rfl ?_
        refine z_getR dX3_waysTo_41 zf_X3_39 (by first | rfl | assumption) rfl ?_
        refine z_iload dX3_waysTo_44 rfl ?_
        refine z_iald dX3_waysTo_46 (by first | rfl | assumption) rfl (by first | assumption | omega | decide) (by decide) ?_
        refine z_iload_n dX3_waysTo_47 rfl ?_
        refine z_iand dX3_waysTo_48 ?_
        refine z_iload dX3_waysTo_49 rfl ?_
        refine z_iconst (v := -1) dX3_waysTo_51 (by decide) ?_
        refine z_ixor dX3_waysTo_52 ?_
        refine z_iand dX3_waysTo_53 ?_
        refine z_if_ne (tgt := 81) dX3_waysTo_54 (by decide) (fun hb54 => ?_) (fun hb54 => ?_)
        · refine z_iinc (v := 1) dX3_waysTo_81 rfl (by decide) (by decide) ?_
          refine z_goto (tgt := 5) dX3_waysTo_84 (by decide) ?_
          refine ZW.eq (ih (some (.int (nI (zcb c k))))) rfl ?_
          simp only [zwt, zfold, nI_succ]
          split
          · rename_i hc
            first | rfl | (exfalso; obtain ⟨q1, q2, q3⟩ := hc; first | exact q1 hb37 | exact hb54 q2 | exact hb68 q3)
          · rename_i hc
            first | rfl | (exfalso; exact hc ⟨hb37, hb54, hb68⟩)
        · refine z_aload_n dX3_waysTo_57 rfl ?_
          refine z_getM dX3_waysTo_58 zf_X3_19 (by first | rfl | assumption) rfl ?_
          refine z_iload dX3_waysTo_61 rfl ?_
          refine z_iload dX3_waysTo_63 rfl ?_
          refine z_cV2r (dy := 2) dX3_waysTo_65 zl_X3_237 zy_X0_canFollow (by first | rfl | assumption) rfl (by decide) (Nat.le_of_ble_eq_true rfl) (sp_canFollow h hk _ rfl) ?_
          refine z_if_eqb (tgt := 81) dX3_waysTo_68 (by decide) (fun hb68 => ?_) (fun hb68 => ?_)
          · refine z_iinc (v := 1) dX3_waysTo_81 rfl (by decide) (by decide) ?_
            refine z_goto (tgt := 5) dX3_waysTo_84 (by decide) ?_
            refine ZW.eq (ih (some (.int (nI (zcb c k))))) rfl ?_
            simp only [zwt, zfold, nI_succ]
            split
            · rename_i hc
              first | rfl | (exfalso; obtain ⟨q1, q2, q3⟩ := hc; first | exact q1 hb37 | exact hb54 q2 | exact hb68 q3)
            · rename_i hc
              first | rfl | (exfalso; exact hc ⟨hb37, hb54, hb68⟩)
          · refine z_iload_n dX3_waysTo_71 rfl ?_
            refine z_aload_n dX3_waysTo_72 rfl ?_
            refine z_getR dX3_waysTo_73 zf_X3_50 (by first | rfl | assumption) rfl ?_
            refine z_iload dX3_waysTo_76 rfl ?_
            refine z_iald dX3_waysTo_78 (by first | rfl | assumption) rfl (show zcb c k < 256 by have := zcb_le c k; omega) (by decide) ?_
            refine z_iadd dX3_waysTo_79 ?_
            refine z_istore_n (i := 3) dX3_waysTo_80 rfl (by decide) ?_
            refine z_iinc (v := 1) dX3_waysTo_81 rfl (by decide) (by decide) ?_
            refine z_goto (tgt := 5) dX3_waysTo_84 (by decide) ?_
            refine ZW.eq (ih (some (.int (nI (zcb c k))))) rfl ?_
            simp only [zwt, zfold, nI_succ]
            split
            · rename_i hc
              first | rfl | (exfalso; obtain ⟨q1, q2, q3⟩ := hc; first | exact q1 hb37 | exact hb54 q2 | exact hb68 q3)
            · rename_i hc
              first | rfl | (exfalso; exact hc ⟨hb37, hb54, hb68⟩)
  exact key 0 (Nat.zero_le _) none
def zdp (sa sn : Int32) (an ta row : Nat → Int32) (ns : Nat) (set : Int32) : Nat → (Nat → Int32)
  | 0 => upd row 0 1
  | c + 1 => if nI (c + 1) &&& (set ^^^ -1) = 0 then upd (zdp sa sn an ta row ns set c) (c + 1) (zwt sa sn an ta (zdp sa sn an ta row ns set c) set (c + 1) ns) else zdp sa sn an ta row ns set c
theorem zrow_c {μ : ZMem} {f : Nat → Int32} {r c : Nat} (h : c ≠ r) : (zrow μ r f).1 c = μ.1 c := by simp [zrow, h]
theorem zrow_r {μ : ZMem} {f : Nat → Int32} {r : Nat} : (zrow μ r f).1 r = f := by simp [zrow]
theorem zI_row (μ : ZMem) (r k : Nat) (v : Int32) : zI μ r k v = zrow μ r (upd (μ.1 r) k v) := by
  refine Prod.ext (funext fun a => funext fun b => ?_) rfl
  simp only [zI, zup, zrow]
  by_cases ha : a = r
  · subst ha; simp [upd]
  · simp [ha]
theorem zrow_row (μ : ZMem) (r : Nat) (f g : Nat → Int32) : zrow (zrow μ r f) r g = zrow μ r g := by
  refine Prod.ext (funext fun a => funext fun b => ?_) rfl
  simp only [zrow]
  by_cases ha : a = r <;> simp [ha]
theorem zrow_S {μ : ZMem} {f : Nat → Int32} {r dd ns : Nat} (h : zdS μ dd ns) (hr : 11 ≤ r) : zdS (zrow μ r f) dd ns :=
  ⟨h.1, by rw [zrow_c (h.1.ne hr).1]; exact h.2.1, h.2.2⟩
theorem spC_orders_bad {μ : ZMem} {ns : Nat} (h : zdS μ (μ.2.2 0 1) ns) {i : Int32} (hi : i < 0 ∨ nI (2 ^ ns) ≤ i) : Sp layC mX3_orders 4 [.ref 0, .int i] μ (some (.int (-1))) μ := by
  have hl0 := h.1.l0
  refine Sp.mk (L := [some (.ref 0), some (.int i), none]) rfl (by decide +kernel) rfl rfl (fun Q hQ => ?_)
  refine z_aload_n dX3_orders_0 rfl ?_
  refine z_getM dX3_orders_1 zf_X3_19 (by first | rfl | assumption) rfl ?_
  refine z_iload_n dX3_orders_4 rfl ?_
  refine z_cV1r (dy := 1) dX3_orders_5 zl_X3_204 zy_X0_hasAll (by first | rfl | assumption) rfl (by decide) (Nat.le_of_ble_eq_true rfl) (sp_hasAll_f h hi) ?_
  refine z_if_ne (tgt := 13) dX3_orders_8 (by decide) (fun hx_ => absurd (rfl) hx_) (fun _ => ?_)
  refine z_iconst (v := -1) dX3_orders_11 (by decide) ?_
  refine z_iret dX3_orders_12 rfl ?_
  exact hQ
theorem spC_orders {μ : ZMem} {ns s : Nat} (h : zdS μ (μ.2.2 0 1) ns) (hs : s < 2 ^ ns) : Sp layC mX3_orders 4 [.ref 0, .int (nI s)] μ (some (.int (zdp (μ.1 (μ.2.2 0 1) 8) (μ.1 (μ.2.2 0 1) 7) (μ.1 ((μ.2.2 0 1) + 2)) (μ.1 32) (μ.1 34) ns (nI s) s s))) (zrow μ 34 (zdp (μ.1 (μ.2.2 0 1) 8) (μ.1 (μ.2.2 0 1) 7) (μ.1 ((μ.2.2 0 1) + 2)) (μ.1 32) (μ.1 34) ns (nI s) s)) := by
  have hl0 := h.1.l0
  have hpw := zpow_le ns (by have := h.2.2; omega)
  refine Sp.mk (L := [some (.ref 0), some (.int (nI s)), none]) rfl (by decide +kernel) rfl rfl (fun Q hQ => ?_)
  refine z_aload_n dX3_orders_0 rfl ?_
  refine z_getM dX3_orders_1 zf_X3_19 (by first | rfl | assumption) rfl ?_
  refine z_iload_n dX3_orders_4 rfl ?_
  refine z_cV1r (dy := 1) dX3_orders_5 zl_X3_204 zy_X0_hasAll (by first | rfl | assumption) rfl (by decide) (Nat.le_of_ble_eq_true rfl) (sp_hasAll_t h hs) ?_
  refine z_if_ne (tgt := 13) dX3_orders_8 (by decide) (fun _ => ?_) (fun hx_ => absurd hx_ (by decide))
  refine z_aload_n dX3_orders_13 rfl ?_
  refine z_getR dX3_orders_14 zf_X3_50 (by first | rfl | assumption) rfl ?_
  refine z_iconst (v := 0) dX3_orders_17 (by decide) ?_
  refine z_iconst (v := 1) dX3_orders_18 (by decide) ?_
  refine z_iast dX3_orders_19 (by first | rfl | assumption) rfl (by first | assumption | omega | decide) (by decide) ?_
  refine z_iconst (v := 1) dX3_orders_20 (by decide) ?_
  refine z_istore_n (i := 2) dX3_orders_21 rfl (by decide) ?_
  generalize hf : zdp (μ.1 (μ.2.2 0 1) 8) (μ.1 (μ.2.2 0 1) 7) (μ.1 ((μ.2.2 0 1) + 2)) (μ.1 32) (μ.1 34) ns (nI s) = f at hQ
  have f0 : f 0 = upd (μ.1 34) 0 1 := by rw [← hf]; rfl
  have fs : ∀ c, f (c + 1) = if nI (c + 1) &&& (nI s ^^^ -1) = 0 then upd (f c) (c + 1) (zwt (μ.1 (μ.2.2 0 1) 8) (μ.1 (μ.2.2 0 1) 7) (μ.1 ((μ.2.2 0 1) + 2)) (μ.1 32) (f c) (nI s) (c + 1) ns) else f c := by intro c; rw [← hf]; rfl
  have key := zdown (P := fun c => ZW layC mX3_orders 4 Q 22 [some (.ref 0), some (.int (nI s)), some (.int (nI (c + 1)))] [] (zrow μ 34 (f c))) s ?_ ?_ 0 (Nat.zero_le _)
  · exact ZW.eq key rfl rfl rfl (by rw [f0, zI_row])
  · rw [show f s s = (zrow μ 34 (f s)).1 34 s by rw [zrow_r]] at hQ
    refine z_iload_n dX3_orders_22 rfl ?_
    refine z_iload_n dX3_orders_23 rfl ?_
    refine z_icmp_gt (tgt := 53) dX3_orders_24 (by decide) (fun _ => ?_) (fun hx_ => absurd (nI_lt (by omega) (by omega)) hx_)
    refine z_aload_n dX3_orders_53 rfl ?_
    refine z_getR dX3_orders_54 zf_X3_50 (by first | rfl | assumption) rfl ?_
    refine z_iload_n dX3_orders_57 rfl ?_
    refine z_iald dX3_orders_58 (by first | rfl | assumption) rfl (show s < 256 by omega) (by decide) ?_
    refine z_iret dX3_orders_59 rfl ?_
    exact hQ
  · intro c hc ih
    refine z_iload_n dX3_orders_22 rfl ?_
    refine z_iload_n dX3_orders_23 rfl ?_
    refine z_icmp_gt (tgt := 53) dX3_orders_24 (by decide) (fun hx_ => absurd hx_ (nI_nlt (by omega) (by omega))) (fun _ => ?_)
    refine z_iload_n dX3_orders_27 rfl ?_
    refine z_iload_n dX3_orders_28 rfl ?_
    refine z_iconst (v := -1) dX3_orders_29 (by decide) ?_
    refine z_ixor dX3_orders_30 ?_
    refine z_iand dX3_orders_31 ?_
    by_cases hsub : nI (c + 1) &&& (nI s ^^^ -1) = 0
    · have hw := sp_waysTo (μ := zrow μ 34 (f c)) (ns := ns) (c := c + 1) (zrow_S h (by omega)) (by omega) (nI s)
      have hw' : Sp layC mX3_waysTo 3 [.ref 0, .int (nI (c + 1)), .int (nI s)] (zrow μ 34 (f c)) (some (.int (zwt (μ.1 (μ.2.2 0 1) 8) (μ.1 (μ.2.2 0 1) 7) (μ.1 ((μ.2.2 0 1) + 2)) (μ.1 32) (f c) (nI s) (c + 1) ns))) (zrow μ 34 (f c)) := by
        refine Sp.eq hw ?_ rfl
        rw [zrow_r, zrow_c (show (32 : Nat) ≠ 34 by omega)]
        rw [show (zrow μ 34 (f c)).1 ((zrow μ 34 (f c)).2.2 0 1) = μ.1 (μ.2.2 0 1) from zrow_c (h.1.ne (by omega)).1, show (zrow μ 34 (f c)).1 ((zrow μ 34 (f c)).2.2 0 1 + 2) = μ.1 ((μ.2.2 0 1) + 2) from zrow_c (h.1.ne (by omega)).2.2.1]
      refine z_if_ne (tgt := 47) dX3_orders_32 (by decide) (fun hx_ => absurd hsub hx_) (fun _ => ?_)
      refine z_aload_n dX3_orders_35 rfl ?_
      refine z_getR dX3_orders_36 zf_X3_50 (by first | rfl | assumption) rfl ?_
      refine z_iload_n dX3_orders_39 rfl ?_
      refine z_aload_n dX3_orders_40 rfl ?_
      refine z_iload_n dX3_orders_41 rfl ?_
      refine z_iload_n dX3_orders_42 rfl ?_
      refine z_cV2r (dy := 3) dX3_orders_43 zl_X3_234 zy_X3_waysTo (by first | rfl | assumption) rfl (by decide) (Nat.le_of_ble_eq_true rfl) hw' ?_
      refine z_iast dX3_orders_46 (by first | rfl | assumption) rfl (show c + 1 < 256 by omega) (by decide) ?_
      rw [zI_row, zrow_r, zrow_row]
      refine z_iinc (v := 1) dX3_orders_47 rfl (by decide) (by decide) ?_
      refine z_goto (tgt := 22) dX3_orders_50 (by decide) ?_
      refine ZW.eq ih rfl (by rw [nI_succ (c + 1)]; rfl) rfl ?_
      rw [fs c, if_pos hsub]
    · refine z_if_ne (tgt := 47) dX3_orders_32 (by decide) (fun _ => ?_) (fun hx_ => absurd hx_ hsub)
      refine z_iinc (v := 1) dX3_orders_47 rfl (by decide) (by decide) ?_
      refine z_goto (tgt := 22) dX3_orders_50 (by decide) ?_
      refine ZW.eq ih rfl (by rw [nI_succ (c + 1)]; rfl) rfl ?_
      rw [fs c, if_neg hsub]

/-! ===== the reference: a text is read ===== -/
def ztm (μ : ZMem) (x : Nat → Nat) (t : Nat) : Prop := μ.1 0 2 = nI t ∧ t ≤ 200 ∧ ∀ k, k < t → μ.1 1 k = sb_b (x k) ∧ x k < 256
/-- at, start, sort, value, fault -/
def zTm (μ : ZMem) (a b c d e : Int32) : ZMem := (fun u v => if u = 0 then (if v = 11 then a else if v = 12 then b else if v = 13 then c else if v = 14 then d else if v = 15 then e else μ.1 0 v) else μ.1 u v, μ.2)
theorem zTm11 (μ : ZMem) (a b c d e v : Int32) : zI (zTm μ a b c d e) 0 11 v = zTm μ v b c d e := by
  refine Prod.ext (funext fun i => funext fun j => ?_) rfl
  simp only [zI, zup, zTm]
  by_cases hi : i = 0
  · subst hi
    by_cases h2 : j = 11 <;> simp [h2]
  · simp [hi]
theorem zTm12 (μ : ZMem) (a b c d e v : Int32) : zI (zTm μ a b c d e) 0 12 v = zTm μ a v c d e := by
  refine Prod.ext (funext fun i => funext fun j => ?_) rfl
  simp only [zI, zup, zTm]
  by_cases hi : i = 0
  · subst hi
    by_cases h2 : j = 12 <;> simp [h2]
  · simp [hi]
theorem zTm13 (μ : ZMem) (a b c d e v : Int32) : zI (zTm μ a b c d e) 0 13 v = zTm μ a b v d e := by
  refine Prod.ext (funext fun i => funext fun j => ?_) rfl
  simp only [zI, zup, zTm]
  by_cases hi : i = 0
  · subst hi
    by_cases h2 : j = 13 <;> simp [h2]
  · simp [hi]
theorem zTm14 (μ : ZMem) (a b c d e v : Int32) : zI (zTm μ a b c d e) 0 14 v = zTm μ a b c v e := by
  refine Prod.ext (funext fun i => funext fun j => ?_) rfl
  simp only [zI, zup, zTm]
  by_cases hi : i = 0
  · subst hi
    by_cases h2 : j = 14 <;> simp [h2]
  · simp [hi]
theorem zTm15 (μ : ZMem) (a b c d e v : Int32) : zI (zTm μ a b c d e) 0 15 v = zTm μ a b c d v := by
  refine Prod.ext (funext fun i => funext fun j => ?_) rfl
  simp only [zI, zup, zTm]
  by_cases hi : i = 0
  · subst hi
    by_cases h2 : j = 15 <;> simp [h2]
  · simp [hi]
theorem zTm_self (μ : ZMem) : zTm μ (μ.1 0 11) (μ.1 0 12) (μ.1 0 13) (μ.1 0 14) (μ.1 0 15) = μ := by
  refine Prod.ext (funext fun i => funext fun j => ?_) rfl
  simp only [zTm]
  by_cases hi : i = 0
  · subst hi
    by_cases h2 : j = 11
    · subst h2; simp
    · by_cases h3 : j = 12
      · subst h3; simp
      · by_cases h4 : j = 13
        · subst h4; simp
        · by_cases h5 : j = 14
          · subst h5; simp
          · by_cases h6 : j = 15
            · subst h6; simp
            · simp [h2, h3, h4, h5, h6]
  · simp [hi]
theorem zI_Tm {μ : ZMem} {a b c d e v : Int32} {u k : Nat} (h : u ≠ 0 ∨ k < 11 ∨ 15 < k) : zI (zTm μ a b c d e) u k v = zTm (zI μ u k v) a b c d e := by
  refine Prod.ext (funext fun i => funext fun j => ?_) rfl
  simp only [zI, zup, zTm]
  by_cases hu : i = u
  · subst hu
    by_cases hi : i = 0
    · subst hi
      have hk : k < 11 ∨ 15 < k := h.resolve_left (fun q => q rfl)
      by_cases hj : j = k
      · subst hj
        simp [show ¬ j = 11 by omega, show ¬ j = 12 by omega, show ¬ j = 13 by omega, show ¬ j = 14 by omega, show ¬ j = 15 by omega]
      · simp [hj]
    · simp [hi]
  · by_cases hi : i = 0
    · subst hi
      have h0 : ¬ 0 = u := hu
      simp [h0]
    · simp [hi, hu]
theorem sp_here_t {μ : ZMem} {x : Nat → Nat} {t q : Nat} (h : ztm μ x t) (hq : q < t) (hat : μ.1 0 11 = nI q) : Sp layM mX4_here 0 [.ref 0] μ (some (.int (nI (x q)))) μ := by
  obtain ⟨ht, h2, hx⟩ := h
  have e : μ.1 1 q &&& 255 = nI (x q) := by rw [(hx q hq).1]; exact (sb_byte (x q) (hx q hq).2).1
  rw [← e]
  refine Sp.mk (L := [some (.ref 0)]) rfl (by decide +kernel) rfl rfl (fun Q hQ => ?_)
  refine z_aload_n dX4_here_0 rfl ?_
  refine z_getI dX4_here_1 zf_X4_65 (by first | rfl | assumption) rfl ?_
  refine z_aload_n dX4_here_4 rfl ?_
  refine z_getI dX4_here_5 zf_X4_61 (by first | rfl | assumption) rfl ?_
  refine z_icmp_ge (tgt := 27) dX4_here_8 (by decide) (fun hx_ => absurd hx_ (by rw [ht, hat]; exact nI_ge hq (by omega))) (fun _ => ?_)
  refine z_aload_n dX4_here_11 rfl ?_
  refine z_getR dX4_here_12 zf_X4_7 (by first | rfl | assumption) rfl ?_
  refine z_aload_n dX4_here_15 rfl ?_
  refine z_getI dX4_here_16 zf_X4_65 (by first | rfl | assumption) rfl ?_
  refine z_bald dX4_here_19 (by first | rfl | assumption) hat (by omega) (by decide) ?_
  refine z_sipush (v := 255) dX4_here_20 (by decide) ?_
  refine z_iand dX4_here_23 ?_
  refine z_goto (tgt := 28) dX4_here_24 (by decide) ?_
  refine z_iret dX4_here_28 rfl ?_
  exact hQ
theorem sp_here_f {μ : ZMem} {x : Nat → Nat} {t : Nat} (h : ztm μ x t) (hat : μ.1 0 11 = nI t) : Sp layM mX4_here 0 [.ref 0] μ (some (.int (-1))) μ := by
  obtain ⟨ht, h2, hx⟩ := h
  refine Sp.mk (L := [some (.ref 0)]) rfl (by decide +kernel) rfl rfl (fun Q hQ => ?_)
  refine z_aload_n dX4_here_0 rfl ?_
  refine z_getI dX4_here_1 zf_X4_65 (by first | rfl | assumption) rfl ?_
  refine z_aload_n dX4_here_4 rfl ?_
  refine z_getI dX4_here_5 zf_X4_61 (by first | rfl | assumption) rfl ?_
  refine z_icmp_ge (tgt := 27) dX4_here_8 (by decide) (fun _ => ?_) (fun hx_ => absurd (by rw [ht, hat]; exact Int32.le_refl _) hx_)
  refine z_iconst (v := -1) dX4_here_27 (by decide) ?_
  refine z_iret dX4_here_28 rfl ?_
  exact hQ
/-- a number's value as the reference counts it -/
def zvm (x : Nat → Nat) : Nat → Nat → Nat → Nat
  | _, 0, v => v
  | p, m + 1, v => zvm x (p + 1) m (if 99 < v then v else 10 * v + (x p - 48))
theorem zvm_lt (x : Nat → Nat) : ∀ m p v, (∀ k, p ≤ k → k < p + m → x k ≤ 57) → v < 1000 → zvm x p m v < 1000 := by
  intro m
  induction m with
  | zero => intro p v _ h; exact h
  | succ m ih =>
    intro p v hx h
    have := hx p (Nat.le_refl _) (by omega)
    exact ih (p + 1) _ (fun k h1 h2 => hx k (by omega) (by omega)) (by split <;> omega)
theorem zvm_vl (x : Nat → Nat) : ∀ m p v, zvl x p m (min 100 v) = min 100 (zvm x p m v) := by
  intro m
  induction m with
  | zero => intro p v; rfl
  | succ m ih =>
    intro p v
    show zvl x (p + 1) m (min 100 (min 100 v * 10 + (x p - 48))) = min 100 (zvm x (p + 1) m (if 99 < v then v else 10 * v + (x p - 48)))
    rw [← ih]
    congr 1
    by_cases h : 99 < v
    · rw [if_pos h]; omega
    · rw [if_neg h]; omega
theorem zdig_run {x : Nat → Nat} {t s : Nat} (hst : ¬ t ≤ s) (hd : zdig x s = true) (k : Nat) (h1 : s ≤ k) (h2 : k < s + (zrun (zdig x) (s + 1) (t - (s + 1)) - s)) : x k ≤ 57 := by
  have hle := (zrun_le (zdig x) (t - (s + 1)) (s + 1)).1
  have hE2 : zrun (zdig x) (s + 1) (t - (s + 1)) = zrun (zdig x) s (t - s) := by rw [zrun_step (p := s) (t := t) (by omega), if_pos hd]
  have key : ∀ m p, p ≤ k → k < zrun (zdig x) p m → zdig x k = true := by
    intro m
    induction m with
    | zero => intro p h3 h4; have e0 : zrun (zdig x) p 0 = p := rfl; omega
    | succ m ih =>
      intro p h3 h4
      have e0 : zrun (zdig x) p (m + 1) = if zdig x p = true then zrun (zdig x) (p + 1) m else p := rfl
      by_cases hg : zdig x p = true
      · by_cases hpk : p = k
        · rw [← hpk]; exact hg
        · rw [e0, if_pos hg] at h4
          exact ih (p + 1) (by omega) h4
      · rw [e0, if_neg hg] at h4; omega
  have := key (t - s) s h1 (by rw [← hE2]; omega)
  have h3 : 48 ≤ x k ∧ x k ≤ 57 := by simpa [zdig] using this
  exact h3.2
/-- the reference's sort of a token, and its value -/
def zsrt (T : ZTok) : Nat := if T.1 = 0 then 3 else if T.1 = 1 then (if T.2.2.2 = 0 then 4 else T.2.2.2) else if T.1 = 2 then 1 else if T.1 = 3 then 2 else 4
def zvt (x : Nat → Nat) (t p : Nat) : Nat :=
  let s := zrun (zbla x) p (t - p)
  if t ≤ s then 0 else if zlet x s = true then 0 else if zdig x s = true then zvm x s (zrun (zdig x) (s + 1) (t - (s + 1)) - s) 0 else 0
theorem sp_step {μ : ZMem} {x : Nat → Nat} {t p : Nat} (h : ztm μ x t) (hp : p ≤ t) (b c d e : Int32) : Sp layM mX4_step 1 [.ref 0] (zTm μ (nI p) b c d e) none (zTm μ (nI (ztk x t p).2.2.1) (nI (ztk x t p).2.1) (nI (zsrt (ztk x t p))) (nI (zvt x t p)) e) := by
  have h200 := h.2.1
  refine Sp.mk (L := [some (.ref 0), none]) rfl (by decide +kernel) rfl rfl (fun Q hQ => ?_)
  unfold ztk zvt at hQ
  generalize he : zrun (zbla x) p (t - p) = s at hQ
  have hle : s ≤ t := by have := zrun_le (zbla x) (t - p) p; omega
  dsimp only at hQ
  have hereT : ∀ q, q < t → ∀ b c d, Sp layM mX4_here 0 [.ref 0] (zTm μ (nI q) b c d e) (some (.int (nI (x q)))) (zTm μ (nI q) b c d e) := by
    intro q hq b c d
    refine sp_here_t (x := x) (t := t) (q := q) ?_ hq rfl
    exact h
  have hereF : ∀ b c d, Sp layM mX4_here 0 [.ref 0] (zTm μ (nI t) b c d e) (some (.int (-1))) (zTm μ (nI t) b c d e) := by
    intro b c d
    refine sp_here_f (x := x) (t := t) ?_ rfl
    exact h
  have tail : ZW layM mX4_step 1 Q 22 [some (.ref 0), none] [] (zTm μ (nI s) b c d e) := by
    refine z_aload_n dX4_step_22 rfl ?_
    refine z_aload_n dX4_step_23 rfl ?_
    refine z_getI dX4_step_24 zf_X4_65 (by first | rfl | assumption) rfl ?_
    refine z_putI dX4_step_27 zf_X4_72p (by first | rfl | assumption) rfl rfl rfl ?_
    rw [zTm12]
    refine z_aload_n dX4_step_30 rfl ?_
    refine z_iconst (v := 0) dX4_step_31 (by decide) ?_
    refine z_putI dX4_step_32 zf_X4_75p (by first | rfl | assumption) rfl rfl rfl ?_
    rw [zTm14]
    by_cases hst : t ≤ s
    · have hs : s = t := by omega
      rw [if_pos hst, if_pos hst] at hQ
      subst hs
      refine z_aload_n dX4_step_35 rfl ?_
      refine z_cV0r (dy := 0) dX4_step_36 zl_X4_68 zy_X4_here (by first | rfl | assumption) rfl (by decide) (Nat.le_of_ble_eq_true rfl) (hereF _ _ _) ?_
      refine z_istore_n (i := 1) dX4_step_39 rfl (by decide) ?_
      refine z_iload_n dX4_step_40 rfl ?_
      refine z_if_ge (tgt := 52) dX4_step_41 (by decide) (fun hx_ => absurd hx_ (by decide)) (fun _ => ?_)
      refine z_aload_n dX4_step_44 rfl ?_
      refine z_iconst (v := 3) dX4_step_45 (by decide) ?_
      refine z_putI dX4_step_46 zf_X4_78p (by first | rfl | assumption) rfl rfl rfl ?_
      rw [zTm13]
      refine z_goto (tgt := 253) dX4_step_49 (by decide) ?_
      refine z_vret dX4_step_253 rfl ?_
      exact hQ
    · rw [if_neg hst, if_neg hst] at hQ
      have hst2 : s < t := by omega
      have hxs := (h.2.2 s hst2).2
      refine z_aload_n dX4_step_35 rfl ?_
      refine z_cV0r (dy := 0) dX4_step_36 zl_X4_68 zy_X4_here (by first | rfl | assumption) rfl (by decide) (Nat.le_of_ble_eq_true rfl) (hereT s hst2 _ _ _) ?_
      refine z_istore_n (i := 1) dX4_step_39 rfl (by decide) ?_
      refine z_iload_n dX4_step_40 rfl ?_
      refine z_if_ge (tgt := 52) dX4_step_41 (by decide) (fun _ => ?_) (fun hx_ => absurd (nI_pos' (by omega)) hx_)
      refine z_iload_n dX4_step_52 rfl ?_
      refine z_bipush (v := 97) dX4_step_53 (by decide) ?_
      refine z_bipush (v := 122) dX4_step_55 (by decide) ?_
      refine z_cS3r (dy := 0) dX4_step_57 zl_X4_57 zy_X4_in (by decide) (Nat.le_of_ble_eq_true rfl) (sp_in _ _ _) ?_
      refine z_if_eqb (tgt := 115) dX4_step_60 (by decide) (fun hb60 => ?_) (fun hb60 => ?_)
      · -- no letter
        have hnl : ¬ zlet x s = true := fun z => hb60 ((zlet_iff hxs).mpr z)
        rw [if_neg hnl, if_neg hnl] at hQ
        refine z_iload_n dX4_step_115 rfl ?_
        refine z_bipush (v := 48) dX4_step_116 (by decide) ?_
        refine z_bipush (v := 57) dX4_step_118 (by decide) ?_
        refine z_cS3r (dy := 0) dX4_step_120 zl_X4_57 zy_X4_in (by decide) (Nat.le_of_ble_eq_true rfl) (sp_in _ _ _) ?_
        refine z_if_eqb (tgt := 228) dX4_step_123 (by decide) (fun hb123 => ?_) (fun hb123 => ?_)
        · have hnd : ¬ zdig x s = true := fun z => hb123 ((zdig_iff hxs).mpr z)
          rw [if_neg hnd, if_neg hnd] at hQ
          refine z_aload_n dX4_step_228 rfl ?_
          refine z_dup dX4_step_229 rfl ?_
          refine z_getI dX4_step_230 zf_X4_65 (by first | rfl | assumption) rfl ?_
          refine z_iconst (v := 1) dX4_step_233 (by decide) ?_
          refine z_iadd dX4_step_234 ?_
          refine z_putI dX4_step_235 zf_X4_65p (by first | rfl | assumption) rfl rfl rfl ?_
          rw [zTm11]
          have stp : ZW layM mX4_step 1 Q 238 [some (.ref 0), some (.int (nI (x s)))] [] (zTm μ (nI (s + 1)) (nI s) c 0 e) → ZW layM mX4_step 1 Q 238 [some (.ref 0), some (.int (nI (x s)))] [] (zTm μ (nI s + 1) (nI s) c 0 e) := fun q => ZW.eq q rfl rfl rfl (by rw [nI_succ s])
          refine stp ?_
          by_cases h59 : x s = 59
          · rw [if_pos h59] at hQ
            refine z_aload_n dX4_step_238 rfl ?_
            refine z_iload_n dX4_step_239 rfl ?_
            refine z_bipush (v := 59) dX4_step_240 (by decide) ?_
            refine z_icmp_ne (tgt := 249) dX4_step_242 (by decide) (fun hx_ => absurd (by rw [h59]; rfl) hx_) (fun _ => ?_)
            refine z_iconst (v := 2) dX4_step_245 (by decide) ?_
            refine z_goto (tgt := 250) dX4_step_246 (by decide) ?_
            refine z_putI dX4_step_250 zf_X4_78p (by first | rfl | assumption) rfl rfl rfl ?_
            rw [zTm13]
            refine z_vret dX4_step_253 rfl ?_
            exact hQ
          · rw [if_neg h59] at hQ
            refine z_aload_n dX4_step_238 rfl ?_
            refine z_iload_n dX4_step_239 rfl ?_
            refine z_bipush (v := 59) dX4_step_240 (by decide) ?_
            refine z_icmp_ne (tgt := 249) dX4_step_242 (by decide) (fun _ => ?_) (fun hx_ => absurd hx_ (fun q => h59 ((nI_eq (b := 59) (by omega) (by decide)).mp q)))
            refine z_iconst (v := 4) dX4_step_249 (by decide) ?_
            refine z_putI dX4_step_250 zf_X4_78p (by first | rfl | assumption) rfl rfl rfl ?_
            rw [zTm13]
            refine z_vret dX4_step_253 rfl ?_
            exact hQ
        · -- a number
          have hyd := (zdig_iff hxs).mp hb123
          have hd2 : 48 ≤ x s ∧ x s ≤ 57 := by simpa [zdig] using hyd
          have h59 : ¬ x s = 59 := by omega
          rw [if_neg h59, if_pos hyd, if_pos hyd] at hQ
          generalize hE : zrun (zdig x) (s + 1) (t - (s + 1)) = E at hQ
          have hEr := zrun_le (zdig x) (t - (s + 1)) (s + 1)
          have hE2 : E = zrun (zdig x) s (t - s) := by rw [zrun_step hst2, if_pos hyd, hE]
          have hdall : ∀ k, s ≤ k → k < E → x k ≤ 57 := by
            intro k h1 h2
            have key : ∀ m p, p ≤ k → k < zrun (zdig x) p m → zdig x k = true := by
              intro m
              induction m with
              | zero => intro p h3 h4; have e0 : zrun (zdig x) p 0 = p := rfl; omega
              | succ m ih =>
                intro p h3 h4
                have e0 : zrun (zdig x) p (m + 1) = if zdig x p = true then zrun (zdig x) (p + 1) m else p := rfl
                by_cases hg : zdig x p = true
                · by_cases hpk : p = k
                  · rw [← hpk]; exact hg
                  · rw [e0, if_pos hg] at h4
                    exact ih (p + 1) (by omega) h4
                · rw [e0, if_neg hg] at h4; omega
            have := key (t - s) s h1 (by rw [← hE2]; exact h2)
            have h3 : 48 ≤ x k ∧ x k ≤ 57 := by simpa [zdig] using this
            exact h3.2
          generalize hW : zvm x s (E - s) 0 = W at hQ
          have hW1000 : W < 1000 := by
            rw [← hW]
            exact zvm_lt x _ _ _ (fun k h1 h2 => hdall k h1 (by omega)) (by omega)
          have hV : zvl x (s + 1) (E - (s + 1)) (x s - 48) = min 100 W := by
            rw [← hW, show E - s = (E - (s + 1)) + 1 by omega]
            show _ = min 100 (zvm x (s + 1) (E - (s + 1)) (if 99 < 0 then 0 else 10 * 0 + (x s - 48)))
            rw [if_neg (by omega), ← zvm_vl]
            congr 1
            omega
          rw [hV] at hQ
          have numT : ZW layM mX4_step 1 Q 188 [some (.ref 0), some (.int (nI (x s)))] [] (zTm μ (nI E) (nI s) c (nI W) e) := by
            have fin : ∀ (z : Nat), z = (if 99 < W ∨ (x s = 48 ∧ s + 1 < E) then 4 else 1) → ZW layM mX4_step 1 Q 222 [some (.ref 0), some (.int (nI (x s)))] [.int (nI z), .ref 0] (zTm μ (nI E) (nI s) c (nI W) e) := by
              intro z hz
              refine z_putI dX4_step_222 zf_X4_78p (by first | rfl | assumption) rfl rfl rfl ?_
              rw [zTm13]
              refine z_goto (tgt := 253) dX4_step_225 (by decide) ?_
              refine z_vret dX4_step_253 rfl ?_
              refine zqm hQ rfl ?_
              have e4 : zsrt (if (x s = 48 ∧ s + 1 < E) ∨ 100 ≤ min 100 W then 4 else 2, s, E, min 100 W) = z := by
                by_cases hc : 99 < W ∨ (x s = 48 ∧ s + 1 < E)
                · rw [hz, if_pos hc, if_pos (by rcases hc with hc | hc; right; omega; left; exact hc)]; rfl
                · rw [hz, if_neg hc, if_neg (by intro q; apply hc; rcases q with q | q; right; exact q; left; omega)]; rfl
              rw [e4]
            by_cases hw : 99 < W
            · refine z_aload_n dX4_step_188 rfl ?_
              refine z_aload_n dX4_step_189 rfl ?_
              refine z_getI dX4_step_190 zf_X4_75 (by first | rfl | assumption) rfl ?_
              refine z_bipush (v := 99) dX4_step_193 (by decide) ?_
              refine z_icmp_gt (tgt := 217) dX4_step_195 (by decide) (fun _ => ?_) (fun hx_ => absurd (by show (99 : Int32) < nI W; exact nI_lt (a := 99) hw (by omega)) hx_)
              refine z_iconst (v := 4) dX4_step_217 (by decide) ?_
              refine z_goto (tgt := 222) dX4_step_218 (by decide) ?_
              exact fin 4 (by rw [if_pos (Or.inl hw)])
            · have nw : ¬ (99 : Int32) < nI W := nI_nlt (a := 99) (b := W) (by omega) (by decide)
              by_cases h48 : x s = 48
              · have esub : (zTm μ (nI E) (nI s) c (nI W) e).1 0 11 - (zTm μ (nI E) (nI s) c (nI W) e).1 0 12 = nI (E - s) := (show nI E - nI s = nI (E - s) from pk_sub (by omega))
                by_cases hlt : s + 1 < E
                · refine z_aload_n dX4_step_188 rfl ?_
                  refine z_aload_n dX4_step_189 rfl ?_
                  refine z_getI dX4_step_190 zf_X4_75 (by first | rfl | assumption) rfl ?_
                  refine z_bipush (v := 99) dX4_step_193 (by decide) ?_
                  refine z_icmp_gt (tgt := 217) dX4_step_195 (by decide) (fun hx_ => absurd hx_ nw) (fun _ => ?_)
                  refine z_iload_n dX4_step_198 rfl ?_
                  refine z_bipush (v := 48) dX4_step_199 (by decide) ?_
                  refine z_icmp_ne (tgt := 221) dX4_step_201 (by decide) (fun hx_ => absurd (by rw [h48]; rfl) hx_) (fun _ => ?_)
                  refine z_aload_n dX4_step_204 rfl ?_
                  refine z_getI dX4_step_205 zf_X4_65 (by first | rfl | assumption) rfl ?_
                  refine z_aload_n dX4_step_208 rfl ?_
                  refine z_getI dX4_step_209 zf_X4_72 (by first | rfl | assumption) rfl ?_
                  refine z_isub dX4_step_212 ?_
                  refine z_iconst (v := 1) dX4_step_213 (by decide) ?_
                  refine z_icmp_le (tgt := 221) dX4_step_214 (by decide) (fun hx_ => absurd hx_ (by rw [esub]; exact nI_ge (a := 1) (by omega) (by omega))) (fun _ => ?_)
                  refine z_iconst (v := 4) dX4_step_217 (by decide) ?_
                  refine z_goto (tgt := 222) dX4_step_218 (by decide) ?_
                  exact fin 4 (by rw [if_pos (Or.inr ⟨h48, hlt⟩)])
                · refine z_aload_n dX4_step_188 rfl ?_
                  refine z_aload_n dX4_step_189 rfl ?_
                  refine z_getI dX4_step_190 zf_X4_75 (by first | rfl | assumption) rfl ?_
                  refine z_bipush (v := 99) dX4_step_193 (by decide) ?_
                  refine z_icmp_gt (tgt := 217) dX4_step_195 (by decide) (fun hx_ => absurd hx_ nw) (fun _ => ?_)
                  refine z_iload_n dX4_step_198 rfl ?_
                  refine z_bipush (v := 48) dX4_step_199 (by decide) ?_
                  refine z_icmp_ne (tgt := 221) dX4_step_201 (by decide) (fun hx_ => absurd (by rw [h48]; rfl) hx_) (fun _ => ?_)
                  refine z_aload_n dX4_step_204 rfl ?_
                  refine z_getI dX4_step_205 zf_X4_65 (by first | rfl | assumption) rfl ?_
                  refine z_aload_n dX4_step_208 rfl ?_
                  refine z_getI dX4_step_209 zf_X4_72 (by first | rfl | assumption) rfl ?_
                  refine z_isub dX4_step_212 ?_
                  refine z_iconst (v := 1) dX4_step_213 (by decide) ?_
                  refine z_icmp_le (tgt := 221) dX4_step_214 (by decide) (fun _ => ?_) (fun hx_ => absurd (by rw [esub]; exact nI_le (b := 1) (by omega) (by decide)) hx_)
                  refine z_iconst (v := 1) dX4_step_221 (by decide) ?_
                  exact fin 1 (by rw [if_neg (fun q => q.elim hw (fun q => hlt q.2))])
              · refine z_aload_n dX4_step_188 rfl ?_
                refine z_aload_n dX4_step_189 rfl ?_
                refine z_getI dX4_step_190 zf_X4_75 (by first | rfl | assumption) rfl ?_
                refine z_bipush (v := 99) dX4_step_193 (by decide) ?_
                refine z_icmp_gt (tgt := 217) dX4_step_195 (by decide) (fun hx_ => absurd hx_ nw) (fun _ => ?_)
                refine z_iload_n dX4_step_198 rfl ?_
                refine z_bipush (v := 48) dX4_step_199 (by decide) ?_
                refine z_icmp_ne (tgt := 221) dX4_step_201 (by decide) (fun _ => ?_) (fun hx_ => absurd hx_ (fun q => h48 ((nI_eq (b := 48) (by omega) (by decide)).mp q)))
                refine z_iconst (v := 1) dX4_step_221 (by decide) ?_
                exact fin 1 (by rw [if_neg (fun q => q.elim hw (fun q => h48 q.1))])
          have loop := zdown (P := fun q => s ≤ q → E = zrun (zdig x) q (t - q) → ∀ w, w < 1000 → W = zvm x q (E - q) w → ZW layM mX4_step 1 Q 126 [some (.ref 0), some (.int (nI (x s)))] [] (zTm μ (nI q) (nI s) c (nI w) e)) t ?_ ?_ s (by omega) (Nat.le_refl _) hE2 0 (by omega) hW.symm
          · exact loop
          · intro _ e2 w hw hvw
            rw [zrun_end] at e2
            rw [e2, Nat.sub_self] at hvw
            have hvw2 : W = w := hvw
            refine z_aload_n dX4_step_126 rfl ?_
            refine z_cV0r (dy := 0) dX4_step_127 zl_X4_68 zy_X4_here (by first | rfl | assumption) rfl (by decide) (Nat.le_of_ble_eq_true rfl) (hereF _ _ _) ?_
            refine z_bipush (v := 48) dX4_step_130 (by decide) ?_
            refine z_bipush (v := 57) dX4_step_132 (by decide) ?_
            refine z_cS3r (dy := 0) dX4_step_134 zl_X4_57 zy_X4_in (by decide) (Nat.le_of_ble_eq_true rfl) (sp_in _ _ _) ?_
            rw [if_neg (by decide)]
            refine z_if_eq (tgt := 188) dX4_step_137 (by decide) (fun _ => ?_) (fun hx_ => absurd (rfl) hx_)
            rw [e2, hvw2] at numT
            exact numT
          · intro q hq ih hsq e2 w hw hvw
            rw [zrun_step hq] at e2
            have hxq := (h.2.2 q hq).2
            refine z_aload_n dX4_step_126 rfl ?_
            refine z_cV0r (dy := 0) dX4_step_127 zl_X4_68 zy_X4_here (by first | rfl | assumption) rfl (by decide) (Nat.le_of_ble_eq_true rfl) (hereT q hq _ _ _) ?_
            refine z_bipush (v := 48) dX4_step_130 (by decide) ?_
            refine z_bipush (v := 57) dX4_step_132 (by decide) ?_
            refine z_cS3r (dy := 0) dX4_step_134 zl_X4_57 zy_X4_in (by decide) (Nat.le_of_ble_eq_true rfl) (sp_in _ _ _) ?_
            refine z_if_eqb (tgt := 188) dX4_step_137 (by decide) (fun hb137 => ?_) (fun hb137 => ?_)
            · rw [if_neg (fun z => hb137 ((zdig_iff hxq).mpr z))] at e2
              rw [e2, Nat.sub_self] at hvw
              have hvw2 : W = w := hvw
              rw [e2, hvw2] at numT
              exact numT
            · have hdq := (zdig_iff hxq).mp hb137
              have hdq2 : 48 ≤ x q ∧ x q ≤ 57 := by simpa [zdig] using hdq
              rw [if_pos hdq] at e2
              have hq1 := (zrun_le (zdig x) (t - (q + 1)) (q + 1)).1
              have hs' : W = zvm x (q + 1) (E - (q + 1)) (if 99 < w then w else 10 * w + (x q - 48)) := by
                rw [hvw, show E - q = (E - (q + 1)) + 1 by omega]; rfl
              by_cases hw9 : 99 < w
              · rw [if_pos hw9] at hs'
                refine z_aload_n dX4_step_140 rfl ?_
                refine z_aload_n dX4_step_141 rfl ?_
                refine z_getI dX4_step_142 zf_X4_75 (by first | rfl | assumption) rfl ?_
                refine z_bipush (v := 99) dX4_step_145 (by decide) ?_
                refine z_icmp_le (tgt := 157) dX4_step_147 (by decide) (fun hx_ => absurd hx_ (by show ¬ nI w ≤ 99; exact nI_ge (a := 99) hw9 (by omega))) (fun _ => ?_)
                refine z_aload_n dX4_step_150 rfl ?_
                refine z_getI dX4_step_151 zf_X4_75 (by first | rfl | assumption) rfl ?_
                refine z_goto (tgt := 172) dX4_step_154 (by decide) ?_
                refine z_putI dX4_step_172 zf_X4_75p (by first | rfl | assumption) rfl rfl rfl ?_
                rw [zTm14]
                refine z_aload_n dX4_step_175 rfl ?_
                refine z_dup dX4_step_176 rfl ?_
                refine z_getI dX4_step_177 zf_X4_65 (by first | rfl | assumption) rfl ?_
                refine z_iconst (v := 1) dX4_step_180 (by decide) ?_
                refine z_iadd dX4_step_181 ?_
                refine z_putI dX4_step_182 zf_X4_65p (by first | rfl | assumption) rfl rfl rfl ?_
                rw [zTm11]
                refine z_goto (tgt := 126) dX4_step_185 (by decide) ?_
                exact ZW.eq (ih (by omega) e2 w hw hs') rfl rfl rfl (by rw [nI_succ q]; rfl)
              · rw [if_neg hw9] at hs'
                refine z_aload_n dX4_step_140 rfl ?_
                refine z_aload_n dX4_step_141 rfl ?_
                refine z_getI dX4_step_142 zf_X4_75 (by first | rfl | assumption) rfl ?_
                refine z_bipush (v := 99) dX4_step_145 (by decide) ?_
                refine z_icmp_le (tgt := 157) dX4_step_147 (by decide) (fun _ => ?_) (fun hx_ => absurd (by show nI w ≤ 99; exact nI_le (b := 99) (by omega) (by decide)) hx_)
                refine z_bipush (v := 10) dX4_step_157 (by decide) ?_
                refine z_aload_n dX4_step_159 rfl ?_
                refine z_getI dX4_step_160 zf_X4_75 (by first | rfl | assumption) rfl ?_
                refine z_imul dX4_step_163 ?_
                refine z_aload_n dX4_step_164 rfl ?_
                refine z_cV0r (dy := 0) dX4_step_165 zl_X4_68 zy_X4_here (by first | rfl | assumption) rfl (by decide) (Nat.le_of_ble_eq_true rfl) (hereT q hq _ _ _) ?_
                refine z_iadd dX4_step_168 ?_
                refine z_bipush (v := 48) dX4_step_169 (by decide) ?_
                refine z_isub dX4_step_171 ?_
                rw [show (10 : Int32) * (zTm μ (nI q) (nI s) c (nI w) e).1 0 14 + nI (x q) - 48 = nI (10 * w + (x q - 48)) from (by
                  show (10 : Int32) * nI w + nI (x q) - 48 = _
                  rw [show (10 : Int32) * nI w = nI (10 * w) from pk_mul 10 w, nI_add, show nI (10 * w + x q) - 48 = nI (10 * w + x q - 48) from pk_sub (b := 48) (by omega), show 10 * w + x q - 48 = 10 * w + (x q - 48) by omega])]
                refine z_putI dX4_step_172 zf_X4_75p (by first | rfl | assumption) rfl rfl rfl ?_
                rw [zTm14]
                refine z_aload_n dX4_step_175 rfl ?_
                refine z_dup dX4_step_176 rfl ?_
                refine z_getI dX4_step_177 zf_X4_65 (by first | rfl | assumption) rfl ?_
                refine z_iconst (v := 1) dX4_step_180 (by decide) ?_
                refine z_iadd dX4_step_181 ?_
                refine z_putI dX4_step_182 zf_X4_65p (by first | rfl | assumption) rfl rfl rfl ?_
                rw [zTm11]
                refine z_goto (tgt := 126) dX4_step_185 (by decide) ?_
                exact ZW.eq (ih (by omega) e2 (10 * w + (x q - 48)) (by omega) hs') rfl rfl rfl (by rw [nI_succ q]; rfl)
      · -- letters
        have hyl := (zlet_iff hxs).mp hb60
        have hl2 : 97 ≤ x s ∧ x s ≤ 122 := by simpa [zlet] using hyl
        have h59 : ¬ x s = 59 := by omega
        rw [if_neg h59, if_pos hyl, if_pos hyl] at hQ
        generalize hE : zrun (zlet x) (s + 1) (t - (s + 1)) = E at hQ
        have hEr := zrun_le (zlet x) (t - (s + 1)) (s + 1)
        have hE2 : E = zrun (zlet x) s (t - s) := by rw [zrun_step hst2, if_pos hyl, hE]
        have wordT : ZW layM mX4_step 1 Q 90 [some (.ref 0), some (.int (nI (x s)))] [] (zTm μ (nI E) (nI s) c 0 e) := by
          have esub : (zTm μ (nI E) (nI s) c 0 e).1 0 11 - (zTm μ (nI E) (nI s) c 0 e).1 0 12 = nI (E - s) := (show nI E - nI s = nI (E - s) from pk_sub (by omega))
          by_cases hes : E = s + 1
          · rw [if_pos hes] at hQ
            refine z_aload_n dX4_step_90 rfl ?_
            refine z_aload_n dX4_step_91 rfl ?_
            refine z_getI dX4_step_92 zf_X4_65 (by first | rfl | assumption) rfl ?_
            refine z_aload_n dX4_step_95 rfl ?_
            refine z_getI dX4_step_96 zf_X4_72 (by first | rfl | assumption) rfl ?_
            refine z_isub dX4_step_99 ?_
            refine z_iconst (v := 1) dX4_step_100 (by decide) ?_
            refine z_icmp_ne (tgt := 108) dX4_step_101 (by decide) (fun hx_ => absurd (by rw [esub, hes, show s + 1 - s = 1 by omega]; rfl) hx_) (fun _ => ?_)
            refine z_iload_n dX4_step_104 rfl ?_
            refine z_goto (tgt := 109) dX4_step_105 (by decide) ?_
            refine z_putI dX4_step_109 zf_X4_78p (by first | rfl | assumption) rfl rfl rfl ?_
            rw [zTm13]
            refine z_goto (tgt := 253) dX4_step_112 (by decide) ?_
            refine z_vret dX4_step_253 rfl ?_
            refine zqm hQ rfl ?_
            rw [show zsrt (1, s, E, x s) = x s from (by show (if x s = 0 then 4 else x s) = x s; rw [if_neg (by omega)])]
            rfl
          · rw [if_neg hes] at hQ
            refine z_aload_n dX4_step_90 rfl ?_
            refine z_aload_n dX4_step_91 rfl ?_
            refine z_getI dX4_step_92 zf_X4_65 (by first | rfl | assumption) rfl ?_
            refine z_aload_n dX4_step_95 rfl ?_
            refine z_getI dX4_step_96 zf_X4_72 (by first | rfl | assumption) rfl ?_
            refine z_isub dX4_step_99 ?_
            refine z_iconst (v := 1) dX4_step_100 (by decide) ?_
            refine z_icmp_ne (tgt := 108) dX4_step_101 (by decide) (fun _ => ?_) (fun hx_ => absurd hx_ (by rw [esub]; exact fun q => hes (by have := (nI_eq (b := 1) (by omega) (by decide)).mp q; omega)))
            refine z_iconst (v := 4) dX4_step_108 (by decide) ?_
            refine z_putI dX4_step_109 zf_X4_78p (by first | rfl | assumption) rfl rfl rfl ?_
            rw [zTm13]
            refine z_goto (tgt := 253) dX4_step_112 (by decide) ?_
            refine z_vret dX4_step_253 rfl ?_
            exact hQ
        have loop := zdown (P := fun q => s ≤ q → E = zrun (zlet x) q (t - q) → ZW layM mX4_step 1 Q 63 [some (.ref 0), some (.int (nI (x s)))] [] (zTm μ (nI q) (nI s) c 0 e)) t ?_ ?_ s (by omega) (Nat.le_refl _) hE2
        · exact loop
        · intro _ e2
          rw [zrun_end] at e2
          refine z_aload_n dX4_step_63 rfl ?_
          refine z_cV0r (dy := 0) dX4_step_64 zl_X4_68 zy_X4_here (by first | rfl | assumption) rfl (by decide) (Nat.le_of_ble_eq_true rfl) (hereF _ _ _) ?_
          refine z_bipush (v := 97) dX4_step_67 (by decide) ?_
          refine z_bipush (v := 122) dX4_step_69 (by decide) ?_
          refine z_cS3r (dy := 0) dX4_step_71 zl_X4_57 zy_X4_in (by decide) (Nat.le_of_ble_eq_true rfl) (sp_in _ _ _) ?_
          rw [if_neg (by decide)]
          refine z_if_eq (tgt := 90) dX4_step_74 (by decide) (fun _ => ?_) (fun hx_ => absurd (rfl) hx_)
          rw [e2] at wordT
          exact wordT
        · intro q hq ih hsq e2
          rw [zrun_step hq] at e2
          have hxq := (h.2.2 q hq).2
          refine z_aload_n dX4_step_63 rfl ?_
          refine z_cV0r (dy := 0) dX4_step_64 zl_X4_68 zy_X4_here (by first | rfl | assumption) rfl (by decide) (Nat.le_of_ble_eq_true rfl) (hereT q hq _ _ _) ?_
          refine z_bipush (v := 97) dX4_step_67 (by decide) ?_
          refine z_bipush (v := 122) dX4_step_69 (by decide) ?_
          refine z_cS3r (dy := 0) dX4_step_71 zl_X4_57 zy_X4_in (by decide) (Nat.le_of_ble_eq_true rfl) (sp_in _ _ _) ?_
          refine z_if_eqb (tgt := 90) dX4_step_74 (by decide) (fun hb74 => ?_) (fun hb74 => ?_)
          · rw [if_neg (fun z => hb74 ((zlet_iff hxq).mpr z))] at e2
            rw [e2] at wordT
            exact wordT
          · rw [if_pos ((zlet_iff hxq).mp hb74)] at e2
            refine z_aload_n dX4_step_77 rfl ?_
            refine z_dup dX4_step_78 rfl ?_
            refine z_getI dX4_step_79 zf_X4_65 (by first | rfl | assumption) rfl ?_
            refine z_iconst (v := 1) dX4_step_82 (by decide) ?_
            refine z_iadd dX4_step_83 ?_
            refine z_putI dX4_step_84 zf_X4_65p (by first | rfl | assumption) rfl rfl rfl ?_
            rw [zTm11]
            refine z_goto (tgt := 63) dX4_step_87 (by decide) ?_
            exact ZW.eq (ih (by omega) e2) rfl rfl rfl (by rw [nI_succ q]; rfl)
  refine zdown (P := fun q => p ≤ q → s = zrun (zbla x) q (t - q) → ZW layM mX4_step 1 Q 0 [some (.ref 0), none] [] (zTm μ (nI q) b c d e)) t ?_ ?_ p hp (Nat.le_refl _) he.symm
  · intro _ e2
    rw [zrun_end] at e2
    refine z_aload_n dX4_step_0 rfl ?_
    refine z_cV0r (dy := 0) dX4_step_1 zl_X4_68 zy_X4_here (by first | rfl | assumption) rfl (by decide) (Nat.le_of_ble_eq_true rfl) (hereF _ _ _) ?_
    refine z_bipush (v := 32) dX4_step_4 (by decide) ?_
    refine z_icmp_ne (tgt := 22) dX4_step_6 (by decide) (fun _ => ?_) (fun hx_ => absurd hx_ (by decide))
    rw [e2] at tail
    exact tail
  · intro q hq ih hpq e2
    rw [zrun_step hq] at e2
    have hxq := (h.2.2 q hq).2
    by_cases hb : x q = 32
    · rw [if_pos (by simp [zbla, hb])] at e2
      refine z_aload_n dX4_step_0 rfl ?_
      refine z_cV0r (dy := 0) dX4_step_1 zl_X4_68 zy_X4_here (by first | rfl | assumption) rfl (by decide) (Nat.le_of_ble_eq_true rfl) (hereT q hq _ _ _) ?_
      refine z_bipush (v := 32) dX4_step_4 (by decide) ?_
      refine z_icmp_ne (tgt := 22) dX4_step_6 (by decide) (fun hx_ => absurd (by rw [hb]; rfl) hx_) (fun _ => ?_)
      refine z_aload_n dX4_step_9 rfl ?_
      refine z_dup dX4_step_10 rfl ?_
      refine z_getI dX4_step_11 zf_X4_65 (by first | rfl | assumption) rfl ?_
      refine z_iconst (v := 1) dX4_step_14 (by decide) ?_
      refine z_iadd dX4_step_15 ?_
      refine z_putI dX4_step_16 zf_X4_65p (by first | rfl | assumption) rfl rfl rfl ?_
      rw [zTm11]
      refine z_goto (tgt := 0) dX4_step_19 (by decide) ?_
      exact ZW.eq (ih (by omega) e2) rfl rfl rfl (by rw [nI_succ q]; rfl)
    · rw [if_neg (by simp [zbla, hb])] at e2
      refine z_aload_n dX4_step_0 rfl ?_
      refine z_cV0r (dy := 0) dX4_step_1 zl_X4_68 zy_X4_here (by first | rfl | assumption) rfl (by decide) (Nat.le_of_ble_eq_true rfl) (hereT q hq _ _ _) ?_
      refine z_bipush (v := 32) dX4_step_4 (by decide) ?_
      refine z_icmp_ne (tgt := 22) dX4_step_6 (by decide) (fun _ => ?_) (fun hx_ => absurd hx_ (fun z => hb ((nI_eq (b := 32) (by omega) (by decide)).mp z)))
      rw [e2] at tail
      exact tail

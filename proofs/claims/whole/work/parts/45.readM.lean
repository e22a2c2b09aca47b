/-! ===== the reference's reader: a token, a value, a fault ===== -/
abbrev ZS : Type := ZTok × Nat × Option Nat
def zfl (e : Option Nat) : Int32 := match e with | none => -9 | some f => nI f
def zM (μ : ZMem) (σ : ZS) : ZMem := zTm μ (nI σ.1.2.2.1) (nI σ.1.2.1) (nI (zsrt σ.1)) (nI σ.2.1) (zfl σ.2.2)
def zdue (x : Nat → Nat) (t : Nat) (σ : ZS) (g : Bool) : ZS := match σ.2.2 with
  | some _ => σ
  | none => if g = true then (ztk x t σ.1.2.2.1, zvt x t σ.1.2.2.1, none) else (σ.1, σ.2.1, some σ.1.2.1)
def zwf (t : Nat) (σ : ZS) : Prop := σ.1.1 ≤ 4 ∧ σ.1.2.1 ≤ t ∧ σ.1.2.2.1 ≤ t ∧ σ.1.2.2.2 < 256 ∧ (σ.1.1 = 1 → σ.1.2.2.2 = 0 ∨ 97 ≤ σ.1.2.2.2) ∧ σ.2.1 < 1000 ∧ (σ.1.1 = 2 → σ.2.1 = σ.1.2.2.2) ∧ ∀ f, σ.2.2 = some f → f ≤ t
theorem zwf.k {t : Nat} {σ : ZS} (h : zwf t σ) : σ.1.1 ≤ 4 := h.1
theorem zwf.a {t : Nat} {σ : ZS} (h : zwf t σ) : σ.1.2.1 ≤ t := h.2.1
theorem zwf.b {t : Nat} {σ : ZS} (h : zwf t σ) : σ.1.2.2.1 ≤ t := h.2.2.1
theorem zwf.v {t : Nat} {σ : ZS} (h : zwf t σ) : σ.1.2.2.2 < 256 := h.2.2.2.1
theorem zwf.l {t : Nat} {σ : ZS} (h : zwf t σ) : σ.1.1 = 1 → σ.1.2.2.2 = 0 ∨ 97 ≤ σ.1.2.2.2 := h.2.2.2.2.1
theorem zwf.m {t : Nat} {σ : ZS} (h : zwf t σ) : σ.2.1 < 1000 := h.2.2.2.2.2.1
theorem zwf.n {t : Nat} {σ : ZS} (h : zwf t σ) : σ.1.1 = 2 → σ.2.1 = σ.1.2.2.2 := h.2.2.2.2.2.2.1
theorem zwf.f {t : Nat} {σ : ZS} (h : zwf t σ) : ∀ f, σ.2.2 = some f → f ≤ t := h.2.2.2.2.2.2.2
theorem zvt_wf {x : Nat → Nat} {t p : Nat} (hx : ∀ k, k < t → x k < 256) (hp : p ≤ t) : zwf t (ztk x t p, zvt x t p, none) := by
  have hle := ztk_le hx hp
  refine ⟨hle.1, hle.2.1, hle.2.2.1, hle.2.2.2, ?_, ?_, ?_, fun f q => by cases q⟩
  all_goals
    show _
    dsimp only
    try unfold ztk
    try unfold zvt
    have h1 := zrun_le (zbla x) (t - p) p
    generalize zrun (zbla x) p (t - p) = s at h1
    dsimp only
    by_cases hst : t ≤ s
  · rw [if_pos hst]; intro q; cases q
  · rw [if_neg hst]
    by_cases h59 : x s = 59
    · rw [if_pos h59]; intro q; cases q
    · rw [if_neg h59]
      by_cases hl : zlet x s = true
      · rw [if_pos hl]
        dsimp only
        intro _
        have hl2 : 97 ≤ x s ∧ x s ≤ 122 := by simpa [zlet] using hl
        split <;> omega
      · rw [if_neg hl]
        by_cases hd : zdig x s = true
        · rw [if_pos hd]
          dsimp only
          intro q
          exfalso
          split at q <;> omega
        · rw [if_neg hd]; intro q; cases q
  · rw [if_pos hst]; omega
  · rw [if_neg hst]
    by_cases hl : zlet x s = true
    · rw [if_pos hl]; omega
    · rw [if_neg hl]
      by_cases hd : zdig x s = true
      · rw [if_pos hd]
        refine zvm_lt x _ _ _ (fun k h2 h3 => ?_) (by omega)
        exact zdig_run hst hd k h2 h3
      · rw [if_neg hd]; omega
  · rw [if_pos hst]; intro q; cases q
  · rw [if_neg hst, if_neg hst]
    by_cases h59 : x s = 59
    · rw [if_pos h59]; intro q; cases q
    · rw [if_neg h59]
      by_cases hl : zlet x s = true
      · rw [if_pos hl]; intro q; cases q
      · rw [if_neg hl, if_neg hl]
        by_cases hd : zdig x s = true
        · rw [if_pos hd, if_pos hd]
          dsimp only
          intro q
          by_cases hc : (x s = 48 ∧ s + 1 < zrun (zdig x) (s + 1) (t - (s + 1))) ∨ 100 ≤ zvl x (s + 1) (zrun (zdig x) (s + 1) (t - (s + 1)) - (s + 1)) (x s - 48)
          · rw [if_pos hc] at q; cases q
          · have hE := (zrun_le (zdig x) (t - (s + 1)) (s + 1)).1
            generalize zrun (zdig x) (s + 1) (t - (s + 1)) = E at hE hc q
            have hd2 : 48 ≤ x s ∧ x s ≤ 57 := by simpa [zdig] using hd
            have hV : zvl x (s + 1) (E - (s + 1)) (x s - 48) = min 100 (zvm x s (E - s) 0) := by
              rw [show E - s = (E - (s + 1)) + 1 by omega]
              show _ = min 100 (zvm x (s + 1) (E - (s + 1)) (if 99 < 0 then 0 else 10 * 0 + (x s - 48)))
              rw [if_neg (by omega), ← zvm_vl]
              congr 1
              omega
            omega
        · rw [if_neg hd, if_neg hd]; intro q; cases q
theorem zdue_wf {x : Nat → Nat} {t : Nat} {σ : ZS} (hx : ∀ k, k < t → x k < 256) (h : zwf t σ) (g : Bool) : zwf t (zdue x t σ g) := by
  unfold zdue
  rcases σ with ⟨T, V, e⟩
  cases e with
  | some f => exact h
  | none =>
    dsimp only
    split
    · exact zvt_wf hx h.b
    · exact ⟨h.k, h.a, h.b, h.v, h.l, h.m, h.n, fun f q => by cases q; exact h.a⟩
theorem zfl_ne {f : Nat} (h : f ≤ 200) : ¬ nI f = -9 := by
  have : ∀ f, f < 201 → ¬ nI f = -9 := by decide +kernel
  exact this f (by omega)
theorem sp_due {μ : ZMem} {x : Nat → Nat} {t : Nat} (h : ztm μ x t) {σ : ZS} (hw : zwf t σ) (g : Bool) {v : Int32} (hv : v = if g = true then 1 else 0) : Sp layM mX4_due 2 [.ref 0, .int v] (zM μ σ) (some (.int (nI σ.2.1))) (zM μ (zdue x t σ g)) := by
  have h200 := h.2.1
  rcases σ with ⟨T, V, e⟩
  refine Sp.mk (L := [some (.ref 0), some (.int v), none]) rfl (by decide +kernel) rfl rfl (fun Q hQ => ?_)
  cases e with
  | some f =>
    have hf := hw.f f rfl
    refine z_aload_n dX4_due_0 rfl ?_
    refine z_getI dX4_due_1 zf_X4_75 (by first | rfl | assumption) rfl ?_
    refine z_istore_n (i := 2) dX4_due_4 rfl (by decide) ?_
    refine z_aload_n dX4_due_5 rfl ?_
    refine z_getI dX4_due_6 zf_X4_81 (by first | rfl | assumption) rfl ?_
    refine z_bipush (v := -9) dX4_due_9 (by decide) ?_
    refine z_icmp_ne (tgt := 33) dX4_due_11 (by decide) (fun _ => ?_) (fun hx_ => absurd hx_ (by show ¬ nI f = -9; exact zfl_ne (by omega)))
    refine z_iload_n dX4_due_33 rfl ?_
    refine z_iret dX4_due_34 rfl ?_
    exact hQ
  | none =>
    cases g with
    | true =>
      subst hv
      refine z_aload_n dX4_due_0 rfl ?_
      refine z_getI dX4_due_1 zf_X4_75 (by first | rfl | assumption) rfl ?_
      refine z_istore_n (i := 2) dX4_due_4 rfl (by decide) ?_
      refine z_aload_n dX4_due_5 rfl ?_
      refine z_getI dX4_due_6 zf_X4_81 (by first | rfl | assumption) rfl ?_
      refine z_bipush (v := -9) dX4_due_9 (by decide) ?_
      refine z_icmp_ne (tgt := 33) dX4_due_11 (by decide) (fun hx_ => absurd (rfl) hx_) (fun _ => ?_)
      refine z_iload_n dX4_due_14 rfl ?_
      refine z_if_eq (tgt := 25) dX4_due_15 (by decide) (fun hx_ => absurd hx_ (by decide)) (fun _ => ?_)
      refine z_aload_n dX4_due_18 rfl ?_
      refine z_cV0v (dy := 1) dX4_due_19 zl_X4_84 zy_X4_step (by first | rfl | assumption) rfl (by decide) (Nat.le_of_ble_eq_true rfl) (by refine sp_step (μ := μ) (x := x) (t := t) (p := T.2.2.1) ?_ ?_ _ _ _ _; exact h; exact hw.b) ?_
      refine z_goto (tgt := 33) dX4_due_22 (by decide) ?_
      refine z_iload_n dX4_due_33 rfl ?_
      refine z_iret dX4_due_34 rfl ?_
      exact hQ
    | false =>
      subst hv
      refine z_aload_n dX4_due_0 rfl ?_
      refine z_getI dX4_due_1 zf_X4_75 (by first | rfl | assumption) rfl ?_
      refine z_istore_n (i := 2) dX4_due_4 rfl (by decide) ?_
      refine z_aload_n dX4_due_5 rfl ?_
      refine z_getI dX4_due_6 zf_X4_81 (by first | rfl | assumption) rfl ?_
      refine z_bipush (v := -9) dX4_due_9 (by decide) ?_
      refine z_icmp_ne (tgt := 33) dX4_due_11 (by decide) (fun hx_ => absurd (rfl) hx_) (fun _ => ?_)
      refine z_iload_n dX4_due_14 rfl ?_
      refine z_if_eq (tgt := 25) dX4_due_15 (by decide) (fun _ => ?_) (fun hx_ => absurd (rfl) hx_)
      refine z_aload_n dX4_due_25 rfl ?_
      refine z_aload_n dX4_due_26 rfl ?_
      refine z_getI dX4_due_27 zf_X4_72 (by first | rfl | assumption) rfl ?_
      refine z_putI dX4_due_30 zf_X4_81p (by first | rfl | assumption) rfl rfl rfl ?_
      unfold zM
      rw [zTm15]
      refine z_iload_n dX4_due_33 rfl ?_
      refine z_iret dX4_due_34 rfl ?_
      exact hQ
theorem zsrt_1 {t : Nat} {σ : ZS} (hw : zwf t σ) : zsrt σ.1 = 1 ↔ σ.1.1 = 2 := by
  have h1 := hw.l
  have h2 := hw.k
  unfold zsrt
  by_cases c0 : σ.1.1 = 0
  · rw [if_pos c0]; omega
  · rw [if_neg c0]
    by_cases c1 : σ.1.1 = 1
    · rw [if_pos c1]
      have := h1 c1
      split <;> omega
    · rw [if_neg c1]
      by_cases c2 : σ.1.1 = 2
      · rw [if_pos c2]; omega
      · rw [if_neg c2]
        split <;> omega
theorem zsrt_2 {t : Nat} {σ : ZS} (hw : zwf t σ) : zsrt σ.1 = 2 ↔ σ.1.1 = 3 := by
  have h1 := hw.l
  have h2 := hw.k
  unfold zsrt
  by_cases c0 : σ.1.1 = 0
  · rw [if_pos c0]; omega
  · rw [if_neg c0]
    by_cases c1 : σ.1.1 = 1
    · rw [if_pos c1]
      have := h1 c1
      split <;> omega
    · rw [if_neg c1]
      by_cases c2 : σ.1.1 = 2
      · rw [if_pos c2]; omega
      · rw [if_neg c2]
        by_cases c3 : σ.1.1 = 3
        · rw [if_pos c3]; omega
        · rw [if_neg c3]; omega
theorem zsrt_3 {t : Nat} {σ : ZS} (hw : zwf t σ) : zsrt σ.1 = 3 ↔ σ.1.1 = 0 := by
  have h1 := hw.l
  have h2 := hw.k
  unfold zsrt
  by_cases c0 : σ.1.1 = 0
  · rw [if_pos c0]; omega
  · rw [if_neg c0]
    by_cases c1 : σ.1.1 = 1
    · rw [if_pos c1]
      have := h1 c1
      split <;> omega
    · rw [if_neg c1]
      by_cases c2 : σ.1.1 = 2
      · rw [if_pos c2]; omega
      · rw [if_neg c2]
        by_cases c3 : σ.1.1 = 3
        · rw [if_pos c3]; omega
        · rw [if_neg c3]; omega
theorem zsrt_lt {t : Nat} {σ : ZS} (hw : zwf t σ) : zsrt σ.1 < 256 := by
  have h1 := hw.v
  unfold zsrt
  split
  · omega
  · split
    · split <;> omega
    · split
      · omega
      · split <;> omega
/-- a letter due, by its sort -/
theorem zsrt_L {t : Nat} {σ : ZS} (hw : zwf t σ) {δ : ZD} : zroomP δ (zsrt σ.1) ↔ zroomP δ (zlet0 σ.1) := by
  have h1 := hw.l
  unfold zsrt zlet0
  by_cases c1 : σ.1.1 = 1
  · have := h1 c1
    rw [if_pos c1, if_neg (by omega), if_pos c1]
    split
    · constructor <;> (intro q; rcases q with q | q | q <;> omega)
    · exact Iff.rfl
  · rw [if_neg c1, if_neg c1]
    constructor <;> (intro q; exfalso; revert q)
    · split
      · intro q; rcases q with q | q | q <;> omega
      · split
        · intro q; rcases q with q | q | q <;> omega
        · split
          · intro q; rcases q with q | q | q <;> omega
          · intro q; rcases q with q | q | q <;> omega
    · intro q; rcases q with q | q | q <;> omega
theorem zsrt_eq {δ : ZD} {T : ZTok} (h : zroomP δ (zsrt T)) : zlet0 T = zsrt T := by
  by_cases c1 : T.1 = 1
  · have e0 : zlet0 T = T.2.2.2 := if_pos c1
    have e1 : zsrt T = if T.2.2.2 = 0 then 4 else T.2.2.2 := by unfold zsrt; rw [if_neg (by omega), if_pos c1]
    rw [e1] at h ⊢
    rw [e0]
    by_cases c : T.2.2.2 = 0
    · rw [if_pos c] at h; exfalso; rcases h with q | q | q <;> omega
    · rw [if_neg c]
  · exfalso
    unfold zsrt at h
    rw [if_neg c1] at h
    revert h
    split
    · intro q; rcases q with q | q | q <;> omega
    · split
      · intro q; rcases q with q | q | q <;> omega
      · split
        · intro q; rcases q with q | q | q <;> omega
        · intro q; rcases q with q | q | q <;> omega
def znum (σ : ZS) (lo hi : Nat) : Bool := decide (σ.1.1 = 2 ∧ lo ≤ σ.2.1 ∧ σ.2.1 ≤ hi)
theorem sp_number {μ : ZMem} {x : Nat → Nat} {t : Nat} (h : ztm μ x t) {σ : ZS} (hw : zwf t σ) (lo hi : Nat) (hlo : lo < 1000) (hhi : hi < 1000) : Sp layM mX4_number 3 [.ref 0, .int (nI lo), .int (nI hi)] (zM μ σ) (some (.int (nI σ.2.1))) (zM μ (zdue x t σ (znum σ lo hi))) := by
  have hm := hw.m
  have hs := zsrt_lt hw
  refine Sp.mk (L := [some (.ref 0), some (.int (nI lo)), some (.int (nI hi))]) rfl (by decide +kernel) rfl rfl (fun Q hQ => ?_)
  by_cases c1 : zsrt σ.1 = 1
  · by_cases c2 : lo ≤ σ.2.1 ∧ σ.2.1 ≤ hi
    · have e : znum σ lo hi = true := decide_eq_true ⟨(zsrt_1 hw).mp c1, c2⟩
      rw [e] at hQ
      refine z_aload_n dX4_number_0 rfl ?_
      refine z_aload_n dX4_number_1 rfl ?_
      refine z_getI dX4_number_2 zf_X4_78 (by first | rfl | assumption) rfl ?_
      refine z_iconst (v := 1) dX4_number_5 (by decide) ?_
      refine z_icmp_ne (tgt := 25) dX4_number_6 (by decide) (fun hx_ => absurd (by show nI (zsrt σ.1) = 1; rw [c1]; rfl) hx_) (fun _ => ?_)
      refine z_aload_n dX4_number_9 rfl ?_
      refine z_getI dX4_number_10 zf_X4_75 (by first | rfl | assumption) rfl ?_
      refine z_iload_n dX4_number_13 rfl ?_
      refine z_iload_n dX4_number_14 rfl ?_
      refine z_cS3r (dy := 0) dX4_number_15 zl_X4_57 zy_X4_in (by decide) (Nat.le_of_ble_eq_true rfl) (sp_in_t (nI_nlt c2.1 (by omega)) (nI_nlt c2.2 (by omega))) ?_
      refine z_if_eq (tgt := 25) dX4_number_18 (by decide) (fun hx_ => absurd hx_ (by decide)) (fun _ => ?_)
      refine z_iconst (v := 1) dX4_number_21 (by decide) ?_
      refine z_goto (tgt := 26) dX4_number_22 (by decide) ?_
      refine z_cV1r (dy := 2) dX4_number_26 zl_X4_87 zy_X4_due (by first | rfl | assumption) rfl (by decide) (Nat.le_of_ble_eq_true rfl) (sp_due h hw true rfl) ?_
      refine z_iret dX4_number_29 rfl ?_
      exact hQ
    · have e : znum σ lo hi = false := decide_eq_false (fun q => c2 q.2)
      rw [e] at hQ
      have hout : nI σ.2.1 < nI lo ∨ nI hi < nI σ.2.1 := by
        by_cases c3 : lo ≤ σ.2.1
        · right; exact nI_lt (by omega) (by omega)
        · left; exact nI_lt (by omega) (by omega)
      refine z_aload_n dX4_number_0 rfl ?_
      refine z_aload_n dX4_number_1 rfl ?_
      refine z_getI dX4_number_2 zf_X4_78 (by first | rfl | assumption) rfl ?_
      refine z_iconst (v := 1) dX4_number_5 (by decide) ?_
      refine z_icmp_ne (tgt := 25) dX4_number_6 (by decide) (fun hx_ => absurd (by show nI (zsrt σ.1) = 1; rw [c1]; rfl) hx_) (fun _ => ?_)
      refine z_aload_n dX4_number_9 rfl ?_
      refine z_getI dX4_number_10 zf_X4_75 (by first | rfl | assumption) rfl ?_
      refine z_iload_n dX4_number_13 rfl ?_
      refine z_iload_n dX4_number_14 rfl ?_
      refine z_cS3r (dy := 0) dX4_number_15 zl_X4_57 zy_X4_in (by decide) (Nat.le_of_ble_eq_true rfl) (sp_in_f hout) ?_
      refine z_if_eq (tgt := 25) dX4_number_18 (by decide) (fun _ => ?_) (fun hx_ => absurd (rfl) hx_)
      refine z_iconst (v := 0) dX4_number_25 (by decide) ?_
      refine z_cV1r (dy := 2) dX4_number_26 zl_X4_87 zy_X4_due (by first | rfl | assumption) rfl (by decide) (Nat.le_of_ble_eq_true rfl) (sp_due h hw false rfl) ?_
      refine z_iret dX4_number_29 rfl ?_
      exact hQ
  · have e : znum σ lo hi = false := decide_eq_false (fun q => c1 ((zsrt_1 hw).mpr q.1))
    rw [e] at hQ
    refine z_aload_n dX4_number_0 rfl ?_
    refine z_aload_n dX4_number_1 rfl ?_
    refine z_getI dX4_number_2 zf_X4_78 (by first | rfl | assumption) rfl ?_
    refine z_iconst (v := 1) dX4_number_5 (by decide) ?_
    refine z_icmp_ne (tgt := 25) dX4_number_6 (by decide) (fun _ => ?_) (fun hx_ => absurd hx_ (by show ¬ nI (zsrt σ.1) = 1; exact fun q => c1 ((nI_eq (b := 1) (by omega) (by decide)).mp q)))
    refine z_iconst (v := 0) dX4_number_25 (by decide) ?_
    refine z_cV1r (dy := 2) dX4_number_26 zl_X4_87 zy_X4_due (by first | rfl | assumption) rfl (by decide) (Nat.le_of_ble_eq_true rfl) (sp_due h hw false rfl) ?_
    refine z_iret dX4_number_29 rfl ?_
    exact hQ
/-- numbers while they come: at most m -/
def zrs (x : Nat → Nat) (t : Nat) : Nat → Int32 → ZS → Int32 × ZS
  | 0, b, σ => (b, σ)
  | m + 1, b, σ => if σ.1.1 = 2 ∧ σ.2.2 = none then zrs x t m (b ||| (1 <<< ((if σ.2.1 ≤ 7 then nI σ.2.1 else 0) &&& 31))) (zdue x t σ (decide (σ.2.1 ≤ 7))) else (b, σ)
theorem zrs_wf {x : Nat → Nat} {t : Nat} (hx : ∀ k, k < t → x k < 256) : ∀ m b σ, zwf t σ → zwf t (zrs x t m b σ).2 := by
  intro m
  induction m with
  | zero => intro b σ h; exact h
  | succ m ih =>
    intro b σ h
    unfold zrs
    split
    · exact ih _ _ (zdue_wf hx h _)
    · exact h
theorem sp_readSet {μ : ZMem} {x : Nat → Nat} {t : Nat} (h : ztm μ x t) {σ : ZS} (hw : zwf t σ) : Sp layM mX4_readSet 3 [.ref 0] (zM μ σ) (some (.int (zrs x t 8 0 σ).1)) (zM μ (zrs x t 8 0 σ).2) := by
  have hx : ∀ k, k < t → x k < 256 := fun k hk => (h.2.2 k hk).2
  have h200 := h.2.1
  refine Sp.mk (L := [some (.ref 0), none, none]) rfl (by decide +kernel) rfl rfl (fun Q hQ => ?_)
  refine z_iconst (v := 0) dX4_readSet_0 (by decide) ?_
  refine z_istore_n (i := 1) dX4_readSet_1 rfl (by decide) ?_
  refine z_iconst (v := 0) dX4_readSet_2 (by decide) ?_
  refine z_istore_n (i := 2) dX4_readSet_3 rfl (by decide) ?_
  have key : ∀ k, k ≤ 8 → ∀ b τ, zwf t τ → zrs x t 8 0 σ = zrs x t (8 - k) b τ → ZW layM mX4_readSet 3 Q 4 [some (.ref 0), some (.int b), some (.int (nI k))] [] (zM μ τ) := by
    refine zdown 8 ?_ ?_
    · intro b τ hτ e
      rw [e] at hQ
      refine z_iload_n dX4_readSet_4 rfl ?_
      refine z_bipush (v := 8) dX4_readSet_5 (by decide) ?_
      refine z_icmp_ge (tgt := 74) dX4_readSet_7 (by decide) (fun _ => ?_) (fun hx_ => absurd (by decide) hx_)
      refine z_iload_n dX4_readSet_74 rfl ?_
      refine z_iret dX4_readSet_75 rfl ?_
      exact hQ
    · intro k hk ih b τ hτ e
      have hm := hτ.m
      have hs := zsrt_lt hτ
      rw [show 8 - k = (8 - (k + 1)) + 1 by omega] at e
      have e2 : zrs x t (8 - (k + 1) + 1) b τ = if τ.1.1 = 2 ∧ τ.2.2 = none then zrs x t (8 - (k + 1)) (b ||| (1 <<< ((if τ.2.1 ≤ 7 then nI τ.2.1 else 0) &&& 31))) (zdue x t τ (decide (τ.2.1 ≤ 7))) else (b, τ) := rfl
      rw [e2] at e
      by_cases c1 : zsrt τ.1 = 1
      · by_cases c2 : τ.2.2 = none
        · rw [if_pos ⟨(zsrt_1 hτ).mp c1, c2⟩] at e
          have hfl : (zM μ τ).1 0 15 = -9 := by show zfl τ.2.2 = -9; rw [c2]; rfl
          by_cases c3 : τ.2.1 ≤ 7
          · have e3 : decide (τ.2.1 ≤ 7) = true := decide_eq_true c3
            rw [if_pos c3, e3] at e
            have hin : Sp layM mX4_in 0 [.int (nI τ.2.1), .int 0, .int 7] (zM μ τ) (some (.int 1)) (zM μ τ) := sp_in_t (nI_pos (by omega)) (nI_nlt (a := 7) c3 (by decide))
            refine z_iload_n dX4_readSet_4 rfl ?_
            refine z_bipush (v := 8) dX4_readSet_5 (by decide) ?_
            refine z_icmp_ge (tgt := 74) dX4_readSet_7 (by decide) (fun hx_ => absurd hx_ (nI_ge (b := 8) (by omega) (by decide))) (fun _ => ?_)
            refine z_aload_n dX4_readSet_10 rfl ?_
            refine z_getI dX4_readSet_11 zf_X4_78 (by first | rfl | assumption) rfl ?_
            refine z_iconst (v := 1) dX4_readSet_14 (by decide) ?_
            refine z_icmp_ne (tgt := 74) dX4_readSet_15 (by decide) (fun hx_ => absurd (by show nI (zsrt τ.1) = 1; rw [c1]; rfl) hx_) (fun _ => ?_)
            refine z_aload_n dX4_readSet_18 rfl ?_
            refine z_getI dX4_readSet_19 zf_X4_81 (by first | rfl | assumption) rfl ?_
            refine z_bipush (v := -9) dX4_readSet_22 (by decide) ?_
            refine z_icmp_ne (tgt := 74) dX4_readSet_24 (by decide) (fun hx_ => absurd hfl hx_) (fun _ => ?_)
            refine z_iload_n dX4_readSet_27 rfl ?_
            refine z_iconst (v := 1) dX4_readSet_28 (by decide) ?_
            refine z_aload_n dX4_readSet_29 rfl ?_
            refine z_getI dX4_readSet_30 zf_X4_75 (by first | rfl | assumption) rfl ?_
            refine z_iconst (v := 0) dX4_readSet_33 (by decide) ?_
            refine z_bipush (v := 7) dX4_readSet_34 (by decide) ?_
            refine z_cS3r (dy := 0) dX4_readSet_36 zl_X4_57 zy_X4_in (by decide) (Nat.le_of_ble_eq_true rfl) hin ?_
            refine z_if_eq (tgt := 49) dX4_readSet_39 (by decide) (fun hx_ => absurd hx_ (by decide)) (fun _ => ?_)
            refine z_aload_n dX4_readSet_42 rfl ?_
            refine z_getI dX4_readSet_43 zf_X4_75 (by first | rfl | assumption) rfl ?_
            refine z_goto (tgt := 50) dX4_readSet_46 (by decide) ?_
            refine z_ishl dX4_readSet_50 ?_
            refine z_ior dX4_readSet_51 ?_
            refine z_istore_n (i := 1) dX4_readSet_52 rfl (by decide) ?_
            refine z_aload_n dX4_readSet_53 rfl ?_
            refine z_aload_n dX4_readSet_54 rfl ?_
            refine z_getI dX4_readSet_55 zf_X4_75 (by first | rfl | assumption) rfl ?_
            refine z_iconst (v := 0) dX4_readSet_58 (by decide) ?_
            refine z_bipush (v := 7) dX4_readSet_59 (by decide) ?_
            refine z_cS3r (dy := 0) dX4_readSet_61 zl_X4_57 zy_X4_in (by decide) (Nat.le_of_ble_eq_true rfl) hin ?_
            refine z_cV1r (dy := 2) dX4_readSet_64 zl_X4_87 zy_X4_due (by first | rfl | assumption) rfl (by decide) (Nat.le_of_ble_eq_true rfl) (sp_due h hτ true rfl) ?_
            refine z_pop dX4_readSet_67 rfl ?_
            refine z_iinc (v := 1) dX4_readSet_68 rfl (by decide) (by decide) ?_
            refine z_goto (tgt := 4) dX4_readSet_71 (by decide) ?_
            exact ZW.eq (ih _ _ (zdue_wf hx hτ _) e) rfl (by rw [nI_succ k]; rfl)
          · have e3 : decide (τ.2.1 ≤ 7) = false := decide_eq_false c3
            rw [if_neg c3, e3] at e
            have hin : Sp layM mX4_in 0 [.int (nI τ.2.1), .int 0, .int 7] (zM μ τ) (some (.int 0)) (zM μ τ) := sp_in_f (Or.inr (nI_lt (a := 7) (show 7 < τ.2.1 by omega) (by omega)))
            refine z_iload_n dX4_readSet_4 rfl ?_
            refine z_bipush (v := 8) dX4_readSet_5 (by decide) ?_
            refine z_icmp_ge (tgt := 74) dX4_readSet_7 (by decide) (fun hx_ => absurd hx_ (nI_ge (b := 8) (by omega) (by decide))) (fun _ => ?_)
            refine z_aload_n dX4_readSet_10 rfl ?_
            refine z_getI dX4_readSet_11 zf_X4_78 (by first | rfl | assumption) rfl ?_
            refine z_iconst (v := 1) dX4_readSet_14 (by decide) ?_
            refine z_icmp_ne (tgt := 74) dX4_readSet_15 (by decide) (fun hx_ => absurd (by show nI (zsrt τ.1) = 1; rw [c1]; rfl) hx_) (fun _ => ?_)
            refine z_aload_n dX4_readSet_18 rfl ?_
            refine z_getI dX4_readSet_19 zf_X4_81 (by first | rfl | assumption) rfl ?_
            refine z_bipush (v := -9) dX4_readSet_22 (by decide) ?_
            refine z_icmp_ne (tgt := 74) dX4_readSet_24 (by decide) (fun hx_ => absurd hfl hx_) (fun _ => ?_)
            refine z_iload_n dX4_readSet_27 rfl ?_
            refine z_iconst (v := 1) dX4_readSet_28 (by decide) ?_
            refine z_aload_n dX4_readSet_29 rfl ?_
            refine z_getI dX4_readSet_30 zf_X4_75 (by first | rfl | assumption) rfl ?_
            refine z_iconst (v := 0) dX4_readSet_33 (by decide) ?_
            refine z_bipush (v := 7) dX4_readSet_34 (by decide) ?_
            refine z_cS3r (dy := 0) dX4_readSet_36 zl_X4_57 zy_X4_in (by decide) (Nat.le_of_ble_eq_true rfl) hin ?_
            refine z_if_eq (tgt := 49) dX4_readSet_39 (by decide) (fun _ => ?_) (fun hx_ => absurd (rfl) hx_)
            refine z_iconst (v := 0) dX4_readSet_49 (by decide) ?_
            refine z_ishl dX4_readSet_50 ?_
            refine z_ior dX4_readSet_51 ?_
            refine z_istore_n (i := 1) dX4_readSet_52 rfl (by decide) ?_
            refine z_aload_n dX4_readSet_53 rfl ?_
            refine z_aload_n dX4_readSet_54 rfl ?_
            refine z_getI dX4_readSet_55 zf_X4_75 (by first | rfl | assumption) rfl ?_
            refine z_iconst (v := 0) dX4_readSet_58 (by decide) ?_
            refine z_bipush (v := 7) dX4_readSet_59 (by decide) ?_
            refine z_cS3r (dy := 0) dX4_readSet_61 zl_X4_57 zy_X4_in (by decide) (Nat.le_of_ble_eq_true rfl) hin ?_
            refine z_cV1r (dy := 2) dX4_readSet_64 zl_X4_87 zy_X4_due (by first | rfl | assumption) rfl (by decide) (Nat.le_of_ble_eq_true rfl) (sp_due h hτ false rfl) ?_
            refine z_pop dX4_readSet_67 rfl ?_
            refine z_iinc (v := 1) dX4_readSet_68 rfl (by decide) (by decide) ?_
            refine z_goto (tgt := 4) dX4_readSet_71 (by decide) ?_
            exact ZW.eq (ih _ _ (zdue_wf hx hτ _) e) rfl (by rw [nI_succ k]; rfl)
        · rw [if_neg (fun q => c2 q.2)] at e
          rw [e] at hQ
          have hfl : ¬ (zM μ τ).1 0 15 = -9 := by
            show ¬ zfl τ.2.2 = -9
            cases hf : τ.2.2 with
            | none => exact absurd hf c2
            | some f => exact zfl_ne (by have := hτ.f f hf; omega)
          refine z_iload_n dX4_readSet_4 rfl ?_
          refine z_bipush (v := 8) dX4_readSet_5 (by decide) ?_
          refine z_icmp_ge (tgt := 74) dX4_readSet_7 (by decide) (fun hx_ => absurd hx_ (nI_ge (b := 8) (by omega) (by decide))) (fun _ => ?_)
          refine z_aload_n dX4_readSet_10 rfl ?_
          refine z_getI dX4_readSet_11 zf_X4_78 (by first | rfl | assumption) rfl ?_
          refine z_iconst (v := 1) dX4_readSet_14 (by decide) ?_
          refine z_icmp_ne (tgt := 74) dX4_readSet_15 (by decide) (fun hx_ => absurd (by show nI (zsrt τ.1) = 1; rw [c1]; rfl) hx_) (fun _ => ?_)
          refine z_aload_n dX4_readSet_18 rfl ?_
          refine z_getI dX4_readSet_19 zf_X4_81 (by first | rfl | assumption) rfl ?_
          refine z_bipush (v := -9) dX4_readSet_22 (by decide) ?_
          refine z_icmp_ne (tgt := 74) dX4_readSet_24 (by decide) (fun _ => ?_) (fun hx_ => absurd hx_ hfl)
          refine z_iload_n dX4_readSet_74 rfl ?_
          refine z_iret dX4_readSet_75 rfl ?_
          exact hQ
      · rw [if_neg (fun q => c1 ((zsrt_1 hτ).mpr q.1))] at e
        rw [e] at hQ
        refine z_iload_n dX4_readSet_4 rfl ?_
        refine z_bipush (v := 8) dX4_readSet_5 (by decide) ?_
        refine z_icmp_ge (tgt := 74) dX4_readSet_7 (by decide) (fun hx_ => absurd hx_ (nI_ge (b := 8) (by omega) (by decide))) (fun _ => ?_)
        refine z_aload_n dX4_readSet_10 rfl ?_
        refine z_getI dX4_readSet_11 zf_X4_78 (by first | rfl | assumption) rfl ?_
        refine z_iconst (v := 1) dX4_readSet_14 (by decide) ?_
        refine z_icmp_ne (tgt := 74) dX4_readSet_15 (by decide) (fun _ => ?_) (fun hx_ => absurd hx_ (by show ¬ nI (zsrt τ.1) = 1; exact fun q => c1 ((nI_eq (b := 1) (by omega) (by decide)).mp q)))
        refine z_iload_n dX4_readSet_74 rfl ?_
        refine z_iret dX4_readSet_75 rfl ?_
        exact hQ
  exact key 0 (Nat.zero_le _) 0 σ hw rfl
/-- the draft in the reference's memory -/
def zDp (μ : ZMem) (f3 f4 f5 f6 f7 : Int32) (r1 r2 r3 : Nat → Int32) : ZMem := (fun i j => if i = 0 then (if j = 10 then f6 else μ.1 0 j) else if i = 2 then (if j = 1 then f3 else μ.1 2 j) else if i = 6 then (if j = 1 then f4 else μ.1 6 j) else if i = 8 then (if j = 1 then f5 else μ.1 8 j) else if i = 5 then (if j = 1 then f7 else μ.1 5 j) else if i = 3 then (if 8 ≤ j then r1 (j - 8) else μ.1 3 j) else if i = 4 then (if 8 ≤ j then r2 (j - 8) else μ.1 4 j) else if i = 7 then (if 5 ≤ j then r3 (j - 5) else μ.1 7 j) else μ.1 i j, μ.2)
abbrev zDm (μ : ZMem) (δ : ZD) : ZMem := zDp μ (nI δ.1) (nI δ.2.1) (nI δ.2.2.1) (nI δ.2.2.2.1) δ.2.2.2.2.1 δ.2.2.2.2.2.1 δ.2.2.2.2.2.2.1 δ.2.2.2.2.2.2.2
theorem zDp_f3 (μ : ZMem) (f3 f4 f5 f6 f7 v : Int32) (r1 r2 r3 : Nat → Int32) : zI (zDp μ f3 f4 f5 f6 f7 r1 r2 r3) 2 1 v = zDp μ v f4 f5 f6 f7 r1 r2 r3 := by
  refine Prod.ext (funext fun i => funext fun j => ?_) rfl
  simp only [zI, zup, zDp]
  by_cases hi : i = 2
  · subst hi
    by_cases hj : j = 1 <;> simp [hj]
  · simp [hi]
theorem zDp_f4 (μ : ZMem) (f3 f4 f5 f6 f7 v : Int32) (r1 r2 r3 : Nat → Int32) : zI (zDp μ f3 f4 f5 f6 f7 r1 r2 r3) 6 1 v = zDp μ f3 v f5 f6 f7 r1 r2 r3 := by
  refine Prod.ext (funext fun i => funext fun j => ?_) rfl
  simp only [zI, zup, zDp]
  by_cases hi : i = 6
  · subst hi
    by_cases hj : j = 1 <;> simp [hj]
  · simp [hi]
theorem zDp_f5 (μ : ZMem) (f3 f4 f5 f6 f7 v : Int32) (r1 r2 r3 : Nat → Int32) : zI (zDp μ f3 f4 f5 f6 f7 r1 r2 r3) 8 1 v = zDp μ f3 f4 v f6 f7 r1 r2 r3 := by
  refine Prod.ext (funext fun i => funext fun j => ?_) rfl
  simp only [zI, zup, zDp]
  by_cases hi : i = 8
  · subst hi
    by_cases hj : j = 1 <;> simp [hj]
  · simp [hi]
theorem zDp_f6 (μ : ZMem) (f3 f4 f5 f6 f7 v : Int32) (r1 r2 r3 : Nat → Int32) : zI (zDp μ f3 f4 f5 f6 f7 r1 r2 r3) 0 10 v = zDp μ f3 f4 f5 v f7 r1 r2 r3 := by
  refine Prod.ext (funext fun i => funext fun j => ?_) rfl
  simp only [zI, zup, zDp]
  by_cases hi : i = 0
  · subst hi
    by_cases hj : j = 10 <;> simp [hj]
  · simp [hi]
theorem zDp_f7 (μ : ZMem) (f3 f4 f5 f6 f7 v : Int32) (r1 r2 r3 : Nat → Int32) : zI (zDp μ f3 f4 f5 f6 f7 r1 r2 r3) 5 1 v = zDp μ f3 f4 f5 f6 v r1 r2 r3 := by
  refine Prod.ext (funext fun i => funext fun j => ?_) rfl
  simp only [zI, zup, zDp]
  by_cases hi : i = 5
  · subst hi
    by_cases hj : j = 1 <;> simp [hj]
  · simp [hi]
theorem zDp_r1 (μ : ZMem) (f3 f4 f5 f6 f7 v : Int32) (r1 r2 r3 : Nat → Int32) (k : Nat) : zI (zDp μ f3 f4 f5 f6 f7 r1 r2 r3) 3 (8 + k) v = zDp μ f3 f4 f5 f6 f7 (upd r1 k v) r2 r3 := by
  refine Prod.ext (funext fun i => funext fun j => ?_) rfl
  simp only [zI, zup, zDp, upd]
  by_cases hi : i = 3
  · subst hi
    by_cases hj : j = 8 + k
    · subst hj; simp
    · by_cases h8 : 8 ≤ j
      · simp [hj, h8, show ¬ j - 8 = k by omega]
      · simp [hj, h8]
  · simp [hi]
theorem zDp_r2 (μ : ZMem) (f3 f4 f5 f6 f7 v : Int32) (r1 r2 r3 : Nat → Int32) (k : Nat) : zI (zDp μ f3 f4 f5 f6 f7 r1 r2 r3) 4 (8 + k) v = zDp μ f3 f4 f5 f6 f7 r1 (upd r2 k v) r3 := by
  refine Prod.ext (funext fun i => funext fun j => ?_) rfl
  simp only [zI, zup, zDp, upd]
  by_cases hi : i = 4
  · subst hi
    by_cases hj : j = 8 + k
    · subst hj; simp
    · by_cases h8 : 8 ≤ j
      · simp [hj, h8, show ¬ j - 8 = k by omega]
      · simp [hj, h8]
  · simp [hi]
theorem zDp_r3 (μ : ZMem) (f3 f4 f5 f6 f7 v : Int32) (r1 r2 r3 : Nat → Int32) (k : Nat) : zI (zDp μ f3 f4 f5 f6 f7 r1 r2 r3) 7 (5 + k) v = zDp μ f3 f4 f5 f6 f7 r1 r2 (upd r3 k v) := by
  refine Prod.ext (funext fun i => funext fun j => ?_) rfl
  simp only [zI, zup, zDp, upd]
  by_cases hi : i = 7
  · subst hi
    by_cases hj : j = 5 + k
    · subst hj; simp
    · by_cases h8 : 5 ≤ j
      · simp [hj, h8, show ¬ j - 5 = k by omega]
      · simp [hj, h8]
  · simp [hi]
theorem zI_M {μ : ZMem} {σ : ZS} {u k : Nat} {v : Int32} (h : u ≠ 0 ∨ k < 11 ∨ 15 < k) : zI (zM μ σ) u k v = zM (zI μ u k v) σ := zI_Tm h
theorem ztm_D {μ : ZMem} {x : Nat → Nat} {t : Nat} (h : ztm μ x t) (δ : ZD) : ztm (zDm μ δ) x t := h
theorem sp_mayBe {μ : ZMem} {δ : ZD} (h1 : δ.1 ≤ 8) (h2 : δ.2.1 ≤ 5) (h3 : δ.2.2.2.1 ≤ 1) {L : Nat} (hL : L < 256) (σ : ZS) : Sp layM mX4_mayBe 0 [.ref 0, .int (nI L)] (zM (zDm μ δ) σ) (some (.int (if zroomP δ L then 1 else 0))) (zM (zDm μ δ) σ) := by
  refine Sp.mk (L := [some (.ref 0), some (.int (nI L))]) rfl (by decide +kernel) rfl rfl (fun Q hQ => ?_)
  refine z_iload_n dX4_mayBe_0 rfl ?_
  have say : (zroomP δ L ↔ δ.1 < 8) → ZW layM mX4_mayBe 0 Q 44 [some (.ref 0), some (.int (nI L))] [] (zM (zDm μ δ) σ) := by
    intro hh
    by_cases hr : δ.1 < 8
    · rw [if_pos (hh.mpr hr)] at hQ
      refine z_aload_n dX4_mayBe_44 rfl ?_
      refine z_getR dX4_mayBe_45 zf_X4_13 (by first | rfl | assumption) rfl ?_
      refine z_iconst (v := 1) dX4_mayBe_48 (by decide) ?_
      refine z_iald dX4_mayBe_49 (by first | rfl | assumption) rfl (by first | assumption | omega | decide) (by decide) ?_
      refine z_bipush (v := 8) dX4_mayBe_50 (by decide) ?_
      refine z_icmp_ge (tgt := 59) dX4_mayBe_52 (by decide) (fun hx_ => absurd hx_ (nI_ge (b := 8) hr (by decide))) (fun _ => ?_)
      refine z_iconst (v := 1) dX4_mayBe_55 (by decide) ?_
      refine z_goto (tgt := 60) dX4_mayBe_56 (by decide) ?_
      refine z_zret dX4_mayBe_60 rfl (by decide) ?_
      exact hQ
    · rw [if_neg (fun q => hr (hh.mp q))] at hQ
      refine z_aload_n dX4_mayBe_44 rfl ?_
      refine z_getR dX4_mayBe_45 zf_X4_13 (by first | rfl | assumption) rfl ?_
      refine z_iconst (v := 1) dX4_mayBe_48 (by decide) ?_
      refine z_iald dX4_mayBe_49 (by first | rfl | assumption) rfl (by first | assumption | omega | decide) (by decide) ?_
      refine z_bipush (v := 8) dX4_mayBe_50 (by decide) ?_
      refine z_icmp_ge (tgt := 59) dX4_mayBe_52 (by decide) (fun _ => ?_) (fun hx_ => absurd (nI_le (a := 8) (b := δ.1) (by omega) (by omega)) hx_)
      refine z_iconst (v := 0) dX4_mayBe_59 (by decide) ?_
      refine z_zret dX4_mayBe_60 rfl (by decide) ?_
      exact hQ
  by_cases h97 : L = 97
  · subst h97
    refine z_lsw (off := 43) (tgt := 44) dX4_mayBe_1 (by decide) (by decide) (by decide) ?_
    exact say ⟨fun q => by rcases q with q | q | q <;> omega, fun q => Or.inl ⟨Or.inl rfl, q⟩⟩
  · by_cases h122 : L = 122
    · subst h122
      refine z_lsw (off := 43) (tgt := 44) dX4_mayBe_1 (by decide) (by decide) (by decide) ?_
      exact say ⟨fun q => by rcases q with q | q | q <;> omega, fun q => Or.inl ⟨Or.inr rfl, q⟩⟩
    · by_cases h112 : L = 112
      · subst h112
        refine z_lsw (off := 60) (tgt := 61) dX4_mayBe_1 (by decide) (by decide) (by decide) ?_
        by_cases hr : δ.2.1 < 5
        · rw [if_pos (Or.inr (Or.inl ⟨rfl, hr⟩))] at hQ
          refine z_aload_n dX4_mayBe_61 rfl ?_
          refine z_getR dX4_mayBe_62 zf_X4_26 (by first | rfl | assumption) rfl ?_
          refine z_iconst (v := 1) dX4_mayBe_65 (by decide) ?_
          refine z_iald dX4_mayBe_66 (by first | rfl | assumption) rfl (by first | assumption | omega | decide) (by decide) ?_
          refine z_iconst (v := 5) dX4_mayBe_67 (by decide) ?_
          refine z_icmp_ge (tgt := 75) dX4_mayBe_68 (by decide) (fun hx_ => absurd hx_ (nI_ge (b := 5) hr (by decide))) (fun _ => ?_)
          refine z_iconst (v := 1) dX4_mayBe_71 (by decide) ?_
          refine z_goto (tgt := 76) dX4_mayBe_72 (by decide) ?_
          refine z_zret dX4_mayBe_76 rfl (by decide) ?_
          exact hQ
        · rw [if_neg (by simp; omega)] at hQ
          refine z_aload_n dX4_mayBe_61 rfl ?_
          refine z_getR dX4_mayBe_62 zf_X4_26 (by first | rfl | assumption) rfl ?_
          refine z_iconst (v := 1) dX4_mayBe_65 (by decide) ?_
          refine z_iald dX4_mayBe_66 (by first | rfl | assumption) rfl (by first | assumption | omega | decide) (by decide) ?_
          refine z_iconst (v := 5) dX4_mayBe_67 (by decide) ?_
          refine z_icmp_ge (tgt := 75) dX4_mayBe_68 (by decide) (fun _ => ?_) (fun hx_ => absurd (nI_le (a := 5) (b := δ.2.1) (by omega) (by omega)) hx_)
          refine z_iconst (v := 0) dX4_mayBe_75 (by decide) ?_
          refine z_zret dX4_mayBe_76 rfl (by decide) ?_
          exact hQ
      · by_cases h111 : L = 111
        · subst h111
          refine z_lsw (off := 76) (tgt := 77) dX4_mayBe_1 (by decide) (by decide) (by decide) ?_
          by_cases hr : δ.2.2.2.1 = 0
          · rw [if_pos (Or.inr (Or.inr ⟨rfl, hr⟩))] at hQ
            refine z_aload_n dX4_mayBe_77 rfl ?_
            refine z_getI dX4_mayBe_78 zf_X4_91 (by first | rfl | assumption) rfl ?_
            refine z_if_ne (tgt := 88) dX4_mayBe_81 (by decide) (fun hx_ => absurd (by show nI δ.2.2.2.1 = 0; rw [hr]; rfl) hx_) (fun _ => ?_)
            refine z_iconst (v := 1) dX4_mayBe_84 (by decide) ?_
            refine z_goto (tgt := 89) dX4_mayBe_85 (by decide) ?_
            refine z_zret dX4_mayBe_89 rfl (by decide) ?_
            exact hQ
          · rw [if_neg (by simp; omega)] at hQ
            refine z_aload_n dX4_mayBe_77 rfl ?_
            refine z_getI dX4_mayBe_78 zf_X4_91 (by first | rfl | assumption) rfl ?_
            refine z_if_ne (tgt := 88) dX4_mayBe_81 (by decide) (fun _ => ?_) (fun hx_ => absurd hx_ (by show ¬ nI δ.2.2.2.1 = 0; exact nI_ne0 (by omega) (by omega)))
            refine z_iconst (v := 0) dX4_mayBe_88 (by decide) ?_
            refine z_zret dX4_mayBe_89 rfl (by decide) ?_
            exact hQ
        · rw [if_neg (by simp; omega)] at hQ
          have n97 : ¬ nI L = 97 := fun q => h97 ((nI_eq (b := 97) (by omega) (by decide)).mp q)
          have n111 : ¬ nI L = 111 := fun q => h111 ((nI_eq (b := 111) (by omega) (by decide)).mp q)
          have n112 : ¬ nI L = 112 := fun q => h112 ((nI_eq (b := 112) (by omega) (by decide)).mp q)
          have n122 : ¬ nI L = 122 := fun q => h122 ((nI_eq (b := 122) (by omega) (by decide)).mp q)
          refine z_lsw (off := 89) (tgt := 90) dX4_mayBe_1 (by decide) (by
            show Op.lookupswitch.offset [(97, 43), (111, 76), (112, 60), (122, 43)] 89 (nI L).toInt = 89
            rw [lv_osw n97 (by decide), lv_osw n111 (by decide), lv_osw n112 (by decide), lv_osw n122 (by decide)]; rfl) (by decide) ?_
          refine z_iconst (v := 0) dX4_mayBe_90 (by decide) ?_
          refine z_zret dX4_mayBe_91 rfl (by decide) ?_
          exact hQ
def zitm (x : Nat → Nat) (t : Nat) (δ : ZD) (L : Nat) (σ : ZS) : ZD × ZS :=
  if L = 112 then (ztake δ 112 0 (zrs x t 8 0 σ).1, (zrs x t 8 0 σ).2)
  else if L = 111 then (ztake δ 111 σ.2.1 0, zdue x t σ (znum σ 1 9))
  else if L = 97 then (ztake δ L σ.2.1 (zrs x t 8 0 (zdue x t σ (znum σ 0 9))).1, (zrs x t 8 0 (zdue x t σ (znum σ 0 9))).2)
  else (ztake δ L σ.2.1 0, zdue x t σ (znum σ 0 9))
theorem sp_readRow {μ : ZMem} {x : Nat → Nat} {t : Nat} (h : ztm μ x t) {δ : ZD} {L : Nat} (hr : zroomP δ L) {σ : ZS} (hw : zwf t σ) : Sp layM mX4_readRow 4 [.ref 0, .int (nI L)] (zM (zDm μ δ) σ) none (zM (zDm μ (zitm x t δ L σ).1) (zitm x t δ L σ).2) := by
  have hx : ∀ k, k < t → x k < 256 := fun k hk => (h.2.2 k hk).2
  have hLb : L = 97 ∨ L = 122 ∨ L = 112 ∨ L = 111 := by rcases hr with q | q | q <;> omega
  refine Sp.mk (L := [some (.ref 0), some (.int (nI L)), none]) rfl (by decide +kernel) rfl rfl (fun Q hQ => ?_)
  refine z_iload_n dX4_readRow_0 rfl ?_
  by_cases h112 : L = 112
  · have hp5 : δ.2.1 < 5 := by rcases hr with hr | hr | hr <;> omega
    have e : zitm x t δ L σ = (ztake δ 112 0 (zrs x t 8 0 σ).1, (zrs x t 8 0 σ).2) := if_pos h112
    rw [e] at hQ
    have e2 : ∀ b, ztake δ 112 0 b = (δ.1, δ.2.1 + 1, δ.2.2.1, δ.2.2.2.1, δ.2.2.2.2.1, δ.2.2.2.2.2.1, δ.2.2.2.2.2.2.1, upd δ.2.2.2.2.2.2.2 δ.2.1 b) := by intro b; unfold ztake; rw [if_neg (by omega), if_pos rfl]
    rw [e2] at hQ
    subst h112
    refine z_lsw (off := 118) (tgt := 119) dX4_readRow_1 (by decide) (by decide) (by decide) ?_
    refine z_aload_n dX4_readRow_119 rfl ?_
    refine z_getR dX4_readRow_120 zf_X4_29 (by first | rfl | assumption) rfl ?_
    refine z_iconst (v := 5) dX4_readRow_123 (by decide) ?_
    refine z_aload_n dX4_readRow_124 rfl ?_
    refine z_getR dX4_readRow_125 zf_X4_26 (by first | rfl | assumption) rfl ?_
    refine z_iconst (v := 1) dX4_readRow_128 (by decide) ?_
    refine z_iald dX4_readRow_129 (by first | rfl | assumption) rfl (by first | assumption | omega | decide) (by decide) ?_
    refine z_iadd dX4_readRow_130 ?_
    refine z_aload_n dX4_readRow_131 rfl ?_
    refine z_cV0r (dy := 3) dX4_readRow_132 zl_X4_99 zy_X4_readSet (by first | rfl | assumption) rfl (by decide) (Nat.le_of_ble_eq_true rfl) (by refine sp_readSet (x := x) (t := t) ?_ ?_; exact h; exact hw) ?_
    refine z_iast dX4_readRow_135 (by first | rfl | assumption) (show (5 : Int32) + nI δ.2.1 = nI (5 + δ.2.1) from nI_add 5 δ.2.1) (show 5 + δ.2.1 < 10 by omega) (by decide) ?_
    rw [zI_M (Or.inl (by decide)), zDp_r3]
    refine z_aload_n dX4_readRow_136 rfl ?_
    refine z_getR dX4_readRow_137 zf_X4_26 (by first | rfl | assumption) rfl ?_
    refine z_iconst (v := 1) dX4_readRow_140 (by decide) ?_
    refine z_dup2 dX4_readRow_141 rfl rfl ?_
    refine z_iald dX4_readRow_142 (by first | rfl | assumption) rfl (by first | assumption | omega | decide) (by decide) ?_
    refine z_iconst (v := 1) dX4_readRow_143 (by decide) ?_
    refine z_iadd dX4_readRow_144 ?_
    refine z_iast dX4_readRow_145 (by first | rfl | assumption) rfl (by first | assumption | omega | decide) (by decide) ?_
    rw [zI_M (by decide), zDp_f4]
    refine z_goto (tgt := 167) dX4_readRow_146 (by decide) ?_
    refine z_vret dX4_readRow_167 rfl ?_
    refine zqm hQ rfl ?_
    dsimp only [zDm]
    rw [nI_succ]
    rfl
  · by_cases h111 : L = 111
    · have e : zitm x t δ L σ = (ztake δ 111 σ.2.1 0, zdue x t σ (znum σ 1 9)) := by unfold zitm; rw [if_neg h112, if_pos h111]
      rw [e] at hQ
      have e2 : ztake δ 111 σ.2.1 0 = (δ.1, δ.2.1, σ.2.1, 1, δ.2.2.2.2) := if_pos rfl
      rw [e2] at hQ
      subst h111
      refine z_lsw (off := 148) (tgt := 149) dX4_readRow_1 (by decide) (by decide) (by decide) ?_
      refine z_aload_n dX4_readRow_149 rfl ?_
      refine z_getR dX4_readRow_150 zf_X4_32 (by first | rfl | assumption) rfl ?_
      refine z_iconst (v := 1) dX4_readRow_153 (by decide) ?_
      refine z_aload_n dX4_readRow_154 rfl ?_
      refine z_iconst (v := 1) dX4_readRow_155 (by decide) ?_
      refine z_bipush (v := 9) dX4_readRow_156 (by decide) ?_
      refine z_cV2r (dy := 3) dX4_readRow_158 zl_X4_95 zy_X4_number (by first | rfl | assumption) rfl (by decide) (Nat.le_of_ble_eq_true rfl) (by refine sp_number (x := x) (t := t) ?_ ?_ 1 9 (by decide) (by decide); exact h; exact hw) ?_
      refine z_iast dX4_readRow_161 (by first | rfl | assumption) rfl (by first | assumption | omega | decide) (by decide) ?_
      rw [zI_M (by decide), zDp_f5]
      refine z_aload_n dX4_readRow_162 rfl ?_
      refine z_iconst (v := 1) dX4_readRow_163 (by decide) ?_
      refine z_putI dX4_readRow_164 zf_X4_91p (by first | rfl | assumption) rfl (by decide) rfl ?_
      rw [zI_M (by decide), zDp_f6]
      refine z_vret dX4_readRow_167 rfl ?_
      exact hQ
    · have hs8 : δ.1 < 8 := by rcases hr with hr | hr | hr <;> omega
      have hnum : Sp layM mX4_number 3 [.ref 0, .int 0, .int 9] (zM (zDm μ δ) σ) (some (.int (nI σ.2.1))) (zM (zDm μ δ) (zdue x t σ (znum σ 0 9))) := sp_number (ztm_D h δ) hw 0 9 (by decide) (by decide)
      have hw1 := zdue_wf hx hw (znum σ 0 9)
      have idx : (8 : Int32) + nI δ.1 = nI (8 + δ.1) := nI_add 8 δ.1
      have e2 : ∀ b, ztake δ L σ.2.1 b = (δ.1 + 1, δ.2.1, δ.2.2.1, δ.2.2.2.1, δ.2.2.2.2.1 ||| (if L = 122 then 1 <<< (nI δ.1 &&& 31) else 0), upd δ.2.2.2.2.2.1 δ.1 (nI σ.2.1), upd δ.2.2.2.2.2.2.1 δ.1 b, δ.2.2.2.2.2.2.2) := by intro b; unfold ztake; rw [if_neg h111, if_neg h112]
      by_cases h97 : L = 97
      · have e : zitm x t δ L σ = (ztake δ L σ.2.1 (zrs x t 8 0 (zdue x t σ (znum σ 0 9))).1, (zrs x t 8 0 (zdue x t σ (znum σ 0 9))).2) := by unfold zitm; rw [if_neg h112, if_neg h111, if_pos h97]
        rw [e, e2, if_neg (by omega)] at hQ
        subst h97
        refine z_lsw (off := 35) (tgt := 36) dX4_readRow_1 (by decide) (by decide) (by decide) ?_
        refine z_bipush (v := 8) dX4_readRow_36 (by decide) ?_
        refine z_aload_n dX4_readRow_38 rfl ?_
        refine z_getR dX4_readRow_39 zf_X4_13 (by first | rfl | assumption) rfl ?_
        refine z_iconst (v := 1) dX4_readRow_42 (by decide) ?_
        refine z_iald dX4_readRow_43 (by first | rfl | assumption) rfl (by first | assumption | omega | decide) (by decide) ?_
        refine z_iadd dX4_readRow_44 ?_
        refine z_istore_n (i := 2) dX4_readRow_45 rfl (by decide) ?_
        refine z_aload_n dX4_readRow_46 rfl ?_
        refine z_getR dX4_readRow_47 zf_X4_17 (by first | rfl | assumption) rfl ?_
        refine z_iload_n dX4_readRow_50 rfl ?_
        refine z_aload_n dX4_readRow_51 rfl ?_
        refine z_iconst (v := 0) dX4_readRow_52 (by decide) ?_
        refine z_bipush (v := 9) dX4_readRow_53 (by decide) ?_
        refine z_cV2r (dy := 3) dX4_readRow_55 zl_X4_95 zy_X4_number (by first | rfl | assumption) rfl (by decide) (Nat.le_of_ble_eq_true rfl) hnum ?_
        refine z_iast dX4_readRow_58 (by first | rfl | assumption) idx (show 8 + δ.1 < 16 by omega) (by decide) ?_
        rw [zI_M (Or.inl (by decide)), zDp_r1]
        refine z_aload_n dX4_readRow_59 rfl ?_
        refine z_getR dX4_readRow_60 zf_X4_20 (by first | rfl | assumption) rfl ?_
        refine z_iload_n dX4_readRow_63 rfl ?_
        refine z_iload_n dX4_readRow_64 rfl ?_
        refine z_bipush (v := 97) dX4_readRow_65 (by decide) ?_
        refine z_icmp_ne (tgt := 77) dX4_readRow_67 (by decide) (fun hx_ => absurd (by decide) hx_) (fun _ => ?_)
        refine z_aload_n dX4_readRow_70 rfl ?_
        refine z_cV0r (dy := 3) dX4_readRow_71 zl_X4_99 zy_X4_readSet (by first | rfl | assumption) rfl (by decide) (Nat.le_of_ble_eq_true rfl) (by refine sp_readSet (x := x) (t := t) ?_ ?_; exact h; exact hw1) ?_
        refine z_goto (tgt := 78) dX4_readRow_74 (by decide) ?_
        refine z_iast dX4_readRow_78 (by first | rfl | assumption) idx (show 8 + δ.1 < 16 by omega) (by decide) ?_
        rw [zI_M (Or.inl (by decide)), zDp_r2]
        refine z_aload_n dX4_readRow_79 rfl ?_
        refine z_getR dX4_readRow_80 zf_X4_23 (by first | rfl | assumption) rfl ?_
        refine z_iconst (v := 1) dX4_readRow_83 (by decide) ?_
        refine z_dup2 dX4_readRow_84 rfl rfl ?_
        refine z_iald dX4_readRow_85 (by first | rfl | assumption) rfl (by first | assumption | omega | decide) (by decide) ?_
        refine z_iload_n dX4_readRow_86 rfl ?_
        refine z_bipush (v := 122) dX4_readRow_87 (by decide) ?_
        refine z_icmp_ne (tgt := 103) dX4_readRow_89 (by decide) (fun _ => ?_) (fun hx_ => absurd hx_ (by decide))
        refine z_iconst (v := 0) dX4_readRow_103 (by decide) ?_
        refine z_ior dX4_readRow_104 ?_
        refine z_iast dX4_readRow_105 (by first | rfl | assumption) rfl (by first | assumption | omega | decide) (by decide) ?_
        rw [zI_M (by decide), zDp_f7]
        refine z_aload_n dX4_readRow_106 rfl ?_
        refine z_getR dX4_readRow_107 zf_X4_13 (by first | rfl | assumption) rfl ?_
        refine z_iconst (v := 1) dX4_readRow_110 (by decide) ?_
        refine z_dup2 dX4_readRow_111 rfl rfl ?_
        refine z_iald dX4_readRow_112 (by first | rfl | assumption) rfl (by first | assumption | omega | decide) (by decide) ?_
        refine z_iconst (v := 1) dX4_readRow_113 (by decide) ?_
        refine z_iadd dX4_readRow_114 ?_
        refine z_iast dX4_readRow_115 (by first | rfl | assumption) rfl (by first | assumption | omega | decide) (by decide) ?_
        rw [zI_M (by decide), zDp_f3]
        refine z_goto (tgt := 167) dX4_readRow_116 (by decide) ?_
        refine z_vret dX4_readRow_167 rfl ?_
        refine zqm hQ rfl ?_
        dsimp only [zDm]
        rw [nI_succ]
        rfl
      · have h122 : L = 122 := by omega
        have e : zitm x t δ L σ = (ztake δ L σ.2.1 0, zdue x t σ (znum σ 0 9)) := by unfold zitm; rw [if_neg h112, if_neg h111, if_neg h97]
        rw [e, e2, if_pos h122] at hQ
        subst h122
        refine z_lsw (off := 35) (tgt := 36) dX4_readRow_1 (by decide) (by decide) (by decide) ?_
        refine z_bipush (v := 8) dX4_readRow_36 (by decide) ?_
        refine z_aload_n dX4_readRow_38 rfl ?_
        refine z_getR dX4_readRow_39 zf_X4_13 (by first | rfl | assumption) rfl ?_
        refine z_iconst (v := 1) dX4_readRow_42 (by decide) ?_
        refine z_iald dX4_readRow_43 (by first | rfl | assumption) rfl (by first | assumption | omega | decide) (by decide) ?_
        refine z_iadd dX4_readRow_44 ?_
        refine z_istore_n (i := 2) dX4_readRow_45 rfl (by decide) ?_
        refine z_aload_n dX4_readRow_46 rfl ?_
        refine z_getR dX4_readRow_47 zf_X4_17 (by first | rfl | assumption) rfl ?_
        refine z_iload_n dX4_readRow_50 rfl ?_
        refine z_aload_n dX4_readRow_51 rfl ?_
        refine z_iconst (v := 0) dX4_readRow_52 (by decide) ?_
        refine z_bipush (v := 9) dX4_readRow_53 (by decide) ?_
        refine z_cV2r (dy := 3) dX4_readRow_55 zl_X4_95 zy_X4_number (by first | rfl | assumption) rfl (by decide) (Nat.le_of_ble_eq_true rfl) hnum ?_
        refine z_iast dX4_readRow_58 (by first | rfl | assumption) idx (show 8 + δ.1 < 16 by omega) (by decide) ?_
        rw [zI_M (Or.inl (by decide)), zDp_r1]
        refine z_aload_n dX4_readRow_59 rfl ?_
        refine z_getR dX4_readRow_60 zf_X4_20 (by first | rfl | assumption) rfl ?_
        refine z_iload_n dX4_readRow_63 rfl ?_
        refine z_iload_n dX4_readRow_64 rfl ?_
        refine z_bipush (v := 97) dX4_readRow_65 (by decide) ?_
        refine z_icmp_ne (tgt := 77) dX4_readRow_67 (by decide) (fun _ => ?_) (fun hx_ => absurd hx_ (by decide))
        refine z_iconst (v := 0) dX4_readRow_77 (by decide) ?_
        refine z_iast dX4_readRow_78 (by first | rfl | assumption) idx (show 8 + δ.1 < 16 by omega) (by decide) ?_
        rw [zI_M (Or.inl (by decide)), zDp_r2]
        refine z_aload_n dX4_readRow_79 rfl ?_
        refine z_getR dX4_readRow_80 zf_X4_23 (by first | rfl | assumption) rfl ?_
        refine z_iconst (v := 1) dX4_readRow_83 (by decide) ?_
        refine z_dup2 dX4_readRow_84 rfl rfl ?_
        refine z_iald dX4_readRow_85 (by first | rfl | assumption) rfl (by first | assumption | omega | decide) (by decide) ?_
        refine z_iload_n dX4_readRow_86 rfl ?_
        refine z_bipush (v := 122) dX4_readRow_87 (by decide) ?_
        refine z_icmp_ne (tgt := 103) dX4_readRow_89 (by decide) (fun hx_ => absurd (rfl) hx_) (fun _ => ?_)
        refine z_iconst (v := 1) dX4_readRow_92 (by decide) ?_
        refine z_aload_n dX4_readRow_93 rfl ?_
        refine z_getR dX4_readRow_94 zf_X4_13 (by first | rfl | assumption) rfl ?_
        refine z_iconst (v := 1) dX4_readRow_97 (by decide) ?_
        refine z_iald dX4_readRow_98 (by first | rfl | assumption) rfl (by first | assumption | omega | decide) (by decide) ?_
        refine z_ishl dX4_readRow_99 ?_
        refine z_goto (tgt := 104) dX4_readRow_100 (by decide) ?_
        refine z_ior dX4_readRow_104 ?_
        refine z_iast dX4_readRow_105 (by first | rfl | assumption) rfl (by first | assumption | omega | decide) (by decide) ?_
        rw [zI_M (by decide), zDp_f7]
        refine z_aload_n dX4_readRow_106 rfl ?_
        refine z_getR dX4_readRow_107 zf_X4_13 (by first | rfl | assumption) rfl ?_
        refine z_iconst (v := 1) dX4_readRow_110 (by decide) ?_
        refine z_dup2 dX4_readRow_111 rfl rfl ?_
        refine z_iald dX4_readRow_112 (by first | rfl | assumption) rfl (by first | assumption | omega | decide) (by decide) ?_
        refine z_iconst (v := 1) dX4_readRow_113 (by decide) ?_
        refine z_iadd dX4_readRow_114 ?_
        refine z_iast dX4_readRow_115 (by first | rfl | assumption) rfl (by first | assumption | omega | decide) (by decide) ?_
        rw [zI_M (by decide), zDp_f3]
        refine z_goto (tgt := 167) dX4_readRow_116 (by decide) ?_
        refine z_vret dX4_readRow_167 rfl ?_
        refine zqm hQ rfl ?_
        dsimp only [zDm]
        rw [nI_succ]
        rfl
theorem zrs_pn {x : Nat → Nat} {t : Nat} (hx : ∀ k, k < t → x k < 256) : ∀ m b p, p ≤ t →
    match zpn x t m b p with
    | (some b', T) => (zrs x t m b (ztk x t p, zvt x t p, none)).1 = b' ∧ zdue x t (zrs x t m b (ztk x t p, zvt x t p, none)).2 (decide ((zrs x t m b (ztk x t p, zvt x t p, none)).2.1.1 = 3)) = (ztk x t T.2.2.1, zvt x t T.2.2.1, none)
    | (none, T) => (zdue x t (zrs x t m b (ztk x t p, zvt x t p, none)).2 (decide ((zrs x t m b (ztk x t p, zvt x t p, none)).2.1.1 = 3))).2.2 = some T.2.1 := by
  intro m
  induction m with
  | zero =>
    intro b p hp
    have e : zpn x t 0 b p = if (ztk x t p).1 = 3 then (some b, ztk x t p) else (none, ztk x t p) := rfl
    have e2 : zrs x t 0 b (ztk x t p, zvt x t p, none) = (b, (ztk x t p, zvt x t p, none)) := rfl
    rw [e, e2]
    by_cases c : (ztk x t p).1 = 3
    · rw [if_pos c]
      dsimp only
      rw [decide_eq_true c]
      exact ⟨rfl, rfl⟩
    · rw [if_neg c]
      dsimp only
      rw [decide_eq_false c]
      rfl
  | succ m ih =>
    intro b p hp
    have hw := zvt_wf hx hp
    have e : zpn x t (m + 1) b p = if (ztk x t p).1 = 3 then (some b, ztk x t p) else if (ztk x t p).1 = 2 ∧ (ztk x t p).2.2.2 ≤ 7 then zpn x t m (b ||| (1 <<< (nI (ztk x t p).2.2.2 &&& 31))) (ztk x t p).2.2.1 else (none, ztk x t p) := rfl
    have e2 : zrs x t (m + 1) b (ztk x t p, zvt x t p, none) = if (ztk x t p).1 = 2 ∧ (none : Option Nat) = none then zrs x t m (b ||| (1 <<< ((if zvt x t p ≤ 7 then nI (zvt x t p) else 0) &&& 31))) (zdue x t (ztk x t p, zvt x t p, none) (decide (zvt x t p ≤ 7))) else (b, (ztk x t p, zvt x t p, none)) := rfl
    rw [e, e2]
    by_cases c : (ztk x t p).1 = 3
    · rw [if_pos c, if_neg (fun q => by omega)]
      dsimp only
      rw [decide_eq_true c]
      exact ⟨rfl, rfl⟩
    · rw [if_neg c]
      by_cases c2 : (ztk x t p).1 = 2
      · have hv : zvt x t p = (ztk x t p).2.2.2 := hw.n c2
        rw [if_pos (⟨c2, rfl⟩ : (ztk x t p).1 = 2 ∧ (none : Option Nat) = none), hv]
        by_cases c3 : (ztk x t p).2.2.2 ≤ 7
        · rw [if_pos ⟨c2, c3⟩, if_pos c3, decide_eq_true c3]
          exact ih _ _ hw.b
        · rw [if_neg (fun q => c3 q.2), decide_eq_false c3]
          have e3 : ∀ m b (τ : ZS) f, τ.2.2 = some f → zrs x t m b τ = (b, τ) := by
            intro m b τ f hf
            cases m with
            | zero => rfl
            | succ m => unfold zrs; rw [if_neg (fun q => by rw [hf] at q; cases q.2)]
          have e4 : zdue x t (ztk x t p, (ztk x t p).2.2.2, none) false = (ztk x t p, (ztk x t p).2.2.2, some (ztk x t p).2.1) := rfl
          rw [e4, e3 m _ _ (ztk x t p).2.1 rfl]
          rfl
      · rw [if_neg (fun q => c2 q.1), if_neg (fun q => c2 q.1)]
        dsimp only
        rw [decide_eq_false c]
        rfl
theorem zrs_none {x : Nat → Nat} {t : Nat} (m : Nat) (b : Int32) {τ : ZS} {f : Nat} (hf : τ.2.2 = some f) : zrs x t m b τ = (b, τ) := by
  cases m with
  | zero => rfl
  | succ m => unfold zrs; rw [if_neg (fun q => by rw [hf] at q; cases q.2)]
theorem zitm_zit {x : Nat → Nat} {t : Nat} (hx : ∀ k, k < t → x k < 256) {δ : ZD} {T0 : ZTok} (hr : zroomP δ (zlet0 T0)) (hT : T0.2.2.1 ≤ t) {r : ZD × ZS} (hrow : r = zitm x t δ (zlet0 T0) (ztk x t T0.2.2.1, zvt x t T0.2.2.1, none)) :
    match zit x t δ T0 with
    | (some δ', T) => r.1 = δ' ∧ zdue x t r.2 (decide (r.2.1.1 = 3)) = (ztk x t T.2.2.1, zvt x t T.2.2.1, none)
    | (none, T) => (zdue x t r.2 (decide (r.2.1.1 = 3))).2.2 = some T.2.1 := by
  subst hrow
  generalize hL : zlet0 T0 = L at hr
  have hLb : L = 97 ∨ L = 122 ∨ L = 112 ∨ L = 111 := by rcases hr with q | q | q <;> omega
  have hw := zvt_wf hx hT
  unfold zit
  rw [hL, if_neg (fun q => q hr)]
  by_cases h112 : L = 112
  · have e : zitm x t δ L (ztk x t T0.2.2.1, zvt x t T0.2.2.1, none) = (ztake δ 112 0 (zrs x t 8 0 (ztk x t T0.2.2.1, zvt x t T0.2.2.1, none)).1, (zrs x t 8 0 (ztk x t T0.2.2.1, zvt x t T0.2.2.1, none)).2) := if_pos h112
    rw [e, if_pos h112]
    have hp := zrs_pn hx 8 0 T0.2.2.1 hT
    cases hz : zpn x t 8 0 T0.2.2.1 with
    | mk o T =>
      rw [hz] at hp
      cases o with
      | none => exact hp
      | some b => exact ⟨congrArg (ztake δ 112 0) hp.1, hp.2⟩
  · rw [if_neg h112]
    -- the number first
    have hnum : ∀ lo, znum (ztk x t T0.2.2.1, zvt x t T0.2.2.1, none) lo 9 = decide ((ztk x t T0.2.2.1).1 = 2 ∧ lo ≤ (ztk x t T0.2.2.1).2.2.2 ∧ (ztk x t T0.2.2.1).2.2.2 ≤ 9) := by
      intro lo
      unfold znum
      dsimp only
      by_cases c : (ztk x t T0.2.2.1).1 = 2
      · have hv : zvt x t T0.2.2.1 = (ztk x t T0.2.2.1).2.2.2 := hw.n c
        rw [hv]
      · rw [decide_eq_false (fun q => c q.1), decide_eq_false (fun q => c q.1)]
    have e : zitm x t δ L (ztk x t T0.2.2.1, zvt x t T0.2.2.1, none) = (ztake δ L (zvt x t T0.2.2.1) (zrs x t (if L = 97 then 8 else 0) 0 (zdue x t (ztk x t T0.2.2.1, zvt x t T0.2.2.1, none) (znum (ztk x t T0.2.2.1, zvt x t T0.2.2.1, none) (if L = 111 then 1 else 0) 9))).1, (zrs x t (if L = 97 then 8 else 0) 0 (zdue x t (ztk x t T0.2.2.1, zvt x t T0.2.2.1, none) (znum (ztk x t T0.2.2.1, zvt x t T0.2.2.1, none) (if L = 111 then 1 else 0) 9))).2) := by
      unfold zitm
      rw [if_neg h112]
      by_cases h111 : L = 111
      · rw [if_pos h111, if_pos h111, if_neg (by omega), h111]; rfl
      · rw [if_neg h111, if_neg h111]
        by_cases h97 : L = 97
        · rw [if_pos h97, if_pos h97]
        · rw [if_neg h97, if_neg h97]; rfl
    rw [e, hnum]
    generalize (if L = 111 then 1 else 0) = lo
    by_cases c : (ztk x t T0.2.2.1).1 = 2 ∧ lo ≤ (ztk x t T0.2.2.1).2.2.2 ∧ (ztk x t T0.2.2.1).2.2.2 ≤ 9
    · rw [if_neg (fun q => q c), decide_eq_true c]
      have hv : zvt x t T0.2.2.1 = (ztk x t T0.2.2.1).2.2.2 := hw.n c.1
      rw [hv]
      have e4 : zdue x t (ztk x t T0.2.2.1, (ztk x t T0.2.2.1).2.2.2, none) true = (ztk x t (ztk x t T0.2.2.1).2.2.1, zvt x t (ztk x t T0.2.2.1).2.2.1, none) := rfl
      rw [e4]
      have hp := zrs_pn hx (if L = 97 then 8 else 0) 0 (ztk x t T0.2.2.1).2.2.1 hw.b
      cases hz : zpn x t (if L = 97 then 8 else 0) 0 (ztk x t T0.2.2.1).2.2.1 with
      | mk o T =>
        rw [hz] at hp
        cases o with
        | none => exact hp
        | some b => exact ⟨congrArg (ztake δ L _) hp.1, hp.2⟩
    · rw [if_pos c, decide_eq_false c]
      have e4 : ∀ V, zdue x t (ztk x t T0.2.2.1, V, none) false = (ztk x t T0.2.2.1, V, some (ztk x t T0.2.2.1).2.1) := fun _ => rfl
      rw [e4, zrs_none _ _ (f := (ztk x t T0.2.2.1).2.1) rfl]
      rfl
theorem zitm_wf {x : Nat → Nat} {t : Nat} (hx : ∀ k, k < t → x k < 256) {δ : ZD} {L : Nat} {σ : ZS} (h : zwf t σ) : zwf t (zitm x t δ L σ).2 := by
  unfold zitm
  split
  · exact zrs_wf hx _ _ _ h
  · split
    · exact zdue_wf hx h _
    · split
      · exact zrs_wf hx _ _ _ (zdue_wf hx h _)
      · exact zdue_wf hx h _

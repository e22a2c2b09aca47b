/-! ===== AnswerSquare.Text: tokens ===== -/
/-- where a run of places that have g ends, from p on, m places at most -/
def zrun (g : Nat → Bool) : Nat → Nat → Nat
  | p, 0 => p
  | p, m + 1 => if g p = true then zrun g (p + 1) m else p
theorem zrun_step {g : Nat → Bool} {p t : Nat} (h : p < t) : zrun g p (t - p) = if g p = true then zrun g (p + 1) (t - (p + 1)) else p := by
  rw [show t - p = (t - (p + 1)) + 1 by omega]; rfl
theorem zrun_end {g : Nat → Bool} {t : Nat} : zrun g t (t - t) = t := by rw [Nat.sub_self]; rfl
theorem zrun_le (g : Nat → Bool) : ∀ m p, p ≤ zrun g p m ∧ zrun g p m ≤ p + m := by
  intro m
  induction m with
  | zero => intro p; exact ⟨Nat.le_refl _, Nat.le_refl _⟩
  | succ m ih =>
    intro p
    show p ≤ (if g p = true then zrun g (p + 1) m else p) ∧ (if g p = true then zrun g (p + 1) m else p) ≤ p + (m + 1)
    have := ih (p + 1)
    split <;> omega
theorem zrun_stop (g : Nat → Bool) : ∀ m p, zrun g p m < p + m → g (zrun g p m) = false := by
  intro m
  induction m with
  | zero => intro p h; have e : zrun g p 0 = p := rfl; omega
  | succ m ih =>
    intro p h
    have e : zrun g p (m + 1) = if g p = true then zrun g (p + 1) m else p := rfl
    by_cases hg : g p = true
    · rw [e, if_pos hg] at h ⊢
      exact ih (p + 1) (by omega)
    · rw [e, if_neg hg]
      cases hh : g p with
      | false => rfl
      | true => exact absurd hh hg
def zlet (x : Nat → Nat) (q : Nat) : Bool := decide (97 ≤ x q) && decide (x q ≤ 122)
def zdig (x : Nat → Nat) (q : Nat) : Bool := decide (48 ≤ x q) && decide (x q ≤ 57)
def zbla (x : Nat → Nat) (q : Nat) : Bool := decide (x q = 32)
/-- a number's value, 100 if it is larger -/
def zvl (x : Nat → Nat) : Nat → Nat → Nat → Nat
  | _, 0, v => v
  | p, m + 1, v => zvl x (p + 1) m (min 100 (v * 10 + (x p - 48)))
abbrev ZTok : Type := Nat × Nat × Nat × Nat
/-- the token from p on: kind (0 end, 1 word, 2 number, 3 stop, 4 strange), first byte, the place behind it, value -/
def ztk (x : Nat → Nat) (t p : Nat) : ZTok :=
  let s := zrun (zbla x) p (t - p)
  if t ≤ s then (0, s, s, 0)
  else if x s = 59 then (3, s, s + 1, 0)
  else if zlet x s = true then (1, s, zrun (zlet x) (s + 1) (t - (s + 1)), if zrun (zlet x) (s + 1) (t - (s + 1)) = s + 1 then x s else 0)
  else if zdig x s = true then
    (if (x s = 48 ∧ s + 1 < zrun (zdig x) (s + 1) (t - (s + 1))) ∨ 100 ≤ zvl x (s + 1) (zrun (zdig x) (s + 1) (t - (s + 1)) - (s + 1)) (x s - 48) then 4 else 2, s, zrun (zdig x) (s + 1) (t - (s + 1)), zvl x (s + 1) (zrun (zdig x) (s + 1) (t - (s + 1)) - (s + 1)) (x s - 48))
  else (4, s, s + 1, 0)
/-- the text: t bytes x -/
def ztx (μ : ZMem) (x : Nat → Nat) (t : Nat) : Prop := μ.1 1 1 = nI t ∧ t ≤ 200 ∧ ∀ k, k < t → μ.1 2 k = nI (x k) ∧ x k < 256
/-- the token's four fields set -/
def zT (μ : ZMem) (a b c d : Int32) : ZMem := (fun u v => if u = 1 then (if v = 2 then a else if v = 3 then b else if v = 4 then c else if v = 5 then d else μ.1 1 v) else μ.1 u v, μ.2)
theorem zT2 (μ : ZMem) (a b c d v : Int32) : zI (zT μ a b c d) 1 2 v = zT μ v b c d := by
  refine Prod.ext (funext fun i => funext fun j => ?_) rfl
  simp only [zI, zup, zT]
  by_cases hi : i = 1
  · subst hi
    by_cases h2 : j = 2 <;> simp [h2]
  · simp [hi]
theorem zT3 (μ : ZMem) (a b c d v : Int32) : zI (zT μ a b c d) 1 3 v = zT μ a v c d := by
  refine Prod.ext (funext fun i => funext fun j => ?_) rfl
  simp only [zI, zup, zT]
  by_cases hi : i = 1
  · subst hi
    by_cases h2 : j = 3 <;> simp [h2]
  · simp [hi]
theorem zT4 (μ : ZMem) (a b c d v : Int32) : zI (zT μ a b c d) 1 4 v = zT μ a b v d := by
  refine Prod.ext (funext fun i => funext fun j => ?_) rfl
  simp only [zI, zup, zT]
  by_cases hi : i = 1
  · subst hi
    by_cases h2 : j = 4 <;> simp [h2]
  · simp [hi]
theorem zT5 (μ : ZMem) (a b c d v : Int32) : zI (zT μ a b c d) 1 5 v = zT μ a b c v := by
  refine Prod.ext (funext fun i => funext fun j => ?_) rfl
  simp only [zI, zup, zT]
  by_cases hi : i = 1
  · subst hi
    by_cases h2 : j = 5 <;> simp [h2]
  · simp [hi]
theorem zT_self (μ : ZMem) : zT μ (μ.1 1 2) (μ.1 1 3) (μ.1 1 4) (μ.1 1 5) = μ := by
  refine Prod.ext (funext fun i => funext fun j => ?_) rfl
  simp only [zT]
  by_cases hi : i = 1
  · subst hi
    by_cases h2 : j = 2
    · subst h2; simp
    · by_cases h3 : j = 3
      · subst h3; simp
      · by_cases h4 : j = 4
        · subst h4; simp
        · by_cases h5 : j = 5
          · subst h5; simp
          · simp [h2, h3, h4, h5]
  · simp [hi]
theorem sp_isLetter {lay : List ZE} {μ : ZMem} (c : Int32) : Sp lay mX2_isLetter 0 [.int c] μ (some (.int (if ¬ c < 97 ∧ ¬ 122 < c then 1 else 0))) μ := by
  refine Sp.mk (L := [some (.int c)]) rfl (by decide +kernel) rfl rfl (fun Q hQ => ?_)
  refine z_iload_n dX2_isLetter_0 rfl ?_
  refine z_bipush (v := 97) dX2_isLetter_1 (by decide) ?_
  refine z_icmp_lt (tgt := 16) dX2_isLetter_3 (by decide) (fun hb3 => ?_) (fun hb3 => ?_)
  · refine z_iconst (v := 0) dX2_isLetter_16 (by decide) ?_
    refine z_zret dX2_isLetter_17 rfl (by decide) ?_
    first | (refine zq hQ ?_; simp [hb3, hb9]; done) | (refine zq hQ ?_; simp [hb3]; done)
  · refine z_iload_n dX2_isLetter_6 rfl ?_
    refine z_bipush (v := 122) dX2_isLetter_7 (by decide) ?_
    refine z_icmp_gt (tgt := 16) dX2_isLetter_9 (by decide) (fun hb9 => ?_) (fun hb9 => ?_)
    · refine z_iconst (v := 0) dX2_isLetter_16 (by decide) ?_
      refine z_zret dX2_isLetter_17 rfl (by decide) ?_
      first | (refine zq hQ ?_; simp [hb3, hb9]; done) | (refine zq hQ ?_; simp [hb3]; done)
    · refine z_iconst (v := 1) dX2_isLetter_12 (by decide) ?_
      refine z_goto (tgt := 17) dX2_isLetter_13 (by decide) ?_
      refine z_zret dX2_isLetter_17 rfl (by decide) ?_
      first | (refine zq hQ ?_; simp [hb3, hb9]; done) | (refine zq hQ ?_; simp [hb3]; done)
theorem sp_isDigit {lay : List ZE} {μ : ZMem} (c : Int32) : Sp lay mX2_isDigit 0 [.int c] μ (some (.int (if ¬ c < 48 ∧ ¬ 57 < c then 1 else 0))) μ := by
  refine Sp.mk (L := [some (.int c)]) rfl (by decide +kernel) rfl rfl (fun Q hQ => ?_)
  refine z_iload_n dX2_isDigit_0 rfl ?_
  refine z_bipush (v := 48) dX2_isDigit_1 (by decide) ?_
  refine z_icmp_lt (tgt := 16) dX2_isDigit_3 (by decide) (fun hb3 => ?_) (fun hb3 => ?_)
  · refine z_iconst (v := 0) dX2_isDigit_16 (by decide) ?_
    refine z_zret dX2_isDigit_17 rfl (by decide) ?_
    first | (refine zq hQ ?_; simp [hb3, hb9]; done) | (refine zq hQ ?_; simp [hb3]; done)
  · refine z_iload_n dX2_isDigit_6 rfl ?_
    refine z_bipush (v := 57) dX2_isDigit_7 (by decide) ?_
    refine z_icmp_gt (tgt := 16) dX2_isDigit_9 (by decide) (fun hb9 => ?_) (fun hb9 => ?_)
    · refine z_iconst (v := 0) dX2_isDigit_16 (by decide) ?_
      refine z_zret dX2_isDigit_17 rfl (by decide) ?_
      first | (refine zq hQ ?_; simp [hb3, hb9]; done) | (refine zq hQ ?_; simp [hb3]; done)
    · refine z_iconst (v := 1) dX2_isDigit_12 (by decide) ?_
      refine z_goto (tgt := 17) dX2_isDigit_13 (by decide) ?_
      refine z_zret dX2_isDigit_17 rfl (by decide) ?_
      first | (refine zq hQ ?_; simp [hb3, hb9]; done) | (refine zq hQ ?_; simp [hb3]; done)
theorem zlet_iff {x : Nat → Nat} {q : Nat} (h : x q < 256) : (¬ nI (x q) < 97 ∧ ¬ 122 < nI (x q)) ↔ zlet x q = true := by
  unfold zlet
  have h1 : nI (x q) < 97 ↔ x q < 97 := nI_ltI (b := 97) (by omega) (by decide)
  have h2 : (122 : Int32) < nI (x q) ↔ 122 < x q := nI_ltI (a := 122) (by decide) (by omega)
  rw [h1, h2]
  simp
theorem zdig_iff {x : Nat → Nat} {q : Nat} (h : x q < 256) : (¬ nI (x q) < 48 ∧ ¬ 57 < nI (x q)) ↔ zdig x q = true := by
  unfold zdig
  have h1 : nI (x q) < 48 ↔ x q < 48 := nI_ltI (b := 48) (by omega) (by decide)
  have h2 : (57 : Int32) < nI (x q) ↔ 57 < x q := nI_ltI (a := 57) (by decide) (by omega)
  rw [h1, h2]
  simp
theorem sp_byteAt_t {μ : ZMem} {x : Nat → Nat} {t q : Nat} (h : ztx μ x t) (hq : q < t) : Sp layC mX2_byteAt 0 [.ref 1, .int (nI q)] μ (some (.int (nI (x q)))) μ := by
  obtain ⟨ht, h2, hx⟩ := h
  rw [← (hx q hq).1]
  refine Sp.mk (L := [some (.ref 1), some (.int (nI q))]) rfl (by decide +kernel) rfl rfl (fun Q hQ => ?_)
  refine z_iload_n dX2_byteAt_0 rfl ?_
  refine z_if_lt (tgt := 28) dX2_byteAt_1 (by decide) (fun hx_ => absurd hx_ (nI_pos (by omega))) (fun _ => ?_)
  refine z_iload_n dX2_byteAt_4 rfl ?_
  refine z_aload_n dX2_byteAt_5 rfl ?_
  refine z_getI dX2_byteAt_6 zf_X2_15 (by first | rfl | assumption) rfl ?_
  refine z_icmp_ge (tgt := 28) dX2_byteAt_9 (by decide) (fun hx_ => absurd hx_ (by rw [ht]; exact nI_ge hq (by omega))) (fun _ => ?_)
  refine z_iload_n dX2_byteAt_12 rfl ?_
  refine z_sipush (v := 200) dX2_byteAt_13 (by decide) ?_
  refine z_icmp_ge (tgt := 28) dX2_byteAt_16 (by decide) (fun hx_ => absurd hx_ (nI_ge (b := 200) (by omega) (by decide))) (fun _ => ?_)
  refine z_aload_n dX2_byteAt_19 rfl ?_
  refine z_getR dX2_byteAt_20 zf_X2_9 (by first | rfl | assumption) rfl ?_
  refine z_iload_n dX2_byteAt_23 rfl ?_
  refine z_iald dX2_byteAt_24 (by first | rfl | assumption) rfl (by first | assumption | omega | decide) (by decide) ?_
  refine z_goto (tgt := 30) dX2_byteAt_25 (by decide) ?_
  refine z_iret dX2_byteAt_30 rfl ?_
  exact hQ
theorem sp_byteAt_f {μ : ZMem} {x : Nat → Nat} {t : Nat} (h : ztx μ x t) : Sp layC mX2_byteAt 0 [.ref 1, .int (nI t)] μ (some (.int (-9))) μ := by
  obtain ⟨ht, h2, hx⟩ := h
  refine Sp.mk (L := [some (.ref 1), some (.int (nI t))]) rfl (by decide +kernel) rfl rfl (fun Q hQ => ?_)
  refine z_iload_n dX2_byteAt_0 rfl ?_
  refine z_if_lt (tgt := 28) dX2_byteAt_1 (by decide) (fun hx_ => absurd hx_ (nI_pos (by omega))) (fun _ => ?_)
  refine z_iload_n dX2_byteAt_4 rfl ?_
  refine z_aload_n dX2_byteAt_5 rfl ?_
  refine z_getI dX2_byteAt_6 zf_X2_15 (by first | rfl | assumption) rfl ?_
  refine z_icmp_ge (tgt := 28) dX2_byteAt_9 (by decide) (fun _ => ?_) (fun hx_ => absurd (by rw [ht]; exact Int32.le_refl _) hx_)
  refine z_bipush (v := -9) dX2_byteAt_28 (by decide) ?_
  refine z_iret dX2_byteAt_30 rfl ?_
  exact hQ
theorem sp_isNumber {μ : ZMem} (lo hi : Int32) : Sp layC mX2_isNumber 0 [.ref 1, .int lo, .int hi] μ (some (.int (if μ.1 1 2 = 2 ∧ ¬ μ.1 1 5 < lo ∧ ¬ hi < μ.1 1 5 then 1 else 0))) μ := by
  refine Sp.mk (L := [some (.ref 1), some (.int lo), some (.int hi)]) rfl (by decide +kernel) rfl rfl (fun Q hQ => ?_)
  refine z_aload_n dX2_isNumber_0 rfl ?_
  refine z_getI dX2_isNumber_1 zf_X2_19 (by first | rfl | assumption) rfl ?_
  refine z_iconst (v := 2) dX2_isNumber_4 (by decide) ?_
  refine z_icmp_ne (tgt := 28) dX2_isNumber_5 (by decide) (fun hb5 => ?_) (fun hb5 => ?_)
  · refine z_iconst (v := 0) dX2_isNumber_28 (by decide) ?_
    refine z_zret dX2_isNumber_29 rfl (by decide) ?_
    first | (refine zq hQ ?_; simp [hb5, hb13, hb21]; done) | (refine zq hQ ?_; simp [hb5, hb13]; done) | (refine zq hQ ?_; simp [hb5]; done)
  · refine z_aload_n dX2_isNumber_8 rfl ?_
    refine z_getI dX2_isNumber_9 zf_X2_28 (by first | rfl | assumption) rfl ?_
    refine z_iload_n dX2_isNumber_12 rfl ?_
    refine z_icmp_lt (tgt := 28) dX2_isNumber_13 (by decide) (fun hb13 => ?_) (fun hb13 => ?_)
    · refine z_iconst (v := 0) dX2_isNumber_28 (by decide) ?_
      refine z_zret dX2_isNumber_29 rfl (by decide) ?_
      first | (refine zq hQ ?_; simp [hb5, hb13, hb21]; done) | (refine zq hQ ?_; simp [hb5, hb13]; done) | (refine zq hQ ?_; simp [hb5]; done)
    · refine z_aload_n dX2_isNumber_16 rfl ?_
      refine z_getI dX2_isNumber_17 zf_X2_28 (by first | rfl | assumption) rfl ?_
      refine z_iload_n dX2_isNumber_20 rfl ?_
      refine z_icmp_gt (tgt := 28) dX2_isNumber_21 (by decide) (fun hb21 => ?_) (fun hb21 => ?_)
      · refine z_iconst (v := 0) dX2_isNumber_28 (by decide) ?_
        refine z_zret dX2_isNumber_29 rfl (by decide) ?_
        first | (refine zq hQ ?_; simp [hb5, hb13, hb21]; done) | (refine zq hQ ?_; simp [hb5, hb13]; done) | (refine zq hQ ?_; simp [hb5]; done)
      · refine z_iconst (v := 1) dX2_isNumber_24 (by decide) ?_
        refine z_goto (tgt := 29) dX2_isNumber_25 (by decide) ?_
        refine z_zret dX2_isNumber_29 rfl (by decide) ?_
        first | (refine zq hQ ?_; simp [hb5, hb13, hb21]; done) | (refine zq hQ ?_; simp [hb5, hb13]; done) | (refine zq hQ ?_; simp [hb5]; done)
theorem sp_takeWord {μ : ZMem} {x : Nat → Nat} {t s : Nat} (h : ztx μ x t) (hs : s < t) (a d : Int32) : Sp layC mX2_takeWord 1 [.ref 1, .int (nI (x s))] (zT μ a (nI s) (nI (s + 1)) d) none (zT μ (nI 1) (nI s) (nI (zrun (zlet x) (s + 1) (t - (s + 1)))) (nI (if zrun (zlet x) (s + 1) (t - (s + 1)) = s + 1 then x s else 0))) := by
  have ht := h.1
  have h200 := h.2.1
  refine Sp.mk (L := [some (.ref 1), some (.int (nI (x s)))]) rfl (by decide +kernel) rfl rfl (fun Q hQ => ?_)
  generalize he : zrun (zlet x) (s + 1) (t - (s + 1)) = e at hQ
  have hle : e ≤ t := by have := zrun_le (zlet x) (t - (s + 1)) (s + 1); omega
  have tail : ZW layC mX2_takeWord 1 Q 38 [some (.ref 1), some (.int (nI (x s)))] [] (zT μ a (nI s) (nI e) d) := by
    refine z_aload_n dX2_takeWord_38 rfl ?_
    refine z_iconst (v := 1) dX2_takeWord_39 (by decide) ?_
    refine z_putI dX2_takeWord_40 zf_X2_19p (by first | rfl | assumption) rfl rfl rfl ?_
    rw [zT2]
    by_cases hes : e = s + 1
    · rw [if_pos hes] at hQ
      refine z_aload_n dX2_takeWord_43 rfl ?_
      refine z_aload_n dX2_takeWord_44 rfl ?_
      refine z_getI dX2_takeWord_45 zf_X2_25 (by first | rfl | assumption) rfl ?_
      refine z_aload_n dX2_takeWord_48 rfl ?_
      refine z_getI dX2_takeWord_49 zf_X2_22 (by first | rfl | assumption) rfl ?_
      refine z_iconst (v := 1) dX2_takeWord_52 (by decide) ?_
      refine z_iadd dX2_takeWord_53 ?_
      refine z_icmp_ne (tgt := 61) dX2_takeWord_54 (by decide) (fun hx_ => absurd (by show nI e = nI s + 1; rw [hes, nI_succ]) hx_) (fun _ => ?_)
      refine z_iload_n dX2_takeWord_57 rfl ?_
      refine z_goto (tgt := 62) dX2_takeWord_58 (by decide) ?_
      refine z_putI dX2_takeWord_62 zf_X2_28p (by first | rfl | assumption) rfl rfl rfl ?_
      rw [zT5]
      refine z_vret dX2_takeWord_65 rfl ?_
      exact hQ
    · rw [if_neg hes] at hQ
      have hne : ¬ nI e = nI s + 1 := fun q => hes ((nI_eq (by omega) (by omega)).mp (q.trans (nI_succ s).symm))
      refine z_aload_n dX2_takeWord_43 rfl ?_
      refine z_aload_n dX2_takeWord_44 rfl ?_
      refine z_getI dX2_takeWord_45 zf_X2_25 (by first | rfl | assumption) rfl ?_
      refine z_aload_n dX2_takeWord_48 rfl ?_
      refine z_getI dX2_takeWord_49 zf_X2_22 (by first | rfl | assumption) rfl ?_
      refine z_iconst (v := 1) dX2_takeWord_52 (by decide) ?_
      refine z_iadd dX2_takeWord_53 ?_
      refine z_icmp_ne (tgt := 61) dX2_takeWord_54 (by decide) (fun _ => ?_) (fun hx_ => absurd hx_ hne)
      refine z_iconst (v := 0) dX2_takeWord_61 (by decide) ?_
      refine z_putI dX2_takeWord_62 zf_X2_28p (by first | rfl | assumption) rfl rfl rfl ?_
      rw [zT5]
      refine z_vret dX2_takeWord_65 rfl ?_
      exact hQ
  refine zdown (P := fun q => s + 1 ≤ q → e = zrun (zlet x) q (t - q) → ZW layC mX2_takeWord 1 Q 0 [some (.ref 1), some (.int (nI (x s)))] [] (zT μ a (nI s) (nI q) d)) t ?_ ?_ (s + 1) (by omega) (Nat.le_refl _) he.symm
  · intro _ e2
    rw [zrun_end] at e2
    refine z_aload_n dX2_takeWord_0 rfl ?_
    refine z_getI dX2_takeWord_1 zf_X2_25 (by first | rfl | assumption) rfl ?_
    refine z_aload_n dX2_takeWord_4 rfl ?_
    refine z_getI dX2_takeWord_5 zf_X2_15 (by first | rfl | assumption) rfl ?_
    refine z_icmp_ge (tgt := 38) dX2_takeWord_8 (by decide) (fun _ => ?_) (fun hx_ => absurd (by show μ.1 1 1 ≤ nI t; rw [ht]; exact Int32.le_refl _) hx_)
    rw [e2] at tail
    exact tail
  · intro q hq ih hsq e2
    rw [zrun_step hq] at e2
    have hxq := (h.2.2 q hq).2
    refine z_aload_n dX2_takeWord_0 rfl ?_
    refine z_getI dX2_takeWord_1 zf_X2_25 (by first | rfl | assumption) rfl ?_
    refine z_aload_n dX2_takeWord_4 rfl ?_
    refine z_getI dX2_takeWord_5 zf_X2_15 (by first | rfl | assumption) rfl ?_
    refine z_icmp_ge (tgt := 38) dX2_takeWord_8 (by decide) (fun hx_ => absurd hx_ (by show ¬ μ.1 1 1 ≤ nI q; rw [ht]; exact nI_ge hq (by omega))) (fun _ => ?_)
    refine z_aload_n dX2_takeWord_11 rfl ?_
    refine z_aload_n dX2_takeWord_12 rfl ?_
    refine z_getI dX2_takeWord_13 zf_X2_25 (by first | rfl | assumption) rfl ?_
    refine z_cV1r (dy := 0) dX2_takeWord_16 zl_X2_34 zy_X2_byteAt (by first | rfl | assumption) rfl (by decide) (Nat.le_of_ble_eq_true rfl) (by refine sp_byteAt_t (x := x) (t := t) ?_ hq; exact h) ?_
    refine z_cS1r (dy := 0) dX2_takeWord_19 zl_X2_38 zy_X2_isLetter (by decide) (Nat.le_of_ble_eq_true rfl) (sp_isLetter _) ?_
    refine z_if_eqb (tgt := 38) dX2_takeWord_22 (by decide) (fun hb22 => ?_) (fun hb22 => ?_)
    · rw [if_neg (fun z => hb22 ((zlet_iff hxq).mpr z))] at e2
      rw [e2] at tail
      exact tail
    · refine z_aload_n dX2_takeWord_25 rfl ?_
      refine z_dup dX2_takeWord_26 rfl ?_
      refine z_getI dX2_takeWord_27 zf_X2_25 (by first | rfl | assumption) rfl ?_
      refine z_iconst (v := 1) dX2_takeWord_30 (by decide) ?_
      refine z_iadd dX2_takeWord_31 ?_
      refine z_putI dX2_takeWord_32 zf_X2_25p (by first | rfl | assumption) rfl rfl rfl ?_
      rw [zT4]
      refine z_goto (tgt := 0) dX2_takeWord_35 (by decide) ?_
      exact ZW.eq (ih (by omega) (by rw [e2, if_pos ((zlet_iff hxq).mp hb22)])) rfl rfl rfl (by rw [nI_succ q]; rfl)
theorem zvl_le (x : Nat → Nat) : ∀ m p v, v ≤ 100 → zvl x p m v ≤ 100 := by
  intro m
  induction m with
  | zero => intro p v h; exact h
  | succ m ih => intro p v h; exact ih (p + 1) _ (Nat.min_le_left _ _)
theorem sp_takeNumber {μ : ZMem} {x : Nat → Nat} {t s : Nat} (h : ztx μ x t) (hs : s < t) (hd : zdig x s = true) (a d : Int32) : Sp layC mX2_takeNumber 1 [.ref 1, .int (nI (x s))] (zT μ a (nI s) (nI (s + 1)) d) none (zT μ (nI (if (x s = 48 ∧ s + 1 < zrun (zdig x) (s + 1) (t - (s + 1))) ∨ 100 ≤ zvl x (s + 1) (zrun (zdig x) (s + 1) (t - (s + 1)) - (s + 1)) (x s - 48) then 4 else 2)) (nI s) (nI (zrun (zdig x) (s + 1) (t - (s + 1)))) (nI (zvl x (s + 1) (zrun (zdig x) (s + 1) (t - (s + 1)) - (s + 1)) (x s - 48)))) := by
  have ht := h.1
  have h200 := h.2.1
  have hd2 : 48 ≤ x s ∧ x s ≤ 57 := by simpa [zdig] using hd
  refine Sp.mk (L := [some (.ref 1), some (.int (nI (x s))), none]) rfl (by decide +kernel) rfl rfl (fun Q hQ => ?_)
  generalize he : zrun (zdig x) (s + 1) (t - (s + 1)) = e at hQ
  have hle : e ≤ t := by have := zrun_le (zdig x) (t - (s + 1)) (s + 1); omega
  have hge : s + 1 ≤ e := by have := zrun_le (zdig x) (t - (s + 1)) (s + 1); omega
  generalize hv : zvl x (s + 1) (e - (s + 1)) (x s - 48) = v at hQ
  have hv100 : v ≤ 100 := by rw [← hv]; exact zvl_le x _ _ _ (by omega)
  have tail : ZW layC mX2_takeNumber 1 Q 74 [some (.ref 1), some (.int (nI (x s))), none] [] (zT μ a (nI s) (nI e) (nI v)) := by
    have last : ∀ z : Nat, (z = if x s = 48 ∧ s + 1 < e then 1 else 0) → ZW layC mX2_takeNumber 1 Q 98 [some (.ref 1), some (.int (nI (x s))), none] [.int (nI z)] (zT μ a (nI s) (nI e) (nI v)) := by
      intro z hz
      by_cases hc : x s = 48 ∧ s + 1 < e
      · rw [if_pos hc] at hz
        subst hz
        rw [if_pos (Or.inl hc)] at hQ
        refine z_istore_n (i := 2) dX2_takeNumber_98 rfl (by decide) ?_
        refine z_aload_n dX2_takeNumber_99 rfl ?_
        refine z_iload_n dX2_takeNumber_100 rfl ?_
        refine z_if_ne (tgt := 113) dX2_takeNumber_101 (by decide) (fun _ => ?_) (fun hx_ => absurd hx_ (by decide))
        refine z_iconst (v := 4) dX2_takeNumber_113 (by decide) ?_
        refine z_goto (tgt := 118) dX2_takeNumber_114 (by decide) ?_
        refine z_putI dX2_takeNumber_118 zf_X2_19p (by first | rfl | assumption) rfl rfl rfl ?_
        rw [zT2]
        refine z_vret dX2_takeNumber_121 rfl ?_
        exact hQ
      · rw [if_neg hc] at hz
        subst hz
        by_cases hv2 : 100 ≤ v
        · rw [if_pos (Or.inr hv2)] at hQ
          refine z_istore_n (i := 2) dX2_takeNumber_98 rfl (by decide) ?_
          refine z_aload_n dX2_takeNumber_99 rfl ?_
          refine z_iload_n dX2_takeNumber_100 rfl ?_
          refine z_if_ne (tgt := 113) dX2_takeNumber_101 (by decide) (fun hx_ => absurd (rfl) hx_) (fun _ => ?_)
          refine z_aload_n dX2_takeNumber_104 rfl ?_
          refine z_getI dX2_takeNumber_105 zf_X2_28 (by first | rfl | assumption) rfl ?_
          refine z_bipush (v := 100) dX2_takeNumber_108 (by decide) ?_
          refine z_icmp_lt (tgt := 117) dX2_takeNumber_110 (by decide) (fun hx_ => absurd hx_ (nI_nlt (b := 100) hv2 (by omega))) (fun _ => ?_)
          refine z_iconst (v := 4) dX2_takeNumber_113 (by decide) ?_
          refine z_goto (tgt := 118) dX2_takeNumber_114 (by decide) ?_
          refine z_putI dX2_takeNumber_118 zf_X2_19p (by first | rfl | assumption) rfl rfl rfl ?_
          rw [zT2]
          refine z_vret dX2_takeNumber_121 rfl ?_
          exact hQ
        · rw [if_neg (fun q => q.elim hc hv2)] at hQ
          refine z_istore_n (i := 2) dX2_takeNumber_98 rfl (by decide) ?_
          refine z_aload_n dX2_takeNumber_99 rfl ?_
          refine z_iload_n dX2_takeNumber_100 rfl ?_
          refine z_if_ne (tgt := 113) dX2_takeNumber_101 (by decide) (fun hx_ => absurd (rfl) hx_) (fun _ => ?_)
          refine z_aload_n dX2_takeNumber_104 rfl ?_
          refine z_getI dX2_takeNumber_105 zf_X2_28 (by first | rfl | assumption) rfl ?_
          refine z_bipush (v := 100) dX2_takeNumber_108 (by decide) ?_
          refine z_icmp_lt (tgt := 117) dX2_takeNumber_110 (by decide) (fun _ => ?_) (fun hx_ => absurd (nI_lt (b := 100) (by omega) (by decide)) hx_)
          refine z_iconst (v := 2) dX2_takeNumber_117 (by decide) ?_
          refine z_putI dX2_takeNumber_118 zf_X2_19p (by first | rfl | assumption) rfl rfl rfl ?_
          rw [zT2]
          refine z_vret dX2_takeNumber_121 rfl ?_
          exact hQ
    by_cases h48 : x s = 48
    · by_cases hlt : s + 1 < e
      · refine z_iload_n dX2_takeNumber_74 rfl ?_
        refine z_bipush (v := 48) dX2_takeNumber_75 (by decide) ?_
        refine z_icmp_ne (tgt := 97) dX2_takeNumber_77 (by decide) (fun hx_ => absurd (by rw [h48]; rfl) hx_) (fun _ => ?_)
        refine z_aload_n dX2_takeNumber_80 rfl ?_
        refine z_getI dX2_takeNumber_81 zf_X2_25 (by first | rfl | assumption) rfl ?_
        refine z_aload_n dX2_takeNumber_84 rfl ?_
        refine z_getI dX2_takeNumber_85 zf_X2_22 (by first | rfl | assumption) rfl ?_
        refine z_iconst (v := 1) dX2_takeNumber_88 (by decide) ?_
        refine z_iadd dX2_takeNumber_89 ?_
        refine z_icmp_le (tgt := 97) dX2_takeNumber_90 (by decide) (fun hx_ => absurd hx_ (by show ¬ nI e ≤ nI s + 1; rw [nI_1]; exact nI_ge hlt (by omega))) (fun _ => ?_)
        refine z_iconst (v := 1) dX2_takeNumber_93 (by decide) ?_
        refine z_goto (tgt := 98) dX2_takeNumber_94 (by decide) ?_
        exact last 1 (by rw [if_pos ⟨h48, hlt⟩])
      · refine z_iload_n dX2_takeNumber_74 rfl ?_
        refine z_bipush (v := 48) dX2_takeNumber_75 (by decide) ?_
        refine z_icmp_ne (tgt := 97) dX2_takeNumber_77 (by decide) (fun hx_ => absurd (by rw [h48]; rfl) hx_) (fun _ => ?_)
        refine z_aload_n dX2_takeNumber_80 rfl ?_
        refine z_getI dX2_takeNumber_81 zf_X2_25 (by first | rfl | assumption) rfl ?_
        refine z_aload_n dX2_takeNumber_84 rfl ?_
        refine z_getI dX2_takeNumber_85 zf_X2_22 (by first | rfl | assumption) rfl ?_
        refine z_iconst (v := 1) dX2_takeNumber_88 (by decide) ?_
        refine z_iadd dX2_takeNumber_89 ?_
        refine z_icmp_le (tgt := 97) dX2_takeNumber_90 (by decide) (fun _ => ?_) (fun hx_ => absurd (by show nI e ≤ nI s + 1; rw [nI_1]; exact nI_le (by omega) (by omega)) hx_)
        refine z_iconst (v := 0) dX2_takeNumber_97 (by decide) ?_
        exact last 0 (by rw [if_neg (fun q => hlt q.2)])
    · refine z_iload_n dX2_takeNumber_74 rfl ?_
      refine z_bipush (v := 48) dX2_takeNumber_75 (by decide) ?_
      refine z_icmp_ne (tgt := 97) dX2_takeNumber_77 (by decide) (fun _ => ?_) (fun hx_ => absurd hx_ (fun q => h48 ((nI_eq (b := 48) (by omega) (by decide)).mp q)))
      refine z_iconst (v := 0) dX2_takeNumber_97 (by decide) ?_
      exact last 0 (by rw [if_neg (fun q => h48 q.1)])
  refine z_aload_n dX2_takeNumber_0 rfl ?_
  refine z_iload_n dX2_takeNumber_1 rfl ?_
  refine z_bipush (v := 48) dX2_takeNumber_2 (by decide) ?_
  refine z_isub dX2_takeNumber_4 ?_
  refine z_putI dX2_takeNumber_5 zf_X2_28p (by first | rfl | assumption) rfl rfl rfl ?_
  rw [zT5, show nI (x s) - 48 = nI (x s - 48) from pk_sub (b := 48) (by omega)]
  refine zdown (P := fun q => s + 1 ≤ q → e = zrun (zdig x) q (t - q) → ∀ w, w ≤ 100 → v = zvl x q (e - q) w → ZW layC mX2_takeNumber 1 Q 8 [some (.ref 1), some (.int (nI (x s))), none] [] (zT μ a (nI s) (nI q) (nI w))) t ?_ ?_ (s + 1) (by omega) (Nat.le_refl _) he.symm (x s - 48) (by omega) hv.symm
  · intro _ e2 w hw hvw
    rw [zrun_end] at e2
    rw [e2, Nat.sub_self] at hvw
    have hvw2 : v = w := hvw
    refine z_aload_n dX2_takeNumber_8 rfl ?_
    refine z_getI dX2_takeNumber_9 zf_X2_25 (by first | rfl | assumption) rfl ?_
    refine z_aload_n dX2_takeNumber_12 rfl ?_
    refine z_getI dX2_takeNumber_13 zf_X2_15 (by first | rfl | assumption) rfl ?_
    refine z_icmp_ge (tgt := 74) dX2_takeNumber_16 (by decide) (fun _ => ?_) (fun hx_ => absurd (by show μ.1 1 1 ≤ nI t; rw [ht]; exact Int32.le_refl _) hx_)
    rw [e2, hvw2] at tail
    exact tail
  · intro q hq ih hsq e2 w hw hvw
    have e3 := e2
    rw [zrun_step hq] at e2
    have hxq := (h.2.2 q hq).2
    refine z_aload_n dX2_takeNumber_8 rfl ?_
    refine z_getI dX2_takeNumber_9 zf_X2_25 (by first | rfl | assumption) rfl ?_
    refine z_aload_n dX2_takeNumber_12 rfl ?_
    refine z_getI dX2_takeNumber_13 zf_X2_15 (by first | rfl | assumption) rfl ?_
    refine z_icmp_ge (tgt := 74) dX2_takeNumber_16 (by decide) (fun hx_ => absurd hx_ (by show ¬ μ.1 1 1 ≤ nI q; rw [ht]; exact nI_ge hq (by omega))) (fun _ => ?_)
    refine z_aload_n dX2_takeNumber_19 rfl ?_
    refine z_aload_n dX2_takeNumber_20 rfl ?_
    refine z_getI dX2_takeNumber_21 zf_X2_25 (by first | rfl | assumption) rfl ?_
    refine z_cV1r (dy := 0) dX2_takeNumber_24 zl_X2_34 zy_X2_byteAt (by first | rfl | assumption) rfl (by decide) (Nat.le_of_ble_eq_true rfl) (by refine sp_byteAt_t (x := x) (t := t) ?_ hq; exact h) ?_
    refine z_cS1r (dy := 0) dX2_takeNumber_27 zl_X2_46 zy_X2_isDigit (by decide) (Nat.le_of_ble_eq_true rfl) (sp_isDigit _) ?_
    refine z_if_eqb (tgt := 74) dX2_takeNumber_30 (by decide) (fun hb30 => ?_) (fun hb30 => ?_)
    · rw [if_neg (fun z => hb30 ((zdig_iff hxq).mpr z))] at e2
      rw [e2, Nat.sub_self] at hvw
      have hvw2 : v = w := hvw
      rw [e2, hvw2] at tail
      exact tail
    · have hdq := (zdig_iff hxq).mp hb30
      have hdq2 : 48 ≤ x q ∧ x q ≤ 57 := by simpa [zdig] using hdq
      rw [if_pos hdq] at e2
      have hq1 := (zrun_le (zdig x) (t - (q + 1)) (q + 1)).1
      refine z_aload_n dX2_takeNumber_33 rfl ?_
      refine z_bipush (v := 100) dX2_takeNumber_34 (by decide) ?_
      refine z_aload_n dX2_takeNumber_36 rfl ?_
      refine z_getI dX2_takeNumber_37 zf_X2_28 (by first | rfl | assumption) rfl ?_
      refine z_bipush (v := 10) dX2_takeNumber_40 (by decide) ?_
      refine z_imul dX2_takeNumber_42 ?_
      refine z_aload_n dX2_takeNumber_43 rfl ?_
      refine z_aload_n dX2_takeNumber_44 rfl ?_
      refine z_getI dX2_takeNumber_45 zf_X2_25 (by first | rfl | assumption) rfl ?_
      refine z_cV1r (dy := 0) dX2_takeNumber_48 zl_X2_34 zy_X2_byteAt (by first | rfl | assumption) rfl (by decide) (Nat.le_of_ble_eq_true rfl) (by refine sp_byteAt_t (x := x) (t := t) ?_ hq; exact h) ?_
      refine z_iadd dX2_takeNumber_51 ?_
      refine z_bipush (v := 48) dX2_takeNumber_52 (by decide) ?_
      refine z_isub dX2_takeNumber_54 ?_
      rw [show (zT μ a (nI s) (nI q) (nI w)).1 1 5 * 10 + nI (x q) - 48 = nI (w * 10 + (x q - 48)) from (by
        show nI w * 10 + nI (x q) - 48 = _
        rw [show nI w * 10 = nI (w * 10) from pk_mul w 10, nI_add, show nI (w * 10 + x q) - 48 = nI (w * 10 + x q - 48) from pk_sub (b := 48) (by omega), show w * 10 + x q - 48 = w * 10 + (x q - 48) by omega])]
      refine z_min dX2_takeNumber_55 zm_1_218 (by decide) (Nat.le_of_ble_eq_true rfl) ?_
      rw [show (if nI (w * 10 + (x q - 48)) < 100 then nI (w * 10 + (x q - 48)) else 100) = nI (min 100 (w * 10 + (x q - 48))) from (by
        by_cases hm : w * 10 + (x q - 48) < 100
        · have hl : nI (w * 10 + (x q - 48)) < (100 : Int32) := nI_lt (b := 100) hm (by decide)
          rw [if_pos hl, Nat.min_eq_right (by omega)]
        · have hl : ¬ nI (w * 10 + (x q - 48)) < (100 : Int32) := nI_nlt (b := 100) (by omega) (by omega)
          rw [if_neg hl, Nat.min_eq_left (by omega)]; rfl)]
      refine z_putI dX2_takeNumber_58 zf_X2_28p (by first | rfl | assumption) rfl rfl rfl ?_
      rw [zT5]
      refine z_aload_n dX2_takeNumber_61 rfl ?_
      refine z_dup dX2_takeNumber_62 rfl ?_
      refine z_getI dX2_takeNumber_63 zf_X2_25 (by first | rfl | assumption) rfl ?_
      refine z_iconst (v := 1) dX2_takeNumber_66 (by decide) ?_
      refine z_iadd dX2_takeNumber_67 ?_
      refine z_putI dX2_takeNumber_68 zf_X2_25p (by first | rfl | assumption) rfl rfl rfl ?_
      rw [zT4]
      refine z_goto (tgt := 8) dX2_takeNumber_71 (by decide) ?_
      refine ZW.eq (ih (by omega) e2 (min 100 (w * 10 + (x q - 48))) (Nat.min_le_left _ _) ?_) rfl rfl rfl (by rw [nI_succ q]; rfl)
      rw [hvw, show e - q = (e - (q + 1)) + 1 by omega]
      rfl
theorem sp_advance {μ : ZMem} {x : Nat → Nat} {t p : Nat} (h : ztx μ x t) (hp : p ≤ t) (a b d : Int32) : Sp layC mX2_advance 2 [.ref 1] (zT μ a b (nI p) d) none (zT μ (nI (ztk x t p).1) (nI (ztk x t p).2.1) (nI (ztk x t p).2.2.1) (nI (ztk x t p).2.2.2)) := by
  have ht := h.1
  have h200 := h.2.1
  refine Sp.mk (L := [some (.ref 1), none]) rfl (by decide +kernel) rfl rfl (fun Q hQ => ?_)
  unfold ztk at hQ
  generalize he : zrun (zbla x) p (t - p) = s at hQ
  have hle : s ≤ t := by have := zrun_le (zbla x) (t - p) p; omega
  dsimp only at hQ
  have tail : ZW layC mX2_advance 2 Q 45 [some (.ref 1), none] [] (zT μ a (nI s) (nI p) d) := by
    refine z_aload_n dX2_advance_45 rfl ?_
    refine z_aload_n dX2_advance_46 rfl ?_
    refine z_getI dX2_advance_47 zf_X2_22 (by first | rfl | assumption) rfl ?_
    refine z_iconst (v := 1) dX2_advance_50 (by decide) ?_
    refine z_iadd dX2_advance_51 ?_
    refine z_putI dX2_advance_52 zf_X2_25p (by first | rfl | assumption) rfl rfl rfl ?_
    rw [zT4]
    refine z_aload_n dX2_advance_55 rfl ?_
    refine z_iconst (v := 0) dX2_advance_56 (by decide) ?_
    refine z_putI dX2_advance_57 zf_X2_28p (by first | rfl | assumption) rfl rfl rfl ?_
    rw [zT5, show (zT μ a (nI s) (nI p) d).1 1 3 + 1 = nI (s + 1) from (show nI s + 1 = nI (s + 1) by rw [nI_succ])]
    by_cases hst : t ≤ s
    · have hs : s = t := by omega
      rw [if_pos hst] at hQ
      have hby : Sp layC mX2_byteAt 0 [.ref 1, .int (nI s)] (zT μ a (nI s) (nI (s + 1)) 0) (some (.int (-9))) (zT μ a (nI s) (nI (s + 1)) 0) := by
        rw [hs]; refine sp_byteAt_f (x := x) ?_; exact h
      refine z_aload_n dX2_advance_60 rfl ?_
      refine z_aload_n dX2_advance_61 rfl ?_
      refine z_getI dX2_advance_62 zf_X2_22 (by first | rfl | assumption) rfl ?_
      refine z_cV1r (dy := 0) dX2_advance_65 zl_X2_34 zy_X2_byteAt (by first | rfl | assumption) rfl (by decide) (Nat.le_of_ble_eq_true rfl) hby ?_
      refine z_istore_n (i := 1) dX2_advance_68 rfl (by decide) ?_
      refine z_iload_n dX2_advance_69 rfl ?_
      refine z_bipush (v := -9) dX2_advance_70 (by decide) ?_
      refine z_icmp_ne (tgt := 91) dX2_advance_72 (by decide) (fun hx_ => absurd (rfl) hx_) (fun _ => ?_)
      refine z_aload_n dX2_advance_75 rfl ?_
      refine z_iconst (v := 0) dX2_advance_76 (by decide) ?_
      refine z_putI dX2_advance_77 zf_X2_19p (by first | rfl | assumption) rfl rfl rfl ?_
      rw [zT2]
      refine z_aload_n dX2_advance_80 rfl ?_
      refine z_aload_n dX2_advance_81 rfl ?_
      refine z_getI dX2_advance_82 zf_X2_22 (by first | rfl | assumption) rfl ?_
      refine z_putI dX2_advance_85 zf_X2_25p (by first | rfl | assumption) rfl rfl rfl ?_
      rw [zT4]
      refine z_goto (tgt := 140) dX2_advance_88 (by decide) ?_
      refine z_vret dX2_advance_140 rfl ?_
      exact hQ
    · rw [if_neg hst] at hQ
      have hxs := (h.2.2 s (by omega)).2
      refine z_aload_n dX2_advance_60 rfl ?_
      refine z_aload_n dX2_advance_61 rfl ?_
      refine z_getI dX2_advance_62 zf_X2_22 (by first | rfl | assumption) rfl ?_
      refine z_cV1r (dy := 0) dX2_advance_65 zl_X2_34 zy_X2_byteAt (by first | rfl | assumption) rfl (by decide) (Nat.le_of_ble_eq_true rfl) (by refine sp_byteAt_t (x := x) (t := t) ?_ (show s < t by omega); exact h) ?_
      refine z_istore_n (i := 1) dX2_advance_68 rfl (by decide) ?_
      refine z_iload_n dX2_advance_69 rfl ?_
      refine z_bipush (v := -9) dX2_advance_70 (by decide) ?_
      refine z_icmp_ne (tgt := 91) dX2_advance_72 (by decide) (fun _ => ?_) (fun hx_ => absurd hx_ (nI_ne9 (by omega)))
      refine z_iload_n dX2_advance_91 rfl ?_
      refine z_bipush (v := 59) dX2_advance_92 (by decide) ?_
      by_cases h59 : x s = 59
      · rw [if_pos h59] at hQ
        refine z_icmp_ne (tgt := 105) dX2_advance_94 (by decide) (fun hx_ => absurd (by rw [h59]; rfl) hx_) (fun _ => ?_)
        refine z_aload_n dX2_advance_97 rfl ?_
        refine z_iconst (v := 3) dX2_advance_98 (by decide) ?_
        refine z_putI dX2_advance_99 zf_X2_19p (by first | rfl | assumption) rfl rfl rfl ?_
        rw [zT2]
        refine z_goto (tgt := 140) dX2_advance_102 (by decide) ?_
        refine z_vret dX2_advance_140 rfl ?_
        exact hQ
      · rw [if_neg h59] at hQ
        refine z_icmp_ne (tgt := 105) dX2_advance_94 (by decide) (fun _ => ?_) (fun hx_ => absurd hx_ (fun q => h59 ((nI_eq (b := 59) (by omega) (by decide)).mp q)))
        refine z_iload_n dX2_advance_105 rfl ?_
        refine z_cS1r (dy := 0) dX2_advance_106 zl_X2_38 zy_X2_isLetter (by decide) (Nat.le_of_ble_eq_true rfl) (sp_isLetter _) ?_
        refine z_if_eqb (tgt := 120) dX2_advance_109 (by decide) (fun hb109 => ?_) (fun hb109 => ?_)
        · rw [if_neg (fun z => hb109 ((zlet_iff hxs).mpr z))] at hQ
          refine z_iload_n dX2_advance_120 rfl ?_
          refine z_cS1r (dy := 0) dX2_advance_121 zl_X2_46 zy_X2_isDigit (by decide) (Nat.le_of_ble_eq_true rfl) (sp_isDigit _) ?_
          refine z_if_eqb (tgt := 135) dX2_advance_124 (by decide) (fun hb124 => ?_) (fun hb124 => ?_)
          · rw [if_neg (fun z => hb124 ((zdig_iff hxs).mpr z))] at hQ
            refine z_aload_n dX2_advance_135 rfl ?_
            refine z_iconst (v := 4) dX2_advance_136 (by decide) ?_
            refine z_putI dX2_advance_137 zf_X2_19p (by first | rfl | assumption) rfl rfl rfl ?_
            rw [zT2]
            refine z_vret dX2_advance_140 rfl ?_
            exact hQ
          · rw [if_pos ((zdig_iff hxs).mp hb124)] at hQ
            refine z_aload_n dX2_advance_127 rfl ?_
            refine z_iload_n dX2_advance_128 rfl ?_
            refine z_cV1v (dy := 1) dX2_advance_129 zl_X2_49 zy_X2_takeNumber (by first | rfl | assumption) rfl (by decide) (Nat.le_of_ble_eq_true rfl) (sp_takeNumber h (by omega) ((zdig_iff hxs).mp hb124) _ _) ?_
            refine z_goto (tgt := 140) dX2_advance_132 (by decide) ?_
            refine z_vret dX2_advance_140 rfl ?_
            exact hQ
        · rw [if_pos ((zlet_iff hxs).mp hb109)] at hQ
          refine z_aload_n dX2_advance_112 rfl ?_
          refine z_iload_n dX2_advance_113 rfl ?_
          refine z_cV1v (dy := 1) dX2_advance_114 zl_X2_42 zy_X2_takeWord (by first | rfl | assumption) rfl (by decide) (Nat.le_of_ble_eq_true rfl) (sp_takeWord h (by omega) _ _) ?_
          refine z_goto (tgt := 140) dX2_advance_117 (by decide) ?_
          refine z_vret dX2_advance_140 rfl ?_
          exact hQ
  refine z_aload_n dX2_advance_0 rfl ?_
  refine z_aload_n dX2_advance_1 rfl ?_
  refine z_getI dX2_advance_2 zf_X2_25 (by first | rfl | assumption) rfl ?_
  refine z_putI dX2_advance_5 zf_X2_22p (by first | rfl | assumption) rfl rfl rfl ?_
  rw [zT3]
  refine zdown (P := fun q => p ≤ q → s = zrun (zbla x) q (t - q) → ZW layC mX2_advance 2 Q 8 [some (.ref 1), none] [] (zT μ a (nI q) (nI p) d)) t ?_ ?_ p hp (Nat.le_refl _) he.symm
  · intro _ e2
    rw [zrun_end] at e2
    refine z_aload_n dX2_advance_8 rfl ?_
    refine z_getI dX2_advance_9 zf_X2_22 (by first | rfl | assumption) rfl ?_
    refine z_aload_n dX2_advance_12 rfl ?_
    refine z_getI dX2_advance_13 zf_X2_15 (by first | rfl | assumption) rfl ?_
    refine z_icmp_ge (tgt := 45) dX2_advance_16 (by decide) (fun _ => ?_) (fun hx_ => absurd (by show μ.1 1 1 ≤ nI t; rw [ht]; exact Int32.le_refl _) hx_)
    rw [e2] at tail
    exact tail
  · intro q hq ih hpq e2
    rw [zrun_step hq] at e2
    have hxq := (h.2.2 q hq).2
    refine z_aload_n dX2_advance_8 rfl ?_
    refine z_getI dX2_advance_9 zf_X2_22 (by first | rfl | assumption) rfl ?_
    refine z_aload_n dX2_advance_12 rfl ?_
    refine z_getI dX2_advance_13 zf_X2_15 (by first | rfl | assumption) rfl ?_
    refine z_icmp_ge (tgt := 45) dX2_advance_16 (by decide) (fun hx_ => absurd hx_ (by show ¬ μ.1 1 1 ≤ nI q; rw [ht]; exact nI_ge hq (by omega))) (fun _ => ?_)
    refine z_aload_n dX2_advance_19 rfl ?_
    refine z_aload_n dX2_advance_20 rfl ?_
    refine z_getI dX2_advance_21 zf_X2_22 (by first | rfl | assumption) rfl ?_
    refine z_cV1r (dy := 0) dX2_advance_24 zl_X2_34 zy_X2_byteAt (by first | rfl | assumption) rfl (by decide) (Nat.le_of_ble_eq_true rfl) (by refine sp_byteAt_t (x := x) (t := t) ?_ hq; exact h) ?_
    refine z_bipush (v := 32) dX2_advance_27 (by decide) ?_
    by_cases hb : x q = 32
    · rw [if_pos (by simp [zbla, hb])] at e2
      refine z_icmp_ne (tgt := 45) dX2_advance_29 (by decide) (fun hx_ => absurd (by rw [hb]; rfl) hx_) (fun _ => ?_)
      refine z_aload_n dX2_advance_32 rfl ?_
      refine z_dup dX2_advance_33 rfl ?_
      refine z_getI dX2_advance_34 zf_X2_22 (by first | rfl | assumption) rfl ?_
      refine z_iconst (v := 1) dX2_advance_37 (by decide) ?_
      refine z_iadd dX2_advance_38 ?_
      refine z_putI dX2_advance_39 zf_X2_22p (by first | rfl | assumption) rfl rfl rfl ?_
      rw [zT3]
      refine z_goto (tgt := 8) dX2_advance_42 (by decide) ?_
      exact ZW.eq (ih (by omega) e2) rfl rfl rfl (by rw [nI_succ q]; rfl)
    · rw [if_neg (by simp [zbla, hb])] at e2
      refine z_icmp_ne (tgt := 45) dX2_advance_29 (by decide) (fun _ => ?_) (fun hx_ => absurd hx_ (fun z => hb ((nI_eq (b := 32) (by omega) (by decide)).mp z)))
      rw [e2] at tail
      exact tail
theorem sp_rewind {μ : ZMem} {x : Nat → Nat} {t : Nat} (h : ztx μ x t) : Sp layC mX2_rewind 3 [.ref 1] μ none (zT μ (nI (ztk x t 0).1) (nI (ztk x t 0).2.1) (nI (ztk x t 0).2.2.1) (nI (ztk x t 0).2.2.2)) := by
  refine Sp.mk (L := [some (.ref 1)]) rfl (by decide +kernel) rfl rfl (fun Q hQ => ?_)
  have e0 : zI μ 1 4 0 = zT μ (μ.1 1 2) (μ.1 1 3) (nI 0) (μ.1 1 5) := by
    have := zT4 μ (μ.1 1 2) (μ.1 1 3) (μ.1 1 4) (μ.1 1 5) 0
    rw [zT_self] at this
    rw [this]; rfl
  refine z_aload_n dX2_rewind_0 rfl ?_
  refine z_iconst (v := 0) dX2_rewind_1 (by decide) ?_
  refine z_putI dX2_rewind_2 zf_X2_25p (by first | rfl | assumption) rfl rfl rfl ?_
  rw [e0]
  refine z_aload_n dX2_rewind_5 rfl ?_
  refine z_cV0v (dy := 2) dX2_rewind_6 zl_X2_31 zy_X2_advance (by first | rfl | assumption) rfl (by decide) (Nat.le_of_ble_eq_true rfl) (sp_advance h (Nat.zero_le _) _ _ _) ?_
  refine z_vret dX2_rewind_9 rfl ?_
  exact hQ

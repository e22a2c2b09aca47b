/-! ===== a duchy's text, read: the numbers ===== -/
theorem ztk_le {x : Nat → Nat} {t p : Nat} (hx : ∀ k, k < t → x k < 256) (hp : p ≤ t) : (ztk x t p).1 ≤ 4 ∧ (ztk x t p).2.1 ≤ t ∧ (ztk x t p).2.2.1 ≤ t ∧ (ztk x t p).2.2.2 < 256 := by
  unfold ztk
  have h1 := zrun_le (zbla x) (t - p) p
  generalize zrun (zbla x) p (t - p) = s at h1
  dsimp only
  by_cases hst : t ≤ s
  · rw [if_pos hst]; dsimp only; omega
  · have h2 := zrun_le (zlet x) (t - (s + 1)) (s + 1)
    have h3 := zrun_le (zdig x) (t - (s + 1)) (s + 1)
    have hxs := hx s (by omega)
    rw [if_neg hst]
    by_cases h59 : x s = 59
    · rw [if_pos h59]; dsimp only; omega
    · rw [if_neg h59]
      by_cases hl : zlet x s = true
      · rw [if_pos hl]
        dsimp only
        refine ⟨by omega, by omega, by omega, ?_⟩
        split <;> omega
      · rw [if_neg hl]
        by_cases hd : zdig x s = true
        · rw [if_pos hd]
          dsimp only
          have hd2 : 48 ≤ x s ∧ x s ≤ 57 := by simpa [zdig] using hd
          have hv := zvl_le x (zrun (zdig x) (s + 1) (t - (s + 1)) - (s + 1)) (s + 1) (x s - 48) (by omega)
          refine ⟨?_, by omega, by omega, by omega⟩
          split <;> omega
        · rw [if_neg hd]; dsimp only; omega
/-- numbers up to a stop: their bits, or none; the last token -/
def zpn (x : Nat → Nat) (t : Nat) : Nat → Int32 → Nat → Option Int32 × ZTok
  | 0, b, p => if (ztk x t p).1 = 3 then (some b, ztk x t p) else (none, ztk x t p)
  | m + 1, b, p => if (ztk x t p).1 = 3 then (some b, ztk x t p) else if (ztk x t p).1 = 2 ∧ (ztk x t p).2.2.2 ≤ 7 then zpn x t m (b ||| (1 <<< (nI (ztk x t p).2.2.2 &&& 31))) (ztk x t p).2.2.1 else (none, ztk x t p)
/-- what a text has told so far: sayings, people, old, whether old is told, sounds, worthy, answers, knows -/
abbrev ZD : Type := Nat × Nat × Nat × Nat × Int32 × (Nat → Int32) × (Nat → Int32) × (Nat → Int32)
abbrev zroomP (δ : ZD) (L : Nat) : Prop := ((L = 97 ∨ L = 122) ∧ δ.1 < 8) ∨ (L = 112 ∧ δ.2.1 < 5) ∨ (L = 111 ∧ δ.2.2.2.1 = 0)
def ztake (δ : ZD) (L num : Nat) (b : Int32) : ZD :=
  if L = 111 then (δ.1, δ.2.1, num, 1, δ.2.2.2.2)
  else if L = 112 then (δ.1, δ.2.1 + 1, δ.2.2.1, δ.2.2.2.1, δ.2.2.2.2.1, δ.2.2.2.2.2.1, δ.2.2.2.2.2.2.1, upd δ.2.2.2.2.2.2.2 δ.2.1 b)
  else (δ.1 + 1, δ.2.1, δ.2.2.1, δ.2.2.2.1, δ.2.2.2.2.1 ||| (if L = 122 then 1 <<< (nI δ.1 &&& 31) else 0), upd δ.2.2.2.2.2.1 δ.1 (nI num), upd δ.2.2.2.2.2.2.1 δ.1 b, δ.2.2.2.2.2.2.2)
def zlet0 (T : ZTok) : Nat := if T.1 = 1 then T.2.2.2 else 0
def zit (x : Nat → Nat) (t : Nat) (δ : ZD) (T0 : ZTok) : Option ZD × ZTok :=
  if ¬ zroomP δ (zlet0 T0) then (none, T0)
  else if zlet0 T0 = 112 then ((zpn x t 8 0 T0.2.2.1).1.map (ztake δ 112 0), (zpn x t 8 0 T0.2.2.1).2)
  else if ¬ ((ztk x t T0.2.2.1).1 = 2 ∧ (if zlet0 T0 = 111 then 1 else 0) ≤ (ztk x t T0.2.2.1).2.2.2 ∧ (ztk x t T0.2.2.1).2.2.2 ≤ 9) then (none, ztk x t T0.2.2.1)
  else ((zpn x t (if zlet0 T0 = 97 then 8 else 0) 0 (ztk x t T0.2.2.1).2.2.1).1.map (ztake δ (zlet0 T0) (ztk x t T0.2.2.1).2.2.2), (zpn x t (if zlet0 T0 = 97 then 8 else 0) 0 (ztk x t T0.2.2.1).2.2.1).2)
def zits (x : Nat → Nat) (t : Nat) : Nat → Nat → ZD → ZTok → Option ZD × Nat
  | 0, n, δ, T0 => if T0.1 = 0 then (some δ, n) else (none, T0.2.1)
  | m + 1, n, δ, T0 => if T0.1 = 0 then (some δ, n) else match zit x t δ T0 with
    | (none, T) => (none, T.2.1)
    | (some δ', T) => zits x t m (n + 1) δ' (ztk x t T.2.2.1)
theorem zpn_le {x : Nat → Nat} {t : Nat} (hx : ∀ k, k < t → x k < 256) : ∀ m b p, p ≤ t → (zpn x t m b p).2.1 ≤ 4 ∧ (zpn x t m b p).2.2.1 ≤ t ∧ (zpn x t m b p).2.2.2.1 ≤ t ∧ (zpn x t m b p).2.2.2.2 < 256 := by
  intro m
  induction m with
  | zero =>
    intro b p hp
    have := ztk_le hx hp
    unfold zpn
    split <;> exact this
  | succ m ih =>
    intro b p hp
    have := ztk_le hx hp
    unfold zpn
    split
    · exact this
    · split
      · exact ih _ _ this.2.2.1
      · exact this
theorem zit_le {x : Nat → Nat} {t : Nat} (hx : ∀ k, k < t → x k < 256) {δ : ZD} {T0 : ZTok} (h0 : T0.1 ≤ 4 ∧ T0.2.1 ≤ t ∧ T0.2.2.1 ≤ t ∧ T0.2.2.2 < 256) : (zit x t δ T0).2.1 ≤ 4 ∧ (zit x t δ T0).2.2.1 ≤ t ∧ (zit x t δ T0).2.2.2.1 ≤ t ∧ (zit x t δ T0).2.2.2.2 < 256 := by
  have h1 := ztk_le hx h0.2.2.1
  unfold zit
  by_cases c1 : ¬ zroomP δ (zlet0 T0)
  · rw [if_pos c1]; exact h0
  · rw [if_neg c1]
    by_cases c2 : zlet0 T0 = 112
    · rw [if_pos c2]; exact zpn_le hx _ _ _ h0.2.2.1
    · rw [if_neg c2]
      by_cases c3 : ¬ ((ztk x t T0.2.2.1).1 = 2 ∧ (if zlet0 T0 = 111 then 1 else 0) ≤ (ztk x t T0.2.2.1).2.2.2 ∧ (ztk x t T0.2.2.1).2.2.2 ≤ 9)
      · rw [if_pos c3]; exact h1
      · rw [if_neg c3]; exact zpn_le hx _ _ _ h1.2.2.1
/-- bits of numbers up to 7 stay within a byte -/
theorem zbits_or {b : Int32} {B v : Nat} (hb : b = nI B) (hB : B < 256) (hv : v ≤ 7) : ∃ B', B' < 256 ∧ b ||| (1 <<< (nI v &&& 31)) = nI B' := by
  subst hb
  rw [zsh v (by omega)]
  refine ⟨B ||| 2 ^ v, ?_, ?_⟩
  · exact Nat.or_lt_two_pow (n := 8) hB (Nat.pow_lt_pow_right (by omega) (by omega))
  · apply b_ext
    intro i hi
    rw [b_or]
    unfold bt nI
    simp only [Int32.toBitVec_ofNat', BitVec.getLsbD_ofNat, Nat.testBit_or]
    simp [hi]
theorem zpn_bits {x : Nat → Nat} {t : Nat} : ∀ m b p B, b = nI B → B < 256 → ∀ r, (zpn x t m b p).1 = some r → ∃ R, R < 256 ∧ r = nI R := by
  intro m
  induction m with
  | zero =>
    intro b p B hb hB r hr
    unfold zpn at hr
    split at hr
    · cases hr; exact ⟨B, hB, hb⟩
    · cases hr
  | succ m ih =>
    intro b p B hb hB r hr
    unfold zpn at hr
    split at hr
    · cases hr; exact ⟨B, hB, hb⟩
    · split at hr
      · rename_i h2
        obtain ⟨B', hB', e⟩ := zbits_or hb hB h2.2
        exact ih _ _ B' e hB' r hr
      · cases hr
/-! Duchy.readNumbers, and the spare duchy's memory -/
theorem sp_readNumbers {μ : ZMem} {x : Nat → Nat} {t p m : Nat} (h : ztx μ x t) (hp : p ≤ t) (hm : m ≤ 8) (a b d : Int32) : Sp layC mX0_readNumbers 3 [.ref 1, .int (nI m)] (zT μ a b (nI p) d) (some (.int ((zpn x t m 0 p).1.getD (-1)))) (zT μ (nI (zpn x t m 0 p).2.1) (nI (zpn x t m 0 p).2.2.1) (nI (zpn x t m 0 p).2.2.2.1) (nI (zpn x t m 0 p).2.2.2.2)) := by
  have hx : ∀ k, k < t → x k < 256 := fun k hk => (h.2.2 k hk).2
  refine Sp.mk (L := [some (.ref 1), some (.int (nI m)), none, none]) rfl (by decide +kernel) rfl rfl (fun Q hQ => ?_)
  refine z_iconst (v := 0) dX0_readNumbers_0 (by decide) ?_
  refine z_istore_n (i := 2) dX0_readNumbers_1 rfl (by decide) ?_
  refine z_iconst (v := 0) dX0_readNumbers_2 (by decide) ?_
  refine z_istore_n (i := 3) dX0_readNumbers_3 rfl (by decide) ?_
  have key : ∀ k, k ≤ m → ∀ bb pp aa b2 dd, pp ≤ t → zpn x t m 0 p = zpn x t (m - k) bb pp → ZW layC mX0_readNumbers 3 Q 4 [some (.ref 1), some (.int (nI m)), some (.int bb), some (.int (nI k))] [] (zT μ aa b2 (nI pp) dd) := by
    have stop : ∀ k, k ≤ m → ∀ bb pp aa b2 dd, pp ≤ t → zpn x t m 0 p = (some bb, ztk x t pp) → (ztk x t pp).1 = 3 → ZW layC mX0_readNumbers 3 Q 4 [some (.ref 1), some (.int (nI m)), some (.int bb), some (.int (nI k))] [] (zT μ aa b2 (nI pp) dd) := by
      intro k hk bb pp aa b2 dd hpp e h3
      rw [e] at hQ
      refine z_iload_n dX0_readNumbers_4 rfl ?_
      refine z_iload_n dX0_readNumbers_5 rfl ?_
      refine z_icmp_gt (tgt := 55) dX0_readNumbers_6 (by decide) (fun hx_ => absurd hx_ (nI_nlt (by omega) (by omega))) (fun _ => ?_)
      refine z_aload_n dX0_readNumbers_9 rfl ?_
      refine z_cV0v (dy := 2) dX0_readNumbers_10 zl_X0_53 zy_X2_advance (by first | rfl | assumption) rfl (by decide) (Nat.le_of_ble_eq_true rfl) (sp_advance h hpp _ _ _) ?_
      refine z_aload_n dX0_readNumbers_13 rfl ?_
      refine z_getI dX0_readNumbers_14 zf_X0_43 (by first | rfl | assumption) rfl ?_
      refine z_iconst (v := 3) dX0_readNumbers_17 (by decide) ?_
      refine z_icmp_ne (tgt := 23) dX0_readNumbers_18 (by decide) (fun hx_ => absurd (by show nI (ztk x t pp).1 = 3; rw [h3]; rfl) hx_) (fun _ => ?_)
      refine z_iload_n dX0_readNumbers_21 rfl ?_
      refine z_iret dX0_readNumbers_22 rfl ?_
      exact hQ
    refine zdown m ?_ ?_
    · intro bb pp aa b2 dd hpp e
      rw [Nat.sub_self] at e
      have e2 : zpn x t 0 bb pp = if (ztk x t pp).1 = 3 then (some bb, ztk x t pp) else (none, ztk x t pp) := rfl
      by_cases h3 : (ztk x t pp).1 = 3
      · exact stop m (Nat.le_refl _) bb pp aa b2 dd hpp (by rw [e, e2, if_pos h3]) h3
      · rw [e, e2, if_neg h3] at hQ
        have hk4 := (ztk_le hx hpp).1
        refine z_iload_n dX0_readNumbers_4 rfl ?_
        refine z_iload_n dX0_readNumbers_5 rfl ?_
        refine z_icmp_gt (tgt := 55) dX0_readNumbers_6 (by decide) (fun hx_ => absurd hx_ (nI_nlt (by omega) (by omega))) (fun _ => ?_)
        refine z_aload_n dX0_readNumbers_9 rfl ?_
        refine z_cV0v (dy := 2) dX0_readNumbers_10 zl_X0_53 zy_X2_advance (by first | rfl | assumption) rfl (by decide) (Nat.le_of_ble_eq_true rfl) (sp_advance h hpp _ _ _) ?_
        refine z_aload_n dX0_readNumbers_13 rfl ?_
        refine z_getI dX0_readNumbers_14 zf_X0_43 (by first | rfl | assumption) rfl ?_
        refine z_iconst (v := 3) dX0_readNumbers_17 (by decide) ?_
        refine z_icmp_ne (tgt := 23) dX0_readNumbers_18 (by decide) (fun _ => ?_) (fun hx_ => absurd hx_ (fun q => h3 ((nI_eq (b := 3) (by omega) (by decide)).mp q)))
        refine z_iload_n dX0_readNumbers_23 rfl ?_
        refine z_iload_n dX0_readNumbers_24 rfl ?_
        refine z_icmp_eq (tgt := 38) dX0_readNumbers_25 (by decide) (fun _ => ?_) (fun hx_ => absurd (rfl) hx_)
        refine z_iconst (v := -1) dX0_readNumbers_38 (by decide) ?_
        refine z_iret dX0_readNumbers_39 rfl ?_
        exact hQ
    · intro k hk ih bb pp aa b2 dd hpp e
      rw [show m - k = (m - (k + 1)) + 1 by omega] at e
      have e2 : zpn x t (m - (k + 1) + 1) bb pp = if (ztk x t pp).1 = 3 then (some bb, ztk x t pp) else if (ztk x t pp).1 = 2 ∧ (ztk x t pp).2.2.2 ≤ 7 then zpn x t (m - (k + 1)) (bb ||| (1 <<< (nI (ztk x t pp).2.2.2 &&& 31))) (ztk x t pp).2.2.1 else (none, ztk x t pp) := rfl
      by_cases h3 : (ztk x t pp).1 = 3
      · exact stop k (by omega) bb pp aa b2 dd hpp (by rw [e, e2, if_pos h3]) h3
      · obtain ⟨hk4, -, hnx, hv⟩ := ztk_le hx hpp
        rw [if_neg h3] at e2
        refine z_iload_n dX0_readNumbers_4 rfl ?_
        refine z_iload_n dX0_readNumbers_5 rfl ?_
        refine z_icmp_gt (tgt := 55) dX0_readNumbers_6 (by decide) (fun hx_ => absurd hx_ (nI_nlt (by omega) (by omega))) (fun _ => ?_)
        refine z_aload_n dX0_readNumbers_9 rfl ?_
        refine z_cV0v (dy := 2) dX0_readNumbers_10 zl_X0_53 zy_X2_advance (by first | rfl | assumption) rfl (by decide) (Nat.le_of_ble_eq_true rfl) (sp_advance h hpp _ _ _) ?_
        refine z_aload_n dX0_readNumbers_13 rfl ?_
        refine z_getI dX0_readNumbers_14 zf_X0_43 (by first | rfl | assumption) rfl ?_
        refine z_iconst (v := 3) dX0_readNumbers_17 (by decide) ?_
        refine z_icmp_ne (tgt := 23) dX0_readNumbers_18 (by decide) (fun _ => ?_) (fun hx_ => absurd hx_ (fun q => h3 ((nI_eq (b := 3) (by omega) (by decide)).mp q)))
        refine z_iload_n dX0_readNumbers_23 rfl ?_
        refine z_iload_n dX0_readNumbers_24 rfl ?_
        refine z_icmp_eq (tgt := 38) dX0_readNumbers_25 (by decide) (fun hx_ => absurd hx_ (fun q => by have := (nI_eq (by omega) (by omega)).mp q; omega)) (fun _ => ?_)
        refine z_aload_n dX0_readNumbers_28 rfl ?_
        refine z_iconst (v := 0) dX0_readNumbers_29 (by decide) ?_
        refine z_bipush (v := 7) dX0_readNumbers_30 (by decide) ?_
        refine z_cV2r (dy := 0) dX0_readNumbers_32 zl_X0_66 zy_X2_isNumber (by first | rfl | assumption) rfl (by decide) (Nat.le_of_ble_eq_true rfl) (sp_isNumber 0 7) ?_
        by_cases hnum : (ztk x t pp).1 = 2 ∧ (ztk x t pp).2.2.2 ≤ 7
        · rw [if_pos hnum] at e2
          have hyes : nI (ztk x t pp).1 = 2 ∧ ¬ nI (ztk x t pp).2.2.2 < 0 ∧ ¬ 7 < nI (ztk x t pp).2.2.2 := ⟨by rw [hnum.1]; rfl, nI_pos (by omega), nI_nlt (a := 7) (b := (ztk x t pp).2.2.2) hnum.2 (by decide)⟩
          refine z_if_neb (tgt := 40) dX0_readNumbers_35 (by decide) (fun _ => ?_) (fun hb35 => absurd hyes hb35)
          refine z_iload_n dX0_readNumbers_40 rfl ?_
          refine z_iconst (v := 1) dX0_readNumbers_41 (by decide) ?_
          refine z_aload_n dX0_readNumbers_42 rfl ?_
          refine z_getI dX0_readNumbers_43 zf_X0_59 (by first | rfl | assumption) rfl ?_
          refine z_ishl dX0_readNumbers_46 ?_
          refine z_ior dX0_readNumbers_47 ?_
          refine z_istore_n (i := 2) dX0_readNumbers_48 rfl (by decide) ?_
          refine z_iinc (v := 1) dX0_readNumbers_49 rfl (by decide) (by decide) ?_
          refine z_goto (tgt := 4) dX0_readNumbers_52 (by decide) ?_
          exact ZW.eq (ih (bb ||| (1 <<< (nI (ztk x t pp).2.2.2 &&& 31))) (ztk x t pp).2.2.1 _ _ _ hnx (by rw [e, e2])) rfl (by rw [nI_succ k]; rfl)
        · rw [if_neg hnum] at e2
          rw [e, e2] at hQ
          refine z_if_neb (tgt := 40) dX0_readNumbers_35 (by decide) (fun hb35 => ?_) (fun _ => ?_)
          · exfalso
            apply hnum
            have q1 : nI (ztk x t pp).1 = 2 := hb35.1
            have q2 : ¬ 7 < nI (ztk x t pp).2.2.2 := hb35.2.2
            refine ⟨(nI_eq (b := 2) (by omega) (by decide)).mp q1, ?_⟩
            by_cases hh : (ztk x t pp).2.2.2 ≤ 7
            · exact hh
            · exact absurd (nI_lt (a := 7) (show 7 < (ztk x t pp).2.2.2 by omega) (by omega)) q2
          · refine z_iconst (v := -1) dX0_readNumbers_38 (by decide) ?_
            refine z_iret dX0_readNumbers_39 rfl ?_
            exact hQ
  exact key 0 (Nat.zero_le _) 0 p a b d hp rfl
/-- the spare duchy at ds: five fields, three rows -/
def zDq (μ : ZMem) (ds : Nat) (f3 f4 f5 f6 f7 : Int32) (r1 r2 r3 : Nat → Int32) : ZMem := (fun i j => if i = ds then (if j = 3 then f3 else if j = 4 then f4 else if j = 5 then f5 else if j = 6 then f6 else if j = 7 then f7 else μ.1 ds j) else if i = ds + 1 then r1 j else if i = ds + 2 then r2 j else if i = ds + 3 then r3 j else μ.1 i j, μ.2)
abbrev zDr (μ : ZMem) (ds : Nat) (δ : ZD) : ZMem := zDq μ ds (nI δ.1) (nI δ.2.1) (nI δ.2.2.1) (nI δ.2.2.2.1) δ.2.2.2.2.1 δ.2.2.2.2.2.1 δ.2.2.2.2.2.2.1 δ.2.2.2.2.2.2.2
theorem zI_T {μ : ZMem} {a b c d v : Int32} {u k : Nat} (h : u ≠ 1) : zI (zT μ a b c d) u k v = zT (zI μ u k v) a b c d := by
  refine Prod.ext (funext fun i => funext fun j => ?_) rfl
  simp only [zI, zup, zT]
  by_cases hi : i = 1
  · subst hi
    have h' : ¬ 1 = u := fun q => h q.symm
    simp [h']
  · by_cases hu : i = u
    · subst hu; simp [hi]
    · simp [hi, hu]
theorem zDq_3 (μ : ZMem) (ds : Nat) (f3 f4 f5 f6 f7 v : Int32) (r1 r2 r3 : Nat → Int32) : zI (zDq μ ds f3 f4 f5 f6 f7 r1 r2 r3) ds 3 v = zDq μ ds v f4 f5 f6 f7 r1 r2 r3 := by
  refine Prod.ext (funext fun i => funext fun j => ?_) rfl
  simp only [zI, zup, zDq]
  by_cases hi : i = ds
  · subst hi
    by_cases hj : j = 3 <;> simp [hj]
  · simp [hi]
theorem zDq_4 (μ : ZMem) (ds : Nat) (f3 f4 f5 f6 f7 v : Int32) (r1 r2 r3 : Nat → Int32) : zI (zDq μ ds f3 f4 f5 f6 f7 r1 r2 r3) ds 4 v = zDq μ ds f3 v f5 f6 f7 r1 r2 r3 := by
  refine Prod.ext (funext fun i => funext fun j => ?_) rfl
  simp only [zI, zup, zDq]
  by_cases hi : i = ds
  · subst hi
    by_cases hj : j = 4 <;> simp [hj]
  · simp [hi]
theorem zDq_5 (μ : ZMem) (ds : Nat) (f3 f4 f5 f6 f7 v : Int32) (r1 r2 r3 : Nat → Int32) : zI (zDq μ ds f3 f4 f5 f6 f7 r1 r2 r3) ds 5 v = zDq μ ds f3 f4 v f6 f7 r1 r2 r3 := by
  refine Prod.ext (funext fun i => funext fun j => ?_) rfl
  simp only [zI, zup, zDq]
  by_cases hi : i = ds
  · subst hi
    by_cases hj : j = 5 <;> simp [hj]
  · simp [hi]
theorem zDq_6 (μ : ZMem) (ds : Nat) (f3 f4 f5 f6 f7 v : Int32) (r1 r2 r3 : Nat → Int32) : zI (zDq μ ds f3 f4 f5 f6 f7 r1 r2 r3) ds 6 v = zDq μ ds f3 f4 f5 v f7 r1 r2 r3 := by
  refine Prod.ext (funext fun i => funext fun j => ?_) rfl
  simp only [zI, zup, zDq]
  by_cases hi : i = ds
  · subst hi
    by_cases hj : j = 6 <;> simp [hj]
  · simp [hi]
theorem zDq_7 (μ : ZMem) (ds : Nat) (f3 f4 f5 f6 f7 v : Int32) (r1 r2 r3 : Nat → Int32) : zI (zDq μ ds f3 f4 f5 f6 f7 r1 r2 r3) ds 7 v = zDq μ ds f3 f4 f5 f6 v r1 r2 r3 := by
  refine Prod.ext (funext fun i => funext fun j => ?_) rfl
  simp only [zI, zup, zDq]
  by_cases hi : i = ds
  · subst hi
    by_cases hj : j = 7 <;> simp [hj]
  · simp [hi]
theorem zDq_r1 (μ : ZMem) (ds k : Nat) (f3 f4 f5 f6 f7 v : Int32) (r1 r2 r3 : Nat → Int32) : zI (zDq μ ds f3 f4 f5 f6 f7 r1 r2 r3) (ds + 1) k v = zDq μ ds f3 f4 f5 f6 f7 (upd r1 k v) r2 r3 := by
  refine Prod.ext (funext fun i => funext fun j => ?_) rfl
  simp only [zI, zup, zDq]
  by_cases hi : i = ds + 1
  · subst hi; simp [upd]
  · simp [hi]
theorem zDq_r2 (μ : ZMem) (ds k : Nat) (f3 f4 f5 f6 f7 v : Int32) (r1 r2 r3 : Nat → Int32) : zI (zDq μ ds f3 f4 f5 f6 f7 r1 r2 r3) (ds + 2) k v = zDq μ ds f3 f4 f5 f6 f7 r1 (upd r2 k v) r3 := by
  refine Prod.ext (funext fun i => funext fun j => ?_) rfl
  simp only [zI, zup, zDq]
  by_cases hi : i = ds + 2
  · subst hi; simp [upd]
  · simp [hi]
theorem zDq_r3 (μ : ZMem) (ds k : Nat) (f3 f4 f5 f6 f7 v : Int32) (r1 r2 r3 : Nat → Int32) : zI (zDq μ ds f3 f4 f5 f6 f7 r1 r2 r3) (ds + 3) k v = zDq μ ds f3 f4 f5 f6 f7 r1 r2 (upd r3 k v) := by
  refine Prod.ext (funext fun i => funext fun j => ?_) rfl
  simp only [zI, zup, zDq]
  by_cases hi : i = ds + 3
  · subst hi; simp [upd]
  · simp [hi]
/-- a row, its first k masked -/
def zms (f : Nat → Int32) (th : Int32) (k : Nat) : Nat → Int32 := fun i => if i < k then f i &&& th else f i
theorem zms_0 (f : Nat → Int32) (th : Int32) : zms f th 0 = f := by funext i; simp [zms]
theorem zms_at (f : Nat → Int32) (th : Int32) (k : Nat) : zms f th k k = f k := by simp [zms]
theorem zms_s (f : Nat → Int32) (th : Int32) (k : Nat) : upd (zms f th k) k (zms f th k k &&& th) = zms f th (k + 1) := by
  funext i
  unfold upd zms
  by_cases e : i = k
  · subst e; simp
  · rw [if_neg e]
    by_cases h : i < k
    · rw [if_pos h, if_pos (by omega)]
    · rw [if_neg h, if_neg (by omega)]
theorem Spec.mk {lay : List ZE} {mt : ZM} {d : Nat} {as : List Value} {μ : ZMem} {Qs : Option Value → ZMem → Prop} {L : List (Option Value)} (hL : zloc mt.2.2.1 as = L) (hpl : plainName mt.1.cls = true) (hc : (as.all fun v => v.category == 1) = true) (hn : Nat.ble as.length mt.2.2.1 = true)
    (h : ∀ Q : Option Value → ZMem → Prop, (∀ r m, Qs r m → Q r m) → ZW lay mt d Q 0 L [] μ) : Spec lay mt d as μ Qs := by
  subst hL
  exact Spec.of hpl (fun v hv => by simpa using List.all_eq_true.mp hc v hv) (Nat.le_of_ble_eq_true hn) (h _ (fun _ _ q => q))
theorem ztake_le {δ : ZD} {L num : Nat} {b : Int32} (hr : zroomP δ L) (h1 : δ.1 ≤ 8) (h2 : δ.2.1 ≤ 5) (h3 : δ.2.2.2.1 ≤ 1) : (ztake δ L num b).1 ≤ 8 ∧ (ztake δ L num b).2.1 ≤ 5 ∧ (ztake δ L num b).2.2.2.1 ≤ 1 ∧ (ztake δ L num b).1 + (ztake δ L num b).2.1 + (ztake δ L num b).2.2.2.1 = δ.1 + δ.2.1 + δ.2.2.2.1 + 1 := by
  unfold ztake
  by_cases h111 : L = 111
  · rw [if_pos h111]
    dsimp only
    rcases hr with hr | hr | hr <;> omega
  · rw [if_neg h111]
    by_cases h112 : L = 112
    · rw [if_pos h112]
      dsimp only
      rcases hr with hr | hr | hr <;> omega
    · rw [if_neg h112]
      dsimp only
      rcases hr with hr | hr | hr <;> omega
theorem zit_some {x : Nat → Nat} {t : Nat} {δ δ' : ZD} {T0 T : ZTok} (h : zit x t δ T0 = (some δ', T)) : ∃ L num b, zroomP δ L ∧ δ' = ztake δ L num b := by
  unfold zit at h
  by_cases c1 : ¬ zroomP δ (zlet0 T0)
  · rw [if_pos c1] at h; cases h
  · rw [if_neg c1] at h
    have hr : zroomP δ (zlet0 T0) := Classical.byContradiction c1
    by_cases c2 : zlet0 T0 = 112
    · rw [if_pos c2] at h
      cases hz : (zpn x t 8 0 T0.2.2.1).1 with
      | none => rw [hz] at h; cases h
      | some r => rw [hz] at h; cases h; exact ⟨112, 0, r, c2 ▸ hr, rfl⟩
    · rw [if_neg c2] at h
      by_cases c3 : ¬ ((ztk x t T0.2.2.1).1 = 2 ∧ (if zlet0 T0 = 111 then 1 else 0) ≤ (ztk x t T0.2.2.1).2.2.2 ∧ (ztk x t T0.2.2.1).2.2.2 ≤ 9)
      · rw [if_pos c3] at h; cases h
      · rw [if_neg c3] at h
        cases hz : (zpn x t (if zlet0 T0 = 97 then 8 else 0) 0 (ztk x t T0.2.2.1).2.2.1).1 with
        | none => rw [hz] at h; cases h
        | some r => rw [hz] at h; cases h; exact ⟨_, _, r, hr, rfl⟩
theorem zDq_self (μ : ZMem) (ds : Nat) : zDq μ ds (μ.1 ds 3) (μ.1 ds 4) (μ.1 ds 5) (μ.1 ds 6) (μ.1 ds 7) (μ.1 (ds + 1)) (μ.1 (ds + 2)) (μ.1 (ds + 3)) = μ := by
  refine Prod.ext (funext fun i => funext fun j => ?_) rfl
  simp only [zDq]
  by_cases hi : i = ds
  · subst hi
    by_cases h3 : j = 3
    · subst h3; simp
    · by_cases h4 : j = 4
      · subst h4; simp
      · by_cases h5 : j = 5
        · subst h5; simp
        · by_cases h6 : j = 6
          · subst h6; simp
          · by_cases h7 : j = 7
            · subst h7; simp
            · simp [h3, h4, h5, h6, h7]
  · by_cases i1 : i = ds + 1
    · subst i1; simp
    · by_cases i2 : i = ds + 2
      · subst i2; simp
      · by_cases i3 : i = ds + 3
        · subst i3; simp
        · simp [hi, i1, i2, i3]
def zd0 (r1 r2 r3 : Nat → Int32) : ZD := (0, 0, 3, 0, 0, r1, r2, r3)
/-- the duchy at ds, read and settled -/
def zset (μ : ZMem) (ds : Nat) (δ : ZD) (a b c d : Int32) : ZMem := zI (zT (zDq μ ds (nI δ.1) (nI δ.2.1) (nI δ.2.2.1) (nI δ.2.2.2.1) δ.2.2.2.2.1 δ.2.2.2.2.2.1 (zms δ.2.2.2.2.2.2.1 (1 <<< (nI δ.1 &&& 31) - 1) δ.1) (zms δ.2.2.2.2.2.2.2 (1 <<< (nI δ.1 &&& 31) - 1) δ.2.1)) a b c d) ds 8 (zfold (fun p x => x ||| (δ.2.2.2.2.2.2.2 p &&& (1 <<< (nI δ.1 &&& 31) - 1))) 0 δ.2.1 &&& (δ.2.2.2.2.1 ^^^ -1))
theorem zfault_neg {f : Nat} (h : f ≤ 200) : (-10 : Int32) - nI f < 0 := by
  have : ∀ f, f < 201 → (-10 : Int32) - nI f < 0 := by decide +kernel
  exact this f (by omega)
/-- AnswerSquare.duchy: what it does behind the reading -/
def zdu2 (μ m : ZMem) : ZMem := zI (zclr (zI (zI (zI (zI (zI (zI (zI (zR (zR m 0 1 (μ.2.2 0 2)) 0 2 (μ.2.2 0 1)) 1 1 0) 11 6 0) 11 7 0) 11 8 0) 11 9 0) 18 10 0) 25 10 0) 8) 0 7 0

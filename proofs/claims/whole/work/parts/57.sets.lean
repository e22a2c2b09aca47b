/-! ===== same answers: fits, began, sounds, orders ===== -/
theorem zff_first (p : Nat → Bool) : ∀ m k, (zff p k m = -9 ∧ ∀ j, k ≤ j → j < k + m → p j = false) ∨ ∃ j, k ≤ j ∧ j < k + m ∧ zff p k m = nI j ∧ p j = true ∧ ∀ i, k ≤ i → i < j → p i = false := by
  intro m
  induction m with
  | zero => intro k; exact Or.inl ⟨rfl, fun j h1 h2 => by omega⟩
  | succ m ih =>
    intro k
    have e : zff p k (m + 1) = if p k = true then nI k else zff p (k + 1) m := rfl
    rw [e]
    by_cases c : p k = true
    · rw [if_pos c]
      exact Or.inr ⟨k, Nat.le_refl _, by omega, rfl, c, fun i h1 h2 => by omega⟩
    · rw [if_neg c]
      have c' : p k = false := by simpa using c
      rcases ih (k + 1) with ⟨h1, h2⟩ | ⟨j, h1, h2, h3, h4, h5⟩
      · refine Or.inl ⟨h1, fun j q1 q2 => ?_⟩
        by_cases ej : j = k
        · rw [ej]; exact c'
        · exact h2 j (by omega) (by omega)
      · refine Or.inr ⟨j, by omega, by omega, h3, h4, fun i q1 q2 => ?_⟩
        by_cases ei : i = k
        · rw [ei]; exact c'
        · exact h5 i (by omega) q2
theorem b_zah {f : Nat → Int32} {w : Int32} {a : Nat} (ha : a < 32) (wf : Nat → Nat) : ∀ m k acc, (∀ j, k ≤ j → j < k + m → wf j < 32 ∧ f j = nI (wf j)) → (bt (zah f w k m acc) a = true ↔ ∃ p, k ≤ p ∧ p < k + m ∧ f p = w ∧ (∀ q, k ≤ q → q < p → ¬ f q = w) ∧ (bt acc a = true ∨ ∃ q, k ≤ q ∧ q < p ∧ f q = nI a)) := by
  intro m
  induction m with
  | zero =>
    intro k acc _
    constructor
    · intro h
      have : bt (0 : Int32) a = true := h
      rw [b_0] at this; cases this
    · rintro ⟨p, h1, h2, -⟩; omega
  | succ m ih =>
    intro k acc hf
    have e : zah f w k (m + 1) acc = if f k = w then acc else zah f w (k + 1) m (acc ||| (1 <<< (f k &&& 31))) := rfl
    rw [e]
    by_cases c : f k = w
    · rw [if_pos c]
      constructor
      · intro h; exact ⟨k, Nat.le_refl _, by omega, c, fun q h1 h2 => by omega, Or.inl h⟩
      · rintro ⟨p, h1, h2, h3, h4, h5⟩
        have hp : p = k := by
          by_cases e : p = k
          · exact e
          · exact absurd c (h4 k (Nat.le_refl _) (by omega))
        rcases h5 with h5 | ⟨q, q1, q2, -⟩
        · exact h5
        · omega
    · rw [if_neg c]
      obtain ⟨hw, hk⟩ := hf k (Nat.le_refl _) (by omega)
      rw [ih (k + 1) _ (fun j h1 h2 => hf j (by omega) (by omega)), b_or, hk, b_one hw ha]
      constructor
      · rintro ⟨p, h1, h2, h3, h4, h5⟩
        refine ⟨p, by omega, by omega, h3, fun q q1 q2 => ?_, ?_⟩
        · by_cases eq : q = k
          · rw [eq]; exact c
          · exact h4 q (by omega) q2
        · rcases h5 with h5 | ⟨q, q1, q2, q3⟩
          · rw [Bool.or_eq_true] at h5
            rcases h5 with h5 | h5
            · exact Or.inl h5
            · have : a = wf k := by simpa using h5
              exact Or.inr ⟨k, Nat.le_refl _, by omega, by rw [hk, this]⟩
          · exact Or.inr ⟨q, by omega, q2, q3⟩
      · rintro ⟨p, h1, h2, h3, h4, h5⟩
        have hpk : p ≠ k := fun e => c (e ▸ h3)
        refine ⟨p, by omega, by omega, h3, fun q q1 q2 => h4 q (by omega) q2, ?_⟩
        rcases h5 with h5 | ⟨q, q1, q2, q3⟩
        · exact Or.inl (by rw [h5]; rfl)
        · by_cases eq : q = k
          · left
            rw [eq, hk] at q3
            have := (nI_eq (by omega) (by omega)).mp q3
            rw [Bool.or_eq_true]
            right
            simp [this]
          · exact Or.inr ⟨q, by omega, q2, q3⟩
/-- whether a is in talk ahead of b -/
theorem zah_fa {f : Nat → Int32} {n a b : Nat} (h30 : n ≤ 30) (ha : a < 8) (hf : ∀ k, k < n → ∃ w, w < 8 ∧ f k = nI w) : bt (zah f (nI b) 0 n 0) a = true ↔ ¬ zfa f n (nI a) = -9 ∧ zfa f n (nI a) < zfa f n (nI b) := by
  have hwf : ∃ wf : Nat → Nat, ∀ j, j < n → wf j < 8 ∧ f j = nI (wf j) := ⟨fun j => if h : j < n then (hf j h).choose else 0, fun j hj => by
    dsimp only
    rw [dif_pos hj]
    exact (hf j hj).choose_spec⟩
  obtain ⟨wf, hwf⟩ := hwf
  rw [b_zah (by omega) wf n 0 0 (fun j _ hj => by have := hwf j (by omega); exact ⟨by omega, this.2⟩)]
  unfold zfa
  rcases zff_first (fun k => decide (f k = nI a)) n 0 with ⟨e1, e2⟩ | ⟨i, -, hi, e1, e2, e3⟩
  · rw [e1]
    constructor
    · rintro ⟨p, -, hp, -, -, h5⟩
      rcases h5 with h5 | ⟨q, -, hq, h6⟩
      · rw [b_0] at h5; cases h5
      · have := e2 q (by omega) (by omega)
        simp [h6] at this
    · rintro ⟨h, -⟩; exact absurd rfl h
  · rw [e1]
    have e2' : f i = nI a := by simpa using e2
    rcases zff_first (fun k => decide (f k = nI b)) n 0 with ⟨g1, g2⟩ | ⟨j, -, hj, g1, g2, g3⟩
    · rw [g1]
      constructor
      · rintro ⟨p, -, hp, h3, -⟩
        have := g2 p (by omega) (by omega)
        simp [h3] at this
      · rintro ⟨-, h⟩
        have h1 := Int32.lt_iff_toInt_lt.mp h
        rw [nI_toInt (by omega), show (-9 : Int32).toInt = -9 by decide] at h1
        omega
    · rw [g1]
      have g2' : f j = nI b := by simpa using g2
      constructor
      · rintro ⟨p, -, hp, h3, h4, h5⟩
        refine ⟨nI_ne9 (by omega), ?_⟩
        have hjp : j = p := by
          by_cases c1 : j < p
          · exact absurd g2' (h4 j (by omega) c1)
          · by_cases c2 : p < j
            · have := g3 p (by omega) c2
              simp [h3] at this
            · omega
        rcases h5 with h5 | ⟨q, -, hq, h6⟩
        · rw [b_0] at h5; cases h5
        · have hiq : i ≤ q := by
            by_cases c : q < i
            · have := e3 q (by omega) c
              simp [h6] at this
            · omega
          exact nI_lt (by omega) (by omega)
      · rintro ⟨-, h⟩
        have h1 := Int32.lt_iff_toInt_lt.mp h
        rw [nI_toInt (by omega), nI_toInt (by omega)] at h1
        exact ⟨j, by omega, by omega, g2', fun q _ hq e => by have := g3 q (by omega) hq; simp [e] at this, Or.inr ⟨i, by omega, by omega, e2'⟩⟩
theorem zft_all {wh ta tb : Nat → Int32} {n : Nat} : ∀ f, zft wh ta tb n f ↔ ∀ k, k < f → ¬ zfa wh n (ta k) = -9 ∧ zfa wh n (ta k) < zfa wh n (tb k) := by
  intro f
  induction f with
  | zero => exact ⟨fun _ k hk => by omega, fun _ => trivial⟩
  | succ f ih =>
    show (zft wh ta tb n f ∧ _) ↔ _
    rw [ih]
    constructor
    · rintro ⟨h1, h2⟩ k hk
      by_cases e : k = f
      · rw [e]; exact h2
      · exact h1 k (by omega)
    · intro h
      exact ⟨fun k hk => h k (by omega), h f (by omega)⟩
theorem b_rtl {ta tb : Nat → Int32} {f v : Nat} {i : Nat} (hi : i < 32) (hta : ∀ k, k < f → ∃ a, a < 8 ∧ ta k = nI a) : bt (rtl ta tb f v) i = true ↔ ∃ k, k < f ∧ tb k = nI v ∧ ta k = nI i := by
  unfold rtl
  rw [b_for (g := fun k => 1 <<< (ta k &&& 31)) (P := fun k => tb k = nI v) f i]
  constructor
  · rintro ⟨k, hk, h1, h2⟩
    obtain ⟨a, ha, e⟩ := hta k hk
    rw [e, b_one (by omega) hi] at h2
    have : i = a := by simpa using h2
    exact ⟨k, hk, h1, by rw [e, this]⟩
  · rintro ⟨k, hk, h1, h2⟩
    exact ⟨k, hk, h1, by rw [h2, b_one hi hi]; simp⟩
theorem e_fits {μ ν : ZMem} (h : R μ ν) : E2 mX3_fits mX4_fits 1 1 [.ref 0] μ ν := by
  obtain ⟨T, ns, np, n, u, f, hT, hD, hM, hF, hX, hK0, hK1, htr⟩ := id h
  obtain ⟨p1, p2, p3, p4, p5, p6, p7, p8, p9, p10, p11, p12⟩ := pM hM
  obtain ⟨f1, f2, f3, f4, f5⟩ := hF
  have h8 := hD.1.2.2
  have h30 := p1.2
  have hwh : ∀ k, k < n → ∃ w, w < 8 ∧ μ.1 12 k = nI w := fun k hk => by
    obtain ⟨w, hw, e⟩ := p10 k hk
    exact ⟨w, by omega, (p3 k hk).trans e⟩
  have hta : ∀ k, k < f → ∃ a, a < 8 ∧ ν.1 11 k = nI a := fun k hk => by
    obtain ⟨⟨a, ha, e⟩, -⟩ := f4 k hk
    exact ⟨a, by omega, e⟩
  have key : (zff (fun v => decide (¬ μ.1 32 v &&& (zah (μ.1 12) (nI v) 0 n 0 ^^^ -1) = 0)) 0 8 = -9) ↔ zft (ν.1 9) (ν.1 11) (ν.1 12) n f := by
    rw [zft_all]
    have ez : ∀ i, zfa (μ.1 12) n i = zfa (ν.1 9) n i := zfa_congr p3
    rcases zff_first (fun v => decide (¬ μ.1 32 v &&& (zah (μ.1 12) (nI v) 0 n 0 ^^^ -1) = 0)) 8 0 with ⟨e1, e2⟩ | ⟨v, -, hv, e1, e2, -⟩
    · rw [e1]
      refine ⟨fun _ k hk => ?_, fun _ => rfl⟩
      obtain ⟨⟨a, ha, ea⟩, b, hb, eb⟩ := f4 k hk
      have h1 := e2 b (by omega) (by omega)
      have h2 : μ.1 32 b &&& (zah (μ.1 12) (nI b) 0 n 0 ^^^ -1) = 0 := by simpa using h1
      have h3 := b_sub.mp h2 a (by omega) (by rw [f5 b (by omega)]; exact (b_rtl (by omega) hta).mpr ⟨k, hk, eb, ea⟩)
      rw [ea, eb, ← ez, ← ez]
      exact (zah_fa h30 (by omega) hwh).mp h3
    · rw [e1]
      refine ⟨fun q => absurd q (nI_ne9 (by omega)), fun q => ?_⟩
      exfalso
      have h1 : ¬ μ.1 32 v &&& (zah (μ.1 12) (nI v) 0 n 0 ^^^ -1) = 0 := by simpa using e2
      apply h1
      apply b_sub.mpr
      intro i hi hb
      rw [f5 v (by omega)] at hb
      obtain ⟨k, hk, eb, ea⟩ := (b_rtl hi hta).mp hb
      obtain ⟨a, ha, ea2⟩ := hta k hk
      have hia : i = a := (nI_eq (by omega) (by omega)).mp (ea.symm.trans ea2)
      have := q k hk
      rw [ea, eb, ← ez, ← ez] at this
      exact (zah_fa h30 (by omega) hwh).mpr this
  by_cases c : zft (ν.1 9) (ν.1 11) (ν.1 12) n f
  · exact E2.of (Sp.eq (spC_fits p1) (by rw [if_pos (key.mpr c)]) rfl) (spM_fits p2 f2 f3 (Or.inl ⟨c, rfl⟩)) h
  · exact E2.of (Sp.eq (spC_fits p1) (by rw [if_neg (fun q => c (key.mp q))]) rfl) (spM_fits p2 f2 f3 (Or.inr ⟨c, rfl⟩)) h
/-! what is reached: no round beyond the eighth adds -/
def cn (x : Int32) : Nat → Nat
  | 0 => 0
  | m + 1 => cn x m + (if bt x m = true then 1 else 0)
theorem cn_le (x : Int32) : ∀ m, cn x m ≤ m := by
  intro m
  induction m with
  | zero => exact Nat.le_refl _
  | succ m ih => show cn x m + _ ≤ _; split <;> omega
theorem cn_mono {x y : Int32} (h : ∀ i, i < 32 → bt x i = true → bt y i = true) : ∀ m, m ≤ 32 → cn x m ≤ cn y m ∧ ((∃ i, i < m ∧ ¬ bt x i = true ∧ bt y i = true) → cn x m < cn y m) := by
  intro m
  induction m with
  | zero => intro _; exact ⟨Nat.le_refl _, fun ⟨i, hi, _⟩ => by omega⟩
  | succ m ih =>
    intro hm
    obtain ⟨h1, h2⟩ := ih (by omega)
    have ex : cn x (m + 1) = cn x m + (if bt x m = true then 1 else 0) := rfl
    have ey : cn y (m + 1) = cn y m + (if bt y m = true then 1 else 0) := rfl
    rw [ex, ey]
    have h3 := h m (by omega)
    constructor
    · by_cases c : bt x m = true
      · rw [if_pos c, if_pos (h3 c)]; omega
      · rw [if_neg c]; omega
    · rintro ⟨i, hi, q1, q2⟩
      by_cases e : i = m
      · subst e; rw [if_neg q1, if_pos q2]; omega
      · have := h2 ⟨i, by omega, q1, q2⟩
        by_cases c : bt x m = true
        · rw [if_pos c, if_pos (h3 c)]; omega
        · rw [if_neg c]; omega
theorem zan_mono {sa : Int32} {an : Nat → Int32} {x y : Int32} {ns : Nat} (h8 : ns ≤ 8) (h : ∀ i, i < 32 → bt x i = true → bt y i = true) : ∀ i, i < 32 → bt (zan sa an x ns) i = true → bt (zan sa an y ns) i = true := by
  intro i hi q
  obtain ⟨q1, q2, q3⟩ := (b_zan h8 hi).mp q
  obtain ⟨j, hj, q4, q5⟩ := b_meet.mp q3
  exact (b_zan h8 hi).mpr ⟨q1, q2, b_meet.mpr ⟨j, hj, q4, h j hj q5⟩⟩
theorem zre_mono {sa : Int32} {an : Nat → Int32} {base : Int32} {ns : Nat} (h8 : ns ≤ 8) : ∀ k i, i < 32 → bt (zre sa an base ns k) i = true → bt (zre sa an base ns (k + 1)) i = true := by
  intro k
  induction k with
  | zero => intro i hi q; have : bt (0 : Int32) i = true := q; rw [b_0] at this; cases this
  | succ k ih =>
    intro i hi q
    refine zan_mono h8 (fun j hj w => ?_) i hi q
    rw [b_or, Bool.or_eq_true] at w ⊢
    exact w.imp id (ih j hj)
theorem zre_hi {sa : Int32} {an : Nat → Int32} {base : Int32} {ns : Nat} (h8 : ns ≤ 8) : ∀ k i, i < 32 → bt (zre sa an base ns k) i = true → i < ns := by
  intro k i hi q
  cases k with
  | zero => have : bt (0 : Int32) i = true := q; rw [b_0] at this; cases this
  | succ k => exact ((b_zan h8 hi).mp q).1
theorem zre_89 {sa : Int32} {an : Nat → Int32} {base : Int32} {ns : Nat} (h8 : ns ≤ 8) : zre sa an base ns 9 = zre sa an base ns 8 := by
  have key : ∀ m, (∃ k, k < m ∧ zre sa an base ns (k + 1) = zre sa an base ns k) ∨ m ≤ cn (zre sa an base ns m) 8 := by
    intro m
    induction m with
    | zero => exact Or.inr (Nat.zero_le _)
    | succ m ih =>
      rcases ih with ⟨k, hk, e⟩ | hc
      · exact Or.inl ⟨k, by omega, e⟩
      · by_cases e : zre sa an base ns (m + 1) = zre sa an base ns m
        · exact Or.inl ⟨m, by omega, e⟩
        · right
          have hm := zre_mono (sa := sa) (an := an) (base := base) h8 m
          have hex : ∃ i, i < 8 ∧ ¬ bt (zre sa an base ns m) i = true ∧ bt (zre sa an base ns (m + 1)) i = true := by
            apply Classical.byContradiction
            intro q
            apply e
            apply b_iff
            intro i hi
            constructor
            · intro w
              apply Classical.byContradiction
              intro w2
              have := zre_hi h8 (m + 1) i hi w
              exact q ⟨i, by omega, w2, w⟩
            · exact hm i hi
          have := (cn_mono hm 8 (by omega)).2 hex
          omega
  rcases key 9 with ⟨k, hk, e⟩ | hc
  · have s := zre_stay e
    have e9 := s (9 - k)
    have e8 := s (8 - k)
    rw [show k + (9 - k) = 9 by omega] at e9
    rw [show k + (8 - k) = 8 by omega] at e8
    rw [e9, e8]
  · have := cn_le (zre sa an base ns 9) 8
    omega
theorem e_began {μ ν : ZMem} (h : R μ ν) (i : Int32) : E2 mX3_began mX4_began 6 4 [.ref 0, .int i] μ ν := by
  obtain ⟨T, ns, np, n, u, f, ⟨rfl, hT⟩, hD, hM, hF, hX, hK0, hK1, htr⟩ := id h
  obtain ⟨d1, d2, d3, d4, d5, d6, d7, d8, d9, d10, d11, d12, d13⟩ := id hD
  have h8 := d1.2.2
  have hpw := zpow_le ns (by omega)
  rcases zin_cases (2 ^ ns) (by omega) i with hw | ⟨s, hs, rfl⟩
  · exact E2.of (spC_began_bad d1 hw) (spM_began_bad d3 hw) h
  · refine E2.of (spC_began d1 hs) (Sp.eq (spM_began d3 d4 hs) ?_ rfl) h
    rw [d6, d7]
    unfold zbg zbgM
    refine congrArg (fun z => some (Value.int z)) (zfold_congr (fun k hk x => ?_))
    rw [zre_89 h8, zre_congr d9 8]
theorem zso_eq {sa sn : Int32} {an an' : Nat → Int32} {ns : Nat} {th set : Int32} (h8 : ns ≤ 8) (ha : ∀ k, k < ns → an k = an' k) : ∀ m, m ≤ 256 → zso sa sn an ns th set m = zsoM sa sn an' ns th set m ∧ (zso sa sn an ns th set m = -9 ∨ ∃ k, k < m ∧ zso sa sn an ns th set m = nI k) := by
  intro m
  induction m with
  | zero => intro _; exact ⟨rfl, Or.inl rfl⟩
  | succ m ih =>
    intro hm
    obtain ⟨e, hc⟩ := ih (by omega)
    have e1 : zso sa sn an ns th set (m + 1) = if nI m &&& (sn ^^^ -1) = 0 ∧ ((set &&& (sn ^^^ -1)) &&& (zre sa an (th ||| nI m) ns 8 ^^^ -1) = 0) ∧ (zso sa sn an ns th set m = -9 ∨ zbc (nI m) < zbc (zso sa sn an ns th set m)) then nI m else zso sa sn an ns th set m := rfl
    have e2 : zsoM sa sn an' ns th set (m + 1) = if (nI m &&& (sn ^^^ (-1 : Int32)) = 0 ∧ (zsoM sa sn an' ns th set m = -9 ∨ zmany (nI m) < zmany (zsoM sa sn an' ns th set m))) ∧ (set &&& (sn ^^^ (-1 : Int32))) &&& (zre sa an' (th ||| nI m) ns 9 ^^^ (-1 : Int32)) = 0 then nI m else zsoM sa sn an' ns th set m := rfl
    rw [e1, e2, ← e, zre_89 h8, zre_congr ha 8]
    have hcmp : (zso sa sn an ns th set m = -9 ∨ zbc (nI m) < zbc (zso sa sn an ns th set m)) ↔ (zso sa sn an ns th set m = -9 ∨ zmany (nI m) < zmany (zso sa sn an ns th set m)) := by
      rcases hc with hc | ⟨k, hk, hc⟩
      · exact ⟨fun _ => Or.inl hc, fun _ => Or.inl hc⟩
      · rw [hc, zbc_many m (by omega), zbc_many k (by omega)]
    constructor
    · by_cases c1 : nI m &&& (sn ^^^ -1) = 0 ∧ ((set &&& (sn ^^^ -1)) &&& (zre sa an' (th ||| nI m) ns 8 ^^^ -1) = 0) ∧ (zso sa sn an ns th set m = -9 ∨ zbc (nI m) < zbc (zso sa sn an ns th set m))
      · rw [if_pos c1, if_pos ⟨⟨c1.1, hcmp.mp c1.2.2⟩, c1.2.1⟩]
      · rw [if_neg c1, if_neg (fun q => c1 ⟨q.1.1, q.2, hcmp.mpr q.1.2⟩)]
    · split
      · exact Or.inr ⟨m, by omega, rfl⟩
      · exact hc.imp id (fun ⟨k, hk, q⟩ => ⟨k, by omega, q⟩)
theorem e_sounds {μ ν : ZMem} (h : R μ ν) (i : Int32) : E2 mX3_sounds mX4_sounds 5 4 [.ref 0, .int i] μ ν := by
  obtain ⟨T, ns, np, n, u, f, ⟨rfl, hT⟩, hD, hM, hF, hX, hK0, hK1, htr⟩ := id h
  obtain ⟨p1, p2, p3, p4, p5, p6, p7, p8, p9, p10, p11, p12⟩ := pM hM
  obtain ⟨d1, d2, d3, d4, d5, d6, d7, d8, d9, d10, d11, d12, d13⟩ := id hD
  have h8 := d1.2.2
  have hpw := zpow_le ns (by omega)
  rcases zin_cases (2 ^ ns) (by omega) i with hw | ⟨s, hs, rfl⟩
  · exact E2.of (spC_sounds_bad d1 hw) (spM_sounds_bad d3 hw) h
  · refine E2.of (spC_sounds d1 p1 hs) (Sp.eq (spM_sounds d3 d4 p2 hs) ?_ rfl) h
    rw [d6, d7, p11, d5, Int32.add_zero, zthere_congr p3 p4, (zso_eq h8 d9 (2 ^ ns) (by omega)).1]

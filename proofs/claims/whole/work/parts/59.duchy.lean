/-! ===== same answers: duchy ===== -/
/-- two readings that differ in what lies beyond what is told -/
def drel (δ δ' : ZD) : Prop := δ.1 = δ'.1 ∧ δ.2.1 = δ'.2.1 ∧ δ.2.2.1 = δ'.2.2.1 ∧ δ.2.2.2.1 = δ'.2.2.2.1 ∧ δ.2.2.2.2.1 = δ'.2.2.2.2.1 ∧ (∀ k, k < δ.1 → δ.2.2.2.2.2.1 k = δ'.2.2.2.2.2.1 k) ∧ (∀ k, k < δ.1 → δ.2.2.2.2.2.2.1 k = δ'.2.2.2.2.2.2.1 k) ∧ (∀ k, k < δ.2.1 → δ.2.2.2.2.2.2.2 k = δ'.2.2.2.2.2.2.2 k)
theorem drel_take {δ δ' : ZD} (h : drel δ δ') (L num : Nat) (b : Int32) : drel (ztake δ L num b) (ztake δ' L num b) := by
  obtain ⟨h1, h2, h3, h4, h5, h6, h7, h8⟩ := h
  unfold ztake
  by_cases c1 : L = 111
  · rw [if_pos c1, if_pos c1]
    exact ⟨h1, h2, rfl, rfl, h5, h6, h7, h8⟩
  · rw [if_neg c1, if_neg c1]
    by_cases c2 : L = 112
    · rw [if_pos c2, if_pos c2]
      refine ⟨h1, by dsimp only; rw [h2], h3, h4, h5, h6, h7, fun k hk => ?_⟩
      dsimp only at hk ⊢
      rw [upd_if, upd_if, ← h2]
      by_cases e : k = δ.2.1
      · rw [if_pos e, if_pos e]
      · rw [if_neg e, if_neg e]; exact h8 k (by omega)
    · rw [if_neg c2, if_neg c2]
      refine ⟨by dsimp only; rw [h1], h2, h3, h4, by dsimp only; rw [h5, h1], fun k hk => ?_, fun k hk => ?_, h8⟩
      · dsimp only at hk ⊢
        rw [upd_if, upd_if, ← h1]
        by_cases e : k = δ.1
        · rw [if_pos e, if_pos e]
        · rw [if_neg e, if_neg e]; exact h6 k (by omega)
      · dsimp only at hk ⊢
        rw [upd_if, upd_if, ← h1]
        by_cases e : k = δ.1
        · rw [if_pos e, if_pos e]
        · rw [if_neg e, if_neg e]; exact h7 k (by omega)
def orel (a b : Option ZD) : Prop := match a, b with
  | none, none => True
  | some δ, some δ' => drel δ δ'
  | _, _ => False
theorem orel_map {δ δ' : ZD} (h : drel δ δ') (L num : Nat) (o : Option Int32) : orel (o.map (ztake δ L num)) (o.map (ztake δ' L num)) := by
  cases o with
  | none => trivial
  | some b => exact drel_take h L num b
theorem zit_rel {x : Nat → Nat} {t : Nat} {δ δ' : ZD} (h : drel δ δ') (T0 : ZTok) : orel (zit x t δ T0).1 (zit x t δ' T0).1 ∧ (zit x t δ T0).2 = (zit x t δ' T0).2 := by
  have hroom : zroomP δ (zlet0 T0) ↔ zroomP δ' (zlet0 T0) := by
    unfold zroomP
    rw [h.1, h.2.1, h.2.2.2.1]
  unfold zit
  by_cases c1 : zroomP δ (zlet0 T0)
  · have c1' : ¬ ¬ zroomP δ (zlet0 T0) := fun q => q c1
    have c1'' : ¬ ¬ zroomP δ' (zlet0 T0) := fun q => q (hroom.mp c1)
    rw [if_neg c1', if_neg c1'']
    by_cases c2 : zlet0 T0 = 112
    · rw [if_pos c2, if_pos c2]; exact ⟨orel_map h _ _ _, rfl⟩
    · rw [if_neg c2, if_neg c2]
      by_cases c3 : ¬ ((ztk x t T0.2.2.1).1 = 2 ∧ (if zlet0 T0 = 111 then 1 else 0) ≤ (ztk x t T0.2.2.1).2.2.2 ∧ (ztk x t T0.2.2.1).2.2.2 ≤ 9)
      · rw [if_pos c3, if_pos c3]; exact ⟨trivial, rfl⟩
      · rw [if_neg c3, if_neg c3]; exact ⟨orel_map h _ _ _, rfl⟩
  · have c1'' : ¬ zroomP δ' (zlet0 T0) := fun q => c1 (hroom.mpr q)
    rw [if_pos c1, if_pos c1'']; exact ⟨trivial, rfl⟩
theorem zits_rel {x : Nat → Nat} {t : Nat} : ∀ m n δ δ' T0, drel δ δ' → orel (zits x t m n δ T0).1 (zits x t m n δ' T0).1 ∧ (zits x t m n δ T0).2 = (zits x t m n δ' T0).2 := by
  intro m
  induction m with
  | zero =>
    intro n δ δ' T0 h
    show orel (if T0.1 = 0 then (some δ, n) else (none, T0.2.1)).1 (if T0.1 = 0 then (some δ', n) else (none, T0.2.1)).1 ∧ _
    unfold zits
    by_cases c : T0.1 = 0
    · rw [if_pos c, if_pos c]; exact ⟨h, rfl⟩
    · rw [if_neg c, if_neg c]; exact ⟨trivial, rfl⟩
  | succ m ih =>
    intro n δ δ' T0 h
    unfold zits
    by_cases c : T0.1 = 0
    · rw [if_pos c, if_pos c]; exact ⟨h, rfl⟩
    · rw [if_neg c, if_neg c]
      obtain ⟨h1, h2⟩ := zit_rel (x := x) (t := t) h T0
      cases hz : zit x t δ T0 with
      | mk o T =>
        cases hz' : zit x t δ' T0 with
        | mk o' T' =>
          rw [hz, hz'] at h1 h2
          have h2' : T = T' := h2
          subst h2'
          cases o with
          | none =>
            cases o' with
            | none => exact ⟨trivial, rfl⟩
            | some d' => exact absurd h1 (fun q => q)
          | some d =>
            cases o' with
            | none => exact absurd h1 (fun q => q)
            | some d' => exact ih (n + 1) d d' _ h1
/-- how many items, and that sounds are sayings -/
theorem zits_inv {x : Nat → Nat} {t : Nat} : ∀ m n δ T0 δ' n', (∀ i, δ.1 ≤ i → i < 32 → bt δ.2.2.2.2.1 i = false) → δ.1 ≤ 8 → δ.2.1 ≤ 5 → δ.2.2.2.1 ≤ 1 → zits x t m n δ T0 = (some δ', n') → n' ≤ n + m ∧ ∀ i, δ'.1 ≤ i → i < 32 → bt δ'.2.2.2.2.1 i = false := by
  intro m
  induction m with
  | zero =>
    intro n δ T0 δ' n' hi _ _ _ h
    unfold zits at h
    by_cases c : T0.1 = 0
    · rw [if_pos c] at h; cases h; exact ⟨by omega, hi⟩
    · rw [if_neg c] at h; cases h
  | succ m ih =>
    intro n δ T0 δ' n' hi b1 b2 b3 h
    unfold zits at h
    by_cases c : T0.1 = 0
    · rw [if_pos c] at h; cases h; exact ⟨by omega, hi⟩
    · rw [if_neg c] at h
      cases hz : zit x t δ T0 with
      | mk o T =>
        rw [hz] at h
        cases o with
        | none => cases h
        | some d =>
          obtain ⟨L, num, b, hr, rfl⟩ := zit_some hz
          obtain ⟨q1, q2, q3, q4⟩ := ztake_le (num := num) (b := b) hr b1 b2 b3
          have := ih (n + 1) _ _ δ' n' ?_ q1 q2 q3 h
          · exact ⟨by omega, this.2⟩
          · unfold ztake
            by_cases c1 : L = 111
            · rw [if_pos c1]; exact hi
            · rw [if_neg c1]
              by_cases c2 : L = 112
              · rw [if_pos c2]; exact hi
              · rw [if_neg c2]
                have hs8 : δ.1 < 8 := by rcases hr with hr | hr | hr <;> omega
                intro i h1 h2
                dsimp only at h1 ⊢
                rw [b_or, hi i (by omega) h2]
                by_cases c3 : L = 122
                · rw [if_pos c3, b_one (by omega) h2]
                  simp
                  omega
                · rw [if_neg c3, b_0]; rfl
theorem b_th : ∀ ns, ns < 9 → ∀ i, i < 32 → bt (1 <<< (nI ns &&& 31) - 1) i = decide (i < ns) := by decide +kernel
theorem rD_congr2 {μ ν μ' ν' : ZMem} {T ns np : Nat} (h : rD μ ν T ns np) (h1 : ∀ i, T ≤ i → i ≤ T + 3 → μ'.1 i = μ.1 i) (e2 : ν'.1 2 0 = ν.1 2 0) (e5 : ν'.1 5 0 = ν.1 5 0) (e6 : ν'.1 6 0 = ν.1 6 0) (e8 : ν'.1 8 0 = ν.1 8 0) (h3 : ∀ k, k < 8 → ν'.1 3 k = ν.1 3 k) (h4 : ∀ k, k < 8 → ν'.1 4 k = ν.1 4 k) (h7 : ∀ k, k < 5 → ν'.1 7 k = ν.1 7 k) : rD μ' ν' T ns np := by
  obtain ⟨d1, d2, d3, d4, d5, d6, d7, d8, d9, d10, d11, d12, d13⟩ := h
  have n8 := d1.2.2
  have n5 := d2.2.2
  have t0 := h1 T (by omega) (by omega)
  have t1 := h1 (T + 1) (by omega) (by omega)
  have t2 := h1 (T + 2) (by omega) (by omega)
  have t3 := h1 (T + 3) (by omega) (by omega)
  refine ⟨⟨d1.1, by rw [t0]; exact d1.2.1, n8⟩, ⟨d2.1, by rw [t0]; exact d2.2.1, n5⟩, ⟨by rw [e2]; exact d3.1, n8⟩, ⟨by rw [e6]; exact d4.1, n5⟩, by rw [t0, e8]; exact d5, by rw [t0, e5]; exact d6, ?_, fun k hk => by rw [t1, h3 k (by omega)]; exact d8 k hk, fun k hk => by rw [t2, h4 k (by omega)]; exact d9 k hk, fun k hk => by rw [t3, h7 k (by omega)]; exact d10 k hk, by rw [e5]; exact d11, fun k hk => by rw [h4 k (by omega)]; exact d12 k hk, fun k hk => by rw [h7 k (by omega)]; exact d13 k hk⟩
  rw [t0, e5, d7]
  unfold zsay
  refine zfold_congr (fun k hk x => ?_)
  have : zkn (ν.1 7) (nI k) np = zkn (ν'.1 7) (nI k) np := zfold_congr (fun p hp y => by rw [h7 p (by omega)])
  rw [this]
theorem R_bad {μ ν : ZMem} {DS : Nat} (hDS : DS = 3 ∨ DS = 7) (h : R μ ν) (hsp : μ.2.2 0 2 = DS) (δ δ' : ZD) (a b c d : Int32) (σ : ZS) : R (zT (zDr μ DS δ) a b c d) (zM (zDm ν δ') σ) := by
  obtain ⟨T, ns, np, n, u, f, hT, hD, hM, hF, hX, hK0, hK1, htr⟩ := h
  have hTD : (T = 3 ∧ DS = 7) ∨ (T = 7 ∧ DS = 3) := by
    rcases hT.2 with ⟨q1, q2⟩ | ⟨q1, q2⟩
    · left; exact ⟨q1, by rw [← hsp, q2]⟩
    · right; exact ⟨q1, by rw [← hsp, q2]⟩
  generalize hμ : zT (zDr μ DS δ) a b c d = M
  generalize hν : zM (zDm ν δ') σ = V
  have m0 : ∀ i, i ≠ 1 → i ≠ DS → i ≠ DS + 1 → i ≠ DS + 2 → i ≠ DS + 3 → M.1 i = μ.1 i := by
    intro i h1 h2 h3 h4 h5
    rw [← hμ]
    funext j
    simp only [zT, zDq]
    rw [if_neg h1, if_neg h2, if_neg h3, if_neg h4, if_neg h5]
  have m1 : M.1 1 1 = μ.1 1 1 := by rw [← hμ]; rcases hDS with rfl | rfl <;> rfl
  have m2 : M.2 = μ.2 := by rw [← hμ]; rfl
  have v2 : V.2 = ν.2 := by rw [← hν]; rfl
  have vr : ∀ i, i ≠ 0 → i ≠ 2 → i ≠ 6 → i ≠ 8 → i ≠ 5 → i ≠ 3 → i ≠ 4 → i ≠ 7 → V.1 i = ν.1 i := by
    intro i h0 h2 h6 h8 h5 h3 h4 h7
    rw [← hν]
    funext j
    simp only [zM, zTm, zDm, zDp]
    rw [if_neg h0, if_neg h0, if_neg h2, if_neg h6, if_neg h8, if_neg h5, if_neg h3, if_neg h4, if_neg h7]
  refine ⟨T, ns, np, n, u, f, ?_, rD_congr2 hD (fun i q1 q2 => m0 i (by omega) (by omega) (by omega) (by omega) (by omega)) (by rw [← hν]; rfl) (by rw [← hν]; rfl) (by rw [← hν]; rfl) (by rw [← hν]; rfl) (fun k hk => ?_) (fun k hk => ?_) (fun k hk => ?_), rM_congr hM (fun j _ _ => by rw [m0 11 (by omega) (by omega) (by omega) (by omega) (by omega)]) (fun i q1 q2 k _ => by rw [m0 (11 + i) (by omega) (by omega) (by omega) (by omega) (by omega)]) (fun j _ => by rw [vr 9 (by omega) (by omega) (by omega) (by omega) (by omega) (by omega) (by omega) (by omega)]), rF_congr hF (by rw [m0 0 (by omega) (by omega) (by omega) (by omega) (by omega)]) (fun v _ => by rw [m0 32 (by omega) (by omega) (by omega) (by omega) (by omega)]) (by rw [← hν]; rfl) (vr 11 (by omega) (by omega) (by omega) (by omega) (by omega) (by omega) (by omega) (by omega)) (vr 12 (by omega) (by omega) (by omega) (by omega) (by omega) (by omega) (by omega) (by omega)), rX_congr hX m1 (m0 2 (by omega) (by omega) (by omega) (by omega) (by omega)) (by rw [← hν]; rfl) (vr 1 (by omega) (by omega) (by omega) (by omega) (by omega) (by omega) (by omega) (by omega)), rK_congr hK0 (fun j _ _ => by rw [m0 18 (by omega) (by omega) (by omega) (by omega) (by omega)]) (fun i q1 q2 => m0 (18 + i) (by omega) (by omega) (by omega) (by omega) (by omega)) (fun j _ => by rw [vr 9 (by omega) (by omega) (by omega) (by omega) (by omega) (by omega) (by omega) (by omega)]) (by rw [vr 10 (by omega) (by omega) (by omega) (by omega) (by omega) (by omega) (by omega) (by omega)]), rK_congr hK1 (fun j _ _ => by rw [m0 25 (by omega) (by omega) (by omega) (by omega) (by omega)]) (fun i q1 q2 => m0 (25 + i) (by omega) (by omega) (by omega) (by omega) (by omega)) (fun j _ => by rw [vr 9 (by omega) (by omega) (by omega) (by omega) (by omega) (by omega) (by omega) (by omega)]) (by rw [vr 10 (by omega) (by omega) (by omega) (by omega) (by omega) (by omega) (by omega) (by omega)]), ?_⟩
  · unfold rT at *
    rw [m2]; exact hT
  · rw [← hν]
    show (if 8 ≤ k then _ else ν.1 3 k) = ν.1 3 k
    rw [if_neg (by omega)]
  · rw [← hν]
    show (if 8 ≤ k then _ else ν.1 4 k) = ν.1 4 k
    rw [if_neg (by omega)]
  · rw [← hν]
    show (if 5 ≤ k then _ else ν.1 7 k) = ν.1 7 k
    rw [if_neg (by omega)]
  · rw [m2, v2]; exact htr
theorem R_ok {μ ν : ZMem} {DS : Nat} (hDS : DS = 3 ∨ DS = 7) (h : R μ ν) (hsp : μ.2.2 0 2 = DS) {δ δ' : ZD} (hr : drel δ δ') (h8 : δ.1 ≤ 8) (h5 : δ.2.1 ≤ 5) (hsn : ∀ i, δ.1 ≤ i → i < 32 → bt δ.2.2.2.2.1 i = false) (a b c d : Int32) (σ : ZS) : R (zdu2 μ (zset μ DS δ a b c d)) (zI (ztd (zM (zDm ν δ') σ)) 0 2 0) := by
  obtain ⟨T, ns, np, n, u, f, hT, hD, hM, hF, ⟨x, t, hx1, hx2⟩, hK0, hK1, htr⟩ := h
  obtain ⟨r1, r2, r3, r4, r5, r6, r7, r8⟩ := hr
  have hTD : (T = 3 ∧ DS = 7) ∨ (T = 7 ∧ DS = 3) := by
    rcases hT.2 with ⟨q1, q2⟩ | ⟨q1, q2⟩
    · left; exact ⟨q1, by rw [← hsp, q2]⟩
    · right; exact ⟨q1, by rw [← hsp, q2]⟩
  generalize hth : (1 : Int32) <<< (nI δ.1 &&& 31) - 1 = th
  have bth : ∀ i, i < 32 → bt th i = decide (i < δ.1) := by rw [← hth]; exact b_th δ.1 (by omega)
  generalize hμ : zdu2 μ (zset μ DS δ a b c d) = M
  generalize hν : zI (ztd (zM (zDm ν δ') σ)) 0 2 0 = V
  have eth : (1 : Int32) <<< (nI δ'.1 &&& 31) - 1 = th := by rw [← r1]; exact hth
  have m3 : M.1 DS 3 = nI δ.1 := by rw [← hμ]; rcases hDS with rfl | rfl <;> rfl
  have m4 : M.1 DS 4 = nI δ.2.1 := by rw [← hμ]; rcases hDS with rfl | rfl <;> rfl
  have m5 : M.1 DS 5 = nI δ.2.2.1 := by rw [← hμ]; rcases hDS with rfl | rfl <;> rfl
  have m7 : M.1 DS 7 = δ.2.2.2.2.1 := by rw [← hμ]; rcases hDS with rfl | rfl <;> rfl
  have m8 : M.1 DS 8 = zfold (fun p x => x ||| (δ.2.2.2.2.2.2.2 p &&& th)) 0 δ.2.1 &&& (δ.2.2.2.2.1 ^^^ -1) := by rw [← hμ, ← hth]; rcases hDS with rfl | rfl <;> rfl
  have mw : M.1 (DS + 1) = δ.2.2.2.2.2.1 := by rw [← hμ]; rcases hDS with rfl | rfl <;> rfl
  have ma : M.1 (DS + 2) = zms δ.2.2.2.2.2.2.1 th δ.1 := by rw [← hμ, ← hth]; rcases hDS with rfl | rfl <;> rfl
  have mk : M.1 (DS + 3) = zms δ.2.2.2.2.2.2.2 th δ.2.1 := by rw [← hμ, ← hth]; rcases hDS with rfl | rfl <;> rfl
  have v2 : V.1 2 0 = nI δ'.1 := by rw [← hν]; rfl
  have v6 : V.1 6 0 = nI δ'.2.1 := by rw [← hν]; rfl
  have v8 : V.1 8 0 = nI δ'.2.2.1 := by rw [← hν]; rfl
  have v5 : V.1 5 0 = δ'.2.2.2.2.1 := by rw [← hν]; rfl
  have v3 : ∀ k, k < 8 → V.1 3 k = δ'.2.2.2.2.2.1 k := by
    intro k hk; rw [← hν]
    show (if k < 8 then (if 8 ≤ 8 + k then δ'.2.2.2.2.2.1 (8 + k - 8) else ν.1 3 (8 + k)) else _) = _
    rw [if_pos hk, if_pos (by omega), show 8 + k - 8 = k by omega]
  have v4 : ∀ k, k < 8 → V.1 4 k = δ'.2.2.2.2.2.2.1 k &&& th := by
    intro k hk; rw [← hν, ← eth]
    show (if k < 8 then (if 8 ≤ 8 + k then δ'.2.2.2.2.2.2.1 (8 + k - 8) else ν.1 4 (8 + k)) &&& _ else _) = _
    rw [if_pos hk, if_pos (by omega), show 8 + k - 8 = k by omega]
    rfl
  have v7 : ∀ k, k < 5 → V.1 7 k = δ'.2.2.2.2.2.2.2 k &&& th := by
    intro k hk; rw [← hν, ← eth]
    show (if k < 5 then (if 5 ≤ 5 + k then δ'.2.2.2.2.2.2.2 (5 + k - 5) else ν.1 7 (5 + k)) &&& _ else _) = _
    rw [if_pos hk, if_pos (by omega), show 5 + k - 5 = k by omega]
    rfl
  have hmask : ∀ y : Int32, ∃ K, K < 2 ^ δ.1 ∧ y &&& th = nI K := fun y => b_lt (by omega) (fun i h1 h2 => by rw [b_and, bth i h2, decide_eq_false (by omega), Bool.and_false])
  refine ⟨DS, δ.1, δ.2.1, 0, 0, 0, ?_, ?_, ?_, ?_, ?_, ?_, ?_, ?_⟩
  · refine ⟨?_, ?_⟩
    · rw [← hμ]; exact hsp
    · rw [← hμ]
      show (DS = 3 ∧ μ.2.2 0 1 = 7) ∨ (DS = 7 ∧ μ.2.2 0 1 = 3)
      rw [hT.1]; omega
  · refine ⟨⟨hDS, m3, h8⟩, ⟨hDS, m4, h5⟩, ⟨v2.trans (by rw [r1]), h8⟩, ⟨v6.trans (by rw [r2]), h5⟩, by rw [m5, v8, r3], by rw [m7, v5, r5], ?_, fun k hk => by rw [mw, v3 k (by omega)]; exact r6 k hk, fun k hk => ?_, fun k hk => ?_, ?_, fun k hk => ?_, fun k hk => ?_⟩
    · rw [m8]
      apply b_iff
      intro i hi
      rw [b_zsay h5 h8 hi, b_and, Bool.and_eq_true, b_xor, b_m1 i hi, v5, ← r5]
      have e : zfold (fun p x => x ||| (δ.2.2.2.2.2.2.2 p &&& th)) 0 δ.2.1 = zfold (fun k a => if (fun _ => True) k then a ||| (δ.2.2.2.2.2.2.2 k &&& th) else a) 0 δ.2.1 := zfold_congr (fun k _ x => (if_pos trivial).symm)
      rw [e, b_for (g := fun k => δ.2.2.2.2.2.2.2 k &&& th) (P := fun _ => True) _ i]
      constructor
      · rintro ⟨⟨p, hp, -, q⟩, q2⟩
        rw [b_and, bth i hi, Bool.and_eq_true] at q
        have hin : i < δ.1 := by simpa using q.2
        refine ⟨hin, by simpa using q2, p, hp, ?_⟩
        rw [v7 p (by omega), b_and, bth i hi, ← r8 p hp, q.1, decide_eq_true hin]
        rfl
      · rintro ⟨hin, hns, p, hp, q⟩
        rw [v7 p (by omega), b_and, bth i hi, ← r8 p hp, Bool.and_eq_true] at q
        refine ⟨⟨p, hp, trivial, ?_⟩, by simpa using hns⟩
        rw [b_and, bth i hi, q.1, decide_eq_true hin]
        rfl
    · rw [ma, v4 k (by omega), ← r7 k hk]
      unfold zms
      rw [if_pos hk]
    · rw [mk, v7 k (by omega), ← r8 k hk]
      unfold zms
      rw [if_pos hk]
    · obtain ⟨S, hS, e⟩ := b_lt (x := δ.2.2.2.2.1) (m := δ.1) (by omega) hsn
      exact ⟨S, hS, by rw [v5, ← r5]; exact e⟩
    · rw [v4 k (by omega)]; exact hmask _
    · rw [v7 k (by omega)]; exact hmask _
  · refine rP_to ⟨⟨?_, ?_, by omega⟩, ⟨?_, ?_, by omega⟩, fun k hk => by omega, fun k hk => by omega, fun k hk => by omega, fun k hk => by omega, 0, 0, by omega, ?_, ?_, ?_, by omega, fun _ => 0, fun _ => 0, rfl, rfl, fun i hi => by omega⟩
    · rw [← hμ]; rfl
    · rw [← hν]; rfl
    · rw [← hμ]; rfl
    · rw [← hν]; rfl
    · rw [← hμ]; rfl
    · rw [← hν]; rfl
    · rw [← hμ]; rfl
  · refine ⟨by rw [← hμ]; rfl, by rw [← hν]; rfl, by omega, fun k hk => by omega, fun v hv => ?_⟩
    rw [← hμ]
    show (if 32 = 32 ∧ v < 8 then 0 else _) = (0 : Int32)
    rw [if_pos ⟨rfl, hv⟩]
  · exact ⟨x, 0, ⟨by rw [← hμ]; rfl, by omega, fun k hk => by omega⟩, ⟨by rw [← hν]; rfl, by omega, fun k hk => by omega⟩⟩
  · exact Or.inl ⟨by rw [← hμ]; rfl, by rw [← hν]; rfl⟩
  · exact Or.inl ⟨by rw [← hμ]; rfl, by rw [← hν]; rfl⟩
  · rw [← hμ, ← hν]; exact htr
theorem e_duchy {μ ν : ZMem} (h : R μ ν) : E2 mX3_duchy mX4_duchy 6 5 [.ref 0] μ ν := by
  obtain ⟨T, ns, np, n, u, f, hT, hD, hM, hF, ⟨x, t, hx1, hx2⟩, hK0, hK1, htr⟩ := id h
  have main : ∀ DS, (DS = 3 ∨ DS = 7) → μ.2.2 0 2 = DS → (∀ {Qs : Option Value → ZMem → Prop}
    (_ : ∀ δ n, zits x t 14 0 (zd0 (μ.1 (DS + 1)) (μ.1 (DS + 2)) (μ.1 (DS + 3))) (ztk x t 0) = (some δ, n) → δ.1 ≤ 8 → δ.2.1 ≤ 5 → ∀ a b c d, Qs (some (.int (nI n))) (zdu2 μ (zset μ DS δ a b c d)))
    (_ : ∀ f, zits x t 14 0 (zd0 (μ.1 (DS + 1)) (μ.1 (DS + 2)) (μ.1 (DS + 3))) (ztk x t 0) = (none, f) → f ≤ 200 → ∀ δ a b c d, Qs (some (.int (-10 - nI f))) (zT (zDr μ DS δ) a b c d))
    (_ : ∀ δ n, zits x t 14 0 (zd0 (μ.1 (DS + 1)) (μ.1 (DS + 2)) (μ.1 (DS + 3))) (ztk x t 0) = (some δ, n) → n < 2 ^ 31),
    Spec layC mX3_duchy 6 [.ref 0] μ Qs) → E2 mX3_duchy mX4_duchy 6 5 [.ref 0] μ ν := by
    intro DS hDS hsp hC
    have hrel0 : drel (zd0 (μ.1 (DS + 1)) (μ.1 (DS + 2)) (μ.1 (DS + 3))) (zdM0 ν) := ⟨rfl, rfl, rfl, rfl, rfl, fun k hk => absurd hk (Nat.not_lt_zero k), fun k hk => absurd hk (Nat.not_lt_zero k), fun k hk => absurd hk (Nat.not_lt_zero k)⟩
    have hrel := zits_rel (x := x) (t := t) 14 0 _ _ (ztk x t 0) hrel0
    have hM := @spM_duchy ν x t hx2
    have hinv : ∀ δ' n', zits x t 14 0 (zd0 (μ.1 (DS + 1)) (μ.1 (DS + 2)) (μ.1 (DS + 3))) (ztk x t 0) = (some δ', n') → n' ≤ 0 + 14 ∧ ∀ i, δ'.1 ≤ i → i < 32 → bt δ'.2.2.2.2.1 i = false := fun δ' n' e => zits_inv 14 0 _ _ δ' n' (fun i _ _ => b_0 i) (show (0 : Nat) ≤ 8 by omega) (show (0 : Nat) ≤ 5 by omega) (show (0 : Nat) ≤ 1 by omega) e
    cases hz : zits x t 14 0 (zd0 (μ.1 (DS + 1)) (μ.1 (DS + 2)) (μ.1 (DS + 3))) (ztk x t 0) with
    | mk o N =>
      cases hz' : zits x t 14 0 (zdM0 ν) (ztk x t 0) with
      | mk o' N' =>
        rw [hz, hz'] at hrel
        obtain ⟨ho, hN⟩ := hrel
        have hN2 : N = N' := hN
        subst hN2
        cases o with
        | none =>
          cases o' with
          | some d' => exact absurd ho (fun q => q)
          | none =>
            refine ⟨-10 - nI N, fun m => ∃ δ a b c d, m = zT (zDr μ DS δ) a b c d, fun m => ∃ δ σ, m = zM (zDm ν δ) σ, hC (fun δ n e => ?_) (fun f e hf δ a b c d => ?_) (fun δ n e => ?_), hM (fun δ n e => ?_) (fun f e hf δ σ => ?_), ?_⟩
            · rw [hz] at e; cases e
            · rw [hz] at e; cases e; exact ⟨rfl, δ, a, b, c, d, rfl⟩
            · rw [hz] at e; cases e
            · rw [hz'] at e; cases e
            · rw [hz'] at e; cases e; exact ⟨rfl, δ, σ, rfl⟩
            · rintro μ' ν' ⟨δ, a, b, c, d, rfl⟩ ⟨δ', σ, rfl⟩
              exact R_bad hDS h hsp δ δ' a b c d σ
        | some dd =>
          cases o' with
          | none => exact absurd ho (fun q => q)
          | some d' =>
            have hi := hinv dd N hz
            refine ⟨nI N, fun m => dd.1 ≤ 8 ∧ dd.2.1 ≤ 5 ∧ ∃ a b c d, m = zdu2 μ (zset μ DS dd a b c d), fun m => ∃ σ, m = zI (ztd (zM (zDm ν d') σ)) 0 2 0, hC (fun δ n e q1 q2 a b c d => ?_) (fun f e => ?_) (fun δ n e => ?_), hM (fun δ n e q1 q2 σ => ?_) (fun f e => ?_), ?_⟩
            · rw [hz] at e; cases e; exact ⟨rfl, q1, q2, a, b, c, d, rfl⟩
            · rw [hz] at e; cases e
            · have := (hinv δ n e).1; omega
            · rw [hz'] at e; cases e; exact ⟨rfl, σ, rfl⟩
            · rw [hz'] at e; cases e
            · rintro μ' ν' ⟨q1, q2, a, b, c, d, rfl⟩ ⟨σ, rfl⟩
              exact R_ok hDS h hsp ho q1 q2 hi.2 a b c d σ
  rcases hT.2 with ⟨q1, q2⟩ | ⟨q1, q2⟩
  · exact main 7 (Or.inr rfl) q2 (fun h1 h2 h3 => spC_duchy_d7 hx1 q2 h1 h2 h3)
  · exact main 3 (Or.inl rfl) q2 (fun h1 h2 h3 => spC_duchy_d3 hx1 q2 h1 h2 h3)

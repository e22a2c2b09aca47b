theorem upd_if (g : Nat → Int32) (k : Nat) (v : Int32) (j : Nat) : upd g k v j = if j = k then v else g j := rfl
theorem R_mv {μ ν μ' ν' : ZMem} {T ns np n u f n' u' : Nat} (hT : rT μ T) (hD : rD μ ν T ns np) (hF : rF μ ν ns f) (hX : rX μ ν) (hK0 : rK μ ν 18 147 0 ns) (hK1 : rK μ ν 25 294 1 ns) (htr : μ.2.1 0 10 = ν.2.1 0 0) (e1 : μ'.2 = μ.2) (e2 : ν'.2 = ν.2) (h1 : ∀ i, i ≤ 10 → μ'.1 i = μ.1 i) (h2 : ∀ i, 18 ≤ i → i ≤ 32 → μ'.1 i = μ.1 i) (h3 : ∀ i, i ≠ 9 → ν'.1 i = ν.1 i) (h4 : ∀ j, 147 ≤ j → ν'.1 9 j = ν.1 9 j) (hM : rM μ' ν' 11 0 ns n' u') : R μ' ν' := by
  refine ⟨T, ns, np, n', u', f, ?_, rD_congr hD (fun i _ b => h1 i b) (fun i a b => h3 i (by omega)), hM, rF_congr hF (by rw [h1 0 (by omega)]) (fun v _ => by rw [h2 32 (by omega) (by omega)]) (by rw [h3 0 (by omega)]) (h3 11 (by omega)) (h3 12 (by omega)), rX_congr hX (by rw [h1 1 (by omega)]) (h1 2 (by omega)) (by rw [h3 0 (by omega)]) (h3 1 (by omega)), rK_congr hK0 (fun j _ _ => by rw [h2 18 (by omega) (by omega)]) (fun i a b => h2 (18 + i) (by omega) (by omega)) (fun j _ => h4 _ (by omega)) (by rw [h3 10 (by omega)]), rK_congr hK1 (fun j _ _ => by rw [h2 25 (by omega) (by omega)]) (fun i a b => h2 (25 + i) (by omega) (by omega)) (fun j _ => h4 _ (by omega)) (by rw [h3 10 (by omega)]), ?_⟩
  · unfold rT at *
    rw [e1]
    exact hT
  · rw [e1, e2]; exact htr
theorem zaN_0 {f : Nat → Int32} {n k : Nat} {w p a : Int32} (hk : k < 30) : zaN f n w p a k = if k = n then w else f k := by
  unfold zaN
  rw [upd_if, if_neg (by omega), upd_if, if_neg (by omega), upd_if, if_neg (by omega), upd_if, if_neg (by omega), upd_if]
theorem zaN_1 {f : Nat → Int32} {n k : Nat} {w p a : Int32} (hk : k < 30) (hn : n < 30) : zaN f n w p a (30 + k) = if k = n then f 121 else f (30 + k) := by
  unfold zaN
  rw [upd_if, if_neg (by omega), upd_if, if_neg (by omega), upd_if, if_neg (by omega), upd_if]
  by_cases e : k = n
  · rw [if_pos (by omega), if_pos e]
  · rw [if_neg (by omega), upd_if, if_neg (by omega), if_neg e]
theorem zaN_2 {f : Nat → Int32} {n k : Nat} {w p a : Int32} (hk : k < 30) (hn : n < 30) : zaN f n w p a (60 + k) = if k = n then p else f (60 + k) := by
  unfold zaN
  rw [upd_if, if_neg (by omega), upd_if, if_neg (by omega), upd_if]
  by_cases e : k = n
  · rw [if_pos (by omega), if_pos e]
  · rw [if_neg (by omega), upd_if, if_neg (by omega), upd_if, if_neg (by omega), if_neg e]
theorem zaN_3 {f : Nat → Int32} {n k : Nat} {w p a : Int32} (hk : k < 30) (hn : n < 30) : zaN f n w p a (90 + k) = if k = n then a else f (90 + k) := by
  unfold zaN
  rw [upd_if, if_neg (by omega), upd_if]
  by_cases e : k = n
  · rw [if_pos (by omega), if_pos e]
  · rw [if_neg (by omega), upd_if, if_neg (by omega), upd_if, if_neg (by omega), upd_if, if_neg (by omega), if_neg e]
theorem zaN_hi {f : Nat → Int32} {n k : Nat} {w p a : Int32} (hk : 120 < k) (hn : n < 30) : zaN f n w p a k = f k := by
  unfold zaN
  rw [upd_if, if_neg (by omega), upd_if, if_neg (by omega), upd_if, if_neg (by omega), upd_if, if_neg (by omega), upd_if, if_neg (by omega)]
theorem zmin12 {u : Nat} (hu : u ≤ 12) : (if nI u + 1 < 12 then nI u + 1 else 12) = nI (if u + 1 < 12 then u + 1 else 12) := by
  have : ∀ u, u < 13 → (if nI u + 1 < 12 then nI u + 1 else 12) = nI (if u + 1 < 12 then u + 1 else 12) := by decide +kernel
  exact this u (by omega)
theorem rP_add {μ ν : ZMem} {ns n u w : Nat} {p a ro fa : Int32} (h : rP μ ν ns n u) (hn : n < 30) (hw : w < ns) (ha : (a = -9 ∧ ro = nI n ∧ fa = 0) ∨ ∃ q, q < n ∧ a = nI q ∧ ro = μ.1 16 q ∧ fa = μ.1 17 q + 1) : rP (zadd μ n (nI w) p a ro fa) (zrow ν 9 (zaN (zknw (ν.1 9) u) n (nI w) p a)) ns (n + 1) (if u + 1 < 12 then u + 1 else 12) := by
  obtain ⟨⟨a1, a2, a3⟩, ⟨b1, b2, b3⟩, hc, hr, hv, hwh, c, hb, s1, s2, s3, s4, s5⟩ := h
  have F : ∀ i, i ≠ 122 → i < 123 → zknw (ν.1 9) u i = ν.1 9 i := fun i q1 q2 => zknw_at q1 (by omega) b3
  generalize hN : zaN (zknw (ν.1 9) u) n (nI w) p a = N
  have N0 : ∀ k, k < 30 → N k = if k = n then nI w else ν.1 9 k := by
    intro k hk; rw [← hN, zaN_0 hk]; by_cases e : k = n
    · rw [if_pos e, if_pos e]
    · rw [if_neg e, if_neg e, F k (by omega) (by omega)]
  have N1 : ∀ k, k < 30 → N (30 + k) = if k = n then nI c else ν.1 9 (30 + k) := by
    intro k hk; rw [← hN, zaN_1 hk hn]; by_cases e : k = n
    · rw [if_pos e, if_pos e, F 121 (by omega) (by omega), s3]
    · rw [if_neg e, if_neg e, F _ (by omega) (by omega)]
  have N2 : ∀ k, k < 30 → N (60 + k) = if k = n then p else ν.1 9 (60 + k) := by
    intro k hk; rw [← hN, zaN_2 hk hn]; by_cases e : k = n
    · rw [if_pos e, if_pos e]
    · rw [if_neg e, if_neg e, F _ (by omega) (by omega)]
  have N3 : ∀ k, k < 30 → N (90 + k) = if k = n then a else ν.1 9 (90 + k) := by
    intro k hk; rw [← hN, zaN_3 hk hn]; by_cases e : k = n
    · rw [if_pos e, if_pos e]
    · rw [if_neg e, if_neg e, F _ (by omega) (by omega)]
  have N4 : ∀ k, 120 < k → N k = zknw (ν.1 9) u k := by intro k hk; rw [← hN, zaN_hi hk hn]
  have N5 : N 120 = nI n + 1 := by rw [← hN]; rfl
  have hv' : ztv (fun k => N (90 + k)) (n + 1) := by
    intro k hk
    dsimp only
    rw [N3 k (by omega)]
    by_cases e : k = n
    · rw [if_pos e]
      rcases ha with ha | ⟨q, hq, ha, -⟩
      · exact Or.inl ha.1
      · exact Or.inr ⟨q, by omega, ha⟩
    · rw [if_neg e]; exact hv k (by omega)
  have hcg := zrt_congr (t := fun k => ν.1 9 (90 + k)) (t' := fun k => N (90 + k)) a3 hv (fun k hk => by rw [N3 k (by omega), if_neg (by omega)])
  have hroot : ro = nI (zrt (fun k => N (90 + k)) 30 n) ∧ fa = nI (zfr (fun k => N (90 + k)) 30 n) := by
    have hN3n : (fun k => N (90 + k)) n = a := by dsimp only; rw [N3 n hn, if_pos rfl]
    rcases ha with ⟨ha, h1, h2⟩ | ⟨q, hq, ha, h1, h2⟩
    · rw [zrt_s (t := fun k => N (90 + k)) (k := n) (hN3n.trans ha), zfr_s (t := fun k => N (90 + k)) (k := n) (hN3n.trans ha)]; exact ⟨h1, h2⟩
    · rw [zrt_step (n := n + 1) (by omega) hv' (by omega) hq (hN3n.trans ha), zfr_step (n := n + 1) (by omega) hv' (by omega) hq (hN3n.trans ha), (hcg 30 q hq).1, (hcg 30 q hq).2, h1, h2, (hr q hq).1, (hr q hq).2]
      exact ⟨rfl, (nI_succ _).symm⟩
  refine ⟨⟨?_, ?_, by omega⟩, ⟨?_, ?_, by split <;> omega⟩, ?_, ?_, ?_, ?_, c, hbN hb 0, s1, s2, ?_, ?_, ?_⟩
  · show μ.1 11 6 + 1 = _
    rw [a1, nI_succ]
  · show N 120 = _
    rw [N5, nI_succ]
  · show (if μ.1 11 8 + 1 < 12 then μ.1 11 8 + 1 else 12) = _
    rw [b1]; exact zmin12 b3
  · show N 122 = _
    rw [N4 122 (by omega)]; exact zknw_122 b3
  · intro k hk
    show (if k = n then nI w else μ.1 12 k) = N k ∧ (if k = n then μ.1 11 7 else μ.1 13 k) = N (30 + k) ∧ (if k = n then p else μ.1 14 k) = N (60 + k) ∧ (if k = n then a else μ.1 15 k) = N (90 + k)
    rw [N0 k (by omega), N1 k (by omega), N2 k (by omega), N3 k (by omega)]
    by_cases e : k = n
    · rw [if_pos e, if_pos e, if_pos e, if_pos e, if_pos e, if_pos e, if_pos e, if_pos e]; exact ⟨rfl, s2, rfl, rfl⟩
    · simp only [if_neg e]; exact hc k (by omega)
  · intro k hk
    show (if k = n then ro else μ.1 16 k) = nI (zrt (fun k => N (90 + k)) 30 k) ∧ (if k = n then fa else μ.1 17 k) = nI (zfr (fun k => N (90 + k)) 30 k)
    by_cases e : k = n
    · rw [if_pos e, if_pos e, e]; exact hroot
    · rw [if_neg e, if_neg e, (hcg 30 k (by omega)).1, (hcg 30 k (by omega)).2]; exact hr k (by omega)
  · exact hv'
  · intro k hk
    show ∃ w, w < ns ∧ N k = nI w
    rw [N0 k (by omega)]
    by_cases e : k = n
    · rw [if_pos e]; exact ⟨w, hw, rfl⟩
    · rw [if_neg e]; exact hwh k (by omega)
  · show N 121 = nI c
    rw [N4 121 (by omega), F 121 (by omega) (by omega), s3]
  · show ((μ.1 11 9 <<< ((1 : Int32) &&& 31)) ||| 0) &&& 4095 = _
    rw [s4]; exact hbN_eq (b := 0) (by omega)
  · exact stk_push (b := 0) s5 b3 a2 s3 (by omega) (by rw [if_neg (by omega)]; exact ⟨rfl, rfl⟩) (fun i q1 q2 => N4 i (by omega))
theorem R_add {μ ν : ZMem} {T ns np n u f w : Nat} {p a ro fa : Int32} (hT : rT μ T) (hD : rD μ ν T ns np) (hM : rM μ ν 11 0 ns n u) (hF : rF μ ν ns f) (hX : rX μ ν) (hK0 : rK μ ν 18 147 0 ns) (hK1 : rK μ ν 25 294 1 ns) (htr : μ.2.1 0 10 = ν.2.1 0 0) (hn : n < 30) (hw : w < ns) (ha : (a = -9 ∧ ro = nI n ∧ fa = 0) ∨ ∃ q, q < n ∧ a = nI q ∧ ro = μ.1 16 q ∧ fa = μ.1 17 q + 1) : R (zadd μ n (nI w) p a ro fa) (zrow ν 9 (zaN (zknw (ν.1 9) u) n (nI w) p a)) := by
  have hP := rP_of hM
  have b3 := hP.2.1.2.2
  refine R_mv (n := n) (u := u) hT hD hF hX hK0 hK1 htr rfl rfl (fun i hi => ?_) (fun i h1 h2 => ?_) (fun i hi => zrow_c hi) (fun j hj => ?_) (rP_to (rP_add hP hn hw ha))
  · exact (zup_ne (by omega)).trans ((zup_ne (by omega)).trans ((zup_ne (by omega)).trans ((zup_ne (by omega)).trans ((zup_ne (by omega)).trans ((zup_ne (by omega)).trans ((zup_ne (by omega)).trans ((zup_ne (by omega)).trans (zup_ne (by omega)))))))))
  · exact (zup_ne (by omega)).trans ((zup_ne (by omega)).trans ((zup_ne (by omega)).trans ((zup_ne (by omega)).trans ((zup_ne (by omega)).trans ((zup_ne (by omega)).trans ((zup_ne (by omega)).trans ((zup_ne (by omega)).trans (zup_ne (by omega)))))))))
  · show zaN (zknw (ν.1 9) u) n (nI w) p a j = ν.1 9 j
    rw [zaN_hi (by omega) hn, zknw_at (by omega) (by omega) b3]
theorem e_hears {μ ν : ZMem} (h : R μ ν) (w : Int32) : E2 mX3_hears mX4_hears 3 2 [.ref 0, .int w] μ ν := by
  obtain ⟨T, ns, np, n, u, f, ⟨rfl, hT⟩, hD, hM, hF, hX, hK0, hK1, htr⟩ := id h
  obtain ⟨p1, p2, p3, p4, p5, p6, p7, p8, p9, p10, p11, p12⟩ := pM hM
  obtain ⟨d1, d2, d3, d4, d5, d6, d7, d8, d9, d10, d11, d12, d13⟩ := id hD
  have h8 := d1.2.2
  have hP := rP_of hM
  rcases zin_cases ns (by omega) w with hw | ⟨j, hj, rfl⟩
  · exact E2.of (spC_hears_bad d1 (Or.inl hw)) (spM_hears_bad d3 (Or.inl hw)) h
  · by_cases hs : zbt (ν.1 5 0) (nI j)
    · have hs' : zbt (μ.1 (μ.2.2 0 1) 7) (nI j) := by rw [d6]; exact hs
      by_cases h30 : n = 30
      · subst h30
        exact E2.of (spC_hears_full d1 p1 hj hs') (spM_hears_full d3 p2 hj hs) h
      · have hn : n < 30 := by have := p1.2; omega
        refine E2.of (spC_hears d1 p1 hn hj hs') (Sp.eq (spM_hears d3 p2 hP.2.1.2.1 hP.2.1.2.2 hn hj hs) (by rw [p1.1]) rfl) ?_
        exact R_add ⟨rfl, hT⟩ hD hM hF hX hK0 hK1 htr hn hj (Or.inl ⟨rfl, p1.1, rfl⟩)
    · exact E2.of (spC_hears_bad d1 (Or.inr ⟨j, hj, rfl, by rw [d6]; exact hs⟩)) (spM_hears_bad d3 (Or.inr ⟨j, hj, rfl, hs⟩)) h
theorem zlf_cases (p : Nat → Bool) : ∀ n, zlf p n = -9 ∨ ∃ j, j < n ∧ zlf p n = nI j := by
  intro n
  induction n with
  | zero => exact Or.inl rfl
  | succ n ih =>
    have e : zlf p (n + 1) = if p n = true then nI n else zlf p n := rfl
    rw [e]
    by_cases c : p n = true
    · rw [if_pos c]; exact Or.inr ⟨n, by omega, rfl⟩
    · rw [if_neg c]; exact ih.imp id (fun ⟨j, hj, q⟩ => ⟨j, by omega, q⟩)
theorem e_says {μ ν : ZMem} (h : R μ ν) (p w : Int32) : E2 mX3_says mX4_says 3 2 [.ref 0, .int p, .int w] μ ν := by
  obtain ⟨T, ns, np, n, u, f, ⟨rfl, hT⟩, hD, hM, hF, hX, hK0, hK1, htr⟩ := id h
  obtain ⟨p1, p2, p3, p4, p5, p6, p7, p8, p9, p10, p11, p12⟩ := pM hM
  obtain ⟨d1, d2, d3, d4, d5, d6, d7, d8, d9, d10, d11, d12, d13⟩ := id hD
  have h8 := d1.2.2
  have h5 := d2.2.2
  have hP := rP_of hM
  rcases zin_cases np (by omega) p with hw | ⟨i, hi, rfl⟩
  · exact E2.of (spC_says_bad d1 d2 (Or.inl hw)) (spM_says_bad d3 d4 (Or.inl hw)) h
  · rcases zin_cases ns (by omega) w with hw | ⟨j, hj, rfl⟩
    · exact E2.of (spC_says_bad d1 d2 (Or.inr ⟨⟨i, hi, rfl⟩, Or.inl hw⟩)) (spM_says_bad d3 d4 (Or.inr ⟨⟨i, hi, rfl⟩, Or.inl hw⟩)) h
    · by_cases hs : zbt (ν.1 5 0) (nI j)
      · exact E2.of (spC_says_bad d1 d2 (Or.inr ⟨⟨i, hi, rfl⟩, Or.inr ⟨j, hj, rfl, by rw [d6]; exact hs⟩⟩)) (spM_says_bad d3 d4 (Or.inr ⟨⟨i, hi, rfl⟩, Or.inr ⟨j, hj, rfl, hs⟩⟩)) h
      · have hs' : ¬ zbt (μ.1 (μ.2.2 0 1) 7) (nI j) := by rw [d6]; exact hs
        have eL : ∀ m, m ≤ n → zlat (μ.1 12) (μ.1 13) (μ.1 11 7 + 0) (μ.1 (μ.2.2 0 1 + 2) j) (μ.1 (μ.2.2 0 1) 5) m = zlat (ν.1 9) (fun k => ν.1 9 (30 + k)) (ν.1 9 121) (ν.1 4 j) (ν.1 8 0) m := by
          intro m hm
          rw [p11, d5, Int32.add_zero, d9 j hj]
          exact zlat_congr (fun k hk => p3 k (by omega)) (fun k hk => p4 k (by omega))
        by_cases hk : zbt (ν.1 7 i) (nI j)
        · have hk' : zbt (μ.1 (μ.2.2 0 1 + 3) i) (nI j) := by rw [d10 i hi]; exact hk
          rcases zlf_cases (fun k => !decide (ν.1 4 j &&& (1 <<< (ν.1 9 k &&& 31)) = 0) && decide (ν.1 9 121 - (fun k => ν.1 9 (30 + k)) k ≤ ν.1 8 0)) n with e | ⟨q, hq, e⟩
          · have e' : zlat (ν.1 9) (fun k => ν.1 9 (30 + k)) (ν.1 9 121) (ν.1 4 j) (ν.1 8 0) n = -9 := e
            exact E2.of (spC_says_state d1 d2 p1 hi hj hs' (Or.inr (by rw [eL n (Nat.le_refl _)]; exact e'))) (spM_says_state d3 d4 p2 p10 hi hj hs (Or.inr e')) h
          · have e' : zlat (ν.1 9) (fun k => ν.1 9 (30 + k)) (ν.1 9 121) (ν.1 4 j) (ν.1 8 0) n = nI q := e
            have hne : ¬ nI q = -9 := nI_ne9 (by have := p1.2; omega)
            by_cases h30 : n = 30
            · subst h30
              exact E2.of (spC_says_full d1 d2 p1 hi hj hs' hk' (by rw [eL 30 (Nat.le_refl _), e']; exact hne)) (spM_says_full d3 d4 p2 p10 hi hj hs hk (by rw [e']; exact hne)) h
            · have hn : n < 30 := by have := p1.2; omega
              refine E2.of (spC_says d1 d2 p1 hn hi hj hs' hk' hq (by rw [eL n (Nat.le_refl _)]; exact e')) (spM_says d3 d4 p2 p10 hP.2.1.2.1 hP.2.1.2.2 hn hi hj hs hk hq e') ?_
              exact R_add ⟨rfl, hT⟩ hD hM hF hX hK0 hK1 htr hn hj (Or.inr ⟨q, hq, rfl, rfl, rfl⟩)
        · exact E2.of (spC_says_state d1 d2 p1 hi hj hs' (Or.inl (by rw [d10 i hi]; exact hk))) (spM_says_state d3 d4 p2 p10 hi hj hs (Or.inl hk)) h
theorem e_hour {μ ν : ZMem} (h : R μ ν) : E2 mX3_hour mX4_hour 3 1 [.ref 0] μ ν := by
  obtain ⟨T, ns, np, n, u, f, hT, hD, hM, hF, hX, hK0, hK1, htr⟩ := id h
  obtain ⟨⟨a1, a2, a3⟩, ⟨b1, b2, b3⟩, hc, hr, hv, hwh, c, hb, s1, s2, s3, s4, s5⟩ := rP_of hM
  by_cases h99 : c = 99
  · subst h99
    exact E2.of (spC_hour_f (by rw [s2]; exact Int32.le_refl _)) (spM_hour_f s3) h
  · have hc99 : c < 99 := by omega
    refine E2.of (spC_hour (by rw [s2]; exact nI_lt (b := 99) hc99 (by decide))) (Sp.eq (spM_hour b2 b3 (by rw [s3]; exact fun q => h99 ((nI_eq (b := 99) (by omega) (by decide)).mp q))) (by rw [s2, s3]) rfl) ?_
    generalize hN : upd (zknw (ν.1 9) u) 121 (ν.1 9 121 + 1) = N
    have N0 : ∀ i, i ≠ 121 → i ≠ 122 → (i < 123 ∨ 147 ≤ i) → N i = ν.1 9 i := by
      intro i q1 q2 q3; rw [← hN, upd_if, if_neg q1, zknw_at q2 q3 b3]
    have N1 : N 121 = nI c + 1 := by rw [← hN, upd_if, if_pos rfl, s3]
    have N2 : ∀ i, 121 < i → N i = zknw (ν.1 9) u i := by intro i hi; rw [← hN, upd_if, if_neg (by omega)]
    have hcg := zrt_congr (t := fun k => ν.1 9 (90 + k)) (t' := fun k => N (90 + k)) a3 hv (fun k hk => N0 (90 + k) (by omega) (by omega) (by omega))
    refine R_mv (n := n) (u := u) (n' := n) (u' := if u + 1 < 12 then u + 1 else 12) hT hD hF hX hK0 hK1 htr rfl rfl (fun i hi => (zup_ne (by omega)).trans ((zup_ne (by omega)).trans (zup_ne (by omega)))) (fun i h1 h2 => (zup_ne (by omega)).trans ((zup_ne (by omega)).trans (zup_ne (by omega)))) (fun i hi => zrow_c hi) (fun j hj => N0 j (by omega) (by omega) (by omega)) (rP_to ?_)
    refine ⟨⟨a1, ?_, a3⟩, ⟨?_, ?_, by split <;> omega⟩, ?_, ?_, ?_, ?_, c + 1, hbN hb 1, by omega, ?_, ?_, ?_, ?_⟩
    · show N 120 = _
      rw [N0 120 (by omega) (by omega) (by omega)]; exact a2
    · show (if μ.1 11 8 + 1 < 12 then μ.1 11 8 + 1 else 12) = _
      rw [b1]; exact zmin12 b3
    · show N 122 = _
      rw [N2 122 (by omega)]; exact zknw_122 b3
    · intro k hk
      show μ.1 12 k = N k ∧ μ.1 13 k = N (30 + k) ∧ μ.1 14 k = N (60 + k) ∧ μ.1 15 k = N (90 + k)
      rw [N0 k (by omega) (by omega) (by omega), N0 (30 + k) (by omega) (by omega) (by omega), N0 (60 + k) (by omega) (by omega) (by omega), N0 (90 + k) (by omega) (by omega) (by omega)]
      exact hc k hk
    · intro k hk
      show μ.1 16 k = nI (zrt (fun k => N (90 + k)) 30 k) ∧ μ.1 17 k = nI (zfr (fun k => N (90 + k)) 30 k)
      rw [(hcg 30 k hk).1, (hcg 30 k hk).2]
      exact hr k hk
    · intro k hk
      show N (90 + k) = -9 ∨ ∃ j, j < k ∧ N (90 + k) = nI j
      rw [N0 (90 + k) (by omega) (by omega) (by omega)]
      exact hv k hk
    · intro k hk
      show ∃ w, w < ns ∧ N k = nI w
      rw [N0 k (by omega) (by omega) (by omega)]
      exact hwh k hk
    · show μ.1 11 7 + 1 = _
      rw [s2, nI_succ]
    · show N 121 = _
      rw [N1, nI_succ]
    · show ((μ.1 11 9 <<< ((1 : Int32) &&& 31)) ||| 1) &&& 4095 = _
      rw [s4]; exact hbN_eq (b := 1) (by omega)
    · exact stk_push (b := 1) s5 b3 a2 s3 (by omega) (by rw [if_pos rfl]; exact ⟨rfl, rfl⟩) (fun i q1 q2 => N2 i (by omega))
theorem hb_sr {hb : Nat} (h : hb < 4096) : nI hb >>> ((1 : Int32) &&& 31) = nI (hb >>> 1) := by
  apply b_ext
  intro i hi
  rw [show (1 : Int32) &&& 31 = nI 1 &&& 31 from rfl, b_sshr 1 (by omega) _ hi, b_nI _ hi, Nat.testBit_shiftRight]
  by_cases c : 1 + i < 32
  · rw [if_pos c, b_nI _ c]
  · rw [if_neg c, b_hi (m := 12) (show hb < 2 ^ 12 by omega) (by omega) (by omega)]
    exact (Nat.testBit_lt_two_pow (Nat.lt_of_lt_of_le (show hb < 2 ^ 12 by omega) (Nat.pow_le_pow_right (by omega) (by omega)))).symm
theorem hb_1 {hb : Nat} : nI hb &&& 1 = 0 ↔ ¬ hb.testBit 0 = true := by
  rw [b_eq0]
  constructor
  · intro q w
    have := q 0 (by omega)
    rw [b_and, b_nI _ (by omega), w, b_1 0 (by omega)] at this
    simp at this
  · intro q i hi
    rw [b_and, b_nI _ hi, b_1 i hi]
    by_cases e : i = 0
    · subst e; simp only [Bool.not_eq_true] at q; rw [q]; rfl
    · simp [e]
theorem e_undo {μ ν : ZMem} (h : R μ ν) : E2 mX3_undo mX4_undo 1 0 [.ref 0] μ ν := by
  obtain ⟨T, ns, np, n, u, f, hT, hD, hM, hF, hX, hK0, hK1, htr⟩ := id h
  obtain ⟨⟨a1, a2, a3⟩, ⟨b1, b2, b3⟩, hc, hr, hv, hwh, c, hb, s1, s2, s3, s4, s50, sq, cq, s6, s7, s8⟩ := rP_of hM
  cases u with
  | zero => exact E2.of (spC_undo_f b1) (spM_undo_f b2) h
  | succ u =>
    have hpos : (0 : Int32) < μ.1 11 8 := by rw [b1]; exact nI_lt (a := 0) (by omega) (by omega)
    obtain ⟨q1, q2, q3⟩ := s8 u (by omega)
    rw [show u + 1 - 1 - u = 0 by omega] at q3
    generalize hN : zun (ν.1 9) u = N
    have N0 : ∀ i, (i < 120 ∨ 122 < i) → N i = ν.1 9 i := by
      intro i q; rw [← hN]; unfold zun
      rw [upd_if, if_neg (by omega), upd_if, if_neg (by omega), upd_if, if_neg (by omega)]
    have N120 : N 120 = nI (sq u) := by rw [← hN]; unfold zun; rw [upd_if, if_neg (by omega), upd_if, if_pos rfl]; exact q1
    have N121 : N 121 = nI (cq u) := by rw [← hN]; unfold zun; rw [upd_if, if_pos rfl]; exact q2
    have N122 : N 122 = nI u := by rw [← hN]; unfold zun; rw [upd_if, if_neg (by omega), upd_if, if_neg (by omega), upd_if, if_pos rfl]
    have hstk : ∀ i, i < u → N (123 + 2 * i) = nI (sq i) ∧ N (123 + 2 * i + 1) = nI (cq i) ∧ (if (hb >>> 1).testBit (u - 1 - i) = true then sq (i + 1) = sq i ∧ cq (i + 1) = cq i + 1 else sq (i + 1) = sq i + 1 ∧ cq (i + 1) = cq i) := by
      intro i hi
      obtain ⟨r1, r2, r3⟩ := s8 i (by omega)
      rw [N0 _ (by omega), N0 _ (by omega)]
      refine ⟨r1, r2, ?_⟩
      rw [Nat.testBit_shiftRight, show 1 + (u - 1 - i) = u + 1 - 1 - i by omega]
      exact r3
    have hbl : hb >>> 1 < 4096 := by rw [Nat.shiftRight_eq_div_pow]; omega
    have eans : μ.1 11 8 - 1 = nI u := by rw [b1, nI_pred]
    have hmodel := Sp.eq (spM_undo (μ := ν) b2 (by omega)) rfl (show zrow ν 9 (zun (ν.1 9) u) = zrow ν 9 N by rw [hN])
    have sqn : sq u ≤ n ∧ cq u ≤ 99 ∧ sq u ≤ 30 := by
      by_cases e : hb.testBit 0 = true
      · rw [if_pos e, s6, s7] at q3; omega
      · rw [if_neg e, s6, s7] at q3; omega
    have fin : ∀ M : ZMem, M.2 = μ.2 → (∀ i, i ≠ 11 → M.1 i = μ.1 i) → M.1 11 6 = nI (sq u) → M.1 11 7 = nI (cq u) → M.1 11 8 = nI u → M.1 11 9 = nI (hb >>> 1) → R M (zrow ν 9 N) := by
      intro M m1 m2 m3 m4 m5 m6
      have hcg := zrt_congr (t := fun k => ν.1 9 (90 + k)) (t' := fun k => N (90 + k)) a3 hv (fun k hk => N0 (90 + k) (by omega))
      refine R_mv (n := n) (u := u) (n' := sq u) (u' := u) hT hD hF hX hK0 hK1 htr m1 rfl (fun i hi => m2 i (by omega)) (fun i h1 h2 => m2 i (by omega)) (fun i hi => zrow_c hi) (fun j hj => N0 j (by omega)) (rP_to ?_)
      refine ⟨⟨m3, N120, sqn.2.2⟩, ⟨m5, N122, by omega⟩, ?_, ?_, ?_, ?_, cq u, hb >>> 1, sqn.2.1, m4, N121, m6, hbl, sq, cq, rfl, rfl, hstk⟩
      · intro k hk
        rw [m2 12 (by omega), m2 13 (by omega), m2 14 (by omega), m2 15 (by omega)]
        show μ.1 12 k = N k ∧ μ.1 13 k = N (30 + k) ∧ μ.1 14 k = N (60 + k) ∧ μ.1 15 k = N (90 + k)
        rw [N0 k (by omega), N0 (30 + k) (by omega), N0 (60 + k) (by omega), N0 (90 + k) (by omega)]
        exact hc k (by omega)
      · intro k hk
        rw [m2 16 (by omega), m2 17 (by omega)]
        show μ.1 16 k = nI (zrt (fun k => N (90 + k)) 30 k) ∧ μ.1 17 k = nI (zfr (fun k => N (90 + k)) 30 k)
        rw [(hcg 30 k (by omega)).1, (hcg 30 k (by omega)).2]
        exact hr k (by omega)
      · intro k hk
        show N (90 + k) = -9 ∨ ∃ j, j < k ∧ N (90 + k) = nI j
        rw [N0 (90 + k) (by omega)]
        exact hv k (by omega)
      · intro k hk
        show ∃ w, w < ns ∧ N k = nI w
        rw [N0 k (by omega)]
        exact hwh k (by omega)
    by_cases e : hb.testBit 0 = true
    · rw [if_pos e, s6, s7] at q3
      refine E2.of (Sp.eq (spC_undo_h hpos (by rw [s4]; exact fun q => hb_1.mp q e)) (by rw [eans]) rfl) hmodel (fin _ rfl (fun i hi => (zup_ne hi).trans ((zup_ne hi).trans (zup_ne hi))) ?_ ?_ ?_ ?_)
      · show μ.1 11 6 = _
        rw [a1, q3.1]
      · show μ.1 11 7 - 1 = _
        rw [s2, q3.2, nI_pred]
      · exact eans
      · show μ.1 11 9 >>> ((1 : Int32) &&& 31) = _
        rw [s4]; exact hb_sr s50
    · rw [if_neg e, s6, s7] at q3
      refine E2.of (Sp.eq (spC_undo_s hpos (by rw [s4]; exact hb_1.mpr e)) (by rw [eans]) rfl) hmodel (fin _ rfl (fun i hi => (zup_ne hi).trans ((zup_ne hi).trans (zup_ne hi))) ?_ ?_ ?_ ?_)
      · show μ.1 11 6 - 1 = _
        rw [a1, q3.1, nI_pred]
      · show μ.1 11 7 = _
        rw [s2, q3.2]
      · exact eans
      · show μ.1 11 9 >>> ((1 : Int32) &&& 31) = _
        rw [s4]; exact hb_sr s50
/-! keep and back -/
theorem rM_copy {μ ν μ' ν' : ZMem} {b o b' o' ns n u : Nat} (h : rM μ ν b o ns n u) (h0 : ∀ j, 6 ≤ j → j ≤ 9 → μ'.1 b' j = μ.1 b j) (h1 : ∀ i, 1 ≤ i → i ≤ 6 → ∀ k, k < 30 → μ'.1 (b' + i) k = μ.1 (b + i) k) (h2 : ∀ j, j < 147 → ν'.1 9 (o' + j) = ν.1 9 (o + j)) : rM μ' ν' b' o' ns n u := by
  obtain ⟨⟨a1, a2, a3⟩, ⟨b1, b2, b3⟩, hc, hr, hv, hw, c, hb, sq, cq, s1, s2, s3, s4, s5, s6, s7, s8⟩ := h
  have zr := zrt_congr (t' := fun k => ν'.1 9 (o' + (90 + k))) a3 hv (fun k hk => h2 (90 + k) (by omega))
  refine ⟨⟨(h0 6 (by omega) (by omega)).trans a1, (h2 120 (by omega)).trans a2, a3⟩, ⟨(h0 8 (by omega) (by omega)).trans b1, (h2 122 (by omega)).trans b2, b3⟩, ?_, ?_, ?_, ?_, c, hb, sq, cq, s1, (h0 7 (by omega) (by omega)).trans s2, (h2 121 (by omega)).trans s3, s4, (h0 9 (by omega) (by omega)).trans s5, s6, s7, ?_⟩
  · intro k hk
    rw [h1 1 (by omega) (by omega) k (by omega), h1 2 (by omega) (by omega) k (by omega), h1 3 (by omega) (by omega) k (by omega), h1 4 (by omega) (by omega) k (by omega), h2 k (by omega), h2 (30 + k) (by omega), h2 (60 + k) (by omega), h2 (90 + k) (by omega)]
    exact hc k hk
  · intro k hk
    rw [h1 5 (by omega) (by omega) k (by omega), h1 6 (by omega) (by omega) k (by omega), (zr 30 k hk).1, (zr 30 k hk).2]
    exact hr k hk
  · intro k hk
    rw [show (fun k => ν'.1 9 (o' + (90 + k))) k = (fun k => ν.1 9 (o + (90 + k))) k from h2 (90 + k) (by omega)]
    exact hv k hk
  · intro k hk
    rw [h2 k (by omega)]
    exact hw k hk
  · intro i hi
    rw [h2 (123 + 2 * i) (by omega), h2 (123 + 2 * i + 1) (by omega)]
    exact s8 i hi
theorem zbec_o {μ : ZMem} {x y a : Nat} (h : a < x ∨ x + 6 < a) : (zbec μ x y).1 a = μ.1 a := by
  funext b
  show (if a = x then _ else if x < a ∧ a ≤ x + 6 then _ else μ.1 a b) = μ.1 a b
  rw [if_neg (by omega), if_neg (by omega)]
theorem zbec_f {μ : ZMem} {x y j : Nat} (h1 : 6 ≤ j) (h2 : j ≤ 9) : (zbec μ x y).1 x j = μ.1 y j := by
  show (if x = x then (if 6 ≤ j ∧ j ≤ 9 then μ.1 y j else μ.1 x j) else _) = _
  rw [if_pos rfl, if_pos ⟨h1, h2⟩]
theorem zbec_10 {μ : ZMem} {x y : Nat} : (zbec μ x y).1 x 10 = μ.1 x 10 := by
  show (if x = x then (if 6 ≤ 10 ∧ 10 ≤ 9 then μ.1 y 10 else μ.1 x 10) else _) = _
  rw [if_pos rfl, if_neg (by omega)]
theorem zbec_r {μ : ZMem} {x y i k : Nat} (h1 : 1 ≤ i) (h2 : i ≤ 6) (hk : k < 30) : (zbec μ x y).1 (x + i) k = μ.1 (y + i) k := by
  show (if x + i = x then _ else if x < x + i ∧ x + i ≤ x + 6 then (if k < 30 then μ.1 (y + (x + i - x)) k else μ.1 (x + i) k) else _) = _
  rw [if_neg (by omega), if_pos (by omega), if_pos hk, show y + (x + i - x) = y + i by omega]
theorem zcpy_in {N : Nat → Int32} {a b m j : Nat} (h : j < m) : zcpy N a b m (a + j) = N (b + j) := by
  unfold zcpy
  rw [if_pos (by omega), show b + (a + j - a) = b + j by omega]
theorem zcpy_o {N : Nat → Int32} {a b m j : Nat} (h : j < a ∨ a + m ≤ j) : zcpy N a b m j = N j := by
  unfold zcpy
  rw [if_neg (by omega)]

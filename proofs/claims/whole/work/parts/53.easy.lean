/-! ===== same answers: the calls that change little ===== -/
theorem R_of' {μ ν μ' ν' : ZMem} {T ns np n u f' : Nat} (hT : rT μ T) (hD : rD μ ν T ns np) (hM : rM μ ν 11 0 ns n u) (hK0 : rK μ ν 18 147 0 ns) (hK1 : rK μ ν 25 294 1 ns) (hr : μ'.2.2 = μ.2.2) (h3 : ∀ i, 3 ≤ i → i ≤ 31 → μ'.1 i = μ.1 i) (h2 : ∀ i, 2 ≤ i → i ≤ 10 → ν'.1 i = ν.1 i) (hF' : rF μ' ν' ns f') (hX : rX μ' ν') (ht : μ'.2.1 0 10 = ν'.2.1 0 0) : R μ' ν' := by
  refine ⟨T, ns, np, n, u, f', ?_, rD_congr hD (fun i a b => h3 i a (by omega)) (fun i a b => h2 i a (by omega)), rM_congr hM (fun j _ _ => by rw [h3 11 (by omega) (by omega)]) (fun i a b k _ => by rw [h3 (11 + i) (by omega) (by omega)]) (fun j _ => by rw [h2 9 (by omega) (by omega)]), hF', hX, rK_congr hK0 (fun j _ _ => by rw [h3 18 (by omega) (by omega)]) (fun i a b => h3 (18 + i) (by omega) (by omega)) (fun j _ => by rw [h2 9 (by omega) (by omega)]) (by rw [h2 10 (by omega) (by omega)]), rK_congr hK1 (fun j _ _ => by rw [h3 25 (by omega) (by omega)]) (fun i a b => h3 (25 + i) (by omega) (by omega)) (fun j _ => by rw [h2 9 (by omega) (by omega)]) (by rw [h2 10 (by omega) (by omega)]), ht⟩
  unfold rT at *
  rw [hr]
  exact hT
theorem R_of {μ ν μ' ν' : ZMem} (h : R μ ν) (hr : μ'.2.2 = μ.2.2) (h3 : ∀ i, 3 ≤ i → i ≤ 31 → μ'.1 i = μ.1 i) (h2 : ∀ i, 2 ≤ i → i ≤ 10 → ν'.1 i = ν.1 i) (hF : ∀ ns f, rF μ ν ns f → ∃ f', rF μ' ν' ns f') (hX : rX μ ν → rX μ' ν') (ht : μ'.2.1 0 10 = ν'.2.1 0 0) : R μ' ν' := by
  obtain ⟨T, ns, np, n, u, f, hT, hD, hM, hF0, hX0, hK0, hK1, htr⟩ := h
  obtain ⟨f', hF'⟩ := hF ns f hF0
  exact R_of' hT hD hM hK0 hK1 hr h3 h2 hF' (hX hX0) ht
theorem R_tr {μ ν : ZMem} (h : R μ ν) : μ.2.1 0 10 = ν.2.1 0 0 := by
  obtain ⟨T, ns, np, n, u, f, hT, hD, hM, hF0, hX0, hK0, hK1, htr⟩ := h
  exact htr
theorem e_clear {μ ν : ZMem} (h : R μ ν) : E2 mX3_clear mX4_clear 0 0 [.ref 0] μ ν := by
  obtain ⟨T, ns, np, n, u, f, hT, hD, hM, hF, ⟨x, t, hx1, hx2⟩, hK0, hK1, htr⟩ := id h
  refine E2.of spC_clear (Sp.eq spM_clear (by rw [hx1.1, hx2.1]) rfl) (R_of h rfl (fun i a b => zup_ne (by omega)) (fun i a b => zup_ne (by omega)) (fun ns f q => ⟨f, rF_congr q rfl (fun _ _ => rfl) rfl rfl rfl⟩) (fun _ => ⟨x, 0, ⟨rfl, by omega, fun k hk => by omega⟩, ⟨rfl, by omega, fun k hk => by omega⟩⟩) htr)
theorem e_type {μ ν : ZMem} (h : R μ ν) (c : Int32) : E2 mX3_type mX4_type 1 1 [.ref 0, .int c] μ ν := by
  obtain ⟨T, ns, np, n, u, f, hT, hD, hM, hF, ⟨x, t, hx1, hx2⟩, hK0, hK1, htr⟩ := id h
  rcases zin_cases 256 (by omega) c with hw | ⟨j, hj, rfl⟩
  · have hw2 : c < 0 ∨ 255 < c := hw.imp id (fun q => Int32.lt_of_lt_of_le (by decide) q)
    exact E2.of (spC_type_bad hw2) (spM_type_bad hw2) h
  · have c0 : ¬ nI j < 0 := nI_pos (by omega)
    have c1 : ¬ 255 < nI j := nI_nlt (a := 255) (by omega) (by decide)
    by_cases ht : t = 200
    · subst ht
      exact E2.of (spC_type_f hx1.1 c0 c1) (spM_type_f hx2.1 c0 c1) h
    · have ht2 : t < 200 := by have := hx1.2.1; omega
      refine E2.of (spC_type_t hx1.1 ht2 c0 c1) (Sp.eq (spM_type_t hx2.1 ht2 c0 c1) (by rw [hx1.1, hx2.1]) rfl) (R_of h rfl (fun i a b => (zup_ne (by omega)).trans (zup_ne (by omega))) (fun i a b => (zup_ne (by omega)).trans (zup_ne (by omega))) (fun ns f q => ⟨f, rF_congr q rfl (fun _ _ => rfl) rfl rfl rfl⟩) (fun _ => ⟨fun k => if k = t then j else x k, t + 1, ⟨?_, by omega, fun k hk => ?_⟩, ⟨?_, by omega, fun k hk => ?_⟩⟩) htr)
      · show μ.1 1 1 + 1 = _
        rw [hx1.1, nI_succ]
      · show (if k = t then nI j else μ.1 2 k) = nI (if k = t then j else x k) ∧ (if k = t then j else x k) < 256
        by_cases e : k = t
        · rw [if_pos e, if_pos e]; exact ⟨rfl, hj⟩
        · rw [if_neg e, if_neg e]; exact hx1.2.2 k (by omega)
      · show ν.1 0 2 + 1 = _
        rw [hx2.1, nI_succ]
      · show (if k = t then vp_nar .byte (nI j).toInt8.toInt32 else ν.1 1 k) = sb_b (if k = t then j else x k) ∧ (if k = t then j else x k) < 256
        by_cases e : k = t
        · rw [if_pos e, if_pos e]
          refine ⟨?_, hj⟩
          have key : ∀ j, j < 256 → vp_nar .byte (nI j).toInt8.toInt32 = sb_b j := by decide +kernel
          exact key j hj
        · rw [if_neg e, if_neg e]; exact hx2.2.2 k (by omega)
theorem e_forget {μ ν : ZMem} (h : R μ ν) : E2 mX3_forget mX4_forget 1 0 [.ref 0] μ ν := by
  obtain ⟨T, ns, np, n, u, f, hT, hD, hM, hF, hX, hK0, hK1, htr⟩ := id h
  refine E2.of spC_forget (Sp.eq spM_forget (by rw [hF.1, hF.2.1]) rfl) (R_of h rfl (fun i a b => ?_) (fun i a b => zup_ne (by omega)) (fun ns f q => ⟨0, rfl, rfl, by omega, fun k hk => by omega, fun v hv => ?_⟩) (fun q => rX_congr q rfl ?_ rfl rfl) htr)
  · refine (zup_ne (by omega)).trans ?_
    funext j
    show (if i = 32 ∧ j < 8 then 0 else μ.1 i j) = μ.1 i j
    rw [if_neg (by omega)]
  · show (if (32 = 32 ∧ v < 8) then 0 else μ.1 32 v) = 0
    rw [if_pos ⟨rfl, hv⟩]
  · funext j; rfl
theorem e_tells {μ ν : ZMem} (h : R μ ν) (w v : Int32) : E2 mX3_tells mX4_tells 1 2 [.ref 0, .int w, .int v] μ ν := by
  obtain ⟨T, ns, np, n, u, f, ⟨rfl, hT⟩, hD, hM, hF, hX, hK0, hK1, htr⟩ := id h
  have d1 := hD.1
  have d3 := hD.2.2.1
  have h8 := d1.2.2
  obtain ⟨f1, f2, f3, f4, f5⟩ := id hF
  rcases zin_cases ns (by omega) w with hw | ⟨i, hi, rfl⟩
  · exact E2.of (spC_tells_bad d1 (Or.inl hw)) (spM_tells_bad d3 (Or.inl hw)) h
  · rcases zin_cases ns (by omega) v with hw | ⟨j, hj, rfl⟩
    · exact E2.of (spC_tells_bad d1 (Or.inr ⟨⟨i, hi, rfl⟩, Or.inl hw⟩)) (spM_tells_bad d3 (Or.inr ⟨⟨i, hi, rfl⟩, Or.inl hw⟩)) h
    · by_cases hne : nI i = nI j
      · exact E2.of (spC_tells_bad d1 (Or.inr ⟨⟨i, hi, rfl⟩, Or.inr ⟨⟨j, hj, rfl⟩, hne⟩⟩)) (spM_tells_bad d3 (Or.inr ⟨⟨i, hi, rfl⟩, Or.inr ⟨⟨j, hj, rfl⟩, hne⟩⟩)) h
      · by_cases h6 : f = 6
        · subst h6
          exact E2.of (spC_tells_full d1 hi hj hne (by rw [f1]; exact Int32.le_refl _)) (spM_tells_full d3 hi hj hne f2) h
        · have hf6 : f < 6 := by omega
          refine E2.of (spC_tells d1 hi hj hne (by rw [f1]; exact nI_lt (b := 6) hf6 (by decide))) (Sp.eq (spM_tells d3 hi hj hne f2 hf6) (by rw [f1, f2]) rfl) ?_
          refine R_of' (f' := f + 1) ⟨rfl, hT⟩ hD hM hK0 hK1 rfl (fun a q1 q2 => (zup_ne (by omega)).trans (zup_ne (by omega))) (fun a q1 q2 => (zup_ne (by omega)).trans ((zup_ne (by omega)).trans (zup_ne (by omega)))) ?_ (rX_congr hX rfl rfl rfl rfl) htr
          refine ⟨?_, ?_, by omega, fun k hk => ?_, fun v hv => ?_⟩
          · show μ.1 0 7 + 1 = _
            rw [f1, nI_succ]
          · show ν.1 0 20 + 1 = _
            rw [f2, nI_succ]
          · show (∃ a, a < ns ∧ (if k = f then nI i else ν.1 11 k) = nI a) ∧ ∃ b, b < ns ∧ (if k = f then nI j else ν.1 12 k) = nI b
            by_cases e : k = f
            · rw [if_pos e, if_pos e]; exact ⟨⟨i, hi, rfl⟩, ⟨j, hj, rfl⟩⟩
            · rw [if_neg e, if_neg e]; exact f4 k (by omega)
          · have e0 : rtl (fun k => if k = f then nI i else ν.1 11 k) (fun k => if k = f then nI j else ν.1 12 k) f v = rtl (ν.1 11) (ν.1 12) f v := by
              unfold rtl
              refine zfold_congr (fun k hk x => ?_)
              have hkf : ¬ k = f := by omega
              simp only [if_neg hkf]
            have e1 : rtl (fun k => if k = f then nI i else ν.1 11 k) (fun k => if k = f then nI j else ν.1 12 k) (f + 1) v = if nI j = nI v then rtl (ν.1 11) (ν.1 12) f v ||| (1 <<< (nI i &&& 31)) else rtl (ν.1 11) (ν.1 12) f v := by
              rw [← e0]
              show (if (if f = f then nI j else ν.1 12 f) = nI v then rtl _ _ f v ||| (1 <<< ((if f = f then nI i else ν.1 11 f) &&& 31)) else rtl _ _ f v) = _
              rw [if_pos rfl, if_pos rfl]
            show (if v = j then μ.1 32 j ||| (1 <<< (nI i &&& 31)) else μ.1 32 v) = rtl (fun k => if k = f then nI i else ν.1 11 k) (fun k => if k = f then nI j else ν.1 12 k) (f + 1) v
            rw [e1]
            by_cases e : v = j
            · subst e; rw [if_pos rfl, if_pos rfl, f5 v hv]
            · rw [if_neg e, if_neg (fun q => e ((nI_eq (by omega) (by omega)).mp q).symm), f5 v hv]
theorem e_mark {μ ν : ZMem} (h : R μ ν) (kind w : Int32) : E2 mX3_mark mX4_mark 5 2 [.ref 0, .int kind, .int w] μ ν := by
  obtain ⟨T, ns, np, n, u, f, ⟨rfl, hT⟩, hD, hM, hF, hX, hK0, hK1, htr⟩ := id h
  obtain ⟨p1, p2, p3, p4, p5, p6, p7, p8, p9, p10, p11, p12⟩ := pM hM
  obtain ⟨d1, d2, d3, d4, d5, d6, d7, d8, d9, d10, d11, d12, d13⟩ := hD
  have h5 := d2.2.2
  have h8 := d1.2.2
  have hkr : (kind < 0 ∨ nI 6 ≤ kind) → kind < 0 ∨ 5 < kind := fun q => q.imp id (fun q => Int32.lt_of_lt_of_le (by decide) q)
  have hki : (kind < 0 ∨ nI 6 ≤ kind) → kind.toInt < 0 ∨ 5 < kind.toInt := fun q => q.imp (fun q => by simpa using Int32.lt_iff_toInt_lt.mp q) (fun q => by have := Int32.le_iff_toInt_le.mp q; rw [nI_toInt (by omega)] at this; omega)
  rcases zin_cases ns (by omega) w with hw | ⟨j, hj, rfl⟩
  · rcases zin_cases 6 (by omega) kind with hk | ⟨q, hq, rfl⟩
    · exact E2.of (spC_mark_bad d1 (Or.inl hw)) (spM_mark_bad d3 (Or.inl (hkr hk))) h
    · exact E2.of (spC_mark_bad d1 (Or.inl hw)) (spM_mark_bad d3 (Or.inr ⟨⟨nI_pos (by omega), nI_nlt (a := 5) (by omega) (by decide)⟩, hw⟩)) h
  · rcases zin_cases 6 (by omega) kind with hk | ⟨q, hq, rfl⟩
    · exact E2.of (spC_mark_bad d1 (Or.inr ⟨⟨j, hj, rfl⟩, hki hk⟩)) (spM_mark_bad d3 (Or.inl (hkr hk))) h
    · have hR : ∀ a b : Int64, a = b → R (zJ μ 0 10 (μ.2.1 0 10 + a)) (zJ ν 0 0 (ν.2.1 0 0 + b)) := by
        intro a b e
        refine R_of h rfl (fun i _ _ => rfl) (fun i _ _ => rfl) (fun ns f q => ⟨f, rF_congr q rfl (fun _ _ => rfl) rfl rfl rfl⟩) (fun q => rX_congr q rfl rfl rfl rfl) ?_
        show μ.2.1 0 10 + a = ν.2.1 0 0 + b
        rw [htr, e]
      have tr2 : ∀ a b, ztr (ztr μ a) b = zJ μ 0 10 (μ.2.1 0 10 + (a + b)) := by
        intro a b
        refine Prod.ext rfl (Prod.ext (funext fun i => funext fun j => ?_) rfl)
        simp only [ztr, zJ, zupL]
        by_cases hi : i = 0
        · subst hi
          by_cases h10 : j = 10
          · subst h10; simp [Int64.add_assoc]
          · simp [h10]
        · simp [hi]
      have tr3 : ∀ a b c, ztr (ztr (ztr μ a) b) c = zJ μ 0 10 (μ.2.1 0 10 + (a + (b + c))) := by
        intro a b c
        refine Prod.ext rfl (Prod.ext (funext fun i => funext fun j => ?_) rfl)
        simp only [ztr, zJ, zupL]
        by_cases hi : i = 0
        · subst hi
          by_cases h10 : j = 10
          · subst h10; simp [Int64.add_assoc]
          · simp [h10]
        · simp [hi]
      have bcA : zbc (μ.1 (μ.2.2 0 1 + 2) j) = zmany (ν.1 4 j) := by
        obtain ⟨A, hA, e⟩ := d12 j hj
        have hp := zpow_le ns (by omega)
        rw [d9 j hj, e]
        exact zbc_many A (by omega)
      have e2 : zfold (fun k a => if μ.1 12 k = nI j then a + 1 else a) 0 n = zfold (fun k a => if ν.1 9 k = nI j then a + 1 else a) 0 n := zfold_congr (fun k hk x => by rw [p3 k hk])
      match q, hq with
      | 0, _ => exact E2.of (spC_mark_0 d1 hj) (Sp.eq (spM_mark_0 d3 p2 hj) (by rw [d8 j hj]) rfl) (hR _ _ rfl)
      | 1, _ => exact E2.of (Sp.eq (spC_mark_1 d1 hj) rfl (tr2 _ _)) (Sp.eq (spM_mark_1 d3 p2 hj) (by rw [d8 j hj, bcA]) rfl) (hR _ _ (by decide))
      | 2, _ => exact E2.of (Sp.eq (spC_mark_2 d1 p1 hj) rfl (tr2 _ _)) (Sp.eq (spM_mark_2 d3 p2 hj) (by rw [d8 j hj, e2]) rfl) (hR _ _ (by decide))
      | 3, _ => exact E2.of (Sp.eq (spC_mark_3 d1 hj) rfl (tr3 _ _ _)) (Sp.eq (spM_mark_3 d3 p2 hj) (by rw [d8 j hj, bcA, Int32.mul_comm]) rfl) (hR _ _ (by decide))
      | 4, _ =>
        have bcK : zbc (zkn (μ.1 (μ.2.2 0 1 + 3)) (nI j) np) = zmany (zkn (ν.1 7) (nI j) np) := by
          have e1 : zkn (μ.1 (μ.2.2 0 1 + 3)) (nI j) np = zkn (ν.1 7) (nI j) np := zfold_congr (fun k hk x => by rw [d10 k hk])
          rw [e1]
          obtain ⟨K, hK, e⟩ := b_byte (x := zkn (ν.1 7) (nI j) np) (fun i hi h32 => by
            cases hb : bt (zkn (ν.1 7) (nI j) np) i with
            | false => rfl
            | true => have := (b_zkn (by omega) h5 h32).mp hb; omega)
          rw [e]
          exact zbc_many K hK
        exact E2.of (Sp.eq (spC_mark_4 d1 d2 p1 hj) rfl (tr3 _ _ _)) (Sp.eq (spM_mark_4 d3 d4 p2 hj) (by rw [d8 j hj, e2, bcK]) rfl) (hR _ _ (by decide))
      | 5, _ => exact E2.of (Sp.eq (spC_mark_5 d1 hj) rfl (tr2 _ _)) (Sp.eq (spM_mark_5 d3 p2 hj) (by rw [d8 j hj, p11]) rfl) (hR _ _ (by decide))

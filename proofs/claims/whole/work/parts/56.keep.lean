/-! ===== keep and back ===== -/
theorem nar1 : vp_nar .boolean 1 = 1 := by decide
theorem R_keep_0 {μ ν : ZMem} (h : R μ ν) : R (zI (zbec μ 18 11) 18 10 1) (zI (zrow ν 9 (zcpy (ν.1 9) 147 0 147)) 10 0 (vp_nar .boolean 1)) := by
  obtain ⟨T, ns, np, n, u, f, hT, hD, hM, hF, hX, hK0, hK1, htr⟩ := h
  generalize hμ : zI (zbec μ 18 11) 18 10 1 = M
  generalize hν : zI (zrow ν 9 (zcpy (ν.1 9) 147 0 147)) 10 0 (vp_nar .boolean 1) = V
  have m1 : ∀ i, (i < 18 ∨ 18 + 6 < i) → M.1 i = μ.1 i := by
    intro i hi; rw [← hμ]; exact (zup_ne (by omega)).trans (zbec_o hi)
  have m2 : ∀ j, 6 ≤ j → j ≤ 9 → M.1 18 j = μ.1 11 j := by
    intro j h1 h2; rw [← hμ]
    show (if 18 = 18 then (if j = 10 then 1 else (zbec μ 18 11).1 18 j) else (zbec μ 18 11).1 18 j) = _
    rw [if_pos rfl, if_neg (by omega)]; exact zbec_f h1 h2
  have m3 : ∀ i, 1 ≤ i → i ≤ 6 → ∀ k, k < 30 → M.1 (18 + i) k = μ.1 (11 + i) k := by
    intro i h1 h2 k hk; rw [← hμ]
    exact (congrFun (zup_ne (by omega)) k).trans (zbec_r h1 h2 hk)
  have m4 : M.1 18 10 = 1 := by rw [← hμ]; rfl
  have m5 : M.2 = μ.2 := by rw [← hμ]; rfl
  have v1 : ∀ i, i ≠ 9 → i ≠ 10 → V.1 i = ν.1 i := by
    intro i h1 h2; rw [← hν]; exact (zup_ne h2).trans (zrow_c h1)
  have v2 : ∀ j, (j < 147 ∨ 147 + 147 ≤ j) → V.1 9 j = ν.1 9 j := by
    intro j hj; rw [← hν]
    show zcpy (ν.1 9) 147 0 147 j = _
    exact zcpy_o hj
  have v3 : ∀ j, j < 147 → V.1 9 (147 + j) = ν.1 9 (0 + j) := by
    intro j hj; rw [← hν]
    show zcpy (ν.1 9) 147 0 147 (147 + j) = _
    exact zcpy_in hj
  have v4 : V.1 10 0 = 1 := by rw [← hν]; show vp_nar .boolean 1 = 1; exact nar1
  have v5 : V.1 10 1 = ν.1 10 1 := by rw [← hν]; rfl
  have v6 : V.2 = ν.2 := by rw [← hν]; rfl
  have kM : rK M V 18 147 0 ns := Or.inr ⟨m4, v4, n, u, rM_copy hM m2 m3 v3⟩
  have kO : rK M V 25 294 1 ns := rK_congr hK1 (fun j _ _ => by rw [m1 25 (by omega)]) (fun i a b => m1 (25 + i) (by omega)) (fun j hj => v2 _ (by omega)) v5
  refine ⟨T, ns, np, n, u, f, ?_, rD_congr hD (fun i _ b => m1 i (by omega)) (fun i a b => v1 i (by omega) (by omega)), rM_congr hM (fun j _ _ => by rw [m1 11 (by omega)]) (fun i a b k _ => by rw [m1 (11 + i) (by omega)]) (fun j hj => v2 _ (by omega)), rF_congr hF (by rw [m1 0 (by omega)]) (fun v _ => by rw [m1 32 (by omega)]) (by rw [v1 0 (by omega) (by omega)]) (v1 11 (by omega) (by omega)) (v1 12 (by omega) (by omega)), rX_congr hX (by rw [m1 1 (by omega)]) (m1 2 (by omega)) (by rw [v1 0 (by omega) (by omega)]) (v1 1 (by omega) (by omega)), kM, kO, ?_⟩
  · unfold rT at *
    rw [m5]
    exact hT
  · rw [m5, v6]; exact htr
theorem R_back_0 {μ ν : ZMem} (h : R μ ν) (hk : ¬ μ.1 18 10 = 0) : R (zbec μ 11 18) (zrow ν 9 (zcpy (ν.1 9) 0 147 147)) := by
  obtain ⟨T, ns, np, n, u, f, hT, hD, hM, hF, hX, hK0, hK1, htr⟩ := h
  rcases hK0 with q | ⟨q1, q2, n', u', hI⟩
  · exact absurd q.1 hk
  · refine R_mv (n := n) (u := u) (n' := n') (u' := u') hT hD hF hX (Or.inr ⟨q1, q2, n', u', hI⟩) hK1 htr rfl rfl (fun i hi => zbec_o (by omega)) (fun i h1 h2 => zbec_o (by omega)) (fun i hi => zrow_c hi) (fun j hj => zcpy_o (by omega)) ?_
    exact rM_copy hI (fun j h1 h2 => zbec_f h1 h2) (fun i h1 h2 k hk => zbec_r h1 h2 hk) (fun j hj => zcpy_in hj)
theorem R_keep_1 {μ ν : ZMem} (h : R μ ν) : R (zI (zbec μ 25 11) 25 10 1) (zI (zrow ν 9 (zcpy (ν.1 9) 294 0 147)) 10 1 (vp_nar .boolean 1)) := by
  obtain ⟨T, ns, np, n, u, f, hT, hD, hM, hF, hX, hK0, hK1, htr⟩ := h
  generalize hμ : zI (zbec μ 25 11) 25 10 1 = M
  generalize hν : zI (zrow ν 9 (zcpy (ν.1 9) 294 0 147)) 10 1 (vp_nar .boolean 1) = V
  have m1 : ∀ i, (i < 25 ∨ 25 + 6 < i) → M.1 i = μ.1 i := by
    intro i hi; rw [← hμ]; exact (zup_ne (by omega)).trans (zbec_o hi)
  have m2 : ∀ j, 6 ≤ j → j ≤ 9 → M.1 25 j = μ.1 11 j := by
    intro j h1 h2; rw [← hμ]
    show (if 25 = 25 then (if j = 10 then 1 else (zbec μ 25 11).1 25 j) else (zbec μ 25 11).1 25 j) = _
    rw [if_pos rfl, if_neg (by omega)]; exact zbec_f h1 h2
  have m3 : ∀ i, 1 ≤ i → i ≤ 6 → ∀ k, k < 30 → M.1 (25 + i) k = μ.1 (11 + i) k := by
    intro i h1 h2 k hk; rw [← hμ]
    exact (congrFun (zup_ne (by omega)) k).trans (zbec_r h1 h2 hk)
  have m4 : M.1 25 10 = 1 := by rw [← hμ]; rfl
  have m5 : M.2 = μ.2 := by rw [← hμ]; rfl
  have v1 : ∀ i, i ≠ 9 → i ≠ 10 → V.1 i = ν.1 i := by
    intro i h1 h2; rw [← hν]; exact (zup_ne h2).trans (zrow_c h1)
  have v2 : ∀ j, (j < 294 ∨ 294 + 147 ≤ j) → V.1 9 j = ν.1 9 j := by
    intro j hj; rw [← hν]
    show zcpy (ν.1 9) 294 0 147 j = _
    exact zcpy_o hj
  have v3 : ∀ j, j < 147 → V.1 9 (294 + j) = ν.1 9 (0 + j) := by
    intro j hj; rw [← hν]
    show zcpy (ν.1 9) 294 0 147 (294 + j) = _
    exact zcpy_in hj
  have v4 : V.1 10 1 = 1 := by rw [← hν]; show vp_nar .boolean 1 = 1; exact nar1
  have v5 : V.1 10 0 = ν.1 10 0 := by rw [← hν]; rfl
  have v6 : V.2 = ν.2 := by rw [← hν]; rfl
  have kM : rK M V 25 294 1 ns := Or.inr ⟨m4, v4, n, u, rM_copy hM m2 m3 v3⟩
  have kO : rK M V 18 147 0 ns := rK_congr hK0 (fun j _ _ => by rw [m1 18 (by omega)]) (fun i a b => m1 (18 + i) (by omega)) (fun j hj => v2 _ (by omega)) v5
  refine ⟨T, ns, np, n, u, f, ?_, rD_congr hD (fun i _ b => m1 i (by omega)) (fun i a b => v1 i (by omega) (by omega)), rM_congr hM (fun j _ _ => by rw [m1 11 (by omega)]) (fun i a b k _ => by rw [m1 (11 + i) (by omega)]) (fun j hj => v2 _ (by omega)), rF_congr hF (by rw [m1 0 (by omega)]) (fun v _ => by rw [m1 32 (by omega)]) (by rw [v1 0 (by omega) (by omega)]) (v1 11 (by omega) (by omega)) (v1 12 (by omega) (by omega)), rX_congr hX (by rw [m1 1 (by omega)]) (m1 2 (by omega)) (by rw [v1 0 (by omega) (by omega)]) (v1 1 (by omega) (by omega)), kO, kM, ?_⟩
  · unfold rT at *
    rw [m5]
    exact hT
  · rw [m5, v6]; exact htr
theorem R_back_1 {μ ν : ZMem} (h : R μ ν) (hk : ¬ μ.1 25 10 = 0) : R (zbec μ 11 25) (zrow ν 9 (zcpy (ν.1 9) 0 294 147)) := by
  obtain ⟨T, ns, np, n, u, f, hT, hD, hM, hF, hX, hK0, hK1, htr⟩ := h
  rcases hK1 with q | ⟨q1, q2, n', u', hI⟩
  · exact absurd q.1 hk
  · refine R_mv (n := n) (u := u) (n' := n') (u' := u') hT hD hF hX hK0 (Or.inr ⟨q1, q2, n', u', hI⟩) htr rfl rfl (fun i hi => zbec_o (by omega)) (fun i h1 h2 => zbec_o (by omega)) (fun i hi => zrow_c hi) (fun j hj => zcpy_o (by omega)) ?_
    exact rM_copy hI (fun j h1 h2 => zbec_f h1 h2) (fun i h1 h2 k hk => zbec_r h1 h2 hk) (fun j hj => zcpy_in hj)
theorem e_keep {μ ν : ZMem} (h : R μ ν) (i : Int32) : E2 mX3_keep mX4_keep 2 1 [.ref 0, .int i] μ ν := by
  obtain ⟨T, ns, np, n, u, f, hT, hD, hM, hF, hX, hK0, hK1, htr⟩ := id h
  obtain ⟨p1, p2, p3, p4, p5, p6, p7, p8, p9, p10, p11, p12⟩ := pM hM
  rcases zin_cases 2 (by omega) i with hw | ⟨q, hq, rfl⟩
  · have hw2 : i < 0 ∨ 1 < i := hw.imp id (fun q => Int32.lt_of_lt_of_le (by decide) q)
    exact E2.of (spC_keep_bad hw2) (spM_keep_bad hw2) h
  · match q, hq with
    | 0, _ => exact E2.of spC_keep_0 (Sp.eq spM_keep_0 (by rw [zcpy_o (by omega), p11]) rfl) (R_keep_0 h)
    | 1, _ => exact E2.of spC_keep_1 (Sp.eq spM_keep_1 (by rw [zcpy_o (by omega), p11]) rfl) (R_keep_1 h)
theorem e_back {μ ν : ZMem} (h : R μ ν) (i : Int32) : E2 mX3_back mX4_back 2 1 [.ref 0, .int i] μ ν := by
  obtain ⟨T, ns, np, n, u, f, hT, hD, hM, hF, hX, hK0, hK1, htr⟩ := id h
  rcases zin_cases 2 (by omega) i with hw | ⟨q, hq, rfl⟩
  · have hw2 : i < 0 ∨ 1 < i := hw.imp id (fun q => Int32.lt_of_lt_of_le (by decide) q)
    exact E2.of (spC_back_bad hw2) (spM_back_bad hw2) h
  · match q, hq with
    | 0, _ =>
      rcases hK0 with ⟨k1, k2⟩ | ⟨k1, k2, n', u', hI⟩
      · exact E2.of (spC_back_0f k1) (spM_back_0f k2) h
      · refine E2.of (spC_back_0 (by rw [k1]; decide)) (Sp.eq (spM_back_0 (by rw [k2]; decide)) ?_ rfl) (R_back_0 h (by rw [k1]; decide))
        rw [show (121 : Nat) = 0 + 121 from rfl, zcpy_in (by omega), rM_7 hI]
    | 1, _ =>
      rcases hK1 with ⟨k1, k2⟩ | ⟨k1, k2, n', u', hI⟩
      · exact E2.of (spC_back_1f k1) (spM_back_1f k2) h
      · refine E2.of (spC_back_1 (by rw [k1]; decide)) (Sp.eq (spM_back_1 (by rw [k2]; decide)) ?_ rfl) (R_back_1 h (by rw [k1]; decide))
        rw [show (121 : Nat) = 0 + 121 from rfl, zcpy_in (by omega), rM_7 hI]

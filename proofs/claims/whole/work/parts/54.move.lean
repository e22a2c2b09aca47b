/-! ===== same answers: the calls that move the present ===== -/
def stk (N : Nat → Int32) (hb u n c : Nat) : Prop := hb < 4096 ∧ ∃ sq cq : Nat → Nat, sq u = n ∧ cq u = c ∧ ∀ i, i < u → N (123 + 2 * i) = nI (sq i) ∧ N (123 + 2 * i + 1) = nI (cq i) ∧ (if hb.testBit (u - 1 - i) = true then sq (i + 1) = sq i ∧ cq (i + 1) = cq i + 1 else sq (i + 1) = sq i + 1 ∧ cq (i + 1) = cq i)
def rP (μ ν : ZMem) (ns n u : Nat) : Prop :=
  (μ.1 11 6 = nI n ∧ ν.1 9 120 = nI n ∧ n ≤ 30) ∧ (μ.1 11 8 = nI u ∧ ν.1 9 122 = nI u ∧ u ≤ 12) ∧
  (∀ k, k < n → μ.1 12 k = ν.1 9 k ∧ μ.1 13 k = ν.1 9 (30 + k) ∧ μ.1 14 k = ν.1 9 (60 + k) ∧ μ.1 15 k = ν.1 9 (90 + k)) ∧
  (∀ k, k < n → μ.1 16 k = nI (zrt (fun k => ν.1 9 (90 + k)) 30 k) ∧ μ.1 17 k = nI (zfr (fun k => ν.1 9 (90 + k)) 30 k)) ∧
  ztv (fun k => ν.1 9 (90 + k)) n ∧ (∀ k, k < n → ∃ w, w < ns ∧ ν.1 9 k = nI w) ∧
  ∃ (c hb : Nat), c ≤ 99 ∧ μ.1 11 7 = nI c ∧ ν.1 9 121 = nI c ∧ μ.1 11 9 = nI hb ∧ stk (ν.1 9) hb u n c
theorem rP_of {μ ν : ZMem} {ns n u : Nat} (h : rM μ ν 11 0 ns n u) : rP μ ν ns n u := by
  unfold rM at h
  simp only [Nat.zero_add] at h
  obtain ⟨h1, h2, h3, h4, h5, h6, c, hb, sq, cq, s1, s2, s3, s4, s5, s6, s7, s8⟩ := h
  exact ⟨h1, h2, h3, h4, h5, h6, c, hb, s1, s2, s3, s5, s4, sq, cq, s6, s7, s8⟩
theorem rP_to {μ ν : ZMem} {ns n u : Nat} (h : rP μ ν ns n u) : rM μ ν 11 0 ns n u := by
  obtain ⟨h1, h2, h3, h4, h5, h6, c, hb, s1, s2, s3, s5, s4, sq, cq, s6, s7, s8⟩ := h
  unfold rM
  simp only [Nat.zero_add]
  exact ⟨h1, h2, h3, h4, h5, h6, c, hb, sq, cq, s1, s2, s3, s4, s5, s6, s7, s8⟩
/-- one more to undo -/
def hbN (hb b : Nat) : Nat := ((hb <<< 1) ||| b) &&& 4095
theorem hbN_lt (hb b : Nat) : hbN hb b < 4096 := Nat.lt_of_le_of_lt Nat.and_le_right (by omega)
theorem hbN_0 {hb b : Nat} (h : b < 2) : (hbN hb b).testBit 0 = decide (b = 1) := by
  unfold hbN
  rw [Nat.testBit_and, Nat.testBit_or, Nat.testBit_shiftLeft]
  have : b = 0 ∨ b = 1 := by omega
  rcases this with rfl | rfl <;> simp
theorem hbN_s {hb b j : Nat} (h : b < 2) (hj : j < 11) : (hbN hb b).testBit (j + 1) = hb.testBit j := by
  unfold hbN
  rw [Nat.testBit_and, Nat.testBit_or, Nat.testBit_shiftLeft, show (4095 : Nat) = 2 ^ 12 - 1 by decide, Nat.testBit_two_pow_sub_one]
  have h2 : b.testBit (j + 1) = false := Nat.testBit_lt_two_pow (Nat.lt_of_lt_of_le h (Nat.pow_le_pow_right (n := 2) (i := 1) (by omega) (by omega)))
  rw [h2]
  simp
  omega
theorem hbN_eq {hb b : Nat} (h : b < 2) : ((nI hb <<< ((1 : Int32) &&& 31)) ||| nI b) &&& 4095 = nI (hbN hb b) := by
  apply b_ext
  intro i hi
  rw [b_and, b_or, show (1 : Int32) &&& 31 = nI 1 &&& 31 from rfl, b_shl 1 (by omega) _ hi, show (4095 : Int32) = nI 4095 from rfl, b_nI 4095 hi, b_nI b hi, b_nI _ hi]
  unfold hbN
  rw [Nat.testBit_and, Nat.testBit_or, Nat.testBit_shiftLeft]
  by_cases h1 : 1 ≤ i
  · rw [b_nI hb (show i - 1 < 32 by omega)]
  · simp [h1]
theorem stk_push {N : Nat → Int32} {hb u n c b n' c' : Nat} (h : stk N hb u n c) (hu : u ≤ 12) (hn : N 120 = nI n) (hc : N 121 = nI c) (hb2 : b < 2) (hst : if b = 1 then n' = n ∧ c' = c + 1 else n' = n + 1 ∧ c' = c) {N' : Nat → Int32} (hN : ∀ i, 123 ≤ i → i < 147 → N' i = zknw N u i) : stk N' (hbN hb b) (if u + 1 < 12 then u + 1 else 12) n' c' := by
  obtain ⟨h1, sq, cq, h2, h3, h4⟩ := h
  refine ⟨hbN_lt _ _, ?_⟩
  by_cases h12 : u = 12
  · subst h12
    rw [if_neg (by omega)]
    refine ⟨fun i => if i = 12 then n' else sq (i + 1), fun i => if i = 12 then c' else cq (i + 1), if_pos rfl, if_pos rfl, ?_⟩
    intro i hi
    dsimp only
    rw [hN _ (by omega) (by omega), hN _ (by omega) (by omega)]
    unfold zknw
    rw [if_pos rfl]
    by_cases h11 : i = 11
    · subst h11
      have e1 : zkt (upd (zshf N 22) 122 (nI 11)) 11 (123 + 2 * 11) = N 120 := by
        simp [zkt, upd, zshf]
      have e2 : zkt (upd (zshf N 22) 122 (nI 11)) 11 (123 + 2 * 11 + 1) = N 121 := by
        simp [zkt, upd, zshf]
      rw [e1, e2]
      refine ⟨?_, ?_, ?_⟩
      · rw [hn]; simp [h2]
      · rw [hc]; simp [h3]
      · rw [show 12 - 1 - 11 = 0 by omega, hbN_0 hb2]
        by_cases c1 : b = 1
        · rw [if_pos c1] at hst
          rw [if_pos (decide_eq_true c1)]
          simp [h2, h3, hst.1, hst.2]
        · rw [if_neg c1] at hst
          rw [if_neg (by simp [c1])]
          simp [h2, h3, hst.1, hst.2]
    · have e1 : zkt (upd (zshf N 22) 122 (nI 11)) 11 (123 + 2 * i) = N (123 + 2 * (i + 1)) := by
        unfold zkt
        rw [show ∀ (g : Nat → Int32) k v j, upd g k v j = if j = k then v else g j from fun _ _ _ _ => rfl]
        rw [if_neg (by omega)]
        rw [show ∀ (g : Nat → Int32) k v j, upd g k v j = if j = k then v else g j from fun _ _ _ _ => rfl]
        rw [if_neg (by omega)]
        rw [show ∀ (g : Nat → Int32) k v j, upd g k v j = if j = k then v else g j from fun _ _ _ _ => rfl]
        rw [if_neg (by omega)]
        rw [show ∀ (g : Nat → Int32) k v j, upd g k v j = if j = k then v else g j from fun _ _ _ _ => rfl]
        rw [if_neg (by omega)]
        unfold zshf
        rw [if_pos ⟨by omega, by omega⟩]
        rfl
      have e2 : zkt (upd (zshf N 22) 122 (nI 11)) 11 (123 + 2 * i + 1) = N (123 + 2 * (i + 1) + 1) := by
        unfold zkt
        rw [show ∀ (g : Nat → Int32) k v j, upd g k v j = if j = k then v else g j from fun _ _ _ _ => rfl]
        rw [if_neg (by omega)]
        rw [show ∀ (g : Nat → Int32) k v j, upd g k v j = if j = k then v else g j from fun _ _ _ _ => rfl]
        rw [if_neg (by omega)]
        rw [show ∀ (g : Nat → Int32) k v j, upd g k v j = if j = k then v else g j from fun _ _ _ _ => rfl]
        rw [if_neg (by omega)]
        rw [show ∀ (g : Nat → Int32) k v j, upd g k v j = if j = k then v else g j from fun _ _ _ _ => rfl]
        rw [if_neg (by omega)]
        unfold zshf
        rw [if_pos ⟨by omega, by omega⟩]
        rfl
      obtain ⟨q1, q2, q3⟩ := h4 (i + 1) (by omega)
      rw [e1, e2, q1, q2]
      rw [show 12 - 1 - (i + 1) = 10 - i by omega] at q3
      rw [show 12 - 1 - i = (10 - i) + 1 by omega, hbN_s hb2 (by omega)]
      refine ⟨by rw [if_neg (by omega)], by rw [if_neg (by omega)], ?_⟩
      rw [if_neg (show ¬ i = 12 by omega), if_neg (show ¬ i = 12 by omega), if_neg (show ¬ i + 1 = 12 by omega), if_neg (show ¬ i + 1 = 12 by omega)]
      exact q3
  · have eu : (if u + 1 < 12 then u + 1 else 12) = u + 1 := by split <;> omega
    rw [eu]
    refine ⟨fun i => if i = u + 1 then n' else sq i, fun i => if i = u + 1 then c' else cq i, if_pos rfl, if_pos rfl, ?_⟩
    intro i hi
    dsimp only
    rw [hN _ (by omega) (by omega), hN _ (by omega) (by omega)]
    unfold zknw
    rw [if_neg h12]
    by_cases hiu : i = u
    · subst hiu
      have e1 : zkt N i (123 + 2 * i) = N 120 := by simp [zkt, upd]; omega
      have e2 : zkt N i (123 + 2 * i + 1) = N 121 := by simp [zkt, upd]; omega
      rw [e1, e2]
      refine ⟨?_, ?_, ?_⟩
      · rw [hn, if_neg (by omega), h2]
      · rw [hc, if_neg (by omega), h3]
      · rw [show i + 1 - 1 - i = 0 by omega, hbN_0 hb2]
        by_cases c1 : b = 1
        · rw [if_pos c1] at hst
          rw [if_pos (decide_eq_true c1)]
          simp [h2, h3, hst.1, hst.2]
        · rw [if_neg c1] at hst
          rw [if_neg (by simp [c1])]
          simp [h2, h3, hst.1, hst.2]
    · have e1 : zkt N u (123 + 2 * i) = N (123 + 2 * i) := by
        unfold zkt
        rw [show ∀ (g : Nat → Int32) k v j, upd g k v j = if j = k then v else g j from fun _ _ _ _ => rfl]
        rw [if_neg (by omega)]
        rw [show ∀ (g : Nat → Int32) k v j, upd g k v j = if j = k then v else g j from fun _ _ _ _ => rfl]
        rw [if_neg (by omega)]
        rw [show ∀ (g : Nat → Int32) k v j, upd g k v j = if j = k then v else g j from fun _ _ _ _ => rfl]
        rw [if_neg (by omega)]
      have e2 : zkt N u (123 + 2 * i + 1) = N (123 + 2 * i + 1) := by
        unfold zkt
        rw [show ∀ (g : Nat → Int32) k v j, upd g k v j = if j = k then v else g j from fun _ _ _ _ => rfl]
        rw [if_neg (by omega)]
        rw [show ∀ (g : Nat → Int32) k v j, upd g k v j = if j = k then v else g j from fun _ _ _ _ => rfl]
        rw [if_neg (by omega)]
        rw [show ∀ (g : Nat → Int32) k v j, upd g k v j = if j = k then v else g j from fun _ _ _ _ => rfl]
        rw [if_neg (by omega)]
      obtain ⟨q1, q2, q3⟩ := h4 i (by omega)
      rw [e1, e2, q1, q2]
      rw [show u + 1 - 1 - i = (u - 1 - i) + 1 by omega, hbN_s hb2 (by omega)]
      refine ⟨by rw [if_neg (by omega)], by rw [if_neg (by omega)], ?_⟩
      rw [if_neg (show ¬ i = u + 1 by omega), if_neg (show ¬ i = u + 1 by omega), if_neg (show ¬ i + 1 = u + 1 by omega), if_neg (show ¬ i + 1 = u + 1 by omega)]
      exact q3
theorem zknw_122 {N : Nat → Int32} {u : Nat} (hu : u ≤ 12) : zknw N u 122 = nI (if u + 1 < 12 then u + 1 else 12) := by
  unfold zknw
  by_cases h : u = 12
  · subst h; rw [if_pos rfl, if_neg (by omega)]; rfl
  · rw [if_neg h, show (if u + 1 < 12 then u + 1 else 12) = u + 1 by split <;> omega, nI_succ]
    rfl

/-! ===== same answers: the calls that look ===== -/
theorem zin_cases (m : Nat) (hm : m ≤ 300) (w : Int32) : (w < 0 ∨ nI m ≤ w) ∨ ∃ j, j < m ∧ w = nI j := by
  rcases zsw_cases m w (by omega) with ⟨q, hq, e⟩ | ho
  · exact Or.inr ⟨q, hq, e⟩
  · left
    rcases ho with h | h
    · left; exact Int32.lt_iff_toInt_lt.mpr (by simpa using h)
    · right; apply Int32.le_iff_toInt_le.mpr; rw [nI_toInt (by omega)]; omega
theorem zrt_le {t : Nat → Int32} {n : Nat} (h30 : n ≤ 30) (hv : ztv t n) : ∀ m k, k < n → zrt t m k ≤ k := by
  intro m
  induction m with
  | zero => intro k _; exact Nat.le_refl _
  | succ m ih =>
    intro k hk
    rcases hv k hk with q | ⟨j, hj, q⟩
    · rw [zrt_s q]; exact Nat.le_refl _
    · rw [zrt_a (by omega) q]
      have := ih j (by omega)
      omega
theorem zroot_iff {t : Nat → Int32} {n k : Nat} (h30 : n ≤ 30) (hv : ztv t n) (hk : k < n) {r : Int32} (e : r = nI (zrt t 30 k)) : r = nI k ↔ t k = -9 := by
  rcases hv k hk with q | ⟨j, hj, q⟩
  · rw [e, zrt_s q]; exact ⟨fun _ => q, fun _ => rfl⟩
  · rw [e, zrt_step h30 hv hk hj q]
    have hle := zrt_le h30 hv 30 j (by omega)
    constructor
    · intro w
      have := (nI_eq (by omega) (by omega)).mp w
      omega
    · intro w
      rw [q] at w
      exact absurd w (nI_ne9 (by omega))
theorem rM_w {μ ν : ZMem} {b o ns n u : Nat} (h : rM μ ν b o ns n u) : ∀ k, k < n → μ.1 (b + 1) k = ν.1 9 (o + k) := fun k hk => (h.2.2.1 k hk).1
theorem rM_a {μ ν : ZMem} {b o ns n u : Nat} (h : rM μ ν b o ns n u) : ∀ k, k < n → μ.1 (b + 2) k = ν.1 9 (o + (30 + k)) := fun k hk => (h.2.2.1 k hk).2.1
theorem rM_b {μ ν : ZMem} {b o ns n u : Nat} (h : rM μ ν b o ns n u) : ∀ k, k < n → μ.1 (b + 3) k = ν.1 9 (o + (60 + k)) := fun k hk => (h.2.2.1 k hk).2.2.1
theorem rM_t {μ ν : ZMem} {b o ns n u : Nat} (h : rM μ ν b o ns n u) : ∀ k, k < n → μ.1 (b + 4) k = ν.1 9 (o + (90 + k)) := fun k hk => (h.2.2.1 k hk).2.2.2
theorem rM_7 {μ ν : ZMem} {b o ns n u : Nat} (h : rM μ ν b o ns n u) : μ.1 b 7 = ν.1 9 (o + 121) := by
  obtain ⟨-, -, -, -, -, -, c, hb, sq, cq, -, s2, s3, -⟩ := h
  exact s2.trans s3.symm
/-- the memory's present, as the reference has it -/
theorem pM {μ ν : ZMem} {ns n u : Nat} (h : rM μ ν 11 0 ns n u) :
    zmN μ n ∧ znM ν n ∧ (∀ k, k < n → μ.1 12 k = ν.1 9 k) ∧ (∀ k, k < n → μ.1 13 k = ν.1 9 (30 + k)) ∧ (∀ k, k < n → μ.1 14 k = ν.1 9 (60 + k)) ∧ (∀ k, k < n → μ.1 15 k = ν.1 9 (90 + k)) ∧ (∀ k, k < n → μ.1 16 k = nI (zrt (fun k => ν.1 9 (90 + k)) 30 k)) ∧ (∀ k, k < n → μ.1 17 k = nI (zfr (fun k => ν.1 9 (90 + k)) 30 k)) ∧ ztv (fun k => ν.1 9 (90 + k)) n ∧ (∀ k, k < n → ∃ w, w < ns ∧ ν.1 9 k = nI w) ∧ μ.1 11 7 = ν.1 9 121 ∧ μ.1 11 8 = ν.1 9 122 := by
  have e0 : ∀ k, ν.1 9 (0 + k) = ν.1 9 k := fun k => by rw [Nat.zero_add]
  have e1 : (fun k => ν.1 9 (0 + (90 + k))) = fun k => ν.1 9 (90 + k) := funext fun k => e0 _
  have h7 := rM_7 h
  obtain ⟨⟨a1, a2, a3⟩, ⟨b1, b2, b3⟩, hc, hr, hv, hw, -⟩ := h
  rw [e1] at hr hv
  rw [e0] at a2 b2 h7
  refine ⟨⟨a1, a3⟩, ⟨a2, a3⟩, fun k hk => ((hc k hk).1).trans (e0 _), fun k hk => ((hc k hk).2.1).trans (e0 _), fun k hk => ((hc k hk).2.2.1).trans (e0 _), fun k hk => ((hc k hk).2.2.2).trans (e0 _), fun k hk => (hr k hk).1, fun k hk => (hr k hk).2, hv, fun k hk => ?_, h7, b1.trans b2.symm⟩
  obtain ⟨w, q1, q2⟩ := hw k hk
  exact ⟨w, q1, (e0 k).symm.trans q2⟩
theorem e_trace {μ ν : ZMem} (h : R μ ν) : ∃ v : Int64, Sp layC mX3_trace 0 [.ref 0] μ (some (.long v)) μ ∧ Sp layM mX4_trace 0 [.ref 0] ν (some (.long v)) ν := by
  obtain ⟨T, ns, np, n, u, f, hT, hD, hM, hF, hX, hK0, hK1, htr⟩ := id h
  exact ⟨_, spC_trace, Sp.eq spM_trace (by rw [htr]) rfl⟩
theorem e_count {μ ν : ZMem} (h : R μ ν) (what : Int32) : E2 mX3_count mX4_count 0 0 [.ref 0, .int what] μ ν := by
  obtain ⟨T, ns, np, n, u, f, ⟨rfl, hT⟩, hD, hM, hF, ⟨x, t, hx1, hx2⟩, hK0, hK1, htr⟩ := id h
  obtain ⟨p1, p2, p3, p4, p5, p6, p7, p8, p9, p10, p11, p12⟩ := pM hM
  refine E2.of (spC_count hD.1.1 what) (Sp.eq (spM_count what) ?_ rfl) h
  rw [hD.1.2.1, hD.2.1.2.1, hD.2.2.2.2.1, hF.1, p12, hx1.1, hD.2.2.1.1, hD.2.2.2.1.1, hF.2.1, hx2.1]
theorem e_saying {μ ν : ZMem} (h : R μ ν) (w what : Int32) : E2 mX3_saying mX4_saying 1 2 [.ref 0, .int w, .int what] μ ν := by
  obtain ⟨T, ns, np, n, u, f, ⟨rfl, hT⟩, hD, hM, hF, hX, hK0, hK1, htr⟩ := id h
  obtain ⟨p1, p2, p3, p4, p5, p6, p7, p8, p9, p10, p11, p12⟩ := pM hM
  obtain ⟨d1, d2, d3, d4, d5, d6, d7, d8, d9, d10, d11, d12, d13⟩ := hD
  rcases zin_cases ns (by have := d1.2.2; omega) w with hw | ⟨j, hj, rfl⟩
  · exact E2.of (spC_saying_bad d1 hw what) (spM_saying_bad d3 hw what) h
  · refine E2.of (spC_saying d1 d2 p1 hj what) (Sp.eq (spM_saying d3 d4 p2 hj what) ?_ rfl) h
    have e1 : zkn (μ.1 (μ.2.2 0 1 + 3)) (nI j) np = zkn (ν.1 7) (nI j) np := zfold_congr (fun k hk x => by rw [d10 k hk])
    have e2 : zfold (fun k a => if μ.1 12 k = nI j then a + 1 else a) 0 n = zfold (fun k a => if ν.1 9 k = nI j then a + 1 else a) 0 n := zfold_congr (fun k hk x => by rw [p3 k hk])
    rw [d6, d8 j hj, d9 j hj, e1, e2]
theorem e_person {μ ν : ZMem} (h : R μ ν) (w what : Int32) : E2 mX3_person mX4_person 4 2 [.ref 0, .int w, .int what] μ ν := by
  obtain ⟨T, ns, np, n, u, f, ⟨rfl, hT⟩, hD, hM, hF, hX, hK0, hK1, htr⟩ := id h
  obtain ⟨p1, p2, p3, p4, p5, p6, p7, p8, p9, p10, p11, p12⟩ := pM hM
  obtain ⟨d1, d2, d3, d4, d5, d6, d7, d8, d9, d10, d11, d12, d13⟩ := hD
  have h5 := d2.2.2
  have h8 := d1.2.2
  rcases zin_cases np (by omega) w with hw | ⟨j, hj, rfl⟩
  · exact E2.of (spC_person_bad d2 hw what) (spM_person_bad d4 (Or.inl hw)) h
  · have e2 : zfold (fun k a => if μ.1 14 k = nI j then a + 1 else a) 0 n = zfold (fun k a => if ν.1 9 (60 + k) = nI j then a + 1 else a) 0 n := zfold_congr (fun k hk x => by rw [p5 k hk])
    have e3 : zthere (μ.1 12) (μ.1 13) (μ.1 11 7 + 0) (μ.1 (μ.2.2 0 1) 5) n = zthere (ν.1 9) (fun k => ν.1 9 (30 + k)) (ν.1 9 121) (ν.1 8 0) n := by
      rw [p11, d5, Int32.add_zero]; exact zthere_congr p3 p4
    have e4 : μ.1 (μ.2.2 0 1 + 3) j &&& zan (μ.1 (μ.2.2 0 1) 8) (μ.1 (μ.2.2 0 1 + 2)) (zthere (μ.1 12) (μ.1 13) (μ.1 11 7 + 0) (μ.1 (μ.2.2 0 1) 5) n) ns = zmay (ν.1 7 j) (ν.1 5 0) (ν.1 4) (zthere (ν.1 9) (fun k => ν.1 9 (30 + k)) (ν.1 9 121) (ν.1 8 0) n) ns := by
      rw [e3, d10 j hj, d7, zan_congr d9, zmay_an h8 h5 hj]
    have hc := spC_person d1 d2 p1 hj what
    rw [e4, e2, d10 j hj] at hc
    rcases zin_cases 3 (by omega) what with hw | ⟨q, hq, rfl⟩
    · refine E2.of (Sp.eq hc ?_ rfl) (spM_person_bad d4 (Or.inr ⟨⟨j, hj, rfl⟩, hw.imp id (fun q => ?_)⟩)) h
      · rw [zsel_out]
        rcases hw with q | q
        · left; simpa using Int32.lt_iff_toInt_lt.mp q
        · right
          have := Int32.le_iff_toInt_le.mp q
          rw [nI_toInt (by omega)] at this
          show (3 : Int) - 1 < _
          omega
      · exact Int32.lt_of_lt_of_le (by decide) q
    · refine E2.of hc (Sp.eq (spM_person d3 d4 p2 hj (nI_pos (by omega)) (nI_nlt (a := 2) (by omega) (by decide))) ?_ rfl) h
      rw [zsel_at _ _ (by omega)]
      match q, hq with
      | 0, _ => rfl
      | 1, _ => rfl
      | 2, _ => rfl
theorem e_talk {μ ν : ZMem} (h : R μ ν) (w what : Int32) : E2 mX3_talk mX4_talk 2 1 [.ref 0, .int w, .int what] μ ν := by
  obtain ⟨T, ns, np, n, u, f, ⟨rfl, hT⟩, hD, hM, hF, hX, hK0, hK1, htr⟩ := id h
  obtain ⟨p1, p2, p3, p4, p5, p6, p7, p8, p9, p10, p11, p12⟩ := pM hM
  obtain ⟨d1, d2, d3, d4, d5, d6, d7, d8, d9, d10, d11, d12, d13⟩ := hD
  have h30 := p1.2
  rcases zin_cases n (by omega) w with hw | ⟨j, hj, rfl⟩
  · exact E2.of (spC_talk_bad p1 hw what) (spM_talk_bad p2 hw what) h
  · refine E2.of (spC_talk d1.1 p1 hj what) (Sp.eq (spM_talk p2 p9 hj what) ?_ rfl) h
    rw [p3 j hj, p4 j hj, p5 j hj, p6 j hj, p7 j hj, p8 j hj, zfa_congr p6, p11, d5, Int32.add_zero]
theorem e_worth {μ ν : ZMem} (h : R μ ν) (i : Int32) : E2 mX3_worth mX4_worth 2 1 [.ref 0, .int i] μ ν := by
  obtain ⟨T, ns, np, n, u, f, ⟨rfl, hT⟩, hD, hM, hF, hX, hK0, hK1, htr⟩ := id h
  obtain ⟨p1, p2, p3, p4, p5, p6, p7, p8, p9, p10, p11, p12⟩ := pM hM
  obtain ⟨d1, d2, d3, d4, d5, d6, d7, d8, d9, d10, d11, d12, d13⟩ := hD
  have h30 := p1.2
  rcases zin_cases n (by omega) i with hw | ⟨k, hk, rfl⟩
  · exact E2.of (spC_worth_bad p1 (Or.inl hw)) (spM_worth_bad p2 (Or.inl hw)) h
  · have hroot : μ.1 16 k = nI k ↔ ν.1 9 (90 + k) = -9 := zroot_iff h30 p9 hk (p7 k hk)
    by_cases hr : ν.1 9 (90 + k) = -9
    · refine E2.of (spC_worth d1 p1 hk (hroot.mpr hr) (fun j hj => by rw [p3 j hj]; exact p10 j hj)) (Sp.eq (spM_worth d3.2 p2 p9 hk hr p10) ?_ rfl) h
      unfold zwo
      refine congrArg (fun z => some (Value.int z)) (zfold_congr (fun j hj x => ?_))
      obtain ⟨w, hw, e⟩ := p10 j hj
      rw [p7 j hj, p3 j hj, e, nI_clamp (by have := d1.2.2; omega), d8 w hw]
    · exact E2.of (spC_worth_bad p1 (Or.inr ⟨k, hk, rfl, fun q => hr (hroot.mp q)⟩)) (spM_worth_bad p2 (Or.inr ⟨k, hk, rfl, hr⟩)) h
theorem zopen_last {t : Nat → Int32} {n : Nat} (h30 : n ≤ 30) (hv : ztv t n) : zlf (fun k => decide (zfa t n (nI k) = -9)) n = if n = 0 then -9 else nI (n - 1) := by
  cases n with
  | zero => rfl
  | succ m =>
    rw [if_neg (by omega), show m + 1 - 1 = m by omega]
    have : zfa t (m + 1) (nI m) = -9 := by
      unfold zfa
      rcases zff_cases (fun k => decide (t k = nI m)) (m + 1) 0 with q | ⟨j, -, hj, -, hp⟩
      · exact q
      · exfalso
        have hp2 : t j = nI m := by simpa using hp
        rcases hv j (by omega) with q | ⟨i, hi, q⟩
        · rw [q] at hp2; exact nI_ne9 (show m < 2 ^ 31 by omega) hp2.symm
        · rw [q] at hp2
          have := (nI_eq (by omega) (by omega)).mp hp2
          omega
    show (if decide (zfa t (m + 1) (nI m) = -9) = true then nI m else _) = nI m
    rw [if_pos (decide_eq_true this)]
theorem e_now {μ ν : ZMem} (h : R μ ν) (what : Int32) : E2 mX3_now mX4_now 4 3 [.ref 0, .int what] μ ν := by
  obtain ⟨T, ns, np, n, u, f, ⟨rfl, hT⟩, hD, hM, hF, hX, hK0, hK1, htr⟩ := id h
  obtain ⟨p1, p2, p3, p4, p5, p6, p7, p8, p9, p10, p11, p12⟩ := pM hM
  obtain ⟨d1, d2, d3, d4, d5, d6, d7, d8, d9, d10, d11, d12, d13⟩ := hD
  have h5 := d2.2.2
  have h8 := d1.2.2
  have h30 := p1.2
  refine E2.of (spC_now d1 p1 what) (Sp.eq (spM_now d3 d4 p2 p9 what) ?_ rfl) h
  have e1 : zthere (μ.1 12) (μ.1 13) (μ.1 11 7 + 0) (μ.1 (μ.2.2 0 1) 5) n = zthere (ν.1 9) (fun k => ν.1 9 (30 + k)) (ν.1 9 121) (ν.1 8 0) n := by
    rw [p11, d5, Int32.add_zero]; exact zthere_congr p3 p4
  have e2 : ∀ i, zfa (μ.1 15) n i = zfa (fun k => ν.1 9 (90 + k)) n i := zfa_congr p6
  have e3 : zfold (fun k a => if zfa (μ.1 15) n (nI k) = -9 then a + 1 else a) 0 n = zfold (fun k a => if zfa (fun k => ν.1 9 (90 + k)) n (nI k) = -9 then a + 1 else a) 0 n := zfold_congr (fun k hk x => by rw [e2])
  have e4 : zbst (μ.1 17) n = zbst (fun k => nI (zfr (fun k => ν.1 9 (90 + k)) 30 k)) n := zbst_congr p8
  have e5 : zlf (fun k => decide (zfa (μ.1 15) n (nI k) = -9)) n = if n = 0 then -9 else nI (n - 1) := by
    rw [← zopen_last h30 p9]
    exact zlf_congr (fun j hj => by rw [e2])
  have e6 : zfas (μ.1 16) (μ.1 15) (μ.1 14) n n = zfasM (fun k => ν.1 9 (90 + k)) (fun k => ν.1 9 (60 + k)) n n := by
    unfold zfas zfasM
    refine zfold_congr (fun k hk x => ?_)
    rw [e2]
    have hr := zroot_iff h30 p9 hk (p7 k hk)
    by_cases c : zfa (fun k => ν.1 9 (90 + k)) n (nI k) = -9
    · rw [if_neg (fun q => q.2 c), if_neg (fun q => q.2 c)]
    · have hz := zff_cases (fun j => decide ((fun k => ν.1 9 (90 + k)) j = nI k)) n 0
      rcases hz with q | ⟨j, -, hj, q, -⟩
      · exact absurd q c
      · have q2 : zfa (fun k => ν.1 9 (90 + k)) n (nI k) = nI j := q
        rw [q2, nI_clamp (by omega), p5 j (by omega)]
        by_cases c2 : ν.1 9 (90 + k) = -9
        · rw [if_pos ⟨hr.mpr c2, nI_ne9 (by omega)⟩, if_pos ⟨c2, nI_ne9 (by omega)⟩]
        · rw [if_neg (fun q => c2 (hr.mp q.1)), if_neg (fun q => c2 q.1)]
  have e7 : zsil (μ.1 (μ.2.2 0 1) 8) (μ.1 (μ.2.2 0 1 + 2)) (μ.1 12) (μ.1 13) (μ.1 11 7) (μ.1 (μ.2.2 0 1) 5) n ns = zff (fun q => decide (zmays (ν.1 7) (ν.1 5 0) (ν.1 4) (zthere (ν.1 9) (fun k => ν.1 9 (30 + k)) (ν.1 9 121 + nI q) (ν.1 8 0) n) ns np = 0)) 0 10 := by
    unfold zsil
    refine zff_congr (fun q _ _ => ?_)
    rw [zmays_an h8 h5, d7, d5, p11, zan_congr d9, zthere_congr p3 p4]
  rw [e1, e3, e4, e5, e6, e7, p11, p1.1, p2.1]

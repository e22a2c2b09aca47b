/-! ===== the relation between both memories ===== -/
def rD (μ ν : ZMem) (T ns np : Nat) : Prop :=
  zdS μ T ns ∧ zdP μ T np ∧ zsM ν ns ∧ zpM ν np ∧ μ.1 T 5 = ν.1 8 0 ∧ μ.1 T 7 = ν.1 5 0 ∧ μ.1 T 8 = zsay (ν.1 7) (ν.1 5 0) np ns ∧ (∀ k, k < ns → μ.1 (T + 1) k = ν.1 3 k) ∧ (∀ k, k < ns → μ.1 (T + 2) k = ν.1 4 k) ∧ (∀ k, k < np → μ.1 (T + 3) k = ν.1 7 k) ∧ (∃ S, S < 2 ^ ns ∧ ν.1 5 0 = nI S) ∧ (∀ k, k < ns → ∃ A, A < 2 ^ ns ∧ ν.1 4 k = nI A) ∧ (∀ k, k < np → ∃ K, K < 2 ^ ns ∧ ν.1 7 k = nI K)
def rM (μ ν : ZMem) (b o ns n u : Nat) : Prop :=
  (μ.1 b 6 = nI n ∧ ν.1 9 (o + 120) = nI n ∧ n ≤ 30) ∧ (μ.1 b 8 = nI u ∧ ν.1 9 (o + 122) = nI u ∧ u ≤ 12) ∧
  (∀ k, k < n → μ.1 (b + 1) k = ν.1 9 (o + k) ∧ μ.1 (b + 2) k = ν.1 9 (o + (30 + k)) ∧ μ.1 (b + 3) k = ν.1 9 (o + (60 + k)) ∧ μ.1 (b + 4) k = ν.1 9 (o + (90 + k))) ∧
  (∀ k, k < n → μ.1 (b + 5) k = nI (zrt (fun k => ν.1 9 (o + (90 + k))) 30 k) ∧ μ.1 (b + 6) k = nI (zfr (fun k => ν.1 9 (o + (90 + k))) 30 k)) ∧
  ztv (fun k => ν.1 9 (o + (90 + k))) n ∧ (∀ k, k < n → ∃ w, w < ns ∧ ν.1 9 (o + k) = nI w) ∧
  ∃ (c hb : Nat) (sq cq : Nat → Nat), c ≤ 99 ∧ μ.1 b 7 = nI c ∧ ν.1 9 (o + 121) = nI c ∧ hb < 4096 ∧ μ.1 b 9 = nI hb ∧ sq u = n ∧ cq u = c ∧
    ∀ i, i < u → ν.1 9 (o + (123 + 2 * i)) = nI (sq i) ∧ ν.1 9 (o + (123 + 2 * i + 1)) = nI (cq i) ∧ (if hb.testBit (u - 1 - i) = true then sq (i + 1) = sq i ∧ cq (i + 1) = cq i + 1 else sq (i + 1) = sq i + 1 ∧ cq (i + 1) = cq i)
def rtl (ta tb : Nat → Int32) (f v : Nat) : Int32 := zfold (fun k x => if tb k = nI v then x ||| (1 <<< (ta k &&& 31)) else x) 0 f
def rF (μ ν : ZMem) (ns f : Nat) : Prop :=
  μ.1 0 7 = nI f ∧ ν.1 0 20 = nI f ∧ f ≤ 6 ∧ (∀ k, k < f → (∃ a, a < ns ∧ ν.1 11 k = nI a) ∧ ∃ b, b < ns ∧ ν.1 12 k = nI b) ∧ ∀ v, v < 8 → μ.1 32 v = rtl (ν.1 11) (ν.1 12) f v
def rK (μ ν : ZMem) (b o q ns : Nat) : Prop := (μ.1 b 10 = 0 ∧ ν.1 10 q = 0) ∨ (μ.1 b 10 = 1 ∧ ν.1 10 q = 1 ∧ ∃ n u, rM μ ν b o ns n u)
def rX (μ ν : ZMem) : Prop := ∃ x t, ztx μ x t ∧ ztm ν x t
def rT (μ : ZMem) (T : Nat) : Prop := μ.2.2 0 1 = T ∧ ((T = 3 ∧ μ.2.2 0 2 = 7) ∨ (T = 7 ∧ μ.2.2 0 2 = 3))
def R (μ ν : ZMem) : Prop := ∃ T ns np n u f, rT μ T ∧ rD μ ν T ns np ∧ rM μ ν 11 0 ns n u ∧ rF μ ν ns f ∧ rX μ ν ∧ rK μ ν 18 147 0 ns ∧ rK μ ν 25 294 1 ns ∧ μ.2.1 0 10 = ν.2.1 0 0
theorem rD_congr {μ ν μ' ν' : ZMem} {T ns np : Nat} (h : rD μ ν T ns np) (h1 : ∀ i, 3 ≤ i → i ≤ 10 → μ'.1 i = μ.1 i) (h2 : ∀ i, 2 ≤ i → i ≤ 8 → ν'.1 i = ν.1 i) : rD μ' ν' T ns np := by
  have hT : T = 3 ∨ T = 7 := h.1.1
  unfold rD zdS zdP zsM zpM at *
  rw [h1 T (by omega) (by omega), h1 (T + 1) (by omega) (by omega), h1 (T + 2) (by omega) (by omega), h1 (T + 3) (by omega) (by omega), h2 8 (by omega) (by omega), h2 5 (by omega) (by omega), h2 7 (by omega) (by omega), h2 3 (by omega) (by omega), h2 4 (by omega) (by omega), h2 2 (by omega) (by omega), h2 6 (by omega) (by omega)]
  exact h
theorem zrt_congr {t t' : Nat → Int32} {n : Nat} (h30 : n ≤ 30) (hv : ztv t n) (h : ∀ k, k < n → t' k = t k) : ∀ m k, k < n → zrt t' m k = zrt t m k ∧ zfr t' m k = zfr t m k := by
  intro m
  induction m with
  | zero => intro k _; exact ⟨rfl, rfl⟩
  | succ m ih =>
    intro k hk
    have e := h k hk
    rcases hv k hk with q | ⟨j, hj, q⟩
    · rw [zrt_s (e.trans q), zrt_s q, zfr_s (e.trans q), zfr_s q]; exact ⟨rfl, rfl⟩
    · rw [zrt_a (by omega) (e.trans q), zrt_a (by omega) q, zfr_a (by omega) (e.trans q), zfr_a (by omega) q, (ih j (by omega)).1, (ih j (by omega)).2]; exact ⟨rfl, rfl⟩
theorem rM_congr {μ ν μ' ν' : ZMem} {b o ns n u : Nat} (h : rM μ ν b o ns n u) (h0 : ∀ j, 6 ≤ j → j ≤ 9 → μ'.1 b j = μ.1 b j) (h1 : ∀ i, 1 ≤ i → i ≤ 6 → ∀ k, k < 30 → μ'.1 (b + i) k = μ.1 (b + i) k) (h2 : ∀ j, j < 147 → ν'.1 9 (o + j) = ν.1 9 (o + j)) : rM μ' ν' b o ns n u := by
  obtain ⟨⟨a1, a2, a3⟩, ⟨b1, b2, b3⟩, hc, hr, hv, hw, c, hb, sq, cq, s1, s2, s3, s4, s5, s6, s7, s8⟩ := h
  have zr := zrt_congr (t' := fun k => ν'.1 9 (o + (90 + k))) a3 hv (fun k hk => h2 (90 + k) (by omega))
  refine ⟨⟨(h0 6 (by omega) (by omega)).trans a1, (h2 120 (by omega)).trans a2, a3⟩, ⟨(h0 8 (by omega) (by omega)).trans b1, (h2 122 (by omega)).trans b2, b3⟩, ?_, ?_, ?_, ?_, c, hb, sq, cq, s1, (h0 7 (by omega) (by omega)).trans s2, (h2 121 (by omega)).trans s3, s4, (h0 9 (by omega) (by omega)).trans s5, s6, s7, ?_⟩
  · intro k hk
    rw [h1 1 (by omega) (by omega) k (by omega), h1 2 (by omega) (by omega) k (by omega), h1 3 (by omega) (by omega) k (by omega), h1 4 (by omega) (by omega) k (by omega), h2 k (by omega), h2 (30 + k) (by omega), h2 (60 + k) (by omega), h2 (90 + k) (by omega)]
    exact hc k hk
  · intro k hk
    rw [h1 5 (by omega) (by omega) k (by omega), h1 6 (by omega) (by omega) k (by omega), (zr 30 k hk).1, (zr 30 k hk).2]
    exact hr k hk
  · intro k hk
    rw [show (fun k => ν'.1 9 (o + (90 + k))) k = (fun k => ν.1 9 (o + (90 + k))) k from h2 (90 + k) (by omega)]
    exact hv k hk
  · intro k hk
    rw [h2 k (by omega)]
    exact hw k hk
  · intro i hi
    rw [h2 (123 + 2 * i) (by omega), h2 (123 + 2 * i + 1) (by omega)]
    exact s8 i hi
theorem rF_congr {μ ν μ' ν' : ZMem} {ns f : Nat} (h : rF μ ν ns f) (h1 : μ'.1 0 7 = μ.1 0 7) (h2 : ∀ v, v < 8 → μ'.1 32 v = μ.1 32 v) (h3 : ν'.1 0 20 = ν.1 0 20) (h4 : ν'.1 11 = ν.1 11) (h5 : ν'.1 12 = ν.1 12) : rF μ' ν' ns f := by
  unfold rF at *
  rw [h1, h3, h4, h5]
  exact ⟨h.1, h.2.1, h.2.2.1, h.2.2.2.1, fun v hv => (h2 v hv).trans (h.2.2.2.2 v hv)⟩
theorem rK_congr {μ ν μ' ν' : ZMem} {b o q ns : Nat} (h : rK μ ν b o q ns) (h0 : ∀ j, 6 ≤ j → j ≤ 10 → μ'.1 b j = μ.1 b j) (h1 : ∀ i, 1 ≤ i → i ≤ 6 → μ'.1 (b + i) = μ.1 (b + i)) (h2 : ∀ j, j < 147 → ν'.1 9 (o + j) = ν.1 9 (o + j)) (h3 : ν'.1 10 q = ν.1 10 q) : rK μ' ν' b o q ns := by
  unfold rK
  rw [h0 10 (by omega) (by omega), h3]
  rcases h with h | ⟨q1, q2, n, u, h⟩
  · exact Or.inl h
  · exact Or.inr ⟨q1, q2, n, u, rM_congr h (fun j a b => h0 j a (by omega)) (fun i a b k _ => congrFun (h1 i a b) k) h2⟩
theorem rX_congr {μ ν μ' ν' : ZMem} (h : rX μ ν) (h1 : μ'.1 1 1 = μ.1 1 1) (h2 : μ'.1 2 = μ.1 2) (h3 : ν'.1 0 2 = ν.1 0 2) (h4 : ν'.1 1 = ν.1 1) : rX μ' ν' := by
  obtain ⟨x, t, q1, q2⟩ := h
  refine ⟨x, t, ?_, ?_⟩
  · unfold ztx at *; rw [h1, h2]; exact q1
  · unfold ztm at *; rw [h3, h4]; exact q2
/-! both come to the same answer, and to memories that go with one another -/
def E2 (mc mm : ZM) (dc dm : Nat) (as : List Value) (μ ν : ZMem) : Prop := ∃ (v : Int32) (PC PM : ZMem → Prop), Spec layC mc dc as μ (fun r m => r = some (.int v) ∧ PC m) ∧ Spec layM mm dm as ν (fun r m => r = some (.int v) ∧ PM m) ∧ ∀ μ' ν', PC μ' → PM ν' → R μ' ν'
theorem E2.of {mc mm : ZM} {dc dm : Nat} {as : List Value} {μ ν μ' ν' : ZMem} {v : Int32} (h1 : Sp layC mc dc as μ (some (.int v)) μ') (h2 : Sp layM mm dm as ν (some (.int v)) ν') (h : R μ' ν') : E2 mc mm dc dm as μ ν :=
  ⟨v, fun m => m = μ', fun m => m = ν', h1, h2, fun a b ha hb => by subst ha; subst hb; exact h⟩

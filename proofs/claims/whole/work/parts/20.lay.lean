/-! ===== the two layouts, folds, and how a contract is begun ===== -/
def zkMo (b : Nat) : List ZK := [(2, b + 1), (2, b + 2), (2, b + 3), (2, b + 4), (2, b + 5), (2, b + 6), (0, 0), (0, 0), (0, 0), (0, 0), (0, 0)]
def zkDu (b : Nat) : List ZK := [(2, b + 1), (2, b + 2), (2, b + 3), (0, 0), (0, 0), (0, 0), (0, 0), (0, 0), (0, 0)]
def layC : List ZE := [
  .inr (3, [(2, 1), (3, 0), (3, 0), (2, 11), (2, 18), (2, 25), (2, 32), (0, 0), (2, 33), (2, 34), (1, 0)]),
  .inr (2, [(2, 2), (0, 0), (0, 0), (0, 0), (0, 0), (0, 0)]), .inl (0, 200),
  .inr (0, [(2, 4), (2, 5), (2, 6), (0, 0), (0, 0), (0, 0), (0, 0), (0, 0), (0, 0)]), .inl (0, 8), .inl (0, 8), .inl (0, 5),
  .inr (0, [(2, 8), (2, 9), (2, 10), (0, 0), (0, 0), (0, 0), (0, 0), (0, 0), (0, 0)]), .inl (0, 8), .inl (0, 8), .inl (0, 5),
  .inr (1, [(2, 12), (2, 13), (2, 14), (2, 15), (2, 16), (2, 17), (0, 0), (0, 0), (0, 0), (0, 0), (0, 0)]), .inl (0, 30), .inl (0, 30), .inl (0, 30), .inl (0, 30), .inl (0, 30), .inl (0, 30),
  .inr (1, [(2, 19), (2, 20), (2, 21), (2, 22), (2, 23), (2, 24), (0, 0), (0, 0), (0, 0), (0, 0), (0, 0)]), .inl (0, 30), .inl (0, 30), .inl (0, 30), .inl (0, 30), .inl (0, 30), .inl (0, 30),
  .inr (1, [(2, 26), (2, 27), (2, 28), (2, 29), (2, 30), (2, 31), (0, 0), (0, 0), (0, 0), (0, 0), (0, 0)]), .inl (0, 30), .inl (0, 30), .inl (0, 30), .inl (0, 30), .inl (0, 30), .inl (0, 30),
  .inl (0, 8), .inl (0, 8), .inl (0, 256)]
def layM : List ZE := [
  .inr (4, [(1, 0), (2, 1), (0, 0), (2, 2), (2, 3), (2, 4), (2, 5), (2, 6), (2, 7), (2, 8), (0, 0), (0, 0), (0, 0), (0, 0), (0, 0), (0, 0), (2, 9), (2, 10), (2, 11), (2, 12), (0, 0), (2, 13)]),
  .inl (1, 200), .inl (0, 2), .inl (0, 16), .inl (0, 16), .inl (0, 2), .inl (0, 2), .inl (0, 10), .inl (0, 2), .inl (0, 441), .inl (2, 2), .inl (0, 6), .inl (0, 6), .inl (0, 256)]
theorem Sp.mk {lay : List ZE} {mt : ZM} {d : Nat} {as : List Value} {μ μ' : ZMem} {v : Option Value} {L : List (Option Value)} (hL : zloc mt.2.2.1 as = L) (hpl : plainName mt.1.cls = true) (hc : (as.all fun v => v.category == 1) = true) (hn : Nat.ble as.length mt.2.2.1 = true)
    (h : ∀ Q : Option Value → ZMem → Prop, Q v μ' → ZW lay mt d Q 0 L [] μ) : Sp lay mt d as μ v μ' := by
  subst hL
  exact Spec.of hpl (fun v hv => by simpa using List.all_eq_true.mp hc v hv) (Nat.le_of_ble_eq_true hn) (h _ ⟨rfl, rfl⟩)
theorem Sp.eq {lay : List ZE} {mt : ZM} {d : Nat} {as : List Value} {μ μ' μ'' : ZMem} {v v' : Option Value} (h : Sp lay mt d as μ v μ') (hv : v = v') (hm : μ' = μ'') : Sp lay mt d as μ v' μ'' := by
  subst hv; subst hm; exact h
/-- the numbers 0 .. n - 1 gone through, one behind another -/
def zfold (g : Nat → Int32 → Int32) (a : Int32) : Nat → Int32
  | 0 => a
  | k + 1 => g k (zfold g a k)
theorem zfold_congr {g g' : Nat → Int32 → Int32} {a : Int32} : ∀ {n : Nat}, (∀ k, k < n → ∀ x, g k x = g' k x) → zfold g a n = zfold g' a n := by
  intro n
  induction n with
  | zero => intro _; rfl
  | succ n ih =>
    intro h
    show g n (zfold g a n) = g' n (zfold g' a n)
    rw [ih (fun k hk x => h k (by omega) x), h n (by omega)]
/-- the first of m numbers from k on that has p; -9: none -/
def zff (p : Nat → Bool) : Nat → Nat → Int32
  | _, 0 => -9
  | k, m + 1 => if p k = true then nI k else zff p (k + 1) m
theorem zff_congr {p p' : Nat → Bool} : ∀ {m k : Nat}, (∀ j, k ≤ j → j < k + m → p j = p' j) → zff p k m = zff p' k m := by
  intro m
  induction m with
  | zero => intro k _; rfl
  | succ m ih =>
    intro k h
    show (if p k = true then nI k else zff p (k + 1) m) = (if p' k = true then nI k else zff p' (k + 1) m)
    rw [h k (Nat.le_refl k) (by omega), ih (k := k + 1) (fun j h1 h2 => h j (by omega) (by omega))]
theorem zff_step {p : Nat → Bool} {n k : Nat} (hk : k < n) : zff p k (n - k) = if p k = true then nI k else zff p (k + 1) (n - (k + 1)) := by
  rw [show n - k = (n - (k + 1)) + 1 by omega]; rfl
theorem zff_end {p : Nat → Bool} {n : Nat} : zff p n (n - n) = -9 := by rw [Nat.sub_self]; rfl
/-- the last of the numbers below n that has p; -9: none -/
def zlf (p : Nat → Bool) : Nat → Int32
  | 0 => -9
  | m + 1 => if p m = true then nI m else zlf p m
theorem zlf_congr {p p' : Nat → Bool} : ∀ {n : Nat}, (∀ j, j < n → p j = p' j) → zlf p n = zlf p' n := by
  intro n
  induction n with
  | zero => intro _; rfl
  | succ n ih =>
    intro h
    show (if p n = true then nI n else zlf p n) = (if p' n = true then nI n else zlf p' n)
    rw [h n (by omega), ih (fun j hj => h j (by omega))]
theorem z_if_eqb {lay : List ZE} {mt : ZM} {d : Nat} {Q : Option Value → ZMem → Prop} {pc : Nat} {L : List (Option Value)} {st : List Value} {μ : ZMem} {c : Prop} [Decidable c] {off : Int} {tgt : Nat} (hd : decode mt.2.1 pc = .ok (.ifCond .eq off, 3)) (ht : (pc : Int) + off = (tgt : Int)) (kt : ¬ c → ZW lay mt d Q tgt L st μ) (kf : c → ZW lay mt d Q (pc + 3) L st μ) : ZW lay mt d Q pc L (.int (if c then 1 else 0) :: st) μ := by
  by_cases hc : c
  · rw [if_pos hc]; exact z_if_eq hd ht (fun h => absurd h (by decide)) (fun _ => kf hc)
  · rw [if_neg hc]; exact z_if_eq hd ht (fun _ => kt hc) (fun h => absurd rfl h)
theorem z_if_neb {lay : List ZE} {mt : ZM} {d : Nat} {Q : Option Value → ZMem → Prop} {pc : Nat} {L : List (Option Value)} {st : List Value} {μ : ZMem} {c : Prop} [Decidable c] {off : Int} {tgt : Nat} (hd : decode mt.2.1 pc = .ok (.ifCond .ne off, 3)) (ht : (pc : Int) + off = (tgt : Int)) (kt : c → ZW lay mt d Q tgt L st μ) (kf : ¬ c → ZW lay mt d Q (pc + 3) L st μ) : ZW lay mt d Q pc L (.int (if c then 1 else 0) :: st) μ := by
  by_cases hc : c
  · rw [if_pos hc]; exact z_if_ne hd ht (fun _ => kt hc) (fun h => absurd h (by decide))
  · rw [if_neg hc]; exact z_if_ne hd ht (fun h => absurd rfl h) (fun _ => kf hc)
theorem zsub1 (x : Int32) : x + (-1) = x - 1 := (Int32.sub_eq_add_neg x 1).symm
theorem z1ne : ¬ (1 : Int32) = 0 := by decide
theorem z0eq : (0 : Int32) = 0 := rfl
theorem z_min {lay : List ZE} {mt : ZM} {d : Nat} {Q : Option Value → ZMem → Prop} {pc : Nat} {L : List (Option Value)} {st : List Value} {μ : ZMem} {idx : Nat} {x y : Int32} (hd : decode mt.2.1 pc = .ok (.invokestatic idx, 3)) (hlk : Cond.methodLink mt.1.cls idx ⟨"java/lang/Math", "min", "(II)I"⟩ ∈ ztbl) (hdp : 1 ≤ d) (hst : (st.map fun v => v.category).sum ≤ 8) (k : ZW lay mt d Q (pc + 3) L (.int (if y < x then y else x) :: st) μ) : ZW lay mt d Q pc L (.int y :: .int x :: st) μ := by
  intro p l e s m args below meth c D ca ad A H locs ls G hP hD hS hL
  have hz := zcats ad st
  exact va_mmin G.1 G.2.1 (by rw [hL.1.1]; exact G.2.2.2.1) G.2.2.2.2.1 (G.2.2.2.2.2.2.1 _ hlk) (G.2.2.2.2.2.2.1 _ zm_1_219) (G.2.2.2.2.2.2.1 _ zm_1_6) (G.2.2.2.2.2.2.1 _ zm_1_220) hdp (by show _ + 13 ≤ d * 30; omega) (Nat.zero_le _) (Nat.zero_le _) hd (k p l e s m args below meth c D ca ad A H locs ls G hP hD hS hL)
theorem zq {Q : Option Value → ZMem → Prop} {v v' : Option Value} {μ : ZMem} (h : Q v μ) (e : v = v') : Q v' μ := e ▸ h
theorem zqm {Q : Option Value → ZMem → Prop} {v v' : Option Value} {μ μ' : ZMem} (h : Q v μ) (e : v = v') (em : μ = μ') : Q v' μ' := by subst e; subst em; exact h
/-- the x-th of a few answers, or d -/
def zsel (l : List Int32) (x d : Int32) : Int32 := if x < 0 then d else l.getD x.toNatClampNeg d
theorem zsel_at (l : List Int32) (d : Int32) {j : Nat} (hj : j < 2 ^ 31) : zsel l (nI j) d = l.getD j d := by
  unfold zsel
  rw [if_neg (nI_pos hj), nI_clamp hj]
theorem zsel_out {l : List Int32} {x d : Int32} (h : x.toInt < 0 ∨ (l.length : Int) - 1 < x.toInt) : zsel l x d = d := by
  unfold zsel
  by_cases hx : x < 0
  · rw [if_pos hx]
  · rw [if_neg hx]
    have h0 : 0 ≤ x.toInt := by
      have := Int32.not_lt.mp hx
      simpa using Int32.le_iff_toInt_le.mp this
    have h1 : x.toNatClampNeg = x.toInt.toNat := rfl
    rw [List.getD_eq_getElem?_getD, List.getElem?_eq_none (by omega)]
    rfl
theorem zsw_cases (n : Nat) (x : Int32) (hn : n < 2 ^ 31) : (∃ j, j < n ∧ x = nI j) ∨ (x.toInt < 0 ∨ (n : Int) - 1 < x.toInt) := by
  rcases pk_ix x hn with h | h | h
  · right; left
    simpa using Int32.lt_iff_toInt_lt.mp h
  · right; right
    have := Int32.le_iff_toInt_le.mp h
    rw [nI_toInt hn] at this
    omega
  · exact Or.inl h

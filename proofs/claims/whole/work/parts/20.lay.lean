/-! ===== the two layouts, folds, and how a contract is begun ===== -/
def zkMo (b : Nat) : List ZK := [(2, b + 1), (2, b + 2), (2, b + 3), (2, b + 4), (2, b + 5), (2, b + 6), (0, 0), (0, 0), (0, 0), (0, 0), (0, 0)]
def zkDu (b : Nat) : List ZK := [(2, b + 1), (2, b + 2), (2, b + 3), (0, 0), (0, 0), (0, 0), (0, 0), (0, 0), (0, 0)]
def layC : List ZE := [
  .inr (3, [(2, 1), (3, 0), (3, 0), (2, 11), (2, 18), (2, 25), (2, 32), (0, 0), (2, 33), (2, 34), (1, 0)]),
  .inr (2, [(2, 2), (0, 0), (0, 0), (0, 0), (0, 0), (0, 0)]), .inl (0, 200),
  .inr (0, zkDu 3), .inl (0, 8), .inl (0, 8), .inl (0, 5),
  .inr (0, zkDu 7), .inl (0, 8), .inl (0, 8), .inl (0, 5),
  .inr (1, zkMo 11), .inl (0, 30), .inl (0, 30), .inl (0, 30), .inl (0, 30), .inl (0, 30), .inl (0, 30),
  .inr (1, zkMo 18), .inl (0, 30), .inl (0, 30), .inl (0, 30), .inl (0, 30), .inl (0, 30), .inl (0, 30),
  .inr (1, zkMo 25), .inl (0, 30), .inl (0, 30), .inl (0, 30), .inl (0, 30), .inl (0, 30), .inl (0, 30),
  .inl (0, 8), .inl (0, 8), .inl (0, 256)]
def layM : List ZE := [
  .inr (4, [(1, 0), (2, 1), (0, 0), (2, 2), (2, 3), (2, 4), (2, 5), (2, 6), (2, 7), (2, 8), (0, 0), (0, 0), (0, 0), (0, 0), (0, 0), (0, 0), (2, 9), (2, 10), (2, 11), (2, 12), (0, 0), (2, 13)]),
  .inl (1, 200), .inl (0, 2), .inl (0, 16), .inl (0, 16), .inl (0, 2), .inl (0, 2), .inl (0, 10), .inl (0, 2), .inl (0, 441), .inl (2, 2), .inl (0, 6), .inl (0, 6), .inl (0, 256)]
theorem Sp.mk {lay : List ZE} {mt : ZM} {d : Nat} {as : List Value} {μ μ' : ZMem} {v : Option Value} {L : List (Option Value)} (hL : zloc mt.2.2.1 as = L) (hpl : plainName mt.1.cls = true) (hc : (as.all fun v => v.category == 1) = true) (hn : Nat.ble as.length mt.2.2.1 = true)
    (h : ∀ Q : Option Value → ZMem → Prop, Q v μ' → ZW lay mt d Q 0 L [] μ) : Sp lay mt d as μ v μ' := by
  subst hL
  exact Spec.of hpl (fun v hv => by simpa using List.all_eq_true.mp hc v hv) (Nat.le_of_ble_eq_true hn) (h _ ⟨rfl, rfl⟩)
theorem Sp.eq {lay : List ZE} {mt : ZM} {d : Nat} {as : List Value} {μ μ' μ'' : ZMem} {v v' : Option Value} (h : Sp lay mt d as μ v μ') (hv : v = v') (hm : μ' = μ'') : Sp lay mt d as μ v' μ'' := by
  subst hv; subst hm; exact h
/-- the numbers 0 .. n - 1 gone through, one behind another -/
def zfold (g : Nat → Int32 → Int32) (a : Int32) : Nat → Int32
  | 0 => a
  | k + 1 => g k (zfold g a k)
theorem zfold_congr {g g' : Nat → Int32 → Int32} {a : Int32} : ∀ {n : Nat}, (∀ k, k < n → ∀ x, g k x = g' k x) → zfold g a n = zfold g' a n := by
  intro n
  induction n with
  | zero => intro _; rfl
  | succ n ih =>
    intro h
    show g n (zfold g a n) = g' n (zfold g' a n)
    rw [ih (fun k hk x => h k (by omega) x), h n (by omega)]
/-- the first of m numbers from k on that has p; -9: none -/
def zff (p : Nat → Bool) : Nat → Nat → Int32
  | _, 0 => -9
  | k, m + 1 => if p k = true then nI k else zff p (k + 1) m
theorem zff_congr {p p' : Nat → Bool} : ∀ {m k : Nat}, (∀ j, k ≤ j → j < k + m → p j = p' j) → zff p k m = zff p' k m := by
  intro m
  induction m with
  | zero => intro k _; rfl
  | succ m ih =>
    intro k h
    show (if p k = true then nI k else zff p (k + 1) m) = (if p' k = true then nI k else zff p' (k + 1) m)
    rw [h k (Nat.le_refl k) (by omega), ih (k := k + 1) (fun j h1 h2 => h j (by omega) (by omega))]
theorem zff_step {p : Nat → Bool} {n k : Nat} (hk : k < n) : zff p k (n - k) = if p k = true then nI k else zff p (k + 1) (n - (k + 1)) := by
  rw [show n - k = (n - (k + 1)) + 1 by omega]; rfl
theorem zff_end {p : Nat → Bool} {n : Nat} : zff p n (n - n) = -9 := by rw [Nat.sub_self]; rfl
/-- the last of the numbers below n that has p; -9: none -/
def zlf (p : Nat → Bool) : Nat → Int32
  | 0 => -9
  | m + 1 => if p m = true then nI m else zlf p m
theorem zlf_congr {p p' : Nat → Bool} : ∀ {n : Nat}, (∀ j, j < n → p j = p' j) → zlf p n = zlf p' n := by
  intro n
  induction n with
  | zero => intro _; rfl
  | succ n ih =>
    intro h
    show (if p n = true then nI n else zlf p n) = (if p' n = true then nI n else zlf p' n)
    rw [h n (by omega), ih (fun j hj => h j (by omega))]

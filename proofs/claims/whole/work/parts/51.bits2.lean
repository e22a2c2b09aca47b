/-! ===== sets as bits ===== -/
theorem b_eq0 {x : Int32} : x = 0 ↔ ∀ i, i < 32 → bt x i = false := by
  constructor
  · intro h i _; rw [h]; exact b_0 i
  · intro h; exact b_ext (fun i hi => by rw [h i hi, b_0])
theorem b_ne0 {x : Int32} : ¬ x = 0 ↔ ∃ i, i < 32 ∧ bt x i = true := by
  constructor
  · intro h
    apply Classical.byContradiction
    intro q
    apply h
    apply b_eq0.mpr
    intro i hi
    cases hb : bt x i with
    | false => rfl
    | true => exact absurd ⟨i, hi, hb⟩ q
  · rintro ⟨i, hi, hb⟩ h
    rw [h, b_0] at hb
    cases hb
theorem b_nI (n : Nat) {i : Nat} (hi : i < 32) : bt (nI n) i = n.testBit i := by
  unfold bt nI
  simp only [Int32.toBitVec_ofNat', BitVec.getLsbD_ofNat]
  simp [hi]
/-- a set gathered by a property -/
theorem b_fset {P : Nat → Prop} [DecidablePred P] : ∀ m, m ≤ 32 → ∀ i, i < 32 → bt (zfold (fun k a => if P k then a ||| (1 <<< (nI k &&& 31)) else a) 0 m) i = decide (i < m ∧ P i) := by
  intro m
  induction m with
  | zero => intro _ i _; show bt 0 i = _; rw [b_0]; simp
  | succ m ih =>
    intro hm i hi
    show bt (if P m then zfold (fun k a => if P k then a ||| (1 <<< (nI k &&& 31)) else a) 0 m ||| (1 <<< (nI m &&& 31)) else zfold (fun k a => if P k then a ||| (1 <<< (nI k &&& 31)) else a) 0 m) i = _
    have h1 := ih (by omega) i hi
    by_cases c : P m
    · rw [if_pos c, b_or, h1, b_one (by omega) hi]
      by_cases e : i = m
      · subst e; simp [c]
      · have e1 : (i < m + 1) = (i < m) := propext (by omega)
        simp [e, e1]
    · rw [if_neg c, h1]
      by_cases e : i = m
      · subst e; simp [c]
      · have e1 : (i < m + 1) = (i < m) := propext (by omega)
        simp [e1]
/-- a union gathered -/
theorem b_for {g : Nat → Int32} {P : Nat → Prop} [DecidablePred P] : ∀ m i, bt (zfold (fun k a => if P k then a ||| g k else a) 0 m) i = true ↔ ∃ k, k < m ∧ P k ∧ bt (g k) i = true := by
  intro m
  induction m with
  | zero => intro i; show bt 0 i = true ↔ _; rw [b_0]; simp
  | succ m ih =>
    intro i
    show bt (if P m then zfold (fun k a => if P k then a ||| g k else a) 0 m ||| g m else zfold (fun k a => if P k then a ||| g k else a) 0 m) i = true ↔ _
    have h1 := ih i
    by_cases c : P m
    · rw [if_pos c, b_or, Bool.or_eq_true, h1]
      constructor
      · rintro (⟨k, hk, hp, hb⟩ | hb)
        · exact ⟨k, by omega, hp, hb⟩
        · exact ⟨m, by omega, c, hb⟩
      · rintro ⟨k, hk, hp, hb⟩
        by_cases e : k = m
        · subst e; exact Or.inr hb
        · exact Or.inl ⟨k, by omega, hp, hb⟩
    · rw [if_neg c, h1]
      constructor
      · rintro ⟨k, hk, hp, hb⟩; exact ⟨k, by omega, hp, hb⟩
      · rintro ⟨k, hk, hp, hb⟩
        have : k ≠ m := fun e => c (e ▸ hp)
        exact ⟨k, by omega, hp, hb⟩
theorem b_meet {x y : Int32} : ¬ x &&& y = 0 ↔ ∃ i, i < 32 ∧ bt x i = true ∧ bt y i = true := by
  rw [b_ne0]
  constructor
  · rintro ⟨i, hi, h⟩; rw [b_and, Bool.and_eq_true] at h; exact ⟨i, hi, h.1, h.2⟩
  · rintro ⟨i, hi, h1, h2⟩; exact ⟨i, hi, by rw [b_and, h1, h2]; rfl⟩
theorem b_sub {x y : Int32} : x &&& (y ^^^ -1) = 0 ↔ ∀ i, i < 32 → bt x i = true → bt y i = true := by
  rw [b_eq0]
  constructor
  · intro h i hi hx
    have := h i hi
    rw [b_and, b_xor, b_m1 i hi, hx] at this
    simpa using this
  · intro h i hi
    rw [b_and, b_xor, b_m1 i hi]
    cases hx : bt x i with
    | false => rfl
    | true => rw [h i hi hx]; rfl
/-- what a set begins: members -/
theorem b_zan {sa : Int32} {an : Nat → Int32} {base : Int32} {ns : Nat} (h8 : ns ≤ 8) {i : Nat} (hi : i < 32) : bt (zan sa an base ns) i = true ↔ i < ns ∧ bt sa i = true ∧ ¬ an i &&& base = 0 := by
  unfold zan
  rw [b_fset (P := fun k => zbt sa (nI k) ∧ ¬ an k &&& base = 0) ns (by omega) i hi, decide_eq_true_eq]
  constructor
  · rintro ⟨h1, h2, h3⟩; exact ⟨h1, (zk_bt hi).mp h2, h3⟩
  · rintro ⟨h1, h2, h3⟩; exact ⟨h1, (zk_bt hi).mpr h2, h3⟩
theorem b_zkn {kn : Nat → Int32} {np j : Nat} (hj : j < 32) (h5 : np ≤ 5) {i : Nat} (hi : i < 32) : bt (zkn kn (nI j) np) i = true ↔ i < np ∧ bt (kn i) j = true := by
  unfold zkn
  rw [b_fset (P := fun p => zbt (kn p) (nI j)) np (by omega) i hi, decide_eq_true_eq, zk_bt hj]
theorem zkn_ne0 {kn : Nat → Int32} {np j : Nat} (hj : j < 32) (h5 : np ≤ 5) : ¬ zkn kn (nI j) np = 0 ↔ ∃ p, p < np ∧ bt (kn p) j = true := by
  rw [b_ne0]
  constructor
  · rintro ⟨i, hi, h⟩; exact ⟨i, (b_zkn hj h5 hi).mp h⟩
  · rintro ⟨p, hp, h⟩; exact ⟨p, by omega, (b_zkn hj h5 (by omega)).mpr ⟨hp, h⟩⟩
theorem b_zsay {kn : Nat → Int32} {sn : Int32} {np ns : Nat} (h5 : np ≤ 5) (h8 : ns ≤ 8) {i : Nat} (hi : i < 32) : bt (zsay kn sn np ns) i = true ↔ i < ns ∧ ¬ bt sn i = true ∧ ∃ p, p < np ∧ bt (kn p) i = true := by
  unfold zsay
  rw [b_fset (P := fun k => ¬ zbt sn (nI k) ∧ ¬ zkn kn (nI k) np = 0) ns (by omega) i hi, decide_eq_true_eq, zk_bt hi, zkn_ne0 hi h5]
theorem b_zmay {kp sn : Int32} {an : Nat → Int32} {set : Int32} {ns : Nat} (h8 : ns ≤ 8) {i : Nat} (hi : i < 32) : bt (zmay kp sn an set ns) i = true ↔ i < ns ∧ bt kp i = true ∧ ¬ bt sn i = true ∧ ¬ an i &&& set = 0 := by
  unfold zmay
  rw [b_fset (P := fun k => zbt kp (nI k) ∧ ¬ zbt sn (nI k) ∧ ¬ an k &&& set = 0) ns (by omega) i hi, decide_eq_true_eq, zk_bt hi, zk_bt hi]
theorem b_zmays {kn : Nat → Int32} {sn : Int32} {an : Nat → Int32} {set : Int32} {ns np : Nat} (h8 : ns ≤ 8) {i : Nat} (hi : i < 32) : bt (zmays kn sn an set ns np) i = true ↔ ∃ p, p < np ∧ i < ns ∧ bt (kn p) i = true ∧ ¬ bt sn i = true ∧ ¬ an i &&& set = 0 := by
  have e : zmays kn sn an set ns np = zfold (fun k a => if (fun _ => True) k then a ||| zmay (kn k) sn an set ns else a) 0 np := by
    unfold zmays
    exact zfold_congr (fun k _ x => (if_pos trivial).symm)
  rw [e, b_for (g := fun k => zmay (kn k) sn an set ns) (P := fun _ => True) np i]
  constructor
  · rintro ⟨k, hk, -, h⟩; exact ⟨k, hk, (b_zmay h8 hi).mp h⟩
  · rintro ⟨k, hk, h⟩; exact ⟨k, hk, trivial, (b_zmay h8 hi).mpr h⟩
/-- the same set, by members -/
theorem b_iff {x y : Int32} (h : ∀ i, i < 32 → (bt x i = true ↔ bt y i = true)) : x = y := b_ext (fun i hi => by
  have := h i hi
  cases hx : bt x i <;> cases hy : bt y i <;> simp_all)
theorem zmays_an {kn : Nat → Int32} {sn : Int32} {an : Nat → Int32} {set : Int32} {ns np : Nat} (h8 : ns ≤ 8) (h5 : np ≤ 5) : zmays kn sn an set ns np = zan (zsay kn sn np ns) an set ns := by
  apply b_iff
  intro i hi
  rw [b_zmays h8 hi, b_zan h8 hi, b_zsay h5 h8 hi]
  constructor
  · rintro ⟨p, hp, h1, h2, h3, h4⟩; exact ⟨h1, ⟨h1, h3, p, hp, h2⟩, h4⟩
  · rintro ⟨h1, ⟨-, h3, p, hp, h2⟩, h4⟩; exact ⟨p, hp, h1, h2, h3, h4⟩
theorem zmay_an {kn : Nat → Int32} {sn : Int32} {an : Nat → Int32} {set : Int32} {ns np j : Nat} (h8 : ns ≤ 8) (h5 : np ≤ 5) (hj : j < np) : kn j &&& zan (zsay kn sn np ns) an set ns = zmay (kn j) sn an set ns := by
  apply b_iff
  intro i hi
  rw [b_and, Bool.and_eq_true, b_zmay h8 hi, b_zan h8 hi, b_zsay h5 h8 hi]
  constructor
  · rintro ⟨h0, h1, ⟨-, h3, p, hp, h2⟩, h4⟩; exact ⟨h1, h0, h3, h4⟩
  · rintro ⟨h1, h0, h3, h4⟩; exact ⟨h0, h1, ⟨h1, h3, j, hj, h0⟩, h4⟩
theorem zan_congr {sa : Int32} {an an' : Nat → Int32} {base : Int32} {ns : Nat} (h : ∀ k, k < ns → an k = an' k) : zan sa an base ns = zan sa an' base ns := by
  unfold zan
  exact zfold_congr (fun k hk x => by rw [h k hk])
theorem zre_congr {sa : Int32} {an an' : Nat → Int32} {base : Int32} {ns : Nat} (h : ∀ k, k < ns → an k = an' k) : ∀ m, zre sa an base ns m = zre sa an' base ns m := by
  intro m
  induction m with
  | zero => rfl
  | succ m ih => show zan sa an (base ||| zre sa an base ns m) ns = zan sa an' (base ||| zre sa an' base ns m) ns; rw [ih, zan_congr h]
theorem zthere_congr {wh wh' at_ at' : Nat → Int32} {hr old : Int32} {n : Nat} (h1 : ∀ k, k < n → wh k = wh' k) (h2 : ∀ k, k < n → at_ k = at' k) : zthere wh at_ hr old n = zthere wh' at' hr old n := by
  unfold zthere
  exact zfold_congr (fun k hk x => by rw [h1 k hk, h2 k hk])
theorem zfa_congr {t t' : Nat → Int32} {n : Nat} (h : ∀ k, k < n → t k = t' k) (i : Int32) : zfa t n i = zfa t' n i := by
  unfold zfa
  exact zff_congr (fun j _ hj => by rw [h j (by omega)])
theorem zlat_congr {wh wh' at_ at' : Nat → Int32} {hr set old : Int32} {n : Nat} (h1 : ∀ k, k < n → wh k = wh' k) (h2 : ∀ k, k < n → at_ k = at' k) : zlat wh at_ hr set old n = zlat wh' at' hr set old n := by
  unfold zlat
  exact zlf_congr (fun j hj => by rw [h1 j hj, h2 j hj])
/-! how many bits -/
theorem zbc_many : ∀ c, c < 256 → zbc (nI c) = zmany (nI c) := by decide +kernel
theorem zmany_sum : ∀ c, c < 256 → zmany (nI c) = nI ((List.range 8).map (fun k => if c.testBit k then 1 else 0)).sum := by decide +kernel
/-- a set within the first m bits -/
theorem b_lt {x : Int32} {m : Nat} (hm : m ≤ 31) (h : ∀ i, m ≤ i → i < 32 → bt x i = false) : ∃ K, K < 2 ^ m ∧ x = nI K := by
  refine ⟨x.toBitVec.toNat, ?_, ?_⟩
  · apply Nat.lt_pow_two_of_testBit
    intro i hi
    by_cases h32 : i < 32
    · have := h i hi h32
      unfold bt at this
      rwa [BitVec.getLsbD] at this
    · exact Nat.testBit_lt_two_pow (Nat.lt_of_lt_of_le x.toBitVec.isLt (Nat.pow_le_pow_right (by omega) (by omega)))
  · apply b_ext
    intro i hi
    rw [b_nI _ hi]
    rfl
theorem b_byte {x : Int32} (h : ∀ i, 8 ≤ i → i < 32 → bt x i = false) : ∃ K, K < 256 ∧ x = nI K := b_lt (m := 8) (by omega) h
theorem b_hi {K m i : Nat} (hK : K < 2 ^ m) (hi : m ≤ i) (h32 : i < 32) : bt (nI K) i = false := by
  rw [b_nI K h32]
  exact Nat.testBit_lt_two_pow (Nat.lt_of_lt_of_le hK (Nat.pow_le_pow_right (by omega) hi))

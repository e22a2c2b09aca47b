/-! bits of an int: pasted from the kit's laws (family bt), then words for zbt -/
def bt (x : Int32) (i : Nat) : Bool := x.toBitVec.getLsbD i
theorem b_ext {x y : Int32} (h : ∀ i, i < 32 → bt x i = bt y i) : x = y := Int32.toBitVec_inj.mp (BitVec.eq_of_getLsbD_eq (fun i hi => h i hi))
theorem b_or (x y : Int32) (i : Nat) : bt (x ||| y) i = (bt x i || bt y i) := by unfold bt; rw [Int32.toBitVec_or, BitVec.getLsbD_or]
theorem b_and (x y : Int32) (i : Nat) : bt (x &&& y) i = (bt x i && bt y i) := by unfold bt; rw [Int32.toBitVec_and, BitVec.getLsbD_and]
theorem b_xor (x y : Int32) (i : Nat) : bt (x ^^^ y) i = (bt x i ^^ bt y i) := by unfold bt; rw [Int32.toBitVec_xor, BitVec.getLsbD_xor]
theorem b_big {x : Int32} {i : Nat} (h : 32 ≤ i) : bt x i = false := BitVec.getLsbD_of_ge _ _ h
theorem b_255 (i : Nat) : bt 255 i = decide (i < 8) := by
  rcases Nat.lt_or_ge i 32 with h | h
  · exact (by decide +kernel : ∀ i, i < 32 → bt 255 i = decide (i < 8)) i h
  · rw [b_big h, decide_eq_false (by omega)]
theorem b_65535 (i : Nat) : bt 65535 i = decide (i < 16) := by
  rcases Nat.lt_or_ge i 32 with h | h
  · exact (by decide +kernel : ∀ i, i < 32 → bt 65535 i = decide (i < 16)) i h
  · rw [b_big h, decide_eq_false (by omega)]
theorem b_m1 : ∀ i, i < 32 → bt (-1) i = true := by decide +kernel
theorem b_0 (i : Nat) : bt 0 i = false := BitVec.getLsbD_zero
theorem s_l : ∀ n, n < 32 → ((nI n &&& 31).toBitVec.smod 32).toNat = n := by decide +kernel
theorem s_u : ∀ n, n < 32 → (((nI n).toUInt32 &&& Int32.toUInt32 31).toBitVec % 32).toNat = n := by decide +kernel
theorem b_shl (n : Nat) (hn : n < 32) (x : Int32) {i : Nat} (hi : i < 32) : bt (x <<< (nI n &&& 31)) i = (decide (n ≤ i) && bt x (i - n)) := by
  unfold bt
  rw [Int32.toBitVec_shiftLeft]
  show (x.toBitVec <<< ((nI n &&& 31).toBitVec.smod 32).toNat).getLsbD i = _
  rw [s_l n hn, BitVec.getLsbD_shiftLeft]
  rcases Nat.lt_or_ge i n with h | h
  · simp [h, Nat.not_le.mpr h]
  · simp [hi, h, Nat.not_lt.mpr h]
theorem b_ushr (n : Nat) (hn : n < 32) (x : Int32) (i : Nat) : bt ((x.toUInt32 >>> ((nI n).toUInt32 &&& Int32.toUInt32 31)).toInt32) i = bt x (n + i) := by
  show (x.toUInt32 >>> ((nI n).toUInt32 &&& Int32.toUInt32 31)).toBitVec.getLsbD i = x.toUInt32.toBitVec.getLsbD (n + i)
  rw [UInt32.toBitVec_shiftRight]
  show (x.toUInt32.toBitVec >>> (((nI n).toUInt32 &&& Int32.toUInt32 31).toBitVec % 32).toNat).getLsbD i = _
  rw [s_u n hn, BitVec.getLsbD_ushiftRight]
theorem b_sshr (n : Nat) (hn : n < 32) (x : Int32) {i : Nat} (hi : i < 32) : bt (x >>> (nI n &&& 31)) i = if n + i < 32 then bt x (n + i) else bt x 31 := by
  unfold bt
  rw [Int32.toBitVec_shiftRight]
  show (x.toBitVec.sshiftRight ((nI n &&& 31).toBitVec.smod 32).toNat).getLsbD i = _
  rw [s_l n hn, BitVec.getLsbD_sshiftRight, BitVec.msb_eq_getLsbD_last]
  simp [hi]
theorem b_1 : ∀ i, i < 32 → bt 1 i = decide (i = 0) := by decide +kernel
theorem b_one {j i : Nat} (hj : j < 32) (hi : i < 32) : bt (1 <<< (nI j &&& 31)) i = decide (i = j) := by
  rw [b_shl j hj 1 hi]
  by_cases h : j ≤ i
  · rw [b_1 (i - j) (by omega)]
    simp [h]
    omega
  · simp [h]
    omega
theorem zk_bt {x : Int32} {j : Nat} (hj : j < 32) : zbt x (nI j) ↔ bt x j = true := by
  constructor
  · intro h
    by_cases hb : bt x j = true
    · exact hb
    · exfalso
      apply h
      apply b_ext
      intro i hi
      rw [b_and, b_one hj hi, b_0]
      by_cases e : i = j
      · subst e; simp [hb]
      · simp [e]
  · intro h e
    have := congrArg (fun z => bt z j) e
    simp only [b_and, b_one hj hj, b_0, h] at this
    simp at this
theorem zkbit {x : Int32} {j : Nat} (hj : j < 32) : (x >>> (nI j &&& 31)) &&& 1 = if zbt x (nI j) then 1 else 0 := by
  apply b_ext
  intro i hi
  rw [b_and, b_sshr j hj x hi, b_1 i hi]
  by_cases hz : zbt x (nI j)
  · rw [if_pos hz, b_1 i hi]
    have hb := (zk_bt hj).mp hz
    by_cases e : i = 0
    · subst e; simp [hj, hb]
    · simp [e]
  · rw [if_neg hz, b_0]
    have hb : bt x j = false := by
      cases h : bt x j with
      | false => rfl
      | true => exact absurd ((zk_bt hj).mpr h) hz
    by_cases e : i = 0
    · subst e; simp [hj, hb]
    · simp [e]
theorem zk1 {x : Int32} {j : Nat} (hj : j < 32) : (x >>> (nI j &&& 31)) &&& 1 = 1 ↔ zbt x (nI j) := by
  rw [zkbit hj]
  by_cases h : zbt x (nI j) <;> simp [h]
theorem zk0 {x : Int32} {j : Nat} (hj : j < 32) : (x >>> (nI j &&& 31)) &&& 1 = 0 ↔ ¬ zbt x (nI j) := by
  rw [zkbit hj]
  by_cases h : zbt x (nI j) <;> simp [h]
theorem zix (c k : Nat) {x : Int32} (hx : x = nI c) : x + nI k = nI (c + k) := by rw [hx]; exact nI_add c k
theorem zix0 (k : Nat) : (0 : Int32) + nI k = nI k := Int32.zero_add (nI k)
theorem zpred_lt {ns : Nat} (h : ns < 2 ^ 30) {w : Int32} (hw : nI ns ≤ w) : nI ns - 1 < w := by
  have h1 : (nI ns - nI 1).toInt = (ns : Int) - 1 := pk_sub_toInt h (by decide)
  have h2 := Int32.le_iff_toInt_le.mp hw
  rw [nI_toInt (by omega)] at h2
  apply Int32.lt_iff_toInt_lt.mpr
  have h3 : nI ns - 1 = nI ns - nI 1 := rfl
  rw [h3, h1]
  omega
theorem zpred_nlt {ns j : Nat} (h : ns < 2 ^ 30) (hj : j < ns) : ¬ nI ns - 1 < nI j := by
  obtain ⟨m, rfl⟩ : ∃ m, ns = m + 1 := ⟨ns - 1, by omega⟩
  rw [nI_pred]
  exact nI_nlt (by omega) (by omega)

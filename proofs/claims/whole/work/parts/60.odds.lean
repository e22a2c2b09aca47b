/-! ===== same answers: odds ===== -/
def sm (g : Nat → Nat) : Nat → Nat
  | 0 => 0
  | h + 1 => sm g h + g h
theorem sm_congr {g g' : Nat → Nat} : ∀ n, (∀ h, h < n → g h = g' h) → sm g n = sm g' n := by
  intro n
  induction n with
  | zero => intro _; rfl
  | succ n ih => intro h; show sm g n + g n = sm g' n + g' n; rw [ih (fun k hk => h k (by omega)), h n (by omega)]
theorem sm_add (a b : Nat → Nat) : ∀ n, sm (fun h => a h + b h) n = sm a n + sm b n := by
  intro n
  induction n with
  | zero => rfl
  | succ n ih => show sm (fun h => a h + b h) n + (a n + b n) = (sm a n + a n) + (sm b n + b n); rw [ih]; omega
theorem sm_mul (a : Nat → Nat) (c : Nat) : ∀ n, sm (fun h => a h * c) n = sm a n * c := by
  intro n
  induction n with
  | zero => exact (Nat.zero_mul c).symm
  | succ n ih => show sm (fun h => a h * c) n + a n * c = (sm a n + a n) * c; rw [ih, Nat.add_mul]
theorem sm_split (g : Nat → Nat) (a : Nat) : ∀ b, sm g (a + b) = sm g a + sm (fun h => g (a + h)) b := by
  intro b
  induction b with
  | zero => rfl
  | succ b ih => show sm g (a + b) + g (a + b) = sm g a + (sm (fun h => g (a + h)) b + g (a + b)); rw [ih]; omega
def wp (fac : Nat → Bool → Nat) : Nat → Nat → Nat
  | 0, _ => 1
  | k + 1, h => wp fac k h * fac k (h.testBit k)
def pr (g : Nat → Nat) : Nat → Nat
  | 0 => 1
  | k + 1 => pr g k * g k
theorem wp_bits {fac : Nat → Bool → Nat} {h h' : Nat} : ∀ n, (∀ k, k < n → h.testBit k = h'.testBit k) → wp fac n h = wp fac n h' := by
  intro n
  induction n with
  | zero => intro _; rfl
  | succ n ih => intro q; show wp fac n h * fac n (h.testBit n) = wp fac n h' * fac n (h'.testBit n); rw [ih (fun k hk => q k (by omega)), q n (by omega)]
theorem sm_wp (fac : Nat → Bool → Nat) : ∀ n, sm (wp fac n) (2 ^ n) = pr (fun k => fac k false + fac k true) n := by
  intro n
  induction n with
  | zero => rfl
  | succ n ih =>
    rw [Nat.pow_succ, Nat.mul_two, sm_split]
    have e1 : sm (wp fac (n + 1)) (2 ^ n) = sm (wp fac n) (2 ^ n) * fac n false := by
      rw [← sm_mul]
      refine sm_congr _ (fun h hh => ?_)
      show wp fac n h * fac n (h.testBit n) = _
      rw [Nat.testBit_lt_two_pow hh]
    have e2 : sm (fun h => wp fac (n + 1) (2 ^ n + h)) (2 ^ n) = sm (wp fac n) (2 ^ n) * fac n true := by
      rw [← sm_mul]
      refine sm_congr _ (fun h hh => ?_)
      show wp fac n (2 ^ n + h) * fac n ((2 ^ n + h).testBit n) = _
      rw [Nat.testBit_two_pow_add_eq, Nat.testBit_lt_two_pow hh, wp_bits (h := 2 ^ n + h) (h' := h) n (fun k hk => Nat.testBit_two_pow_add_gt hk h)]
      rfl
    rw [e1, e2, ih]
    show _ = pr (fun k => fac k false + fac k true) n * (fac n false + fac n true)
    rw [Nat.mul_add]
def ct (P : Nat → Bool) : Nat → Nat
  | 0 => 0
  | k + 1 => ct P k + (if P k = true then 1 else 0)
theorem ct_congr {P P' : Nat → Bool} : ∀ n, (∀ k, k < n → P k = P' k) → ct P n = ct P' n := by
  intro n
  induction n with
  | zero => intro _; rfl
  | succ n ih => intro q; show ct P n + _ = ct P' n + _; rw [ih (fun k hk => q k (by omega)), q n (by omega)]
theorem ct_le {G S : Nat → Bool} (h : ∀ k, G k = true → S k = true) : ∀ n, ct G n ≤ ct S n := by
  intro n
  induction n with
  | zero => exact Nat.le_refl _
  | succ n ih =>
    show ct G n + (if G n = true then 1 else 0) ≤ ct S n + (if S n = true then 1 else 0)
    by_cases c : G n = true
    · rw [if_pos c, if_pos (h n c)]; omega
    · rw [if_neg c]; omega
theorem ct_n (P : Nat → Bool) : ∀ n, ct P n ≤ n := by
  intro n
  induction n with
  | zero => exact Nat.le_refl _
  | succ n ih => show ct P n + _ ≤ _; split <;> omega
def facS (S : Nat → Bool) (X : Nat) (k : Nat) (b : Bool) : Nat := if S k = true then (if b = true then X else 10 - X) else (if b = true then 0 else 1)
def facG (S G : Nat → Bool) (X : Nat) (k : Nat) (b : Bool) : Nat := if G k = true then (if b = true then 0 else 10 - X) else facS S X k b
theorem pr_S {S : Nat → Bool} {X : Nat} (hX : X ≤ 10) : ∀ n, pr (fun k => facS S X k false + facS S X k true) n = 10 ^ ct S n := by
  intro n
  induction n with
  | zero => rfl
  | succ n ih =>
    show pr _ n * (facS S X n false + facS S X n true) = 10 ^ (ct S n + (if S n = true then 1 else 0))
    rw [ih]
    unfold facS
    by_cases c : S n = true
    · simp only [if_pos c, Nat.pow_succ]
      rw [if_neg (by decide), if_pos trivial, show 10 - X + X = 10 by omega]
    · simp only [if_neg c, Nat.add_zero]
      rw [if_neg (by decide), if_pos trivial, Nat.mul_one]
theorem pr_G {S G : Nat → Bool} {X : Nat} (hX : X ≤ 10) (h : ∀ k, G k = true → S k = true) : ∀ n, pr (fun k => facG S G X k false + facG S G X k true) n = 10 ^ (ct S n - ct G n) * (10 - X) ^ ct G n := by
  intro n
  induction n with
  | zero => rfl
  | succ n ih =>
    have hle := ct_le h n
    show pr _ n * (facG S G X n false + facG S G X n true) = 10 ^ ((ct S n + (if S n = true then 1 else 0)) - (ct G n + (if G n = true then 1 else 0))) * (10 - X) ^ (ct G n + (if G n = true then 1 else 0))
    rw [ih]
    unfold facG facS
    by_cases c : G n = true
    · have c2 := h n c
      simp only [if_pos c, if_pos c2]
      rw [if_neg (by decide), if_pos trivial, Nat.add_zero, show ct S n + 1 - (ct G n + 1) = ct S n - ct G n by omega, Nat.pow_succ, Nat.mul_assoc]
    · simp only [if_neg c]
      by_cases c2 : S n = true
      · simp only [if_pos c2]
        rw [if_neg (by decide), if_pos trivial, show 10 - X + X = 10 by omega]
        simp only [Nat.add_zero]
        rw [show ct S n + 1 - ct G n = (ct S n - ct G n) + 1 by omega, Nat.pow_succ, Nat.mul_right_comm]
      · simp only [if_neg c2]
        rw [if_neg (by decide), if_pos trivial]
        simp
/-- some good one is among h's first n -/
def hit (G : Nat → Bool) (h : Nat) : Nat → Bool
  | 0 => false
  | k + 1 => hit G h k || (h.testBit k && G k)
theorem hit_iff {G : Nat → Bool} {h : Nat} : ∀ n, hit G h n = true ↔ ∃ k, k < n ∧ h.testBit k = true ∧ G k = true := by
  intro n
  induction n with
  | zero => exact ⟨fun q => (by cases q), fun ⟨k, hk, _⟩ => (by omega)⟩
  | succ n ih =>
    show (hit G h n || (h.testBit n && G n)) = true ↔ _
    rw [Bool.or_eq_true, ih, Bool.and_eq_true]
    constructor
    · rintro (⟨k, hk, q⟩ | q)
      · exact ⟨k, by omega, q⟩
      · exact ⟨n, by omega, q⟩
    · rintro ⟨k, hk, q⟩
      by_cases e : k = n
      · subst e; exact Or.inr q
      · exact Or.inl ⟨k, by omega, q⟩
theorem wp_hit {S G : Nat → Bool} {X h : Nat} (hGS : ∀ k, G k = true → S k = true) : ∀ n, (if hit G h n = true then wp (facS S X) n h else 0) + wp (facG S G X) n h = wp (facS S X) n h := by
  intro n
  induction n with
  | zero => rfl
  | succ n ih =>
    have e0 : hit G h (n + 1) = (hit G h n || (h.testBit n && G n)) := rfl
    have e1 : wp (facS S X) (n + 1) h = wp (facS S X) n h * facS S X n (h.testBit n) := rfl
    have e2 : wp (facG S G X) (n + 1) h = wp (facG S G X) n h * facG S G X n (h.testBit n) := rfl
    rw [e0, e1, e2]
    by_cases c : hit G h n = true
    · rw [if_pos c] at ih
      have z : wp (facG S G X) n h = 0 := by omega
      rw [z, c, Bool.true_or, if_pos rfl, Nat.zero_mul, Nat.add_zero]
    · rw [if_neg c, Nat.zero_add] at ih
      rw [ih]
      have c' : hit G h n = false := by simpa using c
      rw [c', Bool.false_or]
      unfold facG
      by_cases cg : G n = true
      · rw [if_pos cg, cg, Bool.and_true]
        cases hb : h.testBit n with
        | true => rw [if_pos rfl, if_pos rfl, Nat.mul_zero, Nat.add_zero]
        | false =>
          rw [if_neg (by decide), if_neg (by decide), Nat.zero_add]
          unfold facS
          rw [if_pos (hGS n cg), if_neg (by decide)]
      · have cg' : G n = false := by simpa using cg
        rw [if_neg cg, cg', Bool.and_false, if_neg (by decide), Nat.zero_add]
/-- all ways of hearing that hit -/
theorem sm_hit {S G : Nat → Bool} {X n : Nat} (hX : X ≤ 10) (hGS : ∀ k, G k = true → S k = true) : sm (fun h => if hit G h n = true then wp (facS S X) n h else 0) (2 ^ n) = 10 ^ (ct S n - ct G n) * (10 ^ ct G n - (10 - X) ^ ct G n) := by
  have h1 : sm (fun h => if hit G h n = true then wp (facS S X) n h else 0) (2 ^ n) + sm (wp (facG S G X) n) (2 ^ n) = sm (wp (facS S X) n) (2 ^ n) := by
    rw [← sm_add]
    exact sm_congr _ (fun h _ => wp_hit hGS n)
  rw [sm_wp, sm_wp, pr_S hX, pr_G hX hGS] at h1
  have hle := ct_le hGS n
  have h2 : 10 ^ ct S n = 10 ^ (ct S n - ct G n) * 10 ^ ct G n := by rw [← Nat.pow_add, show ct S n - ct G n + ct G n = ct S n by omega]
  rw [Nat.mul_sub, ← h2]
  omega
/-! the greatest common divisor, by a few steps -/
theorem zcd_gcd : ∀ k m l s, s < 2 ^ k → k ≤ 31 → l < 2 ^ 31 → s < 2 ^ 31 → 2 * k + 1 ≤ m → zcd m (nI l) (nI s) = nI (Nat.gcd l s) := by
  intro k
  induction k with
  | zero =>
    intro m l s hs _ hl _ hm
    have : s = 0 := by simpa using hs
    subst this
    rw [show m = (m - 1) + 1 by omega]
    show (if nI 0 = 0 then nI l else _) = _
    rw [if_pos (show nI 0 = 0 from rfl), Nat.gcd_zero_right]
  | succ k ih =>
    intro m l s hs hk hl hs31 hm
    have stp : ∀ m l s, l < 2 ^ 31 → s < 2 ^ 31 → 0 < s → zcd (m + 1) (nI l) (nI s) = zcd m (nI s) (nI (l % s)) := by
      intro m l s hl hs h0
      show (if nI s = 0 then nI l else zcd m (nI s) (nI l - nI l / nI s * nI s)) = _
      rw [if_neg (nI_ne0 h0 hs)]
      have e : nI l - nI l / nI s * nI s = nI (l % s) := by
        rw [pk_div hl h0 hs, show nI (l / s) * nI s = nI (l / s * s) from pk_mul _ _, pk_sub (Nat.div_mul_le_self l s)]
        congr 1
        have := Nat.div_add_mod l s
        have h2 : l / s * s = s * (l / s) := Nat.mul_comm _ _
        omega
      rw [e]
    by_cases h0 : s = 0
    · subst h0
      rw [show m = (m - 1) + 1 by omega]
      show (if nI 0 = 0 then nI l else _) = _
      rw [if_pos (show nI 0 = 0 from rfl), Nat.gcd_zero_right]
    · have hlt : l % s < s := Nat.mod_lt _ (by omega)
      rw [show m = (m - 2) + 1 + 1 by omega, stp _ l s hl hs31 (by omega)]
      have g1 : Nat.gcd l s = Nat.gcd s (l % s) := by rw [Nat.gcd_comm l s, Nat.gcd_rec s l, Nat.gcd_comm]
      rw [g1]
      by_cases h1 : l % s = 0
      · rw [h1]
        show (if nI 0 = 0 then nI s else _) = _
        rw [if_pos (show nI 0 = 0 from rfl), Nat.gcd_zero_right]
      · rw [stp _ s (l % s) hs31 (by omega) (by omega)]
        have g2 : Nat.gcd s (l % s) = Nat.gcd (l % s) (s % (l % s)) := by rw [Nat.gcd_comm s (l % s), Nat.gcd_rec (l % s) s, Nat.gcd_comm]
        rw [g2]
        have h2 : s % (l % s) < l % s := Nat.mod_lt _ (by omega)
        have h3 : s % (l % s) + l % s ≤ s := by
          have d := Nat.div_add_mod s (l % s)
          have q : 1 ≤ s / (l % s) := (Nat.le_div_iff_mul_le (by omega)).mpr (by omega)
          have q2 : l % s * 1 ≤ l % s * (s / (l % s)) := Nat.mul_le_mul_left _ q
          omega
        rw [Nat.pow_succ] at hs
        exact ih (m - 2) (l % s) (s % (l % s)) (by omega) (by omega) (by omega) (by omega) (by omega)
theorem zpw_eq {b : Int32} {B : Nat} (hb : b = nI B) : ∀ m, zpw b m = nI (B ^ m) := by
  intro m
  induction m with
  | zero => rfl
  | succ m ih => show zpw b m * b = _; rw [ih, hb, Nat.pow_succ]; exact pk_mul _ _
/-! reach, sound by sound -/
theorem b_zre {sa : Int32} {an : Nat → Int32} {H : Int32} {ns : Nat} (h8 : ns ≤ 8) : ∀ m i, i < 32 → (bt (zre sa an H ns m) i = true ↔ ∃ k, k < 32 ∧ bt H k = true ∧ bt (zre sa an (1 <<< (nI k &&& 31)) ns m) i = true) := by
  intro m
  induction m with
  | zero =>
    intro i hi
    have e0 : ∀ B, bt (zre sa an B ns 0) i = false := fun B => b_0 i
    rw [e0]
    exact ⟨fun q => (by cases q), fun ⟨k, _, _, q⟩ => (by rw [e0] at q; exact q)⟩
  | succ m ih =>
    intro i hi
    have e : ∀ B, bt (zre sa an B ns (m + 1)) i = true ↔ i < ns ∧ bt sa i = true ∧ ∃ j, j < 32 ∧ bt (an i) j = true ∧ (bt B j = true ∨ bt (zre sa an B ns m) j = true) := by
      intro B
      show bt (zan sa an (B ||| zre sa an B ns m) ns) i = true ↔ _
      rw [b_zan h8 hi, b_meet]
      simp only [b_or, Bool.or_eq_true]
    rw [e]
    constructor
    · rintro ⟨h1, h2, j, hj, h3, h4⟩
      rcases h4 with h4 | h4
      · exact ⟨j, hj, h4, (e _).mpr ⟨h1, h2, j, hj, h3, Or.inl (by rw [b_one hj hj]; simp)⟩⟩
      · obtain ⟨k, hk, q1, q2⟩ := (ih j hj).mp h4
        exact ⟨k, hk, q1, (e _).mpr ⟨h1, h2, j, hj, h3, Or.inr q2⟩⟩
    · rintro ⟨k, hk, q1, q2⟩
      obtain ⟨h1, h2, j, hj, h3, h4⟩ := (e _).mp q2
      refine ⟨h1, h2, j, hj, h3, ?_⟩
      rcases h4 with h4 | h4
      · rw [b_one hk hj] at h4
        have : j = k := by simpa using h4
        exact Or.inl (this ▸ q1)
      · exact Or.inr ((ih j hj).mpr ⟨k, hk, q1, h4⟩)
theorem zbc_ct : ∀ c, c < 256 → zbc (nI c) = nI (ct (fun k => bt (nI c) k) 8) := by decide +kernel
theorem zmany_ct : ∀ c, c < 256 → zmany (nI c) = nI (ct (fun k => bt (nI c) k) 8) := by decide +kernel
theorem ct_8 {P : Nat → Bool} {ns : Nat} (h8 : ns ≤ 8) (h : ∀ k, ns ≤ k → k < 8 → P k = false) : ct P 8 = ct P ns := by
  have key : ∀ d, ns + d ≤ 8 → ct P (ns + d) = ct P ns := by
    intro d
    induction d with
    | zero => intro _; rfl
    | succ d ih =>
      intro hd
      show ct P (ns + d) + (if P (ns + d) = true then 1 else 0) = _
      rw [h (ns + d) (by omega) (by omega), if_neg (by decide), ih (by omega), Nat.add_zero]
  have := key (8 - ns) (by omega)
  rwa [show ns + (8 - ns) = 8 by omega] at this
/-- the good sounds -/
def gd (sa sn : Int32) (an : Nat → Int32) (ns w : Nat) (k : Nat) : Bool := decide (k < ns) && (bt sn k && (if bt sn w = true then decide (k = w) else bt (zre sa an (1 <<< (nI k &&& 31)) ns 8) w))
theorem zwy_wp {sn : Int32} {X h : Nat} (hX : X ≤ 10) (c0 : Nat) : ∀ m, m ≤ 8 → (∀ k, k < m → h.testBit k = true → bt sn k = true) → zwy sn (nI X) (nI h) (nI c0) m = nI (c0 * wp (facS (fun k => bt sn k) X) m h) := by
  intro m
  induction m with
  | zero => intro _ _; show nI c0 = nI (c0 * 1); rw [Nat.mul_one]
  | succ m ih =>
    intro hm hs
    show zwy sn (nI X) (nI h) (nI c0) m * (if ¬ zbt sn (nI m) then 1 else if zbt (nI h) (nI m) then nI X else 10 - nI X) = nI (c0 * (wp (facS (fun k => bt sn k) X) m h * facS (fun k => bt sn k) X m (h.testBit m)))
    rw [ih (by omega) (fun k hk => hs k (by omega)), ← Nat.mul_assoc]
    refine Eq.trans ?_ (pk_mul _ _)
    congr 1
    unfold facS
    by_cases c : bt sn m = true
    · rw [if_neg (fun q => q ((zk_bt (by omega)).mpr c)), if_pos c]
      by_cases c2 : h.testBit m = true
      · rw [if_pos ((zk_bt (by omega)).mpr (by rw [b_nI h (by omega)]; exact c2)), if_pos c2]
      · rw [if_neg (fun q => c2 (by rw [← b_nI h (show m < 32 by omega)]; exact (zk_bt (by omega)).mp q)), if_neg c2]
        exact pk_sub (a := 10) hX
    · rw [if_pos (fun q => c ((zk_bt (by omega)).mp q)), if_neg c, if_neg (fun q => c (hs m (by omega) q))]
      rfl
theorem zuo_sm {sa sn : Int32} {an : Nat → Int32} {ns w X : Nat} (h8 : ns ≤ 8) (hX : X ≤ 10) (hw : w < ns) (hsa : ∀ i, i < 32 → bt sa i = true → ¬ bt sn i = true) : ∀ m, m ≤ 2 ^ ns → zuo sa sn an ns w (nI X) m = nI (sm (fun h => if hit (gd sa sn an ns w) h ns = true then wp (facS (fun k => bt sn k) X) ns h else 0) m) := by
  intro m
  induction m with
  | zero => intro _; rfl
  | succ m ih =>
    intro hm
    have hpw := zpow_le ns (by omega)
    show zuo sa sn an ns w (nI X) m + zwy sn (nI X) (nI m) (if nI m &&& (sn ^^^ (-1 : Int32)) = 0 ∧ zbt (nI m ||| zre sa an (nI m) ns 9) (nI w) then 1 else 0) ns = nI (sm _ m + (if hit (gd sa sn an ns w) m ns = true then wp (facS (fun k => bt sn k) X) ns m else 0))
    rw [ih (by omega), ← nI_add]
    congr 1
    have hmb : ∀ k, m.testBit k = true → k < ns := by
      intro k hk
      apply Classical.byContradiction
      intro q
      rw [Nat.testBit_lt_two_pow (Nat.lt_of_lt_of_le (show m < 2 ^ ns by omega) (Nat.pow_le_pow_right (by omega) (by omega)))] at hk
      cases hk
    by_cases hsub : nI m &&& (sn ^^^ (-1 : Int32)) = 0
    · have hs : ∀ k, k < ns → m.testBit k = true → bt sn k = true := fun k hk q => b_sub.mp hsub k (by omega) (by rw [b_nI m (by omega)]; exact q)
      have hcond : zbt (nI m ||| zre sa an (nI m) ns 9) (nI w) ↔ hit (gd sa sn an ns w) m ns = true := by
        rw [zk_bt (by omega), b_or, Bool.or_eq_true, zre_89 h8, b_zre h8 8 w (by omega), hit_iff, b_nI m (show w < 32 by omega)]
        unfold gd
        by_cases cw : bt sn w = true
        · constructor
          · rintro (q | ⟨k, hk, q1, q2⟩)
            · exact ⟨w, hw, q, by rw [if_pos cw, cw]; simp [hw]⟩
            · exfalso
              have : bt sa w = true := ((b_zan h8 (by omega)).mp q2).2.1
              exact hsa w (by omega) this cw
          · rintro ⟨k, hk, q1, q2⟩
            rw [if_pos cw] at q2
            have : k = w := by simp at q2; exact q2.2.2
            left; rw [← this]; exact q1
        · constructor
          · rintro (q | ⟨k, hk, q1, q2⟩)
            · exact absurd (hs w hw q) cw
            · rw [b_nI m hk] at q1
              have hkn := hmb k q1
              exact ⟨k, hkn, q1, by rw [if_neg cw, hs k hkn q1, q2]; simp [hkn]⟩
          · rintro ⟨k, hk, q1, q2⟩
            rw [if_neg cw] at q2
            simp only [Bool.and_eq_true] at q2
            right
            exact ⟨k, by omega, by rw [b_nI m (by omega)]; exact q1, q2.2.2⟩
      by_cases hh : hit (gd sa sn an ns w) m ns = true
      · rw [if_pos hh, if_pos ⟨hsub, hcond.mpr hh⟩]
        have := zwy_wp (sn := sn) hX 1 ns h8 hs
        rw [Nat.one_mul] at this
        exact this
      · rw [if_neg hh, if_neg (fun q => hh (hcond.mp q.2))]
        have := zwy_wp (sn := sn) hX 0 ns h8 hs
        rw [Nat.zero_mul] at this
        exact this
    · rw [if_neg (fun q => hsub q.1)]
      have z0 : ∀ m', zwy sn (nI X) (nI m) 0 m' = 0 := by
        intro m'
        induction m' with
        | zero => rfl
        | succ m' ih2 => show zwy sn (nI X) (nI m) 0 m' * _ = 0; rw [ih2, Int32.zero_mul]
      rw [z0]
      have hz : wp (facS (fun k => bt sn k) X) ns m = 0 := by
        have hex : ∃ k, k < ns ∧ m.testBit k = true ∧ ¬ bt sn k = true := by
          apply Classical.byContradiction
          intro q
          apply hsub
          apply b_sub.mpr
          intro i hi w1
          rw [b_nI m hi] at w1
          apply Classical.byContradiction
          intro w2
          exact q ⟨i, hmb i w1, w1, w2⟩
        obtain ⟨k, hk, q1, q2⟩ := hex
        have key : ∀ n, k < n → wp (facS (fun k => bt sn k) X) n m = 0 := by
          intro n
          induction n with
          | zero => intro h; omega
          | succ n ih3 =>
            intro h
            show wp _ n m * facS (fun k => bt sn k) X n (m.testBit n) = 0
            by_cases e : k = n
            · subst e
              unfold facS
              rw [if_neg q2, if_pos q1, Nat.mul_zero]
            · rw [ih3 (by omega), Nat.zero_mul]
        exact key ns hk
      rw [hz]
      split <;> rfl
theorem e_odds {μ ν : ZMem} (h : R μ ν) (w x what : Int32) : E2 mX3_odds mX4_odds 6 4 [.ref 0, .int w, .int x, .int what] μ ν := by
  obtain ⟨T, ns, np, n, u, f, ⟨rfl, hT⟩, hD, hM, hF, hX, hK0, hK1, htr⟩ := id h
  obtain ⟨d1, d2, d3, d4, d5, d6, d7, d8, d9, d10, d11, d12, d13⟩ := id hD
  have h8 := d1.2.2
  have h5 := d2.2.2
  have hpw := zpow_le ns (by omega)
  rcases zin_cases ns (by omega) w with hw | ⟨j, hj, rfl⟩
  · exact E2.of (spC_odds_bad d1 (Or.inl hw)) (spM_odds_bad d3 (Or.inl hw)) h
  · have x11 : nI 11 ≤ x → 10 < x := fun q => Int32.lt_of_lt_of_le (by decide) q
    rcases zin_cases 11 (by omega) x with hw | ⟨X, hX11, rfl⟩
    · exact E2.of (spC_odds_bad d1 (Or.inr ⟨⟨j, hj, rfl⟩, Or.inl (hw.imp id x11)⟩)) (spM_odds_bad d3 (Or.inr ⟨⟨j, hj, rfl⟩, Or.inl (hw.imp id x11)⟩)) h
    · have hx0 : ¬ nI X < 0 := nI_pos (by omega)
      have hx1 : ¬ 10 < nI X := nI_nlt (a := 10) (by omega) (by decide)
      have hX10 : X ≤ 10 := by omega
      rcases zin_cases 2 (by omega) what with hw | ⟨q, hq, rfl⟩
      · have hw2 : what < 0 ∨ 1 < what := hw.imp id (fun q => Int32.lt_of_lt_of_le (by decide) q)
        exact E2.of (spC_odds_bad d1 (Or.inr ⟨⟨j, hj, rfl⟩, Or.inr hw2⟩)) (spM_odds_bad d3 (Or.inr ⟨⟨j, hj, rfl⟩, Or.inr ⟨⟨hx0, hx1⟩, hw2⟩⟩)) h
      · have hw0 : ¬ nI q < 0 := nI_pos (by omega)
        have hw1 : ¬ 1 < nI q := nI_nlt (a := 1) (by omega) (by decide)
        obtain ⟨S, hS, eS⟩ := d11
        generalize hsn : ν.1 5 0 = sn at *
        generalize hsa : zsay (ν.1 7) sn np ns = sa at *
        have hsa2 : ∀ i, i < 32 → bt sa i = true → ¬ bt sn i = true := fun i hi q => by rw [← hsa] at q; exact ((b_zsay h5 h8 hi).mp q).2.1
        have hsnhi : ∀ i, ns ≤ i → i < 32 → bt sn i = false := fun i h1 h2 => by rw [eS]; exact b_hi hS h1 h2
        -- the good sounds
        generalize hG : gd sa sn (ν.1 4) ns j = G
        have hGS : ∀ k, G k = true → (fun k => bt sn k) k = true := by
          intro k q
          rw [← hG] at q
          unfold gd at q
          simp only [Bool.and_eq_true] at q
          exact q.2.1
        have hm : (if zbt (μ.1 (μ.2.2 0 1) 7) (nI j) then (1 : Int32) else zbc (zbg (μ.1 (μ.2.2 0 1) 8) (μ.1 (μ.2.2 0 1) 7) (μ.1 (μ.2.2 0 1 + 2)) ns (1 <<< (nI j &&& 31)) ns)) = nI (ct G ns) := by
          rw [d6, d7]
          by_cases cs : bt sn j = true
          · rw [if_pos ((zk_bt (by omega)).mpr cs)]
            have e : ∀ k, G k = (decide (k < ns) && decide (k = j)) := by
              intro k
              rw [← hG]
              unfold gd
              rw [if_pos cs]
              by_cases e : k = j
              · subst e; rw [cs]; simp
              · simp [e]
            have one : ∀ m, ct G m = if j < m then 1 else 0 := by
              intro m
              induction m with
              | zero => rfl
              | succ m ih =>
                show ct G m + (if G m = true then 1 else 0) = _
                rw [ih, e m]
                by_cases c1 : m = j
                · subst c1; simp [hj]
                · by_cases c2 : j < m
                  · simp [c1, c2, show j < m + 1 by omega]
                  · simp [c1, c2, show ¬ j < m + 1 by omega]
            rw [one ns, if_pos hj]
            rfl
          · rw [if_neg (fun q => cs ((zk_bt (by omega)).mp q))]
            have hbg : ∀ i, i < 32 → bt (zbg sa sn (μ.1 (μ.2.2 0 1 + 2)) ns (1 <<< (nI j &&& 31)) ns) i = G i := by
              intro i hi
              unfold zbg
              rw [b_fset (P := fun k => zbt sn (nI k) ∧ ((1 : Int32) <<< (nI j &&& 31) &&& (sn ^^^ (-1 : Int32))) &&& (zre sa (μ.1 (μ.2.2 0 1 + 2)) ((1 : Int32) <<< (nI k &&& 31)) ns 8 ^^^ (-1 : Int32)) = 0) ns (by omega) i hi, ← hG]
              unfold gd
              rw [if_neg cs]
              have e1 : ((1 : Int32) <<< (nI j &&& 31) &&& (sn ^^^ (-1 : Int32))) &&& (zre sa (μ.1 (μ.2.2 0 1 + 2)) ((1 : Int32) <<< (nI i &&& 31)) ns 8 ^^^ (-1 : Int32)) = 0 ↔ bt (zre sa (ν.1 4) (1 <<< (nI i &&& 31)) ns 8) j = true := by
                rw [b_sub, zre_congr d9 8]
                constructor
                · intro q
                  apply q j (by omega)
                  rw [b_and, b_one (by omega) (by omega), b_xor, b_m1 j (by omega)]
                  have : bt sn j = false := by simpa using cs
                  rw [this]; simp
                · intro q k hk w1
                  rw [b_and, Bool.and_eq_true, b_one (by omega) hk] at w1
                  have : k = j := by simpa using w1.1
                  rw [this]; exact q
              rw [Bool.eq_iff_iff, decide_eq_true_eq, zk_bt hi, e1]
              simp only [Bool.and_eq_true, decide_eq_true_eq]
            obtain ⟨K, hK, eK⟩ := b_byte (x := zbg sa sn (μ.1 (μ.2.2 0 1 + 2)) ns (1 <<< (nI j &&& 31)) ns) (fun i h1 h2 => by
              rw [hbg i h2, ← hG]; unfold gd; rw [decide_eq_false (by omega)]; rfl)
            have c8 : ct G 8 = ct G ns := ct_8 h8 (fun k h1 h2 => by rw [← hG]; unfold gd; rw [decide_eq_false (by omega)]; rfl)
            rw [eK, zbc_ct K hK, ← c8]
            congr 1
            refine ct_congr 8 (fun k hk => ?_)
            rw [← eK]
            exact hbg k (by omega)
        have cG := ct_le hGS ns
        have cS8 := ct_n (fun k => bt sn k) ns
        generalize hmm : ct G ns = m at *
        have hmS : zmany sn = nI (ct (fun k => bt sn k) ns) := by
          have c8 : ct (fun k => bt sn k) 8 = ct (fun k => bt sn k) ns := ct_8 h8 (fun k h1 h2 => hsnhi k h1 (by omega))
          rw [← c8]
          have := zmany_ct S (by omega)
          rw [← eS] at this
          exact this
        generalize hM2 : ct (fun k => bt sn k) ns = M at *
        have p8 : ∀ k, k ≤ 8 → 10 ^ k ≤ 100000000 := fun k hk => by
          have : 10 ^ k ≤ 10 ^ 8 := Nat.pow_le_pow_right (by omega) hk
          omega
        have hden := p8 m (by omega)
        have hD1 := p8 M (by omega)
        have hden0 : 0 < 10 ^ m := Nat.pow_pos (by omega)
        have hD0 : 0 < 10 ^ M := Nat.pow_pos (by omega)
        have hsub10 : (10 - X) ^ m ≤ 10 ^ m := Nat.pow_le_pow_left (by omega) m
        have eD : 10 ^ M = 10 ^ (M - m) * 10 ^ m := by rw [← Nat.pow_add, show M - m + m = M by omega]
        have hUle : 10 ^ (M - m) * (10 ^ m - (10 - X) ^ m) ≤ 10 ^ M := by rw [eD]; exact Nat.mul_le_mul_left _ (by omega)
        have hU : zuo sa sn (ν.1 4) ns j (nI X) (2 ^ ns) = nI (10 ^ (M - m) * (10 ^ m - (10 - X) ^ m)) := by
          rw [zuo_sm h8 hX10 hj hsa2 (2 ^ ns) (Nat.le_refl _), hG, sm_hit hX10 hGS, hmm, hM2]
        have z10 : ∀ k, zpw 10 k = nI (10 ^ k) := fun k => zpw_eq (b := 10) (B := 10) rfl k
        have hnum : zpw 10 m - zpw (10 - nI X) m = nI (10 ^ m - (10 - X) ^ m) := by
          rw [z10, zpw_eq (B := 10 - X) (show (10 : Int32) - nI X = nI (10 - X) from pk_sub (a := 10) hX10), pk_sub hsub10]
        have hgcd : zcd 100 (zpw 10 m) (zpw 10 m - zpw (10 - nI X) m) = nI (Nat.gcd (10 ^ m) (10 ^ m - (10 - X) ^ m)) := by
          rw [hnum, z10]
          exact zcd_gcd 27 100 _ _ (by omega) (by omega) (by omega) (by omega) (by omega)
        generalize hNN : 10 ^ m - (10 - X) ^ m = NN at *
        have hg0 : 0 < Nat.gcd (10 ^ m) NN := Nat.gcd_pos_of_pos_left _ hden0
        have hgle : Nat.gcd (10 ^ m) NN ≤ 10 ^ m := Nat.gcd_le_left _ hden0
        have c0 : 0 < 10 ^ (M - m) := Nat.pow_pos (by omega)
        have hmod := spM_odds (x := nI X) (what := nI q) (m := M) (U := 10 ^ (M - m) * NN) (D := 10 ^ M) d3 d4 hj hx0 hx1 hw0 hw1 (by rw [hsn]; exact hmS) (by omega) (z10 M) hD0 (by omega) (by rw [hsn, hsa]; exact hU) (by omega)
        have hcl := spC_odds (x := nI X) (what := nI q) d1 hj hx0 hx1 hw0 hw1 (show m ≤ 100 by omega) hm
        refine E2.of hcl (Sp.eq hmod ?_ rfl) h
        have hgn : ¬ nI (Nat.gcd (10 ^ m) NN) ≤ 0 := by
          intro q2
          have h1 := Int32.le_iff_toInt_le.mp q2
          rw [nI_toInt (by omega)] at h1
          have : (0 : Int32).toInt = 0 := by decide
          omega
        rw [hgcd, if_neg hgn, hnum, z10]
        have eg : Nat.gcd (10 ^ (M - m) * NN) (10 ^ M) = 10 ^ (M - m) * Nat.gcd (10 ^ m) NN := by rw [eD, Nat.gcd_mul_left, Nat.gcd_comm NN]
        rw [eg]
        by_cases cq : nI q = 0
        · rw [if_pos cq, if_pos cq, Nat.mul_div_mul_left _ _ c0, pk_div (by omega) hg0 (by omega)]
        · rw [if_neg cq, if_neg cq, eD, Nat.mul_div_mul_left _ _ c0, pk_div (by omega) hg0 (by omega)]

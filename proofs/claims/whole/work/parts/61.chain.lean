/-! ===== same answers: chain ===== -/
theorem zab_congr {an an' : Nat → Int32} {set : Int32} {ns : Nat} (h : ∀ k, k < ns → an k = an' k) : zab an set ns = zab an' set ns := by
  unfold zab
  exact zfold_congr (fun k hk x => by rw [h k hk])
theorem zly_congr {sa : Int32} {an an' : Nat → Int32} {ns : Nat} {w : Int32} (h : ∀ k, k < ns → an k = an' k) : ∀ k, zly sa an ns w k = zly sa an' ns w k := by
  intro k
  induction k with
  | zero => rfl
  | succ k ih => show zab an (zly sa an ns w k) ns &&& sa = zab an' (zly sa an' ns w k) ns &&& sa; rw [ih, zab_congr h]
theorem zcs_congr {sa : Int32} {an an' : Nat → Int32} {ns m : Nat} {ly : Nat → Int32} {st : Int32} (h : ∀ k, k < ns → an k = an' k) : ∀ k, zcs sa an ns ly m st k = zcs sa an' ns ly m st k := by
  intro k
  induction k with
  | zero => rfl
  | succ k ih =>
    show (zan sa an (1 <<< (zlow ((zcs sa an ns ly m st k).1 &&& ly (m - k)) &&& 31)) ns, zlow ((zcs sa an ns ly m st k).1 &&& ly (m - k))) = (zan sa an' (1 <<< (zlow ((zcs sa an' ns ly m st k).1 &&& ly (m - k)) &&& 31)) ns, zlow ((zcs sa an' ns ly m st k).1 &&& ly (m - k)))
    rw [ih, zan_congr h]
theorem b_zly0 {sa : Int32} {an : Nat → Int32} {ns w : Nat} (hw : w < 32) {s : Nat} (hs : s < 32) : bt (zly sa an ns (nI w) 0) s = true ↔ bt sa s = true ∧ s = w := by
  show bt (sa &&& (1 <<< (nI w &&& 31))) s = true ↔ _
  rw [b_and, Bool.and_eq_true, b_one hw hs, decide_eq_true_eq]
theorem b_zlyS {sa : Int32} {an : Nat → Int32} {ns w : Nat} (h8 : ns ≤ 8) {k s : Nat} (_hs : s < 32) : bt (zly sa an ns (nI w) (k + 1)) s = true ↔ bt sa s = true ∧ ∃ r, r < ns ∧ bt (zly sa an ns (nI w) k) r = true ∧ bt (an r) s = true := by
  show bt (zab an (zly sa an ns (nI w) k) ns &&& sa) s = true ↔ _
  rw [b_and, Bool.and_eq_true]
  unfold zab
  rw [b_for (g := an) (P := fun r => zbt (zly sa an ns (nI w) k) (nI r)) ns s]
  constructor
  · rintro ⟨⟨r, hr, h1, h2⟩, h3⟩; exact ⟨h3, r, hr, (zk_bt (by omega)).mp h1, h2⟩
  · rintro ⟨h3, r, hr, h1, h2⟩; exact ⟨⟨r, hr, (zk_bt (by omega)).mpr h1, h2⟩, h3⟩
/-- a way from s to i of k steps, lengthened at its end -/
theorem zly_end {sa : Int32} {an : Nat → Int32} {ns i : Nat} (h8 : ns ≤ 8) (hi : i < ns) (hsi : bt sa i = true) : ∀ k s j, s < 32 → j < 32 → bt (zly sa an ns (nI j) k) s = true → bt (an i) j = true → bt (zly sa an ns (nI i) (k + 1)) s = true := by
  intro k
  induction k with
  | zero =>
    intro s j hs hj h1 h2
    obtain ⟨q1, q2⟩ := (b_zly0 hj hs).mp h1
    subst q2
    exact (b_zlyS h8 hs).mpr ⟨q1, i, hi, (b_zly0 (by omega) (by omega)).mpr ⟨hsi, rfl⟩, h2⟩
  | succ k ih =>
    intro s j hs hj h1 h2
    obtain ⟨q1, r, hr, q2, q3⟩ := (b_zlyS h8 hs).mp h1
    exact (b_zlyS h8 hs).mpr ⟨q1, r, hr, ih r j (by omega) hj q2 h2, q3⟩
theorem zly_cut {sa : Int32} {an : Nat → Int32} {ns i : Nat} (h8 : ns ≤ 8) (hi : i < ns) : ∀ k s, s < 32 → bt (zly sa an ns (nI i) (k + 1)) s = true → bt sa i = true ∧ ∃ j, j < 32 ∧ bt (an i) j = true ∧ bt (zly sa an ns (nI j) k) s = true := by
  intro k
  induction k with
  | zero =>
    intro s hs h
    obtain ⟨q1, r, hr, q2, q3⟩ := (b_zlyS h8 hs).mp h
    obtain ⟨q4, rfl⟩ := (b_zly0 (by omega) (by omega)).mp q2
    exact ⟨q4, s, hs, q3, (b_zly0 hs hs).mpr ⟨q1, rfl⟩⟩
  | succ k ih =>
    intro s hs h
    obtain ⟨q1, r, hr, q2, q3⟩ := (b_zlyS h8 hs).mp h
    obtain ⟨q4, j, hj, q5, q6⟩ := ih r (by omega) q2
    exact ⟨q4, j, hj, q5, (b_zlyS h8 hs).mpr ⟨q1, r, hr, q6, q3⟩⟩
theorem zly_sa {sa : Int32} {an : Nat → Int32} {ns w : Nat} (h8 : ns ≤ 8) (hw : w < 32) {k s : Nat} (hs : s < 32) (h : bt (zly sa an ns (nI w) k) s = true) : bt sa s = true := by
  cases k with
  | zero => exact ((b_zly0 hw hs).mp h).1
  | succ k => exact ((b_zlyS h8 hs).mp h).1
/-- what can be said within k, told backwards -/
theorem b_zal {sa : Int32} {an : Nat → Int32} {B : Int32} {ns : Nat} (h8 : ns ≤ 8) : ∀ k i, i < 32 → (bt (zal sa an ns B k) i = true ↔ ∃ k', k' < k ∧ ∃ s, s < 32 ∧ bt (zly sa an ns (nI i) k') s = true ∧ bt (zan sa an B ns) s = true ∧ i < ns) := by
  intro k
  induction k with
  | zero =>
    intro i hi
    have e : bt (zal sa an ns B 0) i = false := b_0 i
    rw [e]
    exact ⟨fun q => (by cases q), fun ⟨k', hk, _⟩ => (by omega)⟩
  | succ k ih =>
    intro i hi
    have e : bt (zal sa an ns B (k + 1)) i = true ↔ bt (zal sa an ns B k) i = true ∨ (i < ns ∧ bt sa i = true ∧ ∃ j, j < 32 ∧ bt (an i) j = true ∧ (bt B j = true ∨ bt (zal sa an ns B k) j = true)) := by
      show bt (zal sa an ns B k ||| zan sa an (B ||| zal sa an ns B k) ns) i = true ↔ _
      rw [b_or, Bool.or_eq_true, b_zan h8 hi, b_meet]
      simp only [b_or, Bool.or_eq_true]
    rw [e]
    constructor
    · rintro (h | ⟨h1, h2, j, hj, h3, h4⟩)
      · obtain ⟨k', hk, q⟩ := (ih i hi).mp h
        exact ⟨k', by omega, q⟩
      · rcases h4 with h4 | h4
        · exact ⟨0, by omega, i, hi, (b_zly0 hi hi).mpr ⟨h2, rfl⟩, (b_zan h8 hi).mpr ⟨h1, h2, b_meet.mpr ⟨j, hj, h3, h4⟩⟩, h1⟩
        · obtain ⟨k', hk, s, hs, q1, q2, q3⟩ := (ih j hj).mp h4
          exact ⟨k' + 1, by omega, s, hs, zly_end h8 h1 h2 k' s j hs hj q1 h3, q2, h1⟩
    · rintro ⟨k', hk, s, hs, q1, q2, q3⟩
      right
      cases k' with
      | zero =>
        obtain ⟨q4, q5⟩ := (b_zly0 hi hs).mp q1
        subst q5
        obtain ⟨w1, w2, w3⟩ := (b_zan h8 hs).mp q2
        obtain ⟨j, hj, w4, w5⟩ := b_meet.mp w3
        exact ⟨w1, w2, j, hj, w4, Or.inl w5⟩
      | succ k' =>
        obtain ⟨w1, j, hj, w2, w3⟩ := zly_cut h8 q3 k' s hs q1
        have hjn : j < ns := by
          cases k' with
          | zero =>
            obtain ⟨w4, w5⟩ := (b_zly0 hj hs).mp w3
            rw [← w5]
            exact ((b_zan h8 hs).mp q2).1
          | succ k'' =>
            -- the way's last one is sayable, so it is a saying: by its first cut
            apply Classical.byContradiction
            intro hn
            have key : ∀ m s, s < 32 → bt (zly sa an ns (nI j) m) s = true → m = 0 ∨ False := by
              intro m
              induction m with
              | zero => intro s _ _; exact Or.inl rfl
              | succ m ih2 =>
                intro s hs h
                obtain ⟨a1, r, hr, a2, a3⟩ := (b_zlyS h8 hs).mp h
                rcases ih2 r (by omega) a2 with e | e
                · subst e
                  have := ((b_zly0 hj (by omega)).mp a2).2
                  omega
                · exact Or.inr e
            rcases key (k'' + 1) s hs w3 with e | e
            · omega
            · exact e
        exact ⟨q3, w1, j, hj, w2, Or.inr ((ih j hj).mpr ⟨k', by omega, s, hs, w3, q2, hjn⟩)⟩
/-- from B on, the nearest that may be said is d steps short of w -/
def mn (sa : Int32) (an : Nat → Int32) (ns w : Nat) (B : Int32) (d : Nat) : Prop := (∃ s, s < 32 ∧ bt (zly sa an ns (nI w) d) s = true ∧ bt (zan sa an B ns) s = true) ∧ ∀ k, k < d → ∀ s, s < 32 → bt (zly sa an ns (nI w) k) s = true → ¬ bt (zan sa an B ns) s = true
theorem co_mn {sa : Int32} {an : Nat → Int32} {ns w : Nat} {B : Int32} (h8 : ns ≤ 8) (hw : w < ns) {d : Nat} (hd : d < 8) (h : mn sa an ns w B d) : zco sa an ns w B = nI (d + 1) := by
  unfold zco
  rcases zff_first (fun k => decide (zbt (zal sa an ns B k) (nI w))) 8 1 with ⟨e1, e2⟩ | ⟨j, j1, j2, e1, e2, e3⟩
  · exfalso
    have := e2 (d + 1) (by omega) (by omega)
    have q : ¬ zbt (zal sa an ns B (d + 1)) (nI w) := by simpa using this
    apply q
    obtain ⟨s, hs, a1, a2⟩ := h.1
    exact (zk_bt (by omega)).mpr ((b_zal h8 (d + 1) w (by omega)).mpr ⟨d, by omega, s, hs, a1, a2, hw⟩)
  · rw [e1]
    congr 1
    have q : zbt (zal sa an ns B j) (nI w) := by simpa using e2
    obtain ⟨k', hk, s, hs, a1, a2, -⟩ := (b_zal h8 j w (by omega)).mp ((zk_bt (by omega)).mp q)
    have hdk : d ≤ k' := by
      apply Classical.byContradiction
      intro c
      exact h.2 k' (by omega) s hs a1 a2
    apply Classical.byContradiction
    intro c
    have := e3 (d + 1) (by omega) (by omega)
    have q2 : ¬ zbt (zal sa an ns B (d + 1)) (nI w) := by simpa using this
    apply q2
    obtain ⟨s, hs, a1, a2⟩ := h.1
    exact (zk_bt (by omega)).mpr ((b_zal h8 (d + 1) w (by omega)).mpr ⟨d, by omega, s, hs, a1, a2, hw⟩)
theorem zco_none {sa : Int32} {an : Nat → Int32} {ns w : Nat} {B : Int32} (h8 : ns ≤ 8) (hw : w < ns) (h : ∀ k, k < 8 → ∀ s, s < 32 → bt (zly sa an ns (nI w) k) s = true → ¬ bt (zan sa an B ns) s = true) : zco sa an ns w B = -9 := by
  unfold zco
  rcases zff_first (fun k => decide (zbt (zal sa an ns B k) (nI w))) 8 1 with ⟨e1, e2⟩ | ⟨j, j1, j2, e1, e2, e3⟩
  · exact e1
  · exfalso
    have q : zbt (zal sa an ns B j) (nI w) := by simpa using e2
    obtain ⟨k', hk, s, hs, a1, a2, -⟩ := (b_zal h8 j w (by omega)).mp ((zk_bt (by omega)).mp q)
    exact h k' (by omega) s hs a1 a2
theorem mn_co {sa : Int32} {an : Nat → Int32} {ns w : Nat} {B : Int32} (h8 : ns ≤ 8) (hw : w < ns) {d : Nat} (hd : d < 8) (h : zco sa an ns w B = nI (d + 1)) : mn sa an ns w B d := by
  unfold zco at h
  rcases zff_first (fun k => decide (zbt (zal sa an ns B k) (nI w))) 8 1 with ⟨e1, e2⟩ | ⟨j, j1, j2, e1, e2, e3⟩
  · rw [e1] at h
    exact absurd h.symm (nI_ne9 (by omega))
  · rw [e1] at h
    have hj : j = d + 1 := (nI_eq (by omega) (by omega)).mp h
    subst hj
    have lo : ∀ k, k < d → ∀ s, s < 32 → bt (zly sa an ns (nI w) k) s = true → ¬ bt (zan sa an B ns) s = true := by
      intro k hk s hs a1 a2
      have := e3 (k + 1) (by omega) (by omega)
      have q2 : ¬ zbt (zal sa an ns B (k + 1)) (nI w) := by simpa using this
      exact q2 ((zk_bt (by omega)).mpr ((b_zal h8 (k + 1) w (by omega)).mpr ⟨k, by omega, s, hs, a1, a2, hw⟩))
    refine ⟨?_, lo⟩
    have q : zbt (zal sa an ns B (d + 1)) (nI w) := by simpa using e2
    obtain ⟨k', hk, s, hs, a1, a2, -⟩ := (b_zal h8 (d + 1) w (by omega)).mp ((zk_bt (by omega)).mp q)
    by_cases c : k' = d
    · subst c; exact ⟨s, hs, a1, a2⟩
    · exact absurd a2 (lo k' (by omega) s hs a1)
theorem b_zan_or {sa : Int32} {an : Nat → Int32} {B C : Int32} {ns : Nat} (h8 : ns ≤ 8) {i : Nat} (hi : i < 32) : bt (zan sa an (B ||| C) ns) i = true ↔ bt (zan sa an B ns) i = true ∨ bt (zan sa an C ns) i = true := by
  rw [b_zan h8 hi, b_zan h8 hi, b_zan h8 hi, b_meet, b_meet, b_meet]
  simp only [b_or, Bool.or_eq_true]
  constructor
  · rintro ⟨h1, h2, j, hj, h3, h4 | h4⟩
    · exact Or.inl ⟨h1, h2, j, hj, h3, h4⟩
    · exact Or.inr ⟨h1, h2, j, hj, h3, h4⟩
  · rintro (⟨h1, h2, j, hj, h3, h4⟩ | ⟨h1, h2, j, hj, h3, h4⟩)
    · exact ⟨h1, h2, j, hj, h3, Or.inl h4⟩
    · exact ⟨h1, h2, j, hj, h3, Or.inr h4⟩
theorem b_zan_1 {sa : Int32} {an : Nat → Int32} {ns : Nat} (h8 : ns ≤ 8) {i s : Nat} (hi : i < 32) (hs : s < 32) : bt (zan sa an (1 <<< (nI s &&& 31)) ns) i = true ↔ i < ns ∧ bt sa i = true ∧ bt (an i) s = true := by
  rw [b_zan h8 hi, b_meet]
  constructor
  · rintro ⟨h1, h2, j, hj, h3, h4⟩
    rw [b_one hs hj] at h4
    have : j = s := by simpa using h4
    exact ⟨h1, h2, this ▸ h3⟩
  · rintro ⟨h1, h2, h3⟩
    exact ⟨h1, h2, s, hs, h3, by rw [b_one hs hs]; simp⟩
/-- one step on -/
theorem mn_step {sa : Int32} {an : Nat → Int32} {ns w : Nat} {B : Int32} (h8 : ns ≤ 8) (hw : w < ns) (hsa : ∀ i, i < 32 → bt sa i = true → i < ns) {d s : Nat} (h : mn sa an ns w B (d + 1)) (hs : s < 32) (h1 : bt (zly sa an ns (nI w) (d + 1)) s = true) (h2 : bt (zan sa an B ns) s = true) : mn sa an ns w (B ||| (1 <<< (nI s &&& 31))) d := by
  refine ⟨?_, fun k hk r hr a1 a2 => ?_⟩
  · obtain ⟨q1, r, hr, q2, q3⟩ := (b_zlyS h8 hs).mp h1
    exact ⟨r, by omega, q2, (b_zan_or h8 (by omega)).mpr (Or.inr ((b_zan_1 h8 (by omega) hs).mpr ⟨hr, zly_sa h8 (by omega) (by omega) q2, q3⟩))⟩
  · rcases (b_zan_or h8 hr).mp a2 with a3 | a3
    · exact h.2 k (by omega) r hr a1 a3
    · obtain ⟨b1, b2, b3⟩ := (b_zan_1 h8 hr hs).mp a3
      exact h.2 (k + 1) (by omega) s hs ((b_zlyS h8 hs).mpr ⟨((b_zan h8 hs).mp h2).2.1, r, b1, a1, b3⟩) h2
theorem zck_iff {sa : Int32} {an : Nat → Int32} {ns w : Nat} {B : Int32} (h8 : ns ≤ 8) (hw : w < ns) (hsa : ∀ i, i < 32 → bt sa i = true → i < ns) {d s : Nat} (hd : d < 8) (h : mn sa an ns w B d) (hs : s < 32) : zck sa an ns w B d s ↔ bt (zan sa an B ns) s = true ∧ bt (zly sa an ns (nI w) d) s = true := by
  unfold zck
  rw [zk_bt hs]
  cases d with
  | zero =>
    constructor
    · rintro ⟨h1, h2, -⟩
      exact ⟨h1, (b_zly0 (by omega) hs).mpr ⟨((b_zan h8 hs).mp h1).2.1, h2 rfl⟩⟩
    · rintro ⟨h1, h2⟩
      exact ⟨h1, fun _ => ((b_zly0 (by omega) hs).mp h2).2, fun q => absurd rfl q⟩
  | succ d =>
    constructor
    · rintro ⟨h1, -, h3⟩
      refine ⟨h1, ?_⟩
      obtain ⟨⟨r, hr, a1, a2⟩, -⟩ := mn_co h8 hw (by omega) (h3 (by omega))
      rcases (b_zan_or h8 hr).mp a2 with a3 | a3
      · exact absurd a3 (h.2 d (by omega) r hr a1)
      · obtain ⟨b1, b2, b3⟩ := (b_zan_1 h8 hr hs).mp a3
        exact (b_zlyS h8 hs).mpr ⟨((b_zan h8 hs).mp h1).2.1, r, b1, a1, b3⟩
    · rintro ⟨h1, h2⟩
      exact ⟨h1, fun q => by omega, fun _ => co_mn h8 hw (by omega) (mn_step h8 hw hsa h hs h2 h1)⟩
theorem zlow_least {x : Int32} (hx : ∀ i, i < 32 → bt x i = true → i < 8) (h : ∃ i, i < 32 ∧ bt x i = true) : ∃ i, i < 8 ∧ zlow x = nI i ∧ bt x i = true ∧ ∀ j, j < i → ¬ bt x j = true := by
  unfold zlow
  rcases zff_first (fun k => decide (zbt x (nI k))) 8 0 with ⟨e1, e2⟩ | ⟨j, j1, j2, e1, e2, e3⟩
  · exfalso
    obtain ⟨i, hi, hb⟩ := h
    have := e2 i (by omega) (by have := hx i hi hb; omega)
    have q : ¬ zbt x (nI i) := by simpa using this
    exact q ((zk_bt hi).mpr hb)
  · refine ⟨j, by omega, e1, (zk_bt (by omega)).mp (by simpa using e2), fun i hi q => ?_⟩
    have := e3 i (by omega) hi
    have q2 : ¬ zbt x (nI i) := by simpa using this
    exact q2 ((zk_bt (by omega)).mpr q)
/-- the class's steps are the reference's -/
theorem zcs_sd {sa : Int32} {an : Nat → Int32} {ns w m : Nat} {th : Int32} (h8 : ns ≤ 8) (hw : w < ns) (hsa : ∀ i, i < 32 → bt sa i = true → i < ns) (hm : m < 8) (h0 : mn sa an ns w th m) (sd : Nat → Nat) (hsd : ∀ k, sd k = (zcs sa an ns (zly sa an ns (nI w)) m (zan sa an th ns) (k + 1)).2.toNatClampNeg) :
    ∀ k, k ≤ m → (mn sa an ns w (zts th sd k) (m - k) ∧ ∀ s, s < 32 → bt (zly sa an ns (nI w) (m - k)) s = true → (bt (zcs sa an ns (zly sa an ns (nI w)) m (zan sa an th ns) k).1 s = true ↔ bt (zan sa an (zts th sd k) ns) s = true)) ∧ sd k < 8 ∧ (zcs sa an ns (zly sa an ns (nI w)) m (zan sa an th ns) (k + 1)).2 = nI (sd k) ∧ zck sa an ns w (zts th sd k) (m - k) (sd k) ∧ ∀ s, s < sd k → ¬ zck sa an ns w (zts th sd k) (m - k) s := by
  generalize hC : zcs sa an ns (zly sa an ns (nI w)) m (zan sa an th ns) = C at *
  have C0 : C 0 = (zan sa an th ns, -9) := by rw [← hC]; rfl
  have CS : ∀ k, C (k + 1) = (zan sa an (1 <<< (zlow ((C k).1 &&& zly sa an ns (nI w) (m - k)) &&& 31)) ns, zlow ((C k).1 &&& zly sa an ns (nI w) (m - k))) := by intro k; rw [← hC]; rfl
  have stp : ∀ k, k ≤ m → (mn sa an ns w (zts th sd k) (m - k) ∧ ∀ s, s < 32 → bt (zly sa an ns (nI w) (m - k)) s = true → (bt (C k).1 s = true ↔ bt (zan sa an (zts th sd k) ns) s = true)) → sd k < 8 ∧ (C (k + 1)).2 = nI (sd k) ∧ bt (zly sa an ns (nI w) (m - k)) (sd k) = true ∧ bt (zan sa an (zts th sd k) ns) (sd k) = true ∧ zck sa an ns w (zts th sd k) (m - k) (sd k) ∧ ∀ s, s < sd k → ¬ zck sa an ns w (zts th sd k) (m - k) s := by
    intro k hk hinv
    obtain ⟨hmn, hag⟩ := hinv
    obtain ⟨i, hi, e, hb, hmin⟩ := zlow_least (x := (C k).1 &&& zly sa an ns (nI w) (m - k)) (fun i hi q => by
      rw [b_and, Bool.and_eq_true] at q
      have := hsa i hi (zly_sa h8 (by omega) hi q.2)
      omega) (by
      obtain ⟨s, hs, a1, a2⟩ := hmn.1
      exact ⟨s, hs, by rw [b_and, (hag s hs a1).mpr a2, a1]; rfl⟩)
    have esd : sd k = i := by rw [hsd k, CS k]; show (zlow _).toNatClampNeg = i; rw [e, nI_clamp (by omega)]
    rw [b_and, Bool.and_eq_true] at hb
    have hz := (hag i (by omega) hb.2).mp hb.1
    rw [esd]
    refine ⟨hi, by rw [CS k]; exact e, hb.2, hz, (zck_iff h8 hw hsa (by omega) hmn (by omega)).mpr ⟨hz, hb.2⟩, fun s hs q => ?_⟩
    obtain ⟨a1, a2⟩ := (zck_iff h8 hw hsa (by omega) hmn (by omega)).mp q
    exact hmin s hs (by rw [b_and, (hag s (by omega) a2).mpr a1, a2]; rfl)
  have inv : ∀ k, k ≤ m → (mn sa an ns w (zts th sd k) (m - k) ∧ ∀ s, s < 32 → bt (zly sa an ns (nI w) (m - k)) s = true → (bt (C k).1 s = true ↔ bt (zan sa an (zts th sd k) ns) s = true)) := by
    intro k
    induction k with
    | zero => intro _; exact ⟨h0, fun s _ _ => by rw [C0]; exact Iff.rfl⟩
    | succ k ih =>
      intro hk
      have hi := ih (by omega)
      obtain ⟨g1, g2, g3, g4, -, -⟩ := stp k (by omega) hi
      have ed : m - k = (m - (k + 1)) + 1 := by omega
      have hmn := hi.1
      rw [ed] at hmn g3
      have hnext : mn sa an ns w (zts th sd k ||| (1 <<< (nI (sd k) &&& 31))) (m - (k + 1)) := mn_step h8 hw hsa hmn (by omega) g3 g4
      refine ⟨hnext, fun s hs a1 => ?_⟩
      have eC : (C (k + 1)).1 = zan sa an (1 <<< (nI (sd k) &&& 31)) ns := by
        have e2 : zlow ((C k).1 &&& zly sa an ns (nI w) (m - k)) = nI (sd k) := by
          have := g2
          rw [CS k] at this
          exact this
        rw [CS k, e2]
      rw [eC]
      show _ ↔ bt (zan sa an (zts th sd k ||| (1 <<< (nI (sd k) &&& 31))) ns) s = true
      rw [b_zan_or h8 hs]
      constructor
      · intro q; exact Or.inr q
      · rintro (q | q)
        · exact absurd q (hmn.2 (m - (k + 1)) (by omega) s hs a1)
        · exact q
  intro k hk
  have hi := inv k hk
  obtain ⟨g1, g2, -, -, g5, g6⟩ := stp k hk hi
  exact ⟨hi, g1, g2, g5, g6⟩
theorem ex_least (P : Nat → Prop) : ∀ N, ∃ m, m ≤ N ∧ (∀ k, k < m → ¬ P k) ∧ (m < N → P m) := by
  intro N
  induction N with
  | zero => exact ⟨0, Nat.le_refl _, fun k hk => by omega, fun h => by omega⟩
  | succ N ih =>
    obtain ⟨m, h1, h2, h3⟩ := ih
    by_cases c : m < N
    · exact ⟨m, by omega, h2, fun _ => h3 c⟩
    · have e : m = N := by omega
      subst e
      by_cases c2 : P m
      · exact ⟨m, by omega, h2, fun _ => c2⟩
      · exact ⟨m + 1, Nat.le_refl _, fun k hk q => by
          by_cases e : k = m
          · exact c2 (e ▸ q)
          · exact h2 k (by omega) q, fun h => by omega⟩
theorem e_chain {μ ν : ZMem} (h : R μ ν) (w i : Int32) : E2 mX3_chain mX4_chain 4 4 [.ref 0, .int w, .int i] μ ν := by
  obtain ⟨T, ns, np, n, u, f, ⟨rfl, hT⟩, hD, hM, hF, hX, hK0, hK1, htr⟩ := id h
  obtain ⟨p1, p2, p3, p4, p5, p6, p7, p8, p9, p10, p11, p12⟩ := pM hM
  obtain ⟨d1, d2, d3, d4, d5, d6, d7, d8, d9, d10, d11, d12, d13⟩ := id hD
  have h8 := d1.2.2
  have h5 := d2.2.2
  rcases zin_cases ns (by omega) w with hw | ⟨j, hj, rfl⟩
  · exact E2.of (spC_chain_bad d1 (Or.inl hw)) (spM_chain_bad d3 (Or.inl hw)) h
  · by_cases hi1 : i < -1
    · exact E2.of (spC_chain_bad d1 (Or.inr ⟨⟨j, hj, rfl⟩, hi1⟩)) (spM_chain_bad d3 (Or.inr ⟨⟨j, hj, rfl⟩, hi1⟩)) h
    · have hi : (-1 : Int32) ≤ i := Int32.not_lt.mp hi1
      have hth : zthere (μ.1 12) (μ.1 13) (μ.1 11 7 + 0) (μ.1 (μ.2.2 0 1) 5) n = zthere (ν.1 9) (fun k => ν.1 9 (30 + k)) (ν.1 9 121) (ν.1 8 0) n := by
        rw [p11, d5, Int32.add_zero]; exact zthere_congr p3 p4
      generalize hT2 : zthere (ν.1 9) (fun k => ν.1 9 (30 + k)) (ν.1 9 121) (ν.1 8 0) n = th at *
      generalize hsa : zsay (ν.1 7) (ν.1 5 0) np ns = sa at *
      have hsa2 : ∀ i, i < 32 → bt sa i = true → i < ns := fun i hi q => by rw [← hsa] at q; exact ((b_zsay h5 h8 hi).mp q).1
      have ely : ∀ k, zly (μ.1 (μ.2.2 0 1) 8) (μ.1 (μ.2.2 0 1 + 2)) ns (nI j) k = zly sa (ν.1 4) ns (nI j) k := by
        intro k; rw [d7]; exact zly_congr d9 k
      have ely2 : zly (μ.1 (μ.2.2 0 1) 8) (μ.1 (μ.2.2 0 1 + 2)) ns (nI j) = zly sa (ν.1 4) ns (nI j) := funext ely
      have est : zst μ ns n = zan sa (ν.1 4) th ns := by
        unfold zst
        rw [hth, d7, zan_congr d9]
      obtain ⟨m, hm8, hm1, hm2⟩ := ex_least (fun k => ¬ zly sa (ν.1 4) ns (nI j) k &&& zan sa (ν.1 4) th ns = 0) 8
      have hb : ∀ k, k < m → zly (μ.1 (μ.2.2 0 1) 8) (μ.1 (μ.2.2 0 1 + 2)) ns (nI j) k &&& zst μ ns n = 0 := by
        intro k hk; rw [ely, est]; exact Classical.not_not.mp (hm1 k hk)
      have he : m < 8 → ¬ zly (μ.1 (μ.2.2 0 1) 8) (μ.1 (μ.2.2 0 1 + 2)) ns (nI j) m &&& zst μ ns n = 0 := by
        intro q; rw [ely, est]; exact hm2 q
      have hC := spC_chain d1 p1 hj hi hm8 hb he
      rw [ely2, est, d7] at hC
      have hlo : ∀ k, k < m → ∀ s, s < 32 → bt (zly sa (ν.1 4) ns (nI j) k) s = true → ¬ bt (zan sa (ν.1 4) th ns) s = true := fun k hk s hs a1 a2 => hm1 k hk (b_meet.mpr ⟨s, hs, a1, a2⟩)
      have hR : ∀ g q, R (zlm μ g q) ν := by
        intro g q
        have hz : ∀ a, a ≠ 33 → (zlm μ g q).1 a = μ.1 a := by
          intro a ha
          funext b
          show (if a = 33 ∧ b < q then g b else μ.1 a b) = μ.1 a b
          rw [if_neg (fun q => ha q.1)]
        exact R_of h rfl (fun i a b => hz i (by omega)) (fun i a b => rfl) (fun ns f q => ⟨f, rF_congr q (by rw [hz 0 (by omega)]) (fun v _ => by rw [hz 32 (by omega)]) rfl rfl rfl⟩) (fun q => rX_congr q (by rw [hz 1 (by omega)]) (hz 2 (by omega)) rfl rfl) htr
      have hlen := spM_chain_len d3 d4 p2 hj
      rw [hT2, hsa] at hlen
      by_cases c8 : m < 8
      · have hmn : mn sa (ν.1 4) ns j th m := by
          obtain ⟨s, hs, a1, a2⟩ := b_meet.mp (hm2 c8)
          exact ⟨⟨s, hs, a1, a2⟩, hlo⟩
        have hco := co_mn h8 hj c8 hmn
        rw [hco] at hlen
        rw [if_pos c8] at hC
        by_cases e1 : i = -1
        · subst e1
          rw [if_pos rfl] at hC
          exact E2.of hC (Sp.eq hlen (by rw [nI_succ]) rfl) (hR _ _)
        · rw [if_neg e1] at hC
          rcases zin_cases (m + 1) (by omega) i with hw | ⟨q, hq, rfl⟩
          · have hw2 : nI (m + 1) ≤ i := by
              rcases hw with hw | hw
              · exfalso
                apply e1
                have h1 := Int32.lt_iff_toInt_lt.mp hw
                have h2 := Int32.le_iff_toInt_le.mp hi
                apply Int32.toInt_inj.mp
                have z0 : (0 : Int32).toInt = 0 := by decide
                have z1 : (-1 : Int32).toInt = -1 := by decide
                omega
              · exact hw
            rw [if_pos (by rw [← nI_succ]; exact hw2)] at hC
            have hnone := spM_chain_none d3 d4 p2 hj hi e1 (by rw [hT2, hsa, hco]; exact hw2)
            exact E2.of hC hnone (hR _ _)
          · rw [if_neg (by rw [← nI_succ]; exact nI_ge hq (by omega)), nI_clamp (by omega)] at hC
            obtain ⟨sd, hsd⟩ : ∃ sd : Nat → Nat, ∀ k, sd k = (zcs sa (ν.1 4) ns (zly sa (ν.1 4) ns (nI j)) m (zan sa (ν.1 4) th ns) (k + 1)).2.toNatClampNeg := ⟨_, fun _ => rfl⟩
            have key := zcs_sd h8 hj hsa2 c8 hmn sd hsd
            have hstep := spM_chain_step sd d3 d4 p2 hj hT2 (m := m + 1) (q := q) (by rw [hsa]; exact hco) (by omega) hq (fun k hk => by
              obtain ⟨-, k1, k2, k3, k4⟩ := key k (by omega)
              rw [hsa, show m + 1 - k - 1 = m - k by omega]
              exact ⟨k1, k3, k4⟩)
            rw [zcs_congr d9, (key q (by omega)).2.2.1] at hC
            exact E2.of hC hstep (hR _ _)
      · have hco := zco_none h8 hj (fun k hk => hlo k (by omega))
        rw [hco] at hlen
        rw [if_neg c8] at hC
        by_cases e1 : i = -1
        · subst e1
          exact E2.of hC hlen (hR _ _)
        · have hnone := spM_chain_none d3 d4 p2 hj hi e1 (by rw [hT2, hsa, hco]; exact Int32.le_trans (by decide) hi)
          exact E2.of hC hnone (hR _ _)

/-! ===== same answers: orders ===== -/
theorem zcb_in : ∀ c, c < 256 → ∀ k, k < 8 → (¬ nI (zcb c k) = nI c ↔ zbt (nI c) (nI k)) := by decide +kernel
theorem zcc_all {sn kw aw : Int32} {ta tb : Nat → Int32} {w had set : Int32} : ∀ f, zcc sn kw aw ta tb w had set f = true ↔ (zbt sn w ∨ (¬ kw = 0 ∧ ¬ aw &&& had = 0)) ∧ ∀ k, k < f → zbt set (ta k) → zbt set (tb k) → tb k = w → zbt had (ta k) := by
  intro f
  induction f with
  | zero =>
    show decide _ = true ↔ _
    rw [decide_eq_true_eq]
    exact ⟨fun h => ⟨h, fun k hk => by omega⟩, fun h => h.1⟩
  | succ f ih =>
    show (zcc sn kw aw ta tb w had set f && (!(decide (zbt set (ta f)) && decide (zbt set (tb f))) || (!decide (tb f = w) || decide (zbt had (ta f))))) = true ↔ _
    rw [Bool.and_eq_true, ih]
    constructor
    · rintro ⟨⟨h1, h2⟩, h3⟩
      refine ⟨h1, fun k hk q1 q2 q3 => ?_⟩
      by_cases e : k = f
      · subst e
        rw [decide_eq_true q1, decide_eq_true q2, decide_eq_true q3] at h3
        simpa using h3
      · exact h2 k (by omega) q1 q2 q3
    · rintro ⟨h1, h2⟩
      refine ⟨⟨h1, fun k hk => h2 k (by omega)⟩, ?_⟩
      by_cases q1 : zbt set (ta f)
      · by_cases q2 : zbt set (tb f)
        · by_cases q3 : tb f = w
          · rw [decide_eq_true (h2 f (by omega) q1 q2 q3)]; simp
          · rw [decide_eq_false q3]; simp
        · rw [decide_eq_false q2]; simp
      · rw [decide_eq_false q1]; simp
theorem zdp_eq {sn : Int32} {kn an an' ta tb tl row row' : Nat → Int32} {np f ns s : Nat} (h5 : np ≤ 5) (h8 : ns ≤ 8) (hs : s < 256) (ha : ∀ k, k < ns → an k = an' k) (htl : ∀ v, v < 8 → tl v = rtl ta tb f v) (hta : ∀ k, k < f → ∃ a, a < 8 ∧ ta k = nI a) : ∀ c, c ≤ s → ∀ c', c' ≤ c → nI c' &&& (nI s ^^^ -1) = 0 → zdp (zsay kn sn np ns) sn an tl row ns (nI s) c c' = zdpM sn kn an' ta tb row' np f ns (nI s) c c' := by
  intro c
  induction c with
  | zero =>
    intro _ c' hc' _
    have : c' = 0 := by omega
    subst this
    rfl
  | succ c ih =>
    intro hc c' hc' hsub
    generalize hF : zdp (zsay kn sn np ns) sn an tl row ns (nI s) c = F at ih
    generalize hG : zdpM sn kn an' ta tb row' np f ns (nI s) c = G at ih
    have eF : zdp (zsay kn sn np ns) sn an tl row ns (nI s) (c + 1) = if nI (c + 1) &&& (nI s ^^^ -1) = 0 then upd F (c + 1) (zwt (zsay kn sn np ns) sn an tl F (nI s) (c + 1) ns) else F := by rw [← hF]; rfl
    have eG : zdpM sn kn an' ta tb row' np f ns (nI s) (c + 1) = upd G (c + 1) (zwtM sn kn an' ta tb G np f (nI s) (c + 1) ns) := by rw [← hG]; rfl
    rw [eF, eG]
    by_cases e : c' = c + 1
    · subst e
      rw [if_pos hsub, upd_if, if_pos rfl, upd_if, if_pos rfl]
      unfold zwt zwtM
      refine zfold_congr (fun k hk x => ?_)
      have hk8 : k < 8 := by omega
      have hin := zcb_in (c + 1) (by omega) k hk8
      have hsub2 : nI (zcb (c + 1) k) &&& (nI s ^^^ -1) = 0 := by
        rw [← zcb_eq (c + 1) (by omega) k hk8]
        apply b_sub.mpr
        intro i hi q
        rw [b_and, Bool.and_eq_true] at q
        exact b_sub.mp hsub i hi q.1
      by_cases ck : zbt (nI (c + 1)) (nI k)
      · have hlt := zcb_lt (c + 1) (by omega) k hk8 ck
        have hrow : F (zcb (c + 1) k) = G (zcb (c + 1) k) := ih (by omega) _ (by omega) hsub2
        have hks : bt (nI s) k = true := b_sub.mp hsub k (by omega) ((zk_bt (by omega)).mp ck)
        have hcond : (tl k &&& nI s &&& (nI (zcb (c + 1) k) ^^^ -1) = 0 ∧ (zbt sn (nI k) ∨ (zbt (zsay kn sn np ns) (nI k) ∧ ¬ an k &&& nI (zcb (c + 1) k) = 0))) ↔ zcc sn (zkn kn (nI k) np) (an' k) ta tb (nI k) (nI (zcb (c + 1) k)) (nI s) f = true := by
          rw [zcc_all, b_sub, htl k hk8, zk_bt (x := zsay kn sn np ns) (show k < 32 by omega), b_zsay h5 h8 (show k < 32 by omega), zk_bt (x := sn) (show k < 32 by omega), ← zkn_ne0 (show k < 32 by omega) h5, ha k hk]
          constructor
          · rintro ⟨h1, h2⟩
            refine ⟨?_, fun q hq q1 q2 q3 => ?_⟩
            · rcases h2 with h2 | ⟨⟨-, -, h3⟩, h4⟩
              · exact Or.inl h2
              · exact Or.inr ⟨h3, h4⟩
            · obtain ⟨a, ha8, ea⟩ := hta q hq
              rw [ea] at q1 ⊢
              apply (zk_bt (by omega)).mpr
              apply h1 a (by omega)
              rw [b_and, (b_rtl (by omega) hta).mpr ⟨q, hq, q3, ea⟩, (zk_bt (by omega)).mp q1]
              rfl
          · rintro ⟨h1, h2⟩
            refine ⟨fun i hi q => ?_, ?_⟩
            · rw [b_and, Bool.and_eq_true] at q
              obtain ⟨q0, hq0, q1, q2⟩ := (b_rtl hi hta).mp q.1
              have := h2 q0 hq0 (by rw [q2]; exact (zk_bt hi).mpr q.2) (by rw [q1]; exact (zk_bt (by omega)).mpr hks) q1
              rw [q2] at this
              exact (zk_bt hi).mp this
            · by_cases hsn : bt sn k = true
              · exact Or.inl hsn
              · rcases h1 with h1 | ⟨h3, h4⟩
                · exact Or.inl h1
                · exact Or.inr ⟨⟨hk, hsn, h3⟩, h4⟩
        by_cases hz : zcc sn (zkn kn (nI k) np) (an' k) ta tb (nI k) (nI (zcb (c + 1) k)) (nI s) f = true
        · obtain ⟨z1, z2⟩ := hcond.mpr hz
          rw [if_pos ⟨hin.mpr ck, z1, z2⟩, if_pos ⟨hsub, ck, hz⟩, hrow]
        · rw [if_neg (fun q => hz (hcond.mp ⟨q.2.1, q.2.2⟩)), if_neg (fun q => hz q.2.2)]
      · rw [if_neg (fun q => ck (hin.mp q.1)), if_neg (fun q => ck q.2.1)]
    · rw [upd_if, if_neg e, ← ih (by omega) c' (by omega) hsub]
      split
      · rw [upd_if, if_neg e]
      · rfl
theorem e_orders {μ ν : ZMem} (h : R μ ν) (i : Int32) : E2 mX3_orders mX4_orders 4 2 [.ref 0, .int i] μ ν := by
  obtain ⟨T, ns, np, n, u, f, ⟨rfl, hT⟩, hD, hM, hF, hX, hK0, hK1, htr⟩ := id h
  obtain ⟨d1, d2, d3, d4, d5, d6, d7, d8, d9, d10, d11, d12, d13⟩ := id hD
  obtain ⟨f1, f2, f3, f4, f5⟩ := id hF
  have h8 := d1.2.2
  have h5 := d2.2.2
  have hpw := zpow_le ns (by omega)
  rcases zin_cases (2 ^ ns) (by omega) i with hw | ⟨s, hs, rfl⟩
  · exact E2.of (spC_orders_bad d1 hw) (spM_orders_bad d3 hw) h
  · refine E2.of (spC_orders d1 hs) (Sp.eq (spM_orders d3 d4 f2 f3 f4 hs) ?_ rfl) (R_of h rfl (fun i a b => zrow_c (by omega)) (fun i a b => zrow_c (by omega)) (fun ns f q => ⟨f, rF_congr q (by rw [zrow_c (by omega)]) (fun v _ => by rw [zrow_c (by omega)]) (by rw [zrow_c (by omega)]) (zrow_c (by omega)) (zrow_c (by omega))⟩) (fun q => rX_congr q (by rw [zrow_c (by omega)]) (zrow_c (by omega)) (by rw [zrow_c (by omega)]) (zrow_c (by omega))) htr)
    have e := zdp_eq (sn := ν.1 5 0) (kn := ν.1 7) (row := μ.1 34) (row' := ν.1 13) h5 h8 (show s < 256 by omega) d9 f5 (fun k hk => by obtain ⟨⟨a, ha, ea⟩, -⟩ := f4 k hk; exact ⟨a, by omega, ea⟩) s (Nat.le_refl _) s (Nat.le_refl _) (by apply b_sub.mpr; exact fun _ _ q => q)
    rw [d6, d7, e]

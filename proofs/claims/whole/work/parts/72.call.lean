/-! ===== a call by its contract, beside other cells ===== -/
theorem va_D_map {A : Nat → Prop} {w w' : va_W} (h : w.map Prod.fst = w'.map Prod.fst) (hD : va_D A w) : va_D A w' := by
  have key : ∀ (k : Nat) (q : Nat × va_E), w'[k]? = some q → ∃ q0, w[k]? = some q0 ∧ q0.1 = q.1 := by
    intro k q hq
    have h1 : (w'.map Prod.fst)[k]? = some q.1 := by rw [List.getElem?_map, hq]; rfl
    rw [← h, List.getElem?_map] at h1
    cases hk : w[k]? with
    | none => rw [hk] at h1; cases h1
    | some q0 => rw [hk] at h1; exact ⟨q0, rfl, Option.some.inj h1⟩
  refine ⟨fun i j x z hx hz e => ?_, fun k q hq => ?_⟩
  · obtain ⟨x0, a1, a2⟩ := key i x hx
    obtain ⟨z0, b1, b2⟩ := key j z hz
    exact hD.1 i j x0 z0 a1 b1 (by rw [a2, b2, e])
  · obtain ⟨q0, a1, a2⟩ := key k q hq
    rw [← a2]; exact hD.2 k q0 a1
theorem zws_fst (ad : Nat → Nat) (ca : Nat → ClassId) (μ μ' : ZMem) (lay : List ZE) : ∀ c, (zws ad ca μ c lay).map Prod.fst = (zws ad ca μ' c lay).map Prod.fst := by
  induction lay with
  | nil => intro c; rfl
  | cons e r ih => intro c; simp only [zws, List.map_cons]; rw [ih (c + 1)]
section CZ
variable {mt : ZM} {p : Program} {l : Launch} {e : Env} {R : Room} {s : State} {m : MethodId} {args : Array Value} {below : List Frame} {meth : Method} {c : Code} {D : va_G} {ca : Nat → ClassId} {A : Nat → Prop} {H : Heap} {locs : List Loc} {cells slots : Nat} {Q : State → Prop} {ls : Array Slot} {pc : Nat} {rest : List Value} {lay : List ZE} {ad : Nat → Nat} {μ : ZMem} {wa wb : va_W}
theorem c_callZ {y : ZM} {n b ci idx dy : Nat} {ks : List ZK} {As : List Value} {Qy : Option Value → ZMem → Prop} (X : cX mt p s m args meth c D ca A (wa ++ (zws ad ca μ 0 lay ++ wb)) H locs) (hd : decode mt.2.1 pc = .ok (.invokevirtual idx, 3)) (hlk : zLk mt.1.cls idx y) (hy : zYv y n) (hl : lay[b]? = some (.inr (ci, ks))) (hc : (vwCl[ci]?).map (fun q => q.1) = some y.1.cls) (hn : As.length = n) (hfr : dy + 1 ≤ R.frames) (hlo : 30 + dy * 30 ≤ R.locals) (hst : (rest.map fun v => v.category).sum ≤ 8) (hsz : ls.size = mt.2.2.1) (hcc : cells ≤ R.cells ∧ slots ≤ R.slots) (hs : Spec lay y dy (.ref b :: As) μ Qy)
    (k : ∀ r μ' H1 locs1, Qy r μ' → cX mt p s m args meth c D ca A (wa ++ (zws ad ca μ' 0 lay ++ wb)) H1 locs1 → W p l e R s m args below meth c H1 locs1 cells slots Q (F0 m (pc + 3) ls ((r.map (zmv ad)).toList ++ rest))) : W p l e R s m args below meth c H locs cells slots Q (F0 m pc ls ((As.map (zmv ad)).reverse ++ .ref (ad b) :: rest)) := by
  obtain ⟨G, hP, hD, hS⟩ := X
  obtain ⟨y1, y2, y3, y4, y5, y6, y7⟩ := hy
  have hts := G.2.2.2.2.2.2.1
  -- the callee's cells among ours
  have inW : ∀ (w : va_W) (k : Nat) (q : Nat × va_E), w.length = (zws ad ca μ 0 lay).length → (wa ++ (w ++ wb))[k]? = some q → (k < wa.length ∧ wa[k]? = some q) ∨ (wa.length ≤ k ∧ k < wa.length + lay.length ∧ w[k - wa.length]? = some q) ∨ (wa.length + lay.length ≤ k ∧ wb[k - wa.length - lay.length]? = some q) := by
    intro w k q hw hq
    rw [zws_len] at hw
    rw [List.getElem?_append] at hq
    by_cases h1 : k < wa.length
    · rw [if_pos h1] at hq; exact Or.inl ⟨h1, hq⟩
    · rw [if_neg h1, List.getElem?_append] at hq
      by_cases h2 : k - wa.length < w.length
      · rw [if_pos h2] at hq; exact Or.inr (Or.inl ⟨by omega, by omega, hq⟩)
      · rw [if_neg h2, hw] at hq; exact Or.inr (Or.inr ⟨by omega, hq⟩)
  have putZ : ∀ (w : va_W) (k : Nat) (q : Nat × va_E), w[k]? = some q → (wa ++ (w ++ wb))[wa.length + k]? = some q := by
    intro w k q hq
    have hk := (List.getElem?_eq_some_iff.mp hq).1
    rw [List.getElem?_append, if_neg (by omega), List.getElem?_append, if_pos (by omega), show wa.length + k - wa.length = k by omega]
    exact hq
  have hPz : va_P D vwCl (zws ad ca μ 0 lay) H := fun k q hq => hP _ q (putZ _ k q hq)
  have hDz : va_D A (zws ad ca μ 0 lay) := ⟨fun i j x z hx hz ex => by have := hD.1 _ _ x z (putZ _ i x hx) (putZ _ j z hz) ex; omega, fun k q hq => hD.2 _ q (putZ _ k q hq)⟩
  have he : (zws ad ca μ 0 lay)[b]? = some (ad b, .inr (ci, zfs ad μ b 0 ks)) := zws_at hl
  obtain ⟨qc, hqc, hcn⟩ := Option.map_eq_some_iff.mp hc
  have hrecv := va_recv G.2.2.2.2.2.2.2.2.1 hPz hqc he
  rw [hcn] at hrecv
  have hM := hs l D ca ad H.size
  have hpre : PreV s H y.1.cls (ad b) (va_Pc ((Value.ref b :: As).map (zmv ad)) (fun U => U.heap.size = H.size ∧ va_P D vwCl (zws ad ca μ 0 lay) U.heap ∧ va_K D vwCl (ztys ca) U ∧ va_D (fun _ => True) (zws ad ca μ 0 lay) ∧ ∀ w ∈ znest, va_Nw w U)) (As.map (zmv ad)) :=
    ⟨zblind, hrecv, fun U hU hW => ⟨rfl, by rw [hU], by rw [hU]; exact hPz, va_K.moved hW.alike G.2.2.2.2.2.2.2.2.1, hDz.weaken (fun _ _ _ _ => trivial), znest_warm hW G.2.2.2.2.2.2.2.1⟩⟩
  have hlo2 : 8 + (y.2.2.1 + 11) + dy * 30 ≤ R.locals := by omega
  have run : va_Run p l e R s m args below meth c H locs cells slots 0 0 (F0 m pc ls ((As.map (zmv ad)).reverse ++ .ref (ad b) :: rest)) rest (zQ lay D ca ad (zA lay ad H.size) Qy (Value.ref (ad b) :: As.map (zmv ad)).toArray) (zA lay ad H.size) := by
    rcases hlk with h | ⟨host, h⟩
    · exact va_runV ⟨G.1, G.2.1, G.2.2.2.1, G.2.2.2.2.1, hts⟩ hM ⟨⟨rfl, rfl, hfr, hlo2, pay_in hts (zgood y1), List.mem_cons_self, hts _ y1, hts _ y2, y5, zdesc y6, hts _ h⟩, hts _ y3, hts _ y4⟩ hpre rfl (by rw [List.length_map]; exact hn) hsz rfl (by show 2 * 0 + _ ≤ 8; omega) hd hcc
    · exact va_runVN ⟨G.1, G.2.1, G.2.2.2.1, G.2.2.2.2.1, hts⟩ hM ⟨⟨⟨rfl, rfl, hfr, hlo2, pay_in hts (zgood y1), List.mem_cons_self⟩, hts _ y1, hts _ y2, y5, zdesc y6, va_Nw.use rfl (G.2.2.2.2.2.2.2.1 _ h)⟩, hts _ y3, hts _ y4⟩ hpre rfl (by rw [List.length_map]; exact hn) hsz rfl (by show 2 * 0 + _ ≤ 8; omega) hd hcc
  have hA : ∀ q, zA lay ad H.size q → A q := by
    rintro q (⟨j, hj, rfl⟩ | hq)
    · exact zws_DA hDz j hj
    · exact G.2.2.2.2.2.2.2.2.2 q (Nat.le_trans hS.1 hq)
  intro T hT X
  obtain ⟨v, st₀, t, T', Ls, h0, X', hLs, e1, e2, ⟨r, μ', hq, hv, hP1, hz, hk⟩, stp⟩ := run T hT X
  have hv' : v = r.map (zmv ad) := by cases hv; rfl
  subst hv'
  rw [h0] at hz hk
  have hP2 : va_P D vwCl (wa ++ (zws ad ca μ' 0 lay ++ wb)) T'.heap := by
    intro k q hq
    have same : (wa ++ (zws ad ca μ 0 lay ++ wb))[k]? = some q → (k < wa.length ∨ wa.length + lay.length ≤ k) → va_at D vwCl q T'.heap := by
      intro hk' hkk
      have ha := hP k q hk'
      refine ha.kept ?_
      rw [e1]
      refine hk q.1 ha.lt ?_
      rintro (⟨j, hj, ej⟩ | hge)
      · have hj2 : (zws ad ca μ 0 lay)[j]? = some (ad j, zent ad ca μ j lay[j]) := zws_at (List.getElem?_eq_getElem hj)
        have := hD.1 k (wa.length + j) q _ hk' (putZ _ j _ hj2) ej
        omega
      · have := ha.lt; omega
    rcases inW _ k q (by rw [zws_len, zws_len]) hq with ⟨h1, h2⟩ | ⟨h1, h2, h3⟩ | ⟨h1, h2⟩
    · exact same (by rw [List.getElem?_append, if_pos h1]; exact h2) (Or.inl h1)
    · rw [e1]; exact hP1 _ q h3
    · refine same ?_ (Or.inr h1)
      rw [List.getElem?_append, if_neg (by omega), List.getElem?_append, zws_len, if_neg (by omega)]
      exact h2
  have hD2 : va_D A (wa ++ (zws ad ca μ' 0 lay ++ wb)) := va_D_map (by simp only [List.map_append]; rw [zws_fst ad ca μ μ' lay 0]) hD
  obtain ⟨t2, a1, b1⟩ := k r μ' T'.heap (locs ++ Ls) hq ⟨G, hP2, hD2, ⟨Nat.le_trans hS.1 (by rw [e1]; exact hz), fun q h1 h2 => by rw [e1, hk q (Nat.lt_of_lt_of_le h1 hS.1) (fun z => h2 (hA q z))]; exact hS.2.1 q h1 h2, fun q hq => by
      rcases List.mem_append.mp hq with h | h
      · exact hS.2.2 q h
      · exact hA _ (hLs q h)⟩⟩ T' rfl X'
  exact ⟨t2, stp t2 a1, b1⟩
end CZ
def μM00 : ZMem := (fun _ _ => 0, fun _ _ => 0, fun _ _ => 0)
def μM0 : ZMem := ztd (zDm μM00 (zdM0 μM00))

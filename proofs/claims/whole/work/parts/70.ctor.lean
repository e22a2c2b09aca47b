/-! ===== constructors: a world that grows ===== -/
set_option maxRecDepth 20000 in
theorem zobj : Cond.code Lib.objectInit ⟨#[0xb1]⟩ 1 none ∈ ztbl := zg (zt_1 (List.mem_of_getElem? (i := 16) rfl)) rfl
def zYi (y : ZM) : Prop := Cond.code y.1 y.2.1 y.2.2.1 none ∈ ztbl ∧ Cond.initialized y.1.cls ∈ ztbl ∧ Cond.instanceMethod y.1 ∈ ztbl ∧ y.1.name = "<init>" ∧ (y.1.cls ≠ "java/lang/invoke/MethodHandle" ∧ y.1.cls ≠ "java/lang/invoke/VarHandle") ∧ (parseMethodDescriptor y.1.desc).map (fun d => d.parameters.length) = some 0 ∧ y.2.2.1 ≤ 11 ∧ y.2.2.2 = none
theorem zyi_X2 : zYi mX2_init := ⟨zm_1_21, zm_1_2, zm_1_20, rfl, ⟨by decide +kernel, by decide +kernel⟩, by decide +kernel, by decide, rfl⟩
theorem zyi_X0 : zYi mX0_init := ⟨zm_1_51, zm_1_3, zm_1_50, rfl, ⟨by decide +kernel, by decide +kernel⟩, by decide +kernel, by decide, rfl⟩
theorem zyi_X1 : zYi mX1_init := ⟨zm_1_93, zm_1_4, zm_1_92, rfl, ⟨by decide +kernel, by decide +kernel⟩, by decide +kernel, by decide, rfl⟩
theorem zyi_X3 : zYi mX3_init := ⟨zm_1_13, zm_1_1, zm_1_12, rfl, ⟨by decide +kernel, by decide +kernel⟩, by decide +kernel, by decide, rfl⟩
theorem zyi_X4 : zYi mX4_init := ⟨zm_3_71, zm_1_5, zm_3_70, rfl, ⟨by decide +kernel, by decide +kernel⟩, by decide +kernel, by decide, rfl⟩
def croom (d mc ms : Nat) : Room := { frames := d, cells := mc, slots := ms, locals := d * 30 }
def cX (mt : ZM) (p : Program) (s : State) (m : MethodId) (args : Array Value) (meth : Method) (c : Code) (D : va_G) (ca : Nat → ClassId) (A : Nat → Prop) (ws : va_W) (H : Heap) (locs : List Loc) : Prop :=
  zG mt p s m args meth c D ca A ∧ va_P D vwCl ws H ∧ va_D A ws ∧ va_S A s.heap H locs
/-- a constructor's contract: from its one cell to its world -/
def CSpec (y : ZM) (d mc ms ci : Nat) (fs0 : List Value) (Qs : (Nat → ClassId) → Nat → va_W → Prop) : Prop :=
  ∀ (l : Launch) (D : va_G) (ca : Nat → ClassId) (h0 sz : Nat), Met l y.1 (.code y.1 y.2.1 y.2.2.1 y.2.2.2 :: ztbl) (croom d mc ms)
    (va_Pc [.ref h0] (fun U => U.heap.size = sz ∧ va_P D vwCl [(h0, .inr (ci, fs0))] U.heap ∧ va_K D vwCl (ztys ca) U ∧ va_D (fun _ => True) [(h0, .inr (ci, fs0))] ∧ ∀ w ∈ znest, va_Nw w U))
    (va_Qv (Qs ca h0) (fun ws t => va_P D vwCl ws t.heap ∧ va_D (va_A [(h0, .inr (ci, fs0))] sz) ws) (va_A [(h0, .inr (ci, fs0))] sz)) mc ms (va_A [(h0, .inr (ci, fs0))] sz)
section CR
variable {mt : ZM} {p : Program} {l : Launch} {e : Env} {R : Room} {s : State} {m : MethodId} {args : Array Value} {below : List Frame} {meth : Method} {c : Code} {D : va_G} {ca : Nat → ClassId} {A : Nat → Prop} {ws : va_W} {H : Heap} {locs : List Loc} {cells slots : Nat} {Q : State → Prop} {ls : Array Slot} {pc : Nat} {rest : List Value}
theorem c_obj {idx h0 : Nat} (X : cX mt p s m args meth c D ca A ws H locs) (hlk : Cond.methodLink mt.1.cls idx Lib.objectInit ∈ ztbl) (hsz : ls.size = mt.2.2.1) (hd : decode mt.2.1 pc = .ok (.invokespecial idx, 3)) (hf : 1 ≤ R.frames) (hlo : (rest.map fun v => v.category).sum + 12 ≤ R.locals)
    (k : W p l e R s m args below meth c H locs cells slots Q (F0 m (pc + 3) ls rest)) : W p l e R s m args below meth c H locs cells slots Q (F0 m pc ls (.ref h0 :: rest)) := by
  have G := X.1
  exact W.objInit G.1 G.2.1 G.2.2.2.2.1 (G.2.2.2.2.2.2.1 _ hlk) (G.2.2.2.2.2.2.1 _ zm_1_15) (G.2.2.2.2.2.2.1 _ zobj) rfl (by rw [G.2.2.2.1]; exact hsz) rfl hd hf (by show 2 * 0 + _ + 12 ≤ _; omega) k
theorem ztys_get {ca : Nat → ClassId} {t : Nat} (ht : t < 3) : (ztys ca)[t]? = some (ca t, (match t with | 0 => .int | 1 => .byte | _ => .boolean)) := by
  match t, ht with
  | 0, _ => rfl
  | 1, _ => rfl
  | 2, _ => rfl
theorem c_newa {n : Int32} {N t : Nat} {aty : ArrayType} (X : cX mt p s m args meth c D ca A ws H locs) (ht : t < 3) (hty : newarray.typeOf aty = (match t with | 0 => FieldType.int | 1 => FieldType.byte | _ => FieldType.boolean)) (hn : n = nI N) (hN : N ≤ 1000) (hcells : cells + 1 ≤ R.cells) (hslots : slots + N ≤ R.slots) (hd : decode mt.2.1 pc = .ok (.newarray aty, 2))
    (k : ∀ (q : Nat) (H1 : Heap), cX mt p s m args meth c D ca A (ws ++ [(q, .inl (ca t, N, .inl (fun _ => 0)))]) H1 locs → W p l e R s m args below meth c H1 locs (cells + 1) (slots + N) Q (F0 m (pc + 2) ls (.ref q :: rest))) : W p l e R s m args below meth c H locs cells slots Q (F0 m pc ls (.int n :: rest)) := by
  obtain ⟨G, hP, hD, hS⟩ := X
  have hK := G.2.2.2.2.2.2.2.2.1
  have hk2 := (hK.2 t _ (ztys_get ht)).2
  have hts := G.2.2.2.2.2.2.1
  subst hn
  refine va_newa (a0 := (N, .inl (fun _ => 0))) G.1 G.2.1 (atype := aty) (ty := newarray.typeOf aty) ?_ rfl hK hP hD hS G.2.2.2.2.2.2.2.2.2 ?_ (nI_pos (by omega)) (nI_clamp (by omega)) ?_ hcells hslots hd (fun q cA H1 hK1 hP1 hD1 hS1 => ?_)
  · rw [hty]
    match t, ht with
    | 0, _ => exact hts _ zm_1_46
    | 1, _ => exact hts _ zm_3_148
    | 2, _ => exact hts _ zm_3_149
  · intro cA
    rw [hty]
    match t, ht with
    | 0, _ => rfl
    | 1, _ => rfl
    | 2, _ => rfl
  · rw [hty]
    match t, ht with
    | 0, _ => show N * 4 ≤ _; omega
    | 1, _ => show N * 1 ≤ _; omega
    | 2, _ => show N * 1 ≤ _; omega
  · have e : cA = ca t := by
      have h1 := (hK1.2 3 (cA, newarray.typeOf aty) rfl).2
      rw [hty] at h1
      match t, ht with
      | 0, _ => exact Option.some.inj (h1.symm.trans hk2)
      | 1, _ => exact Option.some.inj (h1.symm.trans hk2)
      | 2, _ => exact Option.some.inj (h1.symm.trans hk2)
    subst e
    exact k q H1 ⟨G, hP1, hD1, hS1⟩
theorem c_putF {idx ci f q0 h0 : Nat} {fs : List Value} {v : Value} {ty : FieldType} {q : vw_C} (X : cX mt p s m args meth c D ca A ws H locs) (hin : meth.name = "<init>") (hF : zF mt.1.cls idx ci f) (hq : vwCl[ci]? = some q) (hfin : (q.2.1 f).2.2.2 = true) (hdecl : (q.2.1 f).1 = mt.1.cls) (hpd : parseFieldDescriptor (q.2.1 f).2.2.1 = some ty) (hl : ∃ ref, Cond.fieldLink mt.1.cls idx ref (q.2.1 f).2.1 (q.2.1 f).2.2.1 ∈ ztbl ∧ ref = (q.2.1 f).1) (he : ws[q0]? = some (h0, .inr (ci, fs))) (hn : narrow ty v = v) (hfit : fits ty v = true) (hfl : f < fs.length) (hd : decode mt.2.1 pc = .ok (.putfield idx, 3))
    (k : ∀ (H1 : Heap) (locs1 : List Loc), cX mt p s m args meth c D ca A (ws.set q0 (h0, .inr (ci, fs.set f v))) H1 locs1 → W p l e R s m args below meth c H1 locs1 cells slots Q (F0 m (pc + 3) ls rest)) : W p l e R s m args below meth c H locs cells slots Q (F0 m pc ls (v :: .ref h0 :: rest)) := by
  obtain ⟨G, hP, hD, hS⟩ := X
  obtain ⟨C, T, N, ty0, hc, hkN, hin2, hty, hnm, -⟩ := hF
  have hq' : q = (C, T, N) := Option.some.inj (hq.symm.trans hc)
  subst hq'
  obtain ⟨ref, hl, rfl⟩ := hl
  exact va_putF (v := v) G.1 G.2.1 G.2.2.2.2.2.2.1 hin2 ty0 hty hnm G.2.2.2.2.1 G.2.2.2.2.2.2.2.2.1 hP hD hS q0 he hc f hkN (G.2.2.2.2.2.2.1 _ hl) (fun _ h9 => h9) hfin hin hdecl hpd hn hfit hfl hd (fun H1 locs1 hP1 hD1 hS1 => k H1 locs1 ⟨G, hP1, hD1, hS1⟩)
theorem c_put {idx ci f q0 h0 : Nat} {fs : List Value} {v : Value} {ty : FieldType} (X : cX mt p s m args meth c D ca A ws H locs) (hF : zFp mt.1.cls idx ci f ty) (he : ws[q0]? = some (h0, .inr (ci, fs))) (hn : narrow ty v = v) (hfit : fits ty v = true) (hfl : f < fs.length) (hd : decode mt.2.1 pc = .ok (.putfield idx, 3))
    (k : ∀ (H1 : Heap) (locs1 : List Loc), cX mt p s m args meth c D ca A (ws.set q0 (h0, .inr (ci, fs.set f v))) H1 locs1 → W p l e R s m args below meth c H1 locs1 cells slots Q (F0 m (pc + 3) ls rest)) : W p l e R s m args below meth c H locs cells slots Q (F0 m pc ls (v :: .ref h0 :: rest)) := by
  obtain ⟨G, hP, hD, hS⟩ := X
  obtain ⟨⟨C, T, N, ty0, hc, hkN, hin, hty, hnm, hlk⟩, q, hq, hfin, hpd⟩ := hF
  have hq' : q = (C, T, N) := Option.some.inj (hq.symm.trans hc)
  subst hq'
  rcases hlk with h | ⟨host, h⟩
  · exact va_put (v := v) G.1 G.2.1 G.2.2.2.2.2.2.1 hin ty0 hty hnm G.2.2.2.2.1 G.2.2.2.2.2.2.2.2.1 hP hD hS q0 he hc f hkN (G.2.2.2.2.2.2.1 _ h) (fun _ h9 => h9) hfin hpd hn hfit hfl hd (fun H1 locs1 hP1 hD1 hS1 => k H1 locs1 ⟨G, hP1, hD1, hS1⟩)
  · exact va_putN (v := v) G.1 G.2.1 G.2.2.2.2.2.2.1 hin ty0 hty hnm G.2.2.2.2.1 G.2.2.2.2.2.2.2.2.1 hP hD hS q0 he hc f hkN (va_Nw.use rfl (G.2.2.2.2.2.2.2.1 _ h)) (fun _ h9 => h9) hfin hpd hn hfit hfl hd (fun H1 locs1 hP1 hD1 hS1 => k H1 locs1 ⟨G, hP1, hD1, hS1⟩)
theorem c_new {C : String} {T : u_T} {N ci idx : Nat} {ty : Nat → FieldType} {fs : List Value} (X : cX mt p s m args meth c D ca A ws H locs) (hc : vwCl[ci]? = some (C, T, N)) (hin : ∀ w ∈ u_ws C T N, w ∈ ztbl) (hty : ∀ k, k < N → parseFieldDescriptor (T k).2.2.1 = some (ty k)) (hcl : Cond.classLink mt.1.cls idx C ∈ ztbl) (hinst : Cond.instantiable C N ∈ ztbl) (hini : Cond.initialized C ∈ ztbl) (hfs : ∀ j, j < N → defaultValue (ty j) = vp_V fs j) (hcells : cells + 1 ≤ R.cells) (hslots : slots + N ≤ R.slots) (hd : decode mt.2.1 pc = .ok (.new idx, 3))
    (k : ∀ (q : Nat) (H1 : Heap), cX mt p s m args meth c D ca A (ws ++ [(q, .inr (ci, fs))]) H1 locs → W p l e R s m args below meth c H1 locs (cells + 1) (slots + N) Q (F0 m (pc + 3) ls (.ref q :: rest))) : W p l e R s m args below meth c H locs cells slots Q (F0 m pc ls rest) := by
  obtain ⟨G, hP, hD, hS⟩ := X
  have hts := G.2.2.2.2.2.2.1
  exact va_new (ci := ci) (fs := fs) (C := C) (T := T) (N := N) G.1 G.2.1 hts hin ty hty G.2.2.2.2.1 (hts _ hcl) (hts _ hinst) (hts _ hini) G.2.2.2.2.2.2.2.2.1 hP hD hS G.2.2.2.2.2.2.2.2.2 hc hfs hcells hslots hd (fun q H1 hP1 hD1 hS1 => k q H1 ⟨G, hP1, hD1, hS1⟩)
/-- a constructor is called on the newest cell -/
theorem c_init {y : ZM} {dy mc ms ci idx h1 : Nat} {fs0 : List Value} {Qs : (Nat → ClassId) → Nat → va_W → Prop} {w0 : va_W} (X : cX mt p s m args meth c D ca A (w0 ++ [(h1, .inr (ci, fs0))]) H locs) (hy : zYi y) (hlk : zLk mt.1.cls idx y) (hs : CSpec y dy mc ms ci fs0 Qs) (hfr : dy + 1 ≤ R.frames) (hlo : 8 + (y.2.2.1 + 11) + dy * 30 ≤ R.locals) (hst : (rest.map fun v => v.category).sum ≤ 8) (hsz : ls.size = mt.2.2.1) (hc : cells + mc ≤ R.cells ∧ slots + ms ≤ R.slots) (hd : decode mt.2.1 pc = .ok (.invokespecial idx, 3))
    (k : ∀ (w1 : va_W) (H1 : Heap) (locs1 : List Loc), Qs ca h1 w1 → cX mt p s m args meth c D ca A (w0 ++ w1) H1 locs1 → W p l e R s m args below meth c H1 locs1 (cells + mc) (slots + ms) Q (F0 m (pc + 3) ls rest)) : W p l e R s m args below meth c H locs cells slots Q (F0 m pc ls (.ref h1 :: rest)) := by
  obtain ⟨G, hP, hD, hS⟩ := X
  obtain ⟨y1, y2, y3, y4, y5, y6, y7, y8⟩ := hy
  have hts := G.2.2.2.2.2.2.1
  have hlast : (w0 ++ [((h1, .inr (ci, fs0)) : Nat × va_E)])[w0.length]? = some (h1, .inr (ci, fs0)) := by simp
  have hPc : va_P D vwCl [(h1, .inr (ci, fs0))] H := by
    intro k q hq
    match k, hq with
    | 0, hq =>
      have : q = (h1, .inr (ci, fs0)) := by simpa using hq.symm
      subst this
      exact hP w0.length _ hlast
  have hDc : va_D (fun _ => True) [((h1, .inr (ci, fs0)) : Nat × va_E)] := by
    refine ⟨fun i j p q hp hq _ => ?_, fun _ _ _ => trivial⟩
    have h1 := (List.getElem?_eq_some_iff.mp hp).1
    have h2 := (List.getElem?_eq_some_iff.mp hq).1
    simp at h1 h2
    omega
  have hFc : ∀ q, va_A [((h1, .inr (ci, fs0)) : Nat × va_E)] H.size q → A q := by
    rintro q (⟨k, e, hk⟩ | hq)
    · match k, hk with
      | 0, hk =>
        have : (h1, (.inr (ci, fs0) : va_E)) = (q, e) := by simpa using hk
        cases this
        exact hD.2 w0.length _ hlast
    · exact G.2.2.2.2.2.2.2.2.2 q (Nat.le_trans hS.1 hq)
  have hpre : PreS s H (va_Pc [.ref h1] (fun U => U.heap.size = H.size ∧ va_P D vwCl [(h1, .inr (ci, fs0))] U.heap ∧ va_K D vwCl (ztys ca) U ∧ va_D (fun _ => True) [(h1, .inr (ci, fs0))] ∧ ∀ w ∈ znest, va_Nw w U)) (.ref h1 :: []) :=
    ⟨fun a U g mk q => by obtain ⟨q0, q1, qP, qK, qD, qN⟩ := q; exact ⟨q0, q1, qP, va_K.moved (u := U) (U := U.calling g mk a) (Vm.Alike.refl U.vm) qK, qD, znest_same (u := U) (U := U.calling g mk a) rfl qN⟩, fun U hU hW => ⟨rfl, by rw [hU], by rw [hU]; exact hPc, va_K.moved hW.alike G.2.2.2.2.2.2.2.2.1, hDc, znest_warm hW G.2.2.2.2.2.2.2.1⟩⟩
  have hM := hs l D ca h1 H.size
  rw [y8] at hM
  have hgood : GoodIn ztbl (.code y.1 y.2.1 y.2.2.1 none :: ztbl) := by
    have := zgood (y := y) (by rw [y8]; exact y1)
    rw [y8] at this
    exact this
  have run : va_Run p l e R s m args below meth c H locs cells slots mc ms (F0 m pc ls (.ref h1 :: rest)) rest (va_Qv (Qs ca h1) (fun ws t => va_P D vwCl ws t.heap ∧ va_D (va_A [(h1, .inr (ci, fs0))] H.size) ws) (va_A [(h1, .inr (ci, fs0))] H.size) #[.ref h1]) (va_A [(h1, .inr (ci, fs0))] H.size) := by
    rcases hlk with h | ⟨host, h⟩
    · exact va_runI (As := []) ⟨G.1, G.2.1, G.2.2.2.1, G.2.2.2.2.1, hts⟩ hM ⟨⟨rfl, rfl, hfr, hlo, pay_in hts hgood, List.mem_cons_self, hts _ y1, hts _ y2, y5, zdesc y6, hts _ h⟩, y4, hts _ y3⟩ hpre rfl rfl hsz rfl (by show 2 * 0 + _ ≤ 8; omega) hd hc
    · exact va_runIN (As := []) ⟨G.1, G.2.1, G.2.2.2.1, G.2.2.2.2.1, hts⟩ hM ⟨⟨⟨rfl, rfl, hfr, hlo, pay_in hts hgood, List.mem_cons_self⟩, hts _ y1, hts _ y2, y5, zdesc y6, va_Nw.use rfl (G.2.2.2.2.2.2.2.1 _ h)⟩, y4, hts _ y3⟩ hpre rfl rfl hsz rfl (by show 2 * 0 + _ ≤ 8; omega) hd hc
  refine va_callv run hS (fun q _ h => hFc q h) hFc (fun w1 t H1 locs1 ht hvm hq hB hz1 hk1 hS1 => ?_)
  obtain ⟨hP1, hD1⟩ := hB
  rw [ht] at hP1
  have hP2 : va_P D vwCl (w0 ++ w1) H1 := by
    intro k q hq
    rw [List.getElem?_append] at hq
    by_cases hk : k < w0.length
    · rw [if_pos hk] at hq
      have hk' : (w0 ++ [((h1, .inr (ci, fs0)) : Nat × va_E)])[k]? = some q := by rw [List.getElem?_append, if_pos hk]; exact hq
      have ha := hP k q hk'
      have hlt := ha.lt
      have hne : ¬ va_A [((h1, .inr (ci, fs0)) : Nat × va_E)] H.size q.1 := by
        rintro (⟨j, e, hj⟩ | hge)
        · match j, hj with
          | 0, hj =>
            have e1 : (h1, (.inr (ci, fs0) : va_E)) = (q.1, e) := by simpa using hj
            have e2 : h1 = q.1 := congrArg Prod.fst e1
            have := hD.1 k w0.length q _ hk' hlast e2.symm
            omega
        · omega
      exact ha.kept (hk1 q.1 hlt hne)
    · rw [if_neg hk] at hq
      exact hP1 _ q hq
  have hD2 : va_D A (w0 ++ w1) := by
    have inA : ∀ (k : Nat) (q : Nat × va_E), w1[k]? = some q → A q.1 ∧ va_A [((h1, .inr (ci, fs0)) : Nat × va_E)] H.size q.1 := fun k q hq => ⟨hFc _ (hD1.2 k q hq), hD1.2 k q hq⟩
    have old : ∀ (k : Nat) (q : Nat × va_E), w0[k]? = some q → k < w0.length ∧ (w0 ++ [((h1, .inr (ci, fs0)) : Nat × va_E)])[k]? = some q ∧ ¬ va_A [((h1, .inr (ci, fs0)) : Nat × va_E)] H.size q.1 := by
      intro k q hq
      have hk := (List.getElem?_eq_some_iff.mp hq).1
      have hk' : (w0 ++ [((h1, .inr (ci, fs0)) : Nat × va_E)])[k]? = some q := by rw [List.getElem?_append, if_pos hk]; exact hq
      refine ⟨hk, hk', ?_⟩
      have hlt := (hP k q hk').lt
      rintro (⟨j, e, hj⟩ | hge)
      · match j, hj with
        | 0, hj =>
          have e1 : (h1, (.inr (ci, fs0) : va_E)) = (q.1, e) := by simpa using hj
          have e2 : h1 = q.1 := congrArg Prod.fst e1
          have := hD.1 k w0.length q _ hk' hlast e2.symm
          omega
      · omega
    refine ⟨fun i j x z hx hz exz => ?_, fun k q hq => ?_⟩
    · rw [List.getElem?_append] at hx hz
      by_cases hi : i < w0.length
      · rw [if_pos hi] at hx
        by_cases hj : j < w0.length
        · rw [if_pos hj] at hz
          exact hD.1 i j x z (old i x hx).2.1 (old j z hz).2.1 exz
        · rw [if_neg hj] at hz
          exact absurd (exz ▸ (inA _ z hz).2) (old i x hx).2.2
      · rw [if_neg hi] at hx
        by_cases hj : j < w0.length
        · rw [if_pos hj] at hz
          exact absurd (exz ▸ (inA _ x hx).2) (old j z hz).2.2
        · rw [if_neg hj] at hz
          have := hD1.1 _ _ x z hx hz exz
          omega
    · rw [List.getElem?_append] at hq
      by_cases hk : k < w0.length
      · rw [if_pos hk] at hq
        exact hD.2 k q (old k q hq).2.1
      · rw [if_neg hk] at hq
        exact (inA _ q hq).1
  exact k w1 H1 locs1 hq ⟨G, hP2, hD2, hS1⟩
end CR
theorem CSpec.of {y : ZM} {d mc ms ci : Nat} {fs0 : List Value} {Qs : (Nat → ClassId) → Nat → va_W → Prop} (hpl : plainName y.1.cls = true) (hm : y.2.2.1 = 1) (hnm : y.1.name = "<init>")
    (h : ∀ (p : Program) (l : Launch) (e : Env) (s : State) (m : MethodId) (args : Array Value) (below : List Frame) (meth : Method) (c : Code) (D : va_G) (ca : Nat → ClassId) (h0 : Nat) (A : Nat → Prop) (ls : Array Slot), meth.name = "<init>" → ls.size = 1 → ls[0]? = some (.val (.ref h0)) → cX y p s m args meth c D ca A [(h0, .inr (ci, fs0))] s.heap [] →
      W p l e (croom d mc ms) s m args below meth c s.heap [] 0 0 (MQ below (va_Qv (Qs ca h0) (fun ws t => va_P D vwCl ws t.heap ∧ va_D A ws) A) args s mc ms A) (F0 m 0 ls [])) : CSpec y d mc ms ci fs0 Qs := by
  intro l D ca h0 sz
  refine Met.ofW (cc := y.2.1) (maxL := y.2.2.1) (ret := y.2.2.2) hpl rfl ?_
  intro p e s m args below meth c s₁ B hml hv
  obtain ⟨rfl, hsz, hP, hK, hD0, hN⟩ := hv
  have hts := atoms_spec (ws := .code y.1 y.2.1 y.2.2.1 y.2.2.2 :: ztbl) B.pre
  subst hsz
  have hin : meth.name = "<init>" := by rw [← hnm]; exact (name_of_methodNamed B.named B.method).1
  have hl := lv_entry ([.ref h0]) (n := 1) (Nat.le_of_ble_eq_true rfl)
  rw [hm, lg_entry_eq]
  generalize (lg_sl ([.ref h0]) ++ List.replicate (1 - (lg_sl ([.ref h0])).length) Slot.unset).toArray = ls at hl ⊢
  have hl : lv_has ls 1 [(0, .ref h0)] := hl
  exact h p l e s m _ below meth c D ca h0 (va_A [(h0, .inr (ci, fs0))] s.heap.size) ls hin hl.1 (lv_at hl 0 rfl) ⟨⟨B.exec, B.bytes, B.returns, hml, findClass_of_methodNamed B.named, B.notSynchronized, fun w hw => hts w (List.mem_cons_of_mem _ hw), hN, hK, fun q hq => Or.inr hq⟩, hP, hD0.self, va_S.rf⟩

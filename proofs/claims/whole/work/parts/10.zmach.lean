/-! ===== Z: a world of cells by positions, a memory of numbers, and the judgement ZW over it ===== -/
abbrev ZMem : Type := (Nat → Nat → Int32) × (Nat → Nat → Int64) × (Nat → Nat → Nat)
abbrev ZK : Type := Nat × Nat
abbrev ZE : Type := (Nat × Nat) ⊕ (Nat × List ZK)
def zmv (ad : Nat → Nat) (v : Value) : Value := match v with
  | .ref k => .ref (ad k)
  | v => v
/-- a field's value: kind 0 an int, 1 a long, 2 a reference that never changes, else one that does -/
def zfv (μ : ZMem) (c j : Nat) (k : ZK) : Value := match k.1 with
  | 0 => .int (μ.1 c j)
  | 1 => .long (μ.2.1 c j)
  | 2 => .ref k.2
  | _ => .ref (μ.2.2 c j)
def zfs (ad : Nat → Nat) (μ : ZMem) (c : Nat) : Nat → List ZK → List Value
  | _, [] => []
  | j, k :: r => zmv ad (zfv μ c j k) :: zfs ad μ c (j + 1) r
def zent (ad : Nat → Nat) (ca : Nat → ClassId) (μ : ZMem) (c : Nat) (e : ZE) : va_E := match e with
  | .inl a => .inl (ca a.1, a.2, .inl (μ.1 c))
  | .inr o => .inr (o.1, zfs ad μ c 0 o.2)
def zws (ad : Nat → Nat) (ca : Nat → ClassId) (μ : ZMem) : Nat → List ZE → va_W
  | _, [] => []
  | c, e :: r => (ad c, zent ad ca μ c e) :: zws ad ca μ (c + 1) r
theorem zws_get (ad : Nat → Nat) (ca : Nat → ClassId) (μ : ZMem) (lay : List ZE) : ∀ (c k : Nat), (zws ad ca μ c lay)[k]? = (lay[k]?).map (fun e => (ad (c + k), zent ad ca μ (c + k) e)) := by
  induction lay with
  | nil => intro c k; simp [zws]
  | cons e r ih =>
    intro c k
    cases k with
    | zero => simp [zws]
    | succ k =>
      simp only [zws, List.getElem?_cons_succ]
      rw [ih (c + 1) k, show c + 1 + k = c + (k + 1) by omega]
theorem zws_at {ad : Nat → Nat} {ca : Nat → ClassId} {μ : ZMem} {lay : List ZE} {k : Nat} {e : ZE} (h : lay[k]? = some e) : (zws ad ca μ 0 lay)[k]? = some (ad k, zent ad ca μ k e) := by
  rw [zws_get, h, Nat.zero_add]; rfl
theorem zfs_get (ad : Nat → Nat) (μ : ZMem) (c : Nat) (ks : List ZK) : ∀ (j k : Nat), (zfs ad μ c j ks)[k]? = (ks[k]?).map (fun κ => zmv ad (zfv μ c (j + k) κ)) := by
  induction ks with
  | nil => intro j k; simp [zfs]
  | cons e r ih =>
    intro j k
    cases k with
    | zero => simp [zfs]
    | succ k =>
      simp only [zfs, List.getElem?_cons_succ]
      rw [ih (j + 1) k, show j + 1 + k = j + (k + 1) by omega]
theorem zfs_at {ad : Nat → Nat} {μ : ZMem} {c : Nat} {ks : List ZK} {k : Nat} {κ : ZK} (h : ks[k]? = some κ) : (zfs ad μ c 0 ks)[k]? = some (zmv ad (zfv μ c k κ)) := by
  rw [zfs_get, h, Nat.zero_add]; rfl
theorem zfs_len (ad : Nat → Nat) (μ : ZMem) (c : Nat) (ks : List ZK) : ∀ j, (zfs ad μ c j ks).length = ks.length := by
  induction ks with
  | nil => intro j; rfl
  | cons e r ih => intro j; simp [zfs, ih]
theorem zws_len (ad : Nat → Nat) (ca : Nat → ClassId) (μ : ZMem) (lay : List ZE) : ∀ c, (zws ad ca μ c lay).length = lay.length := by
  induction lay with
  | nil => intro j; rfl
  | cons e r ih => intro j; simp [zws, ih]
theorem zfs_congr {ad : Nat → Nat} {μ μ' : ZMem} {c : Nat} (h1 : μ'.1 c = μ.1 c) (h2 : μ'.2.1 c = μ.2.1 c) (h3 : μ'.2.2 c = μ.2.2 c) (ks : List ZK) : ∀ j, zfs ad μ' c j ks = zfs ad μ c j ks := by
  induction ks with
  | nil => intro j; rfl
  | cons e r ih =>
    intro j
    have hv : zfv μ' c j e = zfv μ c j e := by unfold zfv; rw [h1, h2, h3]
    simp only [zfs]
    rw [ih (j + 1), hv]
theorem zent_congr {ad : Nat → Nat} {ca : Nat → ClassId} {μ μ' : ZMem} {c : Nat} (h1 : μ'.1 c = μ.1 c) (h2 : μ'.2.1 c = μ.2.1 c) (h3 : μ'.2.2 c = μ.2.2 c) (e : ZE) : zent ad ca μ' c e = zent ad ca μ c e := by
  cases e with
  | inl a => simp only [zent]; rw [h1]
  | inr o => simp only [zent]; rw [zfs_congr h1 h2 h3]
/-- one cell of the world has changed -/
theorem zws_set {ad : Nat → Nat} {ca : Nat → ClassId} {μ μ' : ZMem} {lay : List ZE} {c : Nat} {e : ZE} {x : va_E} (h : lay[c]? = some e) (hx : zent ad ca μ' c e = x) (ho : ∀ i, i ≠ c → μ'.1 i = μ.1 i ∧ μ'.2.1 i = μ.2.1 i ∧ μ'.2.2 i = μ.2.2 i) :
    (zws ad ca μ 0 lay).set c (ad c, x) = zws ad ca μ' 0 lay := by
  have hc : c < lay.length := (List.getElem?_eq_some_iff.mp h).1
  apply List.ext_getElem?
  intro i
  rw [List.getElem?_set, zws_get, zws_get, zws_len]
  by_cases hi : c = i
  · subst hi
    rw [if_pos rfl, if_pos hc, h, Nat.zero_add]
    simp only [Option.map_some]
    rw [hx]
  · rw [if_neg hi, Nat.zero_add]
    cases lay[i]? with
    | none => rfl
    | some e' =>
      obtain ⟨h1, h2, h3⟩ := ho i (fun q => hi q.symm)
      simp [zent_congr h1 h2 h3]
theorem zfs_set {ad : Nat → Nat} {μ μ' : ZMem} {c k : Nat} {ks : List ZK} {κ : ZK} {v : Value} (h : ks[k]? = some κ) (hv : zmv ad (zfv μ' c k κ) = v) (ho : ∀ j, j ≠ k → ∀ κ, zfv μ' c j κ = zfv μ c j κ) : (zfs ad μ c 0 ks).set k v = zfs ad μ' c 0 ks := by
  have hk : k < ks.length := (List.getElem?_eq_some_iff.mp h).1
  apply List.ext_getElem?
  intro i
  rw [List.getElem?_set, zfs_get, zfs_get, zfs_len]
  by_cases hi : k = i
  · subst hi
    rw [if_pos rfl, if_pos hk, h, Nat.zero_add]
    simp only [Option.map_some]
    rw [hv]
  · rw [if_neg hi, Nat.zero_add]
    cases ks[i]? with
    | none => rfl
    | some e' => simp [ho i (fun q => hi q.symm) e']
/-- the memory's ints, one of them new -/
def zup (M : Nat → Nat → Int32) (c k : Nat) (v : Int32) : Nat → Nat → Int32 := fun a b => if a = c then (if b = k then v else M c b) else M a b
def zupL (M : Nat → Nat → Int64) (c k : Nat) (v : Int64) : Nat → Nat → Int64 := fun a b => if a = c then (if b = k then v else M c b) else M a b
def zupR (M : Nat → Nat → Nat) (c k : Nat) (v : Nat) : Nat → Nat → Nat := fun a b => if a = c then (if b = k then v else M c b) else M a b
def zI (μ : ZMem) (c k : Nat) (v : Int32) : ZMem := (zup μ.1 c k v, μ.2.1, μ.2.2)
def zJ (μ : ZMem) (c k : Nat) (v : Int64) : ZMem := (μ.1, zupL μ.2.1 c k v, μ.2.2)
def zR (μ : ZMem) (c k : Nat) (v : Nat) : ZMem := (μ.1, μ.2.1, zupR μ.2.2 c k v)
/-- a whole row copied onto another -/
def zrow (μ : ZMem) (c : Nat) (f : Nat → Int32) : ZMem := (fun a => if a = c then f else μ.1 a, μ.2.1, μ.2.2)
theorem zup_row (M : Nat → Nat → Int32) (c k : Nat) (v : Int32) : zup M c k v c = upd (M c) k v := by
  funext b; simp [zup, upd]
theorem zup_ne {M : Nat → Nat → Int32} {c k i : Nat} {v : Int32} (h : i ≠ c) : zup M c k v i = M i := by
  funext b; simp [zup, h]
theorem zupL_ne {M : Nat → Nat → Int64} {c k i : Nat} {v : Int64} (h : i ≠ c) : zupL M c k v i = M i := by
  funext b; simp [zupL, h]
theorem zupR_ne {M : Nat → Nat → Nat} {c k i : Nat} {v : Nat} (h : i ≠ c) : zupR M c k v i = M i := by
  funext b; simp [zupR, h]
theorem zws_arr {ad : Nat → Nat} {ca : Nat → ClassId} {μ : ZMem} {lay : List ZE} {c t n k : Nat} {v : Int32} (h : lay[c]? = some (.inl (t, n))) :
    (zws ad ca μ 0 lay).set c (ad c, .inl (ca t, n, .inl (upd (μ.1 c) k v))) = zws ad ca (zI μ c k v) 0 lay :=
  zws_set h (by simp only [zent, zI]; rw [zup_row]) (fun i hi => ⟨zup_ne hi, rfl, rfl⟩)
theorem zws_row {ad : Nat → Nat} {ca : Nat → ClassId} {μ : ZMem} {lay : List ZE} {c t n : Nat} {f : Nat → Int32} (h : lay[c]? = some (.inl (t, n))) :
    (zws ad ca μ 0 lay).set c (ad c, .inl (ca t, n, .inl f)) = zws ad ca (zrow μ c f) 0 lay :=
  zws_set h (by simp [zent, zrow]) (fun i hi => ⟨by simp [zrow, hi], rfl, rfl⟩)
theorem zws_int {ad : Nat → Nat} {ca : Nat → ClassId} {μ : ZMem} {lay : List ZE} {c ci k z : Nat} {ks : List ZK} {v : Int32} (h : lay[c]? = some (.inr (ci, ks))) (hk : ks[k]? = some (0, z)) :
    (zws ad ca μ 0 lay).set c (ad c, .inr (ci, (zfs ad μ c 0 ks).set k (.int v))) = zws ad ca (zI μ c k v) 0 lay :=
  zws_set h (by
    simp only [zent]
    rw [zfs_set (μ' := zI μ c k v) hk (by simp [zfv, zI, zup, zmv]) (fun j hj κ => by simp [zfv, zI, zup, hj])]) (fun i hi => ⟨zup_ne hi, rfl, rfl⟩)
theorem zws_long {ad : Nat → Nat} {ca : Nat → ClassId} {μ : ZMem} {lay : List ZE} {c ci k z : Nat} {ks : List ZK} {v : Int64} (h : lay[c]? = some (.inr (ci, ks))) (hk : ks[k]? = some (1, z)) :
    (zws ad ca μ 0 lay).set c (ad c, .inr (ci, (zfs ad μ c 0 ks).set k (.long v))) = zws ad ca (zJ μ c k v) 0 lay :=
  zws_set h (by
    simp only [zent]
    rw [zfs_set (μ' := zJ μ c k v) hk (by simp [zfv, zJ, zupL, zmv]) (fun j hj κ => by simp [zfv, zJ, zupL, hj])]) (fun i hi => ⟨rfl, zupL_ne hi, rfl⟩)
theorem zws_ref {ad : Nat → Nat} {ca : Nat → ClassId} {μ : ZMem} {lay : List ZE} {c ci k z : Nat} {ks : List ZK} {v : Nat} (h : lay[c]? = some (.inr (ci, ks))) (hk : ks[k]? = some (3, z)) :
    (zws ad ca μ 0 lay).set c (ad c, .inr (ci, (zfs ad μ c 0 ks).set k (.ref (ad v)))) = zws ad ca (zR μ c k v) 0 lay :=
  zws_set h (by
    simp only [zent]
    rw [zfs_set (μ' := zR μ c k v) hk (by simp [zfv, zR, zupR, zmv]) (fun j hj κ => by simp [zfv, zR, zupR, hj])]) (fun i hi => ⟨rfl, rfl, zupR_ne hi⟩)
/-! locals -/
def zlv (ad : Nat → Nat) : Nat → List (Option Value) → List (Nat × Value)
  | _, [] => []
  | i, none :: r => zlv ad (i + 1) r
  | i, some v :: r => (i, zmv ad v) :: zlv ad (i + 1) r
theorem zlv_mem (ad : Nat → Nat) (L : List (Option Value)) : ∀ (b : Nat) (q : Nat × Value), q ∈ zlv ad b L ↔ ∃ (j : Nat) (v : Value), L[j]? = some (some v) ∧ q = (b + j, zmv ad v) := by
  induction L with
  | nil => intro b q; simp [zlv]
  | cons x r ih =>
    intro b q
    have aux : (∃ (j : Nat) (v : Value), (x :: r)[j]? = some (some v) ∧ q = (b + j, zmv ad v)) ↔ (∃ v, x = some v ∧ q = (b, zmv ad v)) ∨ ∃ (j : Nat) (v : Value), r[j]? = some (some v) ∧ q = (b + 1 + j, zmv ad v) := by
      constructor
      · rintro ⟨j, v, h1, h2⟩
        cases j with
        | zero => exact Or.inl ⟨v, by simpa using h1, by simpa using h2⟩
        | succ j => exact Or.inr ⟨j, v, by simpa using h1, by rw [h2, show b + (j + 1) = b + 1 + j by omega]⟩
      · rintro (⟨v, h1, h2⟩ | ⟨j, v, h1, h2⟩)
        · exact ⟨0, v, by simp [h1], by simpa using h2⟩
        · exact ⟨j + 1, v, by simpa using h1, by rw [h2, show b + (j + 1) = b + 1 + j by omega]⟩
    rw [aux]
    cases x with
    | none => simp only [zlv]; rw [ih (b + 1) q]; simp
    | some v => simp only [zlv, List.mem_cons]; rw [ih (b + 1) q]; simp
def zL (ad : Nat → Nat) (ls : Array Slot) (n : Nat) (L : List (Option Value)) : Prop := lv_has ls n (zlv ad 0 L) ∧ L.length = n ∧ ∀ (j : Nat) (v : Value), L[j]? = some (some v) → v.category = 1
theorem zmv_cat (ad : Nat → Nat) (v : Value) : (zmv ad v).category = v.category := by cases v <;> rfl
theorem zL.get {ad : Nat → Nat} {ls : Array Slot} {n : Nat} {L : List (Option Value)} (h : zL ad ls n L) {i : Nat} {v : Value} (hi : L[i]? = some (some v)) : ls[i]? = some (.val (zmv ad v)) := by
  have := h.1.2.2 (i, zmv ad v) ((zlv_mem ad L 0 _).mpr ⟨i, v, hi, by rw [Nat.zero_add]⟩)
  exact this
theorem zL.set {ad : Nat → Nat} {ls ls' : Array Slot} {n : Nat} {L : List (Option Value)} (h : zL ad ls n L) {i : Nat} {v : Value} (hc : v.category = 1) (hi : i < n) (h' : lv_has ls' n ((i, zmv ad v) :: (zlv ad 0 L).filter (fun q => !(q.1 == i) && !(q.1 + 1 == i && q.2.category == 2)))) : zL ad ls' n (L.set i (some v)) := by
  have hcat : ∀ (j : Nat) (w : Value), (L.set i (some v))[j]? = some (some w) → w.category = 1 := by
    intro j w hj
    rw [List.getElem?_set] at hj
    by_cases e : i = j
    · subst e
      simp only [if_true] at hj
      by_cases hl : i < L.length
      · rw [if_pos hl] at hj
        cases hj
        exact hc
      · rw [if_neg hl] at hj
        cases hj
    · rw [if_neg e] at hj
      exact h.2.2 j w hj
  refine ⟨⟨h'.1, h'.2.1, fun q hq => ?_⟩, by rw [List.length_set]; exact h.2.1, hcat⟩
  obtain ⟨j, w, hj, rfl⟩ := (zlv_mem ad _ 0 _).mp hq
  rw [Nat.zero_add]
  have hw := hcat j w hj
  rw [List.getElem?_set] at hj
  by_cases e : i = j
  · subst e
    have hl : i < L.length := by rw [h.2.1]; exact hi
    simp only [if_true, if_pos hl] at hj
    cases hj
    exact h'.2.2 (i, zmv ad v) List.mem_cons_self
  · rw [if_neg e] at hj
    refine h'.2.2 (j, zmv ad w) (List.mem_cons_of_mem _ (List.mem_filter.mpr ⟨(zlv_mem ad L 0 _).mpr ⟨j, w, hj, by rw [Nat.zero_add]⟩, ?_⟩))
    have e' : ¬ j = i := fun q => e q.symm
    simp [e', zmv_cat, hw]
/-! the judgement -/
def ztys (ca : Nat → ClassId) : List (ClassId × FieldType) := [(ca 0, .int), (ca 1, .byte), (ca 2, .boolean)]
def zroom (d : Nat) : Room := { frames := d, cells := 0, slots := 0, locals := d * 30 }
def zA (lay : List ZE) (ad : Nat → Nat) (sz : Nat) : Nat → Prop := fun q => (∃ k, k < lay.length ∧ q = ad k) ∨ sz ≤ q
def zG (mt : ZM) (p : Program) (s : State) (m : MethodId) (args : Array Value) (meth : Method) (c : Code) (D : va_G) (ca : Nat → ClassId) (A : Nat → Prop) : Prop :=
  p.tables.exec = Jvm.exec ∧ c.code = mt.2.1 ∧ meth.sig.returnType = mt.2.2.2 ∧ c.maxLocals = mt.2.2.1 ∧ s.vm.findClass mt.1.cls = some m.cls ∧ meth.locks = false ∧ (∀ w ∈ ztbl, w.before args s = true) ∧ (∀ w ∈ znest, va_Nw w s) ∧ va_K D vwCl (ztys ca) s ∧ ∀ q, s.heap.size ≤ q → A q
def zQ (lay : List ZE) (D : va_G) (ca : Nat → ClassId) (ad : Nat → Nat) (A : Nat → Prop) (Q : Option Value → ZMem → Prop) : Array Value → State → Outcome → State → Prop := fun _ st oc t =>
  ∃ (r : Option Value) (μ' : ZMem), Q r μ' ∧ oc = .returned (r.map (zmv ad)) ∧ va_P D vwCl (zws ad ca μ' 0 lay) t.heap ∧ va_F A st t
def ZW (lay : List ZE) (mt : ZM) (d : Nat) (Q : Option Value → ZMem → Prop) (pc : Nat) (L : List (Option Value)) (st : List Value) (μ : ZMem) : Prop :=
  ∀ (p : Program) (l : Launch) (e : Env) (s : State) (m : MethodId) (args : Array Value) (below : List Frame) (meth : Method) (c : Code) (D : va_G) (ca : Nat → ClassId) (ad : Nat → Nat) (A : Nat → Prop) (H : Heap) (locs : List Loc) (ls : Array Slot),
    zG mt p s m args meth c D ca A → va_P D vwCl (zws ad ca μ 0 lay) H → va_D A (zws ad ca μ 0 lay) → va_S A s.heap H locs → zL ad ls mt.2.2.1 L →
    W p l e (zroom d) s m args below meth c H locs 0 0 (MQ below (zQ lay D ca ad A Q) args s 0 0 A) (F0 m pc ls (st.map (zmv ad)))
/-- a method's contract, in Z's words -/
def Spec (lay : List ZE) (mt : ZM) (d : Nat) (as : List Value) (μ : ZMem) (Q : Option Value → ZMem → Prop) : Prop :=
  ∀ (l : Launch) (D : va_G) (ca : Nat → ClassId) (ad : Nat → Nat) (sz : Nat), Met l mt.1 (.code mt.1 mt.2.1 mt.2.2.1 mt.2.2.2 :: ztbl) (zroom d)
    (va_Pc (as.map (zmv ad)) (fun U => U.heap.size = sz ∧ va_P D vwCl (zws ad ca μ 0 lay) U.heap ∧ va_K D vwCl (ztys ca) U ∧ va_D (fun _ => True) (zws ad ca μ 0 lay) ∧ ∀ w ∈ znest, va_Nw w U))
    (zQ lay D ca ad (zA lay ad sz) Q) 0 0 (zA lay ad sz)
theorem zws_D {ad : Nat → Nat} {ca : Nat → ClassId} {μ μ' : ZMem} {lay : List ZE} {A A' : Nat → Prop} (h : va_D A (zws ad ca μ 0 lay)) (hA : ∀ k, k < lay.length → A' (ad k)) : va_D A' (zws ad ca μ' 0 lay) := by
  have key : ∀ (μ : ZMem) (i : Nat) (q : Nat × va_E), (zws ad ca μ 0 lay)[i]? = some q → i < lay.length ∧ q.1 = ad i := by
    intro μ i q hq
    rw [zws_get, Nat.zero_add] at hq
    cases hl : lay[i]? with
    | none => rw [hl] at hq; cases hq
    | some e =>
      rw [hl] at hq
      cases hq
      exact ⟨(List.getElem?_eq_some_iff.mp hl).1, rfl⟩
  refine ⟨fun i j p q hp hq e => ?_, fun k q hq => by obtain ⟨h1, h2⟩ := key μ' k q hq; rw [h2]; exact hA k h1⟩
  obtain ⟨h1, h2⟩ := key μ' i p hp
  obtain ⟨h3, h4⟩ := key μ' j q hq
  have e1 : (zws ad ca μ 0 lay)[i]? = some (ad i, zent ad ca μ i lay[i]) := zws_at (List.getElem?_eq_getElem h1)
  have e2 : (zws ad ca μ 0 lay)[j]? = some (ad j, zent ad ca μ j lay[j]) := zws_at (List.getElem?_eq_getElem h3)
  exact h.1 i j _ _ e1 e2 (by show ad i = ad j; rw [← h2, ← h4]; exact e)
theorem zws_DA {ad : Nat → Nat} {ca : Nat → ClassId} {μ : ZMem} {lay : List ZE} {A : Nat → Prop} (h : va_D A (zws ad ca μ 0 lay)) : ∀ k, k < lay.length → A (ad k) := by
  intro k hk
  exact h.2 k _ (zws_at (List.getElem?_eq_getElem hk))
theorem zmv_args (ad : Nat → Nat) : ∀ (as : List Value) (b : Nat), (∀ v ∈ as, v.category = 1) → ∀ (j : Nat) (v : Value), as[j]? = some v → (b + j, zmv ad v) ∈ lv_args b (as.map (zmv ad)) := by
  intro as
  induction as with
  | nil => intro b _ j v h; simp at h
  | cons a r ih =>
    intro b hc j v h
    have ha : (zmv ad a).category = 1 := by rw [zmv_cat]; exact hc a List.mem_cons_self
    cases j with
    | zero =>
      simp only [List.getElem?_cons_zero, Option.some.injEq] at h
      subst h
      simp [lv_args]
    | succ j =>
      have := ih (b + 1) (fun v hv => hc v (List.mem_cons_of_mem _ hv)) j v (by simpa using h)
      rw [show b + (j + 1) = b + 1 + j by omega]
      simp only [List.map_cons, lv_args]
      refine List.mem_cons_of_mem _ ?_
      first | exact this | (rw [ha]; exact this)
def zloc (n : Nat) (as : List Value) : List (Option Value) := as.map some ++ List.replicate (n - as.length) none
theorem lg_sl_one (vs : List Value) (h : ∀ v ∈ vs, v.category = 1) : (lg_sl vs).length = vs.length := by
  induction vs with
  | nil => rfl
  | cons a r ih =>
    have ha := h a List.mem_cons_self
    simp only [lg_sl, List.flatMap_cons] at ih ⊢
    rw [if_neg (by rw [ha]; decide)]
    simp only [List.length_append, List.length_cons, List.length_nil]
    rw [ih (fun v hv => h v (List.mem_cons_of_mem _ hv))]
    omega
theorem zL_entry (ad : Nat → Nat) {n : Nat} {as : List Value} (hc : ∀ v ∈ as, v.category = 1) (hn : as.length ≤ n) {ls : Array Slot} (h : lv_has ls n (lv_args 0 (as.map (zmv ad)))) : zL ad ls n (zloc n as) := by
  have hg : ∀ (j : Nat) (v : Value), (zloc n as)[j]? = some (some v) → as[j]? = some v := by
    intro j v hj
    unfold zloc at hj
    rw [List.getElem?_append] at hj
    by_cases hl : j < (as.map some).length
    · rw [if_pos hl, List.getElem?_map] at hj
      cases ha : as[j]? with
      | none => rw [ha] at hj; cases hj
      | some w => rw [ha] at hj; simpa using hj
    · rw [if_neg hl, List.getElem?_replicate] at hj
      split at hj <;> cases hj
  refine ⟨⟨h.1, h.2.1, fun q hq => ?_⟩, by simp [zloc]; omega, fun j v hj => hc v (List.mem_of_getElem? (hg j v hj))⟩
  obtain ⟨j, v, hj, rfl⟩ := (zlv_mem ad _ 0 _).mp hq
  exact h.2.2 _ (zmv_args ad as 0 hc j v (hg j v hj))
theorem Spec.of {lay : List ZE} {mt : ZM} {d : Nat} {as : List Value} {μ : ZMem} {Q : Option Value → ZMem → Prop} (hpl : plainName mt.1.cls = true) (hc : ∀ v ∈ as, v.category = 1) (hn : as.length ≤ mt.2.2.1) (h : ZW lay mt d Q 0 (zloc mt.2.2.1 as) [] μ) : Spec lay mt d as μ Q := by
  intro l D ca ad sz
  refine Met.ofW (cc := mt.2.1) (maxL := mt.2.2.1) (ret := mt.2.2.2) hpl rfl ?_
  intro p e s m args below meth c s₁ B hml hv
  obtain ⟨rfl, hsz, hP, hK, hD0, hN⟩ := hv
  have hts := atoms_spec (ws := .code mt.1 mt.2.1 mt.2.2.1 mt.2.2.2 :: ztbl) B.pre
  subst hsz
  have hcm : ∀ v ∈ as.map (zmv ad), v.category = 1 := by
    intro v hv
    obtain ⟨w, hw, rfl⟩ := List.mem_map.mp hv
    rw [zmv_cat]
    exact hc w hw
  have hlen : (lg_sl (as.map (zmv ad))).length ≤ mt.2.2.1 := by rw [lg_sl_one _ hcm, List.length_map]; exact hn
  have hl := lv_entry (as.map (zmv ad)) (n := mt.2.2.1) hlen
  rw [lg_entry_eq]
  generalize (lg_sl (as.map (zmv ad)) ++ List.replicate (mt.2.2.1 - (lg_sl (as.map (zmv ad))).length) Slot.unset).toArray = ls at hl ⊢
  exact h p l e s m _ below meth c D ca ad (zA lay ad s.heap.size) s.heap [] ls ⟨B.exec, B.bytes, B.returns, hml, findClass_of_methodNamed B.named, B.notSynchronized, fun w hw => hts w (List.mem_cons_of_mem _ hw), hN, hK, fun q hq => Or.inr hq⟩ hP (zws_D hD0 (fun k hk => Or.inl ⟨k, hk, rfl⟩)) va_S.rf (zL_entry ad hc hn hl)

section ZR
variable {lay : List ZE} {mt : ZM} {d : Nat} {Q : Option Value → ZMem → Prop} {pc : Nat} {L : List (Option Value)} {st : List Value} {μ : ZMem}
theorem ZW.eq {pc' : Nat} {L' : List (Option Value)} {st' : List Value} {μ' : ZMem} (k : ZW lay mt d Q pc' L' st' μ') (h1 : pc = pc' := by rfl) (h2 : L = L' := by rfl) (h3 : st = st' := by rfl) (h4 : μ = μ' := by rfl) : ZW lay mt d Q pc L st μ := by
  subst h1; subst h2; subst h3; subst h4; exact k
theorem z_iconst {n : Int} {v : Int32} (hd : decode mt.2.1 pc = .ok (.iconst n, 1)) (hv : Int32.ofInt n = v) (k : ZW lay mt d Q (pc + 1) L (.int v :: st) μ) : ZW lay mt d Q pc L (st) μ := by
  intro p l e s m args below meth c D ca ad A H locs ls G hP hD hS hL
  exact lv_iconst G.1 G.2.1 hd hv (k p l e s m args below meth c D ca ad A H locs ls G hP hD hS hL)
theorem z_bipush {n : Int} {v : Int32} (hd : decode mt.2.1 pc = .ok (.bipush n, 2)) (hv : (Int8.ofInt n).toInt32 = v) (k : ZW lay mt d Q (pc + 2) L (.int v :: st) μ) : ZW lay mt d Q pc L (st) μ := by
  intro p l e s m args below meth c D ca ad A H locs ls G hP hD hS hL
  exact lv_bipush G.1 G.2.1 hd hv (k p l e s m args below meth c D ca ad A H locs ls G hP hD hS hL)
theorem z_sipush {n : Int} {v : Int32} (hd : decode mt.2.1 pc = .ok (.sipush n, 3)) (hv : (Int16.ofInt n).toInt32 = v) (k : ZW lay mt d Q (pc + 3) L (.int v :: st) μ) : ZW lay mt d Q pc L (st) μ := by
  intro p l e s m args below meth c D ca ad A H locs ls G hP hD hS hL
  exact lv_sipush G.1 G.2.1 hd hv (k p l e s m args below meth c D ca ad A H locs ls G hP hD hS hL)
theorem z_lconst {n : Fin 2} {v : Int64} (hd : decode mt.2.1 pc = .ok (.lconst n, 1)) (hv : Int64.ofNat (n : Nat) = v) (k : ZW lay mt d Q (pc + 1) L (.long v :: st) μ) : ZW lay mt d Q pc L (st) μ := by
  intro p l e s m args below meth c D ca ad A H locs ls G hP hD hS hL
  exact lv_lconst G.1 G.2.1 hd hv (k p l e s m args below meth c D ca ad A H locs ls G hP hD hS hL)
theorem z_iload_n {j : Fin 4} {x : Int32} (hd : decode mt.2.1 pc = .ok (.iload_n j, 1)) (hl : L[(j : Nat)]? = some (some (.int x))) (k : ZW lay mt d Q (pc + 1) L (.int x :: st) μ) : ZW lay mt d Q pc L (st) μ := by
  intro p l e s m args below meth c D ca ad A H locs ls G hP hD hS hL
  exact lv_iload_n G.1 G.2.1 hd rfl (hL.get hl) (k p l e s m args below meth c D ca ad A H locs ls G hP hD hS hL)
theorem z_iload {i : Nat} {x : Int32} (hd : decode mt.2.1 pc = .ok (.iload i, 2)) (hl : L[i]? = some (some (.int x))) (k : ZW lay mt d Q (pc + 2) L (.int x :: st) μ) : ZW lay mt d Q pc L (st) μ := by
  intro p l e s m args below meth c D ca ad A H locs ls G hP hD hS hL
  exact lv_iload G.1 G.2.1 hd (hL.get hl) (k p l e s m args below meth c D ca ad A H locs ls G hP hD hS hL)
theorem z_aload_n {j : Fin 4} {x : Nat} (hd : decode mt.2.1 pc = .ok (.aload_n j, 1)) (hl : L[(j : Nat)]? = some (some (.ref x))) (k : ZW lay mt d Q (pc + 1) L (.ref x :: st) μ) : ZW lay mt d Q pc L (st) μ := by
  intro p l e s m args below meth c D ca ad A H locs ls G hP hD hS hL
  exact lv_aload_n G.1 G.2.1 hd rfl (hL.get hl) (k p l e s m args below meth c D ca ad A H locs ls G hP hD hS hL)
theorem z_aload {i : Nat} {x : Nat} (hd : decode mt.2.1 pc = .ok (.aload i, 2)) (hl : L[i]? = some (some (.ref x))) (k : ZW lay mt d Q (pc + 2) L (.ref x :: st) μ) : ZW lay mt d Q pc L (st) μ := by
  intro p l e s m args below meth c D ca ad A H locs ls G hP hD hS hL
  exact lv_aload G.1 G.2.1 hd (hL.get hl) (k p l e s m args below meth c D ca ad A H locs ls G hP hD hS hL)
theorem z_istore_n {j : Fin 4} {i : Nat} {x : Int32} (hd : decode mt.2.1 pc = .ok (.istore_n j, 1)) (hi : (j : Nat) = i) (hn : i < mt.2.2.1) (k : ZW lay mt d Q (pc + 1) (L.set i (some (.int x))) (st) μ) : ZW lay mt d Q pc L (.int x :: st) μ := by
  intro p l e s m args below meth c D ca ad A H locs ls G hP hD hS hL
  exact lv_istore_n G.1 G.2.1 hd hi hL.1 hn rfl (fun ls' h' => k p l e s m args below meth c D ca ad A H locs ls' G hP hD hS (hL.set (v := .int x) rfl hn h'))
theorem z_istore {i : Nat} {x : Int32} (hd : decode mt.2.1 pc = .ok (.istore i, 2)) (hn : i < mt.2.2.1) (k : ZW lay mt d Q (pc + 2) (L.set i (some (.int x))) (st) μ) : ZW lay mt d Q pc L (.int x :: st) μ := by
  intro p l e s m args below meth c D ca ad A H locs ls G hP hD hS hL
  exact lv_istore G.1 G.2.1 hd hL.1 hn rfl (fun ls' h' => k p l e s m args below meth c D ca ad A H locs ls' G hP hD hS (hL.set (v := .int x) rfl hn h'))
theorem z_astore_n {j : Fin 4} {i : Nat} {x : Nat} (hd : decode mt.2.1 pc = .ok (.astore_n j, 1)) (hi : (j : Nat) = i) (hn : i < mt.2.2.1) (k : ZW lay mt d Q (pc + 1) (L.set i (some (.ref x))) (st) μ) : ZW lay mt d Q pc L (.ref x :: st) μ := by
  intro p l e s m args below meth c D ca ad A H locs ls G hP hD hS hL
  exact lv_astore_n G.1 G.2.1 hd hi hL.1 hn rfl (fun ls' h' => k p l e s m args below meth c D ca ad A H locs ls' G hP hD hS (hL.set (v := .ref x) rfl hn h'))
theorem z_iinc {i : Nat} {n : Int} {x v : Int32} (hd : decode mt.2.1 pc = .ok (.iinc i n, 3)) (hl : L[i]? = some (some (.int x))) (hn : i < mt.2.2.1) (hv : Int32.ofInt n = v) (k : ZW lay mt d Q (pc + 3) (L.set i (some (.int (x + v)))) (st) μ) : ZW lay mt d Q pc L (st) μ := by
  intro p l e s m args below meth c D ca ad A H locs ls G hP hD hS hL
  obtain ⟨kk, hk⟩ := List.getElem?_of_mem ((zlv_mem ad L 0 (i, .int x)).mpr ⟨i, .int x, hl, by rw [Nat.zero_add]; rfl⟩)
  exact lv_iinc G.1 G.2.1 hd hL.1 hk (by rw [hv]) hn rfl (fun ls' h' => k p l e s m args below meth c D ca ad A H locs ls' G hP hD hS (hL.set (v := .int (x + v)) rfl hn h'))
theorem z_iadd {x y : Int32} (hd : decode mt.2.1 pc = .ok (.iadd, 1)) (k : ZW lay mt d Q (pc + 1) L (.int (x + y) :: st) μ) : ZW lay mt d Q pc L (.int y :: .int x :: st) μ := by
  intro p l e s m args below meth c D ca ad A H locs ls G hP hD hS hL
  exact lv_iadd G.1 G.2.1 hd (k p l e s m args below meth c D ca ad A H locs ls G hP hD hS hL)
theorem z_isub {x y : Int32} (hd : decode mt.2.1 pc = .ok (.isub, 1)) (k : ZW lay mt d Q (pc + 1) L (.int (x - y) :: st) μ) : ZW lay mt d Q pc L (.int y :: .int x :: st) μ := by
  intro p l e s m args below meth c D ca ad A H locs ls G hP hD hS hL
  exact lv_isub G.1 G.2.1 hd (k p l e s m args below meth c D ca ad A H locs ls G hP hD hS hL)
theorem z_imul {x y : Int32} (hd : decode mt.2.1 pc = .ok (.imul, 1)) (k : ZW lay mt d Q (pc + 1) L (.int (x * y) :: st) μ) : ZW lay mt d Q pc L (.int y :: .int x :: st) μ := by
  intro p l e s m args below meth c D ca ad A H locs ls G hP hD hS hL
  exact lv_imul G.1 G.2.1 hd (k p l e s m args below meth c D ca ad A H locs ls G hP hD hS hL)
theorem z_iand {x y : Int32} (hd : decode mt.2.1 pc = .ok (.iand, 1)) (k : ZW lay mt d Q (pc + 1) L (.int (x &&& y) :: st) μ) : ZW lay mt d Q pc L (.int y :: .int x :: st) μ := by
  intro p l e s m args below meth c D ca ad A H locs ls G hP hD hS hL
  exact lv_iand G.1 G.2.1 hd (k p l e s m args below meth c D ca ad A H locs ls G hP hD hS hL)
theorem z_ior {x y : Int32} (hd : decode mt.2.1 pc = .ok (.ior, 1)) (k : ZW lay mt d Q (pc + 1) L (.int (x ||| y) :: st) μ) : ZW lay mt d Q pc L (.int y :: .int x :: st) μ := by
  intro p l e s m args below meth c D ca ad A H locs ls G hP hD hS hL
  exact lv_ior G.1 G.2.1 hd (k p l e s m args below meth c D ca ad A H locs ls G hP hD hS hL)
theorem z_ixor {x y : Int32} (hd : decode mt.2.1 pc = .ok (.ixor, 1)) (k : ZW lay mt d Q (pc + 1) L (.int (x ^^^ y) :: st) μ) : ZW lay mt d Q pc L (.int y :: .int x :: st) μ := by
  intro p l e s m args below meth c D ca ad A H locs ls G hP hD hS hL
  exact lv_ixor G.1 G.2.1 hd (k p l e s m args below meth c D ca ad A H locs ls G hP hD hS hL)
theorem z_ishl {x y : Int32} (hd : decode mt.2.1 pc = .ok (.ishl, 1)) (k : ZW lay mt d Q (pc + 1) L (.int (x <<< (y &&& 31)) :: st) μ) : ZW lay mt d Q pc L (.int y :: .int x :: st) μ := by
  intro p l e s m args below meth c D ca ad A H locs ls G hP hD hS hL
  exact lv_ishl G.1 G.2.1 hd (k p l e s m args below meth c D ca ad A H locs ls G hP hD hS hL)
theorem z_ishr {x y : Int32} (hd : decode mt.2.1 pc = .ok (.ishr, 1)) (k : ZW lay mt d Q (pc + 1) L (.int (x >>> (y &&& 31)) :: st) μ) : ZW lay mt d Q pc L (.int y :: .int x :: st) μ := by
  intro p l e s m args below meth c D ca ad A H locs ls G hP hD hS hL
  exact lv_ishr G.1 G.2.1 hd (k p l e s m args below meth c D ca ad A H locs ls G hP hD hS hL)
theorem z_idiv {x y : Int32} (hd : decode mt.2.1 pc = .ok (.idiv, 1)) (hne : ¬ y = 0) (k : ZW lay mt d Q (pc + 1) L (.int (x / y) :: st) μ) : ZW lay mt d Q pc L (.int y :: .int x :: st) μ := by
  intro p l e s m args below meth c D ca ad A H locs ls G hP hD hS hL
  exact lv_idiv G.1 G.2.1 hd hne (k p l e s m args below meth c D ca ad A H locs ls G hP hD hS hL)
theorem z_irem {x y : Int32} (hd : decode mt.2.1 pc = .ok (.irem, 1)) (hne : ¬ y = 0) (k : ZW lay mt d Q (pc + 1) L (.int (x - x / y * y) :: st) μ) : ZW lay mt d Q pc L (.int y :: .int x :: st) μ := by
  intro p l e s m args below meth c D ca ad A H locs ls G hP hD hS hL
  exact lv_irem G.1 G.2.1 hd hne (k p l e s m args below meth c D ca ad A H locs ls G hP hD hS hL)
theorem z_iushr {x y : Int32} (hd : decode mt.2.1 pc = .ok (.iushr, 1)) (k : ZW lay mt d Q (pc + 1) L (.int (x.toUInt32 >>> (y.toUInt32 &&& Int32.toUInt32 31)).toInt32 :: st) μ) : ZW lay mt d Q pc L (.int y :: .int x :: st) μ := by
  intro p l e s m args below meth c D ca ad A H locs ls G hP hD hS hL
  exact lv_iushr G.1 G.2.1 hd rfl (k p l e s m args below meth c D ca ad A H locs ls G hP hD hS hL)
theorem z_ladd {x y : Int64} (hd : decode mt.2.1 pc = .ok (.ladd, 1)) (k : ZW lay mt d Q (pc + 1) L (.long (x + y) :: st) μ) : ZW lay mt d Q pc L (.long y :: .long x :: st) μ := by
  intro p l e s m args below meth c D ca ad A H locs ls G hP hD hS hL
  exact lv_ladd G.1 G.2.1 hd (k p l e s m args below meth c D ca ad A H locs ls G hP hD hS hL)
theorem z_i2b {x : Int32} (hd : decode mt.2.1 pc = .ok (.i2b, 1)) (k : ZW lay mt d Q (pc + 1) L (.int x.toInt8.toInt32 :: st) μ) : ZW lay mt d Q pc L (.int x :: st) μ := by
  intro p l e s m args below meth c D ca ad A H locs ls G hP hD hS hL
  exact lv_i2b G.1 G.2.1 hd rfl (k p l e s m args below meth c D ca ad A H locs ls G hP hD hS hL)
theorem z_dup {v : Value} (hd : decode mt.2.1 pc = .ok (.dup, 1)) (hv : v.category = 1) (k : ZW lay mt d Q (pc + 1) L (v :: v :: st) μ) : ZW lay mt d Q pc L (v :: st) μ := by
  intro p l e s m args below meth c D ca ad A H locs ls G hP hD hS hL
  exact lv_dup G.1 G.2.1 hd (by rw [zmv_cat]; exact hv) (k p l e s m args below meth c D ca ad A H locs ls G hP hD hS hL)
theorem z_pop {v : Value} (hd : decode mt.2.1 pc = .ok (.pop, 1)) (hv : v.category = 1) (k : ZW lay mt d Q (pc + 1) L (st) μ) : ZW lay mt d Q pc L (v :: st) μ := by
  intro p l e s m args below meth c D ca ad A H locs ls G hP hD hS hL
  exact lv_pop G.1 G.2.1 hd (by rw [zmv_cat]; exact hv) (k p l e s m args below meth c D ca ad A H locs ls G hP hD hS hL)
theorem z_dup2 {v u : Value} (hd : decode mt.2.1 pc = .ok (.dup2, 1)) (hv : v.category = 1) (hu : u.category = 1) (k : ZW lay mt d Q (pc + 1) L (v :: u :: v :: u :: st) μ) : ZW lay mt d Q pc L (v :: u :: st) μ := by
  intro p l e s m args below meth c D ca ad A H locs ls G hP hD hS hL
  exact lv_dup2_11 G.1 G.2.1 hd (by rw [zmv_cat]; exact hv) (by rw [zmv_cat]; exact hu) (k p l e s m args below meth c D ca ad A H locs ls G hP hD hS hL)
theorem z_goto {off : Int} {tgt : Nat} (hd : decode mt.2.1 pc = .ok (.goto off, 3)) (ht : (pc : Int) + off = (tgt : Int)) (k : ZW lay mt d Q (tgt) L (st) μ) : ZW lay mt d Q pc L (st) μ := by
  intro p l e s m args below meth c D ca ad A H locs ls G hP hD hS hL
  exact lv_goto G.1 G.2.1 hd ht (k p l e s m args below meth c D ca ad A H locs ls G hP hD hS hL)
theorem z_ldc {i : Nat} {v : Int32} (hd : decode mt.2.1 pc = .ok (.ldc i, 2)) (hc : Cond.constant mt.1.cls i v ∈ ztbl) (k : ZW lay mt d Q (pc + 2) L (.int v :: st) μ) : ZW lay mt d Q pc L (st) μ := by
  intro p l e s m args below meth c D ca ad A H locs ls G hP hD hS hL
  exact lv_ldc G.1 G.2.1 G.2.2.2.2.1 (G.2.2.2.2.2.2.1 _ hc) hd (k p l e s m args below meth c D ca ad A H locs ls G hP hD hS hL)
theorem z_ldcw {i : Nat} {v : Int32} (hd : decode mt.2.1 pc = .ok (.ldc_w i, 3)) (hc : Cond.constant mt.1.cls i v ∈ ztbl) (k : ZW lay mt d Q (pc + 3) L (.int v :: st) μ) : ZW lay mt d Q pc L (st) μ := by
  intro p l e s m args below meth c D ca ad A H locs ls G hP hD hS hL
  exact lv_ldcw G.1 G.2.1 G.2.2.2.2.1 (G.2.2.2.2.2.2.1 _ hc) hd (k p l e s m args below meth c D ca ad A H locs ls G hP hD hS hL)
theorem z_ldc2 {i : Nat} {v : Int64} (hd : decode mt.2.1 pc = .ok (.ldc2_w i, 3)) (hc : Cond.constantLong mt.1.cls i v ∈ ztbl) (k : ZW lay mt d Q (pc + 3) L (.long v :: st) μ) : ZW lay mt d Q pc L (st) μ := by
  intro p l e s m args below meth c D ca ad A H locs ls G hP hD hS hL
  exact lv_ldc2 G.1 G.2.1 G.2.2.2.2.1 (G.2.2.2.2.2.2.1 _ hc) hd (k p l e s m args below meth c D ca ad A H locs ls G hP hD hS hL)
theorem z_if_eq {x : Int32} {off : Int} {tgt : Nat} (hd : decode mt.2.1 pc = .ok (.ifCond .eq off, 3)) (ht : (pc : Int) + off = (tgt : Int)) (kt : (x = 0) → ZW lay mt d Q tgt L st μ) (kf : ¬ (x = 0) → ZW lay mt d Q (pc + 3) L st μ) : ZW lay mt d Q pc L (.int x :: st) μ := by
  intro p l e s m args below meth c D ca ad A H locs ls G hP hD hS hL
  exact lv_if_eq G.1 G.2.1 hd ht (fun h => kt h p l e s m args below meth c D ca ad A H locs ls G hP hD hS hL) (fun h => kf h p l e s m args below meth c D ca ad A H locs ls G hP hD hS hL)
theorem z_icmp_eq {x y : Int32} {off : Int} {tgt : Nat} (hd : decode mt.2.1 pc = .ok (.if_icmp .eq off, 3)) (ht : (pc : Int) + off = (tgt : Int)) (kt : (x = y) → ZW lay mt d Q tgt L st μ) (kf : ¬ (x = y) → ZW lay mt d Q (pc + 3) L st μ) : ZW lay mt d Q pc L (.int y :: .int x :: st) μ := by
  intro p l e s m args below meth c D ca ad A H locs ls G hP hD hS hL
  exact lv_icmp_eq G.1 G.2.1 hd ht (fun h => kt h p l e s m args below meth c D ca ad A H locs ls G hP hD hS hL) (fun h => kf h p l e s m args below meth c D ca ad A H locs ls G hP hD hS hL)
theorem z_if_ne {x : Int32} {off : Int} {tgt : Nat} (hd : decode mt.2.1 pc = .ok (.ifCond .ne off, 3)) (ht : (pc : Int) + off = (tgt : Int)) (kt : (¬ x = 0) → ZW lay mt d Q tgt L st μ) (kf : (x = 0) → ZW lay mt d Q (pc + 3) L st μ) : ZW lay mt d Q pc L (.int x :: st) μ := by
  intro p l e s m args below meth c D ca ad A H locs ls G hP hD hS hL
  exact lv_if_ne G.1 G.2.1 hd ht (fun h => kt h p l e s m args below meth c D ca ad A H locs ls G hP hD hS hL) (fun h => kf h p l e s m args below meth c D ca ad A H locs ls G hP hD hS hL)
theorem z_icmp_ne {x y : Int32} {off : Int} {tgt : Nat} (hd : decode mt.2.1 pc = .ok (.if_icmp .ne off, 3)) (ht : (pc : Int) + off = (tgt : Int)) (kt : (¬ x = y) → ZW lay mt d Q tgt L st μ) (kf : (x = y) → ZW lay mt d Q (pc + 3) L st μ) : ZW lay mt d Q pc L (.int y :: .int x :: st) μ := by
  intro p l e s m args below meth c D ca ad A H locs ls G hP hD hS hL
  exact lv_icmp_ne G.1 G.2.1 hd ht (fun h => kt h p l e s m args below meth c D ca ad A H locs ls G hP hD hS hL) (fun h => kf h p l e s m args below meth c D ca ad A H locs ls G hP hD hS hL)
theorem z_if_lt {x : Int32} {off : Int} {tgt : Nat} (hd : decode mt.2.1 pc = .ok (.ifCond .lt off, 3)) (ht : (pc : Int) + off = (tgt : Int)) (kt : (x < 0) → ZW lay mt d Q tgt L st μ) (kf : ¬ (x < 0) → ZW lay mt d Q (pc + 3) L st μ) : ZW lay mt d Q pc L (.int x :: st) μ := by
  intro p l e s m args below meth c D ca ad A H locs ls G hP hD hS hL
  exact lv_if_lt G.1 G.2.1 hd ht (fun h => kt h p l e s m args below meth c D ca ad A H locs ls G hP hD hS hL) (fun h => kf h p l e s m args below meth c D ca ad A H locs ls G hP hD hS hL)
theorem z_icmp_lt {x y : Int32} {off : Int} {tgt : Nat} (hd : decode mt.2.1 pc = .ok (.if_icmp .lt off, 3)) (ht : (pc : Int) + off = (tgt : Int)) (kt : (x < y) → ZW lay mt d Q tgt L st μ) (kf : ¬ (x < y) → ZW lay mt d Q (pc + 3) L st μ) : ZW lay mt d Q pc L (.int y :: .int x :: st) μ := by
  intro p l e s m args below meth c D ca ad A H locs ls G hP hD hS hL
  exact lv_icmp_lt G.1 G.2.1 hd ht (fun h => kt h p l e s m args below meth c D ca ad A H locs ls G hP hD hS hL) (fun h => kf h p l e s m args below meth c D ca ad A H locs ls G hP hD hS hL)
theorem z_if_ge {x : Int32} {off : Int} {tgt : Nat} (hd : decode mt.2.1 pc = .ok (.ifCond .ge off, 3)) (ht : (pc : Int) + off = (tgt : Int)) (kt : (0 ≤ x) → ZW lay mt d Q tgt L st μ) (kf : ¬ (0 ≤ x) → ZW lay mt d Q (pc + 3) L st μ) : ZW lay mt d Q pc L (.int x :: st) μ := by
  intro p l e s m args below meth c D ca ad A H locs ls G hP hD hS hL
  exact lv_if_ge G.1 G.2.1 hd ht (fun h => kt h p l e s m args below meth c D ca ad A H locs ls G hP hD hS hL) (fun h => kf h p l e s m args below meth c D ca ad A H locs ls G hP hD hS hL)
theorem z_icmp_ge {x y : Int32} {off : Int} {tgt : Nat} (hd : decode mt.2.1 pc = .ok (.if_icmp .ge off, 3)) (ht : (pc : Int) + off = (tgt : Int)) (kt : (y ≤ x) → ZW lay mt d Q tgt L st μ) (kf : ¬ (y ≤ x) → ZW lay mt d Q (pc + 3) L st μ) : ZW lay mt d Q pc L (.int y :: .int x :: st) μ := by
  intro p l e s m args below meth c D ca ad A H locs ls G hP hD hS hL
  exact lv_icmp_ge G.1 G.2.1 hd ht (fun h => kt h p l e s m args below meth c D ca ad A H locs ls G hP hD hS hL) (fun h => kf h p l e s m args below meth c D ca ad A H locs ls G hP hD hS hL)
theorem z_if_gt {x : Int32} {off : Int} {tgt : Nat} (hd : decode mt.2.1 pc = .ok (.ifCond .gt off, 3)) (ht : (pc : Int) + off = (tgt : Int)) (kt : (0 < x) → ZW lay mt d Q tgt L st μ) (kf : ¬ (0 < x) → ZW lay mt d Q (pc + 3) L st μ) : ZW lay mt d Q pc L (.int x :: st) μ := by
  intro p l e s m args below meth c D ca ad A H locs ls G hP hD hS hL
  exact lv_if_gt G.1 G.2.1 hd ht (fun h => kt h p l e s m args below meth c D ca ad A H locs ls G hP hD hS hL) (fun h => kf h p l e s m args below meth c D ca ad A H locs ls G hP hD hS hL)
theorem z_icmp_gt {x y : Int32} {off : Int} {tgt : Nat} (hd : decode mt.2.1 pc = .ok (.if_icmp .gt off, 3)) (ht : (pc : Int) + off = (tgt : Int)) (kt : (y < x) → ZW lay mt d Q tgt L st μ) (kf : ¬ (y < x) → ZW lay mt d Q (pc + 3) L st μ) : ZW lay mt d Q pc L (.int y :: .int x :: st) μ := by
  intro p l e s m args below meth c D ca ad A H locs ls G hP hD hS hL
  exact lv_icmp_gt G.1 G.2.1 hd ht (fun h => kt h p l e s m args below meth c D ca ad A H locs ls G hP hD hS hL) (fun h => kf h p l e s m args below meth c D ca ad A H locs ls G hP hD hS hL)
theorem z_if_le {x : Int32} {off : Int} {tgt : Nat} (hd : decode mt.2.1 pc = .ok (.ifCond .le off, 3)) (ht : (pc : Int) + off = (tgt : Int)) (kt : (x ≤ 0) → ZW lay mt d Q tgt L st μ) (kf : ¬ (x ≤ 0) → ZW lay mt d Q (pc + 3) L st μ) : ZW lay mt d Q pc L (.int x :: st) μ := by
  intro p l e s m args below meth c D ca ad A H locs ls G hP hD hS hL
  exact lv_if_le G.1 G.2.1 hd ht (fun h => kt h p l e s m args below meth c D ca ad A H locs ls G hP hD hS hL) (fun h => kf h p l e s m args below meth c D ca ad A H locs ls G hP hD hS hL)
theorem z_icmp_le {x y : Int32} {off : Int} {tgt : Nat} (hd : decode mt.2.1 pc = .ok (.if_icmp .le off, 3)) (ht : (pc : Int) + off = (tgt : Int)) (kt : (x ≤ y) → ZW lay mt d Q tgt L st μ) (kf : ¬ (x ≤ y) → ZW lay mt d Q (pc + 3) L st μ) : ZW lay mt d Q pc L (.int y :: .int x :: st) μ := by
  intro p l e s m args below meth c D ca ad A H locs ls G hP hD hS hL
  exact lv_icmp_le G.1 G.2.1 hd ht (fun h => kt h p l e s m args below meth c D ca ad A H locs ls G hP hD hS hL) (fun h => kf h p l e s m args below meth c D ca ad A H locs ls G hP hD hS hL)
theorem z_tsw_in {dflt lo hi : Int} {offs : Array Int} {len : Nat} {x : Int32} {off : Int} {tgt : Nat} (hd : decode mt.2.1 pc = .ok (.tableswitch dflt lo hi offs, len)) (h1 : ¬ x.toInt < lo) (h2 : ¬ hi < x.toInt) (ho : offs[(x.toInt - lo).toNat]? = some off) (ht : (pc : Int) + off = (tgt : Int)) (k : ZW lay mt d Q tgt L st μ) : ZW lay mt d Q pc L (.int x :: st) μ := by
  intro p l e s m args below meth c D ca ad A H locs ls G hP hD hS hL
  exact lv_tableIn G.1 G.2.1 hd h1 h2 ho ht (k p l e s m args below meth c D ca ad A H locs ls G hP hD hS hL)
theorem z_tsw_out {dflt lo hi : Int} {offs : Array Int} {len : Nat} {x : Int32} {tgt : Nat} (hd : decode mt.2.1 pc = .ok (.tableswitch dflt lo hi offs, len)) (h : x.toInt < lo ∨ hi < x.toInt) (ht : (pc : Int) + dflt = (tgt : Int)) (k : ZW lay mt d Q tgt L st μ) : ZW lay mt d Q pc L (.int x :: st) μ := by
  intro p l e s m args below meth c D ca ad A H locs ls G hP hD hS hL
  exact lv_tableOut G.1 G.2.1 hd h ht (k p l e s m args below meth c D ca ad A H locs ls G hP hD hS hL)
theorem z_lsw {dflt : Int} {ps : Array (Int × Int)} {len : Nat} {x : Int32} {off : Int} {tgt : Nat} (hd : decode mt.2.1 pc = .ok (.lookupswitch dflt ps, len)) (hp : (ps.toList.zip (ps.toList.drop 1)).all (fun (a, next) => a.1 < next.1) = true) (ho : Op.lookupswitch.offset ps.toList dflt x.toInt = off) (ht : (pc : Int) + off = (tgt : Int)) (k : ZW lay mt d Q tgt L st μ) : ZW lay mt d Q pc L (.int x :: st) μ := by
  intro p l e s m args below meth c D ca ad A H locs ls G hP hD hS hL
  exact lv_lookup G.1 G.2.1 hd hp ho ht (k p l e s m args below meth c D ca ad A H locs ls G hP hD hS hL)
theorem z_getI {idx ci c f z : Nat} {ks : List ZK} (hd : decode mt.2.1 pc = .ok (.getfield idx, 3)) (hf : zF mt.1.cls idx ci f) (hl : lay[c]? = some (.inr (ci, ks))) (hk : ks[f]? = some (0, z)) (k : ZW lay mt d Q (pc + 3) L (.int (μ.1 c f) :: st) μ) : ZW lay mt d Q pc L (.ref c :: st) μ := by
  intro p l e s m args below meth c_ D ca ad A H locs ls G hP hD hS hL
  obtain ⟨C, T, N, ty0, hc, hkN, hin, -, -, hlk⟩ := hf
  have he : (zws ad ca μ 0 lay)[c]? = some (ad c, .inr (ci, zfs ad μ c 0 ks)) := zws_at hl
  have hv : (zfs ad μ c 0 ks)[f]? = some (zmv ad (.int (μ.1 c f))) := zfs_at hk
  rcases hlk with h | ⟨host, h⟩
  · exact va_get (v := zmv ad (.int (μ.1 c f))) G.1 G.2.1 G.2.2.2.2.2.2.1 hin G.2.2.2.2.1 G.2.2.2.2.2.2.2.2.1 hP c he hc f hkN (G.2.2.2.2.2.2.1 _ h) (fun _ h9 => h9) hv hd (k p l e s m args below meth c_ D ca ad A H locs ls G hP hD hS hL)
  · exact va_getN (v := zmv ad (.int (μ.1 c f))) G.1 G.2.1 G.2.2.2.2.2.2.1 hin G.2.2.2.2.1 G.2.2.2.2.2.2.2.2.1 hP c he hc f hkN (va_Nw.use rfl (G.2.2.2.2.2.2.2.1 _ h)) (fun _ h9 => h9) hv hd (k p l e s m args below meth c_ D ca ad A H locs ls G hP hD hS hL)
theorem z_getJ {idx ci c f z : Nat} {ks : List ZK} (hd : decode mt.2.1 pc = .ok (.getfield idx, 3)) (hf : zF mt.1.cls idx ci f) (hl : lay[c]? = some (.inr (ci, ks))) (hk : ks[f]? = some (1, z)) (k : ZW lay mt d Q (pc + 3) L (.long (μ.2.1 c f) :: st) μ) : ZW lay mt d Q pc L (.ref c :: st) μ := by
  intro p l e s m args below meth c_ D ca ad A H locs ls G hP hD hS hL
  obtain ⟨C, T, N, ty0, hc, hkN, hin, -, -, hlk⟩ := hf
  have he : (zws ad ca μ 0 lay)[c]? = some (ad c, .inr (ci, zfs ad μ c 0 ks)) := zws_at hl
  have hv : (zfs ad μ c 0 ks)[f]? = some (zmv ad (.long (μ.2.1 c f))) := zfs_at hk
  rcases hlk with h | ⟨host, h⟩
  · exact va_get (v := zmv ad (.long (μ.2.1 c f))) G.1 G.2.1 G.2.2.2.2.2.2.1 hin G.2.2.2.2.1 G.2.2.2.2.2.2.2.2.1 hP c he hc f hkN (G.2.2.2.2.2.2.1 _ h) (fun _ h9 => h9) hv hd (k p l e s m args below meth c_ D ca ad A H locs ls G hP hD hS hL)
  · exact va_getN (v := zmv ad (.long (μ.2.1 c f))) G.1 G.2.1 G.2.2.2.2.2.2.1 hin G.2.2.2.2.1 G.2.2.2.2.2.2.2.2.1 hP c he hc f hkN (va_Nw.use rfl (G.2.2.2.2.2.2.2.1 _ h)) (fun _ h9 => h9) hv hd (k p l e s m args below meth c_ D ca ad A H locs ls G hP hD hS hL)
theorem z_getR {idx ci c f z : Nat} {ks : List ZK} (hd : decode mt.2.1 pc = .ok (.getfield idx, 3)) (hf : zF mt.1.cls idx ci f) (hl : lay[c]? = some (.inr (ci, ks))) (hk : ks[f]? = some (2, z)) (k : ZW lay mt d Q (pc + 3) L (.ref z :: st) μ) : ZW lay mt d Q pc L (.ref c :: st) μ := by
  intro p l e s m args below meth c_ D ca ad A H locs ls G hP hD hS hL
  obtain ⟨C, T, N, ty0, hc, hkN, hin, -, -, hlk⟩ := hf
  have he : (zws ad ca μ 0 lay)[c]? = some (ad c, .inr (ci, zfs ad μ c 0 ks)) := zws_at hl
  have hv : (zfs ad μ c 0 ks)[f]? = some (zmv ad (.ref z)) := zfs_at hk
  rcases hlk with h | ⟨host, h⟩
  · exact va_get (v := zmv ad (.ref z)) G.1 G.2.1 G.2.2.2.2.2.2.1 hin G.2.2.2.2.1 G.2.2.2.2.2.2.2.2.1 hP c he hc f hkN (G.2.2.2.2.2.2.1 _ h) (fun _ h9 => h9) hv hd (k p l e s m args below meth c_ D ca ad A H locs ls G hP hD hS hL)
  · exact va_getN (v := zmv ad (.ref z)) G.1 G.2.1 G.2.2.2.2.2.2.1 hin G.2.2.2.2.1 G.2.2.2.2.2.2.2.2.1 hP c he hc f hkN (va_Nw.use rfl (G.2.2.2.2.2.2.2.1 _ h)) (fun _ h9 => h9) hv hd (k p l e s m args below meth c_ D ca ad A H locs ls G hP hD hS hL)
theorem z_getM {idx ci c f z : Nat} {ks : List ZK} (hd : decode mt.2.1 pc = .ok (.getfield idx, 3)) (hf : zF mt.1.cls idx ci f) (hl : lay[c]? = some (.inr (ci, ks))) (hk : ks[f]? = some (3, z)) (k : ZW lay mt d Q (pc + 3) L (.ref (μ.2.2 c f) :: st) μ) : ZW lay mt d Q pc L (.ref c :: st) μ := by
  intro p l e s m args below meth c_ D ca ad A H locs ls G hP hD hS hL
  obtain ⟨C, T, N, ty0, hc, hkN, hin, -, -, hlk⟩ := hf
  have he : (zws ad ca μ 0 lay)[c]? = some (ad c, .inr (ci, zfs ad μ c 0 ks)) := zws_at hl
  have hv : (zfs ad μ c 0 ks)[f]? = some (zmv ad (.ref (μ.2.2 c f))) := zfs_at hk
  rcases hlk with h | ⟨host, h⟩
  · exact va_get (v := zmv ad (.ref (μ.2.2 c f))) G.1 G.2.1 G.2.2.2.2.2.2.1 hin G.2.2.2.2.1 G.2.2.2.2.2.2.2.2.1 hP c he hc f hkN (G.2.2.2.2.2.2.1 _ h) (fun _ h9 => h9) hv hd (k p l e s m args below meth c_ D ca ad A H locs ls G hP hD hS hL)
  · exact va_getN (v := zmv ad (.ref (μ.2.2 c f))) G.1 G.2.1 G.2.2.2.2.2.2.1 hin G.2.2.2.2.1 G.2.2.2.2.2.2.2.2.1 hP c he hc f hkN (va_Nw.use rfl (G.2.2.2.2.2.2.2.1 _ h)) (fun _ h9 => h9) hv hd (k p l e s m args below meth c_ D ca ad A H locs ls G hP hD hS hL)
theorem z_putI {idx ci c f z : Nat} {ks : List ZK} {ty : FieldType} {v : Int32} (hd : decode mt.2.1 pc = .ok (.putfield idx, 3)) (hf : zFp mt.1.cls idx ci f ty) (hl : lay[c]? = some (.inr (ci, ks))) (hk : ks[f]? = some (0, z)) (hty2 : narrow ty (.int v) = .int v) (hfit : fits ty (.int v) = true) (k : ZW lay mt d Q (pc + 3) L st (zI μ c f v)) : ZW lay mt d Q pc L (.int v :: .ref c :: st) μ := by
  intro p l e s m args below meth c_ D ca ad A H locs ls G hP hD hS hL
  obtain ⟨⟨C, T, N, ty0, hc, hkN, hin, hty, hnm, hlk⟩, q, hq, hfin, hpd⟩ := hf
  have hq' : q = (C, T, N) := Option.some.inj (hq.symm.trans hc)
  subst hq'
  have he : (zws ad ca μ 0 lay)[c]? = some (ad c, .inr (ci, zfs ad μ c 0 ks)) := zws_at hl
  have hfl : f < (zfs ad μ c 0 ks).length := by rw [zfs_len]; exact (List.getElem?_eq_some_iff.mp hk).1
  have hw := zws_int (ad := ad) (ca := ca) (μ := μ) (v := v) hl hk
  rcases hlk with h | ⟨host, h⟩
  · refine va_put (v := .int v) G.1 G.2.1 G.2.2.2.2.2.2.1 hin ty0 hty hnm G.2.2.2.2.1 G.2.2.2.2.2.2.2.2.1 hP hD hS c he hc f hkN (G.2.2.2.2.2.2.1 _ h) (fun _ h9 => h9) hfin hpd (hty2) (hfit) hfl hd (fun H1 locs1 hP1 hD1 hS1 => ?_)
    rw [hw] at hP1 hD1
    exact k p l e s m args below meth c_ D ca ad A H1 locs1 ls G hP1 hD1 hS1 hL
  · refine va_putN (v := .int v) G.1 G.2.1 G.2.2.2.2.2.2.1 hin ty0 hty hnm G.2.2.2.2.1 G.2.2.2.2.2.2.2.2.1 hP hD hS c he hc f hkN (va_Nw.use rfl (G.2.2.2.2.2.2.2.1 _ h)) (fun _ h9 => h9) hfin hpd (hty2) (hfit) hfl hd (fun H1 locs1 hP1 hD1 hS1 => ?_)
    rw [hw] at hP1 hD1
    exact k p l e s m args below meth c_ D ca ad A H1 locs1 ls G hP1 hD1 hS1 hL
theorem z_putJ {idx ci c f z : Nat} {ks : List ZK} {ty : FieldType} {v : Int64} (hd : decode mt.2.1 pc = .ok (.putfield idx, 3)) (hf : zFp mt.1.cls idx ci f ty) (hl : lay[c]? = some (.inr (ci, ks))) (hk : ks[f]? = some (1, z)) (hty2 : ty = .long) (k : ZW lay mt d Q (pc + 3) L st (zJ μ c f v)) : ZW lay mt d Q pc L (.long v :: .ref c :: st) μ := by
  intro p l e s m args below meth c_ D ca ad A H locs ls G hP hD hS hL
  obtain ⟨⟨C, T, N, ty0, hc, hkN, hin, hty, hnm, hlk⟩, q, hq, hfin, hpd⟩ := hf
  have hq' : q = (C, T, N) := Option.some.inj (hq.symm.trans hc)
  subst hq'
  have he : (zws ad ca μ 0 lay)[c]? = some (ad c, .inr (ci, zfs ad μ c 0 ks)) := zws_at hl
  have hfl : f < (zfs ad μ c 0 ks).length := by rw [zfs_len]; exact (List.getElem?_eq_some_iff.mp hk).1
  have hw := zws_long (ad := ad) (ca := ca) (μ := μ) (v := v) hl hk
  rcases hlk with h | ⟨host, h⟩
  · refine va_put (v := .long v) G.1 G.2.1 G.2.2.2.2.2.2.1 hin ty0 hty hnm G.2.2.2.2.1 G.2.2.2.2.2.2.2.2.1 hP hD hS c he hc f hkN (G.2.2.2.2.2.2.1 _ h) (fun _ h9 => h9) hfin hpd (by rw [hty2]; rfl) (by rw [hty2]; rfl) hfl hd (fun H1 locs1 hP1 hD1 hS1 => ?_)
    rw [hw] at hP1 hD1
    exact k p l e s m args below meth c_ D ca ad A H1 locs1 ls G hP1 hD1 hS1 hL
  · refine va_putN (v := .long v) G.1 G.2.1 G.2.2.2.2.2.2.1 hin ty0 hty hnm G.2.2.2.2.1 G.2.2.2.2.2.2.2.2.1 hP hD hS c he hc f hkN (va_Nw.use rfl (G.2.2.2.2.2.2.2.1 _ h)) (fun _ h9 => h9) hfin hpd (by rw [hty2]; rfl) (by rw [hty2]; rfl) hfl hd (fun H1 locs1 hP1 hD1 hS1 => ?_)
    rw [hw] at hP1 hD1
    exact k p l e s m args below meth c_ D ca ad A H1 locs1 ls G hP1 hD1 hS1 hL
theorem z_putM {idx ci c f z : Nat} {ks : List ZK} {ty : FieldType} {v : Nat} (hd : decode mt.2.1 pc = .ok (.putfield idx, 3)) (hf : zFp mt.1.cls idx ci f ty) (hl : lay[c]? = some (.inr (ci, ks))) (hk : ks[f]? = some (3, z)) (hty2 : ∃ n, ty = .object n) (k : ZW lay mt d Q (pc + 3) L st (zR μ c f v)) : ZW lay mt d Q pc L (.ref v :: .ref c :: st) μ := by
  intro p l e s m args below meth c_ D ca ad A H locs ls G hP hD hS hL
  obtain ⟨⟨C, T, N, ty0, hc, hkN, hin, hty, hnm, hlk⟩, q, hq, hfin, hpd⟩ := hf
  have hq' : q = (C, T, N) := Option.some.inj (hq.symm.trans hc)
  subst hq'
  have he : (zws ad ca μ 0 lay)[c]? = some (ad c, .inr (ci, zfs ad μ c 0 ks)) := zws_at hl
  have hfl : f < (zfs ad μ c 0 ks).length := by rw [zfs_len]; exact (List.getElem?_eq_some_iff.mp hk).1
  have hw := zws_ref (ad := ad) (ca := ca) (μ := μ) (v := v) hl hk
  rcases hlk with h | ⟨host, h⟩
  · refine va_put (v := .ref (ad v)) G.1 G.2.1 G.2.2.2.2.2.2.1 hin ty0 hty hnm G.2.2.2.2.1 G.2.2.2.2.2.2.2.2.1 hP hD hS c he hc f hkN (G.2.2.2.2.2.2.1 _ h) (fun _ h9 => h9) hfin hpd (by obtain ⟨n, rfl⟩ := hty2; rfl) (by obtain ⟨n, rfl⟩ := hty2; rfl) hfl hd (fun H1 locs1 hP1 hD1 hS1 => ?_)
    rw [hw] at hP1 hD1
    exact k p l e s m args below meth c_ D ca ad A H1 locs1 ls G hP1 hD1 hS1 hL
  · refine va_putN (v := .ref (ad v)) G.1 G.2.1 G.2.2.2.2.2.2.1 hin ty0 hty hnm G.2.2.2.2.1 G.2.2.2.2.2.2.2.2.1 hP hD hS c he hc f hkN (va_Nw.use rfl (G.2.2.2.2.2.2.2.1 _ h)) (fun _ h9 => h9) hfin hpd (by obtain ⟨n, rfl⟩ := hty2; rfl) (by obtain ⟨n, rfl⟩ := hty2; rfl) hfl hd (fun H1 locs1 hP1 hD1 hS1 => ?_)
    rw [hw] at hP1 hD1
    exact k p l e s m args below meth c_ D ca ad A H1 locs1 ls G hP1 hD1 hS1 hL
theorem z_iald {c n j : Nat} {i : Int32} (hd : decode mt.2.1 pc = .ok (.iaload, 1)) (hl : lay[c]? = some (.inl (0, n))) (hi : i = nI j) (hj : j < n) (hn : n < 2 ^ 31) (k : ZW lay mt d Q (pc + 1) L (.int (μ.1 c j) :: st) μ) : ZW lay mt d Q pc L (.int i :: .ref c :: st) μ := by
  intro p l e s m args below meth c_ D ca ad A H locs ls G hP hD hS hL
  subst hi
  have he : (zws ad ca μ 0 lay)[c]? = some (ad c, .inl (ca 0, n, .inl (μ.1 c))) := zws_at hl
  refine va_iald G.1 G.2.1 G.2.2.2.2.2.2.2.2.1 hP c 0 he rfl (vp_in_nI hj hn) hd ?_
  rw [nI_clamp (by omega)]
  exact k p l e s m args below meth c_ D ca ad A H locs ls G hP hD hS hL
theorem z_bald {c n j : Nat} {i : Int32} (hd : decode mt.2.1 pc = .ok (.baload, 1)) (hl : lay[c]? = some (.inl (1, n))) (hi : i = nI j) (hj : j < n) (hn : n < 2 ^ 31) (k : ZW lay mt d Q (pc + 1) L (.int (μ.1 c j) :: st) μ) : ZW lay mt d Q pc L (.int i :: .ref c :: st) μ := by
  intro p l e s m args below meth c_ D ca ad A H locs ls G hP hD hS hL
  subst hi
  have he : (zws ad ca μ 0 lay)[c]? = some (ad c, .inl (ca 1, n, .inl (μ.1 c))) := zws_at hl
  refine va_bald G.1 G.2.1 G.2.2.2.2.2.2.2.2.1 hP c 1 he rfl (vp_in_nI hj hn) hd ?_
  rw [nI_clamp (by omega)]
  exact k p l e s m args below meth c_ D ca ad A H locs ls G hP hD hS hL
theorem z_zald {c n j : Nat} {i : Int32} (hd : decode mt.2.1 pc = .ok (.baload, 1)) (hl : lay[c]? = some (.inl (2, n))) (hi : i = nI j) (hj : j < n) (hn : n < 2 ^ 31) (k : ZW lay mt d Q (pc + 1) L (.int (μ.1 c j) :: st) μ) : ZW lay mt d Q pc L (.int i :: .ref c :: st) μ := by
  intro p l e s m args below meth c_ D ca ad A H locs ls G hP hD hS hL
  subst hi
  have he : (zws ad ca μ 0 lay)[c]? = some (ad c, .inl (ca 2, n, .inl (μ.1 c))) := zws_at hl
  refine va_zald G.1 G.2.1 G.2.2.2.2.2.2.2.2.1 hP c 2 he rfl (vp_in_nI hj hn) hd ?_
  rw [nI_clamp (by omega)]
  exact k p l e s m args below meth c_ D ca ad A H locs ls G hP hD hS hL
theorem z_iast {c n j : Nat} {i x : Int32} (hd : decode mt.2.1 pc = .ok (.iastore, 1)) (hl : lay[c]? = some (.inl (0, n))) (hi : i = nI j) (hj : j < n) (hn : n < 2 ^ 31) (k : ZW lay mt d Q (pc + 1) L st (zI μ c j (x))) : ZW lay mt d Q pc L (.int x :: .int i :: .ref c :: st) μ := by
  intro p l e s m args below meth c_ D ca ad A H locs ls G hP hD hS hL
  subst hi
  have he : (zws ad ca μ 0 lay)[c]? = some (ad c, .inl (ca 0, n, .inl (μ.1 c))) := zws_at hl
  refine va_iast G.1 G.2.1 G.2.2.2.2.2.2.2.2.1 hP hD hS c 0 he rfl (vp_in_nI hj hn) hd (fun H1 locs1 hP1 hD1 hS1 => ?_)
  rw [nI_clamp (by omega), zws_arr hl] at hP1 hD1
  exact k p l e s m args below meth c_ D ca ad A H1 locs1 ls G hP1 hD1 hS1 hL
theorem z_bast {c n j : Nat} {i x : Int32} (hd : decode mt.2.1 pc = .ok (.bastore, 1)) (hl : lay[c]? = some (.inl (1, n))) (hi : i = nI j) (hj : j < n) (hn : n < 2 ^ 31) (k : ZW lay mt d Q (pc + 1) L st (zI μ c j (vp_nar .byte x))) : ZW lay mt d Q pc L (.int x :: .int i :: .ref c :: st) μ := by
  intro p l e s m args below meth c_ D ca ad A H locs ls G hP hD hS hL
  subst hi
  have he : (zws ad ca μ 0 lay)[c]? = some (ad c, .inl (ca 1, n, .inl (μ.1 c))) := zws_at hl
  refine va_bast G.1 G.2.1 G.2.2.2.2.2.2.2.2.1 hP hD hS c 1 he rfl (vp_in_nI hj hn) hd (fun H1 locs1 hP1 hD1 hS1 => ?_)
  rw [nI_clamp (by omega), zws_arr hl] at hP1 hD1
  exact k p l e s m args below meth c_ D ca ad A H1 locs1 ls G hP1 hD1 hS1 hL
theorem z_zast {c n j : Nat} {i x : Int32} (hd : decode mt.2.1 pc = .ok (.bastore, 1)) (hl : lay[c]? = some (.inl (2, n))) (hi : i = nI j) (hj : j < n) (hn : n < 2 ^ 31) (k : ZW lay mt d Q (pc + 1) L st (zI μ c j (vp_nar .boolean x))) : ZW lay mt d Q pc L (.int x :: .int i :: .ref c :: st) μ := by
  intro p l e s m args below meth c_ D ca ad A H locs ls G hP hD hS hL
  subst hi
  have he : (zws ad ca μ 0 lay)[c]? = some (ad c, .inl (ca 2, n, .inl (μ.1 c))) := zws_at hl
  refine va_zast G.1 G.2.1 G.2.2.2.2.2.2.2.2.1 hP hD hS c 2 he rfl (vp_in_nI hj hn) hd (fun H1 locs1 hP1 hD1 hS1 => ?_)
  rw [nI_clamp (by omega), zws_arr hl] at hP1 hD1
  exact k p l e s m args below meth c_ D ca ad A H1 locs1 ls G hP1 hD1 hS1 hL
theorem z_iret {v : Int32} (hd : decode mt.2.1 pc = .ok (.ireturn, 1)) (hr : mt.2.2.2 = some .int) (hq : Q (some (.int v)) μ) : ZW lay mt d Q pc L [.int v] μ := by
  intro p l e s m args below meth c D ca ad A H locs ls G hP hD hS hL
  exact W.iret (v := v) G.1 G.2.1 (G.2.2.1.trans hr) (fun t ht hW => ⟨some (.int v), μ, hq, rfl, by rw [ht]; exact hP, hS.F ht⟩) hS.2.2 hd G.2.2.2.2.2.1
theorem z_zret {v : Int32} (hd : decode mt.2.1 pc = .ok (.ireturn, 1)) (hr : mt.2.2.2 = some .boolean) (hv : narrow .boolean (.int v) = .int v) (hq : Q (some (.int v)) μ) : ZW lay mt d Q pc L [.int v] μ := by
  intro p l e s m args below meth c D ca ad A H locs ls G hP hD hS hL
  exact W.zret (v := v) G.1 G.2.1 (G.2.2.1.trans hr) hv (fun t ht hW => ⟨some (.int v), μ, hq, rfl, by rw [ht]; exact hP, hS.F ht⟩) hS.2.2 hd G.2.2.2.2.2.1
theorem z_lret {v : Int64} (hd : decode mt.2.1 pc = .ok (.lreturn, 1)) (hr : mt.2.2.2 = some .long) (hq : Q (some (.long v)) μ) : ZW lay mt d Q pc L [.long v] μ := by
  intro p l e s m args below meth c D ca ad A H locs ls G hP hD hS hL
  exact W.lret (v := v) G.1 G.2.1 (G.2.2.1.trans hr) (fun t ht hW => ⟨some (.long v), μ, hq, rfl, by rw [ht]; exact hP, hS.F ht⟩) hS.2.2 hd G.2.2.2.2.2.1
theorem z_aret {v : Nat} {n : String} (hd : decode mt.2.1 pc = .ok (.areturn, 1)) (hr : mt.2.2.2 = some (.object n)) (hq : Q (some (.ref v)) μ) : ZW lay mt d Q pc L [.ref v] μ := by
  intro p l e s m args below meth c D ca ad A H locs ls G hP hD hS hL
  exact W.aret (v := .ref (ad v)) G.1 G.2.1 (G.2.2.1.trans hr) (Or.inl ⟨n, rfl⟩) (Or.inr ⟨_, rfl⟩) (fun t ht hW => ⟨some (.ref v), μ, hq, rfl, by rw [ht]; exact hP, hS.F ht⟩) hS.2.2 hd G.2.2.2.2.2.1
theorem z_vret (hd : decode mt.2.1 pc = .ok (.return_, 1)) (hr : mt.2.2.2 = none) (hq : Q none μ) : ZW lay mt d Q pc L [] μ := by
  intro p l e s m args below meth c D ca ad A H locs ls G hP hD hS hL
  exact W.vret G.1 G.2.1 (G.2.2.1.trans hr) (fun t ht hW => ⟨none, μ, hq, rfl, by rw [ht]; exact hP, hS.F ht⟩) hS.2.2 hd G.2.2.2.2.2.1
theorem zcats (ad : Nat → Nat) (st : List Value) : ((st.map (zmv ad)).map fun v => v.category).sum = (st.map fun v => v.category).sum := by
  rw [List.map_map]
  congr 1
  exact List.map_congr_left (fun v _ => zmv_cat ad v)
theorem z_copy {idx c0 c1 n0 n1 : Nat} {n : Nat} {x z0 z1 : Int32} (hd : decode mt.2.1 pc = .ok (.invokestatic idx, 3)) (hlk : Cond.methodLink mt.1.cls idx arraycopyName ∈ ztbl) (hl0 : lay[c0]? = some (.inl (0, n0))) (hl1 : lay[c1]? = some (.inl (0, n1))) (hz0 : z0 = 0) (hz1 : z1 = 0) (hx : x = nI n) (h0 : n ≤ n0) (h1 : n ≤ n1) (hn : n < 2 ^ 31) (hdp : 1 ≤ d) (hst : (st.map fun v => v.category).sum ≤ 8)
    (k : ZW lay mt d Q (pc + 3) L st (zrow μ c1 (va_cpy (μ.1 c0) (μ.1 c1) 0 0 n))) : ZW lay mt d Q pc L (.int x :: .int z1 :: .ref c1 :: .int z0 :: .ref c0 :: st) μ := by
  subst hx; subst hz0; subst hz1
  intro p l e s m args below meth c D ca ad A H locs ls G hP hD hS hL
  have hz := zcats ad st
  have e0 : (zws ad ca μ 0 lay)[c0]? = some (ad c0, .inl (ca 0, n0, .inl (μ.1 c0))) := zws_at hl0
  have e1 : (zws ad ca μ 0 lay)[c1]? = some (ad c1, .inl (ca 0, n1, .inl (μ.1 c1))) := zws_at hl1
  have hcl : (nI n).toNatClampNeg = n := nI_clamp hn
  refine va_copyi G.1 G.2.1 (by rw [hL.1.1]; exact G.2.2.2.1) G.2.2.2.2.1 (G.2.2.2.2.2.2.1 _ hlk) (G.2.2.2.2.2.2.1 _ zm_3_54) (G.2.2.2.2.2.2.1 _ zm_3_53) (G.2.2.2.2.2.2.1 _ zm_1_8) G.2.2.2.2.2.2.2.2.1 hP hD hS c0 c1 0 0 (ty := .int) e0 e1 rfl rfl rfl (by decide) (by decide) (nI_pos hn) (by rw [hcl, show (0 : Int32).toNatClampNeg = 0 by decide]; omega) (by rw [hcl, show (0 : Int32).toNatClampNeg = 0 by decide]; omega) (fun _ _ => rfl) hdp ?_ hd (fun H1 locs1 hP1 hD1 hS1 => ?_)
  · show _ + (nativeFrameWords "java/lang/System" "arraycopy" 5 + 11) ≤ d * 30
    rw [show nativeFrameWords "java/lang/System" "arraycopy" 5 = 7 by decide]
    omega
  · rw [hcl, show (0 : Int32).toNatClampNeg = 0 by decide, zws_row hl1] at hP1 hD1
    exact k p l e s m args below meth c D ca ad A H1 locs1 ls G hP1 hD1 hS1 hL
theorem zgood {y : ZM} (h : Cond.code y.1 y.2.1 y.2.2.1 y.2.2.2 ∈ ztbl) : GoodIn ztbl (.code y.1 y.2.1 y.2.2.1 y.2.2.2 :: ztbl) := by
  intro w hw
  rcases List.mem_cons.mp hw with rfl | hw
  · exact ⟨h, zall_good _ h⟩
  · exact ⟨hw, zall_good _ hw⟩
theorem znest_warm {s U : State} (hW : s.WarmedH U.vm) (h : ∀ w ∈ znest, va_Nw w s) : ∀ w ∈ znest, va_Nw w U := by
  intro w hw
  have hn := List.all_eq_true.mp znest_is w hw
  have h1 := h w hw
  cases w <;> first | exact va_Nw.warmF hW h1 | exact va_Nw.warmM hW h1 | (exact absurd hn (by decide)) | (simp [zisNest] at hn)
theorem znest_same {u U : State} (hv : u.vm = U.vm) (h : ∀ w ∈ znest, va_Nw w u) : ∀ w ∈ znest, va_Nw w U := by
  intro w hw
  have hn := List.all_eq_true.mp znest_is w hw
  have h1 := h w hw
  cases w <;> first | exact va_Nw.same rfl hv h1 | (exact absurd hn (by decide)) | (simp [zisNest] at hn)
theorem zdesc {y : MethodName} {n : Nat} (h : (parseMethodDescriptor y.desc).map (fun d => d.parameters.length) = some n) : ∀ sig, parseMethodDescriptor y.desc = some sig → n = sig.parameters.length := by
  intro sig hs
  rw [hs] at h
  exact (Option.some.inj h).symm
theorem zblind {lay : List ZE} {D : va_G} {ca : Nat → ClassId} {ad : Nat → Nat} {μ : ZMem} {sz : Nat} {av : List Value} : FrameBlind (va_Pc av (fun U => U.heap.size = sz ∧ va_P D vwCl (zws ad ca μ 0 lay) U.heap ∧ va_K D vwCl (ztys ca) U ∧ va_D (fun _ => True) (zws ad ca μ 0 lay) ∧ ∀ w ∈ znest, va_Nw w U)) := by
  intro a U g mk q
  obtain ⟨q0, q1, qP, qK, qD, qN⟩ := q
  exact ⟨q0, q1, qP, va_K.moved (u := U) (U := U.calling g mk a) (Vm.Alike.refl U.vm) qK, qD, znest_same (u := U) (U := U.calling g mk a) rfl qN⟩
/-- a call within the world: the callee's contract, then what follows -/
theorem z_run {y : ZM} {dy : Nat} {Qy : Option Value → ZMem → Prop} {rest : List Value}
    {p : Program} {l : Launch} {e : Env} {s : State} {m : MethodId} {args : Array Value} {below : List Frame} {meth : Method} {c : Code} {D : va_G} {ca : Nat → ClassId} {ad : Nat → Nat} {A : Nat → Prop} {H : Heap} {locs : List Loc} {ls : Array Slot} {st0 : List Value} {a : Array Value}
    (G : zG mt p s m args meth c D ca A) (hD : va_D A (zws ad ca μ 0 lay)) (hS : va_S A s.heap H locs) (hL : zL ad ls mt.2.2.1 L)
    (hr : va_Run p l e (zroom d) s m args below meth c H locs 0 0 0 0 (F0 m pc ls st0) (rest.map (zmv ad)) (zQ lay D ca ad (zA lay ad H.size) Qy a) (zA lay ad H.size))
    (k : ∀ r μ', Qy r μ' → ZW lay mt d Q (pc + 3) L (r.toList ++ rest) μ') : W p l e (zroom d) s m args below meth c H locs 0 0 (MQ below (zQ lay D ca ad A Q) args s 0 0 A) (F0 m pc ls st0) := by
  have hA : ∀ q, zA lay ad H.size q → A q := by
    rintro q (⟨j, hj, rfl⟩ | hq)
    · exact zws_DA hD j hj
    · exact G.2.2.2.2.2.2.2.2.2 q (Nat.le_trans hS.1 hq)
  intro T hT X
  obtain ⟨v, st₀, t, T', Ls, h0, X', hLs, e1, e2, ⟨r, μ', hq, hv, hP1, hz, hk⟩, stp⟩ := hr T hT X
  have hv' : v = r.map (zmv ad) := by cases hv; rfl
  subst hv'
  rw [h0] at hz hk
  obtain ⟨t2, a1, b1⟩ := k r μ' hq p l e s m args below meth c D ca ad A T'.heap (locs ++ Ls) ls G (by rw [e1]; exact hP1) (zws_D hD (zws_DA hD))
    ⟨Nat.le_trans hS.1 (by rw [e1]; exact hz), fun q h1 h2 => by rw [e1, hk q (Nat.lt_of_lt_of_le h1 hS.1) (fun z => h2 (hA q z))]; exact hS.2.1 q h1 h2, fun q hq => by
      rcases List.mem_append.mp hq with h | h
      · exact hS.2.2 q h
      · exact hA _ (hLs q h)⟩ hL T' rfl X'
  refine ⟨t2, stp t2 ?_, b1⟩
  have e5 : (r.toList ++ rest).map (zmv ad) = (r.map (zmv ad)).toList ++ rest.map (zmv ad) := by cases r <;> rfl
  rw [e5] at a1
  exact a1
theorem zroom_le {y : ZM} {dy : Nat} (hdp : dy + 1 ≤ d) (hy : y.2.2.1 ≤ 11) : (zroom dy).frames + 1 ≤ (zroom d).frames ∧ 8 + (y.2.2.1 + 11) + (zroom dy).locals ≤ (zroom d).locals := by
  refine ⟨hdp, ?_⟩
  show 8 + (y.2.2.1 + 11) + dy * 30 ≤ d * 30
  omega
theorem z_callV {y : ZM} {n b ci idx dy : Nat} {ks : List ZK} {As : List Value} {Qy : Option Value → ZMem → Prop} (hd : decode mt.2.1 pc = .ok (.invokevirtual idx, 3)) (hlk : zLk mt.1.cls idx y) (hy : zYv y n) (hl : lay[b]? = some (.inr (ci, ks))) (hc : (vwCl[ci]?).map (fun q => q.1) = some y.1.cls) (hn : As.length = n) (hdp : dy + 1 ≤ d) (hst : (st.map fun v => v.category).sum ≤ 8) (hs : Spec lay y dy (.ref b :: As) μ Qy)
    (k : ∀ r μ', Qy r μ' → ZW lay mt d Q (pc + 3) L (r.toList ++ st) μ') : ZW lay mt d Q pc L (As.reverse ++ .ref b :: st) μ := by
  intro p l e s m args below meth c D ca ad A H locs ls G hP hD hS hL
  obtain ⟨y1, y2, y3, y4, y5, y6, y7⟩ := hy
  have hts := G.2.2.2.2.2.2.1
  have he : (zws ad ca μ 0 lay)[b]? = some (ad b, .inr (ci, zfs ad μ b 0 ks)) := zws_at hl
  obtain ⟨qc, hqc, hcn⟩ := Option.map_eq_some_iff.mp hc
  have hrecv := va_recv G.2.2.2.2.2.2.2.2.1 hP hqc he
  rw [hcn] at hrecv
  have hM := hs l D ca ad H.size
  have hpre : PreV s H y.1.cls (ad b) (va_Pc ((Value.ref b :: As).map (zmv ad)) (fun U => U.heap.size = H.size ∧ va_P D vwCl (zws ad ca μ 0 lay) U.heap ∧ va_K D vwCl (ztys ca) U ∧ va_D (fun _ => True) (zws ad ca μ 0 lay) ∧ ∀ w ∈ znest, va_Nw w U)) (As.map (zmv ad)) :=
    ⟨zblind, hrecv, fun U hU hW => ⟨rfl, by rw [hU], by rw [hU]; exact hP, va_K.moved hW.alike G.2.2.2.2.2.2.2.2.1, hD.weaken (fun _ _ _ _ => trivial), znest_warm hW G.2.2.2.2.2.2.2.1⟩⟩
  have hstk : (As.reverse ++ Value.ref b :: st).map (zmv ad) = (As.map (zmv ad)).reverse ++ Value.ref (ad b) :: st.map (zmv ad) := by
    rw [List.map_append, List.map_reverse]; rfl
  rw [hstk]
  refine z_run (y := y) (dy := dy) (Qy := Qy) (rest := st) (a := (Value.ref (ad b) :: As.map (zmv ad)).toArray) G hD hS hL ?_ k
  rcases hlk with h | ⟨host, h⟩
  · exact va_runV ⟨G.1, G.2.1, G.2.2.2.1, G.2.2.2.2.1, hts⟩ hM ⟨⟨rfl, rfl, (zroom_le hdp y7).1, (zroom_le hdp y7).2, pay_in hts (zgood y1), List.mem_cons_self, hts _ y1, hts _ y2, y5, zdesc y6, hts _ h⟩, hts _ y3, hts _ y4⟩ hpre rfl (by rw [List.length_map]; exact hn) hL.1.1 rfl (by show 2 * 0 + _ ≤ 8; rw [zcats]; omega) hd ⟨Nat.le_refl _, Nat.le_refl _⟩
  · exact va_runVN ⟨G.1, G.2.1, G.2.2.2.1, G.2.2.2.2.1, hts⟩ hM ⟨⟨⟨rfl, rfl, (zroom_le hdp y7).1, (zroom_le hdp y7).2, pay_in hts (zgood y1), List.mem_cons_self⟩, hts _ y1, hts _ y2, y5, zdesc y6, va_Nw.use rfl (G.2.2.2.2.2.2.2.1 _ h)⟩, hts _ y3, hts _ y4⟩ hpre rfl (by rw [List.length_map]; exact hn) hL.1.1 rfl (by show 2 * 0 + _ ≤ 8; rw [zcats]; omega) hd ⟨Nat.le_refl _, Nat.le_refl _⟩
theorem z_callS {y : ZM} {n idx dy : Nat} {As : List Value} {Qy : Option Value → ZMem → Prop} (hd : decode mt.2.1 pc = .ok (.invokestatic idx, 3)) (hlk : zLk mt.1.cls idx y) (hy : zYs y n) (hn : As.length = n) (hdp : dy + 1 ≤ d) (hst : (st.map fun v => v.category).sum ≤ 8) (hs : Spec lay y dy As μ Qy)
    (k : ∀ r μ', Qy r μ' → ZW lay mt d Q (pc + 3) L (r.toList ++ st) μ') : ZW lay mt d Q pc L (As.reverse ++ st) μ := by
  intro p l e s m args below meth c D ca ad A H locs ls G hP hD hS hL
  obtain ⟨y1, y2, y3, y5, y6, y7⟩ := hy
  have hts := G.2.2.2.2.2.2.1
  have hM := hs l D ca ad H.size
  have hpre : PreS s H (va_Pc (As.map (zmv ad)) (fun U => U.heap.size = H.size ∧ va_P D vwCl (zws ad ca μ 0 lay) U.heap ∧ va_K D vwCl (ztys ca) U ∧ va_D (fun _ => True) (zws ad ca μ 0 lay) ∧ ∀ w ∈ znest, va_Nw w U)) (As.map (zmv ad)) :=
    ⟨zblind, fun U hU hW => ⟨rfl, by rw [hU], by rw [hU]; exact hP, va_K.moved hW.alike G.2.2.2.2.2.2.2.2.1, hD.weaken (fun _ _ _ _ => trivial), znest_warm hW G.2.2.2.2.2.2.2.1⟩⟩
  have hstk : (As.reverse ++ st).map (zmv ad) = (As.map (zmv ad)).reverse ++ st.map (zmv ad) := by
    rw [List.map_append, List.map_reverse]
  rw [hstk]
  refine z_run (y := y) (dy := dy) (Qy := Qy) (rest := st) (a := (As.map (zmv ad)).toArray) G hD hS hL ?_ k
  rcases hlk with h | ⟨host, h⟩
  · exact va_runS ⟨G.1, G.2.1, G.2.2.2.1, G.2.2.2.2.1, hts⟩ hM ⟨⟨rfl, rfl, (zroom_le hdp y7).1, (zroom_le hdp y7).2, pay_in hts (zgood y1), List.mem_cons_self, hts _ y1, hts _ y2, y5, zdesc y6, hts _ h⟩, hts _ y3⟩ hpre rfl (by rw [List.length_map]; exact hn) hL.1.1 rfl (by show 2 * 0 + _ ≤ 8; rw [zcats]; omega) hd ⟨Nat.le_refl _, Nat.le_refl _⟩
  · exact va_runSN ⟨G.1, G.2.1, G.2.2.2.1, G.2.2.2.2.1, hts⟩ hM ⟨⟨⟨rfl, rfl, (zroom_le hdp y7).1, (zroom_le hdp y7).2, pay_in hts (zgood y1), List.mem_cons_self⟩, hts _ y1, hts _ y2, y5, zdesc y6, va_Nw.use rfl (G.2.2.2.2.2.2.2.1 _ h)⟩, hts _ y3, trivial⟩ hpre rfl (by rw [List.length_map]; exact hn) hL.1.1 rfl (by show 2 * 0 + _ ≤ 8; rw [zcats]; omega) hd ⟨Nat.le_refl _, Nat.le_refl _⟩
/-- the contract that says the answer and the memory behind it -/
def Sp (lay : List ZE) (mt : ZM) (d : Nat) (as : List Value) (μ : ZMem) (v : Option Value) (μ' : ZMem) : Prop := Spec lay mt d as μ (fun r m => r = v ∧ m = μ')
theorem z_cV0r {y : ZM} {b ci idx dy : Nat} {ks : List ZK} {v : Value} {μ' : ZMem} (hd : decode mt.2.1 pc = .ok (.invokevirtual idx, 3)) (hlk : zLk mt.1.cls idx y) (hy : zYv y 0) (hl : lay[b]? = some (.inr (ci, ks))) (hc : (vwCl[ci]?).map (fun q => q.1) = some y.1.cls) (hdp : dy + 1 ≤ d) (hst : (st.map fun v => v.category).sum ≤ 8) (hs : Sp lay y dy (.ref b :: []) μ (some v) μ')
    (k : ZW lay mt d Q (pc + 3) L (v :: st) μ') : ZW lay mt d Q pc L (.ref b :: st) μ :=
  z_callV (As := []) hd hlk hy hl hc rfl hdp hst hs (fun r m h => by obtain ⟨rfl, rfl⟩ := h; exact k)
theorem z_cS0r {y : ZM} {idx dy : Nat} {v : Value} {μ' : ZMem} (hd : decode mt.2.1 pc = .ok (.invokestatic idx, 3)) (hlk : zLk mt.1.cls idx y) (hy : zYs y 0) (hdp : dy + 1 ≤ d) (hst : (st.map fun v => v.category).sum ≤ 8) (hs : Sp lay y dy [] μ (some v) μ')
    (k : ZW lay mt d Q (pc + 3) L (v :: st) μ') : ZW lay mt d Q pc L (st) μ :=
  z_callS (As := []) hd hlk hy rfl hdp hst hs (fun r m h => by obtain ⟨rfl, rfl⟩ := h; exact k)
theorem z_cV0v {y : ZM} {b ci idx dy : Nat} {ks : List ZK} {μ' : ZMem} (hd : decode mt.2.1 pc = .ok (.invokevirtual idx, 3)) (hlk : zLk mt.1.cls idx y) (hy : zYv y 0) (hl : lay[b]? = some (.inr (ci, ks))) (hc : (vwCl[ci]?).map (fun q => q.1) = some y.1.cls) (hdp : dy + 1 ≤ d) (hst : (st.map fun v => v.category).sum ≤ 8) (hs : Sp lay y dy (.ref b :: []) μ none μ')
    (k : ZW lay mt d Q (pc + 3) L (st) μ') : ZW lay mt d Q pc L (.ref b :: st) μ :=
  z_callV (As := []) hd hlk hy hl hc rfl hdp hst hs (fun r m h => by obtain ⟨rfl, rfl⟩ := h; exact k)
theorem z_cS0v {y : ZM} {idx dy : Nat} {μ' : ZMem} (hd : decode mt.2.1 pc = .ok (.invokestatic idx, 3)) (hlk : zLk mt.1.cls idx y) (hy : zYs y 0) (hdp : dy + 1 ≤ d) (hst : (st.map fun v => v.category).sum ≤ 8) (hs : Sp lay y dy [] μ none μ')
    (k : ZW lay mt d Q (pc + 3) L (st) μ') : ZW lay mt d Q pc L (st) μ :=
  z_callS (As := []) hd hlk hy rfl hdp hst hs (fun r m h => by obtain ⟨rfl, rfl⟩ := h; exact k)
theorem z_cV1r {y : ZM} {b ci idx dy : Nat} {ks : List ZK} {a1 : Value} {v : Value} {μ' : ZMem} (hd : decode mt.2.1 pc = .ok (.invokevirtual idx, 3)) (hlk : zLk mt.1.cls idx y) (hy : zYv y 1) (hl : lay[b]? = some (.inr (ci, ks))) (hc : (vwCl[ci]?).map (fun q => q.1) = some y.1.cls) (hdp : dy + 1 ≤ d) (hst : (st.map fun v => v.category).sum ≤ 8) (hs : Sp lay y dy (.ref b :: [a1]) μ (some v) μ')
    (k : ZW lay mt d Q (pc + 3) L (v :: st) μ') : ZW lay mt d Q pc L (a1 :: .ref b :: st) μ :=
  z_callV (As := [a1]) hd hlk hy hl hc rfl hdp hst hs (fun r m h => by obtain ⟨rfl, rfl⟩ := h; exact k)
theorem z_cS1r {y : ZM} {idx dy : Nat} {a1 : Value} {v : Value} {μ' : ZMem} (hd : decode mt.2.1 pc = .ok (.invokestatic idx, 3)) (hlk : zLk mt.1.cls idx y) (hy : zYs y 1) (hdp : dy + 1 ≤ d) (hst : (st.map fun v => v.category).sum ≤ 8) (hs : Sp lay y dy [a1] μ (some v) μ')
    (k : ZW lay mt d Q (pc + 3) L (v :: st) μ') : ZW lay mt d Q pc L (a1 :: st) μ :=
  z_callS (As := [a1]) hd hlk hy rfl hdp hst hs (fun r m h => by obtain ⟨rfl, rfl⟩ := h; exact k)
theorem z_cV1v {y : ZM} {b ci idx dy : Nat} {ks : List ZK} {a1 : Value} {μ' : ZMem} (hd : decode mt.2.1 pc = .ok (.invokevirtual idx, 3)) (hlk : zLk mt.1.cls idx y) (hy : zYv y 1) (hl : lay[b]? = some (.inr (ci, ks))) (hc : (vwCl[ci]?).map (fun q => q.1) = some y.1.cls) (hdp : dy + 1 ≤ d) (hst : (st.map fun v => v.category).sum ≤ 8) (hs : Sp lay y dy (.ref b :: [a1]) μ none μ')
    (k : ZW lay mt d Q (pc + 3) L (st) μ') : ZW lay mt d Q pc L (a1 :: .ref b :: st) μ :=
  z_callV (As := [a1]) hd hlk hy hl hc rfl hdp hst hs (fun r m h => by obtain ⟨rfl, rfl⟩ := h; exact k)
theorem z_cS1v {y : ZM} {idx dy : Nat} {a1 : Value} {μ' : ZMem} (hd : decode mt.2.1 pc = .ok (.invokestatic idx, 3)) (hlk : zLk mt.1.cls idx y) (hy : zYs y 1) (hdp : dy + 1 ≤ d) (hst : (st.map fun v => v.category).sum ≤ 8) (hs : Sp lay y dy [a1] μ none μ')
    (k : ZW lay mt d Q (pc + 3) L (st) μ') : ZW lay mt d Q pc L (a1 :: st) μ :=
  z_callS (As := [a1]) hd hlk hy rfl hdp hst hs (fun r m h => by obtain ⟨rfl, rfl⟩ := h; exact k)
theorem z_cV2r {y : ZM} {b ci idx dy : Nat} {ks : List ZK} {a1 a2 : Value} {v : Value} {μ' : ZMem} (hd : decode mt.2.1 pc = .ok (.invokevirtual idx, 3)) (hlk : zLk mt.1.cls idx y) (hy : zYv y 2) (hl : lay[b]? = some (.inr (ci, ks))) (hc : (vwCl[ci]?).map (fun q => q.1) = some y.1.cls) (hdp : dy + 1 ≤ d) (hst : (st.map fun v => v.category).sum ≤ 8) (hs : Sp lay y dy (.ref b :: [a1, a2]) μ (some v) μ')
    (k : ZW lay mt d Q (pc + 3) L (v :: st) μ') : ZW lay mt d Q pc L (a2 :: a1 :: .ref b :: st) μ :=
  z_callV (As := [a1, a2]) hd hlk hy hl hc rfl hdp hst hs (fun r m h => by obtain ⟨rfl, rfl⟩ := h; exact k)
theorem z_cS2r {y : ZM} {idx dy : Nat} {a1 a2 : Value} {v : Value} {μ' : ZMem} (hd : decode mt.2.1 pc = .ok (.invokestatic idx, 3)) (hlk : zLk mt.1.cls idx y) (hy : zYs y 2) (hdp : dy + 1 ≤ d) (hst : (st.map fun v => v.category).sum ≤ 8) (hs : Sp lay y dy [a1, a2] μ (some v) μ')
    (k : ZW lay mt d Q (pc + 3) L (v :: st) μ') : ZW lay mt d Q pc L (a2 :: a1 :: st) μ :=
  z_callS (As := [a1, a2]) hd hlk hy rfl hdp hst hs (fun r m h => by obtain ⟨rfl, rfl⟩ := h; exact k)
theorem z_cV2v {y : ZM} {b ci idx dy : Nat} {ks : List ZK} {a1 a2 : Value} {μ' : ZMem} (hd : decode mt.2.1 pc = .ok (.invokevirtual idx, 3)) (hlk : zLk mt.1.cls idx y) (hy : zYv y 2) (hl : lay[b]? = some (.inr (ci, ks))) (hc : (vwCl[ci]?).map (fun q => q.1) = some y.1.cls) (hdp : dy + 1 ≤ d) (hst : (st.map fun v => v.category).sum ≤ 8) (hs : Sp lay y dy (.ref b :: [a1, a2]) μ none μ')
    (k : ZW lay mt d Q (pc + 3) L (st) μ') : ZW lay mt d Q pc L (a2 :: a1 :: .ref b :: st) μ :=
  z_callV (As := [a1, a2]) hd hlk hy hl hc rfl hdp hst hs (fun r m h => by obtain ⟨rfl, rfl⟩ := h; exact k)
theorem z_cS2v {y : ZM} {idx dy : Nat} {a1 a2 : Value} {μ' : ZMem} (hd : decode mt.2.1 pc = .ok (.invokestatic idx, 3)) (hlk : zLk mt.1.cls idx y) (hy : zYs y 2) (hdp : dy + 1 ≤ d) (hst : (st.map fun v => v.category).sum ≤ 8) (hs : Sp lay y dy [a1, a2] μ none μ')
    (k : ZW lay mt d Q (pc + 3) L (st) μ') : ZW lay mt d Q pc L (a2 :: a1 :: st) μ :=
  z_callS (As := [a1, a2]) hd hlk hy rfl hdp hst hs (fun r m h => by obtain ⟨rfl, rfl⟩ := h; exact k)
theorem z_cV3r {y : ZM} {b ci idx dy : Nat} {ks : List ZK} {a1 a2 a3 : Value} {v : Value} {μ' : ZMem} (hd : decode mt.2.1 pc = .ok (.invokevirtual idx, 3)) (hlk : zLk mt.1.cls idx y) (hy : zYv y 3) (hl : lay[b]? = some (.inr (ci, ks))) (hc : (vwCl[ci]?).map (fun q => q.1) = some y.1.cls) (hdp : dy + 1 ≤ d) (hst : (st.map fun v => v.category).sum ≤ 8) (hs : Sp lay y dy (.ref b :: [a1, a2, a3]) μ (some v) μ')
    (k : ZW lay mt d Q (pc + 3) L (v :: st) μ') : ZW lay mt d Q pc L (a3 :: a2 :: a1 :: .ref b :: st) μ :=
  z_callV (As := [a1, a2, a3]) hd hlk hy hl hc rfl hdp hst hs (fun r m h => by obtain ⟨rfl, rfl⟩ := h; exact k)
theorem z_cS3r {y : ZM} {idx dy : Nat} {a1 a2 a3 : Value} {v : Value} {μ' : ZMem} (hd : decode mt.2.1 pc = .ok (.invokestatic idx, 3)) (hlk : zLk mt.1.cls idx y) (hy : zYs y 3) (hdp : dy + 1 ≤ d) (hst : (st.map fun v => v.category).sum ≤ 8) (hs : Sp lay y dy [a1, a2, a3] μ (some v) μ')
    (k : ZW lay mt d Q (pc + 3) L (v :: st) μ') : ZW lay mt d Q pc L (a3 :: a2 :: a1 :: st) μ :=
  z_callS (As := [a1, a2, a3]) hd hlk hy rfl hdp hst hs (fun r m h => by obtain ⟨rfl, rfl⟩ := h; exact k)
theorem z_cV3v {y : ZM} {b ci idx dy : Nat} {ks : List ZK} {a1 a2 a3 : Value} {μ' : ZMem} (hd : decode mt.2.1 pc = .ok (.invokevirtual idx, 3)) (hlk : zLk mt.1.cls idx y) (hy : zYv y 3) (hl : lay[b]? = some (.inr (ci, ks))) (hc : (vwCl[ci]?).map (fun q => q.1) = some y.1.cls) (hdp : dy + 1 ≤ d) (hst : (st.map fun v => v.category).sum ≤ 8) (hs : Sp lay y dy (.ref b :: [a1, a2, a3]) μ none μ')
    (k : ZW lay mt d Q (pc + 3) L (st) μ') : ZW lay mt d Q pc L (a3 :: a2 :: a1 :: .ref b :: st) μ :=
  z_callV (As := [a1, a2, a3]) hd hlk hy hl hc rfl hdp hst hs (fun r m h => by obtain ⟨rfl, rfl⟩ := h; exact k)
theorem z_cS3v {y : ZM} {idx dy : Nat} {a1 a2 a3 : Value} {μ' : ZMem} (hd : decode mt.2.1 pc = .ok (.invokestatic idx, 3)) (hlk : zLk mt.1.cls idx y) (hy : zYs y 3) (hdp : dy + 1 ≤ d) (hst : (st.map fun v => v.category).sum ≤ 8) (hs : Sp lay y dy [a1, a2, a3] μ none μ')
    (k : ZW lay mt d Q (pc + 3) L (st) μ') : ZW lay mt d Q pc L (a3 :: a2 :: a1 :: st) μ :=
  z_callS (As := [a1, a2, a3]) hd hlk hy rfl hdp hst hs (fun r m h => by obtain ⟨rfl, rfl⟩ := h; exact k)
end ZR
/-- a loop, from its end back -/
theorem zdown {P : Nat → Prop} (n : Nat) (he : P n) (hs : ∀ k, k < n → P (k + 1) → P k) : ∀ k, k ≤ n → P k := by
  intro k hk
  obtain ⟨j, rfl⟩ : ∃ j, n = k + j := ⟨n - k, by omega⟩
  induction j generalizing k with
  | zero => exact he
  | succ j ih => exact hs k (by omega) (ih (k + 1) (by rw [show k + 1 + j = k + (j + 1) by omega]; exact he) (fun i hi h => hs i (by omega) h) (by omega))

/-! ===== the law: what each of its calls comes to ===== -/
def mL : ZM := (⟨"AnswerSquareLaw", "law", "([I)Z"⟩, code, 4, ret)
theorem lwin {i L : Nat} (hi : i + 4 ≤ L) (hL : L ≤ 256) {j : Nat} (hj : j < 4) {x : Int32} (hx : x = nI j) : vp_in (nI i + x) L := by
  subst hx
  rw [nI_add]
  intro q
  rcases q with q | q
  · exact nI_pos (by omega) q
  · rw [nI_clamp (by omega)] at q; omega
theorem lg_cmp_self (v : Int64) : lg_cmp v v = 0 := by simp [lg_cmp, Int64.lt_irrefl]
section LWO
variable {p : Program} {l : Launch} {e : Env} {s : State} {m : MethodId} {args : Array Value} {below : List Frame} {meth : Method} {c : Code} {D : va_G} {ca : Nat → ClassId} {A : Nat → Prop} {H : Heap} {locs : List Loc} {Q : State → Prop} {ls : Array Slot} {ad ad2 : Nat → Nat} {μ ν : ZMem} {b L i : Nat} {xs : Nat → Int32}
theorem lw_type (X : cX mL p s m args meth c D ca A (zws ad ca μ 0 layC ++ zws ad2 ca ν 0 layM) H locs) (h : R μ ν) (hl : lv_has ls 4 [(3, .int (nI i)), (2, .ref (ad2 0)), (1, .ref (ad 0)), (0, .ref b)]) (hi : i + 4 ≤ L) (hL : L ≤ 256) (hX : va_X b L xs s s.heap) (hbl : b < s.heap.size) (hbA : ¬ A b)
    (next : ∀ (μ' ν' : ZMem) (H1 : Heap) (locs1 : List Loc), cX mL p s m args meth c D ca A (zws ad ca μ' 0 layC ++ zws ad2 ca ν' 0 layM) H1 locs1 → R μ' ν' → W p l e room_1 s m args below meth c H1 locs1 49 2105 Q (F0 m 744 ls [])) : W p l e room_1 s m args below meth c H locs 49 2105 Q (F0 m 148 ls []) := by
  obtain ⟨v, PC, PM, hC, hM, hR⟩ := e_type h (xs (nI i + 1).toNatClampNeg)
  refine lv_aload_n X.1.1 X.1.2.1 dL_law_148 rfl (lv_at hl 2 rfl) ?_
  refine lv_aload_n X.1.1 X.1.2.1 dL_law_149 rfl (lv_at hl 3 rfl) ?_
  refine lv_iload_n X.1.1 X.1.2.1 dL_law_150 rfl (lv_at hl 0 rfl) ?_
  refine lv_iconst (v := 1) X.1.1 X.1.2.1 dL_law_151 rfl ?_
  refine lv_iadd X.1.1 X.1.2.1 dL_law_152 ?_
  refine va_sld X.1.1 X.1.2.1 hX hbl hbA X.2.2.2 (lwin hi hL (j := 1) (by decide) rfl) dL_law_153 ?_
  refine W.eq (g2 := F0 m 154 ls ((([.int (xs (nI i + 1).toNatClampNeg)] : List Value).map (zmv ad)).reverse ++ .ref (ad 0) :: [])) rfl ?_
  refine c_callZ (wa := []) (wb := zws ad2 ca ν 0 layM) (lay := layC) (ad := ad) (μ := μ) (dy := 1) X dL_law_154 zl_L_13 zy_X3_type rfl rfl rfl (by decide) (by decide) (Nat.le_of_ble_eq_true rfl) hl.1 ⟨by decide, by decide⟩ hC (fun r μ1 H locs hr X => ?_)
  obtain ⟨rfl, hpc⟩ := hr
  replace X : cX mL p s m args meth c D ca A (zws ad ca μ1 0 layC ++ (zws ad2 ca ν 0 layM ++ [])) H locs := by rw [List.append_nil]; exact X
  refine lv_aload_n X.1.1 X.1.2.1 dL_law_157 rfl (lv_at hl 1 rfl) ?_
  refine lv_aload_n X.1.1 X.1.2.1 dL_law_158 rfl (lv_at hl 3 rfl) ?_
  refine lv_iload_n X.1.1 X.1.2.1 dL_law_159 rfl (lv_at hl 0 rfl) ?_
  refine lv_iconst (v := 1) X.1.1 X.1.2.1 dL_law_160 rfl ?_
  refine lv_iadd X.1.1 X.1.2.1 dL_law_161 ?_
  refine va_sld X.1.1 X.1.2.1 hX hbl hbA X.2.2.2 (lwin hi hL (j := 1) (by decide) rfl) dL_law_162 ?_
  refine W.eq (g2 := F0 m 163 ls ((([.int (xs (nI i + 1).toNatClampNeg)] : List Value).map (zmv ad2)).reverse ++ .ref (ad2 0) :: [.int v])) rfl ?_
  refine c_callZ (wa := zws ad ca μ1 0 layC) (wb := []) (lay := layM) (ad := ad2) (μ := ν) (dy := 1) X dL_law_163 zl_L_17 zy_X4_type rfl rfl rfl (by decide) (by decide) (Nat.le_of_ble_eq_true rfl) hl.1 ⟨by decide, by decide⟩ hM (fun r ν1 H locs hr X => ?_)
  obtain ⟨rfl, hpm⟩ := hr
  rw [List.append_nil] at X
  exact lv_icmp_eq (x := v) (y := v) X.1.1 X.1.2.1 dL_law_166 (tgt := 744) (by decide) (fun _ => next _ _ _ _ X (hR _ _ hpc hpm)) (fun q => absurd rfl q)
theorem lw_clear (X : cX mL p s m args meth c D ca A (zws ad ca μ 0 layC ++ zws ad2 ca ν 0 layM) H locs) (h : R μ ν) (hl : lv_has ls 4 [(3, .int (nI i)), (2, .ref (ad2 0)), (1, .ref (ad 0)), (0, .ref b)]) (hi : i + 4 ≤ L) (hL : L ≤ 256) (hX : va_X b L xs s s.heap) (hbl : b < s.heap.size) (hbA : ¬ A b)
    (next : ∀ (μ' ν' : ZMem) (H1 : Heap) (locs1 : List Loc), cX mL p s m args meth c D ca A (zws ad ca μ' 0 layC ++ zws ad2 ca ν' 0 layM) H1 locs1 → R μ' ν' → W p l e room_1 s m args below meth c H1 locs1 49 2105 Q (F0 m 744 ls [])) : W p l e room_1 s m args below meth c H locs 49 2105 Q (F0 m 171 ls []) := by
  obtain ⟨v, PC, PM, hC, hM, hR⟩ := e_clear h 
  refine lv_aload_n X.1.1 X.1.2.1 dL_law_171 rfl (lv_at hl 2 rfl) ?_
  refine W.eq (g2 := F0 m 172 ls ((([] : List Value).map (zmv ad)).reverse ++ .ref (ad 0) :: [])) rfl ?_
  refine c_callZ (wa := []) (wb := zws ad2 ca ν 0 layM) (lay := layC) (ad := ad) (μ := μ) (dy := 0) X dL_law_172 zl_L_18 zy_X3_clear rfl rfl rfl (by decide) (by decide) (Nat.le_of_ble_eq_true rfl) hl.1 ⟨by decide, by decide⟩ hC (fun r μ1 H locs hr X => ?_)
  obtain ⟨rfl, hpc⟩ := hr
  replace X : cX mL p s m args meth c D ca A (zws ad ca μ1 0 layC ++ (zws ad2 ca ν 0 layM ++ [])) H locs := by rw [List.append_nil]; exact X
  refine lv_aload_n X.1.1 X.1.2.1 dL_law_175 rfl (lv_at hl 1 rfl) ?_
  refine W.eq (g2 := F0 m 176 ls ((([] : List Value).map (zmv ad2)).reverse ++ .ref (ad2 0) :: [.int v])) rfl ?_
  refine c_callZ (wa := zws ad ca μ1 0 layC) (wb := []) (lay := layM) (ad := ad2) (μ := ν) (dy := 0) X dL_law_176 zl_L_22 zy_X4_clear rfl rfl rfl (by decide) (by decide) (Nat.le_of_ble_eq_true rfl) hl.1 ⟨by decide, by decide⟩ hM (fun r ν1 H locs hr X => ?_)
  obtain ⟨rfl, hpm⟩ := hr
  rw [List.append_nil] at X
  exact lv_icmp_eq (x := v) (y := v) X.1.1 X.1.2.1 dL_law_179 (tgt := 744) (by decide) (fun _ => next _ _ _ _ X (hR _ _ hpc hpm)) (fun q => absurd rfl q)
theorem lw_duchy (X : cX mL p s m args meth c D ca A (zws ad ca μ 0 layC ++ zws ad2 ca ν 0 layM) H locs) (h : R μ ν) (hl : lv_has ls 4 [(3, .int (nI i)), (2, .ref (ad2 0)), (1, .ref (ad 0)), (0, .ref b)]) (hi : i + 4 ≤ L) (hL : L ≤ 256) (hX : va_X b L xs s s.heap) (hbl : b < s.heap.size) (hbA : ¬ A b)
    (next : ∀ (μ' ν' : ZMem) (H1 : Heap) (locs1 : List Loc), cX mL p s m args meth c D ca A (zws ad ca μ' 0 layC ++ zws ad2 ca ν' 0 layM) H1 locs1 → R μ' ν' → W p l e room_1 s m args below meth c H1 locs1 49 2105 Q (F0 m 744 ls [])) : W p l e room_1 s m args below meth c H locs 49 2105 Q (F0 m 184 ls []) := by
  obtain ⟨v, PC, PM, hC, hM, hR⟩ := e_duchy h 
  refine lv_aload_n X.1.1 X.1.2.1 dL_law_184 rfl (lv_at hl 2 rfl) ?_
  refine W.eq (g2 := F0 m 185 ls ((([] : List Value).map (zmv ad)).reverse ++ .ref (ad 0) :: [])) rfl ?_
  refine c_callZ (wa := []) (wb := zws ad2 ca ν 0 layM) (lay := layC) (ad := ad) (μ := μ) (dy := 6) X dL_law_185 zl_L_23 zy_X3_duchy rfl rfl rfl (by decide) (by decide) (Nat.le_of_ble_eq_true rfl) hl.1 ⟨by decide, by decide⟩ hC (fun r μ1 H locs hr X => ?_)
  obtain ⟨rfl, hpc⟩ := hr
  replace X : cX mL p s m args meth c D ca A (zws ad ca μ1 0 layC ++ (zws ad2 ca ν 0 layM ++ [])) H locs := by rw [List.append_nil]; exact X
  refine lv_aload_n X.1.1 X.1.2.1 dL_law_188 rfl (lv_at hl 1 rfl) ?_
  refine W.eq (g2 := F0 m 189 ls ((([] : List Value).map (zmv ad2)).reverse ++ .ref (ad2 0) :: [.int v])) rfl ?_
  refine c_callZ (wa := zws ad ca μ1 0 layC) (wb := []) (lay := layM) (ad := ad2) (μ := ν) (dy := 5) X dL_law_189 zl_L_26 zy_X4_duchy rfl rfl rfl (by decide) (by decide) (Nat.le_of_ble_eq_true rfl) hl.1 ⟨by decide, by decide⟩ hM (fun r ν1 H locs hr X => ?_)
  obtain ⟨rfl, hpm⟩ := hr
  rw [List.append_nil] at X
  exact lv_icmp_eq (x := v) (y := v) X.1.1 X.1.2.1 dL_law_192 (tgt := 744) (by decide) (fun _ => next _ _ _ _ X (hR _ _ hpc hpm)) (fun q => absurd rfl q)
theorem lw_saying (X : cX mL p s m args meth c D ca A (zws ad ca μ 0 layC ++ zws ad2 ca ν 0 layM) H locs) (h : R μ ν) (hl : lv_has ls 4 [(3, .int (nI i)), (2, .ref (ad2 0)), (1, .ref (ad 0)), (0, .ref b)]) (hi : i + 4 ≤ L) (hL : L ≤ 256) (hX : va_X b L xs s s.heap) (hbl : b < s.heap.size) (hbA : ¬ A b)
    (next : ∀ (μ' ν' : ZMem) (H1 : Heap) (locs1 : List Loc), cX mL p s m args meth c D ca A (zws ad ca μ' 0 layC ++ zws ad2 ca ν' 0 layM) H1 locs1 → R μ' ν' → W p l e room_1 s m args below meth c H1 locs1 49 2105 Q (F0 m 744 ls [])) : W p l e room_1 s m args below meth c H locs 49 2105 Q (F0 m 197 ls []) := by
  obtain ⟨v, PC, PM, hC, hM, hR⟩ := e_saying h (xs (nI i + 1).toNatClampNeg) (xs (nI i + 2).toNatClampNeg)
  refine lv_aload_n X.1.1 X.1.2.1 dL_law_197 rfl (lv_at hl 2 rfl) ?_
  refine lv_aload_n X.1.1 X.1.2.1 dL_law_198 rfl (lv_at hl 3 rfl) ?_
  refine lv_iload_n X.1.1 X.1.2.1 dL_law_199 rfl (lv_at hl 0 rfl) ?_
  refine lv_iconst (v := 1) X.1.1 X.1.2.1 dL_law_200 rfl ?_
  refine lv_iadd X.1.1 X.1.2.1 dL_law_201 ?_
  refine va_sld X.1.1 X.1.2.1 hX hbl hbA X.2.2.2 (lwin hi hL (j := 1) (by decide) rfl) dL_law_202 ?_
  refine lv_aload_n X.1.1 X.1.2.1 dL_law_203 rfl (lv_at hl 3 rfl) ?_
  refine lv_iload_n X.1.1 X.1.2.1 dL_law_204 rfl (lv_at hl 0 rfl) ?_
  refine lv_iconst (v := 2) X.1.1 X.1.2.1 dL_law_205 rfl ?_
  refine lv_iadd X.1.1 X.1.2.1 dL_law_206 ?_
  refine va_sld X.1.1 X.1.2.1 hX hbl hbA X.2.2.2 (lwin hi hL (j := 2) (by decide) rfl) dL_law_207 ?_
  refine W.eq (g2 := F0 m 208 ls ((([.int (xs (nI i + 1).toNatClampNeg), .int (xs (nI i + 2).toNatClampNeg)] : List Value).map (zmv ad)).reverse ++ .ref (ad 0) :: [])) rfl ?_
  refine c_callZ (wa := []) (wb := zws ad2 ca ν 0 layM) (lay := layC) (ad := ad) (μ := μ) (dy := 1) X dL_law_208 zl_L_27 zy_X3_saying rfl rfl rfl (by decide) (by decide) (Nat.le_of_ble_eq_true rfl) hl.1 ⟨by decide, by decide⟩ hC (fun r μ1 H locs hr X => ?_)
  obtain ⟨rfl, hpc⟩ := hr
  replace X : cX mL p s m args meth c D ca A (zws ad ca μ1 0 layC ++ (zws ad2 ca ν 0 layM ++ [])) H locs := by rw [List.append_nil]; exact X
  refine lv_aload_n X.1.1 X.1.2.1 dL_law_211 rfl (lv_at hl 1 rfl) ?_
  refine lv_aload_n X.1.1 X.1.2.1 dL_law_212 rfl (lv_at hl 3 rfl) ?_
  refine lv_iload_n X.1.1 X.1.2.1 dL_law_213 rfl (lv_at hl 0 rfl) ?_
  refine lv_iconst (v := 1) X.1.1 X.1.2.1 dL_law_214 rfl ?_
  refine lv_iadd X.1.1 X.1.2.1 dL_law_215 ?_
  refine va_sld X.1.1 X.1.2.1 hX hbl hbA X.2.2.2 (lwin hi hL (j := 1) (by decide) rfl) dL_law_216 ?_
  refine lv_aload_n X.1.1 X.1.2.1 dL_law_217 rfl (lv_at hl 3 rfl) ?_
  refine lv_iload_n X.1.1 X.1.2.1 dL_law_218 rfl (lv_at hl 0 rfl) ?_
  refine lv_iconst (v := 2) X.1.1 X.1.2.1 dL_law_219 rfl ?_
  refine lv_iadd X.1.1 X.1.2.1 dL_law_220 ?_
  refine va_sld X.1.1 X.1.2.1 hX hbl hbA X.2.2.2 (lwin hi hL (j := 2) (by decide) rfl) dL_law_221 ?_
  refine W.eq (g2 := F0 m 222 ls ((([.int (xs (nI i + 1).toNatClampNeg), .int (xs (nI i + 2).toNatClampNeg)] : List Value).map (zmv ad2)).reverse ++ .ref (ad2 0) :: [.int v])) rfl ?_
  refine c_callZ (wa := zws ad ca μ1 0 layC) (wb := []) (lay := layM) (ad := ad2) (μ := ν) (dy := 2) X dL_law_222 zl_L_31 zy_X4_saying rfl rfl rfl (by decide) (by decide) (Nat.le_of_ble_eq_true rfl) hl.1 ⟨by decide, by decide⟩ hM (fun r ν1 H locs hr X => ?_)
  obtain ⟨rfl, hpm⟩ := hr
  rw [List.append_nil] at X
  exact lv_icmp_eq (x := v) (y := v) X.1.1 X.1.2.1 dL_law_225 (tgt := 744) (by decide) (fun _ => next _ _ _ _ X (hR _ _ hpc hpm)) (fun q => absurd rfl q)
theorem lw_person (X : cX mL p s m args meth c D ca A (zws ad ca μ 0 layC ++ zws ad2 ca ν 0 layM) H locs) (h : R μ ν) (hl : lv_has ls 4 [(3, .int (nI i)), (2, .ref (ad2 0)), (1, .ref (ad 0)), (0, .ref b)]) (hi : i + 4 ≤ L) (hL : L ≤ 256) (hX : va_X b L xs s s.heap) (hbl : b < s.heap.size) (hbA : ¬ A b)
    (next : ∀ (μ' ν' : ZMem) (H1 : Heap) (locs1 : List Loc), cX mL p s m args meth c D ca A (zws ad ca μ' 0 layC ++ zws ad2 ca ν' 0 layM) H1 locs1 → R μ' ν' → W p l e room_1 s m args below meth c H1 locs1 49 2105 Q (F0 m 744 ls [])) : W p l e room_1 s m args below meth c H locs 49 2105 Q (F0 m 230 ls []) := by
  obtain ⟨v, PC, PM, hC, hM, hR⟩ := e_person h (xs (nI i + 1).toNatClampNeg) (xs (nI i + 2).toNatClampNeg)
  refine lv_aload_n X.1.1 X.1.2.1 dL_law_230 rfl (lv_at hl 2 rfl) ?_
  refine lv_aload_n X.1.1 X.1.2.1 dL_law_231 rfl (lv_at hl 3 rfl) ?_
  refine lv_iload_n X.1.1 X.1.2.1 dL_law_232 rfl (lv_at hl 0 rfl) ?_
  refine lv_iconst (v := 1) X.1.1 X.1.2.1 dL_law_233 rfl ?_
  refine lv_iadd X.1.1 X.1.2.1 dL_law_234 ?_
  refine va_sld X.1.1 X.1.2.1 hX hbl hbA X.2.2.2 (lwin hi hL (j := 1) (by decide) rfl) dL_law_235 ?_
  refine lv_aload_n X.1.1 X.1.2.1 dL_law_236 rfl (lv_at hl 3 rfl) ?_
  refine lv_iload_n X.1.1 X.1.2.1 dL_law_237 rfl (lv_at hl 0 rfl) ?_
  refine lv_iconst (v := 2) X.1.1 X.1.2.1 dL_law_238 rfl ?_
  refine lv_iadd X.1.1 X.1.2.1 dL_law_239 ?_
  refine va_sld X.1.1 X.1.2.1 hX hbl hbA X.2.2.2 (lwin hi hL (j := 2) (by decide) rfl) dL_law_240 ?_
  refine W.eq (g2 := F0 m 241 ls ((([.int (xs (nI i + 1).toNatClampNeg), .int (xs (nI i + 2).toNatClampNeg)] : List Value).map (zmv ad)).reverse ++ .ref (ad 0) :: [])) rfl ?_
  refine c_callZ (wa := []) (wb := zws ad2 ca ν 0 layM) (lay := layC) (ad := ad) (μ := μ) (dy := 4) X dL_law_241 zl_L_32 zy_X3_person rfl rfl rfl (by decide) (by decide) (Nat.le_of_ble_eq_true rfl) hl.1 ⟨by decide, by decide⟩ hC (fun r μ1 H locs hr X => ?_)
  obtain ⟨rfl, hpc⟩ := hr
  replace X : cX mL p s m args meth c D ca A (zws ad ca μ1 0 layC ++ (zws ad2 ca ν 0 layM ++ [])) H locs := by rw [List.append_nil]; exact X
  refine lv_aload_n X.1.1 X.1.2.1 dL_law_244 rfl (lv_at hl 1 rfl) ?_
  refine lv_aload_n X.1.1 X.1.2.1 dL_law_245 rfl (lv_at hl 3 rfl) ?_
  refine lv_iload_n X.1.1 X.1.2.1 dL_law_246 rfl (lv_at hl 0 rfl) ?_
  refine lv_iconst (v := 1) X.1.1 X.1.2.1 dL_law_247 rfl ?_
  refine lv_iadd X.1.1 X.1.2.1 dL_law_248 ?_
  refine va_sld X.1.1 X.1.2.1 hX hbl hbA X.2.2.2 (lwin hi hL (j := 1) (by decide) rfl) dL_law_249 ?_
  refine lv_aload_n X.1.1 X.1.2.1 dL_law_250 rfl (lv_at hl 3 rfl) ?_
  refine lv_iload_n X.1.1 X.1.2.1 dL_law_251 rfl (lv_at hl 0 rfl) ?_
  refine lv_iconst (v := 2) X.1.1 X.1.2.1 dL_law_252 rfl ?_
  refine lv_iadd X.1.1 X.1.2.1 dL_law_253 ?_
  refine va_sld X.1.1 X.1.2.1 hX hbl hbA X.2.2.2 (lwin hi hL (j := 2) (by decide) rfl) dL_law_254 ?_
  refine W.eq (g2 := F0 m 255 ls ((([.int (xs (nI i + 1).toNatClampNeg), .int (xs (nI i + 2).toNatClampNeg)] : List Value).map (zmv ad2)).reverse ++ .ref (ad2 0) :: [.int v])) rfl ?_
  refine c_callZ (wa := zws ad ca μ1 0 layC) (wb := []) (lay := layM) (ad := ad2) (μ := ν) (dy := 2) X dL_law_255 zl_L_35 zy_X4_person rfl rfl rfl (by decide) (by decide) (Nat.le_of_ble_eq_true rfl) hl.1 ⟨by decide, by decide⟩ hM (fun r ν1 H locs hr X => ?_)
  obtain ⟨rfl, hpm⟩ := hr
  rw [List.append_nil] at X
  exact lv_icmp_eq (x := v) (y := v) X.1.1 X.1.2.1 dL_law_258 (tgt := 744) (by decide) (fun _ => next _ _ _ _ X (hR _ _ hpc hpm)) (fun q => absurd rfl q)
theorem lw_talk (X : cX mL p s m args meth c D ca A (zws ad ca μ 0 layC ++ zws ad2 ca ν 0 layM) H locs) (h : R μ ν) (hl : lv_has ls 4 [(3, .int (nI i)), (2, .ref (ad2 0)), (1, .ref (ad 0)), (0, .ref b)]) (hi : i + 4 ≤ L) (hL : L ≤ 256) (hX : va_X b L xs s s.heap) (hbl : b < s.heap.size) (hbA : ¬ A b)
    (next : ∀ (μ' ν' : ZMem) (H1 : Heap) (locs1 : List Loc), cX mL p s m args meth c D ca A (zws ad ca μ' 0 layC ++ zws ad2 ca ν' 0 layM) H1 locs1 → R μ' ν' → W p l e room_1 s m args below meth c H1 locs1 49 2105 Q (F0 m 744 ls [])) : W p l e room_1 s m args below meth c H locs 49 2105 Q (F0 m 263 ls []) := by
  obtain ⟨v, PC, PM, hC, hM, hR⟩ := e_talk h (xs (nI i + 1).toNatClampNeg) (xs (nI i + 2).toNatClampNeg)
  refine lv_aload_n X.1.1 X.1.2.1 dL_law_263 rfl (lv_at hl 2 rfl) ?_
  refine lv_aload_n X.1.1 X.1.2.1 dL_law_264 rfl (lv_at hl 3 rfl) ?_
  refine lv_iload_n X.1.1 X.1.2.1 dL_law_265 rfl (lv_at hl 0 rfl) ?_
  refine lv_iconst (v := 1) X.1.1 X.1.2.1 dL_law_266 rfl ?_
  refine lv_iadd X.1.1 X.1.2.1 dL_law_267 ?_
  refine va_sld X.1.1 X.1.2.1 hX hbl hbA X.2.2.2 (lwin hi hL (j := 1) (by decide) rfl) dL_law_268 ?_
  refine lv_aload_n X.1.1 X.1.2.1 dL_law_269 rfl (lv_at hl 3 rfl) ?_
  refine lv_iload_n X.1.1 X.1.2.1 dL_law_270 rfl (lv_at hl 0 rfl) ?_
  refine lv_iconst (v := 2) X.1.1 X.1.2.1 dL_law_271 rfl ?_
  refine lv_iadd X.1.1 X.1.2.1 dL_law_272 ?_
  refine va_sld X.1.1 X.1.2.1 hX hbl hbA X.2.2.2 (lwin hi hL (j := 2) (by decide) rfl) dL_law_273 ?_
  refine W.eq (g2 := F0 m 274 ls ((([.int (xs (nI i + 1).toNatClampNeg), .int (xs (nI i + 2).toNatClampNeg)] : List Value).map (zmv ad)).reverse ++ .ref (ad 0) :: [])) rfl ?_
  refine c_callZ (wa := []) (wb := zws ad2 ca ν 0 layM) (lay := layC) (ad := ad) (μ := μ) (dy := 2) X dL_law_274 zl_L_36 zy_X3_talk rfl rfl rfl (by decide) (by decide) (Nat.le_of_ble_eq_true rfl) hl.1 ⟨by decide, by decide⟩ hC (fun r μ1 H locs hr X => ?_)
  obtain ⟨rfl, hpc⟩ := hr
  replace X : cX mL p s m args meth c D ca A (zws ad ca μ1 0 layC ++ (zws ad2 ca ν 0 layM ++ [])) H locs := by rw [List.append_nil]; exact X
  refine lv_aload_n X.1.1 X.1.2.1 dL_law_277 rfl (lv_at hl 1 rfl) ?_
  refine lv_aload_n X.1.1 X.1.2.1 dL_law_278 rfl (lv_at hl 3 rfl) ?_
  refine lv_iload_n X.1.1 X.1.2.1 dL_law_279 rfl (lv_at hl 0 rfl) ?_
  refine lv_iconst (v := 1) X.1.1 X.1.2.1 dL_law_280 rfl ?_
  refine lv_iadd X.1.1 X.1.2.1 dL_law_281 ?_
  refine va_sld X.1.1 X.1.2.1 hX hbl hbA X.2.2.2 (lwin hi hL (j := 1) (by decide) rfl) dL_law_282 ?_
  refine lv_aload_n X.1.1 X.1.2.1 dL_law_283 rfl (lv_at hl 3 rfl) ?_
  refine lv_iload_n X.1.1 X.1.2.1 dL_law_284 rfl (lv_at hl 0 rfl) ?_
  refine lv_iconst (v := 2) X.1.1 X.1.2.1 dL_law_285 rfl ?_
  refine lv_iadd X.1.1 X.1.2.1 dL_law_286 ?_
  refine va_sld X.1.1 X.1.2.1 hX hbl hbA X.2.2.2 (lwin hi hL (j := 2) (by decide) rfl) dL_law_287 ?_
  refine W.eq (g2 := F0 m 288 ls ((([.int (xs (nI i + 1).toNatClampNeg), .int (xs (nI i + 2).toNatClampNeg)] : List Value).map (zmv ad2)).reverse ++ .ref (ad2 0) :: [.int v])) rfl ?_
  refine c_callZ (wa := zws ad ca μ1 0 layC) (wb := []) (lay := layM) (ad := ad2) (μ := ν) (dy := 1) X dL_law_288 zl_L_39 zy_X4_talk rfl rfl rfl (by decide) (by decide) (Nat.le_of_ble_eq_true rfl) hl.1 ⟨by decide, by decide⟩ hM (fun r ν1 H locs hr X => ?_)
  obtain ⟨rfl, hpm⟩ := hr
  rw [List.append_nil] at X
  exact lv_icmp_eq (x := v) (y := v) X.1.1 X.1.2.1 dL_law_291 (tgt := 744) (by decide) (fun _ => next _ _ _ _ X (hR _ _ hpc hpm)) (fun q => absurd rfl q)
theorem lw_hears (X : cX mL p s m args meth c D ca A (zws ad ca μ 0 layC ++ zws ad2 ca ν 0 layM) H locs) (h : R μ ν) (hl : lv_has ls 4 [(3, .int (nI i)), (2, .ref (ad2 0)), (1, .ref (ad 0)), (0, .ref b)]) (hi : i + 4 ≤ L) (hL : L ≤ 256) (hX : va_X b L xs s s.heap) (hbl : b < s.heap.size) (hbA : ¬ A b)
    (next : ∀ (μ' ν' : ZMem) (H1 : Heap) (locs1 : List Loc), cX mL p s m args meth c D ca A (zws ad ca μ' 0 layC ++ zws ad2 ca ν' 0 layM) H1 locs1 → R μ' ν' → W p l e room_1 s m args below meth c H1 locs1 49 2105 Q (F0 m 744 ls [])) : W p l e room_1 s m args below meth c H locs 49 2105 Q (F0 m 296 ls []) := by
  obtain ⟨v, PC, PM, hC, hM, hR⟩ := e_hears h (xs (nI i + 1).toNatClampNeg)
  refine lv_aload_n X.1.1 X.1.2.1 dL_law_296 rfl (lv_at hl 2 rfl) ?_
  refine lv_aload_n X.1.1 X.1.2.1 dL_law_297 rfl (lv_at hl 3 rfl) ?_
  refine lv_iload_n X.1.1 X.1.2.1 dL_law_298 rfl (lv_at hl 0 rfl) ?_
  refine lv_iconst (v := 1) X.1.1 X.1.2.1 dL_law_299 rfl ?_
  refine lv_iadd X.1.1 X.1.2.1 dL_law_300 ?_
  refine va_sld X.1.1 X.1.2.1 hX hbl hbA X.2.2.2 (lwin hi hL (j := 1) (by decide) rfl) dL_law_301 ?_
  refine W.eq (g2 := F0 m 302 ls ((([.int (xs (nI i + 1).toNatClampNeg)] : List Value).map (zmv ad)).reverse ++ .ref (ad 0) :: [])) rfl ?_
  refine c_callZ (wa := []) (wb := zws ad2 ca ν 0 layM) (lay := layC) (ad := ad) (μ := μ) (dy := 3) X dL_law_302 zl_L_40 zy_X3_hears rfl rfl rfl (by decide) (by decide) (Nat.le_of_ble_eq_true rfl) hl.1 ⟨by decide, by decide⟩ hC (fun r μ1 H locs hr X => ?_)
  obtain ⟨rfl, hpc⟩ := hr
  replace X : cX mL p s m args meth c D ca A (zws ad ca μ1 0 layC ++ (zws ad2 ca ν 0 layM ++ [])) H locs := by rw [List.append_nil]; exact X
  refine lv_aload_n X.1.1 X.1.2.1 dL_law_305 rfl (lv_at hl 1 rfl) ?_
  refine lv_aload_n X.1.1 X.1.2.1 dL_law_306 rfl (lv_at hl 3 rfl) ?_
  refine lv_iload_n X.1.1 X.1.2.1 dL_law_307 rfl (lv_at hl 0 rfl) ?_
  refine lv_iconst (v := 1) X.1.1 X.1.2.1 dL_law_308 rfl ?_
  refine lv_iadd X.1.1 X.1.2.1 dL_law_309 ?_
  refine va_sld X.1.1 X.1.2.1 hX hbl hbA X.2.2.2 (lwin hi hL (j := 1) (by decide) rfl) dL_law_310 ?_
  refine W.eq (g2 := F0 m 311 ls ((([.int (xs (nI i + 1).toNatClampNeg)] : List Value).map (zmv ad2)).reverse ++ .ref (ad2 0) :: [.int v])) rfl ?_
  refine c_callZ (wa := zws ad ca μ1 0 layC) (wb := []) (lay := layM) (ad := ad2) (μ := ν) (dy := 2) X dL_law_311 zl_L_43 zy_X4_hears rfl rfl rfl (by decide) (by decide) (Nat.le_of_ble_eq_true rfl) hl.1 ⟨by decide, by decide⟩ hM (fun r ν1 H locs hr X => ?_)
  obtain ⟨rfl, hpm⟩ := hr
  rw [List.append_nil] at X
  exact lv_icmp_eq (x := v) (y := v) X.1.1 X.1.2.1 dL_law_314 (tgt := 744) (by decide) (fun _ => next _ _ _ _ X (hR _ _ hpc hpm)) (fun q => absurd rfl q)
theorem lw_says (X : cX mL p s m args meth c D ca A (zws ad ca μ 0 layC ++ zws ad2 ca ν 0 layM) H locs) (h : R μ ν) (hl : lv_has ls 4 [(3, .int (nI i)), (2, .ref (ad2 0)), (1, .ref (ad 0)), (0, .ref b)]) (hi : i + 4 ≤ L) (hL : L ≤ 256) (hX : va_X b L xs s s.heap) (hbl : b < s.heap.size) (hbA : ¬ A b)
    (next : ∀ (μ' ν' : ZMem) (H1 : Heap) (locs1 : List Loc), cX mL p s m args meth c D ca A (zws ad ca μ' 0 layC ++ zws ad2 ca ν' 0 layM) H1 locs1 → R μ' ν' → W p l e room_1 s m args below meth c H1 locs1 49 2105 Q (F0 m 744 ls [])) : W p l e room_1 s m args below meth c H locs 49 2105 Q (F0 m 319 ls []) := by
  obtain ⟨v, PC, PM, hC, hM, hR⟩ := e_says h (xs (nI i + 1).toNatClampNeg) (xs (nI i + 2).toNatClampNeg)
  refine lv_aload_n X.1.1 X.1.2.1 dL_law_319 rfl (lv_at hl 2 rfl) ?_
  refine lv_aload_n X.1.1 X.1.2.1 dL_law_320 rfl (lv_at hl 3 rfl) ?_
  refine lv_iload_n X.1.1 X.1.2.1 dL_law_321 rfl (lv_at hl 0 rfl) ?_
  refine lv_iconst (v := 1) X.1.1 X.1.2.1 dL_law_322 rfl ?_
  refine lv_iadd X.1.1 X.1.2.1 dL_law_323 ?_
  refine va_sld X.1.1 X.1.2.1 hX hbl hbA X.2.2.2 (lwin hi hL (j := 1) (by decide) rfl) dL_law_324 ?_
  refine lv_aload_n X.1.1 X.1.2.1 dL_law_325 rfl (lv_at hl 3 rfl) ?_
  refine lv_iload_n X.1.1 X.1.2.1 dL_law_326 rfl (lv_at hl 0 rfl) ?_
  refine lv_iconst (v := 2) X.1.1 X.1.2.1 dL_law_327 rfl ?_
  refine lv_iadd X.1.1 X.1.2.1 dL_law_328 ?_
  refine va_sld X.1.1 X.1.2.1 hX hbl hbA X.2.2.2 (lwin hi hL (j := 2) (by decide) rfl) dL_law_329 ?_
  refine W.eq (g2 := F0 m 330 ls ((([.int (xs (nI i + 1).toNatClampNeg), .int (xs (nI i + 2).toNatClampNeg)] : List Value).map (zmv ad)).reverse ++ .ref (ad 0) :: [])) rfl ?_
  refine c_callZ (wa := []) (wb := zws ad2 ca ν 0 layM) (lay := layC) (ad := ad) (μ := μ) (dy := 3) X dL_law_330 zl_L_44 zy_X3_says rfl rfl rfl (by decide) (by decide) (Nat.le_of_ble_eq_true rfl) hl.1 ⟨by decide, by decide⟩ hC (fun r μ1 H locs hr X => ?_)
  obtain ⟨rfl, hpc⟩ := hr
  replace X : cX mL p s m args meth c D ca A (zws ad ca μ1 0 layC ++ (zws ad2 ca ν 0 layM ++ [])) H locs := by rw [List.append_nil]; exact X
  refine lv_aload_n X.1.1 X.1.2.1 dL_law_333 rfl (lv_at hl 1 rfl) ?_
  refine lv_aload_n X.1.1 X.1.2.1 dL_law_334 rfl (lv_at hl 3 rfl) ?_
  refine lv_iload_n X.1.1 X.1.2.1 dL_law_335 rfl (lv_at hl 0 rfl) ?_
  refine lv_iconst (v := 1) X.1.1 X.1.2.1 dL_law_336 rfl ?_
  refine lv_iadd X.1.1 X.1.2.1 dL_law_337 ?_
  refine va_sld X.1.1 X.1.2.1 hX hbl hbA X.2.2.2 (lwin hi hL (j := 1) (by decide) rfl) dL_law_338 ?_
  refine lv_aload_n X.1.1 X.1.2.1 dL_law_339 rfl (lv_at hl 3 rfl) ?_
  refine lv_iload_n X.1.1 X.1.2.1 dL_law_340 rfl (lv_at hl 0 rfl) ?_
  refine lv_iconst (v := 2) X.1.1 X.1.2.1 dL_law_341 rfl ?_
  refine lv_iadd X.1.1 X.1.2.1 dL_law_342 ?_
  refine va_sld X.1.1 X.1.2.1 hX hbl hbA X.2.2.2 (lwin hi hL (j := 2) (by decide) rfl) dL_law_343 ?_
  refine W.eq (g2 := F0 m 344 ls ((([.int (xs (nI i + 1).toNatClampNeg), .int (xs (nI i + 2).toNatClampNeg)] : List Value).map (zmv ad2)).reverse ++ .ref (ad2 0) :: [.int v])) rfl ?_
  refine c_callZ (wa := zws ad ca μ1 0 layC) (wb := []) (lay := layM) (ad := ad2) (μ := ν) (dy := 2) X dL_law_344 zl_L_47 zy_X4_says rfl rfl rfl (by decide) (by decide) (Nat.le_of_ble_eq_true rfl) hl.1 ⟨by decide, by decide⟩ hM (fun r ν1 H locs hr X => ?_)
  obtain ⟨rfl, hpm⟩ := hr
  rw [List.append_nil] at X
  exact lv_icmp_eq (x := v) (y := v) X.1.1 X.1.2.1 dL_law_347 (tgt := 744) (by decide) (fun _ => next _ _ _ _ X (hR _ _ hpc hpm)) (fun q => absurd rfl q)
theorem lw_hour (X : cX mL p s m args meth c D ca A (zws ad ca μ 0 layC ++ zws ad2 ca ν 0 layM) H locs) (h : R μ ν) (hl : lv_has ls 4 [(3, .int (nI i)), (2, .ref (ad2 0)), (1, .ref (ad 0)), (0, .ref b)]) (hi : i + 4 ≤ L) (hL : L ≤ 256) (hX : va_X b L xs s s.heap) (hbl : b < s.heap.size) (hbA : ¬ A b)
    (next : ∀ (μ' ν' : ZMem) (H1 : Heap) (locs1 : List Loc), cX mL p s m args meth c D ca A (zws ad ca μ' 0 layC ++ zws ad2 ca ν' 0 layM) H1 locs1 → R μ' ν' → W p l e room_1 s m args below meth c H1 locs1 49 2105 Q (F0 m 744 ls [])) : W p l e room_1 s m args below meth c H locs 49 2105 Q (F0 m 352 ls []) := by
  obtain ⟨v, PC, PM, hC, hM, hR⟩ := e_hour h 
  refine lv_aload_n X.1.1 X.1.2.1 dL_law_352 rfl (lv_at hl 2 rfl) ?_
  refine W.eq (g2 := F0 m 353 ls ((([] : List Value).map (zmv ad)).reverse ++ .ref (ad 0) :: [])) rfl ?_
  refine c_callZ (wa := []) (wb := zws ad2 ca ν 0 layM) (lay := layC) (ad := ad) (μ := μ) (dy := 3) X dL_law_353 zl_L_48 zy_X3_hour rfl rfl rfl (by decide) (by decide) (Nat.le_of_ble_eq_true rfl) hl.1 ⟨by decide, by decide⟩ hC (fun r μ1 H locs hr X => ?_)
  obtain ⟨rfl, hpc⟩ := hr
  replace X : cX mL p s m args meth c D ca A (zws ad ca μ1 0 layC ++ (zws ad2 ca ν 0 layM ++ [])) H locs := by rw [List.append_nil]; exact X
  refine lv_aload_n X.1.1 X.1.2.1 dL_law_356 rfl (lv_at hl 1 rfl) ?_
  refine W.eq (g2 := F0 m 357 ls ((([] : List Value).map (zmv ad2)).reverse ++ .ref (ad2 0) :: [.int v])) rfl ?_
  refine c_callZ (wa := zws ad ca μ1 0 layC) (wb := []) (lay := layM) (ad := ad2) (μ := ν) (dy := 1) X dL_law_357 zl_L_51 zy_X4_hour rfl rfl rfl (by decide) (by decide) (Nat.le_of_ble_eq_true rfl) hl.1 ⟨by decide, by decide⟩ hM (fun r ν1 H locs hr X => ?_)
  obtain ⟨rfl, hpm⟩ := hr
  rw [List.append_nil] at X
  exact lv_icmp_eq (x := v) (y := v) X.1.1 X.1.2.1 dL_law_360 (tgt := 744) (by decide) (fun _ => next _ _ _ _ X (hR _ _ hpc hpm)) (fun q => absurd rfl q)
theorem lw_undo (X : cX mL p s m args meth c D ca A (zws ad ca μ 0 layC ++ zws ad2 ca ν 0 layM) H locs) (h : R μ ν) (hl : lv_has ls 4 [(3, .int (nI i)), (2, .ref (ad2 0)), (1, .ref (ad 0)), (0, .ref b)]) (hi : i + 4 ≤ L) (hL : L ≤ 256) (hX : va_X b L xs s s.heap) (hbl : b < s.heap.size) (hbA : ¬ A b)
    (next : ∀ (μ' ν' : ZMem) (H1 : Heap) (locs1 : List Loc), cX mL p s m args meth c D ca A (zws ad ca μ' 0 layC ++ zws ad2 ca ν' 0 layM) H1 locs1 → R μ' ν' → W p l e room_1 s m args below meth c H1 locs1 49 2105 Q (F0 m 744 ls [])) : W p l e room_1 s m args below meth c H locs 49 2105 Q (F0 m 365 ls []) := by
  obtain ⟨v, PC, PM, hC, hM, hR⟩ := e_undo h 
  refine lv_aload_n X.1.1 X.1.2.1 dL_law_365 rfl (lv_at hl 2 rfl) ?_
  refine W.eq (g2 := F0 m 366 ls ((([] : List Value).map (zmv ad)).reverse ++ .ref (ad 0) :: [])) rfl ?_
  refine c_callZ (wa := []) (wb := zws ad2 ca ν 0 layM) (lay := layC) (ad := ad) (μ := μ) (dy := 1) X dL_law_366 zl_L_52 zy_X3_undo rfl rfl rfl (by decide) (by decide) (Nat.le_of_ble_eq_true rfl) hl.1 ⟨by decide, by decide⟩ hC (fun r μ1 H locs hr X => ?_)
  obtain ⟨rfl, hpc⟩ := hr
  replace X : cX mL p s m args meth c D ca A (zws ad ca μ1 0 layC ++ (zws ad2 ca ν 0 layM ++ [])) H locs := by rw [List.append_nil]; exact X
  refine lv_aload_n X.1.1 X.1.2.1 dL_law_369 rfl (lv_at hl 1 rfl) ?_
  refine W.eq (g2 := F0 m 370 ls ((([] : List Value).map (zmv ad2)).reverse ++ .ref (ad2 0) :: [.int v])) rfl ?_
  refine c_callZ (wa := zws ad ca μ1 0 layC) (wb := []) (lay := layM) (ad := ad2) (μ := ν) (dy := 0) X dL_law_370 zl_L_55 zy_X4_undo rfl rfl rfl (by decide) (by decide) (Nat.le_of_ble_eq_true rfl) hl.1 ⟨by decide, by decide⟩ hM (fun r ν1 H locs hr X => ?_)
  obtain ⟨rfl, hpm⟩ := hr
  rw [List.append_nil] at X
  exact lv_icmp_eq (x := v) (y := v) X.1.1 X.1.2.1 dL_law_373 (tgt := 744) (by decide) (fun _ => next _ _ _ _ X (hR _ _ hpc hpm)) (fun q => absurd rfl q)
theorem lw_now (X : cX mL p s m args meth c D ca A (zws ad ca μ 0 layC ++ zws ad2 ca ν 0 layM) H locs) (h : R μ ν) (hl : lv_has ls 4 [(3, .int (nI i)), (2, .ref (ad2 0)), (1, .ref (ad 0)), (0, .ref b)]) (hi : i + 4 ≤ L) (hL : L ≤ 256) (hX : va_X b L xs s s.heap) (hbl : b < s.heap.size) (hbA : ¬ A b)
    (next : ∀ (μ' ν' : ZMem) (H1 : Heap) (locs1 : List Loc), cX mL p s m args meth c D ca A (zws ad ca μ' 0 layC ++ zws ad2 ca ν' 0 layM) H1 locs1 → R μ' ν' → W p l e room_1 s m args below meth c H1 locs1 49 2105 Q (F0 m 744 ls [])) : W p l e room_1 s m args below meth c H locs 49 2105 Q (F0 m 378 ls []) := by
  obtain ⟨v, PC, PM, hC, hM, hR⟩ := e_now h (xs (nI i + 1).toNatClampNeg)
  refine lv_aload_n X.1.1 X.1.2.1 dL_law_378 rfl (lv_at hl 2 rfl) ?_
  refine lv_aload_n X.1.1 X.1.2.1 dL_law_379 rfl (lv_at hl 3 rfl) ?_
  refine lv_iload_n X.1.1 X.1.2.1 dL_law_380 rfl (lv_at hl 0 rfl) ?_
  refine lv_iconst (v := 1) X.1.1 X.1.2.1 dL_law_381 rfl ?_
  refine lv_iadd X.1.1 X.1.2.1 dL_law_382 ?_
  refine va_sld X.1.1 X.1.2.1 hX hbl hbA X.2.2.2 (lwin hi hL (j := 1) (by decide) rfl) dL_law_383 ?_
  refine W.eq (g2 := F0 m 384 ls ((([.int (xs (nI i + 1).toNatClampNeg)] : List Value).map (zmv ad)).reverse ++ .ref (ad 0) :: [])) rfl ?_
  refine c_callZ (wa := []) (wb := zws ad2 ca ν 0 layM) (lay := layC) (ad := ad) (μ := μ) (dy := 4) X dL_law_384 zl_L_56 zy_X3_now rfl rfl rfl (by decide) (by decide) (Nat.le_of_ble_eq_true rfl) hl.1 ⟨by decide, by decide⟩ hC (fun r μ1 H locs hr X => ?_)
  obtain ⟨rfl, hpc⟩ := hr
  replace X : cX mL p s m args meth c D ca A (zws ad ca μ1 0 layC ++ (zws ad2 ca ν 0 layM ++ [])) H locs := by rw [List.append_nil]; exact X
  refine lv_aload_n X.1.1 X.1.2.1 dL_law_387 rfl (lv_at hl 1 rfl) ?_
  refine lv_aload_n X.1.1 X.1.2.1 dL_law_388 rfl (lv_at hl 3 rfl) ?_
  refine lv_iload_n X.1.1 X.1.2.1 dL_law_389 rfl (lv_at hl 0 rfl) ?_
  refine lv_iconst (v := 1) X.1.1 X.1.2.1 dL_law_390 rfl ?_
  refine lv_iadd X.1.1 X.1.2.1 dL_law_391 ?_
  refine va_sld X.1.1 X.1.2.1 hX hbl hbA X.2.2.2 (lwin hi hL (j := 1) (by decide) rfl) dL_law_392 ?_
  refine W.eq (g2 := F0 m 393 ls ((([.int (xs (nI i + 1).toNatClampNeg)] : List Value).map (zmv ad2)).reverse ++ .ref (ad2 0) :: [.int v])) rfl ?_
  refine c_callZ (wa := zws ad ca μ1 0 layC) (wb := []) (lay := layM) (ad := ad2) (μ := ν) (dy := 3) X dL_law_393 zl_L_59 zy_X4_now rfl rfl rfl (by decide) (by decide) (Nat.le_of_ble_eq_true rfl) hl.1 ⟨by decide, by decide⟩ hM (fun r ν1 H locs hr X => ?_)
  obtain ⟨rfl, hpm⟩ := hr
  rw [List.append_nil] at X
  exact lv_icmp_eq (x := v) (y := v) X.1.1 X.1.2.1 dL_law_396 (tgt := 744) (by decide) (fun _ => next _ _ _ _ X (hR _ _ hpc hpm)) (fun q => absurd rfl q)
theorem lw_worth (X : cX mL p s m args meth c D ca A (zws ad ca μ 0 layC ++ zws ad2 ca ν 0 layM) H locs) (h : R μ ν) (hl : lv_has ls 4 [(3, .int (nI i)), (2, .ref (ad2 0)), (1, .ref (ad 0)), (0, .ref b)]) (hi : i + 4 ≤ L) (hL : L ≤ 256) (hX : va_X b L xs s s.heap) (hbl : b < s.heap.size) (hbA : ¬ A b)
    (next : ∀ (μ' ν' : ZMem) (H1 : Heap) (locs1 : List Loc), cX mL p s m args meth c D ca A (zws ad ca μ' 0 layC ++ zws ad2 ca ν' 0 layM) H1 locs1 → R μ' ν' → W p l e room_1 s m args below meth c H1 locs1 49 2105 Q (F0 m 744 ls [])) : W p l e room_1 s m args below meth c H locs 49 2105 Q (F0 m 401 ls []) := by
  obtain ⟨v, PC, PM, hC, hM, hR⟩ := e_worth h (xs (nI i + 1).toNatClampNeg)
  refine lv_aload_n X.1.1 X.1.2.1 dL_law_401 rfl (lv_at hl 2 rfl) ?_
  refine lv_aload_n X.1.1 X.1.2.1 dL_law_402 rfl (lv_at hl 3 rfl) ?_
  refine lv_iload_n X.1.1 X.1.2.1 dL_law_403 rfl (lv_at hl 0 rfl) ?_
  refine lv_iconst (v := 1) X.1.1 X.1.2.1 dL_law_404 rfl ?_
  refine lv_iadd X.1.1 X.1.2.1 dL_law_405 ?_
  refine va_sld X.1.1 X.1.2.1 hX hbl hbA X.2.2.2 (lwin hi hL (j := 1) (by decide) rfl) dL_law_406 ?_
  refine W.eq (g2 := F0 m 407 ls ((([.int (xs (nI i + 1).toNatClampNeg)] : List Value).map (zmv ad)).reverse ++ .ref (ad 0) :: [])) rfl ?_
  refine c_callZ (wa := []) (wb := zws ad2 ca ν 0 layM) (lay := layC) (ad := ad) (μ := μ) (dy := 2) X dL_law_407 zl_L_60 zy_X3_worth rfl rfl rfl (by decide) (by decide) (Nat.le_of_ble_eq_true rfl) hl.1 ⟨by decide, by decide⟩ hC (fun r μ1 H locs hr X => ?_)
  obtain ⟨rfl, hpc⟩ := hr
  replace X : cX mL p s m args meth c D ca A (zws ad ca μ1 0 layC ++ (zws ad2 ca ν 0 layM ++ [])) H locs := by rw [List.append_nil]; exact X
  refine lv_aload_n X.1.1 X.1.2.1 dL_law_410 rfl (lv_at hl 1 rfl) ?_
  refine lv_aload_n X.1.1 X.1.2.1 dL_law_411 rfl (lv_at hl 3 rfl) ?_
  refine lv_iload_n X.1.1 X.1.2.1 dL_law_412 rfl (lv_at hl 0 rfl) ?_
  refine lv_iconst (v := 1) X.1.1 X.1.2.1 dL_law_413 rfl ?_
  refine lv_iadd X.1.1 X.1.2.1 dL_law_414 ?_
  refine va_sld X.1.1 X.1.2.1 hX hbl hbA X.2.2.2 (lwin hi hL (j := 1) (by decide) rfl) dL_law_415 ?_
  refine W.eq (g2 := F0 m 416 ls ((([.int (xs (nI i + 1).toNatClampNeg)] : List Value).map (zmv ad2)).reverse ++ .ref (ad2 0) :: [.int v])) rfl ?_
  refine c_callZ (wa := zws ad ca μ1 0 layC) (wb := []) (lay := layM) (ad := ad2) (μ := ν) (dy := 1) X dL_law_416 zl_L_63 zy_X4_worth rfl rfl rfl (by decide) (by decide) (Nat.le_of_ble_eq_true rfl) hl.1 ⟨by decide, by decide⟩ hM (fun r ν1 H locs hr X => ?_)
  obtain ⟨rfl, hpm⟩ := hr
  rw [List.append_nil] at X
  exact lv_icmp_eq (x := v) (y := v) X.1.1 X.1.2.1 dL_law_419 (tgt := 744) (by decide) (fun _ => next _ _ _ _ X (hR _ _ hpc hpm)) (fun q => absurd rfl q)
theorem lw_chain (X : cX mL p s m args meth c D ca A (zws ad ca μ 0 layC ++ zws ad2 ca ν 0 layM) H locs) (h : R μ ν) (hl : lv_has ls 4 [(3, .int (nI i)), (2, .ref (ad2 0)), (1, .ref (ad 0)), (0, .ref b)]) (hi : i + 4 ≤ L) (hL : L ≤ 256) (hX : va_X b L xs s s.heap) (hbl : b < s.heap.size) (hbA : ¬ A b)
    (next : ∀ (μ' ν' : ZMem) (H1 : Heap) (locs1 : List Loc), cX mL p s m args meth c D ca A (zws ad ca μ' 0 layC ++ zws ad2 ca ν' 0 layM) H1 locs1 → R μ' ν' → W p l e room_1 s m args below meth c H1 locs1 49 2105 Q (F0 m 744 ls [])) : W p l e room_1 s m args below meth c H locs 49 2105 Q (F0 m 424 ls []) := by
  obtain ⟨v, PC, PM, hC, hM, hR⟩ := e_chain h (xs (nI i + 1).toNatClampNeg) (xs (nI i + 2).toNatClampNeg)
  refine lv_aload_n X.1.1 X.1.2.1 dL_law_424 rfl (lv_at hl 2 rfl) ?_
  refine lv_aload_n X.1.1 X.1.2.1 dL_law_425 rfl (lv_at hl 3 rfl) ?_
  refine lv_iload_n X.1.1 X.1.2.1 dL_law_426 rfl (lv_at hl 0 rfl) ?_
  refine lv_iconst (v := 1) X.1.1 X.1.2.1 dL_law_427 rfl ?_
  refine lv_iadd X.1.1 X.1.2.1 dL_law_428 ?_
  refine va_sld X.1.1 X.1.2.1 hX hbl hbA X.2.2.2 (lwin hi hL (j := 1) (by decide) rfl) dL_law_429 ?_
  refine lv_aload_n X.1.1 X.1.2.1 dL_law_430 rfl (lv_at hl 3 rfl) ?_
  refine lv_iload_n X.1.1 X.1.2.1 dL_law_431 rfl (lv_at hl 0 rfl) ?_
  refine lv_iconst (v := 2) X.1.1 X.1.2.1 dL_law_432 rfl ?_
  refine lv_iadd X.1.1 X.1.2.1 dL_law_433 ?_
  refine va_sld X.1.1 X.1.2.1 hX hbl hbA X.2.2.2 (lwin hi hL (j := 2) (by decide) rfl) dL_law_434 ?_
  refine W.eq (g2 := F0 m 435 ls ((([.int (xs (nI i + 1).toNatClampNeg), .int (xs (nI i + 2).toNatClampNeg)] : List Value).map (zmv ad)).reverse ++ .ref (ad 0) :: [])) rfl ?_
  refine c_callZ (wa := []) (wb := zws ad2 ca ν 0 layM) (lay := layC) (ad := ad) (μ := μ) (dy := 4) X dL_law_435 zl_L_64 zy_X3_chain rfl rfl rfl (by decide) (by decide) (Nat.le_of_ble_eq_true rfl) hl.1 ⟨by decide, by decide⟩ hC (fun r μ1 H locs hr X => ?_)
  obtain ⟨rfl, hpc⟩ := hr
  replace X : cX mL p s m args meth c D ca A (zws ad ca μ1 0 layC ++ (zws ad2 ca ν 0 layM ++ [])) H locs := by rw [List.append_nil]; exact X
  refine lv_aload_n X.1.1 X.1.2.1 dL_law_438 rfl (lv_at hl 1 rfl) ?_
  refine lv_aload_n X.1.1 X.1.2.1 dL_law_439 rfl (lv_at hl 3 rfl) ?_
  refine lv_iload_n X.1.1 X.1.2.1 dL_law_440 rfl (lv_at hl 0 rfl) ?_
  refine lv_iconst (v := 1) X.1.1 X.1.2.1 dL_law_441 rfl ?_
  refine lv_iadd X.1.1 X.1.2.1 dL_law_442 ?_
  refine va_sld X.1.1 X.1.2.1 hX hbl hbA X.2.2.2 (lwin hi hL (j := 1) (by decide) rfl) dL_law_443 ?_
  refine lv_aload_n X.1.1 X.1.2.1 dL_law_444 rfl (lv_at hl 3 rfl) ?_
  refine lv_iload_n X.1.1 X.1.2.1 dL_law_445 rfl (lv_at hl 0 rfl) ?_
  refine lv_iconst (v := 2) X.1.1 X.1.2.1 dL_law_446 rfl ?_
  refine lv_iadd X.1.1 X.1.2.1 dL_law_447 ?_
  refine va_sld X.1.1 X.1.2.1 hX hbl hbA X.2.2.2 (lwin hi hL (j := 2) (by decide) rfl) dL_law_448 ?_
  refine W.eq (g2 := F0 m 449 ls ((([.int (xs (nI i + 1).toNatClampNeg), .int (xs (nI i + 2).toNatClampNeg)] : List Value).map (zmv ad2)).reverse ++ .ref (ad2 0) :: [.int v])) rfl ?_
  refine c_callZ (wa := zws ad ca μ1 0 layC) (wb := []) (lay := layM) (ad := ad2) (μ := ν) (dy := 4) X dL_law_449 zl_L_67 zy_X4_chain rfl rfl rfl (by decide) (by decide) (Nat.le_of_ble_eq_true rfl) hl.1 ⟨by decide, by decide⟩ hM (fun r ν1 H locs hr X => ?_)
  obtain ⟨rfl, hpm⟩ := hr
  rw [List.append_nil] at X
  exact lv_icmp_eq (x := v) (y := v) X.1.1 X.1.2.1 dL_law_452 (tgt := 744) (by decide) (fun _ => next _ _ _ _ X (hR _ _ hpc hpm)) (fun q => absurd rfl q)
theorem lw_sounds (X : cX mL p s m args meth c D ca A (zws ad ca μ 0 layC ++ zws ad2 ca ν 0 layM) H locs) (h : R μ ν) (hl : lv_has ls 4 [(3, .int (nI i)), (2, .ref (ad2 0)), (1, .ref (ad 0)), (0, .ref b)]) (hi : i + 4 ≤ L) (hL : L ≤ 256) (hX : va_X b L xs s s.heap) (hbl : b < s.heap.size) (hbA : ¬ A b)
    (next : ∀ (μ' ν' : ZMem) (H1 : Heap) (locs1 : List Loc), cX mL p s m args meth c D ca A (zws ad ca μ' 0 layC ++ zws ad2 ca ν' 0 layM) H1 locs1 → R μ' ν' → W p l e room_1 s m args below meth c H1 locs1 49 2105 Q (F0 m 744 ls [])) : W p l e room_1 s m args below meth c H locs 49 2105 Q (F0 m 457 ls []) := by
  obtain ⟨v, PC, PM, hC, hM, hR⟩ := e_sounds h (xs (nI i + 1).toNatClampNeg)
  refine lv_aload_n X.1.1 X.1.2.1 dL_law_457 rfl (lv_at hl 2 rfl) ?_
  refine lv_aload_n X.1.1 X.1.2.1 dL_law_458 rfl (lv_at hl 3 rfl) ?_
  refine lv_iload_n X.1.1 X.1.2.1 dL_law_459 rfl (lv_at hl 0 rfl) ?_
  refine lv_iconst (v := 1) X.1.1 X.1.2.1 dL_law_460 rfl ?_
  refine lv_iadd X.1.1 X.1.2.1 dL_law_461 ?_
  refine va_sld X.1.1 X.1.2.1 hX hbl hbA X.2.2.2 (lwin hi hL (j := 1) (by decide) rfl) dL_law_462 ?_
  refine W.eq (g2 := F0 m 463 ls ((([.int (xs (nI i + 1).toNatClampNeg)] : List Value).map (zmv ad)).reverse ++ .ref (ad 0) :: [])) rfl ?_
  refine c_callZ (wa := []) (wb := zws ad2 ca ν 0 layM) (lay := layC) (ad := ad) (μ := μ) (dy := 5) X dL_law_463 zl_L_68 zy_X3_sounds rfl rfl rfl (by decide) (by decide) (Nat.le_of_ble_eq_true rfl) hl.1 ⟨by decide, by decide⟩ hC (fun r μ1 H locs hr X => ?_)
  obtain ⟨rfl, hpc⟩ := hr
  replace X : cX mL p s m args meth c D ca A (zws ad ca μ1 0 layC ++ (zws ad2 ca ν 0 layM ++ [])) H locs := by rw [List.append_nil]; exact X
  refine lv_aload_n X.1.1 X.1.2.1 dL_law_466 rfl (lv_at hl 1 rfl) ?_
  refine lv_aload_n X.1.1 X.1.2.1 dL_law_467 rfl (lv_at hl 3 rfl) ?_
  refine lv_iload_n X.1.1 X.1.2.1 dL_law_468 rfl (lv_at hl 0 rfl) ?_
  refine lv_iconst (v := 1) X.1.1 X.1.2.1 dL_law_469 rfl ?_
  refine lv_iadd X.1.1 X.1.2.1 dL_law_470 ?_
  refine va_sld X.1.1 X.1.2.1 hX hbl hbA X.2.2.2 (lwin hi hL (j := 1) (by decide) rfl) dL_law_471 ?_
  refine W.eq (g2 := F0 m 472 ls ((([.int (xs (nI i + 1).toNatClampNeg)] : List Value).map (zmv ad2)).reverse ++ .ref (ad2 0) :: [.int v])) rfl ?_
  refine c_callZ (wa := zws ad ca μ1 0 layC) (wb := []) (lay := layM) (ad := ad2) (μ := ν) (dy := 4) X dL_law_472 zl_L_71 zy_X4_sounds rfl rfl rfl (by decide) (by decide) (Nat.le_of_ble_eq_true rfl) hl.1 ⟨by decide, by decide⟩ hM (fun r ν1 H locs hr X => ?_)
  obtain ⟨rfl, hpm⟩ := hr
  rw [List.append_nil] at X
  exact lv_icmp_eq (x := v) (y := v) X.1.1 X.1.2.1 dL_law_475 (tgt := 744) (by decide) (fun _ => next _ _ _ _ X (hR _ _ hpc hpm)) (fun q => absurd rfl q)
theorem lw_began (X : cX mL p s m args meth c D ca A (zws ad ca μ 0 layC ++ zws ad2 ca ν 0 layM) H locs) (h : R μ ν) (hl : lv_has ls 4 [(3, .int (nI i)), (2, .ref (ad2 0)), (1, .ref (ad 0)), (0, .ref b)]) (hi : i + 4 ≤ L) (hL : L ≤ 256) (hX : va_X b L xs s s.heap) (hbl : b < s.heap.size) (hbA : ¬ A b)
    (next : ∀ (μ' ν' : ZMem) (H1 : Heap) (locs1 : List Loc), cX mL p s m args meth c D ca A (zws ad ca μ' 0 layC ++ zws ad2 ca ν' 0 layM) H1 locs1 → R μ' ν' → W p l e room_1 s m args below meth c H1 locs1 49 2105 Q (F0 m 744 ls [])) : W p l e room_1 s m args below meth c H locs 49 2105 Q (F0 m 480 ls []) := by
  obtain ⟨v, PC, PM, hC, hM, hR⟩ := e_began h (xs (nI i + 1).toNatClampNeg)
  refine lv_aload_n X.1.1 X.1.2.1 dL_law_480 rfl (lv_at hl 2 rfl) ?_
  refine lv_aload_n X.1.1 X.1.2.1 dL_law_481 rfl (lv_at hl 3 rfl) ?_
  refine lv_iload_n X.1.1 X.1.2.1 dL_law_482 rfl (lv_at hl 0 rfl) ?_
  refine lv_iconst (v := 1) X.1.1 X.1.2.1 dL_law_483 rfl ?_
  refine lv_iadd X.1.1 X.1.2.1 dL_law_484 ?_
  refine va_sld X.1.1 X.1.2.1 hX hbl hbA X.2.2.2 (lwin hi hL (j := 1) (by decide) rfl) dL_law_485 ?_
  refine W.eq (g2 := F0 m 486 ls ((([.int (xs (nI i + 1).toNatClampNeg)] : List Value).map (zmv ad)).reverse ++ .ref (ad 0) :: [])) rfl ?_
  refine c_callZ (wa := []) (wb := zws ad2 ca ν 0 layM) (lay := layC) (ad := ad) (μ := μ) (dy := 6) X dL_law_486 zl_L_72 zy_X3_began rfl rfl rfl (by decide) (by decide) (Nat.le_of_ble_eq_true rfl) hl.1 ⟨by decide, by decide⟩ hC (fun r μ1 H locs hr X => ?_)
  obtain ⟨rfl, hpc⟩ := hr
  replace X : cX mL p s m args meth c D ca A (zws ad ca μ1 0 layC ++ (zws ad2 ca ν 0 layM ++ [])) H locs := by rw [List.append_nil]; exact X
  refine lv_aload_n X.1.1 X.1.2.1 dL_law_489 rfl (lv_at hl 1 rfl) ?_
  refine lv_aload_n X.1.1 X.1.2.1 dL_law_490 rfl (lv_at hl 3 rfl) ?_
  refine lv_iload_n X.1.1 X.1.2.1 dL_law_491 rfl (lv_at hl 0 rfl) ?_
  refine lv_iconst (v := 1) X.1.1 X.1.2.1 dL_law_492 rfl ?_
  refine lv_iadd X.1.1 X.1.2.1 dL_law_493 ?_
  refine va_sld X.1.1 X.1.2.1 hX hbl hbA X.2.2.2 (lwin hi hL (j := 1) (by decide) rfl) dL_law_494 ?_
  refine W.eq (g2 := F0 m 495 ls ((([.int (xs (nI i + 1).toNatClampNeg)] : List Value).map (zmv ad2)).reverse ++ .ref (ad2 0) :: [.int v])) rfl ?_
  refine c_callZ (wa := zws ad ca μ1 0 layC) (wb := []) (lay := layM) (ad := ad2) (μ := ν) (dy := 4) X dL_law_495 zl_L_75 zy_X4_began rfl rfl rfl (by decide) (by decide) (Nat.le_of_ble_eq_true rfl) hl.1 ⟨by decide, by decide⟩ hM (fun r ν1 H locs hr X => ?_)
  obtain ⟨rfl, hpm⟩ := hr
  rw [List.append_nil] at X
  exact lv_icmp_eq (x := v) (y := v) X.1.1 X.1.2.1 dL_law_498 (tgt := 744) (by decide) (fun _ => next _ _ _ _ X (hR _ _ hpc hpm)) (fun q => absurd rfl q)
theorem lw_odds (X : cX mL p s m args meth c D ca A (zws ad ca μ 0 layC ++ zws ad2 ca ν 0 layM) H locs) (h : R μ ν) (hl : lv_has ls 4 [(3, .int (nI i)), (2, .ref (ad2 0)), (1, .ref (ad 0)), (0, .ref b)]) (hi : i + 4 ≤ L) (hL : L ≤ 256) (hX : va_X b L xs s s.heap) (hbl : b < s.heap.size) (hbA : ¬ A b)
    (next : ∀ (μ' ν' : ZMem) (H1 : Heap) (locs1 : List Loc), cX mL p s m args meth c D ca A (zws ad ca μ' 0 layC ++ zws ad2 ca ν' 0 layM) H1 locs1 → R μ' ν' → W p l e room_1 s m args below meth c H1 locs1 49 2105 Q (F0 m 744 ls [])) : W p l e room_1 s m args below meth c H locs 49 2105 Q (F0 m 503 ls []) := by
  obtain ⟨v, PC, PM, hC, hM, hR⟩ := e_odds h (xs (nI i + 1).toNatClampNeg) (xs (nI i + 2).toNatClampNeg) (xs (nI i + 3).toNatClampNeg)
  refine lv_aload_n X.1.1 X.1.2.1 dL_law_503 rfl (lv_at hl 2 rfl) ?_
  refine lv_aload_n X.1.1 X.1.2.1 dL_law_504 rfl (lv_at hl 3 rfl) ?_
  refine lv_iload_n X.1.1 X.1.2.1 dL_law_505 rfl (lv_at hl 0 rfl) ?_
  refine lv_iconst (v := 1) X.1.1 X.1.2.1 dL_law_506 rfl ?_
  refine lv_iadd X.1.1 X.1.2.1 dL_law_507 ?_
  refine va_sld X.1.1 X.1.2.1 hX hbl hbA X.2.2.2 (lwin hi hL (j := 1) (by decide) rfl) dL_law_508 ?_
  refine lv_aload_n X.1.1 X.1.2.1 dL_law_509 rfl (lv_at hl 3 rfl) ?_
  refine lv_iload_n X.1.1 X.1.2.1 dL_law_510 rfl (lv_at hl 0 rfl) ?_
  refine lv_iconst (v := 2) X.1.1 X.1.2.1 dL_law_511 rfl ?_
  refine lv_iadd X.1.1 X.1.2.1 dL_law_512 ?_
  refine va_sld X.1.1 X.1.2.1 hX hbl hbA X.2.2.2 (lwin hi hL (j := 2) (by decide) rfl) dL_law_513 ?_
  refine lv_aload_n X.1.1 X.1.2.1 dL_law_514 rfl (lv_at hl 3 rfl) ?_
  refine lv_iload_n X.1.1 X.1.2.1 dL_law_515 rfl (lv_at hl 0 rfl) ?_
  refine lv_iconst (v := 3) X.1.1 X.1.2.1 dL_law_516 rfl ?_
  refine lv_iadd X.1.1 X.1.2.1 dL_law_517 ?_
  refine va_sld X.1.1 X.1.2.1 hX hbl hbA X.2.2.2 (lwin hi hL (j := 3) (by decide) rfl) dL_law_518 ?_
  refine W.eq (g2 := F0 m 519 ls ((([.int (xs (nI i + 1).toNatClampNeg), .int (xs (nI i + 2).toNatClampNeg), .int (xs (nI i + 3).toNatClampNeg)] : List Value).map (zmv ad)).reverse ++ .ref (ad 0) :: [])) rfl ?_
  refine c_callZ (wa := []) (wb := zws ad2 ca ν 0 layM) (lay := layC) (ad := ad) (μ := μ) (dy := 6) X dL_law_519 zl_L_76 zy_X3_odds rfl rfl rfl (by decide) (by decide) (Nat.le_of_ble_eq_true rfl) hl.1 ⟨by decide, by decide⟩ hC (fun r μ1 H locs hr X => ?_)
  obtain ⟨rfl, hpc⟩ := hr
  replace X : cX mL p s m args meth c D ca A (zws ad ca μ1 0 layC ++ (zws ad2 ca ν 0 layM ++ [])) H locs := by rw [List.append_nil]; exact X
  refine lv_aload_n X.1.1 X.1.2.1 dL_law_522 rfl (lv_at hl 1 rfl) ?_
  refine lv_aload_n X.1.1 X.1.2.1 dL_law_523 rfl (lv_at hl 3 rfl) ?_
  refine lv_iload_n X.1.1 X.1.2.1 dL_law_524 rfl (lv_at hl 0 rfl) ?_
  refine lv_iconst (v := 1) X.1.1 X.1.2.1 dL_law_525 rfl ?_
  refine lv_iadd X.1.1 X.1.2.1 dL_law_526 ?_
  refine va_sld X.1.1 X.1.2.1 hX hbl hbA X.2.2.2 (lwin hi hL (j := 1) (by decide) rfl) dL_law_527 ?_
  refine lv_aload_n X.1.1 X.1.2.1 dL_law_528 rfl (lv_at hl 3 rfl) ?_
  refine lv_iload_n X.1.1 X.1.2.1 dL_law_529 rfl (lv_at hl 0 rfl) ?_
  refine lv_iconst (v := 2) X.1.1 X.1.2.1 dL_law_530 rfl ?_
  refine lv_iadd X.1.1 X.1.2.1 dL_law_531 ?_
  refine va_sld X.1.1 X.1.2.1 hX hbl hbA X.2.2.2 (lwin hi hL (j := 2) (by decide) rfl) dL_law_532 ?_
  refine lv_aload_n X.1.1 X.1.2.1 dL_law_533 rfl (lv_at hl 3 rfl) ?_
  refine lv_iload_n X.1.1 X.1.2.1 dL_law_534 rfl (lv_at hl 0 rfl) ?_
  refine lv_iconst (v := 3) X.1.1 X.1.2.1 dL_law_535 rfl ?_
  refine lv_iadd X.1.1 X.1.2.1 dL_law_536 ?_
  refine va_sld X.1.1 X.1.2.1 hX hbl hbA X.2.2.2 (lwin hi hL (j := 3) (by decide) rfl) dL_law_537 ?_
  refine W.eq (g2 := F0 m 538 ls ((([.int (xs (nI i + 1).toNatClampNeg), .int (xs (nI i + 2).toNatClampNeg), .int (xs (nI i + 3).toNatClampNeg)] : List Value).map (zmv ad2)).reverse ++ .ref (ad2 0) :: [.int v])) rfl ?_
  refine c_callZ (wa := zws ad ca μ1 0 layC) (wb := []) (lay := layM) (ad := ad2) (μ := ν) (dy := 4) X dL_law_538 zl_L_80 zy_X4_odds rfl rfl rfl (by decide) (by decide) (Nat.le_of_ble_eq_true rfl) hl.1 ⟨by decide, by decide⟩ hM (fun r ν1 H locs hr X => ?_)
  obtain ⟨rfl, hpm⟩ := hr
  rw [List.append_nil] at X
  exact lv_icmp_eq (x := v) (y := v) X.1.1 X.1.2.1 dL_law_541 (tgt := 744) (by decide) (fun _ => next _ _ _ _ X (hR _ _ hpc hpm)) (fun q => absurd rfl q)
theorem lw_tells (X : cX mL p s m args meth c D ca A (zws ad ca μ 0 layC ++ zws ad2 ca ν 0 layM) H locs) (h : R μ ν) (hl : lv_has ls 4 [(3, .int (nI i)), (2, .ref (ad2 0)), (1, .ref (ad 0)), (0, .ref b)]) (hi : i + 4 ≤ L) (hL : L ≤ 256) (hX : va_X b L xs s s.heap) (hbl : b < s.heap.size) (hbA : ¬ A b)
    (next : ∀ (μ' ν' : ZMem) (H1 : Heap) (locs1 : List Loc), cX mL p s m args meth c D ca A (zws ad ca μ' 0 layC ++ zws ad2 ca ν' 0 layM) H1 locs1 → R μ' ν' → W p l e room_1 s m args below meth c H1 locs1 49 2105 Q (F0 m 744 ls [])) : W p l e room_1 s m args below meth c H locs 49 2105 Q (F0 m 546 ls []) := by
  obtain ⟨v, PC, PM, hC, hM, hR⟩ := e_tells h (xs (nI i + 1).toNatClampNeg) (xs (nI i + 2).toNatClampNeg)
  refine lv_aload_n X.1.1 X.1.2.1 dL_law_546 rfl (lv_at hl 2 rfl) ?_
  refine lv_aload_n X.1.1 X.1.2.1 dL_law_547 rfl (lv_at hl 3 rfl) ?_
  refine lv_iload_n X.1.1 X.1.2.1 dL_law_548 rfl (lv_at hl 0 rfl) ?_
  refine lv_iconst (v := 1) X.1.1 X.1.2.1 dL_law_549 rfl ?_
  refine lv_iadd X.1.1 X.1.2.1 dL_law_550 ?_
  refine va_sld X.1.1 X.1.2.1 hX hbl hbA X.2.2.2 (lwin hi hL (j := 1) (by decide) rfl) dL_law_551 ?_
  refine lv_aload_n X.1.1 X.1.2.1 dL_law_552 rfl (lv_at hl 3 rfl) ?_
  refine lv_iload_n X.1.1 X.1.2.1 dL_law_553 rfl (lv_at hl 0 rfl) ?_
  refine lv_iconst (v := 2) X.1.1 X.1.2.1 dL_law_554 rfl ?_
  refine lv_iadd X.1.1 X.1.2.1 dL_law_555 ?_
  refine va_sld X.1.1 X.1.2.1 hX hbl hbA X.2.2.2 (lwin hi hL (j := 2) (by decide) rfl) dL_law_556 ?_
  refine W.eq (g2 := F0 m 557 ls ((([.int (xs (nI i + 1).toNatClampNeg), .int (xs (nI i + 2).toNatClampNeg)] : List Value).map (zmv ad)).reverse ++ .ref (ad 0) :: [])) rfl ?_
  refine c_callZ (wa := []) (wb := zws ad2 ca ν 0 layM) (lay := layC) (ad := ad) (μ := μ) (dy := 1) X dL_law_557 zl_L_81 zy_X3_tells rfl rfl rfl (by decide) (by decide) (Nat.le_of_ble_eq_true rfl) hl.1 ⟨by decide, by decide⟩ hC (fun r μ1 H locs hr X => ?_)
  obtain ⟨rfl, hpc⟩ := hr
  replace X : cX mL p s m args meth c D ca A (zws ad ca μ1 0 layC ++ (zws ad2 ca ν 0 layM ++ [])) H locs := by rw [List.append_nil]; exact X
  refine lv_aload_n X.1.1 X.1.2.1 dL_law_560 rfl (lv_at hl 1 rfl) ?_
  refine lv_aload_n X.1.1 X.1.2.1 dL_law_561 rfl (lv_at hl 3 rfl) ?_
  refine lv_iload_n X.1.1 X.1.2.1 dL_law_562 rfl (lv_at hl 0 rfl) ?_
  refine lv_iconst (v := 1) X.1.1 X.1.2.1 dL_law_563 rfl ?_
  refine lv_iadd X.1.1 X.1.2.1 dL_law_564 ?_
  refine va_sld X.1.1 X.1.2.1 hX hbl hbA X.2.2.2 (lwin hi hL (j := 1) (by decide) rfl) dL_law_565 ?_
  refine lv_aload_n X.1.1 X.1.2.1 dL_law_566 rfl (lv_at hl 3 rfl) ?_
  refine lv_iload_n X.1.1 X.1.2.1 dL_law_567 rfl (lv_at hl 0 rfl) ?_
  refine lv_iconst (v := 2) X.1.1 X.1.2.1 dL_law_568 rfl ?_
  refine lv_iadd X.1.1 X.1.2.1 dL_law_569 ?_
  refine va_sld X.1.1 X.1.2.1 hX hbl hbA X.2.2.2 (lwin hi hL (j := 2) (by decide) rfl) dL_law_570 ?_
  refine W.eq (g2 := F0 m 571 ls ((([.int (xs (nI i + 1).toNatClampNeg), .int (xs (nI i + 2).toNatClampNeg)] : List Value).map (zmv ad2)).reverse ++ .ref (ad2 0) :: [.int v])) rfl ?_
  refine c_callZ (wa := zws ad ca μ1 0 layC) (wb := []) (lay := layM) (ad := ad2) (μ := ν) (dy := 2) X dL_law_571 zl_L_84 zy_X4_tells rfl rfl rfl (by decide) (by decide) (Nat.le_of_ble_eq_true rfl) hl.1 ⟨by decide, by decide⟩ hM (fun r ν1 H locs hr X => ?_)
  obtain ⟨rfl, hpm⟩ := hr
  rw [List.append_nil] at X
  exact lv_icmp_eq (x := v) (y := v) X.1.1 X.1.2.1 dL_law_574 (tgt := 744) (by decide) (fun _ => next _ _ _ _ X (hR _ _ hpc hpm)) (fun q => absurd rfl q)
theorem lw_forget (X : cX mL p s m args meth c D ca A (zws ad ca μ 0 layC ++ zws ad2 ca ν 0 layM) H locs) (h : R μ ν) (hl : lv_has ls 4 [(3, .int (nI i)), (2, .ref (ad2 0)), (1, .ref (ad 0)), (0, .ref b)]) (hi : i + 4 ≤ L) (hL : L ≤ 256) (hX : va_X b L xs s s.heap) (hbl : b < s.heap.size) (hbA : ¬ A b)
    (next : ∀ (μ' ν' : ZMem) (H1 : Heap) (locs1 : List Loc), cX mL p s m args meth c D ca A (zws ad ca μ' 0 layC ++ zws ad2 ca ν' 0 layM) H1 locs1 → R μ' ν' → W p l e room_1 s m args below meth c H1 locs1 49 2105 Q (F0 m 744 ls [])) : W p l e room_1 s m args below meth c H locs 49 2105 Q (F0 m 579 ls []) := by
  obtain ⟨v, PC, PM, hC, hM, hR⟩ := e_forget h 
  refine lv_aload_n X.1.1 X.1.2.1 dL_law_579 rfl (lv_at hl 2 rfl) ?_
  refine W.eq (g2 := F0 m 580 ls ((([] : List Value).map (zmv ad)).reverse ++ .ref (ad 0) :: [])) rfl ?_
  refine c_callZ (wa := []) (wb := zws ad2 ca ν 0 layM) (lay := layC) (ad := ad) (μ := μ) (dy := 1) X dL_law_580 zl_L_85 zy_X3_forget rfl rfl rfl (by decide) (by decide) (Nat.le_of_ble_eq_true rfl) hl.1 ⟨by decide, by decide⟩ hC (fun r μ1 H locs hr X => ?_)
  obtain ⟨rfl, hpc⟩ := hr
  replace X : cX mL p s m args meth c D ca A (zws ad ca μ1 0 layC ++ (zws ad2 ca ν 0 layM ++ [])) H locs := by rw [List.append_nil]; exact X
  refine lv_aload_n X.1.1 X.1.2.1 dL_law_583 rfl (lv_at hl 1 rfl) ?_
  refine W.eq (g2 := F0 m 584 ls ((([] : List Value).map (zmv ad2)).reverse ++ .ref (ad2 0) :: [.int v])) rfl ?_
  refine c_callZ (wa := zws ad ca μ1 0 layC) (wb := []) (lay := layM) (ad := ad2) (μ := ν) (dy := 0) X dL_law_584 zl_L_88 zy_X4_forget rfl rfl rfl (by decide) (by decide) (Nat.le_of_ble_eq_true rfl) hl.1 ⟨by decide, by decide⟩ hM (fun r ν1 H locs hr X => ?_)
  obtain ⟨rfl, hpm⟩ := hr
  rw [List.append_nil] at X
  exact lv_icmp_eq (x := v) (y := v) X.1.1 X.1.2.1 dL_law_587 (tgt := 744) (by decide) (fun _ => next _ _ _ _ X (hR _ _ hpc hpm)) (fun q => absurd rfl q)
theorem lw_fits (X : cX mL p s m args meth c D ca A (zws ad ca μ 0 layC ++ zws ad2 ca ν 0 layM) H locs) (h : R μ ν) (hl : lv_has ls 4 [(3, .int (nI i)), (2, .ref (ad2 0)), (1, .ref (ad 0)), (0, .ref b)]) (hi : i + 4 ≤ L) (hL : L ≤ 256) (hX : va_X b L xs s s.heap) (hbl : b < s.heap.size) (hbA : ¬ A b)
    (next : ∀ (μ' ν' : ZMem) (H1 : Heap) (locs1 : List Loc), cX mL p s m args meth c D ca A (zws ad ca μ' 0 layC ++ zws ad2 ca ν' 0 layM) H1 locs1 → R μ' ν' → W p l e room_1 s m args below meth c H1 locs1 49 2105 Q (F0 m 744 ls [])) : W p l e room_1 s m args below meth c H locs 49 2105 Q (F0 m 592 ls []) := by
  obtain ⟨v, PC, PM, hC, hM, hR⟩ := e_fits h 
  refine lv_aload_n X.1.1 X.1.2.1 dL_law_592 rfl (lv_at hl 2 rfl) ?_
  refine W.eq (g2 := F0 m 593 ls ((([] : List Value).map (zmv ad)).reverse ++ .ref (ad 0) :: [])) rfl ?_
  refine c_callZ (wa := []) (wb := zws ad2 ca ν 0 layM) (lay := layC) (ad := ad) (μ := μ) (dy := 1) X dL_law_593 zl_L_89 zy_X3_fits rfl rfl rfl (by decide) (by decide) (Nat.le_of_ble_eq_true rfl) hl.1 ⟨by decide, by decide⟩ hC (fun r μ1 H locs hr X => ?_)
  obtain ⟨rfl, hpc⟩ := hr
  replace X : cX mL p s m args meth c D ca A (zws ad ca μ1 0 layC ++ (zws ad2 ca ν 0 layM ++ [])) H locs := by rw [List.append_nil]; exact X
  refine lv_aload_n X.1.1 X.1.2.1 dL_law_596 rfl (lv_at hl 1 rfl) ?_
  refine W.eq (g2 := F0 m 597 ls ((([] : List Value).map (zmv ad2)).reverse ++ .ref (ad2 0) :: [.int v])) rfl ?_
  refine c_callZ (wa := zws ad ca μ1 0 layC) (wb := []) (lay := layM) (ad := ad2) (μ := ν) (dy := 1) X dL_law_597 zl_L_92 zy_X4_fits rfl rfl rfl (by decide) (by decide) (Nat.le_of_ble_eq_true rfl) hl.1 ⟨by decide, by decide⟩ hM (fun r ν1 H locs hr X => ?_)
  obtain ⟨rfl, hpm⟩ := hr
  rw [List.append_nil] at X
  exact lv_icmp_eq (x := v) (y := v) X.1.1 X.1.2.1 dL_law_600 (tgt := 744) (by decide) (fun _ => next _ _ _ _ X (hR _ _ hpc hpm)) (fun q => absurd rfl q)
theorem lw_orders (X : cX mL p s m args meth c D ca A (zws ad ca μ 0 layC ++ zws ad2 ca ν 0 layM) H locs) (h : R μ ν) (hl : lv_has ls 4 [(3, .int (nI i)), (2, .ref (ad2 0)), (1, .ref (ad 0)), (0, .ref b)]) (hi : i + 4 ≤ L) (hL : L ≤ 256) (hX : va_X b L xs s s.heap) (hbl : b < s.heap.size) (hbA : ¬ A b)
    (next : ∀ (μ' ν' : ZMem) (H1 : Heap) (locs1 : List Loc), cX mL p s m args meth c D ca A (zws ad ca μ' 0 layC ++ zws ad2 ca ν' 0 layM) H1 locs1 → R μ' ν' → W p l e room_1 s m args below meth c H1 locs1 49 2105 Q (F0 m 744 ls [])) : W p l e room_1 s m args below meth c H locs 49 2105 Q (F0 m 605 ls []) := by
  obtain ⟨v, PC, PM, hC, hM, hR⟩ := e_orders h (xs (nI i + 1).toNatClampNeg)
  refine lv_aload_n X.1.1 X.1.2.1 dL_law_605 rfl (lv_at hl 2 rfl) ?_
  refine lv_aload_n X.1.1 X.1.2.1 dL_law_606 rfl (lv_at hl 3 rfl) ?_
  refine lv_iload_n X.1.1 X.1.2.1 dL_law_607 rfl (lv_at hl 0 rfl) ?_
  refine lv_iconst (v := 1) X.1.1 X.1.2.1 dL_law_608 rfl ?_
  refine lv_iadd X.1.1 X.1.2.1 dL_law_609 ?_
  refine va_sld X.1.1 X.1.2.1 hX hbl hbA X.2.2.2 (lwin hi hL (j := 1) (by decide) rfl) dL_law_610 ?_
  refine W.eq (g2 := F0 m 611 ls ((([.int (xs (nI i + 1).toNatClampNeg)] : List Value).map (zmv ad)).reverse ++ .ref (ad 0) :: [])) rfl ?_
  refine c_callZ (wa := []) (wb := zws ad2 ca ν 0 layM) (lay := layC) (ad := ad) (μ := μ) (dy := 4) X dL_law_611 zl_L_93 zy_X3_orders rfl rfl rfl (by decide) (by decide) (Nat.le_of_ble_eq_true rfl) hl.1 ⟨by decide, by decide⟩ hC (fun r μ1 H locs hr X => ?_)
  obtain ⟨rfl, hpc⟩ := hr
  replace X : cX mL p s m args meth c D ca A (zws ad ca μ1 0 layC ++ (zws ad2 ca ν 0 layM ++ [])) H locs := by rw [List.append_nil]; exact X
  refine lv_aload_n X.1.1 X.1.2.1 dL_law_614 rfl (lv_at hl 1 rfl) ?_
  refine lv_aload_n X.1.1 X.1.2.1 dL_law_615 rfl (lv_at hl 3 rfl) ?_
  refine lv_iload_n X.1.1 X.1.2.1 dL_law_616 rfl (lv_at hl 0 rfl) ?_
  refine lv_iconst (v := 1) X.1.1 X.1.2.1 dL_law_617 rfl ?_
  refine lv_iadd X.1.1 X.1.2.1 dL_law_618 ?_
  refine va_sld X.1.1 X.1.2.1 hX hbl hbA X.2.2.2 (lwin hi hL (j := 1) (by decide) rfl) dL_law_619 ?_
  refine W.eq (g2 := F0 m 620 ls ((([.int (xs (nI i + 1).toNatClampNeg)] : List Value).map (zmv ad2)).reverse ++ .ref (ad2 0) :: [.int v])) rfl ?_
  refine c_callZ (wa := zws ad ca μ1 0 layC) (wb := []) (lay := layM) (ad := ad2) (μ := ν) (dy := 2) X dL_law_620 zl_L_96 zy_X4_orders rfl rfl rfl (by decide) (by decide) (Nat.le_of_ble_eq_true rfl) hl.1 ⟨by decide, by decide⟩ hM (fun r ν1 H locs hr X => ?_)
  obtain ⟨rfl, hpm⟩ := hr
  rw [List.append_nil] at X
  exact lv_icmp_eq (x := v) (y := v) X.1.1 X.1.2.1 dL_law_623 (tgt := 744) (by decide) (fun _ => next _ _ _ _ X (hR _ _ hpc hpm)) (fun q => absurd rfl q)
theorem lw_mark (X : cX mL p s m args meth c D ca A (zws ad ca μ 0 layC ++ zws ad2 ca ν 0 layM) H locs) (h : R μ ν) (hl : lv_has ls 4 [(3, .int (nI i)), (2, .ref (ad2 0)), (1, .ref (ad 0)), (0, .ref b)]) (hi : i + 4 ≤ L) (hL : L ≤ 256) (hX : va_X b L xs s s.heap) (hbl : b < s.heap.size) (hbA : ¬ A b)
    (next : ∀ (μ' ν' : ZMem) (H1 : Heap) (locs1 : List Loc), cX mL p s m args meth c D ca A (zws ad ca μ' 0 layC ++ zws ad2 ca ν' 0 layM) H1 locs1 → R μ' ν' → W p l e room_1 s m args below meth c H1 locs1 49 2105 Q (F0 m 744 ls [])) : W p l e room_1 s m args below meth c H locs 49 2105 Q (F0 m 628 ls []) := by
  obtain ⟨v, PC, PM, hC, hM, hR⟩ := e_mark h (xs (nI i + 1).toNatClampNeg) (xs (nI i + 2).toNatClampNeg)
  refine lv_aload_n X.1.1 X.1.2.1 dL_law_628 rfl (lv_at hl 2 rfl) ?_
  refine lv_aload_n X.1.1 X.1.2.1 dL_law_629 rfl (lv_at hl 3 rfl) ?_
  refine lv_iload_n X.1.1 X.1.2.1 dL_law_630 rfl (lv_at hl 0 rfl) ?_
  refine lv_iconst (v := 1) X.1.1 X.1.2.1 dL_law_631 rfl ?_
  refine lv_iadd X.1.1 X.1.2.1 dL_law_632 ?_
  refine va_sld X.1.1 X.1.2.1 hX hbl hbA X.2.2.2 (lwin hi hL (j := 1) (by decide) rfl) dL_law_633 ?_
  refine lv_aload_n X.1.1 X.1.2.1 dL_law_634 rfl (lv_at hl 3 rfl) ?_
  refine lv_iload_n X.1.1 X.1.2.1 dL_law_635 rfl (lv_at hl 0 rfl) ?_
  refine lv_iconst (v := 2) X.1.1 X.1.2.1 dL_law_636 rfl ?_
  refine lv_iadd X.1.1 X.1.2.1 dL_law_637 ?_
  refine va_sld X.1.1 X.1.2.1 hX hbl hbA X.2.2.2 (lwin hi hL (j := 2) (by decide) rfl) dL_law_638 ?_
  refine W.eq (g2 := F0 m 639 ls ((([.int (xs (nI i + 1).toNatClampNeg), .int (xs (nI i + 2).toNatClampNeg)] : List Value).map (zmv ad)).reverse ++ .ref (ad 0) :: [])) rfl ?_
  refine c_callZ (wa := []) (wb := zws ad2 ca ν 0 layM) (lay := layC) (ad := ad) (μ := μ) (dy := 5) X dL_law_639 zl_L_97 zy_X3_mark rfl rfl rfl (by decide) (by decide) (Nat.le_of_ble_eq_true rfl) hl.1 ⟨by decide, by decide⟩ hC (fun r μ1 H locs hr X => ?_)
  obtain ⟨rfl, hpc⟩ := hr
  replace X : cX mL p s m args meth c D ca A (zws ad ca μ1 0 layC ++ (zws ad2 ca ν 0 layM ++ [])) H locs := by rw [List.append_nil]; exact X
  refine lv_aload_n X.1.1 X.1.2.1 dL_law_642 rfl (lv_at hl 1 rfl) ?_
  refine lv_aload_n X.1.1 X.1.2.1 dL_law_643 rfl (lv_at hl 3 rfl) ?_
  refine lv_iload_n X.1.1 X.1.2.1 dL_law_644 rfl (lv_at hl 0 rfl) ?_
  refine lv_iconst (v := 1) X.1.1 X.1.2.1 dL_law_645 rfl ?_
  refine lv_iadd X.1.1 X.1.2.1 dL_law_646 ?_
  refine va_sld X.1.1 X.1.2.1 hX hbl hbA X.2.2.2 (lwin hi hL (j := 1) (by decide) rfl) dL_law_647 ?_
  refine lv_aload_n X.1.1 X.1.2.1 dL_law_648 rfl (lv_at hl 3 rfl) ?_
  refine lv_iload_n X.1.1 X.1.2.1 dL_law_649 rfl (lv_at hl 0 rfl) ?_
  refine lv_iconst (v := 2) X.1.1 X.1.2.1 dL_law_650 rfl ?_
  refine lv_iadd X.1.1 X.1.2.1 dL_law_651 ?_
  refine va_sld X.1.1 X.1.2.1 hX hbl hbA X.2.2.2 (lwin hi hL (j := 2) (by decide) rfl) dL_law_652 ?_
  refine W.eq (g2 := F0 m 653 ls ((([.int (xs (nI i + 1).toNatClampNeg), .int (xs (nI i + 2).toNatClampNeg)] : List Value).map (zmv ad2)).reverse ++ .ref (ad2 0) :: [.int v])) rfl ?_
  refine c_callZ (wa := zws ad ca μ1 0 layC) (wb := []) (lay := layM) (ad := ad2) (μ := ν) (dy := 2) X dL_law_653 zl_L_100 zy_X4_mark rfl rfl rfl (by decide) (by decide) (Nat.le_of_ble_eq_true rfl) hl.1 ⟨by decide, by decide⟩ hM (fun r ν1 H locs hr X => ?_)
  obtain ⟨rfl, hpm⟩ := hr
  rw [List.append_nil] at X
  exact lv_icmp_eq (x := v) (y := v) X.1.1 X.1.2.1 dL_law_656 (tgt := 744) (by decide) (fun _ => next _ _ _ _ X (hR _ _ hpc hpm)) (fun q => absurd rfl q)
theorem lw_keep (X : cX mL p s m args meth c D ca A (zws ad ca μ 0 layC ++ zws ad2 ca ν 0 layM) H locs) (h : R μ ν) (hl : lv_has ls 4 [(3, .int (nI i)), (2, .ref (ad2 0)), (1, .ref (ad 0)), (0, .ref b)]) (hi : i + 4 ≤ L) (hL : L ≤ 256) (hX : va_X b L xs s s.heap) (hbl : b < s.heap.size) (hbA : ¬ A b)
    (next : ∀ (μ' ν' : ZMem) (H1 : Heap) (locs1 : List Loc), cX mL p s m args meth c D ca A (zws ad ca μ' 0 layC ++ zws ad2 ca ν' 0 layM) H1 locs1 → R μ' ν' → W p l e room_1 s m args below meth c H1 locs1 49 2105 Q (F0 m 744 ls [])) : W p l e room_1 s m args below meth c H locs 49 2105 Q (F0 m 661 ls []) := by
  obtain ⟨v, PC, PM, hC, hM, hR⟩ := e_keep h (xs (nI i + 1).toNatClampNeg)
  refine lv_aload_n X.1.1 X.1.2.1 dL_law_661 rfl (lv_at hl 2 rfl) ?_
  refine lv_aload_n X.1.1 X.1.2.1 dL_law_662 rfl (lv_at hl 3 rfl) ?_
  refine lv_iload_n X.1.1 X.1.2.1 dL_law_663 rfl (lv_at hl 0 rfl) ?_
  refine lv_iconst (v := 1) X.1.1 X.1.2.1 dL_law_664 rfl ?_
  refine lv_iadd X.1.1 X.1.2.1 dL_law_665 ?_
  refine va_sld X.1.1 X.1.2.1 hX hbl hbA X.2.2.2 (lwin hi hL (j := 1) (by decide) rfl) dL_law_666 ?_
  refine W.eq (g2 := F0 m 667 ls ((([.int (xs (nI i + 1).toNatClampNeg)] : List Value).map (zmv ad)).reverse ++ .ref (ad 0) :: [])) rfl ?_
  refine c_callZ (wa := []) (wb := zws ad2 ca ν 0 layM) (lay := layC) (ad := ad) (μ := μ) (dy := 2) X dL_law_667 zl_L_101 zy_X3_keep rfl rfl rfl (by decide) (by decide) (Nat.le_of_ble_eq_true rfl) hl.1 ⟨by decide, by decide⟩ hC (fun r μ1 H locs hr X => ?_)
  obtain ⟨rfl, hpc⟩ := hr
  replace X : cX mL p s m args meth c D ca A (zws ad ca μ1 0 layC ++ (zws ad2 ca ν 0 layM ++ [])) H locs := by rw [List.append_nil]; exact X
  refine lv_aload_n X.1.1 X.1.2.1 dL_law_670 rfl (lv_at hl 1 rfl) ?_
  refine lv_aload_n X.1.1 X.1.2.1 dL_law_671 rfl (lv_at hl 3 rfl) ?_
  refine lv_iload_n X.1.1 X.1.2.1 dL_law_672 rfl (lv_at hl 0 rfl) ?_
  refine lv_iconst (v := 1) X.1.1 X.1.2.1 dL_law_673 rfl ?_
  refine lv_iadd X.1.1 X.1.2.1 dL_law_674 ?_
  refine va_sld X.1.1 X.1.2.1 hX hbl hbA X.2.2.2 (lwin hi hL (j := 1) (by decide) rfl) dL_law_675 ?_
  refine W.eq (g2 := F0 m 676 ls ((([.int (xs (nI i + 1).toNatClampNeg)] : List Value).map (zmv ad2)).reverse ++ .ref (ad2 0) :: [.int v])) rfl ?_
  refine c_callZ (wa := zws ad ca μ1 0 layC) (wb := []) (lay := layM) (ad := ad2) (μ := ν) (dy := 1) X dL_law_676 zl_L_104 zy_X4_keep rfl rfl rfl (by decide) (by decide) (Nat.le_of_ble_eq_true rfl) hl.1 ⟨by decide, by decide⟩ hM (fun r ν1 H locs hr X => ?_)
  obtain ⟨rfl, hpm⟩ := hr
  rw [List.append_nil] at X
  exact lv_icmp_eq (x := v) (y := v) X.1.1 X.1.2.1 dL_law_679 (tgt := 744) (by decide) (fun _ => next _ _ _ _ X (hR _ _ hpc hpm)) (fun q => absurd rfl q)
theorem lw_back (X : cX mL p s m args meth c D ca A (zws ad ca μ 0 layC ++ zws ad2 ca ν 0 layM) H locs) (h : R μ ν) (hl : lv_has ls 4 [(3, .int (nI i)), (2, .ref (ad2 0)), (1, .ref (ad 0)), (0, .ref b)]) (hi : i + 4 ≤ L) (hL : L ≤ 256) (hX : va_X b L xs s s.heap) (hbl : b < s.heap.size) (hbA : ¬ A b)
    (next : ∀ (μ' ν' : ZMem) (H1 : Heap) (locs1 : List Loc), cX mL p s m args meth c D ca A (zws ad ca μ' 0 layC ++ zws ad2 ca ν' 0 layM) H1 locs1 → R μ' ν' → W p l e room_1 s m args below meth c H1 locs1 49 2105 Q (F0 m 744 ls [])) : W p l e room_1 s m args below meth c H locs 49 2105 Q (F0 m 684 ls []) := by
  obtain ⟨v, PC, PM, hC, hM, hR⟩ := e_back h (xs (nI i + 1).toNatClampNeg)
  refine lv_aload_n X.1.1 X.1.2.1 dL_law_684 rfl (lv_at hl 2 rfl) ?_
  refine lv_aload_n X.1.1 X.1.2.1 dL_law_685 rfl (lv_at hl 3 rfl) ?_
  refine lv_iload_n X.1.1 X.1.2.1 dL_law_686 rfl (lv_at hl 0 rfl) ?_
  refine lv_iconst (v := 1) X.1.1 X.1.2.1 dL_law_687 rfl ?_
  refine lv_iadd X.1.1 X.1.2.1 dL_law_688 ?_
  refine va_sld X.1.1 X.1.2.1 hX hbl hbA X.2.2.2 (lwin hi hL (j := 1) (by decide) rfl) dL_law_689 ?_
  refine W.eq (g2 := F0 m 690 ls ((([.int (xs (nI i + 1).toNatClampNeg)] : List Value).map (zmv ad)).reverse ++ .ref (ad 0) :: [])) rfl ?_
  refine c_callZ (wa := []) (wb := zws ad2 ca ν 0 layM) (lay := layC) (ad := ad) (μ := μ) (dy := 2) X dL_law_690 zl_L_105 zy_X3_back rfl rfl rfl (by decide) (by decide) (Nat.le_of_ble_eq_true rfl) hl.1 ⟨by decide, by decide⟩ hC (fun r μ1 H locs hr X => ?_)
  obtain ⟨rfl, hpc⟩ := hr
  replace X : cX mL p s m args meth c D ca A (zws ad ca μ1 0 layC ++ (zws ad2 ca ν 0 layM ++ [])) H locs := by rw [List.append_nil]; exact X
  refine lv_aload_n X.1.1 X.1.2.1 dL_law_693 rfl (lv_at hl 1 rfl) ?_
  refine lv_aload_n X.1.1 X.1.2.1 dL_law_694 rfl (lv_at hl 3 rfl) ?_
  refine lv_iload_n X.1.1 X.1.2.1 dL_law_695 rfl (lv_at hl 0 rfl) ?_
  refine lv_iconst (v := 1) X.1.1 X.1.2.1 dL_law_696 rfl ?_
  refine lv_iadd X.1.1 X.1.2.1 dL_law_697 ?_
  refine va_sld X.1.1 X.1.2.1 hX hbl hbA X.2.2.2 (lwin hi hL (j := 1) (by decide) rfl) dL_law_698 ?_
  refine W.eq (g2 := F0 m 699 ls ((([.int (xs (nI i + 1).toNatClampNeg)] : List Value).map (zmv ad2)).reverse ++ .ref (ad2 0) :: [.int v])) rfl ?_
  refine c_callZ (wa := zws ad ca μ1 0 layC) (wb := []) (lay := layM) (ad := ad2) (μ := ν) (dy := 1) X dL_law_699 zl_L_108 zy_X4_back rfl rfl rfl (by decide) (by decide) (Nat.le_of_ble_eq_true rfl) hl.1 ⟨by decide, by decide⟩ hM (fun r ν1 H locs hr X => ?_)
  obtain ⟨rfl, hpm⟩ := hr
  rw [List.append_nil] at X
  exact lv_icmp_eq (x := v) (y := v) X.1.1 X.1.2.1 dL_law_702 (tgt := 744) (by decide) (fun _ => next _ _ _ _ X (hR _ _ hpc hpm)) (fun q => absurd rfl q)
theorem lw_count (X : cX mL p s m args meth c D ca A (zws ad ca μ 0 layC ++ zws ad2 ca ν 0 layM) H locs) (h : R μ ν) (hl : lv_has ls 4 [(3, .int (nI i)), (2, .ref (ad2 0)), (1, .ref (ad 0)), (0, .ref b)]) (hi : i + 4 ≤ L) (hL : L ≤ 256) (hX : va_X b L xs s s.heap) (hbl : b < s.heap.size) (hbA : ¬ A b)
    (next : ∀ (μ' ν' : ZMem) (H1 : Heap) (locs1 : List Loc), cX mL p s m args meth c D ca A (zws ad ca μ' 0 layC ++ zws ad2 ca ν' 0 layM) H1 locs1 → R μ' ν' → W p l e room_1 s m args below meth c H1 locs1 49 2105 Q (F0 m 744 ls [])) : W p l e room_1 s m args below meth c H locs 49 2105 Q (F0 m 707 ls []) := by
  obtain ⟨v, PC, PM, hC, hM, hR⟩ := e_count h (xs (nI i + 1).toNatClampNeg)
  refine lv_aload_n X.1.1 X.1.2.1 dL_law_707 rfl (lv_at hl 2 rfl) ?_
  refine lv_aload_n X.1.1 X.1.2.1 dL_law_708 rfl (lv_at hl 3 rfl) ?_
  refine lv_iload_n X.1.1 X.1.2.1 dL_law_709 rfl (lv_at hl 0 rfl) ?_
  refine lv_iconst (v := 1) X.1.1 X.1.2.1 dL_law_710 rfl ?_
  refine lv_iadd X.1.1 X.1.2.1 dL_law_711 ?_
  refine va_sld X.1.1 X.1.2.1 hX hbl hbA X.2.2.2 (lwin hi hL (j := 1) (by decide) rfl) dL_law_712 ?_
  refine W.eq (g2 := F0 m 713 ls ((([.int (xs (nI i + 1).toNatClampNeg)] : List Value).map (zmv ad)).reverse ++ .ref (ad 0) :: [])) rfl ?_
  refine c_callZ (wa := []) (wb := zws ad2 ca ν 0 layM) (lay := layC) (ad := ad) (μ := μ) (dy := 0) X dL_law_713 zl_L_109 zy_X3_count rfl rfl rfl (by decide) (by decide) (Nat.le_of_ble_eq_true rfl) hl.1 ⟨by decide, by decide⟩ hC (fun r μ1 H locs hr X => ?_)
  obtain ⟨rfl, hpc⟩ := hr
  replace X : cX mL p s m args meth c D ca A (zws ad ca μ1 0 layC ++ (zws ad2 ca ν 0 layM ++ [])) H locs := by rw [List.append_nil]; exact X
  refine lv_aload_n X.1.1 X.1.2.1 dL_law_716 rfl (lv_at hl 1 rfl) ?_
  refine lv_aload_n X.1.1 X.1.2.1 dL_law_717 rfl (lv_at hl 3 rfl) ?_
  refine lv_iload_n X.1.1 X.1.2.1 dL_law_718 rfl (lv_at hl 0 rfl) ?_
  refine lv_iconst (v := 1) X.1.1 X.1.2.1 dL_law_719 rfl ?_
  refine lv_iadd X.1.1 X.1.2.1 dL_law_720 ?_
  refine va_sld X.1.1 X.1.2.1 hX hbl hbA X.2.2.2 (lwin hi hL (j := 1) (by decide) rfl) dL_law_721 ?_
  refine W.eq (g2 := F0 m 722 ls ((([.int (xs (nI i + 1).toNatClampNeg)] : List Value).map (zmv ad2)).reverse ++ .ref (ad2 0) :: [.int v])) rfl ?_
  refine c_callZ (wa := zws ad ca μ1 0 layC) (wb := []) (lay := layM) (ad := ad2) (μ := ν) (dy := 0) X dL_law_722 zl_L_112 zy_X4_count rfl rfl rfl (by decide) (by decide) (Nat.le_of_ble_eq_true rfl) hl.1 ⟨by decide, by decide⟩ hM (fun r ν1 H locs hr X => ?_)
  obtain ⟨rfl, hpm⟩ := hr
  rw [List.append_nil] at X
  exact lv_icmp_eq (x := v) (y := v) X.1.1 X.1.2.1 dL_law_725 (tgt := 744) (by decide) (fun _ => next _ _ _ _ X (hR _ _ hpc hpm)) (fun q => absurd rfl q)
theorem lw_trace (X : cX mL p s m args meth c D ca A (zws ad ca μ 0 layC ++ zws ad2 ca ν 0 layM) H locs) (h : R μ ν) (hl : lv_has ls 4 [(3, .int (nI i)), (2, .ref (ad2 0)), (1, .ref (ad 0)), (0, .ref b)]) (hi : i + 4 ≤ L) (hL : L ≤ 256) (hX : va_X b L xs s s.heap) (hbl : b < s.heap.size) (hbA : ¬ A b)
    (next : ∀ (μ' ν' : ZMem) (H1 : Heap) (locs1 : List Loc), cX mL p s m args meth c D ca A (zws ad ca μ' 0 layC ++ zws ad2 ca ν' 0 layM) H1 locs1 → R μ' ν' → W p l e room_1 s m args below meth c H1 locs1 49 2105 Q (F0 m 744 ls [])) : W p l e room_1 s m args below meth c H locs 49 2105 Q (F0 m 730 ls []) := by
  obtain ⟨v, hC, hM⟩ := e_trace h
  refine lv_aload_n X.1.1 X.1.2.1 dL_law_730 rfl (lv_at hl 2 rfl) ?_
  refine W.eq (g2 := F0 m 731 ls ((([] : List Value).map (zmv ad)).reverse ++ .ref (ad 0) :: [])) rfl ?_
  refine c_callZ (wa := []) (wb := zws ad2 ca ν 0 layM) (lay := layC) (ad := ad) (μ := μ) (dy := 0) X dL_law_731 zl_L_113 zy_X3_trace rfl rfl rfl (by decide) (by decide) (Nat.le_of_ble_eq_true rfl) hl.1 ⟨by decide, by decide⟩ hC (fun r μ1 H locs hr X => ?_)
  obtain ⟨rfl, hpc⟩ := hr
  replace X : cX mL p s m args meth c D ca A (zws ad ca μ1 0 layC ++ (zws ad2 ca ν 0 layM ++ [])) H locs := by rw [List.append_nil]; exact X
  refine lv_aload_n X.1.1 X.1.2.1 dL_law_734 rfl (lv_at hl 1 rfl) ?_
  refine W.eq (g2 := F0 m 735 ls ((([] : List Value).map (zmv ad2)).reverse ++ .ref (ad2 0) :: [.long v])) rfl ?_
  refine c_callZ (wa := zws ad ca μ1 0 layC) (wb := []) (lay := layM) (ad := ad2) (μ := ν) (dy := 0) X dL_law_735 zl_L_117 zy_X4_trace rfl rfl rfl (by decide) (by decide) (Nat.le_of_ble_eq_true rfl) hl.1 ⟨by decide, by decide⟩ hM (fun r ν1 H locs hr X => ?_)
  obtain ⟨rfl, hpm⟩ := hr
  rw [List.append_nil] at X
  refine W.lcmp (x := v) (y := v) X.1.1 X.1.2.1 dL_law_738 ?_
  exact lv_if_eq X.1.1 X.1.2.1 dL_law_739 (tgt := 744) (by decide) (fun _ => next _ _ _ _ X (by rw [hpc, hpm]; exact h)) (fun q => absurd (lg_cmp_self v) q)
end LWO

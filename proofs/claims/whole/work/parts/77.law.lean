/-! ===== the law's loop, and its beginning ===== -/
theorem l_31 (x : Int32) : ∃ K, K < 32 ∧ x &&& 31 = nI K := by
  have h31 : ∀ i, i < 32 → 5 ≤ i → bt 31 i = false := by decide +kernel
  exact b_lt (m := 5) (by omega) (fun i h1 h2 => by rw [b_and, h31 i h2 h1, Bool.and_false])
theorem l_len : ∀ L, L < 257 → (nI L - 4).toInt = (L : Int) - 4 := by decide +kernel
section LWL
variable {p : Program} {l : Launch} {e : Env} {s : State} {m : MethodId} {below : List Frame} {meth : Method} {c : Code} {D : va_G} {ca : Nat → ClassId} {ad ad2 : Nat → Nat} {b L : Nat} {xs : Nat → Int32}
theorem lw_loop (hL : L ≤ 256) (hX : va_X b L xs s s.heap) (hbl : b < s.heap.size) : ∀ k i, L + 4 ≤ i + k → i ≤ L + 4 → ∀ (μ ν : ZMem) (H : Heap) (locs : List Loc) (ls : Array Slot), cX mL p s m #[Value.ref b] meth c D ca (fun q => s.heap.size ≤ q) (zws ad ca μ 0 layC ++ zws ad2 ca ν 0 layM) H locs → R μ ν → lv_has ls 4 [(3, .int (nI i)), (2, .ref (ad2 0)), (1, .ref (ad 0)), (0, .ref b)] →
    W p l e room_1 s m #[Value.ref b] below meth c H locs 49 2105 (lw_Z below #[Value.ref b] s) (F0 m 18 ls []) := by
  have hbA : ¬ (fun q => s.heap.size ≤ q) b := fun q => by have : s.heap.size ≤ b := q; omega
  intro k
  induction k with
  | zero =>
    intro i h1 h2 μ ν H locs ls X hR hl
    refine lv_iload_n X.1.1 X.1.2.1 dL_law_18 rfl (lv_at hl 0 rfl) ?_
    refine lv_aload_n X.1.1 X.1.2.1 dL_law_19 rfl (lv_at hl 3 rfl) ?_
    refine va_slen X.1.1 X.1.2.1 hX hbl hbA X.2.2.2 dL_law_20 ?_
    refine lv_iconst (v := 4) X.1.1 X.1.2.1 dL_law_21 rfl ?_
    refine lv_isub X.1.1 X.1.2.1 dL_law_22 ?_
    refine lv_icmp_gt X.1.1 X.1.2.1 dL_law_23 (tgt := 750) (by decide) (fun _ => ?_) (fun q => ?_)
    · refine lv_iconst (v := 1) X.1.1 X.1.2.1 dL_law_750 rfl ?_
      exact va_forget (fun q hq => X.2.2.2.2.2 q hq) (lw_ret X.1.1 X.1.2.1 X.1.2.2.1 X.1.2.2.2.2.2.1 dL_law_751)
    · exfalso
      apply q
      apply Int32.lt_iff_toInt_lt.mpr
      show (nI L - 4).toInt < (nI i).toInt
      rw [l_len L (by omega), nI_toInt (by omega)]
      omega
  | succ k ih =>
    intro i h1 h2 μ ν H locs ls X hR hl
    refine lv_iload_n X.1.1 X.1.2.1 dL_law_18 rfl (lv_at hl 0 rfl) ?_
    refine lv_aload_n X.1.1 X.1.2.1 dL_law_19 rfl (lv_at hl 3 rfl) ?_
    refine va_slen X.1.1 X.1.2.1 hX hbl hbA X.2.2.2 dL_law_20 ?_
    refine lv_iconst (v := 4) X.1.1 X.1.2.1 dL_law_21 rfl ?_
    refine lv_isub X.1.1 X.1.2.1 dL_law_22 ?_
    refine lv_icmp_gt X.1.1 X.1.2.1 dL_law_23 (tgt := 750) (by decide) (fun _ => ?_) (fun q => ?_)
    · refine lv_iconst (v := 1) X.1.1 X.1.2.1 dL_law_750 rfl ?_
      exact va_forget (fun q hq => X.2.2.2.2.2 q hq) (lw_ret X.1.1 X.1.2.1 X.1.2.2.1 X.1.2.2.2.2.2.1 dL_law_751)
    · have hi : i + 4 ≤ L := by
        have q2 : ¬ (nI L - 4) < nI i := q
        rw [Int32.lt_iff_toInt_lt, l_len L (by omega), nI_toInt (by omega)] at q2
        omega
      refine lv_aload_n X.1.1 X.1.2.1 dL_law_26 rfl (lv_at hl 3 rfl) ?_
      refine lv_iload_n X.1.1 X.1.2.1 dL_law_27 rfl (lv_at hl 0 rfl) ?_
      refine va_sld X.1.1 X.1.2.1 hX hbl hbA X.2.2.2 (by
        intro q
        rcases q with q | q
        · exact nI_pos (by omega) q
        · rw [nI_clamp (by omega)] at q; omega) dL_law_28 ?_
      refine lv_bipush (v := 31) X.1.1 X.1.2.1 dL_law_29 rfl ?_
      refine lv_iand X.1.1 X.1.2.1 dL_law_31 ?_
      have next : ∀ (μ' ν' : ZMem) (H1 : Heap) (locs1 : List Loc), cX mL p s m #[Value.ref b] meth c D ca (fun q => s.heap.size ≤ q) (zws ad ca μ' 0 layC ++ zws ad2 ca ν' 0 layM) H1 locs1 → R μ' ν' → W p l e room_1 s m #[Value.ref b] below meth c H1 locs1 49 2105 (lw_Z below #[Value.ref b] s) (F0 m 744 ls []) := by
        intro μ' ν' H1 locs1 X hR
        refine lv_iinc (k := 0) (v := nI (i + 4)) X.1.1 X.1.2.1 dL_law_744 hl rfl (nI_add i 4) (by decide) rfl (fun ls' hl' => ?_)
        refine lv_goto X.1.1 X.1.2.1 dL_law_747 (tgt := 18) (by decide) ?_
        exact ih (i + 4) (by omega) (by omega) μ' ν' H1 locs1 ls' X hR hl'
      obtain ⟨K, hK, eK⟩ := l_31 (xs (nI i).toNatClampNeg)
      rw [eK]
      by_cases h25 : K < 25
      · rcases (show K = 0 ∨ K = 1 ∨ K = 2 ∨ K = 3 ∨ K = 4 ∨ K = 5 ∨ K = 6 ∨ K = 7 ∨ K = 8 ∨ K = 9 ∨ K = 10 ∨ K = 11 ∨ K = 12 ∨ K = 13 ∨ K = 14 ∨ K = 15 ∨ K = 16 ∨ K = 17 ∨ K = 18 ∨ K = 19 ∨ K = 20 ∨ K = 21 ∨ K = 22 ∨ K = 23 ∨ K = 24 by omega) with rfl | rfl | rfl | rfl | rfl | rfl | rfl | rfl | rfl | rfl | rfl | rfl | rfl | rfl | rfl | rfl | rfl | rfl | rfl | rfl | rfl | rfl | rfl | rfl | rfl
        · refine lv_tableIn (x := nI 0) X.1.1 X.1.2.1 dL_law_32 (by decide) (by decide) (off := 116) (by decide) (tgt := 148) (by decide) ?_
          exact lw_type X hR hl hi hL hX hbl hbA next
        · refine lv_tableIn (x := nI 1) X.1.1 X.1.2.1 dL_law_32 (by decide) (by decide) (off := 139) (by decide) (tgt := 171) (by decide) ?_
          exact lw_clear X hR hl hi hL hX hbl hbA next
        · refine lv_tableIn (x := nI 2) X.1.1 X.1.2.1 dL_law_32 (by decide) (by decide) (off := 152) (by decide) (tgt := 184) (by decide) ?_
          exact lw_duchy X hR hl hi hL hX hbl hbA next
        · refine lv_tableIn (x := nI 3) X.1.1 X.1.2.1 dL_law_32 (by decide) (by decide) (off := 165) (by decide) (tgt := 197) (by decide) ?_
          exact lw_saying X hR hl hi hL hX hbl hbA next
        · refine lv_tableIn (x := nI 4) X.1.1 X.1.2.1 dL_law_32 (by decide) (by decide) (off := 198) (by decide) (tgt := 230) (by decide) ?_
          exact lw_person X hR hl hi hL hX hbl hbA next
        · refine lv_tableIn (x := nI 5) X.1.1 X.1.2.1 dL_law_32 (by decide) (by decide) (off := 231) (by decide) (tgt := 263) (by decide) ?_
          exact lw_talk X hR hl hi hL hX hbl hbA next
        · refine lv_tableIn (x := nI 6) X.1.1 X.1.2.1 dL_law_32 (by decide) (by decide) (off := 264) (by decide) (tgt := 296) (by decide) ?_
          exact lw_hears X hR hl hi hL hX hbl hbA next
        · refine lv_tableIn (x := nI 7) X.1.1 X.1.2.1 dL_law_32 (by decide) (by decide) (off := 287) (by decide) (tgt := 319) (by decide) ?_
          exact lw_says X hR hl hi hL hX hbl hbA next
        · refine lv_tableIn (x := nI 8) X.1.1 X.1.2.1 dL_law_32 (by decide) (by decide) (off := 320) (by decide) (tgt := 352) (by decide) ?_
          exact lw_hour X hR hl hi hL hX hbl hbA next
        · refine lv_tableIn (x := nI 9) X.1.1 X.1.2.1 dL_law_32 (by decide) (by decide) (off := 333) (by decide) (tgt := 365) (by decide) ?_
          exact lw_undo X hR hl hi hL hX hbl hbA next
        · refine lv_tableIn (x := nI 10) X.1.1 X.1.2.1 dL_law_32 (by decide) (by decide) (off := 346) (by decide) (tgt := 378) (by decide) ?_
          exact lw_now X hR hl hi hL hX hbl hbA next
        · refine lv_tableIn (x := nI 11) X.1.1 X.1.2.1 dL_law_32 (by decide) (by decide) (off := 369) (by decide) (tgt := 401) (by decide) ?_
          exact lw_worth X hR hl hi hL hX hbl hbA next
        · refine lv_tableIn (x := nI 12) X.1.1 X.1.2.1 dL_law_32 (by decide) (by decide) (off := 392) (by decide) (tgt := 424) (by decide) ?_
          exact lw_chain X hR hl hi hL hX hbl hbA next
        · refine lv_tableIn (x := nI 13) X.1.1 X.1.2.1 dL_law_32 (by decide) (by decide) (off := 425) (by decide) (tgt := 457) (by decide) ?_
          exact lw_sounds X hR hl hi hL hX hbl hbA next
        · refine lv_tableIn (x := nI 14) X.1.1 X.1.2.1 dL_law_32 (by decide) (by decide) (off := 448) (by decide) (tgt := 480) (by decide) ?_
          exact lw_began X hR hl hi hL hX hbl hbA next
        · refine lv_tableIn (x := nI 15) X.1.1 X.1.2.1 dL_law_32 (by decide) (by decide) (off := 471) (by decide) (tgt := 503) (by decide) ?_
          exact lw_odds X hR hl hi hL hX hbl hbA next
        · refine lv_tableIn (x := nI 16) X.1.1 X.1.2.1 dL_law_32 (by decide) (by decide) (off := 514) (by decide) (tgt := 546) (by decide) ?_
          exact lw_tells X hR hl hi hL hX hbl hbA next
        · refine lv_tableIn (x := nI 17) X.1.1 X.1.2.1 dL_law_32 (by decide) (by decide) (off := 547) (by decide) (tgt := 579) (by decide) ?_
          exact lw_forget X hR hl hi hL hX hbl hbA next
        · refine lv_tableIn (x := nI 18) X.1.1 X.1.2.1 dL_law_32 (by decide) (by decide) (off := 560) (by decide) (tgt := 592) (by decide) ?_
          exact lw_fits X hR hl hi hL hX hbl hbA next
        · refine lv_tableIn (x := nI 19) X.1.1 X.1.2.1 dL_law_32 (by decide) (by decide) (off := 573) (by decide) (tgt := 605) (by decide) ?_
          exact lw_orders X hR hl hi hL hX hbl hbA next
        · refine lv_tableIn (x := nI 20) X.1.1 X.1.2.1 dL_law_32 (by decide) (by decide) (off := 596) (by decide) (tgt := 628) (by decide) ?_
          exact lw_mark X hR hl hi hL hX hbl hbA next
        · refine lv_tableIn (x := nI 21) X.1.1 X.1.2.1 dL_law_32 (by decide) (by decide) (off := 629) (by decide) (tgt := 661) (by decide) ?_
          exact lw_keep X hR hl hi hL hX hbl hbA next
        · refine lv_tableIn (x := nI 22) X.1.1 X.1.2.1 dL_law_32 (by decide) (by decide) (off := 652) (by decide) (tgt := 684) (by decide) ?_
          exact lw_back X hR hl hi hL hX hbl hbA next
        · refine lv_tableIn (x := nI 23) X.1.1 X.1.2.1 dL_law_32 (by decide) (by decide) (off := 675) (by decide) (tgt := 707) (by decide) ?_
          exact lw_count X hR hl hi hL hX hbl hbA next
        · refine lv_tableIn (x := nI 24) X.1.1 X.1.2.1 dL_law_32 (by decide) (by decide) (off := 698) (by decide) (tgt := 730) (by decide) ?_
          exact lw_trace X hR hl hi hL hX hbl hbA next
      · refine lv_tableOut X.1.1 X.1.2.1 dL_law_32 (Or.inr (by rw [nI_toInt (by omega)]; omega)) (tgt := 744) (by decide) ?_
        exact next μ ν H locs X hR
end LWL
theorem zarr {s : State} {args : Array Value} {ty : FieldType} (h : (Cond.arrayClass ty).before args s = true) : ∃ cA, ArrOfT s cA ty ∧ s.vm.findClass ("[" ++ ty.toString) = some cA := by
  obtain ⟨cA, kA, comp, h1, h2, h3⟩ := Cond.arrayClass_spec h
  exact ⟨cA, fun n z => ⟨fun k h => (by cases h), kA, h2, comp, h3⟩, h1⟩
theorem whole_start {p : Program} {e : Env} {s : State} {m : MethodId} {below : List Frame} {meth : Method} {c : Code} (l : Launch) {b L : Nat} {xs : Nat → Int32} (hL : L ≤ 256) (C0 : lw_At p s m meth c b L xs) : W p l e room_1 s m #[Value.ref b] below meth c s.heap [] 0 0 (lw_Z below #[Value.ref b] s) (entryFrame m ([Value.ref b] : List Value).toArray 4) := by
  obtain ⟨hx, hb, hr, hml, hown, hts0, hX, hbl, hlocks, -⟩ := C0
  have hts : ∀ w ∈ ztbl, w.before #[Value.ref b] s = true := fun w hw => hts0 w (List.mem_filter.mp hw).1
  obtain ⟨c0, i0, k0⟩ := u_known hts zu_X0 (hts _ zm_1_48)
  obtain ⟨c1, i1, k1⟩ := u_known hts zu_X1 (hts _ zm_1_90)
  obtain ⟨c2, i2, k2⟩ := u_known hts zu_X2 (hts _ zm_1_18)
  obtain ⟨c3, i3, k3⟩ := u_known hts zu_X3 (hts _ zm_1_10)
  obtain ⟨c4, i4, k4⟩ := u_known hts zu_X4 (hts _ zm_3_68)
  obtain ⟨a0, r0, f0⟩ := zarr (hts _ zm_1_46)
  obtain ⟨a1, r1, f1⟩ := zarr (hts _ zm_3_148)
  obtain ⟨a2, r2, f2⟩ := zarr (hts _ zm_3_149)
  have hN : ∀ w ∈ znest, va_Nw w s := by
    intro w hw
    have hn := List.all_eq_true.mp znest_is w hw
    have h1 := hts0 w (znest_in w hw)
    cases w <;> first | exact va_Nw.of rfl h1 | (exact absurd hn (by decide)) | (simp [zisNest] at hn)
  generalize hca : (fun k => match k with | 0 => a0 | 1 => a1 | _ => a2 : Nat → ClassId) = ca
  generalize hDD : ((fun k => match k with | 0 => c0 | 1 => c1 | 2 => c2 | 3 => c3 | _ => c4, fun k => match k with | 0 => i0 | 1 => i1 | 2 => i2 | 3 => i3 | _ => i4) : va_G) = D
  have hK : va_K D vwCl (ztys ca) s := by
    rw [← hDD, ← hca]
    refine ⟨fun c q hq => ?_, fun k q hq => ?_⟩
    · match c, hq with
      | 0, hq => cases hq; exact k0
      | 1, hq => cases hq; exact k1
      | 2, hq => cases hq; exact k2
      | 3, hq => cases hq; exact k3
      | 4, hq => cases hq; exact k4
    · match k, hq with
      | 0, hq => cases hq; exact ⟨r0, f0⟩
      | 1, hq => cases hq; exact ⟨r1, f1⟩
      | 2, hq => cases hq; exact ⟨r2, f2⟩
  have X : cX mL p s m #[Value.ref b] meth c D ca (fun q => s.heap.size ≤ q) [] s.heap [] := ⟨⟨hx, hb, hr, hml, hown, hlocks, hts, hN, hK, fun q h => h⟩, fun k q hq => by simp at hq, ⟨fun i j x z hx => by simp at hx, fun k q hq => by simp at hq⟩, va_S.rf⟩
  have hl := lv_entry ([.ref b]) (n := 4) (Nat.le_of_ble_eq_true rfl)
  rw [lg_entry_eq]
  generalize (lg_sl ([.ref b]) ++ List.replicate (4 - (lg_sl ([.ref b])).length) Slot.unset).toArray = ls at hl ⊢
  have hl : lv_has ls 4 [(0, .ref b)] := hl
  refine c_new (ci := 3) (N := 11) (fs := [.null, .null, .null, .null, .null, .null, .null, .int 0, .null, .null, .long 0]) (C := RX3) (T := TX3) (ty := tyX3) X rfl zu_X3 tyX3_ok zm_1_9 zm_1_10 zm_1_1 (fun j hj => by revert j; decide) (by decide) (by decide) dL_law_0 (fun q0 H Xa => ?_)
  refine lv_dup Xa.1.1 Xa.1.2.1 dL_law_3 rfl ?_
  refine c_init Xa zyi_X3 zl_L_9 cs_X3 (by decide) (by decide) (Nat.le_of_ble_eq_true rfl) hl.1 ⟨by decide, by decide⟩ dL_law_4 (fun w1 H locs hw Xb => ?_)
  obtain ⟨ad, had, rfl⟩ := hw
  refine lv_astore_n Xb.1.1 Xb.1.2.1 dL_law_7 rfl hl (by decide) rfl (fun ls hl => ?_)
  refine c_new (ci := 4) (N := 22) (fs := [.long 0, .null, .int 0, .null, .null, .null, .null, .null, .null, .null, .int 0, .int 0, .int 0, .int 0, .int 0, .int 0, .null, .null, .null, .null, .int 0, .null]) (C := RX4) (T := TX4) (ty := tyX4) Xb rfl zu_X4 tyX4_ok zm_3_67 zm_3_68 zm_1_5 (fun j hj => by revert j; decide) (by decide) (by decide) dL_law_8 (fun q1 H Xc => ?_)
  refine lv_dup Xc.1.1 Xc.1.2.1 dL_law_11 rfl ?_
  refine c_init Xc zyi_X4 zl_L_12 cs_X4 (by decide) (by decide) (Nat.le_of_ble_eq_true rfl) hl.1 ⟨by decide, by decide⟩ dL_law_12 (fun w2 H locs hw Xd => ?_)
  obtain ⟨ad2, had2, rfl⟩ := hw
  refine lv_astore_n Xd.1.1 Xd.1.2.1 dL_law_15 rfl hl (by decide) rfl (fun ls hl => ?_)
  refine lv_iconst (v := 0) Xd.1.1 Xd.1.2.1 dL_law_16 rfl ?_
  refine lv_istore_n Xd.1.1 Xd.1.2.1 dL_law_17 rfl hl (by decide) rfl (fun ls hl => ?_)
  subst had
  subst had2
  exact lw_loop hL hX hbl (L + 4) 0 (by omega) (by omega) μC0 μM0 H locs ls Xd R_start hl

/-! ===== the reference: its deeds on the row 'now' (cell 9) ===== -/
theorem zrow_self (μ : ZMem) (r : Nat) : zrow μ r (μ.1 r) = μ := by
  refine Prod.ext (funext fun a => funext fun b => ?_) rfl
  simp only [zrow]
  by_cases ha : a = r <;> simp [ha]
/-- the row's undo stack, its oldest gone -/
def zshf (N : Nat → Int32) (k : Nat) : Nat → Int32 := fun i => if 123 ≤ i ∧ i < 123 + k then N (i + 2) else N i
theorem zshf_0 (N : Nat → Int32) : zshf N 0 = N := by
  funext i
  unfold zshf
  rw [if_neg (by omega)]
theorem zshf_s (N : Nat → Int32) (k : Nat) : upd (zshf N k) (123 + k) (zshf N k (125 + k)) = zshf N (k + 1) := by
  funext i
  unfold upd zshf
  by_cases e : i = 123 + k
  · subst e
    rw [if_pos rfl, if_neg (by omega), if_pos (by omega), show 125 + k = 123 + k + 2 by omega]
  · rw [if_neg e]
    by_cases h : 123 ≤ i ∧ i < 123 + k
    · rw [if_pos h, if_pos (by omega)]
    · rw [if_neg h, if_neg (by omega)]
def zkt (f : Nat → Int32) (u : Nat) : Nat → Int32 := upd (upd (upd f (123 + 2 * u) (f 120)) (123 + 2 * u + 1) (f 121)) 122 (nI u + 1)
def zknw (N : Nat → Int32) (u : Nat) : Nat → Int32 := if u = 12 then zkt (upd (zshf N 22) 122 (nI 11)) 11 else zkt N u
theorem zix2 {u : Nat} : (123 : Int32) + 2 * nI u = nI (123 + 2 * u) := by
  rw [show (2 : Int32) * nI u = nI (2 * u) from pk_mul 2 u]
  exact zix 123 (2 * u) rfl
theorem zI_rr (μ : ZMem) (r k : Nat) (f : Nat → Int32) (v : Int32) : zI (zrow μ r f) r k v = zrow μ r (upd f k v) := by
  rw [zI_row, zrow_r, zrow_row]
theorem sp_know {μ : ZMem} {u : Nat} (hu : μ.1 9 122 = nI u) (h12 : u ≤ 12) : Sp layM mX4_know 0 [.ref 0] μ none (zrow μ 9 (zknw (μ.1 9) u)) := by
  refine Sp.mk (L := [some (.ref 0), none]) rfl (by decide +kernel) rfl rfl (fun Q hQ => ?_)
  have tail : ∀ (f : Nat → Int32) (m : Nat) z, f 122 = nI m → m < 12 → Q none (zrow μ 9 (zkt f m)) → ZW layM mX4_know 0 Q 55 [some (.ref 0), z] [] (zrow μ 9 f) := by
    intro f m z hf hm hQ'
    have hf' : (zrow μ 9 f).1 9 122 = nI m := hf
    refine z_aload_n dX4_know_55 rfl ?_
    refine z_getR dX4_know_56 zf_X4_35 (by first | rfl | assumption) rfl ?_
    refine z_bipush (v := 123) dX4_know_59 (by decide) ?_
    refine z_iconst (v := 2) dX4_know_61 (by decide) ?_
    refine z_aload_n dX4_know_62 rfl ?_
    refine z_getR dX4_know_63 zf_X4_35 (by first | rfl | assumption) rfl ?_
    refine z_bipush (v := 122) dX4_know_66 (by decide) ?_
    refine z_iald dX4_know_68 (by first | rfl | assumption) rfl (by first | assumption | omega | decide) (by decide) ?_
    rw [hf']
    refine z_imul dX4_know_69 ?_
    refine z_iadd dX4_know_70 ?_
    refine z_aload_n dX4_know_71 rfl ?_
    refine z_getR dX4_know_72 zf_X4_35 (by first | rfl | assumption) rfl ?_
    refine z_bipush (v := 120) dX4_know_75 (by decide) ?_
    refine z_iald dX4_know_77 (by first | rfl | assumption) rfl (by first | assumption | omega | decide) (by decide) ?_
    refine z_iast dX4_know_78 (by first | rfl | assumption) zix2 (by omega) (by decide) ?_
    rw [show (zrow μ 9 f).1 9 120 = f 120 from rfl, zI_rr]
    have hg : (zrow μ 9 (upd f (123 + 2 * m) (f 120))).1 9 122 = nI m := by
      show upd f (123 + 2 * m) (f 120) 122 = nI m
      rw [pk_un (by omega)]; exact hf
    refine z_aload_n dX4_know_79 rfl ?_
    refine z_getR dX4_know_80 zf_X4_35 (by first | rfl | assumption) rfl ?_
    refine z_bipush (v := 123) dX4_know_83 (by decide) ?_
    refine z_iconst (v := 2) dX4_know_85 (by decide) ?_
    refine z_aload_n dX4_know_86 rfl ?_
    refine z_getR dX4_know_87 zf_X4_35 (by first | rfl | assumption) rfl ?_
    refine z_bipush (v := 122) dX4_know_90 (by decide) ?_
    refine z_iald dX4_know_92 (by first | rfl | assumption) rfl (by first | assumption | omega | decide) (by decide) ?_
    rw [hg]
    refine z_imul dX4_know_93 ?_
    refine z_iadd dX4_know_94 ?_
    refine z_iconst (v := 1) dX4_know_95 (by decide) ?_
    refine z_iadd dX4_know_96 ?_
    refine z_aload_n dX4_know_97 rfl ?_
    refine z_getR dX4_know_98 zf_X4_35 (by first | rfl | assumption) rfl ?_
    refine z_bipush (v := 121) dX4_know_101 (by decide) ?_
    refine z_iald dX4_know_103 (by first | rfl | assumption) rfl (by first | assumption | omega | decide) (by decide) ?_
    refine z_iast dX4_know_104 (by first | rfl | assumption) (by rw [zix2, nI_1]) (by omega) (by decide) ?_
    rw [show (zrow μ 9 (upd f (123 + 2 * m) (f 120))).1 9 121 = f 121 from (show upd f (123 + 2 * m) (f 120) 121 = f 121 from pk_un (by omega)), zI_rr]
    refine z_aload_n dX4_know_105 rfl ?_
    refine z_getR dX4_know_106 zf_X4_35 (by first | rfl | assumption) rfl ?_
    refine z_bipush (v := 122) dX4_know_109 (by decide) ?_
    refine z_dup2 dX4_know_111 rfl rfl ?_
    refine z_iald dX4_know_112 (by first | rfl | assumption) rfl (by first | assumption | omega | decide) (by decide) ?_
    refine z_iconst (v := 1) dX4_know_113 (by decide) ?_
    refine z_iadd dX4_know_114 ?_
    refine z_iast dX4_know_115 (by first | rfl | assumption) rfl (by first | assumption | omega | decide) (by decide) ?_
    rw [show (zrow μ 9 (upd (upd f (123 + 2 * m) (f 120)) (123 + 2 * m + 1) (f 121))).1 9 122 = nI m from (by
      show upd (upd f (123 + 2 * m) (f 120)) (123 + 2 * m + 1) (f 121) 122 = nI m
      rw [pk_un (by omega), pk_un (by omega)]; exact hf), zI_rr]
    refine z_vret dX4_know_116 rfl ?_
    exact hQ'
  by_cases he : u = 12
  · subst he
    have hQ' : Q none (zrow μ 9 (zkt (upd (zshf (μ.1 9) 22) 122 (nI 11)) 11)) := by
      have e : zknw (μ.1 9) 12 = zkt (upd (zshf (μ.1 9) 22) 122 (nI 11)) 11 := if_pos rfl
      rw [← e]; exact hQ
    refine z_aload_n dX4_know_0 rfl ?_
    refine z_getR dX4_know_1 zf_X4_35 (by first | rfl | assumption) rfl ?_
    refine z_bipush (v := 122) dX4_know_4 (by decide) ?_
    refine z_iald dX4_know_6 (by first | rfl | assumption) rfl (by first | assumption | omega | decide) (by decide) ?_
    refine z_bipush (v := 12) dX4_know_7 (by decide) ?_
    refine z_icmp_ne (tgt := 55) dX4_know_9 (by decide) (fun hx_ => absurd (hu) hx_) (fun _ => ?_)
    refine z_iconst (v := 0) dX4_know_12 (by decide) ?_
    refine z_istore_n (i := 1) dX4_know_13 rfl (by decide) ?_
    have key := zdown (P := fun k => ZW layM mX4_know 0 Q 14 [some (.ref 0), some (.int (nI k))] [] (zrow μ 9 (zshf (μ.1 9) k))) 22 ?_ ?_ 0 (Nat.zero_le _)
    · exact ZW.eq key rfl rfl rfl (by rw [zshf_0, zrow_self])
    · refine z_iload_n dX4_know_14 rfl ?_
      refine z_bipush (v := 22) dX4_know_15 (by decide) ?_
      refine z_icmp_ge (tgt := 44) dX4_know_17 (by decide) (fun _ => ?_) (fun hx_ => absurd (by decide) hx_)
      refine z_aload_n dX4_know_44 rfl ?_
      refine z_getR dX4_know_45 zf_X4_35 (by first | rfl | assumption) rfl ?_
      refine z_bipush (v := 122) dX4_know_48 (by decide) ?_
      refine z_dup2 dX4_know_50 rfl rfl ?_
      refine z_iald dX4_know_51 (by first | rfl | assumption) rfl (by first | assumption | omega | decide) (by decide) ?_
      refine z_iconst (v := 1) dX4_know_52 (by decide) ?_
      refine z_isub dX4_know_53 ?_
      refine z_iast dX4_know_54 (by first | rfl | assumption) rfl (by first | assumption | omega | decide) (by decide) ?_
      rw [show (zrow μ 9 (zshf (μ.1 9) 22)).1 9 122 = nI 12 from (by show zshf (μ.1 9) 22 122 = nI 12; unfold zshf; rw [if_neg (by omega)]; exact hu), show nI 12 - 1 = nI 11 by decide, zI_rr]
      exact tail _ 11 _ (by rw [pk_us]) (by omega) hQ'
    · intro k hk ih
      refine z_iload_n dX4_know_14 rfl ?_
      refine z_bipush (v := 22) dX4_know_15 (by decide) ?_
      refine z_icmp_ge (tgt := 44) dX4_know_17 (by decide) (fun hx_ => absurd hx_ (nI_ge (b := 22) (by omega) (by decide))) (fun _ => ?_)
      refine z_aload_n dX4_know_20 rfl ?_
      refine z_getR dX4_know_21 zf_X4_35 (by first | rfl | assumption) rfl ?_
      refine z_bipush (v := 123) dX4_know_24 (by decide) ?_
      refine z_iload_n dX4_know_26 rfl ?_
      refine z_iadd dX4_know_27 ?_
      refine z_aload_n dX4_know_28 rfl ?_
      refine z_getR dX4_know_29 zf_X4_35 (by first | rfl | assumption) rfl ?_
      refine z_bipush (v := 125) dX4_know_32 (by decide) ?_
      refine z_iload_n dX4_know_34 rfl ?_
      refine z_iadd dX4_know_35 ?_
      refine z_iald dX4_know_36 (by first | rfl | assumption) (zix 125 k rfl) (by omega) (by decide) ?_
      refine z_iast dX4_know_37 (by first | rfl | assumption) (zix 123 k rfl) (by omega) (by decide) ?_
      rw [show (zrow μ 9 (zshf (μ.1 9) k)).1 9 (125 + k) = zshf (μ.1 9) k (125 + k) from rfl, zI_rr, zshf_s]
      refine z_iinc (v := 1) dX4_know_38 rfl (by decide) (by decide) ?_
      refine z_goto (tgt := 14) dX4_know_41 (by decide) ?_
      exact ZW.eq ih rfl (by rw [nI_succ k]; rfl)
  · have hQ' : Q none (zrow μ 9 (zkt (μ.1 9) u)) := by
      have e : zknw (μ.1 9) u = zkt (μ.1 9) u := if_neg he
      rw [← e]; exact hQ
    refine z_aload_n dX4_know_0 rfl ?_
    refine z_getR dX4_know_1 zf_X4_35 (by first | rfl | assumption) rfl ?_
    refine z_bipush (v := 122) dX4_know_4 (by decide) ?_
    refine z_iald dX4_know_6 (by first | rfl | assumption) rfl (by first | assumption | omega | decide) (by decide) ?_
    refine z_bipush (v := 12) dX4_know_7 (by decide) ?_
    refine z_icmp_ne (tgt := 55) dX4_know_9 (by decide) (fun _ => ?_) (fun hx_ => absurd hx_ (fun e => he ((nI_eq (b := 12) (by omega) (by decide)).mp (hu.symm.trans e))))
    exact ZW.eq (tail (μ.1 9) u none hu (by omega) hQ') rfl rfl rfl (by rw [zrow_self])
/-- one more in talk -/
def zaN (f : Nat → Int32) (n : Nat) (w p a : Int32) : Nat → Int32 := upd (upd (upd (upd (upd f n w) (30 + n) (f 121)) (60 + n) p) (90 + n) a) 120 (nI n + 1)
theorem zkt_at {f : Nat → Int32} {u i : Nat} (h1 : i ≠ 122) (h2 : i < 123 ∨ 147 ≤ i) (hu : u < 12) : zkt f u i = f i := by
  unfold zkt
  rw [pk_un h1, pk_un (by omega), pk_un (by omega)]
theorem zknw_at {N : Nat → Int32} {u i : Nat} (h1 : i ≠ 122) (h2 : i < 123 ∨ 147 ≤ i) (hu : u ≤ 12) : zknw N u i = N i := by
  unfold zknw
  by_cases he : u = 12
  · rw [if_pos he, zkt_at h1 h2 (by omega), pk_un h1]
    unfold zshf
    rw [if_neg (by omega)]
  · rw [if_neg he, zkt_at h1 h2 (by omega)]
theorem sp_addM {μ : ZMem} {u n : Nat} (hu : μ.1 9 122 = nI u) (h12 : u ≤ 12) (hn : μ.1 9 120 = nI n) (h30 : n < 30) (w p a : Int32) : Sp layM mX4_add 1 [.ref 0, .int w, .int p, .int a] μ none (zrow μ 9 (zaN (zknw (μ.1 9) u) n w p a)) := by
  refine Sp.mk (L := [some (.ref 0), some (.int w), some (.int p), some (.int a), none]) rfl (by decide +kernel) rfl rfl (fun Q hQ => ?_)
  generalize hf : zknw (μ.1 9) u = f at hQ
  have hk : Sp layM mX4_know 0 [.ref 0] μ none (zrow μ 9 f) := by rw [← hf]; exact sp_know hu h12
  have f120 : f 120 = nI n := by rw [← hf, zknw_at (by omega) (by omega) h12]; exact hn
  refine z_aload_n dX4_add_0 rfl ?_
  refine z_cV0v (dy := 0) dX4_add_1 zl_X4_148 zy_X4_know (by first | rfl | assumption) rfl (by decide) (Nat.le_of_ble_eq_true rfl) hk ?_
  refine z_aload_n dX4_add_4 rfl ?_
  refine z_getR dX4_add_5 zf_X4_35 (by first | rfl | assumption) rfl ?_
  refine z_bipush (v := 120) dX4_add_8 (by decide) ?_
  refine z_iald dX4_add_10 (by first | rfl | assumption) rfl (by first | assumption | omega | decide) (by decide) ?_
  rw [show (zrow μ 9 f).1 9 120 = nI n from f120]
  refine z_istore dX4_add_11 (by decide) ?_
  refine z_aload_n dX4_add_13 rfl ?_
  refine z_getR dX4_add_14 zf_X4_35 (by first | rfl | assumption) rfl ?_
  refine z_iconst (v := 0) dX4_add_17 (by decide) ?_
  refine z_iload dX4_add_18 rfl ?_
  refine z_iadd dX4_add_20 ?_
  refine z_iload_n dX4_add_21 rfl ?_
  refine z_iast dX4_add_22 (by first | rfl | assumption) (zix0 n) (by omega) (by decide) ?_
  rw [zI_rr]
  refine z_aload_n dX4_add_23 rfl ?_
  refine z_getR dX4_add_24 zf_X4_35 (by first | rfl | assumption) rfl ?_
  refine z_bipush (v := 30) dX4_add_27 (by decide) ?_
  refine z_iload dX4_add_29 rfl ?_
  refine z_iadd dX4_add_31 ?_
  refine z_aload_n dX4_add_32 rfl ?_
  refine z_getR dX4_add_33 zf_X4_35 (by first | rfl | assumption) rfl ?_
  refine z_bipush (v := 121) dX4_add_36 (by decide) ?_
  refine z_iald dX4_add_38 (by first | rfl | assumption) rfl (by first | assumption | omega | decide) (by decide) ?_
  refine z_iast dX4_add_39 (by first | rfl | assumption) (zix 30 n rfl) (by omega) (by decide) ?_
  rw [show (zrow μ 9 (upd f n w)).1 9 121 = f 121 from (show upd f n w 121 = f 121 from pk_un (by omega)), zI_rr]
  refine z_aload_n dX4_add_40 rfl ?_
  refine z_getR dX4_add_41 zf_X4_35 (by first | rfl | assumption) rfl ?_
  refine z_bipush (v := 60) dX4_add_44 (by decide) ?_
  refine z_iload dX4_add_46 rfl ?_
  refine z_iadd dX4_add_48 ?_
  refine z_iload_n dX4_add_49 rfl ?_
  refine z_iast dX4_add_50 (by first | rfl | assumption) (zix 60 n rfl) (by omega) (by decide) ?_
  rw [zI_rr]
  refine z_aload_n dX4_add_51 rfl ?_
  refine z_getR dX4_add_52 zf_X4_35 (by first | rfl | assumption) rfl ?_
  refine z_bipush (v := 90) dX4_add_55 (by decide) ?_
  refine z_iload dX4_add_57 rfl ?_
  refine z_iadd dX4_add_59 ?_
  refine z_iload_n dX4_add_60 rfl ?_
  refine z_iast dX4_add_61 (by first | rfl | assumption) (zix 90 n rfl) (by omega) (by decide) ?_
  rw [zI_rr]
  refine z_aload_n dX4_add_62 rfl ?_
  refine z_getR dX4_add_63 zf_X4_35 (by first | rfl | assumption) rfl ?_
  refine z_bipush (v := 120) dX4_add_66 (by decide) ?_
  refine z_dup2 dX4_add_68 rfl rfl ?_
  refine z_iald dX4_add_69 (by first | rfl | assumption) rfl (by first | assumption | omega | decide) (by decide) ?_
  refine z_iconst (v := 1) dX4_add_70 (by decide) ?_
  refine z_iadd dX4_add_71 ?_
  refine z_iast dX4_add_72 (by first | rfl | assumption) rfl (by first | assumption | omega | decide) (by decide) ?_
  rw [show (zrow μ 9 (upd (upd (upd (upd f n w) (30 + n) (f 121)) (60 + n) p) (90 + n) a)).1 9 120 = nI n from (by
    show upd (upd (upd (upd f n w) (30 + n) (f 121)) (60 + n) p) (90 + n) a 120 = nI n
    rw [pk_un (by omega), pk_un (by omega), pk_un (by omega), pk_un (by omega)]; exact f120), zI_rr]
  refine z_vret dX4_add_73 rfl ?_
  exact hQ
theorem spM_hears_bad {μ : ZMem} {ns : Nat} (h : zsM μ ns) {w : Int32} (hw : (w < 0 ∨ nI ns ≤ w) ∨ ∃ j, j < ns ∧ w = nI j ∧ ¬ zbt (μ.1 5 0) w) : Sp layM mX4_hears 2 [.ref 0, .int w] μ (some (.int (-1))) μ := by
  have h8 := h.2
  refine Sp.mk (L := [some (.ref 0), some (.int w)]) rfl (by decide +kernel) rfl rfl (fun Q hQ => ?_)
  rcases hw with hw | ⟨j, hj, rfl, hs⟩
  · refine z_aload_n dX4_hears_0 rfl ?_
    refine z_iload_n dX4_hears_1 rfl ?_
    refine z_cV1r (dy := 1) dX4_hears_2 zl_X4_117 zy_X4_isSaying (by first | rfl | assumption) rfl (by decide) (Nat.le_of_ble_eq_true rfl) (sp_isSaying_f h hw) ?_
    refine z_if_eq (tgt := 16) dX4_hears_5 (by decide) (fun _ => ?_) (fun hx_ => absurd (rfl) hx_)
    refine z_iconst (v := -1) dX4_hears_16 (by decide) ?_
    refine z_iret dX4_hears_17 rfl ?_
    exact hQ
  · refine z_aload_n dX4_hears_0 rfl ?_
    refine z_iload_n dX4_hears_1 rfl ?_
    refine z_cV1r (dy := 1) dX4_hears_2 zl_X4_117 zy_X4_isSaying (by first | rfl | assumption) rfl (by decide) (Nat.le_of_ble_eq_true rfl) (sp_isSaying_t h hj rfl) ?_
    refine z_if_eq (tgt := 16) dX4_hears_5 (by decide) (fun hx_ => absurd hx_ (by decide)) (fun _ => ?_)
    refine z_aload_n dX4_hears_8 rfl ?_
    refine z_iload_n dX4_hears_9 rfl ?_
    refine z_cV1r (dy := 0) dX4_hears_10 zl_X4_120 zy_X4_isSound (by first | rfl | assumption) rfl (by decide) (Nat.le_of_ble_eq_true rfl) (sp_isSoundM (by omega)) ?_
    rw [if_neg hs]
    refine z_if_ne (tgt := 18) dX4_hears_13 (by decide) (fun hx_ => absurd (rfl) hx_) (fun _ => ?_)
    refine z_iconst (v := -1) dX4_hears_16 (by decide) ?_
    refine z_iret dX4_hears_17 rfl ?_
    exact hQ
theorem spM_hears_full {μ : ZMem} {ns j : Nat} (h : zsM μ ns) (hm : znM μ 30) (hj : j < ns) (hs : zbt (μ.1 5 0) (nI j)) : Sp layM mX4_hears 2 [.ref 0, .int (nI j)] μ (some (.int (-3))) μ := by
  have h8 := h.2
  refine Sp.mk (L := [some (.ref 0), some (.int (nI j))]) rfl (by decide +kernel) rfl rfl (fun Q hQ => ?_)
  refine z_aload_n dX4_hears_0 rfl ?_
  refine z_iload_n dX4_hears_1 rfl ?_
  refine z_cV1r (dy := 1) dX4_hears_2 zl_X4_117 zy_X4_isSaying (by first | rfl | assumption) rfl (by decide) (Nat.le_of_ble_eq_true rfl) (sp_isSaying_t h hj rfl) ?_
  refine z_if_eq (tgt := 16) dX4_hears_5 (by decide) (fun hx_ => absurd hx_ (by decide)) (fun _ => ?_)
  refine z_aload_n dX4_hears_8 rfl ?_
  refine z_iload_n dX4_hears_9 rfl ?_
  refine z_cV1r (dy := 0) dX4_hears_10 zl_X4_120 zy_X4_isSound (by first | rfl | assumption) rfl (by decide) (Nat.le_of_ble_eq_true rfl) (sp_isSoundM (by omega)) ?_
  rw [if_pos hs]
  refine z_if_ne (tgt := 18) dX4_hears_13 (by decide) (fun _ => ?_) (fun hx_ => absurd hx_ (by decide))
  refine z_aload_n dX4_hears_18 rfl ?_
  refine z_getR dX4_hears_19 zf_X4_35 (by first | rfl | assumption) rfl ?_
  refine z_bipush (v := 120) dX4_hears_22 (by decide) ?_
  refine z_iald dX4_hears_24 (by first | rfl | assumption) rfl (by first | assumption | omega | decide) (by decide) ?_
  refine z_bipush (v := 30) dX4_hears_25 (by decide) ?_
  refine z_icmp_ne (tgt := 33) dX4_hears_27 (by decide) (fun hx_ => absurd (hm.1) hx_) (fun _ => ?_)
  refine z_bipush (v := -3) dX4_hears_30 (by decide) ?_
  refine z_iret dX4_hears_32 rfl ?_
  exact hQ
theorem spM_hears {μ : ZMem} {ns n u j : Nat} (h : zsM μ ns) (hm : znM μ n) (hu : μ.1 9 122 = nI u) (h12 : u ≤ 12) (hn : n < 30) (hj : j < ns) (hs : zbt (μ.1 5 0) (nI j)) : Sp layM mX4_hears 2 [.ref 0, .int (nI j)] μ (some (.int (nI n + 1 - 1))) (zrow μ 9 (zaN (zknw (μ.1 9) u) n (nI j) (-9) (-9))) := by
  have h8 := h.2
  refine Sp.mk (L := [some (.ref 0), some (.int (nI j))]) rfl (by decide +kernel) rfl rfl (fun Q hQ => ?_)
  refine z_aload_n dX4_hears_0 rfl ?_
  refine z_iload_n dX4_hears_1 rfl ?_
  refine z_cV1r (dy := 1) dX4_hears_2 zl_X4_117 zy_X4_isSaying (by first | rfl | assumption) rfl (by decide) (Nat.le_of_ble_eq_true rfl) (sp_isSaying_t h hj rfl) ?_
  refine z_if_eq (tgt := 16) dX4_hears_5 (by decide) (fun hx_ => absurd hx_ (by decide)) (fun _ => ?_)
  refine z_aload_n dX4_hears_8 rfl ?_
  refine z_iload_n dX4_hears_9 rfl ?_
  refine z_cV1r (dy := 0) dX4_hears_10 zl_X4_120 zy_X4_isSound (by first | rfl | assumption) rfl (by decide) (Nat.le_of_ble_eq_true rfl) (sp_isSoundM (by omega)) ?_
  rw [if_pos hs]
  refine z_if_ne (tgt := 18) dX4_hears_13 (by decide) (fun _ => ?_) (fun hx_ => absurd hx_ (by decide))
  refine z_aload_n dX4_hears_18 rfl ?_
  refine z_getR dX4_hears_19 zf_X4_35 (by first | rfl | assumption) rfl ?_
  refine z_bipush (v := 120) dX4_hears_22 (by decide) ?_
  refine z_iald dX4_hears_24 (by first | rfl | assumption) rfl (by first | assumption | omega | decide) (by decide) ?_
  refine z_bipush (v := 30) dX4_hears_25 (by decide) ?_
  refine z_icmp_ne (tgt := 33) dX4_hears_27 (by decide) (fun _ => ?_) (fun hx_ => absurd hx_ (fun e => by have := (nI_eq (b := 30) (by omega) (by decide)).mp (hm.1.symm.trans e); omega))
  refine z_aload_n dX4_hears_33 rfl ?_
  refine z_iload_n dX4_hears_34 rfl ?_
  refine z_bipush (v := -9) dX4_hears_35 (by decide) ?_
  refine z_bipush (v := -9) dX4_hears_37 (by decide) ?_
  refine z_cV3v (dy := 1) dX4_hears_39 zl_X4_151 zy_X4_add (by first | rfl | assumption) rfl (by decide) (Nat.le_of_ble_eq_true rfl) (sp_addM hu h12 hm.1 hn _ _ _) ?_
  refine z_aload_n dX4_hears_42 rfl ?_
  refine z_getR dX4_hears_43 zf_X4_35 (by first | rfl | assumption) rfl ?_
  refine z_bipush (v := 120) dX4_hears_46 (by decide) ?_
  refine z_iald dX4_hears_48 (by first | rfl | assumption) rfl (by first | assumption | omega | decide) (by decide) ?_
  refine z_iconst (v := 1) dX4_hears_49 (by decide) ?_
  refine z_isub dX4_hears_50 ?_
  refine z_iret dX4_hears_51 rfl ?_
  exact hQ
theorem spM_says_bad {μ : ZMem} {ns np : Nat} (h : zsM μ ns) (hp : zpM μ np) {p w : Int32} (hb : (p < 0 ∨ nI np ≤ p) ∨ (∃ i, i < np ∧ p = nI i) ∧ ((w < 0 ∨ nI ns ≤ w) ∨ ∃ j, j < ns ∧ w = nI j ∧ zbt (μ.1 5 0) w)) : Sp layM mX4_says 2 [.ref 0, .int p, .int w] μ (some (.int (-1))) μ := by
  have h8 := h.2
  refine Sp.mk (L := [some (.ref 0), some (.int p), some (.int w), none, none]) rfl (by decide +kernel) rfl rfl (fun Q hQ => ?_)
  rcases hb with hb | ⟨⟨i, hi, hpi⟩, hb | ⟨j, hj, rfl, hs⟩⟩
  · refine z_aload_n dX4_says_0 rfl ?_
    refine z_iload_n dX4_says_1 rfl ?_
    refine z_cV1r (dy := 1) dX4_says_2 zl_X4_130 zy_X4_isPerson (by first | rfl | assumption) rfl (by decide) (Nat.le_of_ble_eq_true rfl) (sp_isPerson_f hp hb) ?_
    refine z_if_eq (tgt := 24) dX4_says_5 (by decide) (fun _ => ?_) (fun hx_ => absurd (rfl) hx_)
    refine z_iconst (v := -1) dX4_says_24 (by decide) ?_
    refine z_iret dX4_says_25 rfl ?_
    exact hQ
  · refine z_aload_n dX4_says_0 rfl ?_
    refine z_iload_n dX4_says_1 rfl ?_
    refine z_cV1r (dy := 1) dX4_says_2 zl_X4_130 zy_X4_isPerson (by first | rfl | assumption) rfl (by decide) (Nat.le_of_ble_eq_true rfl) (sp_isPerson_t hp hi hpi) ?_
    refine z_if_eq (tgt := 24) dX4_says_5 (by decide) (fun hx_ => absurd hx_ (by decide)) (fun _ => ?_)
    refine z_aload_n dX4_says_8 rfl ?_
    refine z_iload_n dX4_says_9 rfl ?_
    refine z_cV1r (dy := 1) dX4_says_10 zl_X4_117 zy_X4_isSaying (by first | rfl | assumption) rfl (by decide) (Nat.le_of_ble_eq_true rfl) (sp_isSaying_f h hb) ?_
    refine z_if_eq (tgt := 24) dX4_says_13 (by decide) (fun _ => ?_) (fun hx_ => absurd (rfl) hx_)
    refine z_iconst (v := -1) dX4_says_24 (by decide) ?_
    refine z_iret dX4_says_25 rfl ?_
    exact hQ
  · refine z_aload_n dX4_says_0 rfl ?_
    refine z_iload_n dX4_says_1 rfl ?_
    refine z_cV1r (dy := 1) dX4_says_2 zl_X4_130 zy_X4_isPerson (by first | rfl | assumption) rfl (by decide) (Nat.le_of_ble_eq_true rfl) (sp_isPerson_t hp hi hpi) ?_
    refine z_if_eq (tgt := 24) dX4_says_5 (by decide) (fun hx_ => absurd hx_ (by decide)) (fun _ => ?_)
    refine z_aload_n dX4_says_8 rfl ?_
    refine z_iload_n dX4_says_9 rfl ?_
    refine z_cV1r (dy := 1) dX4_says_10 zl_X4_117 zy_X4_isSaying (by first | rfl | assumption) rfl (by decide) (Nat.le_of_ble_eq_true rfl) (sp_isSaying_t h hj rfl) ?_
    refine z_if_eq (tgt := 24) dX4_says_13 (by decide) (fun hx_ => absurd hx_ (by decide)) (fun _ => ?_)
    refine z_aload_n dX4_says_16 rfl ?_
    refine z_iload_n dX4_says_17 rfl ?_
    refine z_cV1r (dy := 0) dX4_says_18 zl_X4_120 zy_X4_isSound (by first | rfl | assumption) rfl (by decide) (Nat.le_of_ble_eq_true rfl) (sp_isSoundM (by omega)) ?_
    rw [if_pos hs]
    refine z_if_eq (tgt := 26) dX4_says_21 (by decide) (fun hx_ => absurd hx_ (by decide)) (fun _ => ?_)
    refine z_iconst (v := -1) dX4_says_24 (by decide) ?_
    refine z_iret dX4_says_25 rfl ?_
    exact hQ
/-- the reference's search for the latest -/
theorem spM_says_c {μ : ZMem} {ns np n i j : Nat} {v : Option Value} {μ' : ZMem} (h : zsM μ ns) (hp : zpM μ np) (hm : znM μ n) (hw : ∀ k, k < n → ∃ w, w < ns ∧ μ.1 9 k = nI w) (hi : i < np) (hj : j < ns) (hs : ¬ zbt (μ.1 5 0) (nI j))
    (hc : ∀ Q : Option Value → ZMem → Prop, Q v μ' → ∀ z, ZW layM mX4_says 2 Q 95 [some (.ref 0), some (.int (nI i)), some (.int (nI j)), some (.int (zlat (μ.1 9) (fun k => μ.1 9 (30 + k)) (μ.1 9 121) (μ.1 4 j) (μ.1 8 0) n)), z] [] μ) : Sp layM mX4_says 2 [.ref 0, .int (nI i), .int (nI j)] μ v μ' := by
  have h8 := h.2
  have hn := hm.1
  have h30 := hm.2
  refine Sp.mk (L := [some (.ref 0), some (.int (nI i)), some (.int (nI j)), none, none]) rfl (by decide +kernel) rfl rfl (fun Q hQ => ?_)
  refine z_aload_n dX4_says_0 rfl ?_
  refine z_iload_n dX4_says_1 rfl ?_
  refine z_cV1r (dy := 1) dX4_says_2 zl_X4_130 zy_X4_isPerson (by first | rfl | assumption) rfl (by decide) (Nat.le_of_ble_eq_true rfl) (sp_isPerson_t hp hi rfl) ?_
  refine z_if_eq (tgt := 24) dX4_says_5 (by decide) (fun hx_ => absurd hx_ (by decide)) (fun _ => ?_)
  refine z_aload_n dX4_says_8 rfl ?_
  refine z_iload_n dX4_says_9 rfl ?_
  refine z_cV1r (dy := 1) dX4_says_10 zl_X4_117 zy_X4_isSaying (by first | rfl | assumption) rfl (by decide) (Nat.le_of_ble_eq_true rfl) (sp_isSaying_t h hj rfl) ?_
  refine z_if_eq (tgt := 24) dX4_says_13 (by decide) (fun hx_ => absurd hx_ (by decide)) (fun _ => ?_)
  refine z_aload_n dX4_says_16 rfl ?_
  refine z_iload_n dX4_says_17 rfl ?_
  refine z_cV1r (dy := 0) dX4_says_18 zl_X4_120 zy_X4_isSound (by first | rfl | assumption) rfl (by decide) (Nat.le_of_ble_eq_true rfl) (sp_isSoundM (by omega)) ?_
  rw [if_neg hs]
  refine z_if_eq (tgt := 26) dX4_says_21 (by decide) (fun _ => ?_) (fun hx_ => absurd (rfl) hx_)
  refine z_bipush (v := -9) dX4_says_26 (by decide) ?_
  refine z_istore_n (i := 3) dX4_says_28 rfl (by decide) ?_
  refine z_iconst (v := 0) dX4_says_29 (by decide) ?_
  refine z_istore dX4_says_30 (by decide) ?_
  refine zdown (P := fun k => ZW layM mX4_says 2 Q 32 [some (.ref 0), some (.int (nI i)), some (.int (nI j)), some (.int (zlat (μ.1 9) (fun k => μ.1 9 (30 + k)) (μ.1 9 121) (μ.1 4 j) (μ.1 8 0) k)), some (.int (nI k))] [] μ) n ?_ ?_ 0 (Nat.zero_le n)
  · refine z_iload dX4_says_32 rfl ?_
    refine z_aload_n dX4_says_34 rfl ?_
    refine z_getR dX4_says_35 zf_X4_35 (by first | rfl | assumption) rfl ?_
    refine z_bipush (v := 120) dX4_says_38 (by decide) ?_
    refine z_iald dX4_says_40 (by first | rfl | assumption) rfl (by first | assumption | omega | decide) (by decide) ?_
    refine z_icmp_ge (tgt := 95) dX4_says_41 (by decide) (fun _ => ?_) (fun hx_ => absurd (by rw [hn]; exact Int32.le_refl _) hx_)
    exact hc Q hQ _
  · intro k hk ih
    obtain ⟨w, hws, hwe⟩ := hw k hk
    have k1 := zk1 (x := μ.1 4 j) (j := w) (by omega)
    have es : zlat (μ.1 9) (fun k => μ.1 9 (30 + k)) (μ.1 9 121) (μ.1 4 j) (μ.1 8 0) (k + 1) = if (!decide (μ.1 4 j &&& (1 <<< (μ.1 9 k &&& 31)) = 0) && decide (μ.1 9 121 - μ.1 9 (30 + k) ≤ μ.1 8 0)) = true then nI k else zlat (μ.1 9) (fun k => μ.1 9 (30 + k)) (μ.1 9 121) (μ.1 4 j) (μ.1 8 0) k := rfl
    rw [hwe] at es
    refine z_iload dX4_says_32 rfl ?_
    refine z_aload_n dX4_says_34 rfl ?_
    refine z_getR dX4_says_35 zf_X4_35 (by first | rfl | assumption) rfl ?_
    refine z_bipush (v := 120) dX4_says_38 (by decide) ?_
    refine z_iald dX4_says_40 (by first | rfl | assumption) rfl (by first | assumption | omega | decide) (by decide) ?_
    refine z_icmp_ge (tgt := 95) dX4_says_41 (by decide) (fun hx_ => absurd hx_ (by rw [hn]; exact nI_ge hk (by omega))) (fun _ => ?_)
    refine z_aload_n dX4_says_44 rfl ?_
    refine z_iload dX4_says_45 rfl ?_
    refine z_aload_n dX4_says_47 rfl ?_
    refine z_getR dX4_says_48 zf_X4_35 (by first | rfl | assumption) rfl ?_
    refine z_bipush (v := 121) dX4_says_51 (by decide) ?_
    refine z_iald dX4_says_53 (by first | rfl | assumption) rfl (by first | assumption | omega | decide) (by decide) ?_
    refine z_cV2r (dy := 0) dX4_says_54 zl_X4_113 zy_X4_isThere (by first | rfl | assumption) rfl (by decide) (Nat.le_of_ble_eq_true rfl) (sp_isThereM hm hk _) ?_
    refine z_if_eqb (tgt := 87) dX4_says_57 (by decide) (fun hb57 => ?_) (fun hb57 => ?_)
    · refine z_iload_n dX4_says_87 rfl ?_
      refine z_istore_n (i := 3) dX4_says_88 rfl (by decide) ?_
      refine z_iinc (v := 1) dX4_says_89 rfl (by decide) (by decide) ?_
      refine z_goto (tgt := 32) dX4_says_92 (by decide) ?_
      refine ZW.eq ih rfl ?_
      rw [es, if_neg (by simp [hb57]), nI_succ k]
      rfl
    · refine z_aload_n dX4_says_60 rfl ?_
      refine z_getR dX4_says_61 zf_X4_20 (by first | rfl | assumption) rfl ?_
      refine z_iload_n dX4_says_64 rfl ?_
      refine z_iald dX4_says_65 (by first | rfl | assumption) rfl (show j < 16 by omega) (by decide) ?_
      refine z_aload_n dX4_says_66 rfl ?_
      refine z_getR dX4_says_67 zf_X4_35 (by first | rfl | assumption) rfl ?_
      refine z_iconst (v := 0) dX4_says_70 (by decide) ?_
      refine z_iload dX4_says_71 rfl ?_
      refine z_iadd dX4_says_73 ?_
      refine z_iald dX4_says_74 (by first | rfl | assumption) (zix0 k) (by omega) (by decide) ?_
      rw [hwe]
      refine z_ishr dX4_says_75 ?_
      refine z_iconst (v := 1) dX4_says_76 (by decide) ?_
      refine z_iand dX4_says_77 ?_
      refine z_iconst (v := 1) dX4_says_78 (by decide) ?_
      refine z_icmp_ne (tgt := 87) dX4_says_79 (by decide) (fun hb79 => ?_) (fun hb79 => ?_)
      · refine z_iload_n dX4_says_87 rfl ?_
        refine z_istore_n (i := 3) dX4_says_88 rfl (by decide) ?_
        refine z_iinc (v := 1) dX4_says_89 rfl (by decide) (by decide) ?_
        refine z_goto (tgt := 32) dX4_says_92 (by decide) ?_
        refine ZW.eq ih rfl ?_
        have hz : ¬ zbt (μ.1 4 j) (nI w) := fun q => hb79 (k1.mpr q)
        rw [es, if_neg (by intro q; simp at q; exact hz q.1), nI_succ k]
        rfl
      · refine z_iload dX4_says_82 rfl ?_
        refine z_goto (tgt := 88) dX4_says_84 (by decide) ?_
        refine z_istore_n (i := 3) dX4_says_88 rfl (by decide) ?_
        refine z_iinc (v := 1) dX4_says_89 rfl (by decide) (by decide) ?_
        refine z_goto (tgt := 32) dX4_says_92 (by decide) ?_
        refine ZW.eq ih rfl ?_
        have hz : zbt (μ.1 4 j) (nI w) := k1.mp hb79
        rw [es, if_pos (by simp [hb57]; exact hz), nI_succ k]
        rfl
theorem spM_says_state {μ : ZMem} {ns np n i j : Nat} (h : zsM μ ns) (hp : zpM μ np) (hm : znM μ n) (hw : ∀ k, k < n → ∃ w, w < ns ∧ μ.1 9 k = nI w) (hi : i < np) (hj : j < ns) (hs : ¬ zbt (μ.1 5 0) (nI j)) (hb : ¬ zbt (μ.1 7 i) (nI j) ∨ zlat (μ.1 9) (fun k => μ.1 9 (30 + k)) (μ.1 9 121) (μ.1 4 j) (μ.1 8 0) n = -9) : Sp layM mX4_says 2 [.ref 0, .int (nI i), .int (nI j)] μ (some (.int (-2))) μ := by
  have h5 := hp.2
  have h8 := h.2
  refine spM_says_c h hp hm hw hi hj hs (fun Q hQ z => ?_)
  refine z_aload_n dX4_says_95 rfl ?_
  refine z_getR dX4_says_96 zf_X4_29 (by first | rfl | assumption) rfl ?_
  refine z_iload_n dX4_says_99 rfl ?_
  refine z_iald dX4_says_100 (by first | rfl | assumption) rfl (show i < 10 by omega) (by decide) ?_
  refine z_iload_n dX4_says_101 rfl ?_
  refine z_ishr dX4_says_102 ?_
  refine z_iconst (v := 1) dX4_says_103 (by decide) ?_
  refine z_iand dX4_says_104 ?_
  refine z_if_eq (tgt := 114) dX4_says_105 (by decide) (fun hb105 => ?_) (fun hb105 => ?_)
  · refine z_bipush (v := -2) dX4_says_114 (by decide) ?_
    refine z_iret dX4_says_116 rfl ?_
    exact hQ
  · have e := hb.resolve_left (fun q => hb105 ((zk0 (by omega)).mpr q))
    refine z_iload_n dX4_says_108 rfl ?_
    refine z_bipush (v := -9) dX4_says_109 (by decide) ?_
    refine z_icmp_ne (tgt := 117) dX4_says_111 (by decide) (fun hx_ => absurd (e) hx_) (fun _ => ?_)
    refine z_bipush (v := -2) dX4_says_114 (by decide) ?_
    refine z_iret dX4_says_116 rfl ?_
    exact hQ
theorem spM_says_full {μ : ZMem} {ns np i j : Nat} (h : zsM μ ns) (hp : zpM μ np) (hm : znM μ 30) (hw : ∀ k, k < 30 → ∃ w, w < ns ∧ μ.1 9 k = nI w) (hi : i < np) (hj : j < ns) (hs : ¬ zbt (μ.1 5 0) (nI j)) (hk : zbt (μ.1 7 i) (nI j)) (hb : ¬ zlat (μ.1 9) (fun k => μ.1 9 (30 + k)) (μ.1 9 121) (μ.1 4 j) (μ.1 8 0) 30 = -9) : Sp layM mX4_says 2 [.ref 0, .int (nI i), .int (nI j)] μ (some (.int (-3))) μ := by
  have h5 := hp.2
  have h8 := h.2
  refine spM_says_c h hp hm hw hi hj hs (fun Q hQ z => ?_)
  refine z_aload_n dX4_says_95 rfl ?_
  refine z_getR dX4_says_96 zf_X4_29 (by first | rfl | assumption) rfl ?_
  refine z_iload_n dX4_says_99 rfl ?_
  refine z_iald dX4_says_100 (by first | rfl | assumption) rfl (show i < 10 by omega) (by decide) ?_
  refine z_iload_n dX4_says_101 rfl ?_
  refine z_ishr dX4_says_102 ?_
  refine z_iconst (v := 1) dX4_says_103 (by decide) ?_
  refine z_iand dX4_says_104 ?_
  refine z_if_eq (tgt := 114) dX4_says_105 (by decide) (fun hx_ => absurd hx_ (fun q => (zk0 (by omega)).mp q hk)) (fun _ => ?_)
  refine z_iload_n dX4_says_108 rfl ?_
  refine z_bipush (v := -9) dX4_says_109 (by decide) ?_
  refine z_icmp_ne (tgt := 117) dX4_says_111 (by decide) (fun _ => ?_) (fun hx_ => absurd hx_ hb)
  refine z_aload_n dX4_says_117 rfl ?_
  refine z_getR dX4_says_118 zf_X4_35 (by first | rfl | assumption) rfl ?_
  refine z_bipush (v := 120) dX4_says_121 (by decide) ?_
  refine z_iald dX4_says_123 (by first | rfl | assumption) rfl (by first | assumption | omega | decide) (by decide) ?_
  refine z_bipush (v := 30) dX4_says_124 (by decide) ?_
  refine z_icmp_ne (tgt := 132) dX4_says_126 (by decide) (fun hx_ => absurd (hm.1) hx_) (fun _ => ?_)
  refine z_bipush (v := -3) dX4_says_129 (by decide) ?_
  refine z_iret dX4_says_131 rfl ?_
  exact hQ
theorem spM_says {μ : ZMem} {ns np n u i j q : Nat} (h : zsM μ ns) (hp : zpM μ np) (hm : znM μ n) (hw : ∀ k, k < n → ∃ w, w < ns ∧ μ.1 9 k = nI w) (hu : μ.1 9 122 = nI u) (h12 : u ≤ 12) (hn : n < 30) (hi : i < np) (hj : j < ns) (hs : ¬ zbt (μ.1 5 0) (nI j)) (hk : zbt (μ.1 7 i) (nI j)) (hq : q < n) (hb : zlat (μ.1 9) (fun k => μ.1 9 (30 + k)) (μ.1 9 121) (μ.1 4 j) (μ.1 8 0) n = nI q) : Sp layM mX4_says 2 [.ref 0, .int (nI i), .int (nI j)] μ (some (.int (nI q))) (zrow μ 9 (zaN (zknw (μ.1 9) u) n (nI j) (nI i) (nI q))) := by
  have h5 := hp.2
  have h8 := h.2
  refine spM_says_c h hp hm hw hi hj hs (fun Q hQ z => ?_)
  rw [hb]
  refine z_aload_n dX4_says_95 rfl ?_
  refine z_getR dX4_says_96 zf_X4_29 (by first | rfl | assumption) rfl ?_
  refine z_iload_n dX4_says_99 rfl ?_
  refine z_iald dX4_says_100 (by first | rfl | assumption) rfl (show i < 10 by omega) (by decide) ?_
  refine z_iload_n dX4_says_101 rfl ?_
  refine z_ishr dX4_says_102 ?_
  refine z_iconst (v := 1) dX4_says_103 (by decide) ?_
  refine z_iand dX4_says_104 ?_
  refine z_if_eq (tgt := 114) dX4_says_105 (by decide) (fun hx_ => absurd hx_ (fun q => (zk0 (by omega)).mp q hk)) (fun _ => ?_)
  refine z_iload_n dX4_says_108 rfl ?_
  refine z_bipush (v := -9) dX4_says_109 (by decide) ?_
  refine z_icmp_ne (tgt := 117) dX4_says_111 (by decide) (fun _ => ?_) (fun hx_ => absurd hx_ (nI_ne9 (by omega)))
  refine z_aload_n dX4_says_117 rfl ?_
  refine z_getR dX4_says_118 zf_X4_35 (by first | rfl | assumption) rfl ?_
  refine z_bipush (v := 120) dX4_says_121 (by decide) ?_
  refine z_iald dX4_says_123 (by first | rfl | assumption) rfl (by first | assumption | omega | decide) (by decide) ?_
  refine z_bipush (v := 30) dX4_says_124 (by decide) ?_
  refine z_icmp_ne (tgt := 132) dX4_says_126 (by decide) (fun _ => ?_) (fun hx_ => absurd hx_ (fun e => by have := (nI_eq (b := 30) (by omega) (by decide)).mp (hm.1.symm.trans e); omega))
  refine z_aload_n dX4_says_132 rfl ?_
  refine z_iload_n dX4_says_133 rfl ?_
  refine z_iload_n dX4_says_134 rfl ?_
  refine z_iload_n dX4_says_135 rfl ?_
  refine z_cV3v (dy := 1) dX4_says_136 zl_X4_151 zy_X4_add (by first | rfl | assumption) rfl (by decide) (Nat.le_of_ble_eq_true rfl) (sp_addM hu h12 hm.1 hn _ _ _) ?_
  refine z_iload_n dX4_says_139 rfl ?_
  refine z_iret dX4_says_140 rfl ?_
  exact hQ
theorem spM_hour_f {μ : ZMem} (h : μ.1 9 121 = 99) : Sp layM mX4_hour 1 [.ref 0] μ (some (.int (-2))) μ := by
  refine Sp.mk (L := [some (.ref 0)]) rfl (by decide +kernel) rfl rfl (fun Q hQ => ?_)
  refine z_aload_n dX4_hour_0 rfl ?_
  refine z_getR dX4_hour_1 zf_X4_35 (by first | rfl | assumption) rfl ?_
  refine z_bipush (v := 121) dX4_hour_4 (by decide) ?_
  refine z_iald dX4_hour_6 (by first | rfl | assumption) rfl (by first | assumption | omega | decide) (by decide) ?_
  refine z_bipush (v := 99) dX4_hour_7 (by decide) ?_
  refine z_icmp_ne (tgt := 15) dX4_hour_9 (by decide) (fun hx_ => absurd h hx_) (fun _ => ?_)
  refine z_bipush (v := -2) dX4_hour_12 (by decide) ?_
  refine z_iret dX4_hour_14 rfl ?_
  exact hQ
theorem spM_hour {μ : ZMem} {u : Nat} (hu : μ.1 9 122 = nI u) (h12 : u ≤ 12) (h : ¬ μ.1 9 121 = 99) : Sp layM mX4_hour 1 [.ref 0] μ (some (.int (μ.1 9 121 + 1))) (zrow μ 9 (upd (zknw (μ.1 9) u) 121 (μ.1 9 121 + 1))) := by
  refine Sp.mk (L := [some (.ref 0)]) rfl (by decide +kernel) rfl rfl (fun Q hQ => ?_)
  generalize hf : zknw (μ.1 9) u = f at hQ
  have hk : Sp layM mX4_know 0 [.ref 0] μ none (zrow μ 9 f) := by rw [← hf]; exact sp_know hu h12
  have f121 : f 121 = μ.1 9 121 := by rw [← hf, zknw_at (by omega) (by omega) h12]
  refine z_aload_n dX4_hour_0 rfl ?_
  refine z_getR dX4_hour_1 zf_X4_35 (by first | rfl | assumption) rfl ?_
  refine z_bipush (v := 121) dX4_hour_4 (by decide) ?_
  refine z_iald dX4_hour_6 (by first | rfl | assumption) rfl (by first | assumption | omega | decide) (by decide) ?_
  refine z_bipush (v := 99) dX4_hour_7 (by decide) ?_
  refine z_icmp_ne (tgt := 15) dX4_hour_9 (by decide) (fun _ => ?_) (fun hx_ => absurd hx_ h)
  refine z_aload_n dX4_hour_15 rfl ?_
  refine z_cV0v (dy := 0) dX4_hour_16 zl_X4_148 zy_X4_know (by first | rfl | assumption) rfl (by decide) (Nat.le_of_ble_eq_true rfl) hk ?_
  refine z_aload_n dX4_hour_19 rfl ?_
  refine z_getR dX4_hour_20 zf_X4_35 (by first | rfl | assumption) rfl ?_
  refine z_bipush (v := 121) dX4_hour_23 (by decide) ?_
  refine z_dup2 dX4_hour_25 rfl rfl ?_
  refine z_iald dX4_hour_26 (by first | rfl | assumption) rfl (by first | assumption | omega | decide) (by decide) ?_
  refine z_iconst (v := 1) dX4_hour_27 (by decide) ?_
  refine z_iadd dX4_hour_28 ?_
  refine z_iast dX4_hour_29 (by first | rfl | assumption) rfl (by first | assumption | omega | decide) (by decide) ?_
  rw [show (zrow μ 9 f).1 9 121 = μ.1 9 121 from f121, zI_rr]
  refine z_aload_n dX4_hour_30 rfl ?_
  refine z_getR dX4_hour_31 zf_X4_35 (by first | rfl | assumption) rfl ?_
  refine z_bipush (v := 121) dX4_hour_34 (by decide) ?_
  refine z_iald dX4_hour_36 (by first | rfl | assumption) rfl (by first | assumption | omega | decide) (by decide) ?_
  rw [show (zrow μ 9 (upd f 121 (μ.1 9 121 + 1))).1 9 121 = μ.1 9 121 + 1 from (show upd f 121 (μ.1 9 121 + 1) 121 = _ from pk_us)]
  refine z_iret dX4_hour_37 rfl ?_
  exact hQ
theorem spM_undo_f {μ : ZMem} (h : μ.1 9 122 = 0) : Sp layM mX4_undo 0 [.ref 0] μ (some (.int (-2))) μ := by
  refine Sp.mk (L := [some (.ref 0)]) rfl (by decide +kernel) rfl rfl (fun Q hQ => ?_)
  refine z_aload_n dX4_undo_0 rfl ?_
  refine z_getR dX4_undo_1 zf_X4_35 (by first | rfl | assumption) rfl ?_
  refine z_bipush (v := 122) dX4_undo_4 (by decide) ?_
  refine z_iald dX4_undo_6 (by first | rfl | assumption) rfl (by first | assumption | omega | decide) (by decide) ?_
  refine z_if_ne (tgt := 13) dX4_undo_7 (by decide) (fun hx_ => absurd h hx_) (fun _ => ?_)
  refine z_bipush (v := -2) dX4_undo_10 (by decide) ?_
  refine z_iret dX4_undo_12 rfl ?_
  exact hQ
def zun (N : Nat → Int32) (u : Nat) : Nat → Int32 := upd (upd (upd N 122 (nI u)) 120 (N (123 + 2 * u))) 121 (N (123 + 2 * u + 1))
theorem spM_undo {μ : ZMem} {u : Nat} (hu : μ.1 9 122 = nI (u + 1)) (h12 : u < 12) : Sp layM mX4_undo 0 [.ref 0] μ (some (.int (nI u))) (zrow μ 9 (zun (μ.1 9) u)) := by
  refine Sp.mk (L := [some (.ref 0)]) rfl (by decide +kernel) rfl rfl (fun Q hQ => ?_)
  refine z_aload_n dX4_undo_0 rfl ?_
  refine z_getR dX4_undo_1 zf_X4_35 (by first | rfl | assumption) rfl ?_
  refine z_bipush (v := 122) dX4_undo_4 (by decide) ?_
  refine z_iald dX4_undo_6 (by first | rfl | assumption) rfl (by first | assumption | omega | decide) (by decide) ?_
  refine z_if_ne (tgt := 13) dX4_undo_7 (by decide) (fun _ => ?_) (fun hx_ => absurd hx_ (by show ¬ μ.1 9 122 = 0; rw [hu]; exact nI_ne0 (by omega) (by omega)))
  refine z_aload_n dX4_undo_13 rfl ?_
  refine z_getR dX4_undo_14 zf_X4_35 (by first | rfl | assumption) rfl ?_
  refine z_bipush (v := 122) dX4_undo_17 (by decide) ?_
  refine z_dup2 dX4_undo_19 rfl rfl ?_
  refine z_iald dX4_undo_20 (by first | rfl | assumption) rfl (by first | assumption | omega | decide) (by decide) ?_
  refine z_iconst (v := 1) dX4_undo_21 (by decide) ?_
  refine z_isub dX4_undo_22 ?_
  refine z_iast dX4_undo_23 (by first | rfl | assumption) rfl (by first | assumption | omega | decide) (by decide) ?_
  rw [hu, nI_pred, zI_row]
  have g1 : (zrow μ 9 (upd (μ.1 9) 122 (nI u))).1 9 122 = nI u := (show upd (μ.1 9) 122 (nI u) 122 = nI u from pk_us)
  refine z_aload_n dX4_undo_24 rfl ?_
  refine z_getR dX4_undo_25 zf_X4_35 (by first | rfl | assumption) rfl ?_
  refine z_bipush (v := 120) dX4_undo_28 (by decide) ?_
  refine z_aload_n dX4_undo_30 rfl ?_
  refine z_getR dX4_undo_31 zf_X4_35 (by first | rfl | assumption) rfl ?_
  refine z_bipush (v := 123) dX4_undo_34 (by decide) ?_
  refine z_iconst (v := 2) dX4_undo_36 (by decide) ?_
  refine z_aload_n dX4_undo_37 rfl ?_
  refine z_getR dX4_undo_38 zf_X4_35 (by first | rfl | assumption) rfl ?_
  refine z_bipush (v := 122) dX4_undo_41 (by decide) ?_
  refine z_iald dX4_undo_43 (by first | rfl | assumption) rfl (by first | assumption | omega | decide) (by decide) ?_
  rw [g1]
  refine z_imul dX4_undo_44 ?_
  refine z_iadd dX4_undo_45 ?_
  refine z_iald dX4_undo_46 (by first | rfl | assumption) zix2 (by omega) (by decide) ?_
  refine z_iast dX4_undo_47 (by first | rfl | assumption) rfl (by first | assumption | omega | decide) (by decide) ?_
  rw [show (zrow μ 9 (upd (μ.1 9) 122 (nI u))).1 9 (123 + 2 * u) = μ.1 9 (123 + 2 * u) from (show upd (μ.1 9) 122 (nI u) (123 + 2 * u) = _ from pk_un (by omega)), zI_rr]
  have g2 : (zrow μ 9 (upd (upd (μ.1 9) 122 (nI u)) 120 (μ.1 9 (123 + 2 * u)))).1 9 122 = nI u := (show upd (upd (μ.1 9) 122 (nI u)) 120 (μ.1 9 (123 + 2 * u)) 122 = nI u from (pk_un (show (122 : Nat) ≠ 120 by omega)).trans pk_us)
  refine z_aload_n dX4_undo_48 rfl ?_
  refine z_getR dX4_undo_49 zf_X4_35 (by first | rfl | assumption) rfl ?_
  refine z_bipush (v := 121) dX4_undo_52 (by decide) ?_
  refine z_aload_n dX4_undo_54 rfl ?_
  refine z_getR dX4_undo_55 zf_X4_35 (by first | rfl | assumption) rfl ?_
  refine z_bipush (v := 123) dX4_undo_58 (by decide) ?_
  refine z_iconst (v := 2) dX4_undo_60 (by decide) ?_
  refine z_aload_n dX4_undo_61 rfl ?_
  refine z_getR dX4_undo_62 zf_X4_35 (by first | rfl | assumption) rfl ?_
  refine z_bipush (v := 122) dX4_undo_65 (by decide) ?_
  refine z_iald dX4_undo_67 (by first | rfl | assumption) rfl (by first | assumption | omega | decide) (by decide) ?_
  rw [g2]
  refine z_imul dX4_undo_68 ?_
  refine z_iadd dX4_undo_69 ?_
  refine z_iconst (v := 1) dX4_undo_70 (by decide) ?_
  refine z_iadd dX4_undo_71 ?_
  refine z_iald dX4_undo_72 (by first | rfl | assumption) (by rw [zix2, nI_1]) (by omega) (by decide) ?_
  refine z_iast dX4_undo_73 (by first | rfl | assumption) rfl (by first | assumption | omega | decide) (by decide) ?_
  rw [show (zrow μ 9 (upd (upd (μ.1 9) 122 (nI u)) 120 (μ.1 9 (123 + 2 * u)))).1 9 (123 + 2 * u + 1) = μ.1 9 (123 + 2 * u + 1) from (show upd (upd (μ.1 9) 122 (nI u)) 120 (μ.1 9 (123 + 2 * u)) (123 + 2 * u + 1) = _ from (by rw [pk_un (by omega), pk_un (by omega)])), zI_rr]
  refine z_aload_n dX4_undo_74 rfl ?_
  refine z_getR dX4_undo_75 zf_X4_35 (by first | rfl | assumption) rfl ?_
  refine z_bipush (v := 122) dX4_undo_78 (by decide) ?_
  refine z_iald dX4_undo_80 (by first | rfl | assumption) rfl (by first | assumption | omega | decide) (by decide) ?_
  rw [show (zrow μ 9 (upd (upd (upd (μ.1 9) 122 (nI u)) 120 (μ.1 9 (123 + 2 * u))) 121 (μ.1 9 (123 + 2 * u + 1)))).1 9 122 = nI u from (show upd (upd (upd (μ.1 9) 122 (nI u)) 120 (μ.1 9 (123 + 2 * u))) 121 (μ.1 9 (123 + 2 * u + 1)) 122 = nI u from (by rw [pk_un (by omega), pk_un (by omega), pk_us]))]
  refine z_iret dX4_undo_81 rfl ?_
  exact hQ

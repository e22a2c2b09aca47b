/-! ===== the reference: odds, orders ===== -/
/-- one way of hearing: how much it counts -/
def zwy (sn x hd : Int32) (c0 : Int32) : Nat → Int32
  | 0 => c0
  | k + 1 => zwy sn x hd c0 k * (if ¬ zbt sn (nI k) then 1 else if zbt hd (nI k) then x else 10 - x)
def zuo (sa sn : Int32) (an : Nat → Int32) (ns w : Nat) (x : Int32) : Nat → Int32
  | 0 => 0
  | h + 1 => zuo sa sn an ns w x h + zwy sn x (nI h) (if nI h &&& (sn ^^^ (-1 : Int32)) = 0 ∧ zbt (nI h ||| zre sa an (nI h) ns 9) (nI w) then 1 else 0) ns
theorem spM_odds_bad {μ : ZMem} {ns : Nat} (h : zsM μ ns) {w x what : Int32} (hb : (w < 0 ∨ nI ns ≤ w) ∨ (∃ j, j < ns ∧ w = nI j) ∧ ((x < 0 ∨ 10 < x) ∨ (¬ x < 0 ∧ ¬ 10 < x) ∧ (what < 0 ∨ 1 < what))) : Sp layM mX4_odds 4 [.ref 0, .int w, .int x, .int what] μ (some (.int (-1))) μ := by
  refine Sp.mk (L := [some (.ref 0), some (.int w), some (.int x), some (.int what), none, none, none, none, none]) rfl (by decide +kernel) rfl rfl (fun Q hQ => ?_)
  rcases hb with hb | ⟨⟨j, hj, hw⟩, hb | ⟨⟨h1, h2⟩, hb⟩⟩
  · refine z_aload_n dX4_odds_0 rfl ?_
    refine z_iload_n dX4_odds_1 rfl ?_
    refine z_cV1r (dy := 1) dX4_odds_2 zl_X4_117 zy_X4_isSaying (by first | rfl | assumption) rfl (by decide) (Nat.le_of_ble_eq_true rfl) (sp_isSaying_f h hb) ?_
    refine z_if_eq (tgt := 27) dX4_odds_5 (by decide) (fun _ => ?_) (fun hx_ => absurd (rfl) hx_)
    refine z_iconst (v := -1) dX4_odds_27 (by decide) ?_
    refine z_iret dX4_odds_28 rfl ?_
    exact hQ
  · refine z_aload_n dX4_odds_0 rfl ?_
    refine z_iload_n dX4_odds_1 rfl ?_
    refine z_cV1r (dy := 1) dX4_odds_2 zl_X4_117 zy_X4_isSaying (by first | rfl | assumption) rfl (by decide) (Nat.le_of_ble_eq_true rfl) (sp_isSaying_t h hj hw) ?_
    refine z_if_eq (tgt := 27) dX4_odds_5 (by decide) (fun hx_ => absurd hx_ (by decide)) (fun _ => ?_)
    refine z_iload_n dX4_odds_8 rfl ?_
    refine z_iconst (v := 0) dX4_odds_9 (by decide) ?_
    refine z_bipush (v := 10) dX4_odds_10 (by decide) ?_
    refine z_cS3r (dy := 0) dX4_odds_12 zl_X4_57 zy_X4_in (by decide) (Nat.le_of_ble_eq_true rfl) (sp_in_f hb) ?_
    refine z_if_eq (tgt := 27) dX4_odds_15 (by decide) (fun _ => ?_) (fun hx_ => absurd (rfl) hx_)
    refine z_iconst (v := -1) dX4_odds_27 (by decide) ?_
    refine z_iret dX4_odds_28 rfl ?_
    exact hQ
  · refine z_aload_n dX4_odds_0 rfl ?_
    refine z_iload_n dX4_odds_1 rfl ?_
    refine z_cV1r (dy := 1) dX4_odds_2 zl_X4_117 zy_X4_isSaying (by first | rfl | assumption) rfl (by decide) (Nat.le_of_ble_eq_true rfl) (sp_isSaying_t h hj hw) ?_
    refine z_if_eq (tgt := 27) dX4_odds_5 (by decide) (fun hx_ => absurd hx_ (by decide)) (fun _ => ?_)
    refine z_iload_n dX4_odds_8 rfl ?_
    refine z_iconst (v := 0) dX4_odds_9 (by decide) ?_
    refine z_bipush (v := 10) dX4_odds_10 (by decide) ?_
    refine z_cS3r (dy := 0) dX4_odds_12 zl_X4_57 zy_X4_in (by decide) (Nat.le_of_ble_eq_true rfl) (sp_in_t h1 h2) ?_
    refine z_if_eq (tgt := 27) dX4_odds_15 (by decide) (fun hx_ => absurd hx_ (by decide)) (fun _ => ?_)
    refine z_iload_n dX4_odds_18 rfl ?_
    refine z_iconst (v := 0) dX4_odds_19 (by decide) ?_
    refine z_iconst (v := 1) dX4_odds_20 (by decide) ?_
    refine z_cS3r (dy := 0) dX4_odds_21 zl_X4_57 zy_X4_in (by decide) (Nat.le_of_ble_eq_true rfl) (sp_in_f hb) ?_
    refine z_if_ne (tgt := 29) dX4_odds_24 (by decide) (fun hx_ => absurd (rfl) hx_) (fun _ => ?_)
    refine z_iconst (v := -1) dX4_odds_27 (by decide) ?_
    refine z_iret dX4_odds_28 rfl ?_
    exact hQ
theorem spM_odds {μ : ZMem} {ns np j m U D : Nat} {x what : Int32} (h : zsM μ ns) (hp : zpM μ np) (hj : j < ns) (hx0 : ¬ x < 0) (hx1 : ¬ 10 < x) (hw0 : ¬ what < 0) (hw1 : ¬ 1 < what) (hm : zmany (μ.1 5 0) = nI m) (hm8 : m ≤ 8) (hD : zpw 10 m = nI D) (hD0 : 0 < D) (hDs : D < 2 ^ 31) (hU : zuo (zsay (μ.1 7) (μ.1 5 0) np ns) (μ.1 5 0) (μ.1 4) ns j x (2 ^ ns) = nI U) (hUs : U < 2 ^ 31) :
    Sp layM mX4_odds 4 [.ref 0, .int (nI j), .int x, .int what] μ (some (.int (if what = 0 then nI (U / Nat.gcd U D) else nI (D / Nat.gcd U D)))) μ := by
  have hn := h.1
  have h8 := h.2
  have hpw := zpow_le ns (by omega)
  have hsz : (1 : Int32) <<< (μ.1 2 0 &&& 31) = nI (2 ^ ns) := by rw [hn]; exact zsh ns (by omega)
  have hmS := sp_manyOf (lay := layM) (μ := μ) (μ.1 5 0)
  rw [hm] at hmS
  refine Sp.mk (L := [some (.ref 0), some (.int (nI j)), some (.int x), some (.int what), none, none, none, none, none]) rfl (by decide +kernel) rfl rfl (fun Q hQ => ?_)
  -- the end: the greatest common divisor
  have gcdL : ∀ (b a : Nat), a < 2 ^ 31 → b < 2 ^ 31 → Nat.gcd a b = Nat.gcd U D → ∀ z, ZW layM mX4_odds 4 Q 197 [some (.ref 0), some (.int (nI j)), some (.int x), some (.int what), some (.int (nI U)), some (.int (nI D)), some (.int (nI a)), some (.int (nI b)), z] [] μ := by
    intro b
    induction b using Nat.strongRecOn with
    | ind b ih =>
      intro a ha hb hg z
      by_cases h0 : b = 0
      · subst h0
        rw [Nat.gcd_zero_right] at hg
        have hgp : 0 < a := by rw [hg]; exact Nat.gcd_pos_of_pos_right U hD0
        have hne : ¬ nI a = 0 := nI_ne0 hgp ha
        refine z_iload dX4_odds_197 rfl ?_
        refine z_if_eq (tgt := 220) dX4_odds_199 (by decide) (fun _ => ?_) (fun hx_ => absurd (rfl) hx_)
        refine z_iload_n dX4_odds_220 rfl ?_
        by_cases hw : what = 0
        · rw [if_pos hw] at hQ
          rw [← pk_div hUs (by rw [← hg]; exact hgp) (by rw [← hg]; exact ha), ← hg] at hQ
          refine z_if_ne (tgt := 232) dX4_odds_221 (by decide) (fun hx_ => absurd hw hx_) (fun _ => ?_)
          refine z_iload dX4_odds_224 rfl ?_
          refine z_iload dX4_odds_226 rfl ?_
          refine z_idiv dX4_odds_228 hne ?_
          refine z_goto (tgt := 237) dX4_odds_229 (by decide) ?_
          refine z_iret dX4_odds_237 rfl ?_
          exact hQ
        · rw [if_neg hw] at hQ
          rw [← pk_div hDs (by rw [← hg]; exact hgp) (by rw [← hg]; exact ha), ← hg] at hQ
          refine z_if_ne (tgt := 232) dX4_odds_221 (by decide) (fun _ => ?_) (fun hx_ => absurd hx_ hw)
          refine z_iload dX4_odds_232 rfl ?_
          refine z_iload dX4_odds_234 rfl ?_
          refine z_idiv dX4_odds_236 hne ?_
          refine z_iret dX4_odds_237 rfl ?_
          exact hQ
      · have hne : ¬ nI b = 0 := nI_ne0 (by omega) hb
        refine z_iload dX4_odds_197 rfl ?_
        refine z_if_eq (tgt := 220) dX4_odds_199 (by decide) (fun hx_ => absurd hx_ hne) (fun _ => ?_)
        refine z_iload dX4_odds_202 rfl ?_
        refine z_iload dX4_odds_204 rfl ?_
        refine z_irem dX4_odds_206 hne ?_
        rw [pk_rem ha (by omega) hb]
        refine z_istore dX4_odds_207 (by decide) ?_
        refine z_iload dX4_odds_209 rfl ?_
        refine z_istore dX4_odds_211 (by decide) ?_
        refine z_iload dX4_odds_213 rfl ?_
        refine z_istore dX4_odds_215 (by decide) ?_
        refine z_goto (tgt := 197) dX4_odds_217 (by decide) ?_
        exact ih (a % b) (Nat.mod_lt _ (by omega)) b hb (Nat.lt_trans (Nat.mod_lt _ (by omega)) hb) (by rw [← hg, Nat.gcd_comm a b, Nat.gcd_rec b a, Nat.gcd_comm]) _
  -- all ways of hearing
  have outer : ∀ k, k ≤ 2 ^ ns → ∀ z7 z8, ZW layM mX4_odds 4 Q 68 [some (.ref 0), some (.int (nI j)), some (.int x), some (.int what), some (.int (zuo (zsay (μ.1 7) (μ.1 5 0) np ns) (μ.1 5 0) (μ.1 4) ns j x k)), some (.int (nI D)), some (.int (nI k)), z7, z8] [] μ := by
    refine zdown (2 ^ ns) ?_ ?_
    · intro z7 z8
      rw [hU]
      refine z_iload dX4_odds_68 rfl ?_
      refine z_iconst (v := 1) dX4_odds_70 (by decide) ?_
      refine z_aload_n dX4_odds_71 rfl ?_
      refine z_getR dX4_odds_72 zf_X4_13 (by first | rfl | assumption) rfl ?_
      refine z_iconst (v := 0) dX4_odds_75 (by decide) ?_
      refine z_iald dX4_odds_76 (by first | rfl | assumption) rfl (by first | assumption | omega | decide) (by decide) ?_
      refine z_ishl dX4_odds_77 ?_
      refine z_icmp_ge (tgt := 189) dX4_odds_78 (by decide) (fun _ => ?_) (fun hx_ => absurd (by rw [hsz]; exact Int32.le_refl _) hx_)
      refine z_iload dX4_odds_189 rfl ?_
      refine z_istore dX4_odds_191 (by decide) ?_
      refine z_iload dX4_odds_193 rfl ?_
      refine z_istore dX4_odds_195 (by decide) ?_
      exact gcdL D U hUs hDs rfl z8
    · intro k hk ih z7 z8
      have k1 := zk1 (x := nI k ||| zre (zsay (μ.1 7) (μ.1 5 0) np ns) (μ.1 4) (nI k) ns 9) (j := j) (by omega)
      have inner : ∀ c0 : Int32, c0 = (if nI k &&& (μ.1 5 0 ^^^ (-1 : Int32)) = 0 ∧ zbt (nI k ||| zre (zsay (μ.1 7) (μ.1 5 0) np ns) (μ.1 4) (nI k) ns 9) (nI j) then 1 else 0) → ∀ z7 z8, ZW layM mX4_odds 4 Q 117 [some (.ref 0), some (.int (nI j)), some (.int x), some (.int what), some (.int (zuo (zsay (μ.1 7) (μ.1 5 0) np ns) (μ.1 5 0) (μ.1 4) ns j x k)), some (.int (nI D)), some (.int (nI k)), z7, z8] [.int c0] μ := by
        intro c0 hc0 z7 z8
        refine z_istore dX4_odds_117 (by decide) ?_
        refine z_iconst (v := 0) dX4_odds_119 (by decide) ?_
        refine z_istore dX4_odds_120 (by decide) ?_
        refine zdown (P := fun i => ZW layM mX4_odds 4 Q 122 [some (.ref 0), some (.int (nI j)), some (.int x), some (.int what), some (.int (zuo (zsay (μ.1 7) (μ.1 5 0) np ns) (μ.1 5 0) (μ.1 4) ns j x k)), some (.int (nI D)), some (.int (nI k)), some (.int (zwy (μ.1 5 0) x (nI k) c0 i)), some (.int (nI i))] [] μ) ns ?_ ?_ 0 (Nat.zero_le _)
        · refine z_iload dX4_odds_122 rfl ?_
          refine z_aload_n dX4_odds_124 rfl ?_
          refine z_getR dX4_odds_125 zf_X4_13 (by first | rfl | assumption) rfl ?_
          refine z_iconst (v := 0) dX4_odds_128 (by decide) ?_
          refine z_iald dX4_odds_129 (by first | rfl | assumption) rfl (by first | assumption | omega | decide) (by decide) ?_
          refine z_icmp_ge (tgt := 176) dX4_odds_130 (by decide) (fun _ => ?_) (fun hx_ => absurd (by rw [hn]; exact Int32.le_refl _) hx_)
          refine z_iload dX4_odds_176 rfl ?_
          refine z_iload dX4_odds_178 rfl ?_
          refine z_iadd dX4_odds_180 ?_
          refine z_istore dX4_odds_181 (by decide) ?_
          refine z_iinc (v := 1) dX4_odds_183 rfl (by decide) (by decide) ?_
          refine z_goto (tgt := 68) dX4_odds_186 (by decide) ?_
          exact ZW.eq (ih (some (.int (zwy (μ.1 5 0) x (nI k) c0 ns))) (some (.int (nI ns)))) rfl (by rw [nI_succ k, hc0]; rfl)
        · intro i hi ih2
          have k2 := zk1 (x := nI k) (j := i) (by omega)
          refine z_iload dX4_odds_122 rfl ?_
          refine z_aload_n dX4_odds_124 rfl ?_
          refine z_getR dX4_odds_125 zf_X4_13 (by first | rfl | assumption) rfl ?_
          refine z_iconst (v := 0) dX4_odds_128 (by decide) ?_
          refine z_iald dX4_odds_129 (by first | rfl | assumption) rfl (by first | assumption | omega | decide) (by decide) ?_
          refine z_icmp_ge (tgt := 176) dX4_odds_130 (by decide) (fun hx_ => absurd hx_ (by rw [hn]; exact nI_ge hi (by omega))) (fun _ => ?_)
          refine z_iload dX4_odds_133 rfl ?_
          refine z_aload_n dX4_odds_135 rfl ?_
          refine z_iload dX4_odds_136 rfl ?_
          refine z_cV1r (dy := 0) dX4_odds_138 zl_X4_120 zy_X4_isSound (by first | rfl | assumption) rfl (by decide) (Nat.le_of_ble_eq_true rfl) (sp_isSoundM (by omega)) ?_
          refine z_if_neb (tgt := 148) dX4_odds_141 (by decide) (fun hb141 => ?_) (fun hb141 => ?_)
          · refine z_iload dX4_odds_148 rfl ?_
            refine z_iload dX4_odds_150 rfl ?_
            refine z_ishr dX4_odds_152 ?_
            refine z_iconst (v := 1) dX4_odds_153 (by decide) ?_
            refine z_iand dX4_odds_154 ?_
            refine z_iconst (v := 1) dX4_odds_155 (by decide) ?_
            refine z_icmp_ne (tgt := 163) dX4_odds_156 (by decide) (fun hb156 => ?_) (fun hb156 => ?_)
            · refine z_bipush (v := 10) dX4_odds_163 (by decide) ?_
              refine z_iload_n dX4_odds_165 rfl ?_
              refine z_isub dX4_odds_166 ?_
              refine z_imul dX4_odds_167 ?_
              refine z_istore dX4_odds_168 (by decide) ?_
              refine z_iinc (v := 1) dX4_odds_170 rfl (by decide) (by decide) ?_
              refine z_goto (tgt := 122) dX4_odds_173 (by decide) ?_
              refine ZW.eq ih2 rfl ?_
              rw [nI_succ i, show zwy (μ.1 5 0) x (nI k) c0 (i + 1) = zwy (μ.1 5 0) x (nI k) c0 i * (if ¬ zbt (μ.1 5 0) (nI i) then 1 else if zbt (nI k) (nI i) then x else 10 - x) from rfl]
              first | (rw [if_pos hb141]; rfl) | (rw [if_neg (fun q => q hb141)]; first | (rw [if_pos (k2.mp hb156)]; rfl) | (rw [if_neg (fun q => hb156 (k2.mpr q))]; rfl))
            · refine z_iload_n dX4_odds_159 rfl ?_
              refine z_goto (tgt := 167) dX4_odds_160 (by decide) ?_
              refine z_imul dX4_odds_167 ?_
              refine z_istore dX4_odds_168 (by decide) ?_
              refine z_iinc (v := 1) dX4_odds_170 rfl (by decide) (by decide) ?_
              refine z_goto (tgt := 122) dX4_odds_173 (by decide) ?_
              refine ZW.eq ih2 rfl ?_
              rw [nI_succ i, show zwy (μ.1 5 0) x (nI k) c0 (i + 1) = zwy (μ.1 5 0) x (nI k) c0 i * (if ¬ zbt (μ.1 5 0) (nI i) then 1 else if zbt (nI k) (nI i) then x else 10 - x) from rfl]
              first | (rw [if_pos hb141]; rfl) | (rw [if_neg (fun q => q hb141)]; first | (rw [if_pos (k2.mp hb156)]; rfl) | (rw [if_neg (fun q => hb156 (k2.mpr q))]; rfl))
          · refine z_iconst (v := 1) dX4_odds_144 (by decide) ?_
            refine z_goto (tgt := 167) dX4_odds_145 (by decide) ?_
            refine z_imul dX4_odds_167 ?_
            refine z_istore dX4_odds_168 (by decide) ?_
            refine z_iinc (v := 1) dX4_odds_170 rfl (by decide) (by decide) ?_
            refine z_goto (tgt := 122) dX4_odds_173 (by decide) ?_
            refine ZW.eq ih2 rfl ?_
            rw [nI_succ i, show zwy (μ.1 5 0) x (nI k) c0 (i + 1) = zwy (μ.1 5 0) x (nI k) c0 i * (if ¬ zbt (μ.1 5 0) (nI i) then 1 else if zbt (nI k) (nI i) then x else 10 - x) from rfl]
            first | (rw [if_pos hb141]; rfl) | (rw [if_neg (fun q => q hb141)]; first | (rw [if_pos (k2.mp hb156)]; rfl) | (rw [if_neg (fun q => hb156 (k2.mpr q))]; rfl))
      refine z_iload dX4_odds_68 rfl ?_
      refine z_iconst (v := 1) dX4_odds_70 (by decide) ?_
      refine z_aload_n dX4_odds_71 rfl ?_
      refine z_getR dX4_odds_72 zf_X4_13 (by first | rfl | assumption) rfl ?_
      refine z_iconst (v := 0) dX4_odds_75 (by decide) ?_
      refine z_iald dX4_odds_76 (by first | rfl | assumption) rfl (by first | assumption | omega | decide) (by decide) ?_
      refine z_ishl dX4_odds_77 ?_
      refine z_icmp_ge (tgt := 189) dX4_odds_78 (by decide) (fun hx_ => absurd hx_ (by rw [hsz]; exact nI_ge hk (by omega))) (fun _ => ?_)
      refine z_iload dX4_odds_81 rfl ?_
      refine z_aload_n dX4_odds_83 rfl ?_
      refine z_getR dX4_odds_84 zf_X4_23 (by first | rfl | assumption) rfl ?_
      refine z_iconst (v := 0) dX4_odds_87 (by decide) ?_
      refine z_iald dX4_odds_88 (by first | rfl | assumption) rfl (by first | assumption | omega | decide) (by decide) ?_
      refine z_iconst (v := -1) dX4_odds_89 (by decide) ?_
      refine z_ixor dX4_odds_90 ?_
      refine z_iand dX4_odds_91 ?_
      refine z_if_ne (tgt := 116) dX4_odds_92 (by decide) (fun hb92 => ?_) (fun hb92 => ?_)
      · refine z_iconst (v := 0) dX4_odds_116 (by decide) ?_
        refine inner _ ?_ z7 z8
        split
        · rename_i hc
          first | rfl | (exfalso; first | exact hb92 hc.1 | exact hb109 (k1.mpr hc.2))
        · rename_i hc
          first | rfl | (exfalso; exact hc ⟨hb92, k1.mp hb109⟩)
      · refine z_iload dX4_odds_95 rfl ?_
        refine z_aload_n dX4_odds_97 rfl ?_
        refine z_iload dX4_odds_98 rfl ?_
        refine z_cV1r (dy := 3) dX4_odds_100 zl_X4_173 zy_X4_reach (by first | rfl | assumption) rfl (by decide) (Nat.le_of_ble_eq_true rfl) (sp_reach h hp _) ?_
        refine z_ior dX4_odds_103 ?_
        refine z_iload_n dX4_odds_104 rfl ?_
        refine z_ishr dX4_odds_105 ?_
        refine z_iconst (v := 1) dX4_odds_106 (by decide) ?_
        refine z_iand dX4_odds_107 ?_
        refine z_iconst (v := 1) dX4_odds_108 (by decide) ?_
        refine z_icmp_ne (tgt := 116) dX4_odds_109 (by decide) (fun hb109 => ?_) (fun hb109 => ?_)
        · refine z_iconst (v := 0) dX4_odds_116 (by decide) ?_
          refine inner _ ?_ z7 z8
          split
          · rename_i hc
            first | rfl | (exfalso; first | exact hb92 hc.1 | exact hb109 (k1.mpr hc.2))
          · rename_i hc
            first | rfl | (exfalso; exact hc ⟨hb92, k1.mp hb109⟩)
        · refine z_iconst (v := 1) dX4_odds_112 (by decide) ?_
          refine z_goto (tgt := 117) dX4_odds_113 (by decide) ?_
          refine inner _ ?_ z7 z8
          split
          · rename_i hc
            first | rfl | (exfalso; first | exact hb92 hc.1 | exact hb109 (k1.mpr hc.2))
          · rename_i hc
            first | rfl | (exfalso; exact hc ⟨hb92, k1.mp hb109⟩)
  refine z_aload_n dX4_odds_0 rfl ?_
  refine z_iload_n dX4_odds_1 rfl ?_
  refine z_cV1r (dy := 1) dX4_odds_2 zl_X4_117 zy_X4_isSaying (by first | rfl | assumption) rfl (by decide) (Nat.le_of_ble_eq_true rfl) (sp_isSaying_t h hj rfl) ?_
  refine z_if_eq (tgt := 27) dX4_odds_5 (by decide) (fun hx_ => absurd hx_ (by decide)) (fun _ => ?_)
  refine z_iload_n dX4_odds_8 rfl ?_
  refine z_iconst (v := 0) dX4_odds_9 (by decide) ?_
  refine z_bipush (v := 10) dX4_odds_10 (by decide) ?_
  refine z_cS3r (dy := 0) dX4_odds_12 zl_X4_57 zy_X4_in (by decide) (Nat.le_of_ble_eq_true rfl) (sp_in_t hx0 hx1) ?_
  refine z_if_eq (tgt := 27) dX4_odds_15 (by decide) (fun hx_ => absurd hx_ (by decide)) (fun _ => ?_)
  refine z_iload_n dX4_odds_18 rfl ?_
  refine z_iconst (v := 0) dX4_odds_19 (by decide) ?_
  refine z_iconst (v := 1) dX4_odds_20 (by decide) ?_
  refine z_cS3r (dy := 0) dX4_odds_21 zl_X4_57 zy_X4_in (by decide) (Nat.le_of_ble_eq_true rfl) (sp_in_t hw0 hw1) ?_
  refine z_if_ne (tgt := 29) dX4_odds_24 (by decide) (fun _ => ?_) (fun hx_ => absurd hx_ (by decide))
  refine z_iconst (v := 0) dX4_odds_29 (by decide) ?_
  refine z_istore dX4_odds_30 (by decide) ?_
  refine z_iconst (v := 1) dX4_odds_32 (by decide) ?_
  refine z_istore dX4_odds_33 (by decide) ?_
  refine z_iconst (v := 0) dX4_odds_35 (by decide) ?_
  refine z_istore dX4_odds_36 (by decide) ?_
  refine zdown (P := fun k => ZW layM mX4_odds 4 Q 38 [some (.ref 0), some (.int (nI j)), some (.int x), some (.int what), some (.int 0), some (.int (zpw 10 k)), some (.int (nI k)), none, none] [] μ) m ?_ ?_ 0 (Nat.zero_le _)
  · refine z_iload dX4_odds_38 rfl ?_
    refine z_aload_n dX4_odds_40 rfl ?_
    refine z_getR dX4_odds_41 zf_X4_23 (by first | rfl | assumption) rfl ?_
    refine z_iconst (v := 0) dX4_odds_44 (by decide) ?_
    refine z_iald dX4_odds_45 (by first | rfl | assumption) rfl (by first | assumption | omega | decide) (by decide) ?_
    refine z_cS1r (dy := 0) dX4_odds_46 zl_X4_170 zy_X4_manyOf (by decide) (Nat.le_of_ble_eq_true rfl) hmS ?_
    refine z_icmp_ge (tgt := 65) dX4_odds_49 (by decide) (fun _ => ?_) (fun hx_ => absurd (Int32.le_refl _) hx_)
    refine z_iconst (v := 0) dX4_odds_65 (by decide) ?_
    refine z_istore dX4_odds_66 (by decide) ?_
    exact ZW.eq (outer 0 (Nat.zero_le _) none none) rfl (by rw [← hD]; rfl)
  · intro k hk ih
    refine z_iload dX4_odds_38 rfl ?_
    refine z_aload_n dX4_odds_40 rfl ?_
    refine z_getR dX4_odds_41 zf_X4_23 (by first | rfl | assumption) rfl ?_
    refine z_iconst (v := 0) dX4_odds_44 (by decide) ?_
    refine z_iald dX4_odds_45 (by first | rfl | assumption) rfl (by first | assumption | omega | decide) (by decide) ?_
    refine z_cS1r (dy := 0) dX4_odds_46 zl_X4_170 zy_X4_manyOf (by decide) (Nat.le_of_ble_eq_true rfl) hmS ?_
    refine z_icmp_ge (tgt := 65) dX4_odds_49 (by decide) (fun hx_ => absurd hx_ (nI_ge hk (by omega))) (fun _ => ?_)
    refine z_iload dX4_odds_52 rfl ?_
    refine z_bipush (v := 10) dX4_odds_54 (by decide) ?_
    refine z_imul dX4_odds_56 ?_
    refine z_istore dX4_odds_57 (by decide) ?_
    refine z_iinc (v := 1) dX4_odds_59 rfl (by decide) (by decide) ?_
    refine z_goto (tgt := 38) dX4_odds_62 (by decide) ?_
    exact ZW.eq ih rfl (by rw [nI_succ k]; rfl)
/-- whether w can come behind 'had' -/
def zcc (sn kw aw : Int32) (ta tb : Nat → Int32) (w had set : Int32) : Nat → Bool
  | 0 => decide (zbt sn w ∨ (¬ kw = 0 ∧ ¬ aw &&& had = 0))
  | k + 1 => zcc sn kw aw ta tb w had set k && (!(decide (zbt set (ta k)) && decide (zbt set (tb k))) || (!decide (tb k = w) || decide (zbt had (ta k))))
theorem sp_canCome {μ : ZMem} {ns np f w : Nat} (h : zsM μ ns) (hp : zpM μ np) (hw : w < ns) (hf : μ.1 0 20 = nI f) (h6 : f ≤ 6) (hta : ∀ k, k < f → (∃ a, a < ns ∧ μ.1 11 k = nI a) ∧ ∃ b, b < ns ∧ μ.1 12 k = nI b) (had set : Int32) : Sp layM mX4_canCome 1 [.ref 0, .int (nI w), .int had, .int set] μ (some (.int (if zcc (μ.1 5 0) (zkn (μ.1 7) (nI w) np) (μ.1 4 w) (μ.1 11) (μ.1 12) (nI w) had set f = true then 1 else 0))) μ := by
  have h8 := h.2
  refine Sp.mk (L := [some (.ref 0), some (.int (nI w)), some (.int had), some (.int set), none, none, none]) rfl (by decide +kernel) rfl rfl (fun Q hQ => ?_)
  generalize hz : zcc (μ.1 5 0) (zkn (μ.1 7) (nI w) np) (μ.1 4 w) (μ.1 11) (μ.1 12) (nI w) had set = z at hQ
  have z0 : z 0 = decide (zbt (μ.1 5 0) (nI w) ∨ (¬ zkn (μ.1 7) (nI w) np = 0 ∧ ¬ μ.1 4 w &&& had = 0)) := by rw [← hz]; rfl
  have zs : ∀ k, z (k + 1) = (z k && (!(decide (zbt set (μ.1 11 k)) && decide (zbt set (μ.1 12 k))) || (!decide (μ.1 12 k = nI w) || decide (zbt had (μ.1 11 k))))) := by intro k; rw [← hz]; rfl
  have loop : ∀ k, k ≤ f → ∀ z6, ∀ (x : Int32), x = (if z k = true then 1 else 0) → ZW layM mX4_canCome 1 Q 37 [some (.ref 0), some (.int (nI w)), some (.int had), some (.int set), some (.int x), some (.int (nI k)), z6] [] μ := by
    refine zdown f ?_ ?_
    · intro z6 x hx
      subst hx
      refine z_iload dX4_canCome_37 rfl ?_
      refine z_aload_n dX4_canCome_39 rfl ?_
      refine z_getI dX4_canCome_40 zf_X4_102 (by first | rfl | assumption) rfl ?_
      refine z_icmp_ge (tgt := 132) dX4_canCome_43 (by decide) (fun _ => ?_) (fun hx_ => absurd (by rw [hf]; exact Int32.le_refl _) hx_)
      refine z_iload dX4_canCome_132 rfl ?_
      refine z_zret dX4_canCome_134 rfl (by by_cases hc : z f = true <;> simp only [hc] <;> decide) ?_
      exact hQ
    · intro k hk ih z6 x hx
      obtain ⟨⟨a, ha, ea⟩, b, hb, eb⟩ := hta k hk
      have ka := zk1 (x := set) (j := a) (by omega)
      have kb := zk1 (x := set) (j := b) (by omega)
      have kh := zk1 (x := had) (j := a) (by omega)
      have zk := zs k
      rw [ea, eb] at zk
      -- behind 'both'
      have rest : ∀ c : Int32, c = (if zbt set (nI a) ∧ zbt set (nI b) then 1 else 0) → ZW layM mX4_canCome 1 Q 81 [some (.ref 0), some (.int (nI w)), some (.int had), some (.int set), some (.int x), some (.int (nI k)), z6] [.int c] μ := by
        intro c hc
        have goOn : ∀ y : Int32, y = (if z (k + 1) = true then 1 else 0) → ZW layM mX4_canCome 1 Q 124 [some (.ref 0), some (.int (nI w)), some (.int had), some (.int set), some (.int x), some (.int (nI k)), some (.int c)] [.int y] μ := by
          intro y hy
          refine z_istore dX4_canCome_124 (by decide) ?_
          refine z_iinc (v := 1) dX4_canCome_126 rfl (by decide) (by decide) ?_
          refine z_goto (tgt := 37) dX4_canCome_129 (by decide) ?_
          exact ZW.eq (ih (some (.int c)) y hy) rfl (by rw [nI_succ k]; rfl)
        refine z_istore dX4_canCome_81 (by decide) ?_
        refine z_iload dX4_canCome_83 rfl ?_
        by_cases hzk : z k = true
        · rw [if_pos hzk] at hx
          subst hx
          by_cases hab : zbt set (nI a) ∧ zbt set (nI b)
          · rw [if_pos hab] at hc
            subst hc
            refine z_if_eq (tgt := 123) dX4_canCome_85 (by decide) (fun hx_ => absurd hx_ (by decide)) (fun _ => ?_)
            refine z_iload dX4_canCome_88 rfl ?_
            refine z_if_eq (tgt := 119) dX4_canCome_90 (by decide) (fun hx_ => absurd hx_ (by decide)) (fun _ => ?_)
            refine z_aload_n dX4_canCome_93 rfl ?_
            refine z_getR dX4_canCome_94 zf_X4_45 (by first | rfl | assumption) rfl ?_
            refine z_iload dX4_canCome_97 rfl ?_
            refine z_iald dX4_canCome_99 (by first | rfl | assumption) rfl (show k < 6 by omega) (by decide) ?_
            rw [eb]
            by_cases hbw : nI b = nI w
            · refine z_iload_n dX4_canCome_100 rfl ?_
              refine z_icmp_ne (tgt := 119) dX4_canCome_101 (by decide) (fun hx_ => absurd hbw hx_) (fun _ => ?_)
              refine z_iload_n dX4_canCome_104 rfl ?_
              refine z_aload_n dX4_canCome_105 rfl ?_
              refine z_getR dX4_canCome_106 zf_X4_42 (by first | rfl | assumption) rfl ?_
              refine z_iload dX4_canCome_109 rfl ?_
              refine z_iald dX4_canCome_111 (by first | rfl | assumption) rfl (show k < 6 by omega) (by decide) ?_
              rw [ea]
              refine z_ishr dX4_canCome_112 ?_
              refine z_iconst (v := 1) dX4_canCome_113 (by decide) ?_
              refine z_iand dX4_canCome_114 ?_
              refine z_iconst (v := 1) dX4_canCome_115 (by decide) ?_
              by_cases hha : zbt had (nI a)
              · refine z_icmp_ne (tgt := 123) dX4_canCome_116 (by decide) (fun hx_ => absurd (kh.mpr hha) hx_) (fun _ => ?_)
                refine z_iconst (v := 1) dX4_canCome_119 (by decide) ?_
                refine z_goto (tgt := 124) dX4_canCome_120 (by decide) ?_
                exact goOn 1 (by rw [zk]; simp [hzk, hha])
              · refine z_icmp_ne (tgt := 123) dX4_canCome_116 (by decide) (fun _ => ?_) (fun hx_ => absurd hx_ (fun q => hha (kh.mp q)))
                refine z_iconst (v := 0) dX4_canCome_123 (by decide) ?_
                exact goOn 0 (by rw [zk]; simp [hzk, hha, hab, hbw]; exact hbw ▸ hab.2)
            · refine z_iload_n dX4_canCome_100 rfl ?_
              refine z_icmp_ne (tgt := 119) dX4_canCome_101 (by decide) (fun _ => ?_) (fun hx_ => absurd hx_ hbw)
              refine z_iconst (v := 1) dX4_canCome_119 (by decide) ?_
              refine z_goto (tgt := 124) dX4_canCome_120 (by decide) ?_
              exact goOn 1 (by rw [zk]; simp [hzk, hbw])
          · rw [if_neg hab] at hc
            subst hc
            refine z_if_eq (tgt := 123) dX4_canCome_85 (by decide) (fun hx_ => absurd hx_ (by decide)) (fun _ => ?_)
            refine z_iload dX4_canCome_88 rfl ?_
            refine z_if_eq (tgt := 119) dX4_canCome_90 (by decide) (fun _ => ?_) (fun hx_ => absurd (rfl) hx_)
            refine z_iconst (v := 1) dX4_canCome_119 (by decide) ?_
            refine z_goto (tgt := 124) dX4_canCome_120 (by decide) ?_
            refine goOn 1 ?_
            rw [zk, if_pos]
            rw [hzk, Bool.true_and]
            have : (decide (zbt set (nI a)) && decide (zbt set (nI b))) = false := by
              rw [← Bool.decide_and]; simp only [decide_eq_false_iff_not]; exact hab
            rw [this]
            rfl
        · rw [if_neg hzk] at hx
          subst hx
          refine z_if_eq (tgt := 123) dX4_canCome_85 (by decide) (fun _ => ?_) (fun hx_ => absurd (rfl) hx_)
          refine z_iconst (v := 0) dX4_canCome_123 (by decide) ?_
          exact goOn 0 (by rw [zk]; simp [hzk])
      refine z_iload dX4_canCome_37 rfl ?_
      refine z_aload_n dX4_canCome_39 rfl ?_
      refine z_getI dX4_canCome_40 zf_X4_102 (by first | rfl | assumption) rfl ?_
      refine z_icmp_ge (tgt := 132) dX4_canCome_43 (by decide) (fun hx_ => absurd hx_ (by rw [hf]; exact nI_ge hk (by omega))) (fun _ => ?_)
      refine z_iload_n dX4_canCome_46 rfl ?_
      refine z_aload_n dX4_canCome_47 rfl ?_
      refine z_getR dX4_canCome_48 zf_X4_42 (by first | rfl | assumption) rfl ?_
      refine z_iload dX4_canCome_51 rfl ?_
      refine z_iald dX4_canCome_53 (by first | rfl | assumption) rfl (show k < 6 by omega) (by decide) ?_
      rw [ea]
      refine z_ishr dX4_canCome_54 ?_
      refine z_iconst (v := 1) dX4_canCome_55 (by decide) ?_
      refine z_iand dX4_canCome_56 ?_
      refine z_iconst (v := 1) dX4_canCome_57 (by decide) ?_
      by_cases hza : zbt set (nI a)
      · refine z_icmp_ne (tgt := 80) dX4_canCome_58 (by decide) (fun hx_ => absurd (ka.mpr hza) hx_) (fun _ => ?_)
        refine z_iload_n dX4_canCome_61 rfl ?_
        refine z_aload_n dX4_canCome_62 rfl ?_
        refine z_getR dX4_canCome_63 zf_X4_45 (by first | rfl | assumption) rfl ?_
        refine z_iload dX4_canCome_66 rfl ?_
        refine z_iald dX4_canCome_68 (by first | rfl | assumption) rfl (show k < 6 by omega) (by decide) ?_
        rw [eb]
        refine z_ishr dX4_canCome_69 ?_
        refine z_iconst (v := 1) dX4_canCome_70 (by decide) ?_
        refine z_iand dX4_canCome_71 ?_
        refine z_iconst (v := 1) dX4_canCome_72 (by decide) ?_
        by_cases hzb : zbt set (nI b)
        · refine z_icmp_ne (tgt := 80) dX4_canCome_73 (by decide) (fun hx_ => absurd (kb.mpr hzb) hx_) (fun _ => ?_)
          refine z_iconst (v := 1) dX4_canCome_76 (by decide) ?_
          refine z_goto (tgt := 81) dX4_canCome_77 (by decide) ?_
          exact rest 1 (by rw [if_pos ⟨hza, hzb⟩])
        · refine z_icmp_ne (tgt := 80) dX4_canCome_73 (by decide) (fun _ => ?_) (fun hx_ => absurd hx_ (fun q => hzb (kb.mp q)))
          refine z_iconst (v := 0) dX4_canCome_80 (by decide) ?_
          exact rest 0 (by rw [if_neg (fun q => hzb q.2)])
      · refine z_icmp_ne (tgt := 80) dX4_canCome_58 (by decide) (fun _ => ?_) (fun hx_ => absurd hx_ (fun q => hza (ka.mp q)))
        refine z_iconst (v := 0) dX4_canCome_80 (by decide) ?_
        exact rest 0 (by rw [if_neg (fun q => hza q.1)])
  refine z_aload_n dX4_canCome_0 rfl ?_
  refine z_iload_n dX4_canCome_1 rfl ?_
  refine z_cV1r (dy := 0) dX4_canCome_2 zl_X4_120 zy_X4_isSound (by first | rfl | assumption) rfl (by decide) (Nat.le_of_ble_eq_true rfl) (sp_isSoundM (by omega)) ?_
  refine z_if_neb (tgt := 27) dX4_canCome_5 (by decide) (fun hb5 => ?_) (fun hb5 => ?_)
  · refine z_iconst (v := 1) dX4_canCome_27 (by decide) ?_
    refine z_goto (tgt := 32) dX4_canCome_28 (by decide) ?_
    refine z_istore dX4_canCome_32 (by decide) ?_
    refine z_iconst (v := 0) dX4_canCome_34 (by decide) ?_
    refine z_istore dX4_canCome_35 (by decide) ?_
    refine loop 0 (Nat.zero_le _) none _ ?_
    rw [z0]
    first | (simp only [decide_eq_true_eq]; rw [if_pos (Or.inl hb5)]; done) | (simp only [decide_eq_true_eq]; rw [if_pos (Or.inr ⟨hb13, hb24⟩)]; done) | (simp only [decide_eq_true_eq]; rw [if_neg]; intro q; first | exact q.elim hb5 (fun q => q.1 hb13) | exact q.elim hb5 (fun q => q.2 hb24))
  · refine z_aload_n dX4_canCome_8 rfl ?_
    refine z_iload_n dX4_canCome_9 rfl ?_
    refine z_cV1r (dy := 0) dX4_canCome_10 zl_X4_123 zy_X4_knownBy (by first | rfl | assumption) rfl (by decide) (Nat.le_of_ble_eq_true rfl) (sp_knownBy hp (by omega)) ?_
    refine z_if_eq (tgt := 31) dX4_canCome_13 (by decide) (fun hb13 => ?_) (fun hb13 => ?_)
    · refine z_iconst (v := 0) dX4_canCome_31 (by decide) ?_
      refine z_istore dX4_canCome_32 (by decide) ?_
      refine z_iconst (v := 0) dX4_canCome_34 (by decide) ?_
      refine z_istore dX4_canCome_35 (by decide) ?_
      refine loop 0 (Nat.zero_le _) none _ ?_
      rw [z0]
      first | (simp only [decide_eq_true_eq]; rw [if_pos (Or.inl hb5)]; done) | (simp only [decide_eq_true_eq]; rw [if_pos (Or.inr ⟨hb13, hb24⟩)]; done) | (simp only [decide_eq_true_eq]; rw [if_neg]; intro q; first | exact q.elim hb5 (fun q => q.1 hb13) | exact q.elim hb5 (fun q => q.2 hb24))
    · refine z_aload_n dX4_canCome_16 rfl ?_
      refine z_getR dX4_canCome_17 zf_X4_20 (by first | rfl | assumption) rfl ?_
      refine z_iload_n dX4_canCome_20 rfl ?_
      refine z_iald dX4_canCome_21 (by first | rfl | assumption) rfl (show w < 16 by omega) (by decide) ?_
      refine z_iload_n dX4_canCome_22 rfl ?_
      refine z_iand dX4_canCome_23 ?_
      refine z_if_eq (tgt := 31) dX4_canCome_24 (by decide) (fun hb24 => ?_) (fun hb24 => ?_)
      · refine z_iconst (v := 0) dX4_canCome_31 (by decide) ?_
        refine z_istore dX4_canCome_32 (by decide) ?_
        refine z_iconst (v := 0) dX4_canCome_34 (by decide) ?_
        refine z_istore dX4_canCome_35 (by decide) ?_
        refine loop 0 (Nat.zero_le _) none _ ?_
        rw [z0]
        first | (simp only [decide_eq_true_eq]; rw [if_pos (Or.inl hb5)]; done) | (simp only [decide_eq_true_eq]; rw [if_pos (Or.inr ⟨hb13, hb24⟩)]; done) | (simp only [decide_eq_true_eq]; rw [if_neg]; intro q; first | exact q.elim hb5 (fun q => q.1 hb13) | exact q.elim hb5 (fun q => q.2 hb24))
      · refine z_iconst (v := 1) dX4_canCome_27 (by decide) ?_
        refine z_goto (tgt := 32) dX4_canCome_28 (by decide) ?_
        refine z_istore dX4_canCome_32 (by decide) ?_
        refine z_iconst (v := 0) dX4_canCome_34 (by decide) ?_
        refine z_istore dX4_canCome_35 (by decide) ?_
        refine loop 0 (Nat.zero_le _) none _ ?_
        rw [z0]
        first | (simp only [decide_eq_true_eq]; rw [if_pos (Or.inl hb5)]; done) | (simp only [decide_eq_true_eq]; rw [if_pos (Or.inr ⟨hb13, hb24⟩)]; done) | (simp only [decide_eq_true_eq]; rw [if_neg]; intro q; first | exact q.elim hb5 (fun q => q.1 hb13) | exact q.elim hb5 (fun q => q.2 hb24))
/-- in how many orders: the reference's table -/
def zwtM (sn : Int32) (kn an ta tb row : Nat → Int32) (np f : Nat) (set : Int32) (c : Nat) (m : Nat) : Int32 := zfold (fun k a => if nI c &&& (set ^^^ (-1 : Int32)) = 0 ∧ zbt (nI c) (nI k) ∧ zcc sn (zkn kn (nI k) np) (an k) ta tb (nI k) (nI (zcb c k)) set f = true then a + row (zcb c k) else a) 0 m
def zdpM (sn : Int32) (kn an ta tb row : Nat → Int32) (np f ns : Nat) (set : Int32) : Nat → (Nat → Int32)
  | 0 => upd row 0 1
  | c + 1 => upd (zdpM sn kn an ta tb row np f ns set c) (c + 1) (zwtM sn kn an ta tb (zdpM sn kn an ta tb row np f ns set c) np f set (c + 1) ns)
theorem zcb_lt : ∀ c, c < 256 → ∀ k, k < 8 → zbt (nI c) (nI k) → zcb c k < c := by decide +kernel
theorem spM_orders {μ : ZMem} {ns np f s : Nat} (h : zsM μ ns) (hp : zpM μ np) (hf : μ.1 0 20 = nI f) (h6 : f ≤ 6) (hta : ∀ k, k < f → (∃ a, a < ns ∧ μ.1 11 k = nI a) ∧ ∃ b, b < ns ∧ μ.1 12 k = nI b) (hs : s < 2 ^ ns) :
    Sp layM mX4_orders 2 [.ref 0, .int (nI s)] μ (some (.int (zdpM (μ.1 5 0) (μ.1 7) (μ.1 4) (μ.1 11) (μ.1 12) (μ.1 13) np f ns (nI s) s s))) (zrow μ 13 (zdpM (μ.1 5 0) (μ.1 7) (μ.1 4) (μ.1 11) (μ.1 12) (μ.1 13) np f ns (nI s) s)) := by
  have hn := h.1
  have h8 := h.2
  have hpw := zpow_le ns (by omega)
  refine Sp.mk (L := [some (.ref 0), some (.int (nI s)), none, none, none]) rfl (by decide +kernel) rfl rfl (fun Q hQ => ?_)
  refine z_iload_n dX4_orders_0 rfl ?_
  refine z_iconst (v := 0) dX4_orders_1 (by decide) ?_
  refine z_iconst (v := 1) dX4_orders_2 (by decide) ?_
  refine z_aload_n dX4_orders_3 rfl ?_
  refine z_getR dX4_orders_4 zf_X4_13 (by first | rfl | assumption) rfl ?_
  refine z_iconst (v := 0) dX4_orders_7 (by decide) ?_
  refine z_iald dX4_orders_8 (by first | rfl | assumption) rfl (by first | assumption | omega | decide) (by decide) ?_
  rw [h.1]
  refine z_ishl dX4_orders_9 ?_
  refine z_iconst (v := 1) dX4_orders_10 (by decide) ?_
  refine z_isub dX4_orders_11 ?_
  refine z_cS3r (dy := 0) dX4_orders_12 zl_X4_57 zy_X4_in (by decide) (Nat.le_of_ble_eq_true rfl) (sp_inSet_t h.2 hs) ?_
  refine z_if_ne (tgt := 20) dX4_orders_15 (by decide) (fun _ => ?_) (fun hx_ => absurd hx_ (by decide))
  refine z_aload_n dX4_orders_20 rfl ?_
  refine z_getR dX4_orders_21 zf_X4_48 (by first | rfl | assumption) rfl ?_
  refine z_iconst (v := 0) dX4_orders_24 (by decide) ?_
  refine z_iconst (v := 1) dX4_orders_25 (by decide) ?_
  refine z_iast dX4_orders_26 (by first | rfl | assumption) rfl (by first | assumption | omega | decide) (by decide) ?_
  refine z_iconst (v := 1) dX4_orders_27 (by decide) ?_
  refine z_istore_n (i := 2) dX4_orders_28 rfl (by decide) ?_
  generalize hg : zdpM (μ.1 5 0) (μ.1 7) (μ.1 4) (μ.1 11) (μ.1 12) (μ.1 13) np f ns (nI s) = g at hQ
  have g0 : g 0 = upd (μ.1 13) 0 1 := by rw [← hg]; rfl
  have gs : ∀ c, g (c + 1) = upd (g c) (c + 1) (zwtM (μ.1 5 0) (μ.1 7) (μ.1 4) (μ.1 11) (μ.1 12) (g c) np f (nI s) (c + 1) ns) := by intro c; rw [← hg]; rfl
  have key : ∀ c, c ≤ s → ∀ z3 z4, ZW layM mX4_orders 2 Q 29 [some (.ref 0), some (.int (nI s)), some (.int (nI (c + 1))), z3, z4] [] (zrow μ 13 (g c)) := by
    refine zdown s ?_ ?_
    · intro z3 z4
      rw [show g s s = (zrow μ 13 (g s)).1 13 s by rw [zrow_r]] at hQ
      refine z_iload_n dX4_orders_29 rfl ?_
      refine z_iload_n dX4_orders_30 rfl ?_
      refine z_icmp_gt (tgt := 135) dX4_orders_31 (by decide) (fun _ => ?_) (fun hx_ => absurd (nI_lt (by omega) (by omega)) hx_)
      refine z_aload_n dX4_orders_135 rfl ?_
      refine z_getR dX4_orders_136 zf_X4_48 (by first | rfl | assumption) rfl ?_
      refine z_iload_n dX4_orders_139 rfl ?_
      refine z_iald dX4_orders_140 (by first | rfl | assumption) rfl (show s < 256 by omega) (by decide) ?_
      refine z_iret dX4_orders_141 rfl ?_
      exact hQ
    · intro c hc ih z3 z4
      refine z_iload_n dX4_orders_29 rfl ?_
      refine z_iload_n dX4_orders_30 rfl ?_
      refine z_icmp_gt (tgt := 135) dX4_orders_31 (by decide) (fun hx_ => absurd hx_ (nI_nlt (by omega) (by omega))) (fun _ => ?_)
      refine z_aload_n dX4_orders_34 rfl ?_
      refine z_getR dX4_orders_35 zf_X4_48 (by first | rfl | assumption) rfl ?_
      refine z_iload_n dX4_orders_38 rfl ?_
      refine z_iconst (v := 0) dX4_orders_39 (by decide) ?_
      refine z_iast dX4_orders_40 (by first | rfl | assumption) rfl (show c + 1 < 256 by omega) (by decide) ?_
      refine z_iconst (v := 0) dX4_orders_41 (by decide) ?_
      refine z_istore_n (i := 3) dX4_orders_42 rfl (by decide) ?_
      rw [zI_rr]
      have inner : ∀ k, k ≤ ns → ∀ z4, ZW layM mX4_orders 2 Q 43 [some (.ref 0), some (.int (nI s)), some (.int (nI (c + 1))), some (.int (nI k)), z4] [] (zrow μ 13 (upd (g c) (c + 1) (zwtM (μ.1 5 0) (μ.1 7) (μ.1 4) (μ.1 11) (μ.1 12) (g c) np f (nI s) (c + 1) k))) := by
        refine zdown ns ?_ ?_
        · intro z4
          refine z_iload_n dX4_orders_43 rfl ?_
          refine z_aload_n dX4_orders_44 rfl ?_
          refine z_getR dX4_orders_45 zf_X4_13 (by first | rfl | assumption) rfl ?_
          refine z_iconst (v := 0) dX4_orders_48 (by decide) ?_
          refine z_iald dX4_orders_49 (by first | rfl | assumption) rfl (by first | assumption | omega | decide) (by decide) ?_
          refine z_icmp_ge (tgt := 129) dX4_orders_50 (by decide) (fun _ => ?_) (fun hx_ => absurd (by show μ.1 2 0 ≤ nI ns; rw [hn]; exact Int32.le_refl _) hx_)
          refine z_iinc (v := 1) dX4_orders_129 rfl (by decide) (by decide) ?_
          refine z_goto (tgt := 29) dX4_orders_132 (by decide) ?_
          exact ZW.eq (ih (some (.int (nI ns))) z4) rfl (by rw [nI_succ (c + 1)]; rfl) rfl (by rw [gs c])
        · intro k hk ih2 z4
          generalize hacc : zwtM (μ.1 5 0) (μ.1 7) (μ.1 4) (μ.1 11) (μ.1 12) (g c) np f (nI s) (c + 1) k = acc
          have es : zwtM (μ.1 5 0) (μ.1 7) (μ.1 4) (μ.1 11) (μ.1 12) (g c) np f (nI s) (c + 1) (k + 1) = if nI (c + 1) &&& (nI s ^^^ (-1 : Int32)) = 0 ∧ zbt (nI (c + 1)) (nI k) ∧ zcc (μ.1 5 0) (zkn (μ.1 7) (nI k) np) (μ.1 4 k) (μ.1 11) (μ.1 12) (nI k) (nI (zcb (c + 1) k)) (nI s) f = true then acc + g c (zcb (c + 1) k) else acc := by rw [← hacc]; rfl
          have k1 := zk1 (x := nI (c + 1)) (j := k) (by omega)
          have racc : (zrow μ 13 (upd (g c) (c + 1) acc)).1 13 (c + 1) = acc := (show upd (g c) (c + 1) acc (c + 1) = acc from pk_us)
          have no : ¬ (nI (c + 1) &&& (nI s ^^^ (-1 : Int32)) = 0 ∧ zbt (nI (c + 1)) (nI k) ∧ zcc (μ.1 5 0) (zkn (μ.1 7) (nI k) np) (μ.1 4 k) (μ.1 11) (μ.1 12) (nI k) (nI (zcb (c + 1) k)) (nI s) f = true) → ZW layM mX4_orders 2 Q 91 [some (.ref 0), some (.int (nI s)), some (.int (nI (c + 1))), some (.int (nI k)), z4] [.int 0] (zrow μ 13 (upd (g c) (c + 1) acc)) := by
            intro hno
            rw [if_neg hno] at es
            refine z_istore dX4_orders_91 (by decide) ?_
            refine z_aload_n dX4_orders_93 rfl ?_
            refine z_getR dX4_orders_94 zf_X4_48 (by first | rfl | assumption) rfl ?_
            refine z_iload_n dX4_orders_97 rfl ?_
            refine z_dup2 dX4_orders_98 rfl rfl ?_
            refine z_iald dX4_orders_99 (by first | rfl | assumption) rfl (show c + 1 < 256 by omega) (by decide) ?_
            rw [racc]
            refine z_iload dX4_orders_100 rfl ?_
            refine z_if_eq (tgt := 120) dX4_orders_102 (by decide) (fun _ => ?_) (fun hx_ => absurd (rfl) hx_)
            refine z_iconst (v := 0) dX4_orders_120 (by decide) ?_
            refine z_iadd dX4_orders_121 ?_
            refine z_iast dX4_orders_122 (by first | rfl | assumption) rfl (show c + 1 < 256 by omega) (by decide) ?_
            rw [zI_rr, Int32.add_zero]
            refine z_iinc (v := 1) dX4_orders_123 rfl (by decide) (by decide) ?_
            refine z_goto (tgt := 43) dX4_orders_126 (by decide) ?_
            refine ZW.eq (ih2 (some (.int 0))) rfl (by rw [nI_succ k]; rfl) rfl ?_
            rw [es]
            congr 1
            funext i
            by_cases e : i = c + 1
            · subst e; rw [pk_us, pk_us]
            · rw [pk_un e, pk_un e]
          have yes : (nI (c + 1) &&& (nI s ^^^ (-1 : Int32)) = 0 ∧ zbt (nI (c + 1)) (nI k) ∧ zcc (μ.1 5 0) (zkn (μ.1 7) (nI k) np) (μ.1 4 k) (μ.1 11) (μ.1 12) (nI k) (nI (zcb (c + 1) k)) (nI s) f = true) → ZW layM mX4_orders 2 Q 91 [some (.ref 0), some (.int (nI s)), some (.int (nI (c + 1))), some (.int (nI k)), z4] [.int 1] (zrow μ 13 (upd (g c) (c + 1) acc)) := by
            intro hy
            rw [if_pos hy] at es
            have hlt := zcb_lt (c + 1) (by omega) k (by omega) hy.2.1
            refine z_istore dX4_orders_91 (by decide) ?_
            refine z_aload_n dX4_orders_93 rfl ?_
            refine z_getR dX4_orders_94 zf_X4_48 (by first | rfl | assumption) rfl ?_
            refine z_iload_n dX4_orders_97 rfl ?_
            refine z_dup2 dX4_orders_98 rfl rfl ?_
            refine z_iald dX4_orders_99 (by first | rfl | assumption) rfl (show c + 1 < 256 by omega) (by decide) ?_
            rw [racc]
            refine z_iload dX4_orders_100 rfl ?_
            refine z_if_eq (tgt := 120) dX4_orders_102 (by decide) (fun hx_ => absurd hx_ (by decide)) (fun _ => ?_)
            refine z_aload_n dX4_orders_105 rfl ?_
            refine z_getR dX4_orders_106 zf_X4_48 (by first | rfl | assumption) rfl ?_
            refine z_iload_n dX4_orders_109 rfl ?_
            refine z_iconst (v := 1) dX4_orders_110 (by decide) ?_
            refine z_iload_n dX4_orders_111 rfl ?_
            refine z_ishl dX4_orders_112 ?_
            refine z_iconst (v := -1) dX4_orders_113 (by decide) ?_
            refine z_ixor dX4_orders_114 ?_
            refine z_iand dX4_orders_115 ?_
            rw [zcb_eq (c + 1) (by omega) k (by omega)]
            refine z_iald dX4_orders_116 (by first | rfl | assumption) rfl (show zcb (c + 1) k < 256 by omega) (by decide) ?_
            refine z_goto (tgt := 121) dX4_orders_117 (by decide) ?_
            rw [show (zrow μ 13 (upd (g c) (c + 1) acc)).1 13 (zcb (c + 1) k) = g c (zcb (c + 1) k) from (show upd (g c) (c + 1) acc (zcb (c + 1) k) = _ from pk_un (by omega))]
            refine z_iadd dX4_orders_121 ?_
            refine z_iast dX4_orders_122 (by first | rfl | assumption) rfl (show c + 1 < 256 by omega) (by decide) ?_
            rw [zI_rr]
            refine z_iinc (v := 1) dX4_orders_123 rfl (by decide) (by decide) ?_
            refine z_goto (tgt := 43) dX4_orders_126 (by decide) ?_
            refine ZW.eq (ih2 (some (.int 1))) rfl (by rw [nI_succ k]; rfl) rfl ?_
            rw [es]
            congr 1
            funext i
            by_cases e : i = c + 1
            · subst e; rw [pk_us, pk_us]
            · rw [pk_un e, pk_un e, pk_un e]
          refine z_iload_n dX4_orders_43 rfl ?_
          refine z_aload_n dX4_orders_44 rfl ?_
          refine z_getR dX4_orders_45 zf_X4_13 (by first | rfl | assumption) rfl ?_
          refine z_iconst (v := 0) dX4_orders_48 (by decide) ?_
          refine z_iald dX4_orders_49 (by first | rfl | assumption) rfl (by first | assumption | omega | decide) (by decide) ?_
          refine z_icmp_ge (tgt := 129) dX4_orders_50 (by decide) (fun hx_ => absurd hx_ (by show ¬ μ.1 2 0 ≤ nI k; rw [hn]; exact nI_ge hk (by omega))) (fun _ => ?_)
          refine z_iload_n dX4_orders_53 rfl ?_
          refine z_iload_n dX4_orders_54 rfl ?_
          refine z_iconst (v := -1) dX4_orders_55 (by decide) ?_
          refine z_ixor dX4_orders_56 ?_
          refine z_iand dX4_orders_57 ?_
          refine z_if_ne (tgt := 90) dX4_orders_58 (by decide) (fun hb58 => ?_) (fun hb58 => ?_)
          · refine z_iconst (v := 0) dX4_orders_90 (by decide) ?_
            exact no (fun q => hb58 q.1)
          · refine z_iload_n dX4_orders_61 rfl ?_
            refine z_iload_n dX4_orders_62 rfl ?_
            refine z_ishr dX4_orders_63 ?_
            refine z_iconst (v := 1) dX4_orders_64 (by decide) ?_
            refine z_iand dX4_orders_65 ?_
            refine z_iconst (v := 1) dX4_orders_66 (by decide) ?_
            refine z_icmp_ne (tgt := 90) dX4_orders_67 (by decide) (fun hb67 => ?_) (fun hb67 => ?_)
            · refine z_iconst (v := 0) dX4_orders_90 (by decide) ?_
              exact no (fun q => hb67 (k1.mpr q.2.1))
            · refine z_aload_n dX4_orders_70 rfl ?_
              refine z_iload_n dX4_orders_71 rfl ?_
              refine z_iload_n dX4_orders_72 rfl ?_
              refine z_iconst (v := 1) dX4_orders_73 (by decide) ?_
              refine z_iload_n dX4_orders_74 rfl ?_
              refine z_ishl dX4_orders_75 ?_
              refine z_iconst (v := -1) dX4_orders_76 (by decide) ?_
              refine z_ixor dX4_orders_77 ?_
              refine z_iand dX4_orders_78 ?_
              rw [zcb_eq (c + 1) (by omega) k (by omega)]
              refine z_iload_n dX4_orders_79 rfl ?_
              refine z_cV3r (dy := 1) dX4_orders_80 zl_X4_179 zy_X4_canCome (by first | rfl | assumption) rfl (by decide) (Nat.le_of_ble_eq_true rfl) (by refine sp_canCome (ns := ns) (np := np) (f := f) ?_ ?_ hk ?_ h6 ?_ _ _; exact h; exact hp; exact hf; exact hta) ?_
              refine z_if_eqb (tgt := 90) dX4_orders_83 (by decide) (fun hb83 => ?_) (fun hb83 => ?_)
              · refine z_iconst (v := 0) dX4_orders_90 (by decide) ?_
                exact no (fun q => hb83 q.2.2)
              · refine z_iconst (v := 1) dX4_orders_86 (by decide) ?_
                refine z_goto (tgt := 91) dX4_orders_87 (by decide) ?_
                exact yes ⟨hb58, k1.mp hb67, hb83⟩
      exact inner 0 (Nat.zero_le _) z4
  exact ZW.eq (key 0 (Nat.zero_le _) none none) rfl rfl rfl (by rw [g0, zI_row])

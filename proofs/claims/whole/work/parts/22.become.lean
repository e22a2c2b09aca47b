/-! ===== Moment.become: an image, the present ===== -/
/-- the moment at x becomes as the one at y is -/
def zbec (μ : ZMem) (x y : Nat) : ZMem := (fun a b => if a = x then (if 6 ≤ b ∧ b ≤ 9 then μ.1 y b else μ.1 x b) else if x < a ∧ a ≤ x + 6 then (if b < 30 then μ.1 (y + (a - x)) b else μ.1 a b) else μ.1 a b, μ.2)
theorem sp_become_18_11 {μ : ZMem} : Sp layC mX1_become 1 [.ref 18, .ref 11] μ none (zbec μ 18 11) := by
  refine Sp.mk (L := [some (.ref 18), some (.ref 11)]) rfl (by decide +kernel) rfl rfl (fun Q hQ => ?_)
  refine z_aload_n dX1_become_0 rfl ?_
  refine z_getR dX1_become_1 zf_X1_9 (by first | rfl | assumption) rfl ?_
  refine z_iconst (v := 0) dX1_become_4 (by decide) ?_
  refine z_aload_n dX1_become_5 rfl ?_
  refine z_getR dX1_become_6 zf_X1_9 (by first | rfl | assumption) rfl ?_
  refine z_iconst (v := 0) dX1_become_9 (by decide) ?_
  refine z_bipush (v := 30) dX1_become_10 (by decide) ?_
  refine z_copy dX1_become_12 zm_3_52 (by first | rfl | assumption) (by first | rfl | assumption) rfl rfl rfl (by decide) (by decide) (by decide) (by decide) (Nat.le_of_ble_eq_true rfl) ?_
  refine z_aload_n dX1_become_15 rfl ?_
  refine z_getR dX1_become_16 zf_X1_15 (by first | rfl | assumption) rfl ?_
  refine z_iconst (v := 0) dX1_become_19 (by decide) ?_
  refine z_aload_n dX1_become_20 rfl ?_
  refine z_getR dX1_become_21 zf_X1_15 (by first | rfl | assumption) rfl ?_
  refine z_iconst (v := 0) dX1_become_24 (by decide) ?_
  refine z_bipush (v := 30) dX1_become_25 (by decide) ?_
  refine z_copy dX1_become_27 zm_3_52 (by first | rfl | assumption) (by first | rfl | assumption) rfl rfl rfl (by decide) (by decide) (by decide) (by decide) (Nat.le_of_ble_eq_true rfl) ?_
  refine z_aload_n dX1_become_30 rfl ?_
  refine z_getR dX1_become_31 zf_X1_18 (by first | rfl | assumption) rfl ?_
  refine z_iconst (v := 0) dX1_become_34 (by decide) ?_
  refine z_aload_n dX1_become_35 rfl ?_
  refine z_getR dX1_become_36 zf_X1_18 (by first | rfl | assumption) rfl ?_
  refine z_iconst (v := 0) dX1_become_39 (by decide) ?_
  refine z_bipush (v := 30) dX1_become_40 (by decide) ?_
  refine z_copy dX1_become_42 zm_3_52 (by first | rfl | assumption) (by first | rfl | assumption) rfl rfl rfl (by decide) (by decide) (by decide) (by decide) (Nat.le_of_ble_eq_true rfl) ?_
  refine z_aload_n dX1_become_45 rfl ?_
  refine z_getR dX1_become_46 zf_X1_21 (by first | rfl | assumption) rfl ?_
  refine z_iconst (v := 0) dX1_become_49 (by decide) ?_
  refine z_aload_n dX1_become_50 rfl ?_
  refine z_getR dX1_become_51 zf_X1_21 (by first | rfl | assumption) rfl ?_
  refine z_iconst (v := 0) dX1_become_54 (by decide) ?_
  refine z_bipush (v := 30) dX1_become_55 (by decide) ?_
  refine z_copy dX1_become_57 zm_3_52 (by first | rfl | assumption) (by first | rfl | assumption) rfl rfl rfl (by decide) (by decide) (by decide) (by decide) (Nat.le_of_ble_eq_true rfl) ?_
  refine z_aload_n dX1_become_60 rfl ?_
  refine z_getR dX1_become_61 zf_X1_24 (by first | rfl | assumption) rfl ?_
  refine z_iconst (v := 0) dX1_become_64 (by decide) ?_
  refine z_aload_n dX1_become_65 rfl ?_
  refine z_getR dX1_become_66 zf_X1_24 (by first | rfl | assumption) rfl ?_
  refine z_iconst (v := 0) dX1_become_69 (by decide) ?_
  refine z_bipush (v := 30) dX1_become_70 (by decide) ?_
  refine z_copy dX1_become_72 zm_3_52 (by first | rfl | assumption) (by first | rfl | assumption) rfl rfl rfl (by decide) (by decide) (by decide) (by decide) (Nat.le_of_ble_eq_true rfl) ?_
  refine z_aload_n dX1_become_75 rfl ?_
  refine z_getR dX1_become_76 zf_X1_27 (by first | rfl | assumption) rfl ?_
  refine z_iconst (v := 0) dX1_become_79 (by decide) ?_
  refine z_aload_n dX1_become_80 rfl ?_
  refine z_getR dX1_become_81 zf_X1_27 (by first | rfl | assumption) rfl ?_
  refine z_iconst (v := 0) dX1_become_84 (by decide) ?_
  refine z_bipush (v := 30) dX1_become_85 (by decide) ?_
  refine z_copy dX1_become_87 zm_3_52 (by first | rfl | assumption) (by first | rfl | assumption) rfl rfl rfl (by decide) (by decide) (by decide) (by decide) (Nat.le_of_ble_eq_true rfl) ?_
  refine z_aload_n dX1_become_90 rfl ?_
  refine z_aload_n dX1_become_91 rfl ?_
  refine z_getI dX1_become_92 zf_X1_30 (by first | rfl | assumption) rfl ?_
  refine z_putI dX1_become_95 zf_X1_30p (by first | rfl | assumption) rfl rfl rfl ?_
  refine z_aload_n dX1_become_98 rfl ?_
  refine z_aload_n dX1_become_99 rfl ?_
  refine z_getI dX1_become_100 zf_X1_34 (by first | rfl | assumption) rfl ?_
  refine z_putI dX1_become_103 zf_X1_34p (by first | rfl | assumption) rfl rfl rfl ?_
  refine z_aload_n dX1_become_106 rfl ?_
  refine z_aload_n dX1_become_107 rfl ?_
  refine z_getI dX1_become_108 zf_X1_37 (by first | rfl | assumption) rfl ?_
  refine z_putI dX1_become_111 zf_X1_37p (by first | rfl | assumption) rfl rfl rfl ?_
  refine z_aload_n dX1_become_114 rfl ?_
  refine z_aload_n dX1_become_115 rfl ?_
  refine z_getI dX1_become_116 zf_X1_40 (by first | rfl | assumption) rfl ?_
  refine z_putI dX1_become_119 zf_X1_40p (by first | rfl | assumption) rfl rfl rfl ?_
  refine z_vret dX1_become_122 rfl ?_
  refine cast (congrArg (Q none) ?_) hQ
  refine Prod.ext (funext fun a => funext fun b => ?_) rfl
  simp only [zbec, zI, zrow, zup, va_cpy]
  rcases (show a = 18 ∨ a = 19 ∨ a = 20 ∨ a = 21 ∨ a = 22 ∨ a = 23 ∨ a = 24 ∨ (a < 18 ∨ 24 < a) by omega) with rfl | rfl | rfl | rfl | rfl | rfl | rfl | h
  · by_cases h9 : b = 9
    · subst h9; simp
    · by_cases h8 : b = 8
      · subst h8; simp
      · by_cases h7 : b = 7
        · subst h7; simp
        · by_cases h6 : b = 6
          · subst h6; simp
          · rw [if_pos rfl, if_neg (show ¬ (6 ≤ b ∧ b ≤ 9) by omega)]
            simp [h6, h7, h8, h9]
  · simp [va_cpy]
  · simp [va_cpy]
  · simp [va_cpy]
  · simp [va_cpy]
  · simp [va_cpy]
  · simp [va_cpy]
  · have h0 : ∀ c, 18 ≤ c → c ≤ 24 → ¬ a = c := fun c h1 h2 => by omega
    rw [if_neg (h0 18 (by omega) (by omega)), if_neg (show ¬ (18 < a ∧ a ≤ 18 + 6) by omega)]
    simp [h0 18 (by omega) (by omega), h0 19 (by omega) (by omega), h0 20 (by omega) (by omega), h0 21 (by omega) (by omega), h0 22 (by omega) (by omega), h0 23 (by omega) (by omega), h0 24 (by omega) (by omega)]
theorem sp_become_25_11 {μ : ZMem} : Sp layC mX1_become 1 [.ref 25, .ref 11] μ none (zbec μ 25 11) := by
  refine Sp.mk (L := [some (.ref 25), some (.ref 11)]) rfl (by decide +kernel) rfl rfl (fun Q hQ => ?_)
  refine z_aload_n dX1_become_0 rfl ?_
  refine z_getR dX1_become_1 zf_X1_9 (by first | rfl | assumption) rfl ?_
  refine z_iconst (v := 0) dX1_become_4 (by decide) ?_
  refine z_aload_n dX1_become_5 rfl ?_
  refine z_getR dX1_become_6 zf_X1_9 (by first | rfl | assumption) rfl ?_
  refine z_iconst (v := 0) dX1_become_9 (by decide) ?_
  refine z_bipush (v := 30) dX1_become_10 (by decide) ?_
  refine z_copy dX1_become_12 zm_3_52 (by first | rfl | assumption) (by first | rfl | assumption) rfl rfl rfl (by decide) (by decide) (by decide) (by decide) (Nat.le_of_ble_eq_true rfl) ?_
  refine z_aload_n dX1_become_15 rfl ?_
  refine z_getR dX1_become_16 zf_X1_15 (by first | rfl | assumption) rfl ?_
  refine z_iconst (v := 0) dX1_become_19 (by decide) ?_
  refine z_aload_n dX1_become_20 rfl ?_
  refine z_getR dX1_become_21 zf_X1_15 (by first | rfl | assumption) rfl ?_
  refine z_iconst (v := 0) dX1_become_24 (by decide) ?_
  refine z_bipush (v := 30) dX1_become_25 (by decide) ?_
  refine z_copy dX1_become_27 zm_3_52 (by first | rfl | assumption) (by first | rfl | assumption) rfl rfl rfl (by decide) (by decide) (by decide) (by decide) (Nat.le_of_ble_eq_true rfl) ?_
  refine z_aload_n dX1_become_30 rfl ?_
  refine z_getR dX1_become_31 zf_X1_18 (by first | rfl | assumption) rfl ?_
  refine z_iconst (v := 0) dX1_become_34 (by decide) ?_
  refine z_aload_n dX1_become_35 rfl ?_
  refine z_getR dX1_become_36 zf_X1_18 (by first | rfl | assumption) rfl ?_
  refine z_iconst (v := 0) dX1_become_39 (by decide) ?_
  refine z_bipush (v := 30) dX1_become_40 (by decide) ?_
  refine z_copy dX1_become_42 zm_3_52 (by first | rfl | assumption) (by first | rfl | assumption) rfl rfl rfl (by decide) (by decide) (by decide) (by decide) (Nat.le_of_ble_eq_true rfl) ?_
  refine z_aload_n dX1_become_45 rfl ?_
  refine z_getR dX1_become_46 zf_X1_21 (by first | rfl | assumption) rfl ?_
  refine z_iconst (v := 0) dX1_become_49 (by decide) ?_
  refine z_aload_n dX1_become_50 rfl ?_
  refine z_getR dX1_become_51 zf_X1_21 (by first | rfl | assumption) rfl ?_
  refine z_iconst (v := 0) dX1_become_54 (by decide) ?_
  refine z_bipush (v := 30) dX1_become_55 (by decide) ?_
  refine z_copy dX1_become_57 zm_3_52 (by first | rfl | assumption) (by first | rfl | assumption) rfl rfl rfl (by decide) (by decide) (by decide) (by decide) (Nat.le_of_ble_eq_true rfl) ?_
  refine z_aload_n dX1_become_60 rfl ?_
  refine z_getR dX1_become_61 zf_X1_24 (by first | rfl | assumption) rfl ?_
  refine z_iconst (v := 0) dX1_become_64 (by decide) ?_
  refine z_aload_n dX1_become_65 rfl ?_
  refine z_getR dX1_become_66 zf_X1_24 (by first | rfl | assumption) rfl ?_
  refine z_iconst (v := 0) dX1_become_69 (by decide) ?_
  refine z_bipush (v := 30) dX1_become_70 (by decide) ?_
  refine z_copy dX1_become_72 zm_3_52 (by first | rfl | assumption) (by first | rfl | assumption) rfl rfl rfl (by decide) (by decide) (by decide) (by decide) (Nat.le_of_ble_eq_true rfl) ?_
  refine z_aload_n dX1_become_75 rfl ?_
  refine z_getR dX1_become_76 zf_X1_27 (by first | rfl | assumption) rfl ?_
  refine z_iconst (v := 0) dX1_become_79 (by decide) ?_
  refine z_aload_n dX1_become_80 rfl ?_
  refine z_getR dX1_become_81 zf_X1_27 (by first | rfl | assumption) rfl ?_
  refine z_iconst (v := 0) dX1_become_84 (by decide) ?_
  refine z_bipush (v := 30) dX1_become_85 (by decide) ?_
  refine z_copy dX1_become_87 zm_3_52 (by first | rfl | assumption) (by first | rfl | assumption) rfl rfl rfl (by decide) (by decide) (by decide) (by decide) (Nat.le_of_ble_eq_true rfl) ?_
  refine z_aload_n dX1_become_90 rfl ?_
  refine z_aload_n dX1_become_91 rfl ?_
  refine z_getI dX1_become_92 zf_X1_30 (by first | rfl | assumption) rfl ?_
  refine z_putI dX1_become_95 zf_X1_30p (by first | rfl | assumption) rfl rfl rfl ?_
  refine z_aload_n dX1_become_98 rfl ?_
  refine z_aload_n dX1_become_99 rfl ?_
  refine z_getI dX1_become_100 zf_X1_34 (by first | rfl | assumption) rfl ?_
  refine z_putI dX1_become_103 zf_X1_34p (by first | rfl | assumption) rfl rfl rfl ?_
  refine z_aload_n dX1_become_106 rfl ?_
  refine z_aload_n dX1_become_107 rfl ?_
  refine z_getI dX1_become_108 zf_X1_37 (by first | rfl | assumption) rfl ?_
  refine z_putI dX1_become_111 zf_X1_37p (by first | rfl | assumption) rfl rfl rfl ?_
  refine z_aload_n dX1_become_114 rfl ?_
  refine z_aload_n dX1_become_115 rfl ?_
  refine z_getI dX1_become_116 zf_X1_40 (by first | rfl | assumption) rfl ?_
  refine z_putI dX1_become_119 zf_X1_40p (by first | rfl | assumption) rfl rfl rfl ?_
  refine z_vret dX1_become_122 rfl ?_
  refine cast (congrArg (Q none) ?_) hQ
  refine Prod.ext (funext fun a => funext fun b => ?_) rfl
  simp only [zbec, zI, zrow, zup, va_cpy]
  rcases (show a = 25 ∨ a = 26 ∨ a = 27 ∨ a = 28 ∨ a = 29 ∨ a = 30 ∨ a = 31 ∨ (a < 25 ∨ 31 < a) by omega) with rfl | rfl | rfl | rfl | rfl | rfl | rfl | h
  · by_cases h9 : b = 9
    · subst h9; simp
    · by_cases h8 : b = 8
      · subst h8; simp
      · by_cases h7 : b = 7
        · subst h7; simp
        · by_cases h6 : b = 6
          · subst h6; simp
          · rw [if_pos rfl, if_neg (show ¬ (6 ≤ b ∧ b ≤ 9) by omega)]
            simp [h6, h7, h8, h9]
  · simp [va_cpy]
  · simp [va_cpy]
  · simp [va_cpy]
  · simp [va_cpy]
  · simp [va_cpy]
  · simp [va_cpy]
  · have h0 : ∀ c, 25 ≤ c → c ≤ 31 → ¬ a = c := fun c h1 h2 => by omega
    rw [if_neg (h0 25 (by omega) (by omega)), if_neg (show ¬ (25 < a ∧ a ≤ 25 + 6) by omega)]
    simp [h0 25 (by omega) (by omega), h0 26 (by omega) (by omega), h0 27 (by omega) (by omega), h0 28 (by omega) (by omega), h0 29 (by omega) (by omega), h0 30 (by omega) (by omega), h0 31 (by omega) (by omega)]
theorem sp_become_11_18 {μ : ZMem} : Sp layC mX1_become 1 [.ref 11, .ref 18] μ none (zbec μ 11 18) := by
  refine Sp.mk (L := [some (.ref 11), some (.ref 18)]) rfl (by decide +kernel) rfl rfl (fun Q hQ => ?_)
  refine z_aload_n dX1_become_0 rfl ?_
  refine z_getR dX1_become_1 zf_X1_9 (by first | rfl | assumption) rfl ?_
  refine z_iconst (v := 0) dX1_become_4 (by decide) ?_
  refine z_aload_n dX1_become_5 rfl ?_
  refine z_getR dX1_become_6 zf_X1_9 (by first | rfl | assumption) rfl ?_
  refine z_iconst (v := 0) dX1_become_9 (by decide) ?_
  refine z_bipush (v := 30) dX1_become_10 (by decide) ?_
  refine z_copy dX1_become_12 zm_3_52 (by first | rfl | assumption) (by first | rfl | assumption) rfl rfl rfl (by decide) (by decide) (by decide) (by decide) (Nat.le_of_ble_eq_true rfl) ?_
  refine z_aload_n dX1_become_15 rfl ?_
  refine z_getR dX1_become_16 zf_X1_15 (by first | rfl | assumption) rfl ?_
  refine z_iconst (v := 0) dX1_become_19 (by decide) ?_
  refine z_aload_n dX1_become_20 rfl ?_
  refine z_getR dX1_become_21 zf_X1_15 (by first | rfl | assumption) rfl ?_
  refine z_iconst (v := 0) dX1_become_24 (by decide) ?_
  refine z_bipush (v := 30) dX1_become_25 (by decide) ?_
  refine z_copy dX1_become_27 zm_3_52 (by first | rfl | assumption) (by first | rfl | assumption) rfl rfl rfl (by decide) (by decide) (by decide) (by decide) (Nat.le_of_ble_eq_true rfl) ?_
  refine z_aload_n dX1_become_30 rfl ?_
  refine z_getR dX1_become_31 zf_X1_18 (by first | rfl | assumption) rfl ?_
  refine z_iconst (v := 0) dX1_become_34 (by decide) ?_
  refine z_aload_n dX1_become_35 rfl ?_
  refine z_getR dX1_become_36 zf_X1_18 (by first | rfl | assumption) rfl ?_
  refine z_iconst (v := 0) dX1_become_39 (by decide) ?_
  refine z_bipush (v := 30) dX1_become_40 (by decide) ?_
  refine z_copy dX1_become_42 zm_3_52 (by first | rfl | assumption) (by first | rfl | assumption) rfl rfl rfl (by decide) (by decide) (by decide) (by decide) (Nat.le_of_ble_eq_true rfl) ?_
  refine z_aload_n dX1_become_45 rfl ?_
  refine z_getR dX1_become_46 zf_X1_21 (by first | rfl | assumption) rfl ?_
  refine z_iconst (v := 0) dX1_become_49 (by decide) ?_
  refine z_aload_n dX1_become_50 rfl ?_
  refine z_getR dX1_become_51 zf_X1_21 (by first | rfl | assumption) rfl ?_
  refine z_iconst (v := 0) dX1_become_54 (by decide) ?_
  refine z_bipush (v := 30) dX1_become_55 (by decide) ?_
  refine z_copy dX1_become_57 zm_3_52 (by first | rfl | assumption) (by first | rfl | assumption) rfl rfl rfl (by decide) (by decide) (by decide) (by decide) (Nat.le_of_ble_eq_true rfl) ?_
  refine z_aload_n dX1_become_60 rfl ?_
  refine z_getR dX1_become_61 zf_X1_24 (by first | rfl | assumption) rfl ?_
  refine z_iconst (v := 0) dX1_become_64 (by decide) ?_
  refine z_aload_n dX1_become_65 rfl ?_
  refine z_getR dX1_become_66 zf_X1_24 (by first | rfl | assumption) rfl ?_
  refine z_iconst (v := 0) dX1_become_69 (by decide) ?_
  refine z_bipush (v := 30) dX1_become_70 (by decide) ?_
  refine z_copy dX1_become_72 zm_3_52 (by first | rfl | assumption) (by first | rfl | assumption) rfl rfl rfl (by decide) (by decide) (by decide) (by decide) (Nat.le_of_ble_eq_true rfl) ?_
  refine z_aload_n dX1_become_75 rfl ?_
  refine z_getR dX1_become_76 zf_X1_27 (by first | rfl | assumption) rfl ?_
  refine z_iconst (v := 0) dX1_become_79 (by decide) ?_
  refine z_aload_n dX1_become_80 rfl ?_
  refine z_getR dX1_become_81 zf_X1_27 (by first | rfl | assumption) rfl ?_
  refine z_iconst (v := 0) dX1_become_84 (by decide) ?_
  refine z_bipush (v := 30) dX1_become_85 (by decide) ?_
  refine z_copy dX1_become_87 zm_3_52 (by first | rfl | assumption) (by first | rfl | assumption) rfl rfl rfl (by decide) (by decide) (by decide) (by decide) (Nat.le_of_ble_eq_true rfl) ?_
  refine z_aload_n dX1_become_90 rfl ?_
  refine z_aload_n dX1_become_91 rfl ?_
  refine z_getI dX1_become_92 zf_X1_30 (by first | rfl | assumption) rfl ?_
  refine z_putI dX1_become_95 zf_X1_30p (by first | rfl | assumption) rfl rfl rfl ?_
  refine z_aload_n dX1_become_98 rfl ?_
  refine z_aload_n dX1_become_99 rfl ?_
  refine z_getI dX1_become_100 zf_X1_34 (by first | rfl | assumption) rfl ?_
  refine z_putI dX1_become_103 zf_X1_34p (by first | rfl | assumption) rfl rfl rfl ?_
  refine z_aload_n dX1_become_106 rfl ?_
  refine z_aload_n dX1_become_107 rfl ?_
  refine z_getI dX1_become_108 zf_X1_37 (by first | rfl | assumption) rfl ?_
  refine z_putI dX1_become_111 zf_X1_37p (by first | rfl | assumption) rfl rfl rfl ?_
  refine z_aload_n dX1_become_114 rfl ?_
  refine z_aload_n dX1_become_115 rfl ?_
  refine z_getI dX1_become_116 zf_X1_40 (by first | rfl | assumption) rfl ?_
  refine z_putI dX1_become_119 zf_X1_40p (by first | rfl | assumption) rfl rfl rfl ?_
  refine z_vret dX1_become_122 rfl ?_
  refine cast (congrArg (Q none) ?_) hQ
  refine Prod.ext (funext fun a => funext fun b => ?_) rfl
  simp only [zbec, zI, zrow, zup, va_cpy]
  rcases (show a = 11 ∨ a = 12 ∨ a = 13 ∨ a = 14 ∨ a = 15 ∨ a = 16 ∨ a = 17 ∨ (a < 11 ∨ 17 < a) by omega) with rfl | rfl | rfl | rfl | rfl | rfl | rfl | h
  · by_cases h9 : b = 9
    · subst h9; simp
    · by_cases h8 : b = 8
      · subst h8; simp
      · by_cases h7 : b = 7
        · subst h7; simp
        · by_cases h6 : b = 6
          · subst h6; simp
          · rw [if_pos rfl, if_neg (show ¬ (6 ≤ b ∧ b ≤ 9) by omega)]
            simp [h6, h7, h8, h9]
  · simp [va_cpy]
  · simp [va_cpy]
  · simp [va_cpy]
  · simp [va_cpy]
  · simp [va_cpy]
  · simp [va_cpy]
  · have h0 : ∀ c, 11 ≤ c → c ≤ 17 → ¬ a = c := fun c h1 h2 => by omega
    rw [if_neg (h0 11 (by omega) (by omega)), if_neg (show ¬ (11 < a ∧ a ≤ 11 + 6) by omega)]
    simp [h0 11 (by omega) (by omega), h0 12 (by omega) (by omega), h0 13 (by omega) (by omega), h0 14 (by omega) (by omega), h0 15 (by omega) (by omega), h0 16 (by omega) (by omega), h0 17 (by omega) (by omega)]
theorem sp_become_11_25 {μ : ZMem} : Sp layC mX1_become 1 [.ref 11, .ref 25] μ none (zbec μ 11 25) := by
  refine Sp.mk (L := [some (.ref 11), some (.ref 25)]) rfl (by decide +kernel) rfl rfl (fun Q hQ => ?_)
  refine z_aload_n dX1_become_0 rfl ?_
  refine z_getR dX1_become_1 zf_X1_9 (by first | rfl | assumption) rfl ?_
  refine z_iconst (v := 0) dX1_become_4 (by decide) ?_
  refine z_aload_n dX1_become_5 rfl ?_
  refine z_getR dX1_become_6 zf_X1_9 (by first | rfl | assumption) rfl ?_
  refine z_iconst (v := 0) dX1_become_9 (by decide) ?_
  refine z_bipush (v := 30) dX1_become_10 (by decide) ?_
  refine z_copy dX1_become_12 zm_3_52 (by first | rfl | assumption) (by first | rfl | assumption) rfl rfl rfl (by decide) (by decide) (by decide) (by decide) (Nat.le_of_ble_eq_true rfl) ?_
  refine z_aload_n dX1_become_15 rfl ?_
  refine z_getR dX1_become_16 zf_X1_15 (by first | rfl | assumption) rfl ?_
  refine z_iconst (v := 0) dX1_become_19 (by decide) ?_
  refine z_aload_n dX1_become_20 rfl ?_
  refine z_getR dX1_become_21 zf_X1_15 (by first | rfl | assumption) rfl ?_
  refine z_iconst (v := 0) dX1_become_24 (by decide) ?_
  refine z_bipush (v := 30) dX1_become_25 (by decide) ?_
  refine z_copy dX1_become_27 zm_3_52 (by first | rfl | assumption) (by first | rfl | assumption) rfl rfl rfl (by decide) (by decide) (by decide) (by decide) (Nat.le_of_ble_eq_true rfl) ?_
  refine z_aload_n dX1_become_30 rfl ?_
  refine z_getR dX1_become_31 zf_X1_18 (by first | rfl | assumption) rfl ?_
  refine z_iconst (v := 0) dX1_become_34 (by decide) ?_
  refine z_aload_n dX1_become_35 rfl ?_
  refine z_getR dX1_become_36 zf_X1_18 (by first | rfl | assumption) rfl ?_
  refine z_iconst (v := 0) dX1_become_39 (by decide) ?_
  refine z_bipush (v := 30) dX1_become_40 (by decide) ?_
  refine z_copy dX1_become_42 zm_3_52 (by first | rfl | assumption) (by first | rfl | assumption) rfl rfl rfl (by decide) (by decide) (by decide) (by decide) (Nat.le_of_ble_eq_true rfl) ?_
  refine z_aload_n dX1_become_45 rfl ?_
  refine z_getR dX1_become_46 zf_X1_21 (by first | rfl | assumption) rfl ?_
  refine z_iconst (v := 0) dX1_become_49 (by decide) ?_
  refine z_aload_n dX1_become_50 rfl ?_
  refine z_getR dX1_become_51 zf_X1_21 (by first | rfl | assumption) rfl ?_
  refine z_iconst (v := 0) dX1_become_54 (by decide) ?_
  refine z_bipush (v := 30) dX1_become_55 (by decide) ?_
  refine z_copy dX1_become_57 zm_3_52 (by first | rfl | assumption) (by first | rfl | assumption) rfl rfl rfl (by decide) (by decide) (by decide) (by decide) (Nat.le_of_ble_eq_true rfl) ?_
  refine z_aload_n dX1_become_60 rfl ?_
  refine z_getR dX1_become_61 zf_X1_24 (by first | rfl | assumption) rfl ?_
  refine z_iconst (v := 0) dX1_become_64 (by decide) ?_
  refine z_aload_n dX1_become_65 rfl ?_
  refine z_getR dX1_become_66 zf_X1_24 (by first | rfl | assumption) rfl ?_
  refine z_iconst (v := 0) dX1_become_69 (by decide) ?_
  refine z_bipush (v := 30) dX1_become_70 (by decide) ?_
  refine z_copy dX1_become_72 zm_3_52 (by first | rfl | assumption) (by first | rfl | assumption) rfl rfl rfl (by decide) (by decide) (by decide) (by decide) (Nat.le_of_ble_eq_true rfl) ?_
  refine z_aload_n dX1_become_75 rfl ?_
  refine z_getR dX1_become_76 zf_X1_27 (by first | rfl | assumption) rfl ?_
  refine z_iconst (v := 0) dX1_become_79 (by decide) ?_
  refine z_aload_n dX1_become_80 rfl ?_
  refine z_getR dX1_become_81 zf_X1_27 (by first | rfl | assumption) rfl ?_
  refine z_iconst (v := 0) dX1_become_84 (by decide) ?_
  refine z_bipush (v := 30) dX1_become_85 (by decide) ?_
  refine z_copy dX1_become_87 zm_3_52 (by first | rfl | assumption) (by first | rfl | assumption) rfl rfl rfl (by decide) (by decide) (by decide) (by decide) (Nat.le_of_ble_eq_true rfl) ?_
  refine z_aload_n dX1_become_90 rfl ?_
  refine z_aload_n dX1_become_91 rfl ?_
  refine z_getI dX1_become_92 zf_X1_30 (by first | rfl | assumption) rfl ?_
  refine z_putI dX1_become_95 zf_X1_30p (by first | rfl | assumption) rfl rfl rfl ?_
  refine z_aload_n dX1_become_98 rfl ?_
  refine z_aload_n dX1_become_99 rfl ?_
  refine z_getI dX1_become_100 zf_X1_34 (by first | rfl | assumption) rfl ?_
  refine z_putI dX1_become_103 zf_X1_34p (by first | rfl | assumption) rfl rfl rfl ?_
  refine z_aload_n dX1_become_106 rfl ?_
  refine z_aload_n dX1_become_107 rfl ?_
  refine z_getI dX1_become_108 zf_X1_37 (by first | rfl | assumption) rfl ?_
  refine z_putI dX1_become_111 zf_X1_37p (by first | rfl | assumption) rfl rfl rfl ?_
  refine z_aload_n dX1_become_114 rfl ?_
  refine z_aload_n dX1_become_115 rfl ?_
  refine z_getI dX1_become_116 zf_X1_40 (by first | rfl | assumption) rfl ?_
  refine z_putI dX1_become_119 zf_X1_40p (by first | rfl | assumption) rfl rfl rfl ?_
  refine z_vret dX1_become_122 rfl ?_
  refine cast (congrArg (Q none) ?_) hQ
  refine Prod.ext (funext fun a => funext fun b => ?_) rfl
  simp only [zbec, zI, zrow, zup, va_cpy]
  rcases (show a = 11 ∨ a = 12 ∨ a = 13 ∨ a = 14 ∨ a = 15 ∨ a = 16 ∨ a = 17 ∨ (a < 11 ∨ 17 < a) by omega) with rfl | rfl | rfl | rfl | rfl | rfl | rfl | h
  · by_cases h9 : b = 9
    · subst h9; simp
    · by_cases h8 : b = 8
      · subst h8; simp
      · by_cases h7 : b = 7
        · subst h7; simp
        · by_cases h6 : b = 6
          · subst h6; simp
          · rw [if_pos rfl, if_neg (show ¬ (6 ≤ b ∧ b ≤ 9) by omega)]
            simp [h6, h7, h8, h9]
  · simp [va_cpy]
  · simp [va_cpy]
  · simp [va_cpy]
  · simp [va_cpy]
  · simp [va_cpy]
  · simp [va_cpy]
  · have h0 : ∀ c, 11 ≤ c → c ≤ 17 → ¬ a = c := fun c h1 h2 => by omega
    rw [if_neg (h0 11 (by omega) (by omega)), if_neg (show ¬ (11 < a ∧ a ≤ 11 + 6) by omega)]
    simp [h0 11 (by omega) (by omega), h0 12 (by omega) (by omega), h0 13 (by omega) (by omega), h0 14 (by omega) (by omega), h0 15 (by omega) (by omega), h0 16 (by omega) (by omega), h0 17 (by omega) (by omega)]

/-! shares, to the end -/
theorem share_tab_80 : ∀ a, a < 81 → 1 ≤ a → shOK (shareD a 80) = true := by decide +kernel
theorem share_tab_81 : ∀ a, a < 82 → 1 ≤ a → shOK (shareD a 81) = true := by decide +kernel
theorem share_tab_82 : ∀ a, a < 83 → 1 ≤ a → shOK (shareD a 82) = true := by decide +kernel
theorem share_tab_83 : ∀ a, a < 84 → 1 ≤ a → shOK (shareD a 83) = true := by decide +kernel
theorem share_tab_84 : ∀ a, a < 85 → 1 ≤ a → shOK (shareD a 84) = true := by decide +kernel
theorem share_tab_85 : ∀ a, a < 86 → 1 ≤ a → shOK (shareD a 85) = true := by decide +kernel
theorem share_tab_86 : ∀ a, a < 87 → 1 ≤ a → shOK (shareD a 86) = true := by decide +kernel
theorem share_tab_87 : ∀ a, a < 88 → 1 ≤ a → shOK (shareD a 87) = true := by decide +kernel
theorem share_tab_88 : ∀ a, a < 89 → 1 ≤ a → shOK (shareD a 88) = true := by decide +kernel
theorem share_tab_89 : ∀ a, a < 90 → 1 ≤ a → shOK (shareD a 89) = true := by decide +kernel
theorem share_tab_90 : ∀ a, a < 91 → 1 ≤ a → shOK (shareD a 90) = true := by decide +kernel
theorem share_tab_91 : ∀ a, a < 92 → 1 ≤ a → shOK (shareD a 91) = true := by decide +kernel
theorem share_tab_92 : ∀ a, a < 93 → 1 ≤ a → shOK (shareD a 92) = true := by decide +kernel
theorem share_tab_93 : ∀ a, a < 94 → 1 ≤ a → shOK (shareD a 93) = true := by decide +kernel
theorem share_tab_94 : ∀ a, a < 95 → 1 ≤ a → shOK (shareD a 94) = true := by decide +kernel
theorem share_tab_95 : ∀ a, a < 96 → 1 ≤ a → shOK (shareD a 95) = true := by decide +kernel
theorem share_tab_96 : ∀ a, a < 97 → 1 ≤ a → shOK (shareD a 96) = true := by decide +kernel
theorem share_tab_97 : ∀ a, a < 98 → 1 ≤ a → shOK (shareD a 97) = true := by decide +kernel
theorem share_tab_98 : ∀ a, a < 99 → 1 ≤ a → shOK (shareD a 98) = true := by decide +kernel
theorem share_tab_99 : ∀ a, a < 100 → 1 ≤ a → shOK (shareD a 99) = true := by decide +kernel
theorem share_tab_100 : ∀ a, a < 101 → 1 ≤ a → shOK (shareD a 100) = true := by decide +kernel
theorem share_all : ∀ b, b < 101 → ∀ a, a < b + 1 → 1 ≤ a → shOK (shareD a b) = true
  | 0, _, a, h1, h2 => absurd h1 (by omega)
  | 1, _, a, h1, h2 => share_tab_1 a h1 h2
  | 2, _, a, h1, h2 => share_tab_2 a h1 h2
  | 3, _, a, h1, h2 => share_tab_3 a h1 h2
  | 4, _, a, h1, h2 => share_tab_4 a h1 h2
  | 5, _, a, h1, h2 => share_tab_5 a h1 h2
  | 6, _, a, h1, h2 => share_tab_6 a h1 h2
  | 7, _, a, h1, h2 => share_tab_7 a h1 h2
  | 8, _, a, h1, h2 => share_tab_8 a h1 h2
  | 9, _, a, h1, h2 => share_tab_9 a h1 h2
  | 10, _, a, h1, h2 => share_tab_10 a h1 h2
  | 11, _, a, h1, h2 => share_tab_11 a h1 h2
  | 12, _, a, h1, h2 => share_tab_12 a h1 h2
  | 13, _, a, h1, h2 => share_tab_13 a h1 h2
  | 14, _, a, h1, h2 => share_tab_14 a h1 h2
  | 15, _, a, h1, h2 => share_tab_15 a h1 h2
  | 16, _, a, h1, h2 => share_tab_16 a h1 h2
  | 17, _, a, h1, h2 => share_tab_17 a h1 h2
  | 18, _, a, h1, h2 => share_tab_18 a h1 h2
  | 19, _, a, h1, h2 => share_tab_19 a h1 h2
  | 20, _, a, h1, h2 => share_tab_20 a h1 h2
  | 21, _, a, h1, h2 => share_tab_21 a h1 h2
  | 22, _, a, h1, h2 => share_tab_22 a h1 h2
  | 23, _, a, h1, h2 => share_tab_23 a h1 h2
  | 24, _, a, h1, h2 => share_tab_24 a h1 h2
  | 25, _, a, h1, h2 => share_tab_25 a h1 h2
  | 26, _, a, h1, h2 => share_tab_26 a h1 h2
  | 27, _, a, h1, h2 => share_tab_27 a h1 h2
  | 28, _, a, h1, h2 => share_tab_28 a h1 h2
  | 29, _, a, h1, h2 => share_tab_29 a h1 h2
  | 30, _, a, h1, h2 => share_tab_30 a h1 h2
  | 31, _, a, h1, h2 => share_tab_31 a h1 h2
  | 32, _, a, h1, h2 => share_tab_32 a h1 h2
  | 33, _, a, h1, h2 => share_tab_33 a h1 h2
  | 34, _, a, h1, h2 => share_tab_34 a h1 h2
  | 35, _, a, h1, h2 => share_tab_35 a h1 h2
  | 36, _, a, h1, h2 => share_tab_36 a h1 h2
  | 37, _, a, h1, h2 => share_tab_37 a h1 h2
  | 38, _, a, h1, h2 => share_tab_38 a h1 h2
  | 39, _, a, h1, h2 => share_tab_39 a h1 h2
  | 40, _, a, h1, h2 => share_tab_40 a h1 h2
  | 41, _, a, h1, h2 => share_tab_41 a h1 h2
  | 42, _, a, h1, h2 => share_tab_42 a h1 h2
  | 43, _, a, h1, h2 => share_tab_43 a h1 h2
  | 44, _, a, h1, h2 => share_tab_44 a h1 h2
  | 45, _, a, h1, h2 => share_tab_45 a h1 h2
  | 46, _, a, h1, h2 => share_tab_46 a h1 h2
  | 47, _, a, h1, h2 => share_tab_47 a h1 h2
  | 48, _, a, h1, h2 => share_tab_48 a h1 h2
  | 49, _, a, h1, h2 => share_tab_49 a h1 h2
  | 50, _, a, h1, h2 => share_tab_50 a h1 h2
  | 51, _, a, h1, h2 => share_tab_51 a h1 h2
  | 52, _, a, h1, h2 => share_tab_52 a h1 h2
  | 53, _, a, h1, h2 => share_tab_53 a h1 h2
  | 54, _, a, h1, h2 => share_tab_54 a h1 h2
  | 55, _, a, h1, h2 => share_tab_55 a h1 h2
  | 56, _, a, h1, h2 => share_tab_56 a h1 h2
  | 57, _, a, h1, h2 => share_tab_57 a h1 h2
  | 58, _, a, h1, h2 => share_tab_58 a h1 h2
  | 59, _, a, h1, h2 => share_tab_59 a h1 h2
  | 60, _, a, h1, h2 => share_tab_60 a h1 h2
  | 61, _, a, h1, h2 => share_tab_61 a h1 h2
  | 62, _, a, h1, h2 => share_tab_62 a h1 h2
  | 63, _, a, h1, h2 => share_tab_63 a h1 h2
  | 64, _, a, h1, h2 => share_tab_64 a h1 h2
  | 65, _, a, h1, h2 => share_tab_65 a h1 h2
  | 66, _, a, h1, h2 => share_tab_66 a h1 h2
  | 67, _, a, h1, h2 => share_tab_67 a h1 h2
  | 68, _, a, h1, h2 => share_tab_68 a h1 h2
  | 69, _, a, h1, h2 => share_tab_69 a h1 h2
  | 70, _, a, h1, h2 => share_tab_70 a h1 h2
  | 71, _, a, h1, h2 => share_tab_71 a h1 h2
  | 72, _, a, h1, h2 => share_tab_72 a h1 h2
  | 73, _, a, h1, h2 => share_tab_73 a h1 h2
  | 74, _, a, h1, h2 => share_tab_74 a h1 h2
  | 75, _, a, h1, h2 => share_tab_75 a h1 h2
  | 76, _, a, h1, h2 => share_tab_76 a h1 h2
  | 77, _, a, h1, h2 => share_tab_77 a h1 h2
  | 78, _, a, h1, h2 => share_tab_78 a h1 h2
  | 79, _, a, h1, h2 => share_tab_79 a h1 h2
  | 80, _, a, h1, h2 => share_tab_80 a h1 h2
  | 81, _, a, h1, h2 => share_tab_81 a h1 h2
  | 82, _, a, h1, h2 => share_tab_82 a h1 h2
  | 83, _, a, h1, h2 => share_tab_83 a h1 h2
  | 84, _, a, h1, h2 => share_tab_84 a h1 h2
  | 85, _, a, h1, h2 => share_tab_85 a h1 h2
  | 86, _, a, h1, h2 => share_tab_86 a h1 h2
  | 87, _, a, h1, h2 => share_tab_87 a h1 h2
  | 88, _, a, h1, h2 => share_tab_88 a h1 h2
  | 89, _, a, h1, h2 => share_tab_89 a h1 h2
  | 90, _, a, h1, h2 => share_tab_90 a h1 h2
  | 91, _, a, h1, h2 => share_tab_91 a h1 h2
  | 92, _, a, h1, h2 => share_tab_92 a h1 h2
  | 93, _, a, h1, h2 => share_tab_93 a h1 h2
  | 94, _, a, h1, h2 => share_tab_94 a h1 h2
  | 95, _, a, h1, h2 => share_tab_95 a h1 h2
  | 96, _, a, h1, h2 => share_tab_96 a h1 h2
  | 97, _, a, h1, h2 => share_tab_97 a h1 h2
  | 98, _, a, h1, h2 => share_tab_98 a h1 h2
  | 99, _, a, h1, h2 => share_tab_99 a h1 h2
  | 100, _, a, h1, h2 => share_tab_100 a h1 h2
  | n + 101, h, _, _, _ => absurd h (by omega)
theorem share_ok {a b : Nat} (h1 : 1 ≤ a) (h2 : a ≤ b) (hb : b ≤ 100) : (0 : Int32) < Op.cmpValue (FP.dcmp (shareD a b) FP.dconst0) .l ∧ bosOK 10 (shareD a b) = true := by
  have h := share_all b (by omega) a (by omega) h1
  unfold shOK at h
  rw [Bool.and_eq_true] at h
  exact ⟨of_decide_eq_true h.1, h.2⟩

/-! THE TEXT OF RULES: the reference keeps what it read -/
section PK
variable {M N M' N' : Mm} {c sc sr r k : Nat}
theorem r_cp2 (hsr : sr ≤ 240) : ∀ m i fu (N : Mm), i + m = sr → m < fu → gi N 94 16 = oi sr → ∃ N', F_X12_rules_L111 fu N (oi i) = some (gi N 94 18, N') ∧ (∀ j, i ≤ j → j < sr → gi N' 95 (121 + j) = gi N 101 j) ∧ (∀ j, (j < 121 + i ∨ 121 + sr ≤ j) → gi N' 95 j = gi N 95 j) ∧ Oc [95] N N' := by
  intro m
  induction m with
  | zero =>
    intro i fu N hi hf h16
    obtain ⟨fu', rfl⟩ : ∃ q, fu = q + 1 := ⟨fu - 1, by omega⟩
    refine ⟨N, ?_, fun j h1 h2 => by omega, fun _ _ => rfl, Oc.rf⟩
    rw [F_X12_rules_L111]
    simp (disch := omega) only [l_0, l_1, l_2, l_3, l_4, l_5, l_6, l_7, l_8, l_9, l_10, l_11, l_12, l_13, l_14, l_15, l_16, l_17, l_18, l_19, l_20, l_21, l_22, l_23, l_24, l_25, l_26, l_27, l_28, l_29, l_30, l_31, l_32, l_33, l_34, l_35, l_36, l_37, l_38, l_39, l_40, l_41, l_42, l_43, l_44, l_45, l_46, l_47, l_48, l_49, l_50, l_51, l_52, l_53, l_54, l_55, l_56, l_57, l_58, l_59, l_60, l_61, l_62, l_63, l_64, l_65, l_66, l_67, l_68, l_69, l_70, l_71, l_72, l_73, l_74, l_75, l_76, l_77, l_78, l_79, l_80, l_81, l_82, l_83, l_84, l_85, l_86, l_87, l_88, l_89, l_90, l_91, l_92, l_93, l_94, l_95, l_96, l_97, l_98, l_99, l_100, l_101, l_102, l_103, l_104, l_105, l_106, l_107, l_108, l_109, l_110, l_111, l_121, l_122, l_160, l_200, l_201, l_240, l_255, l_361, l_390, l_499, l_500, l_999, l_1000, l_10000, l_10099, l_12345, l_16383, l_20000, l_20033, l_20038, l_20124, l_100000, l_1000000, l_1103515245, ui_oi, ck_oi, sb, jc_e, bl_0, bl_1, le_oi, lt_oi, eq_oi, add_oi, mul_oi, div_oi, ir_oi, gi_e, gi_n, if_true, if_false, if_pos, if_neg, true_and, and_true, false_and, and_false, true_or, or_true, false_or, or_false, h16]
  | succ m ih =>
    intro i fu N hi hf h16
    obtain ⟨fu', rfl⟩ : ∃ q, fu = q + 1 := ⟨fu - 1, by omega⟩
    have hO : Oc [95] N (si N 95 (121 + i) (gi N 101 i)) := Oc.si (by simp)
    obtain ⟨N', x1, x2, x3, x4⟩ := ih (i + 1) fu' (si N 95 (121 + i) (gi N 101 i)) (by omega) (by omega) (by rw [gi_n (by omega)]; exact h16)
    rw [gi_n (by omega)] at x1
    refine ⟨N', ?_, fun j h1 h2 => ?_, fun j hj => ?_, hO.tr x4 (fun c hc => ⟨hc, hc⟩)⟩
    · rw [F_X12_rules_L111]
      simp (disch := omega) only [l_0, l_1, l_2, l_3, l_4, l_5, l_6, l_7, l_8, l_9, l_10, l_11, l_12, l_13, l_14, l_15, l_16, l_17, l_18, l_19, l_20, l_21, l_22, l_23, l_24, l_25, l_26, l_27, l_28, l_29, l_30, l_31, l_32, l_33, l_34, l_35, l_36, l_37, l_38, l_39, l_40, l_41, l_42, l_43, l_44, l_45, l_46, l_47, l_48, l_49, l_50, l_51, l_52, l_53, l_54, l_55, l_56, l_57, l_58, l_59, l_60, l_61, l_62, l_63, l_64, l_65, l_66, l_67, l_68, l_69, l_70, l_71, l_72, l_73, l_74, l_75, l_76, l_77, l_78, l_79, l_80, l_81, l_82, l_83, l_84, l_85, l_86, l_87, l_88, l_89, l_90, l_91, l_92, l_93, l_94, l_95, l_96, l_97, l_98, l_99, l_100, l_101, l_102, l_103, l_104, l_105, l_106, l_107, l_108, l_109, l_110, l_111, l_121, l_122, l_160, l_200, l_201, l_240, l_255, l_361, l_390, l_499, l_500, l_999, l_1000, l_10000, l_10099, l_12345, l_16383, l_20000, l_20033, l_20038, l_20124, l_100000, l_1000000, l_1103515245, ui_oi, ck_oi, sb, jc_e, bl_0, bl_1, le_oi, lt_oi, eq_oi, add_oi, mul_oi, div_oi, ir_oi, gi_e, gi_n, if_true, if_false, if_pos, if_neg, true_and, and_true, false_and, and_false, true_or, or_true, false_or, or_false, h16, x1]
    · by_cases hji : j = i
      · rw [hji, x3 (121 + i) (by omega), gi_e]
      · rw [x2 j (by omega) h2, gi_n (by omega)]
    · rw [x3 j (by omega), gi_n (by omega)]
theorem r_cp1 (hsr : sr ≤ 240) : ∀ m i fu (N : Mm), i + m = 32 → m < fu → gi N 94 16 = oi sr → ∃ N', F_X12_rules_L82 fu N (oi i) = some (gi N 94 18, N') ∧ (∀ j, i ≤ j → j < 32 → gi N' 95 (89 + j) = gi N 102 j) ∧ (∀ j, j < sr → gi N' 95 (121 + j) = gi N 101 j) ∧ (∀ j, j < 89 + i → gi N' 95 j = gi N 95 j) ∧ Oc [95] N N' := by
  intro m
  induction m with
  | zero =>
    intro i fu N hi hf h16
    obtain ⟨fu', rfl⟩ : ∃ q, fu = q + 1 := ⟨fu - 1, by omega⟩
    obtain ⟨N', x1, x2, x3, x4⟩ := r_cp2 hsr sr 0 1000 N (by omega) (by omega) h16
    refine ⟨N', ?_, fun j h1 h2 => by omega, fun j hj => x2 j (by omega) hj, fun j hj => x3 j (by omega), x4⟩
    rw [F_X12_rules_L82]
    simp (disch := omega) only [l_0, l_1, l_2, l_3, l_4, l_5, l_6, l_7, l_8, l_9, l_10, l_11, l_12, l_13, l_14, l_15, l_16, l_17, l_18, l_19, l_20, l_21, l_22, l_23, l_24, l_25, l_26, l_27, l_28, l_29, l_30, l_31, l_32, l_33, l_34, l_35, l_36, l_37, l_38, l_39, l_40, l_41, l_42, l_43, l_44, l_45, l_46, l_47, l_48, l_49, l_50, l_51, l_52, l_53, l_54, l_55, l_56, l_57, l_58, l_59, l_60, l_61, l_62, l_63, l_64, l_65, l_66, l_67, l_68, l_69, l_70, l_71, l_72, l_73, l_74, l_75, l_76, l_77, l_78, l_79, l_80, l_81, l_82, l_83, l_84, l_85, l_86, l_87, l_88, l_89, l_90, l_91, l_92, l_93, l_94, l_95, l_96, l_97, l_98, l_99, l_100, l_101, l_102, l_103, l_104, l_105, l_106, l_107, l_108, l_109, l_110, l_111, l_121, l_122, l_160, l_200, l_201, l_240, l_255, l_361, l_390, l_499, l_500, l_999, l_1000, l_10000, l_10099, l_12345, l_16383, l_20000, l_20033, l_20038, l_20124, l_100000, l_1000000, l_1103515245, ui_oi, ck_oi, sb, jc_e, bl_0, bl_1, le_oi, lt_oi, eq_oi, add_oi, mul_oi, div_oi, ir_oi, gi_e, gi_n, if_true, if_false, if_pos, if_neg, true_and, and_true, false_and, and_false, true_or, or_true, false_or, or_false, x1]
  | succ m ih =>
    intro i fu N hi hf h16
    obtain ⟨fu', rfl⟩ : ∃ q, fu = q + 1 := ⟨fu - 1, by omega⟩
    have hO : Oc [95] N (si N 95 (89 + i) (gi N 102 i)) := Oc.si (by simp)
    obtain ⟨N', x1, x2, x3, x4, x5⟩ := ih (i + 1) fu' (si N 95 (89 + i) (gi N 102 i)) (by omega) (by omega) (by rw [gi_n (by omega)]; exact h16)
    rw [gi_n (by omega)] at x1
    refine ⟨N', ?_, fun j h1 h2 => ?_, fun j hj => (x3 j hj).trans (gi_n (by omega)), fun j hj => ?_, hO.tr x5 (fun c hc => ⟨hc, hc⟩)⟩
    · rw [F_X12_rules_L82]
      simp (disch := omega) only [l_0, l_1, l_2, l_3, l_4, l_5, l_6, l_7, l_8, l_9, l_10, l_11, l_12, l_13, l_14, l_15, l_16, l_17, l_18, l_19, l_20, l_21, l_22, l_23, l_24, l_25, l_26, l_27, l_28, l_29, l_30, l_31, l_32, l_33, l_34, l_35, l_36, l_37, l_38, l_39, l_40, l_41, l_42, l_43, l_44, l_45, l_46, l_47, l_48, l_49, l_50, l_51, l_52, l_53, l_54, l_55, l_56, l_57, l_58, l_59, l_60, l_61, l_62, l_63, l_64, l_65, l_66, l_67, l_68, l_69, l_70, l_71, l_72, l_73, l_74, l_75, l_76, l_77, l_78, l_79, l_80, l_81, l_82, l_83, l_84, l_85, l_86, l_87, l_88, l_89, l_90, l_91, l_92, l_93, l_94, l_95, l_96, l_97, l_98, l_99, l_100, l_101, l_102, l_103, l_104, l_105, l_106, l_107, l_108, l_109, l_110, l_111, l_121, l_122, l_160, l_200, l_201, l_240, l_255, l_361, l_390, l_499, l_500, l_999, l_1000, l_10000, l_10099, l_12345, l_16383, l_20000, l_20033, l_20038, l_20124, l_100000, l_1000000, l_1103515245, ui_oi, ck_oi, sb, jc_e, bl_0, bl_1, le_oi, lt_oi, eq_oi, add_oi, mul_oi, div_oi, ir_oi, gi_e, gi_n, if_true, if_false, if_pos, if_neg, true_and, and_true, false_and, and_false, true_or, or_true, false_or, or_false, x1]
    · by_cases hji : j = i
      · rw [hji, x4 (89 + i) (by omega), gi_e]
      · rw [x2 j (by omega) h2, gi_n (by omega)]
    · rw [x4 j (by omega), gi_n (by omega)]
theorem r_fnR (hsr : sr ≤ 240) (h13 : gi N 94 13 = oi 0) (h16 : gi N 94 16 = oi sr) (h18 : gi N 94 18 = oi c) : ∃ N', fnR N = some (oi c, N') ∧ gi N' 95 5 = oi c ∧ (∀ j, j < 32 → gi N' 95 (89 + j) = gi N 102 j) ∧ (∀ j, j < sr → gi N' 95 (121 + j) = gi N 101 j) ∧ (∀ j, j ≠ 5 → j < 89 → gi N' 95 j = gi N 95 j) ∧ gi N' 94 8 = oi 0 ∧ (∀ j, j ≠ 8 → gi N' 94 j = gi N 94 j) ∧ Oc [94, 95] N N' := by
  obtain ⟨N1, hN1⟩ : ∃ N1, N1 = si (si N 94 8 (oi 0)) 95 5 (oi c) := ⟨_, rfl⟩
  have hO : Oc [94, 95] N N1 := by
    rw [hN1]
    exact (Oc.si (S := [94, 95]) (by simp)).tr (Oc.si (S := [94, 95]) (by simp)) (fun c hc => ⟨hc, hc⟩)
  obtain ⟨N', x1, x2, x3, x4, x5⟩ := r_cp1 hsr 32 0 1000 N1 (by omega) (by omega) (by rw [hN1, gi_n (by omega), gi_n (by omega)]; exact h16)
  have g18 : gi N1 94 18 = oi c := by rw [hN1, gi_n (by omega), gi_n (by omega)]; exact h18
  rw [g18] at x1
  refine ⟨N', ?_, by rw [x4 5 (by omega), hN1, gi_e], fun j hj => (x2 j (by omega) hj).trans (hO.g (by decide)), fun j hj => (x3 j hj).trans (hO.g (by decide)), fun j h1 h2 => by rw [x4 j (by omega), hN1, gi_n (by omega), gi_n (by omega)], by rw [x5.g (by decide), hN1, gi_n (by omega), gi_e], fun j hj => by rw [x5.g (by decide), hN1, gi_n (by omega), gi_n (by omega)], hO.tr x5 (fun c hc => ⟨hc, fun q => hc (by simp at q ⊢; omega)⟩)⟩
  unfold fnR
  simp (disch := omega) only [l_0, l_1, l_2, l_3, l_4, l_5, l_6, l_7, l_8, l_9, l_10, l_11, l_12, l_13, l_14, l_15, l_16, l_17, l_18, l_19, l_20, l_21, l_22, l_23, l_24, l_25, l_26, l_27, l_28, l_29, l_30, l_31, l_32, l_33, l_34, l_35, l_36, l_37, l_38, l_39, l_40, l_41, l_42, l_43, l_44, l_45, l_46, l_47, l_48, l_49, l_50, l_51, l_52, l_53, l_54, l_55, l_56, l_57, l_58, l_59, l_60, l_61, l_62, l_63, l_64, l_65, l_66, l_67, l_68, l_69, l_70, l_71, l_72, l_73, l_74, l_75, l_76, l_77, l_78, l_79, l_80, l_81, l_82, l_83, l_84, l_85, l_86, l_87, l_88, l_89, l_90, l_91, l_92, l_93, l_94, l_95, l_96, l_97, l_98, l_99, l_100, l_101, l_102, l_103, l_104, l_105, l_106, l_107, l_108, l_109, l_110, l_111, l_121, l_122, l_160, l_200, l_201, l_240, l_255, l_361, l_390, l_499, l_500, l_999, l_1000, l_10000, l_10099, l_12345, l_16383, l_20000, l_20033, l_20038, l_20124, l_100000, l_1000000, l_1103515245, ui_oi, ck_oi, sb, jc_e, bl_0, bl_1, le_oi, lt_oi, eq_oi, add_oi, mul_oi, div_oi, ir_oi, gi_e, gi_n, if_true, if_false, if_pos, if_neg, true_and, and_true, false_and, and_false, true_or, or_true, false_or, or_false, h13, h18]
  rw [← hN1, x1]
end PK

/-! THE TEXT OF RULES: all of them -/
def fnR (M : Mm) : Option (Int32 × Mm) := ((if (gi (si M 94 8 0) 94 13) = 0 then ck 5 361 (F_X12_rules_L82 1000 (si (si M 94 8 0) 95 (ui 5) (gi (si M 94 8 0) 94 18)) 0) else some (((-100) - (gi (si M 94 8 0) 94 10)), si M 94 8 0)) : Option (Int32 × Mm))
section PI
variable {M N M' N' N1 M1 : Mm} {b : Nat → Nat} {n K a sc sr o s t k c D f0 s0 : Nat}
theorem r_end (hG : GN b n N a sr o) : gi N 94 11 = oi 0 ↔ tkn b n a = 60 := by
  obtain ⟨hT, h8, hs, ⟨q9, q10, hD⟩, h13, h16, h14⟩ := hG
  have hD : TD N (tkn b n a) := hD
  have ne : ∀ x, 1 ≤ x → x ≤ 3 → gi N 94 11 = oi x → ¬ gi N 94 11 = oi 0 := fun x h1 h2 q => by
    rw [q, eq_oi (by omega) (by omega)]
    omega
  rcases hD with ⟨d1, d2, d3⟩ | ⟨d1, d2, d3, d4⟩ | ⟨d1, d2, d3, d4⟩ | ⟨d1, d2⟩ | ⟨d1, d2⟩
  · exact ⟨fun q => absurd q (ne 1 (by omega) (by omega) d2), fun q => by omega⟩
  · exact ⟨fun q => absurd q (ne 3 (by omega) (by omega) d3), fun q => by omega⟩
  · exact ⟨fun q => absurd q (ne 2 (by omega) (by omega) d3), fun q => by omega⟩
  · exact ⟨fun _ => d1, fun _ => d2⟩
  · refine ⟨fun q => ?_, fun q => by omega⟩
    rcases d2 with ⟨e1, e2⟩ | ⟨e1, e2⟩ | ⟨e1, e2⟩
    · exact absurd q (ne 1 (by omega) (by omega) e1)
    · exact absurd q (ne 3 (by omega) (by omega) e1)
    · exact absurd q (ne 2 (by omega) (by omega) e1)
theorem tI_end (h : t < 1000000) : tI t = - oi 1 ↔ t = 60 := by
  unfold tI
  by_cases h1 : t = 50
  · rw [if_pos h1, n21]
    exact ⟨fun q => q.elim, fun q => by omega⟩
  · rw [if_neg h1]
    by_cases h2 : t = 60
    · rw [if_pos h2]
      exact ⟨fun _ => h2, fun _ => rfl⟩
    · rw [if_neg h2, ne_neg (by omega)]
      exact ⟨fun q => q.elim, fun q => absurd q h2⟩
theorem p_read : ∀ m a c sc sr (M N : Mm) fu fu2, c + m = 9 → m < fu → m < fu2 → RS b n K M N a c sc sr → ∃ M' N', F_X6_read_L28 fu M (oi c) = some (gi M' 7 10, M') ∧ F_X12_rules_L29 fu2 N = fnR N' ∧ FM2 M M' ∧ FR2 N N' ∧ ((∃ s, BM b n K M' s ∧ BN b n N' s) ∨ ∃ a c sc sr, RS b n K M' N' a c sc sr) := by
  intro m
  induction m with
  | zero =>
    intro a c sc sr M N fu fu2 hm hf hf2 h
    have := h.2.2.2.2.1
    omega
  | succ m ih =>
    intro a c sc sr M N fu fu2 hm hf hf2 h
    obtain ⟨fu', rfl⟩ : ∃ q, fu = q + 1 := ⟨fu - 1, by omega⟩
    obtain ⟨fu2', rfl⟩ : ∃ q, fu2 = q + 1 := ⟨fu2 - 1, by omega⟩
    obtain ⟨hM, hG, h0, h18, hc8, hlast, hr⟩ := id h
    obtain ⟨hT, hK, hs, h9, h10, h5⟩ := id hM
    have hnk := hT.2.1
    have hKn := hT.1
    have hx2 : gi M 13 a = tI (tkn b n a) := (hT.2.2.2 a hK).2.1
    have he := r_end hG
    have he2 := tI_end (t := tkn b n a) (by have := tkn_lt (b := b) (n := n) (a := a); omega)
    have hneg : ¬ oi 0 ≤ (- oi 1 : Int32) := by decide
    have h13 : gi N 94 13 = oi 0 := hG.2.2.2.2.1
    by_cases ht : tkn b n a = 60
    · refine ⟨M, N, ?_, ?_, Oc.rf, ⟨Oc.rf, fun _ _ _ _ _ _ _ _ => rfl⟩, Or.inr ⟨a, c, sc, sr, h⟩⟩
      · rw [he2.mpr ht] at hx2
        rw [F_X6_read_L28]
        simp (disch := omega) only [l_0, l_1, l_2, l_3, l_4, l_5, l_6, l_7, l_8, l_9, l_10, l_11, l_12, l_13, l_14, l_15, l_16, l_17, l_18, l_19, l_20, l_21, l_22, l_23, l_24, l_25, l_26, l_27, l_28, l_29, l_30, l_31, l_32, l_33, l_34, l_35, l_36, l_37, l_38, l_39, l_40, l_41, l_42, l_43, l_44, l_45, l_46, l_47, l_48, l_49, l_50, l_51, l_52, l_53, l_54, l_55, l_56, l_57, l_58, l_59, l_60, l_61, l_62, l_63, l_64, l_65, l_66, l_67, l_68, l_69, l_70, l_71, l_72, l_73, l_74, l_75, l_76, l_77, l_78, l_79, l_80, l_81, l_82, l_83, l_84, l_85, l_86, l_87, l_88, l_89, l_90, l_91, l_92, l_93, l_94, l_95, l_96, l_97, l_98, l_99, l_100, l_101, l_102, l_103, l_104, l_105, l_106, l_107, l_108, l_109, l_110, l_111, l_121, l_122, l_160, l_200, l_201, l_240, l_255, l_361, l_390, l_499, l_500, l_999, l_1000, l_10000, l_10099, l_12345, l_16383, l_20000, l_20033, l_20038, l_20124, l_100000, l_1000000, l_1103515245, ui_oi, ck_oi, sb, jc_e, bl_0, bl_1, le_oi, lt_oi, eq_oi, add_oi, mul_oi, div_oi, ir_oi, gi_e, gi_n, if_true, if_false, if_pos, if_neg, true_and, and_true, false_and, and_false, true_or, or_true, false_or, or_false, h10, hneg, h9, hx2]
      · have h11 := he.mpr ht
        rw [F_X12_rules_L29, jc, l_0, if_pos h11]
        rfl
    · have h11 : ¬ gi N 94 11 = oi 0 := fun q => ht (he.mp q)
      have hx3 : ¬ gi M 13 a = - oi 1 := by rw [hx2]; exact fun q => ht (he2.mp q)
      obtain ⟨M1, N1, r1, r2, r3, r4, r5⟩ := p_rule h
      rcases r5 with ⟨s, bM, bN⟩ | ⟨c8, a', sc', sr', q1, q2⟩
      · have hb7 := bM.2.2.1
        have hsn := bM.2.1
        have hb13 := bN.2.2.1
        refine ⟨M1, N1, ?_, ?_, r3, r4, Or.inl ⟨s, bM, bN⟩⟩
        · have hl : F_X6_read_L28 fu' M1 (oi (c + 1)) = some (gi M1 7 10, M1) := by
            obtain ⟨fu'', rfl⟩ : ∃ q, fu' = q + 1 := ⟨fu' - 1, by omega⟩
            rw [F_X6_read_L28]
            by_cases h8 : 8 < c + 1
            · simp (disch := omega) only [l_0, l_1, l_2, l_3, l_4, l_5, l_6, l_7, l_8, l_9, l_10, l_11, l_12, l_13, l_14, l_15, l_16, l_17, l_18, l_19, l_20, l_21, l_22, l_23, l_24, l_25, l_26, l_27, l_28, l_29, l_30, l_31, l_32, l_33, l_34, l_35, l_36, l_37, l_38, l_39, l_40, l_41, l_42, l_43, l_44, l_45, l_46, l_47, l_48, l_49, l_50, l_51, l_52, l_53, l_54, l_55, l_56, l_57, l_58, l_59, l_60, l_61, l_62, l_63, l_64, l_65, l_66, l_67, l_68, l_69, l_70, l_71, l_72, l_73, l_74, l_75, l_76, l_77, l_78, l_79, l_80, l_81, l_82, l_83, l_84, l_85, l_86, l_87, l_88, l_89, l_90, l_91, l_92, l_93, l_94, l_95, l_96, l_97, l_98, l_99, l_100, l_101, l_102, l_103, l_104, l_105, l_106, l_107, l_108, l_109, l_110, l_111, l_121, l_122, l_160, l_200, l_201, l_240, l_255, l_361, l_390, l_499, l_500, l_999, l_1000, l_10000, l_10099, l_12345, l_16383, l_20000, l_20033, l_20038, l_20124, l_100000, l_1000000, l_1103515245, ui_oi, ck_oi, sb, jc_e, bl_0, bl_1, le_oi, lt_oi, eq_oi, add_oi, mul_oi, div_oi, ir_oi, gi_e, gi_n, if_true, if_false, if_pos, if_neg, true_and, and_true, false_and, and_false, true_or, or_true, false_or, or_false, ]
            · simp (disch := omega) only [l_0, l_1, l_2, l_3, l_4, l_5, l_6, l_7, l_8, l_9, l_10, l_11, l_12, l_13, l_14, l_15, l_16, l_17, l_18, l_19, l_20, l_21, l_22, l_23, l_24, l_25, l_26, l_27, l_28, l_29, l_30, l_31, l_32, l_33, l_34, l_35, l_36, l_37, l_38, l_39, l_40, l_41, l_42, l_43, l_44, l_45, l_46, l_47, l_48, l_49, l_50, l_51, l_52, l_53, l_54, l_55, l_56, l_57, l_58, l_59, l_60, l_61, l_62, l_63, l_64, l_65, l_66, l_67, l_68, l_69, l_70, l_71, l_72, l_73, l_74, l_75, l_76, l_77, l_78, l_79, l_80, l_81, l_82, l_83, l_84, l_85, l_86, l_87, l_88, l_89, l_90, l_91, l_92, l_93, l_94, l_95, l_96, l_97, l_98, l_99, l_100, l_101, l_102, l_103, l_104, l_105, l_106, l_107, l_108, l_109, l_110, l_111, l_121, l_122, l_160, l_200, l_201, l_240, l_255, l_361, l_390, l_499, l_500, l_999, l_1000, l_10000, l_10099, l_12345, l_16383, l_20000, l_20033, l_20038, l_20124, l_100000, l_1000000, l_1103515245, ui_oi, ck_oi, sb, jc_e, bl_0, bl_1, le_oi, lt_oi, eq_oi, add_oi, mul_oi, div_oi, ir_oi, gi_e, gi_n, if_true, if_false, if_pos, if_neg, true_and, and_true, false_and, and_false, true_or, or_true, false_or, or_false, hb7]
          rw [F_X6_read_L28]
          simp (disch := omega) only [l_0, l_1, l_2, l_3, l_4, l_5, l_6, l_7, l_8, l_9, l_10, l_11, l_12, l_13, l_14, l_15, l_16, l_17, l_18, l_19, l_20, l_21, l_22, l_23, l_24, l_25, l_26, l_27, l_28, l_29, l_30, l_31, l_32, l_33, l_34, l_35, l_36, l_37, l_38, l_39, l_40, l_41, l_42, l_43, l_44, l_45, l_46, l_47, l_48, l_49, l_50, l_51, l_52, l_53, l_54, l_55, l_56, l_57, l_58, l_59, l_60, l_61, l_62, l_63, l_64, l_65, l_66, l_67, l_68, l_69, l_70, l_71, l_72, l_73, l_74, l_75, l_76, l_77, l_78, l_79, l_80, l_81, l_82, l_83, l_84, l_85, l_86, l_87, l_88, l_89, l_90, l_91, l_92, l_93, l_94, l_95, l_96, l_97, l_98, l_99, l_100, l_101, l_102, l_103, l_104, l_105, l_106, l_107, l_108, l_109, l_110, l_111, l_121, l_122, l_160, l_200, l_201, l_240, l_255, l_361, l_390, l_499, l_500, l_999, l_1000, l_10000, l_10099, l_12345, l_16383, l_20000, l_20033, l_20038, l_20124, l_100000, l_1000000, l_1103515245, ui_oi, ck_oi, sb, jc_e, bl_0, bl_1, le_oi, lt_oi, eq_oi, add_oi, mul_oi, div_oi, ir_oi, gi_e, gi_n, if_true, if_false, if_pos, if_neg, true_and, and_true, false_and, and_false, true_or, or_true, false_or, or_false, h10, hneg, h9, hx3, r1, hl]
        · have hl : F_X12_rules_L29 fu2' N1 = fnR N1 := by
            obtain ⟨fu'', rfl⟩ : ∃ q, fu2' = q + 1 := ⟨fu2' - 1, by omega⟩
            rw [F_X12_rules_L29, jc, l_0]
            by_cases h11' : gi N1 94 11 = oi 0
            · rw [if_pos h11']
              rfl
            · rw [if_neg h11', hb13, if_neg (by decide)]
              rfl
          rw [F_X12_rules_L29, jc, l_0, if_neg h11, if_pos h13, r2, sb, hl]
      · obtain ⟨M', N', x1, x2, x3, x4, x5⟩ := ih a' (c + 1) sc' sr' M1 N1 fu' fu2' (by omega) (by omega) (by omega) q2
        refine ⟨M', N', ?_, ?_, r3.tr x3, r4.tr x4, x5⟩
        · rw [F_X6_read_L28]
          simp (disch := omega) only [l_0, l_1, l_2, l_3, l_4, l_5, l_6, l_7, l_8, l_9, l_10, l_11, l_12, l_13, l_14, l_15, l_16, l_17, l_18, l_19, l_20, l_21, l_22, l_23, l_24, l_25, l_26, l_27, l_28, l_29, l_30, l_31, l_32, l_33, l_34, l_35, l_36, l_37, l_38, l_39, l_40, l_41, l_42, l_43, l_44, l_45, l_46, l_47, l_48, l_49, l_50, l_51, l_52, l_53, l_54, l_55, l_56, l_57, l_58, l_59, l_60, l_61, l_62, l_63, l_64, l_65, l_66, l_67, l_68, l_69, l_70, l_71, l_72, l_73, l_74, l_75, l_76, l_77, l_78, l_79, l_80, l_81, l_82, l_83, l_84, l_85, l_86, l_87, l_88, l_89, l_90, l_91, l_92, l_93, l_94, l_95, l_96, l_97, l_98, l_99, l_100, l_101, l_102, l_103, l_104, l_105, l_106, l_107, l_108, l_109, l_110, l_111, l_121, l_122, l_160, l_200, l_201, l_240, l_255, l_361, l_390, l_499, l_500, l_999, l_1000, l_10000, l_10099, l_12345, l_16383, l_20000, l_20033, l_20038, l_20124, l_100000, l_1000000, l_1103515245, ui_oi, ck_oi, sb, jc_e, bl_0, bl_1, le_oi, lt_oi, eq_oi, add_oi, mul_oi, div_oi, ir_oi, gi_e, gi_n, if_true, if_false, if_pos, if_neg, true_and, and_true, false_and, and_false, true_or, or_true, false_or, or_false, h10, hneg, h9, hx3, r1, x1]
        · rw [F_X12_rules_L29, jc, l_0, if_neg h11, if_pos h13, r2, sb, x2]
end PI

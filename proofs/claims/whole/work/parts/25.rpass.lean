/-! A TIDE IN THE REFERENCE -/
section RP
variable {N : Mm} {d : Nat → Nat} {c : Cnd} {k t f r a j : Nat}
theorem RR.si {v : Nat} (h : RR N d) : RR (si N 95 j (oi v)) (zU d j v) := by
  intro i hi
  unfold zU
  by_cases q : i = j
  · subst q
    rw [gi_e, if_pos rfl]
  · rw [gi_n (by omega), if_neg q]
    exact h i hi
theorem r_sets (hk : k < 6) (hj : j < 5) {v : Int32} : F_X12_sets N (oi k) (oi j) v = some (si N 95 (35 + 5 * k + j) v) := by
  unfold F_X12_sets
  simp (disch := omega) only [l_0, l_1, l_2, l_3, l_4, l_5, l_6, l_7, l_8, l_9, l_10, l_11, l_12, l_13, l_14, l_15, l_16, l_17, l_18, l_19, l_20, l_21, l_22, l_23, l_24, l_25, l_26, l_27, l_28, l_29, l_30, l_31, l_32, l_33, l_34, l_35, l_36, l_37, l_38, l_39, l_40, l_41, l_42, l_43, l_44, l_45, l_46, l_47, l_48, l_49, l_50, l_51, l_52, l_53, l_54, l_55, l_56, l_57, l_58, l_59, l_60, l_61, l_62, l_63, l_64, l_65, l_66, l_67, l_68, l_69, l_70, l_71, l_72, l_73, l_74, l_75, l_76, l_77, l_78, l_79, l_80, l_81, l_82, l_83, l_84, l_85, l_86, l_87, l_88, l_89, l_90, l_91, l_92, l_93, l_94, l_95, l_96, l_97, l_98, l_99, l_100, l_101, l_102, l_103, l_104, l_105, l_106, l_107, l_108, l_109, l_110, l_111, l_121, l_122, l_160, l_200, l_201, l_240, l_255, l_361, l_390, l_499, l_500, l_999, l_1000, l_10000, l_10099, l_12345, l_16383, l_20000, l_20033, l_20038, l_20124, l_100000, l_1000000, l_1103515245, ui_oi, ck_oi, sb, jc_e, bl_0, bl_1, le_oi, lt_oi, eq_oi, add_oi, mul_oi, div_oi, ir_oi, gi_e, gi_n, if_true, if_false, if_pos, if_neg, true_and, and_true, false_and, and_false, true_or, or_true, false_or, or_false, ]
/-- the conditions' part of RI hangs on the code and the rules' rows alone -/
def RK (N : Mm) (d : Nat → Nat) (c : Cnd) : Prop := ∃ cs, cs ≤ 240 ∧ RE (fun r => d (91 + 4 * r)) (fun r => d (92 + 4 * r)) (fun i => gi N 95 (121 + i)) (d 5) cs c
theorem RK.mv {N' : Mm} {d' : Nat → Nat} (h : RK N d c) (h2 : ∀ i, 121 ≤ i → gi N' 95 i = gi N 95 i) (hS : Sd d d') : RK N' d' c := by
  obtain ⟨cs, h3, h4⟩ := h
  refine ⟨cs, h3, ?_⟩
  have e : (fun i => gi N' 95 (121 + i)) = (fun i => gi N 95 (121 + i)) := funext fun i => h2 _ (by omega)
  have e1 : (fun r => d' (91 + 4 * r)) = (fun r => d (91 + 4 * r)) := funext fun r => hS.o (by omega)
  have e2 : (fun r => d' (92 + 4 * r)) = (fun r => d (92 + 4 * r)) := funext fun r => hS.o (by omega)
  rw [e, e1, e2, hS.o (j := 5) (by omega)]
  exact h4
theorem r_iss (hI : RI N d c) (hW : WF d) (hk : k < 6) : ∃ N', F_X12_isStakeable N (oi k) = some (oi (if zWl d c k = 0 ∧ 0 < zPy d k then 1 else 0), N') ∧ Oc [98] N N' := by
  obtain ⟨N1, g1, g2⟩ := r_wl hW hk hI
  have hR1 : RR N1 d := hI.1.oc g2 (by decide)
  have hp := r_py hR1 hW hk
  have hb := (hW.2.2.2.2.2.1 k hk).2.1
  have hp14 := zPy_le hb
  have hz := zWl_le (c := c) hW k
  refine ⟨N1, ?_, g2⟩
  unfold F_X12_isStakeable
  by_cases h1 : zWl d c k = 0
  · by_cases h2 : 0 < zPy d k <;> simp (disch := omega) only [l_0, l_1, l_2, l_3, l_4, l_5, l_6, l_7, l_8, l_9, l_10, l_11, l_12, l_13, l_14, l_15, l_16, l_17, l_18, l_19, l_20, l_21, l_22, l_23, l_24, l_25, l_26, l_27, l_28, l_29, l_30, l_31, l_32, l_33, l_34, l_35, l_36, l_37, l_38, l_39, l_40, l_41, l_42, l_43, l_44, l_45, l_46, l_47, l_48, l_49, l_50, l_51, l_52, l_53, l_54, l_55, l_56, l_57, l_58, l_59, l_60, l_61, l_62, l_63, l_64, l_65, l_66, l_67, l_68, l_69, l_70, l_71, l_72, l_73, l_74, l_75, l_76, l_77, l_78, l_79, l_80, l_81, l_82, l_83, l_84, l_85, l_86, l_87, l_88, l_89, l_90, l_91, l_92, l_93, l_94, l_95, l_96, l_97, l_98, l_99, l_100, l_101, l_102, l_103, l_104, l_105, l_106, l_107, l_108, l_109, l_110, l_111, l_121, l_122, l_160, l_200, l_201, l_240, l_255, l_361, l_390, l_499, l_500, l_999, l_1000, l_10000, l_10099, l_12345, l_16383, l_20000, l_20033, l_20038, l_20124, l_100000, l_1000000, l_1103515245, ui_oi, ck_oi, sb, jc_e, bl_0, bl_1, le_oi, lt_oi, eq_oi, add_oi, mul_oi, div_oi, ir_oi, gi_e, gi_n, if_true, if_false, if_pos, if_neg, true_and, and_true, false_and, and_false, true_or, or_true, false_or, or_false, g1, hp, h1]
  · simp (disch := omega) only [l_0, l_1, l_2, l_3, l_4, l_5, l_6, l_7, l_8, l_9, l_10, l_11, l_12, l_13, l_14, l_15, l_16, l_17, l_18, l_19, l_20, l_21, l_22, l_23, l_24, l_25, l_26, l_27, l_28, l_29, l_30, l_31, l_32, l_33, l_34, l_35, l_36, l_37, l_38, l_39, l_40, l_41, l_42, l_43, l_44, l_45, l_46, l_47, l_48, l_49, l_50, l_51, l_52, l_53, l_54, l_55, l_56, l_57, l_58, l_59, l_60, l_61, l_62, l_63, l_64, l_65, l_66, l_67, l_68, l_69, l_70, l_71, l_72, l_73, l_74, l_75, l_76, l_77, l_78, l_79, l_80, l_81, l_82, l_83, l_84, l_85, l_86, l_87, l_88, l_89, l_90, l_91, l_92, l_93, l_94, l_95, l_96, l_97, l_98, l_99, l_100, l_101, l_102, l_103, l_104, l_105, l_106, l_107, l_108, l_109, l_110, l_111, l_121, l_122, l_160, l_200, l_201, l_240, l_255, l_361, l_390, l_499, l_500, l_999, l_1000, l_10000, l_10099, l_12345, l_16383, l_20000, l_20033, l_20038, l_20124, l_100000, l_1000000, l_1103515245, ui_oi, ck_oi, sb, jc_e, bl_0, bl_1, le_oi, lt_oi, eq_oi, add_oi, mul_oi, div_oi, ir_oi, gi_e, gi_n, if_true, if_false, if_pos, if_neg, true_and, and_true, false_and, and_false, true_or, or_true, false_or, or_false, g1]
theorem r_does (hI : RI N d c) (hW : WF d) (hk : k < 6) (hkn : k < d 0) (hs : zS d k = 0) : ∃ N', F_X12_does N (oi k) = some (oi (zDw d c k), N') ∧ RR N' (zDd d c k) ∧ Oc [95, 98] N N' ∧ (∀ i, 121 ≤ i → gi N' 95 i = gi N 95 i) := by
  obtain ⟨N1, g1, g2⟩ := r_wl hW hk hI
  obtain ⟨h0, h1, h2, h5, h6, hb, hw7⟩ := id hW
  obtain ⟨b1, b2, b3, b4, b5, b6⟩ := hb k hk
  have hR1 : RR N1 d := hI.1.oc g2 (by decide)
  have hp := r_py hR1 hW hk
  have hp14 := zPy_le b2
  have hO1 : Oc [95, 98] N N1 := g2.su (fun c hc q => hc (by simp at q ⊢; omega))
  have h12 : ∀ i, 121 ≤ i → gi N1 95 i = gi N 95 i := fun i hi => g2.g (by decide)
  have hOs : ∀ (M : Mm) (j : Nat) (v : Int32), Oc [95, 98] M (si M 95 j v) := fun M j v => Oc.si (by decide)
  have htr : ∀ {A B C : Mm}, Oc [95, 98] A B → Oc [95, 98] B C → Oc [95, 98] A C := fun p q => p.tr q (fun c hc => ⟨hc, hc⟩)
  unfold F_X12_does zDw zDd
  rcases (by have := zWl_le (c := c) hW k; omega : zWl d c k = 0 ∨ zWl d c k = 1 ∨ zWl d c k = 2) with hq | hq | hq
  · rw [if_pos hq, if_pos hq]
    by_cases hp0 : 0 < zPy d k
    · rw [if_pos hp0]
      refine ⟨si N1 95 (39 + 5 * k) (oi 1), ?_, hR1.si, htr hO1 (hOs _ _ _), fun i hi => by rw [gi_n (by omega)]; exact h12 i hi⟩
      simp (disch := omega) only [l_0, l_1, l_2, l_3, l_4, l_5, l_6, l_7, l_8, l_9, l_10, l_11, l_12, l_13, l_14, l_15, l_16, l_17, l_18, l_19, l_20, l_21, l_22, l_23, l_24, l_25, l_26, l_27, l_28, l_29, l_30, l_31, l_32, l_33, l_34, l_35, l_36, l_37, l_38, l_39, l_40, l_41, l_42, l_43, l_44, l_45, l_46, l_47, l_48, l_49, l_50, l_51, l_52, l_53, l_54, l_55, l_56, l_57, l_58, l_59, l_60, l_61, l_62, l_63, l_64, l_65, l_66, l_67, l_68, l_69, l_70, l_71, l_72, l_73, l_74, l_75, l_76, l_77, l_78, l_79, l_80, l_81, l_82, l_83, l_84, l_85, l_86, l_87, l_88, l_89, l_90, l_91, l_92, l_93, l_94, l_95, l_96, l_97, l_98, l_99, l_100, l_101, l_102, l_103, l_104, l_105, l_106, l_107, l_108, l_109, l_110, l_111, l_121, l_122, l_160, l_200, l_201, l_240, l_255, l_361, l_390, l_499, l_500, l_999, l_1000, l_10000, l_10099, l_12345, l_16383, l_20000, l_20033, l_20038, l_20124, l_100000, l_1000000, l_1103515245, ui_oi, ck_oi, sb, jc_e, bl_0, bl_1, le_oi, lt_oi, eq_oi, add_oi, mul_oi, div_oi, ir_oi, gi_e, gi_n, if_true, if_false, if_pos, if_neg, true_and, and_true, false_and, and_false, true_or, or_true, false_or, or_false, g1, hq, hp, r_sets hk, show 35 + 5 * k + 4 = 39 + 5 * k by omega]
    · rw [if_neg hp0]
      refine ⟨si N1 95 (39 + 5 * k) (oi 0), ?_, ?_, htr hO1 (hOs _ _ _), fun i hi => by rw [gi_n (by omega)]; exact h12 i hi⟩
      · simp (disch := omega) only [l_0, l_1, l_2, l_3, l_4, l_5, l_6, l_7, l_8, l_9, l_10, l_11, l_12, l_13, l_14, l_15, l_16, l_17, l_18, l_19, l_20, l_21, l_22, l_23, l_24, l_25, l_26, l_27, l_28, l_29, l_30, l_31, l_32, l_33, l_34, l_35, l_36, l_37, l_38, l_39, l_40, l_41, l_42, l_43, l_44, l_45, l_46, l_47, l_48, l_49, l_50, l_51, l_52, l_53, l_54, l_55, l_56, l_57, l_58, l_59, l_60, l_61, l_62, l_63, l_64, l_65, l_66, l_67, l_68, l_69, l_70, l_71, l_72, l_73, l_74, l_75, l_76, l_77, l_78, l_79, l_80, l_81, l_82, l_83, l_84, l_85, l_86, l_87, l_88, l_89, l_90, l_91, l_92, l_93, l_94, l_95, l_96, l_97, l_98, l_99, l_100, l_101, l_102, l_103, l_104, l_105, l_106, l_107, l_108, l_109, l_110, l_111, l_121, l_122, l_160, l_200, l_201, l_240, l_255, l_361, l_390, l_499, l_500, l_999, l_1000, l_10000, l_10099, l_12345, l_16383, l_20000, l_20033, l_20038, l_20124, l_100000, l_1000000, l_1103515245, ui_oi, ck_oi, sb, jc_e, bl_0, bl_1, le_oi, lt_oi, eq_oi, add_oi, mul_oi, div_oi, ir_oi, gi_e, gi_n, if_true, if_false, if_pos, if_neg, true_and, and_true, false_and, and_false, true_or, or_true, false_or, or_false, g1, hq, hp, r_sets hk, show 35 + 5 * k + 4 = 39 + 5 * k by omega]
      · have e : zU d (39 + 5 * k) 0 = d := by
          funext i
          unfold zU
          split
          · rename_i q
            rw [q]
            exact hs.symm
          · rfl
        have := hR1.si (j := 39 + 5 * k) (v := 0)
        rw [e] at this
        exact this
  · simp only [if_neg (show ¬ zWl d c k = 0 by omega), if_neg (show ¬ zWl d c k = 2 by omega)]
    refine ⟨N1, ?_, hR1, hO1, h12⟩
    simp (disch := omega) only [l_0, l_1, l_2, l_3, l_4, l_5, l_6, l_7, l_8, l_9, l_10, l_11, l_12, l_13, l_14, l_15, l_16, l_17, l_18, l_19, l_20, l_21, l_22, l_23, l_24, l_25, l_26, l_27, l_28, l_29, l_30, l_31, l_32, l_33, l_34, l_35, l_36, l_37, l_38, l_39, l_40, l_41, l_42, l_43, l_44, l_45, l_46, l_47, l_48, l_49, l_50, l_51, l_52, l_53, l_54, l_55, l_56, l_57, l_58, l_59, l_60, l_61, l_62, l_63, l_64, l_65, l_66, l_67, l_68, l_69, l_70, l_71, l_72, l_73, l_74, l_75, l_76, l_77, l_78, l_79, l_80, l_81, l_82, l_83, l_84, l_85, l_86, l_87, l_88, l_89, l_90, l_91, l_92, l_93, l_94, l_95, l_96, l_97, l_98, l_99, l_100, l_101, l_102, l_103, l_104, l_105, l_106, l_107, l_108, l_109, l_110, l_111, l_121, l_122, l_160, l_200, l_201, l_240, l_255, l_361, l_390, l_499, l_500, l_999, l_1000, l_10000, l_10099, l_12345, l_16383, l_20000, l_20033, l_20038, l_20124, l_100000, l_1000000, l_1103515245, ui_oi, ck_oi, sb, jc_e, bl_0, bl_1, le_oi, lt_oi, eq_oi, add_oi, mul_oi, div_oi, ir_oi, gi_e, gi_n, if_true, if_false, if_pos, if_neg, true_and, and_true, false_and, and_false, true_or, or_true, false_or, or_false, g1, hq]
  · simp only [if_neg (show ¬ zWl d c k = 0 by omega), if_pos hq]
    have e1 : max 0 (min (zC d k + 2) 9) = min 9 (zC d k + 2) := by omega
    have e2 : max 0 (min (zF d k + 3) 99) = min 99 (zF d k + 3) := by omega
    obtain ⟨d1, hd1⟩ : ∃ d1, d1 = zU d (37 + 5 * k) (min 9 (zC d k + 2)) := ⟨_, rfl⟩
    obtain ⟨N2, hN2⟩ : ∃ N2, N2 = si N1 95 (37 + 5 * k) (oi (min 9 (zC d k + 2))) := ⟨_, rfl⟩
    have hR2 : RR N2 d1 := by rw [hN2, hd1]; exact hR1.si
    obtain ⟨d2, hd2⟩ : ∃ d2, d2 = zU d1 (36 + 5 * k) (min 99 (zF d k + 3)) := ⟨_, rfl⟩
    obtain ⟨N3, hN3⟩ : ∃ N3, N3 = si N2 95 (36 + 5 * k) (oi (min 99 (zF d k + 3))) := ⟨_, rfl⟩
    have hR3 : RR N3 d2 := by rw [hN3, hd2]; exact hR2.si
    have hf1 : zF d1 k = zF d k := by
      rw [hd1]
      unfold zF
      exact zU_n (by omega)
    have hW3 : WF d2 := by
      have hx := zAd_w (c := c) (a := k + 1) hW (by omega)
      unfold zAd zDd at hx
      simp only [show k + 1 - 1 = k by omega, if_pos (show 0 < k + 1 ∧ zS d k = 0 from ⟨by omega, hs⟩), if_neg (show ¬ zWl d c k = 0 by omega), if_pos hq] at hx
      rw [hd2, hd1]
      exact hx
    have hsa : zSa d2 = zSa d := by
      unfold zSa zW
      have e9 : d2 1 = d 1 := by rw [hd2, hd1, zU_n (by omega), zU_n (by omega)]
      rw [e9]
      split
      · rw [hd2, hd1, zU_n (by omega), zU_n (by omega)]
      · rfl
    have hs3 := r_sa hR3 hW3
    rw [hsa] at hs3
    refine ⟨N3, ?_, by rw [← hd1, ← hd2]; exact hR3, htr hO1 (by rw [hN3, hN2]; exact htr (hOs _ _ _) (hOs _ _ _)), fun i hi => by rw [hN3, hN2, gi_n (by omega), gi_n (by omega)]; exact h12 i hi⟩
    simp (disch := omega) only [l_0, l_1, l_2, l_3, l_4, l_5, l_6, l_7, l_8, l_9, l_10, l_11, l_12, l_13, l_14, l_15, l_16, l_17, l_18, l_19, l_20, l_21, l_22, l_23, l_24, l_25, l_26, l_27, l_28, l_29, l_30, l_31, l_32, l_33, l_34, l_35, l_36, l_37, l_38, l_39, l_40, l_41, l_42, l_43, l_44, l_45, l_46, l_47, l_48, l_49, l_50, l_51, l_52, l_53, l_54, l_55, l_56, l_57, l_58, l_59, l_60, l_61, l_62, l_63, l_64, l_65, l_66, l_67, l_68, l_69, l_70, l_71, l_72, l_73, l_74, l_75, l_76, l_77, l_78, l_79, l_80, l_81, l_82, l_83, l_84, l_85, l_86, l_87, l_88, l_89, l_90, l_91, l_92, l_93, l_94, l_95, l_96, l_97, l_98, l_99, l_100, l_101, l_102, l_103, l_104, l_105, l_106, l_107, l_108, l_109, l_110, l_111, l_121, l_122, l_160, l_200, l_201, l_240, l_255, l_361, l_390, l_499, l_500, l_999, l_1000, l_10000, l_10099, l_12345, l_16383, l_20000, l_20033, l_20038, l_20124, l_100000, l_1000000, l_1103515245, ui_oi, ck_oi, sb, jc_e, bl_0, bl_1, le_oi, lt_oi, eq_oi, add_oi, mul_oi, div_oi, ir_oi, gi_e, gi_n, if_true, if_false, if_pos, if_neg, true_and, and_true, false_and, and_false, true_or, or_true, false_or, or_false, g1, hq, r_c hR1 hk, r_held, e1, r_sets hk, show 35 + 5 * k + 2 = 37 + 5 * k by omega]
    rw [← hN2]
    simp (disch := omega) only [l_0, l_1, l_2, l_3, l_4, l_5, l_6, l_7, l_8, l_9, l_10, l_11, l_12, l_13, l_14, l_15, l_16, l_17, l_18, l_19, l_20, l_21, l_22, l_23, l_24, l_25, l_26, l_27, l_28, l_29, l_30, l_31, l_32, l_33, l_34, l_35, l_36, l_37, l_38, l_39, l_40, l_41, l_42, l_43, l_44, l_45, l_46, l_47, l_48, l_49, l_50, l_51, l_52, l_53, l_54, l_55, l_56, l_57, l_58, l_59, l_60, l_61, l_62, l_63, l_64, l_65, l_66, l_67, l_68, l_69, l_70, l_71, l_72, l_73, l_74, l_75, l_76, l_77, l_78, l_79, l_80, l_81, l_82, l_83, l_84, l_85, l_86, l_87, l_88, l_89, l_90, l_91, l_92, l_93, l_94, l_95, l_96, l_97, l_98, l_99, l_100, l_101, l_102, l_103, l_104, l_105, l_106, l_107, l_108, l_109, l_110, l_111, l_121, l_122, l_160, l_200, l_201, l_240, l_255, l_361, l_390, l_499, l_500, l_999, l_1000, l_10000, l_10099, l_12345, l_16383, l_20000, l_20033, l_20038, l_20124, l_100000, l_1000000, l_1103515245, ui_oi, ck_oi, sb, jc_e, bl_0, bl_1, le_oi, lt_oi, eq_oi, add_oi, mul_oi, div_oi, ir_oi, gi_e, gi_n, if_true, if_false, if_pos, if_neg, true_and, and_true, false_and, and_false, true_or, or_true, false_or, or_false, r_f hR2 hk, hf1, r_held, e2, r_sets hk, show 35 + 5 * k + 1 = 36 + 5 * k by omega]
    rw [← hN3, hs3]
    have := zSa_le (d := d)
    by_cases h9 : zSa d = 0 <;> simp (disch := omega) only [l_0, l_1, l_2, l_3, l_4, l_5, l_6, l_7, l_8, l_9, l_10, l_11, l_12, l_13, l_14, l_15, l_16, l_17, l_18, l_19, l_20, l_21, l_22, l_23, l_24, l_25, l_26, l_27, l_28, l_29, l_30, l_31, l_32, l_33, l_34, l_35, l_36, l_37, l_38, l_39, l_40, l_41, l_42, l_43, l_44, l_45, l_46, l_47, l_48, l_49, l_50, l_51, l_52, l_53, l_54, l_55, l_56, l_57, l_58, l_59, l_60, l_61, l_62, l_63, l_64, l_65, l_66, l_67, l_68, l_69, l_70, l_71, l_72, l_73, l_74, l_75, l_76, l_77, l_78, l_79, l_80, l_81, l_82, l_83, l_84, l_85, l_86, l_87, l_88, l_89, l_90, l_91, l_92, l_93, l_94, l_95, l_96, l_97, l_98, l_99, l_100, l_101, l_102, l_103, l_104, l_105, l_106, l_107, l_108, l_109, l_110, l_111, l_121, l_122, l_160, l_200, l_201, l_240, l_255, l_361, l_390, l_499, l_500, l_999, l_1000, l_10000, l_10099, l_12345, l_16383, l_20000, l_20033, l_20038, l_20124, l_100000, l_1000000, l_1103515245, ui_oi, ck_oi, sb, jc_e, bl_0, bl_1, le_oi, lt_oi, eq_oi, add_oi, mul_oi, div_oi, ir_oi, gi_e, gi_n, if_true, if_false, if_pos, if_neg, true_and, and_true, false_and, and_false, true_or, or_true, false_or, or_false, h9]
theorem zE_3 (ha : a ≤ 6) : zE d c a 3 = d 3 := by
  unfold zE
  rw [zLe_o (by omega), zAd_3 ha]
theorem zE_1 (ha : a ≤ 6) : zE d c a 1 = d 1 := by
  unfold zE
  rw [zLe_o (by omega), zAd_1 ha]
theorem zLe_g (h : j ≤ 6) : zLe d (j + 1) = zU (zLe d j) (36 + 5 * j) (zF d j - zLs d j) := by
  funext i
  unfold zU
  by_cases h1 : i = 36 + 5 * j
  · subst h1
    rw [if_pos rfl]
    have := zLe_f (d := d) j (j + 1)
    rw [if_pos (by omega)] at this
    exact this
  · rw [if_neg h1]
    unfold zLe
    by_cases h2 : 36 ≤ i ∧ i < 36 + 5 * j ∧ (i - 36) % 5 = 0
    · rw [if_pos h2, if_pos (by omega)]
    · rw [if_neg h2, if_neg (by omega)]
theorem r_td (hI : RI N d c) (hW : WF d) (ha : a ≤ d 0) : ∃ N', F_X12_tideGoes N (oi a) = some (oi (zWo d c a), N') ∧ RR N' (zN d c a) ∧ Oc [95, 98, 99] N N' ∧ (∀ i, 121 ≤ i → gi N' 95 i = gi N 95 i) := by
  have h0 := hW.1
  have hOs : ∀ (M : Mm) (x : Nat) (j : Nat) (v : Int32), x = 95 ∨ x = 99 → Oc [95, 98, 99] M (si M x j v) := fun M x j v hx => Oc.si (by rcases hx with rfl | rfl <;> decide)
  have htr : ∀ {A B C : Mm}, Oc [95, 98, 99] A B → Oc [95, 98, 99] B C → Oc [95, 98, 99] A C := fun p q => p.tr q (fun c hc => ⟨hc, hc⟩)
  obtain ⟨N1, e1, hR1, hO1, hc1⟩ : ∃ N1, F_X12_tideGoes N (oi a) = F_X12_tideGoes_L29 (oi (zAw d c a)) 1000 N1 (oi 0) ∧ RR N1 (zAd d c a) ∧ Oc [95, 98, 99] N N1 ∧ (∀ i, 121 ≤ i → gi N1 95 i = gi N 95 i) := by
    unfold F_X12_tideGoes zAw zAd
    by_cases ha0 : a = 0
    · subst ha0
      refine ⟨N, ?_, by rw [if_neg (by omega)]; exact hI.1, Oc.rf, fun i _ => rfl⟩
      simp (disch := omega) only [l_0, l_1, l_2, l_3, l_4, l_5, l_6, l_7, l_8, l_9, l_10, l_11, l_12, l_13, l_14, l_15, l_16, l_17, l_18, l_19, l_20, l_21, l_22, l_23, l_24, l_25, l_26, l_27, l_28, l_29, l_30, l_31, l_32, l_33, l_34, l_35, l_36, l_37, l_38, l_39, l_40, l_41, l_42, l_43, l_44, l_45, l_46, l_47, l_48, l_49, l_50, l_51, l_52, l_53, l_54, l_55, l_56, l_57, l_58, l_59, l_60, l_61, l_62, l_63, l_64, l_65, l_66, l_67, l_68, l_69, l_70, l_71, l_72, l_73, l_74, l_75, l_76, l_77, l_78, l_79, l_80, l_81, l_82, l_83, l_84, l_85, l_86, l_87, l_88, l_89, l_90, l_91, l_92, l_93, l_94, l_95, l_96, l_97, l_98, l_99, l_100, l_101, l_102, l_103, l_104, l_105, l_106, l_107, l_108, l_109, l_110, l_111, l_121, l_122, l_160, l_200, l_201, l_240, l_255, l_361, l_390, l_499, l_500, l_999, l_1000, l_10000, l_10099, l_12345, l_16383, l_20000, l_20033, l_20038, l_20124, l_100000, l_1000000, l_1103515245, ui_oi, ck_oi, sb, jc_e, bl_0, bl_1, le_oi, lt_oi, eq_oi, add_oi, mul_oi, div_oi, ir_oi, gi_e, gi_n, if_true, if_false, if_pos, if_neg, true_and, and_true, false_and, and_false, true_or, or_true, false_or, or_false, ]
    · obtain ⟨k, rfl⟩ : ∃ k, a = k + 1 := ⟨a - 1, by omega⟩
      have hk : k < 6 := by omega
      obtain ⟨b1, b2, b3, b4, b5, b6⟩ := hW.2.2.2.2.2.1 k hk
      rw [show k + 1 - 1 = k by omega, l_1, sub_oi (show 1 ≤ k + 1 by omega), show k + 1 - 1 = k by omega]
      rcases (by omega : zS d k = 0 ∨ zS d k = 1) with h | h
      · rw [if_pos (by omega), if_pos (by omega)]
        obtain ⟨N1, g1, g2, g3, g4⟩ := r_does hI hW hk (by omega) h
        refine ⟨N1, ?_, g2, g3.su (fun c hc q => hc (by simp at q ⊢; omega)), g4⟩
        simp (disch := omega) only [l_0, l_1, l_2, l_3, l_4, l_5, l_6, l_7, l_8, l_9, l_10, l_11, l_12, l_13, l_14, l_15, l_16, l_17, l_18, l_19, l_20, l_21, l_22, l_23, l_24, l_25, l_26, l_27, l_28, l_29, l_30, l_31, l_32, l_33, l_34, l_35, l_36, l_37, l_38, l_39, l_40, l_41, l_42, l_43, l_44, l_45, l_46, l_47, l_48, l_49, l_50, l_51, l_52, l_53, l_54, l_55, l_56, l_57, l_58, l_59, l_60, l_61, l_62, l_63, l_64, l_65, l_66, l_67, l_68, l_69, l_70, l_71, l_72, l_73, l_74, l_75, l_76, l_77, l_78, l_79, l_80, l_81, l_82, l_83, l_84, l_85, l_86, l_87, l_88, l_89, l_90, l_91, l_92, l_93, l_94, l_95, l_96, l_97, l_98, l_99, l_100, l_101, l_102, l_103, l_104, l_105, l_106, l_107, l_108, l_109, l_110, l_111, l_121, l_122, l_160, l_200, l_201, l_240, l_255, l_361, l_390, l_499, l_500, l_999, l_1000, l_10000, l_10099, l_12345, l_16383, l_20000, l_20033, l_20038, l_20124, l_100000, l_1000000, l_1103515245, ui_oi, ck_oi, sb, jc_e, bl_0, bl_1, le_oi, lt_oi, eq_oi, add_oi, mul_oi, div_oi, ir_oi, gi_e, gi_n, if_true, if_false, if_pos, if_neg, true_and, and_true, false_and, and_false, true_or, or_true, false_or, or_false, r_s hI.1 hk, h, g1]
      · rw [if_neg (by omega), if_neg (by omega)]
        refine ⟨N, ?_, hI.1, Oc.rf, fun i _ => rfl⟩
        simp (disch := omega) only [l_0, l_1, l_2, l_3, l_4, l_5, l_6, l_7, l_8, l_9, l_10, l_11, l_12, l_13, l_14, l_15, l_16, l_17, l_18, l_19, l_20, l_21, l_22, l_23, l_24, l_25, l_26, l_27, l_28, l_29, l_30, l_31, l_32, l_33, l_34, l_35, l_36, l_37, l_38, l_39, l_40, l_41, l_42, l_43, l_44, l_45, l_46, l_47, l_48, l_49, l_50, l_51, l_52, l_53, l_54, l_55, l_56, l_57, l_58, l_59, l_60, l_61, l_62, l_63, l_64, l_65, l_66, l_67, l_68, l_69, l_70, l_71, l_72, l_73, l_74, l_75, l_76, l_77, l_78, l_79, l_80, l_81, l_82, l_83, l_84, l_85, l_86, l_87, l_88, l_89, l_90, l_91, l_92, l_93, l_94, l_95, l_96, l_97, l_98, l_99, l_100, l_101, l_102, l_103, l_104, l_105, l_106, l_107, l_108, l_109, l_110, l_111, l_121, l_122, l_160, l_200, l_201, l_240, l_255, l_361, l_390, l_499, l_500, l_999, l_1000, l_10000, l_10099, l_12345, l_16383, l_20000, l_20033, l_20038, l_20124, l_100000, l_1000000, l_1103515245, ui_oi, ck_oi, sb, jc_e, bl_0, bl_1, le_oi, lt_oi, eq_oi, add_oi, mul_oi, div_oi, ir_oi, gi_e, gi_n, if_true, if_false, if_pos, if_neg, true_and, and_true, false_and, and_false, true_or, or_true, false_or, or_false, r_s hI.1 hk, h]
  obtain ⟨e, he⟩ : ∃ e, e = zAd d c a := ⟨_, rfl⟩
  have hWe : WF e := by rw [he]; exact zAd_w hW ha
  have hSe : Sd d e := by rw [he]; exact zAd_sd (by omega)
  have e0 : e 0 = d 0 := hSe.o (by omega)
  have hb := hWe.2.2.2.2.2.1
  have hN : zHe (zE d c a) = zHe (zLe e (d 0)) := by rw [he]; rfl
  have hA := zAw_le (c := c) hW ha
  have hSL : ∀ j, j ≤ d 0 → zSum (zHe (zLe e (d 0))) j ≤ 18 := fun j hj => by
    have : zSum (zHe (zLe e (d 0))) j ≤ j * 3 := zSum_le (fun i hi => by rw [← hN]; exact zHe_le hW ha (by omega))
    omega
  rw [← he] at hR1
  rw [e1]
  -- the leaking of each is reckoned
  obtain ⟨N2, e2, hR2, hO2, hc2, hL2⟩ : ∃ N2, F_X12_tideGoes_L29 (oi (zAw d c a)) 1000 N1 (oi 0) = F_X12_tideGoes_L78 1000 N2 (oi (zAw d c a)) (oi 0) ∧ RR N2 e ∧ Oc [99] N1 N2 ∧ (∀ i, 121 ≤ i → gi N2 95 i = gi N1 95 i) ∧ (∀ i, i < d 0 → gi N2 99 i = oi (zLs e i)) := by
    have hl : ∀ j k fu (A : Mm), k + j = d 0 → j < fu → Oc [99] N1 A → (∀ i, i < k → gi A 99 i = oi (zLs e i)) → ∃ N2, F_X12_tideGoes_L29 (oi (zAw d c a)) fu A (oi k) = F_X12_tideGoes_L78 1000 N2 (oi (zAw d c a)) (oi 0) ∧ Oc [99] N1 N2 ∧ (∀ i, i < d 0 → gi N2 99 i = oi (zLs e i)) := by
      intro j
      induction j with
      | zero =>
        intro k fu A hk hf hO hl
        obtain ⟨fu', rfl⟩ : ∃ q, fu = q + 1 := ⟨fu - 1, by omega⟩
        obtain rfl : k = d 0 := by omega
        have hRA : RR A e := hR1.oc hO (by decide)
        refine ⟨A, ?_, hO, hl⟩
        rw [F_X12_tideGoes_L29]
        simp (disch := omega) only [l_0, l_1, l_2, l_3, l_4, l_5, l_6, l_7, l_8, l_9, l_10, l_11, l_12, l_13, l_14, l_15, l_16, l_17, l_18, l_19, l_20, l_21, l_22, l_23, l_24, l_25, l_26, l_27, l_28, l_29, l_30, l_31, l_32, l_33, l_34, l_35, l_36, l_37, l_38, l_39, l_40, l_41, l_42, l_43, l_44, l_45, l_46, l_47, l_48, l_49, l_50, l_51, l_52, l_53, l_54, l_55, l_56, l_57, l_58, l_59, l_60, l_61, l_62, l_63, l_64, l_65, l_66, l_67, l_68, l_69, l_70, l_71, l_72, l_73, l_74, l_75, l_76, l_77, l_78, l_79, l_80, l_81, l_82, l_83, l_84, l_85, l_86, l_87, l_88, l_89, l_90, l_91, l_92, l_93, l_94, l_95, l_96, l_97, l_98, l_99, l_100, l_101, l_102, l_103, l_104, l_105, l_106, l_107, l_108, l_109, l_110, l_111, l_121, l_122, l_160, l_200, l_201, l_240, l_255, l_361, l_390, l_499, l_500, l_999, l_1000, l_10000, l_10099, l_12345, l_16383, l_20000, l_20033, l_20038, l_20124, l_100000, l_1000000, l_1103515245, ui_oi, ck_oi, sb, jc_e, bl_0, bl_1, le_oi, lt_oi, eq_oi, add_oi, mul_oi, div_oi, ir_oi, gi_e, gi_n, if_true, if_false, if_pos, if_neg, true_and, and_true, false_and, and_false, true_or, or_true, false_or, or_false, hRA.g, e0]
      | succ j ih =>
        intro k fu A hk hf hO hl
        obtain ⟨fu', rfl⟩ : ∃ q, fu = q + 1 := ⟨fu - 1, by omega⟩
        have hRA : RR A e := hR1.oc hO (by decide)
        have hk6 : k < 6 := by omega
        obtain ⟨b1, b2, b3, b4, b5, b6⟩ := hb k hk6
        have hlk := zLk_le hWe hk6
        obtain ⟨N2, g1, g2, g3⟩ := ih (k + 1) fu' (si A 99 k (oi (zLs e k))) (by omega) (by omega) (hO.tr (Oc.si (S := [99]) (by simp)) (fun c hc => ⟨hc, hc⟩)) (fun i hi => by
          by_cases hik : i = k
          · subst hik
            exact gi_e
          · rw [gi_n (by omega)]
            exact hl i (by omega))
        refine ⟨N2, ?_, g2, g3⟩
        rw [← g1, F_X12_tideGoes_L29]
        unfold zLs
        rcases (by omega : zS e k = 0 ∨ zS e k = 1) with h | h
        · simp only [if_neg (show ¬ zS e k = 1 by omega)]
          simp (disch := omega) only [l_0, l_1, l_2, l_3, l_4, l_5, l_6, l_7, l_8, l_9, l_10, l_11, l_12, l_13, l_14, l_15, l_16, l_17, l_18, l_19, l_20, l_21, l_22, l_23, l_24, l_25, l_26, l_27, l_28, l_29, l_30, l_31, l_32, l_33, l_34, l_35, l_36, l_37, l_38, l_39, l_40, l_41, l_42, l_43, l_44, l_45, l_46, l_47, l_48, l_49, l_50, l_51, l_52, l_53, l_54, l_55, l_56, l_57, l_58, l_59, l_60, l_61, l_62, l_63, l_64, l_65, l_66, l_67, l_68, l_69, l_70, l_71, l_72, l_73, l_74, l_75, l_76, l_77, l_78, l_79, l_80, l_81, l_82, l_83, l_84, l_85, l_86, l_87, l_88, l_89, l_90, l_91, l_92, l_93, l_94, l_95, l_96, l_97, l_98, l_99, l_100, l_101, l_102, l_103, l_104, l_105, l_106, l_107, l_108, l_109, l_110, l_111, l_121, l_122, l_160, l_200, l_201, l_240, l_255, l_361, l_390, l_499, l_500, l_999, l_1000, l_10000, l_10099, l_12345, l_16383, l_20000, l_20033, l_20038, l_20124, l_100000, l_1000000, l_1103515245, ui_oi, ck_oi, sb, jc_e, bl_0, bl_1, le_oi, lt_oi, eq_oi, add_oi, mul_oi, div_oi, ir_oi, gi_e, gi_n, if_true, if_false, if_pos, if_neg, true_and, and_true, false_and, and_false, true_or, or_true, false_or, or_false, hRA.g, e0, r_s hRA hk6, h, r_lk hRA hWe hk6]
        · simp only [if_pos h]
          simp (disch := omega) only [l_0, l_1, l_2, l_3, l_4, l_5, l_6, l_7, l_8, l_9, l_10, l_11, l_12, l_13, l_14, l_15, l_16, l_17, l_18, l_19, l_20, l_21, l_22, l_23, l_24, l_25, l_26, l_27, l_28, l_29, l_30, l_31, l_32, l_33, l_34, l_35, l_36, l_37, l_38, l_39, l_40, l_41, l_42, l_43, l_44, l_45, l_46, l_47, l_48, l_49, l_50, l_51, l_52, l_53, l_54, l_55, l_56, l_57, l_58, l_59, l_60, l_61, l_62, l_63, l_64, l_65, l_66, l_67, l_68, l_69, l_70, l_71, l_72, l_73, l_74, l_75, l_76, l_77, l_78, l_79, l_80, l_81, l_82, l_83, l_84, l_85, l_86, l_87, l_88, l_89, l_90, l_91, l_92, l_93, l_94, l_95, l_96, l_97, l_98, l_99, l_100, l_101, l_102, l_103, l_104, l_105, l_106, l_107, l_108, l_109, l_110, l_111, l_121, l_122, l_160, l_200, l_201, l_240, l_255, l_361, l_390, l_499, l_500, l_999, l_1000, l_10000, l_10099, l_12345, l_16383, l_20000, l_20033, l_20038, l_20124, l_100000, l_1000000, l_1103515245, ui_oi, ck_oi, sb, jc_e, bl_0, bl_1, le_oi, lt_oi, eq_oi, add_oi, mul_oi, div_oi, ir_oi, gi_e, gi_n, if_true, if_false, if_pos, if_neg, true_and, and_true, false_and, and_false, true_or, or_true, false_or, or_false, hRA.g, e0, r_s hRA hk6, h, r_lk hRA hWe hk6]
    obtain ⟨N2, g1, g2, g3⟩ := hl (d 0) 0 1000 N1 (by omega) (by omega) Oc.rf (fun i hi => by omega)
    exact ⟨N2, g1, hR1.oc g2 (by decide), g2, fun i hi => g2.g (by decide), g3⟩
  rw [e2]
  unfold zWo
  rw [hN]
  refine (lp_inv (L := fun m (x : Mm × Int32) y => F_X12_tideGoes_L78 m x.1 x.2 y) (n := d 0) (I := fun j x => x.2 = oi (zAw d c a + zSum (zHe (zLe e (d 0))) j) ∧ RR x.1 (zLe e j) ∧ Oc [95] N2 x.1 ∧ (∀ i, 121 ≤ i → gi x.1 95 i = gi N2 95 i)) (Q := fun r => r.1 = oi (zAw d c a + zSum (zHe (zLe e (d 0))) (d 0)) ∧ RR r.2 (zN d c a) ∧ Oc [95] N2 r.2 ∧ (∀ i, 121 ≤ i → gi r.2 95 i = gi N2 95 i)) (fun j m x hj hI => ?_) (fun m x hI => ?_) (d 0) 0 1000 (N2, oi (zAw d c a)) (by omega) (by omega) ⟨rfl, by rw [show zLe e 0 = e from funext fun i => by unfold zLe; rw [if_neg (by omega)]]; exact hR2, Oc.rf, fun i _ => rfl⟩).elim (fun r hr => ?_)
  · obtain ⟨A, s⟩ := x
    obtain ⟨i1, i2, i3, i4⟩ := hI
    dsimp only at i1 i2 i3 i4 ⊢
    subst i1
    have hj6 : j < 6 := by omega
    obtain ⟨b1, b2, b3, b4, b5, b6⟩ := hb j hj6
    have hlk := zLk_le hWe hj6
    have hls : zLs e j ≤ 22 := by unfold zLs; split <;> omega
    have hfj : zF (zLe e j) j = zF e j := by rw [zLe_f, if_neg (by omega)]
    have hsj : zS (zLe e j) j = zS e j := zLe_s j j
    have hl0 : zLe e j 0 = d 0 := by rw [zLe_o (by omega), e0]
    have h99 : gi A 99 j = oi (zLs e j) := by rw [i3.g (by decide), hL2 j hj]
    have hle := hSL j (by omega)
    have hgr := zLe_g (d := e) (j := j) (by omega)
    have e9 : min (zF e j - zLs e j) 99 = zF e j - zLs e j := by omega
    have hRn : RR (si A 95 (36 + 5 * j) (oi (zF e j - zLs e j))) (zLe e (j + 1)) := by
      rw [hgr]
      exact i2.si
    have hfn : zF (zLe e (j + 1)) j = zF e j - zLs e j := by rw [zLe_f, if_pos (by omega)]
    have hsn : zS (zLe e (j + 1)) j = zS e j := zLe_s j (j + 1)
    have hsf := r_s hRn hj6
    have hff := r_f hRn hj6
    rw [hsn] at hsf
    rw [hfn] at hff
    refine ⟨(si A 95 (36 + 5 * j) (oi (zF e j - zLs e j)), oi (zAw d c a + zSum (zHe (zLe e (d 0))) j + zHe (zLe e (d 0)) j)), ⟨by show oi _ = oi (zAw d c a + (zSum (zHe (zLe e (d 0))) j + zHe (zLe e (d 0)) j)); rw [Nat.add_assoc], hRn, i3.tr (Oc.si (S := [95]) (by simp)) (fun c hc => ⟨hc, hc⟩), fun i hi => by dsimp only; rw [gi_n (by omega)]; exact i4 i hi⟩, ?_⟩
    try dsimp only
    rw [F_X12_tideGoes_L78]
    unfold zHe
    rw [zLe_s, zLe_f, if_pos hj]
    have hri := i2.g (j := 0) (by omega)
    rw [hl0] at hri
    have hrf := r_f i2 hj6
    rw [hfj] at hrf
    simp (disch := omega) only [l_0, l_1, l_2, l_3, l_4, l_5, l_6, l_7, l_8, l_9, l_10, l_11, l_12, l_13, l_14, l_15, l_16, l_17, l_18, l_19, l_20, l_21, l_22, l_23, l_24, l_25, l_26, l_27, l_28, l_29, l_30, l_31, l_32, l_33, l_34, l_35, l_36, l_37, l_38, l_39, l_40, l_41, l_42, l_43, l_44, l_45, l_46, l_47, l_48, l_49, l_50, l_51, l_52, l_53, l_54, l_55, l_56, l_57, l_58, l_59, l_60, l_61, l_62, l_63, l_64, l_65, l_66, l_67, l_68, l_69, l_70, l_71, l_72, l_73, l_74, l_75, l_76, l_77, l_78, l_79, l_80, l_81, l_82, l_83, l_84, l_85, l_86, l_87, l_88, l_89, l_90, l_91, l_92, l_93, l_94, l_95, l_96, l_97, l_98, l_99, l_100, l_101, l_102, l_103, l_104, l_105, l_106, l_107, l_108, l_109, l_110, l_111, l_121, l_122, l_160, l_200, l_201, l_240, l_255, l_361, l_390, l_499, l_500, l_999, l_1000, l_10000, l_10099, l_12345, l_16383, l_20000, l_20033, l_20038, l_20124, l_100000, l_1000000, l_1103515245, ui_oi, ck_oi, sb, jc_e, bl_0, bl_1, le_oi, lt_oi, eq_oi, add_oi, mul_oi, div_oi, ir_oi, gi_e, gi_n, if_true, if_false, if_pos, if_neg, true_and, and_true, false_and, and_false, true_or, or_true, false_or, or_false, hri, hrf, h99, r_helds, e9, r_sets hj6, show 35 + 5 * j + 1 = 36 + 5 * j by omega]
    simp (disch := omega) only [l_0, l_1, l_2, l_3, l_4, l_5, l_6, l_7, l_8, l_9, l_10, l_11, l_12, l_13, l_14, l_15, l_16, l_17, l_18, l_19, l_20, l_21, l_22, l_23, l_24, l_25, l_26, l_27, l_28, l_29, l_30, l_31, l_32, l_33, l_34, l_35, l_36, l_37, l_38, l_39, l_40, l_41, l_42, l_43, l_44, l_45, l_46, l_47, l_48, l_49, l_50, l_51, l_52, l_53, l_54, l_55, l_56, l_57, l_58, l_59, l_60, l_61, l_62, l_63, l_64, l_65, l_66, l_67, l_68, l_69, l_70, l_71, l_72, l_73, l_74, l_75, l_76, l_77, l_78, l_79, l_80, l_81, l_82, l_83, l_84, l_85, l_86, l_87, l_88, l_89, l_90, l_91, l_92, l_93, l_94, l_95, l_96, l_97, l_98, l_99, l_100, l_101, l_102, l_103, l_104, l_105, l_106, l_107, l_108, l_109, l_110, l_111, l_121, l_122, l_160, l_200, l_201, l_240, l_255, l_361, l_390, l_499, l_500, l_999, l_1000, l_10000, l_10099, l_12345, l_16383, l_20000, l_20033, l_20038, l_20124, l_100000, l_1000000, l_1103515245, ui_oi, ck_oi, sb, jc_e, bl_0, bl_1, le_oi, lt_oi, eq_oi, add_oi, mul_oi, div_oi, ir_oi, gi_e, gi_n, if_true, if_false, if_pos, if_neg, true_and, and_true, false_and, and_false, true_or, or_true, false_or, or_false, hsf, hff]
  · obtain ⟨A, s⟩ := x
    obtain ⟨i1, i2, i3, i4⟩ := hI
    dsimp only at i1 i2 i3 i4 ⊢
    subst i1
    have hl0 : zLe e (d 0) 0 = d 0 := by rw [zLe_o (by omega), e0]
    have hl3 : zLe e (d 0) 3 = d 3 := by rw [zLe_o (by omega), he, zAd_3 (by omega)]
    have hl1 : zLe e (d 0) 1 = d 1 := by rw [zLe_o (by omega), he, zAd_1 (by omega)]
    have hri := i2.g (j := 0) (by omega)
    have hr3 := i2.g (j := 3) (by omega)
    have hr1 := i2.g (j := 1) (by omega)
    rw [hl0] at hri
    rw [hl3] at hr3
    rw [hl1] at hr1
    refine ⟨(oi (zAw d c a + zSum (zHe (zLe e (d 0))) (d 0)), si (si A 95 3 (oi (d 3 + (zAw d c a + zSum (zHe (zLe e (d 0))) (d 0))))) 95 1 (oi (d 1 + 1))), ?_, rfl, ?_, i3.tr ((Oc.si (S := [95]) (by simp)).tr (Oc.si (S := [95]) (by simp)) (fun c hc => ⟨hc, hc⟩)) (fun c hc => ⟨hc, hc⟩), fun i hi => by dsimp only; rw [gi_n (by omega), gi_n (by omega)]; exact i4 i hi⟩
    · rw [F_X12_tideGoes_L78]
      simp (disch := omega) only [l_0, l_1, l_2, l_3, l_4, l_5, l_6, l_7, l_8, l_9, l_10, l_11, l_12, l_13, l_14, l_15, l_16, l_17, l_18, l_19, l_20, l_21, l_22, l_23, l_24, l_25, l_26, l_27, l_28, l_29, l_30, l_31, l_32, l_33, l_34, l_35, l_36, l_37, l_38, l_39, l_40, l_41, l_42, l_43, l_44, l_45, l_46, l_47, l_48, l_49, l_50, l_51, l_52, l_53, l_54, l_55, l_56, l_57, l_58, l_59, l_60, l_61, l_62, l_63, l_64, l_65, l_66, l_67, l_68, l_69, l_70, l_71, l_72, l_73, l_74, l_75, l_76, l_77, l_78, l_79, l_80, l_81, l_82, l_83, l_84, l_85, l_86, l_87, l_88, l_89, l_90, l_91, l_92, l_93, l_94, l_95, l_96, l_97, l_98, l_99, l_100, l_101, l_102, l_103, l_104, l_105, l_106, l_107, l_108, l_109, l_110, l_111, l_121, l_122, l_160, l_200, l_201, l_240, l_255, l_361, l_390, l_499, l_500, l_999, l_1000, l_10000, l_10099, l_12345, l_16383, l_20000, l_20033, l_20038, l_20124, l_100000, l_1000000, l_1103515245, ui_oi, ck_oi, sb, jc_e, bl_0, bl_1, le_oi, lt_oi, eq_oi, add_oi, mul_oi, div_oi, ir_oi, gi_e, gi_n, if_true, if_false, if_pos, if_neg, true_and, and_true, false_and, and_false, true_or, or_true, false_or, or_false, hri, hr3, hr1]
    · try dsimp only
      have hq : zN d c a = zU (zU (zLe e (d 0)) 3 (d 3 + (zAw d c a + zSum (zHe (zLe e (d 0))) (d 0)))) 1 (d 1 + 1) := by
        unfold zN zWo
        rw [hN, he]
        rfl
      rw [hq]
      exact i2.si.si
  · obtain ⟨s, A⟩ := r
    obtain ⟨q0, q1, q2, q3, q4⟩ := hr
    dsimp only at q0 q1 q2 q3 q4
    subst q1
    refine ⟨A, q0, q2, htr hO1 (htr (hO2.su (fun c hc q => hc (by simp at q ⊢; omega))) (q3.su (fun c hc q => hc (by simp at q ⊢; omega)))), fun i hi => by rw [q4 i hi, hc2 i hi, hc1 i hi]⟩
theorem RI.mv {N' : Mm} {d' : Nat → Nat} (h : RI N d c) (hR : RR N' d') (h2 : ∀ i, 121 ≤ i → gi N' 95 i = gi N 95 i) (hS : Sd d d') : RI N' d' c := ⟨hR, RK.mv h.2 h2 hS⟩
/-- a tide, with all that is kept -/
theorem r_tide (hI : RI N d c) (hW : WF d) (ha : a ≤ d 0) : ∃ N', F_X12_tideGoes N (oi a) = some (oi (zWo d c a), N') ∧ RI N' (zN d c a) c ∧ Oc [95, 98, 99] N N' ∧ (∀ i, 121 ≤ i → gi N' 95 i = gi N 95 i) := by
  obtain ⟨N', g1, g2, g3, g4⟩ := r_td hI hW ha
  exact ⟨N', g1, hI.mv g2 g4 (zN_sd (by have := hW.1; omega) hW.1), g3, g4⟩
theorem r_raF (hW : WF d) : ∀ m k fu (N : Mm), RI N d c → k + m = d 0 → m < fu → ∃ N', F_X12_actOfRest_L2 fu N (oi k) = some (oi (zRaF d c m k), N') ∧ Oc [98] N N' := by
  have h0 := hW.1
  intro m
  induction m with
  | zero =>
    intro k fu N hI hk hf
    obtain ⟨fu', rfl⟩ : ∃ q, fu = q + 1 := ⟨fu - 1, by omega⟩
    refine ⟨N, ?_, Oc.rf⟩
    rw [F_X12_actOfRest_L2]
    unfold zRaF
    simp (disch := omega) only [l_0, l_1, l_2, l_3, l_4, l_5, l_6, l_7, l_8, l_9, l_10, l_11, l_12, l_13, l_14, l_15, l_16, l_17, l_18, l_19, l_20, l_21, l_22, l_23, l_24, l_25, l_26, l_27, l_28, l_29, l_30, l_31, l_32, l_33, l_34, l_35, l_36, l_37, l_38, l_39, l_40, l_41, l_42, l_43, l_44, l_45, l_46, l_47, l_48, l_49, l_50, l_51, l_52, l_53, l_54, l_55, l_56, l_57, l_58, l_59, l_60, l_61, l_62, l_63, l_64, l_65, l_66, l_67, l_68, l_69, l_70, l_71, l_72, l_73, l_74, l_75, l_76, l_77, l_78, l_79, l_80, l_81, l_82, l_83, l_84, l_85, l_86, l_87, l_88, l_89, l_90, l_91, l_92, l_93, l_94, l_95, l_96, l_97, l_98, l_99, l_100, l_101, l_102, l_103, l_104, l_105, l_106, l_107, l_108, l_109, l_110, l_111, l_121, l_122, l_160, l_200, l_201, l_240, l_255, l_361, l_390, l_499, l_500, l_999, l_1000, l_10000, l_10099, l_12345, l_16383, l_20000, l_20033, l_20038, l_20124, l_100000, l_1000000, l_1103515245, ui_oi, ck_oi, sb, jc_e, bl_0, bl_1, le_oi, lt_oi, eq_oi, add_oi, mul_oi, div_oi, ir_oi, gi_e, gi_n, if_true, if_false, if_pos, if_neg, true_and, and_true, false_and, and_false, true_or, or_true, false_or, or_false, hI.1.g]
  | succ m ih =>
    intro k fu N hI hk hf
    obtain ⟨fu', rfl⟩ : ∃ q, fu = q + 1 := ⟨fu - 1, by omega⟩
    obtain ⟨N1, g1, g2⟩ := r_iss hI hW (k := k) (by omega)
    obtain ⟨N2, g3, g4⟩ := ih (k + 1) fu' N1 (hI.oc g2 (by decide)) (by omega) (by omega)
    unfold zRaF
    by_cases h : zWl d c k = 0 ∧ 0 < zPy d k
    · rw [if_pos h] at g1 ⊢
      refine ⟨N1, ?_, g2⟩
      rw [F_X12_actOfRest_L2]
      simp (disch := omega) only [l_0, l_1, l_2, l_3, l_4, l_5, l_6, l_7, l_8, l_9, l_10, l_11, l_12, l_13, l_14, l_15, l_16, l_17, l_18, l_19, l_20, l_21, l_22, l_23, l_24, l_25, l_26, l_27, l_28, l_29, l_30, l_31, l_32, l_33, l_34, l_35, l_36, l_37, l_38, l_39, l_40, l_41, l_42, l_43, l_44, l_45, l_46, l_47, l_48, l_49, l_50, l_51, l_52, l_53, l_54, l_55, l_56, l_57, l_58, l_59, l_60, l_61, l_62, l_63, l_64, l_65, l_66, l_67, l_68, l_69, l_70, l_71, l_72, l_73, l_74, l_75, l_76, l_77, l_78, l_79, l_80, l_81, l_82, l_83, l_84, l_85, l_86, l_87, l_88, l_89, l_90, l_91, l_92, l_93, l_94, l_95, l_96, l_97, l_98, l_99, l_100, l_101, l_102, l_103, l_104, l_105, l_106, l_107, l_108, l_109, l_110, l_111, l_121, l_122, l_160, l_200, l_201, l_240, l_255, l_361, l_390, l_499, l_500, l_999, l_1000, l_10000, l_10099, l_12345, l_16383, l_20000, l_20033, l_20038, l_20124, l_100000, l_1000000, l_1103515245, ui_oi, ck_oi, sb, jc_e, bl_0, bl_1, le_oi, lt_oi, eq_oi, add_oi, mul_oi, div_oi, ir_oi, gi_e, gi_n, if_true, if_false, if_pos, if_neg, true_and, and_true, false_and, and_false, true_or, or_true, false_or, or_false, hI.1.g, g1]
    · rw [if_neg h] at g1 ⊢
      refine ⟨N2, ?_, g2.tr g4 (fun c hc => ⟨hc, hc⟩)⟩
      rw [F_X12_actOfRest_L2]
      simp (disch := omega) only [l_0, l_1, l_2, l_3, l_4, l_5, l_6, l_7, l_8, l_9, l_10, l_11, l_12, l_13, l_14, l_15, l_16, l_17, l_18, l_19, l_20, l_21, l_22, l_23, l_24, l_25, l_26, l_27, l_28, l_29, l_30, l_31, l_32, l_33, l_34, l_35, l_36, l_37, l_38, l_39, l_40, l_41, l_42, l_43, l_44, l_45, l_46, l_47, l_48, l_49, l_50, l_51, l_52, l_53, l_54, l_55, l_56, l_57, l_58, l_59, l_60, l_61, l_62, l_63, l_64, l_65, l_66, l_67, l_68, l_69, l_70, l_71, l_72, l_73, l_74, l_75, l_76, l_77, l_78, l_79, l_80, l_81, l_82, l_83, l_84, l_85, l_86, l_87, l_88, l_89, l_90, l_91, l_92, l_93, l_94, l_95, l_96, l_97, l_98, l_99, l_100, l_101, l_102, l_103, l_104, l_105, l_106, l_107, l_108, l_109, l_110, l_111, l_121, l_122, l_160, l_200, l_201, l_240, l_255, l_361, l_390, l_499, l_500, l_999, l_1000, l_10000, l_10099, l_12345, l_16383, l_20000, l_20033, l_20038, l_20124, l_100000, l_1000000, l_1103515245, ui_oi, ck_oi, sb, jc_e, bl_0, bl_1, le_oi, lt_oi, eq_oi, add_oi, mul_oi, div_oi, ir_oi, gi_e, gi_n, if_true, if_false, if_pos, if_neg, true_and, and_true, false_and, and_false, true_or, or_true, false_or, or_false, hI.1.g, g1, g3]
theorem r_ra (hI : RI N d c) (hW : WF d) : ∃ N', F_X12_actOfRest N = some (oi (zRa d c), N') ∧ Oc [98] N N' := r_raF hW (d 0) 0 1000 N hI (by omega) (by have := hW.1; omega)
theorem r_over (hI : RR N d) (hW : WF d) : F_X12_isOver N = some (oi (if d 1 < d 2 then 0 else 1)) := by
  obtain ⟨h0, h1, h2, h5, h6, hb, hw⟩ := hW
  unfold F_X12_isOver
  by_cases h : d 1 < d 2 <;> simp (disch := omega) only [l_0, l_1, l_2, l_3, l_4, l_5, l_6, l_7, l_8, l_9, l_10, l_11, l_12, l_13, l_14, l_15, l_16, l_17, l_18, l_19, l_20, l_21, l_22, l_23, l_24, l_25, l_26, l_27, l_28, l_29, l_30, l_31, l_32, l_33, l_34, l_35, l_36, l_37, l_38, l_39, l_40, l_41, l_42, l_43, l_44, l_45, l_46, l_47, l_48, l_49, l_50, l_51, l_52, l_53, l_54, l_55, l_56, l_57, l_58, l_59, l_60, l_61, l_62, l_63, l_64, l_65, l_66, l_67, l_68, l_69, l_70, l_71, l_72, l_73, l_74, l_75, l_76, l_77, l_78, l_79, l_80, l_81, l_82, l_83, l_84, l_85, l_86, l_87, l_88, l_89, l_90, l_91, l_92, l_93, l_94, l_95, l_96, l_97, l_98, l_99, l_100, l_101, l_102, l_103, l_104, l_105, l_106, l_107, l_108, l_109, l_110, l_111, l_121, l_122, l_160, l_200, l_201, l_240, l_255, l_361, l_390, l_499, l_500, l_999, l_1000, l_10000, l_10099, l_12345, l_16383, l_20000, l_20033, l_20038, l_20124, l_100000, l_1000000, l_1103515245, ui_oi, ck_oi, sb, jc_e, bl_0, bl_1, le_oi, lt_oi, eq_oi, add_oi, mul_oi, div_oi, ir_oi, gi_e, gi_n, if_true, if_false, if_pos, if_neg, true_and, and_true, false_and, and_false, true_or, or_true, false_or, or_false, hI.g]
theorem zQd_w : ∀ n {d : Nat → Nat}, WF d → WF (zQd c n d)
  | 0, _, h => h
  | n + 1, d, h => by
    unfold zQd
    split
    · exact zQd_w n (zN_w h zRa_le ‹_›)
    · exact h
theorem zQd_sd : ∀ n {d : Nat → Nat}, WF d → Sd d (zQd c n d)
  | 0, _, h => fun _ _ _ _ _ => rfl
  | n + 1, d, h => by
    unfold zQd
    split
    · exact (zN_sd (by have := h.1; have := zRa_le (d := d) (c := c); omega) h.1).tr (zQd_sd n (zN_w h zRa_le ‹_›))
    · exact fun _ _ _ _ _ => rfl
theorem zQw_le : ∀ n {d : Nat → Nat}, WF d → zQw c n d ≤ 32 * n
  | 0, _, h => Nat.le_refl _
  | n + 1, d, h => by
    unfold zQw
    split
    · have := zQw_le n (zN_w (c := c) h (zRa_le (c := c)) ‹_›)
      have := zWo_le (c := c) h (zRa_le (d := d) (c := c))
      omega
    · omega
theorem r_rs : ∀ m k n s fu (N : Mm) (d : Nat → Nat), RI N d c → WF d → k + m = n → n ≤ 16 → m < fu → ∃ N', F_X12_restGoes_L4 (oi n) fu N (oi s) (oi k) = some (oi (s + zQw c m d), N') ∧ RI N' (zQd c m d) c ∧ Oc [95, 98, 99] N N' ∧ (∀ i, 121 ≤ i → gi N' 95 i = gi N 95 i) := by
  intro m
  induction m with
  | zero =>
    intro k n s fu N d hI hW hk hn hf
    obtain ⟨fu', rfl⟩ : ∃ q, fu = q + 1 := ⟨fu - 1, by omega⟩
    refine ⟨N, ?_, hI, Oc.rf, fun i _ => rfl⟩
    rw [F_X12_restGoes_L4]
    unfold zQw
    simp (disch := omega) only [l_0, l_1, l_2, l_3, l_4, l_5, l_6, l_7, l_8, l_9, l_10, l_11, l_12, l_13, l_14, l_15, l_16, l_17, l_18, l_19, l_20, l_21, l_22, l_23, l_24, l_25, l_26, l_27, l_28, l_29, l_30, l_31, l_32, l_33, l_34, l_35, l_36, l_37, l_38, l_39, l_40, l_41, l_42, l_43, l_44, l_45, l_46, l_47, l_48, l_49, l_50, l_51, l_52, l_53, l_54, l_55, l_56, l_57, l_58, l_59, l_60, l_61, l_62, l_63, l_64, l_65, l_66, l_67, l_68, l_69, l_70, l_71, l_72, l_73, l_74, l_75, l_76, l_77, l_78, l_79, l_80, l_81, l_82, l_83, l_84, l_85, l_86, l_87, l_88, l_89, l_90, l_91, l_92, l_93, l_94, l_95, l_96, l_97, l_98, l_99, l_100, l_101, l_102, l_103, l_104, l_105, l_106, l_107, l_108, l_109, l_110, l_111, l_121, l_122, l_160, l_200, l_201, l_240, l_255, l_361, l_390, l_499, l_500, l_999, l_1000, l_10000, l_10099, l_12345, l_16383, l_20000, l_20033, l_20038, l_20124, l_100000, l_1000000, l_1103515245, ui_oi, ck_oi, sb, jc_e, bl_0, bl_1, le_oi, lt_oi, eq_oi, add_oi, mul_oi, div_oi, ir_oi, gi_e, gi_n, if_true, if_false, if_pos, if_neg, true_and, and_true, false_and, and_false, true_or, or_true, false_or, or_false, Nat.add_zero]
  | succ m ih =>
    intro k n s fu N d hI hW hk hn hf
    obtain ⟨fu', rfl⟩ : ∃ q, fu = q + 1 := ⟨fu - 1, by omega⟩
    have ho := r_over hI.1 hW
    unfold zQw zQd
    by_cases h : d 1 < d 2
    · rw [if_pos h] at ho ⊢
      rw [if_pos h]
      obtain ⟨N1, g1, g2⟩ := r_ra hI hW
      obtain ⟨N2, g3, g4, g5, g6⟩ := r_tide (hI.oc g2 (by decide)) hW (zRa_le (c := c))
      obtain ⟨N3, g7, g8, g9, g10⟩ := ih (k + 1) n (s + zWo d c (zRa d c)) fu' N2 (zN d c (zRa d c)) g4 (zN_w hW zRa_le h) (by omega) hn (by omega)
      refine ⟨N3, ?_, g8, (g2.su (fun c hc q => hc (by simp at q ⊢; omega))).tr (g5.tr g9 (fun c hc => ⟨hc, hc⟩)) (fun c hc => ⟨hc, hc⟩), fun i hi => by rw [g10 i hi, g6 i hi, g2.g (by decide)]⟩
      rw [F_X12_restGoes_L4]
      simp (disch := omega) only [l_0, l_1, l_2, l_3, l_4, l_5, l_6, l_7, l_8, l_9, l_10, l_11, l_12, l_13, l_14, l_15, l_16, l_17, l_18, l_19, l_20, l_21, l_22, l_23, l_24, l_25, l_26, l_27, l_28, l_29, l_30, l_31, l_32, l_33, l_34, l_35, l_36, l_37, l_38, l_39, l_40, l_41, l_42, l_43, l_44, l_45, l_46, l_47, l_48, l_49, l_50, l_51, l_52, l_53, l_54, l_55, l_56, l_57, l_58, l_59, l_60, l_61, l_62, l_63, l_64, l_65, l_66, l_67, l_68, l_69, l_70, l_71, l_72, l_73, l_74, l_75, l_76, l_77, l_78, l_79, l_80, l_81, l_82, l_83, l_84, l_85, l_86, l_87, l_88, l_89, l_90, l_91, l_92, l_93, l_94, l_95, l_96, l_97, l_98, l_99, l_100, l_101, l_102, l_103, l_104, l_105, l_106, l_107, l_108, l_109, l_110, l_111, l_121, l_122, l_160, l_200, l_201, l_240, l_255, l_361, l_390, l_499, l_500, l_999, l_1000, l_10000, l_10099, l_12345, l_16383, l_20000, l_20033, l_20038, l_20124, l_100000, l_1000000, l_1103515245, ui_oi, ck_oi, sb, jc_e, bl_0, bl_1, le_oi, lt_oi, eq_oi, add_oi, mul_oi, div_oi, ir_oi, gi_e, gi_n, if_true, if_false, if_pos, if_neg, true_and, and_true, false_and, and_false, true_or, or_true, false_or, or_false, ho, g1, g3, g7, Nat.add_assoc]
    · rw [if_neg h] at ho ⊢
      rw [if_neg h]
      refine ⟨N, ?_, hI, Oc.rf, fun i _ => rfl⟩
      rw [F_X12_restGoes_L4]
      simp (disch := omega) only [l_0, l_1, l_2, l_3, l_4, l_5, l_6, l_7, l_8, l_9, l_10, l_11, l_12, l_13, l_14, l_15, l_16, l_17, l_18, l_19, l_20, l_21, l_22, l_23, l_24, l_25, l_26, l_27, l_28, l_29, l_30, l_31, l_32, l_33, l_34, l_35, l_36, l_37, l_38, l_39, l_40, l_41, l_42, l_43, l_44, l_45, l_46, l_47, l_48, l_49, l_50, l_51, l_52, l_53, l_54, l_55, l_56, l_57, l_58, l_59, l_60, l_61, l_62, l_63, l_64, l_65, l_66, l_67, l_68, l_69, l_70, l_71, l_72, l_73, l_74, l_75, l_76, l_77, l_78, l_79, l_80, l_81, l_82, l_83, l_84, l_85, l_86, l_87, l_88, l_89, l_90, l_91, l_92, l_93, l_94, l_95, l_96, l_97, l_98, l_99, l_100, l_101, l_102, l_103, l_104, l_105, l_106, l_107, l_108, l_109, l_110, l_111, l_121, l_122, l_160, l_200, l_201, l_240, l_255, l_361, l_390, l_499, l_500, l_999, l_1000, l_10000, l_10099, l_12345, l_16383, l_20000, l_20033, l_20038, l_20124, l_100000, l_1000000, l_1103515245, ui_oi, ck_oi, sb, jc_e, bl_0, bl_1, le_oi, lt_oi, eq_oi, add_oi, mul_oi, div_oi, ir_oi, gi_e, gi_n, if_true, if_false, if_pos, if_neg, true_and, and_true, false_and, and_false, true_or, or_true, false_or, or_false, ho, Nat.add_zero]
theorem r_rest {n : Nat} (hI : RI N d c) (hW : WF d) (hn : n ≤ 16) : ∃ N', F_X12_restGoes N (oi n) = some (oi (zQw c n d), N') ∧ RI N' (zQd c n d) c ∧ Oc [95, 98, 99] N N' ∧ (∀ i, 121 ≤ i → gi N' 95 i = gi N 95 i) := by
  obtain ⟨N', g1, g2⟩ := r_rs n 0 n 0 1000 N d hI hW (by omega) hn (by omega)
  refine ⟨N', ?_, g2⟩
  unfold F_X12_restGoes
  rw [l_0, g1, Nat.zero_add]
end RP

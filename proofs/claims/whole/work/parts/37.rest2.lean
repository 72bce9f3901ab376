/-! CALLS: the best chalk, the best tier, the least step; lots; rows; sheets of acts -/
section RU
variable {M N M' N' : Mm} {d d' e : Nat → Nat} {c : Cnd} {k a : Nat}
/-- the rest of a trial whose row is e, in both -/
theorem t_rest (hV : VL 0 M e c) (hF : FL 1 M e) (hI : RI N e c) (hW : WF e) : ∃ M2 N2, F_X10_rest M 1 (oi 16) = some (oi (zQw c 16 e), M2) ∧ F_X12_restGoes N (oi 16) = some (oi (zQw c 16 e), N2) ∧ RI N2 (zQd c 16 e) c ∧ Sd e (zQd c 16 e) ∧ Oc [1, 2, 3, 47] M M2 ∧ Oc [95, 98, 99] N N2 := by
  obtain ⟨M2, g6, g7, g8⟩ := c_rest hV hF hW w1 (n := 16) (by omega)
  obtain ⟨N2, k6, k7, k8, k9⟩ := r_rest hI hW (n := 16) (by omega)
  exact ⟨M2, N2, g6, k6, k7, zQd_sd 16 hW, g8, k8⟩
theorem w_chalk (hk : k < 6) (hW : WF d) : ∀ m v b (t : Int32) M N fu fu2, VL 0 M d c → FL 39 M d → RI N d c → v + m = 10 → m < fu → m < fu2 → AS 0 N d → AN N 1 → ∃ a M' N', F_X11_chalkFor_L20 (oi k) fu M b t (oi v) = some (a, M') ∧ F_X12_bestOf_L13 (oi k) (oi 2) (oi 9) fu2 N b t (oi v) = some (a, N') ∧ Oc [1, 2, 3, 47] M M' ∧ RI N' d c ∧ AN N' 0 ∧ RZ N N' := by
  intro m
  induction m with
  | zero =>
    intro v b t M N fu fu2 hV hF hI hm hf hf2 hA hN
    obtain ⟨fu', rfl⟩ : ∃ q, fu = q + 1 := ⟨fu - 1, by omega⟩
    obtain ⟨fu2', rfl⟩ : ∃ q, fu2 = q + 1 := ⟨fu2 - 1, by omega⟩
    obtain ⟨N3, l1, l2, l3, l4⟩ := r_takT hI Sd.rf.tail hA hN (by omega)
    refine ⟨b, M, N3, ?_, ?_, Oc.rf, l2, l3, l4⟩
    · rw [F_X11_chalkFor_L20]
      simp (disch := omega) only [l_0, l_1, l_2, l_3, l_4, l_5, l_6, l_7, l_8, l_9, l_10, l_11, l_12, l_13, l_14, l_15, l_16, l_17, l_18, l_19, l_20, l_21, l_22, l_23, l_24, l_25, l_26, l_27, l_28, l_29, l_30, l_31, l_32, l_33, l_34, l_35, l_36, l_37, l_38, l_39, l_40, l_41, l_42, l_43, l_44, l_45, l_46, l_47, l_48, l_49, l_50, l_51, l_52, l_53, l_54, l_55, l_56, l_57, l_58, l_59, l_60, l_61, l_62, l_63, l_64, l_65, l_66, l_67, l_68, l_69, l_70, l_71, l_72, l_73, l_74, l_75, l_76, l_77, l_78, l_79, l_80, l_81, l_82, l_83, l_84, l_85, l_86, l_87, l_88, l_89, l_90, l_91, l_92, l_93, l_94, l_95, l_96, l_97, l_98, l_99, l_100, l_101, l_102, l_103, l_104, l_105, l_106, l_107, l_108, l_109, l_110, l_111, l_121, l_122, l_160, l_200, l_201, l_240, l_255, l_361, l_390, l_499, l_500, l_999, l_1000, l_10000, l_10099, l_12345, l_16383, l_20000, l_20033, l_20038, l_20124, l_100000, l_1000000, l_1103515245, ui_oi, ck_oi, sb, jc_e, bl_0, bl_1, le_oi, lt_oi, eq_oi, add_oi, mul_oi, div_oi, ir_oi, gi_e, gi_n, if_true, if_false, if_pos, if_neg, true_and, and_true, false_and, and_false, true_or, or_true, false_or, or_false, ]
    · rw [F_X12_bestOf_L13]
      simp (disch := omega) only [l_0, l_1, l_2, l_3, l_4, l_5, l_6, l_7, l_8, l_9, l_10, l_11, l_12, l_13, l_14, l_15, l_16, l_17, l_18, l_19, l_20, l_21, l_22, l_23, l_24, l_25, l_26, l_27, l_28, l_29, l_30, l_31, l_32, l_33, l_34, l_35, l_36, l_37, l_38, l_39, l_40, l_41, l_42, l_43, l_44, l_45, l_46, l_47, l_48, l_49, l_50, l_51, l_52, l_53, l_54, l_55, l_56, l_57, l_58, l_59, l_60, l_61, l_62, l_63, l_64, l_65, l_66, l_67, l_68, l_69, l_70, l_71, l_72, l_73, l_74, l_75, l_76, l_77, l_78, l_79, l_80, l_81, l_82, l_83, l_84, l_85, l_86, l_87, l_88, l_89, l_90, l_91, l_92, l_93, l_94, l_95, l_96, l_97, l_98, l_99, l_100, l_101, l_102, l_103, l_104, l_105, l_106, l_107, l_108, l_109, l_110, l_111, l_121, l_122, l_160, l_200, l_201, l_240, l_255, l_361, l_390, l_499, l_500, l_999, l_1000, l_10000, l_10099, l_12345, l_16383, l_20000, l_20033, l_20038, l_20124, l_100000, l_1000000, l_1103515245, ui_oi, ck_oi, sb, jc_e, bl_0, bl_1, le_oi, lt_oi, eq_oi, add_oi, mul_oi, div_oi, ir_oi, gi_e, gi_n, if_true, if_false, if_pos, if_neg, true_and, and_true, false_and, and_false, true_or, or_true, false_or, or_false, l1]
  | succ m ih =>
    intro v b t M N fu fu2 hV hF hI hm hf hf2 hA hN
    obtain ⟨fu', rfl⟩ : ∃ q, fu = q + 1 := ⟨fu - 1, by omega⟩
    obtain ⟨fu2', rfl⟩ : ∃ q, fu2 = q + 1 := ⟨fu2 - 1, by omega⟩
    obtain ⟨M1, g1, g2, g3⟩ := c_take (w0 := 1) (w1 := 39) hF (by omega)
    have hO1 : Oc [1, 2, 3, 47] M M1 := g3.su (fun c hc q => hc (by simp at q ⊢; omega))
    have hSd : Sd d (zU d (37 + 5 * k) v) := fun j j1 j3 j4 jk => zU_n (by have := jk k hk; omega)
    have hWe : WF (zU d (37 + 5 * k) v) := hW.u (by omega) (by omega) (by omega) (by omega) (by omega) (by omega) (by omega) (by omega)
    have hO2 : Oc [1, 2, 3, 47] M1 (si M1 3 k (oi v)) := Oc.si (by simp)
    have hV2 : VL 0 (si M1 3 k (oi v)) (zU d (37 + 5 * k) v) c := ((hV.oc hO1 (by decide)).oc hO2 (by decide)).sd hSd
    have hF2 : FL 1 (si M1 3 k (oi v)) (zU d (37 + 5 * k) v) := by
      refine ⟨fun i hi => ⟨?_, ?_⟩, ?_, ?_⟩
      · unfold zF
        rw [gi_n (by omega), zU_n (by omega)]
        exact g2.f hi
      · unfold zC
        by_cases hik : i = k
        · subst hik
          rw [gi_e, zU_e]
        · rw [gi_n (by omega), zU_n (by omega)]
          exact g2.c hi
      · rw [gi_n (by omega)]
        unfold zBi zS
        simp (disch := omega) only [zU_n]
        exact g2.b
      · rw [gi_n (by omega), zU_n (by omega)]
        exact g2.t
    have hI2 : RI (si N 95 (37 + 5 * k) (oi v)) (zU d (37 + 5 * k) v) c := hI.u (by omega) (by omega)
    have hP2 : Oc [95, 98, 99] N (si N 95 (37 + 5 * k) (oi v)) := Oc.si (by simp)
    obtain ⟨M2, N2, z1, z2, z3, z4, z5, z6⟩ := t_rest hV2 hF2 hI2 hWe
    obtain ⟨N3, l1, l2, l3⟩ := r_backT z3 (hSd.tr z4).tail ((hA.oc hP2 (by decide)).oc z6 (by decide)) ((z6.g (by decide)).trans ((hP2.g (by decide)).trans hN)) (by omega)
    have hOa := (hO1.tr hO2 (fun c hc => ⟨hc, hc⟩)).tr z5 (fun c hc => ⟨hc, hc⟩)
    have hPa : Oc [95, 98, 99] N N3 := (hP2.tr z6 (fun c hc => ⟨hc, hc⟩)).tr l3 (fun c hc => ⟨hc, fun q => hc (by simp at q ⊢; omega)⟩)
    have hV3 : VL 0 M2 d c := hV.oc hOa (by decide)
    have hF3 : FL 39 M2 d := hF.oc hOa (by decide) (by decide) (by decide)
    have hA3 : AS 0 N3 d := hA.oc hPa (by decide)
    have hN3 : AN N3 1 := (hPa.g (by decide)).trans hN
    by_cases hq : oi (zQw c 16 (zU d (37 + 5 * k) v)) ≤ t
    · obtain ⟨a, M', N', y1, y2, y3, y4, y5, y6⟩ := ih (v + 1) b t M2 N3 fu' fu2' hV3 hF3 l2 (by omega) (by omega) (by omega) hA3 hN3
      refine ⟨a, M', N', ?_, ?_, hOa.tr y3 (fun c hc => ⟨hc, hc⟩), y4, y5, (RZ.oc hPa zn3).tr y6⟩
      · rw [F_X11_chalkFor_L20]
        simp (disch := omega) only [l_0, l_1, l_2, l_3, l_4, l_5, l_6, l_7, l_8, l_9, l_10, l_11, l_12, l_13, l_14, l_15, l_16, l_17, l_18, l_19, l_20, l_21, l_22, l_23, l_24, l_25, l_26, l_27, l_28, l_29, l_30, l_31, l_32, l_33, l_34, l_35, l_36, l_37, l_38, l_39, l_40, l_41, l_42, l_43, l_44, l_45, l_46, l_47, l_48, l_49, l_50, l_51, l_52, l_53, l_54, l_55, l_56, l_57, l_58, l_59, l_60, l_61, l_62, l_63, l_64, l_65, l_66, l_67, l_68, l_69, l_70, l_71, l_72, l_73, l_74, l_75, l_76, l_77, l_78, l_79, l_80, l_81, l_82, l_83, l_84, l_85, l_86, l_87, l_88, l_89, l_90, l_91, l_92, l_93, l_94, l_95, l_96, l_97, l_98, l_99, l_100, l_101, l_102, l_103, l_104, l_105, l_106, l_107, l_108, l_109, l_110, l_111, l_121, l_122, l_160, l_200, l_201, l_240, l_255, l_361, l_390, l_499, l_500, l_999, l_1000, l_10000, l_10099, l_12345, l_16383, l_20000, l_20033, l_20038, l_20124, l_100000, l_1000000, l_1103515245, ui_oi, ck_oi, sb, jc_e, bl_0, bl_1, le_oi, lt_oi, eq_oi, add_oi, mul_oi, div_oi, ir_oi, gi_e, gi_n, if_true, if_false, if_pos, if_neg, true_and, and_true, false_and, and_false, true_or, or_true, false_or, or_false, g1, z1, hq, y1]
      · rw [F_X12_bestOf_L13]
        simp (disch := omega) only [l_0, l_1, l_2, l_3, l_4, l_5, l_6, l_7, l_8, l_9, l_10, l_11, l_12, l_13, l_14, l_15, l_16, l_17, l_18, l_19, l_20, l_21, l_22, l_23, l_24, l_25, l_26, l_27, l_28, l_29, l_30, l_31, l_32, l_33, l_34, l_35, l_36, l_37, l_38, l_39, l_40, l_41, l_42, l_43, l_44, l_45, l_46, l_47, l_48, l_49, l_50, l_51, l_52, l_53, l_54, l_55, l_56, l_57, l_58, l_59, l_60, l_61, l_62, l_63, l_64, l_65, l_66, l_67, l_68, l_69, l_70, l_71, l_72, l_73, l_74, l_75, l_76, l_77, l_78, l_79, l_80, l_81, l_82, l_83, l_84, l_85, l_86, l_87, l_88, l_89, l_90, l_91, l_92, l_93, l_94, l_95, l_96, l_97, l_98, l_99, l_100, l_101, l_102, l_103, l_104, l_105, l_106, l_107, l_108, l_109, l_110, l_111, l_121, l_122, l_160, l_200, l_201, l_240, l_255, l_361, l_390, l_499, l_500, l_999, l_1000, l_10000, l_10099, l_12345, l_16383, l_20000, l_20033, l_20038, l_20124, l_100000, l_1000000, l_1103515245, ui_oi, ck_oi, sb, jc_e, bl_0, bl_1, le_oi, lt_oi, eq_oi, add_oi, mul_oi, div_oi, ir_oi, gi_e, gi_n, if_true, if_false, if_pos, if_neg, true_and, and_true, false_and, and_false, true_or, or_true, false_or, or_false, r_sets hk, show 35 + 5 * k + 2 = 37 + 5 * k by omega, z2, l1, hq, y2]
    · obtain ⟨a, M', N', y1, y2, y3, y4, y5, y6⟩ := ih (v + 1) (oi v) (oi (zQw c 16 (zU d (37 + 5 * k) v))) M2 N3 fu' fu2' hV3 hF3 l2 (by omega) (by omega) (by omega) hA3 hN3
      refine ⟨a, M', N', ?_, ?_, hOa.tr y3 (fun c hc => ⟨hc, hc⟩), y4, y5, (RZ.oc hPa zn3).tr y6⟩
      · rw [F_X11_chalkFor_L20]
        simp (disch := omega) only [l_0, l_1, l_2, l_3, l_4, l_5, l_6, l_7, l_8, l_9, l_10, l_11, l_12, l_13, l_14, l_15, l_16, l_17, l_18, l_19, l_20, l_21, l_22, l_23, l_24, l_25, l_26, l_27, l_28, l_29, l_30, l_31, l_32, l_33, l_34, l_35, l_36, l_37, l_38, l_39, l_40, l_41, l_42, l_43, l_44, l_45, l_46, l_47, l_48, l_49, l_50, l_51, l_52, l_53, l_54, l_55, l_56, l_57, l_58, l_59, l_60, l_61, l_62, l_63, l_64, l_65, l_66, l_67, l_68, l_69, l_70, l_71, l_72, l_73, l_74, l_75, l_76, l_77, l_78, l_79, l_80, l_81, l_82, l_83, l_84, l_85, l_86, l_87, l_88, l_89, l_90, l_91, l_92, l_93, l_94, l_95, l_96, l_97, l_98, l_99, l_100, l_101, l_102, l_103, l_104, l_105, l_106, l_107, l_108, l_109, l_110, l_111, l_121, l_122, l_160, l_200, l_201, l_240, l_255, l_361, l_390, l_499, l_500, l_999, l_1000, l_10000, l_10099, l_12345, l_16383, l_20000, l_20033, l_20038, l_20124, l_100000, l_1000000, l_1103515245, ui_oi, ck_oi, sb, jc_e, bl_0, bl_1, le_oi, lt_oi, eq_oi, add_oi, mul_oi, div_oi, ir_oi, gi_e, gi_n, if_true, if_false, if_pos, if_neg, true_and, and_true, false_and, and_false, true_or, or_true, false_or, or_false, g1, z1, hq, y1]
      · rw [F_X12_bestOf_L13]
        simp (disch := omega) only [l_0, l_1, l_2, l_3, l_4, l_5, l_6, l_7, l_8, l_9, l_10, l_11, l_12, l_13, l_14, l_15, l_16, l_17, l_18, l_19, l_20, l_21, l_22, l_23, l_24, l_25, l_26, l_27, l_28, l_29, l_30, l_31, l_32, l_33, l_34, l_35, l_36, l_37, l_38, l_39, l_40, l_41, l_42, l_43, l_44, l_45, l_46, l_47, l_48, l_49, l_50, l_51, l_52, l_53, l_54, l_55, l_56, l_57, l_58, l_59, l_60, l_61, l_62, l_63, l_64, l_65, l_66, l_67, l_68, l_69, l_70, l_71, l_72, l_73, l_74, l_75, l_76, l_77, l_78, l_79, l_80, l_81, l_82, l_83, l_84, l_85, l_86, l_87, l_88, l_89, l_90, l_91, l_92, l_93, l_94, l_95, l_96, l_97, l_98, l_99, l_100, l_101, l_102, l_103, l_104, l_105, l_106, l_107, l_108, l_109, l_110, l_111, l_121, l_122, l_160, l_200, l_201, l_240, l_255, l_361, l_390, l_499, l_500, l_999, l_1000, l_10000, l_10099, l_12345, l_16383, l_20000, l_20033, l_20038, l_20124, l_100000, l_1000000, l_1103515245, ui_oi, ck_oi, sb, jc_e, bl_0, bl_1, le_oi, lt_oi, eq_oi, add_oi, mul_oi, div_oi, ir_oi, gi_e, gi_n, if_true, if_false, if_pos, if_neg, true_and, and_true, false_and, and_false, true_or, or_true, false_or, or_false, r_sets hk, show 35 + 5 * k + 2 = 37 + 5 * k by omega, z2, l1, hq, y2]
theorem q_chalkFor (v1 : Int32) : Cl (fun M => F_X11_chalkFor M v1) (fun M => F_X12_chalkFor M v1) := by
  refine Cl.vs (fun M N d c hI => ?_)
  obtain ⟨hV, hF, h3, h4, hRI, hW, hA⟩ := id hI
  try dsimp only
  unfold F_X11_chalkFor F_X12_chalkFor F_X12_bestOf
  have h0 := hW.1
  rcases has2 hV hRI.1 h0 v1 with ⟨k, hk, rfl, e1, e2⟩ | ⟨e1, e2, -⟩
  · obtain ⟨N1, k1, k2, k3, k4, k5⟩ := r_put0 hRI hA
    obtain ⟨a, M', N', y1, y2, y3, y4, y5, y6⟩ := w_chalk (k := k) (by omega) hW 10 0 (oi 0) (- oi 1) M N1 1000 1000 hV hF k2 (by omega) (by omega) (by omega) k3 k4
    have hZ := k5.tr y6
    exact ⟨a, M', N', d, c, by simp (disch := omega) only [l_0, l_1, l_2, l_3, l_4, l_5, l_6, l_7, l_8, l_9, l_10, l_11, l_12, l_13, l_14, l_15, l_16, l_17, l_18, l_19, l_20, l_21, l_22, l_23, l_24, l_25, l_26, l_27, l_28, l_29, l_30, l_31, l_32, l_33, l_34, l_35, l_36, l_37, l_38, l_39, l_40, l_41, l_42, l_43, l_44, l_45, l_46, l_47, l_48, l_49, l_50, l_51, l_52, l_53, l_54, l_55, l_56, l_57, l_58, l_59, l_60, l_61, l_62, l_63, l_64, l_65, l_66, l_67, l_68, l_69, l_70, l_71, l_72, l_73, l_74, l_75, l_76, l_77, l_78, l_79, l_80, l_81, l_82, l_83, l_84, l_85, l_86, l_87, l_88, l_89, l_90, l_91, l_92, l_93, l_94, l_95, l_96, l_97, l_98, l_99, l_100, l_101, l_102, l_103, l_104, l_105, l_106, l_107, l_108, l_109, l_110, l_111, l_121, l_122, l_160, l_200, l_201, l_240, l_255, l_361, l_390, l_499, l_500, l_999, l_1000, l_10000, l_10099, l_12345, l_16383, l_20000, l_20033, l_20038, l_20124, l_100000, l_1000000, l_1103515245, ui_oi, ck_oi, sb, jc_e, bl_0, bl_1, le_oi, lt_oi, eq_oi, add_oi, mul_oi, div_oi, ir_oi, gi_e, gi_n, if_true, if_false, if_pos, if_neg, true_and, and_true, false_and, and_false, true_or, or_true, false_or, or_false, e1, y1], by simp (disch := omega) only [l_0, l_1, l_2, l_3, l_4, l_5, l_6, l_7, l_8, l_9, l_10, l_11, l_12, l_13, l_14, l_15, l_16, l_17, l_18, l_19, l_20, l_21, l_22, l_23, l_24, l_25, l_26, l_27, l_28, l_29, l_30, l_31, l_32, l_33, l_34, l_35, l_36, l_37, l_38, l_39, l_40, l_41, l_42, l_43, l_44, l_45, l_46, l_47, l_48, l_49, l_50, l_51, l_52, l_53, l_54, l_55, l_56, l_57, l_58, l_59, l_60, l_61, l_62, l_63, l_64, l_65, l_66, l_67, l_68, l_69, l_70, l_71, l_72, l_73, l_74, l_75, l_76, l_77, l_78, l_79, l_80, l_81, l_82, l_83, l_84, l_85, l_86, l_87, l_88, l_89, l_90, l_91, l_92, l_93, l_94, l_95, l_96, l_97, l_98, l_99, l_100, l_101, l_102, l_103, l_104, l_105, l_106, l_107, l_108, l_109, l_110, l_111, l_121, l_122, l_160, l_200, l_201, l_240, l_255, l_361, l_390, l_499, l_500, l_999, l_1000, l_10000, l_10099, l_12345, l_16383, l_20000, l_20033, l_20038, l_20124, l_100000, l_1000000, l_1103515245, ui_oi, ck_oi, sb, jc_e, bl_0, bl_1, le_oi, lt_oi, eq_oi, add_oi, mul_oi, div_oi, ir_oi, gi_e, gi_n, if_true, if_false, if_pos, if_neg, true_and, and_true, false_and, and_false, true_or, or_true, false_or, or_false, e2, k1, y2], hI.tr y3 y4 y5, zm4.m y3, zm4.f y3, hZ.1, hZ.2⟩
  · exact ⟨-1, M, N, d, c, by simp (disch := omega) only [l_0, l_1, l_2, l_3, l_4, l_5, l_6, l_7, l_8, l_9, l_10, l_11, l_12, l_13, l_14, l_15, l_16, l_17, l_18, l_19, l_20, l_21, l_22, l_23, l_24, l_25, l_26, l_27, l_28, l_29, l_30, l_31, l_32, l_33, l_34, l_35, l_36, l_37, l_38, l_39, l_40, l_41, l_42, l_43, l_44, l_45, l_46, l_47, l_48, l_49, l_50, l_51, l_52, l_53, l_54, l_55, l_56, l_57, l_58, l_59, l_60, l_61, l_62, l_63, l_64, l_65, l_66, l_67, l_68, l_69, l_70, l_71, l_72, l_73, l_74, l_75, l_76, l_77, l_78, l_79, l_80, l_81, l_82, l_83, l_84, l_85, l_86, l_87, l_88, l_89, l_90, l_91, l_92, l_93, l_94, l_95, l_96, l_97, l_98, l_99, l_100, l_101, l_102, l_103, l_104, l_105, l_106, l_107, l_108, l_109, l_110, l_111, l_121, l_122, l_160, l_200, l_201, l_240, l_255, l_361, l_390, l_499, l_500, l_999, l_1000, l_10000, l_10099, l_12345, l_16383, l_20000, l_20033, l_20038, l_20124, l_100000, l_1000000, l_1103515245, ui_oi, ck_oi, sb, jc_e, bl_0, bl_1, le_oi, lt_oi, eq_oi, add_oi, mul_oi, div_oi, ir_oi, gi_e, gi_n, if_true, if_false, if_pos, if_neg, true_and, and_true, false_and, and_false, true_or, or_true, false_or, or_false, e1], by simp (disch := omega) only [l_0, l_1, l_2, l_3, l_4, l_5, l_6, l_7, l_8, l_9, l_10, l_11, l_12, l_13, l_14, l_15, l_16, l_17, l_18, l_19, l_20, l_21, l_22, l_23, l_24, l_25, l_26, l_27, l_28, l_29, l_30, l_31, l_32, l_33, l_34, l_35, l_36, l_37, l_38, l_39, l_40, l_41, l_42, l_43, l_44, l_45, l_46, l_47, l_48, l_49, l_50, l_51, l_52, l_53, l_54, l_55, l_56, l_57, l_58, l_59, l_60, l_61, l_62, l_63, l_64, l_65, l_66, l_67, l_68, l_69, l_70, l_71, l_72, l_73, l_74, l_75, l_76, l_77, l_78, l_79, l_80, l_81, l_82, l_83, l_84, l_85, l_86, l_87, l_88, l_89, l_90, l_91, l_92, l_93, l_94, l_95, l_96, l_97, l_98, l_99, l_100, l_101, l_102, l_103, l_104, l_105, l_106, l_107, l_108, l_109, l_110, l_111, l_121, l_122, l_160, l_200, l_201, l_240, l_255, l_361, l_390, l_499, l_500, l_999, l_1000, l_10000, l_10099, l_12345, l_16383, l_20000, l_20033, l_20038, l_20124, l_100000, l_1000000, l_1103515245, ui_oi, ck_oi, sb, jc_e, bl_0, bl_1, le_oi, lt_oi, eq_oi, add_oi, mul_oi, div_oi, ir_oi, gi_e, gi_n, if_true, if_false, if_pos, if_neg, true_and, and_true, false_and, and_false, true_or, or_true, false_or, or_false, e2], hI, fun _ _ _ => rfl, fun _ _ => rfl, fun _ _ _ => rfl, fun _ _ => rfl⟩
theorem zU_zU {j u v : Nat} : zU (zU d j u) j v = zU d j v := by
  funext i
  unfold zU
  split <;> rfl
theorem zU_own {j : Nat} : zU d j (d j) = d := by
  funext i
  unfold zU
  split
  · rename_i q
    rw [q]
  · rfl
theorem VL.st0 {v : Nat} (hk : k < 6) (hV : VL 0 M d c) : VL 0 (si M 35 k (oi v)) (zU d (38 + 5 * k) v) c := by
  refine VL.re hV (by (try simp (disch := omega) only [zU_n, gi_n]); exact hV.n) (by (try simp (disch := omega) only [zU_n, gi_n]); exact hV.e) (by (try simp (disch := omega) only [zU_n, gi_n]); exact hV.rn) (fun k hk => by (try simp (disch := omega) only [zK, zU_n, gi_n]); exact hV.kd hk) (fun i hi => ?_) (fun t ht => by (try simp (disch := omega) only [zU_n, gi_n]); exact hV.wa ht) (fun f hf => by (try simp (disch := omega) only [zU_n, gi_n]); exact hV.sp hf) (fun f hf => by (try simp (disch := omega) only [zU_n, gi_n]); exact hV.gr hf) (fun r hr => by (try simp (disch := omega) only [zU_n, gi_n]); exact hV.2.2.2.2.2.2.1 r hr) (fun x hx j => by (try simp (disch := omega) only [gi_n])) (fun j hj => by (try simp (disch := omega) only [zU_n]))
  unfold zT
  by_cases hit : i = k
  · subst hit
    rw [gi_e, zU_e]
  · rw [gi_n (by omega), zU_n (by omega)]
    exact hV.ti hi
theorem VL.st {v u : Nat} (hk : k < 6) (hV : VL 0 M (zU d (38 + 5 * k) u) c) : VL 0 (si M 35 k (oi v)) (zU d (38 + 5 * k) v) c := by
  have h := VL.st0 (v := v) hk hV
  rw [zU_zU] at h
  exact h
theorem w_tier (hk : k < 6) (hW : WF d) : ∀ m v u b (t : Int32) M N fu fu2, VL 0 M (zU d (38 + 5 * k) u) c → FL 39 M d → RI N d c → v + m = 6 → m < fu → m < fu2 → AS 0 N d → AN N 1 → ∃ a M' N', F_X11_tierFor_L31 (oi k) (oi (zT d k)) fu M b t (oi v) = some (a, M') ∧ F_X12_bestOf_L13 (oi k) (oi 3) (oi 5) fu2 N b t (oi v) = some (a, N') ∧ Oc [1, 2, 3, 35, 47] M M' ∧ VL 0 M' d c ∧ RI N' d c ∧ AN N' 0 ∧ RZ N N' := by
  intro m
  induction m with
  | zero =>
    intro v u b t M N fu fu2 hV hF hI hm hf hf2 hA hN
    obtain ⟨fu', rfl⟩ : ∃ q, fu = q + 1 := ⟨fu - 1, by omega⟩
    obtain ⟨fu2', rfl⟩ : ∃ q, fu2 = q + 1 := ⟨fu2 - 1, by omega⟩
    obtain ⟨N3, l1, l2, l3, l4⟩ := r_takT hI Sd.rf.tail hA hN (by omega)
    have hV2 := VL.st (v := zT d k) hk hV
    have e0 : zU d (38 + 5 * k) (zT d k) = d := zU_own
    rw [e0] at hV2
    refine ⟨b, si M 35 k (oi (zT d k)), N3, ?_, ?_, Oc.si (by simp), hV2, l2, l3, l4⟩
    · rw [F_X11_tierFor_L31]
      simp (disch := omega) only [l_0, l_1, l_2, l_3, l_4, l_5, l_6, l_7, l_8, l_9, l_10, l_11, l_12, l_13, l_14, l_15, l_16, l_17, l_18, l_19, l_20, l_21, l_22, l_23, l_24, l_25, l_26, l_27, l_28, l_29, l_30, l_31, l_32, l_33, l_34, l_35, l_36, l_37, l_38, l_39, l_40, l_41, l_42, l_43, l_44, l_45, l_46, l_47, l_48, l_49, l_50, l_51, l_52, l_53, l_54, l_55, l_56, l_57, l_58, l_59, l_60, l_61, l_62, l_63, l_64, l_65, l_66, l_67, l_68, l_69, l_70, l_71, l_72, l_73, l_74, l_75, l_76, l_77, l_78, l_79, l_80, l_81, l_82, l_83, l_84, l_85, l_86, l_87, l_88, l_89, l_90, l_91, l_92, l_93, l_94, l_95, l_96, l_97, l_98, l_99, l_100, l_101, l_102, l_103, l_104, l_105, l_106, l_107, l_108, l_109, l_110, l_111, l_121, l_122, l_160, l_200, l_201, l_240, l_255, l_361, l_390, l_499, l_500, l_999, l_1000, l_10000, l_10099, l_12345, l_16383, l_20000, l_20033, l_20038, l_20124, l_100000, l_1000000, l_1103515245, ui_oi, ck_oi, sb, jc_e, bl_0, bl_1, le_oi, lt_oi, eq_oi, add_oi, mul_oi, div_oi, ir_oi, gi_e, gi_n, if_true, if_false, if_pos, if_neg, true_and, and_true, false_and, and_false, true_or, or_true, false_or, or_false, ]
    · rw [F_X12_bestOf_L13]
      simp (disch := omega) only [l_0, l_1, l_2, l_3, l_4, l_5, l_6, l_7, l_8, l_9, l_10, l_11, l_12, l_13, l_14, l_15, l_16, l_17, l_18, l_19, l_20, l_21, l_22, l_23, l_24, l_25, l_26, l_27, l_28, l_29, l_30, l_31, l_32, l_33, l_34, l_35, l_36, l_37, l_38, l_39, l_40, l_41, l_42, l_43, l_44, l_45, l_46, l_47, l_48, l_49, l_50, l_51, l_52, l_53, l_54, l_55, l_56, l_57, l_58, l_59, l_60, l_61, l_62, l_63, l_64, l_65, l_66, l_67, l_68, l_69, l_70, l_71, l_72, l_73, l_74, l_75, l_76, l_77, l_78, l_79, l_80, l_81, l_82, l_83, l_84, l_85, l_86, l_87, l_88, l_89, l_90, l_91, l_92, l_93, l_94, l_95, l_96, l_97, l_98, l_99, l_100, l_101, l_102, l_103, l_104, l_105, l_106, l_107, l_108, l_109, l_110, l_111, l_121, l_122, l_160, l_200, l_201, l_240, l_255, l_361, l_390, l_499, l_500, l_999, l_1000, l_10000, l_10099, l_12345, l_16383, l_20000, l_20033, l_20038, l_20124, l_100000, l_1000000, l_1103515245, ui_oi, ck_oi, sb, jc_e, bl_0, bl_1, le_oi, lt_oi, eq_oi, add_oi, mul_oi, div_oi, ir_oi, gi_e, gi_n, if_true, if_false, if_pos, if_neg, true_and, and_true, false_and, and_false, true_or, or_true, false_or, or_false, l1]
  | succ m ih =>
    intro v u b t M N fu fu2 hV hF hI hm hf hf2 hA hN
    obtain ⟨fu', rfl⟩ : ∃ q, fu = q + 1 := ⟨fu - 1, by omega⟩
    obtain ⟨fu2', rfl⟩ : ∃ q, fu2 = q + 1 := ⟨fu2 - 1, by omega⟩
    obtain ⟨M1, g1, g2, g3⟩ := c_take (w0 := 1) (w1 := 39) hF (by omega)
    have hO1 : Oc [1, 2, 3, 35, 47] M M1 := g3.su (fun c hc q => hc (by simp at q ⊢; omega))
    have hWe : WF (zU d (38 + 5 * k) v) := hW.u (by omega) (by omega) (by omega) (by omega) (by omega) (by omega) (by omega) (by omega)
    have hO2 : Oc [1, 2, 3, 35, 47] M1 (si M1 35 k (oi v)) := Oc.si (by simp)
    have hV2 : VL 0 (si M1 35 k (oi v)) (zU d (38 + 5 * k) v) c := VL.st hk (hV.oc g3 (by decide))
    have hF2 : FL 1 (si M1 35 k (oi v)) (zU d (38 + 5 * k) v) := by
      refine ⟨fun i hi => ⟨?_, ?_⟩, ?_, ?_⟩
      · unfold zF
        rw [gi_n (by omega), zU_n (by omega)]
        exact g2.f hi
      · unfold zC
        rw [gi_n (by omega), zU_n (by omega)]
        exact g2.c hi
      · rw [gi_n (by omega)]
        unfold zBi zS
        simp (disch := omega) only [zU_n]
        exact g2.b
      · rw [gi_n (by omega), zU_n (by omega)]
        exact g2.t
    have hI2 : RI (si N 95 (38 + 5 * k) (oi v)) (zU d (38 + 5 * k) v) c := hI.u (by omega) (by omega)
    have hP2 : Oc [95, 98, 99] N (si N 95 (38 + 5 * k) (oi v)) := Oc.si (by simp)
    obtain ⟨M2, N2, z1, z2, z3, z4, z5, z6⟩ := t_rest hV2 hF2 hI2 hWe
    have htl : ∀ j, j = 5 ∨ 65 ≤ j → zQd c 16 (zU d (38 + 5 * k) v) j = d j := fun j hj => (z4.o (by omega)).trans (zU_n (by omega))
    obtain ⟨N3, l1, l2, l3⟩ := r_backT z3 htl ((hA.oc hP2 (by decide)).oc z6 (by decide)) ((z6.g (by decide)).trans ((hP2.g (by decide)).trans hN)) (by omega)
    have hOa : Oc [1, 2, 3, 35, 47] M M2 := (hO1.tr hO2 (fun c hc => ⟨hc, hc⟩)).tr z5 (fun c hc => ⟨hc, fun q => hc (by simp at q ⊢; omega)⟩)
    have hPa : Oc [95, 98, 99] N N3 := (hP2.tr z6 (fun c hc => ⟨hc, hc⟩)).tr l3 (fun c hc => ⟨hc, fun q => hc (by simp at q ⊢; omega)⟩)
    have hV3 : VL 0 M2 (zU d (38 + 5 * k) v) c := hV2.oc z5 (by decide)
    have hF3 : FL 39 M2 d := hF.oc hOa (by decide) (by decide) (by decide)
    have hA3 : AS 0 N3 d := hA.oc hPa (by decide)
    have hN3 : AN N3 1 := (hPa.g (by decide)).trans hN
    by_cases hq : oi (zQw c 16 (zU d (38 + 5 * k) v)) ≤ t
    · obtain ⟨a, M', N', y1, y2, y3, y4, y5⟩ := ih (v + 1) v b t M2 N3 fu' fu2' hV3 hF3 l2 (by omega) (by omega) (by omega) hA3 hN3
      refine ⟨a, M', N', ?_, ?_, hOa.tr y3 (fun c hc => ⟨hc, hc⟩), y4, y5.1, y5.2.1, (RZ.oc hPa zn3).tr y5.2.2⟩
      · rw [F_X11_tierFor_L31]
        simp (disch := omega) only [l_0, l_1, l_2, l_3, l_4, l_5, l_6, l_7, l_8, l_9, l_10, l_11, l_12, l_13, l_14, l_15, l_16, l_17, l_18, l_19, l_20, l_21, l_22, l_23, l_24, l_25, l_26, l_27, l_28, l_29, l_30, l_31, l_32, l_33, l_34, l_35, l_36, l_37, l_38, l_39, l_40, l_41, l_42, l_43, l_44, l_45, l_46, l_47, l_48, l_49, l_50, l_51, l_52, l_53, l_54, l_55, l_56, l_57, l_58, l_59, l_60, l_61, l_62, l_63, l_64, l_65, l_66, l_67, l_68, l_69, l_70, l_71, l_72, l_73, l_74, l_75, l_76, l_77, l_78, l_79, l_80, l_81, l_82, l_83, l_84, l_85, l_86, l_87, l_88, l_89, l_90, l_91, l_92, l_93, l_94, l_95, l_96, l_97, l_98, l_99, l_100, l_101, l_102, l_103, l_104, l_105, l_106, l_107, l_108, l_109, l_110, l_111, l_121, l_122, l_160, l_200, l_201, l_240, l_255, l_361, l_390, l_499, l_500, l_999, l_1000, l_10000, l_10099, l_12345, l_16383, l_20000, l_20033, l_20038, l_20124, l_100000, l_1000000, l_1103515245, ui_oi, ck_oi, sb, jc_e, bl_0, bl_1, le_oi, lt_oi, eq_oi, add_oi, mul_oi, div_oi, ir_oi, gi_e, gi_n, if_true, if_false, if_pos, if_neg, true_and, and_true, false_and, and_false, true_or, or_true, false_or, or_false, g1, z1, hq, y1]
      · rw [F_X12_bestOf_L13]
        simp (disch := omega) only [l_0, l_1, l_2, l_3, l_4, l_5, l_6, l_7, l_8, l_9, l_10, l_11, l_12, l_13, l_14, l_15, l_16, l_17, l_18, l_19, l_20, l_21, l_22, l_23, l_24, l_25, l_26, l_27, l_28, l_29, l_30, l_31, l_32, l_33, l_34, l_35, l_36, l_37, l_38, l_39, l_40, l_41, l_42, l_43, l_44, l_45, l_46, l_47, l_48, l_49, l_50, l_51, l_52, l_53, l_54, l_55, l_56, l_57, l_58, l_59, l_60, l_61, l_62, l_63, l_64, l_65, l_66, l_67, l_68, l_69, l_70, l_71, l_72, l_73, l_74, l_75, l_76, l_77, l_78, l_79, l_80, l_81, l_82, l_83, l_84, l_85, l_86, l_87, l_88, l_89, l_90, l_91, l_92, l_93, l_94, l_95, l_96, l_97, l_98, l_99, l_100, l_101, l_102, l_103, l_104, l_105, l_106, l_107, l_108, l_109, l_110, l_111, l_121, l_122, l_160, l_200, l_201, l_240, l_255, l_361, l_390, l_499, l_500, l_999, l_1000, l_10000, l_10099, l_12345, l_16383, l_20000, l_20033, l_20038, l_20124, l_100000, l_1000000, l_1103515245, ui_oi, ck_oi, sb, jc_e, bl_0, bl_1, le_oi, lt_oi, eq_oi, add_oi, mul_oi, div_oi, ir_oi, gi_e, gi_n, if_true, if_false, if_pos, if_neg, true_and, and_true, false_and, and_false, true_or, or_true, false_or, or_false, r_sets hk, show 35 + 5 * k + 3 = 38 + 5 * k by omega, z2, l1, hq, y2]
    · obtain ⟨a, M', N', y1, y2, y3, y4, y5⟩ := ih (v + 1) v (oi v) (oi (zQw c 16 (zU d (38 + 5 * k) v))) M2 N3 fu' fu2' hV3 hF3 l2 (by omega) (by omega) (by omega) hA3 hN3
      refine ⟨a, M', N', ?_, ?_, hOa.tr y3 (fun c hc => ⟨hc, hc⟩), y4, y5.1, y5.2.1, (RZ.oc hPa zn3).tr y5.2.2⟩
      · rw [F_X11_tierFor_L31]
        simp (disch := omega) only [l_0, l_1, l_2, l_3, l_4, l_5, l_6, l_7, l_8, l_9, l_10, l_11, l_12, l_13, l_14, l_15, l_16, l_17, l_18, l_19, l_20, l_21, l_22, l_23, l_24, l_25, l_26, l_27, l_28, l_29, l_30, l_31, l_32, l_33, l_34, l_35, l_36, l_37, l_38, l_39, l_40, l_41, l_42, l_43, l_44, l_45, l_46, l_47, l_48, l_49, l_50, l_51, l_52, l_53, l_54, l_55, l_56, l_57, l_58, l_59, l_60, l_61, l_62, l_63, l_64, l_65, l_66, l_67, l_68, l_69, l_70, l_71, l_72, l_73, l_74, l_75, l_76, l_77, l_78, l_79, l_80, l_81, l_82, l_83, l_84, l_85, l_86, l_87, l_88, l_89, l_90, l_91, l_92, l_93, l_94, l_95, l_96, l_97, l_98, l_99, l_100, l_101, l_102, l_103, l_104, l_105, l_106, l_107, l_108, l_109, l_110, l_111, l_121, l_122, l_160, l_200, l_201, l_240, l_255, l_361, l_390, l_499, l_500, l_999, l_1000, l_10000, l_10099, l_12345, l_16383, l_20000, l_20033, l_20038, l_20124, l_100000, l_1000000, l_1103515245, ui_oi, ck_oi, sb, jc_e, bl_0, bl_1, le_oi, lt_oi, eq_oi, add_oi, mul_oi, div_oi, ir_oi, gi_e, gi_n, if_true, if_false, if_pos, if_neg, true_and, and_true, false_and, and_false, true_or, or_true, false_or, or_false, g1, z1, hq, y1]
      · rw [F_X12_bestOf_L13]
        simp (disch := omega) only [l_0, l_1, l_2, l_3, l_4, l_5, l_6, l_7, l_8, l_9, l_10, l_11, l_12, l_13, l_14, l_15, l_16, l_17, l_18, l_19, l_20, l_21, l_22, l_23, l_24, l_25, l_26, l_27, l_28, l_29, l_30, l_31, l_32, l_33, l_34, l_35, l_36, l_37, l_38, l_39, l_40, l_41, l_42, l_43, l_44, l_45, l_46, l_47, l_48, l_49, l_50, l_51, l_52, l_53, l_54, l_55, l_56, l_57, l_58, l_59, l_60, l_61, l_62, l_63, l_64, l_65, l_66, l_67, l_68, l_69, l_70, l_71, l_72, l_73, l_74, l_75, l_76, l_77, l_78, l_79, l_80, l_81, l_82, l_83, l_84, l_85, l_86, l_87, l_88, l_89, l_90, l_91, l_92, l_93, l_94, l_95, l_96, l_97, l_98, l_99, l_100, l_101, l_102, l_103, l_104, l_105, l_106, l_107, l_108, l_109, l_110, l_111, l_121, l_122, l_160, l_200, l_201, l_240, l_255, l_361, l_390, l_499, l_500, l_999, l_1000, l_10000, l_10099, l_12345, l_16383, l_20000, l_20033, l_20038, l_20124, l_100000, l_1000000, l_1103515245, ui_oi, ck_oi, sb, jc_e, bl_0, bl_1, le_oi, lt_oi, eq_oi, add_oi, mul_oi, div_oi, ir_oi, gi_e, gi_n, if_true, if_false, if_pos, if_neg, true_and, and_true, false_and, and_false, true_or, or_true, false_or, or_false, r_sets hk, show 35 + 5 * k + 3 = 38 + 5 * k by omega, z2, l1, hq, y2]
theorem zm6 : Zm [1, 2, 3, 35, 47] := fun x hx => by simp at hx; omega
theorem q_tierFor (v1 : Int32) : Cl (fun M => F_X11_tierFor M v1) (fun M => F_X12_tierFor M v1) := by
  refine Cl.vs (fun M N d c hI => ?_)
  obtain ⟨hV, hF, h3, h4, hRI, hW, hA⟩ := id hI
  try dsimp only
  unfold F_X11_tierFor F_X12_tierFor F_X12_bestOf
  have h0 := hW.1
  rcases has2 hV hRI.1 h0 v1 with ⟨k, hk, rfl, e1, e2⟩ | ⟨e1, e2, -⟩
  · obtain ⟨N1, k1, k2, k3, k4, k5⟩ := r_put0 hRI hA
    have e0 : zU d (38 + 5 * k) (zT d k) = d := zU_own
    obtain ⟨a, M', N', y1, y2, y3, y7, y4, y5, y6⟩ := w_tier (k := k) (by omega) hW 6 0 (zT d k) (oi 0) (- oi 1) M N1 1000 1000 (by rw [e0]; exact hV) hF k2 (by omega) (by omega) (by omega) k3 k4
    have hZ := k5.tr y6
    exact ⟨a, M', N', d, c, by simp (disch := omega) only [l_0, l_1, l_2, l_3, l_4, l_5, l_6, l_7, l_8, l_9, l_10, l_11, l_12, l_13, l_14, l_15, l_16, l_17, l_18, l_19, l_20, l_21, l_22, l_23, l_24, l_25, l_26, l_27, l_28, l_29, l_30, l_31, l_32, l_33, l_34, l_35, l_36, l_37, l_38, l_39, l_40, l_41, l_42, l_43, l_44, l_45, l_46, l_47, l_48, l_49, l_50, l_51, l_52, l_53, l_54, l_55, l_56, l_57, l_58, l_59, l_60, l_61, l_62, l_63, l_64, l_65, l_66, l_67, l_68, l_69, l_70, l_71, l_72, l_73, l_74, l_75, l_76, l_77, l_78, l_79, l_80, l_81, l_82, l_83, l_84, l_85, l_86, l_87, l_88, l_89, l_90, l_91, l_92, l_93, l_94, l_95, l_96, l_97, l_98, l_99, l_100, l_101, l_102, l_103, l_104, l_105, l_106, l_107, l_108, l_109, l_110, l_111, l_121, l_122, l_160, l_200, l_201, l_240, l_255, l_361, l_390, l_499, l_500, l_999, l_1000, l_10000, l_10099, l_12345, l_16383, l_20000, l_20033, l_20038, l_20124, l_100000, l_1000000, l_1103515245, ui_oi, ck_oi, sb, jc_e, bl_0, bl_1, le_oi, lt_oi, eq_oi, add_oi, mul_oi, div_oi, ir_oi, gi_e, gi_n, if_true, if_false, if_pos, if_neg, true_and, and_true, false_and, and_false, true_or, or_true, false_or, or_false, e1, hV.ti, y1], by simp (disch := omega) only [l_0, l_1, l_2, l_3, l_4, l_5, l_6, l_7, l_8, l_9, l_10, l_11, l_12, l_13, l_14, l_15, l_16, l_17, l_18, l_19, l_20, l_21, l_22, l_23, l_24, l_25, l_26, l_27, l_28, l_29, l_30, l_31, l_32, l_33, l_34, l_35, l_36, l_37, l_38, l_39, l_40, l_41, l_42, l_43, l_44, l_45, l_46, l_47, l_48, l_49, l_50, l_51, l_52, l_53, l_54, l_55, l_56, l_57, l_58, l_59, l_60, l_61, l_62, l_63, l_64, l_65, l_66, l_67, l_68, l_69, l_70, l_71, l_72, l_73, l_74, l_75, l_76, l_77, l_78, l_79, l_80, l_81, l_82, l_83, l_84, l_85, l_86, l_87, l_88, l_89, l_90, l_91, l_92, l_93, l_94, l_95, l_96, l_97, l_98, l_99, l_100, l_101, l_102, l_103, l_104, l_105, l_106, l_107, l_108, l_109, l_110, l_111, l_121, l_122, l_160, l_200, l_201, l_240, l_255, l_361, l_390, l_499, l_500, l_999, l_1000, l_10000, l_10099, l_12345, l_16383, l_20000, l_20033, l_20038, l_20124, l_100000, l_1000000, l_1103515245, ui_oi, ck_oi, sb, jc_e, bl_0, bl_1, le_oi, lt_oi, eq_oi, add_oi, mul_oi, div_oi, ir_oi, gi_e, gi_n, if_true, if_false, if_pos, if_neg, true_and, and_true, false_and, and_false, true_or, or_true, false_or, or_false, e2, k1, y2], ⟨y7, hF.oc y3 (by decide) (by decide) (by decide), (y3.g (by decide)).trans h3, (y3.g (by decide)).trans h4, y4, hW, y5⟩, zm6.m y3, zm6.f y3, hZ.1, hZ.2⟩
  · exact ⟨-1, M, N, d, c, by simp (disch := omega) only [l_0, l_1, l_2, l_3, l_4, l_5, l_6, l_7, l_8, l_9, l_10, l_11, l_12, l_13, l_14, l_15, l_16, l_17, l_18, l_19, l_20, l_21, l_22, l_23, l_24, l_25, l_26, l_27, l_28, l_29, l_30, l_31, l_32, l_33, l_34, l_35, l_36, l_37, l_38, l_39, l_40, l_41, l_42, l_43, l_44, l_45, l_46, l_47, l_48, l_49, l_50, l_51, l_52, l_53, l_54, l_55, l_56, l_57, l_58, l_59, l_60, l_61, l_62, l_63, l_64, l_65, l_66, l_67, l_68, l_69, l_70, l_71, l_72, l_73, l_74, l_75, l_76, l_77, l_78, l_79, l_80, l_81, l_82, l_83, l_84, l_85, l_86, l_87, l_88, l_89, l_90, l_91, l_92, l_93, l_94, l_95, l_96, l_97, l_98, l_99, l_100, l_101, l_102, l_103, l_104, l_105, l_106, l_107, l_108, l_109, l_110, l_111, l_121, l_122, l_160, l_200, l_201, l_240, l_255, l_361, l_390, l_499, l_500, l_999, l_1000, l_10000, l_10099, l_12345, l_16383, l_20000, l_20033, l_20038, l_20124, l_100000, l_1000000, l_1103515245, ui_oi, ck_oi, sb, jc_e, bl_0, bl_1, le_oi, lt_oi, eq_oi, add_oi, mul_oi, div_oi, ir_oi, gi_e, gi_n, if_true, if_false, if_pos, if_neg, true_and, and_true, false_and, and_false, true_or, or_true, false_or, or_false, e1], by simp (disch := omega) only [l_0, l_1, l_2, l_3, l_4, l_5, l_6, l_7, l_8, l_9, l_10, l_11, l_12, l_13, l_14, l_15, l_16, l_17, l_18, l_19, l_20, l_21, l_22, l_23, l_24, l_25, l_26, l_27, l_28, l_29, l_30, l_31, l_32, l_33, l_34, l_35, l_36, l_37, l_38, l_39, l_40, l_41, l_42, l_43, l_44, l_45, l_46, l_47, l_48, l_49, l_50, l_51, l_52, l_53, l_54, l_55, l_56, l_57, l_58, l_59, l_60, l_61, l_62, l_63, l_64, l_65, l_66, l_67, l_68, l_69, l_70, l_71, l_72, l_73, l_74, l_75, l_76, l_77, l_78, l_79, l_80, l_81, l_82, l_83, l_84, l_85, l_86, l_87, l_88, l_89, l_90, l_91, l_92, l_93, l_94, l_95, l_96, l_97, l_98, l_99, l_100, l_101, l_102, l_103, l_104, l_105, l_106, l_107, l_108, l_109, l_110, l_111, l_121, l_122, l_160, l_200, l_201, l_240, l_255, l_361, l_390, l_499, l_500, l_999, l_1000, l_10000, l_10099, l_12345, l_16383, l_20000, l_20033, l_20038, l_20124, l_100000, l_1000000, l_1103515245, ui_oi, ck_oi, sb, jc_e, bl_0, bl_1, le_oi, lt_oi, eq_oi, add_oi, mul_oi, div_oi, ir_oi, gi_e, gi_n, if_true, if_false, if_pos, if_neg, true_and, and_true, false_and, and_false, true_or, or_true, false_or, or_false, e2], hI, fun _ _ _ => rfl, fun _ _ => rfl, fun _ _ _ => rfl, fun _ _ => rfl⟩
theorem VL.ss0 {v f : Nat} (hf : f < 6) (hV : VL 0 M d c) : VL 0 (si M 37 f (oi v)) (zU d (23 + f) v) c := by
  refine VL.re hV (by (try simp (disch := omega) only [zU_n, gi_n]); exact hV.n) (by (try simp (disch := omega) only [zU_n, gi_n]); exact hV.e) (by (try simp (disch := omega) only [zU_n, gi_n]); exact hV.rn) (fun k hk => by (try simp (disch := omega) only [zK, zU_n, gi_n]); exact hV.kd hk) (fun k hk => by (try simp (disch := omega) only [zT, zU_n, gi_n]); exact hV.ti hk) (fun t ht => by (try simp (disch := omega) only [zU_n, gi_n]); exact hV.wa ht) (fun i hi => ?_) (fun f hf => by (try simp (disch := omega) only [zU_n, gi_n]); exact hV.gr hf) (fun r hr => by (try simp (disch := omega) only [zU_n, gi_n]); exact hV.2.2.2.2.2.2.1 r hr) (fun x hx j => by (try simp (disch := omega) only [gi_n])) (fun j hj => by (try simp (disch := omega) only [zU_n]))
  by_cases hit : i = f
  · subst hit
    rw [gi_e, zU_e]
  · rw [gi_n (by omega), zU_n (by omega)]
    exact hV.sp hi
theorem VL.ss {v u f : Nat} (hf : f < 6) (hV : VL 0 M (zU d (23 + f) u) c) : VL 0 (si M 37 f (oi v)) (zU d (23 + f) v) c := by
  have h := VL.ss0 (v := v) hf hV
  rw [zU_zU] at h
  exact h
theorem w_least {f : Nat} (hk : k < 6) (hf6 : f < 6) (hW : WF d) : ∀ m u (b : Int32) M N fu fu2, VL 0 M (zU d (23 + f) u) c → FL 39 M d → RI N (zU d (23 + f) u) c → m ≤ 10 → m < fu → m < fu2 → ∃ a M' N', F_X11_least_L41 (oi k) (oi f) (oi (d (23 + f))) fu M b (oi m - oi 1) = some (a, M') ∧ F_X12_least_L35 (oi k) (oi (23 + f)) (oi (d (23 + f))) fu2 N b (oi m - oi 1) = some (a, N') ∧ Oc [37] M M' ∧ VL 0 M' d c ∧ RI N' d c ∧ Oc [95] N N' := by
  intro m
  induction m with
  | zero =>
    intro u b M N fu fu2 hV hF hI hm hf hf2
    obtain ⟨fu', rfl⟩ : ∃ q, fu = q + 1 := ⟨fu - 1, by omega⟩
    obtain ⟨fu2', rfl⟩ : ∃ q, fu2 = q + 1 := ⟨fu2 - 1, by omega⟩
    have hV2 := VL.ss (v := d (23 + f)) hf6 hV
    have e0 : zU d (23 + f) (d (23 + f)) = d := zU_own
    rw [e0] at hV2
    have hI2 := hI.u (j := 23 + f) (v := d (23 + f)) (by omega) (by omega)
    rw [zU_zU, e0] at hI2
    refine ⟨b, si M 37 f (oi (d (23 + f))), si N 95 (23 + f) (oi (d (23 + f))), ?_, ?_, Oc.si (by simp), hV2, hI2, Oc.si (by simp)⟩
    · rw [F_X11_least_L41, s01]
      simp (disch := omega) only [l_0, l_1, l_2, l_3, l_4, l_5, l_6, l_7, l_8, l_9, l_10, l_11, l_12, l_13, l_14, l_15, l_16, l_17, l_18, l_19, l_20, l_21, l_22, l_23, l_24, l_25, l_26, l_27, l_28, l_29, l_30, l_31, l_32, l_33, l_34, l_35, l_36, l_37, l_38, l_39, l_40, l_41, l_42, l_43, l_44, l_45, l_46, l_47, l_48, l_49, l_50, l_51, l_52, l_53, l_54, l_55, l_56, l_57, l_58, l_59, l_60, l_61, l_62, l_63, l_64, l_65, l_66, l_67, l_68, l_69, l_70, l_71, l_72, l_73, l_74, l_75, l_76, l_77, l_78, l_79, l_80, l_81, l_82, l_83, l_84, l_85, l_86, l_87, l_88, l_89, l_90, l_91, l_92, l_93, l_94, l_95, l_96, l_97, l_98, l_99, l_100, l_101, l_102, l_103, l_104, l_105, l_106, l_107, l_108, l_109, l_110, l_111, l_121, l_122, l_160, l_200, l_201, l_240, l_255, l_361, l_390, l_499, l_500, l_999, l_1000, l_10000, l_10099, l_12345, l_16383, l_20000, l_20033, l_20038, l_20124, l_100000, l_1000000, l_1103515245, ui_oi, ck_oi, sb, jc_e, bl_0, bl_1, le_oi, lt_oi, eq_oi, add_oi, mul_oi, div_oi, ir_oi, gi_e, gi_n, if_true, if_false, if_pos, if_neg, true_and, and_true, false_and, and_false, true_or, or_true, false_or, or_false, n01]
    · rw [F_X12_least_L35, s01]
      simp (disch := omega) only [l_0, l_1, l_2, l_3, l_4, l_5, l_6, l_7, l_8, l_9, l_10, l_11, l_12, l_13, l_14, l_15, l_16, l_17, l_18, l_19, l_20, l_21, l_22, l_23, l_24, l_25, l_26, l_27, l_28, l_29, l_30, l_31, l_32, l_33, l_34, l_35, l_36, l_37, l_38, l_39, l_40, l_41, l_42, l_43, l_44, l_45, l_46, l_47, l_48, l_49, l_50, l_51, l_52, l_53, l_54, l_55, l_56, l_57, l_58, l_59, l_60, l_61, l_62, l_63, l_64, l_65, l_66, l_67, l_68, l_69, l_70, l_71, l_72, l_73, l_74, l_75, l_76, l_77, l_78, l_79, l_80, l_81, l_82, l_83, l_84, l_85, l_86, l_87, l_88, l_89, l_90, l_91, l_92, l_93, l_94, l_95, l_96, l_97, l_98, l_99, l_100, l_101, l_102, l_103, l_104, l_105, l_106, l_107, l_108, l_109, l_110, l_111, l_121, l_122, l_160, l_200, l_201, l_240, l_255, l_361, l_390, l_499, l_500, l_999, l_1000, l_10000, l_10099, l_12345, l_16383, l_20000, l_20033, l_20038, l_20124, l_100000, l_1000000, l_1103515245, ui_oi, ck_oi, sb, jc_e, bl_0, bl_1, le_oi, lt_oi, eq_oi, add_oi, mul_oi, div_oi, ir_oi, gi_e, gi_n, if_true, if_false, if_pos, if_neg, true_and, and_true, false_and, and_false, true_or, or_true, false_or, or_false, n01]
  | succ m ih =>
    intro u b M N fu fu2 hV hF hI hm hf hf2
    obtain ⟨fu', rfl⟩ : ∃ q, fu = q + 1 := ⟨fu - 1, by omega⟩
    obtain ⟨fu2', rfl⟩ : ∃ q, fu2 = q + 1 := ⟨fu2 - 1, by omega⟩
    have hV2 := VL.ss (v := m) hf6 hV
    have hI2 := hI.u (j := 23 + f) (v := m) (by omega) (by omega)
    rw [zU_zU] at hI2
    have hWe : WF (zU d (23 + f) m) := hW.u (by omega) (by omega) (by omega) (by omega) (by omega) (by omega) (by omega) (by omega)
    have hO2 : Oc [37] M (si M 37 f (oi m)) := Oc.si (by simp)
    have hP2 : Oc [95] N (si N 95 (23 + f) (oi m)) := Oc.si (by simp)
    have hF1 : FL 39 (si M 37 f (oi m)) d := hF.oc hO2 (by decide) (by decide) (by decide)
    have hF2 : FL 39 (si M 37 f (oi m)) (zU d (23 + f) m) := by
      refine ⟨fun i hi => ⟨?_, ?_⟩, ?_, ?_⟩
      · unfold zF
        rw [zU_n (by omega)]
        exact hF1.f hi
      · unfold zC
        rw [zU_n (by omega)]
        exact hF1.c hi
      · unfold zBi zS
        simp (disch := omega) only [zU_n]
        exact hF1.b
      · rw [zU_n (by omega)]
        exact hF1.t
    have l5 := c_py hV2 hF2 hWe hk
    have l6 := r_py hI2.1 hWe hk
    have e9 : oi m + - oi 1 = oi m - oi 1 := by rw [Int32.sub_eq_add_neg]
    rw [sub_oi (show 1 ≤ m + 1 by omega), show m + 1 - 1 = m by omega]
    by_cases hq : oi (zPy (zU d (23 + f) m) k) ≤ oi 0
    · obtain ⟨a, M', N', y1, y2, y3, y4, y5, y6⟩ := ih m b _ _ fu' fu2' hV2 hF1 hI2 (by omega) (by omega) (by omega)
      refine ⟨a, M', N', ?_, ?_, hO2.tr y3 (fun c hc => ⟨hc, hc⟩), y4, y5, hP2.tr y6 (fun c hc => ⟨hc, hc⟩)⟩
      · rw [F_X11_least_L41, ← y1, ← e9]
        have hq' := hq
        rw [le_oi (by have := zPy_le (d := zU d (23 + f) m) (k := k) (hWe.2.2.2.2.2.1 k hk).2.1; omega) (by omega)] at hq'
        have hp14 := zPy_le (d := zU d (23 + f) m) (k := k) (hWe.2.2.2.2.2.1 k hk).2.1
        simp (disch := omega) only [l_0, l_1, l_2, l_3, l_4, l_5, l_6, l_7, l_8, l_9, l_10, l_11, l_12, l_13, l_14, l_15, l_16, l_17, l_18, l_19, l_20, l_21, l_22, l_23, l_24, l_25, l_26, l_27, l_28, l_29, l_30, l_31, l_32, l_33, l_34, l_35, l_36, l_37, l_38, l_39, l_40, l_41, l_42, l_43, l_44, l_45, l_46, l_47, l_48, l_49, l_50, l_51, l_52, l_53, l_54, l_55, l_56, l_57, l_58, l_59, l_60, l_61, l_62, l_63, l_64, l_65, l_66, l_67, l_68, l_69, l_70, l_71, l_72, l_73, l_74, l_75, l_76, l_77, l_78, l_79, l_80, l_81, l_82, l_83, l_84, l_85, l_86, l_87, l_88, l_89, l_90, l_91, l_92, l_93, l_94, l_95, l_96, l_97, l_98, l_99, l_100, l_101, l_102, l_103, l_104, l_105, l_106, l_107, l_108, l_109, l_110, l_111, l_121, l_122, l_160, l_200, l_201, l_240, l_255, l_361, l_390, l_499, l_500, l_999, l_1000, l_10000, l_10099, l_12345, l_16383, l_20000, l_20033, l_20038, l_20124, l_100000, l_1000000, l_1103515245, ui_oi, ck_oi, sb, jc_e, bl_0, bl_1, le_oi, lt_oi, eq_oi, add_oi, mul_oi, div_oi, ir_oi, gi_e, gi_n, if_true, if_false, if_pos, if_neg, true_and, and_true, false_and, and_false, true_or, or_true, false_or, or_false, l5]
      · rw [F_X12_least_L35, ← y2, ← e9]
        have hq' := hq
        rw [le_oi (by have := zPy_le (d := zU d (23 + f) m) (k := k) (hWe.2.2.2.2.2.1 k hk).2.1; omega) (by omega)] at hq'
        have hp14 := zPy_le (d := zU d (23 + f) m) (k := k) (hWe.2.2.2.2.2.1 k hk).2.1
        simp (disch := omega) only [l_0, l_1, l_2, l_3, l_4, l_5, l_6, l_7, l_8, l_9, l_10, l_11, l_12, l_13, l_14, l_15, l_16, l_17, l_18, l_19, l_20, l_21, l_22, l_23, l_24, l_25, l_26, l_27, l_28, l_29, l_30, l_31, l_32, l_33, l_34, l_35, l_36, l_37, l_38, l_39, l_40, l_41, l_42, l_43, l_44, l_45, l_46, l_47, l_48, l_49, l_50, l_51, l_52, l_53, l_54, l_55, l_56, l_57, l_58, l_59, l_60, l_61, l_62, l_63, l_64, l_65, l_66, l_67, l_68, l_69, l_70, l_71, l_72, l_73, l_74, l_75, l_76, l_77, l_78, l_79, l_80, l_81, l_82, l_83, l_84, l_85, l_86, l_87, l_88, l_89, l_90, l_91, l_92, l_93, l_94, l_95, l_96, l_97, l_98, l_99, l_100, l_101, l_102, l_103, l_104, l_105, l_106, l_107, l_108, l_109, l_110, l_111, l_121, l_122, l_160, l_200, l_201, l_240, l_255, l_361, l_390, l_499, l_500, l_999, l_1000, l_10000, l_10099, l_12345, l_16383, l_20000, l_20033, l_20038, l_20124, l_100000, l_1000000, l_1103515245, ui_oi, ck_oi, sb, jc_e, bl_0, bl_1, le_oi, lt_oi, eq_oi, add_oi, mul_oi, div_oi, ir_oi, gi_e, gi_n, if_true, if_false, if_pos, if_neg, true_and, and_true, false_and, and_false, true_or, or_true, false_or, or_false, l6]
    · obtain ⟨a, M', N', y1, y2, y3, y4, y5, y6⟩ := ih m (oi m) _ _ fu' fu2' hV2 hF1 hI2 (by omega) (by omega) (by omega)
      refine ⟨a, M', N', ?_, ?_, hO2.tr y3 (fun c hc => ⟨hc, hc⟩), y4, y5, hP2.tr y6 (fun c hc => ⟨hc, hc⟩)⟩
      · rw [F_X11_least_L41, ← y1, ← e9]
        have hq' := hq
        rw [le_oi (by have := zPy_le (d := zU d (23 + f) m) (k := k) (hWe.2.2.2.2.2.1 k hk).2.1; omega) (by omega)] at hq'
        have hp14 := zPy_le (d := zU d (23 + f) m) (k := k) (hWe.2.2.2.2.2.1 k hk).2.1
        simp (disch := omega) only [l_0, l_1, l_2, l_3, l_4, l_5, l_6, l_7, l_8, l_9, l_10, l_11, l_12, l_13, l_14, l_15, l_16, l_17, l_18, l_19, l_20, l_21, l_22, l_23, l_24, l_25, l_26, l_27, l_28, l_29, l_30, l_31, l_32, l_33, l_34, l_35, l_36, l_37, l_38, l_39, l_40, l_41, l_42, l_43, l_44, l_45, l_46, l_47, l_48, l_49, l_50, l_51, l_52, l_53, l_54, l_55, l_56, l_57, l_58, l_59, l_60, l_61, l_62, l_63, l_64, l_65, l_66, l_67, l_68, l_69, l_70, l_71, l_72, l_73, l_74, l_75, l_76, l_77, l_78, l_79, l_80, l_81, l_82, l_83, l_84, l_85, l_86, l_87, l_88, l_89, l_90, l_91, l_92, l_93, l_94, l_95, l_96, l_97, l_98, l_99, l_100, l_101, l_102, l_103, l_104, l_105, l_106, l_107, l_108, l_109, l_110, l_111, l_121, l_122, l_160, l_200, l_201, l_240, l_255, l_361, l_390, l_499, l_500, l_999, l_1000, l_10000, l_10099, l_12345, l_16383, l_20000, l_20033, l_20038, l_20124, l_100000, l_1000000, l_1103515245, ui_oi, ck_oi, sb, jc_e, bl_0, bl_1, le_oi, lt_oi, eq_oi, add_oi, mul_oi, div_oi, ir_oi, gi_e, gi_n, if_true, if_false, if_pos, if_neg, true_and, and_true, false_and, and_false, true_or, or_true, false_or, or_false, l5]
      · rw [F_X12_least_L35, ← y2, ← e9]
        have hq' := hq
        rw [le_oi (by have := zPy_le (d := zU d (23 + f) m) (k := k) (hWe.2.2.2.2.2.1 k hk).2.1; omega) (by omega)] at hq'
        have hp14 := zPy_le (d := zU d (23 + f) m) (k := k) (hWe.2.2.2.2.2.1 k hk).2.1
        simp (disch := omega) only [l_0, l_1, l_2, l_3, l_4, l_5, l_6, l_7, l_8, l_9, l_10, l_11, l_12, l_13, l_14, l_15, l_16, l_17, l_18, l_19, l_20, l_21, l_22, l_23, l_24, l_25, l_26, l_27, l_28, l_29, l_30, l_31, l_32, l_33, l_34, l_35, l_36, l_37, l_38, l_39, l_40, l_41, l_42, l_43, l_44, l_45, l_46, l_47, l_48, l_49, l_50, l_51, l_52, l_53, l_54, l_55, l_56, l_57, l_58, l_59, l_60, l_61, l_62, l_63, l_64, l_65, l_66, l_67, l_68, l_69, l_70, l_71, l_72, l_73, l_74, l_75, l_76, l_77, l_78, l_79, l_80, l_81, l_82, l_83, l_84, l_85, l_86, l_87, l_88, l_89, l_90, l_91, l_92, l_93, l_94, l_95, l_96, l_97, l_98, l_99, l_100, l_101, l_102, l_103, l_104, l_105, l_106, l_107, l_108, l_109, l_110, l_111, l_121, l_122, l_160, l_200, l_201, l_240, l_255, l_361, l_390, l_499, l_500, l_999, l_1000, l_10000, l_10099, l_12345, l_16383, l_20000, l_20033, l_20038, l_20124, l_100000, l_1000000, l_1103515245, ui_oi, ck_oi, sb, jc_e, bl_0, bl_1, le_oi, lt_oi, eq_oi, add_oi, mul_oi, div_oi, ir_oi, gi_e, gi_n, if_true, if_false, if_pos, if_neg, true_and, and_true, false_and, and_false, true_or, or_true, false_or, or_false, l6]
theorem q_least (v1 : Int32) : Cl (fun M => F_X11_least M v1) (fun M => F_X12_least M v1) := by
  refine Cl.vs (fun M N d c hI => ?_)
  obtain ⟨hV, hF, h3, h4, hRI, hW, hA⟩ := id hI
  try dsimp only
  unfold F_X11_least F_X12_least
  have h0 := hW.1
  rcases has2 hV hRI.1 h0 v1 with ⟨k, hk, rfl, e1, e2⟩ | ⟨e1, e2, -⟩
  · have hk6 : k < 6 := by omega
    have hT := (hW.2.2.2.2.2.1 k hk6).2.2.2.1
    have e0 : zU d (23 + zT d k) (d (23 + zT d k)) = d := zU_own
    obtain ⟨a, M', N', y1, y2, y3, y4, y5, y6⟩ := w_least (k := k) (f := zT d k) hk6 (by omega) hW 10 (d (23 + zT d k)) (- oi 3) M N 1000 1000 (by rw [e0]; exact hV) hF (by rw [e0]; exact hRI) (by omega) (by omega) (by omega)
    rw [sub_oi (by omega), show 10 - 1 = 9 by omega] at y1 y2
    have zm7 : Zm [37] := fun x hx => by simp at hx; omega
    exact ⟨a, M', N', d, c, by simp (disch := omega) only [l_0, l_1, l_2, l_3, l_4, l_5, l_6, l_7, l_8, l_9, l_10, l_11, l_12, l_13, l_14, l_15, l_16, l_17, l_18, l_19, l_20, l_21, l_22, l_23, l_24, l_25, l_26, l_27, l_28, l_29, l_30, l_31, l_32, l_33, l_34, l_35, l_36, l_37, l_38, l_39, l_40, l_41, l_42, l_43, l_44, l_45, l_46, l_47, l_48, l_49, l_50, l_51, l_52, l_53, l_54, l_55, l_56, l_57, l_58, l_59, l_60, l_61, l_62, l_63, l_64, l_65, l_66, l_67, l_68, l_69, l_70, l_71, l_72, l_73, l_74, l_75, l_76, l_77, l_78, l_79, l_80, l_81, l_82, l_83, l_84, l_85, l_86, l_87, l_88, l_89, l_90, l_91, l_92, l_93, l_94, l_95, l_96, l_97, l_98, l_99, l_100, l_101, l_102, l_103, l_104, l_105, l_106, l_107, l_108, l_109, l_110, l_111, l_121, l_122, l_160, l_200, l_201, l_240, l_255, l_361, l_390, l_499, l_500, l_999, l_1000, l_10000, l_10099, l_12345, l_16383, l_20000, l_20033, l_20038, l_20124, l_100000, l_1000000, l_1103515245, ui_oi, ck_oi, sb, jc_e, bl_0, bl_1, le_oi, lt_oi, eq_oi, add_oi, mul_oi, div_oi, ir_oi, gi_e, gi_n, if_true, if_false, if_pos, if_neg, true_and, and_true, false_and, and_false, true_or, or_true, false_or, or_false, e1, hV.ti, hV.sp, y1], by simp (disch := omega) only [l_0, l_1, l_2, l_3, l_4, l_5, l_6, l_7, l_8, l_9, l_10, l_11, l_12, l_13, l_14, l_15, l_16, l_17, l_18, l_19, l_20, l_21, l_22, l_23, l_24, l_25, l_26, l_27, l_28, l_29, l_30, l_31, l_32, l_33, l_34, l_35, l_36, l_37, l_38, l_39, l_40, l_41, l_42, l_43, l_44, l_45, l_46, l_47, l_48, l_49, l_50, l_51, l_52, l_53, l_54, l_55, l_56, l_57, l_58, l_59, l_60, l_61, l_62, l_63, l_64, l_65, l_66, l_67, l_68, l_69, l_70, l_71, l_72, l_73, l_74, l_75, l_76, l_77, l_78, l_79, l_80, l_81, l_82, l_83, l_84, l_85, l_86, l_87, l_88, l_89, l_90, l_91, l_92, l_93, l_94, l_95, l_96, l_97, l_98, l_99, l_100, l_101, l_102, l_103, l_104, l_105, l_106, l_107, l_108, l_109, l_110, l_111, l_121, l_122, l_160, l_200, l_201, l_240, l_255, l_361, l_390, l_499, l_500, l_999, l_1000, l_10000, l_10099, l_12345, l_16383, l_20000, l_20033, l_20038, l_20124, l_100000, l_1000000, l_1103515245, ui_oi, ck_oi, sb, jc_e, bl_0, bl_1, le_oi, lt_oi, eq_oi, add_oi, mul_oi, div_oi, ir_oi, gi_e, gi_n, if_true, if_false, if_pos, if_neg, true_and, and_true, false_and, and_false, true_or, or_true, false_or, or_false, e2, r_t hRI.1, hRI.1.g, y2], ⟨y4, hF.oc y3 (by decide) (by decide) (by decide), (y3.g (by decide)).trans h3, (y3.g (by decide)).trans h4, y5, hW, (y6.g (by decide)).trans hA⟩, zm7.m y3, zm7.f y3, zn5.n y6, zn5.f y6⟩
  · exact ⟨-1, M, N, d, c, by simp (disch := omega) only [l_0, l_1, l_2, l_3, l_4, l_5, l_6, l_7, l_8, l_9, l_10, l_11, l_12, l_13, l_14, l_15, l_16, l_17, l_18, l_19, l_20, l_21, l_22, l_23, l_24, l_25, l_26, l_27, l_28, l_29, l_30, l_31, l_32, l_33, l_34, l_35, l_36, l_37, l_38, l_39, l_40, l_41, l_42, l_43, l_44, l_45, l_46, l_47, l_48, l_49, l_50, l_51, l_52, l_53, l_54, l_55, l_56, l_57, l_58, l_59, l_60, l_61, l_62, l_63, l_64, l_65, l_66, l_67, l_68, l_69, l_70, l_71, l_72, l_73, l_74, l_75, l_76, l_77, l_78, l_79, l_80, l_81, l_82, l_83, l_84, l_85, l_86, l_87, l_88, l_89, l_90, l_91, l_92, l_93, l_94, l_95, l_96, l_97, l_98, l_99, l_100, l_101, l_102, l_103, l_104, l_105, l_106, l_107, l_108, l_109, l_110, l_111, l_121, l_122, l_160, l_200, l_201, l_240, l_255, l_361, l_390, l_499, l_500, l_999, l_1000, l_10000, l_10099, l_12345, l_16383, l_20000, l_20033, l_20038, l_20124, l_100000, l_1000000, l_1103515245, ui_oi, ck_oi, sb, jc_e, bl_0, bl_1, le_oi, lt_oi, eq_oi, add_oi, mul_oi, div_oi, ir_oi, gi_e, gi_n, if_true, if_false, if_pos, if_neg, true_and, and_true, false_and, and_false, true_or, or_true, false_or, or_false, e1], by simp (disch := omega) only [l_0, l_1, l_2, l_3, l_4, l_5, l_6, l_7, l_8, l_9, l_10, l_11, l_12, l_13, l_14, l_15, l_16, l_17, l_18, l_19, l_20, l_21, l_22, l_23, l_24, l_25, l_26, l_27, l_28, l_29, l_30, l_31, l_32, l_33, l_34, l_35, l_36, l_37, l_38, l_39, l_40, l_41, l_42, l_43, l_44, l_45, l_46, l_47, l_48, l_49, l_50, l_51, l_52, l_53, l_54, l_55, l_56, l_57, l_58, l_59, l_60, l_61, l_62, l_63, l_64, l_65, l_66, l_67, l_68, l_69, l_70, l_71, l_72, l_73, l_74, l_75, l_76, l_77, l_78, l_79, l_80, l_81, l_82, l_83, l_84, l_85, l_86, l_87, l_88, l_89, l_90, l_91, l_92, l_93, l_94, l_95, l_96, l_97, l_98, l_99, l_100, l_101, l_102, l_103, l_104, l_105, l_106, l_107, l_108, l_109, l_110, l_111, l_121, l_122, l_160, l_200, l_201, l_240, l_255, l_361, l_390, l_499, l_500, l_999, l_1000, l_10000, l_10099, l_12345, l_16383, l_20000, l_20033, l_20038, l_20124, l_100000, l_1000000, l_1103515245, ui_oi, ck_oi, sb, jc_e, bl_0, bl_1, le_oi, lt_oi, eq_oi, add_oi, mul_oi, div_oi, ir_oi, gi_e, gi_n, if_true, if_false, if_pos, if_neg, true_and, and_true, false_and, and_false, true_or, or_true, false_or, or_false, e2], hI, fun _ _ _ => rfl, fun _ _ => rfl, fun _ _ _ => rfl, fun _ _ => rfl⟩
end RU

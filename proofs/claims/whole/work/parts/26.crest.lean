/-! THE REST IN THE CLASS; FLOODS COPIED -/
section CR
variable {M : Mm} {d : Nat → Nat} {c : Cnd} {w k t f r a : Nat}
theorem FL.oc {M' : Mm} {S : List Nat} (h : FL w M d) (hO : Oc S M M') (h1 : w ∉ S) (h2 : w + 1 ∉ S) (h3 : w + 2 ∉ S) : FL w M' d := ⟨fun k hk => ⟨(hO.g h2).trans (h.f hk), (hO.g h3).trans (h.c hk)⟩, (hO.g h1).trans h.b, (hO.g h1).trans h.t⟩
theorem Wc_47 (hw : Wc w) : w ≠ 47 ∧ w + 1 ≠ 47 ∧ w + 2 ≠ 47 := by rcases hw with rfl | rfl | rfl | rfl | rfl | rfl | rfl <;> decide
theorem FL.o47 {M' : Mm} (h : FL w M d) (hO : Oc [47] M M') (hw : Wc w) : FL w M' d := by
  obtain ⟨q1, q2, q3⟩ := Wc_47 hw
  exact h.oc hO (by simpa using q1) (by simpa using q2) (by simpa using q3)
theorem VL.o47 {M' : Mm} (h : VL 0 M d c) (hO : Oc [47] M M') : VL 0 M' d c := h.oc hO (by decide)
theorem c_may (hV : VL 0 M d c) (hF : FL w M d) (hW : WF d) (hk : k < 6) (hw : Wc w) : ∃ M', F_X10_may M w (oi k) = some (oi (if zWl d c k = 0 ∧ 0 < zPy d k then 1 else 0), M') ∧ Oc [47] M M' := by
  have hp := c_py hV hF hW hk
  obtain ⟨M1, g1, g2⟩ := c_wl hV hF hW hk hw
  have hp14 := zPy_le (d := d) (k := k) (hW.2.2.2.2.2.1 k hk).2.1
  have hz := zWl_le (c := c) hW k
  unfold F_X10_may
  by_cases h2 : 0 < zPy d k
  · refine ⟨M1, ?_, g2⟩
    by_cases h1 : zWl d c k = 0 <;> simp (disch := omega) only [l_0, l_1, l_2, l_3, l_4, l_5, l_6, l_7, l_8, l_9, l_10, l_11, l_12, l_13, l_14, l_15, l_16, l_17, l_18, l_19, l_20, l_21, l_22, l_23, l_24, l_25, l_26, l_27, l_28, l_29, l_30, l_31, l_32, l_33, l_34, l_35, l_36, l_37, l_38, l_39, l_40, l_41, l_42, l_43, l_44, l_45, l_46, l_47, l_48, l_49, l_50, l_51, l_52, l_53, l_54, l_55, l_56, l_57, l_58, l_59, l_60, l_61, l_62, l_63, l_64, l_65, l_66, l_67, l_68, l_69, l_70, l_71, l_72, l_73, l_74, l_75, l_76, l_77, l_78, l_79, l_80, l_81, l_82, l_83, l_84, l_85, l_86, l_87, l_88, l_89, l_90, l_91, l_92, l_93, l_94, l_95, l_96, l_97, l_98, l_99, l_100, l_101, l_102, l_103, l_104, l_105, l_106, l_107, l_108, l_109, l_110, l_111, l_121, l_122, l_160, l_200, l_201, l_240, l_255, l_361, l_390, l_499, l_500, l_999, l_1000, l_10000, l_10099, l_12345, l_16383, l_20000, l_20033, l_20038, l_20124, l_100000, l_1000000, l_1103515245, ui_oi, ck_oi, sb, jc_e, bl_0, bl_1, le_oi, lt_oi, eq_oi, add_oi, mul_oi, div_oi, ir_oi, gi_e, gi_n, if_true, if_false, if_pos, if_neg, true_and, and_true, false_and, and_false, true_or, or_true, false_or, or_false, hp, g1, h1]
  · refine ⟨M, ?_, Oc.rf⟩
    simp (disch := omega) only [l_0, l_1, l_2, l_3, l_4, l_5, l_6, l_7, l_8, l_9, l_10, l_11, l_12, l_13, l_14, l_15, l_16, l_17, l_18, l_19, l_20, l_21, l_22, l_23, l_24, l_25, l_26, l_27, l_28, l_29, l_30, l_31, l_32, l_33, l_34, l_35, l_36, l_37, l_38, l_39, l_40, l_41, l_42, l_43, l_44, l_45, l_46, l_47, l_48, l_49, l_50, l_51, l_52, l_53, l_54, l_55, l_56, l_57, l_58, l_59, l_60, l_61, l_62, l_63, l_64, l_65, l_66, l_67, l_68, l_69, l_70, l_71, l_72, l_73, l_74, l_75, l_76, l_77, l_78, l_79, l_80, l_81, l_82, l_83, l_84, l_85, l_86, l_87, l_88, l_89, l_90, l_91, l_92, l_93, l_94, l_95, l_96, l_97, l_98, l_99, l_100, l_101, l_102, l_103, l_104, l_105, l_106, l_107, l_108, l_109, l_110, l_111, l_121, l_122, l_160, l_200, l_201, l_240, l_255, l_361, l_390, l_499, l_500, l_999, l_1000, l_10000, l_10099, l_12345, l_16383, l_20000, l_20033, l_20038, l_20124, l_100000, l_1000000, l_1103515245, ui_oi, ck_oi, sb, jc_e, bl_0, bl_1, le_oi, lt_oi, eq_oi, add_oi, mul_oi, div_oi, ir_oi, gi_e, gi_n, if_true, if_false, if_pos, if_neg, true_and, and_true, false_and, and_false, true_or, or_true, false_or, or_false, hp]
theorem c_raF (hW : WF d) (hw : Wc w) : ∀ m k fu (M : Mm), VL 0 M d c → FL w M d → k + m = d 0 → m < fu → ∃ M', F_X10_restAct_L2 w fu M (oi k) = some (oi (zRaF d c m k), M') ∧ Oc [47] M M' := by
  have h0 := hW.1
  intro m
  induction m with
  | zero =>
    intro k fu M hV hF hk hf
    obtain ⟨fu', rfl⟩ : ∃ q, fu = q + 1 := ⟨fu - 1, by omega⟩
    refine ⟨M, ?_, Oc.rf⟩
    rw [F_X10_restAct_L2]
    unfold zRaF
    simp (disch := omega) only [l_0, l_1, l_2, l_3, l_4, l_5, l_6, l_7, l_8, l_9, l_10, l_11, l_12, l_13, l_14, l_15, l_16, l_17, l_18, l_19, l_20, l_21, l_22, l_23, l_24, l_25, l_26, l_27, l_28, l_29, l_30, l_31, l_32, l_33, l_34, l_35, l_36, l_37, l_38, l_39, l_40, l_41, l_42, l_43, l_44, l_45, l_46, l_47, l_48, l_49, l_50, l_51, l_52, l_53, l_54, l_55, l_56, l_57, l_58, l_59, l_60, l_61, l_62, l_63, l_64, l_65, l_66, l_67, l_68, l_69, l_70, l_71, l_72, l_73, l_74, l_75, l_76, l_77, l_78, l_79, l_80, l_81, l_82, l_83, l_84, l_85, l_86, l_87, l_88, l_89, l_90, l_91, l_92, l_93, l_94, l_95, l_96, l_97, l_98, l_99, l_100, l_101, l_102, l_103, l_104, l_105, l_106, l_107, l_108, l_109, l_110, l_111, l_121, l_122, l_160, l_200, l_201, l_240, l_255, l_361, l_390, l_499, l_500, l_999, l_1000, l_10000, l_10099, l_12345, l_16383, l_20000, l_20033, l_20038, l_20124, l_100000, l_1000000, l_1103515245, ui_oi, ck_oi, sb, jc_e, bl_0, bl_1, le_oi, lt_oi, eq_oi, add_oi, mul_oi, div_oi, ir_oi, gi_e, gi_n, if_true, if_false, if_pos, if_neg, true_and, and_true, false_and, and_false, true_or, or_true, false_or, or_false, hV.n]
  | succ m ih =>
    intro k fu M hV hF hk hf
    obtain ⟨fu', rfl⟩ : ∃ q, fu = q + 1 := ⟨fu - 1, by omega⟩
    obtain ⟨M1, g1, g2⟩ := c_may hV hF hW (k := k) (by omega) hw
    obtain ⟨M2, g3, g4⟩ := ih (k + 1) fu' M1 (hV.o47 g2) (hF.o47 g2 hw) (by omega) (by omega)
    unfold zRaF
    by_cases h : zWl d c k = 0 ∧ 0 < zPy d k
    · rw [if_pos h] at g1 ⊢
      refine ⟨M1, ?_, g2⟩
      rw [F_X10_restAct_L2]
      simp (disch := omega) only [l_0, l_1, l_2, l_3, l_4, l_5, l_6, l_7, l_8, l_9, l_10, l_11, l_12, l_13, l_14, l_15, l_16, l_17, l_18, l_19, l_20, l_21, l_22, l_23, l_24, l_25, l_26, l_27, l_28, l_29, l_30, l_31, l_32, l_33, l_34, l_35, l_36, l_37, l_38, l_39, l_40, l_41, l_42, l_43, l_44, l_45, l_46, l_47, l_48, l_49, l_50, l_51, l_52, l_53, l_54, l_55, l_56, l_57, l_58, l_59, l_60, l_61, l_62, l_63, l_64, l_65, l_66, l_67, l_68, l_69, l_70, l_71, l_72, l_73, l_74, l_75, l_76, l_77, l_78, l_79, l_80, l_81, l_82, l_83, l_84, l_85, l_86, l_87, l_88, l_89, l_90, l_91, l_92, l_93, l_94, l_95, l_96, l_97, l_98, l_99, l_100, l_101, l_102, l_103, l_104, l_105, l_106, l_107, l_108, l_109, l_110, l_111, l_121, l_122, l_160, l_200, l_201, l_240, l_255, l_361, l_390, l_499, l_500, l_999, l_1000, l_10000, l_10099, l_12345, l_16383, l_20000, l_20033, l_20038, l_20124, l_100000, l_1000000, l_1103515245, ui_oi, ck_oi, sb, jc_e, bl_0, bl_1, le_oi, lt_oi, eq_oi, add_oi, mul_oi, div_oi, ir_oi, gi_e, gi_n, if_true, if_false, if_pos, if_neg, true_and, and_true, false_and, and_false, true_or, or_true, false_or, or_false, hV.n, g1]
    · rw [if_neg h] at g1 ⊢
      refine ⟨M2, ?_, g2.tr g4 (fun c hc => ⟨hc, hc⟩)⟩
      rw [F_X10_restAct_L2]
      simp (disch := omega) only [l_0, l_1, l_2, l_3, l_4, l_5, l_6, l_7, l_8, l_9, l_10, l_11, l_12, l_13, l_14, l_15, l_16, l_17, l_18, l_19, l_20, l_21, l_22, l_23, l_24, l_25, l_26, l_27, l_28, l_29, l_30, l_31, l_32, l_33, l_34, l_35, l_36, l_37, l_38, l_39, l_40, l_41, l_42, l_43, l_44, l_45, l_46, l_47, l_48, l_49, l_50, l_51, l_52, l_53, l_54, l_55, l_56, l_57, l_58, l_59, l_60, l_61, l_62, l_63, l_64, l_65, l_66, l_67, l_68, l_69, l_70, l_71, l_72, l_73, l_74, l_75, l_76, l_77, l_78, l_79, l_80, l_81, l_82, l_83, l_84, l_85, l_86, l_87, l_88, l_89, l_90, l_91, l_92, l_93, l_94, l_95, l_96, l_97, l_98, l_99, l_100, l_101, l_102, l_103, l_104, l_105, l_106, l_107, l_108, l_109, l_110, l_111, l_121, l_122, l_160, l_200, l_201, l_240, l_255, l_361, l_390, l_499, l_500, l_999, l_1000, l_10000, l_10099, l_12345, l_16383, l_20000, l_20033, l_20038, l_20124, l_100000, l_1000000, l_1103515245, ui_oi, ck_oi, sb, jc_e, bl_0, bl_1, le_oi, lt_oi, eq_oi, add_oi, mul_oi, div_oi, ir_oi, gi_e, gi_n, if_true, if_false, if_pos, if_neg, true_and, and_true, false_and, and_false, true_or, or_true, false_or, or_false, hV.n, g1, g3]
theorem c_ra (hV : VL 0 M d c) (hF : FL w M d) (hW : WF d) (hw : Wc w) : ∃ M', F_X10_restAct M w = some (oi (zRa d c), M') ∧ Oc [47] M M' := c_raF hW hw (d 0) 0 1000 M hV hF (by omega) (by have := hW.1; omega)
theorem c_over (hV : VL 0 M d c) (hF : FL w M d) (hW : WF d) : F_X10_isOver M w = some (oi (if d 1 < d 2 then 0 else 1)) := by
  obtain ⟨h0, h1, h2, h5, h6, hb, hw⟩ := hW
  unfold F_X10_isOver
  by_cases h : d 1 < d 2 <;> simp (disch := omega) only [l_0, l_1, l_2, l_3, l_4, l_5, l_6, l_7, l_8, l_9, l_10, l_11, l_12, l_13, l_14, l_15, l_16, l_17, l_18, l_19, l_20, l_21, l_22, l_23, l_24, l_25, l_26, l_27, l_28, l_29, l_30, l_31, l_32, l_33, l_34, l_35, l_36, l_37, l_38, l_39, l_40, l_41, l_42, l_43, l_44, l_45, l_46, l_47, l_48, l_49, l_50, l_51, l_52, l_53, l_54, l_55, l_56, l_57, l_58, l_59, l_60, l_61, l_62, l_63, l_64, l_65, l_66, l_67, l_68, l_69, l_70, l_71, l_72, l_73, l_74, l_75, l_76, l_77, l_78, l_79, l_80, l_81, l_82, l_83, l_84, l_85, l_86, l_87, l_88, l_89, l_90, l_91, l_92, l_93, l_94, l_95, l_96, l_97, l_98, l_99, l_100, l_101, l_102, l_103, l_104, l_105, l_106, l_107, l_108, l_109, l_110, l_111, l_121, l_122, l_160, l_200, l_201, l_240, l_255, l_361, l_390, l_499, l_500, l_999, l_1000, l_10000, l_10099, l_12345, l_16383, l_20000, l_20033, l_20038, l_20124, l_100000, l_1000000, l_1103515245, ui_oi, ck_oi, sb, jc_e, bl_0, bl_1, le_oi, lt_oi, eq_oi, add_oi, mul_oi, div_oi, ir_oi, gi_e, gi_n, if_true, if_false, if_pos, if_neg, true_and, and_true, false_and, and_false, true_or, or_true, false_or, or_false, hV.e, hF.t]
theorem c_rs (hw : Wc w) : ∀ m k n s fu (M : Mm) (d : Nat → Nat), VL 0 M d c → FL w M d → WF d → k + m = n → n ≤ 16 → m < fu → ∃ M', F_X10_rest_L5 w (oi n) fu M (oi s) (oi k) = some (oi (s + zQw c m d), M') ∧ FL w M' (zQd c m d) ∧ Oc [w, w + 1, w + 2, 47] M M' := by
  intro m
  induction m with
  | zero =>
    intro k n s fu M d hV hF hW hk hn hf
    obtain ⟨fu', rfl⟩ : ∃ q, fu = q + 1 := ⟨fu - 1, by omega⟩
    refine ⟨M, ?_, hF, Oc.rf⟩
    rw [F_X10_rest_L5]
    unfold zQw
    simp (disch := omega) only [l_0, l_1, l_2, l_3, l_4, l_5, l_6, l_7, l_8, l_9, l_10, l_11, l_12, l_13, l_14, l_15, l_16, l_17, l_18, l_19, l_20, l_21, l_22, l_23, l_24, l_25, l_26, l_27, l_28, l_29, l_30, l_31, l_32, l_33, l_34, l_35, l_36, l_37, l_38, l_39, l_40, l_41, l_42, l_43, l_44, l_45, l_46, l_47, l_48, l_49, l_50, l_51, l_52, l_53, l_54, l_55, l_56, l_57, l_58, l_59, l_60, l_61, l_62, l_63, l_64, l_65, l_66, l_67, l_68, l_69, l_70, l_71, l_72, l_73, l_74, l_75, l_76, l_77, l_78, l_79, l_80, l_81, l_82, l_83, l_84, l_85, l_86, l_87, l_88, l_89, l_90, l_91, l_92, l_93, l_94, l_95, l_96, l_97, l_98, l_99, l_100, l_101, l_102, l_103, l_104, l_105, l_106, l_107, l_108, l_109, l_110, l_111, l_121, l_122, l_160, l_200, l_201, l_240, l_255, l_361, l_390, l_499, l_500, l_999, l_1000, l_10000, l_10099, l_12345, l_16383, l_20000, l_20033, l_20038, l_20124, l_100000, l_1000000, l_1103515245, ui_oi, ck_oi, sb, jc_e, bl_0, bl_1, le_oi, lt_oi, eq_oi, add_oi, mul_oi, div_oi, ir_oi, gi_e, gi_n, if_true, if_false, if_pos, if_neg, true_and, and_true, false_and, and_false, true_or, or_true, false_or, or_false, Nat.add_zero]
  | succ m ih =>
    intro k n s fu M d hV hF hW hk hn hf
    obtain ⟨fu', rfl⟩ : ∃ q, fu = q + 1 := ⟨fu - 1, by omega⟩
    have ho := c_over hV hF hW
    unfold zQw zQd
    by_cases h : d 1 < d 2
    · rw [if_pos h] at ho ⊢
      rw [if_pos h]
      obtain ⟨M1, g1, g2⟩ := c_ra hV hF hW hw
      have hV1 := hV.o47 g2
      obtain ⟨M2, g3, g4, g5⟩ := c_pass hV1 (hF.o47 g2 hw) hW (zRa_le (c := c)) hw
      have hV2 : VL 0 M2 (zN d c (zRa d c)) c := (hV1.oc g5 (Wc_V hw)).sd (zN_sd (by have := hW.1; have := zRa_le (d := d) (c := c); omega) hW.1)
      obtain ⟨M3, g7, g8, g9⟩ := ih (k + 1) n (s + zWo d c (zRa d c)) fu' M2 (zN d c (zRa d c)) hV2 g4 (zN_w hW zRa_le h) (by omega) hn (by omega)
      refine ⟨M3, ?_, g8, (g2.su (fun c hc q => hc (by simp at q ⊢; omega))).tr (g5.tr g9 (fun c hc => ⟨hc, hc⟩)) (fun c hc => ⟨hc, hc⟩)⟩
      rw [F_X10_rest_L5]
      simp (disch := omega) only [l_0, l_1, l_2, l_3, l_4, l_5, l_6, l_7, l_8, l_9, l_10, l_11, l_12, l_13, l_14, l_15, l_16, l_17, l_18, l_19, l_20, l_21, l_22, l_23, l_24, l_25, l_26, l_27, l_28, l_29, l_30, l_31, l_32, l_33, l_34, l_35, l_36, l_37, l_38, l_39, l_40, l_41, l_42, l_43, l_44, l_45, l_46, l_47, l_48, l_49, l_50, l_51, l_52, l_53, l_54, l_55, l_56, l_57, l_58, l_59, l_60, l_61, l_62, l_63, l_64, l_65, l_66, l_67, l_68, l_69, l_70, l_71, l_72, l_73, l_74, l_75, l_76, l_77, l_78, l_79, l_80, l_81, l_82, l_83, l_84, l_85, l_86, l_87, l_88, l_89, l_90, l_91, l_92, l_93, l_94, l_95, l_96, l_97, l_98, l_99, l_100, l_101, l_102, l_103, l_104, l_105, l_106, l_107, l_108, l_109, l_110, l_111, l_121, l_122, l_160, l_200, l_201, l_240, l_255, l_361, l_390, l_499, l_500, l_999, l_1000, l_10000, l_10099, l_12345, l_16383, l_20000, l_20033, l_20038, l_20124, l_100000, l_1000000, l_1103515245, ui_oi, ck_oi, sb, jc_e, bl_0, bl_1, le_oi, lt_oi, eq_oi, add_oi, mul_oi, div_oi, ir_oi, gi_e, gi_n, if_true, if_false, if_pos, if_neg, true_and, and_true, false_and, and_false, true_or, or_true, false_or, or_false, ho, g1, g3, g7, Nat.add_assoc]
    · rw [if_neg h] at ho ⊢
      rw [if_neg h]
      refine ⟨M, ?_, hF, Oc.rf⟩
      rw [F_X10_rest_L5]
      simp (disch := omega) only [l_0, l_1, l_2, l_3, l_4, l_5, l_6, l_7, l_8, l_9, l_10, l_11, l_12, l_13, l_14, l_15, l_16, l_17, l_18, l_19, l_20, l_21, l_22, l_23, l_24, l_25, l_26, l_27, l_28, l_29, l_30, l_31, l_32, l_33, l_34, l_35, l_36, l_37, l_38, l_39, l_40, l_41, l_42, l_43, l_44, l_45, l_46, l_47, l_48, l_49, l_50, l_51, l_52, l_53, l_54, l_55, l_56, l_57, l_58, l_59, l_60, l_61, l_62, l_63, l_64, l_65, l_66, l_67, l_68, l_69, l_70, l_71, l_72, l_73, l_74, l_75, l_76, l_77, l_78, l_79, l_80, l_81, l_82, l_83, l_84, l_85, l_86, l_87, l_88, l_89, l_90, l_91, l_92, l_93, l_94, l_95, l_96, l_97, l_98, l_99, l_100, l_101, l_102, l_103, l_104, l_105, l_106, l_107, l_108, l_109, l_110, l_111, l_121, l_122, l_160, l_200, l_201, l_240, l_255, l_361, l_390, l_499, l_500, l_999, l_1000, l_10000, l_10099, l_12345, l_16383, l_20000, l_20033, l_20038, l_20124, l_100000, l_1000000, l_1103515245, ui_oi, ck_oi, sb, jc_e, bl_0, bl_1, le_oi, lt_oi, eq_oi, add_oi, mul_oi, div_oi, ir_oi, gi_e, gi_n, if_true, if_false, if_pos, if_neg, true_and, and_true, false_and, and_false, true_or, or_true, false_or, or_false, ho, Nat.add_zero]
theorem c_rest {n : Nat} (hV : VL 0 M d c) (hF : FL w M d) (hW : WF d) (hw : Wc w) (hn : n ≤ 16) : ∃ M', F_X10_rest M w (oi n) = some (oi (zQw c n d), M') ∧ FL w M' (zQd c n d) ∧ Oc [w, w + 1, w + 2, 47] M M' := by
  obtain ⟨M', g1, g2⟩ := c_rs hw n 0 n 0 1000 M d hV hF hW (by omega) hn (by omega)
  refine ⟨M', ?_, g2⟩
  unfold F_X10_rest
  rw [l_0, g1, Nat.zero_add]
theorem c_fs (hV : VL 0 M d c) (hF : FL w M d) (hW : WF d) : F_X10_allFill M w = some (oi (zFs d)) := by
  have h0 := hW.1
  unfold F_X10_allFill zFs
  refine lp_up (L := fun m a x => F_X10_allFill_L4 M w m a x) (n := d 0) (a := fun j => oi (zSum (zF d) j)) (fun j m hj => ?_) (fun m => ?_) (d 0) 0 1000 (by omega) (by omega)
  · try dsimp only
    show F_X10_allFill_L4 M w (m + 1) (oi (zSum (zF d) j)) (oi j) = F_X10_allFill_L4 M w m (oi (zSum (zF d) j + zF d j)) (oi (j + 1))
    rw [F_X10_allFill_L4]
    simp (disch := omega) only [l_0, l_1, l_2, l_3, l_4, l_5, l_6, l_7, l_8, l_9, l_10, l_11, l_12, l_13, l_14, l_15, l_16, l_17, l_18, l_19, l_20, l_21, l_22, l_23, l_24, l_25, l_26, l_27, l_28, l_29, l_30, l_31, l_32, l_33, l_34, l_35, l_36, l_37, l_38, l_39, l_40, l_41, l_42, l_43, l_44, l_45, l_46, l_47, l_48, l_49, l_50, l_51, l_52, l_53, l_54, l_55, l_56, l_57, l_58, l_59, l_60, l_61, l_62, l_63, l_64, l_65, l_66, l_67, l_68, l_69, l_70, l_71, l_72, l_73, l_74, l_75, l_76, l_77, l_78, l_79, l_80, l_81, l_82, l_83, l_84, l_85, l_86, l_87, l_88, l_89, l_90, l_91, l_92, l_93, l_94, l_95, l_96, l_97, l_98, l_99, l_100, l_101, l_102, l_103, l_104, l_105, l_106, l_107, l_108, l_109, l_110, l_111, l_121, l_122, l_160, l_200, l_201, l_240, l_255, l_361, l_390, l_499, l_500, l_999, l_1000, l_10000, l_10099, l_12345, l_16383, l_20000, l_20033, l_20038, l_20124, l_100000, l_1000000, l_1103515245, ui_oi, ck_oi, sb, jc_e, bl_0, bl_1, le_oi, lt_oi, eq_oi, add_oi, mul_oi, div_oi, ir_oi, gi_e, gi_n, if_true, if_false, if_pos, if_neg, true_and, and_true, false_and, and_false, true_or, or_true, false_or, or_false, hV.n, hF.f]
  · try dsimp only
    rw [F_X10_allFill_L4]
    simp (disch := omega) only [l_0, l_1, l_2, l_3, l_4, l_5, l_6, l_7, l_8, l_9, l_10, l_11, l_12, l_13, l_14, l_15, l_16, l_17, l_18, l_19, l_20, l_21, l_22, l_23, l_24, l_25, l_26, l_27, l_28, l_29, l_30, l_31, l_32, l_33, l_34, l_35, l_36, l_37, l_38, l_39, l_40, l_41, l_42, l_43, l_44, l_45, l_46, l_47, l_48, l_49, l_50, l_51, l_52, l_53, l_54, l_55, l_56, l_57, l_58, l_59, l_60, l_61, l_62, l_63, l_64, l_65, l_66, l_67, l_68, l_69, l_70, l_71, l_72, l_73, l_74, l_75, l_76, l_77, l_78, l_79, l_80, l_81, l_82, l_83, l_84, l_85, l_86, l_87, l_88, l_89, l_90, l_91, l_92, l_93, l_94, l_95, l_96, l_97, l_98, l_99, l_100, l_101, l_102, l_103, l_104, l_105, l_106, l_107, l_108, l_109, l_110, l_111, l_121, l_122, l_160, l_200, l_201, l_240, l_255, l_361, l_390, l_499, l_500, l_999, l_1000, l_10000, l_10099, l_12345, l_16383, l_20000, l_20033, l_20038, l_20124, l_100000, l_1000000, l_1103515245, ui_oi, ck_oi, sb, jc_e, bl_0, bl_1, le_oi, lt_oi, eq_oi, add_oi, mul_oi, div_oi, ir_oi, gi_e, gi_n, if_true, if_false, if_pos, if_neg, true_and, and_true, false_and, and_false, true_or, or_true, false_or, or_false, hV.n]
theorem c_take {w0 w1 : Nat} (hF : FL w1 M d) (hw : w1 + 2 < w0 ∨ w0 + 2 < w1) : ∃ M', F_X3_take M w0 w1 = some M' ∧ FL w0 M' d ∧ Oc [w0, w0 + 1, w0 + 2] M M' := by
  unfold F_X3_take
  refine (lp_inv (L := fun m (x : Mm) y => F_X3_take_L2 w0 w1 m x y) (n := 6) (I := fun j x => (∀ i, i < j → gi x (w0 + 1) i = oi (zF d i) ∧ gi x (w0 + 2) i = oi (zC d i)) ∧ Oc [w0 + 1, w0 + 2] M x) (Q := fun r => FL w0 r d ∧ Oc [w0, w0 + 1, w0 + 2] M r) (fun j m x hj hI => ?_) (fun m x hI => ?_) 6 0 1000 M (by omega) (by omega) ⟨fun i hi => by omega, Oc.rf⟩).elim (fun r hr => ?_)
  · obtain ⟨i1, i2⟩ := hI
    have f1 : gi x (w1 + 1) j = oi (zF d j) := (i2.g (by simp; omega)).trans (hF.f hj)
    have f2 : gi x (w1 + 2) j = oi (zC d j) := (i2.g (by simp; omega)).trans (hF.c hj)
    refine ⟨si (si x (w0 + 1) j (oi (zF d j))) (w0 + 2) j (oi (zC d j)), ⟨fun i hi => ?_, i2.tr ((Oc.si (S := [w0 + 1, w0 + 2]) (by simp)).tr (Oc.si (S := [w0 + 1, w0 + 2]) (by simp)) (fun c hc => ⟨hc, hc⟩)) (fun c hc => ⟨hc, hc⟩)⟩, ?_⟩
    · by_cases hij : i = j
      · subst hij
        rw [gi_n (by omega), gi_e, gi_e]
        exact ⟨rfl, rfl⟩
      · simp (disch := omega) only [gi_n]
        exact i1 i (by omega)
    · try dsimp only
      rw [F_X3_take_L2]
      simp (disch := omega) only [l_0, l_1, l_2, l_3, l_4, l_5, l_6, l_7, l_8, l_9, l_10, l_11, l_12, l_13, l_14, l_15, l_16, l_17, l_18, l_19, l_20, l_21, l_22, l_23, l_24, l_25, l_26, l_27, l_28, l_29, l_30, l_31, l_32, l_33, l_34, l_35, l_36, l_37, l_38, l_39, l_40, l_41, l_42, l_43, l_44, l_45, l_46, l_47, l_48, l_49, l_50, l_51, l_52, l_53, l_54, l_55, l_56, l_57, l_58, l_59, l_60, l_61, l_62, l_63, l_64, l_65, l_66, l_67, l_68, l_69, l_70, l_71, l_72, l_73, l_74, l_75, l_76, l_77, l_78, l_79, l_80, l_81, l_82, l_83, l_84, l_85, l_86, l_87, l_88, l_89, l_90, l_91, l_92, l_93, l_94, l_95, l_96, l_97, l_98, l_99, l_100, l_101, l_102, l_103, l_104, l_105, l_106, l_107, l_108, l_109, l_110, l_111, l_121, l_122, l_160, l_200, l_201, l_240, l_255, l_361, l_390, l_499, l_500, l_999, l_1000, l_10000, l_10099, l_12345, l_16383, l_20000, l_20033, l_20038, l_20124, l_100000, l_1000000, l_1103515245, ui_oi, ck_oi, sb, jc_e, bl_0, bl_1, le_oi, lt_oi, eq_oi, add_oi, mul_oi, div_oi, ir_oi, gi_e, gi_n, if_true, if_false, if_pos, if_neg, true_and, and_true, false_and, and_false, true_or, or_true, false_or, or_false, f1, f2]
  · obtain ⟨i1, i2⟩ := hI
    have f1 : gi x w1 2 = oi (zBi d) := (i2.g (by simp; omega)).trans hF.b
    have f2 : gi x w1 3 = oi (d 1) := (i2.g (by simp; omega)).trans hF.t
    refine ⟨si (si x w0 2 (oi (zBi d))) w0 3 (oi (d 1)), ?_, ⟨fun i hi => ?_, ?_, ?_⟩, (i2.su (fun c hc q => hc (by simp at q ⊢; omega))).tr ((Oc.si (S := [w0, w0 + 1, w0 + 2]) (by simp)).tr (Oc.si (S := [w0, w0 + 1, w0 + 2]) (by simp)) (fun c hc => ⟨hc, hc⟩)) (fun c hc => ⟨hc, hc⟩)⟩
    · try dsimp only
      rw [F_X3_take_L2]
      simp (disch := omega) only [l_0, l_1, l_2, l_3, l_4, l_5, l_6, l_7, l_8, l_9, l_10, l_11, l_12, l_13, l_14, l_15, l_16, l_17, l_18, l_19, l_20, l_21, l_22, l_23, l_24, l_25, l_26, l_27, l_28, l_29, l_30, l_31, l_32, l_33, l_34, l_35, l_36, l_37, l_38, l_39, l_40, l_41, l_42, l_43, l_44, l_45, l_46, l_47, l_48, l_49, l_50, l_51, l_52, l_53, l_54, l_55, l_56, l_57, l_58, l_59, l_60, l_61, l_62, l_63, l_64, l_65, l_66, l_67, l_68, l_69, l_70, l_71, l_72, l_73, l_74, l_75, l_76, l_77, l_78, l_79, l_80, l_81, l_82, l_83, l_84, l_85, l_86, l_87, l_88, l_89, l_90, l_91, l_92, l_93, l_94, l_95, l_96, l_97, l_98, l_99, l_100, l_101, l_102, l_103, l_104, l_105, l_106, l_107, l_108, l_109, l_110, l_111, l_121, l_122, l_160, l_200, l_201, l_240, l_255, l_361, l_390, l_499, l_500, l_999, l_1000, l_10000, l_10099, l_12345, l_16383, l_20000, l_20033, l_20038, l_20124, l_100000, l_1000000, l_1103515245, ui_oi, ck_oi, sb, jc_e, bl_0, bl_1, le_oi, lt_oi, eq_oi, add_oi, mul_oi, div_oi, ir_oi, gi_e, gi_n, if_true, if_false, if_pos, if_neg, true_and, and_true, false_and, and_false, true_or, or_true, false_or, or_false, f1, f2]
    · simp (disch := omega) only [gi_n]
      exact i1 i hi
    · rw [gi_n (by omega), gi_e]
    · rw [gi_e]
  · obtain ⟨q0, q1, q2⟩ := hr
    exact ⟨r, q0, q1, q2⟩
end CR

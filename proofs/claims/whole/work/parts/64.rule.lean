/-! THE TEXT OF RULES: a whole rule -/
def FM2 (M M' : Mm) : Prop := Oc [7, 8, 9, 10, 11] M M'
def FR2 (N N' : Mm) : Prop := Oc [94, 101, 102] N N' ∧ ∀ j, j ≠ 9 → j ≠ 10 → j ≠ 11 → j ≠ 13 → j ≠ 14 → j ≠ 16 → j ≠ 18 → gi N' 94 j = gi N 94 j
section PF
variable {M N M' N' N1 M1 : Mm} {b : Nat → Nat} {n K a sc sr o s t k c D f0 : Nat}
theorem FM.f2 (h : FM M M') : FM2 M M' := h.1.su (fun c hc q => hc (by simp at q ⊢; omega))
theorem FM2.tr (h1 : FM2 M M1) (h2 : FM2 M1 M') : FM2 M M' := Oc.tr h1 h2 (fun c hc => ⟨hc, hc⟩)
theorem FM2.si {x j : Nat} {v : Int32} (h : 7 ≤ x ∧ x ≤ 11) : FM2 M (si M x j v) := Oc.si (by simp; omega)
theorem FR.f2 (h : FR N N') : FR2 N N' := ⟨h.1.su (fun c hc q => hc (by simp at q ⊢; omega)), fun j a b c d e f _ => h.2 j a b c d e f⟩
theorem FR2.tr (h1 : FR2 N N1) (h2 : FR2 N1 N') : FR2 N N' := ⟨h1.1.tr h2.1 (fun c hc => ⟨hc, hc⟩), fun j a b c d e f g => (h2.2 j a b c d e f g).trans (h1.2 j a b c d e f g)⟩
theorem FR2.s2 {j : Nat} {v : Int32} : FR2 N (si N 102 j v) := ⟨Oc.si (by simp), fun i a b c d e f g => gi_n (by omega)⟩
theorem FR2.s4 {v : Int32} : FR2 N (si N 94 18 v) := ⟨Oc.si (by simp), fun i a b c d e f g => gi_n (by omega)⟩
theorem TKM.f2 (h : TKM b n K M) (hF : FM2 M M') : TKM b n K M' := ⟨h.1, h.2.1, h.2.2.1, fun a ha => by
  obtain ⟨x1, x2, x3⟩ := h.2.2.2 a ha
  exact ⟨(Oc.g hF (by decide)).trans x1, (Oc.g hF (by decide)).trans x2, x3⟩⟩
theorem GN.mv (h : GN b n N a sr o) (hO : Oc [94, 102] N N') (h4 : ∀ j, j ≠ 18 → gi N' 94 j = gi N 94 j) (hg : gl N' = gl N) : GN b n N' a sr o := by
  obtain ⟨hY, h8, hs', ⟨q9, q10, hD⟩, h13, h16, h14⟩ := h
  refine ⟨hY.oc hO (by decide), (h4 8 (by omega)).trans h8, hs', ⟨(h4 9 (by omega)).trans q9, (h4 10 (by omega)).trans q10, ?_⟩, (h4 13 (by omega)).trans h13, (h4 16 (by omega)).trans h16, (h4 14 (by omega)).trans h14⟩
  unfold TD at hD ⊢
  rw [h4 11 (by omega), hg]
  exact hD
theorem r_kind (hG : GN b n N a sr o) : (tkn b n a ≤ 5 → F_X12_kindHere N = some (oi (tkn b n a))) ∧ (¬ tkn b n a ≤ 5 → F_X12_kindHere N = some (- oi 1)) := by
  have w0 := r_isW (h := 29596818) hG (k := 0) (by omega) rfl
  have w1 := r_isW (h := 16085) hG (k := 1) (by omega) rfl
  have w2 := r_isW (h := 15161) hG (k := 2) (by omega) rfl
  have w3 := r_isW (h := 55235) hG (k := 3) (by omega) rfl
  have w4 := r_isW (h := 8161) hG (k := 4) (by omega) rfl
  have w5 := r_isW (h := 60302) hG (k := 5) (by omega) rfl
  unfold F_X12_kindHere
  refine ⟨fun h => ?_, fun h => ?_⟩
  · rcases (by omega : tkn b n a = 0 ∨ tkn b n a = 1 ∨ tkn b n a = 2 ∨ tkn b n a = 3 ∨ tkn b n a = 4 ∨ tkn b n a = 5) with h | h | h | h | h | h <;>
    · rw [h] at w0 w1 w2 w3 w4 w5 ⊢
      simp (disch := omega) only [l_0, l_1, l_2, l_3, l_4, l_5, l_6, l_7, l_8, l_9, l_10, l_11, l_12, l_13, l_14, l_15, l_16, l_17, l_18, l_19, l_20, l_21, l_22, l_23, l_24, l_25, l_26, l_27, l_28, l_29, l_30, l_31, l_32, l_33, l_34, l_35, l_36, l_37, l_38, l_39, l_40, l_41, l_42, l_43, l_44, l_45, l_46, l_47, l_48, l_49, l_50, l_51, l_52, l_53, l_54, l_55, l_56, l_57, l_58, l_59, l_60, l_61, l_62, l_63, l_64, l_65, l_66, l_67, l_68, l_69, l_70, l_71, l_72, l_73, l_74, l_75, l_76, l_77, l_78, l_79, l_80, l_81, l_82, l_83, l_84, l_85, l_86, l_87, l_88, l_89, l_90, l_91, l_92, l_93, l_94, l_95, l_96, l_97, l_98, l_99, l_100, l_101, l_102, l_103, l_104, l_105, l_106, l_107, l_108, l_109, l_110, l_111, l_121, l_122, l_160, l_200, l_201, l_240, l_255, l_361, l_390, l_499, l_500, l_999, l_1000, l_10000, l_10099, l_12345, l_16383, l_20000, l_20033, l_20038, l_20124, l_100000, l_1000000, l_1103515245, ui_oi, ck_oi, sb, jc_e, bl_0, bl_1, le_oi, lt_oi, eq_oi, add_oi, mul_oi, div_oi, ir_oi, gi_e, gi_n, if_true, if_false, if_pos, if_neg, true_and, and_true, false_and, and_false, true_or, or_true, false_or, or_false, w0, w1, w2, w3, w4, w5]
  · rw [if_neg (show ¬ tkn b n a = 0 by omega)] at w0
    rw [if_neg (show ¬ tkn b n a = 1 by omega)] at w1
    rw [if_neg (show ¬ tkn b n a = 2 by omega)] at w2
    rw [if_neg (show ¬ tkn b n a = 3 by omega)] at w3
    rw [if_neg (show ¬ tkn b n a = 4 by omega)] at w4
    rw [if_neg (show ¬ tkn b n a = 5 by omega)] at w5
    simp (disch := omega) only [l_0, l_1, l_2, l_3, l_4, l_5, l_6, l_7, l_8, l_9, l_10, l_11, l_12, l_13, l_14, l_15, l_16, l_17, l_18, l_19, l_20, l_21, l_22, l_23, l_24, l_25, l_26, l_27, l_28, l_29, l_30, l_31, l_32, l_33, l_34, l_35, l_36, l_37, l_38, l_39, l_40, l_41, l_42, l_43, l_44, l_45, l_46, l_47, l_48, l_49, l_50, l_51, l_52, l_53, l_54, l_55, l_56, l_57, l_58, l_59, l_60, l_61, l_62, l_63, l_64, l_65, l_66, l_67, l_68, l_69, l_70, l_71, l_72, l_73, l_74, l_75, l_76, l_77, l_78, l_79, l_80, l_81, l_82, l_83, l_84, l_85, l_86, l_87, l_88, l_89, l_90, l_91, l_92, l_93, l_94, l_95, l_96, l_97, l_98, l_99, l_100, l_101, l_102, l_103, l_104, l_105, l_106, l_107, l_108, l_109, l_110, l_111, l_121, l_122, l_160, l_200, l_201, l_240, l_255, l_361, l_390, l_499, l_500, l_999, l_1000, l_10000, l_10099, l_12345, l_16383, l_20000, l_20033, l_20038, l_20124, l_100000, l_1000000, l_1103515245, ui_oi, ck_oi, sb, jc_e, bl_0, bl_1, le_oi, lt_oi, eq_oi, add_oi, mul_oi, div_oi, ir_oi, gi_e, gi_n, if_true, if_false, if_pos, if_neg, true_and, and_true, false_and, and_false, true_or, or_true, false_or, or_false, w0, w1, w2, w3, w4, w5]
theorem r_do (hG : GN b n N a sr o) : (6 ≤ tkn b n a → tkn b n a ≤ 8 → F_X12_doHere N = some (oi (tkn b n a - 6))) ∧ (¬ (6 ≤ tkn b n a ∧ tkn b n a ≤ 8) → F_X12_doHere N = some (- oi 1)) := by
  have w0 := r_isW (h := 10492070) hG (k := 6) (by omega) rfl
  have w1 := r_isW (h := 6477035) hG (k := 7) (by omega) rfl
  have w2 := r_isW (h := 55060) hG (k := 8) (by omega) rfl
  unfold F_X12_doHere
  refine ⟨fun h h2 => ?_, fun h => ?_⟩
  · rcases (by omega : tkn b n a = 6 ∨ tkn b n a = 7 ∨ tkn b n a = 8) with h | h | h <;>
    · rw [h] at w0 w1 w2 ⊢
      simp (disch := omega) only [l_0, l_1, l_2, l_3, l_4, l_5, l_6, l_7, l_8, l_9, l_10, l_11, l_12, l_13, l_14, l_15, l_16, l_17, l_18, l_19, l_20, l_21, l_22, l_23, l_24, l_25, l_26, l_27, l_28, l_29, l_30, l_31, l_32, l_33, l_34, l_35, l_36, l_37, l_38, l_39, l_40, l_41, l_42, l_43, l_44, l_45, l_46, l_47, l_48, l_49, l_50, l_51, l_52, l_53, l_54, l_55, l_56, l_57, l_58, l_59, l_60, l_61, l_62, l_63, l_64, l_65, l_66, l_67, l_68, l_69, l_70, l_71, l_72, l_73, l_74, l_75, l_76, l_77, l_78, l_79, l_80, l_81, l_82, l_83, l_84, l_85, l_86, l_87, l_88, l_89, l_90, l_91, l_92, l_93, l_94, l_95, l_96, l_97, l_98, l_99, l_100, l_101, l_102, l_103, l_104, l_105, l_106, l_107, l_108, l_109, l_110, l_111, l_121, l_122, l_160, l_200, l_201, l_240, l_255, l_361, l_390, l_499, l_500, l_999, l_1000, l_10000, l_10099, l_12345, l_16383, l_20000, l_20033, l_20038, l_20124, l_100000, l_1000000, l_1103515245, ui_oi, ck_oi, sb, jc_e, bl_0, bl_1, le_oi, lt_oi, eq_oi, add_oi, mul_oi, div_oi, ir_oi, gi_e, gi_n, if_true, if_false, if_pos, if_neg, true_and, and_true, false_and, and_false, true_or, or_true, false_or, or_false, w0, w1, w2]
  · rw [if_neg (show ¬ tkn b n a = 6 by omega)] at w0
    rw [if_neg (show ¬ tkn b n a = 7 by omega)] at w1
    rw [if_neg (show ¬ tkn b n a = 8 by omega)] at w2
    simp (disch := omega) only [l_0, l_1, l_2, l_3, l_4, l_5, l_6, l_7, l_8, l_9, l_10, l_11, l_12, l_13, l_14, l_15, l_16, l_17, l_18, l_19, l_20, l_21, l_22, l_23, l_24, l_25, l_26, l_27, l_28, l_29, l_30, l_31, l_32, l_33, l_34, l_35, l_36, l_37, l_38, l_39, l_40, l_41, l_42, l_43, l_44, l_45, l_46, l_47, l_48, l_49, l_50, l_51, l_52, l_53, l_54, l_55, l_56, l_57, l_58, l_59, l_60, l_61, l_62, l_63, l_64, l_65, l_66, l_67, l_68, l_69, l_70, l_71, l_72, l_73, l_74, l_75, l_76, l_77, l_78, l_79, l_80, l_81, l_82, l_83, l_84, l_85, l_86, l_87, l_88, l_89, l_90, l_91, l_92, l_93, l_94, l_95, l_96, l_97, l_98, l_99, l_100, l_101, l_102, l_103, l_104, l_105, l_106, l_107, l_108, l_109, l_110, l_111, l_121, l_122, l_160, l_200, l_201, l_240, l_255, l_361, l_390, l_499, l_500, l_999, l_1000, l_10000, l_10099, l_12345, l_16383, l_20000, l_20033, l_20038, l_20124, l_100000, l_1000000, l_1103515245, ui_oi, ck_oi, sb, jc_e, bl_0, bl_1, le_oi, lt_oi, eq_oi, add_oi, mul_oi, div_oi, ir_oi, gi_e, gi_n, if_true, if_false, if_pos, if_neg, true_and, and_true, false_and, and_false, true_or, or_true, false_or, or_false, w0, w1, w2]
theorem r_doB (hG : BN b n N s) : F_X12_doHere N = some (- oi 1) := by
  unfold F_X12_doHere
  simp (disch := omega) only [l_0, l_1, l_2, l_3, l_4, l_5, l_6, l_7, l_8, l_9, l_10, l_11, l_12, l_13, l_14, l_15, l_16, l_17, l_18, l_19, l_20, l_21, l_22, l_23, l_24, l_25, l_26, l_27, l_28, l_29, l_30, l_31, l_32, l_33, l_34, l_35, l_36, l_37, l_38, l_39, l_40, l_41, l_42, l_43, l_44, l_45, l_46, l_47, l_48, l_49, l_50, l_51, l_52, l_53, l_54, l_55, l_56, l_57, l_58, l_59, l_60, l_61, l_62, l_63, l_64, l_65, l_66, l_67, l_68, l_69, l_70, l_71, l_72, l_73, l_74, l_75, l_76, l_77, l_78, l_79, l_80, l_81, l_82, l_83, l_84, l_85, l_86, l_87, l_88, l_89, l_90, l_91, l_92, l_93, l_94, l_95, l_96, l_97, l_98, l_99, l_100, l_101, l_102, l_103, l_104, l_105, l_106, l_107, l_108, l_109, l_110, l_111, l_121, l_122, l_160, l_200, l_201, l_240, l_255, l_361, l_390, l_499, l_500, l_999, l_1000, l_10000, l_10099, l_12345, l_16383, l_20000, l_20033, l_20038, l_20124, l_100000, l_1000000, l_1103515245, ui_oi, ck_oi, sb, jc_e, bl_0, bl_1, le_oi, lt_oi, eq_oi, add_oi, mul_oi, div_oi, ir_oi, gi_e, gi_n, if_true, if_false, if_pos, if_neg, true_and, and_true, false_and, and_false, true_or, or_true, false_or, or_false, r_isWB hG]
/-- the class's end of a rule -/
def tlC (M : Mm) : Option Mm := (F_X6_expect M (oi 6) (oi 8)).bind fun r109 => (F_X6_expect r109.2 (oi 20) (oi 20)).bind fun r118 => (if (gi r118.2 7 10) < oi 0 then ck (gi r118.2 7 0) 8 (ck (gi (si (si r118.2 9 (ui (gi r118.2 7 0)) (r109.1 - oi 6)) 7 0 ((gi (si r118.2 9 (ui (gi r118.2 7 0)) (r109.1 - oi 6)) 7 0) + oi 1)) 7 0) 9 (some (si (si (si r118.2 9 (ui (gi r118.2 7 0)) (r109.1 - oi 6)) 7 0 ((gi (si r118.2 9 (ui (gi r118.2 7 0)) (r109.1 - oi 6)) 7 0) + oi 1)) 10 (ui (gi (si (si r118.2 9 (ui (gi r118.2 7 0)) (r109.1 - oi 6)) 7 0 ((gi (si r118.2 9 (ui (gi r118.2 7 0)) (r109.1 - oi 6)) 7 0) + oi 1)) 7 0)) (gi (si (si r118.2 9 (ui (gi r118.2 7 0)) (r109.1 - oi 6)) 7 0 ((gi (si r118.2 9 (ui (gi r118.2 7 0)) (r109.1 - oi 6)) 7 0) + oi 1)) 7 5)))) else some r118.2)
theorem c_tail (h : GM b n K M a sc) (h0 : gi M 7 0 = oi c) (hc : c < 8) : (6 ≤ tkn b n a ∧ tkn b n a ≤ 8 ∧ tkn b n (a + 1) = 20 ∧ ∃ M', tlC M = some M' ∧ GM b n K M' (a + 2) sc ∧ gi M' 7 0 = oi (c + 1) ∧ gi M' 9 c = oi (tkn b n a - 6) ∧ gi M' 10 (c + 1) = oi sc ∧ (∀ i, i ≠ c → gi M' 9 i = gi M 9 i) ∧ (∀ i, i ≠ c + 1 → gi M' 10 i = gi M 10 i) ∧ (∀ i, gi M' 8 i = gi M 8 i) ∧ (∀ i, gi M' 11 i = gi M 11 i) ∧ FM2 M M') ∨ (6 ≤ tkn b n a ∧ tkn b n a ≤ 8 ∧ tkn b n (a + 1) ≠ 20 ∧ ∃ M', tlC M = some M' ∧ BM b n K M' (zPl b n (a + 1)) ∧ FM2 M M') ∨ (¬ (6 ≤ tkn b n a ∧ tkn b n a ≤ 8) ∧ ∃ M', tlC M = some M' ∧ BM b n K M' (zPl b n a) ∧ FM2 M M') := by
  have hneg : (- oi 1 : Int32) < oi 0 := by decide
  rcases c_exp (lo := 6) (hi := 8) h (by omega) (by omega) (Or.inl (by omega)) with ⟨e1, e2, e3, e4⟩ | ⟨e1, e2, e3⟩
  · have hnk := e4.1.2.1
    have hKn := e4.1.1
    rcases c_exp (lo := 20) (hi := 20) e4 (by omega) (by omega) (Or.inl (by omega)) with ⟨f1, f2, f3, f4⟩ | ⟨f1, f2, f3⟩
    · obtain ⟨hT, hK, hs, h9, h10, h5⟩ := id f4
      obtain ⟨M2, hM2⟩ : ∃ M2, M2 = si (si M 7 9 (oi (a + 1))) 7 9 (oi (a + 1 + 1)) := ⟨_, rfl⟩
      rw [← hM2] at f3 f4 hT h9 h10 h5
      have g0 : gi M2 7 0 = oi c := by rw [hM2, gi_n (by omega), gi_n (by omega)]; exact h0
      have hF : FM2 M (si (si (si M2 9 c (oi (tkn b n a - 6))) 7 0 (oi (c + 1))) 10 (c + 1) (oi sc)) := by
        rw [hM2]
        exact (((((FM2.si (by omega)).tr (FM2.si (by omega))).tr (FM2.si (by omega))).tr (FM2.si (by omega))).tr (FM2.si (by omega)))
      refine Or.inl ⟨e1, e2, by omega, _, ?_, ⟨h.1.f2 hF, hK, hs, ?_, ?_, ?_⟩, ?_, ?_, gi_e, fun i hi => ?_, fun i hi => ?_, fun i => ?_, fun i => ?_, hF⟩
      · unfold tlC
        simp only [e3, sb, f3]
        simp (disch := omega) only [l_0, l_1, l_2, l_3, l_4, l_5, l_6, l_7, l_8, l_9, l_10, l_11, l_12, l_13, l_14, l_15, l_16, l_17, l_18, l_19, l_20, l_21, l_22, l_23, l_24, l_25, l_26, l_27, l_28, l_29, l_30, l_31, l_32, l_33, l_34, l_35, l_36, l_37, l_38, l_39, l_40, l_41, l_42, l_43, l_44, l_45, l_46, l_47, l_48, l_49, l_50, l_51, l_52, l_53, l_54, l_55, l_56, l_57, l_58, l_59, l_60, l_61, l_62, l_63, l_64, l_65, l_66, l_67, l_68, l_69, l_70, l_71, l_72, l_73, l_74, l_75, l_76, l_77, l_78, l_79, l_80, l_81, l_82, l_83, l_84, l_85, l_86, l_87, l_88, l_89, l_90, l_91, l_92, l_93, l_94, l_95, l_96, l_97, l_98, l_99, l_100, l_101, l_102, l_103, l_104, l_105, l_106, l_107, l_108, l_109, l_110, l_111, l_121, l_122, l_160, l_200, l_201, l_240, l_255, l_361, l_390, l_499, l_500, l_999, l_1000, l_10000, l_10099, l_12345, l_16383, l_20000, l_20033, l_20038, l_20124, l_100000, l_1000000, l_1103515245, ui_oi, ck_oi, sb, jc_e, bl_0, bl_1, le_oi, lt_oi, eq_oi, add_oi, mul_oi, div_oi, ir_oi, gi_e, gi_n, if_true, if_false, if_pos, if_neg, true_and, and_true, false_and, and_false, true_or, or_true, false_or, or_false, h10, hneg, g0, sub_oi, h5]
      · simp (disch := omega) only [gi_n]
        exact h9
      · simp (disch := omega) only [gi_n]
        exact h10
      · simp (disch := omega) only [gi_n]
        exact h5
      · simp (disch := omega) only [gi_n, gi_e]
      · simp (disch := omega) only [gi_n, gi_e]
      · rw [hM2]
        simp (disch := omega) only [gi_n]
      · rw [hM2]
        simp (disch := omega) only [gi_n]
      · rw [hM2]
        simp (disch := omega) only [gi_n]
      · rw [hM2]
        simp (disch := omega) only [gi_n]
    · have hb := f3.2.2.1
      have hsn := f3.2.1
      refine Or.inr (Or.inl ⟨e1, e2, by omega, _, ?_, f3, (FM2.si (by omega)).tr (FM2.si (by omega))⟩)
      unfold tlC
      simp only [e3, sb, f2]
      rw [hb, if_neg (by rw [lt_oi (by omega) (by omega)]; omega)]
  · have hb := e3.2.2.1
    have hsn := e3.2.1
    have hnk := h.1.2.1
    refine Or.inr (Or.inr ⟨e1, _, ?_, e3, FM2.si (by omega)⟩)
    unfold tlC
    simp only [e2, sb, c_expB e3]
    rw [hb, if_neg (by rw [lt_oi (by omega) (by omega)]; omega)]
theorem c_tailB (h : BM b n K M s) : tlC M = some M := by
  have hb := h.2.2.1
  have hsn := h.2.1
  have hnk := h.1.2.1
  unfold tlC
  simp only [c_expB h, sb]
  rw [hb, if_neg (by rw [lt_oi (by omega) (by omega)]; omega)]
end PF

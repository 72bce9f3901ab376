/-! THE TEXT OF RULES: the reference reads on -/
section NX
variable {M N M' N' N1 : Mm} {b w : Nat → Nat} {n p k len s : Nat} {q : Nat → Bool}
theorem gi_sl {x : Int64} {c j : Nat} : gi (sl M x) c j = gi M c j := rfl
theorem gl_sl {x : Int64} : gl (sl M x) = x := rfl
theorem gl_si {c j : Nat} {v : Int32} : gl (si M c j v) = gl M := rfl
theorem Oc.sl {S : List Nat} {x : Int64} : Oc S M (sl M x) := fun _ _ => rfl
/-- the frame of the reader: all but 9, 10, 11 of cell 94 -/
def FN (N N' : Mm) : Prop := Oc [94] N N' ∧ ∀ j, j ≠ 9 → j ≠ 10 → j ≠ 11 → gi N' 94 j = gi N 94 j
theorem FN.rf : FN N N := ⟨Oc.rf, fun _ _ _ _ => rfl⟩
theorem FN.tr (h1 : FN N N1) (h2 : FN N1 N') : FN N N' := ⟨h1.1.tr h2.1 (fun c hc => ⟨hc, hc⟩), fun j a b c => (h2.2 j a b c).trans (h1.2 j a b c)⟩
theorem FN.si {j : Nat} {v : Int32} (h : j = 9 ∨ j = 10 ∨ j = 11) : FN N (si N 94 j v) := ⟨Oc.si (by simp), fun i a b c => gi_n (by omega)⟩
theorem FN.sl {x : Int64} : FN N (sl N x) := ⟨Oc.sl, fun _ _ _ _ => rfl⟩
theorem r_isRow (hT : TY N n b) (hn : n ≤ 200) (h8 : gi N 94 8 = oi n) {p lo hi : Nat} (h9 : gi N 94 9 = oi p) (hp : p ≤ n) (hlo : lo < 256) (hhi : hi < 256) : F_X12_isRow N (oi lo) (oi hi) = some (oi (if p < n ∧ lo ≤ b p ∧ b p ≤ hi then 1 else 0)) := by
  unfold F_X12_isRow
  by_cases hpn : p < n
  · obtain ⟨t1, t2⟩ := hT p hpn
    have hw : F_X11_within (oi (b p)) (oi lo) (oi hi) = some (oi (if lo ≤ b p ∧ b p ≤ hi then 1 else 0)) := by
      unfold F_X11_within
      by_cases h1 : lo ≤ b p
      · by_cases h2 : b p ≤ hi <;> simp (disch := omega) only [l_0, l_1, l_2, l_3, l_4, l_5, l_6, l_7, l_8, l_9, l_10, l_11, l_12, l_13, l_14, l_15, l_16, l_17, l_18, l_19, l_20, l_21, l_22, l_23, l_24, l_25, l_26, l_27, l_28, l_29, l_30, l_31, l_32, l_33, l_34, l_35, l_36, l_37, l_38, l_39, l_40, l_41, l_42, l_43, l_44, l_45, l_46, l_47, l_48, l_49, l_50, l_51, l_52, l_53, l_54, l_55, l_56, l_57, l_58, l_59, l_60, l_61, l_62, l_63, l_64, l_65, l_66, l_67, l_68, l_69, l_70, l_71, l_72, l_73, l_74, l_75, l_76, l_77, l_78, l_79, l_80, l_81, l_82, l_83, l_84, l_85, l_86, l_87, l_88, l_89, l_90, l_91, l_92, l_93, l_94, l_95, l_96, l_97, l_98, l_99, l_100, l_101, l_102, l_103, l_104, l_105, l_106, l_107, l_108, l_109, l_110, l_111, l_121, l_122, l_160, l_200, l_201, l_240, l_255, l_361, l_390, l_499, l_500, l_999, l_1000, l_10000, l_10099, l_12345, l_16383, l_20000, l_20033, l_20038, l_20124, l_100000, l_1000000, l_1103515245, ui_oi, ck_oi, sb, jc_e, bl_0, bl_1, le_oi, lt_oi, eq_oi, add_oi, mul_oi, div_oi, ir_oi, gi_e, gi_n, if_true, if_false, if_pos, if_neg, true_and, and_true, false_and, and_false, true_or, or_true, false_or, or_false, ]
      · simp (disch := omega) only [l_0, l_1, l_2, l_3, l_4, l_5, l_6, l_7, l_8, l_9, l_10, l_11, l_12, l_13, l_14, l_15, l_16, l_17, l_18, l_19, l_20, l_21, l_22, l_23, l_24, l_25, l_26, l_27, l_28, l_29, l_30, l_31, l_32, l_33, l_34, l_35, l_36, l_37, l_38, l_39, l_40, l_41, l_42, l_43, l_44, l_45, l_46, l_47, l_48, l_49, l_50, l_51, l_52, l_53, l_54, l_55, l_56, l_57, l_58, l_59, l_60, l_61, l_62, l_63, l_64, l_65, l_66, l_67, l_68, l_69, l_70, l_71, l_72, l_73, l_74, l_75, l_76, l_77, l_78, l_79, l_80, l_81, l_82, l_83, l_84, l_85, l_86, l_87, l_88, l_89, l_90, l_91, l_92, l_93, l_94, l_95, l_96, l_97, l_98, l_99, l_100, l_101, l_102, l_103, l_104, l_105, l_106, l_107, l_108, l_109, l_110, l_111, l_121, l_122, l_160, l_200, l_201, l_240, l_255, l_361, l_390, l_499, l_500, l_999, l_1000, l_10000, l_10099, l_12345, l_16383, l_20000, l_20033, l_20038, l_20124, l_100000, l_1000000, l_1103515245, ui_oi, ck_oi, sb, jc_e, bl_0, bl_1, le_oi, lt_oi, eq_oi, add_oi, mul_oi, div_oi, ir_oi, gi_e, gi_n, if_true, if_false, if_pos, if_neg, true_and, and_true, false_and, and_false, true_or, or_true, false_or, or_false, ]
    by_cases h : lo ≤ b p ∧ b p ≤ hi
    · rw [if_pos h] at hw
      rw [if_pos (show p < n ∧ lo ≤ b p ∧ b p ≤ hi from ⟨hpn, h⟩)]
      simp (disch := omega) only [l_0, l_1, l_2, l_3, l_4, l_5, l_6, l_7, l_8, l_9, l_10, l_11, l_12, l_13, l_14, l_15, l_16, l_17, l_18, l_19, l_20, l_21, l_22, l_23, l_24, l_25, l_26, l_27, l_28, l_29, l_30, l_31, l_32, l_33, l_34, l_35, l_36, l_37, l_38, l_39, l_40, l_41, l_42, l_43, l_44, l_45, l_46, l_47, l_48, l_49, l_50, l_51, l_52, l_53, l_54, l_55, l_56, l_57, l_58, l_59, l_60, l_61, l_62, l_63, l_64, l_65, l_66, l_67, l_68, l_69, l_70, l_71, l_72, l_73, l_74, l_75, l_76, l_77, l_78, l_79, l_80, l_81, l_82, l_83, l_84, l_85, l_86, l_87, l_88, l_89, l_90, l_91, l_92, l_93, l_94, l_95, l_96, l_97, l_98, l_99, l_100, l_101, l_102, l_103, l_104, l_105, l_106, l_107, l_108, l_109, l_110, l_111, l_121, l_122, l_160, l_200, l_201, l_240, l_255, l_361, l_390, l_499, l_500, l_999, l_1000, l_10000, l_10099, l_12345, l_16383, l_20000, l_20033, l_20038, l_20124, l_100000, l_1000000, l_1103515245, ui_oi, ck_oi, sb, jc_e, bl_0, bl_1, le_oi, lt_oi, eq_oi, add_oi, mul_oi, div_oi, ir_oi, gi_e, gi_n, if_true, if_false, if_pos, if_neg, true_and, and_true, false_and, and_false, true_or, or_true, false_or, or_false, h8, h9, t2, in_within, hw]
    · rw [if_neg h] at hw
      rw [if_neg (show ¬ (p < n ∧ lo ≤ b p ∧ b p ≤ hi) from fun q => h q.2)]
      simp (disch := omega) only [l_0, l_1, l_2, l_3, l_4, l_5, l_6, l_7, l_8, l_9, l_10, l_11, l_12, l_13, l_14, l_15, l_16, l_17, l_18, l_19, l_20, l_21, l_22, l_23, l_24, l_25, l_26, l_27, l_28, l_29, l_30, l_31, l_32, l_33, l_34, l_35, l_36, l_37, l_38, l_39, l_40, l_41, l_42, l_43, l_44, l_45, l_46, l_47, l_48, l_49, l_50, l_51, l_52, l_53, l_54, l_55, l_56, l_57, l_58, l_59, l_60, l_61, l_62, l_63, l_64, l_65, l_66, l_67, l_68, l_69, l_70, l_71, l_72, l_73, l_74, l_75, l_76, l_77, l_78, l_79, l_80, l_81, l_82, l_83, l_84, l_85, l_86, l_87, l_88, l_89, l_90, l_91, l_92, l_93, l_94, l_95, l_96, l_97, l_98, l_99, l_100, l_101, l_102, l_103, l_104, l_105, l_106, l_107, l_108, l_109, l_110, l_111, l_121, l_122, l_160, l_200, l_201, l_240, l_255, l_361, l_390, l_499, l_500, l_999, l_1000, l_10000, l_10099, l_12345, l_16383, l_20000, l_20033, l_20038, l_20124, l_100000, l_1000000, l_1103515245, ui_oi, ck_oi, sb, jc_e, bl_0, bl_1, le_oi, lt_oi, eq_oi, add_oi, mul_oi, div_oi, ir_oi, gi_e, gi_n, if_true, if_false, if_pos, if_neg, true_and, and_true, false_and, and_false, true_or, or_true, false_or, or_false, h8, h9, t2, in_within, hw]
  · rw [if_neg (show ¬ (p < n ∧ lo ≤ b p ∧ b p ≤ hi) from fun q => hpn q.1)]
    simp (disch := omega) only [l_0, l_1, l_2, l_3, l_4, l_5, l_6, l_7, l_8, l_9, l_10, l_11, l_12, l_13, l_14, l_15, l_16, l_17, l_18, l_19, l_20, l_21, l_22, l_23, l_24, l_25, l_26, l_27, l_28, l_29, l_30, l_31, l_32, l_33, l_34, l_35, l_36, l_37, l_38, l_39, l_40, l_41, l_42, l_43, l_44, l_45, l_46, l_47, l_48, l_49, l_50, l_51, l_52, l_53, l_54, l_55, l_56, l_57, l_58, l_59, l_60, l_61, l_62, l_63, l_64, l_65, l_66, l_67, l_68, l_69, l_70, l_71, l_72, l_73, l_74, l_75, l_76, l_77, l_78, l_79, l_80, l_81, l_82, l_83, l_84, l_85, l_86, l_87, l_88, l_89, l_90, l_91, l_92, l_93, l_94, l_95, l_96, l_97, l_98, l_99, l_100, l_101, l_102, l_103, l_104, l_105, l_106, l_107, l_108, l_109, l_110, l_111, l_121, l_122, l_160, l_200, l_201, l_240, l_255, l_361, l_390, l_499, l_500, l_999, l_1000, l_10000, l_10099, l_12345, l_16383, l_20000, l_20033, l_20038, l_20124, l_100000, l_1000000, l_1103515245, ui_oi, ck_oi, sb, jc_e, bl_0, bl_1, le_oi, lt_oi, eq_oi, add_oi, mul_oi, div_oi, ir_oi, gi_e, gi_n, if_true, if_false, if_pos, if_neg, true_and, and_true, false_and, and_false, true_or, or_true, false_or, or_false, h8, h9]
def zVw (b : Nat → Nat) (s l : Nat) : Int64 := if l ≤ 7 then Int64.ofNat (zHs b s l) else -1
def zVn (b : Nat → Nat) (s l : Nat) : Int64 := if l ≤ 4 then Int64.ofNat (zNm b s l) else Int64.ofNat 100000
theorem a64 {a c : Nat} : Int64.ofNat a + Int64.ofNat c = Int64.ofNat (a + c) := (Int64.ofNat_add a c).symm
theorem m64 {a c : Nat} : Int64.ofNat a * Int64.ofNat c = Int64.ofNat (a * c) := (Int64.ofNat_mul a c).symm
theorem s64 {a c : Nat} (h : c ≤ a) : Int64.ofNat a - Int64.ofNat c = Int64.ofNat (a - c) := (Int64.ofNat_sub a c h).symm
theorem r_letters (hn : n ≤ 200) : ∀ m l fu (N : Mm), s + l + m = n → m < fu → TY N n b → gi N 94 8 = oi n → gi N 94 9 = oi (s + l) → gi N 94 10 = oi s → gl N = zVw b s l → (∀ i, i < l → isL (b (s + i)) = true) → ∃ N', F_X12_next_L86 fu N = some N' ∧ gi N' 94 9 = oi (zRn (fun i => isL (b i)) m (s + l)) ∧ gl N' = zVw b s (zRn (fun i => isL (b i)) m (s + l) - s) ∧ FN N N' ∧ gi N' 94 10 = oi s ∧ gi N' 94 11 = gi N 94 11 := by
  intro m
  induction m with
  | zero =>
    intro l fu N hs hf hT h8 h9 h10 hg hL
    obtain ⟨fu', rfl⟩ : ∃ q, fu = q + 1 := ⟨fu - 1, by omega⟩
    have hr := r_isRow (lo := 97) (hi := 122) hT hn h8 h9 (by omega) (by omega) (by omega)
    rw [if_neg (by omega)] at hr
    have hsub : oi (s + l) - oi s = oi l := by rw [sub_oi (by omega), Nat.add_sub_cancel_left]
    have ez : zRn (fun i => isL (b i)) 0 (s + l) = s + l := rfl
    rw [ez, Nat.add_sub_cancel_left]
    by_cases h7 : l ≤ 7
    · refine ⟨sl N (gl N), ?_, h9, hg, FN.sl, h10, rfl⟩
      rw [F_X12_next_L86]
      simp (disch := omega) only [l_0, l_1, l_2, l_3, l_4, l_5, l_6, l_7, l_8, l_9, l_10, l_11, l_12, l_13, l_14, l_15, l_16, l_17, l_18, l_19, l_20, l_21, l_22, l_23, l_24, l_25, l_26, l_27, l_28, l_29, l_30, l_31, l_32, l_33, l_34, l_35, l_36, l_37, l_38, l_39, l_40, l_41, l_42, l_43, l_44, l_45, l_46, l_47, l_48, l_49, l_50, l_51, l_52, l_53, l_54, l_55, l_56, l_57, l_58, l_59, l_60, l_61, l_62, l_63, l_64, l_65, l_66, l_67, l_68, l_69, l_70, l_71, l_72, l_73, l_74, l_75, l_76, l_77, l_78, l_79, l_80, l_81, l_82, l_83, l_84, l_85, l_86, l_87, l_88, l_89, l_90, l_91, l_92, l_93, l_94, l_95, l_96, l_97, l_98, l_99, l_100, l_101, l_102, l_103, l_104, l_105, l_106, l_107, l_108, l_109, l_110, l_111, l_121, l_122, l_160, l_200, l_201, l_240, l_255, l_361, l_390, l_499, l_500, l_999, l_1000, l_10000, l_10099, l_12345, l_16383, l_20000, l_20033, l_20038, l_20124, l_100000, l_1000000, l_1103515245, ui_oi, ck_oi, sb, jc_e, bl_0, bl_1, le_oi, lt_oi, eq_oi, add_oi, mul_oi, div_oi, ir_oi, gi_e, gi_n, if_true, if_false, if_pos, if_neg, true_and, and_true, false_and, and_false, true_or, or_true, false_or, or_false, hr, h9, h10, hsub]
    · have e1 : zVw b s l = -1 := if_neg h7
      refine ⟨sl N (-1), ?_, h9, by rw [gl_sl, e1], FN.sl, h10, rfl⟩
      rw [F_X12_next_L86]
      simp (disch := omega) only [l_0, l_1, l_2, l_3, l_4, l_5, l_6, l_7, l_8, l_9, l_10, l_11, l_12, l_13, l_14, l_15, l_16, l_17, l_18, l_19, l_20, l_21, l_22, l_23, l_24, l_25, l_26, l_27, l_28, l_29, l_30, l_31, l_32, l_33, l_34, l_35, l_36, l_37, l_38, l_39, l_40, l_41, l_42, l_43, l_44, l_45, l_46, l_47, l_48, l_49, l_50, l_51, l_52, l_53, l_54, l_55, l_56, l_57, l_58, l_59, l_60, l_61, l_62, l_63, l_64, l_65, l_66, l_67, l_68, l_69, l_70, l_71, l_72, l_73, l_74, l_75, l_76, l_77, l_78, l_79, l_80, l_81, l_82, l_83, l_84, l_85, l_86, l_87, l_88, l_89, l_90, l_91, l_92, l_93, l_94, l_95, l_96, l_97, l_98, l_99, l_100, l_101, l_102, l_103, l_104, l_105, l_106, l_107, l_108, l_109, l_110, l_111, l_121, l_122, l_160, l_200, l_201, l_240, l_255, l_361, l_390, l_499, l_500, l_999, l_1000, l_10000, l_10099, l_12345, l_16383, l_20000, l_20033, l_20038, l_20124, l_100000, l_1000000, l_1103515245, ui_oi, ck_oi, sb, jc_e, bl_0, bl_1, le_oi, lt_oi, eq_oi, add_oi, mul_oi, div_oi, ir_oi, gi_e, gi_n, if_true, if_false, if_pos, if_neg, true_and, and_true, false_and, and_false, true_or, or_true, false_or, or_false, hr, h9, h10, hsub]
  | succ m ih =>
    intro l fu N hs hf hT h8 h9 h10 hg hL
    obtain ⟨fu', rfl⟩ : ∃ q, fu = q + 1 := ⟨fu - 1, by omega⟩
    have hr := r_isRow (lo := 97) (hi := 122) hT hn h8 h9 (by omega) (by omega) (by omega)
    have hsub : oi (s + l) - oi s = oi l := by rw [sub_oi (by omega), Nat.add_sub_cancel_left]
    obtain ⟨t1, t2⟩ := hT (s + l) (by omega)
    rw [zRn]
    by_cases hl : isL (b (s + l)) = true
    · have hb := of_decide_eq_true hl
      rw [if_pos ⟨by omega, hb⟩] at hr
      rw [if_pos hl]
      have hL' : ∀ i, i < l + 1 → isL (b (s + i)) = true := fun i hi => by
        by_cases hil : i = l
        · rw [hil]
          exact hl
        · exact hL i (by omega)
      obtain ⟨v, hv⟩ : ∃ v, v = zVw b s (l + 1) := ⟨_, rfl⟩
      obtain ⟨N1, hN1⟩ : ∃ N1, N1 = si (sl N v) 94 9 (oi (s + (l + 1))) := ⟨_, rfl⟩
      have hF : FN N N1 := by
        rw [hN1]
        exact FN.sl.tr (FN.si (by omega))
      obtain ⟨N', x1, x2, x3, x4, x5, x6⟩ := ih (l + 1) fu' N1 (by omega) (by omega) (hT.oc hF.1 (by decide)) ((hF.2 8 (by omega) (by omega) (by omega)).trans h8) (by rw [hN1, gi_e]) (by rw [hN1, gi_n (by omega), gi_sl]; exact h10) (by rw [hN1, gl_si, gl_sl, hv]) hL'
      refine ⟨N', ?_, x2, x3, hF.tr x4, x5, x6.trans (by rw [hN1, gi_n (by omega), gi_sl])⟩
      rw [F_X12_next_L86]
      by_cases h7 : l < 7
      · have e1 : zVw b s l = Int64.ofNat (zHs b s l) := if_pos (by omega)
        have e2 : v = Int64.ofNat (zHs b s (l + 1)) := by rw [hv]; exact if_pos (by omega)
        rw [e1] at hg
        have ev : (27 : Int64) * Int64.ofNat (zHs b s l) + Int32.toInt64 (oi (b (s + l))) - 97 + 1 = v := by
          rw [e2, o64 (by omega), show (27 : Int64) = Int64.ofNat 27 from rfl, show (97 : Int64) = Int64.ofNat 97 from rfl, show (1 : Int64) = Int64.ofNat 1 from rfl, m64, a64, s64 (by omega), a64, zHs]
          congr 1
          omega
        simp (disch := omega) only [l_0, l_1, l_2, l_3, l_4, l_5, l_6, l_7, l_8, l_9, l_10, l_11, l_12, l_13, l_14, l_15, l_16, l_17, l_18, l_19, l_20, l_21, l_22, l_23, l_24, l_25, l_26, l_27, l_28, l_29, l_30, l_31, l_32, l_33, l_34, l_35, l_36, l_37, l_38, l_39, l_40, l_41, l_42, l_43, l_44, l_45, l_46, l_47, l_48, l_49, l_50, l_51, l_52, l_53, l_54, l_55, l_56, l_57, l_58, l_59, l_60, l_61, l_62, l_63, l_64, l_65, l_66, l_67, l_68, l_69, l_70, l_71, l_72, l_73, l_74, l_75, l_76, l_77, l_78, l_79, l_80, l_81, l_82, l_83, l_84, l_85, l_86, l_87, l_88, l_89, l_90, l_91, l_92, l_93, l_94, l_95, l_96, l_97, l_98, l_99, l_100, l_101, l_102, l_103, l_104, l_105, l_106, l_107, l_108, l_109, l_110, l_111, l_121, l_122, l_160, l_200, l_201, l_240, l_255, l_361, l_390, l_499, l_500, l_999, l_1000, l_10000, l_10099, l_12345, l_16383, l_20000, l_20033, l_20038, l_20124, l_100000, l_1000000, l_1103515245, ui_oi, ck_oi, sb, jc_e, bl_0, bl_1, le_oi, lt_oi, eq_oi, add_oi, mul_oi, div_oi, ir_oi, gi_e, gi_n, if_true, if_false, if_pos, if_neg, true_and, and_true, false_and, and_false, true_or, or_true, false_or, or_false, hr, h9, h10, hsub, t2, hg, ev, gi_sl]
        rw [show s + l + 1 = s + (l + 1) by omega, ← hN1, x1]
      · have e2 : v = -1 := by rw [hv]; exact if_neg (by omega)
        simp (disch := omega) only [l_0, l_1, l_2, l_3, l_4, l_5, l_6, l_7, l_8, l_9, l_10, l_11, l_12, l_13, l_14, l_15, l_16, l_17, l_18, l_19, l_20, l_21, l_22, l_23, l_24, l_25, l_26, l_27, l_28, l_29, l_30, l_31, l_32, l_33, l_34, l_35, l_36, l_37, l_38, l_39, l_40, l_41, l_42, l_43, l_44, l_45, l_46, l_47, l_48, l_49, l_50, l_51, l_52, l_53, l_54, l_55, l_56, l_57, l_58, l_59, l_60, l_61, l_62, l_63, l_64, l_65, l_66, l_67, l_68, l_69, l_70, l_71, l_72, l_73, l_74, l_75, l_76, l_77, l_78, l_79, l_80, l_81, l_82, l_83, l_84, l_85, l_86, l_87, l_88, l_89, l_90, l_91, l_92, l_93, l_94, l_95, l_96, l_97, l_98, l_99, l_100, l_101, l_102, l_103, l_104, l_105, l_106, l_107, l_108, l_109, l_110, l_111, l_121, l_122, l_160, l_200, l_201, l_240, l_255, l_361, l_390, l_499, l_500, l_999, l_1000, l_10000, l_10099, l_12345, l_16383, l_20000, l_20033, l_20038, l_20124, l_100000, l_1000000, l_1103515245, ui_oi, ck_oi, sb, jc_e, bl_0, bl_1, le_oi, lt_oi, eq_oi, add_oi, mul_oi, div_oi, ir_oi, gi_e, gi_n, if_true, if_false, if_pos, if_neg, true_and, and_true, false_and, and_false, true_or, or_true, false_or, or_false, hr, h9, h10, hsub, gi_sl]
        rw [show s + l + 1 = s + (l + 1) by omega]
        rw [e2] at hN1
        rw [← hN1, x1]
    · rw [if_neg (fun q => hl (decide_eq_true q.2))] at hr
      rw [if_neg hl, Nat.add_sub_cancel_left]
      by_cases h7 : l ≤ 7
      · refine ⟨sl N (gl N), ?_, h9, hg, FN.sl, h10, rfl⟩
        rw [F_X12_next_L86]
        simp (disch := omega) only [l_0, l_1, l_2, l_3, l_4, l_5, l_6, l_7, l_8, l_9, l_10, l_11, l_12, l_13, l_14, l_15, l_16, l_17, l_18, l_19, l_20, l_21, l_22, l_23, l_24, l_25, l_26, l_27, l_28, l_29, l_30, l_31, l_32, l_33, l_34, l_35, l_36, l_37, l_38, l_39, l_40, l_41, l_42, l_43, l_44, l_45, l_46, l_47, l_48, l_49, l_50, l_51, l_52, l_53, l_54, l_55, l_56, l_57, l_58, l_59, l_60, l_61, l_62, l_63, l_64, l_65, l_66, l_67, l_68, l_69, l_70, l_71, l_72, l_73, l_74, l_75, l_76, l_77, l_78, l_79, l_80, l_81, l_82, l_83, l_84, l_85, l_86, l_87, l_88, l_89, l_90, l_91, l_92, l_93, l_94, l_95, l_96, l_97, l_98, l_99, l_100, l_101, l_102, l_103, l_104, l_105, l_106, l_107, l_108, l_109, l_110, l_111, l_121, l_122, l_160, l_200, l_201, l_240, l_255, l_361, l_390, l_499, l_500, l_999, l_1000, l_10000, l_10099, l_12345, l_16383, l_20000, l_20033, l_20038, l_20124, l_100000, l_1000000, l_1103515245, ui_oi, ck_oi, sb, jc_e, bl_0, bl_1, le_oi, lt_oi, eq_oi, add_oi, mul_oi, div_oi, ir_oi, gi_e, gi_n, if_true, if_false, if_pos, if_neg, true_and, and_true, false_and, and_false, true_or, or_true, false_or, or_false, hr, h9, h10, hsub]
      · have e1 : zVw b s l = -1 := if_neg h7
        refine ⟨sl N (-1), ?_, h9, by rw [gl_sl, e1], FN.sl, h10, rfl⟩
        rw [F_X12_next_L86]
        simp (disch := omega) only [l_0, l_1, l_2, l_3, l_4, l_5, l_6, l_7, l_8, l_9, l_10, l_11, l_12, l_13, l_14, l_15, l_16, l_17, l_18, l_19, l_20, l_21, l_22, l_23, l_24, l_25, l_26, l_27, l_28, l_29, l_30, l_31, l_32, l_33, l_34, l_35, l_36, l_37, l_38, l_39, l_40, l_41, l_42, l_43, l_44, l_45, l_46, l_47, l_48, l_49, l_50, l_51, l_52, l_53, l_54, l_55, l_56, l_57, l_58, l_59, l_60, l_61, l_62, l_63, l_64, l_65, l_66, l_67, l_68, l_69, l_70, l_71, l_72, l_73, l_74, l_75, l_76, l_77, l_78, l_79, l_80, l_81, l_82, l_83, l_84, l_85, l_86, l_87, l_88, l_89, l_90, l_91, l_92, l_93, l_94, l_95, l_96, l_97, l_98, l_99, l_100, l_101, l_102, l_103, l_104, l_105, l_106, l_107, l_108, l_109, l_110, l_111, l_121, l_122, l_160, l_200, l_201, l_240, l_255, l_361, l_390, l_499, l_500, l_999, l_1000, l_10000, l_10099, l_12345, l_16383, l_20000, l_20033, l_20038, l_20124, l_100000, l_1000000, l_1103515245, ui_oi, ck_oi, sb, jc_e, bl_0, bl_1, le_oi, lt_oi, eq_oi, add_oi, mul_oi, div_oi, ir_oi, gi_e, gi_n, if_true, if_false, if_pos, if_neg, true_and, and_true, false_and, and_false, true_or, or_true, false_or, or_false, hr, h9, h10, hsub]
theorem r_digits (hn : n ≤ 200) : ∀ m l fu (N : Mm), s + l + m = n → m < fu → TY N n b → gi N 94 8 = oi n → gi N 94 9 = oi (s + l) → gi N 94 10 = oi s → gl N = zVn b s l → (∀ i, i < l → isD (b (s + i)) = true) → ∃ N', F_X12_next_L206 fu N = some N' ∧ gi N' 94 9 = oi (zRn (fun i => isD (b i)) m (s + l)) ∧ gl N' = zVn b s (zRn (fun i => isD (b i)) m (s + l) - s) ∧ FN N N' ∧ gi N' 94 10 = oi s ∧ gi N' 94 11 = gi N 94 11 := by
  have e100 : (100000 : Int64) = Int64.ofNat 100000 := rfl
  intro m
  induction m with
  | zero =>
    intro l fu N hs hf hT h8 h9 h10 hg hL
    obtain ⟨fu', rfl⟩ : ∃ q, fu = q + 1 := ⟨fu - 1, by omega⟩
    have hr := r_isRow (lo := 48) (hi := 57) hT hn h8 h9 (by omega) (by omega) (by omega)
    rw [if_neg (by omega)] at hr
    have hsub : oi (s + l) - oi s = oi l := by rw [sub_oi (by omega), Nat.add_sub_cancel_left]
    have ez : zRn (fun i => isD (b i)) 0 (s + l) = s + l := rfl
    rw [ez, Nat.add_sub_cancel_left]
    by_cases h7 : l ≤ 4
    · refine ⟨sl N (gl N), ?_, h9, hg, FN.sl, h10, rfl⟩
      rw [F_X12_next_L206]
      simp (disch := omega) only [l_0, l_1, l_2, l_3, l_4, l_5, l_6, l_7, l_8, l_9, l_10, l_11, l_12, l_13, l_14, l_15, l_16, l_17, l_18, l_19, l_20, l_21, l_22, l_23, l_24, l_25, l_26, l_27, l_28, l_29, l_30, l_31, l_32, l_33, l_34, l_35, l_36, l_37, l_38, l_39, l_40, l_41, l_42, l_43, l_44, l_45, l_46, l_47, l_48, l_49, l_50, l_51, l_52, l_53, l_54, l_55, l_56, l_57, l_58, l_59, l_60, l_61, l_62, l_63, l_64, l_65, l_66, l_67, l_68, l_69, l_70, l_71, l_72, l_73, l_74, l_75, l_76, l_77, l_78, l_79, l_80, l_81, l_82, l_83, l_84, l_85, l_86, l_87, l_88, l_89, l_90, l_91, l_92, l_93, l_94, l_95, l_96, l_97, l_98, l_99, l_100, l_101, l_102, l_103, l_104, l_105, l_106, l_107, l_108, l_109, l_110, l_111, l_121, l_122, l_160, l_200, l_201, l_240, l_255, l_361, l_390, l_499, l_500, l_999, l_1000, l_10000, l_10099, l_12345, l_16383, l_20000, l_20033, l_20038, l_20124, l_100000, l_1000000, l_1103515245, ui_oi, ck_oi, sb, jc_e, bl_0, bl_1, le_oi, lt_oi, eq_oi, add_oi, mul_oi, div_oi, ir_oi, gi_e, gi_n, if_true, if_false, if_pos, if_neg, true_and, and_true, false_and, and_false, true_or, or_true, false_or, or_false, hr, h9, h10, hsub]
    · have e1 : zVn b s l = Int64.ofNat 100000 := if_neg h7
      refine ⟨sl N 100000, ?_, h9, by rw [gl_sl, e1, e100], FN.sl, h10, rfl⟩
      rw [F_X12_next_L206]
      simp (disch := omega) only [l_0, l_1, l_2, l_3, l_4, l_5, l_6, l_7, l_8, l_9, l_10, l_11, l_12, l_13, l_14, l_15, l_16, l_17, l_18, l_19, l_20, l_21, l_22, l_23, l_24, l_25, l_26, l_27, l_28, l_29, l_30, l_31, l_32, l_33, l_34, l_35, l_36, l_37, l_38, l_39, l_40, l_41, l_42, l_43, l_44, l_45, l_46, l_47, l_48, l_49, l_50, l_51, l_52, l_53, l_54, l_55, l_56, l_57, l_58, l_59, l_60, l_61, l_62, l_63, l_64, l_65, l_66, l_67, l_68, l_69, l_70, l_71, l_72, l_73, l_74, l_75, l_76, l_77, l_78, l_79, l_80, l_81, l_82, l_83, l_84, l_85, l_86, l_87, l_88, l_89, l_90, l_91, l_92, l_93, l_94, l_95, l_96, l_97, l_98, l_99, l_100, l_101, l_102, l_103, l_104, l_105, l_106, l_107, l_108, l_109, l_110, l_111, l_121, l_122, l_160, l_200, l_201, l_240, l_255, l_361, l_390, l_499, l_500, l_999, l_1000, l_10000, l_10099, l_12345, l_16383, l_20000, l_20033, l_20038, l_20124, l_100000, l_1000000, l_1103515245, ui_oi, ck_oi, sb, jc_e, bl_0, bl_1, le_oi, lt_oi, eq_oi, add_oi, mul_oi, div_oi, ir_oi, gi_e, gi_n, if_true, if_false, if_pos, if_neg, true_and, and_true, false_and, and_false, true_or, or_true, false_or, or_false, hr, h9, h10, hsub]
  | succ m ih =>
    intro l fu N hs hf hT h8 h9 h10 hg hL
    obtain ⟨fu', rfl⟩ : ∃ q, fu = q + 1 := ⟨fu - 1, by omega⟩
    have hr := r_isRow (lo := 48) (hi := 57) hT hn h8 h9 (by omega) (by omega) (by omega)
    have hsub : oi (s + l) - oi s = oi l := by rw [sub_oi (by omega), Nat.add_sub_cancel_left]
    obtain ⟨t1, t2⟩ := hT (s + l) (by omega)
    rw [zRn]
    by_cases hl : isD (b (s + l)) = true
    · have hb := of_decide_eq_true hl
      rw [if_pos ⟨by omega, hb⟩] at hr
      rw [if_pos hl]
      have hL' : ∀ i, i < l + 1 → isD (b (s + i)) = true := fun i hi => by
        by_cases hil : i = l
        · rw [hil]
          exact hl
        · exact hL i (by omega)
      obtain ⟨v, hv⟩ : ∃ v, v = zVn b s (l + 1) := ⟨_, rfl⟩
      obtain ⟨N1, hN1⟩ : ∃ N1, N1 = si (sl N v) 94 9 (oi (s + (l + 1))) := ⟨_, rfl⟩
      have hF : FN N N1 := by
        rw [hN1]
        exact FN.sl.tr (FN.si (by omega))
      obtain ⟨N', x1, x2, x3, x4, x5, x6⟩ := ih (l + 1) fu' N1 (by omega) (by omega) (hT.oc hF.1 (by decide)) ((hF.2 8 (by omega) (by omega) (by omega)).trans h8) (by rw [hN1, gi_e]) (by rw [hN1, gi_n (by omega), gi_sl]; exact h10) (by rw [hN1, gl_si, gl_sl, hv]) hL'
      refine ⟨N', ?_, x2, x3, hF.tr x4, x5, x6.trans (by rw [hN1, gi_n (by omega), gi_sl])⟩
      rw [F_X12_next_L206]
      by_cases h7 : l < 4
      · have e1 : zVn b s l = Int64.ofNat (zNm b s l) := if_pos (by omega)
        have e2 : v = Int64.ofNat (zNm b s (l + 1)) := by rw [hv]; exact if_pos (by omega)
        rw [e1] at hg
        have ev : (10 : Int64) * Int64.ofNat (zNm b s l) + Int32.toInt64 (oi (b (s + l))) - 48 = v := by
          rw [e2, o64 (by omega), show (10 : Int64) = Int64.ofNat 10 from rfl, show (48 : Int64) = Int64.ofNat 48 from rfl, m64, a64, s64 (by omega), zNm]
          congr 1
          omega
        simp (disch := omega) only [l_0, l_1, l_2, l_3, l_4, l_5, l_6, l_7, l_8, l_9, l_10, l_11, l_12, l_13, l_14, l_15, l_16, l_17, l_18, l_19, l_20, l_21, l_22, l_23, l_24, l_25, l_26, l_27, l_28, l_29, l_30, l_31, l_32, l_33, l_34, l_35, l_36, l_37, l_38, l_39, l_40, l_41, l_42, l_43, l_44, l_45, l_46, l_47, l_48, l_49, l_50, l_51, l_52, l_53, l_54, l_55, l_56, l_57, l_58, l_59, l_60, l_61, l_62, l_63, l_64, l_65, l_66, l_67, l_68, l_69, l_70, l_71, l_72, l_73, l_74, l_75, l_76, l_77, l_78, l_79, l_80, l_81, l_82, l_83, l_84, l_85, l_86, l_87, l_88, l_89, l_90, l_91, l_92, l_93, l_94, l_95, l_96, l_97, l_98, l_99, l_100, l_101, l_102, l_103, l_104, l_105, l_106, l_107, l_108, l_109, l_110, l_111, l_121, l_122, l_160, l_200, l_201, l_240, l_255, l_361, l_390, l_499, l_500, l_999, l_1000, l_10000, l_10099, l_12345, l_16383, l_20000, l_20033, l_20038, l_20124, l_100000, l_1000000, l_1103515245, ui_oi, ck_oi, sb, jc_e, bl_0, bl_1, le_oi, lt_oi, eq_oi, add_oi, mul_oi, div_oi, ir_oi, gi_e, gi_n, if_true, if_false, if_pos, if_neg, true_and, and_true, false_and, and_false, true_or, or_true, false_or, or_false, hr, h9, h10, hsub, t2, hg, ev, gi_sl]
        rw [show s + l + 1 = s + (l + 1) by omega, ← hN1, x1]
      · have e2 : v = 100000 := by rw [hv, e100]; exact if_neg (by omega)
        simp (disch := omega) only [l_0, l_1, l_2, l_3, l_4, l_5, l_6, l_7, l_8, l_9, l_10, l_11, l_12, l_13, l_14, l_15, l_16, l_17, l_18, l_19, l_20, l_21, l_22, l_23, l_24, l_25, l_26, l_27, l_28, l_29, l_30, l_31, l_32, l_33, l_34, l_35, l_36, l_37, l_38, l_39, l_40, l_41, l_42, l_43, l_44, l_45, l_46, l_47, l_48, l_49, l_50, l_51, l_52, l_53, l_54, l_55, l_56, l_57, l_58, l_59, l_60, l_61, l_62, l_63, l_64, l_65, l_66, l_67, l_68, l_69, l_70, l_71, l_72, l_73, l_74, l_75, l_76, l_77, l_78, l_79, l_80, l_81, l_82, l_83, l_84, l_85, l_86, l_87, l_88, l_89, l_90, l_91, l_92, l_93, l_94, l_95, l_96, l_97, l_98, l_99, l_100, l_101, l_102, l_103, l_104, l_105, l_106, l_107, l_108, l_109, l_110, l_111, l_121, l_122, l_160, l_200, l_201, l_240, l_255, l_361, l_390, l_499, l_500, l_999, l_1000, l_10000, l_10099, l_12345, l_16383, l_20000, l_20033, l_20038, l_20124, l_100000, l_1000000, l_1103515245, ui_oi, ck_oi, sb, jc_e, bl_0, bl_1, le_oi, lt_oi, eq_oi, add_oi, mul_oi, div_oi, ir_oi, gi_e, gi_n, if_true, if_false, if_pos, if_neg, true_and, and_true, false_and, and_false, true_or, or_true, false_or, or_false, hr, h9, h10, hsub, gi_sl]
        rw [show s + l + 1 = s + (l + 1) by omega]
        rw [e2] at hN1
        rw [← hN1, x1]
    · rw [if_neg (fun q => hl (decide_eq_true q.2))] at hr
      rw [if_neg hl, Nat.add_sub_cancel_left]
      by_cases h7 : l ≤ 4
      · refine ⟨sl N (gl N), ?_, h9, hg, FN.sl, h10, rfl⟩
        rw [F_X12_next_L206]
        simp (disch := omega) only [l_0, l_1, l_2, l_3, l_4, l_5, l_6, l_7, l_8, l_9, l_10, l_11, l_12, l_13, l_14, l_15, l_16, l_17, l_18, l_19, l_20, l_21, l_22, l_23, l_24, l_25, l_26, l_27, l_28, l_29, l_30, l_31, l_32, l_33, l_34, l_35, l_36, l_37, l_38, l_39, l_40, l_41, l_42, l_43, l_44, l_45, l_46, l_47, l_48, l_49, l_50, l_51, l_52, l_53, l_54, l_55, l_56, l_57, l_58, l_59, l_60, l_61, l_62, l_63, l_64, l_65, l_66, l_67, l_68, l_69, l_70, l_71, l_72, l_73, l_74, l_75, l_76, l_77, l_78, l_79, l_80, l_81, l_82, l_83, l_84, l_85, l_86, l_87, l_88, l_89, l_90, l_91, l_92, l_93, l_94, l_95, l_96, l_97, l_98, l_99, l_100, l_101, l_102, l_103, l_104, l_105, l_106, l_107, l_108, l_109, l_110, l_111, l_121, l_122, l_160, l_200, l_201, l_240, l_255, l_361, l_390, l_499, l_500, l_999, l_1000, l_10000, l_10099, l_12345, l_16383, l_20000, l_20033, l_20038, l_20124, l_100000, l_1000000, l_1103515245, ui_oi, ck_oi, sb, jc_e, bl_0, bl_1, le_oi, lt_oi, eq_oi, add_oi, mul_oi, div_oi, ir_oi, gi_e, gi_n, if_true, if_false, if_pos, if_neg, true_and, and_true, false_and, and_false, true_or, or_true, false_or, or_false, hr, h9, h10, hsub]
      · have e1 : zVn b s l = Int64.ofNat 100000 := if_neg h7
        refine ⟨sl N 100000, ?_, h9, by rw [gl_sl, e1, e100], FN.sl, h10, rfl⟩
        rw [F_X12_next_L206]
        simp (disch := omega) only [l_0, l_1, l_2, l_3, l_4, l_5, l_6, l_7, l_8, l_9, l_10, l_11, l_12, l_13, l_14, l_15, l_16, l_17, l_18, l_19, l_20, l_21, l_22, l_23, l_24, l_25, l_26, l_27, l_28, l_29, l_30, l_31, l_32, l_33, l_34, l_35, l_36, l_37, l_38, l_39, l_40, l_41, l_42, l_43, l_44, l_45, l_46, l_47, l_48, l_49, l_50, l_51, l_52, l_53, l_54, l_55, l_56, l_57, l_58, l_59, l_60, l_61, l_62, l_63, l_64, l_65, l_66, l_67, l_68, l_69, l_70, l_71, l_72, l_73, l_74, l_75, l_76, l_77, l_78, l_79, l_80, l_81, l_82, l_83, l_84, l_85, l_86, l_87, l_88, l_89, l_90, l_91, l_92, l_93, l_94, l_95, l_96, l_97, l_98, l_99, l_100, l_101, l_102, l_103, l_104, l_105, l_106, l_107, l_108, l_109, l_110, l_111, l_121, l_122, l_160, l_200, l_201, l_240, l_255, l_361, l_390, l_499, l_500, l_999, l_1000, l_10000, l_10099, l_12345, l_16383, l_20000, l_20033, l_20038, l_20124, l_100000, l_1000000, l_1103515245, ui_oi, ck_oi, sb, jc_e, bl_0, bl_1, le_oi, lt_oi, eq_oi, add_oi, mul_oi, div_oi, ir_oi, gi_e, gi_n, if_true, if_false, if_pos, if_neg, true_and, and_true, false_and, and_false, true_or, or_true, false_or, or_false, hr, h9, h10, hsub]
theorem zE_let (hp : p < n) (h : isL (b p) = true) : ∀ i, i < zE_ b n p - p → isL (b (p + i)) = true := fun i hi => by
  by_cases hi0 : i = 0
  · rw [hi0]
    exact h
  · unfold zE_ at hi
    rw [if_pos h] at hi
    exact zRn_in (q := fun i => isL (b i)) (n - (p + 1)) (p + 1) (p + i) (by omega) (by omega)
/-- what stands at s is the token the class parts there -/
theorem TD_let (hp : p < n) (hn : n ≤ 200) (h : isL (b p) = true) (h11 : gi N 94 11 = oi 1) (hg : gl N = zVw b p (zE_ b n p - p)) : TD N (zTk b n p) := by
  have hlet := zE_let hp h
  have hnd : ¬ isD (b p) = true := fun q => by
    have h1 := of_decide_eq_true q
    have h2 := of_decide_eq_true h
    omega
  obtain ⟨e1, e2⟩ := zE_b (b := b) hp
  obtain ⟨len, hlen⟩ : ∃ len, len = zE_ b n p - p := ⟨_, rfl⟩
  unfold zTk
  rw [if_neg hnd]
  rw [← hlen] at hg hlet ⊢
  have hkey : ∀ k, k < 18 → (gl N = Int64.ofNat (zHw k) ↔ zMt b p len k = true) := fun k hk => by
    have hw := hw_lt k hk
    by_cases h7 : len ≤ 7
    · have hlt := zHs_lt hlet
      have hp27 := p27 len h7
      rw [hg, zVw, if_pos h7, of64 (by omega) (by omega)]
      exact mt_hash hk hlet
    · rw [hg, zVw, if_neg h7]
      obtain ⟨a1, a2, a3, a4, a5, a6⟩ := tab_all k (by omega)
      refine ⟨fun q => ?_, fun q => by have := (of_decide_eq_true q).1; omega⟩
      have h2 := congrArg Int64.toInt q
      rw [Int64.toInt_ofNat_of_lt (by omega), show (-1 : Int64).toInt = -1 by decide] at h2
      omega
  have hno : ∀ k, 18 ≤ k → k < 24 → zMt b p len k = false := fun k h1 h2 => by
    refine (Bool.not_eq_true _).mp (fun q => ?_)
    obtain ⟨c1, c2⟩ := of_decide_eq_true q
    obtain ⟨d1, d2, d3⟩ := by_all k h2 h1
    have h3 := c2 0 (by omega)
    have h4 := of_decide_eq_true h
    rw [Nat.add_zero, Nat.add_zero] at h3
    unfold zBy at d2
    omega
  rcases zWd_spec (b := b) (p := p) (len := len) 24 0 (by omega) with ⟨j, a1, a2, a3, a4⟩ | ⟨a1, a2⟩
  · by_cases hj : j < 18
    · rw [a4]
      exact Or.inl ⟨hj, h11, (hkey j hj).mpr a3⟩
    · rw [hno j (by omega) a2] at a3
      exact absurd a3 (by decide)
  · rw [a2]
    refine Or.inr (Or.inr (Or.inr (Or.inr ⟨rfl, Or.inl ⟨h11, fun k hk q => ?_⟩⟩)))
    have h5 := (hkey k hk).mp q
    rw [a1 k (by omega) (by omega)] at h5
    exact absurd h5 (by decide)
theorem TD_dig (hp : p < n) (h : isD (b p) = true) (h11 : gi N 94 11 = oi 2) (hg : gl N = zVn b p (zE_ b n p - p)) : TD N (zTk b n p) := by
  have hdg := zE_dg hp h
  obtain ⟨len, hlen⟩ : ∃ len, len = zE_ b n p - p := ⟨_, rfl⟩
  unfold zTk
  rw [if_pos h]
  rw [← hlen] at hg hdg ⊢
  by_cases h4 : len ≤ 4
  · have hlt := zNm_lt hdg
    have hp4 := pw10 len h4
    rw [if_pos h4]
    refine Or.inr (Or.inr (Or.inl ⟨by omega, by omega, h11, ?_⟩))
    rw [hg, zVn, if_pos h4, Nat.add_sub_cancel_left]
  · rw [if_neg h4]
    refine Or.inr (Or.inr (Or.inr (Or.inr ⟨rfl, Or.inr (Or.inr ⟨h11, ?_⟩)⟩)))
    rw [hg, zVn, if_neg h4]
theorem TD_byt (hp : p < n) (hb : b p < 256) (h1 : ¬ isL (b p) = true) (h2 : ¬ isD (b p) = true) (h11 : gi N 94 11 = oi 3) (hg : gl N = Int64.ofNat (b p)) : TD N (zTk b n p) := by
  have hE : zE_ b n p = p + 1 := by
    unfold zE_
    rw [if_neg h1, if_neg h2]
  unfold zTk
  rw [if_neg h2, hE, Nat.add_sub_cancel_left]
  have hkey : ∀ k, 18 ≤ k → k < 24 → (gl N = Int64.ofNat (zBy k) ↔ zMt b p 1 k = true) := fun k k1 k2 => by
    obtain ⟨d1, d2, d3⟩ := by_all k k2 k1
    rw [hg, of64 (by omega) (by omega)]
    refine ⟨fun q => decide_eq_true ⟨d1.symm, fun i hi => ?_⟩, fun q => ?_⟩
    · obtain rfl : i = 0 := by omega
      exact q
    · exact (of_decide_eq_true q).2 0 (by omega)
  have hno : ∀ k, k < 18 → zMt b p 1 k = false := fun k k2 => (Bool.not_eq_true _).mp (fun q => l1_all k k2 (of_decide_eq_true q).1.symm)
  rcases zWd_spec (b := b) (p := p) (len := 1) 24 0 (by omega) with ⟨j, a1, a2, a3, a4⟩ | ⟨a1, a2⟩
  · by_cases hj : j < 18
    · rw [hno j hj] at a3
      exact absurd a3 (by decide)
    · rw [a4]
      exact Or.inr (Or.inl ⟨by omega, a2, h11, (hkey j (by omega) a2).mpr a3⟩)
  · rw [a2]
    refine Or.inr (Or.inr (Or.inr (Or.inr ⟨rfl, Or.inr (Or.inl ⟨h11, fun k k1 k2 q => ?_⟩)⟩)))
    have h5 := (hkey k k1 k2).mp q
    rw [a1 k (by omega) k2] at h5
    exact absurd h5 (by decide)
/-- the reference stands at the token at s -/
def AT (N : Mm) (b : Nat → Nat) (n s : Nat) : Prop := gi N 94 9 = oi (if s < n then zE_ b n s else n) ∧ gi N 94 10 = oi s ∧ TD N (zTt b n s)
theorem r_fin (fu : Nat) (hn : n ≤ 200) (hp : p ≤ n) (hT : TY N n b) (h8 : gi N 94 8 = oi n) (h9 : gi N 94 9 = oi p) (h : p = n ∨ (p < n ∧ ¬ isO (b p) = true)) : ∃ N', F_X12_next_L0 (fu + 1) N = some N' ∧ AT N' b n (zSk b n p) ∧ FN N N' := by
  obtain ⟨N1, hN1⟩ : ∃ N1, N1 = sl (si N 94 10 (oi p)) 0 := ⟨_, rfl⟩
  have hF1 : FN N N1 := by
    rw [hN1]
    exact (FN.si (by omega)).tr FN.sl
  have g8 : gi N1 94 8 = oi n := (hF1.2 8 (by omega) (by omega) (by omega)).trans h8
  have g9 : gi N1 94 9 = oi p := by rw [hN1, gi_sl, gi_n (by omega)]; exact h9
  have g10 : gi N1 94 10 = oi p := by rw [hN1, gi_sl, gi_e]
  have hT1 : TY N1 n b := hT.oc hF1.1 (by decide)
  rcases h with rfl | ⟨hlt, hno⟩
  · refine ⟨si N1 94 11 (oi 0), ?_, ?_, hF1.tr (FN.si (by omega))⟩
    · rw [F_X12_next_L0]
      simp (disch := omega) only [l_0, l_1, l_2, l_3, l_4, l_5, l_6, l_7, l_8, l_9, l_10, l_11, l_12, l_13, l_14, l_15, l_16, l_17, l_18, l_19, l_20, l_21, l_22, l_23, l_24, l_25, l_26, l_27, l_28, l_29, l_30, l_31, l_32, l_33, l_34, l_35, l_36, l_37, l_38, l_39, l_40, l_41, l_42, l_43, l_44, l_45, l_46, l_47, l_48, l_49, l_50, l_51, l_52, l_53, l_54, l_55, l_56, l_57, l_58, l_59, l_60, l_61, l_62, l_63, l_64, l_65, l_66, l_67, l_68, l_69, l_70, l_71, l_72, l_73, l_74, l_75, l_76, l_77, l_78, l_79, l_80, l_81, l_82, l_83, l_84, l_85, l_86, l_87, l_88, l_89, l_90, l_91, l_92, l_93, l_94, l_95, l_96, l_97, l_98, l_99, l_100, l_101, l_102, l_103, l_104, l_105, l_106, l_107, l_108, l_109, l_110, l_111, l_121, l_122, l_160, l_200, l_201, l_240, l_255, l_361, l_390, l_499, l_500, l_999, l_1000, l_10000, l_10099, l_12345, l_16383, l_20000, l_20033, l_20038, l_20124, l_100000, l_1000000, l_1103515245, ui_oi, ck_oi, sb, jc_e, bl_0, bl_1, le_oi, lt_oi, eq_oi, add_oi, mul_oi, div_oi, ir_oi, gi_e, gi_n, if_true, if_false, if_pos, if_neg, true_and, and_true, false_and, and_false, true_or, or_true, false_or, or_false, h8, h9, gi_sl]
      rw [← hN1]
    · rw [zSk_end]
      refine ⟨by rw [gi_n (by omega), if_neg (by omega)]; exact g9, by rw [gi_n (by omega)]; exact g10, ?_⟩
      unfold zTt
      rw [if_neg (by omega)]
      exact Or.inr (Or.inr (Or.inr (Or.inl ⟨rfl, gi_e⟩)))
  · obtain ⟨t1, t2⟩ := hT p hlt
    obtain ⟨s1, s2⟩ := hT1 p hlt
    have hne : ¬ gi N 100 p = oi 32 := by
      rw [t2, eq_oi (by omega) (by omega)]
      exact fun q => hno (decide_eq_true q)
    rw [zSk_n hlt hno]
    have rl := r_isRow (lo := 97) (hi := 122) hT1 hn g8 g9 hp (by omega) (by omega)
    have rd := r_isRow (lo := 48) (hi := 57) hT1 hn g8 g9 hp (by omega) (by omega)
    have htt : zTt b n p = zTk b n p := if_pos hlt
    by_cases hL : isL (b p) = true
    · have hb := of_decide_eq_true hL
      rw [if_pos (show p < n ∧ 97 ≤ b p ∧ b p ≤ 122 from ⟨hlt, hb⟩)] at rl
      have hF2 : FN N1 (si N1 94 11 (oi 1)) := FN.si (by omega)
      obtain ⟨N', x1, x2, x3, x4, x5, x6⟩ := r_letters (b := b) (s := p) hn (n - p) 0 1000 (si N1 94 11 (oi 1)) (by omega) (by omega) (hT1.oc hF2.1 (by decide)) (by rw [gi_n (by omega)]; exact g8) (by rw [gi_n (by omega)]; exact g9) (by rw [gi_n (by omega)]; exact g10) (by rw [gl_si, hN1, gl_sl]; rfl) (fun i hi => by omega)
      have hz : zRn (fun i => isL (b i)) (n - p) (p + 0) = zE_ b n p := by
        unfold zE_
        rw [if_pos hL, show n - p = n - (p + 1) + 1 by omega, zRn, if_pos (show (fun i => isL (b i)) (p + 0) = true from hL)]
      rw [hz] at x2 x3
      refine ⟨N', ?_, ⟨by rw [if_pos hlt]; exact x2, x5, by rw [htt]; exact TD_let hlt hn hL (by rw [x6, gi_e]) x3⟩, (hF1.tr hF2).tr x4⟩
      rw [F_X12_next_L0]
      simp (disch := omega) only [l_0, l_1, l_2, l_3, l_4, l_5, l_6, l_7, l_8, l_9, l_10, l_11, l_12, l_13, l_14, l_15, l_16, l_17, l_18, l_19, l_20, l_21, l_22, l_23, l_24, l_25, l_26, l_27, l_28, l_29, l_30, l_31, l_32, l_33, l_34, l_35, l_36, l_37, l_38, l_39, l_40, l_41, l_42, l_43, l_44, l_45, l_46, l_47, l_48, l_49, l_50, l_51, l_52, l_53, l_54, l_55, l_56, l_57, l_58, l_59, l_60, l_61, l_62, l_63, l_64, l_65, l_66, l_67, l_68, l_69, l_70, l_71, l_72, l_73, l_74, l_75, l_76, l_77, l_78, l_79, l_80, l_81, l_82, l_83, l_84, l_85, l_86, l_87, l_88, l_89, l_90, l_91, l_92, l_93, l_94, l_95, l_96, l_97, l_98, l_99, l_100, l_101, l_102, l_103, l_104, l_105, l_106, l_107, l_108, l_109, l_110, l_111, l_121, l_122, l_160, l_200, l_201, l_240, l_255, l_361, l_390, l_499, l_500, l_999, l_1000, l_10000, l_10099, l_12345, l_16383, l_20000, l_20033, l_20038, l_20124, l_100000, l_1000000, l_1103515245, ui_oi, ck_oi, sb, jc_e, bl_0, bl_1, le_oi, lt_oi, eq_oi, add_oi, mul_oi, div_oi, ir_oi, gi_e, gi_n, if_true, if_false, if_pos, if_neg, true_and, and_true, false_and, and_false, true_or, or_true, false_or, or_false, h8, h9, hne, gi_sl]
      rw [← hN1]
      simp (disch := omega) only [l_0, l_1, l_2, l_3, l_4, l_5, l_6, l_7, l_8, l_9, l_10, l_11, l_12, l_13, l_14, l_15, l_16, l_17, l_18, l_19, l_20, l_21, l_22, l_23, l_24, l_25, l_26, l_27, l_28, l_29, l_30, l_31, l_32, l_33, l_34, l_35, l_36, l_37, l_38, l_39, l_40, l_41, l_42, l_43, l_44, l_45, l_46, l_47, l_48, l_49, l_50, l_51, l_52, l_53, l_54, l_55, l_56, l_57, l_58, l_59, l_60, l_61, l_62, l_63, l_64, l_65, l_66, l_67, l_68, l_69, l_70, l_71, l_72, l_73, l_74, l_75, l_76, l_77, l_78, l_79, l_80, l_81, l_82, l_83, l_84, l_85, l_86, l_87, l_88, l_89, l_90, l_91, l_92, l_93, l_94, l_95, l_96, l_97, l_98, l_99, l_100, l_101, l_102, l_103, l_104, l_105, l_106, l_107, l_108, l_109, l_110, l_111, l_121, l_122, l_160, l_200, l_201, l_240, l_255, l_361, l_390, l_499, l_500, l_999, l_1000, l_10000, l_10099, l_12345, l_16383, l_20000, l_20033, l_20038, l_20124, l_100000, l_1000000, l_1103515245, ui_oi, ck_oi, sb, jc_e, bl_0, bl_1, le_oi, lt_oi, eq_oi, add_oi, mul_oi, div_oi, ir_oi, gi_e, gi_n, if_true, if_false, if_pos, if_neg, true_and, and_true, false_and, and_false, true_or, or_true, false_or, or_false, rl, x1]
    · rw [if_neg (show ¬ (p < n ∧ 97 ≤ b p ∧ b p ≤ 122) from fun q => hL (decide_eq_true q.2))] at rl
      by_cases hD : isD (b p) = true
      · have hb := of_decide_eq_true hD
        rw [if_pos (show p < n ∧ 48 ≤ b p ∧ b p ≤ 57 from ⟨hlt, hb⟩)] at rd
        have hF2 : FN N1 (si N1 94 11 (oi 2)) := FN.si (by omega)
        obtain ⟨N', x1, x2, x3, x4, x5, x6⟩ := r_digits (b := b) (s := p) hn (n - p) 0 1000 (si N1 94 11 (oi 2)) (by omega) (by omega) (hT1.oc hF2.1 (by decide)) (by rw [gi_n (by omega)]; exact g8) (by rw [gi_n (by omega)]; exact g9) (by rw [gi_n (by omega)]; exact g10) (by rw [gl_si, hN1, gl_sl]; rfl) (fun i hi => by omega)
        have hz : zRn (fun i => isD (b i)) (n - p) (p + 0) = zE_ b n p := by
          unfold zE_
          rw [if_neg hL, if_pos hD, show n - p = n - (p + 1) + 1 by omega, zRn, if_pos (show (fun i => isD (b i)) (p + 0) = true from hD)]
        rw [hz] at x2 x3
        refine ⟨N', ?_, ⟨by rw [if_pos hlt]; exact x2, x5, by rw [htt]; exact TD_dig hlt hD (by rw [x6, gi_e]) x3⟩, (hF1.tr hF2).tr x4⟩
        rw [F_X12_next_L0]
        simp (disch := omega) only [l_0, l_1, l_2, l_3, l_4, l_5, l_6, l_7, l_8, l_9, l_10, l_11, l_12, l_13, l_14, l_15, l_16, l_17, l_18, l_19, l_20, l_21, l_22, l_23, l_24, l_25, l_26, l_27, l_28, l_29, l_30, l_31, l_32, l_33, l_34, l_35, l_36, l_37, l_38, l_39, l_40, l_41, l_42, l_43, l_44, l_45, l_46, l_47, l_48, l_49, l_50, l_51, l_52, l_53, l_54, l_55, l_56, l_57, l_58, l_59, l_60, l_61, l_62, l_63, l_64, l_65, l_66, l_67, l_68, l_69, l_70, l_71, l_72, l_73, l_74, l_75, l_76, l_77, l_78, l_79, l_80, l_81, l_82, l_83, l_84, l_85, l_86, l_87, l_88, l_89, l_90, l_91, l_92, l_93, l_94, l_95, l_96, l_97, l_98, l_99, l_100, l_101, l_102, l_103, l_104, l_105, l_106, l_107, l_108, l_109, l_110, l_111, l_121, l_122, l_160, l_200, l_201, l_240, l_255, l_361, l_390, l_499, l_500, l_999, l_1000, l_10000, l_10099, l_12345, l_16383, l_20000, l_20033, l_20038, l_20124, l_100000, l_1000000, l_1103515245, ui_oi, ck_oi, sb, jc_e, bl_0, bl_1, le_oi, lt_oi, eq_oi, add_oi, mul_oi, div_oi, ir_oi, gi_e, gi_n, if_true, if_false, if_pos, if_neg, true_and, and_true, false_and, and_false, true_or, or_true, false_or, or_false, h8, h9, hne, gi_sl]
        rw [← hN1]
        simp (disch := omega) only [l_0, l_1, l_2, l_3, l_4, l_5, l_6, l_7, l_8, l_9, l_10, l_11, l_12, l_13, l_14, l_15, l_16, l_17, l_18, l_19, l_20, l_21, l_22, l_23, l_24, l_25, l_26, l_27, l_28, l_29, l_30, l_31, l_32, l_33, l_34, l_35, l_36, l_37, l_38, l_39, l_40, l_41, l_42, l_43, l_44, l_45, l_46, l_47, l_48, l_49, l_50, l_51, l_52, l_53, l_54, l_55, l_56, l_57, l_58, l_59, l_60, l_61, l_62, l_63, l_64, l_65, l_66, l_67, l_68, l_69, l_70, l_71, l_72, l_73, l_74, l_75, l_76, l_77, l_78, l_79, l_80, l_81, l_82, l_83, l_84, l_85, l_86, l_87, l_88, l_89, l_90, l_91, l_92, l_93, l_94, l_95, l_96, l_97, l_98, l_99, l_100, l_101, l_102, l_103, l_104, l_105, l_106, l_107, l_108, l_109, l_110, l_111, l_121, l_122, l_160, l_200, l_201, l_240, l_255, l_361, l_390, l_499, l_500, l_999, l_1000, l_10000, l_10099, l_12345, l_16383, l_20000, l_20033, l_20038, l_20124, l_100000, l_1000000, l_1103515245, ui_oi, ck_oi, sb, jc_e, bl_0, bl_1, le_oi, lt_oi, eq_oi, add_oi, mul_oi, div_oi, ir_oi, gi_e, gi_n, if_true, if_false, if_pos, if_neg, true_and, and_true, false_and, and_false, true_or, or_true, false_or, or_false, rl, rd, x1]
      · rw [if_neg (show ¬ (p < n ∧ 48 ≤ b p ∧ b p ≤ 57) from fun q => hD (decide_eq_true q.2))] at rd
        have hE : zE_ b n p = p + 1 := by
          unfold zE_
          rw [if_neg hL, if_neg hD]
        refine ⟨si (sl (si N1 94 11 (oi 3)) (Int32.toInt64 (oi (b p)))) 94 9 (oi (p + 1)), ?_, ⟨by rw [if_pos hlt, gi_e, hE], by rw [gi_n (by omega), gi_sl, gi_n (by omega)]; exact g10, by rw [htt]; exact TD_byt hlt t1 hL hD (by rw [gi_n (by omega), gi_sl, gi_e]) (by rw [gl_si, gl_sl, o64 (by omega)])⟩, ((hF1.tr (FN.si (by omega))).tr FN.sl).tr (FN.si (by omega))⟩
        rw [F_X12_next_L0]
        simp (disch := omega) only [l_0, l_1, l_2, l_3, l_4, l_5, l_6, l_7, l_8, l_9, l_10, l_11, l_12, l_13, l_14, l_15, l_16, l_17, l_18, l_19, l_20, l_21, l_22, l_23, l_24, l_25, l_26, l_27, l_28, l_29, l_30, l_31, l_32, l_33, l_34, l_35, l_36, l_37, l_38, l_39, l_40, l_41, l_42, l_43, l_44, l_45, l_46, l_47, l_48, l_49, l_50, l_51, l_52, l_53, l_54, l_55, l_56, l_57, l_58, l_59, l_60, l_61, l_62, l_63, l_64, l_65, l_66, l_67, l_68, l_69, l_70, l_71, l_72, l_73, l_74, l_75, l_76, l_77, l_78, l_79, l_80, l_81, l_82, l_83, l_84, l_85, l_86, l_87, l_88, l_89, l_90, l_91, l_92, l_93, l_94, l_95, l_96, l_97, l_98, l_99, l_100, l_101, l_102, l_103, l_104, l_105, l_106, l_107, l_108, l_109, l_110, l_111, l_121, l_122, l_160, l_200, l_201, l_240, l_255, l_361, l_390, l_499, l_500, l_999, l_1000, l_10000, l_10099, l_12345, l_16383, l_20000, l_20033, l_20038, l_20124, l_100000, l_1000000, l_1103515245, ui_oi, ck_oi, sb, jc_e, bl_0, bl_1, le_oi, lt_oi, eq_oi, add_oi, mul_oi, div_oi, ir_oi, gi_e, gi_n, if_true, if_false, if_pos, if_neg, true_and, and_true, false_and, and_false, true_or, or_true, false_or, or_false, h8, h9, hne, gi_sl]
        rw [← hN1]
        simp (disch := omega) only [l_0, l_1, l_2, l_3, l_4, l_5, l_6, l_7, l_8, l_9, l_10, l_11, l_12, l_13, l_14, l_15, l_16, l_17, l_18, l_19, l_20, l_21, l_22, l_23, l_24, l_25, l_26, l_27, l_28, l_29, l_30, l_31, l_32, l_33, l_34, l_35, l_36, l_37, l_38, l_39, l_40, l_41, l_42, l_43, l_44, l_45, l_46, l_47, l_48, l_49, l_50, l_51, l_52, l_53, l_54, l_55, l_56, l_57, l_58, l_59, l_60, l_61, l_62, l_63, l_64, l_65, l_66, l_67, l_68, l_69, l_70, l_71, l_72, l_73, l_74, l_75, l_76, l_77, l_78, l_79, l_80, l_81, l_82, l_83, l_84, l_85, l_86, l_87, l_88, l_89, l_90, l_91, l_92, l_93, l_94, l_95, l_96, l_97, l_98, l_99, l_100, l_101, l_102, l_103, l_104, l_105, l_106, l_107, l_108, l_109, l_110, l_111, l_121, l_122, l_160, l_200, l_201, l_240, l_255, l_361, l_390, l_499, l_500, l_999, l_1000, l_10000, l_10099, l_12345, l_16383, l_20000, l_20033, l_20038, l_20124, l_100000, l_1000000, l_1103515245, ui_oi, ck_oi, sb, jc_e, bl_0, bl_1, le_oi, lt_oi, eq_oi, add_oi, mul_oi, div_oi, ir_oi, gi_e, gi_n, if_true, if_false, if_pos, if_neg, true_and, and_true, false_and, and_false, true_or, or_true, false_or, or_false, rl, rd, g9, s2, gi_sl, t2]
theorem r_next (hn : n ≤ 200) : ∀ w p fu (N : Mm), n - p ≤ w → p ≤ n → w < fu → TY N n b → gi N 94 8 = oi n → gi N 94 9 = oi p → ∃ N', F_X12_next_L0 fu N = some N' ∧ AT N' b n (zSk b n p) ∧ FN N N' := by
  intro w
  induction w with
  | zero =>
    intro p fu N hw hp hf hT h8 h9
    obtain ⟨fu', rfl⟩ : ∃ q, fu = q + 1 := ⟨fu - 1, by omega⟩
    obtain rfl : p = n := by omega
    exact r_fin fu' hn hp hT h8 h9 (Or.inl rfl)
  | succ w ih =>
    intro p fu N hw hp hf hT h8 h9
    obtain ⟨fu', rfl⟩ : ∃ q, fu = q + 1 := ⟨fu - 1, by omega⟩
    by_cases hpn : p = n
    · exact r_fin fu' hn hp hT h8 h9 (Or.inl hpn)
    · by_cases ho : isO (b p) = true
      · obtain ⟨t1, t2⟩ := hT p (by omega)
        have hb : b p = 32 := of_decide_eq_true ho
        obtain ⟨N', x1, x2, x3⟩ := ih (p + 1) fu' (si N 94 9 (oi (p + 1))) (by omega) (by omega) (by omega) (hT.oc (S := [94]) (Oc.si (by simp)) (by decide)) (by rw [gi_n (by omega)]; exact h8) gi_e
        refine ⟨N', ?_, by rw [zSk_s (by omega) ho]; exact x2, (FN.si (by omega)).tr x3⟩
        rw [hb] at t2
        rw [F_X12_next_L0]
        simp (disch := omega) only [l_0, l_1, l_2, l_3, l_4, l_5, l_6, l_7, l_8, l_9, l_10, l_11, l_12, l_13, l_14, l_15, l_16, l_17, l_18, l_19, l_20, l_21, l_22, l_23, l_24, l_25, l_26, l_27, l_28, l_29, l_30, l_31, l_32, l_33, l_34, l_35, l_36, l_37, l_38, l_39, l_40, l_41, l_42, l_43, l_44, l_45, l_46, l_47, l_48, l_49, l_50, l_51, l_52, l_53, l_54, l_55, l_56, l_57, l_58, l_59, l_60, l_61, l_62, l_63, l_64, l_65, l_66, l_67, l_68, l_69, l_70, l_71, l_72, l_73, l_74, l_75, l_76, l_77, l_78, l_79, l_80, l_81, l_82, l_83, l_84, l_85, l_86, l_87, l_88, l_89, l_90, l_91, l_92, l_93, l_94, l_95, l_96, l_97, l_98, l_99, l_100, l_101, l_102, l_103, l_104, l_105, l_106, l_107, l_108, l_109, l_110, l_111, l_121, l_122, l_160, l_200, l_201, l_240, l_255, l_361, l_390, l_499, l_500, l_999, l_1000, l_10000, l_10099, l_12345, l_16383, l_20000, l_20033, l_20038, l_20124, l_100000, l_1000000, l_1103515245, ui_oi, ck_oi, sb, jc_e, bl_0, bl_1, le_oi, lt_oi, eq_oi, add_oi, mul_oi, div_oi, ir_oi, gi_e, gi_n, if_true, if_false, if_pos, if_neg, true_and, and_true, false_and, and_false, true_or, or_true, false_or, or_false, h8, h9, t2, x1]
      · exact r_fin fu' hn hp hT h8 h9 (Or.inr ⟨by omega, ho⟩)
end NX

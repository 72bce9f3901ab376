/-! THE TEXT OF RULES: a whole rule, both sides, and all of them -/
def RS (b : Nat → Nat) (n K : Nat) (M N : Mm) (a c sc sr : Nat) : Prop := GM b n K M a sc ∧ GN b n N a sr 0 ∧ gi M 7 0 = oi c ∧ gi N 94 18 = oi c ∧ c ≤ 8 ∧ (c ≠ 0 → gi M 10 c = oi sc) ∧ ∀ r, r < c → Rul M N sc sr r
section PH
variable {M N M' N' N1 M1 : Mm} {b : Nat → Nat} {n K a sc sr o s t k c D f0 s0 : Nat} {lc lr : List Int32}
theorem p_tl (hM : GM b n K M a sc) (hG : GN b n N a sr 0) (h0 : gi M 7 0 = oi c) (h18 : gi N 94 18 = oi c) (hc : c < 8) (hr : ∀ r, r < c → Rul M N sc sr r) (hk : k ≤ 5) (g8 : gi M 8 c = oi k) (g10 : gi M 10 c = oi s0) (hs : s0 + lc.length = sc) (hf : f0 + lr.length = sr) (hSC : SgC M s0 lc) (hSR : SgR N f0 lr) (hcon : (lc = [] ∧ lr = []) ∨ SM 11 lc lr) : ∃ M' N', tlC M = some M' ∧ tlR (oi k) (oi f0) N = some N' ∧ FM2 M M' ∧ FR2 N N' ∧ ((∃ s, BM b n K M' s ∧ BN b n N' s) ∨ ∃ a', a < a' ∧ RS b n K M' N' a' (c + 1) sc sr) := by
  obtain ⟨r1, r2, r3⟩ := r_tail (k := k) (f0 := f0) hM.1 hM.2.1 hG h18 hc
  rcases c_tail hM h0 hc with ⟨t1, t2, t3, M', x1, x2, x3, x4, x5, x6, x7, x8, x9, x10⟩ | ⟨t1, t2, t3, M', x1, x2, x3⟩ | ⟨t1, M', x1, x2, x3⟩
  · obtain ⟨N', y1, y2, y3, y4, y5, y6, y7, y8, y9, y10⟩ := r1 t1 t2 t3
    refine ⟨M', N', x1, y1, x10, y10, Or.inr ⟨a + 2, by omega, x2, y2, x3, y3, by omega, fun _ => x5, fun r hrc => ?_⟩⟩
    by_cases h : r = c
    · subst h
      exact ⟨k, tkn b n a - 6, s0, f0, lc, lr, hk, by omega, (x8 r).trans g8, x4, (x7 r (by omega)).trans g10, by rw [x5, hs], by omega, hSC.kp (fun i _ => x9 i), y4, y5, y6, by rw [y7, hf], by omega, hSR.kp (fun i _ => y9 i), hcon⟩
    · exact (hr r (by omega)).kp (x8 r) (x6 r (by omega)) (x7 r (by omega)) (x7 (r + 1) (by omega)) (fun i _ => x9 i) (fun i hi => y8 i (by omega)) (fun i _ => y9 i) (Nat.le_refl _) (Nat.le_refl _)
  · obtain ⟨N', y1, y2, y3⟩ := r2 t1 t2 t3
    exact ⟨M', N', x1, y1, x3, y3, Or.inl ⟨_, x2, y2⟩⟩
  · obtain ⟨N', y1, y2, y3⟩ := r3 t1
    exact ⟨M', N', x1, y1, x3, y3, Or.inl ⟨_, x2, y2⟩⟩
theorem p_rule (h : RS b n K M N a c sc sr) : ∃ M' N', F_X6_readRule M = some M' ∧ F_X12_ruleHere N = some N' ∧ FM2 M M' ∧ FR2 N N' ∧ ((∃ s, BM b n K M' s ∧ BN b n N' s) ∨ (c < 8 ∧ ∃ a' sc' sr', a < a' ∧ RS b n K M' N' a' (c + 1) sc' sr')) := by
  obtain ⟨hM, hG, h0, h18, hc8, hlast, hr⟩ := h
  obtain ⟨hT, hK, hs, h9, h10, h5⟩ := id hM
  have hnk := hT.2.1
  have hKn := hT.1
  have hx2 : gi M 13 a = tI (tkn b n a) := (hT.2.2.2 a hK).2.1
  have hx1 : gi M 14 a = oi (zPl b n a) := (hT.2.2.2 a hK).1
  have hlt := tkn_lt (b := b) (n := n) (a := a)
  have hcc := tkn_c (b := b) (n := n) (a := a)
  have hl0 := tI_lt (t := tkn b n a) (lo := 0) (by omega) hcc (by omega) (by omega)
  have hpl := hT.pl hK
  obtain ⟨k1, k2⟩ := r_kind hG
  have hneg : (- oi 1 : Int32) < oi 0 := by decide
  by_cases hin : tkn b n a ≤ 5 ∧ c < 8
  · have ht := tI_oi (t := tkn b n a) (by omega) (by omega)
    rw [ht] at hx2
    have hak := tkn_k hT hK (by omega)
    obtain ⟨N1, g1, g2, g3, g4⟩ := r_go1 hT hG hak
    obtain ⟨M1, hM1⟩ : ∃ M1, M1 = si (si (si M 7 9 (oi (a + 1))) 8 c (oi (tkn b n a))) 10 c (oi sc) := ⟨_, rfl⟩
    have hF1 : FM2 M M1 := by
      rw [hM1]
      exact ((FM2.si (by omega)).tr (FM2.si (by omega))).tr (FM2.si (by omega))
    have hT1 := hT.f2 hF1
    have hM1' := hM1
    have m9 : gi M1 7 9 = oi (a + 1) := by rw [hM1, gi_n (by omega), gi_n (by omega), gi_e]
    have hGM1 : GM b n K M1 (a + 1) sc := ⟨hT1, by omega, by omega, m9, by rw [hM1]; simp (disch := omega) only [gi_n]; exact h10, by rw [hM1]; simp (disch := omega) only [gi_n]; exact h5⟩
    have m0 : gi M1 7 0 = oi c := by rw [hM1]; simp (disch := omega) only [gi_n]; exact h0
    have m8 : gi M1 8 c = oi (tkn b n a) := by rw [hM1]; simp (disch := omega) only [gi_n, gi_e]
    have m10 : gi M1 10 c = oi sc := by rw [hM1, gi_e]
    have n18 : gi N1 94 18 = oi c := (g3.2 18 (by omega) (by omega) (by omega) (by omega) (by omega) (by omega)).trans h18
    have n16 : gi N1 94 16 = oi sr := g2.2.2.2.2.2.1
    have hr1 : ∀ r, r < c → Rul M1 N1 sc sr r := fun r hrc => (hr r hrc).kp (by rw [hM1, gi_n (by omega), gi_n (by omega), gi_n (by omega)]) (by rw [hM1, gi_n (by omega), gi_n (by omega), gi_n (by omega)]) (by rw [hM1, gi_n (by omega), gi_n (by omega), gi_n (by omega)]) (by
      by_cases hrc2 : r + 1 = c
      · rw [hrc2, m10, hlast (by omega)]
      · rw [hM1, gi_n (by omega), gi_n (by omega), gi_n (by omega)]) (fun i _ => by rw [hM1, gi_n (by omega), gi_n (by omega), gi_n (by omega)]) (fun i _ => g3.1.g (by decide)) (fun i _ => g4 i) (Nat.le_refl _) (Nat.le_refl _)
    have w9 := r_isW (h := 249) g2 (k := 9) (by omega) rfl
    have et9 := tI_eq (t := tkn b n (a + 1)) (v := 9) (by have := tkn_lt (b := b) (n := n) (a := a + 1); omega) (by omega)
    have mt : gi M1 13 (a + 1) = tI (tkn b n (a + 1)) := (hT1.2.2.2 (a + 1) (by omega)).2.1
    have hkd := k1 hin.1
    have mtM : gi M1 13 (a + 1) = gi M 13 (a + 1) := by rw [hM1]; simp (disch := omega) only [gi_n]
    by_cases hif : tkn b n (a + 1) = 9
    · have hak2 := tkn_k hT1 (a := a + 1) (by omega) (by omega)
      rw [if_pos hif] at w9
      have mt9 : gi M1 13 (a + 1) = oi 9 := by rw [mt]; exact et9.mpr hif
      obtain ⟨N2, z1, z2, z3, z4⟩ := r_nx hT1 g2 hak2
      have hGM2 : GM b n K (si M1 7 9 (oi (a + 1 + 1))) (a + 1 + 1) sc := ⟨hT1.fm (FM.s7 (by omega)), by omega, by omega, gi_e, by rw [gi_n (by omega)]; exact hGM1.2.2.2.2.1, by rw [gi_n (by omega)]; exact hGM1.2.2.2.2.2⟩
      have hsra := hG.2.2.1
      obtain ⟨M3, N3, u1, u2, u3, u4, u5⟩ := p_cond 3 0 8 8 (si M1 7 9 (oi (a + 1 + 1))) N2 (a + 1 + 1) sc sr (by omega) (by omega) (by omega) hGM2 z2 (by omega) (by omega)
      have hC : F_X6_readRule M = tlC M3 := by
        unfold F_X6_readRule tlC
        simp (disch := omega) only [l_0, l_1, l_2, l_3, l_4, l_5, l_6, l_7, l_8, l_9, l_10, l_11, l_12, l_13, l_14, l_15, l_16, l_17, l_18, l_19, l_20, l_21, l_22, l_23, l_24, l_25, l_26, l_27, l_28, l_29, l_30, l_31, l_32, l_33, l_34, l_35, l_36, l_37, l_38, l_39, l_40, l_41, l_42, l_43, l_44, l_45, l_46, l_47, l_48, l_49, l_50, l_51, l_52, l_53, l_54, l_55, l_56, l_57, l_58, l_59, l_60, l_61, l_62, l_63, l_64, l_65, l_66, l_67, l_68, l_69, l_70, l_71, l_72, l_73, l_74, l_75, l_76, l_77, l_78, l_79, l_80, l_81, l_82, l_83, l_84, l_85, l_86, l_87, l_88, l_89, l_90, l_91, l_92, l_93, l_94, l_95, l_96, l_97, l_98, l_99, l_100, l_101, l_102, l_103, l_104, l_105, l_106, l_107, l_108, l_109, l_110, l_111, l_121, l_122, l_160, l_200, l_201, l_240, l_255, l_361, l_390, l_499, l_500, l_999, l_1000, l_10000, l_10099, l_12345, l_16383, l_20000, l_20033, l_20038, l_20124, l_100000, l_1000000, l_1103515245, ui_oi, ck_oi, sb, jc_e, bl_0, bl_1, le_oi, lt_oi, eq_oi, add_oi, mul_oi, div_oi, ir_oi, gi_e, gi_n, if_true, if_false, if_pos, if_neg, true_and, and_true, false_and, and_false, true_or, or_true, false_or, or_false, h9, h0, hx2, h5, mtM.symm.trans mt9]
        rw [← hM1', u1]
        rfl
      have hR : F_X12_ruleHere N = tlR (oi (tkn b n a)) (oi sr) N3 := by
        unfold F_X12_ruleHere tlR
        simp (disch := omega) only [l_0, l_1, l_2, l_3, l_4, l_5, l_6, l_7, l_8, l_9, l_10, l_11, l_12, l_13, l_14, l_15, l_16, l_17, l_18, l_19, l_20, l_21, l_22, l_23, l_24, l_25, l_26, l_27, l_28, l_29, l_30, l_31, l_32, l_33, l_34, l_35, l_36, l_37, l_38, l_39, l_40, l_41, l_42, l_43, l_44, l_45, l_46, l_47, l_48, l_49, l_50, l_51, l_52, l_53, l_54, l_55, l_56, l_57, l_58, l_59, l_60, l_61, l_62, l_63, l_64, l_65, l_66, l_67, l_68, l_69, l_70, l_71, l_72, l_73, l_74, l_75, l_76, l_77, l_78, l_79, l_80, l_81, l_82, l_83, l_84, l_85, l_86, l_87, l_88, l_89, l_90, l_91, l_92, l_93, l_94, l_95, l_96, l_97, l_98, l_99, l_100, l_101, l_102, l_103, l_104, l_105, l_106, l_107, l_108, l_109, l_110, l_111, l_121, l_122, l_160, l_200, l_201, l_240, l_255, l_361, l_390, l_499, l_500, l_999, l_1000, l_10000, l_10099, l_12345, l_16383, l_20000, l_20033, l_20038, l_20124, l_100000, l_1000000, l_1103515245, ui_oi, ck_oi, sb, jc_e, bl_0, bl_1, le_oi, lt_oi, eq_oi, add_oi, mul_oi, div_oi, ir_oi, gi_e, gi_n, if_true, if_false, if_pos, if_neg, true_and, and_true, false_and, and_false, true_or, or_true, false_or, or_false, hkd, h18, g1, w9, n16, z1, u2]
        rfl
      have hFM : FM2 M M3 := hF1.tr ((FM.s7 (by omega)).tr u3).f2
      have hFR : FR2 N N3 := (g3.f2.tr z3.f2).tr u4.f2
      rcases u5 with ⟨s, bM, bN⟩ | ⟨a3, lc, lr, q1, q2, q3, q4, q5, v1, v2, v3, v4, hS⟩
      · obtain ⟨N', y1, y2, y3⟩ := r_tailB (r1 := oi (tkn b n a)) (f := oi sr) bN
        exact ⟨M3, N', hC.trans (c_tailB bM), hR.trans y1, hFM, hFR.tr y3, Or.inl ⟨s, bM, y2⟩⟩
      · have f3 : ∀ x j, x ≠ 7 → x ≠ 11 → gi M3 x j = gi M1 x j := fun x j p1 p2 => (u3.1.g (by simp; omega)).trans (gi_n (by omega))
        obtain ⟨M', N', x1, x2, x3, x4, x5⟩ := p_tl (k := tkn b n a) (s0 := sc) (f0 := sr) q4 q5 ((u3.2 0 (by omega) (by omega) (by omega)).trans ((gi_n (by omega)).trans m0)) ((u4.2 18 (by omega) (by omega) (by omega) (by omega) (by omega) (by omega)).trans ((z3.2 18 (by omega) (by omega) (by omega) (by omega) (by omega) (by omega)).trans n18)) hin.2 (fun r hrc => (hr1 r hrc).kp (f3 _ _ (by omega) (by omega)) (f3 _ _ (by omega) (by omega)) (f3 _ _ (by omega) (by omega)) (f3 _ _ (by omega) (by omega)) (fun i hi => (v1 i hi).trans (gi_n (by omega))) (fun i _ => (u4.1.g (by decide)).trans (z3.1.g (by decide))) (fun i hi => (v3 i hi).trans (z4 i)) (by omega) (by omega)) hin.1 ((f3 _ _ (by omega) (by omega)).trans m8) ((f3 _ _ (by omega) (by omega)).trans m10) rfl rfl v2 v4 (Or.inr hS)
        refine ⟨M', N', hC.trans x1, hR.trans x2, hFM.tr x3, hFR.tr x4, ?_⟩
        rcases x5 with x5 | ⟨a', p1, p2⟩
        · exact Or.inl x5
        · exact Or.inr ⟨hin.2, a', _, _, by omega, p2⟩
    · rw [if_neg hif] at w9
      have mt9 : ¬ gi M1 13 (a + 1) = oi 9 := by rw [mt]; exact fun q => hif (et9.mp q)
      have hmn : ¬ gi M 13 (a + 1) = oi 9 := by rw [← mtM]; exact mt9
      have hC : F_X6_readRule M = tlC M1 := by
        unfold F_X6_readRule tlC
        simp (disch := omega) only [l_0, l_1, l_2, l_3, l_4, l_5, l_6, l_7, l_8, l_9, l_10, l_11, l_12, l_13, l_14, l_15, l_16, l_17, l_18, l_19, l_20, l_21, l_22, l_23, l_24, l_25, l_26, l_27, l_28, l_29, l_30, l_31, l_32, l_33, l_34, l_35, l_36, l_37, l_38, l_39, l_40, l_41, l_42, l_43, l_44, l_45, l_46, l_47, l_48, l_49, l_50, l_51, l_52, l_53, l_54, l_55, l_56, l_57, l_58, l_59, l_60, l_61, l_62, l_63, l_64, l_65, l_66, l_67, l_68, l_69, l_70, l_71, l_72, l_73, l_74, l_75, l_76, l_77, l_78, l_79, l_80, l_81, l_82, l_83, l_84, l_85, l_86, l_87, l_88, l_89, l_90, l_91, l_92, l_93, l_94, l_95, l_96, l_97, l_98, l_99, l_100, l_101, l_102, l_103, l_104, l_105, l_106, l_107, l_108, l_109, l_110, l_111, l_121, l_122, l_160, l_200, l_201, l_240, l_255, l_361, l_390, l_499, l_500, l_999, l_1000, l_10000, l_10099, l_12345, l_16383, l_20000, l_20033, l_20038, l_20124, l_100000, l_1000000, l_1103515245, ui_oi, ck_oi, sb, jc_e, bl_0, bl_1, le_oi, lt_oi, eq_oi, add_oi, mul_oi, div_oi, ir_oi, gi_e, gi_n, if_true, if_false, if_pos, if_neg, true_and, and_true, false_and, and_false, true_or, or_true, false_or, or_false, h9, h0, hx2, h5, hmn]
        rw [← hM1']
      have hR : F_X12_ruleHere N = tlR (oi (tkn b n a)) (oi sr) N1 := by
        unfold F_X12_ruleHere tlR
        simp (disch := omega) only [l_0, l_1, l_2, l_3, l_4, l_5, l_6, l_7, l_8, l_9, l_10, l_11, l_12, l_13, l_14, l_15, l_16, l_17, l_18, l_19, l_20, l_21, l_22, l_23, l_24, l_25, l_26, l_27, l_28, l_29, l_30, l_31, l_32, l_33, l_34, l_35, l_36, l_37, l_38, l_39, l_40, l_41, l_42, l_43, l_44, l_45, l_46, l_47, l_48, l_49, l_50, l_51, l_52, l_53, l_54, l_55, l_56, l_57, l_58, l_59, l_60, l_61, l_62, l_63, l_64, l_65, l_66, l_67, l_68, l_69, l_70, l_71, l_72, l_73, l_74, l_75, l_76, l_77, l_78, l_79, l_80, l_81, l_82, l_83, l_84, l_85, l_86, l_87, l_88, l_89, l_90, l_91, l_92, l_93, l_94, l_95, l_96, l_97, l_98, l_99, l_100, l_101, l_102, l_103, l_104, l_105, l_106, l_107, l_108, l_109, l_110, l_111, l_121, l_122, l_160, l_200, l_201, l_240, l_255, l_361, l_390, l_499, l_500, l_999, l_1000, l_10000, l_10099, l_12345, l_16383, l_20000, l_20033, l_20038, l_20124, l_100000, l_1000000, l_1103515245, ui_oi, ck_oi, sb, jc_e, bl_0, bl_1, le_oi, lt_oi, eq_oi, add_oi, mul_oi, div_oi, ir_oi, gi_e, gi_n, if_true, if_false, if_pos, if_neg, true_and, and_true, false_and, and_false, true_or, or_true, false_or, or_false, hkd, h18, g1, w9, n16]
        rfl
      obtain ⟨M', N', x1, x2, x3, x4, x5⟩ := p_tl (k := tkn b n a) (s0 := sc) (f0 := sr) (lc := []) (lr := []) hGM1 g2 m0 n18 hin.2 hr1 hin.1 m8 m10 rfl rfl (fun i hi => absurd hi (Nat.not_lt_zero i)) (fun i hi => absurd hi (Nat.not_lt_zero i)) (Or.inl ⟨rfl, rfl⟩)
      refine ⟨M', N', hC.trans x1, hR.trans x2, hF1.tr x3, g3.f2.tr x4, ?_⟩
      rcases x5 with x5 | ⟨a', p1, p2⟩
      · exact Or.inl x5
      · exact Or.inr ⟨hin.2, a', _, _, by omega, p2⟩
  · have hbM : BM b n K (si M 7 10 (oi (zPl b n a))) (zPl b n a) := ⟨hT.fm (FM.s7 (by omega)), hpl, gi_e, a, hK, by rw [gi_n (by omega)]; exact h9⟩
    obtain ⟨g1, g2⟩ := r_go0 hG
    have hneg2 : ¬ (oi (tkn b n a) < oi 0) := by rw [lt_oi (by omega) (by omega)]; omega
    have hC : F_X6_readRule M = some (si M 7 10 (oi (zPl b n a))) := by
      unfold F_X6_readRule
      by_cases h8 : 8 ≤ c
      · simp (disch := omega) only [l_0, l_1, l_2, l_3, l_4, l_5, l_6, l_7, l_8, l_9, l_10, l_11, l_12, l_13, l_14, l_15, l_16, l_17, l_18, l_19, l_20, l_21, l_22, l_23, l_24, l_25, l_26, l_27, l_28, l_29, l_30, l_31, l_32, l_33, l_34, l_35, l_36, l_37, l_38, l_39, l_40, l_41, l_42, l_43, l_44, l_45, l_46, l_47, l_48, l_49, l_50, l_51, l_52, l_53, l_54, l_55, l_56, l_57, l_58, l_59, l_60, l_61, l_62, l_63, l_64, l_65, l_66, l_67, l_68, l_69, l_70, l_71, l_72, l_73, l_74, l_75, l_76, l_77, l_78, l_79, l_80, l_81, l_82, l_83, l_84, l_85, l_86, l_87, l_88, l_89, l_90, l_91, l_92, l_93, l_94, l_95, l_96, l_97, l_98, l_99, l_100, l_101, l_102, l_103, l_104, l_105, l_106, l_107, l_108, l_109, l_110, l_111, l_121, l_122, l_160, l_200, l_201, l_240, l_255, l_361, l_390, l_499, l_500, l_999, l_1000, l_10000, l_10099, l_12345, l_16383, l_20000, l_20033, l_20038, l_20124, l_100000, l_1000000, l_1103515245, ui_oi, ck_oi, sb, jc_e, bl_0, bl_1, le_oi, lt_oi, eq_oi, add_oi, mul_oi, div_oi, ir_oi, gi_e, gi_n, if_true, if_false, if_pos, if_neg, true_and, and_true, false_and, and_false, true_or, or_true, false_or, or_false, h9, h0, hx2, hx1]
      · by_cases htn : tI (tkn b n a) < oi 0
        · simp (disch := omega) only [l_0, l_1, l_2, l_3, l_4, l_5, l_6, l_7, l_8, l_9, l_10, l_11, l_12, l_13, l_14, l_15, l_16, l_17, l_18, l_19, l_20, l_21, l_22, l_23, l_24, l_25, l_26, l_27, l_28, l_29, l_30, l_31, l_32, l_33, l_34, l_35, l_36, l_37, l_38, l_39, l_40, l_41, l_42, l_43, l_44, l_45, l_46, l_47, l_48, l_49, l_50, l_51, l_52, l_53, l_54, l_55, l_56, l_57, l_58, l_59, l_60, l_61, l_62, l_63, l_64, l_65, l_66, l_67, l_68, l_69, l_70, l_71, l_72, l_73, l_74, l_75, l_76, l_77, l_78, l_79, l_80, l_81, l_82, l_83, l_84, l_85, l_86, l_87, l_88, l_89, l_90, l_91, l_92, l_93, l_94, l_95, l_96, l_97, l_98, l_99, l_100, l_101, l_102, l_103, l_104, l_105, l_106, l_107, l_108, l_109, l_110, l_111, l_121, l_122, l_160, l_200, l_201, l_240, l_255, l_361, l_390, l_499, l_500, l_999, l_1000, l_10000, l_10099, l_12345, l_16383, l_20000, l_20033, l_20038, l_20124, l_100000, l_1000000, l_1103515245, ui_oi, ck_oi, sb, jc_e, bl_0, bl_1, le_oi, lt_oi, eq_oi, add_oi, mul_oi, div_oi, ir_oi, gi_e, gi_n, if_true, if_false, if_pos, if_neg, true_and, and_true, false_and, and_false, true_or, or_true, false_or, or_false, h9, h0, hx2, hx1, htn]
        · have hl2 := (not_congr hl0).mp htn
          have ht := tI_oi (t := tkn b n a) (by omega) (by omega)
          rw [ht] at hx2
          simp (disch := omega) only [l_0, l_1, l_2, l_3, l_4, l_5, l_6, l_7, l_8, l_9, l_10, l_11, l_12, l_13, l_14, l_15, l_16, l_17, l_18, l_19, l_20, l_21, l_22, l_23, l_24, l_25, l_26, l_27, l_28, l_29, l_30, l_31, l_32, l_33, l_34, l_35, l_36, l_37, l_38, l_39, l_40, l_41, l_42, l_43, l_44, l_45, l_46, l_47, l_48, l_49, l_50, l_51, l_52, l_53, l_54, l_55, l_56, l_57, l_58, l_59, l_60, l_61, l_62, l_63, l_64, l_65, l_66, l_67, l_68, l_69, l_70, l_71, l_72, l_73, l_74, l_75, l_76, l_77, l_78, l_79, l_80, l_81, l_82, l_83, l_84, l_85, l_86, l_87, l_88, l_89, l_90, l_91, l_92, l_93, l_94, l_95, l_96, l_97, l_98, l_99, l_100, l_101, l_102, l_103, l_104, l_105, l_106, l_107, l_108, l_109, l_110, l_111, l_121, l_122, l_160, l_200, l_201, l_240, l_255, l_361, l_390, l_499, l_500, l_999, l_1000, l_10000, l_10099, l_12345, l_16383, l_20000, l_20033, l_20038, l_20124, l_100000, l_1000000, l_1103515245, ui_oi, ck_oi, sb, jc_e, bl_0, bl_1, le_oi, lt_oi, eq_oi, add_oi, mul_oi, div_oi, ir_oi, gi_e, gi_n, if_true, if_false, if_pos, if_neg, true_and, and_true, false_and, and_false, true_or, or_true, false_or, or_false, h9, h0, hx2, hx1]
    obtain ⟨r1, hr1⟩ : ∃ r1, F_X12_kindHere N = some r1 := by
      by_cases h5' : tkn b n a ≤ 5
      · exact ⟨_, k1 h5'⟩
      · exact ⟨_, k2 h5'⟩
    obtain ⟨N', y1, y2, y3⟩ := r_tailB (r1 := r1) (f := gi (si N 94 13 (oi 1)) 94 16) g2
    have hR : F_X12_ruleHere N = tlR r1 (gi (si N 94 13 (oi 1)) 94 16) (si N 94 13 (oi 1)) := by
      unfold F_X12_ruleHere tlR
      by_cases h5' : tkn b n a ≤ 5
      · have hk5 := k1 h5'
        rw [hk5] at hr1
        have hr1 := Option.some.inj hr1
        rw [← hr1, hk5]
        simp (disch := omega) only [l_0, l_1, l_2, l_3, l_4, l_5, l_6, l_7, l_8, l_9, l_10, l_11, l_12, l_13, l_14, l_15, l_16, l_17, l_18, l_19, l_20, l_21, l_22, l_23, l_24, l_25, l_26, l_27, l_28, l_29, l_30, l_31, l_32, l_33, l_34, l_35, l_36, l_37, l_38, l_39, l_40, l_41, l_42, l_43, l_44, l_45, l_46, l_47, l_48, l_49, l_50, l_51, l_52, l_53, l_54, l_55, l_56, l_57, l_58, l_59, l_60, l_61, l_62, l_63, l_64, l_65, l_66, l_67, l_68, l_69, l_70, l_71, l_72, l_73, l_74, l_75, l_76, l_77, l_78, l_79, l_80, l_81, l_82, l_83, l_84, l_85, l_86, l_87, l_88, l_89, l_90, l_91, l_92, l_93, l_94, l_95, l_96, l_97, l_98, l_99, l_100, l_101, l_102, l_103, l_104, l_105, l_106, l_107, l_108, l_109, l_110, l_111, l_121, l_122, l_160, l_200, l_201, l_240, l_255, l_361, l_390, l_499, l_500, l_999, l_1000, l_10000, l_10099, l_12345, l_16383, l_20000, l_20033, l_20038, l_20124, l_100000, l_1000000, l_1103515245, ui_oi, ck_oi, sb, jc_e, bl_0, bl_1, le_oi, lt_oi, eq_oi, add_oi, mul_oi, div_oi, ir_oi, gi_e, gi_n, if_true, if_false, if_pos, if_neg, true_and, and_true, false_and, and_false, true_or, or_true, false_or, or_false, h18, g1, r_isWB g2]
        rfl
      · have hk5 := k2 h5'
        rw [hk5] at hr1
        have hr1 := Option.some.inj hr1
        rw [← hr1, hk5]
        simp (disch := omega) only [l_0, l_1, l_2, l_3, l_4, l_5, l_6, l_7, l_8, l_9, l_10, l_11, l_12, l_13, l_14, l_15, l_16, l_17, l_18, l_19, l_20, l_21, l_22, l_23, l_24, l_25, l_26, l_27, l_28, l_29, l_30, l_31, l_32, l_33, l_34, l_35, l_36, l_37, l_38, l_39, l_40, l_41, l_42, l_43, l_44, l_45, l_46, l_47, l_48, l_49, l_50, l_51, l_52, l_53, l_54, l_55, l_56, l_57, l_58, l_59, l_60, l_61, l_62, l_63, l_64, l_65, l_66, l_67, l_68, l_69, l_70, l_71, l_72, l_73, l_74, l_75, l_76, l_77, l_78, l_79, l_80, l_81, l_82, l_83, l_84, l_85, l_86, l_87, l_88, l_89, l_90, l_91, l_92, l_93, l_94, l_95, l_96, l_97, l_98, l_99, l_100, l_101, l_102, l_103, l_104, l_105, l_106, l_107, l_108, l_109, l_110, l_111, l_121, l_122, l_160, l_200, l_201, l_240, l_255, l_361, l_390, l_499, l_500, l_999, l_1000, l_10000, l_10099, l_12345, l_16383, l_20000, l_20033, l_20038, l_20124, l_100000, l_1000000, l_1103515245, ui_oi, ck_oi, sb, jc_e, bl_0, bl_1, le_oi, lt_oi, eq_oi, add_oi, mul_oi, div_oi, ir_oi, gi_e, gi_n, if_true, if_false, if_pos, if_neg, true_and, and_true, false_and, and_false, true_or, or_true, false_or, or_false, h18, g1, hneg, r_isWB g2]
        rfl
    exact ⟨_, N', hC, hR.trans y1, FM2.si (by omega), (FR.s4 (by omega)).f2.tr y3, Or.inl ⟨_, hbM, y2⟩⟩
end PH

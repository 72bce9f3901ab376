/-! THE TEXT OF RULES: a whole rule, both sides -/
def tlR (r1 f : Int32) (M : Mm) : Option Mm := (F_X12_doHere M).bind fun r51 => jc (fun (x65_0 : Int32) => ((F_X12_goesBy M x65_0).bind fun r65 => jc (fun (M : Mm) => ((if (gi M 94 13) = 0 then ck (4 * (gi M 94 18)) 32 (ck ((4 * (gi (si M 102 (ui (4 * (gi M 94 18))) r1) 94 18)) + 1) 32 (ck ((4 * (gi (si (si M 102 (ui (4 * (gi M 94 18))) r1) 102 (ui ((4 * (gi (si M 102 (ui (4 * (gi M 94 18))) r1) 94 18)) + 1)) r51) 94 18)) + 2) 32 (ck ((4 * (gi (si (si (si M 102 (ui (4 * (gi M 94 18))) r1) 102 (ui ((4 * (gi (si M 102 (ui (4 * (gi M 94 18))) r1) 94 18)) + 1)) r51) 102 (ui ((4 * (gi (si (si M 102 (ui (4 * (gi M 94 18))) r1) 102 (ui ((4 * (gi (si M 102 (ui (4 * (gi M 94 18))) r1) 94 18)) + 1)) r51) 94 18)) + 2)) f) 94 18)) + 3) 32 ((F_X12_next (si (si (si (si (si M 102 (ui (4 * (gi M 94 18))) r1) 102 (ui ((4 * (gi (si M 102 (ui (4 * (gi M 94 18))) r1) 94 18)) + 1)) r51) 102 (ui ((4 * (gi (si (si M 102 (ui (4 * (gi M 94 18))) r1) 102 (ui ((4 * (gi (si M 102 (ui (4 * (gi M 94 18))) r1) 94 18)) + 1)) r51) 94 18)) + 2)) f) 102 (ui ((4 * (gi (si (si (si M 102 (ui (4 * (gi M 94 18))) r1) 102 (ui ((4 * (gi (si M 102 (ui (4 * (gi M 94 18))) r1) 94 18)) + 1)) r51) 102 (ui ((4 * (gi (si (si M 102 (ui (4 * (gi M 94 18))) r1) 102 (ui ((4 * (gi (si M 102 (ui (4 * (gi M 94 18))) r1) 94 18)) + 1)) r51) 94 18)) + 2)) f) 94 18)) + 3)) (gi (si (si (si M 102 (ui (4 * (gi M 94 18))) r1) 102 (ui ((4 * (gi (si M 102 (ui (4 * (gi M 94 18))) r1) 94 18)) + 1)) r51) 102 (ui ((4 * (gi (si (si M 102 (ui (4 * (gi M 94 18))) r1) 102 (ui ((4 * (gi (si M 102 (ui (4 * (gi M 94 18))) r1) 94 18)) + 1)) r51) 94 18)) + 2)) f) 94 16)) 94 18 ((gi (si (si (si (si M 102 (ui (4 * (gi M 94 18))) r1) 102 (ui ((4 * (gi (si M 102 (ui (4 * (gi M 94 18))) r1) 94 18)) + 1)) r51) 102 (ui ((4 * (gi (si (si M 102 (ui (4 * (gi M 94 18))) r1) 102 (ui ((4 * (gi (si M 102 (ui (4 * (gi M 94 18))) r1) 94 18)) + 1)) r51) 94 18)) + 2)) f) 102 (ui ((4 * (gi (si (si (si M 102 (ui (4 * (gi M 94 18))) r1) 102 (ui ((4 * (gi (si M 102 (ui (4 * (gi M 94 18))) r1) 94 18)) + 1)) r51) 102 (ui ((4 * (gi (si (si M 102 (ui (4 * (gi M 94 18))) r1) 102 (ui ((4 * (gi (si M 102 (ui (4 * (gi M 94 18))) r1) 94 18)) + 1)) r51) 94 18)) + 2)) f) 94 18)) + 3)) (gi (si (si (si M 102 (ui (4 * (gi M 94 18))) r1) 102 (ui ((4 * (gi (si M 102 (ui (4 * (gi M 94 18))) r1) 94 18)) + 1)) r51) 102 (ui ((4 * (gi (si (si M 102 (ui (4 * (gi M 94 18))) r1) 102 (ui ((4 * (gi (si M 102 (ui (4 * (gi M 94 18))) r1) 94 18)) + 1)) r51) 94 18)) + 2)) f) 94 16)) 94 18) + 1))).bind fun r164 => some r164)))) else some M) : Option Mm)) (fun j89 => (if (gi r65 94 13) = 0 then (F_X12_isByte r65 59).bind fun r78 => (if r78 = 0 then bl 1 (j89 (si r65 94 13 1)) else j89 r65) else j89 r65)) : Option Mm)) (fun j65 => (if r51 < 0 then j65 0 else j65 1))
section PG
variable {M N M' N' N1 M1 : Mm} {b : Nat → Nat} {n K a sc sr o s t k c D f0 : Nat}
theorem r_tailB {r1 f : Int32} (hN : BN b n N s) : ∃ N', tlR r1 f N = some N' ∧ BN b n N' s ∧ FR2 N N' := by
  obtain ⟨g1, g2⟩ := r_goB (v := oi 0) hN
  have h13 := g2.2.2.1
  have hneg : (- oi 1 : Int32) < oi 0 := by decide
  refine ⟨_, ?_, g2, (FR.s4 (by omega)).f2⟩
  unfold tlR
  simp (disch := omega) only [l_0, l_1, l_2, l_3, l_4, l_5, l_6, l_7, l_8, l_9, l_10, l_11, l_12, l_13, l_14, l_15, l_16, l_17, l_18, l_19, l_20, l_21, l_22, l_23, l_24, l_25, l_26, l_27, l_28, l_29, l_30, l_31, l_32, l_33, l_34, l_35, l_36, l_37, l_38, l_39, l_40, l_41, l_42, l_43, l_44, l_45, l_46, l_47, l_48, l_49, l_50, l_51, l_52, l_53, l_54, l_55, l_56, l_57, l_58, l_59, l_60, l_61, l_62, l_63, l_64, l_65, l_66, l_67, l_68, l_69, l_70, l_71, l_72, l_73, l_74, l_75, l_76, l_77, l_78, l_79, l_80, l_81, l_82, l_83, l_84, l_85, l_86, l_87, l_88, l_89, l_90, l_91, l_92, l_93, l_94, l_95, l_96, l_97, l_98, l_99, l_100, l_101, l_102, l_103, l_104, l_105, l_106, l_107, l_108, l_109, l_110, l_111, l_121, l_122, l_160, l_200, l_201, l_240, l_255, l_361, l_390, l_499, l_500, l_999, l_1000, l_10000, l_10099, l_12345, l_16383, l_20000, l_20033, l_20038, l_20124, l_100000, l_1000000, l_1103515245, ui_oi, ck_oi, sb, jc_e, bl_0, bl_1, le_oi, lt_oi, eq_oi, add_oi, mul_oi, div_oi, ir_oi, gi_e, gi_n, if_true, if_false, if_pos, if_neg, true_and, and_true, false_and, and_false, true_or, or_true, false_or, or_false, r_doB hN, hneg, g1]
theorem r_tail (hT : TKM b n K M) (hak : a ≤ K) (hG : GN b n N a sr 0) (h18 : gi N 94 18 = oi c) (hc : c < 8) : (6 ≤ tkn b n a → tkn b n a ≤ 8 → tkn b n (a + 1) = 20 → ∃ N', tlR (oi k) (oi f0) N = some N' ∧ GN b n N' (a + 2) sr 0 ∧ gi N' 94 18 = oi (c + 1) ∧ gi N' 102 (4 * c) = oi k ∧ gi N' 102 (4 * c + 1) = oi (tkn b n a - 6) ∧ gi N' 102 (4 * c + 2) = oi f0 ∧ gi N' 102 (4 * c + 3) = oi sr ∧ (∀ i, i < 4 * c → gi N' 102 i = gi N 102 i) ∧ (∀ i, gi N' 101 i = gi N 101 i) ∧ FR2 N N') ∧ (6 ≤ tkn b n a → tkn b n a ≤ 8 → tkn b n (a + 1) ≠ 20 → ∃ N', tlR (oi k) (oi f0) N = some N' ∧ BN b n N' (zPl b n (a + 1)) ∧ FR2 N N') ∧ (¬ (6 ≤ tkn b n a ∧ tkn b n a ≤ 8) → ∃ N', tlR (oi k) (oi f0) N = some N' ∧ BN b n N' (zPl b n a) ∧ FR2 N N') := by
  obtain ⟨y1, y2, y3, y4, y5, y6⟩ := by_v
  obtain ⟨d1, d2⟩ := r_do hG
  have hneg : (- oi 1 : Int32) < oi 0 := by decide
  refine ⟨fun t1 t2 t3 => ?_, fun t1 t2 t3 => ?_, fun t1 => ?_⟩
  · have hK := tkn_k hT hak (by omega)
    have hd := d1 t1 t2
    obtain ⟨N1, g1, g2, g3, g4⟩ := r_go1 hT hG hK
    have w20 := r_isB (h := oi 59) g2 (k := 20) (by omega) (by omega) (by rw [y6])
    rw [if_pos t3] at w20
    have hK2 := tkn_k hT (a := a + 1) (by omega) (by omega)
    have q18 : gi N1 94 18 = oi c := (g3.2 18 (by omega) (by omega) (by omega) (by omega) (by omega) (by omega)).trans h18
    have q13 : gi N1 94 13 = oi 0 := g2.2.2.2.2.1
    have q16 : gi N1 94 16 = oi sr := g2.2.2.2.2.2.1
    obtain ⟨N2, hN2⟩ : ∃ N2, N2 = si (si (si (si (si N1 102 (4 * c) (oi k)) 102 (4 * c + 1) (oi (tkn b n a - 6))) 102 (4 * c + 2) (oi f0)) 102 (4 * c + 3) (oi sr)) 94 18 (oi (c + 1)) := ⟨_, rfl⟩
    have hO2 : Oc [94, 102] N1 N2 := by
      rw [hN2]
      exact ((((Oc.si (S := [94, 102]) (by simp)).tr (Oc.si (S := [94, 102]) (by simp)) (fun c hc => ⟨hc, hc⟩)).tr (Oc.si (S := [94, 102]) (by simp)) (fun c hc => ⟨hc, hc⟩)).tr (Oc.si (S := [94, 102]) (by simp)) (fun c hc => ⟨hc, hc⟩)).tr (Oc.si (S := [94, 102]) (by simp)) (fun c hc => ⟨hc, hc⟩)
    have hF2 : FR2 N1 N2 := by
      rw [hN2]
      exact (((FR2.s2.tr FR2.s2).tr FR2.s2).tr FR2.s2).tr FR2.s4
    have hG2 : GN b n N2 (a + 1) sr 0 := g2.mv hO2 (fun j hj => by rw [hN2]; simp (disch := omega) only [gi_n]) (by rw [hN2]; rfl)
    obtain ⟨N3, x1, x2, x3, x4⟩ := r_nx hT hG2 hK2
    have e102 : ∀ i, gi N3 102 i = gi N2 102 i := fun i => x3.1.g (by decide)
    refine ⟨N3, ?_, x2, ?_, ?_, ?_, ?_, ?_, fun i hi => ?_, fun i => ?_, (g3.f2.tr hF2).tr x3.f2⟩
    · unfold tlR
      simp (disch := omega) only [l_0, l_1, l_2, l_3, l_4, l_5, l_6, l_7, l_8, l_9, l_10, l_11, l_12, l_13, l_14, l_15, l_16, l_17, l_18, l_19, l_20, l_21, l_22, l_23, l_24, l_25, l_26, l_27, l_28, l_29, l_30, l_31, l_32, l_33, l_34, l_35, l_36, l_37, l_38, l_39, l_40, l_41, l_42, l_43, l_44, l_45, l_46, l_47, l_48, l_49, l_50, l_51, l_52, l_53, l_54, l_55, l_56, l_57, l_58, l_59, l_60, l_61, l_62, l_63, l_64, l_65, l_66, l_67, l_68, l_69, l_70, l_71, l_72, l_73, l_74, l_75, l_76, l_77, l_78, l_79, l_80, l_81, l_82, l_83, l_84, l_85, l_86, l_87, l_88, l_89, l_90, l_91, l_92, l_93, l_94, l_95, l_96, l_97, l_98, l_99, l_100, l_101, l_102, l_103, l_104, l_105, l_106, l_107, l_108, l_109, l_110, l_111, l_121, l_122, l_160, l_200, l_201, l_240, l_255, l_361, l_390, l_499, l_500, l_999, l_1000, l_10000, l_10099, l_12345, l_16383, l_20000, l_20033, l_20038, l_20124, l_100000, l_1000000, l_1103515245, ui_oi, ck_oi, sb, jc_e, bl_0, bl_1, le_oi, lt_oi, eq_oi, add_oi, mul_oi, div_oi, ir_oi, gi_e, gi_n, if_true, if_false, if_pos, if_neg, true_and, and_true, false_and, and_false, true_or, or_true, false_or, or_false, hd, g1, q13, w20, q18, q16]
      rw [← hN2, x1]
      rfl
    · rw [x3.2 18 (by omega) (by omega) (by omega) (by omega) (by omega) (by omega), hN2, gi_e]
    · rw [e102, hN2]
      simp (disch := omega) only [gi_n, gi_e]
    · rw [e102, hN2]
      simp (disch := omega) only [gi_n, gi_e]
    · rw [e102, hN2]
      simp (disch := omega) only [gi_n, gi_e]
    · rw [e102, hN2]
      simp (disch := omega) only [gi_n, gi_e]
    · rw [e102, hN2]
      simp (disch := omega) only [gi_n]
      exact g3.1.g (by decide)
    · rw [x4 i, hN2]
      simp (disch := omega) only [gi_n]
      exact g4 i
  · have hK := tkn_k hT hak (by omega)
    have hd := d1 t1 t2
    obtain ⟨N1, g1, g2, g3, g4⟩ := r_go1 hT hG hK
    have w20 := r_isB (h := oi 59) g2 (k := 20) (by omega) (by omega) (by rw [y6])
    rw [if_neg t3] at w20
    have q13 : gi N1 94 13 = oi 0 := g2.2.2.2.2.1
    obtain ⟨hY, h8, hs', ⟨q9, q10, hD⟩, h13, h16, h14⟩ := id g2
    refine ⟨si N1 94 13 (oi 1), ?_, ⟨hY.oc (S := [94]) (Oc.si (by simp)) (by decide), by rw [gi_n (by omega)]; exact h8, gi_e, by rw [gi_n (by omega)]; exact q10⟩, g3.f2.tr (FR.s4 (by omega)).f2⟩
    unfold tlR
    simp (disch := omega) only [l_0, l_1, l_2, l_3, l_4, l_5, l_6, l_7, l_8, l_9, l_10, l_11, l_12, l_13, l_14, l_15, l_16, l_17, l_18, l_19, l_20, l_21, l_22, l_23, l_24, l_25, l_26, l_27, l_28, l_29, l_30, l_31, l_32, l_33, l_34, l_35, l_36, l_37, l_38, l_39, l_40, l_41, l_42, l_43, l_44, l_45, l_46, l_47, l_48, l_49, l_50, l_51, l_52, l_53, l_54, l_55, l_56, l_57, l_58, l_59, l_60, l_61, l_62, l_63, l_64, l_65, l_66, l_67, l_68, l_69, l_70, l_71, l_72, l_73, l_74, l_75, l_76, l_77, l_78, l_79, l_80, l_81, l_82, l_83, l_84, l_85, l_86, l_87, l_88, l_89, l_90, l_91, l_92, l_93, l_94, l_95, l_96, l_97, l_98, l_99, l_100, l_101, l_102, l_103, l_104, l_105, l_106, l_107, l_108, l_109, l_110, l_111, l_121, l_122, l_160, l_200, l_201, l_240, l_255, l_361, l_390, l_499, l_500, l_999, l_1000, l_10000, l_10099, l_12345, l_16383, l_20000, l_20033, l_20038, l_20124, l_100000, l_1000000, l_1103515245, ui_oi, ck_oi, sb, jc_e, bl_0, bl_1, le_oi, lt_oi, eq_oi, add_oi, mul_oi, div_oi, ir_oi, gi_e, gi_n, if_true, if_false, if_pos, if_neg, true_and, and_true, false_and, and_false, true_or, or_true, false_or, or_false, hd, g1, q13, w20]
  · have hd := d2 t1
    obtain ⟨g1, g2⟩ := r_go0 hG
    refine ⟨_, ?_, g2, (FR.s4 (by omega)).f2⟩
    unfold tlR
    simp (disch := omega) only [l_0, l_1, l_2, l_3, l_4, l_5, l_6, l_7, l_8, l_9, l_10, l_11, l_12, l_13, l_14, l_15, l_16, l_17, l_18, l_19, l_20, l_21, l_22, l_23, l_24, l_25, l_26, l_27, l_28, l_29, l_30, l_31, l_32, l_33, l_34, l_35, l_36, l_37, l_38, l_39, l_40, l_41, l_42, l_43, l_44, l_45, l_46, l_47, l_48, l_49, l_50, l_51, l_52, l_53, l_54, l_55, l_56, l_57, l_58, l_59, l_60, l_61, l_62, l_63, l_64, l_65, l_66, l_67, l_68, l_69, l_70, l_71, l_72, l_73, l_74, l_75, l_76, l_77, l_78, l_79, l_80, l_81, l_82, l_83, l_84, l_85, l_86, l_87, l_88, l_89, l_90, l_91, l_92, l_93, l_94, l_95, l_96, l_97, l_98, l_99, l_100, l_101, l_102, l_103, l_104, l_105, l_106, l_107, l_108, l_109, l_110, l_111, l_121, l_122, l_160, l_200, l_201, l_240, l_255, l_361, l_390, l_499, l_500, l_999, l_1000, l_10000, l_10099, l_12345, l_16383, l_20000, l_20033, l_20038, l_20124, l_100000, l_1000000, l_1103515245, ui_oi, ck_oi, sb, jc_e, bl_0, bl_1, le_oi, lt_oi, eq_oi, add_oi, mul_oi, div_oi, ir_oi, gi_e, gi_n, if_true, if_false, if_pos, if_neg, true_and, and_true, false_and, and_false, true_or, or_true, false_or, or_false, hd, hneg, g1]
/-- a rule both have read -/
def Rul (M N : Mm) (sc sr r : Nat) : Prop := ∃ k dd s0 f0 lc lr, k ≤ 5 ∧ dd ≤ 2 ∧ gi M 8 r = oi k ∧ gi M 9 r = oi dd ∧ gi M 10 r = oi s0 ∧ gi M 10 (r + 1) = oi (s0 + lc.length) ∧ s0 + lc.length ≤ sc ∧ SgC M s0 lc ∧ gi N 102 (4 * r) = oi k ∧ gi N 102 (4 * r + 1) = oi dd ∧ gi N 102 (4 * r + 2) = oi f0 ∧ gi N 102 (4 * r + 3) = oi (f0 + lr.length) ∧ f0 + lr.length ≤ sr ∧ SgR N f0 lr ∧ ((lc = [] ∧ lr = []) ∨ SM 11 lc lr)
theorem Rul.kp {r sc' sr' : Nat} (h : Rul M N sc sr r) (h8 : gi M' 8 r = gi M 8 r) (h9 : gi M' 9 r = gi M 9 r) (h10 : gi M' 10 r = gi M 10 r) (h10' : gi M' 10 (r + 1) = gi M 10 (r + 1)) (h11 : ∀ i, i < sc → gi M' 11 i = gi M 11 i) (h102 : ∀ i, i < 4 * r + 4 → gi N' 102 i = gi N 102 i) (h101 : ∀ i, i < sr → gi N' 101 i = gi N 101 i) (hsc : sc ≤ sc') (hsr : sr ≤ sr') : Rul M' N' sc' sr' r := by
  obtain ⟨k, dd, s0, f0, lc, lr, a1, a2, a3, a4, a5, a6, a7, a8, b1, b2, b3, b4, b5, b6, b7⟩ := h
  exact ⟨k, dd, s0, f0, lc, lr, a1, a2, h8.trans a3, h9.trans a4, h10.trans a5, h10'.trans a6, by omega, a8.kp (fun i hi => h11 i (by omega)), (h102 _ (by omega)).trans b1, (h102 _ (by omega)).trans b2, (h102 _ (by omega)).trans b3, (h102 _ (by omega)).trans b4, by omega, b6.kp (fun i hi => h101 i (by omega)), b7⟩
end PG

/-! THE TEXT OF RULES: one condition, turned round or in brackets -/
section PD
variable {M N M' N' N1 M1 : Mm} {b : Nat → Nat} {n K a sc sr o s t k c D : Nat}
/-- what is asked of the reading of a condition one deeper -/
def RC (b : Nat → Nat) (n K : Nat) (rcC : Mm → Int32 → Option Mm) (rcR : Mm → Option Mm) (o D : Nat) : Prop := (o < 3 → ∀ M N a sc sr, GM b n K M a sc → GN b n N a sr (o + 1) → sr + 1 ≤ a → sc + 1 ≤ a → ∃ M' N', rcC M (oi (o + 1)) = some M' ∧ rcR N = some N' ∧ OUT b n K M N M' N' a sc sr (o + 1) (SM D)) ∧ (∀ N s, BN b n N s → rcR N = some N)
theorem BN.s14 {v : Int32} (h : BN b n N s) : BN b n (si N 94 14 v) s := ⟨h.1.oc (S := [94]) (Oc.si (by simp)) (by decide), by rw [gi_n (by omega)]; exact h.2.1, by rw [gi_n (by omega)]; exact h.2.2.1, by rw [gi_n (by omega)]; exact h.2.2.2⟩
theorem GN.s14 {v : Nat} (h : GN b n N a sr o) : GN b n (si N 94 14 (oi v)) a sr v := by
  obtain ⟨hY, h8, hs', ⟨q9, q10, hD⟩, h13, h16, h14⟩ := h
  exact ⟨hY.oc (S := [94]) (Oc.si (by simp)) (by decide), by rw [gi_n (by omega)]; exact h8, hs', ⟨by rw [gi_n (by omega)]; exact q9, by rw [gi_n (by omega)]; exact q10, by
    unfold TD at hD ⊢
    simp (disch := omega) only [gi_n, gl_si]
    exact hD⟩, by rw [gi_n (by omega)]; exact h13, by rw [gi_n (by omega)]; exact h16, gi_e⟩
theorem r_laysB {rcR : Mm → Option Mm} (hG : BN b n N s) : ∀ m i fu, i + m = c → m < fu → c ≤ 1000 → F_X12_one_L146 rcR (oi c) fu N (oi i) = some N := by
  intro m
  induction m with
  | zero =>
    intro i fu hi hf hc
    obtain ⟨fu', rfl⟩ : ∃ q, fu = q + 1 := ⟨fu - 1, by omega⟩
    rw [F_X12_one_L146]
    simp (disch := omega) only [l_0, l_1, l_2, l_3, l_4, l_5, l_6, l_7, l_8, l_9, l_10, l_11, l_12, l_13, l_14, l_15, l_16, l_17, l_18, l_19, l_20, l_21, l_22, l_23, l_24, l_25, l_26, l_27, l_28, l_29, l_30, l_31, l_32, l_33, l_34, l_35, l_36, l_37, l_38, l_39, l_40, l_41, l_42, l_43, l_44, l_45, l_46, l_47, l_48, l_49, l_50, l_51, l_52, l_53, l_54, l_55, l_56, l_57, l_58, l_59, l_60, l_61, l_62, l_63, l_64, l_65, l_66, l_67, l_68, l_69, l_70, l_71, l_72, l_73, l_74, l_75, l_76, l_77, l_78, l_79, l_80, l_81, l_82, l_83, l_84, l_85, l_86, l_87, l_88, l_89, l_90, l_91, l_92, l_93, l_94, l_95, l_96, l_97, l_98, l_99, l_100, l_101, l_102, l_103, l_104, l_105, l_106, l_107, l_108, l_109, l_110, l_111, l_121, l_122, l_160, l_200, l_201, l_240, l_255, l_361, l_390, l_499, l_500, l_999, l_1000, l_10000, l_10099, l_12345, l_16383, l_20000, l_20033, l_20038, l_20124, l_100000, l_1000000, l_1103515245, ui_oi, ck_oi, sb, jc_e, bl_0, bl_1, le_oi, lt_oi, eq_oi, add_oi, mul_oi, div_oi, ir_oi, gi_e, gi_n, if_true, if_false, if_pos, if_neg, true_and, and_true, false_and, and_false, true_or, or_true, false_or, or_false, ]
  | succ m ih =>
    intro i fu hi hf hc
    obtain ⟨fu', rfl⟩ : ∃ q, fu = q + 1 := ⟨fu - 1, by omega⟩
    have h := ih (i + 1) fu' (by omega) (by omega) hc
    have hl := r_layB (v := oi 20033) hG
    rw [F_X12_one_L146]
    simp (disch := omega) only [l_0, l_1, l_2, l_3, l_4, l_5, l_6, l_7, l_8, l_9, l_10, l_11, l_12, l_13, l_14, l_15, l_16, l_17, l_18, l_19, l_20, l_21, l_22, l_23, l_24, l_25, l_26, l_27, l_28, l_29, l_30, l_31, l_32, l_33, l_34, l_35, l_36, l_37, l_38, l_39, l_40, l_41, l_42, l_43, l_44, l_45, l_46, l_47, l_48, l_49, l_50, l_51, l_52, l_53, l_54, l_55, l_56, l_57, l_58, l_59, l_60, l_61, l_62, l_63, l_64, l_65, l_66, l_67, l_68, l_69, l_70, l_71, l_72, l_73, l_74, l_75, l_76, l_77, l_78, l_79, l_80, l_81, l_82, l_83, l_84, l_85, l_86, l_87, l_88, l_89, l_90, l_91, l_92, l_93, l_94, l_95, l_96, l_97, l_98, l_99, l_100, l_101, l_102, l_103, l_104, l_105, l_106, l_107, l_108, l_109, l_110, l_111, l_121, l_122, l_160, l_200, l_201, l_240, l_255, l_361, l_390, l_499, l_500, l_999, l_1000, l_10000, l_10099, l_12345, l_16383, l_20000, l_20033, l_20038, l_20124, l_100000, l_1000000, l_1103515245, ui_oi, ck_oi, sb, jc_e, bl_0, bl_1, le_oi, lt_oi, eq_oi, add_oi, mul_oi, div_oi, ir_oi, gi_e, gi_n, if_true, if_false, if_pos, if_neg, true_and, and_true, false_and, and_false, true_or, or_true, false_or, or_false, hl, h]
theorem r_lays {rcR : Mm → Option Mm} (ha : a ≤ 200) : ∀ m i fu sr (N : Mm), i + m = c → m < fu → c ≤ 1000 → GN b n N a sr o → sr + m ≤ a → ∃ N', F_X12_one_L146 rcR (oi c) fu N (oi i) = some N' ∧ GN b n N' a (sr + m) o ∧ FR N N' ∧ (∀ j, j < sr → gi N' 101 j = gi N 101 j) ∧ (∀ j, j < m → gi N' 101 (sr + j) = oi 20033) := by
  intro m
  induction m with
  | zero =>
    intro i fu sr N hi hf hc hG hs
    obtain ⟨fu', rfl⟩ : ∃ q, fu = q + 1 := ⟨fu - 1, by omega⟩
    refine ⟨N, ?_, hG, FR.rf, fun _ _ => rfl, fun j hj => by omega⟩
    rw [F_X12_one_L146]
    simp (disch := omega) only [l_0, l_1, l_2, l_3, l_4, l_5, l_6, l_7, l_8, l_9, l_10, l_11, l_12, l_13, l_14, l_15, l_16, l_17, l_18, l_19, l_20, l_21, l_22, l_23, l_24, l_25, l_26, l_27, l_28, l_29, l_30, l_31, l_32, l_33, l_34, l_35, l_36, l_37, l_38, l_39, l_40, l_41, l_42, l_43, l_44, l_45, l_46, l_47, l_48, l_49, l_50, l_51, l_52, l_53, l_54, l_55, l_56, l_57, l_58, l_59, l_60, l_61, l_62, l_63, l_64, l_65, l_66, l_67, l_68, l_69, l_70, l_71, l_72, l_73, l_74, l_75, l_76, l_77, l_78, l_79, l_80, l_81, l_82, l_83, l_84, l_85, l_86, l_87, l_88, l_89, l_90, l_91, l_92, l_93, l_94, l_95, l_96, l_97, l_98, l_99, l_100, l_101, l_102, l_103, l_104, l_105, l_106, l_107, l_108, l_109, l_110, l_111, l_121, l_122, l_160, l_200, l_201, l_240, l_255, l_361, l_390, l_499, l_500, l_999, l_1000, l_10000, l_10099, l_12345, l_16383, l_20000, l_20033, l_20038, l_20124, l_100000, l_1000000, l_1103515245, ui_oi, ck_oi, sb, jc_e, bl_0, bl_1, le_oi, lt_oi, eq_oi, add_oi, mul_oi, div_oi, ir_oi, gi_e, gi_n, if_true, if_false, if_pos, if_neg, true_and, and_true, false_and, and_false, true_or, or_true, false_or, or_false, ]
  | succ m ih =>
    intro i fu sr N hi hf hc hG hs
    obtain ⟨fu', rfl⟩ : ∃ q, fu = q + 1 := ⟨fu - 1, by omega⟩
    obtain ⟨N2, l1, l2, l3, l4, l5, l6⟩ := r_lay (v := oi 20033) hG (by omega) ha
    obtain ⟨N', x1, x2, x3, x4, x5⟩ := ih (i + 1) fu' (sr + 1) N2 (by omega) (by omega) hc l2 (by omega)
    refine ⟨N', ?_, by rw [show sr + (m + 1) = sr + 1 + m by omega]; exact x2, l3.tr x3, fun j hj => (x4 j (by omega)).trans (l5 j (by omega)), fun j hj => ?_⟩
    · rw [F_X12_one_L146]
      simp (disch := omega) only [l_0, l_1, l_2, l_3, l_4, l_5, l_6, l_7, l_8, l_9, l_10, l_11, l_12, l_13, l_14, l_15, l_16, l_17, l_18, l_19, l_20, l_21, l_22, l_23, l_24, l_25, l_26, l_27, l_28, l_29, l_30, l_31, l_32, l_33, l_34, l_35, l_36, l_37, l_38, l_39, l_40, l_41, l_42, l_43, l_44, l_45, l_46, l_47, l_48, l_49, l_50, l_51, l_52, l_53, l_54, l_55, l_56, l_57, l_58, l_59, l_60, l_61, l_62, l_63, l_64, l_65, l_66, l_67, l_68, l_69, l_70, l_71, l_72, l_73, l_74, l_75, l_76, l_77, l_78, l_79, l_80, l_81, l_82, l_83, l_84, l_85, l_86, l_87, l_88, l_89, l_90, l_91, l_92, l_93, l_94, l_95, l_96, l_97, l_98, l_99, l_100, l_101, l_102, l_103, l_104, l_105, l_106, l_107, l_108, l_109, l_110, l_111, l_121, l_122, l_160, l_200, l_201, l_240, l_255, l_361, l_390, l_499, l_500, l_999, l_1000, l_10000, l_10099, l_12345, l_16383, l_20000, l_20033, l_20038, l_20124, l_100000, l_1000000, l_1103515245, ui_oi, ck_oi, sb, jc_e, bl_0, bl_1, le_oi, lt_oi, eq_oi, add_oi, mul_oi, div_oi, ir_oi, gi_e, gi_n, if_true, if_false, if_pos, if_neg, true_and, and_true, false_and, and_false, true_or, or_true, false_or, or_false, l1, x1]
    · by_cases h0 : j = 0
      · rw [h0, Nat.add_zero, x4 sr (by omega)]
        exact l4
      · have := x5 (j - 1) (by omega)
        rw [show sr + 1 + (j - 1) = sr + j by omega] at this
        exact this
theorem SgC.app {l1 l2 : List Int32} {lo : Nat} (h1 : SgC M lo l1) (h2 : SgC M (lo + l1.length) l2) : SgC M lo (l1 ++ l2) := fun i hi => by
  rw [List.length_append] at hi
  by_cases h : i < l1.length
  · rw [getD_app1 h]
    exact h1 i h
  · have := h2 (i - l1.length) (by omega)
    rw [show lo + l1.length + (i - l1.length) = lo + i by omega] at this
    rw [this, ← getD_app2 (l1 := l1), show l1.length + (i - l1.length) = i by omega]
theorem SgR.app {l1 l2 : List Int32} {lo : Nat} (h1 : SgR M lo l1) (h2 : SgR M (lo + l1.length) l2) : SgR M lo (l1 ++ l2) := fun i hi => by
  rw [List.length_append] at hi
  by_cases h : i < l1.length
  · rw [getD_app1 h]
    exact h1 i h
  · have := h2 (i - l1.length) (by omega)
    rw [show lo + l1.length + (i - l1.length) = lo + i by omega] at this
    rw [this, ← getD_app2 (l1 := l1), show l1.length + (i - l1.length) = i by omega]
theorem SgC.kp {l : List Int32} {lo : Nat} (h : SgC M lo l) (hk : ∀ i, i < lo + l.length → gi M' 11 i = gi M 11 i) : SgC M' lo l := fun i hi => (hk _ (by omega)).trans (h i hi)
theorem SgR.kp {l : List Int32} {lo : Nat} (h : SgR M lo l) (hk : ∀ i, i < lo + l.length → gi M' 101 i = gi M 101 i) : SgR M' lo l := fun i hi => (hk _ (by omega)).trans (h i hi)
/-- the not's behind it -/
theorem p_fin {rcR : Mm → Option Mm} (hD : 1 ≤ D) (hsc : sc + 1 ≤ a) (hsr : sr + 1 ≤ a) (hc : c ≤ 900) (h : OUT b n K M N M1 N1 (a + c) sc sr o (SM D)) : ∃ M' N', (if oi (c % 2) = oi 0 then some M1 else (F_X6_emit M1 (- oi 1)).bind fun r176 => some r176) = some M' ∧ F_X12_one_L146 rcR (oi c) 1000 N1 (oi 0) = some N' ∧ OUT b n K M N M' N' a sc sr o (SM D) := by
  obtain ⟨hF, hR, h⟩ := h
  rcases h with ⟨s, hM, hN⟩ | ⟨a', lc, lr, q1, q2, q3, hM, hN, k1, k2, k3, k4, hS⟩
  · refine ⟨M1, N1, ?_, r_laysB hN c 0 1000 (by omega) (by omega) (by omega), hF, hR, Or.inl ⟨s, hM, hN⟩⟩
    have := c_emitB (v := - oi 1) hM
    split
    · rfl
    · rw [this]
      rfl
  · have hT := hM.1
    have ha := hM.2.1
    have hnk := hT.2.1
    have hKn := hT.1
    obtain ⟨N', x1, x2, x3, x4, x5⟩ := r_lays (rcR := rcR) (c := c) (show a' ≤ 200 by omega) c 0 1000 (sr + lr.length) N1 (by omega) (by omega) (by omega) hN (by omega)
    have hrep : SgR N' sr (lr ++ List.replicate c (oi 20033)) := (k4.kp x4).app (fun i hi => by
      rw [List.length_replicate] at hi
      rw [x5 i hi, List.getD_eq_getElem?_getD, List.getElem?_replicate, if_pos hi]
      rfl)
    have hlen : (lr ++ List.replicate c (oi 20033)).length = lr.length + c := by rw [List.length_append, List.length_replicate]
    have hSn := SM_not hS hD c
    by_cases hc2 : c % 2 = 1
    · obtain ⟨M', z1, z2, z3, z4, z5⟩ := c_emit (v := - oi 1) hM (by omega)
      rw [if_pos hc2] at hSn
      refine ⟨M', N', ?_, x1, hF.tr z3, hR.tr x3, Or.inr ⟨a', lc ++ [- oi 1], lr ++ List.replicate c (oi 20033), by omega, by rw [List.length_append, List.length_singleton]; omega, by rw [hlen]; omega, by rw [List.length_append, List.length_singleton]; exact z2, by rw [hlen, ← Nat.add_assoc]; exact x2, fun i hi => (z5 i (by omega)).trans (k1 i hi), (k2.kp (fun i hi => z5 i (by omega))).app (fun i hi => ?_), fun i hi => (x4 i (by omega)).trans (k3 i hi), hrep, hSn⟩⟩
      · rw [hc2, if_neg (by rw [eq_oi (by omega) (by omega)]; omega), z1]
        rfl
      · have hi : i < 1 := hi
        obtain rfl : i = 0 := by omega
        exact z4
    · rw [if_neg hc2, List.append_nil] at hSn
      refine ⟨M1, N', ?_, x1, hF, hR.tr x3, Or.inr ⟨a', lc, lr ++ List.replicate c (oi 20033), by omega, by omega, by rw [hlen]; omega, hM, by rw [hlen, ← Nat.add_assoc]; exact x2, k1, k2, fun i hi => (x4 i (by omega)).trans (k3 i hi), hrep, hSn⟩⟩
      rw [show c % 2 = 0 by omega, if_pos rfl]
theorem p_one {rcC : Mm → Int32 → Option Mm} {rcR : Mm → Option Mm} (hD : 3 ≤ D) (ho : o ≤ 3) (H : RC b n K rcC rcR o D) : ∀ m c a (M N : Mm) fu fu2, K + 1 ≤ a + c + m → m ≤ fu → m ≤ fu2 → 1 ≤ m → GM b n K M (a + c) sc → GN b n N (a + c) sr o → sc + 1 ≤ a → sr + 1 ≤ a → ∃ M' N', F_X6_readOne_L4 rcC (oi o) fu M (oi (c % 2)) (oi c) = some M' ∧ F_X12_one_L2 rcR fu2 N (oi c) = some N' ∧ OUT b n K M N M' N' a sc sr o (SM D) := by
  obtain ⟨y1, y2, y3, y4, y5, y6⟩ := by_v
  intro m
  induction m with
  | zero => intro c a M N fu fu2 h1 h2 h3 h4; omega
  | succ m ih =>
    intro c a M N fu fu2 hm hf hf2 _ hM hG hsc hsr
    obtain ⟨fu', rfl⟩ : ∃ q, fu = q + 1 := ⟨fu - 1, by omega⟩
    obtain ⟨fu2', rfl⟩ : ∃ q, fu2 = q + 1 := ⟨fu2 - 1, by omega⟩
    obtain ⟨hT, hK, hs, h9, h10, h5⟩ := id hM
    have hnk := hT.2.1
    have hKn := hT.1
    have hx2 : gi M 13 (a + c) = tI (tkn b n (a + c)) := (hT.2.2.2 (a + c) hK).2.1
    have hx1 : gi M 14 (a + c) = oi (zPl b n (a + c)) := (hT.2.2.2 (a + c) hK).1
    have hlt := tkn_lt (b := b) (n := n) (a := a + c)
    have hpl := hT.pl hK
    have w12 := r_isW (h := 10631) hG (k := 12) (by omega) rfl
    have w18 := r_isB (h := oi 40) hG (k := 18) (by omega) (by omega) (by rw [y4])
    have e12 := tI_eq (t := tkn b n (a + c)) (v := 12) (by omega) (by omega)
    have e18 := tI_eq (t := tkn b n (a + c)) (v := 18) (by omega) (by omega)
    have hneg : ¬ oi 0 ≤ (- oi 1 : Int32) := by decide
    by_cases h12 : tkn b n (a + c) = 12
    · -- not
      rw [if_pos h12] at w12
      have hak := tkn_k hT hK (by omega)
      obtain ⟨N1, g1, g2, g3, g4⟩ := r_nx hT hG hak
      have hM1 : GM b n K (si M 7 9 (oi (a + c + 1))) (a + (c + 1)) sc := ⟨hT.fm (FM.s7 (by omega)), by omega, by omega, by rw [gi_e]; rfl, by rw [gi_n (by omega)]; exact h10, by rw [gi_n (by omega)]; exact h5⟩
      obtain ⟨M', N', x1, x2, x3, x4, x5⟩ := ih (c + 1) a (si M 7 9 (oi (a + c + 1))) N1 fu' fu2' (by omega) (by omega) (by omega) (by omega) hM1 g2 hsc hsr
      refine ⟨M', N', ?_, ?_, (FM.s7 (by omega)).tr x3, g3.tr x4, ?_⟩
      · rw [e12.mpr h12] at hx2
        rw [F_X6_readOne_L4]
        rcases (by omega : c % 2 = 0 ∨ c % 2 = 1) with hp | hp
        · rw [show (c + 1) % 2 = 1 by omega] at x1
          rw [hp]
          simp (disch := omega) only [l_0, l_1, l_2, l_3, l_4, l_5, l_6, l_7, l_8, l_9, l_10, l_11, l_12, l_13, l_14, l_15, l_16, l_17, l_18, l_19, l_20, l_21, l_22, l_23, l_24, l_25, l_26, l_27, l_28, l_29, l_30, l_31, l_32, l_33, l_34, l_35, l_36, l_37, l_38, l_39, l_40, l_41, l_42, l_43, l_44, l_45, l_46, l_47, l_48, l_49, l_50, l_51, l_52, l_53, l_54, l_55, l_56, l_57, l_58, l_59, l_60, l_61, l_62, l_63, l_64, l_65, l_66, l_67, l_68, l_69, l_70, l_71, l_72, l_73, l_74, l_75, l_76, l_77, l_78, l_79, l_80, l_81, l_82, l_83, l_84, l_85, l_86, l_87, l_88, l_89, l_90, l_91, l_92, l_93, l_94, l_95, l_96, l_97, l_98, l_99, l_100, l_101, l_102, l_103, l_104, l_105, l_106, l_107, l_108, l_109, l_110, l_111, l_121, l_122, l_160, l_200, l_201, l_240, l_255, l_361, l_390, l_499, l_500, l_999, l_1000, l_10000, l_10099, l_12345, l_16383, l_20000, l_20033, l_20038, l_20124, l_100000, l_1000000, l_1103515245, ui_oi, ck_oi, sb, jc_e, bl_0, bl_1, le_oi, lt_oi, eq_oi, add_oi, mul_oi, div_oi, ir_oi, gi_e, gi_n, if_true, if_false, if_pos, if_neg, true_and, and_true, false_and, and_false, true_or, or_true, false_or, or_false, h9, h10, hneg, hx2, x1]
        · rw [show (c + 1) % 2 = 0 by omega] at x1
          rw [hp]
          simp (disch := omega) only [l_0, l_1, l_2, l_3, l_4, l_5, l_6, l_7, l_8, l_9, l_10, l_11, l_12, l_13, l_14, l_15, l_16, l_17, l_18, l_19, l_20, l_21, l_22, l_23, l_24, l_25, l_26, l_27, l_28, l_29, l_30, l_31, l_32, l_33, l_34, l_35, l_36, l_37, l_38, l_39, l_40, l_41, l_42, l_43, l_44, l_45, l_46, l_47, l_48, l_49, l_50, l_51, l_52, l_53, l_54, l_55, l_56, l_57, l_58, l_59, l_60, l_61, l_62, l_63, l_64, l_65, l_66, l_67, l_68, l_69, l_70, l_71, l_72, l_73, l_74, l_75, l_76, l_77, l_78, l_79, l_80, l_81, l_82, l_83, l_84, l_85, l_86, l_87, l_88, l_89, l_90, l_91, l_92, l_93, l_94, l_95, l_96, l_97, l_98, l_99, l_100, l_101, l_102, l_103, l_104, l_105, l_106, l_107, l_108, l_109, l_110, l_111, l_121, l_122, l_160, l_200, l_201, l_240, l_255, l_361, l_390, l_499, l_500, l_999, l_1000, l_10000, l_10099, l_12345, l_16383, l_20000, l_20033, l_20038, l_20124, l_100000, l_1000000, l_1103515245, ui_oi, ck_oi, sb, jc_e, bl_0, bl_1, le_oi, lt_oi, eq_oi, add_oi, mul_oi, div_oi, ir_oi, gi_e, gi_n, if_true, if_false, if_pos, if_neg, true_and, and_true, false_and, and_false, true_or, or_true, false_or, or_false, h9, h10, hneg, hx2, x1]
      · rw [F_X12_one_L2]
        simp (disch := omega) only [l_0, l_1, l_2, l_3, l_4, l_5, l_6, l_7, l_8, l_9, l_10, l_11, l_12, l_13, l_14, l_15, l_16, l_17, l_18, l_19, l_20, l_21, l_22, l_23, l_24, l_25, l_26, l_27, l_28, l_29, l_30, l_31, l_32, l_33, l_34, l_35, l_36, l_37, l_38, l_39, l_40, l_41, l_42, l_43, l_44, l_45, l_46, l_47, l_48, l_49, l_50, l_51, l_52, l_53, l_54, l_55, l_56, l_57, l_58, l_59, l_60, l_61, l_62, l_63, l_64, l_65, l_66, l_67, l_68, l_69, l_70, l_71, l_72, l_73, l_74, l_75, l_76, l_77, l_78, l_79, l_80, l_81, l_82, l_83, l_84, l_85, l_86, l_87, l_88, l_89, l_90, l_91, l_92, l_93, l_94, l_95, l_96, l_97, l_98, l_99, l_100, l_101, l_102, l_103, l_104, l_105, l_106, l_107, l_108, l_109, l_110, l_111, l_121, l_122, l_160, l_200, l_201, l_240, l_255, l_361, l_390, l_499, l_500, l_999, l_1000, l_10000, l_10099, l_12345, l_16383, l_20000, l_20033, l_20038, l_20124, l_100000, l_1000000, l_1103515245, ui_oi, ck_oi, sb, jc_e, bl_0, bl_1, le_oi, lt_oi, eq_oi, add_oi, mul_oi, div_oi, ir_oi, gi_e, gi_n, if_true, if_false, if_pos, if_neg, true_and, and_true, false_and, and_false, true_or, or_true, false_or, or_false, w12, g1, x2]
      · rcases x5 with x5 | ⟨a', lc, lr, q1, q2, q3, q4, q5, k1, k2, k3, k4, hS⟩
        · exact Or.inl x5
        · exact Or.inr ⟨a', lc, lr, q1, q2, q3, q4, q5, fun i hi => (k1 i hi).trans (gi_n (by omega)), k2, fun i hi => (k3 i hi).trans (g4 i), k4, hS⟩
    · rw [if_neg h12] at w12
      have hx12 : ¬ gi M 13 (a + c) = oi 12 := by rw [hx2]; exact fun q => h12 (e12.mp q)
      by_cases h18 : tkn b n (a + c) = 18
      · -- in brackets
        rw [if_pos h18] at w18
        have hx18 : gi M 13 (a + c) = oi 18 := by rw [hx2]; exact e18.mpr h18
        have hak := tkn_k hT hK (by omega)
        have h14 : gi N 94 14 = oi o := hG.2.2.2.2.2.2
        have hn12 : ¬ oi 18 = oi 12 := by decide
        by_cases ho3 : o < 3
        · obtain ⟨N1, g1, g2, g3, g4⟩ := r_go1 hT hG hak
          have hM1 : GM b n K (si M 7 9 (oi (a + c + 1))) (a + c + 1) sc := ⟨hT.fm (FM.s7 (by omega)), by omega, by omega, gi_e, by rw [gi_n (by omega)]; exact h10, by rw [gi_n (by omega)]; exact h5⟩
          have h141 : gi N1 94 14 = oi o := g2.2.2.2.2.2.2
          obtain ⟨M2, N2, r1, r2, r3, r4, r5⟩ := H.1 ho3 (si M 7 9 (oi (a + c + 1))) (si N1 94 14 (oi (o + 1))) (a + c + 1) sc sr hM1 g2.s14 (by omega) (by omega)
          have hFM2 : FM M M2 := (FM.s7 (by omega)).tr r3
          have hFR2 : FR N N2 := (g3.tr (FR.s4 (by omega))).tr r4
          -- from here both come to M3, N3
          have key : ∃ M3 N3, OUT b n K M N M3 N3 (a + c) sc sr o (SM D) ∧ (∃ v, F_X6_expect M2 (oi 19) (oi 19) = some (v, M3)) ∧ ((F_X12_isByte N2 (oi 41)).bind fun r66 => (F_X12_goesBy N2 r66).bind fun r69 => some (si r69 94 14 ((gi r69 94 14) - oi 1))) = some N3 := by
            rcases r5 with ⟨s, bM, bN⟩ | ⟨a', lc, lr, q1, q2, q3, q4, q5, k1, k2, k3, k4, hS⟩
            · obtain ⟨u1, u2⟩ := r_goB (v := oi 0) bN
              refine ⟨M2, si (si N2 94 13 (oi 1)) 94 14 (gi (si N2 94 13 (oi 1)) 94 14 - oi 1), ⟨hFM2, (hFR2.tr (FR.s4 (by omega))).tr (FR.s4 (by omega)), Or.inl ⟨s, bM, u2.s14⟩⟩, ⟨_, c_expB bM⟩, ?_⟩
              rw [r_isBB bN, sb, u1, sb]
            · have w19 := r_isB (h := oi 41) q5 (k := 19) (by omega) (by omega) (by rw [y5])
              rcases c_exp (lo := 19) (hi := 19) q4 (by omega) (by omega) (Or.inl (by omega)) with ⟨e1, e2, e3, e4⟩ | ⟨e1, e2, e3⟩
              · have hak2 := tkn_k q4.1 q4.2.1 (by omega)
                obtain ⟨N3, u1, u2, u3, u4⟩ := r_go1 q4.1 q5 hak2
                rw [if_pos (show tkn b n a' = 19 by omega)] at w19
                have h143 : gi N3 94 14 = oi (o + 1) := u2.2.2.2.2.2.2
                refine ⟨_, si N3 94 14 (oi o), ⟨hFM2.tr (FM.s7 (by omega)), (hFR2.tr u3).tr (FR.s4 (by omega)), Or.inr ⟨a' + 1, lc, lr, by omega, by omega, by omega, e4, u2.s14, fun i hi => ?_, k2.kp (fun i _ => gi_n (by omega)), fun i hi => ?_, k4.kp (fun i _ => (gi_n (by omega)).trans (u4 i)), hS⟩⟩, ⟨_, e3⟩, ?_⟩
                · rw [gi_n (by omega), k1 i hi, gi_n (by omega)]
                · rw [gi_n (by omega), u4 i, k3 i hi, gi_n (by omega), g4 i]
                · rw [w19, sb, u1, sb, h143, sub_oi (by omega), Nat.add_sub_cancel]
              · rw [if_neg (show ¬ tkn b n a' = 19 by omega)] at w19
                obtain ⟨u1, u2⟩ := r_go0 q5
                refine ⟨_, si (si N2 94 13 (oi 1)) 94 14 (gi (si N2 94 13 (oi 1)) 94 14 - oi 1), ⟨hFM2.tr (FM.s7 (by omega)), (hFR2.tr (FR.s4 (by omega))).tr (FR.s4 (by omega)), Or.inl ⟨_, e3, u2.s14⟩⟩, ⟨_, e2⟩, ?_⟩
                rw [w19, sb, u1, sb]
          obtain ⟨M3, N3, hO, ⟨v, hv⟩, hr⟩ := key
          obtain ⟨M', N', x1, x2, x3⟩ := p_fin (rcR := rcR) (c := c) (by omega) hsc hsr (by omega) hO
          refine ⟨M', N', ?_, ?_, x3⟩
          · rw [F_X6_readOne_L4, ← x1]
            have h200 : ¬ 200 ≤ c := by omega
            simp (disch := omega) only [l_0, l_1, l_2, l_3, l_4, l_5, l_6, l_7, l_8, l_9, l_10, l_11, l_12, l_13, l_14, l_15, l_16, l_17, l_18, l_19, l_20, l_21, l_22, l_23, l_24, l_25, l_26, l_27, l_28, l_29, l_30, l_31, l_32, l_33, l_34, l_35, l_36, l_37, l_38, l_39, l_40, l_41, l_42, l_43, l_44, l_45, l_46, l_47, l_48, l_49, l_50, l_51, l_52, l_53, l_54, l_55, l_56, l_57, l_58, l_59, l_60, l_61, l_62, l_63, l_64, l_65, l_66, l_67, l_68, l_69, l_70, l_71, l_72, l_73, l_74, l_75, l_76, l_77, l_78, l_79, l_80, l_81, l_82, l_83, l_84, l_85, l_86, l_87, l_88, l_89, l_90, l_91, l_92, l_93, l_94, l_95, l_96, l_97, l_98, l_99, l_100, l_101, l_102, l_103, l_104, l_105, l_106, l_107, l_108, l_109, l_110, l_111, l_121, l_122, l_160, l_200, l_201, l_240, l_255, l_361, l_390, l_499, l_500, l_999, l_1000, l_10000, l_10099, l_12345, l_16383, l_20000, l_20033, l_20038, l_20124, l_100000, l_1000000, l_1103515245, ui_oi, ck_oi, sb, jc_e, bl_0, bl_1, le_oi, lt_oi, eq_oi, add_oi, mul_oi, div_oi, ir_oi, gi_e, gi_n, if_true, if_false, if_pos, if_neg, true_and, and_true, false_and, and_false, true_or, or_true, false_or, or_false, h9, h10, hneg, hx18, hn12, r1, hv]
          · rw [F_X12_one_L2, ← x2]
            rcases hi : F_X12_isByte N2 (oi 41) with _ | r66
            · rw [hi] at hr
              exact absurd hr (by simp)
            · rw [hi, sb] at hr
              rcases hg : F_X12_goesBy N2 r66 with _ | r69
              · rw [hg] at hr
                exact absurd hr (by simp)
              · rw [hg, sb] at hr
                have hr := Option.some.inj hr
                simp (disch := omega) only [l_0, l_1, l_2, l_3, l_4, l_5, l_6, l_7, l_8, l_9, l_10, l_11, l_12, l_13, l_14, l_15, l_16, l_17, l_18, l_19, l_20, l_21, l_22, l_23, l_24, l_25, l_26, l_27, l_28, l_29, l_30, l_31, l_32, l_33, l_34, l_35, l_36, l_37, l_38, l_39, l_40, l_41, l_42, l_43, l_44, l_45, l_46, l_47, l_48, l_49, l_50, l_51, l_52, l_53, l_54, l_55, l_56, l_57, l_58, l_59, l_60, l_61, l_62, l_63, l_64, l_65, l_66, l_67, l_68, l_69, l_70, l_71, l_72, l_73, l_74, l_75, l_76, l_77, l_78, l_79, l_80, l_81, l_82, l_83, l_84, l_85, l_86, l_87, l_88, l_89, l_90, l_91, l_92, l_93, l_94, l_95, l_96, l_97, l_98, l_99, l_100, l_101, l_102, l_103, l_104, l_105, l_106, l_107, l_108, l_109, l_110, l_111, l_121, l_122, l_160, l_200, l_201, l_240, l_255, l_361, l_390, l_499, l_500, l_999, l_1000, l_10000, l_10099, l_12345, l_16383, l_20000, l_20033, l_20038, l_20124, l_100000, l_1000000, l_1103515245, ui_oi, ck_oi, sb, jc_e, bl_0, bl_1, le_oi, lt_oi, eq_oi, add_oi, mul_oi, div_oi, ir_oi, gi_e, gi_n, if_true, if_false, if_pos, if_neg, true_and, and_true, false_and, and_false, true_or, or_true, false_or, or_false, w12, w18, h14, g1, h141, r2, hi, hg]
                rw [hr]
        · -- too deep
          obtain ⟨u1, u2⟩ := r_go0 hG
          have hbM : BM b n K (si M 7 10 (oi (zPl b n (a + c)))) (zPl b n (a + c)) := ⟨hT.fm (FM.s7 (by omega)), hpl, gi_e, a + c, hK, by rw [gi_n (by omega)]; exact h9⟩
          obtain ⟨N1, hN1⟩ : ∃ N1, N1 = si (si N 94 13 (oi 1)) 94 14 (gi (si N 94 13 (oi 1)) 94 14 + oi 1) := ⟨_, rfl⟩
          have hB1 : BN b n N1 (zPl b n (a + c)) := by rw [hN1]; exact u2.s14
          have hrc := H.2 N1 _ hB1
          obtain ⟨u3, u4⟩ := r_goB (v := oi 0) hB1
          have hO : OUT b n K M N (si M 7 10 (oi (zPl b n (a + c)))) (si (si N1 94 13 (oi 1)) 94 14 (gi (si N1 94 13 (oi 1)) 94 14 - oi 1)) (a + c) sc sr o (SM D) := ⟨FM.s7 (by omega), by
            rw [hN1]
            exact (((FR.s4 (by omega)).tr (FR.s4 (by omega))).tr (FR.s4 (by omega))).tr (FR.s4 (by omega)), Or.inl ⟨_, hbM, u4.s14⟩⟩
          obtain ⟨M', N', x1, x2, x3⟩ := p_fin (rcR := rcR) (c := c) (by omega) hsc hsr (by omega) hO
          refine ⟨M', N', ?_, ?_, x3⟩
          · rw [F_X6_readOne_L4, ← x1]
            have h200 : ¬ 200 ≤ c := by omega
            simp (disch := omega) only [l_0, l_1, l_2, l_3, l_4, l_5, l_6, l_7, l_8, l_9, l_10, l_11, l_12, l_13, l_14, l_15, l_16, l_17, l_18, l_19, l_20, l_21, l_22, l_23, l_24, l_25, l_26, l_27, l_28, l_29, l_30, l_31, l_32, l_33, l_34, l_35, l_36, l_37, l_38, l_39, l_40, l_41, l_42, l_43, l_44, l_45, l_46, l_47, l_48, l_49, l_50, l_51, l_52, l_53, l_54, l_55, l_56, l_57, l_58, l_59, l_60, l_61, l_62, l_63, l_64, l_65, l_66, l_67, l_68, l_69, l_70, l_71, l_72, l_73, l_74, l_75, l_76, l_77, l_78, l_79, l_80, l_81, l_82, l_83, l_84, l_85, l_86, l_87, l_88, l_89, l_90, l_91, l_92, l_93, l_94, l_95, l_96, l_97, l_98, l_99, l_100, l_101, l_102, l_103, l_104, l_105, l_106, l_107, l_108, l_109, l_110, l_111, l_121, l_122, l_160, l_200, l_201, l_240, l_255, l_361, l_390, l_499, l_500, l_999, l_1000, l_10000, l_10099, l_12345, l_16383, l_20000, l_20033, l_20038, l_20124, l_100000, l_1000000, l_1103515245, ui_oi, ck_oi, sb, jc_e, bl_0, bl_1, le_oi, lt_oi, eq_oi, add_oi, mul_oi, div_oi, ir_oi, gi_e, gi_n, if_true, if_false, if_pos, if_neg, true_and, and_true, false_and, and_false, true_or, or_true, false_or, or_false, h9, h10, hneg, hx18, hn12, hx1]
          · rw [F_X12_one_L2, ← x2]
            have hbb := r_isBB (h := oi 41) hB1
            simp (disch := omega) only [l_0, l_1, l_3, l_40, l_41, w12, w18, sb, if_true, jc_e, eq_oi, le_oi, if_pos, if_neg, h14, u1]
            rw [← hN1, hrc, sb, hbb, sb, u3, sb]
      · -- a comparison
        rw [if_neg h18] at w18
        have hx18 : ¬ gi M 13 (a + c) = oi 18 := by rw [hx2]; exact fun q => h18 (e18.mp q)
        obtain ⟨M1, N1, hO, c1, c2⟩ := p_cmp hM hG (by omega) (by omega)
        have hO2 : OUT b n K M N M1 N1 (a + c) sc sr o (SM D) := by
          obtain ⟨z1, z2, z3⟩ := hO
          refine ⟨z1, z2, ?_⟩
          rcases z3 with z3 | ⟨a', lc, lr, q1, q2, q3, q4, q5, k1, k2, k3, k4, hS⟩
          · exact Or.inl z3
          · exact Or.inr ⟨a', lc, lr, q1, q2, q3, q4, q5, k1, k2, k3, k4, hS.mono hD⟩
        obtain ⟨M', N', x1, x2, x3⟩ := p_fin (rcR := rcR) (c := c) (by omega) hsc hsr (by omega) hO2
        refine ⟨M', N', ?_, ?_, x3⟩
        · rw [← x1, ← c1 (fun M1 => if oi (c % 2) = oi 0 then some M1 else (F_X6_emit M1 (- oi 1)).bind fun r176 => some r176), F_X6_readOne_L4]
          have h200 : ¬ 200 ≤ c := by omega
          simp (disch := omega) only [l_0, l_1, l_2, l_3, l_4, l_5, l_6, l_7, l_8, l_9, l_10, l_11, l_12, l_13, l_14, l_15, l_16, l_17, l_18, l_19, l_20, l_21, l_22, l_23, l_24, l_25, l_26, l_27, l_28, l_29, l_30, l_31, l_32, l_33, l_34, l_35, l_36, l_37, l_38, l_39, l_40, l_41, l_42, l_43, l_44, l_45, l_46, l_47, l_48, l_49, l_50, l_51, l_52, l_53, l_54, l_55, l_56, l_57, l_58, l_59, l_60, l_61, l_62, l_63, l_64, l_65, l_66, l_67, l_68, l_69, l_70, l_71, l_72, l_73, l_74, l_75, l_76, l_77, l_78, l_79, l_80, l_81, l_82, l_83, l_84, l_85, l_86, l_87, l_88, l_89, l_90, l_91, l_92, l_93, l_94, l_95, l_96, l_97, l_98, l_99, l_100, l_101, l_102, l_103, l_104, l_105, l_106, l_107, l_108, l_109, l_110, l_111, l_121, l_122, l_160, l_200, l_201, l_240, l_255, l_361, l_390, l_499, l_500, l_999, l_1000, l_10000, l_10099, l_12345, l_16383, l_20000, l_20033, l_20038, l_20124, l_100000, l_1000000, l_1103515245, h9, h10, hneg, hx12, hx18, jc_e, ck_oi, ui_oi, le_oi, if_pos, if_neg, if_true, if_false]
          rfl
        · rw [← x2, ← c2 (fun N1 => F_X12_one_L146 rcR (oi c) 1000 N1 (oi 0)), F_X12_one_L2]
          simp (disch := omega) only [l_0, l_1, l_2, l_3, l_4, l_5, l_6, l_7, l_8, l_9, l_10, l_11, l_12, l_13, l_14, l_15, l_16, l_17, l_18, l_19, l_20, l_21, l_22, l_23, l_24, l_25, l_26, l_27, l_28, l_29, l_30, l_31, l_32, l_33, l_34, l_35, l_36, l_37, l_38, l_39, l_40, l_41, l_42, l_43, l_44, l_45, l_46, l_47, l_48, l_49, l_50, l_51, l_52, l_53, l_54, l_55, l_56, l_57, l_58, l_59, l_60, l_61, l_62, l_63, l_64, l_65, l_66, l_67, l_68, l_69, l_70, l_71, l_72, l_73, l_74, l_75, l_76, l_77, l_78, l_79, l_80, l_81, l_82, l_83, l_84, l_85, l_86, l_87, l_88, l_89, l_90, l_91, l_92, l_93, l_94, l_95, l_96, l_97, l_98, l_99, l_100, l_101, l_102, l_103, l_104, l_105, l_106, l_107, l_108, l_109, l_110, l_111, l_121, l_122, l_160, l_200, l_201, l_240, l_255, l_361, l_390, l_499, l_500, l_999, l_1000, l_10000, l_10099, l_12345, l_16383, l_20000, l_20033, l_20038, l_20124, l_100000, l_1000000, l_1103515245, w12, w18, sb, if_true, jc_e]
          rfl
end PD

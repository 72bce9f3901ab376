/-! LONE BARRELS: the calls lone and liar -/
def zGa (d : Nat → Nat) (u p : Nat) : Bool := decide (zAmn u (zMk (zFt d p) (d 6)) = 0)
def zG1 (d : Nat → Nat) (u p : Nat) : Nat := if zGa d u p = true then 1 else 0
def zP (g : Nat → Bool) (m : Nat) (v : Int32) : Prop := (∃ q, m ≤ q ∧ q < 500 ∧ g q = true ∧ (∀ i, m ≤ i → i < q → g i = false) ∧ v = oi q) ∨ ((∀ i, m ≤ i → i < 500 → g i = false) ∧ v = - oi 3)
theorem zam_all : ∀ u, u < 64 → ∀ r, r < 64 → (zAmn u r = 0 ↔ ∀ j, j < 6 → (u / 2 ^ j % 2 = 1 → r / 2 ^ j % 2 = 1)) := by decide +kernel
theorem full_all : ∀ R, R < 7 → ∀ i, i < 6 → ((2 ^ R - 1) / 2 ^ i % 2 = 1 ↔ i < R) := by decide +kernel
def zPc (x : Nat) : Nat := x % 2 + x / 2 % 2 + x / 4 % 2 + x / 8 % 2 + x / 16 % 2 + x / 32 % 2
theorem bn_all : ∀ x, x < 64 → F_J6_bitCount_0f7a4 (oi x) = some (oi (zPc x)) := by decide +kernel
theorem pc_all : ∀ x, x < 64 → (zPc x = 1 ↔ ∃ r, r < 6 ∧ x = 2 ^ r) := by decide +kernel
theorem p2_all : ∀ i, i < 6 → ∀ j, j < 6 → (2 ^ i = 2 ^ j ↔ i = j) := by decide +kernel
theorem pc_le : ∀ x, x < 64 → zPc x ≤ 6 := by decide +kernel
theorem am_lt (u r : Nat) : zAmn u r ≤ u := Nat.sub_le _ _
section LR
variable {M N M' N' N1 : Mm} {d e : Nat → Nat} {c : Cnd} {g h : Nat → Bool} {f : Nat → Nat} {n i j p t x y u m : Nat}
theorem zSum_mono : ∀ n, m ≤ n → zSum f m ≤ zSum f n
  | 0, h => by
    obtain rfl : m = 0 := by omega
    exact Nat.le_refl _
  | n + 1, h => by
    by_cases hm : m = n + 1
    · rw [hm]
      exact Nat.le_refl _
    · have := zSum_mono n (by omega)
      rw [zSum]
      omega
theorem zSum_0 : ∀ n, zSum f n = 0 ↔ ∀ q, q < n → f q = 0
  | 0 => ⟨fun _ q hq => absurd hq (Nat.not_lt_zero q), fun _ => rfl⟩
  | n + 1 => by
    have ih := zSum_0 n
    rw [zSum]
    refine ⟨fun q i hi => ?_, fun q => ?_⟩
    · by_cases hin : i = n
      · rw [hin]
        omega
      · exact (ih.mp (by omega)) i (by omega)
    · rw [ih.mpr (fun i hi => q i (by omega)), q n (by omega)]
theorem zG1_le : zSum (zG1 d u) 500 ≤ 500 := by
  have := zSum_le (f := zG1 d u) (b := 1) (n := 500) (fun k _ => by unfold zG1; split <;> omega)
  omega
theorem w_fl (hW : WF d) (hu : u < 64) : ∀ m fu (X : Mm), m ≤ 500 → m < fu → RR X d → gi X 94 25 = oi (zSum (zG1 d u) 500 - zSum (zG1 d u) m) → zP (zGa d u) m (gi X 94 26) → ∃ X', F_X12_findLone_L31 (oi u) fu X (oi m - oi 1) = some X' ∧ Oc [94] X X' ∧ (∀ j, j ≠ 25 → j ≠ 26 → gi X' 94 j = gi X 94 j) ∧ gi X' 94 25 = oi (zSum (zG1 d u) 500) ∧ zP (zGa d u) 0 (gi X' 94 26) := by
  have h6 := hW.2.2.2.2.1
  intro m
  induction m with
  | zero =>
    intro fu X hm hf hR h25 h26
    obtain ⟨fu', rfl⟩ : ∃ q, fu = q + 1 := ⟨fu - 1, by omega⟩
    refine ⟨X, ?_, Oc.rf, fun _ _ _ => rfl, h25, h26⟩
    rw [F_X12_findLone_L31, s01]
    simp (disch := omega) only [l_0, l_1, l_2, l_3, l_4, l_5, l_6, l_7, l_8, l_9, l_10, l_11, l_12, l_13, l_14, l_15, l_16, l_17, l_18, l_19, l_20, l_21, l_22, l_23, l_24, l_25, l_26, l_27, l_28, l_29, l_30, l_31, l_32, l_33, l_34, l_35, l_36, l_37, l_38, l_39, l_40, l_41, l_42, l_43, l_44, l_45, l_46, l_47, l_48, l_49, l_50, l_51, l_52, l_53, l_54, l_55, l_56, l_57, l_58, l_59, l_60, l_61, l_62, l_63, l_64, l_65, l_66, l_67, l_68, l_69, l_70, l_71, l_72, l_73, l_74, l_75, l_76, l_77, l_78, l_79, l_80, l_81, l_82, l_83, l_84, l_85, l_86, l_87, l_88, l_89, l_90, l_91, l_92, l_93, l_94, l_95, l_96, l_97, l_98, l_99, l_100, l_101, l_102, l_103, l_104, l_105, l_106, l_107, l_108, l_109, l_110, l_111, l_121, l_122, l_160, l_200, l_201, l_240, l_255, l_361, l_390, l_499, l_500, l_999, l_1000, l_10000, l_10099, l_12345, l_16383, l_20000, l_20033, l_20038, l_20124, l_100000, l_1000000, l_1103515245, ui_oi, ck_oi, sb, jc_e, bl_0, bl_1, le_oi, lt_oi, eq_oi, add_oi, mul_oi, div_oi, ir_oi, gi_e, gi_n, if_true, if_false, if_pos, if_neg, true_and, and_true, false_and, and_false, true_or, or_true, false_or, or_false, n01]
  | succ m ih =>
    intro fu X hm hf hR h25 h26
    obtain ⟨fu', rfl⟩ : ∃ q, fu = q + 1 := ⟨fu - 1, by omega⟩
    have hfit := r_fit hR hW (p := m) (by omega)
    have han := an_all u hu (zMk (zFt d m) (d 6)) (zMk_64 h6)
    have hlt := am_lt u (zMk (zFt d m) (d 6))
    have hmo := zSum_mono (f := zG1 d u) (m := m + 1) 500 hm
    have hT := zG1_le (d := d) (u := u)
    have hsum : zSum (zG1 d u) (m + 1) = zSum (zG1 d u) m + zG1 d u m := rfl
    have hm1 : oi m + (-1) = oi m - oi 1 := by rw [Int32.sub_eq_add_neg]; rfl
    by_cases hz : zAmn u (zMk (zFt d m) (d 6)) = 0
    · have hg : zGa d u m = true := decide_eq_true hz
      have hg1 : zG1 d u m = 1 := if_pos hg
      obtain ⟨X1, hX1⟩ : ∃ X1, X1 = si (si X 94 25 (oi (zSum (zG1 d u) 500 - zSum (zG1 d u) m))) 94 26 (oi m) := ⟨_, rfl⟩
      have hO : Oc [94] X X1 := by
        rw [hX1]
        exact (Oc.si (S := [94]) (by simp)).tr (Oc.si (S := [94]) (by simp)) (fun c hc => ⟨hc, hc⟩)
      obtain ⟨X', x1, x2, x3, x4, x5⟩ := ih fu' X1 (by omega) (by omega) (hR.oc hO (by decide)) (by rw [hX1, gi_n (by omega), gi_e]) (by
        rw [hX1, gi_e]
        exact Or.inl ⟨m, Nat.le_refl _, by omega, hg, fun i h1 h2 => by omega, rfl⟩)
      refine ⟨X', ?_, hO.tr x2 (fun c hc => ⟨hc, hc⟩), fun j q1 q2 => (x3 j q1 q2).trans (by rw [hX1, gi_n (by omega), gi_n (by omega)]), x4, x5⟩
      rw [hz] at han
      rw [F_X12_findLone_L31, sub_oi (by omega), Nat.add_sub_cancel, hm1]
      simp (disch := omega) only [l_0, l_1, l_2, l_3, l_4, l_5, l_6, l_7, l_8, l_9, l_10, l_11, l_12, l_13, l_14, l_15, l_16, l_17, l_18, l_19, l_20, l_21, l_22, l_23, l_24, l_25, l_26, l_27, l_28, l_29, l_30, l_31, l_32, l_33, l_34, l_35, l_36, l_37, l_38, l_39, l_40, l_41, l_42, l_43, l_44, l_45, l_46, l_47, l_48, l_49, l_50, l_51, l_52, l_53, l_54, l_55, l_56, l_57, l_58, l_59, l_60, l_61, l_62, l_63, l_64, l_65, l_66, l_67, l_68, l_69, l_70, l_71, l_72, l_73, l_74, l_75, l_76, l_77, l_78, l_79, l_80, l_81, l_82, l_83, l_84, l_85, l_86, l_87, l_88, l_89, l_90, l_91, l_92, l_93, l_94, l_95, l_96, l_97, l_98, l_99, l_100, l_101, l_102, l_103, l_104, l_105, l_106, l_107, l_108, l_109, l_110, l_111, l_121, l_122, l_160, l_200, l_201, l_240, l_255, l_361, l_390, l_499, l_500, l_999, l_1000, l_10000, l_10099, l_12345, l_16383, l_20000, l_20033, l_20038, l_20124, l_100000, l_1000000, l_1103515245, ui_oi, ck_oi, sb, jc_e, bl_0, bl_1, le_oi, lt_oi, eq_oi, add_oi, mul_oi, div_oi, ir_oi, gi_e, gi_n, if_true, if_false, if_pos, if_neg, true_and, and_true, false_and, and_false, true_or, or_true, false_or, or_false, hfit, han, h25]
      rw [show zSum (zG1 d u) 500 - zSum (zG1 d u) (m + 1) + 1 = zSum (zG1 d u) 500 - zSum (zG1 d u) m by omega, ← hX1, x1]
    · have hg : zGa d u m = false := decide_eq_false hz
      have hg1 : zG1 d u m = 0 := if_neg (by rw [hg]; decide)
      obtain ⟨X1, hX1⟩ : ∃ X1, X1 = si (si X 94 25 (oi (zSum (zG1 d u) 500 - zSum (zG1 d u) m))) 94 26 (gi X 94 26) := ⟨_, rfl⟩
      have hO : Oc [94] X X1 := by
        rw [hX1]
        exact (Oc.si (S := [94]) (by simp)).tr (Oc.si (S := [94]) (by simp)) (fun c hc => ⟨hc, hc⟩)
      obtain ⟨X', x1, x2, x3, x4, x5⟩ := ih fu' X1 (by omega) (by omega) (hR.oc hO (by decide)) (by rw [hX1, gi_n (by omega), gi_e]) (by
        rw [hX1, gi_e]
        rcases h26 with ⟨q, q1, q2, q3, q4, q5⟩ | ⟨q1, q2⟩
        · refine Or.inl ⟨q, by omega, q2, q3, fun i h1 h2 => ?_, q5⟩
          by_cases him : i = m
          · rw [him]
            exact hg
          · exact q4 i (by omega) h2
        · refine Or.inr ⟨fun i h1 h2 => ?_, q2⟩
          by_cases him : i = m
          · rw [him]
            exact hg
          · exact q1 i (by omega) h2)
      refine ⟨X', ?_, hO.tr x2 (fun c hc => ⟨hc, hc⟩), fun j q1 q2 => (x3 j q1 q2).trans (by rw [hX1, gi_n (by omega), gi_n (by omega)]), x4, x5⟩
      rw [F_X12_findLone_L31, sub_oi (by omega), Nat.add_sub_cancel, hm1]
      simp (disch := omega) only [l_0, l_1, l_2, l_3, l_4, l_5, l_6, l_7, l_8, l_9, l_10, l_11, l_12, l_13, l_14, l_15, l_16, l_17, l_18, l_19, l_20, l_21, l_22, l_23, l_24, l_25, l_26, l_27, l_28, l_29, l_30, l_31, l_32, l_33, l_34, l_35, l_36, l_37, l_38, l_39, l_40, l_41, l_42, l_43, l_44, l_45, l_46, l_47, l_48, l_49, l_50, l_51, l_52, l_53, l_54, l_55, l_56, l_57, l_58, l_59, l_60, l_61, l_62, l_63, l_64, l_65, l_66, l_67, l_68, l_69, l_70, l_71, l_72, l_73, l_74, l_75, l_76, l_77, l_78, l_79, l_80, l_81, l_82, l_83, l_84, l_85, l_86, l_87, l_88, l_89, l_90, l_91, l_92, l_93, l_94, l_95, l_96, l_97, l_98, l_99, l_100, l_101, l_102, l_103, l_104, l_105, l_106, l_107, l_108, l_109, l_110, l_111, l_121, l_122, l_160, l_200, l_201, l_240, l_255, l_361, l_390, l_499, l_500, l_999, l_1000, l_10000, l_10099, l_12345, l_16383, l_20000, l_20033, l_20038, l_20124, l_100000, l_1000000, l_1103515245, ui_oi, ck_oi, sb, jc_e, bl_0, bl_1, le_oi, lt_oi, eq_oi, add_oi, mul_oi, div_oi, ir_oi, gi_e, gi_n, if_true, if_false, if_pos, if_neg, true_and, and_true, false_and, and_false, true_or, or_true, false_or, or_false, hfit, han, h25]
      rw [show zSum (zG1 d u) 500 - zSum (zG1 d u) (m + 1) + 0 = zSum (zG1 d u) 500 - zSum (zG1 d u) m by omega, ← hX1, x1]
theorem r_findLone (hI : RI N d c) (hW : WF d) {b : Nat} (hb : b < 64) : ∃ N', F_X12_findLone N (oi b) = some N' ∧ RI N' d c ∧ RZ N N' ∧ (∀ n, AN N n → AN N' n) ∧ gi N' 94 25 = oi (zSum (zG1 d (zAmn (2 ^ d 6 - 1) b)) 500) ∧ zP (zGa d (zAmn (2 ^ d 6 - 1) b)) 0 (gi N' 94 26) := by
  have h6 := hW.2.2.2.2.1
  have hp : 2 ^ d 6 ≤ 64 := by
    have : 2 ^ d 6 ≤ 2 ^ 6 := Nat.pow_le_pow_right (by omega) h6
    omega
  have hp0 : 0 < 2 ^ d 6 := Nat.pow_pos (by omega)
  have hs := shl_all (d 6) (by omega)
  have han := an_all (2 ^ d 6 - 1) (by omega) b hb
  have hle := am_lt (2 ^ d 6 - 1) b
  obtain ⟨u, hu⟩ : ∃ u, u = zAmn (2 ^ d 6 - 1) b := ⟨_, rfl⟩
  rw [← hu] at han hle ⊢
  obtain ⟨N1, hN1⟩ : ∃ N1, N1 = si (si N 94 25 (oi 0)) 94 26 (- oi 3) := ⟨_, rfl⟩
  have hO : Oc [94] N N1 := by
    rw [hN1]
    exact (Oc.si (S := [94]) (by simp)).tr (Oc.si (S := [94]) (by simp)) (fun c hc => ⟨hc, hc⟩)
  obtain ⟨X', x1, x2, x3, x4, x5⟩ := w_fl hW (u := u) (by omega) 500 1000 N1 (by omega) (by omega) (hI.1.oc hO (by decide)) (by rw [hN1, gi_n (by omega), gi_e, Nat.sub_self]) (by
    rw [hN1, gi_e]
    exact Or.inr ⟨fun i h1 h2 => by omega, rfl⟩)
  have f94 : ∀ j, j ≠ 25 → j ≠ 26 → gi X' 94 j = gi N 94 j := fun j q1 q2 => (x3 j q1 q2).trans (by rw [hN1, gi_n (by omega), gi_n (by omega)])
  have hO2 : Oc [94] N X' := hO.tr x2 (fun c hc => ⟨hc, hc⟩)
  refine ⟨X', ?_, hI.oc hO2 (by decide), ⟨fun x j q => ?_, fun x hx => hO2 x (by simp; omega)⟩, fun n hn => (f94 4 (by omega) (by omega)).trans hn, x4, x5⟩
  · have e5 : oi 500 - oi 1 = oi 499 := by decide
    rw [e5] at x1
    unfold F_X12_findLone
    rw [show (-1 : Int32) = - oi 1 from rfl, show (-3 : Int32) = - oi 3 from rfl]
    simp (disch := omega) only [l_0, l_1, l_2, l_3, l_4, l_5, l_6, l_7, l_8, l_9, l_10, l_11, l_12, l_13, l_14, l_15, l_16, l_17, l_18, l_19, l_20, l_21, l_22, l_23, l_24, l_25, l_26, l_27, l_28, l_29, l_30, l_31, l_32, l_33, l_34, l_35, l_36, l_37, l_38, l_39, l_40, l_41, l_42, l_43, l_44, l_45, l_46, l_47, l_48, l_49, l_50, l_51, l_52, l_53, l_54, l_55, l_56, l_57, l_58, l_59, l_60, l_61, l_62, l_63, l_64, l_65, l_66, l_67, l_68, l_69, l_70, l_71, l_72, l_73, l_74, l_75, l_76, l_77, l_78, l_79, l_80, l_81, l_82, l_83, l_84, l_85, l_86, l_87, l_88, l_89, l_90, l_91, l_92, l_93, l_94, l_95, l_96, l_97, l_98, l_99, l_100, l_101, l_102, l_103, l_104, l_105, l_106, l_107, l_108, l_109, l_110, l_111, l_121, l_122, l_160, l_200, l_201, l_240, l_255, l_361, l_390, l_499, l_500, l_999, l_1000, l_10000, l_10099, l_12345, l_16383, l_20000, l_20033, l_20038, l_20124, l_100000, l_1000000, l_1103515245, ui_oi, ck_oi, sb, jc_e, bl_0, bl_1, le_oi, lt_oi, eq_oi, add_oi, mul_oi, div_oi, ir_oi, gi_e, gi_n, if_true, if_false, if_pos, if_neg, true_and, and_true, false_and, and_false, true_or, or_true, false_or, or_false, hI.1.g, hs, sub_oi, han]
    rw [← hN1]
    exact x1
  · by_cases h94 : x = 94
    · subst h94
      exact f94 j (by unfold ZN at q; omega) (by unfold ZN at q; omega)
    · exact hO2.g (by simp; exact h94)
theorem den_0 (hW : WF d) : zMk (fun r => !zFt d p r) (d 6) = 0 ↔ zGa d (zAmn (2 ^ d 6 - 1) 0) p = true := by
  have h6 := hW.2.2.2.2.1
  have hp : 2 ^ d 6 ≤ 64 := by
    have : 2 ^ d 6 ≤ 2 ^ 6 := Nat.pow_le_pow_right (by omega) h6
    omega
  have e : zAmn (2 ^ d 6 - 1) 0 = 2 ^ d 6 - 1 := by unfold zAmn; rw [Nat.and_zero, Nat.sub_zero]
  have hp0 : 0 < 2 ^ d 6 := Nat.pow_pos (by omega)
  unfold zGa
  rw [decide_eq_true_eq, e, zam_all _ (by omega) _ (zMk_64 h6), zMk_0 h6]
  refine ⟨fun q i hi h1 => ?_, fun q r hr => ?_⟩
  · have hir := (full_all (d 6) (by omega) i hi).mp h1
    refine (zMk_bit (d 6) h6 i hi).mpr ⟨hir, ?_⟩
    have := q i hir
    cases hb : zFt d p i with
    | true => rfl
    | false => rw [hb] at this; exact absurd this (by decide)
  · have := ((zMk_bit (g := zFt d p) (d 6) h6 r (by omega)).mp (q r (by omega) ((full_all (d 6) (by omega) r (by omega)).mpr hr))).2
    rw [this]
    rfl
theorem den_1 (hW : WF d) (hr : t < d 6) (hno : zGa d (zAmn (2 ^ d 6 - 1) 0) p = false) : zMk (fun r => !zFt d p r) (d 6) = 2 ^ t ↔ zGa d (zAmn (2 ^ d 6 - 1) (2 ^ t)) p = true := by
  have h6 := hW.2.2.2.2.1
  have hp : 2 ^ d 6 ≤ 64 := by
    have : 2 ^ d 6 ≤ 2 ^ 6 := Nat.pow_le_pow_right (by omega) h6
    omega
  have hp0 : 0 < 2 ^ d 6 := Nat.pow_pos (by omega)
  have ht64 := p6_lt t (by omega)
  have hle := am_lt (2 ^ d 6 - 1) (2 ^ t)
  have hub : ∀ i, i < 6 → (zAmn (2 ^ d 6 - 1) (2 ^ t) / 2 ^ i % 2 = 1 ↔ (i < d 6 ∧ i ≠ t)) := fun i hi => by
    rw [← anb_all _ (by omega) _ ht64 i hi, full_all (d 6) (by omega) i hi]
    have h1 := pbit_all t (by omega) i hi
    have h2 : 2 ^ t / 2 ^ i % 2 < 2 := Nat.mod_lt _ (by omega)
    exact ⟨fun q => ⟨q.1, fun q2 => by have := h1.mpr q2; omega⟩, fun q => ⟨q.1, by
      have : ¬ 2 ^ t / 2 ^ i % 2 = 1 := fun q3 => q.2 (h1.mp q3)
      omega⟩⟩
  have hd0 := den_0 (d := d) (p := p) hW
  have hga : zGa d (zAmn (2 ^ d 6 - 1) (2 ^ t)) p = true ↔ ∀ i, i < d 6 → i ≠ t → zFt d p i = true := by
    unfold zGa
    rw [decide_eq_true_eq, zam_all _ (by omega) _ (zMk_64 h6)]
    exact ⟨fun q i h1 h2 => ((zMk_bit (g := zFt d p) (d 6) h6 i (by omega)).mp (q i (by omega) ((hub i (by omega)).mpr ⟨h1, h2⟩))).2, fun q i hi h1 => (zMk_bit (d 6) h6 i hi).mpr ⟨((hub i hi).mp h1).1, q i ((hub i hi).mp h1).1 ((hub i hi).mp h1).2⟩⟩
  rw [hga]
  refine ⟨fun q i h1 h2 => ?_, fun q => ?_⟩
  · cases hb : zFt d p i with
    | true => rfl
    | false =>
      have h3 := (zMk_bit (g := fun r => !zFt d p r) (d 6) h6 i (by omega)).mpr ⟨h1, by show (!zFt d p i) = true; rw [hb]; rfl⟩
      rw [q] at h3
      exact absurd ((pbit_all t (by omega) i (by omega)).mp h3) h2
  · refine ext_all _ (zMk_64 h6) _ ht64 (fun i hi => ?_)
    rw [zMk_bit (d 6) h6 i hi, pbit_all t (by omega) i hi]
    refine ⟨fun q2 => ?_, fun q2 => ⟨by omega, ?_⟩⟩
    · by_cases hit : i = t
      · exact hit
      · have := q i q2.1 hit
        rw [this] at q2
        exact absurd q2.2 (by decide)
    · rw [q2]
      cases hb : zFt d p t with
      | false => rfl
      | true =>
        have : zMk (fun r => !zFt d p r) (d 6) = 0 := (zMk_0 h6).mpr (fun r hr => by
          by_cases hrt : r = t
          · rw [hrt, hb]
            rfl
          · rw [q r hr hrt]
            rfl)
        rw [hd0.mp this] at hno
        exact absurd hno (by decide)
/-- the class's loop for the first -/
theorem w_lone (hV : VL 0 M d c) (hW : WF d) {k : Nat} (hk0 : 1 ≤ k) (hk : k ≤ 3) (hg : g = zGa d (zAmn (2 ^ d 6 - 1) 0)) : ∀ m p fu, p + m = 500 → m < fu → (∀ i, i < p → g i = false) → ∃ v, zP g 0 v ∧ F_X11_lone_L15 M (oi k) fu (oi 0) (oi p) = (if v < 0 then some (- oi 3) else if k = 1 then F_X10_loneKind v else if k = 2 then F_X10_loneChalk v else F_X10_loneFill v) := by
  have h6 := hW.2.2.2.2.1
  intro m
  induction m with
  | zero =>
    intro p fu hp hf hn
    obtain ⟨fu', rfl⟩ : ∃ q, fu = q + 1 := ⟨fu - 1, by omega⟩
    refine ⟨- oi 3, Or.inr ⟨fun i _ h2 => hn i (by omega), rfl⟩, ?_⟩
    rw [F_X11_lone_L15, if_pos (show (- oi 3 : Int32) < 0 by decide)]
    simp (disch := omega) only [l_0, l_1, l_2, l_3, l_4, l_5, l_6, l_7, l_8, l_9, l_10, l_11, l_12, l_13, l_14, l_15, l_16, l_17, l_18, l_19, l_20, l_21, l_22, l_23, l_24, l_25, l_26, l_27, l_28, l_29, l_30, l_31, l_32, l_33, l_34, l_35, l_36, l_37, l_38, l_39, l_40, l_41, l_42, l_43, l_44, l_45, l_46, l_47, l_48, l_49, l_50, l_51, l_52, l_53, l_54, l_55, l_56, l_57, l_58, l_59, l_60, l_61, l_62, l_63, l_64, l_65, l_66, l_67, l_68, l_69, l_70, l_71, l_72, l_73, l_74, l_75, l_76, l_77, l_78, l_79, l_80, l_81, l_82, l_83, l_84, l_85, l_86, l_87, l_88, l_89, l_90, l_91, l_92, l_93, l_94, l_95, l_96, l_97, l_98, l_99, l_100, l_101, l_102, l_103, l_104, l_105, l_106, l_107, l_108, l_109, l_110, l_111, l_121, l_122, l_160, l_200, l_201, l_240, l_255, l_361, l_390, l_499, l_500, l_999, l_1000, l_10000, l_10099, l_12345, l_16383, l_20000, l_20033, l_20038, l_20124, l_100000, l_1000000, l_1103515245, ui_oi, ck_oi, sb, jc_e, bl_0, bl_1, le_oi, lt_oi, eq_oi, add_oi, mul_oi, div_oi, ir_oi, gi_e, gi_n, if_true, if_false, if_pos, if_neg, true_and, and_true, false_and, and_false, true_or, or_true, false_or, or_false, ]
  | succ m ih =>
    intro p fu hp hf hn
    obtain ⟨fu', rfl⟩ : ∃ q, fu = q + 1 := ⟨fu - 1, by omega⟩
    have hden := c_den hV hW (p := p) (by omega)
    have h64 := zMk_64 (g := fun r => !zFt d p r) h6
    have hd0 := den_0 (d := d) (p := p) hW
    rw [← hg] at hd0
    by_cases hz : zMk (fun r => !zFt d p r) (d 6) = 0
    · refine ⟨oi p, Or.inl ⟨p, by omega, by omega, hd0.mp hz, fun i _ h2 => hn i h2, rfl⟩, ?_⟩
      rw [hz] at hden
      have hnl : ¬ (oi p < (0 : Int32)) := by rw [l_0, lt_oi (by omega) (by omega)]; omega
      rw [F_X11_lone_L15, if_neg hnl]
      have e1 : F_X10_loneKind (oi p) = some (oi (1 + p / 100)) := by
        unfold F_X10_loneKind
        simp (disch := omega) only [l_0, l_1, l_2, l_3, l_4, l_5, l_6, l_7, l_8, l_9, l_10, l_11, l_12, l_13, l_14, l_15, l_16, l_17, l_18, l_19, l_20, l_21, l_22, l_23, l_24, l_25, l_26, l_27, l_28, l_29, l_30, l_31, l_32, l_33, l_34, l_35, l_36, l_37, l_38, l_39, l_40, l_41, l_42, l_43, l_44, l_45, l_46, l_47, l_48, l_49, l_50, l_51, l_52, l_53, l_54, l_55, l_56, l_57, l_58, l_59, l_60, l_61, l_62, l_63, l_64, l_65, l_66, l_67, l_68, l_69, l_70, l_71, l_72, l_73, l_74, l_75, l_76, l_77, l_78, l_79, l_80, l_81, l_82, l_83, l_84, l_85, l_86, l_87, l_88, l_89, l_90, l_91, l_92, l_93, l_94, l_95, l_96, l_97, l_98, l_99, l_100, l_101, l_102, l_103, l_104, l_105, l_106, l_107, l_108, l_109, l_110, l_111, l_121, l_122, l_160, l_200, l_201, l_240, l_255, l_361, l_390, l_499, l_500, l_999, l_1000, l_10000, l_10099, l_12345, l_16383, l_20000, l_20033, l_20038, l_20124, l_100000, l_1000000, l_1103515245, ui_oi, ck_oi, sb, jc_e, bl_0, bl_1, le_oi, lt_oi, eq_oi, add_oi, mul_oi, div_oi, ir_oi, gi_e, gi_n, if_true, if_false, if_pos, if_neg, true_and, and_true, false_and, and_false, true_or, or_true, false_or, or_false, ]
      have e2 : F_X10_loneChalk (oi p) = some (oi (p / 10 % 10)) := by
        unfold F_X10_loneChalk
        simp (disch := omega) only [l_0, l_1, l_2, l_3, l_4, l_5, l_6, l_7, l_8, l_9, l_10, l_11, l_12, l_13, l_14, l_15, l_16, l_17, l_18, l_19, l_20, l_21, l_22, l_23, l_24, l_25, l_26, l_27, l_28, l_29, l_30, l_31, l_32, l_33, l_34, l_35, l_36, l_37, l_38, l_39, l_40, l_41, l_42, l_43, l_44, l_45, l_46, l_47, l_48, l_49, l_50, l_51, l_52, l_53, l_54, l_55, l_56, l_57, l_58, l_59, l_60, l_61, l_62, l_63, l_64, l_65, l_66, l_67, l_68, l_69, l_70, l_71, l_72, l_73, l_74, l_75, l_76, l_77, l_78, l_79, l_80, l_81, l_82, l_83, l_84, l_85, l_86, l_87, l_88, l_89, l_90, l_91, l_92, l_93, l_94, l_95, l_96, l_97, l_98, l_99, l_100, l_101, l_102, l_103, l_104, l_105, l_106, l_107, l_108, l_109, l_110, l_111, l_121, l_122, l_160, l_200, l_201, l_240, l_255, l_361, l_390, l_499, l_500, l_999, l_1000, l_10000, l_10099, l_12345, l_16383, l_20000, l_20033, l_20038, l_20124, l_100000, l_1000000, l_1103515245, ui_oi, ck_oi, sb, jc_e, bl_0, bl_1, le_oi, lt_oi, eq_oi, add_oi, mul_oi, div_oi, ir_oi, gi_e, gi_n, if_true, if_false, if_pos, if_neg, true_and, and_true, false_and, and_false, true_or, or_true, false_or, or_false, ]
      have e3 : F_X10_loneFill (oi p) = some (oi (9 + 10 * (p % 10))) := by
        unfold F_X10_loneFill
        simp (disch := omega) only [l_0, l_1, l_2, l_3, l_4, l_5, l_6, l_7, l_8, l_9, l_10, l_11, l_12, l_13, l_14, l_15, l_16, l_17, l_18, l_19, l_20, l_21, l_22, l_23, l_24, l_25, l_26, l_27, l_28, l_29, l_30, l_31, l_32, l_33, l_34, l_35, l_36, l_37, l_38, l_39, l_40, l_41, l_42, l_43, l_44, l_45, l_46, l_47, l_48, l_49, l_50, l_51, l_52, l_53, l_54, l_55, l_56, l_57, l_58, l_59, l_60, l_61, l_62, l_63, l_64, l_65, l_66, l_67, l_68, l_69, l_70, l_71, l_72, l_73, l_74, l_75, l_76, l_77, l_78, l_79, l_80, l_81, l_82, l_83, l_84, l_85, l_86, l_87, l_88, l_89, l_90, l_91, l_92, l_93, l_94, l_95, l_96, l_97, l_98, l_99, l_100, l_101, l_102, l_103, l_104, l_105, l_106, l_107, l_108, l_109, l_110, l_111, l_121, l_122, l_160, l_200, l_201, l_240, l_255, l_361, l_390, l_499, l_500, l_999, l_1000, l_10000, l_10099, l_12345, l_16383, l_20000, l_20033, l_20038, l_20124, l_100000, l_1000000, l_1103515245, ui_oi, ck_oi, sb, jc_e, bl_0, bl_1, le_oi, lt_oi, eq_oi, add_oi, mul_oi, div_oi, ir_oi, gi_e, gi_n, if_true, if_false, if_pos, if_neg, true_and, and_true, false_and, and_false, true_or, or_true, false_or, or_false, ]
      rcases (by omega : k = 1 ∨ k = 2 ∨ k = 3) with rfl | rfl | rfl <;> simp (disch := omega) only [l_0, l_1, l_2, l_3, l_4, l_5, l_6, l_7, l_8, l_9, l_10, l_11, l_12, l_13, l_14, l_15, l_16, l_17, l_18, l_19, l_20, l_21, l_22, l_23, l_24, l_25, l_26, l_27, l_28, l_29, l_30, l_31, l_32, l_33, l_34, l_35, l_36, l_37, l_38, l_39, l_40, l_41, l_42, l_43, l_44, l_45, l_46, l_47, l_48, l_49, l_50, l_51, l_52, l_53, l_54, l_55, l_56, l_57, l_58, l_59, l_60, l_61, l_62, l_63, l_64, l_65, l_66, l_67, l_68, l_69, l_70, l_71, l_72, l_73, l_74, l_75, l_76, l_77, l_78, l_79, l_80, l_81, l_82, l_83, l_84, l_85, l_86, l_87, l_88, l_89, l_90, l_91, l_92, l_93, l_94, l_95, l_96, l_97, l_98, l_99, l_100, l_101, l_102, l_103, l_104, l_105, l_106, l_107, l_108, l_109, l_110, l_111, l_121, l_122, l_160, l_200, l_201, l_240, l_255, l_361, l_390, l_499, l_500, l_999, l_1000, l_10000, l_10099, l_12345, l_16383, l_20000, l_20033, l_20038, l_20124, l_100000, l_1000000, l_1103515245, ui_oi, ck_oi, sb, jc_e, bl_0, bl_1, le_oi, lt_oi, eq_oi, add_oi, mul_oi, div_oi, ir_oi, gi_e, gi_n, if_true, if_false, if_pos, if_neg, true_and, and_true, false_and, and_false, true_or, or_true, false_or, or_false, hden, e1, e2, e3]
    · obtain ⟨v, v1, v2⟩ := ih (p + 1) fu' (by omega) (by omega) (fun i hi => by
        by_cases hip : i = p
        · rw [hip]
          cases hb : g p with
          | false => rfl
          | true => exact absurd (hd0.mpr hb) hz
        · exact hn i (by omega))
      refine ⟨v, v1, ?_⟩
      rw [← v2, F_X11_lone_L15]
      simp (disch := omega) only [l_0, l_1, l_2, l_3, l_4, l_5, l_6, l_7, l_8, l_9, l_10, l_11, l_12, l_13, l_14, l_15, l_16, l_17, l_18, l_19, l_20, l_21, l_22, l_23, l_24, l_25, l_26, l_27, l_28, l_29, l_30, l_31, l_32, l_33, l_34, l_35, l_36, l_37, l_38, l_39, l_40, l_41, l_42, l_43, l_44, l_45, l_46, l_47, l_48, l_49, l_50, l_51, l_52, l_53, l_54, l_55, l_56, l_57, l_58, l_59, l_60, l_61, l_62, l_63, l_64, l_65, l_66, l_67, l_68, l_69, l_70, l_71, l_72, l_73, l_74, l_75, l_76, l_77, l_78, l_79, l_80, l_81, l_82, l_83, l_84, l_85, l_86, l_87, l_88, l_89, l_90, l_91, l_92, l_93, l_94, l_95, l_96, l_97, l_98, l_99, l_100, l_101, l_102, l_103, l_104, l_105, l_106, l_107, l_108, l_109, l_110, l_111, l_121, l_122, l_160, l_200, l_201, l_240, l_255, l_361, l_390, l_499, l_500, l_999, l_1000, l_10000, l_10099, l_12345, l_16383, l_20000, l_20033, l_20038, l_20124, l_100000, l_1000000, l_1103515245, ui_oi, ck_oi, sb, jc_e, bl_0, bl_1, le_oi, lt_oi, eq_oi, add_oi, mul_oi, div_oi, ir_oi, gi_e, gi_n, if_true, if_false, if_pos, if_neg, true_and, and_true, false_and, and_false, true_or, or_true, false_or, or_false, hden]
theorem zP_u {v w : Int32} (h1 : zP g 0 v) (h2 : zP g 0 w) : v = w := by
  rcases h1 with ⟨q, a1, a2, a3, a4, a5⟩ | ⟨a1, a2⟩
  · rcases h2 with ⟨r, b1, b2, b3, b4, b5⟩ | ⟨b1, b2⟩
    · have : q = r := by
        rcases Nat.lt_trichotomy q r with h | h | h
        · rw [b4 q (by omega) h] at a3
          exact absurd a3 (by decide)
        · exact h
        · rw [a4 r (by omega) h] at b3
          exact absurd b3 (by decide)
      rw [a5, b5, this]
    · rw [b1 q (by omega) a2] at a3
      exact absurd a3 (by decide)
  · rcases h2 with ⟨r, b1, b2, b3, b4, b5⟩ | ⟨b1, b2⟩
    · rw [a1 r (by omega) b2] at b3
      exact absurd b3 (by decide)
    · rw [a2, b2]
theorem w_lone0 (hV : VL 0 M d c) (hW : WF d) : F_X11_lone_L15 M (oi 0) 1000 (oi 0) (oi 0) = some (oi (zSum (zG1 d (zAmn (2 ^ d 6 - 1) 0)) 500)) := by
  have h6 := hW.2.2.2.2.1
  refine lp_up (L := fun m a z => F_X11_lone_L15 M (oi 0) m a z) (n := 500) (a := fun j => oi (zSum (zG1 d (zAmn (2 ^ d 6 - 1) 0)) j)) (fun j m hj => ?_) (fun m => ?_) 500 0 1000 (by omega) (by omega)
  · have hden := c_den hV hW (p := j) (by omega)
    have h64 := zMk_64 (g := fun r => !zFt d j r) h6
    have hd0 := den_0 (d := d) (p := j) hW
    try dsimp only
    rw [F_X11_lone_L15, zSum]
    by_cases hz : zMk (fun r => !zFt d j r) (d 6) = 0
    · rw [show zG1 d (zAmn (2 ^ d 6 - 1) 0) j = 1 from if_pos (hd0.mp hz)]
      rw [hz] at hden
      simp (disch := omega) only [l_0, l_1, l_2, l_3, l_4, l_5, l_6, l_7, l_8, l_9, l_10, l_11, l_12, l_13, l_14, l_15, l_16, l_17, l_18, l_19, l_20, l_21, l_22, l_23, l_24, l_25, l_26, l_27, l_28, l_29, l_30, l_31, l_32, l_33, l_34, l_35, l_36, l_37, l_38, l_39, l_40, l_41, l_42, l_43, l_44, l_45, l_46, l_47, l_48, l_49, l_50, l_51, l_52, l_53, l_54, l_55, l_56, l_57, l_58, l_59, l_60, l_61, l_62, l_63, l_64, l_65, l_66, l_67, l_68, l_69, l_70, l_71, l_72, l_73, l_74, l_75, l_76, l_77, l_78, l_79, l_80, l_81, l_82, l_83, l_84, l_85, l_86, l_87, l_88, l_89, l_90, l_91, l_92, l_93, l_94, l_95, l_96, l_97, l_98, l_99, l_100, l_101, l_102, l_103, l_104, l_105, l_106, l_107, l_108, l_109, l_110, l_111, l_121, l_122, l_160, l_200, l_201, l_240, l_255, l_361, l_390, l_499, l_500, l_999, l_1000, l_10000, l_10099, l_12345, l_16383, l_20000, l_20033, l_20038, l_20124, l_100000, l_1000000, l_1103515245, ui_oi, ck_oi, sb, jc_e, bl_0, bl_1, le_oi, lt_oi, eq_oi, add_oi, mul_oi, div_oi, ir_oi, gi_e, gi_n, if_true, if_false, if_pos, if_neg, true_and, and_true, false_and, and_false, true_or, or_true, false_or, or_false, hden]
    · rw [show zG1 d (zAmn (2 ^ d 6 - 1) 0) j = 0 from if_neg (fun q => hz (hd0.mpr q)), Nat.add_zero]
      simp (disch := omega) only [l_0, l_1, l_2, l_3, l_4, l_5, l_6, l_7, l_8, l_9, l_10, l_11, l_12, l_13, l_14, l_15, l_16, l_17, l_18, l_19, l_20, l_21, l_22, l_23, l_24, l_25, l_26, l_27, l_28, l_29, l_30, l_31, l_32, l_33, l_34, l_35, l_36, l_37, l_38, l_39, l_40, l_41, l_42, l_43, l_44, l_45, l_46, l_47, l_48, l_49, l_50, l_51, l_52, l_53, l_54, l_55, l_56, l_57, l_58, l_59, l_60, l_61, l_62, l_63, l_64, l_65, l_66, l_67, l_68, l_69, l_70, l_71, l_72, l_73, l_74, l_75, l_76, l_77, l_78, l_79, l_80, l_81, l_82, l_83, l_84, l_85, l_86, l_87, l_88, l_89, l_90, l_91, l_92, l_93, l_94, l_95, l_96, l_97, l_98, l_99, l_100, l_101, l_102, l_103, l_104, l_105, l_106, l_107, l_108, l_109, l_110, l_111, l_121, l_122, l_160, l_200, l_201, l_240, l_255, l_361, l_390, l_499, l_500, l_999, l_1000, l_10000, l_10099, l_12345, l_16383, l_20000, l_20033, l_20038, l_20124, l_100000, l_1000000, l_1103515245, ui_oi, ck_oi, sb, jc_e, bl_0, bl_1, le_oi, lt_oi, eq_oi, add_oi, mul_oi, div_oi, ir_oi, gi_e, gi_n, if_true, if_false, if_pos, if_neg, true_and, and_true, false_and, and_false, true_or, or_true, false_or, or_false, hden]
  · try dsimp only
    rw [F_X11_lone_L15]
    simp (disch := omega) only [l_0, l_1, l_2, l_3, l_4, l_5, l_6, l_7, l_8, l_9, l_10, l_11, l_12, l_13, l_14, l_15, l_16, l_17, l_18, l_19, l_20, l_21, l_22, l_23, l_24, l_25, l_26, l_27, l_28, l_29, l_30, l_31, l_32, l_33, l_34, l_35, l_36, l_37, l_38, l_39, l_40, l_41, l_42, l_43, l_44, l_45, l_46, l_47, l_48, l_49, l_50, l_51, l_52, l_53, l_54, l_55, l_56, l_57, l_58, l_59, l_60, l_61, l_62, l_63, l_64, l_65, l_66, l_67, l_68, l_69, l_70, l_71, l_72, l_73, l_74, l_75, l_76, l_77, l_78, l_79, l_80, l_81, l_82, l_83, l_84, l_85, l_86, l_87, l_88, l_89, l_90, l_91, l_92, l_93, l_94, l_95, l_96, l_97, l_98, l_99, l_100, l_101, l_102, l_103, l_104, l_105, l_106, l_107, l_108, l_109, l_110, l_111, l_121, l_122, l_160, l_200, l_201, l_240, l_255, l_361, l_390, l_499, l_500, l_999, l_1000, l_10000, l_10099, l_12345, l_16383, l_20000, l_20033, l_20038, l_20124, l_100000, l_1000000, l_1103515245, ui_oi, ck_oi, sb, jc_e, bl_0, bl_1, le_oi, lt_oi, eq_oi, add_oi, mul_oi, div_oi, ir_oi, gi_e, gi_n, if_true, if_false, if_pos, if_neg, true_and, and_true, false_and, and_false, true_or, or_true, false_or, or_false, ]
theorem q_lone (v1 : Int32) : Cl (pu fun M => F_X11_lone M v1) (fun M => F_X12_lone M v1) := by
  refine Cl.vs (fun M N d c hI => ?_)
  obtain ⟨hV, hF, h3, h4, hRI, hW, hA⟩ := id hI
  unfold pu
  try dsimp only
  unfold F_X11_lone F_X12_lone
  rcases win v1 0 3 (by omega) (by omega) with ⟨k, hk0, hk, rfl, e1⟩ | ⟨e1, -⟩
  · obtain ⟨N', y1, y2, y3, y4, y5, y6⟩ := r_findLone hRI hW (b := 0) (by omega)
    have hIV : IV M N' d c := ⟨hV, hF, h3, h4, y2, hW, y4 0 hA⟩
    by_cases hk1 : k = 0
    · subst hk1
      have hw := w_lone0 hV hW
      refine ⟨oi (zSum (zG1 d (zAmn (2 ^ d 6 - 1) 0)) 500), M, N', d, c, ?_, by simp (disch := omega) only [l_0, l_1, l_2, l_3, l_4, l_5, l_6, l_7, l_8, l_9, l_10, l_11, l_12, l_13, l_14, l_15, l_16, l_17, l_18, l_19, l_20, l_21, l_22, l_23, l_24, l_25, l_26, l_27, l_28, l_29, l_30, l_31, l_32, l_33, l_34, l_35, l_36, l_37, l_38, l_39, l_40, l_41, l_42, l_43, l_44, l_45, l_46, l_47, l_48, l_49, l_50, l_51, l_52, l_53, l_54, l_55, l_56, l_57, l_58, l_59, l_60, l_61, l_62, l_63, l_64, l_65, l_66, l_67, l_68, l_69, l_70, l_71, l_72, l_73, l_74, l_75, l_76, l_77, l_78, l_79, l_80, l_81, l_82, l_83, l_84, l_85, l_86, l_87, l_88, l_89, l_90, l_91, l_92, l_93, l_94, l_95, l_96, l_97, l_98, l_99, l_100, l_101, l_102, l_103, l_104, l_105, l_106, l_107, l_108, l_109, l_110, l_111, l_121, l_122, l_160, l_200, l_201, l_240, l_255, l_361, l_390, l_499, l_500, l_999, l_1000, l_10000, l_10099, l_12345, l_16383, l_20000, l_20033, l_20038, l_20124, l_100000, l_1000000, l_1103515245, ui_oi, ck_oi, sb, jc_e, bl_0, bl_1, le_oi, lt_oi, eq_oi, add_oi, mul_oi, div_oi, ir_oi, gi_e, gi_n, if_true, if_false, if_pos, if_neg, true_and, and_true, false_and, and_false, true_or, or_true, false_or, or_false, m_0, m_1, m_2, m_3, m_4, m_5, m_8, m_9, m_10, m_14, m_15, m_16, m_20, m_40, m_99, m_999, m_neg, in_within, e1, y1, y5], hIV, fun _ _ _ => rfl, fun _ _ => rfl, y3.1, y3.2⟩
      simp (disch := omega) only [l_0, l_1, l_2, l_3, l_4, l_5, l_6, l_7, l_8, l_9, l_10, l_11, l_12, l_13, l_14, l_15, l_16, l_17, l_18, l_19, l_20, l_21, l_22, l_23, l_24, l_25, l_26, l_27, l_28, l_29, l_30, l_31, l_32, l_33, l_34, l_35, l_36, l_37, l_38, l_39, l_40, l_41, l_42, l_43, l_44, l_45, l_46, l_47, l_48, l_49, l_50, l_51, l_52, l_53, l_54, l_55, l_56, l_57, l_58, l_59, l_60, l_61, l_62, l_63, l_64, l_65, l_66, l_67, l_68, l_69, l_70, l_71, l_72, l_73, l_74, l_75, l_76, l_77, l_78, l_79, l_80, l_81, l_82, l_83, l_84, l_85, l_86, l_87, l_88, l_89, l_90, l_91, l_92, l_93, l_94, l_95, l_96, l_97, l_98, l_99, l_100, l_101, l_102, l_103, l_104, l_105, l_106, l_107, l_108, l_109, l_110, l_111, l_121, l_122, l_160, l_200, l_201, l_240, l_255, l_361, l_390, l_499, l_500, l_999, l_1000, l_10000, l_10099, l_12345, l_16383, l_20000, l_20033, l_20038, l_20124, l_100000, l_1000000, l_1103515245, ui_oi, ck_oi, sb, jc_e, bl_0, bl_1, le_oi, lt_oi, eq_oi, add_oi, mul_oi, div_oi, ir_oi, gi_e, gi_n, if_true, if_false, if_pos, if_neg, true_and, and_true, false_and, and_false, true_or, or_true, false_or, or_false, m_0, m_1, m_2, m_3, m_4, m_5, m_8, m_9, m_10, m_14, m_15, m_16, m_20, m_40, m_99, m_999, m_neg, in_within, e1, hw]
      rfl
    · obtain ⟨v, w1, w2⟩ := w_lone hV hW (k := k) (by omega) hk rfl 500 0 1000 (by omega) (by omega) (fun i hi => by omega)
      have hv := zP_u w1 y6
      rcases w1 with ⟨q, a1, a2, a3, a4, a5⟩ | ⟨a1, a2⟩
      · subst a5
        have hnl : ¬ (oi q < (0 : Int32)) := by rw [l_0, lt_oi (by omega) (by omega)]; omega
        rw [if_neg hnl] at w2
        have g26 : gi N' 94 26 = oi q := hv.symm
        have e4 : F_X10_loneKind (oi q) = some (oi (1 + q / 100)) := by
          unfold F_X10_loneKind
          simp (disch := omega) only [l_0, l_1, l_2, l_3, l_4, l_5, l_6, l_7, l_8, l_9, l_10, l_11, l_12, l_13, l_14, l_15, l_16, l_17, l_18, l_19, l_20, l_21, l_22, l_23, l_24, l_25, l_26, l_27, l_28, l_29, l_30, l_31, l_32, l_33, l_34, l_35, l_36, l_37, l_38, l_39, l_40, l_41, l_42, l_43, l_44, l_45, l_46, l_47, l_48, l_49, l_50, l_51, l_52, l_53, l_54, l_55, l_56, l_57, l_58, l_59, l_60, l_61, l_62, l_63, l_64, l_65, l_66, l_67, l_68, l_69, l_70, l_71, l_72, l_73, l_74, l_75, l_76, l_77, l_78, l_79, l_80, l_81, l_82, l_83, l_84, l_85, l_86, l_87, l_88, l_89, l_90, l_91, l_92, l_93, l_94, l_95, l_96, l_97, l_98, l_99, l_100, l_101, l_102, l_103, l_104, l_105, l_106, l_107, l_108, l_109, l_110, l_111, l_121, l_122, l_160, l_200, l_201, l_240, l_255, l_361, l_390, l_499, l_500, l_999, l_1000, l_10000, l_10099, l_12345, l_16383, l_20000, l_20033, l_20038, l_20124, l_100000, l_1000000, l_1103515245, ui_oi, ck_oi, sb, jc_e, bl_0, bl_1, le_oi, lt_oi, eq_oi, add_oi, mul_oi, div_oi, ir_oi, gi_e, gi_n, if_true, if_false, if_pos, if_neg, true_and, and_true, false_and, and_false, true_or, or_true, false_or, or_false, ]
        have e2 : F_X10_loneChalk (oi q) = some (oi (q / 10 % 10)) := by
          unfold F_X10_loneChalk
          simp (disch := omega) only [l_0, l_1, l_2, l_3, l_4, l_5, l_6, l_7, l_8, l_9, l_10, l_11, l_12, l_13, l_14, l_15, l_16, l_17, l_18, l_19, l_20, l_21, l_22, l_23, l_24, l_25, l_26, l_27, l_28, l_29, l_30, l_31, l_32, l_33, l_34, l_35, l_36, l_37, l_38, l_39, l_40, l_41, l_42, l_43, l_44, l_45, l_46, l_47, l_48, l_49, l_50, l_51, l_52, l_53, l_54, l_55, l_56, l_57, l_58, l_59, l_60, l_61, l_62, l_63, l_64, l_65, l_66, l_67, l_68, l_69, l_70, l_71, l_72, l_73, l_74, l_75, l_76, l_77, l_78, l_79, l_80, l_81, l_82, l_83, l_84, l_85, l_86, l_87, l_88, l_89, l_90, l_91, l_92, l_93, l_94, l_95, l_96, l_97, l_98, l_99, l_100, l_101, l_102, l_103, l_104, l_105, l_106, l_107, l_108, l_109, l_110, l_111, l_121, l_122, l_160, l_200, l_201, l_240, l_255, l_361, l_390, l_499, l_500, l_999, l_1000, l_10000, l_10099, l_12345, l_16383, l_20000, l_20033, l_20038, l_20124, l_100000, l_1000000, l_1103515245, ui_oi, ck_oi, sb, jc_e, bl_0, bl_1, le_oi, lt_oi, eq_oi, add_oi, mul_oi, div_oi, ir_oi, gi_e, gi_n, if_true, if_false, if_pos, if_neg, true_and, and_true, false_and, and_false, true_or, or_true, false_or, or_false, ]
        have e3 : F_X10_loneFill (oi q) = some (oi (9 + 10 * (q % 10))) := by
          unfold F_X10_loneFill
          simp (disch := omega) only [l_0, l_1, l_2, l_3, l_4, l_5, l_6, l_7, l_8, l_9, l_10, l_11, l_12, l_13, l_14, l_15, l_16, l_17, l_18, l_19, l_20, l_21, l_22, l_23, l_24, l_25, l_26, l_27, l_28, l_29, l_30, l_31, l_32, l_33, l_34, l_35, l_36, l_37, l_38, l_39, l_40, l_41, l_42, l_43, l_44, l_45, l_46, l_47, l_48, l_49, l_50, l_51, l_52, l_53, l_54, l_55, l_56, l_57, l_58, l_59, l_60, l_61, l_62, l_63, l_64, l_65, l_66, l_67, l_68, l_69, l_70, l_71, l_72, l_73, l_74, l_75, l_76, l_77, l_78, l_79, l_80, l_81, l_82, l_83, l_84, l_85, l_86, l_87, l_88, l_89, l_90, l_91, l_92, l_93, l_94, l_95, l_96, l_97, l_98, l_99, l_100, l_101, l_102, l_103, l_104, l_105, l_106, l_107, l_108, l_109, l_110, l_111, l_121, l_122, l_160, l_200, l_201, l_240, l_255, l_361, l_390, l_499, l_500, l_999, l_1000, l_10000, l_10099, l_12345, l_16383, l_20000, l_20033, l_20038, l_20124, l_100000, l_1000000, l_1103515245, ui_oi, ck_oi, sb, jc_e, bl_0, bl_1, le_oi, lt_oi, eq_oi, add_oi, mul_oi, div_oi, ir_oi, gi_e, gi_n, if_true, if_false, if_pos, if_neg, true_and, and_true, false_and, and_false, true_or, or_true, false_or, or_false, ]
        rw [e4, e2, e3] at w2
        rcases (by omega : k = 1 ∨ k = 2 ∨ k = 3) with rfl | rfl | rfl
        · rw [if_pos rfl] at w2
          refine ⟨oi (1 + q / 100), M, N', d, c, ?_, by simp (disch := omega) only [l_0, l_1, l_2, l_3, l_4, l_5, l_6, l_7, l_8, l_9, l_10, l_11, l_12, l_13, l_14, l_15, l_16, l_17, l_18, l_19, l_20, l_21, l_22, l_23, l_24, l_25, l_26, l_27, l_28, l_29, l_30, l_31, l_32, l_33, l_34, l_35, l_36, l_37, l_38, l_39, l_40, l_41, l_42, l_43, l_44, l_45, l_46, l_47, l_48, l_49, l_50, l_51, l_52, l_53, l_54, l_55, l_56, l_57, l_58, l_59, l_60, l_61, l_62, l_63, l_64, l_65, l_66, l_67, l_68, l_69, l_70, l_71, l_72, l_73, l_74, l_75, l_76, l_77, l_78, l_79, l_80, l_81, l_82, l_83, l_84, l_85, l_86, l_87, l_88, l_89, l_90, l_91, l_92, l_93, l_94, l_95, l_96, l_97, l_98, l_99, l_100, l_101, l_102, l_103, l_104, l_105, l_106, l_107, l_108, l_109, l_110, l_111, l_121, l_122, l_160, l_200, l_201, l_240, l_255, l_361, l_390, l_499, l_500, l_999, l_1000, l_10000, l_10099, l_12345, l_16383, l_20000, l_20033, l_20038, l_20124, l_100000, l_1000000, l_1103515245, ui_oi, ck_oi, sb, jc_e, bl_0, bl_1, le_oi, lt_oi, eq_oi, add_oi, mul_oi, div_oi, ir_oi, gi_e, gi_n, if_true, if_false, if_pos, if_neg, true_and, and_true, false_and, and_false, true_or, or_true, false_or, or_false, m_0, m_1, m_2, m_3, m_4, m_5, m_8, m_9, m_10, m_14, m_15, m_16, m_20, m_40, m_99, m_999, m_neg, in_within, e1, y1, g26], hIV, fun _ _ _ => rfl, fun _ _ => rfl, y3.1, y3.2⟩
          simp (disch := omega) only [l_0, l_1, l_2, l_3, l_4, l_5, l_6, l_7, l_8, l_9, l_10, l_11, l_12, l_13, l_14, l_15, l_16, l_17, l_18, l_19, l_20, l_21, l_22, l_23, l_24, l_25, l_26, l_27, l_28, l_29, l_30, l_31, l_32, l_33, l_34, l_35, l_36, l_37, l_38, l_39, l_40, l_41, l_42, l_43, l_44, l_45, l_46, l_47, l_48, l_49, l_50, l_51, l_52, l_53, l_54, l_55, l_56, l_57, l_58, l_59, l_60, l_61, l_62, l_63, l_64, l_65, l_66, l_67, l_68, l_69, l_70, l_71, l_72, l_73, l_74, l_75, l_76, l_77, l_78, l_79, l_80, l_81, l_82, l_83, l_84, l_85, l_86, l_87, l_88, l_89, l_90, l_91, l_92, l_93, l_94, l_95, l_96, l_97, l_98, l_99, l_100, l_101, l_102, l_103, l_104, l_105, l_106, l_107, l_108, l_109, l_110, l_111, l_121, l_122, l_160, l_200, l_201, l_240, l_255, l_361, l_390, l_499, l_500, l_999, l_1000, l_10000, l_10099, l_12345, l_16383, l_20000, l_20033, l_20038, l_20124, l_100000, l_1000000, l_1103515245, ui_oi, ck_oi, sb, jc_e, bl_0, bl_1, le_oi, lt_oi, eq_oi, add_oi, mul_oi, div_oi, ir_oi, gi_e, gi_n, if_true, if_false, if_pos, if_neg, true_and, and_true, false_and, and_false, true_or, or_true, false_or, or_false, m_0, m_1, m_2, m_3, m_4, m_5, m_8, m_9, m_10, m_14, m_15, m_16, m_20, m_40, m_99, m_999, m_neg, in_within, e1, w2]
          rfl
        · rw [if_neg (by decide), if_pos rfl] at w2
          refine ⟨oi (q / 10 % 10), M, N', d, c, ?_, by simp (disch := omega) only [l_0, l_1, l_2, l_3, l_4, l_5, l_6, l_7, l_8, l_9, l_10, l_11, l_12, l_13, l_14, l_15, l_16, l_17, l_18, l_19, l_20, l_21, l_22, l_23, l_24, l_25, l_26, l_27, l_28, l_29, l_30, l_31, l_32, l_33, l_34, l_35, l_36, l_37, l_38, l_39, l_40, l_41, l_42, l_43, l_44, l_45, l_46, l_47, l_48, l_49, l_50, l_51, l_52, l_53, l_54, l_55, l_56, l_57, l_58, l_59, l_60, l_61, l_62, l_63, l_64, l_65, l_66, l_67, l_68, l_69, l_70, l_71, l_72, l_73, l_74, l_75, l_76, l_77, l_78, l_79, l_80, l_81, l_82, l_83, l_84, l_85, l_86, l_87, l_88, l_89, l_90, l_91, l_92, l_93, l_94, l_95, l_96, l_97, l_98, l_99, l_100, l_101, l_102, l_103, l_104, l_105, l_106, l_107, l_108, l_109, l_110, l_111, l_121, l_122, l_160, l_200, l_201, l_240, l_255, l_361, l_390, l_499, l_500, l_999, l_1000, l_10000, l_10099, l_12345, l_16383, l_20000, l_20033, l_20038, l_20124, l_100000, l_1000000, l_1103515245, ui_oi, ck_oi, sb, jc_e, bl_0, bl_1, le_oi, lt_oi, eq_oi, add_oi, mul_oi, div_oi, ir_oi, gi_e, gi_n, if_true, if_false, if_pos, if_neg, true_and, and_true, false_and, and_false, true_or, or_true, false_or, or_false, m_0, m_1, m_2, m_3, m_4, m_5, m_8, m_9, m_10, m_14, m_15, m_16, m_20, m_40, m_99, m_999, m_neg, in_within, e1, y1, g26], hIV, fun _ _ _ => rfl, fun _ _ => rfl, y3.1, y3.2⟩
          simp (disch := omega) only [l_0, l_1, l_2, l_3, l_4, l_5, l_6, l_7, l_8, l_9, l_10, l_11, l_12, l_13, l_14, l_15, l_16, l_17, l_18, l_19, l_20, l_21, l_22, l_23, l_24, l_25, l_26, l_27, l_28, l_29, l_30, l_31, l_32, l_33, l_34, l_35, l_36, l_37, l_38, l_39, l_40, l_41, l_42, l_43, l_44, l_45, l_46, l_47, l_48, l_49, l_50, l_51, l_52, l_53, l_54, l_55, l_56, l_57, l_58, l_59, l_60, l_61, l_62, l_63, l_64, l_65, l_66, l_67, l_68, l_69, l_70, l_71, l_72, l_73, l_74, l_75, l_76, l_77, l_78, l_79, l_80, l_81, l_82, l_83, l_84, l_85, l_86, l_87, l_88, l_89, l_90, l_91, l_92, l_93, l_94, l_95, l_96, l_97, l_98, l_99, l_100, l_101, l_102, l_103, l_104, l_105, l_106, l_107, l_108, l_109, l_110, l_111, l_121, l_122, l_160, l_200, l_201, l_240, l_255, l_361, l_390, l_499, l_500, l_999, l_1000, l_10000, l_10099, l_12345, l_16383, l_20000, l_20033, l_20038, l_20124, l_100000, l_1000000, l_1103515245, ui_oi, ck_oi, sb, jc_e, bl_0, bl_1, le_oi, lt_oi, eq_oi, add_oi, mul_oi, div_oi, ir_oi, gi_e, gi_n, if_true, if_false, if_pos, if_neg, true_and, and_true, false_and, and_false, true_or, or_true, false_or, or_false, m_0, m_1, m_2, m_3, m_4, m_5, m_8, m_9, m_10, m_14, m_15, m_16, m_20, m_40, m_99, m_999, m_neg, in_within, e1, w2]
          rfl
        · rw [if_neg (by decide), if_neg (by decide)] at w2
          refine ⟨oi (9 + 10 * (q % 10)), M, N', d, c, ?_, by simp (disch := omega) only [l_0, l_1, l_2, l_3, l_4, l_5, l_6, l_7, l_8, l_9, l_10, l_11, l_12, l_13, l_14, l_15, l_16, l_17, l_18, l_19, l_20, l_21, l_22, l_23, l_24, l_25, l_26, l_27, l_28, l_29, l_30, l_31, l_32, l_33, l_34, l_35, l_36, l_37, l_38, l_39, l_40, l_41, l_42, l_43, l_44, l_45, l_46, l_47, l_48, l_49, l_50, l_51, l_52, l_53, l_54, l_55, l_56, l_57, l_58, l_59, l_60, l_61, l_62, l_63, l_64, l_65, l_66, l_67, l_68, l_69, l_70, l_71, l_72, l_73, l_74, l_75, l_76, l_77, l_78, l_79, l_80, l_81, l_82, l_83, l_84, l_85, l_86, l_87, l_88, l_89, l_90, l_91, l_92, l_93, l_94, l_95, l_96, l_97, l_98, l_99, l_100, l_101, l_102, l_103, l_104, l_105, l_106, l_107, l_108, l_109, l_110, l_111, l_121, l_122, l_160, l_200, l_201, l_240, l_255, l_361, l_390, l_499, l_500, l_999, l_1000, l_10000, l_10099, l_12345, l_16383, l_20000, l_20033, l_20038, l_20124, l_100000, l_1000000, l_1103515245, ui_oi, ck_oi, sb, jc_e, bl_0, bl_1, le_oi, lt_oi, eq_oi, add_oi, mul_oi, div_oi, ir_oi, gi_e, gi_n, if_true, if_false, if_pos, if_neg, true_and, and_true, false_and, and_false, true_or, or_true, false_or, or_false, m_0, m_1, m_2, m_3, m_4, m_5, m_8, m_9, m_10, m_14, m_15, m_16, m_20, m_40, m_99, m_999, m_neg, in_within, e1, y1, g26], hIV, fun _ _ _ => rfl, fun _ _ => rfl, y3.1, y3.2⟩
          simp (disch := omega) only [l_0, l_1, l_2, l_3, l_4, l_5, l_6, l_7, l_8, l_9, l_10, l_11, l_12, l_13, l_14, l_15, l_16, l_17, l_18, l_19, l_20, l_21, l_22, l_23, l_24, l_25, l_26, l_27, l_28, l_29, l_30, l_31, l_32, l_33, l_34, l_35, l_36, l_37, l_38, l_39, l_40, l_41, l_42, l_43, l_44, l_45, l_46, l_47, l_48, l_49, l_50, l_51, l_52, l_53, l_54, l_55, l_56, l_57, l_58, l_59, l_60, l_61, l_62, l_63, l_64, l_65, l_66, l_67, l_68, l_69, l_70, l_71, l_72, l_73, l_74, l_75, l_76, l_77, l_78, l_79, l_80, l_81, l_82, l_83, l_84, l_85, l_86, l_87, l_88, l_89, l_90, l_91, l_92, l_93, l_94, l_95, l_96, l_97, l_98, l_99, l_100, l_101, l_102, l_103, l_104, l_105, l_106, l_107, l_108, l_109, l_110, l_111, l_121, l_122, l_160, l_200, l_201, l_240, l_255, l_361, l_390, l_499, l_500, l_999, l_1000, l_10000, l_10099, l_12345, l_16383, l_20000, l_20033, l_20038, l_20124, l_100000, l_1000000, l_1103515245, ui_oi, ck_oi, sb, jc_e, bl_0, bl_1, le_oi, lt_oi, eq_oi, add_oi, mul_oi, div_oi, ir_oi, gi_e, gi_n, if_true, if_false, if_pos, if_neg, true_and, and_true, false_and, and_false, true_or, or_true, false_or, or_false, m_0, m_1, m_2, m_3, m_4, m_5, m_8, m_9, m_10, m_14, m_15, m_16, m_20, m_40, m_99, m_999, m_neg, in_within, e1, w2]
          rfl
      · subst a2
        rw [if_pos (show (- oi 3 : Int32) < 0 by decide)] at w2
        have g26 : gi N' 94 26 = - oi 3 := hv.symm
        refine ⟨- oi 3, M, N', d, c, ?_, ?_, hIV, fun _ _ _ => rfl, fun _ _ => rfl, y3.1, y3.2⟩
        · simp (disch := omega) only [l_0, l_1, l_2, l_3, l_4, l_5, l_6, l_7, l_8, l_9, l_10, l_11, l_12, l_13, l_14, l_15, l_16, l_17, l_18, l_19, l_20, l_21, l_22, l_23, l_24, l_25, l_26, l_27, l_28, l_29, l_30, l_31, l_32, l_33, l_34, l_35, l_36, l_37, l_38, l_39, l_40, l_41, l_42, l_43, l_44, l_45, l_46, l_47, l_48, l_49, l_50, l_51, l_52, l_53, l_54, l_55, l_56, l_57, l_58, l_59, l_60, l_61, l_62, l_63, l_64, l_65, l_66, l_67, l_68, l_69, l_70, l_71, l_72, l_73, l_74, l_75, l_76, l_77, l_78, l_79, l_80, l_81, l_82, l_83, l_84, l_85, l_86, l_87, l_88, l_89, l_90, l_91, l_92, l_93, l_94, l_95, l_96, l_97, l_98, l_99, l_100, l_101, l_102, l_103, l_104, l_105, l_106, l_107, l_108, l_109, l_110, l_111, l_121, l_122, l_160, l_200, l_201, l_240, l_255, l_361, l_390, l_499, l_500, l_999, l_1000, l_10000, l_10099, l_12345, l_16383, l_20000, l_20033, l_20038, l_20124, l_100000, l_1000000, l_1103515245, ui_oi, ck_oi, sb, jc_e, bl_0, bl_1, le_oi, lt_oi, eq_oi, add_oi, mul_oi, div_oi, ir_oi, gi_e, gi_n, if_true, if_false, if_pos, if_neg, true_and, and_true, false_and, and_false, true_or, or_true, false_or, or_false, m_0, m_1, m_2, m_3, m_4, m_5, m_8, m_9, m_10, m_14, m_15, m_16, m_20, m_40, m_99, m_999, m_neg, in_within, e1, w2]
          rfl
        · simp (disch := omega) only [l_0, l_1, l_2, l_3, l_4, l_5, l_6, l_7, l_8, l_9, l_10, l_11, l_12, l_13, l_14, l_15, l_16, l_17, l_18, l_19, l_20, l_21, l_22, l_23, l_24, l_25, l_26, l_27, l_28, l_29, l_30, l_31, l_32, l_33, l_34, l_35, l_36, l_37, l_38, l_39, l_40, l_41, l_42, l_43, l_44, l_45, l_46, l_47, l_48, l_49, l_50, l_51, l_52, l_53, l_54, l_55, l_56, l_57, l_58, l_59, l_60, l_61, l_62, l_63, l_64, l_65, l_66, l_67, l_68, l_69, l_70, l_71, l_72, l_73, l_74, l_75, l_76, l_77, l_78, l_79, l_80, l_81, l_82, l_83, l_84, l_85, l_86, l_87, l_88, l_89, l_90, l_91, l_92, l_93, l_94, l_95, l_96, l_97, l_98, l_99, l_100, l_101, l_102, l_103, l_104, l_105, l_106, l_107, l_108, l_109, l_110, l_111, l_121, l_122, l_160, l_200, l_201, l_240, l_255, l_361, l_390, l_499, l_500, l_999, l_1000, l_10000, l_10099, l_12345, l_16383, l_20000, l_20033, l_20038, l_20124, l_100000, l_1000000, l_1103515245, ui_oi, ck_oi, sb, jc_e, bl_0, bl_1, le_oi, lt_oi, eq_oi, add_oi, mul_oi, div_oi, ir_oi, gi_e, gi_n, if_true, if_false, if_pos, if_neg, true_and, and_true, false_and, and_false, true_or, or_true, false_or, or_false, m_0, m_1, m_2, m_3, m_4, m_5, m_8, m_9, m_10, m_14, m_15, m_16, m_20, m_40, m_99, m_999, m_neg, in_within, e1, y1, g26, neg_ge]
  · refine ⟨-1, M, N, d, c, ?_, by simp (disch := omega) only [l_0, l_1, l_2, l_3, l_4, l_5, l_6, l_7, l_8, l_9, l_10, l_11, l_12, l_13, l_14, l_15, l_16, l_17, l_18, l_19, l_20, l_21, l_22, l_23, l_24, l_25, l_26, l_27, l_28, l_29, l_30, l_31, l_32, l_33, l_34, l_35, l_36, l_37, l_38, l_39, l_40, l_41, l_42, l_43, l_44, l_45, l_46, l_47, l_48, l_49, l_50, l_51, l_52, l_53, l_54, l_55, l_56, l_57, l_58, l_59, l_60, l_61, l_62, l_63, l_64, l_65, l_66, l_67, l_68, l_69, l_70, l_71, l_72, l_73, l_74, l_75, l_76, l_77, l_78, l_79, l_80, l_81, l_82, l_83, l_84, l_85, l_86, l_87, l_88, l_89, l_90, l_91, l_92, l_93, l_94, l_95, l_96, l_97, l_98, l_99, l_100, l_101, l_102, l_103, l_104, l_105, l_106, l_107, l_108, l_109, l_110, l_111, l_121, l_122, l_160, l_200, l_201, l_240, l_255, l_361, l_390, l_499, l_500, l_999, l_1000, l_10000, l_10099, l_12345, l_16383, l_20000, l_20033, l_20038, l_20124, l_100000, l_1000000, l_1103515245, ui_oi, ck_oi, sb, jc_e, bl_0, bl_1, le_oi, lt_oi, eq_oi, add_oi, mul_oi, div_oi, ir_oi, gi_e, gi_n, if_true, if_false, if_pos, if_neg, true_and, and_true, false_and, and_false, true_or, or_true, false_or, or_false, m_0, m_1, m_2, m_3, m_4, m_5, m_8, m_9, m_10, m_14, m_15, m_16, m_20, m_40, m_99, m_999, m_neg, in_within, e1], hI, fun _ _ _ => rfl, fun _ _ => rfl, fun _ _ _ => rfl, fun _ _ => rfl⟩
    simp (disch := omega) only [l_0, l_1, l_2, l_3, l_4, l_5, l_6, l_7, l_8, l_9, l_10, l_11, l_12, l_13, l_14, l_15, l_16, l_17, l_18, l_19, l_20, l_21, l_22, l_23, l_24, l_25, l_26, l_27, l_28, l_29, l_30, l_31, l_32, l_33, l_34, l_35, l_36, l_37, l_38, l_39, l_40, l_41, l_42, l_43, l_44, l_45, l_46, l_47, l_48, l_49, l_50, l_51, l_52, l_53, l_54, l_55, l_56, l_57, l_58, l_59, l_60, l_61, l_62, l_63, l_64, l_65, l_66, l_67, l_68, l_69, l_70, l_71, l_72, l_73, l_74, l_75, l_76, l_77, l_78, l_79, l_80, l_81, l_82, l_83, l_84, l_85, l_86, l_87, l_88, l_89, l_90, l_91, l_92, l_93, l_94, l_95, l_96, l_97, l_98, l_99, l_100, l_101, l_102, l_103, l_104, l_105, l_106, l_107, l_108, l_109, l_110, l_111, l_121, l_122, l_160, l_200, l_201, l_240, l_255, l_361, l_390, l_499, l_500, l_999, l_1000, l_10000, l_10099, l_12345, l_16383, l_20000, l_20033, l_20038, l_20124, l_100000, l_1000000, l_1103515245, ui_oi, ck_oi, sb, jc_e, bl_0, bl_1, le_oi, lt_oi, eq_oi, add_oi, mul_oi, div_oi, ir_oi, gi_e, gi_n, if_true, if_false, if_pos, if_neg, true_and, and_true, false_and, and_false, true_or, or_true, false_or, or_false, m_0, m_1, m_2, m_3, m_4, m_5, m_8, m_9, m_10, m_14, m_15, m_16, m_20, m_40, m_99, m_999, m_neg, in_within, e1]
    rfl
end LR

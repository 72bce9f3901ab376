/-! LONE BARRELS: sets as masks; which reports fit -/
def zMk (g : Nat → Bool) : Nat → Nat
  | 0 => 0
  | n + 1 => zMk g n + (if g n = true then 2 ^ n else 0)
theorem cat_all : ∀ n, n < 6 → ∀ x, x < 2 ^ n → ∀ v, v < 2 → ∀ i, i < 6 → (x + v * 2 ^ n) / 2 ^ i % 2 = if i = n then v else x / 2 ^ i % 2 := by decide +kernel
theorem ext_all : ∀ a, a < 64 → ∀ b, b < 64 → (∀ i, i < 6 → (a / 2 ^ i % 2 = 1 ↔ b / 2 ^ i % 2 = 1)) → a = b := by decide +kernel
theorem obit_all : ∀ a, a < 64 → ∀ b, b < 64 → ∀ i, i < 6 → ((a ||| b) / 2 ^ i % 2 = 1 ↔ (a / 2 ^ i % 2 = 1 ∨ b / 2 ^ i % 2 = 1)) := by decide +kernel
theorem pbit_all : ∀ i, i < 6 → ∀ j, j < 6 → (2 ^ i / 2 ^ j % 2 = 1 ↔ j = i) := by decide +kernel
theorem shb_all : ∀ i, i < 6 → (oi 1 <<< (oi i &&& oi 31)) = oi (2 ^ i) := by decide +kernel
theorem p6_lt : ∀ i, i < 6 → 2 ^ i < 64 := by decide +kernel
section LO
variable {M N M' N' N1 : Mm} {d e : Nat → Nat} {c : Cnd} {g h : Nat → Bool} {n i j p t x y : Nat}
theorem zMk_lt : ∀ n, zMk g n < 2 ^ n
  | 0 => Nat.lt_succ_self 0
  | n + 1 => by
    have := zMk_lt n
    have e : 2 ^ (n + 1) = 2 ^ n + 2 ^ n := by rw [Nat.pow_succ]; omega
    rw [zMk, e]
    split <;> omega
theorem zMk_64 (hn : n ≤ 6) : zMk g n < 64 := by
  have h1 := zMk_lt (g := g) n
  have h2 : 2 ^ n ≤ 2 ^ 6 := Nat.pow_le_pow_right (by omega) hn
  omega
theorem zMk_bit : ∀ n, n ≤ 6 → ∀ i, i < 6 → (zMk g n / 2 ^ i % 2 = 1 ↔ (i < n ∧ g i = true))
  | 0, _, i, hi => by
    rw [zMk, Nat.zero_div]
    exact ⟨fun q => by omega, fun q => by omega⟩
  | n + 1, hn, i, hi => by
    have h1 := zMk_lt (g := g) n
    have ih := zMk_bit n (by omega) i hi
    by_cases hg : g n = true
    · have h2 := cat_all n (by omega) (zMk g n) h1 1 (by omega) i hi
      rw [Nat.one_mul] at h2
      rw [zMk, if_pos hg, h2]
      by_cases hin : i = n
      · subst hin
        rw [if_pos rfl]
        exact ⟨fun _ => ⟨by omega, hg⟩, fun _ => rfl⟩
      · rw [if_neg hin, ih]
        exact ⟨fun q => ⟨by omega, q.2⟩, fun q => ⟨by omega, q.2⟩⟩
    · rw [zMk, if_neg hg, Nat.add_zero, ih]
      refine ⟨fun q => ⟨by omega, q.2⟩, fun q => ⟨?_, q.2⟩⟩
      by_cases hin : i = n
      · exact absurd (hin ▸ q.2) hg
      · omega
theorem zMk_or (hn : n ≤ 6) : zMk g n ||| zMk h n = zMk (fun r => g r || h r) n := by
  have h1 := zMk_64 (g := g) hn
  have h2 := zMk_64 (g := h) hn
  refine ext_all _ (Nat.or_lt_two_pow (n := 6) h1 h2) _ (zMk_64 hn) (fun i hi => ?_)
  rw [obit_all _ h1 _ h2 i hi, zMk_bit n hn i hi, zMk_bit n hn i hi, zMk_bit n hn i hi, Bool.or_eq_true]
  exact ⟨fun q => by rcases q with q | q; exact ⟨q.1, Or.inl q.2⟩; exact ⟨q.1, Or.inr q.2⟩, fun q => by rcases q.2 with q2 | q2; exact Or.inl ⟨q.1, q2⟩; exact Or.inr ⟨q.1, q2⟩⟩
theorem zMk_one (hn : n ≤ 6) (hj : j < n) : zMk g n ||| 2 ^ j = zMk (fun r => g r || decide (r = j)) n := by
  have h1 := zMk_64 (g := g) hn
  have h2 := p6_lt j (by omega)
  refine ext_all _ (Nat.or_lt_two_pow (n := 6) h1 h2) _ (zMk_64 hn) (fun i hi => ?_)
  rw [obit_all _ h1 _ h2 i hi, zMk_bit n hn i hi, zMk_bit n hn i hi, pbit_all j (by omega) i hi, Bool.or_eq_true, decide_eq_true_eq]
  exact ⟨fun q => by rcases q with q | q; exact ⟨q.1, Or.inl q.2⟩; exact ⟨by omega, Or.inr q⟩, fun q => by rcases q.2 with q2 | q2; exact Or.inl ⟨q.1, q2⟩; exact Or.inr q2⟩
theorem zMk_congr : ∀ n, (∀ r, r < n → g r = h r) → zMk g n = zMk h n
  | 0, _ => rfl
  | n + 1, q => by rw [zMk, zMk, zMk_congr n (fun r hr => q r (by omega)), q n (by omega)]
theorem zMk_0 (hn : n ≤ 6) : zMk g n = 0 ↔ ∀ r, r < n → g r = false := by
  refine ⟨fun q r hr => ?_, fun q => ?_⟩
  · have := zMk_bit (g := g) n hn r (by omega)
    rw [q, Nat.zero_div] at this
    cases hg : g r with
    | false => rfl
    | true => exact absurd (this.mpr ⟨hr, hg⟩) (by decide)
  · rw [zMk_congr (h := fun _ => false) n q]
    clear q hn
    induction n with
    | zero => rfl
    | succ n ih => rw [zMk, ih]; rfl
/-- the stranger with number p: its kind, chalk and first fill; its fill and how often it might have been staked -/
def zSF (d : Nat → Nat) (p : Nat) : Nat → Nat
  | 0 => 9 + 10 * (p % 10)
  | t + 1 => zSF d p t - zLb (1 + p / 100) (zW d t / 4) (zW d t % 4) t
def zSC (d : Nat → Nat) (p : Nat) : Nat → Nat
  | 0 => 0
  | t + 1 => zSC d p t + (if 0 < zSF d p t ∧ zFb (1 + p / 100) (zSF d p t) (p / 10 % 10) 0 + zW d t / 4 ≤ 4 then 1 else 0)
def zVr (d : Nat → Nat) (x y r : Nat) : Bool := decide (d (67 + 4 * r) ≤ (if d (66 + 4 * r) = 0 then x else y) ∧ (if d (66 + 4 * r) = 0 then x else y) ≤ d (68 + 4 * r))
def zFt (d : Nat → Nat) (p r : Nat) : Bool := zVr d (zSF d p (d (65 + 4 * r))) (zSC d p (d (65 + 4 * r))) r
theorem zSF_le : ∀ t, zSF d p t ≤ 99
  | 0 => by unfold zSF; omega
  | t + 1 => by
    have := zSF_le t
    unfold zSF
    omega
theorem zSC_le : ∀ t, zSC d p t ≤ t
  | 0 => Nat.le_refl _
  | t + 1 => by
    have := zSC_le t
    unfold zSC
    split <;> omega
theorem c_db (hV : VL 0 M d c) (hW : WF d) (ht : t < 16) (hx : x ≤ 99) (hy : y ≤ 99) : F_X10_deniedBehind M (oi t) (oi x) (oi y) = some (oi (zMk (fun r => decide (d (65 + 4 * r) = t) && !zVr d x y r) (d 6))) := by
  obtain ⟨h0, h1, h2, h5, h6, hb, hw⟩ := id hW
  unfold F_X10_deniedBehind
  refine lp_up (L := fun m a z => F_X10_deniedBehind_L6 M (oi t) (oi x) (oi y) m a z) (n := d 6) (a := fun j => oi (zMk (fun r => decide (d (65 + 4 * r) = t) && !zVr d x y r) j)) (fun j m hj => ?_) (fun m => ?_) (d 6) 0 1000 (by omega) (by omega)
  · obtain ⟨v1, v2, v3, v4⟩ := hV.2.2.2.2.2.2.1 j (by omega)
    obtain ⟨w1, w2, w3, w4⟩ := hw.2.2.1 j (by omega)
    have hlt := zMk_lt (g := fun r => decide (d (65 + 4 * r) = t) && !zVr d x y r) j
    have hor := or_all j (by omega) _ hlt 1 (by omega)
    rw [Nat.one_mul] at hor
    try dsimp only
    rw [F_X10_deniedBehind_L6, zMk]
    by_cases ha : d (65 + 4 * j) = t
    · by_cases hk : d (66 + 4 * j) = 0
      · by_cases hl : d (67 + 4 * j) ≤ x
        · by_cases hh : x ≤ d (68 + 4 * j)
          · have e : zVr d x y j = true := by unfold zVr; rw [if_pos hk]; exact decide_eq_true ⟨hl, hh⟩
            simp only [e, ha, decide_true, Bool.not_true, Bool.and_false, Bool.false_eq_true, if_false, Nat.add_zero]
            simp (disch := omega) only [l_0, l_1, l_2, l_3, l_4, l_5, l_6, l_7, l_8, l_9, l_10, l_11, l_12, l_13, l_14, l_15, l_16, l_17, l_18, l_19, l_20, l_21, l_22, l_23, l_24, l_25, l_26, l_27, l_28, l_29, l_30, l_31, l_32, l_33, l_34, l_35, l_36, l_37, l_38, l_39, l_40, l_41, l_42, l_43, l_44, l_45, l_46, l_47, l_48, l_49, l_50, l_51, l_52, l_53, l_54, l_55, l_56, l_57, l_58, l_59, l_60, l_61, l_62, l_63, l_64, l_65, l_66, l_67, l_68, l_69, l_70, l_71, l_72, l_73, l_74, l_75, l_76, l_77, l_78, l_79, l_80, l_81, l_82, l_83, l_84, l_85, l_86, l_87, l_88, l_89, l_90, l_91, l_92, l_93, l_94, l_95, l_96, l_97, l_98, l_99, l_100, l_101, l_102, l_103, l_104, l_105, l_106, l_107, l_108, l_109, l_110, l_111, l_121, l_122, l_160, l_200, l_201, l_240, l_255, l_361, l_390, l_499, l_500, l_999, l_1000, l_10000, l_10099, l_12345, l_16383, l_20000, l_20033, l_20038, l_20124, l_100000, l_1000000, l_1103515245, ui_oi, ck_oi, sb, jc_e, bl_0, bl_1, le_oi, lt_oi, eq_oi, add_oi, mul_oi, div_oi, ir_oi, gi_e, gi_n, if_true, if_false, if_pos, if_neg, true_and, and_true, false_and, and_false, true_or, or_true, false_or, or_false, hV.rn, v1, v2, v3, v4]
          · have e : zVr d x y j = false := by unfold zVr; rw [if_pos hk]; exact decide_eq_false (fun q => hh q.2)
            simp only [e, ha, decide_true, Bool.not_false, Bool.and_true, if_true]
            simp (disch := omega) only [l_0, l_1, l_2, l_3, l_4, l_5, l_6, l_7, l_8, l_9, l_10, l_11, l_12, l_13, l_14, l_15, l_16, l_17, l_18, l_19, l_20, l_21, l_22, l_23, l_24, l_25, l_26, l_27, l_28, l_29, l_30, l_31, l_32, l_33, l_34, l_35, l_36, l_37, l_38, l_39, l_40, l_41, l_42, l_43, l_44, l_45, l_46, l_47, l_48, l_49, l_50, l_51, l_52, l_53, l_54, l_55, l_56, l_57, l_58, l_59, l_60, l_61, l_62, l_63, l_64, l_65, l_66, l_67, l_68, l_69, l_70, l_71, l_72, l_73, l_74, l_75, l_76, l_77, l_78, l_79, l_80, l_81, l_82, l_83, l_84, l_85, l_86, l_87, l_88, l_89, l_90, l_91, l_92, l_93, l_94, l_95, l_96, l_97, l_98, l_99, l_100, l_101, l_102, l_103, l_104, l_105, l_106, l_107, l_108, l_109, l_110, l_111, l_121, l_122, l_160, l_200, l_201, l_240, l_255, l_361, l_390, l_499, l_500, l_999, l_1000, l_10000, l_10099, l_12345, l_16383, l_20000, l_20033, l_20038, l_20124, l_100000, l_1000000, l_1103515245, ui_oi, ck_oi, sb, jc_e, bl_0, bl_1, le_oi, lt_oi, eq_oi, add_oi, mul_oi, div_oi, ir_oi, gi_e, gi_n, if_true, if_false, if_pos, if_neg, true_and, and_true, false_and, and_false, true_or, or_true, false_or, or_false, hV.rn, v1, v2, v3, v4, hor]
        · have e : zVr d x y j = false := by unfold zVr; rw [if_pos hk]; exact decide_eq_false (fun q => hl q.1)
          simp only [e, ha, decide_true, Bool.not_false, Bool.and_true, if_true]
          simp (disch := omega) only [l_0, l_1, l_2, l_3, l_4, l_5, l_6, l_7, l_8, l_9, l_10, l_11, l_12, l_13, l_14, l_15, l_16, l_17, l_18, l_19, l_20, l_21, l_22, l_23, l_24, l_25, l_26, l_27, l_28, l_29, l_30, l_31, l_32, l_33, l_34, l_35, l_36, l_37, l_38, l_39, l_40, l_41, l_42, l_43, l_44, l_45, l_46, l_47, l_48, l_49, l_50, l_51, l_52, l_53, l_54, l_55, l_56, l_57, l_58, l_59, l_60, l_61, l_62, l_63, l_64, l_65, l_66, l_67, l_68, l_69, l_70, l_71, l_72, l_73, l_74, l_75, l_76, l_77, l_78, l_79, l_80, l_81, l_82, l_83, l_84, l_85, l_86, l_87, l_88, l_89, l_90, l_91, l_92, l_93, l_94, l_95, l_96, l_97, l_98, l_99, l_100, l_101, l_102, l_103, l_104, l_105, l_106, l_107, l_108, l_109, l_110, l_111, l_121, l_122, l_160, l_200, l_201, l_240, l_255, l_361, l_390, l_499, l_500, l_999, l_1000, l_10000, l_10099, l_12345, l_16383, l_20000, l_20033, l_20038, l_20124, l_100000, l_1000000, l_1103515245, ui_oi, ck_oi, sb, jc_e, bl_0, bl_1, le_oi, lt_oi, eq_oi, add_oi, mul_oi, div_oi, ir_oi, gi_e, gi_n, if_true, if_false, if_pos, if_neg, true_and, and_true, false_and, and_false, true_or, or_true, false_or, or_false, hV.rn, v1, v2, v3, v4, hor]
      · by_cases hl : d (67 + 4 * j) ≤ y
        · by_cases hh : y ≤ d (68 + 4 * j)
          · have e : zVr d x y j = true := by unfold zVr; rw [if_neg hk]; exact decide_eq_true ⟨hl, hh⟩
            simp only [e, ha, decide_true, Bool.not_true, Bool.and_false, Bool.false_eq_true, if_false, Nat.add_zero]
            simp (disch := omega) only [l_0, l_1, l_2, l_3, l_4, l_5, l_6, l_7, l_8, l_9, l_10, l_11, l_12, l_13, l_14, l_15, l_16, l_17, l_18, l_19, l_20, l_21, l_22, l_23, l_24, l_25, l_26, l_27, l_28, l_29, l_30, l_31, l_32, l_33, l_34, l_35, l_36, l_37, l_38, l_39, l_40, l_41, l_42, l_43, l_44, l_45, l_46, l_47, l_48, l_49, l_50, l_51, l_52, l_53, l_54, l_55, l_56, l_57, l_58, l_59, l_60, l_61, l_62, l_63, l_64, l_65, l_66, l_67, l_68, l_69, l_70, l_71, l_72, l_73, l_74, l_75, l_76, l_77, l_78, l_79, l_80, l_81, l_82, l_83, l_84, l_85, l_86, l_87, l_88, l_89, l_90, l_91, l_92, l_93, l_94, l_95, l_96, l_97, l_98, l_99, l_100, l_101, l_102, l_103, l_104, l_105, l_106, l_107, l_108, l_109, l_110, l_111, l_121, l_122, l_160, l_200, l_201, l_240, l_255, l_361, l_390, l_499, l_500, l_999, l_1000, l_10000, l_10099, l_12345, l_16383, l_20000, l_20033, l_20038, l_20124, l_100000, l_1000000, l_1103515245, ui_oi, ck_oi, sb, jc_e, bl_0, bl_1, le_oi, lt_oi, eq_oi, add_oi, mul_oi, div_oi, ir_oi, gi_e, gi_n, if_true, if_false, if_pos, if_neg, true_and, and_true, false_and, and_false, true_or, or_true, false_or, or_false, hV.rn, v1, v2, v3, v4]
          · have e : zVr d x y j = false := by unfold zVr; rw [if_neg hk]; exact decide_eq_false (fun q => hh q.2)
            simp only [e, ha, decide_true, Bool.not_false, Bool.and_true, if_true]
            simp (disch := omega) only [l_0, l_1, l_2, l_3, l_4, l_5, l_6, l_7, l_8, l_9, l_10, l_11, l_12, l_13, l_14, l_15, l_16, l_17, l_18, l_19, l_20, l_21, l_22, l_23, l_24, l_25, l_26, l_27, l_28, l_29, l_30, l_31, l_32, l_33, l_34, l_35, l_36, l_37, l_38, l_39, l_40, l_41, l_42, l_43, l_44, l_45, l_46, l_47, l_48, l_49, l_50, l_51, l_52, l_53, l_54, l_55, l_56, l_57, l_58, l_59, l_60, l_61, l_62, l_63, l_64, l_65, l_66, l_67, l_68, l_69, l_70, l_71, l_72, l_73, l_74, l_75, l_76, l_77, l_78, l_79, l_80, l_81, l_82, l_83, l_84, l_85, l_86, l_87, l_88, l_89, l_90, l_91, l_92, l_93, l_94, l_95, l_96, l_97, l_98, l_99, l_100, l_101, l_102, l_103, l_104, l_105, l_106, l_107, l_108, l_109, l_110, l_111, l_121, l_122, l_160, l_200, l_201, l_240, l_255, l_361, l_390, l_499, l_500, l_999, l_1000, l_10000, l_10099, l_12345, l_16383, l_20000, l_20033, l_20038, l_20124, l_100000, l_1000000, l_1103515245, ui_oi, ck_oi, sb, jc_e, bl_0, bl_1, le_oi, lt_oi, eq_oi, add_oi, mul_oi, div_oi, ir_oi, gi_e, gi_n, if_true, if_false, if_pos, if_neg, true_and, and_true, false_and, and_false, true_or, or_true, false_or, or_false, hV.rn, v1, v2, v3, v4, hor]
        · have e : zVr d x y j = false := by unfold zVr; rw [if_neg hk]; exact decide_eq_false (fun q => hl q.1)
          simp only [e, ha, decide_true, Bool.not_false, Bool.and_true, if_true]
          simp (disch := omega) only [l_0, l_1, l_2, l_3, l_4, l_5, l_6, l_7, l_8, l_9, l_10, l_11, l_12, l_13, l_14, l_15, l_16, l_17, l_18, l_19, l_20, l_21, l_22, l_23, l_24, l_25, l_26, l_27, l_28, l_29, l_30, l_31, l_32, l_33, l_34, l_35, l_36, l_37, l_38, l_39, l_40, l_41, l_42, l_43, l_44, l_45, l_46, l_47, l_48, l_49, l_50, l_51, l_52, l_53, l_54, l_55, l_56, l_57, l_58, l_59, l_60, l_61, l_62, l_63, l_64, l_65, l_66, l_67, l_68, l_69, l_70, l_71, l_72, l_73, l_74, l_75, l_76, l_77, l_78, l_79, l_80, l_81, l_82, l_83, l_84, l_85, l_86, l_87, l_88, l_89, l_90, l_91, l_92, l_93, l_94, l_95, l_96, l_97, l_98, l_99, l_100, l_101, l_102, l_103, l_104, l_105, l_106, l_107, l_108, l_109, l_110, l_111, l_121, l_122, l_160, l_200, l_201, l_240, l_255, l_361, l_390, l_499, l_500, l_999, l_1000, l_10000, l_10099, l_12345, l_16383, l_20000, l_20033, l_20038, l_20124, l_100000, l_1000000, l_1103515245, ui_oi, ck_oi, sb, jc_e, bl_0, bl_1, le_oi, lt_oi, eq_oi, add_oi, mul_oi, div_oi, ir_oi, gi_e, gi_n, if_true, if_false, if_pos, if_neg, true_and, and_true, false_and, and_false, true_or, or_true, false_or, or_false, hV.rn, v1, v2, v3, v4, hor]
    · simp only [ha, decide_false, Bool.false_and, Bool.false_eq_true, if_false, Nat.add_zero]
      simp (disch := omega) only [l_0, l_1, l_2, l_3, l_4, l_5, l_6, l_7, l_8, l_9, l_10, l_11, l_12, l_13, l_14, l_15, l_16, l_17, l_18, l_19, l_20, l_21, l_22, l_23, l_24, l_25, l_26, l_27, l_28, l_29, l_30, l_31, l_32, l_33, l_34, l_35, l_36, l_37, l_38, l_39, l_40, l_41, l_42, l_43, l_44, l_45, l_46, l_47, l_48, l_49, l_50, l_51, l_52, l_53, l_54, l_55, l_56, l_57, l_58, l_59, l_60, l_61, l_62, l_63, l_64, l_65, l_66, l_67, l_68, l_69, l_70, l_71, l_72, l_73, l_74, l_75, l_76, l_77, l_78, l_79, l_80, l_81, l_82, l_83, l_84, l_85, l_86, l_87, l_88, l_89, l_90, l_91, l_92, l_93, l_94, l_95, l_96, l_97, l_98, l_99, l_100, l_101, l_102, l_103, l_104, l_105, l_106, l_107, l_108, l_109, l_110, l_111, l_121, l_122, l_160, l_200, l_201, l_240, l_255, l_361, l_390, l_499, l_500, l_999, l_1000, l_10000, l_10099, l_12345, l_16383, l_20000, l_20033, l_20038, l_20124, l_100000, l_1000000, l_1103515245, ui_oi, ck_oi, sb, jc_e, bl_0, bl_1, le_oi, lt_oi, eq_oi, add_oi, mul_oi, div_oi, ir_oi, gi_e, gi_n, if_true, if_false, if_pos, if_neg, true_and, and_true, false_and, and_false, true_or, or_true, false_or, or_false, hV.rn, v1, v2, v3, v4]
  · try dsimp only
    rw [F_X10_deniedBehind_L6]
    simp (disch := omega) only [l_0, l_1, l_2, l_3, l_4, l_5, l_6, l_7, l_8, l_9, l_10, l_11, l_12, l_13, l_14, l_15, l_16, l_17, l_18, l_19, l_20, l_21, l_22, l_23, l_24, l_25, l_26, l_27, l_28, l_29, l_30, l_31, l_32, l_33, l_34, l_35, l_36, l_37, l_38, l_39, l_40, l_41, l_42, l_43, l_44, l_45, l_46, l_47, l_48, l_49, l_50, l_51, l_52, l_53, l_54, l_55, l_56, l_57, l_58, l_59, l_60, l_61, l_62, l_63, l_64, l_65, l_66, l_67, l_68, l_69, l_70, l_71, l_72, l_73, l_74, l_75, l_76, l_77, l_78, l_79, l_80, l_81, l_82, l_83, l_84, l_85, l_86, l_87, l_88, l_89, l_90, l_91, l_92, l_93, l_94, l_95, l_96, l_97, l_98, l_99, l_100, l_101, l_102, l_103, l_104, l_105, l_106, l_107, l_108, l_109, l_110, l_111, l_121, l_122, l_160, l_200, l_201, l_240, l_255, l_361, l_390, l_499, l_500, l_999, l_1000, l_10000, l_10099, l_12345, l_16383, l_20000, l_20033, l_20038, l_20124, l_100000, l_1000000, l_1103515245, ui_oi, ck_oi, sb, jc_e, bl_0, bl_1, le_oi, lt_oi, eq_oi, add_oi, mul_oi, div_oi, ir_oi, gi_e, gi_n, if_true, if_false, if_pos, if_neg, true_and, and_true, false_and, and_false, true_or, or_true, false_or, or_false, hV.rn]
def zLa (d : Nat → Nat) : Nat → Nat
  | 0 => 0
  | n + 1 => max (zLa d n) (d (65 + 4 * n) + 1)
theorem c_lr (hV : VL 0 M d c) (hW : WF d) : F_X10_lastReported M = some (oi (zLa d (d 6)) - oi 1) := by
  obtain ⟨h0, h1, h2, h5, h6, hb, hw⟩ := id hW
  have hle : ∀ j, j ≤ 6 → zLa d j ≤ 16 := fun j => by
    induction j with
    | zero => intro _; exact Nat.zero_le _
    | succ j ih =>
      intro hj
      have := ih (by omega)
      have := (hw.2.2.1 j (by omega)).1
      unfold zLa
      omega
  unfold F_X10_lastReported
  refine lp_up (L := fun m a z => F_X10_lastReported_L4 M m a z) (n := d 6) (a := fun j => oi (zLa d j) - oi 1) (fun j m hj => ?_) (fun m => ?_) (d 6) 0 1000 (by omega) (by omega)
  · obtain ⟨v1, v2, v3, v4⟩ := hV.2.2.2.2.2.2.1 j (by omega)
    obtain ⟨w1, w2, w3, w4⟩ := hw.2.2.1 j (by omega)
    have hl := hle j (by omega)
    have e : mx (oi (zLa d j) - oi 1) (oi (d (65 + 4 * j))) = oi (zLa d (j + 1)) - oi 1 := by
      rw [zLa, sub_oi (a := max (zLa d j) (d (65 + 4 * j) + 1)) (by omega)]
      by_cases hz : zLa d j = 0
      · rw [hz, s01]
        have e2 : max 0 (d (65 + 4 * j) + 1) - 1 = d (65 + 4 * j) := by omega
        rw [e2]
        show (if - oi 1 < oi (d (65 + 4 * j)) then oi (d (65 + 4 * j)) else - oi 1) = _
        rw [if_pos (neg_lt_oi (by omega) (by omega) (by omega))]
      · rw [sub_oi (by omega), mx_oi (by omega) (by omega)]
        congr 1
        omega
    try dsimp only
    rw [F_X10_lastReported_L4]
    simp (disch := omega) only [l_0, l_1, l_2, l_3, l_4, l_5, l_6, l_7, l_8, l_9, l_10, l_11, l_12, l_13, l_14, l_15, l_16, l_17, l_18, l_19, l_20, l_21, l_22, l_23, l_24, l_25, l_26, l_27, l_28, l_29, l_30, l_31, l_32, l_33, l_34, l_35, l_36, l_37, l_38, l_39, l_40, l_41, l_42, l_43, l_44, l_45, l_46, l_47, l_48, l_49, l_50, l_51, l_52, l_53, l_54, l_55, l_56, l_57, l_58, l_59, l_60, l_61, l_62, l_63, l_64, l_65, l_66, l_67, l_68, l_69, l_70, l_71, l_72, l_73, l_74, l_75, l_76, l_77, l_78, l_79, l_80, l_81, l_82, l_83, l_84, l_85, l_86, l_87, l_88, l_89, l_90, l_91, l_92, l_93, l_94, l_95, l_96, l_97, l_98, l_99, l_100, l_101, l_102, l_103, l_104, l_105, l_106, l_107, l_108, l_109, l_110, l_111, l_121, l_122, l_160, l_200, l_201, l_240, l_255, l_361, l_390, l_499, l_500, l_999, l_1000, l_10000, l_10099, l_12345, l_16383, l_20000, l_20033, l_20038, l_20124, l_100000, l_1000000, l_1103515245, ui_oi, ck_oi, sb, jc_e, bl_0, bl_1, le_oi, lt_oi, eq_oi, add_oi, mul_oi, div_oi, ir_oi, gi_e, gi_n, if_true, if_false, if_pos, if_neg, true_and, and_true, false_and, and_false, true_or, or_true, false_or, or_false, hV.rn, v1, e]
  · try dsimp only
    rw [F_X10_lastReported_L4]
    simp (disch := omega) only [l_0, l_1, l_2, l_3, l_4, l_5, l_6, l_7, l_8, l_9, l_10, l_11, l_12, l_13, l_14, l_15, l_16, l_17, l_18, l_19, l_20, l_21, l_22, l_23, l_24, l_25, l_26, l_27, l_28, l_29, l_30, l_31, l_32, l_33, l_34, l_35, l_36, l_37, l_38, l_39, l_40, l_41, l_42, l_43, l_44, l_45, l_46, l_47, l_48, l_49, l_50, l_51, l_52, l_53, l_54, l_55, l_56, l_57, l_58, l_59, l_60, l_61, l_62, l_63, l_64, l_65, l_66, l_67, l_68, l_69, l_70, l_71, l_72, l_73, l_74, l_75, l_76, l_77, l_78, l_79, l_80, l_81, l_82, l_83, l_84, l_85, l_86, l_87, l_88, l_89, l_90, l_91, l_92, l_93, l_94, l_95, l_96, l_97, l_98, l_99, l_100, l_101, l_102, l_103, l_104, l_105, l_106, l_107, l_108, l_109, l_110, l_111, l_121, l_122, l_160, l_200, l_201, l_240, l_255, l_361, l_390, l_499, l_500, l_999, l_1000, l_10000, l_10099, l_12345, l_16383, l_20000, l_20033, l_20038, l_20124, l_100000, l_1000000, l_1103515245, ui_oi, ck_oi, sb, jc_e, bl_0, bl_1, le_oi, lt_oi, eq_oi, add_oi, mul_oi, div_oi, ir_oi, gi_e, gi_n, if_true, if_false, if_pos, if_neg, true_and, and_true, false_and, and_false, true_or, or_true, false_or, or_false, hV.rn]
theorem zLa_ge : ∀ n r, r < n → d (65 + 4 * r) < zLa d n
  | 0, r, h => absurd h (Nat.not_lt_zero r)
  | n + 1, r, h => by
    unfold zLa
    by_cases hr : r = n
    · subst hr
      omega
    · have := zLa_ge n r (by omega)
      omega
/-- the class: which reports the stranger belies -/
theorem c_den (hV : VL 0 M d c) (hW : WF d) (hp : p < 500) : F_X10_denied M (oi p) = some (oi (zMk (fun r => !zFt d p r) (d 6))) := by
  obtain ⟨h0, h1, h2, h5, h6, hb, hw⟩ := id hW
  have hla : zLa d (d 6) ≤ 16 := by
    have : ∀ j, j ≤ 6 → zLa d j ≤ 16 := fun j => by
      induction j with
      | zero => intro _; exact Nat.zero_le _
      | succ j ih =>
        intro hj
        have := ih (by omega)
        have := (hw.2.2.1 j (by omega)).1
        unfold zLa
        omega
    exact this (d 6) h6
  have hkd : 1 + p / 100 ≤ 5 := by omega
  have hlr := c_lr hV hW
  have ek : F_X10_loneKind (oi p) = some (oi (1 + p / 100)) := by
    unfold F_X10_loneKind
    simp (disch := omega) only [l_0, l_1, l_2, l_3, l_4, l_5, l_6, l_7, l_8, l_9, l_10, l_11, l_12, l_13, l_14, l_15, l_16, l_17, l_18, l_19, l_20, l_21, l_22, l_23, l_24, l_25, l_26, l_27, l_28, l_29, l_30, l_31, l_32, l_33, l_34, l_35, l_36, l_37, l_38, l_39, l_40, l_41, l_42, l_43, l_44, l_45, l_46, l_47, l_48, l_49, l_50, l_51, l_52, l_53, l_54, l_55, l_56, l_57, l_58, l_59, l_60, l_61, l_62, l_63, l_64, l_65, l_66, l_67, l_68, l_69, l_70, l_71, l_72, l_73, l_74, l_75, l_76, l_77, l_78, l_79, l_80, l_81, l_82, l_83, l_84, l_85, l_86, l_87, l_88, l_89, l_90, l_91, l_92, l_93, l_94, l_95, l_96, l_97, l_98, l_99, l_100, l_101, l_102, l_103, l_104, l_105, l_106, l_107, l_108, l_109, l_110, l_111, l_121, l_122, l_160, l_200, l_201, l_240, l_255, l_361, l_390, l_499, l_500, l_999, l_1000, l_10000, l_10099, l_12345, l_16383, l_20000, l_20033, l_20038, l_20124, l_100000, l_1000000, l_1103515245, ui_oi, ck_oi, sb, jc_e, bl_0, bl_1, le_oi, lt_oi, eq_oi, add_oi, mul_oi, div_oi, ir_oi, gi_e, gi_n, if_true, if_false, if_pos, if_neg, true_and, and_true, false_and, and_false, true_or, or_true, false_or, or_false, ]
  have ec : F_X10_loneChalk (oi p) = some (oi (p / 10 % 10)) := by
    unfold F_X10_loneChalk
    simp (disch := omega) only [l_0, l_1, l_2, l_3, l_4, l_5, l_6, l_7, l_8, l_9, l_10, l_11, l_12, l_13, l_14, l_15, l_16, l_17, l_18, l_19, l_20, l_21, l_22, l_23, l_24, l_25, l_26, l_27, l_28, l_29, l_30, l_31, l_32, l_33, l_34, l_35, l_36, l_37, l_38, l_39, l_40, l_41, l_42, l_43, l_44, l_45, l_46, l_47, l_48, l_49, l_50, l_51, l_52, l_53, l_54, l_55, l_56, l_57, l_58, l_59, l_60, l_61, l_62, l_63, l_64, l_65, l_66, l_67, l_68, l_69, l_70, l_71, l_72, l_73, l_74, l_75, l_76, l_77, l_78, l_79, l_80, l_81, l_82, l_83, l_84, l_85, l_86, l_87, l_88, l_89, l_90, l_91, l_92, l_93, l_94, l_95, l_96, l_97, l_98, l_99, l_100, l_101, l_102, l_103, l_104, l_105, l_106, l_107, l_108, l_109, l_110, l_111, l_121, l_122, l_160, l_200, l_201, l_240, l_255, l_361, l_390, l_499, l_500, l_999, l_1000, l_10000, l_10099, l_12345, l_16383, l_20000, l_20033, l_20038, l_20124, l_100000, l_1000000, l_1103515245, ui_oi, ck_oi, sb, jc_e, bl_0, bl_1, le_oi, lt_oi, eq_oi, add_oi, mul_oi, div_oi, ir_oi, gi_e, gi_n, if_true, if_false, if_pos, if_neg, true_and, and_true, false_and, and_false, true_or, or_true, false_or, or_false, ]
  have ef : F_X10_loneFill (oi p) = some (oi (9 + 10 * (p % 10))) := by
    unfold F_X10_loneFill
    simp (disch := omega) only [l_0, l_1, l_2, l_3, l_4, l_5, l_6, l_7, l_8, l_9, l_10, l_11, l_12, l_13, l_14, l_15, l_16, l_17, l_18, l_19, l_20, l_21, l_22, l_23, l_24, l_25, l_26, l_27, l_28, l_29, l_30, l_31, l_32, l_33, l_34, l_35, l_36, l_37, l_38, l_39, l_40, l_41, l_42, l_43, l_44, l_45, l_46, l_47, l_48, l_49, l_50, l_51, l_52, l_53, l_54, l_55, l_56, l_57, l_58, l_59, l_60, l_61, l_62, l_63, l_64, l_65, l_66, l_67, l_68, l_69, l_70, l_71, l_72, l_73, l_74, l_75, l_76, l_77, l_78, l_79, l_80, l_81, l_82, l_83, l_84, l_85, l_86, l_87, l_88, l_89, l_90, l_91, l_92, l_93, l_94, l_95, l_96, l_97, l_98, l_99, l_100, l_101, l_102, l_103, l_104, l_105, l_106, l_107, l_108, l_109, l_110, l_111, l_121, l_122, l_160, l_200, l_201, l_240, l_255, l_361, l_390, l_499, l_500, l_999, l_1000, l_10000, l_10099, l_12345, l_16383, l_20000, l_20033, l_20038, l_20124, l_100000, l_1000000, l_1103515245, ui_oi, ck_oi, sb, jc_e, bl_0, bl_1, le_oi, lt_oi, eq_oi, add_oi, mul_oi, div_oi, ir_oi, gi_e, gi_n, if_true, if_false, if_pos, if_neg, true_and, and_true, false_and, and_false, true_or, or_true, false_or, or_false, ]
  have hloop := lp_inv (L := fun m (a : Int32 × Int32 × Int32) z => F_X10_denied_L36 M (ly_rf 26 (1 + p / 100)) (oi (p / 10 % 10)) (oi (zLa d (d 6)) - oi 1) m a.1 a.2.1 a.2.2 z) (n := zLa d (d 6)) (I := fun t a => a = (oi (zSF d p t), oi (zSC d p t), oi (zMk (fun r => decide (d (65 + 4 * r) < t) && !zFt d p r) (d 6)))) (Q := fun r => r = oi (zMk (fun r => !zFt d p r) (d 6))) (fun t m a ht ha => by
    subst ha
    refine ⟨_, rfl, ?_⟩
    have hsf := zSF_le (d := d) (p := p) t
    have hsc := zSC_le (d := d) (p := p) t
    have hdb := c_db hV hW (t := t) (x := zSF d p t) (y := zSC d p t) (by omega) (by omega) (by omega)
    have hwt := zW_le hw t
    have hlk := c_lk0 (1 + p / 100) hkd (ri := zW d t / 4) (sa := zW d t % 4) (t := t) (by omega) (by omega) (by omega)
    have hlf := c_lf0 (1 + p / 100) hkd (fi := zSF d p t) (ch := p / 10 % 10) (nu := 0) hsf (by omega) (by omega)
    have hfl := zFb_le (kd := 1 + p / 100) (fi := zSF d p t) (ch := p / 10 % 10) (nu := 0) (by omega)
    have hll := zLb_le (kd := 1 + p / 100) (ri := zW d t / 4) (sa := zW d t % 4) (t := t) (by omega) (by omega) (by omega)
    have hri := c_ri hV hw (t := t) (by omega)
    have hsa := c_sa hV hw (t := t) (by omega)
    have hmk : oi (zMk (fun r => decide (d (65 + 4 * r) < t) && !zFt d p r) (d 6)) ||| oi (zMk (fun r => decide (d (65 + 4 * r) = t) && !zVr d (zSF d p t) (zSC d p t) r) (d 6)) = oi (zMk (fun r => decide (d (65 + 4 * r) < t + 1) && !zFt d p r) (d 6)) := by
      rw [oor_all _ (zMk_64 h6) _ (zMk_64 h6), zMk_or h6]
      congr 1
      refine zMk_congr (d 6) (fun r hr => ?_)
      try dsimp only
      by_cases q1 : d (65 + 4 * r) < t
      · rw [decide_eq_true q1, decide_eq_false (show ¬ d (65 + 4 * r) = t by omega), decide_eq_true (show d (65 + 4 * r) < t + 1 by omega)]
        simp
      · by_cases q2 : d (65 + 4 * r) = t
        · rw [decide_eq_false q1, decide_eq_true q2, decide_eq_true (show d (65 + 4 * r) < t + 1 by omega)]
          unfold zFt
          rw [q2]
          simp
        · rw [decide_eq_false q1, decide_eq_false q2, decide_eq_false (show ¬ d (65 + 4 * r) < t + 1 by omega)]
          simp
    have hlt : ¬ (oi (zLa d (d 6)) - oi 1 < oi t) := by
      rw [sub_oi (by omega), lt_oi (by omega) (by omega)]
      omega
    try dsimp only
    rw [F_X10_denied_L36, if_neg hlt, hdb, sb, hmk, zSF, zSC, l_0]
    by_cases hz : 0 < zSF d p t
    · by_cases h4 : zFb (1 + p / 100) (zSF d p t) (p / 10 % 10) 0 + zW d t / 4 ≤ 4
      · simp only [show (0 < zSF d p t ∧ zFb (1 + p / 100) (zSF d p t) (p / 10 % 10) 0 + zW d t / 4 ≤ 4) = True from eq_true ⟨hz, h4⟩, if_true]
        simp (disch := omega) only [l_0, l_1, l_2, l_3, l_4, l_5, l_6, l_7, l_8, l_9, l_10, l_11, l_12, l_13, l_14, l_15, l_16, l_17, l_18, l_19, l_20, l_21, l_22, l_23, l_24, l_25, l_26, l_27, l_28, l_29, l_30, l_31, l_32, l_33, l_34, l_35, l_36, l_37, l_38, l_39, l_40, l_41, l_42, l_43, l_44, l_45, l_46, l_47, l_48, l_49, l_50, l_51, l_52, l_53, l_54, l_55, l_56, l_57, l_58, l_59, l_60, l_61, l_62, l_63, l_64, l_65, l_66, l_67, l_68, l_69, l_70, l_71, l_72, l_73, l_74, l_75, l_76, l_77, l_78, l_79, l_80, l_81, l_82, l_83, l_84, l_85, l_86, l_87, l_88, l_89, l_90, l_91, l_92, l_93, l_94, l_95, l_96, l_97, l_98, l_99, l_100, l_101, l_102, l_103, l_104, l_105, l_106, l_107, l_108, l_109, l_110, l_111, l_121, l_122, l_160, l_200, l_201, l_240, l_255, l_361, l_390, l_499, l_500, l_999, l_1000, l_10000, l_10099, l_12345, l_16383, l_20000, l_20033, l_20038, l_20124, l_100000, l_1000000, l_1103515245, ui_oi, ck_oi, sb, jc_e, bl_0, bl_1, le_oi, lt_oi, eq_oi, add_oi, mul_oi, div_oi, ir_oi, gi_e, gi_n, if_true, if_false, if_pos, if_neg, true_and, and_true, false_and, and_false, true_or, or_true, false_or, or_false, hlk, hlf, hri, hsa, mxs_oi]
      · simp only [show (0 < zSF d p t ∧ zFb (1 + p / 100) (zSF d p t) (p / 10 % 10) 0 + zW d t / 4 ≤ 4) = False from eq_false (fun q => h4 q.2), if_false]
        simp (disch := omega) only [l_0, l_1, l_2, l_3, l_4, l_5, l_6, l_7, l_8, l_9, l_10, l_11, l_12, l_13, l_14, l_15, l_16, l_17, l_18, l_19, l_20, l_21, l_22, l_23, l_24, l_25, l_26, l_27, l_28, l_29, l_30, l_31, l_32, l_33, l_34, l_35, l_36, l_37, l_38, l_39, l_40, l_41, l_42, l_43, l_44, l_45, l_46, l_47, l_48, l_49, l_50, l_51, l_52, l_53, l_54, l_55, l_56, l_57, l_58, l_59, l_60, l_61, l_62, l_63, l_64, l_65, l_66, l_67, l_68, l_69, l_70, l_71, l_72, l_73, l_74, l_75, l_76, l_77, l_78, l_79, l_80, l_81, l_82, l_83, l_84, l_85, l_86, l_87, l_88, l_89, l_90, l_91, l_92, l_93, l_94, l_95, l_96, l_97, l_98, l_99, l_100, l_101, l_102, l_103, l_104, l_105, l_106, l_107, l_108, l_109, l_110, l_111, l_121, l_122, l_160, l_200, l_201, l_240, l_255, l_361, l_390, l_499, l_500, l_999, l_1000, l_10000, l_10099, l_12345, l_16383, l_20000, l_20033, l_20038, l_20124, l_100000, l_1000000, l_1103515245, ui_oi, ck_oi, sb, jc_e, bl_0, bl_1, le_oi, lt_oi, eq_oi, add_oi, mul_oi, div_oi, ir_oi, gi_e, gi_n, if_true, if_false, if_pos, if_neg, true_and, and_true, false_and, and_false, true_or, or_true, false_or, or_false, hlk, hlf, hri, hsa, mxs_oi, Nat.add_zero]
    · simp only [show (0 < zSF d p t ∧ zFb (1 + p / 100) (zSF d p t) (p / 10 % 10) 0 + zW d t / 4 ≤ 4) = False from eq_false (fun q => hz q.1), if_false]
      simp (disch := omega) only [l_0, l_1, l_2, l_3, l_4, l_5, l_6, l_7, l_8, l_9, l_10, l_11, l_12, l_13, l_14, l_15, l_16, l_17, l_18, l_19, l_20, l_21, l_22, l_23, l_24, l_25, l_26, l_27, l_28, l_29, l_30, l_31, l_32, l_33, l_34, l_35, l_36, l_37, l_38, l_39, l_40, l_41, l_42, l_43, l_44, l_45, l_46, l_47, l_48, l_49, l_50, l_51, l_52, l_53, l_54, l_55, l_56, l_57, l_58, l_59, l_60, l_61, l_62, l_63, l_64, l_65, l_66, l_67, l_68, l_69, l_70, l_71, l_72, l_73, l_74, l_75, l_76, l_77, l_78, l_79, l_80, l_81, l_82, l_83, l_84, l_85, l_86, l_87, l_88, l_89, l_90, l_91, l_92, l_93, l_94, l_95, l_96, l_97, l_98, l_99, l_100, l_101, l_102, l_103, l_104, l_105, l_106, l_107, l_108, l_109, l_110, l_111, l_121, l_122, l_160, l_200, l_201, l_240, l_255, l_361, l_390, l_499, l_500, l_999, l_1000, l_10000, l_10099, l_12345, l_16383, l_20000, l_20033, l_20038, l_20124, l_100000, l_1000000, l_1103515245, ui_oi, ck_oi, sb, jc_e, bl_0, bl_1, le_oi, lt_oi, eq_oi, add_oi, mul_oi, div_oi, ir_oi, gi_e, gi_n, if_true, if_false, if_pos, if_neg, true_and, and_true, false_and, and_false, true_or, or_true, false_or, or_false, hlk, hri, hsa, mxs_oi, Nat.add_zero]) (fun m a ha => by
    subst ha
    refine ⟨_, ?_, rfl⟩
    have hlt : oi (zLa d (d 6)) - oi 1 < oi (zLa d (d 6)) := by
      by_cases hz : zLa d (d 6) = 0
      · rw [hz, s01, n01]
        trivial
      · rw [sub_oi (by omega), lt_oi (by omega) (by omega)]
        omega
    try dsimp only
    rw [F_X10_denied_L36, if_pos hlt]
    congr 2
    refine zMk_congr (d 6) (fun r hr => ?_)
    try dsimp only
    rw [decide_eq_true (zLa_ge (d := d) (d 6) r hr), Bool.true_and]) (zLa d (d 6)) 0 1000 (oi (zSF d p 0), oi (zSC d p 0), oi 0) (by omega) (by omega) (by
    have : zMk (fun r => decide (d (65 + 4 * r) < 0) && !zFt d p r) (d 6) = 0 := (zMk_0 h6).mpr (fun r _ => by simp)
    rw [this])
  obtain ⟨r, q0, q1⟩ := hloop
  subst q1
  try dsimp only at q0
  have e0 : zSF d p 0 = 9 + 10 * (p % 10) := rfl
  have e1 : zSC d p 0 = 0 := rfl
  rw [e0, e1] at q0
  unfold F_X10_denied
  simp (disch := omega) only [l_0, l_1, l_2, l_3, l_4, l_5, l_6, l_7, l_8, l_9, l_10, l_11, l_12, l_13, l_14, l_15, l_16, l_17, l_18, l_19, l_20, l_21, l_22, l_23, l_24, l_25, l_26, l_27, l_28, l_29, l_30, l_31, l_32, l_33, l_34, l_35, l_36, l_37, l_38, l_39, l_40, l_41, l_42, l_43, l_44, l_45, l_46, l_47, l_48, l_49, l_50, l_51, l_52, l_53, l_54, l_55, l_56, l_57, l_58, l_59, l_60, l_61, l_62, l_63, l_64, l_65, l_66, l_67, l_68, l_69, l_70, l_71, l_72, l_73, l_74, l_75, l_76, l_77, l_78, l_79, l_80, l_81, l_82, l_83, l_84, l_85, l_86, l_87, l_88, l_89, l_90, l_91, l_92, l_93, l_94, l_95, l_96, l_97, l_98, l_99, l_100, l_101, l_102, l_103, l_104, l_105, l_106, l_107, l_108, l_109, l_110, l_111, l_121, l_122, l_160, l_200, l_201, l_240, l_255, l_361, l_390, l_499, l_500, l_999, l_1000, l_10000, l_10099, l_12345, l_16383, l_20000, l_20033, l_20038, l_20124, l_100000, l_1000000, l_1103515245, ui_oi, ck_oi, sb, jc_e, bl_0, bl_1, le_oi, lt_oi, eq_oi, add_oi, mul_oi, div_oi, ir_oi, gi_e, gi_n, if_true, if_false, if_pos, if_neg, true_and, and_true, false_and, and_false, true_or, or_true, false_or, or_false, ek, ec, ef, hlr, q0]
end LO

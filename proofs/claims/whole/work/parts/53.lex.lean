/-! THE TEXT OF RULES: its tokens; how the class parts it -/
def isL (x : Nat) : Bool := decide (97 ≤ x ∧ x ≤ 122)
def isD (x : Nat) : Bool := decide (48 ≤ x ∧ x ≤ 57)
def isO (x : Nat) : Bool := decide (x = 32)
def zRn (q : Nat → Bool) : Nat → Nat → Nat
  | 0, p => p
  | m + 1, p => if q p = true then zRn q m (p + 1) else p
def zE_ (b : Nat → Nat) (n p : Nat) : Nat := if isL (b p) = true then zRn (fun i => isL (b i)) (n - (p + 1)) (p + 1) else if isD (b p) = true then zRn (fun i => isD (b i)) (n - (p + 1)) (p + 1) else p + 1
def zSk (b : Nat → Nat) (n p : Nat) : Nat := zRn (fun i => isO (b i)) (n - p) p
def zSt (k : Nat) : Nat := [0, 7, 11, 15, 20, 24, 29, 35, 41, 46, 49, 52, 56, 60, 65, 70, 76, 81, 88, 90, 92, 94, 96, 98, 100].getD k 0
def zLn (k : Nat) : Nat := zSt (k + 1) - zSt k - 1
def zTch (j : Nat) : Nat := ui (zBytes.getD j 0)
def zMt (b : Nat → Nat) (p len k : Nat) : Bool := decide (len = zLn k ∧ ∀ i, i < len → b (p + i) = zTch (zSt k + i))
def zWdF (b : Nat → Nat) (p len : Nat) : Nat → Nat → Nat
  | 0, _ => 50
  | m + 1, k => if zMt b p len k = true then k else zWdF b p len m (k + 1)
def zNm (b : Nat → Nat) (p : Nat) : Nat → Nat
  | 0 => 0
  | l + 1 => zNm b p l * 10 + (b (p + l) - 48)
def zTk (b : Nat → Nat) (n p : Nat) : Nat := if isD (b p) = true then (if zE_ b n p - p ≤ 4 then 100 + zNm b p (zE_ b n p - p) else 50) else zWdF b p (zE_ b n p - p) 24 0
def tI (t : Nat) : Int32 := if t = 50 then - oi 2 else if t = 60 then - oi 1 else oi t
theorem chr_all : ∀ j, j < 100 → F_J0_charAt_5068e (oi j) = some (oi (zTch j)) := by decide +kernel
theorem len_100 : F_J0_length_8abf5 = some (oi 100) := by decide +kernel
theorem tab_all : ∀ k, k < 24 → ((∀ i, i < zLn k → zTch (zSt k + i) ≠ 32) ∧ zTch (zSt k + zLn k) = 32 ∧ zSt (k + 1) = zSt k + zLn k + 1 ∧ zSt k + zLn k < 100 ∧ 1 ≤ zLn k ∧ zLn k ≤ 6) := by decide +kernel
theorem zTch_lt : ∀ j, j < 100 → zTch j < 123 := by decide +kernel
theorem dg_all : ∀ x, x < 256 → F_X6_isDigit (tb8 (oi x)) = some (oi (if isD x = true then 1 else 0)) := by decide +kernel
theorem le_all : ∀ x, x < 256 → F_X6_isLetter (tb8 (oi x)) = some (oi (if isL x = true then 1 else 0)) := by decide +kernel
theorem sp_all : ∀ x, x < 256 → (tb8 (oi x) = oi 32 ↔ isO x = true) := by decide +kernel
theorem lo_all : ∀ x, x < 128 → tb8 (oi x) = oi x := by decide +kernel
theorem hi_all : ∀ x, x < 256 → 128 ≤ x → tb8 (oi x) < oi 0 := by decide +kernel
theorem te_of {x c : Nat} (hx : x < 256) (hc : c < 128) : oi c = tb8 (oi x) ↔ x = c := by
  by_cases h : x < 128
  · rw [lo_all x h, eq_oi (by omega) (by omega)]
    exact ⟨fun q => q.symm, fun q => q.symm⟩
  · have h1 := hi_all x hx (by omega)
    refine ⟨fun q => ?_, fun q => by omega⟩
    rw [← q, lt_oi (by omega) (by omega)] at h1
    omega
def TX (M : Mm) (n : Nat) (b : Nat → Nat) : Prop := ∀ i, i < n → b i < 256 ∧ gi M 6 i = tb8 (oi (b i))
section LX
variable {M N M' N' : Mm} {b : Nat → Nat} {n p k len : Nat} {q : Nat → Bool}
theorem zRn_le : ∀ m p, p ≤ zRn q m p ∧ zRn q m p ≤ p + m
  | 0, p => ⟨Nat.le_refl _, Nat.le_refl _⟩
  | m + 1, p => by
    have := zRn_le m (p + 1)
    unfold zRn
    split <;> omega
theorem zRn_in : ∀ m p i, p ≤ i → i < zRn q m p → q i = true
  | 0, p, i, h1, h2 => by
    unfold zRn at h2
    omega
  | m + 1, p, i, h1, h2 => by
    unfold zRn at h2
    by_cases h : q p = true
    · rw [if_pos h] at h2
      by_cases hip : i = p
      · rw [hip]
        exact h
      · exact zRn_in m (p + 1) i (by omega) h2
    · rw [if_neg h] at h2
      omega
theorem zE_b (hp : p < n) : p < zE_ b n p ∧ zE_ b n p ≤ n := by
  have h1 := zRn_le (q := fun i => isL (b i)) (n - (p + 1)) (p + 1)
  have h2 := zRn_le (q := fun i => isD (b i)) (n - (p + 1)) (p + 1)
  unfold zE_
  split
  · omega
  · split <;> omega
theorem zSk_le (hp : p ≤ n) : p ≤ zSk b n p ∧ zSk b n p ≤ n := by
  have h1 := zRn_le (q := fun i => isO (b i)) (n - p) p
  unfold zSk
  omega
theorem zSk_s (hp : p < n) (h : isO (b p) = true) : zSk b n p = zSk b n (p + 1) := by
  unfold zSk
  rw [show n - p = n - (p + 1) + 1 by omega, zRn, if_pos h]
theorem zSk_n (hp : p < n) (h : ¬ isO (b p) = true) : zSk b n p = p := by
  unfold zSk
  rw [show n - p = n - (p + 1) + 1 by omega, zRn, if_neg h]
theorem c_run (hT : TX M n b) (hn : n ≤ 200) (L : Bool) : ∀ m p fu, p + m = n → m < fu → F_X6_endOf_L29 M (oi n) (oi (if L = true then 1 else 0)) fu (oi p) = some (oi (zRn (fun i => if L = true then isL (b i) else isD (b i)) m p)) := by
  intro m
  induction m with
  | zero =>
    intro p fu hp hf
    obtain ⟨fu', rfl⟩ : ∃ q, fu = q + 1 := ⟨fu - 1, by omega⟩
    rw [F_X6_endOf_L29, zRn]
    simp (disch := omega) only [l_0, l_1, l_2, l_3, l_4, l_5, l_6, l_7, l_8, l_9, l_10, l_11, l_12, l_13, l_14, l_15, l_16, l_17, l_18, l_19, l_20, l_21, l_22, l_23, l_24, l_25, l_26, l_27, l_28, l_29, l_30, l_31, l_32, l_33, l_34, l_35, l_36, l_37, l_38, l_39, l_40, l_41, l_42, l_43, l_44, l_45, l_46, l_47, l_48, l_49, l_50, l_51, l_52, l_53, l_54, l_55, l_56, l_57, l_58, l_59, l_60, l_61, l_62, l_63, l_64, l_65, l_66, l_67, l_68, l_69, l_70, l_71, l_72, l_73, l_74, l_75, l_76, l_77, l_78, l_79, l_80, l_81, l_82, l_83, l_84, l_85, l_86, l_87, l_88, l_89, l_90, l_91, l_92, l_93, l_94, l_95, l_96, l_97, l_98, l_99, l_100, l_101, l_102, l_103, l_104, l_105, l_106, l_107, l_108, l_109, l_110, l_111, l_121, l_122, l_160, l_200, l_201, l_240, l_255, l_361, l_390, l_499, l_500, l_999, l_1000, l_10000, l_10099, l_12345, l_16383, l_20000, l_20033, l_20038, l_20124, l_100000, l_1000000, l_1103515245, ui_oi, ck_oi, sb, jc_e, bl_0, bl_1, le_oi, lt_oi, eq_oi, add_oi, mul_oi, div_oi, ir_oi, gi_e, gi_n, if_true, if_false, if_pos, if_neg, true_and, and_true, false_and, and_false, true_or, or_true, false_or, or_false, ]
  | succ m ih =>
    intro p fu hp hf
    obtain ⟨fu', rfl⟩ : ∃ q, fu = q + 1 := ⟨fu - 1, by omega⟩
    have ih := ih (p + 1) fu' (by omega) (by omega)
    obtain ⟨t1, t2⟩ := hT p (by omega)
    have hd := dg_all (b p) t1
    have hl := le_all (b p) t1
    rw [← t2] at hd hl
    rw [F_X6_endOf_L29, zRn]
    cases L with
    | true =>
      simp only [if_true] at ih ⊢
      by_cases h : isL (b p) = true
      · rw [if_pos h] at hl ⊢
        simp (disch := omega) only [l_0, l_1, l_2, l_3, l_4, l_5, l_6, l_7, l_8, l_9, l_10, l_11, l_12, l_13, l_14, l_15, l_16, l_17, l_18, l_19, l_20, l_21, l_22, l_23, l_24, l_25, l_26, l_27, l_28, l_29, l_30, l_31, l_32, l_33, l_34, l_35, l_36, l_37, l_38, l_39, l_40, l_41, l_42, l_43, l_44, l_45, l_46, l_47, l_48, l_49, l_50, l_51, l_52, l_53, l_54, l_55, l_56, l_57, l_58, l_59, l_60, l_61, l_62, l_63, l_64, l_65, l_66, l_67, l_68, l_69, l_70, l_71, l_72, l_73, l_74, l_75, l_76, l_77, l_78, l_79, l_80, l_81, l_82, l_83, l_84, l_85, l_86, l_87, l_88, l_89, l_90, l_91, l_92, l_93, l_94, l_95, l_96, l_97, l_98, l_99, l_100, l_101, l_102, l_103, l_104, l_105, l_106, l_107, l_108, l_109, l_110, l_111, l_121, l_122, l_160, l_200, l_201, l_240, l_255, l_361, l_390, l_499, l_500, l_999, l_1000, l_10000, l_10099, l_12345, l_16383, l_20000, l_20033, l_20038, l_20124, l_100000, l_1000000, l_1103515245, ui_oi, ck_oi, sb, jc_e, bl_0, bl_1, le_oi, lt_oi, eq_oi, add_oi, mul_oi, div_oi, ir_oi, gi_e, gi_n, if_true, if_false, if_pos, if_neg, true_and, and_true, false_and, and_false, true_or, or_true, false_or, or_false, hl, ih]
      · rw [if_neg h] at hl ⊢
        simp (disch := omega) only [l_0, l_1, l_2, l_3, l_4, l_5, l_6, l_7, l_8, l_9, l_10, l_11, l_12, l_13, l_14, l_15, l_16, l_17, l_18, l_19, l_20, l_21, l_22, l_23, l_24, l_25, l_26, l_27, l_28, l_29, l_30, l_31, l_32, l_33, l_34, l_35, l_36, l_37, l_38, l_39, l_40, l_41, l_42, l_43, l_44, l_45, l_46, l_47, l_48, l_49, l_50, l_51, l_52, l_53, l_54, l_55, l_56, l_57, l_58, l_59, l_60, l_61, l_62, l_63, l_64, l_65, l_66, l_67, l_68, l_69, l_70, l_71, l_72, l_73, l_74, l_75, l_76, l_77, l_78, l_79, l_80, l_81, l_82, l_83, l_84, l_85, l_86, l_87, l_88, l_89, l_90, l_91, l_92, l_93, l_94, l_95, l_96, l_97, l_98, l_99, l_100, l_101, l_102, l_103, l_104, l_105, l_106, l_107, l_108, l_109, l_110, l_111, l_121, l_122, l_160, l_200, l_201, l_240, l_255, l_361, l_390, l_499, l_500, l_999, l_1000, l_10000, l_10099, l_12345, l_16383, l_20000, l_20033, l_20038, l_20124, l_100000, l_1000000, l_1103515245, ui_oi, ck_oi, sb, jc_e, bl_0, bl_1, le_oi, lt_oi, eq_oi, add_oi, mul_oi, div_oi, ir_oi, gi_e, gi_n, if_true, if_false, if_pos, if_neg, true_and, and_true, false_and, and_false, true_or, or_true, false_or, or_false, hl]
    | false =>
      simp only [Bool.false_eq_true, if_false] at ih ⊢
      by_cases h : isD (b p) = true
      · rw [if_pos h] at hd ⊢
        simp (disch := omega) only [l_0, l_1, l_2, l_3, l_4, l_5, l_6, l_7, l_8, l_9, l_10, l_11, l_12, l_13, l_14, l_15, l_16, l_17, l_18, l_19, l_20, l_21, l_22, l_23, l_24, l_25, l_26, l_27, l_28, l_29, l_30, l_31, l_32, l_33, l_34, l_35, l_36, l_37, l_38, l_39, l_40, l_41, l_42, l_43, l_44, l_45, l_46, l_47, l_48, l_49, l_50, l_51, l_52, l_53, l_54, l_55, l_56, l_57, l_58, l_59, l_60, l_61, l_62, l_63, l_64, l_65, l_66, l_67, l_68, l_69, l_70, l_71, l_72, l_73, l_74, l_75, l_76, l_77, l_78, l_79, l_80, l_81, l_82, l_83, l_84, l_85, l_86, l_87, l_88, l_89, l_90, l_91, l_92, l_93, l_94, l_95, l_96, l_97, l_98, l_99, l_100, l_101, l_102, l_103, l_104, l_105, l_106, l_107, l_108, l_109, l_110, l_111, l_121, l_122, l_160, l_200, l_201, l_240, l_255, l_361, l_390, l_499, l_500, l_999, l_1000, l_10000, l_10099, l_12345, l_16383, l_20000, l_20033, l_20038, l_20124, l_100000, l_1000000, l_1103515245, ui_oi, ck_oi, sb, jc_e, bl_0, bl_1, le_oi, lt_oi, eq_oi, add_oi, mul_oi, div_oi, ir_oi, gi_e, gi_n, if_true, if_false, if_pos, if_neg, true_and, and_true, false_and, and_false, true_or, or_true, false_or, or_false, hd, ih]
      · rw [if_neg h] at hd ⊢
        simp (disch := omega) only [l_0, l_1, l_2, l_3, l_4, l_5, l_6, l_7, l_8, l_9, l_10, l_11, l_12, l_13, l_14, l_15, l_16, l_17, l_18, l_19, l_20, l_21, l_22, l_23, l_24, l_25, l_26, l_27, l_28, l_29, l_30, l_31, l_32, l_33, l_34, l_35, l_36, l_37, l_38, l_39, l_40, l_41, l_42, l_43, l_44, l_45, l_46, l_47, l_48, l_49, l_50, l_51, l_52, l_53, l_54, l_55, l_56, l_57, l_58, l_59, l_60, l_61, l_62, l_63, l_64, l_65, l_66, l_67, l_68, l_69, l_70, l_71, l_72, l_73, l_74, l_75, l_76, l_77, l_78, l_79, l_80, l_81, l_82, l_83, l_84, l_85, l_86, l_87, l_88, l_89, l_90, l_91, l_92, l_93, l_94, l_95, l_96, l_97, l_98, l_99, l_100, l_101, l_102, l_103, l_104, l_105, l_106, l_107, l_108, l_109, l_110, l_111, l_121, l_122, l_160, l_200, l_201, l_240, l_255, l_361, l_390, l_499, l_500, l_999, l_1000, l_10000, l_10099, l_12345, l_16383, l_20000, l_20033, l_20038, l_20124, l_100000, l_1000000, l_1103515245, ui_oi, ck_oi, sb, jc_e, bl_0, bl_1, le_oi, lt_oi, eq_oi, add_oi, mul_oi, div_oi, ir_oi, gi_e, gi_n, if_true, if_false, if_pos, if_neg, true_and, and_true, false_and, and_false, true_or, or_true, false_or, or_false, hd]
theorem c_endOf (hT : TX M n b) (hn : n ≤ 200) (hp : p < n) : F_X6_endOf M (oi p) (oi n) = some (oi (zE_ b n p)) := by
  obtain ⟨t1, t2⟩ := hT p hp
  have hd := dg_all (b p) t1
  have hl := le_all (b p) t1
  rw [← t2] at hd hl
  have r1 := c_run hT hn true (n - (p + 1)) (p + 1) 1000 (by omega) (by omega)
  have r2 := c_run hT hn false (n - (p + 1)) (p + 1) 1000 (by omega) (by omega)
  simp only [if_true, Bool.false_eq_true, if_false] at r1 r2
  unfold F_X6_endOf zE_
  by_cases h : isL (b p) = true
  · rw [if_pos h] at hl ⊢
    simp (disch := omega) only [l_0, l_1, l_2, l_3, l_4, l_5, l_6, l_7, l_8, l_9, l_10, l_11, l_12, l_13, l_14, l_15, l_16, l_17, l_18, l_19, l_20, l_21, l_22, l_23, l_24, l_25, l_26, l_27, l_28, l_29, l_30, l_31, l_32, l_33, l_34, l_35, l_36, l_37, l_38, l_39, l_40, l_41, l_42, l_43, l_44, l_45, l_46, l_47, l_48, l_49, l_50, l_51, l_52, l_53, l_54, l_55, l_56, l_57, l_58, l_59, l_60, l_61, l_62, l_63, l_64, l_65, l_66, l_67, l_68, l_69, l_70, l_71, l_72, l_73, l_74, l_75, l_76, l_77, l_78, l_79, l_80, l_81, l_82, l_83, l_84, l_85, l_86, l_87, l_88, l_89, l_90, l_91, l_92, l_93, l_94, l_95, l_96, l_97, l_98, l_99, l_100, l_101, l_102, l_103, l_104, l_105, l_106, l_107, l_108, l_109, l_110, l_111, l_121, l_122, l_160, l_200, l_201, l_240, l_255, l_361, l_390, l_499, l_500, l_999, l_1000, l_10000, l_10099, l_12345, l_16383, l_20000, l_20033, l_20038, l_20124, l_100000, l_1000000, l_1103515245, ui_oi, ck_oi, sb, jc_e, bl_0, bl_1, le_oi, lt_oi, eq_oi, add_oi, mul_oi, div_oi, ir_oi, gi_e, gi_n, if_true, if_false, if_pos, if_neg, true_and, and_true, false_and, and_false, true_or, or_true, false_or, or_false, hl, r1]
  · rw [if_neg h] at hl ⊢
    by_cases h2 : isD (b p) = true
    · rw [if_pos h2] at hd ⊢
      simp (disch := omega) only [l_0, l_1, l_2, l_3, l_4, l_5, l_6, l_7, l_8, l_9, l_10, l_11, l_12, l_13, l_14, l_15, l_16, l_17, l_18, l_19, l_20, l_21, l_22, l_23, l_24, l_25, l_26, l_27, l_28, l_29, l_30, l_31, l_32, l_33, l_34, l_35, l_36, l_37, l_38, l_39, l_40, l_41, l_42, l_43, l_44, l_45, l_46, l_47, l_48, l_49, l_50, l_51, l_52, l_53, l_54, l_55, l_56, l_57, l_58, l_59, l_60, l_61, l_62, l_63, l_64, l_65, l_66, l_67, l_68, l_69, l_70, l_71, l_72, l_73, l_74, l_75, l_76, l_77, l_78, l_79, l_80, l_81, l_82, l_83, l_84, l_85, l_86, l_87, l_88, l_89, l_90, l_91, l_92, l_93, l_94, l_95, l_96, l_97, l_98, l_99, l_100, l_101, l_102, l_103, l_104, l_105, l_106, l_107, l_108, l_109, l_110, l_111, l_121, l_122, l_160, l_200, l_201, l_240, l_255, l_361, l_390, l_499, l_500, l_999, l_1000, l_10000, l_10099, l_12345, l_16383, l_20000, l_20033, l_20038, l_20124, l_100000, l_1000000, l_1103515245, ui_oi, ck_oi, sb, jc_e, bl_0, bl_1, le_oi, lt_oi, eq_oi, add_oi, mul_oi, div_oi, ir_oi, gi_e, gi_n, if_true, if_false, if_pos, if_neg, true_and, and_true, false_and, and_false, true_or, or_true, false_or, or_false, hl, hd, r2]
    · rw [if_neg h2] at hd ⊢
      simp (disch := omega) only [l_0, l_1, l_2, l_3, l_4, l_5, l_6, l_7, l_8, l_9, l_10, l_11, l_12, l_13, l_14, l_15, l_16, l_17, l_18, l_19, l_20, l_21, l_22, l_23, l_24, l_25, l_26, l_27, l_28, l_29, l_30, l_31, l_32, l_33, l_34, l_35, l_36, l_37, l_38, l_39, l_40, l_41, l_42, l_43, l_44, l_45, l_46, l_47, l_48, l_49, l_50, l_51, l_52, l_53, l_54, l_55, l_56, l_57, l_58, l_59, l_60, l_61, l_62, l_63, l_64, l_65, l_66, l_67, l_68, l_69, l_70, l_71, l_72, l_73, l_74, l_75, l_76, l_77, l_78, l_79, l_80, l_81, l_82, l_83, l_84, l_85, l_86, l_87, l_88, l_89, l_90, l_91, l_92, l_93, l_94, l_95, l_96, l_97, l_98, l_99, l_100, l_101, l_102, l_103, l_104, l_105, l_106, l_107, l_108, l_109, l_110, l_111, l_121, l_122, l_160, l_200, l_201, l_240, l_255, l_361, l_390, l_499, l_500, l_999, l_1000, l_10000, l_10099, l_12345, l_16383, l_20000, l_20033, l_20038, l_20124, l_100000, l_1000000, l_1103515245, ui_oi, ck_oi, sb, jc_e, bl_0, bl_1, le_oi, lt_oi, eq_oi, add_oi, mul_oi, div_oi, ir_oi, gi_e, gi_n, if_true, if_false, if_pos, if_neg, true_and, and_true, false_and, and_false, true_or, or_true, false_or, or_false, hl, hd]
theorem c_match (hT : TX M n b) (hn : n ≤ 200) (hp : p + len ≤ n) (hk : k < 24) (hl : len = zLn k) : F_X6_isWordAt M (oi (zSt k)) (oi p) (oi (p + len)) = some (oi (if zMt b p len k = true then 1 else 0)) := by
  obtain ⟨a1, a2, a3, a4, a5, a6⟩ := tab_all k hk
  have hloop : ∀ m i fu, i + m = len → m < fu → (∀ j, j < i → b (p + j) = zTch (zSt k + j)) → F_X6_isWordAt_L3 M (oi (zSt k)) (oi p) (oi (p + len)) fu (oi (p + i)) = some (oi (if zMt b p len k = true then 1 else 0)) := by
    intro m
    induction m with
    | zero =>
      intro i fu hi hf hm
      obtain ⟨fu', rfl⟩ : ∃ q, fu = q + 1 := ⟨fu - 1, by omega⟩
      have : zMt b p len k = true := decide_eq_true ⟨hl, fun j hj => hm j (by omega)⟩
      rw [F_X6_isWordAt_L3, if_pos this]
      simp (disch := omega) only [l_0, l_1, l_2, l_3, l_4, l_5, l_6, l_7, l_8, l_9, l_10, l_11, l_12, l_13, l_14, l_15, l_16, l_17, l_18, l_19, l_20, l_21, l_22, l_23, l_24, l_25, l_26, l_27, l_28, l_29, l_30, l_31, l_32, l_33, l_34, l_35, l_36, l_37, l_38, l_39, l_40, l_41, l_42, l_43, l_44, l_45, l_46, l_47, l_48, l_49, l_50, l_51, l_52, l_53, l_54, l_55, l_56, l_57, l_58, l_59, l_60, l_61, l_62, l_63, l_64, l_65, l_66, l_67, l_68, l_69, l_70, l_71, l_72, l_73, l_74, l_75, l_76, l_77, l_78, l_79, l_80, l_81, l_82, l_83, l_84, l_85, l_86, l_87, l_88, l_89, l_90, l_91, l_92, l_93, l_94, l_95, l_96, l_97, l_98, l_99, l_100, l_101, l_102, l_103, l_104, l_105, l_106, l_107, l_108, l_109, l_110, l_111, l_121, l_122, l_160, l_200, l_201, l_240, l_255, l_361, l_390, l_499, l_500, l_999, l_1000, l_10000, l_10099, l_12345, l_16383, l_20000, l_20033, l_20038, l_20124, l_100000, l_1000000, l_1103515245, ui_oi, ck_oi, sb, jc_e, bl_0, bl_1, le_oi, lt_oi, eq_oi, add_oi, mul_oi, div_oi, ir_oi, gi_e, gi_n, if_true, if_false, if_pos, if_neg, true_and, and_true, false_and, and_false, true_or, or_true, false_or, or_false, ]
    | succ m ih =>
      intro i fu hi hf hm
      obtain ⟨fu', rfl⟩ : ∃ q, fu = q + 1 := ⟨fu - 1, by omega⟩
      obtain ⟨t1, t2⟩ := hT (p + i) (by omega)
      have hc := chr_all (zSt k + i) (by omega)
      have hlt := zTch_lt (zSt k + i) (by omega)
      have he : oi (zSt k) + oi (p + i) - oi p = oi (zSt k + i) := by
        rw [add_oi, sub_oi (by omega)]
        congr 1
        omega
      have hte := te_of t1 (show zTch (zSt k + i) < 128 by omega)
      rw [F_X6_isWordAt_L3, he]
      by_cases hq : b (p + i) = zTch (zSt k + i)
      · have ih := ih (i + 1) fu' (by omega) (by omega) (fun j hj => by
          by_cases hji : j = i
          · rw [hji]
            exact hq
          · exact hm j (by omega))
        have h1 := hte.mpr hq
        rw [← t2] at h1
        rw [← Nat.add_assoc] at ih
        simp (disch := omega) only [l_0, l_1, l_2, l_3, l_4, l_5, l_6, l_7, l_8, l_9, l_10, l_11, l_12, l_13, l_14, l_15, l_16, l_17, l_18, l_19, l_20, l_21, l_22, l_23, l_24, l_25, l_26, l_27, l_28, l_29, l_30, l_31, l_32, l_33, l_34, l_35, l_36, l_37, l_38, l_39, l_40, l_41, l_42, l_43, l_44, l_45, l_46, l_47, l_48, l_49, l_50, l_51, l_52, l_53, l_54, l_55, l_56, l_57, l_58, l_59, l_60, l_61, l_62, l_63, l_64, l_65, l_66, l_67, l_68, l_69, l_70, l_71, l_72, l_73, l_74, l_75, l_76, l_77, l_78, l_79, l_80, l_81, l_82, l_83, l_84, l_85, l_86, l_87, l_88, l_89, l_90, l_91, l_92, l_93, l_94, l_95, l_96, l_97, l_98, l_99, l_100, l_101, l_102, l_103, l_104, l_105, l_106, l_107, l_108, l_109, l_110, l_111, l_121, l_122, l_160, l_200, l_201, l_240, l_255, l_361, l_390, l_499, l_500, l_999, l_1000, l_10000, l_10099, l_12345, l_16383, l_20000, l_20033, l_20038, l_20124, l_100000, l_1000000, l_1103515245, ui_oi, ck_oi, sb, jc_e, bl_0, bl_1, le_oi, lt_oi, eq_oi, add_oi, mul_oi, div_oi, ir_oi, gi_e, gi_n, if_true, if_false, if_pos, if_neg, true_and, and_true, false_and, and_false, true_or, or_true, false_or, or_false, hc, h1, ih]
      · have h1 : ¬ oi (zTch (zSt k + i)) = gi M 6 (p + i) := fun q => hq (hte.mp (by rw [← t2]; exact q))
        have : ¬ zMt b p len k = true := fun q => hq ((of_decide_eq_true q).2 i (by omega))
        rw [if_neg this]
        simp (disch := omega) only [l_0, l_1, l_2, l_3, l_4, l_5, l_6, l_7, l_8, l_9, l_10, l_11, l_12, l_13, l_14, l_15, l_16, l_17, l_18, l_19, l_20, l_21, l_22, l_23, l_24, l_25, l_26, l_27, l_28, l_29, l_30, l_31, l_32, l_33, l_34, l_35, l_36, l_37, l_38, l_39, l_40, l_41, l_42, l_43, l_44, l_45, l_46, l_47, l_48, l_49, l_50, l_51, l_52, l_53, l_54, l_55, l_56, l_57, l_58, l_59, l_60, l_61, l_62, l_63, l_64, l_65, l_66, l_67, l_68, l_69, l_70, l_71, l_72, l_73, l_74, l_75, l_76, l_77, l_78, l_79, l_80, l_81, l_82, l_83, l_84, l_85, l_86, l_87, l_88, l_89, l_90, l_91, l_92, l_93, l_94, l_95, l_96, l_97, l_98, l_99, l_100, l_101, l_102, l_103, l_104, l_105, l_106, l_107, l_108, l_109, l_110, l_111, l_121, l_122, l_160, l_200, l_201, l_240, l_255, l_361, l_390, l_499, l_500, l_999, l_1000, l_10000, l_10099, l_12345, l_16383, l_20000, l_20033, l_20038, l_20124, l_100000, l_1000000, l_1103515245, ui_oi, ck_oi, sb, jc_e, bl_0, bl_1, le_oi, lt_oi, eq_oi, add_oi, mul_oi, div_oi, ir_oi, gi_e, gi_n, if_true, if_false, if_pos, if_neg, true_and, and_true, false_and, and_false, true_or, or_true, false_or, or_false, hc, h1]
  have := hloop len 0 1000 (by omega) (by omega) (fun j hj => by omega)
  unfold F_X6_isWordAt
  exact this
theorem c_word (hT : TX M n b) (hn : n ≤ 200) (hp : p + len ≤ n) : ∀ m k fu, k + m = 24 → 101 - zSt k < fu → F_X6_wordOf_L8 M (oi p) (oi (p + len)) fu (oi k) (oi (zSt k)) (oi (zSt k)) = some (tI (zWdF b p len m k)) := by
  intro m
  induction m with
  | zero =>
    intro k fu hk hf
    obtain ⟨fu', rfl⟩ : ∃ q, fu = q + 1 := ⟨fu - 1, by omega⟩
    obtain rfl : k = 24 := by omega
    have h100 : zSt 24 = 100 := rfl
    rw [F_X6_wordOf_L8, len_100, h100]
    simp (disch := omega) only [l_0, l_1, l_2, l_3, l_4, l_5, l_6, l_7, l_8, l_9, l_10, l_11, l_12, l_13, l_14, l_15, l_16, l_17, l_18, l_19, l_20, l_21, l_22, l_23, l_24, l_25, l_26, l_27, l_28, l_29, l_30, l_31, l_32, l_33, l_34, l_35, l_36, l_37, l_38, l_39, l_40, l_41, l_42, l_43, l_44, l_45, l_46, l_47, l_48, l_49, l_50, l_51, l_52, l_53, l_54, l_55, l_56, l_57, l_58, l_59, l_60, l_61, l_62, l_63, l_64, l_65, l_66, l_67, l_68, l_69, l_70, l_71, l_72, l_73, l_74, l_75, l_76, l_77, l_78, l_79, l_80, l_81, l_82, l_83, l_84, l_85, l_86, l_87, l_88, l_89, l_90, l_91, l_92, l_93, l_94, l_95, l_96, l_97, l_98, l_99, l_100, l_101, l_102, l_103, l_104, l_105, l_106, l_107, l_108, l_109, l_110, l_111, l_121, l_122, l_160, l_200, l_201, l_240, l_255, l_361, l_390, l_499, l_500, l_999, l_1000, l_10000, l_10099, l_12345, l_16383, l_20000, l_20033, l_20038, l_20124, l_100000, l_1000000, l_1103515245, ui_oi, ck_oi, sb, jc_e, bl_0, bl_1, le_oi, lt_oi, eq_oi, add_oi, mul_oi, div_oi, ir_oi, gi_e, gi_n, if_true, if_false, if_pos, if_neg, true_and, and_true, false_and, and_false, true_or, or_true, false_or, or_false, ]
    rfl
  | succ m ih =>
    intro k fu hk hf
    obtain ⟨a1, a2, a3, a4, a5, a6⟩ := tab_all k (by omega)
    have scan : ∀ m2 i fu2, i + m2 = zLn k → F_X6_wordOf_L8 M (oi p) (oi (p + len)) (fu2 + m2) (oi k) (oi (zSt k)) (oi (zSt k + i)) = F_X6_wordOf_L8 M (oi p) (oi (p + len)) fu2 (oi k) (oi (zSt k)) (oi (zSt k + zLn k)) := by
      intro m2
      induction m2 with
      | zero =>
        intro i fu2 hi
        rw [show i = zLn k by omega, Nat.add_zero]
      | succ m2 ih2 =>
        intro i fu2 hi
        have hc := chr_all (zSt k + i) (by omega)
        have hlt := zTch_lt (zSt k + i) (by omega)
        have hne := a1 i (by omega)
        have ih2 := ih2 (i + 1) fu2 (by omega)
        rw [← Nat.add_assoc] at ih2
        rw [← ih2, show fu2 + (m2 + 1) = (fu2 + m2) + 1 by omega, F_X6_wordOf_L8, len_100]
        simp (disch := omega) only [l_0, l_1, l_2, l_3, l_4, l_5, l_6, l_7, l_8, l_9, l_10, l_11, l_12, l_13, l_14, l_15, l_16, l_17, l_18, l_19, l_20, l_21, l_22, l_23, l_24, l_25, l_26, l_27, l_28, l_29, l_30, l_31, l_32, l_33, l_34, l_35, l_36, l_37, l_38, l_39, l_40, l_41, l_42, l_43, l_44, l_45, l_46, l_47, l_48, l_49, l_50, l_51, l_52, l_53, l_54, l_55, l_56, l_57, l_58, l_59, l_60, l_61, l_62, l_63, l_64, l_65, l_66, l_67, l_68, l_69, l_70, l_71, l_72, l_73, l_74, l_75, l_76, l_77, l_78, l_79, l_80, l_81, l_82, l_83, l_84, l_85, l_86, l_87, l_88, l_89, l_90, l_91, l_92, l_93, l_94, l_95, l_96, l_97, l_98, l_99, l_100, l_101, l_102, l_103, l_104, l_105, l_106, l_107, l_108, l_109, l_110, l_111, l_121, l_122, l_160, l_200, l_201, l_240, l_255, l_361, l_390, l_499, l_500, l_999, l_1000, l_10000, l_10099, l_12345, l_16383, l_20000, l_20033, l_20038, l_20124, l_100000, l_1000000, l_1103515245, ui_oi, ck_oi, sb, jc_e, bl_0, bl_1, le_oi, lt_oi, eq_oi, add_oi, mul_oi, div_oi, ir_oi, gi_e, gi_n, if_true, if_false, if_pos, if_neg, true_and, and_true, false_and, and_false, true_or, or_true, false_or, or_false, hc]
    obtain ⟨fu', rfl⟩ : ∃ q, fu = q + 1 + zLn k := ⟨fu - 1 - zLn k, by omega⟩
    have hs := scan (zLn k) 0 (fu' + 1) (by omega)
    rw [show zSt k + 0 = zSt k from rfl] at hs
    have hc := chr_all (zSt k + zLn k) a4
    rw [a2] at hc
    have ih := ih (k + 1) fu' (by omega) (by omega)
    rw [hs, F_X6_wordOf_L8, len_100, zWdF]
    by_cases hl : len = zLn k
    · have hm := c_match hT hn hp (k := k) (by omega) hl
      have h1 : oi (zSt k + zLn k) - oi (zSt k) = oi (p + len) - oi p := by
        rw [sub_oi (by omega), sub_oi (by omega)]
        congr 1
        omega
      by_cases hq : zMt b p len k = true
      · rw [if_pos hq] at hm ⊢
        simp (disch := omega) only [l_0, l_1, l_2, l_3, l_4, l_5, l_6, l_7, l_8, l_9, l_10, l_11, l_12, l_13, l_14, l_15, l_16, l_17, l_18, l_19, l_20, l_21, l_22, l_23, l_24, l_25, l_26, l_27, l_28, l_29, l_30, l_31, l_32, l_33, l_34, l_35, l_36, l_37, l_38, l_39, l_40, l_41, l_42, l_43, l_44, l_45, l_46, l_47, l_48, l_49, l_50, l_51, l_52, l_53, l_54, l_55, l_56, l_57, l_58, l_59, l_60, l_61, l_62, l_63, l_64, l_65, l_66, l_67, l_68, l_69, l_70, l_71, l_72, l_73, l_74, l_75, l_76, l_77, l_78, l_79, l_80, l_81, l_82, l_83, l_84, l_85, l_86, l_87, l_88, l_89, l_90, l_91, l_92, l_93, l_94, l_95, l_96, l_97, l_98, l_99, l_100, l_101, l_102, l_103, l_104, l_105, l_106, l_107, l_108, l_109, l_110, l_111, l_121, l_122, l_160, l_200, l_201, l_240, l_255, l_361, l_390, l_499, l_500, l_999, l_1000, l_10000, l_10099, l_12345, l_16383, l_20000, l_20033, l_20038, l_20124, l_100000, l_1000000, l_1103515245, ui_oi, ck_oi, sb, jc_e, bl_0, bl_1, le_oi, lt_oi, eq_oi, add_oi, mul_oi, div_oi, ir_oi, gi_e, gi_n, if_true, if_false, if_pos, if_neg, true_and, and_true, false_and, and_false, true_or, or_true, false_or, or_false, hc, h1, hm]
        rw [tI, if_neg (by omega), if_neg (by omega)]
      · rw [if_neg hq] at hm ⊢
        rw [a3] at ih
        simp (disch := omega) only [l_0, l_1, l_2, l_3, l_4, l_5, l_6, l_7, l_8, l_9, l_10, l_11, l_12, l_13, l_14, l_15, l_16, l_17, l_18, l_19, l_20, l_21, l_22, l_23, l_24, l_25, l_26, l_27, l_28, l_29, l_30, l_31, l_32, l_33, l_34, l_35, l_36, l_37, l_38, l_39, l_40, l_41, l_42, l_43, l_44, l_45, l_46, l_47, l_48, l_49, l_50, l_51, l_52, l_53, l_54, l_55, l_56, l_57, l_58, l_59, l_60, l_61, l_62, l_63, l_64, l_65, l_66, l_67, l_68, l_69, l_70, l_71, l_72, l_73, l_74, l_75, l_76, l_77, l_78, l_79, l_80, l_81, l_82, l_83, l_84, l_85, l_86, l_87, l_88, l_89, l_90, l_91, l_92, l_93, l_94, l_95, l_96, l_97, l_98, l_99, l_100, l_101, l_102, l_103, l_104, l_105, l_106, l_107, l_108, l_109, l_110, l_111, l_121, l_122, l_160, l_200, l_201, l_240, l_255, l_361, l_390, l_499, l_500, l_999, l_1000, l_10000, l_10099, l_12345, l_16383, l_20000, l_20033, l_20038, l_20124, l_100000, l_1000000, l_1103515245, ui_oi, ck_oi, sb, jc_e, bl_0, bl_1, le_oi, lt_oi, eq_oi, add_oi, mul_oi, div_oi, ir_oi, gi_e, gi_n, if_true, if_false, if_pos, if_neg, true_and, and_true, false_and, and_false, true_or, or_true, false_or, or_false, hc, h1, hm, ih]
    · have hq : ¬ zMt b p len k = true := fun q => hl (of_decide_eq_true q).1
      have h1 : ¬ oi (zSt k + zLn k) - oi (zSt k) = oi (p + len) - oi p := by
        rw [sub_oi (by omega), sub_oi (by omega), eq_oi (by omega) (by omega)]
        omega
      rw [if_neg hq]
      rw [a3] at ih
      simp (disch := omega) only [l_0, l_1, l_2, l_3, l_4, l_5, l_6, l_7, l_8, l_9, l_10, l_11, l_12, l_13, l_14, l_15, l_16, l_17, l_18, l_19, l_20, l_21, l_22, l_23, l_24, l_25, l_26, l_27, l_28, l_29, l_30, l_31, l_32, l_33, l_34, l_35, l_36, l_37, l_38, l_39, l_40, l_41, l_42, l_43, l_44, l_45, l_46, l_47, l_48, l_49, l_50, l_51, l_52, l_53, l_54, l_55, l_56, l_57, l_58, l_59, l_60, l_61, l_62, l_63, l_64, l_65, l_66, l_67, l_68, l_69, l_70, l_71, l_72, l_73, l_74, l_75, l_76, l_77, l_78, l_79, l_80, l_81, l_82, l_83, l_84, l_85, l_86, l_87, l_88, l_89, l_90, l_91, l_92, l_93, l_94, l_95, l_96, l_97, l_98, l_99, l_100, l_101, l_102, l_103, l_104, l_105, l_106, l_107, l_108, l_109, l_110, l_111, l_121, l_122, l_160, l_200, l_201, l_240, l_255, l_361, l_390, l_499, l_500, l_999, l_1000, l_10000, l_10099, l_12345, l_16383, l_20000, l_20033, l_20038, l_20124, l_100000, l_1000000, l_1103515245, ui_oi, ck_oi, sb, jc_e, bl_0, bl_1, le_oi, lt_oi, eq_oi, add_oi, mul_oi, div_oi, ir_oi, gi_e, gi_n, if_true, if_false, if_pos, if_neg, true_and, and_true, false_and, and_false, true_or, or_true, false_or, or_false, hc, h1, ih]
theorem zNm_lt (h : ∀ i, i < len → isD (b (p + i)) = true) : zNm b p len < 10 ^ len := by
  induction len with
  | zero => exact Nat.lt_succ_self 0
  | succ l ih =>
    have h1 := ih (fun i hi => h i (by omega))
    have h2 := of_decide_eq_true (h l (by omega))
    have e : 10 ^ (l + 1) = 10 ^ l * 10 := Nat.pow_succ 10 l
    rw [zNm, e]
    omega
theorem zE_dg (hp : p < n) (h : isD (b p) = true) : ∀ i, i < zE_ b n p - p → isD (b (p + i)) = true := fun i hi => by
  by_cases hi0 : i = 0
  · rw [hi0]
    exact h
  · have hnl : ¬ isL (b p) = true := fun q => by
      have h1 := of_decide_eq_true q
      have h2 := of_decide_eq_true h
      omega
    unfold zE_ at hi
    rw [if_neg hnl, if_pos h] at hi
    exact zRn_in (q := fun i => isD (b i)) (n - (p + 1)) (p + 1) (p + i) (by omega) (by omega)
theorem pw10 : ∀ l, l ≤ 4 → 10 ^ l ≤ 10000 := by decide +kernel
theorem c_token (hT : TX M n b) (hn : n ≤ 200) (hp : p < n) : F_X6_tokenOf M (oi p) (oi (zE_ b n p)) = some (tI (zTk b n p)) := by
  obtain ⟨t1, t2⟩ := hT p hp
  obtain ⟨e1, e2⟩ := zE_b (b := b) hp
  have hd := dg_all (b p) t1
  rw [← t2] at hd
  obtain ⟨len, hlen⟩ : ∃ len, len = zE_ b n p - p := ⟨_, rfl⟩
  have hE : zE_ b n p = p + len := by omega
  unfold F_X6_tokenOf zTk
  rw [← hlen]
  by_cases h : isD (b p) = true
  · have hdg := zE_dg hp h
    rw [← hlen] at hdg
    rw [if_pos h] at hd ⊢
    have hsub : oi (zE_ b n p) - oi p = oi len := by rw [hE, sub_oi (by omega), Nat.add_sub_cancel_left]
    by_cases h4 : len ≤ 4
    · have hloop : ∀ m l fu, l + m = len → m < fu → F_X6_tokenOf_L31 M (oi (p + len)) fu (oi (zNm b p l)) (oi (p + l)) = some (oi (100 + zNm b p len)) := by
        intro m
        induction m with
        | zero =>
          intro l fu hl hf
          obtain ⟨fu', rfl⟩ : ∃ q, fu = q + 1 := ⟨fu - 1, by omega⟩
          rw [F_X6_tokenOf_L31, show l = len by omega]
          simp (disch := omega) only [l_0, l_1, l_2, l_3, l_4, l_5, l_6, l_7, l_8, l_9, l_10, l_11, l_12, l_13, l_14, l_15, l_16, l_17, l_18, l_19, l_20, l_21, l_22, l_23, l_24, l_25, l_26, l_27, l_28, l_29, l_30, l_31, l_32, l_33, l_34, l_35, l_36, l_37, l_38, l_39, l_40, l_41, l_42, l_43, l_44, l_45, l_46, l_47, l_48, l_49, l_50, l_51, l_52, l_53, l_54, l_55, l_56, l_57, l_58, l_59, l_60, l_61, l_62, l_63, l_64, l_65, l_66, l_67, l_68, l_69, l_70, l_71, l_72, l_73, l_74, l_75, l_76, l_77, l_78, l_79, l_80, l_81, l_82, l_83, l_84, l_85, l_86, l_87, l_88, l_89, l_90, l_91, l_92, l_93, l_94, l_95, l_96, l_97, l_98, l_99, l_100, l_101, l_102, l_103, l_104, l_105, l_106, l_107, l_108, l_109, l_110, l_111, l_121, l_122, l_160, l_200, l_201, l_240, l_255, l_361, l_390, l_499, l_500, l_999, l_1000, l_10000, l_10099, l_12345, l_16383, l_20000, l_20033, l_20038, l_20124, l_100000, l_1000000, l_1103515245, ui_oi, ck_oi, sb, jc_e, bl_0, bl_1, le_oi, lt_oi, eq_oi, add_oi, mul_oi, div_oi, ir_oi, gi_e, gi_n, if_true, if_false, if_pos, if_neg, true_and, and_true, false_and, and_false, true_or, or_true, false_or, or_false, ]
        | succ m ih =>
          intro l fu hl hf
          obtain ⟨fu', rfl⟩ : ∃ q, fu = q + 1 := ⟨fu - 1, by omega⟩
          obtain ⟨s1, s2⟩ := hT (p + l) (by omega)
          have hb := of_decide_eq_true (hdg l (by omega))
          rw [lo_all _ (by omega)] at s2
          have hlt := zNm_lt (b := b) (p := p) (len := l) (fun i hi => hdg i (by omega))
          have hp4 := pw10 l (by omega)
          have ih := ih (l + 1) fu' (by omega) (by omega)
          have he : oi (zNm b p l) * oi 10 + oi (b (p + l)) - oi 48 = oi (zNm b p (l + 1)) := by
            rw [mul_oi, add_oi, sub_oi (by omega), zNm]
            congr 1
            omega
          rw [← Nat.add_assoc] at ih
          have hge : ¬ oi (p + len) ≤ oi (p + l) := by rw [le_oi (by omega) (by omega)]; omega
          rw [F_X6_tokenOf_L31, if_neg hge, ck_oi (by omega) (by omega), ui_oi (by omega), s2, l_10, l_48, he, l_1, add_oi, ih]
      have hl := hloop len 0 1000 (by omega) (by omega)
      have hz0 : zNm b p 0 = 0 := rfl
      rw [hz0, Nat.add_zero] at hl
      have hlt := zNm_lt hdg
      have hp4 := pw10 len h4
      have eT : tI (100 + zNm b p len) = oi (100 + zNm b p len) := by rw [tI, if_neg (by omega), if_neg (by omega)]
      rw [if_pos h4, eT]
      rw [hE] at hsub ⊢
      simp (disch := omega) only [l_0, l_1, l_2, l_3, l_4, l_5, l_6, l_7, l_8, l_9, l_10, l_11, l_12, l_13, l_14, l_15, l_16, l_17, l_18, l_19, l_20, l_21, l_22, l_23, l_24, l_25, l_26, l_27, l_28, l_29, l_30, l_31, l_32, l_33, l_34, l_35, l_36, l_37, l_38, l_39, l_40, l_41, l_42, l_43, l_44, l_45, l_46, l_47, l_48, l_49, l_50, l_51, l_52, l_53, l_54, l_55, l_56, l_57, l_58, l_59, l_60, l_61, l_62, l_63, l_64, l_65, l_66, l_67, l_68, l_69, l_70, l_71, l_72, l_73, l_74, l_75, l_76, l_77, l_78, l_79, l_80, l_81, l_82, l_83, l_84, l_85, l_86, l_87, l_88, l_89, l_90, l_91, l_92, l_93, l_94, l_95, l_96, l_97, l_98, l_99, l_100, l_101, l_102, l_103, l_104, l_105, l_106, l_107, l_108, l_109, l_110, l_111, l_121, l_122, l_160, l_200, l_201, l_240, l_255, l_361, l_390, l_499, l_500, l_999, l_1000, l_10000, l_10099, l_12345, l_16383, l_20000, l_20033, l_20038, l_20124, l_100000, l_1000000, l_1103515245, ui_oi, ck_oi, sb, jc_e, bl_0, bl_1, le_oi, lt_oi, eq_oi, add_oi, mul_oi, div_oi, ir_oi, gi_e, gi_n, if_true, if_false, if_pos, if_neg, true_and, and_true, false_and, and_false, true_or, or_true, false_or, or_false, hd, hsub, hl]
    · rw [if_neg h4]
      simp (disch := omega) only [l_0, l_1, l_2, l_3, l_4, l_5, l_6, l_7, l_8, l_9, l_10, l_11, l_12, l_13, l_14, l_15, l_16, l_17, l_18, l_19, l_20, l_21, l_22, l_23, l_24, l_25, l_26, l_27, l_28, l_29, l_30, l_31, l_32, l_33, l_34, l_35, l_36, l_37, l_38, l_39, l_40, l_41, l_42, l_43, l_44, l_45, l_46, l_47, l_48, l_49, l_50, l_51, l_52, l_53, l_54, l_55, l_56, l_57, l_58, l_59, l_60, l_61, l_62, l_63, l_64, l_65, l_66, l_67, l_68, l_69, l_70, l_71, l_72, l_73, l_74, l_75, l_76, l_77, l_78, l_79, l_80, l_81, l_82, l_83, l_84, l_85, l_86, l_87, l_88, l_89, l_90, l_91, l_92, l_93, l_94, l_95, l_96, l_97, l_98, l_99, l_100, l_101, l_102, l_103, l_104, l_105, l_106, l_107, l_108, l_109, l_110, l_111, l_121, l_122, l_160, l_200, l_201, l_240, l_255, l_361, l_390, l_499, l_500, l_999, l_1000, l_10000, l_10099, l_12345, l_16383, l_20000, l_20033, l_20038, l_20124, l_100000, l_1000000, l_1103515245, ui_oi, ck_oi, sb, jc_e, bl_0, bl_1, le_oi, lt_oi, eq_oi, add_oi, mul_oi, div_oi, ir_oi, gi_e, gi_n, if_true, if_false, if_pos, if_neg, true_and, and_true, false_and, and_false, true_or, or_true, false_or, or_false, hd, hsub]
      rfl
  · rw [if_neg h] at hd ⊢
    have hw := c_word hT hn (p := p) (len := len) (by omega) 24 0 1000 (by omega) (by omega)
    have h0 : zSt 0 = 0 := rfl
    rw [h0] at hw
    rw [hE]
    unfold F_X6_wordOf
    simp (disch := omega) only [l_0, l_1, l_2, l_3, l_4, l_5, l_6, l_7, l_8, l_9, l_10, l_11, l_12, l_13, l_14, l_15, l_16, l_17, l_18, l_19, l_20, l_21, l_22, l_23, l_24, l_25, l_26, l_27, l_28, l_29, l_30, l_31, l_32, l_33, l_34, l_35, l_36, l_37, l_38, l_39, l_40, l_41, l_42, l_43, l_44, l_45, l_46, l_47, l_48, l_49, l_50, l_51, l_52, l_53, l_54, l_55, l_56, l_57, l_58, l_59, l_60, l_61, l_62, l_63, l_64, l_65, l_66, l_67, l_68, l_69, l_70, l_71, l_72, l_73, l_74, l_75, l_76, l_77, l_78, l_79, l_80, l_81, l_82, l_83, l_84, l_85, l_86, l_87, l_88, l_89, l_90, l_91, l_92, l_93, l_94, l_95, l_96, l_97, l_98, l_99, l_100, l_101, l_102, l_103, l_104, l_105, l_106, l_107, l_108, l_109, l_110, l_111, l_121, l_122, l_160, l_200, l_201, l_240, l_255, l_361, l_390, l_499, l_500, l_999, l_1000, l_10000, l_10099, l_12345, l_16383, l_20000, l_20033, l_20038, l_20124, l_100000, l_1000000, l_1103515245, ui_oi, ck_oi, sb, jc_e, bl_0, bl_1, le_oi, lt_oi, eq_oi, add_oi, mul_oi, div_oi, ir_oi, gi_e, gi_n, if_true, if_false, if_pos, if_neg, true_and, and_true, false_and, and_false, true_or, or_true, false_or, or_false, hd, hw]
end LX

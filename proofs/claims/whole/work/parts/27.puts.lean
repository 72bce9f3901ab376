/-! ASIDE: the reference puts its row aside and takes it back -/
section PT
variable {N : Mm} {d e : Nat → Nat} {c : Cnd} {k t f r a j n : Nat}
/-- level p of the pile of rows that were put aside is d -/
def AS (p : Nat) (N : Mm) (d : Nat → Nat) : Prop := ∀ j, j < 65 → gi N 97 (65 * p + j) = oi (d j)
def AN (N : Mm) (n : Nat) : Prop := gi N 94 4 = oi n
theorem AS.oc {N' : Mm} {S : List Nat} (h : AS n N d) (hO : Oc S N N') (hS : 97 ∉ S) : AS n N' d := fun j hj => (hO.g hS).trans (h j hj)
theorem r_puts (hR : RR N d) (hn : AN N n) (h5 : n ≤ 5) : ∃ N', F_X12_puts N = some N' ∧ AS n N' d ∧ AN N' (n + 1) ∧ (∀ c j, ¬ (c = 97 ∧ 65 * n ≤ j ∧ j < 65 * n + 65) → ¬ (c = 94 ∧ j = 4) → gi N' c j = gi N c j) ∧ Oc [94, 97] N N' := by
  unfold F_X12_puts
  refine (lp_inv (L := fun m (x : Mm) y => F_X12_puts_L2 m x y) (n := 65) (I := fun j x => (∀ i, i < j → gi x 97 (65 * n + i) = oi (d i)) ∧ (∀ c i, ¬ (c = 97 ∧ 65 * n ≤ i ∧ i < 65 * n + j) → gi x c i = gi N c i) ∧ Oc [97] N x) (Q := fun r => AS n r d ∧ AN r (n + 1) ∧ (∀ c j, ¬ (c = 97 ∧ 65 * n ≤ j ∧ j < 65 * n + 65) → ¬ (c = 94 ∧ j = 4) → gi r c j = gi N c j) ∧ Oc [94, 97] N r) (fun j m x hj hI => ?_) (fun m x hI => ?_) 65 0 1000 N (by omega) (by omega) ⟨fun i hi => by omega, fun c i _ => rfl, Oc.rf⟩).elim (fun r hr => ?_)
  · obtain ⟨i1, i2, i3⟩ := hI
    have h94 : gi x 94 4 = oi n := (i2 94 4 (by omega)).trans hn
    have hRx := (i2 95 j (by omega)).trans (hR.g (by omega))
    refine ⟨si x 97 (65 * n + j) (oi (d j)), ⟨fun i hi => ?_, fun c i hc => ?_, i3.tr (Oc.si (S := [97]) (by simp)) (fun c hc => ⟨hc, hc⟩)⟩, ?_⟩
    · by_cases hij : i = j
      · subst hij
        exact gi_e
      · rw [gi_n (by omega)]
        exact i1 i (by omega)
    · rw [gi_n (by omega)]
      exact i2 c i (by omega)
    · try dsimp only
      rw [F_X12_puts_L2]
      simp (disch := omega) only [l_0, l_1, l_2, l_3, l_4, l_5, l_6, l_7, l_8, l_9, l_10, l_11, l_12, l_13, l_14, l_15, l_16, l_17, l_18, l_19, l_20, l_21, l_22, l_23, l_24, l_25, l_26, l_27, l_28, l_29, l_30, l_31, l_32, l_33, l_34, l_35, l_36, l_37, l_38, l_39, l_40, l_41, l_42, l_43, l_44, l_45, l_46, l_47, l_48, l_49, l_50, l_51, l_52, l_53, l_54, l_55, l_56, l_57, l_58, l_59, l_60, l_61, l_62, l_63, l_64, l_65, l_66, l_67, l_68, l_69, l_70, l_71, l_72, l_73, l_74, l_75, l_76, l_77, l_78, l_79, l_80, l_81, l_82, l_83, l_84, l_85, l_86, l_87, l_88, l_89, l_90, l_91, l_92, l_93, l_94, l_95, l_96, l_97, l_98, l_99, l_100, l_101, l_102, l_103, l_104, l_105, l_106, l_107, l_108, l_109, l_110, l_111, l_121, l_122, l_160, l_200, l_201, l_240, l_255, l_361, l_390, l_499, l_500, l_999, l_1000, l_10000, l_10099, l_12345, l_16383, l_20000, l_20033, l_20038, l_20124, l_100000, l_1000000, l_1103515245, ui_oi, ck_oi, sb, jc_e, bl_0, bl_1, le_oi, lt_oi, eq_oi, add_oi, mul_oi, div_oi, ir_oi, gi_e, gi_n, if_true, if_false, if_pos, if_neg, true_and, and_true, false_and, and_false, true_or, or_true, false_or, or_false, h94, hRx]
  · obtain ⟨i1, i2, i3⟩ := hI
    have h94 : gi x 94 4 = oi n := (i2 94 4 (by omega)).trans hn
    refine ⟨si x 94 4 (oi (n + 1)), ?_, fun j hj => ?_, gi_e, fun c j h1 h2 => ?_, (i3.su (fun c hc q => hc (by simp at q ⊢; omega))).tr (Oc.si (S := [94, 97]) (by simp)) (fun c hc => ⟨hc, hc⟩)⟩
    · try dsimp only
      rw [F_X12_puts_L2]
      simp (disch := omega) only [l_0, l_1, l_2, l_3, l_4, l_5, l_6, l_7, l_8, l_9, l_10, l_11, l_12, l_13, l_14, l_15, l_16, l_17, l_18, l_19, l_20, l_21, l_22, l_23, l_24, l_25, l_26, l_27, l_28, l_29, l_30, l_31, l_32, l_33, l_34, l_35, l_36, l_37, l_38, l_39, l_40, l_41, l_42, l_43, l_44, l_45, l_46, l_47, l_48, l_49, l_50, l_51, l_52, l_53, l_54, l_55, l_56, l_57, l_58, l_59, l_60, l_61, l_62, l_63, l_64, l_65, l_66, l_67, l_68, l_69, l_70, l_71, l_72, l_73, l_74, l_75, l_76, l_77, l_78, l_79, l_80, l_81, l_82, l_83, l_84, l_85, l_86, l_87, l_88, l_89, l_90, l_91, l_92, l_93, l_94, l_95, l_96, l_97, l_98, l_99, l_100, l_101, l_102, l_103, l_104, l_105, l_106, l_107, l_108, l_109, l_110, l_111, l_121, l_122, l_160, l_200, l_201, l_240, l_255, l_361, l_390, l_499, l_500, l_999, l_1000, l_10000, l_10099, l_12345, l_16383, l_20000, l_20033, l_20038, l_20124, l_100000, l_1000000, l_1103515245, ui_oi, ck_oi, sb, jc_e, bl_0, bl_1, le_oi, lt_oi, eq_oi, add_oi, mul_oi, div_oi, ir_oi, gi_e, gi_n, if_true, if_false, if_pos, if_neg, true_and, and_true, false_and, and_false, true_or, or_true, false_or, or_false, h94]
    · rw [gi_n (by omega)]
      exact i1 j hj
    · rw [gi_n (by omega)]
      exact i2 c j (by omega)
  · obtain ⟨q0, q1⟩ := hr
    exact ⟨r, q0, q1⟩
/-- e where the first 65 are d's -/
def zB (d e : Nat → Nat) : Nat → Nat := fun j => if j < 65 then d j else e j
theorem r_back (hR : RR N e) (hA : AS n N d) (hn : AN N (n + 1)) (h5 : n ≤ 5) : ∃ N', F_X12_back N = some N' ∧ RR N' (zB d e) ∧ Oc [95] N N' ∧ (∀ i, 65 ≤ i → gi N' 95 i = gi N 95 i) := by
  unfold F_X12_back
  refine (lp_inv (L := fun m (x : Mm) y => F_X12_back_L2 m x y) (n := 65) (I := fun j x => (∀ i, i < j → gi x 95 i = oi (d i)) ∧ (∀ i, j ≤ i → gi x 95 i = gi N 95 i) ∧ Oc [95] N x) (Q := fun r => RR r (zB d e) ∧ Oc [95] N r ∧ (∀ i, 65 ≤ i → gi r 95 i = gi N 95 i)) (fun j m x hj hI => ?_) (fun m x hI => ?_) 65 0 1000 N (by omega) (by omega) ⟨fun i hi => by omega, fun i _ => rfl, Oc.rf⟩).elim (fun r hr => ?_)
  · obtain ⟨i1, i2, i3⟩ := hI
    have h94 : gi x 94 4 = oi (n + 1) := (i3.g (by decide)).trans hn
    have hRx : gi x 97 (65 * n + j) = oi (d j) := (i3.g (by decide)).trans (hA j hj)
    refine ⟨si x 95 j (oi (d j)), ⟨fun i hi => ?_, fun i hc => ?_, i3.tr (Oc.si (S := [95]) (by simp)) (fun c hc => ⟨hc, hc⟩)⟩, ?_⟩
    · by_cases hij : i = j
      · subst hij
        exact gi_e
      · rw [gi_n (by omega)]
        exact i1 i (by omega)
    · rw [gi_n (by omega)]
      exact i2 i (by omega)
    · try dsimp only
      rw [F_X12_back_L2]
      simp (disch := omega) only [l_0, l_1, l_2, l_3, l_4, l_5, l_6, l_7, l_8, l_9, l_10, l_11, l_12, l_13, l_14, l_15, l_16, l_17, l_18, l_19, l_20, l_21, l_22, l_23, l_24, l_25, l_26, l_27, l_28, l_29, l_30, l_31, l_32, l_33, l_34, l_35, l_36, l_37, l_38, l_39, l_40, l_41, l_42, l_43, l_44, l_45, l_46, l_47, l_48, l_49, l_50, l_51, l_52, l_53, l_54, l_55, l_56, l_57, l_58, l_59, l_60, l_61, l_62, l_63, l_64, l_65, l_66, l_67, l_68, l_69, l_70, l_71, l_72, l_73, l_74, l_75, l_76, l_77, l_78, l_79, l_80, l_81, l_82, l_83, l_84, l_85, l_86, l_87, l_88, l_89, l_90, l_91, l_92, l_93, l_94, l_95, l_96, l_97, l_98, l_99, l_100, l_101, l_102, l_103, l_104, l_105, l_106, l_107, l_108, l_109, l_110, l_111, l_121, l_122, l_160, l_200, l_201, l_240, l_255, l_361, l_390, l_499, l_500, l_999, l_1000, l_10000, l_10099, l_12345, l_16383, l_20000, l_20033, l_20038, l_20124, l_100000, l_1000000, l_1103515245, ui_oi, ck_oi, sb, jc_e, bl_0, bl_1, le_oi, lt_oi, eq_oi, add_oi, mul_oi, div_oi, ir_oi, gi_e, gi_n, if_true, if_false, if_pos, if_neg, true_and, and_true, false_and, and_false, true_or, or_true, false_or, or_false, h94, hRx, sub_oi, show n + 1 - 1 = n by omega]
  · obtain ⟨i1, i2, i3⟩ := hI
    refine ⟨x, ?_, fun j hj => ?_, i3, i2⟩
    · try dsimp only
      rw [F_X12_back_L2]
      simp (disch := omega) only [l_0, l_1, l_2, l_3, l_4, l_5, l_6, l_7, l_8, l_9, l_10, l_11, l_12, l_13, l_14, l_15, l_16, l_17, l_18, l_19, l_20, l_21, l_22, l_23, l_24, l_25, l_26, l_27, l_28, l_29, l_30, l_31, l_32, l_33, l_34, l_35, l_36, l_37, l_38, l_39, l_40, l_41, l_42, l_43, l_44, l_45, l_46, l_47, l_48, l_49, l_50, l_51, l_52, l_53, l_54, l_55, l_56, l_57, l_58, l_59, l_60, l_61, l_62, l_63, l_64, l_65, l_66, l_67, l_68, l_69, l_70, l_71, l_72, l_73, l_74, l_75, l_76, l_77, l_78, l_79, l_80, l_81, l_82, l_83, l_84, l_85, l_86, l_87, l_88, l_89, l_90, l_91, l_92, l_93, l_94, l_95, l_96, l_97, l_98, l_99, l_100, l_101, l_102, l_103, l_104, l_105, l_106, l_107, l_108, l_109, l_110, l_111, l_121, l_122, l_160, l_200, l_201, l_240, l_255, l_361, l_390, l_499, l_500, l_999, l_1000, l_10000, l_10099, l_12345, l_16383, l_20000, l_20033, l_20038, l_20124, l_100000, l_1000000, l_1103515245, ui_oi, ck_oi, sb, jc_e, bl_0, bl_1, le_oi, lt_oi, eq_oi, add_oi, mul_oi, div_oi, ir_oi, gi_e, gi_n, if_true, if_false, if_pos, if_neg, true_and, and_true, false_and, and_false, true_or, or_true, false_or, or_false, ]
    · unfold zB
      by_cases h : j < 65
      · rw [if_pos h]
        exact i1 j h
      · rw [if_neg h, i2 j (by omega)]
        exact hR.g hj
  · obtain ⟨q0, q1⟩ := hr
    exact ⟨r, q0, q1⟩
/-- zB brings back what a row was ahead of tides -/
theorem zB_eq (hS : Sd d e) : zB d e = d := by
  funext j
  unfold zB
  by_cases h : j < 65
  · rw [if_pos h]
  · rw [if_neg h]
    exact hS.o (by omega)
theorem r_backS (hI : RI N e c) (hS : Sd d e) (hA : AS n N d) (hn : AN N (n + 1)) (h5 : n ≤ 5) : ∃ N', F_X12_back N = some N' ∧ RI N' d c ∧ Oc [95] N N' ∧ (∀ i, 121 ≤ i → gi N' 95 i = gi N 95 i) := by
  obtain ⟨N', g1, g2, g3, g4⟩ := r_back hI.1 hA hn h5
  rw [zB_eq hS] at g2
  refine ⟨N', g1, hI.mv g2 (fun i hi => g4 i (by omega)) ?_, g3, fun i hi => g4 i (by omega)⟩
  intro j a1 a3 a4 ak
  exact (hS j a1 a3 a4 ak).symm
theorem r_takesS (hI : RI N e c) (hS : Sd d e) (hA : AS n N d) (hn : AN N (n + 1)) (h5 : n ≤ 5) : ∃ N', F_X12_takes N = some N' ∧ RI N' d c ∧ AN N' n ∧ Oc [94, 95] N N' ∧ (∀ i, 121 ≤ i → gi N' 95 i = gi N 95 i) ∧ (∀ j, j ≠ 4 → gi N' 94 j = gi N 94 j) := by
  obtain ⟨N1, g1, g2, g3, g4⟩ := r_backS hI hS hA hn h5
  have h94 : gi N1 94 4 = oi (n + 1) := (g3.g (by decide)).trans hn
  have hO : Oc [94] N1 (si N1 94 4 (oi n)) := Oc.si (by simp)
  refine ⟨si N1 94 4 (oi n), ?_, g2.oc hO (by decide), gi_e, (g3.su (fun c hc q => hc (by simp at q ⊢; omega))).tr (Oc.si (S := [94, 95]) (by simp)) (fun c hc => ⟨hc, hc⟩), fun i hi => by rw [gi_n (by omega)]; exact g4 i hi, fun j hj => by rw [gi_n (by omega)]; exact g3.g (by decide)⟩
  unfold F_X12_takes
  simp (disch := omega) only [l_0, l_1, l_2, l_3, l_4, l_5, l_6, l_7, l_8, l_9, l_10, l_11, l_12, l_13, l_14, l_15, l_16, l_17, l_18, l_19, l_20, l_21, l_22, l_23, l_24, l_25, l_26, l_27, l_28, l_29, l_30, l_31, l_32, l_33, l_34, l_35, l_36, l_37, l_38, l_39, l_40, l_41, l_42, l_43, l_44, l_45, l_46, l_47, l_48, l_49, l_50, l_51, l_52, l_53, l_54, l_55, l_56, l_57, l_58, l_59, l_60, l_61, l_62, l_63, l_64, l_65, l_66, l_67, l_68, l_69, l_70, l_71, l_72, l_73, l_74, l_75, l_76, l_77, l_78, l_79, l_80, l_81, l_82, l_83, l_84, l_85, l_86, l_87, l_88, l_89, l_90, l_91, l_92, l_93, l_94, l_95, l_96, l_97, l_98, l_99, l_100, l_101, l_102, l_103, l_104, l_105, l_106, l_107, l_108, l_109, l_110, l_111, l_121, l_122, l_160, l_200, l_201, l_240, l_255, l_361, l_390, l_499, l_500, l_999, l_1000, l_10000, l_10099, l_12345, l_16383, l_20000, l_20033, l_20038, l_20124, l_100000, l_1000000, l_1103515245, ui_oi, ck_oi, sb, jc_e, bl_0, bl_1, le_oi, lt_oi, eq_oi, add_oi, mul_oi, div_oi, ir_oi, gi_e, gi_n, if_true, if_false, if_pos, if_neg, true_and, and_true, false_and, and_false, true_or, or_true, false_or, or_false, g1, h94, sub_oi, show n + 1 - 1 = n by omega]
theorem or_all : ∀ k, k < 6 → ∀ b, b < 2 ^ k → ∀ s, s < 2 → (oi b ||| (oi s <<< (oi k &&& oi 31))) = oi (b + s * 2 ^ k) := by decide +kernel
theorem zSum_ext {f : Nat → Nat} {n : Nat} : ∀ m, (∀ i, n ≤ i → i < n + m → f i = 0) → zSum f (n + m) = zSum f n
  | 0, _ => rfl
  | m + 1, h => by
    show zSum f (n + m) + f (n + m) = _
    rw [zSum_ext m (fun i h1 h2 => h i h1 (by omega)), h (n + m) (by omega) (by omega), Nat.add_zero]
theorem zBk_lt (hW : WFb d) : ∀ k, k ≤ 6 → zSum (fun i => zS d i * 2 ^ i) k < 2 ^ k
  | 0, _ => by show 0 < 2 ^ 0; decide
  | k + 1, h => by
    have h1 := zBk_lt hW k (by omega)
    have h2 := (hW k (by omega)).2.2.2.2.1
    have h3 := Nat.mul_le_mul_right (2 ^ k) h2
    show zSum (fun i => zS d i * 2 ^ i) k + zS d k * 2 ^ k < 2 ^ (k + 1)
    rw [Nat.pow_succ]
    omega
theorem zBk_eq (hW : WF d) : zSum (fun i => zS d i * 2 ^ i) (d 0) = zBi d := by
  have h0 := hW.1
  have h := zSum_ext (f := fun i => zS d i * 2 ^ i) (n := d 0) (6 - d 0) (fun i h1 h2 => by
    show zS d i * 2 ^ i = 0
    rw [(hW.2.2.2.2.2.1 i (by omega)).2.2.2.2.2 h1, Nat.zero_mul])
  rw [show d 0 + (6 - d 0) = 6 by omega] at h
  rw [← h]
  show 0 + zS d 0 * 2 ^ 0 + zS d 1 * 2 ^ 1 + zS d 2 * 2 ^ 2 + zS d 3 * 2 ^ 3 + zS d 4 * 2 ^ 4 + zS d 5 * 2 ^ 5 = _
  unfold zBi
  omega
theorem r_st (hR : RR N d) (hW : WF d) : F_X12_staked N = some (oi (zBi d)) := by
  have h0 := hW.1
  have hb := hW.2.2.2.2.2.1
  rw [← zBk_eq hW]
  unfold F_X12_staked
  refine lp_up (L := fun m a x => F_X12_staked_L4 N m a x) (n := d 0) (a := fun j => oi (zSum (fun i => zS d i * 2 ^ i) j)) (fun j m hj => ?_) (fun m => ?_) (d 0) 0 1000 (by omega) (by omega)
  · try dsimp only
    show F_X12_staked_L4 N (m + 1) (oi (zSum (fun i => zS d i * 2 ^ i) j)) (oi j) = F_X12_staked_L4 N m (oi (zSum (fun i => zS d i * 2 ^ i) j + zS d j * 2 ^ j)) (oi (j + 1))
    rw [F_X12_staked_L4]
    have hs := (hb j (by omega)).2.2.2.2.1
    have ho := or_all j (by omega) _ (zBk_lt hb j (by omega)) (zS d j) (by omega)
    simp (disch := omega) only [l_0, l_1, l_2, l_3, l_4, l_5, l_6, l_7, l_8, l_9, l_10, l_11, l_12, l_13, l_14, l_15, l_16, l_17, l_18, l_19, l_20, l_21, l_22, l_23, l_24, l_25, l_26, l_27, l_28, l_29, l_30, l_31, l_32, l_33, l_34, l_35, l_36, l_37, l_38, l_39, l_40, l_41, l_42, l_43, l_44, l_45, l_46, l_47, l_48, l_49, l_50, l_51, l_52, l_53, l_54, l_55, l_56, l_57, l_58, l_59, l_60, l_61, l_62, l_63, l_64, l_65, l_66, l_67, l_68, l_69, l_70, l_71, l_72, l_73, l_74, l_75, l_76, l_77, l_78, l_79, l_80, l_81, l_82, l_83, l_84, l_85, l_86, l_87, l_88, l_89, l_90, l_91, l_92, l_93, l_94, l_95, l_96, l_97, l_98, l_99, l_100, l_101, l_102, l_103, l_104, l_105, l_106, l_107, l_108, l_109, l_110, l_111, l_121, l_122, l_160, l_200, l_201, l_240, l_255, l_361, l_390, l_499, l_500, l_999, l_1000, l_10000, l_10099, l_12345, l_16383, l_20000, l_20033, l_20038, l_20124, l_100000, l_1000000, l_1103515245, ui_oi, ck_oi, sb, jc_e, bl_0, bl_1, le_oi, lt_oi, eq_oi, add_oi, mul_oi, div_oi, ir_oi, gi_e, gi_n, if_true, if_false, if_pos, if_neg, true_and, and_true, false_and, and_false, true_or, or_true, false_or, or_false, hR.g, r_s hR, ho]
  · try dsimp only
    rw [F_X12_staked_L4]
    simp (disch := omega) only [l_0, l_1, l_2, l_3, l_4, l_5, l_6, l_7, l_8, l_9, l_10, l_11, l_12, l_13, l_14, l_15, l_16, l_17, l_18, l_19, l_20, l_21, l_22, l_23, l_24, l_25, l_26, l_27, l_28, l_29, l_30, l_31, l_32, l_33, l_34, l_35, l_36, l_37, l_38, l_39, l_40, l_41, l_42, l_43, l_44, l_45, l_46, l_47, l_48, l_49, l_50, l_51, l_52, l_53, l_54, l_55, l_56, l_57, l_58, l_59, l_60, l_61, l_62, l_63, l_64, l_65, l_66, l_67, l_68, l_69, l_70, l_71, l_72, l_73, l_74, l_75, l_76, l_77, l_78, l_79, l_80, l_81, l_82, l_83, l_84, l_85, l_86, l_87, l_88, l_89, l_90, l_91, l_92, l_93, l_94, l_95, l_96, l_97, l_98, l_99, l_100, l_101, l_102, l_103, l_104, l_105, l_106, l_107, l_108, l_109, l_110, l_111, l_121, l_122, l_160, l_200, l_201, l_240, l_255, l_361, l_390, l_499, l_500, l_999, l_1000, l_10000, l_10099, l_12345, l_16383, l_20000, l_20033, l_20038, l_20124, l_100000, l_1000000, l_1103515245, ui_oi, ck_oi, sb, jc_e, bl_0, bl_1, le_oi, lt_oi, eq_oi, add_oi, mul_oi, div_oi, ir_oi, gi_e, gi_n, if_true, if_false, if_pos, if_neg, true_and, and_true, false_and, and_false, true_or, or_true, false_or, or_false, hR.g]
theorem r_fs (hR : RR N d) (hW : WF d) : F_X12_fillAll N = some (oi (zFs d)) := by
  have h0 := hW.1
  unfold F_X12_fillAll zFs
  refine lp_up (L := fun m a x => F_X12_fillAll_L4 N m a x) (n := d 0) (a := fun j => oi (zSum (zF d) j)) (fun j m hj => ?_) (fun m => ?_) (d 0) 0 1000 (by omega) (by omega)
  · try dsimp only
    show F_X12_fillAll_L4 N (m + 1) (oi (zSum (zF d) j)) (oi j) = F_X12_fillAll_L4 N m (oi (zSum (zF d) j + zF d j)) (oi (j + 1))
    rw [F_X12_fillAll_L4]
    simp (disch := omega) only [l_0, l_1, l_2, l_3, l_4, l_5, l_6, l_7, l_8, l_9, l_10, l_11, l_12, l_13, l_14, l_15, l_16, l_17, l_18, l_19, l_20, l_21, l_22, l_23, l_24, l_25, l_26, l_27, l_28, l_29, l_30, l_31, l_32, l_33, l_34, l_35, l_36, l_37, l_38, l_39, l_40, l_41, l_42, l_43, l_44, l_45, l_46, l_47, l_48, l_49, l_50, l_51, l_52, l_53, l_54, l_55, l_56, l_57, l_58, l_59, l_60, l_61, l_62, l_63, l_64, l_65, l_66, l_67, l_68, l_69, l_70, l_71, l_72, l_73, l_74, l_75, l_76, l_77, l_78, l_79, l_80, l_81, l_82, l_83, l_84, l_85, l_86, l_87, l_88, l_89, l_90, l_91, l_92, l_93, l_94, l_95, l_96, l_97, l_98, l_99, l_100, l_101, l_102, l_103, l_104, l_105, l_106, l_107, l_108, l_109, l_110, l_111, l_121, l_122, l_160, l_200, l_201, l_240, l_255, l_361, l_390, l_499, l_500, l_999, l_1000, l_10000, l_10099, l_12345, l_16383, l_20000, l_20033, l_20038, l_20124, l_100000, l_1000000, l_1103515245, ui_oi, ck_oi, sb, jc_e, bl_0, bl_1, le_oi, lt_oi, eq_oi, add_oi, mul_oi, div_oi, ir_oi, gi_e, gi_n, if_true, if_false, if_pos, if_neg, true_and, and_true, false_and, and_false, true_or, or_true, false_or, or_false, hR.g, r_f hR]
  · try dsimp only
    rw [F_X12_fillAll_L4]
    simp (disch := omega) only [l_0, l_1, l_2, l_3, l_4, l_5, l_6, l_7, l_8, l_9, l_10, l_11, l_12, l_13, l_14, l_15, l_16, l_17, l_18, l_19, l_20, l_21, l_22, l_23, l_24, l_25, l_26, l_27, l_28, l_29, l_30, l_31, l_32, l_33, l_34, l_35, l_36, l_37, l_38, l_39, l_40, l_41, l_42, l_43, l_44, l_45, l_46, l_47, l_48, l_49, l_50, l_51, l_52, l_53, l_54, l_55, l_56, l_57, l_58, l_59, l_60, l_61, l_62, l_63, l_64, l_65, l_66, l_67, l_68, l_69, l_70, l_71, l_72, l_73, l_74, l_75, l_76, l_77, l_78, l_79, l_80, l_81, l_82, l_83, l_84, l_85, l_86, l_87, l_88, l_89, l_90, l_91, l_92, l_93, l_94, l_95, l_96, l_97, l_98, l_99, l_100, l_101, l_102, l_103, l_104, l_105, l_106, l_107, l_108, l_109, l_110, l_111, l_121, l_122, l_160, l_200, l_201, l_240, l_255, l_361, l_390, l_499, l_500, l_999, l_1000, l_10000, l_10099, l_12345, l_16383, l_20000, l_20033, l_20038, l_20124, l_100000, l_1000000, l_1103515245, ui_oi, ck_oi, sb, jc_e, bl_0, bl_1, le_oi, lt_oi, eq_oi, add_oi, mul_oi, div_oi, ir_oi, gi_e, gi_n, if_true, if_false, if_pos, if_neg, true_and, and_true, false_and, and_false, true_or, or_true, false_or, or_false, hR.g]
end PT

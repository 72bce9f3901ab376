/-! LIAR -/
section LS
variable {M N M' N' N1 : Mm} {d e : Nat → Nat} {c : Cnd} {g h : Nat → Bool} {f : Nat → Nat} {n i j p t x y u m : Nat}
/-- what the class gathers of the first p strangers -/
def zLc (d : Nat → Nat) (p acc : Nat) : Prop := acc < 2 ^ d 6 ∧ ∀ r, r < 6 → (acc / 2 ^ r % 2 = 1 ↔ ∃ q, q < p ∧ zMk (fun r => !zFt d q r) (d 6) = 2 ^ r)
theorem w_liar (hV : VL 0 M d c) (hW : WF d) : ∀ m p fu acc, p + m = 500 → m < fu → (∀ i, i < p → zMk (fun r => !zFt d i r) (d 6) ≠ 0) → zLc d p acc → ∃ res, F_X11_liar_L4 M fu (oi acc) (oi p) = some res ∧ (((∃ q, q < 500 ∧ zMk (fun r => !zFt d q r) (d 6) = 0) ∧ res = - oi 3) ∨ ((∀ i, i < 500 → zMk (fun r => !zFt d i r) (d 6) ≠ 0) ∧ ∃ a, zLc d 500 a ∧ res = (if a = 0 then - oi 3 else oi (zTz a)))) := by
  have h6 := hW.2.2.2.2.1
  have hp2 : 2 ^ d 6 ≤ 64 := by
    have : 2 ^ d 6 ≤ 2 ^ 6 := Nat.pow_le_pow_right (by omega) h6
    omega
  intro m
  induction m with
  | zero =>
    intro p fu acc hp hf hn hl
    obtain ⟨fu', rfl⟩ : ∃ q, fu = q + 1 := ⟨fu - 1, by omega⟩
    obtain rfl : p = 500 := by omega
    have hl1 := hl.1
    by_cases ha : acc = 0
    · refine ⟨- oi 3, ?_, Or.inr ⟨hn, acc, hl, by rw [if_pos ha]⟩⟩
      rw [F_X11_liar_L4, ha]
      simp (disch := omega) only [l_0, l_1, l_2, l_3, l_4, l_5, l_6, l_7, l_8, l_9, l_10, l_11, l_12, l_13, l_14, l_15, l_16, l_17, l_18, l_19, l_20, l_21, l_22, l_23, l_24, l_25, l_26, l_27, l_28, l_29, l_30, l_31, l_32, l_33, l_34, l_35, l_36, l_37, l_38, l_39, l_40, l_41, l_42, l_43, l_44, l_45, l_46, l_47, l_48, l_49, l_50, l_51, l_52, l_53, l_54, l_55, l_56, l_57, l_58, l_59, l_60, l_61, l_62, l_63, l_64, l_65, l_66, l_67, l_68, l_69, l_70, l_71, l_72, l_73, l_74, l_75, l_76, l_77, l_78, l_79, l_80, l_81, l_82, l_83, l_84, l_85, l_86, l_87, l_88, l_89, l_90, l_91, l_92, l_93, l_94, l_95, l_96, l_97, l_98, l_99, l_100, l_101, l_102, l_103, l_104, l_105, l_106, l_107, l_108, l_109, l_110, l_111, l_121, l_122, l_160, l_200, l_201, l_240, l_255, l_361, l_390, l_499, l_500, l_999, l_1000, l_10000, l_10099, l_12345, l_16383, l_20000, l_20033, l_20038, l_20124, l_100000, l_1000000, l_1103515245, ui_oi, ck_oi, sb, jc_e, bl_0, bl_1, le_oi, lt_oi, eq_oi, add_oi, mul_oi, div_oi, ir_oi, gi_e, gi_n, if_true, if_false, if_pos, if_neg, true_and, and_true, false_and, and_false, true_or, or_true, false_or, or_false, ]
    · have htz := tz_all acc (by omega) ha
      refine ⟨oi (zTz acc), ?_, Or.inr ⟨hn, acc, hl, by rw [if_neg ha]⟩⟩
      rw [F_X11_liar_L4]
      simp (disch := omega) only [l_0, l_1, l_2, l_3, l_4, l_5, l_6, l_7, l_8, l_9, l_10, l_11, l_12, l_13, l_14, l_15, l_16, l_17, l_18, l_19, l_20, l_21, l_22, l_23, l_24, l_25, l_26, l_27, l_28, l_29, l_30, l_31, l_32, l_33, l_34, l_35, l_36, l_37, l_38, l_39, l_40, l_41, l_42, l_43, l_44, l_45, l_46, l_47, l_48, l_49, l_50, l_51, l_52, l_53, l_54, l_55, l_56, l_57, l_58, l_59, l_60, l_61, l_62, l_63, l_64, l_65, l_66, l_67, l_68, l_69, l_70, l_71, l_72, l_73, l_74, l_75, l_76, l_77, l_78, l_79, l_80, l_81, l_82, l_83, l_84, l_85, l_86, l_87, l_88, l_89, l_90, l_91, l_92, l_93, l_94, l_95, l_96, l_97, l_98, l_99, l_100, l_101, l_102, l_103, l_104, l_105, l_106, l_107, l_108, l_109, l_110, l_111, l_121, l_122, l_160, l_200, l_201, l_240, l_255, l_361, l_390, l_499, l_500, l_999, l_1000, l_10000, l_10099, l_12345, l_16383, l_20000, l_20033, l_20038, l_20124, l_100000, l_1000000, l_1103515245, ui_oi, ck_oi, sb, jc_e, bl_0, bl_1, le_oi, lt_oi, eq_oi, add_oi, mul_oi, div_oi, ir_oi, gi_e, gi_n, if_true, if_false, if_pos, if_neg, true_and, and_true, false_and, and_false, true_or, or_true, false_or, or_false, htz]
  | succ m ih =>
    intro p fu acc hp hf hn hl
    obtain ⟨fu', rfl⟩ : ∃ q, fu = q + 1 := ⟨fu - 1, by omega⟩
    have hl1 := hl.1
    have hden := c_den hV hW (p := p) (by omega)
    have h64 := zMk_64 (g := fun r => !zFt d p r) h6
    have hlt := zMk_lt (g := fun r => !zFt d p r) (d 6)
    obtain ⟨D, hD⟩ : ∃ D, D = zMk (fun r => !zFt d p r) (d 6) := ⟨_, rfl⟩
    rw [← hD] at hden h64 hlt
    by_cases hz : D = 0
    · refine ⟨- oi 3, ?_, Or.inl ⟨⟨p, by omega, by rw [← hD]; exact hz⟩, rfl⟩⟩
      rw [hz] at hden
      rw [F_X11_liar_L4]
      simp (disch := omega) only [l_0, l_1, l_2, l_3, l_4, l_5, l_6, l_7, l_8, l_9, l_10, l_11, l_12, l_13, l_14, l_15, l_16, l_17, l_18, l_19, l_20, l_21, l_22, l_23, l_24, l_25, l_26, l_27, l_28, l_29, l_30, l_31, l_32, l_33, l_34, l_35, l_36, l_37, l_38, l_39, l_40, l_41, l_42, l_43, l_44, l_45, l_46, l_47, l_48, l_49, l_50, l_51, l_52, l_53, l_54, l_55, l_56, l_57, l_58, l_59, l_60, l_61, l_62, l_63, l_64, l_65, l_66, l_67, l_68, l_69, l_70, l_71, l_72, l_73, l_74, l_75, l_76, l_77, l_78, l_79, l_80, l_81, l_82, l_83, l_84, l_85, l_86, l_87, l_88, l_89, l_90, l_91, l_92, l_93, l_94, l_95, l_96, l_97, l_98, l_99, l_100, l_101, l_102, l_103, l_104, l_105, l_106, l_107, l_108, l_109, l_110, l_111, l_121, l_122, l_160, l_200, l_201, l_240, l_255, l_361, l_390, l_499, l_500, l_999, l_1000, l_10000, l_10099, l_12345, l_16383, l_20000, l_20033, l_20038, l_20124, l_100000, l_1000000, l_1103515245, ui_oi, ck_oi, sb, jc_e, bl_0, bl_1, le_oi, lt_oi, eq_oi, add_oi, mul_oi, div_oi, ir_oi, gi_e, gi_n, if_true, if_false, if_pos, if_neg, true_and, and_true, false_and, and_false, true_or, or_true, false_or, or_false, hden]
    · have hbc := bn_all D h64
      have hpl := pc_le D h64
      have hpc := pc_all D h64
      have hn' : ∀ i, i < p + 1 → zMk (fun r => !zFt d i r) (d 6) ≠ 0 := fun i hi => by
        by_cases hip : i = p
        · rw [hip, ← hD]
          exact hz
        · exact hn i (by omega)
      by_cases h1 : zPc D = 1
      · have hor := oor_all acc (by omega) D h64
        obtain ⟨res, r1, r2⟩ := ih (p + 1) fu' (acc ||| D) (by omega) (by omega) hn' ⟨Nat.or_lt_two_pow hl1 hlt, fun r hr => by
          rw [obit_all acc (by omega) D h64 r hr, hl.2 r hr]
          obtain ⟨s, s1, s2⟩ := hpc.mp h1
          refine ⟨fun q => ?_, fun q => ?_⟩
          · rcases q with ⟨q, q1, q2⟩ | q
            · exact ⟨q, by omega, q2⟩
            · rw [s2, pbit_all s s1 r hr] at q
              exact ⟨p, by omega, by rw [← hD, s2, q]⟩
          · obtain ⟨q, q1, q2⟩ := q
            by_cases hqp : q = p
            · rw [hqp, ← hD] at q2
              refine Or.inr ?_
              rw [q2]
              exact (pbit_all r hr r hr).mpr rfl
            · exact Or.inl ⟨q, by omega, q2⟩⟩
        refine ⟨res, ?_, r2⟩
        rw [← r1, F_X11_liar_L4]
        simp (disch := omega) only [l_0, l_1, l_2, l_3, l_4, l_5, l_6, l_7, l_8, l_9, l_10, l_11, l_12, l_13, l_14, l_15, l_16, l_17, l_18, l_19, l_20, l_21, l_22, l_23, l_24, l_25, l_26, l_27, l_28, l_29, l_30, l_31, l_32, l_33, l_34, l_35, l_36, l_37, l_38, l_39, l_40, l_41, l_42, l_43, l_44, l_45, l_46, l_47, l_48, l_49, l_50, l_51, l_52, l_53, l_54, l_55, l_56, l_57, l_58, l_59, l_60, l_61, l_62, l_63, l_64, l_65, l_66, l_67, l_68, l_69, l_70, l_71, l_72, l_73, l_74, l_75, l_76, l_77, l_78, l_79, l_80, l_81, l_82, l_83, l_84, l_85, l_86, l_87, l_88, l_89, l_90, l_91, l_92, l_93, l_94, l_95, l_96, l_97, l_98, l_99, l_100, l_101, l_102, l_103, l_104, l_105, l_106, l_107, l_108, l_109, l_110, l_111, l_121, l_122, l_160, l_200, l_201, l_240, l_255, l_361, l_390, l_499, l_500, l_999, l_1000, l_10000, l_10099, l_12345, l_16383, l_20000, l_20033, l_20038, l_20124, l_100000, l_1000000, l_1103515245, ui_oi, ck_oi, sb, jc_e, bl_0, bl_1, le_oi, lt_oi, eq_oi, add_oi, mul_oi, div_oi, ir_oi, gi_e, gi_n, if_true, if_false, if_pos, if_neg, true_and, and_true, false_and, and_false, true_or, or_true, false_or, or_false, hden, hbc, h1, hor]
      · obtain ⟨res, r1, r2⟩ := ih (p + 1) fu' acc (by omega) (by omega) hn' ⟨hl1, fun r hr => by
          rw [hl.2 r hr]
          refine ⟨fun q => ?_, fun q => ?_⟩
          · obtain ⟨q, q1, q2⟩ := q
            exact ⟨q, by omega, q2⟩
          · obtain ⟨q, q1, q2⟩ := q
            by_cases hqp : q = p
            · rw [hqp, ← hD] at q2
              exact absurd (hpc.mpr ⟨r, hr, q2⟩) h1
            · exact ⟨q, by omega, q2⟩⟩
        refine ⟨res, ?_, r2⟩
        rw [← r1, F_X11_liar_L4]
        simp (disch := omega) only [l_0, l_1, l_2, l_3, l_4, l_5, l_6, l_7, l_8, l_9, l_10, l_11, l_12, l_13, l_14, l_15, l_16, l_17, l_18, l_19, l_20, l_21, l_22, l_23, l_24, l_25, l_26, l_27, l_28, l_29, l_30, l_31, l_32, l_33, l_34, l_35, l_36, l_37, l_38, l_39, l_40, l_41, l_42, l_43, l_44, l_45, l_46, l_47, l_48, l_49, l_50, l_51, l_52, l_53, l_54, l_55, l_56, l_57, l_58, l_59, l_60, l_61, l_62, l_63, l_64, l_65, l_66, l_67, l_68, l_69, l_70, l_71, l_72, l_73, l_74, l_75, l_76, l_77, l_78, l_79, l_80, l_81, l_82, l_83, l_84, l_85, l_86, l_87, l_88, l_89, l_90, l_91, l_92, l_93, l_94, l_95, l_96, l_97, l_98, l_99, l_100, l_101, l_102, l_103, l_104, l_105, l_106, l_107, l_108, l_109, l_110, l_111, l_121, l_122, l_160, l_200, l_201, l_240, l_255, l_361, l_390, l_499, l_500, l_999, l_1000, l_10000, l_10099, l_12345, l_16383, l_20000, l_20033, l_20038, l_20124, l_100000, l_1000000, l_1103515245, ui_oi, ck_oi, sb, jc_e, bl_0, bl_1, le_oi, lt_oi, eq_oi, add_oi, mul_oi, div_oi, ir_oi, gi_e, gi_n, if_true, if_false, if_pos, if_neg, true_and, and_true, false_and, and_false, true_or, or_true, false_or, or_false, hden, hbc, h1]
theorem ex_sum : (∃ q, q < 500 ∧ zGa d u q = true) ↔ zSum (zG1 d u) 500 ≠ 0 := by
  refine ⟨fun ⟨q, q1, q2⟩ h => ?_, fun h => ?_⟩
  · have := (zSum_0 500).mp h q q1
    unfold zG1 at this
    rw [if_pos q2] at this
    omega
  · refine Classical.byContradiction (fun hn => h ((zSum_0 500).mpr (fun q hq => if_neg (fun q2 => hn ⟨q, hq, q2⟩))))
theorem w_liarR (hW : WF d) {a : Nat} (ha : zLc d 500 a) (hno : ∀ i, i < 500 → zMk (fun r => !zFt d i r) (d 6) ≠ 0) : ∀ m j fu (X : Mm), j + m = d 6 → m < fu → RI X d c → (∀ i, i < j → a / 2 ^ i % 2 = 0) → ∃ X', F_X12_liar_L17 fu X (oi j) = some (if a = 0 then - oi 3 else oi (zTz a), X') ∧ RI X' d c ∧ RZ X X' ∧ (∀ n, AN X n → AN X' n) := by
  have h6 := hW.2.2.2.2.1
  have hp2 : 2 ^ d 6 ≤ 64 := by
    have : 2 ^ d 6 ≤ 2 ^ 6 := Nat.pow_le_pow_right (by omega) h6
    omega
  intro m
  induction m with
  | zero =>
    intro j fu X hj hf hI hz
    obtain ⟨fu', rfl⟩ : ∃ q, fu = q + 1 := ⟨fu - 1, by omega⟩
    have hx := non_all (d 6) (by omega) a ha.1 (fun i hi => hz i (by omega))
    refine ⟨X, ?_, hI, RZ.rf, fun _ q => q⟩
    rw [F_X12_liar_L17, if_pos hx]
    simp (disch := omega) only [l_0, l_1, l_2, l_3, l_4, l_5, l_6, l_7, l_8, l_9, l_10, l_11, l_12, l_13, l_14, l_15, l_16, l_17, l_18, l_19, l_20, l_21, l_22, l_23, l_24, l_25, l_26, l_27, l_28, l_29, l_30, l_31, l_32, l_33, l_34, l_35, l_36, l_37, l_38, l_39, l_40, l_41, l_42, l_43, l_44, l_45, l_46, l_47, l_48, l_49, l_50, l_51, l_52, l_53, l_54, l_55, l_56, l_57, l_58, l_59, l_60, l_61, l_62, l_63, l_64, l_65, l_66, l_67, l_68, l_69, l_70, l_71, l_72, l_73, l_74, l_75, l_76, l_77, l_78, l_79, l_80, l_81, l_82, l_83, l_84, l_85, l_86, l_87, l_88, l_89, l_90, l_91, l_92, l_93, l_94, l_95, l_96, l_97, l_98, l_99, l_100, l_101, l_102, l_103, l_104, l_105, l_106, l_107, l_108, l_109, l_110, l_111, l_121, l_122, l_160, l_200, l_201, l_240, l_255, l_361, l_390, l_499, l_500, l_999, l_1000, l_10000, l_10099, l_12345, l_16383, l_20000, l_20033, l_20038, l_20124, l_100000, l_1000000, l_1103515245, ui_oi, ck_oi, sb, jc_e, bl_0, bl_1, le_oi, lt_oi, eq_oi, add_oi, mul_oi, div_oi, ir_oi, gi_e, gi_n, if_true, if_false, if_pos, if_neg, true_and, and_true, false_and, and_false, true_or, or_true, false_or, or_false, hI.1.g]
  | succ m ih =>
    intro j fu X hj hf hI hz
    obtain ⟨fu', rfl⟩ : ∃ q, fu = q + 1 := ⟨fu - 1, by omega⟩
    have hsh := shb_all j (by omega)
    obtain ⟨N', y1, y2, y3, y4, y5, y6⟩ := r_findLone hI hW (b := 2 ^ j) (p6_lt j (by omega))
    have hle := zG1_le (d := d) (u := zAmn (2 ^ d 6 - 1) (2 ^ j))
    have hex : a / 2 ^ j % 2 = 1 ↔ zSum (zG1 d (zAmn (2 ^ d 6 - 1) (2 ^ j))) 500 ≠ 0 := by
      rw [ha.2 j (by omega), ← ex_sum]
      have hk : ∀ q, q < 500 → (zMk (fun r => !zFt d q r) (d 6) = 2 ^ j ↔ zGa d (zAmn (2 ^ d 6 - 1) (2 ^ j)) q = true) := fun q hq => den_1 hW (by omega) (by
        cases hb : zGa d (zAmn (2 ^ d 6 - 1) 0) q with
        | false => rfl
        | true => exact absurd ((den_0 hW).mpr hb) (hno q hq))
      exact ⟨fun ⟨q, q1, q2⟩ => ⟨q, q1, (hk q q1).mp q2⟩, fun ⟨q, q1, q2⟩ => ⟨q, q1, (hk q q1).mpr q2⟩⟩
    have hm2 : a / 2 ^ j % 2 < 2 := Nat.mod_lt _ (by omega)
    by_cases hb : a / 2 ^ j % 2 = 1
    · obtain ⟨z1, z2⟩ := hit_all a (by have := ha.1; omega) j (by omega) ⟨hz, hb⟩
      have hT := hex.mp hb
      refine ⟨N', ?_, y2, y3, y4⟩
      rw [F_X12_liar_L17, if_neg z1, z2]
      simp (disch := omega) only [l_0, l_1, l_2, l_3, l_4, l_5, l_6, l_7, l_8, l_9, l_10, l_11, l_12, l_13, l_14, l_15, l_16, l_17, l_18, l_19, l_20, l_21, l_22, l_23, l_24, l_25, l_26, l_27, l_28, l_29, l_30, l_31, l_32, l_33, l_34, l_35, l_36, l_37, l_38, l_39, l_40, l_41, l_42, l_43, l_44, l_45, l_46, l_47, l_48, l_49, l_50, l_51, l_52, l_53, l_54, l_55, l_56, l_57, l_58, l_59, l_60, l_61, l_62, l_63, l_64, l_65, l_66, l_67, l_68, l_69, l_70, l_71, l_72, l_73, l_74, l_75, l_76, l_77, l_78, l_79, l_80, l_81, l_82, l_83, l_84, l_85, l_86, l_87, l_88, l_89, l_90, l_91, l_92, l_93, l_94, l_95, l_96, l_97, l_98, l_99, l_100, l_101, l_102, l_103, l_104, l_105, l_106, l_107, l_108, l_109, l_110, l_111, l_121, l_122, l_160, l_200, l_201, l_240, l_255, l_361, l_390, l_499, l_500, l_999, l_1000, l_10000, l_10099, l_12345, l_16383, l_20000, l_20033, l_20038, l_20124, l_100000, l_1000000, l_1103515245, ui_oi, ck_oi, sb, jc_e, bl_0, bl_1, le_oi, lt_oi, eq_oi, add_oi, mul_oi, div_oi, ir_oi, gi_e, gi_n, if_true, if_false, if_pos, if_neg, true_and, and_true, false_and, and_false, true_or, or_true, false_or, or_false, hI.1.g, hsh, y1, y5]
    · have hT : zSum (zG1 d (zAmn (2 ^ d 6 - 1) (2 ^ j))) 500 = 0 := Classical.byContradiction (fun q => hb (hex.mpr q))
      rw [hT] at y5
      obtain ⟨X', x1, x2, x3, x4⟩ := ih (j + 1) fu' N' (by omega) (by omega) y2 (fun i hi => by
        by_cases hij : i = j
        · rw [hij]
          omega
        · exact hz i (by omega))
      refine ⟨X', ?_, x2, y3.tr x3, fun n q => x4 n (y4 n q)⟩
      rw [F_X12_liar_L17]
      simp (disch := omega) only [l_0, l_1, l_2, l_3, l_4, l_5, l_6, l_7, l_8, l_9, l_10, l_11, l_12, l_13, l_14, l_15, l_16, l_17, l_18, l_19, l_20, l_21, l_22, l_23, l_24, l_25, l_26, l_27, l_28, l_29, l_30, l_31, l_32, l_33, l_34, l_35, l_36, l_37, l_38, l_39, l_40, l_41, l_42, l_43, l_44, l_45, l_46, l_47, l_48, l_49, l_50, l_51, l_52, l_53, l_54, l_55, l_56, l_57, l_58, l_59, l_60, l_61, l_62, l_63, l_64, l_65, l_66, l_67, l_68, l_69, l_70, l_71, l_72, l_73, l_74, l_75, l_76, l_77, l_78, l_79, l_80, l_81, l_82, l_83, l_84, l_85, l_86, l_87, l_88, l_89, l_90, l_91, l_92, l_93, l_94, l_95, l_96, l_97, l_98, l_99, l_100, l_101, l_102, l_103, l_104, l_105, l_106, l_107, l_108, l_109, l_110, l_111, l_121, l_122, l_160, l_200, l_201, l_240, l_255, l_361, l_390, l_499, l_500, l_999, l_1000, l_10000, l_10099, l_12345, l_16383, l_20000, l_20033, l_20038, l_20124, l_100000, l_1000000, l_1103515245, ui_oi, ck_oi, sb, jc_e, bl_0, bl_1, le_oi, lt_oi, eq_oi, add_oi, mul_oi, div_oi, ir_oi, gi_e, gi_n, if_true, if_false, if_pos, if_neg, true_and, and_true, false_and, and_false, true_or, or_true, false_or, or_false, hI.1.g, hsh, y1, y5, x1]
theorem q_liar : Cl (pu fun M => F_X11_liar M) (fun M => F_X12_liar M) := by
  refine Cl.vs (fun M N d c hI => ?_)
  obtain ⟨hV, hF, h3, h4, hRI, hW, hA⟩ := id hI
  unfold pu
  try dsimp only
  unfold F_X11_liar F_X12_liar
  obtain ⟨N1, y1, y2, y3, y4, y5, y6⟩ := r_findLone hRI hW (b := 0) (by omega)
  have hle := zG1_le (d := d) (u := zAmn (2 ^ d 6 - 1) 0)
  obtain ⟨res, r1, r2⟩ := w_liar hV hW 500 0 1000 0 (by omega) (by omega) (fun i hi => by omega) ⟨Nat.pow_pos (by omega), fun r hr => ⟨fun q => by rw [Nat.zero_div] at q; omega, fun ⟨q, q1, q2⟩ => by omega⟩⟩
  rcases r2 with ⟨⟨q, q1, q2⟩, rfl⟩ | ⟨q1, a, a1, rfl⟩
  · have hT := ex_sum.mp ⟨q, q1, (den_0 hW).mp q2⟩
    refine ⟨- oi 3, M, N1, d, c, ?_, ?_, ⟨hV, hF, h3, h4, y2, hW, y4 0 hA⟩, fun _ _ _ => rfl, fun _ _ => rfl, y3.1, y3.2⟩
    · simp (disch := omega) only [l_0, l_1, l_2, l_3, l_4, l_5, l_6, l_7, l_8, l_9, l_10, l_11, l_12, l_13, l_14, l_15, l_16, l_17, l_18, l_19, l_20, l_21, l_22, l_23, l_24, l_25, l_26, l_27, l_28, l_29, l_30, l_31, l_32, l_33, l_34, l_35, l_36, l_37, l_38, l_39, l_40, l_41, l_42, l_43, l_44, l_45, l_46, l_47, l_48, l_49, l_50, l_51, l_52, l_53, l_54, l_55, l_56, l_57, l_58, l_59, l_60, l_61, l_62, l_63, l_64, l_65, l_66, l_67, l_68, l_69, l_70, l_71, l_72, l_73, l_74, l_75, l_76, l_77, l_78, l_79, l_80, l_81, l_82, l_83, l_84, l_85, l_86, l_87, l_88, l_89, l_90, l_91, l_92, l_93, l_94, l_95, l_96, l_97, l_98, l_99, l_100, l_101, l_102, l_103, l_104, l_105, l_106, l_107, l_108, l_109, l_110, l_111, l_121, l_122, l_160, l_200, l_201, l_240, l_255, l_361, l_390, l_499, l_500, l_999, l_1000, l_10000, l_10099, l_12345, l_16383, l_20000, l_20033, l_20038, l_20124, l_100000, l_1000000, l_1103515245, ui_oi, ck_oi, sb, jc_e, bl_0, bl_1, le_oi, lt_oi, eq_oi, add_oi, mul_oi, div_oi, ir_oi, gi_e, gi_n, if_true, if_false, if_pos, if_neg, true_and, and_true, false_and, and_false, true_or, or_true, false_or, or_false, m_0, m_1, m_2, m_3, m_4, m_5, m_8, m_9, m_10, m_14, m_15, m_16, m_20, m_40, m_99, m_999, m_neg, in_within, r1]
      rfl
    · simp (disch := omega) only [l_0, l_1, l_2, l_3, l_4, l_5, l_6, l_7, l_8, l_9, l_10, l_11, l_12, l_13, l_14, l_15, l_16, l_17, l_18, l_19, l_20, l_21, l_22, l_23, l_24, l_25, l_26, l_27, l_28, l_29, l_30, l_31, l_32, l_33, l_34, l_35, l_36, l_37, l_38, l_39, l_40, l_41, l_42, l_43, l_44, l_45, l_46, l_47, l_48, l_49, l_50, l_51, l_52, l_53, l_54, l_55, l_56, l_57, l_58, l_59, l_60, l_61, l_62, l_63, l_64, l_65, l_66, l_67, l_68, l_69, l_70, l_71, l_72, l_73, l_74, l_75, l_76, l_77, l_78, l_79, l_80, l_81, l_82, l_83, l_84, l_85, l_86, l_87, l_88, l_89, l_90, l_91, l_92, l_93, l_94, l_95, l_96, l_97, l_98, l_99, l_100, l_101, l_102, l_103, l_104, l_105, l_106, l_107, l_108, l_109, l_110, l_111, l_121, l_122, l_160, l_200, l_201, l_240, l_255, l_361, l_390, l_499, l_500, l_999, l_1000, l_10000, l_10099, l_12345, l_16383, l_20000, l_20033, l_20038, l_20124, l_100000, l_1000000, l_1103515245, ui_oi, ck_oi, sb, jc_e, bl_0, bl_1, le_oi, lt_oi, eq_oi, add_oi, mul_oi, div_oi, ir_oi, gi_e, gi_n, if_true, if_false, if_pos, if_neg, true_and, and_true, false_and, and_false, true_or, or_true, false_or, or_false, m_0, m_1, m_2, m_3, m_4, m_5, m_8, m_9, m_10, m_14, m_15, m_16, m_20, m_40, m_99, m_999, m_neg, in_within, y1, y5]
  · have hT : zSum (zG1 d (zAmn (2 ^ d 6 - 1) 0)) 500 = 0 := Classical.byContradiction (fun q => by
      obtain ⟨p, p1, p2⟩ := ex_sum.mpr q
      exact q1 p p1 ((den_0 hW).mpr p2))
    rw [hT] at y5
    obtain ⟨N2, x1, x2, x3, x4⟩ := w_liarR (c := c) hW a1 q1 (d 6) 0 1000 N1 (by omega) (by have := hW.2.2.2.2.1; omega) y2 (fun i hi => by omega)
    refine ⟨if a = 0 then - oi 3 else oi (zTz a), M, N2, d, c, ?_, ?_, ⟨hV, hF, h3, h4, x2, hW, x4 0 (y4 0 hA)⟩, fun _ _ _ => rfl, fun _ _ => rfl, (y3.tr x3).1, (y3.tr x3).2⟩
    · rw [l_0, r1]
      rfl
    · rw [l_0, y1, sb, y5, if_pos (Int32.le_refl (oi 0)), x1]
end LS

/-! LONE BARRELS: the reference's way, and both -/
section LQ
variable {M N M' N' N1 : Mm} {d e : Nat → Nat} {c : Cnd} {g h : Nat → Bool} {n i j p t x y : Nat}
/-- the mask of what fits of the tides before t, and of the first j reports at t -/
def zGj (d : Nat → Nat) (p t j r : Nat) : Bool := (decide (d (65 + 4 * r) < t) || (decide (d (65 + 4 * r) = t) && decide (r < j))) && zFt d p r
theorem zGj_s {k12 : Int32 → Int32 → Int32 → Int32 → Option Int32} (hR : RR N d) (hW : WF d) (hp : p < 500) (ht : t < 16) : ∀ m j fu, j + m = d 6 → m < fu → F_X12_fitting_L22 k12 N (oi (1 + p / 100)) (oi (p / 10 % 10)) (oi (zSF d p t)) (oi (zSC d p t)) (oi t) fu (oi (zMk (zGj d p t j) (d 6))) (oi j) = k12 (oi (zMk (zGj d p (t + 1) 0) (d 6))) (oi (zSF d p (t + 1))) (oi (zSC d p (t + 1))) (oi (t + 1)) := by
  obtain ⟨h0, h1, h2, h5, h6, hb, hw⟩ := id hW
  intro m
  induction m with
  | zero =>
    intro j fu hj hf
    obtain ⟨fu', rfl⟩ : ∃ q, fu = q + 1 := ⟨fu - 1, by omega⟩
    have hsf := zSF_le (d := d) (p := p) t
    have hsc := zSC_le (d := d) (p := p) t
    have hwt : d (7 + t) ≤ 15 := hw.1 t ht
    have hzw : zW d t = d (7 + t) := if_pos ht
    have hlk := r_lb (kd := 1 + p / 100) (ri := d (7 + t) / 4) (sa := d (7 + t) % 4) (t := t) (by omega) (by omega) (by omega) (by omega)
    have hlf := r_fb (kd := 1 + p / 100) (fi := zSF d p t) (ch := p / 10 % 10) (nu := 0) (by omega) hsf (by omega) (by omega)
    have hfl := zFb_le (kd := 1 + p / 100) (fi := zSF d p t) (ch := p / 10 % 10) (nu := 0) (by omega)
    have hll := zLb_le (kd := 1 + p / 100) (ri := d (7 + t) / 4) (sa := d (7 + t) % 4) (t := t) (by omega) (by omega) (by omega)
    have hmin : min (zSF d p t - zLb (1 + p / 100) (d (7 + t) / 4) (d (7 + t) % 4) t) 99 = zSF d p t - zLb (1 + p / 100) (d (7 + t) / 4) (d (7 + t) % 4) t := by omega
    have hmk : zMk (zGj d p t j) (d 6) = zMk (zGj d p (t + 1) 0) (d 6) := zMk_congr (d 6) (fun r hr => by
      unfold zGj
      by_cases q1 : d (65 + 4 * r) < t
      · rw [decide_eq_true q1, decide_eq_true (show d (65 + 4 * r) < t + 1 by omega)]
        simp
      · by_cases q2 : d (65 + 4 * r) = t
        · rw [decide_eq_false q1, decide_eq_true q2, decide_eq_true (show d (65 + 4 * r) < t + 1 by omega), decide_eq_true (show r < j by omega)]
          simp
        · rw [decide_eq_false q1, decide_eq_false q2, decide_eq_false (show ¬ d (65 + 4 * r) < t + 1 by omega), decide_eq_false (show ¬ r < 0 by omega)]
          simp)
    rw [F_X12_fitting_L22, hmk, zSF, zSC, hzw]
    by_cases hz : 0 < zSF d p t
    · by_cases h4 : zFb (1 + p / 100) (zSF d p t) (p / 10 % 10) 0 + d (7 + t) / 4 ≤ 4
      · simp only [show (0 < zSF d p t ∧ zFb (1 + p / 100) (zSF d p t) (p / 10 % 10) 0 + d (7 + t) / 4 ≤ 4) = True from eq_true ⟨hz, h4⟩, if_true]
        simp (disch := omega) only [l_0, l_1, l_2, l_3, l_4, l_5, l_6, l_7, l_8, l_9, l_10, l_11, l_12, l_13, l_14, l_15, l_16, l_17, l_18, l_19, l_20, l_21, l_22, l_23, l_24, l_25, l_26, l_27, l_28, l_29, l_30, l_31, l_32, l_33, l_34, l_35, l_36, l_37, l_38, l_39, l_40, l_41, l_42, l_43, l_44, l_45, l_46, l_47, l_48, l_49, l_50, l_51, l_52, l_53, l_54, l_55, l_56, l_57, l_58, l_59, l_60, l_61, l_62, l_63, l_64, l_65, l_66, l_67, l_68, l_69, l_70, l_71, l_72, l_73, l_74, l_75, l_76, l_77, l_78, l_79, l_80, l_81, l_82, l_83, l_84, l_85, l_86, l_87, l_88, l_89, l_90, l_91, l_92, l_93, l_94, l_95, l_96, l_97, l_98, l_99, l_100, l_101, l_102, l_103, l_104, l_105, l_106, l_107, l_108, l_109, l_110, l_111, l_121, l_122, l_160, l_200, l_201, l_240, l_255, l_361, l_390, l_499, l_500, l_999, l_1000, l_10000, l_10099, l_12345, l_16383, l_20000, l_20033, l_20038, l_20124, l_100000, l_1000000, l_1103515245, ui_oi, ck_oi, sb, jc_e, bl_0, bl_1, le_oi, lt_oi, eq_oi, add_oi, mul_oi, div_oi, ir_oi, gi_e, gi_n, if_true, if_false, if_pos, if_neg, true_and, and_true, false_and, and_false, true_or, or_true, false_or, or_false, hR.g, hlk, hlf, r_helds, hmin]
      · simp only [show (0 < zSF d p t ∧ zFb (1 + p / 100) (zSF d p t) (p / 10 % 10) 0 + d (7 + t) / 4 ≤ 4) = False from eq_false (fun q => h4 q.2), if_false]
        simp (disch := omega) only [l_0, l_1, l_2, l_3, l_4, l_5, l_6, l_7, l_8, l_9, l_10, l_11, l_12, l_13, l_14, l_15, l_16, l_17, l_18, l_19, l_20, l_21, l_22, l_23, l_24, l_25, l_26, l_27, l_28, l_29, l_30, l_31, l_32, l_33, l_34, l_35, l_36, l_37, l_38, l_39, l_40, l_41, l_42, l_43, l_44, l_45, l_46, l_47, l_48, l_49, l_50, l_51, l_52, l_53, l_54, l_55, l_56, l_57, l_58, l_59, l_60, l_61, l_62, l_63, l_64, l_65, l_66, l_67, l_68, l_69, l_70, l_71, l_72, l_73, l_74, l_75, l_76, l_77, l_78, l_79, l_80, l_81, l_82, l_83, l_84, l_85, l_86, l_87, l_88, l_89, l_90, l_91, l_92, l_93, l_94, l_95, l_96, l_97, l_98, l_99, l_100, l_101, l_102, l_103, l_104, l_105, l_106, l_107, l_108, l_109, l_110, l_111, l_121, l_122, l_160, l_200, l_201, l_240, l_255, l_361, l_390, l_499, l_500, l_999, l_1000, l_10000, l_10099, l_12345, l_16383, l_20000, l_20033, l_20038, l_20124, l_100000, l_1000000, l_1103515245, ui_oi, ck_oi, sb, jc_e, bl_0, bl_1, le_oi, lt_oi, eq_oi, add_oi, mul_oi, div_oi, ir_oi, gi_e, gi_n, if_true, if_false, if_pos, if_neg, true_and, and_true, false_and, and_false, true_or, or_true, false_or, or_false, hR.g, hlk, hlf, r_helds, hmin, Nat.add_zero]
    · simp only [show (0 < zSF d p t ∧ zFb (1 + p / 100) (zSF d p t) (p / 10 % 10) 0 + d (7 + t) / 4 ≤ 4) = False from eq_false (fun q => hz q.1), if_false]
      simp (disch := omega) only [l_0, l_1, l_2, l_3, l_4, l_5, l_6, l_7, l_8, l_9, l_10, l_11, l_12, l_13, l_14, l_15, l_16, l_17, l_18, l_19, l_20, l_21, l_22, l_23, l_24, l_25, l_26, l_27, l_28, l_29, l_30, l_31, l_32, l_33, l_34, l_35, l_36, l_37, l_38, l_39, l_40, l_41, l_42, l_43, l_44, l_45, l_46, l_47, l_48, l_49, l_50, l_51, l_52, l_53, l_54, l_55, l_56, l_57, l_58, l_59, l_60, l_61, l_62, l_63, l_64, l_65, l_66, l_67, l_68, l_69, l_70, l_71, l_72, l_73, l_74, l_75, l_76, l_77, l_78, l_79, l_80, l_81, l_82, l_83, l_84, l_85, l_86, l_87, l_88, l_89, l_90, l_91, l_92, l_93, l_94, l_95, l_96, l_97, l_98, l_99, l_100, l_101, l_102, l_103, l_104, l_105, l_106, l_107, l_108, l_109, l_110, l_111, l_121, l_122, l_160, l_200, l_201, l_240, l_255, l_361, l_390, l_499, l_500, l_999, l_1000, l_10000, l_10099, l_12345, l_16383, l_20000, l_20033, l_20038, l_20124, l_100000, l_1000000, l_1103515245, ui_oi, ck_oi, sb, jc_e, bl_0, bl_1, le_oi, lt_oi, eq_oi, add_oi, mul_oi, div_oi, ir_oi, gi_e, gi_n, if_true, if_false, if_pos, if_neg, true_and, and_true, false_and, and_false, true_or, or_true, false_or, or_false, hR.g, hlk, r_helds, hmin, Nat.add_zero]
  | succ m ih =>
    intro j fu hj hf
    obtain ⟨fu', rfl⟩ : ∃ q, fu = q + 1 := ⟨fu - 1, by omega⟩
    obtain ⟨w1, w2, w3, w4⟩ := hw.2.2.1 j (by omega)
    have hsf := zSF_le (d := d) (p := p) t
    have hsc := zSC_le (d := d) (p := p) t
    have h64 := zMk_64 (g := zGj d p t j) h6
    have hor : oi (zMk (zGj d p t j) (d 6)) ||| (oi 1 <<< (oi j &&& oi 31)) = oi (zMk (fun r => zGj d p t j r || decide (r = j)) (d 6)) := by
      rw [shb_all j (by omega), oor_all _ h64 _ (p6_lt j (by omega)), zMk_one h6 (by omega)]
    have hor0 : oi (zMk (zGj d p t j) (d 6)) ||| oi 0 = oi (zMk (zGj d p t j) (d 6)) := by
      rw [oor_all _ h64 0 (by omega), Nat.or_zero]
    have hih := ih (j + 1) fu' (by omega) (by omega)
    have hno : (d (65 + 4 * j) ≠ t ∨ zFt d p j = false) → zMk (zGj d p t (j + 1)) (d 6) = zMk (zGj d p t j) (d 6) := fun q => zMk_congr (d 6) (fun r hr => by
      unfold zGj
      by_cases hrj : r = j
      · subst hrj
        rcases q with q | q
        · rw [decide_eq_false q]
          simp
        · rw [q]
          simp
      · rw [show decide (r < j + 1) = decide (r < j) from decide_eq_decide.mpr (by omega)])
    have hyes : d (65 + 4 * j) = t → zFt d p j = true → zMk (zGj d p t (j + 1)) (d 6) = zMk (fun r => zGj d p t j r || decide (r = j)) (d 6) := fun q1 q2 => zMk_congr (d 6) (fun r hr => by
      try dsimp only
      unfold zGj
      by_cases hrj : r = j
      · subst hrj
        rw [q1, q2]
        simp
      · rw [show decide (r < j + 1) = decide (r < j) from decide_eq_decide.mpr (by omega), decide_eq_false hrj, Bool.or_false])
    have e1 : 65 + 4 * j + 1 = 66 + 4 * j := by omega
    have e2 : 65 + 4 * j + 2 = 67 + 4 * j := by omega
    have e3 : 65 + 4 * j + 3 = 68 + 4 * j := by omega
    rw [F_X12_fitting_L22]
    by_cases ha : d (65 + 4 * j) = t
    · have hft : zFt d p j = zVr d (zSF d p t) (zSC d p t) j := by unfold zFt; rw [ha]
      have key : ∀ v, v ≤ 99 → (v = if d (66 + 4 * j) = 0 then zSF d p t else zSC d p t) → F_X11_within (oi v) (oi (d (67 + 4 * j))) (oi (d (68 + 4 * j))) = some (oi (if zFt d p j = true then 1 else 0)) := fun v hv he => by
        have : zFt d p j = decide (d (67 + 4 * j) ≤ v ∧ v ≤ d (68 + 4 * j)) := by rw [hft, he]; rfl
        unfold F_X11_within
        by_cases hl : d (67 + 4 * j) ≤ v
        · by_cases hh : v ≤ d (68 + 4 * j)
          · rw [this, decide_eq_true ⟨hl, hh⟩]
            simp (disch := omega) only [l_0, l_1, l_2, l_3, l_4, l_5, l_6, l_7, l_8, l_9, l_10, l_11, l_12, l_13, l_14, l_15, l_16, l_17, l_18, l_19, l_20, l_21, l_22, l_23, l_24, l_25, l_26, l_27, l_28, l_29, l_30, l_31, l_32, l_33, l_34, l_35, l_36, l_37, l_38, l_39, l_40, l_41, l_42, l_43, l_44, l_45, l_46, l_47, l_48, l_49, l_50, l_51, l_52, l_53, l_54, l_55, l_56, l_57, l_58, l_59, l_60, l_61, l_62, l_63, l_64, l_65, l_66, l_67, l_68, l_69, l_70, l_71, l_72, l_73, l_74, l_75, l_76, l_77, l_78, l_79, l_80, l_81, l_82, l_83, l_84, l_85, l_86, l_87, l_88, l_89, l_90, l_91, l_92, l_93, l_94, l_95, l_96, l_97, l_98, l_99, l_100, l_101, l_102, l_103, l_104, l_105, l_106, l_107, l_108, l_109, l_110, l_111, l_121, l_122, l_160, l_200, l_201, l_240, l_255, l_361, l_390, l_499, l_500, l_999, l_1000, l_10000, l_10099, l_12345, l_16383, l_20000, l_20033, l_20038, l_20124, l_100000, l_1000000, l_1103515245, ui_oi, ck_oi, sb, jc_e, bl_0, bl_1, le_oi, lt_oi, eq_oi, add_oi, mul_oi, div_oi, ir_oi, gi_e, gi_n, if_true, if_false, if_pos, if_neg, true_and, and_true, false_and, and_false, true_or, or_true, false_or, or_false, ]
          · rw [this, decide_eq_false (fun q => hh q.2)]
            simp (disch := omega) only [l_0, l_1, l_2, l_3, l_4, l_5, l_6, l_7, l_8, l_9, l_10, l_11, l_12, l_13, l_14, l_15, l_16, l_17, l_18, l_19, l_20, l_21, l_22, l_23, l_24, l_25, l_26, l_27, l_28, l_29, l_30, l_31, l_32, l_33, l_34, l_35, l_36, l_37, l_38, l_39, l_40, l_41, l_42, l_43, l_44, l_45, l_46, l_47, l_48, l_49, l_50, l_51, l_52, l_53, l_54, l_55, l_56, l_57, l_58, l_59, l_60, l_61, l_62, l_63, l_64, l_65, l_66, l_67, l_68, l_69, l_70, l_71, l_72, l_73, l_74, l_75, l_76, l_77, l_78, l_79, l_80, l_81, l_82, l_83, l_84, l_85, l_86, l_87, l_88, l_89, l_90, l_91, l_92, l_93, l_94, l_95, l_96, l_97, l_98, l_99, l_100, l_101, l_102, l_103, l_104, l_105, l_106, l_107, l_108, l_109, l_110, l_111, l_121, l_122, l_160, l_200, l_201, l_240, l_255, l_361, l_390, l_499, l_500, l_999, l_1000, l_10000, l_10099, l_12345, l_16383, l_20000, l_20033, l_20038, l_20124, l_100000, l_1000000, l_1103515245, ui_oi, ck_oi, sb, jc_e, bl_0, bl_1, le_oi, lt_oi, eq_oi, add_oi, mul_oi, div_oi, ir_oi, gi_e, gi_n, if_true, if_false, if_pos, if_neg, true_and, and_true, false_and, and_false, true_or, or_true, false_or, or_false, Bool.false_eq_true]
        · rw [this, decide_eq_false (fun q => hl q.1)]
          simp (disch := omega) only [l_0, l_1, l_2, l_3, l_4, l_5, l_6, l_7, l_8, l_9, l_10, l_11, l_12, l_13, l_14, l_15, l_16, l_17, l_18, l_19, l_20, l_21, l_22, l_23, l_24, l_25, l_26, l_27, l_28, l_29, l_30, l_31, l_32, l_33, l_34, l_35, l_36, l_37, l_38, l_39, l_40, l_41, l_42, l_43, l_44, l_45, l_46, l_47, l_48, l_49, l_50, l_51, l_52, l_53, l_54, l_55, l_56, l_57, l_58, l_59, l_60, l_61, l_62, l_63, l_64, l_65, l_66, l_67, l_68, l_69, l_70, l_71, l_72, l_73, l_74, l_75, l_76, l_77, l_78, l_79, l_80, l_81, l_82, l_83, l_84, l_85, l_86, l_87, l_88, l_89, l_90, l_91, l_92, l_93, l_94, l_95, l_96, l_97, l_98, l_99, l_100, l_101, l_102, l_103, l_104, l_105, l_106, l_107, l_108, l_109, l_110, l_111, l_121, l_122, l_160, l_200, l_201, l_240, l_255, l_361, l_390, l_499, l_500, l_999, l_1000, l_10000, l_10099, l_12345, l_16383, l_20000, l_20033, l_20038, l_20124, l_100000, l_1000000, l_1103515245, ui_oi, ck_oi, sb, jc_e, bl_0, bl_1, le_oi, lt_oi, eq_oi, add_oi, mul_oi, div_oi, ir_oi, gi_e, gi_n, if_true, if_false, if_pos, if_neg, true_and, and_true, false_and, and_false, true_or, or_true, false_or, or_false, Bool.false_eq_true]
      have hres : ∀ b : Bool, zFt d p j = b → F_X12_fitting_L22 k12 N (oi (1 + p / 100)) (oi (p / 10 % 10)) (oi (zSF d p t)) (oi (zSC d p t)) (oi t) fu' (oi (zMk (zGj d p t j) (d 6)) ||| (if b = true then (oi 1 <<< (oi j &&& oi 31)) else oi 0)) (oi (j + 1)) = k12 (oi (zMk (zGj d p (t + 1) 0) (d 6))) (oi (zSF d p (t + 1))) (oi (zSC d p (t + 1))) (oi (t + 1)) := fun b hb => by
        cases b with
        | true => rw [if_pos rfl, hor, ← hyes ha hb]; exact hih
        | false => rw [if_neg (by decide), hor0, ← hno (Or.inr hb)]; exact hih
      by_cases hk : d (66 + 4 * j) = 0
      · have hkk := key (zSF d p t) hsf (by rw [if_pos hk])
        cases hb : zFt d p j with
        | true =>
          rw [hb, if_pos rfl] at hkk
          have hr := hres true hb
          rw [if_pos rfl] at hr
          simp (disch := omega) only [l_0, l_1, l_2, l_3, l_4, l_5, l_6, l_7, l_8, l_9, l_10, l_11, l_12, l_13, l_14, l_15, l_16, l_17, l_18, l_19, l_20, l_21, l_22, l_23, l_24, l_25, l_26, l_27, l_28, l_29, l_30, l_31, l_32, l_33, l_34, l_35, l_36, l_37, l_38, l_39, l_40, l_41, l_42, l_43, l_44, l_45, l_46, l_47, l_48, l_49, l_50, l_51, l_52, l_53, l_54, l_55, l_56, l_57, l_58, l_59, l_60, l_61, l_62, l_63, l_64, l_65, l_66, l_67, l_68, l_69, l_70, l_71, l_72, l_73, l_74, l_75, l_76, l_77, l_78, l_79, l_80, l_81, l_82, l_83, l_84, l_85, l_86, l_87, l_88, l_89, l_90, l_91, l_92, l_93, l_94, l_95, l_96, l_97, l_98, l_99, l_100, l_101, l_102, l_103, l_104, l_105, l_106, l_107, l_108, l_109, l_110, l_111, l_121, l_122, l_160, l_200, l_201, l_240, l_255, l_361, l_390, l_499, l_500, l_999, l_1000, l_10000, l_10099, l_12345, l_16383, l_20000, l_20033, l_20038, l_20124, l_100000, l_1000000, l_1103515245, ui_oi, ck_oi, sb, jc_e, bl_0, bl_1, le_oi, lt_oi, eq_oi, add_oi, mul_oi, div_oi, ir_oi, gi_e, gi_n, if_true, if_false, if_pos, if_neg, true_and, and_true, false_and, and_false, true_or, or_true, false_or, or_false, hR.g, e1, e2, e3, in_within, hkk, hr]
        | false =>
          rw [hb, if_neg (by decide)] at hkk
          have hr := hres false hb
          rw [if_neg (by decide)] at hr
          simp (disch := omega) only [l_0, l_1, l_2, l_3, l_4, l_5, l_6, l_7, l_8, l_9, l_10, l_11, l_12, l_13, l_14, l_15, l_16, l_17, l_18, l_19, l_20, l_21, l_22, l_23, l_24, l_25, l_26, l_27, l_28, l_29, l_30, l_31, l_32, l_33, l_34, l_35, l_36, l_37, l_38, l_39, l_40, l_41, l_42, l_43, l_44, l_45, l_46, l_47, l_48, l_49, l_50, l_51, l_52, l_53, l_54, l_55, l_56, l_57, l_58, l_59, l_60, l_61, l_62, l_63, l_64, l_65, l_66, l_67, l_68, l_69, l_70, l_71, l_72, l_73, l_74, l_75, l_76, l_77, l_78, l_79, l_80, l_81, l_82, l_83, l_84, l_85, l_86, l_87, l_88, l_89, l_90, l_91, l_92, l_93, l_94, l_95, l_96, l_97, l_98, l_99, l_100, l_101, l_102, l_103, l_104, l_105, l_106, l_107, l_108, l_109, l_110, l_111, l_121, l_122, l_160, l_200, l_201, l_240, l_255, l_361, l_390, l_499, l_500, l_999, l_1000, l_10000, l_10099, l_12345, l_16383, l_20000, l_20033, l_20038, l_20124, l_100000, l_1000000, l_1103515245, ui_oi, ck_oi, sb, jc_e, bl_0, bl_1, le_oi, lt_oi, eq_oi, add_oi, mul_oi, div_oi, ir_oi, gi_e, gi_n, if_true, if_false, if_pos, if_neg, true_and, and_true, false_and, and_false, true_or, or_true, false_or, or_false, hR.g, e1, e2, e3, in_within, hkk, hr]
      · have hkk := key (zSC d p t) (by omega) (by rw [if_neg hk])
        cases hb : zFt d p j with
        | true =>
          rw [hb, if_pos rfl] at hkk
          have hr := hres true hb
          rw [if_pos rfl] at hr
          simp (disch := omega) only [l_0, l_1, l_2, l_3, l_4, l_5, l_6, l_7, l_8, l_9, l_10, l_11, l_12, l_13, l_14, l_15, l_16, l_17, l_18, l_19, l_20, l_21, l_22, l_23, l_24, l_25, l_26, l_27, l_28, l_29, l_30, l_31, l_32, l_33, l_34, l_35, l_36, l_37, l_38, l_39, l_40, l_41, l_42, l_43, l_44, l_45, l_46, l_47, l_48, l_49, l_50, l_51, l_52, l_53, l_54, l_55, l_56, l_57, l_58, l_59, l_60, l_61, l_62, l_63, l_64, l_65, l_66, l_67, l_68, l_69, l_70, l_71, l_72, l_73, l_74, l_75, l_76, l_77, l_78, l_79, l_80, l_81, l_82, l_83, l_84, l_85, l_86, l_87, l_88, l_89, l_90, l_91, l_92, l_93, l_94, l_95, l_96, l_97, l_98, l_99, l_100, l_101, l_102, l_103, l_104, l_105, l_106, l_107, l_108, l_109, l_110, l_111, l_121, l_122, l_160, l_200, l_201, l_240, l_255, l_361, l_390, l_499, l_500, l_999, l_1000, l_10000, l_10099, l_12345, l_16383, l_20000, l_20033, l_20038, l_20124, l_100000, l_1000000, l_1103515245, ui_oi, ck_oi, sb, jc_e, bl_0, bl_1, le_oi, lt_oi, eq_oi, add_oi, mul_oi, div_oi, ir_oi, gi_e, gi_n, if_true, if_false, if_pos, if_neg, true_and, and_true, false_and, and_false, true_or, or_true, false_or, or_false, hR.g, e1, e2, e3, in_within, hkk, hr]
        | false =>
          rw [hb, if_neg (by decide)] at hkk
          have hr := hres false hb
          rw [if_neg (by decide)] at hr
          simp (disch := omega) only [l_0, l_1, l_2, l_3, l_4, l_5, l_6, l_7, l_8, l_9, l_10, l_11, l_12, l_13, l_14, l_15, l_16, l_17, l_18, l_19, l_20, l_21, l_22, l_23, l_24, l_25, l_26, l_27, l_28, l_29, l_30, l_31, l_32, l_33, l_34, l_35, l_36, l_37, l_38, l_39, l_40, l_41, l_42, l_43, l_44, l_45, l_46, l_47, l_48, l_49, l_50, l_51, l_52, l_53, l_54, l_55, l_56, l_57, l_58, l_59, l_60, l_61, l_62, l_63, l_64, l_65, l_66, l_67, l_68, l_69, l_70, l_71, l_72, l_73, l_74, l_75, l_76, l_77, l_78, l_79, l_80, l_81, l_82, l_83, l_84, l_85, l_86, l_87, l_88, l_89, l_90, l_91, l_92, l_93, l_94, l_95, l_96, l_97, l_98, l_99, l_100, l_101, l_102, l_103, l_104, l_105, l_106, l_107, l_108, l_109, l_110, l_111, l_121, l_122, l_160, l_200, l_201, l_240, l_255, l_361, l_390, l_499, l_500, l_999, l_1000, l_10000, l_10099, l_12345, l_16383, l_20000, l_20033, l_20038, l_20124, l_100000, l_1000000, l_1103515245, ui_oi, ck_oi, sb, jc_e, bl_0, bl_1, le_oi, lt_oi, eq_oi, add_oi, mul_oi, div_oi, ir_oi, gi_e, gi_n, if_true, if_false, if_pos, if_neg, true_and, and_true, false_and, and_false, true_or, or_true, false_or, or_false, hR.g, e1, e2, e3, in_within, hkk, hr]
    · rw [hno (Or.inl ha)] at hih
      by_cases hk : d (66 + 4 * j) = 0
      · simp (disch := omega) only [l_0, l_1, l_2, l_3, l_4, l_5, l_6, l_7, l_8, l_9, l_10, l_11, l_12, l_13, l_14, l_15, l_16, l_17, l_18, l_19, l_20, l_21, l_22, l_23, l_24, l_25, l_26, l_27, l_28, l_29, l_30, l_31, l_32, l_33, l_34, l_35, l_36, l_37, l_38, l_39, l_40, l_41, l_42, l_43, l_44, l_45, l_46, l_47, l_48, l_49, l_50, l_51, l_52, l_53, l_54, l_55, l_56, l_57, l_58, l_59, l_60, l_61, l_62, l_63, l_64, l_65, l_66, l_67, l_68, l_69, l_70, l_71, l_72, l_73, l_74, l_75, l_76, l_77, l_78, l_79, l_80, l_81, l_82, l_83, l_84, l_85, l_86, l_87, l_88, l_89, l_90, l_91, l_92, l_93, l_94, l_95, l_96, l_97, l_98, l_99, l_100, l_101, l_102, l_103, l_104, l_105, l_106, l_107, l_108, l_109, l_110, l_111, l_121, l_122, l_160, l_200, l_201, l_240, l_255, l_361, l_390, l_499, l_500, l_999, l_1000, l_10000, l_10099, l_12345, l_16383, l_20000, l_20033, l_20038, l_20124, l_100000, l_1000000, l_1103515245, ui_oi, ck_oi, sb, jc_e, bl_0, bl_1, le_oi, lt_oi, eq_oi, add_oi, mul_oi, div_oi, ir_oi, gi_e, gi_n, if_true, if_false, if_pos, if_neg, true_and, and_true, false_and, and_false, true_or, or_true, false_or, or_false, hR.g, e1, e2, e3, hor0, hih]
      · simp (disch := omega) only [l_0, l_1, l_2, l_3, l_4, l_5, l_6, l_7, l_8, l_9, l_10, l_11, l_12, l_13, l_14, l_15, l_16, l_17, l_18, l_19, l_20, l_21, l_22, l_23, l_24, l_25, l_26, l_27, l_28, l_29, l_30, l_31, l_32, l_33, l_34, l_35, l_36, l_37, l_38, l_39, l_40, l_41, l_42, l_43, l_44, l_45, l_46, l_47, l_48, l_49, l_50, l_51, l_52, l_53, l_54, l_55, l_56, l_57, l_58, l_59, l_60, l_61, l_62, l_63, l_64, l_65, l_66, l_67, l_68, l_69, l_70, l_71, l_72, l_73, l_74, l_75, l_76, l_77, l_78, l_79, l_80, l_81, l_82, l_83, l_84, l_85, l_86, l_87, l_88, l_89, l_90, l_91, l_92, l_93, l_94, l_95, l_96, l_97, l_98, l_99, l_100, l_101, l_102, l_103, l_104, l_105, l_106, l_107, l_108, l_109, l_110, l_111, l_121, l_122, l_160, l_200, l_201, l_240, l_255, l_361, l_390, l_499, l_500, l_999, l_1000, l_10000, l_10099, l_12345, l_16383, l_20000, l_20033, l_20038, l_20124, l_100000, l_1000000, l_1103515245, ui_oi, ck_oi, sb, jc_e, bl_0, bl_1, le_oi, lt_oi, eq_oi, add_oi, mul_oi, div_oi, ir_oi, gi_e, gi_n, if_true, if_false, if_pos, if_neg, true_and, and_true, false_and, and_false, true_or, or_true, false_or, or_false, hR.g, e1, e2, e3, hor0, hih]
theorem r_fit (hR : RR N d) (hW : WF d) (hp : p < 500) : F_X12_fitting N (oi (1 + p / 100)) (oi (p / 10 % 10)) (oi (9 + 10 * (p % 10))) = some (oi (zMk (zFt d p) (d 6))) := by
  obtain ⟨h0, h1, h2, h5, h6, hb, hw⟩ := id hW
  have hloop := lp_inv (L := fun m (a : Int32 × Int32 × Int32) z => F_X12_fitting_L12 N (oi (1 + p / 100)) (oi (p / 10 % 10)) m a.1 a.2.1 a.2.2 z) (n := 16) (I := fun t a => a = (oi (zMk (zGj d p t 0) (d 6)), oi (zSF d p t), oi (zSC d p t))) (Q := fun r => r = oi (zMk (zFt d p) (d 6))) (fun t m a ht ha => by
    subst ha
    refine ⟨_, rfl, ?_⟩
    have hs := zGj_s (k12 := F_X12_fitting_L12 N (oi (1 + p / 100)) (oi (p / 10 % 10)) m) hR hW hp ht (d 6) 0 1000 (by omega) (by omega)
    try dsimp only
    rw [F_X12_fitting_L12]
    simp (disch := omega) only [l_0, l_1, l_2, l_3, l_4, l_5, l_6, l_7, l_8, l_9, l_10, l_11, l_12, l_13, l_14, l_15, l_16, l_17, l_18, l_19, l_20, l_21, l_22, l_23, l_24, l_25, l_26, l_27, l_28, l_29, l_30, l_31, l_32, l_33, l_34, l_35, l_36, l_37, l_38, l_39, l_40, l_41, l_42, l_43, l_44, l_45, l_46, l_47, l_48, l_49, l_50, l_51, l_52, l_53, l_54, l_55, l_56, l_57, l_58, l_59, l_60, l_61, l_62, l_63, l_64, l_65, l_66, l_67, l_68, l_69, l_70, l_71, l_72, l_73, l_74, l_75, l_76, l_77, l_78, l_79, l_80, l_81, l_82, l_83, l_84, l_85, l_86, l_87, l_88, l_89, l_90, l_91, l_92, l_93, l_94, l_95, l_96, l_97, l_98, l_99, l_100, l_101, l_102, l_103, l_104, l_105, l_106, l_107, l_108, l_109, l_110, l_111, l_121, l_122, l_160, l_200, l_201, l_240, l_255, l_361, l_390, l_499, l_500, l_999, l_1000, l_10000, l_10099, l_12345, l_16383, l_20000, l_20033, l_20038, l_20124, l_100000, l_1000000, l_1103515245, ui_oi, ck_oi, sb, jc_e, bl_0, bl_1, le_oi, lt_oi, eq_oi, add_oi, mul_oi, div_oi, ir_oi, gi_e, gi_n, if_true, if_false, if_pos, if_neg, true_and, and_true, false_and, and_false, true_or, or_true, false_or, or_false, hs]) (fun m a ha => by
    subst ha
    refine ⟨_, ?_, rfl⟩
    try dsimp only
    rw [F_X12_fitting_L12]
    have hmk : zMk (zGj d p 16 0) (d 6) = zMk (zFt d p) (d 6) := zMk_congr (d 6) (fun r hr => by
      have := (hw.2.2.1 r (by omega)).1
      unfold zGj
      rw [decide_eq_true (show d (65 + 4 * r) < 16 by omega)]
      simp)
    simp (disch := omega) only [l_0, l_1, l_2, l_3, l_4, l_5, l_6, l_7, l_8, l_9, l_10, l_11, l_12, l_13, l_14, l_15, l_16, l_17, l_18, l_19, l_20, l_21, l_22, l_23, l_24, l_25, l_26, l_27, l_28, l_29, l_30, l_31, l_32, l_33, l_34, l_35, l_36, l_37, l_38, l_39, l_40, l_41, l_42, l_43, l_44, l_45, l_46, l_47, l_48, l_49, l_50, l_51, l_52, l_53, l_54, l_55, l_56, l_57, l_58, l_59, l_60, l_61, l_62, l_63, l_64, l_65, l_66, l_67, l_68, l_69, l_70, l_71, l_72, l_73, l_74, l_75, l_76, l_77, l_78, l_79, l_80, l_81, l_82, l_83, l_84, l_85, l_86, l_87, l_88, l_89, l_90, l_91, l_92, l_93, l_94, l_95, l_96, l_97, l_98, l_99, l_100, l_101, l_102, l_103, l_104, l_105, l_106, l_107, l_108, l_109, l_110, l_111, l_121, l_122, l_160, l_200, l_201, l_240, l_255, l_361, l_390, l_499, l_500, l_999, l_1000, l_10000, l_10099, l_12345, l_16383, l_20000, l_20033, l_20038, l_20124, l_100000, l_1000000, l_1103515245, ui_oi, ck_oi, sb, jc_e, bl_0, bl_1, le_oi, lt_oi, eq_oi, add_oi, mul_oi, div_oi, ir_oi, gi_e, gi_n, if_true, if_false, if_pos, if_neg, true_and, and_true, false_and, and_false, true_or, or_true, false_or, or_false, hmk]) 16 0 1000 (oi (zMk (zGj d p 0 0) (d 6)), oi (zSF d p 0), oi (zSC d p 0)) (by omega) (by omega) rfl
  obtain ⟨r, q0, q1⟩ := hloop
  subst q1
  have hmk : zMk (zGj d p 0 0) (d 6) = 0 := (zMk_0 h6).mpr (fun r _ => by unfold zGj; simp)
  have e0 : zSF d p 0 = 9 + 10 * (p % 10) := rfl
  have e1 : zSC d p 0 = 0 := rfl
  try dsimp only at q0
  rw [hmk, e0, e1] at q0
  unfold F_X12_fitting
  simp (disch := omega) only [l_0, l_1, l_2, l_3, l_4, l_5, l_6, l_7, l_8, l_9, l_10, l_11, l_12, l_13, l_14, l_15, l_16, l_17, l_18, l_19, l_20, l_21, l_22, l_23, l_24, l_25, l_26, l_27, l_28, l_29, l_30, l_31, l_32, l_33, l_34, l_35, l_36, l_37, l_38, l_39, l_40, l_41, l_42, l_43, l_44, l_45, l_46, l_47, l_48, l_49, l_50, l_51, l_52, l_53, l_54, l_55, l_56, l_57, l_58, l_59, l_60, l_61, l_62, l_63, l_64, l_65, l_66, l_67, l_68, l_69, l_70, l_71, l_72, l_73, l_74, l_75, l_76, l_77, l_78, l_79, l_80, l_81, l_82, l_83, l_84, l_85, l_86, l_87, l_88, l_89, l_90, l_91, l_92, l_93, l_94, l_95, l_96, l_97, l_98, l_99, l_100, l_101, l_102, l_103, l_104, l_105, l_106, l_107, l_108, l_109, l_110, l_111, l_121, l_122, l_160, l_200, l_201, l_240, l_255, l_361, l_390, l_499, l_500, l_999, l_1000, l_10000, l_10099, l_12345, l_16383, l_20000, l_20033, l_20038, l_20124, l_100000, l_1000000, l_1103515245, ui_oi, ck_oi, sb, jc_e, bl_0, bl_1, le_oi, lt_oi, eq_oi, add_oi, mul_oi, div_oi, ir_oi, gi_e, gi_n, if_true, if_false, if_pos, if_neg, true_and, and_true, false_and, and_false, true_or, or_true, false_or, or_false, q0]
end LQ

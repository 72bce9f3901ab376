/-! CALLS: game, play: the class's way, and both -/
section GB
variable {M N M' N' N1 : Mm} {d e : Nat → Nat} {c : Cnd} {L b k : Nat} {p par : Nat} {f : Nat → Nat}
theorem c_val (hL : L ≤ 4) : ∀ m k e fu (M : Mm), k + m = L → m < fu → VL 0 M d c → FL (77 + 3 * k) M e → WF e → Sd d e → e 1 + m ≤ e 2 → gi M 75 3 = oi L → ∃ M', F_X5_valueFrom fu M (oi k) = some (oi (zVl c m (k % 2) e), M') ∧ TF k M M' ∧ gi M' 75 3 = oi L ∧ (k = 0 → m ≠ 0 → gi M' 75 10 = oi (zAg (fun a => zWo e c a + zVl c (m - 1) 1 (zN e c a)) (e 0))) := by
  intro m
  induction m with
  | zero =>
    intro k e fu M hk hf hV hF hW hS hd h3
    obtain ⟨fu', rfl⟩ : ∃ q, fu = q + 1 := ⟨fu - 1, by omega⟩
    refine ⟨M, ?_, TF.rf, h3, fun _ q => absurd rfl q⟩
    rw [F_X5_valueFrom]
    unfold F_X5_valueFrom_b
    simp (disch := omega) only [l_0, l_1, l_2, l_3, l_4, l_5, l_6, l_7, l_8, l_9, l_10, l_11, l_12, l_13, l_14, l_15, l_16, l_17, l_18, l_19, l_20, l_21, l_22, l_23, l_24, l_25, l_26, l_27, l_28, l_29, l_30, l_31, l_32, l_33, l_34, l_35, l_36, l_37, l_38, l_39, l_40, l_41, l_42, l_43, l_44, l_45, l_46, l_47, l_48, l_49, l_50, l_51, l_52, l_53, l_54, l_55, l_56, l_57, l_58, l_59, l_60, l_61, l_62, l_63, l_64, l_65, l_66, l_67, l_68, l_69, l_70, l_71, l_72, l_73, l_74, l_75, l_76, l_77, l_78, l_79, l_80, l_81, l_82, l_83, l_84, l_85, l_86, l_87, l_88, l_89, l_90, l_91, l_92, l_93, l_94, l_95, l_96, l_97, l_98, l_99, l_100, l_101, l_102, l_103, l_104, l_105, l_106, l_107, l_108, l_109, l_110, l_111, l_121, l_122, l_160, l_200, l_201, l_240, l_255, l_361, l_390, l_499, l_500, l_999, l_1000, l_10000, l_10099, l_12345, l_16383, l_20000, l_20033, l_20038, l_20124, l_100000, l_1000000, l_1103515245, ui_oi, ck_oi, sb, jc_e, bl_0, bl_1, le_oi, lt_oi, eq_oi, add_oi, mul_oi, div_oi, ir_oi, gi_e, gi_n, if_true, if_false, if_pos, if_neg, true_and, and_true, false_and, and_false, true_or, or_true, false_or, or_false, h3, zVl]
  | succ m ih =>
    intro k e fu M hk hf hV hF hW hS hd h3
    obtain ⟨fu', rfl⟩ : ∃ q, fu = q + 1 := ⟨fu - 1, by omega⟩
    have h0 := hW.1
    have e0 : e 0 = d 0 := hS.o (by omega)
    have e2 : e 2 = d 2 := hS.o (by omega)
    obtain ⟨par, hpar⟩ : ∃ par, par = k % 2 := ⟨_, rfl⟩
    have hp1 : par ≤ 1 := by omega
    have hpn : (k + 1) % 2 = 1 - par := by omega
    obtain ⟨f, hf'⟩ : ∃ f, f = (fun a => zWo e c a + zVl c m (1 - par) (zN e c a)) := ⟨_, rfl⟩
    have hz : zVl c (m + 1) (k % 2) e = zMx par f (e 0) := by rw [← hpar, zVl, hf']
    rw [hz]
    have hfb : ∀ a, a ≤ e 0 → f a ≤ 200 := fun a ha => by
      have h1 := zWo_le (c := c) hW ha
      have hs := zN_sd (d := e) (c := c) (a := a) (by omega) h0
      have h2 := zVl_le (c := c) m (1 - par) (zN e c a) (zN_w hW ha (by omega)) (by rw [zN_1, hs.o (by omega)]; omega)
      rw [hf']
      try dsimp only
      omega
    have hir : ir (oi k) (oi 2) = oi par := by rw [ir_oi (by omega) (by omega), ← hpar]
    rw [F_X5_valueFrom]
    unfold F_X5_valueFrom_b
    have hloop := lp_inv (L := fun m (x : Mm × Int32 × Int32) y => F_X5_valueFrom_L27 (F_X5_valueFrom fu') (oi k) (77 + 3 * (k + 1)) m x.1 x.2.1 x.2.2 y) (n := e 0 + 1) (I := fun a x => TF k M x.1 ∧ gi x.1 75 3 = oi L ∧ (a = 0 → x.2 = (oi 0, oi 0)) ∧ (∀ b, a = b + 1 → x.2.1 = oi (zMx par f b) ∧ (par = 0 → x.2.2 = oi (zAg f b)))) (Q := fun r => r.1 = oi (zMx par f (e 0)) ∧ TF k M r.2 ∧ gi r.2 75 3 = oi L ∧ (k = 0 → gi r.2 75 10 = oi (zAg f (e 0)))) (fun a mm x ha hx => by
      obtain ⟨X, v, u⟩ := x
      obtain ⟨i1, i2, i3, i4⟩ := hx
      dsimp only at i1 i2 i3 i4 ⊢
      have hVX := hV.tc i1.1
      have hFX := hF.tf i1
      obtain ⟨M2, t1, t2, t3⟩ := c_take (w0 := 77 + 3 * (k + 1)) hFX (by omega)
      have hO2 : TF k X M2 := TF.of t3 (fun y hy => by simp at hy; unfold TC; simp; omega)
      obtain ⟨M3, p1, p2, p3⟩ := c_pass (a := a) ((hVX.tc hO2.1).sd hS) t2 hW (by omega) (wc76 (k + 1) (by omega))
      have hO3 : TF k M2 M3 := TF.of p3 (fun y hy => by simp at hy; unfold TC; simp; omega)
      have hsd := zN_sd (d := e) (c := c) (a := a) (by omega) h0
      have hw2 := zN_w (c := c) hW (a := a) (by omega) (by omega)
      have q1 : zN e c a 1 = e 1 + 1 := zN_1
      have q2 : zN e c a 2 = e 2 := hsd.o (by omega)
      have h33 : gi M3 75 3 = oi L := by rw [p3.g (by simp; omega), t3.g (by simp; omega)]; exact i2
      obtain ⟨M4, r1, r2, r3, r4⟩ := ih (k + 1) (zN e c a) fu' M3 (by omega) (by omega) ((hVX.tc hO2.1).tc hO3.1) p2 hw2 (hS.tr hsd) (by omega) h33
      rw [hpn] at r1
      have hF4 : TF k M M4 := ((i1.tr hO2).tr hO3).tr (r2.dn (by omega))
      obtain ⟨w, hw⟩ : ∃ w, w = zWo e c a := ⟨_, rfl⟩
      obtain ⟨z, hz⟩ : ∃ z, z = zVl c m (1 - par) (zN e c a) := ⟨_, rfl⟩
      rw [← hw] at p1
      rw [← hz] at r1
      have hfa : f a = w + z := by rw [hf', hw, hz]
      have hwz := hfb a (by omega)
      rw [hfa] at hwz
      have hn := hVX.n
      rw [← e0] at hn
      by_cases ha0 : a = 0
      · have hv := i3 ha0
        obtain ⟨rfl, rfl⟩ := Prod.mk.inj hv
        subst ha0
        refine ⟨(M4, oi (w + z), oi 0), ⟨hF4, r3, fun q => by omega, fun b hb => ?_⟩, ?_⟩
        · obtain rfl : b = 0 := by omega
          exact ⟨by try dsimp only
                    rw [← hfa]
                    rfl, fun _ => rfl⟩
        · try dsimp only
          rw [F_X5_valueFrom_L27]
          rcases (by omega : par = 0 ∨ par = 1) with rfl | rfl
          · by_cases hle : w + z ≤ 0
            · simp (disch := omega) only [l_0, l_1, l_2, l_3, l_4, l_5, l_6, l_7, l_8, l_9, l_10, l_11, l_12, l_13, l_14, l_15, l_16, l_17, l_18, l_19, l_20, l_21, l_22, l_23, l_24, l_25, l_26, l_27, l_28, l_29, l_30, l_31, l_32, l_33, l_34, l_35, l_36, l_37, l_38, l_39, l_40, l_41, l_42, l_43, l_44, l_45, l_46, l_47, l_48, l_49, l_50, l_51, l_52, l_53, l_54, l_55, l_56, l_57, l_58, l_59, l_60, l_61, l_62, l_63, l_64, l_65, l_66, l_67, l_68, l_69, l_70, l_71, l_72, l_73, l_74, l_75, l_76, l_77, l_78, l_79, l_80, l_81, l_82, l_83, l_84, l_85, l_86, l_87, l_88, l_89, l_90, l_91, l_92, l_93, l_94, l_95, l_96, l_97, l_98, l_99, l_100, l_101, l_102, l_103, l_104, l_105, l_106, l_107, l_108, l_109, l_110, l_111, l_121, l_122, l_160, l_200, l_201, l_240, l_255, l_361, l_390, l_499, l_500, l_999, l_1000, l_10000, l_10099, l_12345, l_16383, l_20000, l_20033, l_20038, l_20124, l_100000, l_1000000, l_1103515245, ui_oi, ck_oi, sb, jc_e, bl_0, bl_1, le_oi, lt_oi, eq_oi, add_oi, mul_oi, div_oi, ir_oi, gi_e, gi_n, if_true, if_false, if_pos, if_neg, true_and, and_true, false_and, and_false, true_or, or_true, false_or, or_false, hn, ly76 k (by omega), t1, p1, r1, hir]
            · simp (disch := omega) only [l_0, l_1, l_2, l_3, l_4, l_5, l_6, l_7, l_8, l_9, l_10, l_11, l_12, l_13, l_14, l_15, l_16, l_17, l_18, l_19, l_20, l_21, l_22, l_23, l_24, l_25, l_26, l_27, l_28, l_29, l_30, l_31, l_32, l_33, l_34, l_35, l_36, l_37, l_38, l_39, l_40, l_41, l_42, l_43, l_44, l_45, l_46, l_47, l_48, l_49, l_50, l_51, l_52, l_53, l_54, l_55, l_56, l_57, l_58, l_59, l_60, l_61, l_62, l_63, l_64, l_65, l_66, l_67, l_68, l_69, l_70, l_71, l_72, l_73, l_74, l_75, l_76, l_77, l_78, l_79, l_80, l_81, l_82, l_83, l_84, l_85, l_86, l_87, l_88, l_89, l_90, l_91, l_92, l_93, l_94, l_95, l_96, l_97, l_98, l_99, l_100, l_101, l_102, l_103, l_104, l_105, l_106, l_107, l_108, l_109, l_110, l_111, l_121, l_122, l_160, l_200, l_201, l_240, l_255, l_361, l_390, l_499, l_500, l_999, l_1000, l_10000, l_10099, l_12345, l_16383, l_20000, l_20033, l_20038, l_20124, l_100000, l_1000000, l_1103515245, ui_oi, ck_oi, sb, jc_e, bl_0, bl_1, le_oi, lt_oi, eq_oi, add_oi, mul_oi, div_oi, ir_oi, gi_e, gi_n, if_true, if_false, if_pos, if_neg, true_and, and_true, false_and, and_false, true_or, or_true, false_or, or_false, hn, ly76 k (by omega), t1, p1, r1, hir]
          · simp (disch := omega) only [l_0, l_1, l_2, l_3, l_4, l_5, l_6, l_7, l_8, l_9, l_10, l_11, l_12, l_13, l_14, l_15, l_16, l_17, l_18, l_19, l_20, l_21, l_22, l_23, l_24, l_25, l_26, l_27, l_28, l_29, l_30, l_31, l_32, l_33, l_34, l_35, l_36, l_37, l_38, l_39, l_40, l_41, l_42, l_43, l_44, l_45, l_46, l_47, l_48, l_49, l_50, l_51, l_52, l_53, l_54, l_55, l_56, l_57, l_58, l_59, l_60, l_61, l_62, l_63, l_64, l_65, l_66, l_67, l_68, l_69, l_70, l_71, l_72, l_73, l_74, l_75, l_76, l_77, l_78, l_79, l_80, l_81, l_82, l_83, l_84, l_85, l_86, l_87, l_88, l_89, l_90, l_91, l_92, l_93, l_94, l_95, l_96, l_97, l_98, l_99, l_100, l_101, l_102, l_103, l_104, l_105, l_106, l_107, l_108, l_109, l_110, l_111, l_121, l_122, l_160, l_200, l_201, l_240, l_255, l_361, l_390, l_499, l_500, l_999, l_1000, l_10000, l_10099, l_12345, l_16383, l_20000, l_20033, l_20038, l_20124, l_100000, l_1000000, l_1103515245, ui_oi, ck_oi, sb, jc_e, bl_0, bl_1, le_oi, lt_oi, eq_oi, add_oi, mul_oi, div_oi, ir_oi, gi_e, gi_n, if_true, if_false, if_pos, if_neg, true_and, and_true, false_and, and_false, true_or, or_true, false_or, or_false, hn, ly76 k (by omega), t1, p1, r1, hir]
      · obtain ⟨b, rfl⟩ : ∃ b, a = b + 1 := ⟨a - 1, by omega⟩
        obtain ⟨hv1, hv2⟩ := i4 b rfl
        subst hv1
        have hmb := zMx_le (par := par) (f := f) b (fun i hi => hfb i (by omega))
        rcases (by omega : par = 0 ∨ par = 1) with rfl | rfl
        · have hv2 := hv2 rfl
          subst hv2
          have hm : zMx 0 f (b + 1) = if w + z ≤ zMx 0 f b then zMx 0 f b else w + z := by rw [zMx, if_pos rfl, hfa]
          have hg : zAg f (b + 1) = if w + z ≤ zMx 0 f b then zAg f b else b + 1 := by rw [zAg, hfa]
          refine ⟨(M4, oi (zMx 0 f (b + 1)), oi (zAg f (b + 1))), ⟨hF4, r3, fun q => by omega, fun b' hb => ?_⟩, ?_⟩
          · obtain rfl : b' = b + 1 := by omega
            exact ⟨rfl, fun _ => rfl⟩
          · try dsimp only
            rw [F_X5_valueFrom_L27, hm, hg]
            by_cases hle : w + z ≤ zMx 0 f b
            · simp (disch := omega) only [l_0, l_1, l_2, l_3, l_4, l_5, l_6, l_7, l_8, l_9, l_10, l_11, l_12, l_13, l_14, l_15, l_16, l_17, l_18, l_19, l_20, l_21, l_22, l_23, l_24, l_25, l_26, l_27, l_28, l_29, l_30, l_31, l_32, l_33, l_34, l_35, l_36, l_37, l_38, l_39, l_40, l_41, l_42, l_43, l_44, l_45, l_46, l_47, l_48, l_49, l_50, l_51, l_52, l_53, l_54, l_55, l_56, l_57, l_58, l_59, l_60, l_61, l_62, l_63, l_64, l_65, l_66, l_67, l_68, l_69, l_70, l_71, l_72, l_73, l_74, l_75, l_76, l_77, l_78, l_79, l_80, l_81, l_82, l_83, l_84, l_85, l_86, l_87, l_88, l_89, l_90, l_91, l_92, l_93, l_94, l_95, l_96, l_97, l_98, l_99, l_100, l_101, l_102, l_103, l_104, l_105, l_106, l_107, l_108, l_109, l_110, l_111, l_121, l_122, l_160, l_200, l_201, l_240, l_255, l_361, l_390, l_499, l_500, l_999, l_1000, l_10000, l_10099, l_12345, l_16383, l_20000, l_20033, l_20038, l_20124, l_100000, l_1000000, l_1103515245, ui_oi, ck_oi, sb, jc_e, bl_0, bl_1, le_oi, lt_oi, eq_oi, add_oi, mul_oi, div_oi, ir_oi, gi_e, gi_n, if_true, if_false, if_pos, if_neg, true_and, and_true, false_and, and_false, true_or, or_true, false_or, or_false, hn, ly76 k (by omega), t1, p1, r1, hir]
            · simp (disch := omega) only [l_0, l_1, l_2, l_3, l_4, l_5, l_6, l_7, l_8, l_9, l_10, l_11, l_12, l_13, l_14, l_15, l_16, l_17, l_18, l_19, l_20, l_21, l_22, l_23, l_24, l_25, l_26, l_27, l_28, l_29, l_30, l_31, l_32, l_33, l_34, l_35, l_36, l_37, l_38, l_39, l_40, l_41, l_42, l_43, l_44, l_45, l_46, l_47, l_48, l_49, l_50, l_51, l_52, l_53, l_54, l_55, l_56, l_57, l_58, l_59, l_60, l_61, l_62, l_63, l_64, l_65, l_66, l_67, l_68, l_69, l_70, l_71, l_72, l_73, l_74, l_75, l_76, l_77, l_78, l_79, l_80, l_81, l_82, l_83, l_84, l_85, l_86, l_87, l_88, l_89, l_90, l_91, l_92, l_93, l_94, l_95, l_96, l_97, l_98, l_99, l_100, l_101, l_102, l_103, l_104, l_105, l_106, l_107, l_108, l_109, l_110, l_111, l_121, l_122, l_160, l_200, l_201, l_240, l_255, l_361, l_390, l_499, l_500, l_999, l_1000, l_10000, l_10099, l_12345, l_16383, l_20000, l_20033, l_20038, l_20124, l_100000, l_1000000, l_1103515245, ui_oi, ck_oi, sb, jc_e, bl_0, bl_1, le_oi, lt_oi, eq_oi, add_oi, mul_oi, div_oi, ir_oi, gi_e, gi_n, if_true, if_false, if_pos, if_neg, true_and, and_true, false_and, and_false, true_or, or_true, false_or, or_false, hn, ly76 k (by omega), t1, p1, r1, hir]
        · have hm : zMx 1 f (b + 1) = if zMx 1 f b ≤ w + z then zMx 1 f b else w + z := by rw [zMx, if_neg (by omega), hfa]
          refine ⟨(M4, oi (zMx 1 f (b + 1)), if zMx 1 f b ≤ w + z then u else oi (b + 1)), ⟨hF4, r3, fun q => by omega, fun b' hb => ?_⟩, ?_⟩
          · obtain rfl : b' = b + 1 := by omega
            exact ⟨rfl, fun q => by omega⟩
          · try dsimp only
            rw [F_X5_valueFrom_L27, hm]
            by_cases hle : zMx 1 f b ≤ w + z
            · simp (disch := omega) only [l_0, l_1, l_2, l_3, l_4, l_5, l_6, l_7, l_8, l_9, l_10, l_11, l_12, l_13, l_14, l_15, l_16, l_17, l_18, l_19, l_20, l_21, l_22, l_23, l_24, l_25, l_26, l_27, l_28, l_29, l_30, l_31, l_32, l_33, l_34, l_35, l_36, l_37, l_38, l_39, l_40, l_41, l_42, l_43, l_44, l_45, l_46, l_47, l_48, l_49, l_50, l_51, l_52, l_53, l_54, l_55, l_56, l_57, l_58, l_59, l_60, l_61, l_62, l_63, l_64, l_65, l_66, l_67, l_68, l_69, l_70, l_71, l_72, l_73, l_74, l_75, l_76, l_77, l_78, l_79, l_80, l_81, l_82, l_83, l_84, l_85, l_86, l_87, l_88, l_89, l_90, l_91, l_92, l_93, l_94, l_95, l_96, l_97, l_98, l_99, l_100, l_101, l_102, l_103, l_104, l_105, l_106, l_107, l_108, l_109, l_110, l_111, l_121, l_122, l_160, l_200, l_201, l_240, l_255, l_361, l_390, l_499, l_500, l_999, l_1000, l_10000, l_10099, l_12345, l_16383, l_20000, l_20033, l_20038, l_20124, l_100000, l_1000000, l_1103515245, ui_oi, ck_oi, sb, jc_e, bl_0, bl_1, le_oi, lt_oi, eq_oi, add_oi, mul_oi, div_oi, ir_oi, gi_e, gi_n, if_true, if_false, if_pos, if_neg, true_and, and_true, false_and, and_false, true_or, or_true, false_or, or_false, hn, ly76 k (by omega), t1, p1, r1, hir]
            · simp (disch := omega) only [l_0, l_1, l_2, l_3, l_4, l_5, l_6, l_7, l_8, l_9, l_10, l_11, l_12, l_13, l_14, l_15, l_16, l_17, l_18, l_19, l_20, l_21, l_22, l_23, l_24, l_25, l_26, l_27, l_28, l_29, l_30, l_31, l_32, l_33, l_34, l_35, l_36, l_37, l_38, l_39, l_40, l_41, l_42, l_43, l_44, l_45, l_46, l_47, l_48, l_49, l_50, l_51, l_52, l_53, l_54, l_55, l_56, l_57, l_58, l_59, l_60, l_61, l_62, l_63, l_64, l_65, l_66, l_67, l_68, l_69, l_70, l_71, l_72, l_73, l_74, l_75, l_76, l_77, l_78, l_79, l_80, l_81, l_82, l_83, l_84, l_85, l_86, l_87, l_88, l_89, l_90, l_91, l_92, l_93, l_94, l_95, l_96, l_97, l_98, l_99, l_100, l_101, l_102, l_103, l_104, l_105, l_106, l_107, l_108, l_109, l_110, l_111, l_121, l_122, l_160, l_200, l_201, l_240, l_255, l_361, l_390, l_499, l_500, l_999, l_1000, l_10000, l_10099, l_12345, l_16383, l_20000, l_20033, l_20038, l_20124, l_100000, l_1000000, l_1103515245, ui_oi, ck_oi, sb, jc_e, bl_0, bl_1, le_oi, lt_oi, eq_oi, add_oi, mul_oi, div_oi, ir_oi, gi_e, gi_n, if_true, if_false, if_pos, if_neg, true_and, and_true, false_and, and_false, true_or, or_true, false_or, or_false, hn, ly76 k (by omega), t1, p1, r1, hir]) (fun mm x hx => by
      obtain ⟨X, v, u⟩ := x
      obtain ⟨i1, i2, i3, i4⟩ := hx
      dsimp only at i1 i2 i3 i4 ⊢
      obtain ⟨hv1, hv2⟩ := i4 (e 0) rfl
      have hn := (hV.tc i1.1).n
      rw [← e0] at hn
      by_cases hk0 : k = 0
      · have hv2 := hv2 (by omega)
        subst hk0
        refine ⟨(v, si X 75 10 u), ?_, hv1, i1.tr ⟨Oc.si (by unfold TC; simp), fun y _ _ => si_ne (by omega), fun i hi => gi_n (by omega)⟩, (gi_n (by omega)).trans i2, fun _ => gi_e.trans hv2⟩
        rw [F_X5_valueFrom_L27]
        simp (disch := omega) only [l_0, l_1, l_2, l_3, l_4, l_5, l_6, l_7, l_8, l_9, l_10, l_11, l_12, l_13, l_14, l_15, l_16, l_17, l_18, l_19, l_20, l_21, l_22, l_23, l_24, l_25, l_26, l_27, l_28, l_29, l_30, l_31, l_32, l_33, l_34, l_35, l_36, l_37, l_38, l_39, l_40, l_41, l_42, l_43, l_44, l_45, l_46, l_47, l_48, l_49, l_50, l_51, l_52, l_53, l_54, l_55, l_56, l_57, l_58, l_59, l_60, l_61, l_62, l_63, l_64, l_65, l_66, l_67, l_68, l_69, l_70, l_71, l_72, l_73, l_74, l_75, l_76, l_77, l_78, l_79, l_80, l_81, l_82, l_83, l_84, l_85, l_86, l_87, l_88, l_89, l_90, l_91, l_92, l_93, l_94, l_95, l_96, l_97, l_98, l_99, l_100, l_101, l_102, l_103, l_104, l_105, l_106, l_107, l_108, l_109, l_110, l_111, l_121, l_122, l_160, l_200, l_201, l_240, l_255, l_361, l_390, l_499, l_500, l_999, l_1000, l_10000, l_10099, l_12345, l_16383, l_20000, l_20033, l_20038, l_20124, l_100000, l_1000000, l_1103515245, ui_oi, ck_oi, sb, jc_e, bl_0, bl_1, le_oi, lt_oi, eq_oi, add_oi, mul_oi, div_oi, ir_oi, gi_e, gi_n, if_true, if_false, if_pos, if_neg, true_and, and_true, false_and, and_false, true_or, or_true, false_or, or_false, hn]
      · refine ⟨(v, X), ?_, hv1, i1, i2, fun q => absurd q hk0⟩
        rw [F_X5_valueFrom_L27]
        simp (disch := omega) only [l_0, l_1, l_2, l_3, l_4, l_5, l_6, l_7, l_8, l_9, l_10, l_11, l_12, l_13, l_14, l_15, l_16, l_17, l_18, l_19, l_20, l_21, l_22, l_23, l_24, l_25, l_26, l_27, l_28, l_29, l_30, l_31, l_32, l_33, l_34, l_35, l_36, l_37, l_38, l_39, l_40, l_41, l_42, l_43, l_44, l_45, l_46, l_47, l_48, l_49, l_50, l_51, l_52, l_53, l_54, l_55, l_56, l_57, l_58, l_59, l_60, l_61, l_62, l_63, l_64, l_65, l_66, l_67, l_68, l_69, l_70, l_71, l_72, l_73, l_74, l_75, l_76, l_77, l_78, l_79, l_80, l_81, l_82, l_83, l_84, l_85, l_86, l_87, l_88, l_89, l_90, l_91, l_92, l_93, l_94, l_95, l_96, l_97, l_98, l_99, l_100, l_101, l_102, l_103, l_104, l_105, l_106, l_107, l_108, l_109, l_110, l_111, l_121, l_122, l_160, l_200, l_201, l_240, l_255, l_361, l_390, l_499, l_500, l_999, l_1000, l_10000, l_10099, l_12345, l_16383, l_20000, l_20033, l_20038, l_20124, l_100000, l_1000000, l_1103515245, ui_oi, ck_oi, sb, jc_e, bl_0, bl_1, le_oi, lt_oi, eq_oi, add_oi, mul_oi, div_oi, ir_oi, gi_e, gi_n, if_true, if_false, if_pos, if_neg, true_and, and_true, false_and, and_false, true_or, or_true, false_or, or_false, hn]) (e 0 + 1) 0 1000 (M, oi 0, oi 0) (by omega) (by omega) ⟨TF.rf, h3, fun _ => rfl, fun b hb => by omega⟩
    obtain ⟨⟨r1, r2⟩, q0, q1, q2, q3, q4⟩ := hloop
    dsimp only at q0 q1 q2 q3 q4
    subst q1
    refine ⟨r2, ?_, q2, q3, fun hk0 _ => ?_⟩
    · simp (disch := omega) only [l_0, l_1, l_2, l_3, l_4, l_5, l_6, l_7, l_8, l_9, l_10, l_11, l_12, l_13, l_14, l_15, l_16, l_17, l_18, l_19, l_20, l_21, l_22, l_23, l_24, l_25, l_26, l_27, l_28, l_29, l_30, l_31, l_32, l_33, l_34, l_35, l_36, l_37, l_38, l_39, l_40, l_41, l_42, l_43, l_44, l_45, l_46, l_47, l_48, l_49, l_50, l_51, l_52, l_53, l_54, l_55, l_56, l_57, l_58, l_59, l_60, l_61, l_62, l_63, l_64, l_65, l_66, l_67, l_68, l_69, l_70, l_71, l_72, l_73, l_74, l_75, l_76, l_77, l_78, l_79, l_80, l_81, l_82, l_83, l_84, l_85, l_86, l_87, l_88, l_89, l_90, l_91, l_92, l_93, l_94, l_95, l_96, l_97, l_98, l_99, l_100, l_101, l_102, l_103, l_104, l_105, l_106, l_107, l_108, l_109, l_110, l_111, l_121, l_122, l_160, l_200, l_201, l_240, l_255, l_361, l_390, l_499, l_500, l_999, l_1000, l_10000, l_10099, l_12345, l_16383, l_20000, l_20033, l_20038, l_20124, l_100000, l_1000000, l_1103515245, ui_oi, ck_oi, sb, jc_e, bl_0, bl_1, le_oi, lt_oi, eq_oi, add_oi, mul_oi, div_oi, ir_oi, gi_e, gi_n, if_true, if_false, if_pos, if_neg, true_and, and_true, false_and, and_false, true_or, or_true, false_or, or_false, h3, ly76 (k + 1) (by omega), q0]
    · rw [q4 hk0, hf', show par = 0 by omega]
      rfl
theorem c_game {n : Nat} (hI : IV M N d c) (hn : n ≤ 4) : ∃ M', F_X5_gameOf M (oi n) = some (oi (zVl c (min n (d 2 - d 1)) 0 d), M') ∧ Oc TC M M' ∧ (min n (d 2 - d 1) ≠ 0 → gi M' 75 10 = oi (zAg (fun a => zWo d c a + zVl c (min n (d 2 - d 1) - 1) 1 (zN d c a)) (d 0))) := by
  obtain ⟨hV, hF, h3, h4, hRI, hW, hA⟩ := id hI
  have h12 := hW.2.1
  have h16 := hW.2.2.1
  obtain ⟨L, hL⟩ : ∃ L, L = min n (d 2 - d 1) := ⟨_, rfl⟩
  have hL4 : L ≤ 4 := by omega
  rw [← hL]
  obtain ⟨M1, t1, t2, t3⟩ := c_take (M := si M 75 3 (oi L)) (w0 := 77) (hF.oc (S := [75]) (Oc.si (by simp)) (by decide) (by decide) (by decide)) (by omega)
  have hT1 : Oc TC M M1 := (Oc.si (S := [75]) (by simp)).tr t3 (fun c hc => by unfold TC at hc; simp at hc ⊢; omega)
  have hT2 : Oc [75] M1 (si M1 75 10 (oi 0)) := Oc.si (by simp)
  have hT : Oc TC M (si M1 75 10 (oi 0)) := hT1.tr hT2 (fun c hc => ⟨hc, by unfold TC at hc; simp at hc ⊢; omega⟩)
  have hL1 : gi (si M1 75 10 (oi 0)) 75 3 = oi L := by rw [gi_n (by omega), t3.g (by decide), gi_e]
  obtain ⟨M', r1, r2, r3, r4⟩ := c_val hL4 L 0 d 8 (si M1 75 10 (oi 0)) (by omega) (by omega) (hV.tc hT) (t2.oc hT2 (by decide) (by decide) (by decide)) hW Sd.rf (by omega) hL1
  refine ⟨M', ?_, hT.tr r2.1 (fun c hc => ⟨hc, hc⟩), r4 rfl⟩
  have h39 : gi M 39 3 = oi (d 1) := hF.t
  unfold F_X5_gameOf F_X5_begin F_X5_lengthOf
  rw [l_0, hV.e, h39, sub_oi h12, mn_oi (by omega) (by omega), mx_oi (by omega) (by omega), Nat.zero_max, ← hL]
  simp (disch := omega) only [l_0, l_1, l_2, l_3, l_4, l_5, l_6, l_7, l_8, l_9, l_10, l_11, l_12, l_13, l_14, l_15, l_16, l_17, l_18, l_19, l_20, l_21, l_22, l_23, l_24, l_25, l_26, l_27, l_28, l_29, l_30, l_31, l_32, l_33, l_34, l_35, l_36, l_37, l_38, l_39, l_40, l_41, l_42, l_43, l_44, l_45, l_46, l_47, l_48, l_49, l_50, l_51, l_52, l_53, l_54, l_55, l_56, l_57, l_58, l_59, l_60, l_61, l_62, l_63, l_64, l_65, l_66, l_67, l_68, l_69, l_70, l_71, l_72, l_73, l_74, l_75, l_76, l_77, l_78, l_79, l_80, l_81, l_82, l_83, l_84, l_85, l_86, l_87, l_88, l_89, l_90, l_91, l_92, l_93, l_94, l_95, l_96, l_97, l_98, l_99, l_100, l_101, l_102, l_103, l_104, l_105, l_106, l_107, l_108, l_109, l_110, l_111, l_121, l_122, l_160, l_200, l_201, l_240, l_255, l_361, l_390, l_499, l_500, l_999, l_1000, l_10000, l_10099, l_12345, l_16383, l_20000, l_20033, l_20038, l_20124, l_100000, l_1000000, l_1103515245, ui_oi, ck_oi, sb, jc_e, bl_0, bl_1, le_oi, lt_oi, eq_oi, add_oi, mul_oi, div_oi, ir_oi, gi_e, gi_n, if_true, if_false, if_pos, if_neg, true_and, and_true, false_and, and_false, true_or, or_true, false_or, or_false, mn_oi, ly76 0 (by omega)]
  rw [Nat.min_eq_right hL4, t1]
  simp (disch := omega) only [l_0, l_1, l_2, l_3, l_4, l_5, l_6, l_7, l_8, l_9, l_10, l_11, l_12, l_13, l_14, l_15, l_16, l_17, l_18, l_19, l_20, l_21, l_22, l_23, l_24, l_25, l_26, l_27, l_28, l_29, l_30, l_31, l_32, l_33, l_34, l_35, l_36, l_37, l_38, l_39, l_40, l_41, l_42, l_43, l_44, l_45, l_46, l_47, l_48, l_49, l_50, l_51, l_52, l_53, l_54, l_55, l_56, l_57, l_58, l_59, l_60, l_61, l_62, l_63, l_64, l_65, l_66, l_67, l_68, l_69, l_70, l_71, l_72, l_73, l_74, l_75, l_76, l_77, l_78, l_79, l_80, l_81, l_82, l_83, l_84, l_85, l_86, l_87, l_88, l_89, l_90, l_91, l_92, l_93, l_94, l_95, l_96, l_97, l_98, l_99, l_100, l_101, l_102, l_103, l_104, l_105, l_106, l_107, l_108, l_109, l_110, l_111, l_121, l_122, l_160, l_200, l_201, l_240, l_255, l_361, l_390, l_499, l_500, l_999, l_1000, l_10000, l_10099, l_12345, l_16383, l_20000, l_20033, l_20038, l_20124, l_100000, l_1000000, l_1103515245, ui_oi, ck_oi, sb, jc_e, bl_0, bl_1, le_oi, lt_oi, eq_oi, add_oi, mul_oi, div_oi, ir_oi, gi_e, gi_n, if_true, if_false, if_pos, if_neg, true_and, and_true, false_and, and_false, true_or, or_true, false_or, or_false, ]
  rw [r1]
  rfl
theorem q_game (v1 : Int32) : Cl (fun M => F_X11_game M v1) (fun M => F_X12_game M v1) := by
  refine Cl.vs (fun M N d c hI => ?_)
  obtain ⟨hV, hF, h3, h4, hRI, hW, hA⟩ := id hI
  try dsimp only
  unfold F_X11_game F_X12_game
  rcases win v1 1 4 (by omega) (by omega) with ⟨n, hn0, hn, rfl, e1⟩ | ⟨e1, -⟩
  · obtain ⟨M', x1, x2, x3⟩ := c_game hI hn
    obtain ⟨N', y1, y2, y3, y4⟩ := r_val n 0 d 0 N 8 hn (by omega) (by omega) hRI hW hA (by omega)
    rw [show 1 - 0 = 1 by omega] at y1
    exact ⟨oi (zVl c (min n (d 2 - d 1)) 0 d), M', N', d, c, by simp (disch := omega) only [l_0, l_1, l_2, l_3, l_4, l_5, l_6, l_7, l_8, l_9, l_10, l_11, l_12, l_13, l_14, l_15, l_16, l_17, l_18, l_19, l_20, l_21, l_22, l_23, l_24, l_25, l_26, l_27, l_28, l_29, l_30, l_31, l_32, l_33, l_34, l_35, l_36, l_37, l_38, l_39, l_40, l_41, l_42, l_43, l_44, l_45, l_46, l_47, l_48, l_49, l_50, l_51, l_52, l_53, l_54, l_55, l_56, l_57, l_58, l_59, l_60, l_61, l_62, l_63, l_64, l_65, l_66, l_67, l_68, l_69, l_70, l_71, l_72, l_73, l_74, l_75, l_76, l_77, l_78, l_79, l_80, l_81, l_82, l_83, l_84, l_85, l_86, l_87, l_88, l_89, l_90, l_91, l_92, l_93, l_94, l_95, l_96, l_97, l_98, l_99, l_100, l_101, l_102, l_103, l_104, l_105, l_106, l_107, l_108, l_109, l_110, l_111, l_121, l_122, l_160, l_200, l_201, l_240, l_255, l_361, l_390, l_499, l_500, l_999, l_1000, l_10000, l_10099, l_12345, l_16383, l_20000, l_20033, l_20038, l_20124, l_100000, l_1000000, l_1103515245, ui_oi, ck_oi, sb, jc_e, bl_0, bl_1, le_oi, lt_oi, eq_oi, add_oi, mul_oi, div_oi, ir_oi, gi_e, gi_n, if_true, if_false, if_pos, if_neg, true_and, and_true, false_and, and_false, true_or, or_true, false_or, or_false, m_0, m_1, m_2, m_3, m_4, m_5, m_8, m_9, m_10, m_14, m_15, m_16, m_20, m_40, m_99, m_999, m_neg, in_within, e1, x1], by simp (disch := omega) only [l_0, l_1, l_2, l_3, l_4, l_5, l_6, l_7, l_8, l_9, l_10, l_11, l_12, l_13, l_14, l_15, l_16, l_17, l_18, l_19, l_20, l_21, l_22, l_23, l_24, l_25, l_26, l_27, l_28, l_29, l_30, l_31, l_32, l_33, l_34, l_35, l_36, l_37, l_38, l_39, l_40, l_41, l_42, l_43, l_44, l_45, l_46, l_47, l_48, l_49, l_50, l_51, l_52, l_53, l_54, l_55, l_56, l_57, l_58, l_59, l_60, l_61, l_62, l_63, l_64, l_65, l_66, l_67, l_68, l_69, l_70, l_71, l_72, l_73, l_74, l_75, l_76, l_77, l_78, l_79, l_80, l_81, l_82, l_83, l_84, l_85, l_86, l_87, l_88, l_89, l_90, l_91, l_92, l_93, l_94, l_95, l_96, l_97, l_98, l_99, l_100, l_101, l_102, l_103, l_104, l_105, l_106, l_107, l_108, l_109, l_110, l_111, l_121, l_122, l_160, l_200, l_201, l_240, l_255, l_361, l_390, l_499, l_500, l_999, l_1000, l_10000, l_10099, l_12345, l_16383, l_20000, l_20033, l_20038, l_20124, l_100000, l_1000000, l_1103515245, ui_oi, ck_oi, sb, jc_e, bl_0, bl_1, le_oi, lt_oi, eq_oi, add_oi, mul_oi, div_oi, ir_oi, gi_e, gi_n, if_true, if_false, if_pos, if_neg, true_and, and_true, false_and, and_false, true_or, or_true, false_or, or_false, m_0, m_1, m_2, m_3, m_4, m_5, m_8, m_9, m_10, m_14, m_15, m_16, m_20, m_40, m_99, m_999, m_neg, in_within, e1, y1], hI.tc x2 y2 y3, zmT.m x2, zmT.f x2, y4.1.1, y4.1.2⟩
  · exact ⟨-1, M, N, d, c, by simp (disch := omega) only [l_0, l_1, l_2, l_3, l_4, l_5, l_6, l_7, l_8, l_9, l_10, l_11, l_12, l_13, l_14, l_15, l_16, l_17, l_18, l_19, l_20, l_21, l_22, l_23, l_24, l_25, l_26, l_27, l_28, l_29, l_30, l_31, l_32, l_33, l_34, l_35, l_36, l_37, l_38, l_39, l_40, l_41, l_42, l_43, l_44, l_45, l_46, l_47, l_48, l_49, l_50, l_51, l_52, l_53, l_54, l_55, l_56, l_57, l_58, l_59, l_60, l_61, l_62, l_63, l_64, l_65, l_66, l_67, l_68, l_69, l_70, l_71, l_72, l_73, l_74, l_75, l_76, l_77, l_78, l_79, l_80, l_81, l_82, l_83, l_84, l_85, l_86, l_87, l_88, l_89, l_90, l_91, l_92, l_93, l_94, l_95, l_96, l_97, l_98, l_99, l_100, l_101, l_102, l_103, l_104, l_105, l_106, l_107, l_108, l_109, l_110, l_111, l_121, l_122, l_160, l_200, l_201, l_240, l_255, l_361, l_390, l_499, l_500, l_999, l_1000, l_10000, l_10099, l_12345, l_16383, l_20000, l_20033, l_20038, l_20124, l_100000, l_1000000, l_1103515245, ui_oi, ck_oi, sb, jc_e, bl_0, bl_1, le_oi, lt_oi, eq_oi, add_oi, mul_oi, div_oi, ir_oi, gi_e, gi_n, if_true, if_false, if_pos, if_neg, true_and, and_true, false_and, and_false, true_or, or_true, false_or, or_false, m_0, m_1, m_2, m_3, m_4, m_5, m_8, m_9, m_10, m_14, m_15, m_16, m_20, m_40, m_99, m_999, m_neg, in_within, e1], by simp (disch := omega) only [l_0, l_1, l_2, l_3, l_4, l_5, l_6, l_7, l_8, l_9, l_10, l_11, l_12, l_13, l_14, l_15, l_16, l_17, l_18, l_19, l_20, l_21, l_22, l_23, l_24, l_25, l_26, l_27, l_28, l_29, l_30, l_31, l_32, l_33, l_34, l_35, l_36, l_37, l_38, l_39, l_40, l_41, l_42, l_43, l_44, l_45, l_46, l_47, l_48, l_49, l_50, l_51, l_52, l_53, l_54, l_55, l_56, l_57, l_58, l_59, l_60, l_61, l_62, l_63, l_64, l_65, l_66, l_67, l_68, l_69, l_70, l_71, l_72, l_73, l_74, l_75, l_76, l_77, l_78, l_79, l_80, l_81, l_82, l_83, l_84, l_85, l_86, l_87, l_88, l_89, l_90, l_91, l_92, l_93, l_94, l_95, l_96, l_97, l_98, l_99, l_100, l_101, l_102, l_103, l_104, l_105, l_106, l_107, l_108, l_109, l_110, l_111, l_121, l_122, l_160, l_200, l_201, l_240, l_255, l_361, l_390, l_499, l_500, l_999, l_1000, l_10000, l_10099, l_12345, l_16383, l_20000, l_20033, l_20038, l_20124, l_100000, l_1000000, l_1103515245, ui_oi, ck_oi, sb, jc_e, bl_0, bl_1, le_oi, lt_oi, eq_oi, add_oi, mul_oi, div_oi, ir_oi, gi_e, gi_n, if_true, if_false, if_pos, if_neg, true_and, and_true, false_and, and_false, true_or, or_true, false_or, or_false, m_0, m_1, m_2, m_3, m_4, m_5, m_8, m_9, m_10, m_14, m_15, m_16, m_20, m_40, m_99, m_999, m_neg, in_within, e1], hI, fun _ _ _ => rfl, fun _ _ => rfl, fun _ _ _ => rfl, fun _ _ => rfl⟩
/-- the reference seeks the least act of that worth -/
theorem w_play {n v : Nat} (hn : n ≤ 3) (hW : WF d) (hlt : d 1 < d 2) (hf' : f = (fun a => zWo d c a + zVl c (min n (d 2 - (d 1 + 1))) 1 (zN d c a))) (hfb : ∀ a, a ≤ d 0 → f a ≤ 200) (hv : v ≤ 200) {g : Nat} (hg : g ≤ d 0) (hgv : f g = v) (hgl : ∀ j, j < g → f j < v) : ∀ m (r : Int32) (X : Mm) fu, m ≤ d 0 + 1 → m < fu → RI X d c → AS 0 X d → AN X 1 → (g < m ∨ r = oi g) → ∃ N', F_X12_play_L46 (oi (n + 1)) (oi v) fu X r (oi m - oi 1) = some (oi g, N') ∧ RI N' d c ∧ AN N' 0 ∧ RZ X N' := by
  have h0 := hW.1
  intro m
  induction m with
  | zero =>
    intro r X fu hm hf hI hA hN hr
    obtain ⟨fu', rfl⟩ : ∃ q, fu = q + 1 := ⟨fu - 1, by omega⟩
    obtain ⟨N2, t1, t2, t3, t4⟩ := r_takT hI (fun _ _ => rfl) hA hN (by omega)
    have hr : r = oi g := hr.resolve_left (by omega)
    refine ⟨N2, ?_, t2, t3, t4⟩
    rw [F_X12_play_L46, s01]
    simp (disch := omega) only [l_0, l_1, l_2, l_3, l_4, l_5, l_6, l_7, l_8, l_9, l_10, l_11, l_12, l_13, l_14, l_15, l_16, l_17, l_18, l_19, l_20, l_21, l_22, l_23, l_24, l_25, l_26, l_27, l_28, l_29, l_30, l_31, l_32, l_33, l_34, l_35, l_36, l_37, l_38, l_39, l_40, l_41, l_42, l_43, l_44, l_45, l_46, l_47, l_48, l_49, l_50, l_51, l_52, l_53, l_54, l_55, l_56, l_57, l_58, l_59, l_60, l_61, l_62, l_63, l_64, l_65, l_66, l_67, l_68, l_69, l_70, l_71, l_72, l_73, l_74, l_75, l_76, l_77, l_78, l_79, l_80, l_81, l_82, l_83, l_84, l_85, l_86, l_87, l_88, l_89, l_90, l_91, l_92, l_93, l_94, l_95, l_96, l_97, l_98, l_99, l_100, l_101, l_102, l_103, l_104, l_105, l_106, l_107, l_108, l_109, l_110, l_111, l_121, l_122, l_160, l_200, l_201, l_240, l_255, l_361, l_390, l_499, l_500, l_999, l_1000, l_10000, l_10099, l_12345, l_16383, l_20000, l_20033, l_20038, l_20124, l_100000, l_1000000, l_1103515245, ui_oi, ck_oi, sb, jc_e, bl_0, bl_1, le_oi, lt_oi, eq_oi, add_oi, mul_oi, div_oi, ir_oi, gi_e, gi_n, if_true, if_false, if_pos, if_neg, true_and, and_true, false_and, and_false, true_or, or_true, false_or, or_false, n01, t1, hr]
  | succ m ih =>
    intro r X fu hm hf hI hA hN hr
    obtain ⟨fu', rfl⟩ : ∃ q, fu = q + 1 := ⟨fu - 1, by omega⟩
    obtain ⟨N2, t1, t2, t3, t4⟩ := r_tide hI hW (a := m) (by omega)
    have hsd := zN_sd (d := d) (c := c) (a := m) (by omega) h0
    have hw2 := zN_w (c := c) hW (a := m) (by omega) hlt
    have q1 : zN d c m 1 = d 1 + 1 := zN_1
    have q2 : zN d c m 2 = d 2 := hsd.o (by omega)
    obtain ⟨N3, r1, r2, r3, r4⟩ := r_val n 1 (zN d c m) 1 N2 8 (by omega) (by omega) (by omega) t2 hw2 ((t3.g (by decide)).trans hN) (by omega)
    rw [q1, q2, show 1 - 1 = 0 by omega] at r1
    obtain ⟨N4, y1, y2, y3, y4⟩ := r_backS r2 hsd ((hA.oc t3 (by decide)).vf r4 (by omega)) r3 (by omega)
    obtain ⟨w, hw⟩ : ∃ w, w = zWo d c m := ⟨_, rfl⟩
    obtain ⟨u, hu⟩ : ∃ u, u = zVl c (min n (d 2 - (d 1 + 1))) 1 (zN d c m) := ⟨_, rfl⟩
    rw [← hw] at t1
    rw [← hu] at r1
    have hfa : f m = w + u := by rw [hf', hw, hu]
    have hwu := hfb m (by omega)
    rw [hfa] at hwu
    have hA4 : AS 0 N4 d := ((hA.oc t3 (by decide)).vf r4 (by omega)).oc y3 (by decide)
    have hN4 : AN N4 1 := (y3.g (by decide)).trans r3
    have hZ4 : RZ X N4 := ((RZ.oc t3 zn3).tr r4.1).tr (RZ.oc y3 zn5)
    have hm1 : oi m + (-1) = oi m - oi 1 := by rw [Int32.sub_eq_add_neg]; rfl
    by_cases he : w + u = v
    · obtain ⟨N', x1, x2, x3, x4⟩ := ih (oi m) N4 fu' (by omega) (by omega) y2 hA4 hN4 (by
        by_cases hgm : g = m
        · exact Or.inr (by rw [hgm])
        · refine Or.inl ?_
          have : ¬ m < g := fun q => by have := hgl m q; omega
          omega)
      refine ⟨N', ?_, x2, x3, hZ4.tr x4⟩
      rw [F_X12_play_L46, sub_oi (by omega), show m + 1 - 1 = m by omega, hm1]
      simp (disch := omega) only [l_0, l_1, l_2, l_3, l_4, l_5, l_6, l_7, l_8, l_9, l_10, l_11, l_12, l_13, l_14, l_15, l_16, l_17, l_18, l_19, l_20, l_21, l_22, l_23, l_24, l_25, l_26, l_27, l_28, l_29, l_30, l_31, l_32, l_33, l_34, l_35, l_36, l_37, l_38, l_39, l_40, l_41, l_42, l_43, l_44, l_45, l_46, l_47, l_48, l_49, l_50, l_51, l_52, l_53, l_54, l_55, l_56, l_57, l_58, l_59, l_60, l_61, l_62, l_63, l_64, l_65, l_66, l_67, l_68, l_69, l_70, l_71, l_72, l_73, l_74, l_75, l_76, l_77, l_78, l_79, l_80, l_81, l_82, l_83, l_84, l_85, l_86, l_87, l_88, l_89, l_90, l_91, l_92, l_93, l_94, l_95, l_96, l_97, l_98, l_99, l_100, l_101, l_102, l_103, l_104, l_105, l_106, l_107, l_108, l_109, l_110, l_111, l_121, l_122, l_160, l_200, l_201, l_240, l_255, l_361, l_390, l_499, l_500, l_999, l_1000, l_10000, l_10099, l_12345, l_16383, l_20000, l_20033, l_20038, l_20124, l_100000, l_1000000, l_1103515245, ui_oi, ck_oi, sb, jc_e, bl_0, bl_1, le_oi, lt_oi, eq_oi, add_oi, mul_oi, div_oi, ir_oi, gi_e, gi_n, if_true, if_false, if_pos, if_neg, true_and, and_true, false_and, and_false, true_or, or_true, false_or, or_false, t1, sub_oi, Nat.add_sub_cancel]
      rw [r1]
      simp (disch := omega) only [l_0, l_1, l_2, l_3, l_4, l_5, l_6, l_7, l_8, l_9, l_10, l_11, l_12, l_13, l_14, l_15, l_16, l_17, l_18, l_19, l_20, l_21, l_22, l_23, l_24, l_25, l_26, l_27, l_28, l_29, l_30, l_31, l_32, l_33, l_34, l_35, l_36, l_37, l_38, l_39, l_40, l_41, l_42, l_43, l_44, l_45, l_46, l_47, l_48, l_49, l_50, l_51, l_52, l_53, l_54, l_55, l_56, l_57, l_58, l_59, l_60, l_61, l_62, l_63, l_64, l_65, l_66, l_67, l_68, l_69, l_70, l_71, l_72, l_73, l_74, l_75, l_76, l_77, l_78, l_79, l_80, l_81, l_82, l_83, l_84, l_85, l_86, l_87, l_88, l_89, l_90, l_91, l_92, l_93, l_94, l_95, l_96, l_97, l_98, l_99, l_100, l_101, l_102, l_103, l_104, l_105, l_106, l_107, l_108, l_109, l_110, l_111, l_121, l_122, l_160, l_200, l_201, l_240, l_255, l_361, l_390, l_499, l_500, l_999, l_1000, l_10000, l_10099, l_12345, l_16383, l_20000, l_20033, l_20038, l_20124, l_100000, l_1000000, l_1103515245, ui_oi, ck_oi, sb, jc_e, bl_0, bl_1, le_oi, lt_oi, eq_oi, add_oi, mul_oi, div_oi, ir_oi, gi_e, gi_n, if_true, if_false, if_pos, if_neg, true_and, and_true, false_and, and_false, true_or, or_true, false_or, or_false, y1, x1]
    · obtain ⟨N', x1, x2, x3, x4⟩ := ih r N4 fu' (by omega) (by omega) y2 hA4 hN4 (by
        rcases hr with hr | hr
        · by_cases hgm : g = m
          · exact absurd (by rw [← hgv, hgm, hfa]) he
          · exact Or.inl (by omega)
        · exact Or.inr hr)
      refine ⟨N', ?_, x2, x3, hZ4.tr x4⟩
      rw [F_X12_play_L46, sub_oi (by omega), show m + 1 - 1 = m by omega, hm1]
      simp (disch := omega) only [l_0, l_1, l_2, l_3, l_4, l_5, l_6, l_7, l_8, l_9, l_10, l_11, l_12, l_13, l_14, l_15, l_16, l_17, l_18, l_19, l_20, l_21, l_22, l_23, l_24, l_25, l_26, l_27, l_28, l_29, l_30, l_31, l_32, l_33, l_34, l_35, l_36, l_37, l_38, l_39, l_40, l_41, l_42, l_43, l_44, l_45, l_46, l_47, l_48, l_49, l_50, l_51, l_52, l_53, l_54, l_55, l_56, l_57, l_58, l_59, l_60, l_61, l_62, l_63, l_64, l_65, l_66, l_67, l_68, l_69, l_70, l_71, l_72, l_73, l_74, l_75, l_76, l_77, l_78, l_79, l_80, l_81, l_82, l_83, l_84, l_85, l_86, l_87, l_88, l_89, l_90, l_91, l_92, l_93, l_94, l_95, l_96, l_97, l_98, l_99, l_100, l_101, l_102, l_103, l_104, l_105, l_106, l_107, l_108, l_109, l_110, l_111, l_121, l_122, l_160, l_200, l_201, l_240, l_255, l_361, l_390, l_499, l_500, l_999, l_1000, l_10000, l_10099, l_12345, l_16383, l_20000, l_20033, l_20038, l_20124, l_100000, l_1000000, l_1103515245, ui_oi, ck_oi, sb, jc_e, bl_0, bl_1, le_oi, lt_oi, eq_oi, add_oi, mul_oi, div_oi, ir_oi, gi_e, gi_n, if_true, if_false, if_pos, if_neg, true_and, and_true, false_and, and_false, true_or, or_true, false_or, or_false, t1, sub_oi, Nat.add_sub_cancel]
      rw [r1]
      simp (disch := omega) only [l_0, l_1, l_2, l_3, l_4, l_5, l_6, l_7, l_8, l_9, l_10, l_11, l_12, l_13, l_14, l_15, l_16, l_17, l_18, l_19, l_20, l_21, l_22, l_23, l_24, l_25, l_26, l_27, l_28, l_29, l_30, l_31, l_32, l_33, l_34, l_35, l_36, l_37, l_38, l_39, l_40, l_41, l_42, l_43, l_44, l_45, l_46, l_47, l_48, l_49, l_50, l_51, l_52, l_53, l_54, l_55, l_56, l_57, l_58, l_59, l_60, l_61, l_62, l_63, l_64, l_65, l_66, l_67, l_68, l_69, l_70, l_71, l_72, l_73, l_74, l_75, l_76, l_77, l_78, l_79, l_80, l_81, l_82, l_83, l_84, l_85, l_86, l_87, l_88, l_89, l_90, l_91, l_92, l_93, l_94, l_95, l_96, l_97, l_98, l_99, l_100, l_101, l_102, l_103, l_104, l_105, l_106, l_107, l_108, l_109, l_110, l_111, l_121, l_122, l_160, l_200, l_201, l_240, l_255, l_361, l_390, l_499, l_500, l_999, l_1000, l_10000, l_10099, l_12345, l_16383, l_20000, l_20033, l_20038, l_20124, l_100000, l_1000000, l_1103515245, ui_oi, ck_oi, sb, jc_e, bl_0, bl_1, le_oi, lt_oi, eq_oi, add_oi, mul_oi, div_oi, ir_oi, gi_e, gi_n, if_true, if_false, if_pos, if_neg, true_and, and_true, false_and, and_false, true_or, or_true, false_or, or_false, y1, x1]
theorem q_play (v1 : Int32) : Cl (fun M => F_X11_play M v1) (fun M => F_X12_play M v1) := by
  refine Cl.vs (fun M N d c hI => ?_)
  obtain ⟨hV, hF, h3, h4, hRI, hW, hA⟩ := id hI
  have h0 := hW.1
  have h12 := hW.2.1
  try dsimp only
  unfold F_X11_play F_X12_play
  rcases win v1 1 4 (by omega) (by omega) with ⟨n, hn0, hn, rfl, e1⟩ | ⟨e1, -⟩
  · have hov1 := c_over hV hF hW
    have hov2 := r_over hRI.1 hW
    by_cases hlt : d 1 < d 2
    · rw [if_pos hlt] at hov1 hov2
      obtain ⟨n, rfl⟩ : ∃ q, n = q + 1 := ⟨n - 1, by omega⟩
      obtain ⟨M', x1, x2, x3⟩ := c_game hI hn
      obtain ⟨N1, y1, y2, y3, y4⟩ := r_val (n + 1) 0 d 0 N 8 hn (by omega) (by omega) hRI hW hA (by omega)
      rw [show 1 - 0 = 1 by omega] at y1
      have hmin : min (n + 1) (d 2 - d 1) = min n (d 2 - (d 1 + 1)) + 1 := by omega
      rw [hmin] at x1 x3 y1
      rw [Nat.add_sub_cancel] at x3
      have hx := x3 (by omega)
      obtain ⟨f, hf'⟩ : ∃ f, f = (fun a => zWo d c a + zVl c (min n (d 2 - (d 1 + 1))) 1 (zN d c a)) := ⟨_, rfl⟩
      rw [← hf'] at hx
      have hz : zVl c (min n (d 2 - (d 1 + 1)) + 1) 0 d = zMx 0 f (d 0) := by rw [zVl, hf']
      rw [hz] at x1 y1
      have hfb : ∀ a, a ≤ d 0 → f a ≤ 200 := fun a ha => by
        have h1 := zWo_le (c := c) hW ha
        have hs := zN_sd (d := d) (c := c) (a := a) (by omega) h0
        have h2 := zVl_le (c := c) (min n (d 2 - (d 1 + 1))) 1 (zN d c a) (zN_w hW ha hlt) (by rw [zN_1, hs.o (by omega)]; omega)
        rw [hf']
        try dsimp only
        omega
      obtain ⟨g1, g2, g3⟩ := zAg_ok (f := f) (d 0)
      obtain ⟨N2, k1, k2, k3, k4, k5⟩ := r_put0 y2 y3
      obtain ⟨N', z1, z2, z3, z4⟩ := w_play (v := zMx 0 f (d 0)) (by omega) hW hlt hf' hfb (zMx_le (d 0) hfb) g1 g2 g3 (d 0 + 1) (- oi 3) N2 1000 (by omega) (by omega) k2 k3 k4 (Or.inl (by omega))
      rw [sub_oi (by omega), Nat.add_sub_cancel] at z1
      have hZ := (y4.1.tr k5).tr z4
      exact ⟨oi (zAg f (d 0)), M', N', d, c, by simp (disch := omega) only [l_0, l_1, l_2, l_3, l_4, l_5, l_6, l_7, l_8, l_9, l_10, l_11, l_12, l_13, l_14, l_15, l_16, l_17, l_18, l_19, l_20, l_21, l_22, l_23, l_24, l_25, l_26, l_27, l_28, l_29, l_30, l_31, l_32, l_33, l_34, l_35, l_36, l_37, l_38, l_39, l_40, l_41, l_42, l_43, l_44, l_45, l_46, l_47, l_48, l_49, l_50, l_51, l_52, l_53, l_54, l_55, l_56, l_57, l_58, l_59, l_60, l_61, l_62, l_63, l_64, l_65, l_66, l_67, l_68, l_69, l_70, l_71, l_72, l_73, l_74, l_75, l_76, l_77, l_78, l_79, l_80, l_81, l_82, l_83, l_84, l_85, l_86, l_87, l_88, l_89, l_90, l_91, l_92, l_93, l_94, l_95, l_96, l_97, l_98, l_99, l_100, l_101, l_102, l_103, l_104, l_105, l_106, l_107, l_108, l_109, l_110, l_111, l_121, l_122, l_160, l_200, l_201, l_240, l_255, l_361, l_390, l_499, l_500, l_999, l_1000, l_10000, l_10099, l_12345, l_16383, l_20000, l_20033, l_20038, l_20124, l_100000, l_1000000, l_1103515245, ui_oi, ck_oi, sb, jc_e, bl_0, bl_1, le_oi, lt_oi, eq_oi, add_oi, mul_oi, div_oi, ir_oi, gi_e, gi_n, if_true, if_false, if_pos, if_neg, true_and, and_true, false_and, and_false, true_or, or_true, false_or, or_false, m_0, m_1, m_2, m_3, m_4, m_5, m_8, m_9, m_10, m_14, m_15, m_16, m_20, m_40, m_99, m_999, m_neg, in_within, e1, hov1, x1, hx], by simp (disch := omega) only [l_0, l_1, l_2, l_3, l_4, l_5, l_6, l_7, l_8, l_9, l_10, l_11, l_12, l_13, l_14, l_15, l_16, l_17, l_18, l_19, l_20, l_21, l_22, l_23, l_24, l_25, l_26, l_27, l_28, l_29, l_30, l_31, l_32, l_33, l_34, l_35, l_36, l_37, l_38, l_39, l_40, l_41, l_42, l_43, l_44, l_45, l_46, l_47, l_48, l_49, l_50, l_51, l_52, l_53, l_54, l_55, l_56, l_57, l_58, l_59, l_60, l_61, l_62, l_63, l_64, l_65, l_66, l_67, l_68, l_69, l_70, l_71, l_72, l_73, l_74, l_75, l_76, l_77, l_78, l_79, l_80, l_81, l_82, l_83, l_84, l_85, l_86, l_87, l_88, l_89, l_90, l_91, l_92, l_93, l_94, l_95, l_96, l_97, l_98, l_99, l_100, l_101, l_102, l_103, l_104, l_105, l_106, l_107, l_108, l_109, l_110, l_111, l_121, l_122, l_160, l_200, l_201, l_240, l_255, l_361, l_390, l_499, l_500, l_999, l_1000, l_10000, l_10099, l_12345, l_16383, l_20000, l_20033, l_20038, l_20124, l_100000, l_1000000, l_1103515245, ui_oi, ck_oi, sb, jc_e, bl_0, bl_1, le_oi, lt_oi, eq_oi, add_oi, mul_oi, div_oi, ir_oi, gi_e, gi_n, if_true, if_false, if_pos, if_neg, true_and, and_true, false_and, and_false, true_or, or_true, false_or, or_false, m_0, m_1, m_2, m_3, m_4, m_5, m_8, m_9, m_10, m_14, m_15, m_16, m_20, m_40, m_99, m_999, m_neg, in_within, e1, hov2, y1, k1, k2.1.g, z1], hI.tc x2 z2 z3, zmT.m x2, zmT.f x2, hZ.1, hZ.2⟩
    · rw [if_neg hlt] at hov1 hov2
      exact ⟨-3, M, N, d, c, by simp (disch := omega) only [l_0, l_1, l_2, l_3, l_4, l_5, l_6, l_7, l_8, l_9, l_10, l_11, l_12, l_13, l_14, l_15, l_16, l_17, l_18, l_19, l_20, l_21, l_22, l_23, l_24, l_25, l_26, l_27, l_28, l_29, l_30, l_31, l_32, l_33, l_34, l_35, l_36, l_37, l_38, l_39, l_40, l_41, l_42, l_43, l_44, l_45, l_46, l_47, l_48, l_49, l_50, l_51, l_52, l_53, l_54, l_55, l_56, l_57, l_58, l_59, l_60, l_61, l_62, l_63, l_64, l_65, l_66, l_67, l_68, l_69, l_70, l_71, l_72, l_73, l_74, l_75, l_76, l_77, l_78, l_79, l_80, l_81, l_82, l_83, l_84, l_85, l_86, l_87, l_88, l_89, l_90, l_91, l_92, l_93, l_94, l_95, l_96, l_97, l_98, l_99, l_100, l_101, l_102, l_103, l_104, l_105, l_106, l_107, l_108, l_109, l_110, l_111, l_121, l_122, l_160, l_200, l_201, l_240, l_255, l_361, l_390, l_499, l_500, l_999, l_1000, l_10000, l_10099, l_12345, l_16383, l_20000, l_20033, l_20038, l_20124, l_100000, l_1000000, l_1103515245, ui_oi, ck_oi, sb, jc_e, bl_0, bl_1, le_oi, lt_oi, eq_oi, add_oi, mul_oi, div_oi, ir_oi, gi_e, gi_n, if_true, if_false, if_pos, if_neg, true_and, and_true, false_and, and_false, true_or, or_true, false_or, or_false, m_0, m_1, m_2, m_3, m_4, m_5, m_8, m_9, m_10, m_14, m_15, m_16, m_20, m_40, m_99, m_999, m_neg, in_within, e1, hov1], by simp (disch := omega) only [l_0, l_1, l_2, l_3, l_4, l_5, l_6, l_7, l_8, l_9, l_10, l_11, l_12, l_13, l_14, l_15, l_16, l_17, l_18, l_19, l_20, l_21, l_22, l_23, l_24, l_25, l_26, l_27, l_28, l_29, l_30, l_31, l_32, l_33, l_34, l_35, l_36, l_37, l_38, l_39, l_40, l_41, l_42, l_43, l_44, l_45, l_46, l_47, l_48, l_49, l_50, l_51, l_52, l_53, l_54, l_55, l_56, l_57, l_58, l_59, l_60, l_61, l_62, l_63, l_64, l_65, l_66, l_67, l_68, l_69, l_70, l_71, l_72, l_73, l_74, l_75, l_76, l_77, l_78, l_79, l_80, l_81, l_82, l_83, l_84, l_85, l_86, l_87, l_88, l_89, l_90, l_91, l_92, l_93, l_94, l_95, l_96, l_97, l_98, l_99, l_100, l_101, l_102, l_103, l_104, l_105, l_106, l_107, l_108, l_109, l_110, l_111, l_121, l_122, l_160, l_200, l_201, l_240, l_255, l_361, l_390, l_499, l_500, l_999, l_1000, l_10000, l_10099, l_12345, l_16383, l_20000, l_20033, l_20038, l_20124, l_100000, l_1000000, l_1103515245, ui_oi, ck_oi, sb, jc_e, bl_0, bl_1, le_oi, lt_oi, eq_oi, add_oi, mul_oi, div_oi, ir_oi, gi_e, gi_n, if_true, if_false, if_pos, if_neg, true_and, and_true, false_and, and_false, true_or, or_true, false_or, or_false, m_0, m_1, m_2, m_3, m_4, m_5, m_8, m_9, m_10, m_14, m_15, m_16, m_20, m_40, m_99, m_999, m_neg, in_within, e1, hov2], hI, fun _ _ _ => rfl, fun _ _ => rfl, fun _ _ _ => rfl, fun _ _ => rfl⟩
  · exact ⟨-1, M, N, d, c, by simp (disch := omega) only [l_0, l_1, l_2, l_3, l_4, l_5, l_6, l_7, l_8, l_9, l_10, l_11, l_12, l_13, l_14, l_15, l_16, l_17, l_18, l_19, l_20, l_21, l_22, l_23, l_24, l_25, l_26, l_27, l_28, l_29, l_30, l_31, l_32, l_33, l_34, l_35, l_36, l_37, l_38, l_39, l_40, l_41, l_42, l_43, l_44, l_45, l_46, l_47, l_48, l_49, l_50, l_51, l_52, l_53, l_54, l_55, l_56, l_57, l_58, l_59, l_60, l_61, l_62, l_63, l_64, l_65, l_66, l_67, l_68, l_69, l_70, l_71, l_72, l_73, l_74, l_75, l_76, l_77, l_78, l_79, l_80, l_81, l_82, l_83, l_84, l_85, l_86, l_87, l_88, l_89, l_90, l_91, l_92, l_93, l_94, l_95, l_96, l_97, l_98, l_99, l_100, l_101, l_102, l_103, l_104, l_105, l_106, l_107, l_108, l_109, l_110, l_111, l_121, l_122, l_160, l_200, l_201, l_240, l_255, l_361, l_390, l_499, l_500, l_999, l_1000, l_10000, l_10099, l_12345, l_16383, l_20000, l_20033, l_20038, l_20124, l_100000, l_1000000, l_1103515245, ui_oi, ck_oi, sb, jc_e, bl_0, bl_1, le_oi, lt_oi, eq_oi, add_oi, mul_oi, div_oi, ir_oi, gi_e, gi_n, if_true, if_false, if_pos, if_neg, true_and, and_true, false_and, and_false, true_or, or_true, false_or, or_false, m_0, m_1, m_2, m_3, m_4, m_5, m_8, m_9, m_10, m_14, m_15, m_16, m_20, m_40, m_99, m_999, m_neg, in_within, e1], by simp (disch := omega) only [l_0, l_1, l_2, l_3, l_4, l_5, l_6, l_7, l_8, l_9, l_10, l_11, l_12, l_13, l_14, l_15, l_16, l_17, l_18, l_19, l_20, l_21, l_22, l_23, l_24, l_25, l_26, l_27, l_28, l_29, l_30, l_31, l_32, l_33, l_34, l_35, l_36, l_37, l_38, l_39, l_40, l_41, l_42, l_43, l_44, l_45, l_46, l_47, l_48, l_49, l_50, l_51, l_52, l_53, l_54, l_55, l_56, l_57, l_58, l_59, l_60, l_61, l_62, l_63, l_64, l_65, l_66, l_67, l_68, l_69, l_70, l_71, l_72, l_73, l_74, l_75, l_76, l_77, l_78, l_79, l_80, l_81, l_82, l_83, l_84, l_85, l_86, l_87, l_88, l_89, l_90, l_91, l_92, l_93, l_94, l_95, l_96, l_97, l_98, l_99, l_100, l_101, l_102, l_103, l_104, l_105, l_106, l_107, l_108, l_109, l_110, l_111, l_121, l_122, l_160, l_200, l_201, l_240, l_255, l_361, l_390, l_499, l_500, l_999, l_1000, l_10000, l_10099, l_12345, l_16383, l_20000, l_20033, l_20038, l_20124, l_100000, l_1000000, l_1103515245, ui_oi, ck_oi, sb, jc_e, bl_0, bl_1, le_oi, lt_oi, eq_oi, add_oi, mul_oi, div_oi, ir_oi, gi_e, gi_n, if_true, if_false, if_pos, if_neg, true_and, and_true, false_and, and_false, true_or, or_true, false_or, or_false, m_0, m_1, m_2, m_3, m_4, m_5, m_8, m_9, m_10, m_14, m_15, m_16, m_20, m_40, m_99, m_999, m_neg, in_within, e1], hI, fun _ _ _ => rfl, fun _ _ => rfl, fun _ _ _ => rfl, fun _ _ => rfl⟩
end GB

/-! PLANS: the reference's way through them -/
section PR
variable {M N M' N' N1 : Mm} {d : Nat → Nat} {c : Cnd} {L b k : Nat} {W A : Nat → Nat} {S : Nat → Int32} {want : Int32} {p : Nat}
theorem r_long {n : Nat} (hR : RR N d) (hW : WF d) (hn : n ≤ 16) : F_X12_longOf N (oi n) = some (oi (min n (d 2 - d 1))) := by
  have h12 := hW.2.1
  have h16 := hW.2.2.1
  have e1 : max 0 (min (d 2 - d 1) 16) = d 2 - d 1 := by omega
  have e2 : max 0 (min n (d 2 - d 1)) = min n (d 2 - d 1) := by omega
  unfold F_X12_longOf
  simp (disch := omega) only [l_0, l_1, l_2, l_3, l_4, l_5, l_6, l_7, l_8, l_9, l_10, l_11, l_12, l_13, l_14, l_15, l_16, l_17, l_18, l_19, l_20, l_21, l_22, l_23, l_24, l_25, l_26, l_27, l_28, l_29, l_30, l_31, l_32, l_33, l_34, l_35, l_36, l_37, l_38, l_39, l_40, l_41, l_42, l_43, l_44, l_45, l_46, l_47, l_48, l_49, l_50, l_51, l_52, l_53, l_54, l_55, l_56, l_57, l_58, l_59, l_60, l_61, l_62, l_63, l_64, l_65, l_66, l_67, l_68, l_69, l_70, l_71, l_72, l_73, l_74, l_75, l_76, l_77, l_78, l_79, l_80, l_81, l_82, l_83, l_84, l_85, l_86, l_87, l_88, l_89, l_90, l_91, l_92, l_93, l_94, l_95, l_96, l_97, l_98, l_99, l_100, l_101, l_102, l_103, l_104, l_105, l_106, l_107, l_108, l_109, l_110, l_111, l_121, l_122, l_160, l_200, l_201, l_240, l_255, l_361, l_390, l_499, l_500, l_999, l_1000, l_10000, l_10099, l_12345, l_16383, l_20000, l_20033, l_20038, l_20124, l_100000, l_1000000, l_1103515245, ui_oi, ck_oi, sb, jc_e, bl_0, bl_1, le_oi, lt_oi, eq_oi, add_oi, mul_oi, div_oi, ir_oi, gi_e, gi_n, if_true, if_false, if_pos, if_neg, true_and, and_true, false_and, and_false, true_or, or_true, false_or, or_false, hR.g, sub_oi h12, r_held, e1, e2]
theorem r_plans {n : Nat} (hR : RR N d) (hW : WF d) (hn : n ≤ 4) : F_X12_plansOf N (oi n) = some (oi ((d 0 + 1) ^ min n (d 2 - d 1))) := by
  have h0 := hW.1
  unfold F_X12_plansOf
  refine lp_up (L := fun m a x => F_X12_plansOf_L4 N (oi n) m a x) (n := min n (d 2 - d 1)) (a := fun j => oi ((d 0 + 1) ^ j)) (fun j m hj => ?_) (fun m => ?_) (min n (d 2 - d 1)) 0 1000 (by omega) (by omega)
  · try dsimp only
    rw [F_X12_plansOf_L4]
    have hp := pw_le (d 0 + 1) (by omega) j (by omega)
    simp (disch := omega) only [l_0, l_1, l_2, l_3, l_4, l_5, l_6, l_7, l_8, l_9, l_10, l_11, l_12, l_13, l_14, l_15, l_16, l_17, l_18, l_19, l_20, l_21, l_22, l_23, l_24, l_25, l_26, l_27, l_28, l_29, l_30, l_31, l_32, l_33, l_34, l_35, l_36, l_37, l_38, l_39, l_40, l_41, l_42, l_43, l_44, l_45, l_46, l_47, l_48, l_49, l_50, l_51, l_52, l_53, l_54, l_55, l_56, l_57, l_58, l_59, l_60, l_61, l_62, l_63, l_64, l_65, l_66, l_67, l_68, l_69, l_70, l_71, l_72, l_73, l_74, l_75, l_76, l_77, l_78, l_79, l_80, l_81, l_82, l_83, l_84, l_85, l_86, l_87, l_88, l_89, l_90, l_91, l_92, l_93, l_94, l_95, l_96, l_97, l_98, l_99, l_100, l_101, l_102, l_103, l_104, l_105, l_106, l_107, l_108, l_109, l_110, l_111, l_121, l_122, l_160, l_200, l_201, l_240, l_255, l_361, l_390, l_499, l_500, l_999, l_1000, l_10000, l_10099, l_12345, l_16383, l_20000, l_20033, l_20038, l_20124, l_100000, l_1000000, l_1103515245, ui_oi, ck_oi, sb, jc_e, bl_0, bl_1, le_oi, lt_oi, eq_oi, add_oi, mul_oi, div_oi, ir_oi, gi_e, gi_n, if_true, if_false, if_pos, if_neg, true_and, and_true, false_and, and_false, true_or, or_true, false_or, or_false, r_long hR hW, hR.g, Nat.pow_succ]
  · try dsimp only
    rw [F_X12_plansOf_L4]
    simp (disch := omega) only [l_0, l_1, l_2, l_3, l_4, l_5, l_6, l_7, l_8, l_9, l_10, l_11, l_12, l_13, l_14, l_15, l_16, l_17, l_18, l_19, l_20, l_21, l_22, l_23, l_24, l_25, l_26, l_27, l_28, l_29, l_30, l_31, l_32, l_33, l_34, l_35, l_36, l_37, l_38, l_39, l_40, l_41, l_42, l_43, l_44, l_45, l_46, l_47, l_48, l_49, l_50, l_51, l_52, l_53, l_54, l_55, l_56, l_57, l_58, l_59, l_60, l_61, l_62, l_63, l_64, l_65, l_66, l_67, l_68, l_69, l_70, l_71, l_72, l_73, l_74, l_75, l_76, l_77, l_78, l_79, l_80, l_81, l_82, l_83, l_84, l_85, l_86, l_87, l_88, l_89, l_90, l_91, l_92, l_93, l_94, l_95, l_96, l_97, l_98, l_99, l_100, l_101, l_102, l_103, l_104, l_105, l_106, l_107, l_108, l_109, l_110, l_111, l_121, l_122, l_160, l_200, l_201, l_240, l_255, l_361, l_390, l_499, l_500, l_999, l_1000, l_10000, l_10099, l_12345, l_16383, l_20000, l_20033, l_20038, l_20124, l_100000, l_1000000, l_1103515245, ui_oi, ck_oi, sb, jc_e, bl_0, bl_1, le_oi, lt_oi, eq_oi, add_oi, mul_oi, div_oi, ir_oi, gi_e, gi_n, if_true, if_false, if_pos, if_neg, true_and, and_true, false_and, and_false, true_or, or_true, false_or, or_false, r_long hR hW]
theorem r_acts (hW : WF d) (hb : b = d 0 + 1) : ∀ i v fu (N : Mm), RR N d → i ≤ 4 → v < 3000 → i < fu → ∃ N', F_X12_actsOf_L7 fu N (oi v) (oi i - oi 1) = some N' ∧ (∀ j, j < i → gi N' 103 j = oi (v / b ^ (i - 1 - j) % b)) ∧ (∀ j, i ≤ j → gi N' 103 j = gi N 103 j) ∧ Oc [103] N N' := by
  have h0 := hW.1
  intro i
  induction i with
  | zero =>
    intro v fu N hR hi hv hf
    obtain ⟨fu', rfl⟩ : ∃ q, fu = q + 1 := ⟨fu - 1, by omega⟩
    refine ⟨N, ?_, fun j hj => by omega, fun _ _ => rfl, Oc.rf⟩
    rw [F_X12_actsOf_L7, s01]
    simp (disch := omega) only [l_0, l_1, l_2, l_3, l_4, l_5, l_6, l_7, l_8, l_9, l_10, l_11, l_12, l_13, l_14, l_15, l_16, l_17, l_18, l_19, l_20, l_21, l_22, l_23, l_24, l_25, l_26, l_27, l_28, l_29, l_30, l_31, l_32, l_33, l_34, l_35, l_36, l_37, l_38, l_39, l_40, l_41, l_42, l_43, l_44, l_45, l_46, l_47, l_48, l_49, l_50, l_51, l_52, l_53, l_54, l_55, l_56, l_57, l_58, l_59, l_60, l_61, l_62, l_63, l_64, l_65, l_66, l_67, l_68, l_69, l_70, l_71, l_72, l_73, l_74, l_75, l_76, l_77, l_78, l_79, l_80, l_81, l_82, l_83, l_84, l_85, l_86, l_87, l_88, l_89, l_90, l_91, l_92, l_93, l_94, l_95, l_96, l_97, l_98, l_99, l_100, l_101, l_102, l_103, l_104, l_105, l_106, l_107, l_108, l_109, l_110, l_111, l_121, l_122, l_160, l_200, l_201, l_240, l_255, l_361, l_390, l_499, l_500, l_999, l_1000, l_10000, l_10099, l_12345, l_16383, l_20000, l_20033, l_20038, l_20124, l_100000, l_1000000, l_1103515245, ui_oi, ck_oi, sb, jc_e, bl_0, bl_1, le_oi, lt_oi, eq_oi, add_oi, mul_oi, div_oi, ir_oi, gi_e, gi_n, if_true, if_false, if_pos, if_neg, true_and, and_true, false_and, and_false, true_or, or_true, false_or, or_false, n01]
  | succ i ih =>
    intro v fu N hR hi hv hf
    obtain ⟨fu', rfl⟩ : ∃ q, fu = q + 1 := ⟨fu - 1, by omega⟩
    have hO : Oc [103] N (si N 103 i (oi (v % b))) := Oc.si (by simp)
    have hvb : v / b < 3000 := Nat.lt_of_le_of_lt (Nat.div_le_self v b) hv
    obtain ⟨N', e1, e2, e3, e4⟩ := ih (v / b) fu' (si N 103 i (oi (v % b))) (hR.oc hO (by decide)) (by omega) hvb (by omega)
    have hnz : ¬ oi (d 0 + 1) = oi 0 := by rw [eq_oi (by omega) (by omega)]; omega
    have hm1 : oi i + (-1) = oi i - oi 1 := by rw [Int32.sub_eq_add_neg]; rfl
    refine ⟨N', ?_, fun j hj => ?_, fun j hj => by rw [e3 j (by omega), gi_n (by omega)], hO.tr e4 (fun c hc => ⟨hc, hc⟩)⟩
    · rw [F_X12_actsOf_L7, sub_oi (by omega), show i + 1 - 1 = i by omega, hm1]
      rw [hb] at e1
      simp (disch := omega) only [l_0, l_1, l_2, l_3, l_4, l_5, l_6, l_7, l_8, l_9, l_10, l_11, l_12, l_13, l_14, l_15, l_16, l_17, l_18, l_19, l_20, l_21, l_22, l_23, l_24, l_25, l_26, l_27, l_28, l_29, l_30, l_31, l_32, l_33, l_34, l_35, l_36, l_37, l_38, l_39, l_40, l_41, l_42, l_43, l_44, l_45, l_46, l_47, l_48, l_49, l_50, l_51, l_52, l_53, l_54, l_55, l_56, l_57, l_58, l_59, l_60, l_61, l_62, l_63, l_64, l_65, l_66, l_67, l_68, l_69, l_70, l_71, l_72, l_73, l_74, l_75, l_76, l_77, l_78, l_79, l_80, l_81, l_82, l_83, l_84, l_85, l_86, l_87, l_88, l_89, l_90, l_91, l_92, l_93, l_94, l_95, l_96, l_97, l_98, l_99, l_100, l_101, l_102, l_103, l_104, l_105, l_106, l_107, l_108, l_109, l_110, l_111, l_121, l_122, l_160, l_200, l_201, l_240, l_255, l_361, l_390, l_499, l_500, l_999, l_1000, l_10000, l_10099, l_12345, l_16383, l_20000, l_20033, l_20038, l_20124, l_100000, l_1000000, l_1103515245, ui_oi, ck_oi, sb, jc_e, bl_0, bl_1, le_oi, lt_oi, eq_oi, add_oi, mul_oi, div_oi, ir_oi, gi_e, gi_n, if_true, if_false, if_pos, if_neg, true_and, and_true, false_and, and_false, true_or, or_true, false_or, or_false, hR.g, nz_of hnz, e1]
    · by_cases hji : j = i
      · subst hji
        rw [e3 j (by omega), gi_e, show j + 1 - 1 - j = 0 by omega, Nat.pow_zero, Nat.div_one]
      · rw [e2 j (by omega), Nat.div_div_eq_div_mul, ← Nat.pow_succ', show i + 1 - 1 - j = i - 1 - j + 1 by omega]
theorem zPd_n {t : Nat} (hb : b = d 0 + 1) (ht : t < L) : zPd c d (t + 1) (p / b ^ (L - (t + 1))) = zN (zPd c d t (p / b ^ (L - t))) c (p / b ^ (L - 1 - t) % b) := by
  rw [zPd, ← hb, Nat.div_div_eq_div_mul, ← Nat.pow_succ, show (L - (t + 1)).succ = L - t by omega, show L - (t + 1) = L - 1 - t by omega]
theorem zPw_n {t : Nat} (hb : b = d 0 + 1) (ht : t < L) : zPw c d (t + 1) (p / b ^ (L - (t + 1))) = zPw c d t (p / b ^ (L - t)) + zWo (zPd c d t (p / b ^ (L - t))) c (p / b ^ (L - 1 - t) % b) := by
  rw [zPw, ← hb, Nat.div_div_eq_div_mul, ← Nat.pow_succ, show (L - (t + 1)).succ = L - t by omega, show L - (t + 1) = L - 1 - t by omega]
theorem zPa_n {t : Nat} (ht : t < L) : zPa b (t + 1) (p / b ^ (L - (t + 1))) = zPa b t (p / b ^ (L - t)) + (if p / b ^ (L - 1 - t) % b = 0 then 0 else 1) := by
  rw [zPa, Nat.div_div_eq_div_mul, ← Nat.pow_succ, show (L - (t + 1)).succ = L - t by omega, show L - (t + 1) = L - 1 - t by omega]
theorem w_plan {β : Type} {F : Nat → Mm → Int32 → Int32 → Option β} {V : Nat → Nat} (hb : b = d 0 + 1) (hW : WF d) (hd : d 1 + L ≤ d 2) (hs : ∀ fu N N2 t, t < L → gi N 103 t = oi (p / b ^ (L - 1 - t) % b) → F_X12_tideGoes N (oi (p / b ^ (L - 1 - t) % b)) = some (oi (zWo (zPd c d t (p / b ^ (L - t))) c (p / b ^ (L - 1 - t) % b)), N2) → F (fu + 1) N (oi (V t)) (oi t) = F fu N2 (oi (V (t + 1))) (oi (t + 1))) : ∀ m t (N : Mm) fu, t + m = L → m < fu → RI N (zPd c d t (p / b ^ (L - t))) c → (∀ i, i < L → gi N 103 i = oi (p / b ^ (L - 1 - i) % b)) → ∃ fu' N', F fu N (oi (V t)) (oi t) = F (fu' + 1) N' (oi (V L)) (oi L) ∧ RI N' (zPd c d L p) c ∧ Oc [95, 98, 99] N N' := by
  intro m
  induction m with
  | zero =>
    intro t N fu ht hf hI hA
    obtain ⟨fu', rfl⟩ : ∃ q, fu = q + 1 := ⟨fu - 1, by omega⟩
    obtain rfl : t = L := by omega
    rw [show t - t = 0 by omega, Nat.pow_zero, Nat.div_one] at hI
    exact ⟨fu', N, rfl, hI, Oc.rf⟩
  | succ m ih =>
    intro t N fu ht hf hI hA
    obtain ⟨fu', rfl⟩ : ∃ q, fu = q + 1 := ⟨fu - 1, by omega⟩
    obtain ⟨w1, w2, w3⟩ := zPd_w (c := c) hW t (p / b ^ (L - t)) (by omega)
    have e0 : zPd c d t (p / b ^ (L - t)) 0 = d 0 := w2.o (by omega)
    have hm : p / b ^ (L - 1 - t) % b ≤ d 0 := by
      have := Nat.mod_lt (p / b ^ (L - 1 - t)) (show b > 0 by omega)
      omega
    obtain ⟨N2, t1, t2, t3, t4⟩ := r_tide hI w1 (a := p / b ^ (L - 1 - t) % b) (by omega)
    rw [hs fu' N N2 t (by omega) (hA t (by omega)) t1]
    rw [← zPd_n hb (by omega)] at t2
    obtain ⟨fu2, N', x1, x2, x3⟩ := ih (t + 1) N2 fu' (by omega) (by omega) t2 (fun i hi => (t3.g (by decide)).trans (hA i hi))
    exact ⟨fu2, N', x1, x2, t3.tr x3 (fun c hc => ⟨hc, hc⟩)⟩
theorem RZ.s94 {j : Nat} {v : Int32} (h : j ≠ 2 ∧ j ≠ 8 ∧ j ≠ 28 ∧ j ≠ 36) : RZ N (si N 94 j v) := ⟨fun x i q => gi_n (by unfold ZN at q; omega), fun x hx => si_ne (by omega)⟩
theorem zn103 : Zn [103] := fun x hx => by simp at hx; omega
theorem neg1_lt (x : Nat) (h : x < 1000) : (oi x ≤ - oi 1) ↔ False := ⟨fun q => absurd (neg_lt_oi (a := x) (b := 1) (by omega) (by omega) (by omega)) (Int32.not_lt.mpr q), False.elim⟩
/-- the reference looks for the best -/
theorem r_findBest {n : Nat} (hI : RI N d c) (hW : WF d) (hN : AN N 0) (hn : n ≤ 4) (hL : L = min n (d 2 - d 1)) (hb : b = d 0 + 1) : ∃ N', F_X12_findBest N (oi n) = some N' ∧ RI N' d c ∧ AN N' 0 ∧ RZ N N' ∧ gi N' 94 20 = oi (zBm (zPw c d L) (b ^ L)) ∧ gi N' 94 21 = oi (zBf (zPw c d L) (b ^ L)) ∧ gi N' 94 22 = oi (zBt (zPw c d L) (b ^ L)) := by
  have h12 := hW.2.1
  have h0 := hW.1
  have hL4 : L ≤ 4 := by omega
  have hP := pw_le b (by omega) L hL4
  have hP0 : 0 < b ^ L := Nat.pow_pos (by omega)
  have hwl : ∀ p, zPw c d L p ≤ 200 := fun p => by have := zPw_le (c := c) hW L p (by omega); omega
  obtain ⟨N1, k1, k2, k3, k4, k5⟩ := r_put0 (N := si N 94 20 (- oi 1)) (hI.oc (S := [94]) (Oc.si (by simp)) (by decide)) (by unfold AN; rw [gi_n (by omega)]; exact hN)
  unfold F_X12_findBest
  rw [r_long hI.1 hW (by omega), sb, r_plans hI.1 hW hn, sb, ← hL, ← hb]
  rw [show (-1 : Int32) = - oi 1 from rfl, k1, sb, l_0]
  have k20 : gi N1 94 20 = - oi 1 := by
    obtain ⟨N9, j1, j2, j3, j4, j5⟩ := r_puts (N := si N 94 20 (- oi 1)) (d := d) (n := 0) (hI.1.oc (S := [94]) (Oc.si (by simp)) (by decide)) (by unfold AN; rw [gi_n (by omega)]; exact hN) (by omega)
    rw [k1] at j1
    cases j1
    rw [j4 94 20 (by omega) (by omega), gi_e]
  refine (lp_inv (L := fun m x y => F_X12_findBest_L24 (oi L) (oi (b ^ L)) m x y) (n := b ^ L) (I := fun p x => RI x d c ∧ AS 0 x d ∧ AN x 1 ∧ RZ N1 x ∧ (p = 0 → gi x 94 20 = - oi 1) ∧ (p ≠ 0 → gi x 94 20 = oi (zBm (zPw c d L) p) ∧ gi x 94 21 = oi (zBf (zPw c d L) p) ∧ gi x 94 22 = oi (zBt (zPw c d L) p))) (Q := fun r => RI r d c ∧ AN r 0 ∧ RZ N1 r ∧ gi r 94 20 = oi (zBm (zPw c d L) (b ^ L)) ∧ gi r 94 21 = oi (zBf (zPw c d L) (b ^ L)) ∧ gi r 94 22 = oi (zBt (zPw c d L) (b ^ L))) (fun p mm x hp hI => ?_) (fun mm x hI => ?_) (b ^ L) 0 3000 N1 (by omega) (by omega) ⟨k2, k3, k4, RZ.rf, fun _ => k20, fun q => absurd rfl q⟩).elim (fun r hr => ⟨r, hr.1, hr.2.1, hr.2.2.1, ((RZ.s94 (by omega)).tr k5).tr hr.2.2.2.1, hr.2.2.2.2⟩)
  · obtain ⟨i1, i2, i3, i4, i5, i6⟩ := hI
    obtain ⟨N2, a1, a2, a3, a4⟩ := r_acts hW hb L p 1000 x i1.1 hL4 (by omega) (by omega)
    have hpL : p / b ^ L = 0 := Nat.div_eq_of_lt hp
    obtain ⟨fu', N3, b1, b2, b3⟩ := w_plan (F := fun fu x v t => F_X12_findBest_L43 (F_X12_findBest_L24 (oi L) (oi (b ^ L)) mm) (oi L) (oi (b ^ L)) (oi p) fu x v t) (V := fun t => zPw c d t (p / b ^ (L - t))) (p := p) hb hW (by omega) (fun fu x N2 t ht ha htd => by
      try dsimp only
      rw [F_X12_findBest_L43, zPw_n hb ht]
      simp (disch := omega) only [l_0, l_1, l_2, l_3, l_4, l_5, l_6, l_7, l_8, l_9, l_10, l_11, l_12, l_13, l_14, l_15, l_16, l_17, l_18, l_19, l_20, l_21, l_22, l_23, l_24, l_25, l_26, l_27, l_28, l_29, l_30, l_31, l_32, l_33, l_34, l_35, l_36, l_37, l_38, l_39, l_40, l_41, l_42, l_43, l_44, l_45, l_46, l_47, l_48, l_49, l_50, l_51, l_52, l_53, l_54, l_55, l_56, l_57, l_58, l_59, l_60, l_61, l_62, l_63, l_64, l_65, l_66, l_67, l_68, l_69, l_70, l_71, l_72, l_73, l_74, l_75, l_76, l_77, l_78, l_79, l_80, l_81, l_82, l_83, l_84, l_85, l_86, l_87, l_88, l_89, l_90, l_91, l_92, l_93, l_94, l_95, l_96, l_97, l_98, l_99, l_100, l_101, l_102, l_103, l_104, l_105, l_106, l_107, l_108, l_109, l_110, l_111, l_121, l_122, l_160, l_200, l_201, l_240, l_255, l_361, l_390, l_499, l_500, l_999, l_1000, l_10000, l_10099, l_12345, l_16383, l_20000, l_20033, l_20038, l_20124, l_100000, l_1000000, l_1103515245, ui_oi, ck_oi, sb, jc_e, bl_0, bl_1, le_oi, lt_oi, eq_oi, add_oi, mul_oi, div_oi, ir_oi, gi_e, gi_n, if_true, if_false, if_pos, if_neg, true_and, and_true, false_and, and_false, true_or, or_true, false_or, or_false, ha, htd]) L 0 N2 1000 (by omega) (by omega) (i1.oc a4 (by decide)) a2
    have hR2 : RI N2 d c := i1.oc a4 (by decide)
    have hOr : RZ x N3 := (RZ.oc a4 zn103).tr (RZ.oc b3 zn3)
    have w2 := (zPd_w (c := c) hW L p (by omega)).2.1
    obtain ⟨N4, y1, y2, y3, y4⟩ := r_backS b2 w2 ((i2.oc a4 (by decide)).oc b3 (by decide)) (((b3.g (by decide)).trans (a4.g (by decide))).trans i3) (by omega)
    have g94 : ∀ j, gi N4 94 j = gi x 94 j := fun j => (y3.g (by decide)).trans ((b3.g (by decide)).trans (a4.g (by decide)))
    try dsimp only at b1
    rw [show L - L = 0 by omega, Nat.pow_zero, Nat.div_one] at b1
    have e0 : zPw c d 0 (p / b ^ (L - 0)) = 0 := rfl
    rw [e0] at b1
    obtain ⟨w, hw⟩ : ∃ w, w = zPw c d L p := ⟨_, rfl⟩
    have hwle := hwl p
    rw [← hw] at b1 hwle
    have hbm := zBm_le hwl p
    have hbt := zBt_le (W := zPw c d L) p
    obtain ⟨N5, hN5⟩ : ∃ N5, N5 = si (si (si N4 94 21 (oi (zBf (zPw c d L) (p + 1)))) 94 22 (oi (zBt (zPw c d L) (p + 1)))) 94 20 (oi (zBm (zPw c d L) (p + 1))) := ⟨_, rfl⟩
    have hr5 : RZ N4 N5 := by
      rw [hN5]
      exact ((RZ.s94 (by omega)).tr (RZ.s94 (by omega))).tr (RZ.s94 (by omega))
    have hO5 : Oc [94] N4 N5 := by
      rw [hN5]
      exact ((Oc.si (S := [94]) (by simp)).tr (Oc.si (S := [94]) (by simp)) (fun c hc => ⟨hc, hc⟩)).tr (Oc.si (S := [94]) (by simp)) (fun c hc => ⟨hc, hc⟩)
    have hAS5 : AS 0 N5 d := (((i2.oc a4 (by decide)).oc b3 (by decide)).oc y3 (by decide)).oc hO5 (by decide)
    refine ⟨N5, ⟨y2.oc hO5 (by decide), hAS5, ?_, (i4.tr hOr).tr ((RZ.oc y3 zn5).tr hr5), fun q => by omega, fun _ => ?_⟩, ?_⟩
    · unfold AN
      rw [hN5]
      simp (disch := omega) only [gi_n]
      rw [g94]
      exact i3
    · rw [hN5]
      simp (disch := omega) only [gi_n, gi_e]
      exact ⟨trivial, trivial, trivial⟩
    · try dsimp only
      rw [F_X12_findBest_L24]
      unfold F_X12_actsOf
      have hbl : ¬ oi (b ^ L) ≤ oi p := by rw [le_oi (by omega) (by omega)]; omega
      rw [l_1, l_0, if_neg hbl, a1, sb, b1, F_X12_findBest_L43, if_pos ((le_oi (by omega) (by omega)).mpr (Nat.le_refl L)), y1, sb]
      by_cases hp0 : p = 0
      · have z1 : zBm (zPw c d L) (p + 1) = w := by rw [hw]; exact if_pos (Or.inl hp0)
        have z2 : zBt (zPw c d L) (p + 1) = 1 := if_pos (Or.inl hp0)
        have z3 : zBf (zPw c d L) (p + 1) = p := if_pos (Or.inl hp0)
        rw [z1, z2, z3] at hN5
        have g20 : gi N4 94 20 = - oi 1 := (g94 20).trans (i5 hp0)
        simp (disch := omega) only [l_0, l_1, l_2, l_3, l_4, l_5, l_6, l_7, l_8, l_9, l_10, l_11, l_12, l_13, l_14, l_15, l_16, l_17, l_18, l_19, l_20, l_21, l_22, l_23, l_24, l_25, l_26, l_27, l_28, l_29, l_30, l_31, l_32, l_33, l_34, l_35, l_36, l_37, l_38, l_39, l_40, l_41, l_42, l_43, l_44, l_45, l_46, l_47, l_48, l_49, l_50, l_51, l_52, l_53, l_54, l_55, l_56, l_57, l_58, l_59, l_60, l_61, l_62, l_63, l_64, l_65, l_66, l_67, l_68, l_69, l_70, l_71, l_72, l_73, l_74, l_75, l_76, l_77, l_78, l_79, l_80, l_81, l_82, l_83, l_84, l_85, l_86, l_87, l_88, l_89, l_90, l_91, l_92, l_93, l_94, l_95, l_96, l_97, l_98, l_99, l_100, l_101, l_102, l_103, l_104, l_105, l_106, l_107, l_108, l_109, l_110, l_111, l_121, l_122, l_160, l_200, l_201, l_240, l_255, l_361, l_390, l_499, l_500, l_999, l_1000, l_10000, l_10099, l_12345, l_16383, l_20000, l_20033, l_20038, l_20124, l_100000, l_1000000, l_1103515245, ui_oi, ck_oi, sb, jc_e, bl_0, bl_1, le_oi, lt_oi, eq_oi, add_oi, mul_oi, div_oi, ir_oi, gi_e, gi_n, if_true, if_false, if_pos, if_neg, true_and, and_true, false_and, and_false, true_or, or_true, false_or, or_false, g20, neg1_lt]
        rw [← hN5]
      · obtain ⟨s1, s2, s3⟩ := i6 hp0
        have g20 := (g94 20).trans s1
        have g21 := (g94 21).trans s2
        have g22 := (g94 22).trans s3
        by_cases hlt : zBm (zPw c d L) p < w
        · have z1 : zBm (zPw c d L) (p + 1) = w := by rw [hw]; exact if_pos (Or.inr (by rw [← hw]; exact hlt))
          have z2 : zBt (zPw c d L) (p + 1) = 1 := if_pos (Or.inr (by rw [← hw]; exact hlt))
          have z3 : zBf (zPw c d L) (p + 1) = p := if_pos (Or.inr (by rw [← hw]; exact hlt))
          rw [z1, z2, z3] at hN5
          simp (disch := omega) only [l_0, l_1, l_2, l_3, l_4, l_5, l_6, l_7, l_8, l_9, l_10, l_11, l_12, l_13, l_14, l_15, l_16, l_17, l_18, l_19, l_20, l_21, l_22, l_23, l_24, l_25, l_26, l_27, l_28, l_29, l_30, l_31, l_32, l_33, l_34, l_35, l_36, l_37, l_38, l_39, l_40, l_41, l_42, l_43, l_44, l_45, l_46, l_47, l_48, l_49, l_50, l_51, l_52, l_53, l_54, l_55, l_56, l_57, l_58, l_59, l_60, l_61, l_62, l_63, l_64, l_65, l_66, l_67, l_68, l_69, l_70, l_71, l_72, l_73, l_74, l_75, l_76, l_77, l_78, l_79, l_80, l_81, l_82, l_83, l_84, l_85, l_86, l_87, l_88, l_89, l_90, l_91, l_92, l_93, l_94, l_95, l_96, l_97, l_98, l_99, l_100, l_101, l_102, l_103, l_104, l_105, l_106, l_107, l_108, l_109, l_110, l_111, l_121, l_122, l_160, l_200, l_201, l_240, l_255, l_361, l_390, l_499, l_500, l_999, l_1000, l_10000, l_10099, l_12345, l_16383, l_20000, l_20033, l_20038, l_20124, l_100000, l_1000000, l_1103515245, ui_oi, ck_oi, sb, jc_e, bl_0, bl_1, le_oi, lt_oi, eq_oi, add_oi, mul_oi, div_oi, ir_oi, gi_e, gi_n, if_true, if_false, if_pos, if_neg, true_and, and_true, false_and, and_false, true_or, or_true, false_or, or_false, g20]
          rw [← hN5]
        · have hnn : ¬ (p = 0 ∨ zBm (zPw c d L) p < zPw c d L p) := fun q => by rw [← hw] at q; omega
          have z1 : zBm (zPw c d L) (p + 1) = zBm (zPw c d L) p := if_neg hnn
          have z3 : zBf (zPw c d L) (p + 1) = zBf (zPw c d L) p := if_neg hnn
          have z2 : zBt (zPw c d L) (p + 1) = if zPw c d L p = zBm (zPw c d L) p then zBt (zPw c d L) p + 1 else zBt (zPw c d L) p := if_neg hnn
          rw [← hw] at z2
          by_cases heq : w = zBm (zPw c d L) p
          · rw [if_pos heq] at z2
            rw [z1, z2, z3] at hN5
            rw [← heq] at g20 hN5
            simp (disch := omega) only [l_0, l_1, l_2, l_3, l_4, l_5, l_6, l_7, l_8, l_9, l_10, l_11, l_12, l_13, l_14, l_15, l_16, l_17, l_18, l_19, l_20, l_21, l_22, l_23, l_24, l_25, l_26, l_27, l_28, l_29, l_30, l_31, l_32, l_33, l_34, l_35, l_36, l_37, l_38, l_39, l_40, l_41, l_42, l_43, l_44, l_45, l_46, l_47, l_48, l_49, l_50, l_51, l_52, l_53, l_54, l_55, l_56, l_57, l_58, l_59, l_60, l_61, l_62, l_63, l_64, l_65, l_66, l_67, l_68, l_69, l_70, l_71, l_72, l_73, l_74, l_75, l_76, l_77, l_78, l_79, l_80, l_81, l_82, l_83, l_84, l_85, l_86, l_87, l_88, l_89, l_90, l_91, l_92, l_93, l_94, l_95, l_96, l_97, l_98, l_99, l_100, l_101, l_102, l_103, l_104, l_105, l_106, l_107, l_108, l_109, l_110, l_111, l_121, l_122, l_160, l_200, l_201, l_240, l_255, l_361, l_390, l_499, l_500, l_999, l_1000, l_10000, l_10099, l_12345, l_16383, l_20000, l_20033, l_20038, l_20124, l_100000, l_1000000, l_1103515245, ui_oi, ck_oi, sb, jc_e, bl_0, bl_1, le_oi, lt_oi, eq_oi, add_oi, mul_oi, div_oi, ir_oi, gi_e, gi_n, if_true, if_false, if_pos, if_neg, true_and, and_true, false_and, and_false, true_or, or_true, false_or, or_false, g20, g21, g22]
            rw [← hN5]
          · rw [if_neg heq] at z2
            rw [z1, z2, z3] at hN5
            simp (disch := omega) only [l_0, l_1, l_2, l_3, l_4, l_5, l_6, l_7, l_8, l_9, l_10, l_11, l_12, l_13, l_14, l_15, l_16, l_17, l_18, l_19, l_20, l_21, l_22, l_23, l_24, l_25, l_26, l_27, l_28, l_29, l_30, l_31, l_32, l_33, l_34, l_35, l_36, l_37, l_38, l_39, l_40, l_41, l_42, l_43, l_44, l_45, l_46, l_47, l_48, l_49, l_50, l_51, l_52, l_53, l_54, l_55, l_56, l_57, l_58, l_59, l_60, l_61, l_62, l_63, l_64, l_65, l_66, l_67, l_68, l_69, l_70, l_71, l_72, l_73, l_74, l_75, l_76, l_77, l_78, l_79, l_80, l_81, l_82, l_83, l_84, l_85, l_86, l_87, l_88, l_89, l_90, l_91, l_92, l_93, l_94, l_95, l_96, l_97, l_98, l_99, l_100, l_101, l_102, l_103, l_104, l_105, l_106, l_107, l_108, l_109, l_110, l_111, l_121, l_122, l_160, l_200, l_201, l_240, l_255, l_361, l_390, l_499, l_500, l_999, l_1000, l_10000, l_10099, l_12345, l_16383, l_20000, l_20033, l_20038, l_20124, l_100000, l_1000000, l_1103515245, ui_oi, ck_oi, sb, jc_e, bl_0, bl_1, le_oi, lt_oi, eq_oi, add_oi, mul_oi, div_oi, ir_oi, gi_e, gi_n, if_true, if_false, if_pos, if_neg, true_and, and_true, false_and, and_false, true_or, or_true, false_or, or_false, g20, g21, g22]
            rw [← hN5]
  · obtain ⟨i1, i2, i3, i4, i5, i6⟩ := hI
    obtain ⟨s1, s2, s3⟩ := i6 (by omega)
    obtain ⟨N2, t1, t2, t3, t4, t5, t6⟩ := r_takesS i1 Sd.rf i2 i3 (by omega)
    obtain ⟨N3, u1, u2, u3, u4⟩ := r_takT i1 (fun _ _ => rfl) i2 i3 (by omega)
    rw [t1] at u1
    cases u1
    refine ⟨N2, ?_, t2, t3, i4.tr u4, (t6 20 (by omega)).trans s1, (t6 21 (by omega)).trans s2, (t6 22 (by omega)).trans s3⟩
    try dsimp only
    rw [F_X12_findBest_L24]
    simp (disch := omega) only [l_0, l_1, l_2, l_3, l_4, l_5, l_6, l_7, l_8, l_9, l_10, l_11, l_12, l_13, l_14, l_15, l_16, l_17, l_18, l_19, l_20, l_21, l_22, l_23, l_24, l_25, l_26, l_27, l_28, l_29, l_30, l_31, l_32, l_33, l_34, l_35, l_36, l_37, l_38, l_39, l_40, l_41, l_42, l_43, l_44, l_45, l_46, l_47, l_48, l_49, l_50, l_51, l_52, l_53, l_54, l_55, l_56, l_57, l_58, l_59, l_60, l_61, l_62, l_63, l_64, l_65, l_66, l_67, l_68, l_69, l_70, l_71, l_72, l_73, l_74, l_75, l_76, l_77, l_78, l_79, l_80, l_81, l_82, l_83, l_84, l_85, l_86, l_87, l_88, l_89, l_90, l_91, l_92, l_93, l_94, l_95, l_96, l_97, l_98, l_99, l_100, l_101, l_102, l_103, l_104, l_105, l_106, l_107, l_108, l_109, l_110, l_111, l_121, l_122, l_160, l_200, l_201, l_240, l_255, l_361, l_390, l_499, l_500, l_999, l_1000, l_10000, l_10099, l_12345, l_16383, l_20000, l_20033, l_20038, l_20124, l_100000, l_1000000, l_1103515245, ui_oi, ck_oi, sb, jc_e, bl_0, bl_1, le_oi, lt_oi, eq_oi, add_oi, mul_oi, div_oi, ir_oi, gi_e, gi_n, if_true, if_false, if_pos, if_neg, true_and, and_true, false_and, and_false, true_or, or_true, false_or, or_false, t1]
end PR

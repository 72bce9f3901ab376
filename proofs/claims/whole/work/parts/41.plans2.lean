/-! PLANS: the class's way through them, every depth -/
def TC : List Nat := [47, 75, 77, 78, 79, 80, 81, 82, 83, 84, 85, 86, 87, 88, 89, 90, 91, 92, 93]
def TF (k : Nat) (M M' : Mm) : Prop := Oc TC M M' ∧ (∀ x, 77 ≤ x → x < 80 + 3 * k → M'.1 x = M.1 x) ∧ ∀ i, i < k → gi M' 92 i = gi M 92 i
section PQ
variable {M N M' N' M1 : Mm} {d : Nat → Nat} {c : Cnd} {L b k : Nat} {W A : Nat → Nat} {S : Nat → Int32} {want : Int32} {p : Nat}
theorem ge_of {x j : Nat} (h : M'.1 x = M.1 x) : gi M' x j = gi M x j := congrFun h j
theorem TF.rf : TF k M M := ⟨Oc.rf, fun _ _ _ => rfl, fun _ _ => rfl⟩
theorem TF.tr (h1 : TF k M M1) (h2 : TF k M1 M') : TF k M M' := ⟨h1.1.tr h2.1 (fun c hc => ⟨hc, hc⟩), fun x a b => (h2.2.1 x a b).trans (h1.2.1 x a b), fun i hi => (h2.2.2 i hi).trans (h1.2.2 i hi)⟩
theorem TF.dn {k' : Nat} (h : TF k M M') (hk : k' ≤ k) : TF k' M M' := ⟨h.1, fun x a b => h.2.1 x a (by omega), fun i hi => h.2.2 i (by omega)⟩
theorem TF.of {T : List Nat} (hO : Oc T M M') (hS : ∀ x, x ∈ T → x ∈ TC ∧ ¬ (77 ≤ x ∧ x < 80 + 3 * k) ∧ x ≠ 92) : TF k M M' := ⟨hO.su (fun c hc q => hc (hS c q).1), fun x a b => hO x (fun q => (hS x q).2.1 ⟨a, b⟩), fun i _ => hO.g (fun q => (hS 92 q).2.2 rfl)⟩
theorem FL.eq {w : Nat} (h : FL w M d) (h0 : M'.1 w = M.1 w) (h1 : M'.1 (w + 1) = M.1 (w + 1)) (h2 : M'.1 (w + 2) = M.1 (w + 2)) : FL w M' d := ⟨fun k hk => ⟨(ge_of h1).trans (h.f hk), (ge_of h2).trans (h.c hk)⟩, (ge_of h0).trans h.b, (ge_of h0).trans h.t⟩
theorem FL.tf (h : FL (77 + 3 * k) M d) (hT : TF k M M') : FL (77 + 3 * k) M' d := h.eq (hT.2.1 _ (by omega) (by omega)) (hT.2.1 _ (by omega) (by omega)) (hT.2.1 _ (by omega) (by omega))
theorem VL.tc (h : VL 0 M d c) (hO : Oc TC M M') : VL 0 M' d c := h.oc hO (by decide)
theorem ly76 : ∀ k, k < 5 → ly_rf 76 k = 77 + 3 * k := by decide +kernel
theorem wc76 : ∀ k, k < 5 → Wc (77 + 3 * k) := by
  intro k hk
  unfold Wc
  omega
theorem pw_le : ∀ b, b ≤ 7 → ∀ L, L ≤ 4 → b ^ L ≤ 2401 := by decide +kernel
theorem dg_lo {q j i : Nat} (hj : j < b) (hi : i < k) : (q * b + j) / b ^ (k + 1 - 1 - i) = q / b ^ (k - 1 - i) := by
  rw [show k + 1 - 1 - i = (k - 1 - i) + 1 by omega, Nat.pow_succ', ← Nat.div_div_eq_div_mul, Nat.mul_comm q b, Nat.mul_add_div (by omega), Nat.div_eq_of_lt hj, Nat.add_zero]
theorem dv_q {q j : Nat} (hj : j < b) : (q * b + j) / b = q := by
  rw [Nat.mul_comm q b, Nat.mul_add_div (by omega), Nat.div_eq_of_lt hj, Nat.add_zero]
theorem md_q {q j : Nat} (hj : j < b) : (q * b + j) % b = j := by
  rw [Nat.mul_comm q b, Nat.mul_add_mod, Nat.mod_eq_of_lt hj]
theorem zPd_s {q j : Nat} (hb : b = d 0 + 1) (hj : j < b) : zPd c d (k + 1) (q * b + j) = zN (zPd c d k q) c j := by
  rw [zPd, ← hb, dv_q hj, md_q hj]
theorem zPw_s {q j : Nat} (hb : b = d 0 + 1) (hj : j < b) : zPw c d (k + 1) (q * b + j) = zPw c d k q + zWo (zPd c d k q) c j := by
  rw [zPw, ← hb, dv_q hj, md_q hj]
theorem zPa_s {q j : Nat} (hj : j < b) : zPa b (k + 1) (q * b + j) = zPa b k q + (if j = 0 then 0 else 1) := by
  rw [zPa, dv_q hj, md_q hj]
theorem c_tryAll (hL : L ≤ 4) (hb : b = d 0 + 1) (hW : WF d) (hd : d 1 + L ≤ d 2) : ∀ m k q fu M, k + m = L → m < fu → VL 0 M d c → FL (77 + 3 * k) M (zPd c d k q) → PS M L b (zPw c d L) (zPa b L) (fun p => oi (zBi (zPd c d L p))) want (q * b ^ m) → (∀ i, i < k → gi M 92 i = oi (q / b ^ (k - 1 - i) % b)) → q < b ^ k → ∃ M', F_X5_tryAll fu M (oi k) (oi (zPw c d k q)) (oi (zPa b k q)) = some M' ∧ PS M' L b (zPw c d L) (zPa b L) (fun p => oi (zBi (zPd c d L p))) want ((q + 1) * b ^ m) ∧ TF k M M' := by
  intro m
  induction m with
  | zero =>
    intro k q fu M hk hf hV hF hP hA hq
    obtain ⟨fu', rfl⟩ : ∃ q, fu = q + 1 := ⟨fu - 1, by omega⟩
    obtain rfl : k = L := by omega
    have h0 := hW.1
    have hpw := pw_le b (by omega) k hL
    have hP3 := hP.1
    rw [Nat.pow_zero, Nat.mul_one] at hP ⊢
    obtain ⟨M', e1, e2, e3⟩ := c_weigh hP hL (fun p => by have := zPw_le (c := c) hW k p hd; omega) (by omega) (by have := zPa_le (b := b) k q; omega) hA
    refine ⟨M', ?_, e2, TF.of e3 (fun x hx => by simp at hx; unfold TC; simp; omega)⟩
    rw [F_X5_tryAll]
    unfold F_X5_tryAll_b
    simp (disch := omega) only [l_0, l_1, l_2, l_3, l_4, l_5, l_6, l_7, l_8, l_9, l_10, l_11, l_12, l_13, l_14, l_15, l_16, l_17, l_18, l_19, l_20, l_21, l_22, l_23, l_24, l_25, l_26, l_27, l_28, l_29, l_30, l_31, l_32, l_33, l_34, l_35, l_36, l_37, l_38, l_39, l_40, l_41, l_42, l_43, l_44, l_45, l_46, l_47, l_48, l_49, l_50, l_51, l_52, l_53, l_54, l_55, l_56, l_57, l_58, l_59, l_60, l_61, l_62, l_63, l_64, l_65, l_66, l_67, l_68, l_69, l_70, l_71, l_72, l_73, l_74, l_75, l_76, l_77, l_78, l_79, l_80, l_81, l_82, l_83, l_84, l_85, l_86, l_87, l_88, l_89, l_90, l_91, l_92, l_93, l_94, l_95, l_96, l_97, l_98, l_99, l_100, l_101, l_102, l_103, l_104, l_105, l_106, l_107, l_108, l_109, l_110, l_111, l_121, l_122, l_160, l_200, l_201, l_240, l_255, l_361, l_390, l_499, l_500, l_999, l_1000, l_10000, l_10099, l_12345, l_16383, l_20000, l_20033, l_20038, l_20124, l_100000, l_1000000, l_1103515245, ui_oi, ck_oi, sb, jc_e, bl_0, bl_1, le_oi, lt_oi, eq_oi, add_oi, mul_oi, div_oi, ir_oi, gi_e, gi_n, if_true, if_false, if_pos, if_neg, true_and, and_true, false_and, and_false, true_or, or_true, false_or, or_false, hP3, ly76 k (by omega), hF.b, e1]
  | succ m ih =>
    intro k q fu M hk hf hV hF hP hA hq
    obtain ⟨fu', rfl⟩ : ∃ q, fu = q + 1 := ⟨fu - 1, by omega⟩
    have h0 := hW.1
    have hP3 := hP.1
    obtain ⟨w1, w2, w3⟩ := zPd_w (c := c) hW k q (by omega)
    have z0 : zPd c d k q 0 = d 0 := w2.o (by omega)
    have z2 : zPd c d k q 2 = d 2 := w2.o (by omega)
    rw [F_X5_tryAll]
    unfold F_X5_tryAll_b
    simp (disch := omega) only [l_0, l_1, l_2, l_3, l_4, l_5, l_6, l_7, l_8, l_9, l_10, l_11, l_12, l_13, l_14, l_15, l_16, l_17, l_18, l_19, l_20, l_21, l_22, l_23, l_24, l_25, l_26, l_27, l_28, l_29, l_30, l_31, l_32, l_33, l_34, l_35, l_36, l_37, l_38, l_39, l_40, l_41, l_42, l_43, l_44, l_45, l_46, l_47, l_48, l_49, l_50, l_51, l_52, l_53, l_54, l_55, l_56, l_57, l_58, l_59, l_60, l_61, l_62, l_63, l_64, l_65, l_66, l_67, l_68, l_69, l_70, l_71, l_72, l_73, l_74, l_75, l_76, l_77, l_78, l_79, l_80, l_81, l_82, l_83, l_84, l_85, l_86, l_87, l_88, l_89, l_90, l_91, l_92, l_93, l_94, l_95, l_96, l_97, l_98, l_99, l_100, l_101, l_102, l_103, l_104, l_105, l_106, l_107, l_108, l_109, l_110, l_111, l_121, l_122, l_160, l_200, l_201, l_240, l_255, l_361, l_390, l_499, l_500, l_999, l_1000, l_10000, l_10099, l_12345, l_16383, l_20000, l_20033, l_20038, l_20124, l_100000, l_1000000, l_1103515245, ui_oi, ck_oi, sb, jc_e, bl_0, bl_1, le_oi, lt_oi, eq_oi, add_oi, mul_oi, div_oi, ir_oi, gi_e, gi_n, if_true, if_false, if_pos, if_neg, true_and, and_true, false_and, and_false, true_or, or_true, false_or, or_false, hP3, ly76 (k + 1) (by omega)]
    have hbm : ∀ j, (q * b + j) * b ^ m + b ^ m = (q * b + (j + 1)) * b ^ m := fun j => by rw [← Nat.add_assoc, Nat.add_mul _ 1, Nat.one_mul]
    refine (lp_inv (L := fun m x y => F_X5_tryAll_L40 (F_X5_tryAll fu') (oi k) (oi (zPw c d k q)) (oi (zPa b k q)) (77 + 3 * (k + 1)) m x y) (n := b) (I := fun j x => VL 0 x d c ∧ FL (77 + 3 * k) x (zPd c d k q) ∧ PS x L b (zPw c d L) (zPa b L) (fun p => oi (zBi (zPd c d L p))) want ((q * b + j) * b ^ m) ∧ (∀ i, i < k → gi x 92 i = oi (q / b ^ (k - 1 - i) % b)) ∧ TF k M x) (Q := fun r => PS r L b (zPw c d L) (zPa b L) (fun p => oi (zBi (zPd c d L p))) want ((q + 1) * b ^ (m + 1)) ∧ TF k M r) (fun j mm x hj hI => ?_) (fun mm x hI => ?_) b 0 1000 M (by omega) (by omega) ⟨hV, hF, by rw [Nat.add_zero, Nat.mul_assoc, ← Nat.pow_succ']; exact hP, hA, TF.rf⟩)
    · obtain ⟨i1, i2, i3, i4, i5⟩ := hI
      have hO1 : TF k x (si x 92 k (oi j)) := ⟨Oc.si (by unfold TC; simp), fun y _ _ => si_ne (by omega), fun i hi => gi_n (by omega)⟩
      have g2 : FL (77 + 3 * k) (si x 92 k (oi j)) (zPd c d k q) := i2.tf hO1
      obtain ⟨M2, t1, t2, t3⟩ := c_take (w0 := 77 + 3 * (k + 1)) g2 (by omega)
      have hO2 : TF k (si x 92 k (oi j)) M2 := TF.of t3 (fun y hy => by simp at hy; unfold TC; simp; omega)
      obtain ⟨M3, p1, p2, p3⟩ := c_pass (a := j) (((i1.tc hO1.1).tc hO2.1).sd w2) t2 w1 (by omega) (wc76 (k + 1) (by omega))
      have hO3 : TF k M2 M3 := TF.of p3 (fun y hy => by simp at hy; unfold TC; simp; omega)
      have hO13 := (hO1.tr hO2).tr hO3
      have hO23 : Oc [77 + 3 * (k + 1), 77 + 3 * (k + 1) + 1, 77 + 3 * (k + 1) + 2, 47] (si x 92 k (oi j)) M3 := t3.tr p3 (fun c hc => ⟨fun q => hc (by simp at q ⊢; omega), hc⟩)
      have hPS3 : PS M3 L b (zPw c d L) (zPa b L) (fun p => oi (zBi (zPd c d L p))) want ((q * b + j) * b ^ m) := (i3.oc (T := [92]) (Oc.si (by simp)) (by decide) (by decide)).oc hO23 (by simp; omega) (by simp; omega)
      have hw : zWo (zPd c d k q) c j ≤ 32 := zWo_le w1 (by omega)
      have hpw : zPw c d k q ≤ 32 * k := zPw_le hW k q (by omega)
      have hpa := zPa_le (b := b) k q
      obtain ⟨M4, r1, r2, r3⟩ := ih (k + 1) (q * b + j) fu' M3 (by omega) (by omega) (i1.tc hO13.1) (by rw [zPd_s hb hj]; exact p2) hPS3 (fun i hi => by
        by_cases hik : i = k
        · subst hik
          rw [hO23.g (by simp; omega), gi_e, show i + 1 - 1 - i = 0 by omega, Nat.pow_zero, Nat.div_one, md_q hj]
        · rw [dg_lo hj (by omega), hO13.2.2 i (by omega)]
          exact i4 i (by omega)) (by
        have : (q + 1) * b ≤ b ^ k * b := Nat.mul_le_mul_right b hq
        rw [Nat.pow_succ]
        have e : (q + 1) * b = q * b + b := Nat.succ_mul q b
        omega)
      rw [zPw_s hb hj, zPa_s hj] at r1
      refine ⟨M4, ⟨(i1.tc hO13.1).tc r3.1, (i2.tf hO13).tf (r3.dn (by omega)), ?_, fun i hi => ?_, i5.tr (hO13.tr (r3.dn (by omega)))⟩, ?_⟩
      · exact r2
      · rw [r3.2.2 i (by omega), hO13.2.2 i hi]
        exact i4 i hi
      · try dsimp only
        rw [F_X5_tryAll_L40]
        by_cases hj0 : j = 0
        · subst hj0
          rw [if_pos rfl, Nat.add_zero (zPa b k q)] at r1
          simp (disch := omega) only [l_0, l_1, l_2, l_3, l_4, l_5, l_6, l_7, l_8, l_9, l_10, l_11, l_12, l_13, l_14, l_15, l_16, l_17, l_18, l_19, l_20, l_21, l_22, l_23, l_24, l_25, l_26, l_27, l_28, l_29, l_30, l_31, l_32, l_33, l_34, l_35, l_36, l_37, l_38, l_39, l_40, l_41, l_42, l_43, l_44, l_45, l_46, l_47, l_48, l_49, l_50, l_51, l_52, l_53, l_54, l_55, l_56, l_57, l_58, l_59, l_60, l_61, l_62, l_63, l_64, l_65, l_66, l_67, l_68, l_69, l_70, l_71, l_72, l_73, l_74, l_75, l_76, l_77, l_78, l_79, l_80, l_81, l_82, l_83, l_84, l_85, l_86, l_87, l_88, l_89, l_90, l_91, l_92, l_93, l_94, l_95, l_96, l_97, l_98, l_99, l_100, l_101, l_102, l_103, l_104, l_105, l_106, l_107, l_108, l_109, l_110, l_111, l_121, l_122, l_160, l_200, l_201, l_240, l_255, l_361, l_390, l_499, l_500, l_999, l_1000, l_10000, l_10099, l_12345, l_16383, l_20000, l_20033, l_20038, l_20124, l_100000, l_1000000, l_1103515245, ui_oi, ck_oi, sb, jc_e, bl_0, bl_1, le_oi, lt_oi, eq_oi, add_oi, mul_oi, div_oi, ir_oi, gi_e, gi_n, if_true, if_false, if_pos, if_neg, true_and, and_true, false_and, and_false, true_or, or_true, false_or, or_false, i1.n, ly76 k (by omega), t1, p1, r1]
        · rw [if_neg hj0] at r1
          simp (disch := omega) only [l_0, l_1, l_2, l_3, l_4, l_5, l_6, l_7, l_8, l_9, l_10, l_11, l_12, l_13, l_14, l_15, l_16, l_17, l_18, l_19, l_20, l_21, l_22, l_23, l_24, l_25, l_26, l_27, l_28, l_29, l_30, l_31, l_32, l_33, l_34, l_35, l_36, l_37, l_38, l_39, l_40, l_41, l_42, l_43, l_44, l_45, l_46, l_47, l_48, l_49, l_50, l_51, l_52, l_53, l_54, l_55, l_56, l_57, l_58, l_59, l_60, l_61, l_62, l_63, l_64, l_65, l_66, l_67, l_68, l_69, l_70, l_71, l_72, l_73, l_74, l_75, l_76, l_77, l_78, l_79, l_80, l_81, l_82, l_83, l_84, l_85, l_86, l_87, l_88, l_89, l_90, l_91, l_92, l_93, l_94, l_95, l_96, l_97, l_98, l_99, l_100, l_101, l_102, l_103, l_104, l_105, l_106, l_107, l_108, l_109, l_110, l_111, l_121, l_122, l_160, l_200, l_201, l_240, l_255, l_361, l_390, l_499, l_500, l_999, l_1000, l_10000, l_10099, l_12345, l_16383, l_20000, l_20033, l_20038, l_20124, l_100000, l_1000000, l_1103515245, ui_oi, ck_oi, sb, jc_e, bl_0, bl_1, le_oi, lt_oi, eq_oi, add_oi, mul_oi, div_oi, ir_oi, gi_e, gi_n, if_true, if_false, if_pos, if_neg, true_and, and_true, false_and, and_false, true_or, or_true, false_or, or_false, i1.n, ly76 k (by omega), t1, p1, r1]
    · obtain ⟨i1, i2, i3, i4, i5⟩ := hI
      refine ⟨x, ?_, ?_, i5⟩
      · try dsimp only
        rw [F_X5_tryAll_L40]
        simp (disch := omega) only [l_0, l_1, l_2, l_3, l_4, l_5, l_6, l_7, l_8, l_9, l_10, l_11, l_12, l_13, l_14, l_15, l_16, l_17, l_18, l_19, l_20, l_21, l_22, l_23, l_24, l_25, l_26, l_27, l_28, l_29, l_30, l_31, l_32, l_33, l_34, l_35, l_36, l_37, l_38, l_39, l_40, l_41, l_42, l_43, l_44, l_45, l_46, l_47, l_48, l_49, l_50, l_51, l_52, l_53, l_54, l_55, l_56, l_57, l_58, l_59, l_60, l_61, l_62, l_63, l_64, l_65, l_66, l_67, l_68, l_69, l_70, l_71, l_72, l_73, l_74, l_75, l_76, l_77, l_78, l_79, l_80, l_81, l_82, l_83, l_84, l_85, l_86, l_87, l_88, l_89, l_90, l_91, l_92, l_93, l_94, l_95, l_96, l_97, l_98, l_99, l_100, l_101, l_102, l_103, l_104, l_105, l_106, l_107, l_108, l_109, l_110, l_111, l_121, l_122, l_160, l_200, l_201, l_240, l_255, l_361, l_390, l_499, l_500, l_999, l_1000, l_10000, l_10099, l_12345, l_16383, l_20000, l_20033, l_20038, l_20124, l_100000, l_1000000, l_1103515245, ui_oi, ck_oi, sb, jc_e, bl_0, bl_1, le_oi, lt_oi, eq_oi, add_oi, mul_oi, div_oi, ir_oi, gi_e, gi_n, if_true, if_false, if_pos, if_neg, true_and, and_true, false_and, and_false, true_or, or_true, false_or, or_false, i1.n]
      · rw [Nat.pow_succ', ← Nat.mul_assoc, Nat.succ_mul q b]
        exact i3
theorem len_eq {n : Nat} (hW : WF d) (hn : n ≤ 4) : mx (oi 0) (mn (oi n) (oi (d 2) - oi (d 1))) = oi (min n (d 2 - d 1)) := by
  have h1 := hW.2.1
  have h2 := hW.2.2.1
  rw [sub_oi h1, mn_oi (by omega) (by omega), mx_oi (by omega) (by omega), Nat.zero_max]
/-- the class looks ahead -/
theorem c_look {n : Nat} (hI : IV M N d c) (hn : n ≤ 4) (want : Int32) : ∃ M', F_X5_lookAhead M (oi n) want = some M' ∧ PS M' (min n (d 2 - d 1)) (d 0 + 1) (zPw c d (min n (d 2 - d 1))) (zPa (d 0 + 1) (min n (d 2 - d 1))) (fun p => oi (zBi (zPd c d (min n (d 2 - d 1)) p))) want ((d 0 + 1) ^ min n (d 2 - d 1)) ∧ Oc TC M M' := by
  obtain ⟨hV, hF, h3, h4, hRI, hW, hA⟩ := id hI
  have h12 := hW.2.1
  have h16 := hW.2.2.1
  obtain ⟨L, hL⟩ : ∃ L, L = min n (d 2 - d 1) := ⟨_, rfl⟩
  have hL4 : L ≤ 4 := by omega
  have hlen := len_eq hW hn
  rw [← hL] at hlen ⊢
  obtain ⟨M1, t1, t2, t3⟩ := c_take (M := si M 75 3 (oi L)) (w0 := 77) (hF.oc (S := [75]) (Oc.si (by simp)) (by decide) (by decide) (by decide)) (by omega)
  have hT1 : Oc TC M M1 := (Oc.si (S := [75]) (by simp)).tr t3 (fun c hc => by unfold TC at hc; simp at hc ⊢; omega)
  obtain ⟨M2, hM2⟩ : ∃ M2, M2 = si (si (si (si M1 75 4 want) 75 7 (oi 0)) 75 8 (- oi 3)) 75 9 (oi 0) := ⟨_, rfl⟩
  have hT2 : Oc [75] M1 M2 := by
    rw [hM2]
    exact (((Oc.si (S := [75]) (by simp)).tr (Oc.si (S := [75]) (by simp)) (fun c hc => ⟨hc, hc⟩)).tr (Oc.si (S := [75]) (by simp)) (fun c hc => ⟨hc, hc⟩)).tr (Oc.si (S := [75]) (by simp)) (fun c hc => ⟨hc, hc⟩)
  have hT : Oc TC M M2 := hT1.tr hT2 (fun c hc => ⟨hc, by unfold TC at hc; simp at hc ⊢; omega⟩)
  have hL1 : gi M1 75 3 = oi L := by rw [t3.g (by decide), gi_e]
  obtain ⟨M', r1, r2, r3⟩ := c_tryAll (want := want) hL4 rfl hW (by omega) L 0 0 8 M2 (by omega) (by omega) (hV.tc hT) ((t2.oc hT2 (by decide) (by decide) (by decide))) ⟨by rw [hM2]; simp (disch := omega) only [gi_n]; exact hL1, by rw [hM2]; simp (disch := omega) only [gi_n, gi_e], fun q => absurd (Nat.zero_mul _) q, by rw [hM2, Nat.zero_mul]; simp (disch := omega) only [gi_n, gi_e]; rfl, by rw [hM2, Nat.zero_mul]; simp (disch := omega) only [gi_n, gi_e]; rfl, by rw [hM2, Nat.zero_mul]; simp (disch := omega) only [gi_n, gi_e]; rfl, fun q => absurd (Nat.zero_mul _) q⟩ (fun i hi => by omega) (by rw [Nat.pow_zero]; omega)
  refine ⟨M', ?_, by rw [Nat.zero_add, Nat.one_mul] at r2; exact r2, hT.tr r3.1 (fun c hc => ⟨hc, hc⟩)⟩
  have h39 : gi M 39 3 = oi (d 1) := hF.t
  unfold F_X5_lookAhead F_X5_begin F_X5_lengthOf
  rw [l_0, hV.e, h39, sub_oi h12, mn_oi (by omega) (by omega), mx_oi (by omega) (by omega), Nat.zero_max, ← hL]
  simp (disch := omega) only [l_0, l_1, l_2, l_3, l_4, l_5, l_6, l_7, l_8, l_9, l_10, l_11, l_12, l_13, l_14, l_15, l_16, l_17, l_18, l_19, l_20, l_21, l_22, l_23, l_24, l_25, l_26, l_27, l_28, l_29, l_30, l_31, l_32, l_33, l_34, l_35, l_36, l_37, l_38, l_39, l_40, l_41, l_42, l_43, l_44, l_45, l_46, l_47, l_48, l_49, l_50, l_51, l_52, l_53, l_54, l_55, l_56, l_57, l_58, l_59, l_60, l_61, l_62, l_63, l_64, l_65, l_66, l_67, l_68, l_69, l_70, l_71, l_72, l_73, l_74, l_75, l_76, l_77, l_78, l_79, l_80, l_81, l_82, l_83, l_84, l_85, l_86, l_87, l_88, l_89, l_90, l_91, l_92, l_93, l_94, l_95, l_96, l_97, l_98, l_99, l_100, l_101, l_102, l_103, l_104, l_105, l_106, l_107, l_108, l_109, l_110, l_111, l_121, l_122, l_160, l_200, l_201, l_240, l_255, l_361, l_390, l_499, l_500, l_999, l_1000, l_10000, l_10099, l_12345, l_16383, l_20000, l_20033, l_20038, l_20124, l_100000, l_1000000, l_1103515245, ui_oi, ck_oi, sb, jc_e, bl_0, bl_1, le_oi, lt_oi, eq_oi, add_oi, mul_oi, div_oi, ir_oi, gi_e, gi_n, if_true, if_false, if_pos, if_neg, true_and, and_true, false_and, and_false, true_or, or_true, false_or, or_false, mn_oi, ly76 0 (by omega)]
  rw [Nat.min_eq_right hL4, t1]
  simp (disch := omega) only [l_0, l_1, l_2, l_3, l_4, l_5, l_6, l_7, l_8, l_9, l_10, l_11, l_12, l_13, l_14, l_15, l_16, l_17, l_18, l_19, l_20, l_21, l_22, l_23, l_24, l_25, l_26, l_27, l_28, l_29, l_30, l_31, l_32, l_33, l_34, l_35, l_36, l_37, l_38, l_39, l_40, l_41, l_42, l_43, l_44, l_45, l_46, l_47, l_48, l_49, l_50, l_51, l_52, l_53, l_54, l_55, l_56, l_57, l_58, l_59, l_60, l_61, l_62, l_63, l_64, l_65, l_66, l_67, l_68, l_69, l_70, l_71, l_72, l_73, l_74, l_75, l_76, l_77, l_78, l_79, l_80, l_81, l_82, l_83, l_84, l_85, l_86, l_87, l_88, l_89, l_90, l_91, l_92, l_93, l_94, l_95, l_96, l_97, l_98, l_99, l_100, l_101, l_102, l_103, l_104, l_105, l_106, l_107, l_108, l_109, l_110, l_111, l_121, l_122, l_160, l_200, l_201, l_240, l_255, l_361, l_390, l_499, l_500, l_999, l_1000, l_10000, l_10099, l_12345, l_16383, l_20000, l_20033, l_20038, l_20124, l_100000, l_1000000, l_1103515245, ui_oi, ck_oi, sb, jc_e, bl_0, bl_1, le_oi, lt_oi, eq_oi, add_oi, mul_oi, div_oi, ir_oi, gi_e, gi_n, if_true, if_false, if_pos, if_neg, true_and, and_true, false_and, and_false, true_or, or_true, false_or, or_false, ]
  rw [← hM2]
  rw [show zPw c d 0 0 = 0 from rfl, show zPa (d 0 + 1) 0 0 = 0 from rfl] at r1
  rw [r1]
  rfl
end PQ

/-! CALLS: game, play -/
def zMx (par : Nat) (f : Nat → Nat) : Nat → Nat
  | 0 => f 0
  | k + 1 => if par = 0 then (if f (k + 1) ≤ zMx par f k then zMx par f k else f (k + 1)) else (if zMx par f k ≤ f (k + 1) then zMx par f k else f (k + 1))
def zAg (f : Nat → Nat) : Nat → Nat
  | 0 => 0
  | k + 1 => if f (k + 1) ≤ zMx 0 f k then zAg f k else k + 1
def zVl (c : Cnd) : Nat → Nat → (Nat → Nat) → Nat
  | 0, _, _ => 0
  | n + 1, par, e => zMx par (fun a => zWo e c a + zVl c n (1 - par) (zN e c a)) (e 0)
section GA
variable {M N M' N' N1 : Mm} {d e : Nat → Nat} {c : Cnd} {L b k : Nat} {p par : Nat} {f : Nat → Nat}
theorem zMx_le {w : Nat} : ∀ k, (∀ i, i ≤ k → f i ≤ w) → zMx par f k ≤ w
  | 0, h => h 0 (by omega)
  | k + 1, h => by
    have h1 := zMx_le k (fun i hi => h i (by omega))
    have h2 := h (k + 1) (by omega)
    unfold zMx
    repeat' split
    all_goals omega
theorem zVl_le : ∀ n par e, WF e → e 1 + n ≤ e 2 → zVl c n par e ≤ 32 * n
  | 0, _, _, _, _ => Nat.le_refl _
  | n + 1, par, e, hW, hd => by
    unfold zVl
    refine zMx_le (e 0) (fun a ha => ?_)
    have h0 := hW.1
    have h1 := zWo_le (c := c) hW ha
    have h2 := zVl_le n (1 - par) (zN e c a) (zN_w hW ha (by omega)) (by rw [zN_1, (zN_sd (by omega) h0).o (by omega)]; omega)
    try dsimp only
    omega
theorem zAg_ok : ∀ k, zAg f k ≤ k ∧ f (zAg f k) = zMx 0 f k ∧ (∀ j, j < zAg f k → f j < zMx 0 f k)
  | 0 => ⟨Nat.le_refl _, rfl, fun j hj => absurd hj (Nat.not_lt_zero j)⟩
  | k + 1 => by
    obtain ⟨h1, h2, h3⟩ := zAg_ok k
    have eG : zAg f (k + 1) = if f (k + 1) ≤ zMx 0 f k then zAg f k else k + 1 := rfl
    have eM : zMx 0 f (k + 1) = if f (k + 1) ≤ zMx 0 f k then zMx 0 f k else f (k + 1) := if_pos rfl
    rw [eG, eM]
    by_cases h : f (k + 1) ≤ zMx 0 f k
    · rw [if_pos h, if_pos h]
      exact ⟨by omega, h2, h3⟩
    · rw [if_neg h, if_neg h]
      refine ⟨Nat.le_refl _, rfl, fun j hj => ?_⟩
      have : f j ≤ zMx 0 f k := zMx_ge k j (by omega)
      omega
where zMx_ge {f : Nat → Nat} : ∀ k j, j ≤ k → f j ≤ zMx 0 f k
  | 0, j, hj => by
    obtain rfl : j = 0 := by omega
    exact Nat.le_refl _
  | k + 1, j, hj => by
    unfold zMx
    rw [if_pos rfl]
    by_cases hjk : j = k + 1
    · subst hjk
      split <;> omega
    · have := zMx_ge (f := f) k j (by omega)
      split <;> omega
/-- the reference's frame below the p-th put -/
def VFr (p : Nat) (N N' : Mm) : Prop := RZ N N' ∧ ∀ j, j < 65 * p → gi N' 97 j = gi N 97 j
theorem VFr.rf : VFr p N N := ⟨RZ.rf, fun _ _ => rfl⟩
theorem VFr.tr (h1 : VFr p N N1) (h2 : VFr p N1 N') : VFr p N N' := ⟨h1.1.tr h2.1, fun j hj => (h2.2 j hj).trans (h1.2 j hj)⟩
theorem VFr.dn {q : Nat} (h : VFr p N N') (hq : q ≤ p) : VFr q N N' := ⟨h.1, fun j hj => h.2 j (by omega)⟩
theorem VFr.oc {S : List Nat} (hO : Oc S N N') (hS : Zn S) (h97 : 97 ∉ S) : VFr p N N' := ⟨RZ.oc hO hS, fun _ _ => hO.g h97⟩
theorem AS.vf {q : Nat} (h : AS q N d) (hV : VFr p N N') (hq : q < p) : AS q N' d := fun j hj => (hV.2 _ (by omega)).trans (h j hj)
theorem r_putn {n : Nat} (hI : RI N d c) (hA : AN N n) (h5 : n ≤ 5) : ∃ N1, F_X12_puts N = some N1 ∧ RI N1 d c ∧ AS n N1 d ∧ AN N1 (n + 1) ∧ VFr n N N1 := by
  obtain ⟨N1, g1, g2, g3, g4, g5⟩ := r_puts hI.1 hA h5
  exact ⟨N1, g1, hI.oc g5 (by decide), g2, g3, ⟨fun x j hx => g4 x j (by unfold ZN at hx; omega) (by unfold ZN at hx; omega), fun x hx => g5 x (by simp; omega)⟩, fun j hj => g4 97 j (by omega) (by omega)⟩
theorem r_takn {n : Nat} (hI : RI N e c) (hS : Sd d e) (hA : AS n N d) (hn : AN N (n + 1)) (h5 : n ≤ 5) : ∃ N', F_X12_takes N = some N' ∧ RI N' d c ∧ AN N' n ∧ VFr p N N' := by
  obtain ⟨N2, t1, t2, t3, t4, t5, t6⟩ := r_takesS hI hS hA hn h5
  obtain ⟨N3, u1, u2, u3, u4⟩ := r_takT hI hS.tail hA hn h5
  rw [t1] at u1
  cases u1
  exact ⟨N2, t1, t2, t3, u4, fun j _ => t4.g (by decide)⟩
theorem le6 {x : Nat} (h : x < 1000) : (oi x ≤ oi 1000000) ↔ True := ⟨fun _ => trivial, fun _ => (le_oi (by omega) (by omega)).mpr (by omega)⟩
theorem one_sub (h : par ≤ 1) : 1 - (1 - par) = par := by omega
/-- the worth of the game, the reference's way -/
theorem r_val : ∀ n par e p (N : Mm) fu, n ≤ 4 → n < fu → par ≤ 1 → RI N e c → WF e → AN N p → p + n ≤ 5 → ∃ N', F_X12_valueOf fu N (oi n) (oi (1 - par)) = some (oi (zVl c (min n (e 2 - e 1)) par e), N') ∧ RI N' e c ∧ AN N' p ∧ VFr p N N' := by
  intro n
  induction n with
  | zero =>
    intro par e p N fu hn hf hp hI hW hA hp5
    obtain ⟨fu', rfl⟩ : ∃ q, fu = q + 1 := ⟨fu - 1, by omega⟩
    refine ⟨N, ?_, hI, hA, VFr.rf⟩
    rw [F_X12_valueOf]
    unfold F_X12_valueOf_b
    rw [Nat.zero_min]
    simp (disch := omega) only [l_0, l_1, l_2, l_3, l_4, l_5, l_6, l_7, l_8, l_9, l_10, l_11, l_12, l_13, l_14, l_15, l_16, l_17, l_18, l_19, l_20, l_21, l_22, l_23, l_24, l_25, l_26, l_27, l_28, l_29, l_30, l_31, l_32, l_33, l_34, l_35, l_36, l_37, l_38, l_39, l_40, l_41, l_42, l_43, l_44, l_45, l_46, l_47, l_48, l_49, l_50, l_51, l_52, l_53, l_54, l_55, l_56, l_57, l_58, l_59, l_60, l_61, l_62, l_63, l_64, l_65, l_66, l_67, l_68, l_69, l_70, l_71, l_72, l_73, l_74, l_75, l_76, l_77, l_78, l_79, l_80, l_81, l_82, l_83, l_84, l_85, l_86, l_87, l_88, l_89, l_90, l_91, l_92, l_93, l_94, l_95, l_96, l_97, l_98, l_99, l_100, l_101, l_102, l_103, l_104, l_105, l_106, l_107, l_108, l_109, l_110, l_111, l_121, l_122, l_160, l_200, l_201, l_240, l_255, l_361, l_390, l_499, l_500, l_999, l_1000, l_10000, l_10099, l_12345, l_16383, l_20000, l_20033, l_20038, l_20124, l_100000, l_1000000, l_1103515245, ui_oi, ck_oi, sb, jc_e, bl_0, bl_1, le_oi, lt_oi, eq_oi, add_oi, mul_oi, div_oi, ir_oi, gi_e, gi_n, if_true, if_false, if_pos, if_neg, true_and, and_true, false_and, and_false, true_or, or_true, false_or, or_false, zVl]
  | succ n ih =>
    intro par e p N fu hn hf hp hI hW hA hp5
    obtain ⟨fu', rfl⟩ : ∃ q, fu = q + 1 := ⟨fu - 1, by omega⟩
    have h0 := hW.1
    have h12 := hW.2.1
    have hov := r_over hI.1 hW
    rw [F_X12_valueOf]
    unfold F_X12_valueOf_b
    by_cases hlt : e 1 < e 2
    · rw [if_pos hlt] at hov
      obtain ⟨N1, k1, k2, k3, k4, k5⟩ := r_putn hI hA (by omega)
      obtain ⟨f, hf'⟩ : ∃ f, f = (fun a => zWo e c a + zVl c (min n (e 2 - (e 1 + 1))) (1 - par) (zN e c a)) := ⟨_, rfl⟩
      have hz : zVl c (min (n + 1) (e 2 - e 1)) par e = zMx par f (e 0) := by
        rw [show min (n + 1) (e 2 - e 1) = min n (e 2 - (e 1 + 1)) + 1 by omega, zVl, hf']
      rw [hz]
      have hfb : ∀ a, a ≤ e 0 → f a ≤ 200 := fun a ha => by
        have h1 := zWo_le (c := c) hW ha
        have hs := zN_sd (d := e) (c := c) (a := a) (by omega) h0
        have h2 := zVl_le (c := c) (min n (e 2 - (e 1 + 1))) (1 - par) (zN e c a) (zN_w hW ha hlt) (by rw [zN_1, hs.o (by omega)]; omega)
        rw [hf']
        try dsimp only
        omega
      obtain ⟨st, hst⟩ : ∃ st : Int32, st = (if par = 0 then - oi 1 else oi 1000000) := ⟨_, rfl⟩
      have hloop := lp_inv (L := fun m (x : Mm × Int32) y => F_X12_valueOf_L32 (F_X12_valueOf fu') (oi (n + 1)) (oi (1 - par)) m x.1 x.2 y) (n := e 0 + 1) (I := fun a x => RI x.1 e c ∧ AS p x.1 e ∧ AN x.1 (p + 1) ∧ VFr p N x.1 ∧ (a = 0 → x.2 = st) ∧ (∀ b, a = b + 1 → x.2 = oi (zMx par f b))) (Q := fun r => r.1 = oi (zMx par f (e 0)) ∧ RI r.2 e c ∧ AN r.2 p ∧ VFr p N r.2) (fun a mm x ha hx => by
        obtain ⟨X, v⟩ := x
        obtain ⟨i1, i2, i3, i4, i5, i6⟩ := hx
        dsimp only at i1 i2 i3 i4 i5 i6 ⊢
        obtain ⟨N2, t1, t2, t3, t4⟩ := r_tide i1 hW (a := a) (by omega)
        have hsd := zN_sd (d := e) (c := c) (a := a) (by omega) h0
        have hw2 := zN_w (c := c) hW (a := a) (by omega) hlt
        have q1 : zN e c a 1 = e 1 + 1 := zN_1
        have q2 : zN e c a 2 = e 2 := hsd.o (by omega)
        obtain ⟨N3, r1, r2, r3, r4⟩ := ih (1 - par) (zN e c a) (p + 1) N2 fu' (by omega) (by omega) (by omega) t2 hw2 ((t3.g (by decide)).trans i3) (by omega)
        rw [q1, q2, one_sub hp] at r1
        obtain ⟨N4, y1, y2, y3, y4⟩ := r_backS r2 hsd ((i2.oc t3 (by decide)).vf r4 (by omega)) r3 (by omega)
        have hf4 : VFr p N N4 := ((i4.tr (VFr.oc t3 zn3 (by decide))).tr (r4.dn (by omega))).tr (VFr.oc y3 zn5 (by decide))
        obtain ⟨w, hw⟩ : ∃ w, w = zWo e c a := ⟨_, rfl⟩
        obtain ⟨u, hu⟩ : ∃ u, u = zVl c (min n (e 2 - (e 1 + 1))) (1 - par) (zN e c a) := ⟨_, rfl⟩
        rw [← hw] at t1
        rw [← hu] at r1
        have hfa : f a = w + u := by rw [hf', hw, hu]
        have hwu := hfb a (by omega)
        rw [hfa] at hwu
        refine ⟨(N4, oi (zMx par f a)), ⟨y2, ((i2.oc t3 (by decide)).vf r4 (by omega)).oc y3 (by decide), (y3.g (by decide)).trans r3, hf4, fun q => by omega, fun b hb => by rw [show a = b by omega]⟩, ?_⟩
        rw [F_X12_valueOf_L32]
        rcases (by omega : par = 0 ∨ par = 1) with rfl | rfl
        · by_cases ha0 : a = 0
          · have hv : v = - oi 1 := by rw [i5 ha0, hst, if_pos rfl]
            have hm : zMx 0 f a = w + u := by rw [ha0] at hfa ⊢; exact hfa
            rw [hm, hv]
            simp (disch := omega) only [l_0, l_1, l_2, l_3, l_4, l_5, l_6, l_7, l_8, l_9, l_10, l_11, l_12, l_13, l_14, l_15, l_16, l_17, l_18, l_19, l_20, l_21, l_22, l_23, l_24, l_25, l_26, l_27, l_28, l_29, l_30, l_31, l_32, l_33, l_34, l_35, l_36, l_37, l_38, l_39, l_40, l_41, l_42, l_43, l_44, l_45, l_46, l_47, l_48, l_49, l_50, l_51, l_52, l_53, l_54, l_55, l_56, l_57, l_58, l_59, l_60, l_61, l_62, l_63, l_64, l_65, l_66, l_67, l_68, l_69, l_70, l_71, l_72, l_73, l_74, l_75, l_76, l_77, l_78, l_79, l_80, l_81, l_82, l_83, l_84, l_85, l_86, l_87, l_88, l_89, l_90, l_91, l_92, l_93, l_94, l_95, l_96, l_97, l_98, l_99, l_100, l_101, l_102, l_103, l_104, l_105, l_106, l_107, l_108, l_109, l_110, l_111, l_121, l_122, l_160, l_200, l_201, l_240, l_255, l_361, l_390, l_499, l_500, l_999, l_1000, l_10000, l_10099, l_12345, l_16383, l_20000, l_20033, l_20038, l_20124, l_100000, l_1000000, l_1103515245, ui_oi, ck_oi, sb, jc_e, bl_0, bl_1, le_oi, lt_oi, eq_oi, add_oi, mul_oi, div_oi, ir_oi, gi_e, gi_n, if_true, if_false, if_pos, if_neg, true_and, and_true, false_and, and_false, true_or, or_true, false_or, or_false, i1.1.g, t1, sub_oi, Nat.add_sub_cancel, Nat.sub_zero, Nat.sub_self, r1, y1, neg1_lt]
          · obtain ⟨b, rfl⟩ : ∃ b, a = b + 1 := ⟨a - 1, by omega⟩
            have hv := i6 b rfl
            have hmb := zMx_le (par := 0) (f := f) b (fun i hi => hfb i (by omega))
            have hm : zMx 0 f (b + 1) = if w + u ≤ zMx 0 f b then zMx 0 f b else w + u := by rw [zMx, if_pos rfl, hfa]
            rw [hm, hv]
            by_cases hle : w + u ≤ zMx 0 f b
            · simp (disch := omega) only [l_0, l_1, l_2, l_3, l_4, l_5, l_6, l_7, l_8, l_9, l_10, l_11, l_12, l_13, l_14, l_15, l_16, l_17, l_18, l_19, l_20, l_21, l_22, l_23, l_24, l_25, l_26, l_27, l_28, l_29, l_30, l_31, l_32, l_33, l_34, l_35, l_36, l_37, l_38, l_39, l_40, l_41, l_42, l_43, l_44, l_45, l_46, l_47, l_48, l_49, l_50, l_51, l_52, l_53, l_54, l_55, l_56, l_57, l_58, l_59, l_60, l_61, l_62, l_63, l_64, l_65, l_66, l_67, l_68, l_69, l_70, l_71, l_72, l_73, l_74, l_75, l_76, l_77, l_78, l_79, l_80, l_81, l_82, l_83, l_84, l_85, l_86, l_87, l_88, l_89, l_90, l_91, l_92, l_93, l_94, l_95, l_96, l_97, l_98, l_99, l_100, l_101, l_102, l_103, l_104, l_105, l_106, l_107, l_108, l_109, l_110, l_111, l_121, l_122, l_160, l_200, l_201, l_240, l_255, l_361, l_390, l_499, l_500, l_999, l_1000, l_10000, l_10099, l_12345, l_16383, l_20000, l_20033, l_20038, l_20124, l_100000, l_1000000, l_1103515245, ui_oi, ck_oi, sb, jc_e, bl_0, bl_1, le_oi, lt_oi, eq_oi, add_oi, mul_oi, div_oi, ir_oi, gi_e, gi_n, if_true, if_false, if_pos, if_neg, true_and, and_true, false_and, and_false, true_or, or_true, false_or, or_false, i1.1.g, t1, sub_oi, Nat.add_sub_cancel, Nat.sub_zero, Nat.sub_self, r1, y1]
            · simp (disch := omega) only [l_0, l_1, l_2, l_3, l_4, l_5, l_6, l_7, l_8, l_9, l_10, l_11, l_12, l_13, l_14, l_15, l_16, l_17, l_18, l_19, l_20, l_21, l_22, l_23, l_24, l_25, l_26, l_27, l_28, l_29, l_30, l_31, l_32, l_33, l_34, l_35, l_36, l_37, l_38, l_39, l_40, l_41, l_42, l_43, l_44, l_45, l_46, l_47, l_48, l_49, l_50, l_51, l_52, l_53, l_54, l_55, l_56, l_57, l_58, l_59, l_60, l_61, l_62, l_63, l_64, l_65, l_66, l_67, l_68, l_69, l_70, l_71, l_72, l_73, l_74, l_75, l_76, l_77, l_78, l_79, l_80, l_81, l_82, l_83, l_84, l_85, l_86, l_87, l_88, l_89, l_90, l_91, l_92, l_93, l_94, l_95, l_96, l_97, l_98, l_99, l_100, l_101, l_102, l_103, l_104, l_105, l_106, l_107, l_108, l_109, l_110, l_111, l_121, l_122, l_160, l_200, l_201, l_240, l_255, l_361, l_390, l_499, l_500, l_999, l_1000, l_10000, l_10099, l_12345, l_16383, l_20000, l_20033, l_20038, l_20124, l_100000, l_1000000, l_1103515245, ui_oi, ck_oi, sb, jc_e, bl_0, bl_1, le_oi, lt_oi, eq_oi, add_oi, mul_oi, div_oi, ir_oi, gi_e, gi_n, if_true, if_false, if_pos, if_neg, true_and, and_true, false_and, and_false, true_or, or_true, false_or, or_false, i1.1.g, t1, sub_oi, Nat.add_sub_cancel, Nat.sub_zero, Nat.sub_self, r1, y1]
        · by_cases ha0 : a = 0
          · have hv : v = oi 1000000 := by rw [i5 ha0, hst, if_neg (by omega)]
            have hm : zMx 1 f a = w + u := by rw [ha0] at hfa ⊢; exact hfa
            rw [hm, hv]
            simp (disch := omega) only [l_0, l_1, l_2, l_3, l_4, l_5, l_6, l_7, l_8, l_9, l_10, l_11, l_12, l_13, l_14, l_15, l_16, l_17, l_18, l_19, l_20, l_21, l_22, l_23, l_24, l_25, l_26, l_27, l_28, l_29, l_30, l_31, l_32, l_33, l_34, l_35, l_36, l_37, l_38, l_39, l_40, l_41, l_42, l_43, l_44, l_45, l_46, l_47, l_48, l_49, l_50, l_51, l_52, l_53, l_54, l_55, l_56, l_57, l_58, l_59, l_60, l_61, l_62, l_63, l_64, l_65, l_66, l_67, l_68, l_69, l_70, l_71, l_72, l_73, l_74, l_75, l_76, l_77, l_78, l_79, l_80, l_81, l_82, l_83, l_84, l_85, l_86, l_87, l_88, l_89, l_90, l_91, l_92, l_93, l_94, l_95, l_96, l_97, l_98, l_99, l_100, l_101, l_102, l_103, l_104, l_105, l_106, l_107, l_108, l_109, l_110, l_111, l_121, l_122, l_160, l_200, l_201, l_240, l_255, l_361, l_390, l_499, l_500, l_999, l_1000, l_10000, l_10099, l_12345, l_16383, l_20000, l_20033, l_20038, l_20124, l_100000, l_1000000, l_1103515245, ui_oi, ck_oi, sb, jc_e, bl_0, bl_1, le_oi, lt_oi, eq_oi, add_oi, mul_oi, div_oi, ir_oi, gi_e, gi_n, if_true, if_false, if_pos, if_neg, true_and, and_true, false_and, and_false, true_or, or_true, false_or, or_false, i1.1.g, t1, sub_oi, Nat.add_sub_cancel, Nat.sub_zero, Nat.sub_self, r1, y1]
          · obtain ⟨b, rfl⟩ : ∃ b, a = b + 1 := ⟨a - 1, by omega⟩
            have hv := i6 b rfl
            have hmb := zMx_le (par := 1) (f := f) b (fun i hi => hfb i (by omega))
            have hm : zMx 1 f (b + 1) = if zMx 1 f b ≤ w + u then zMx 1 f b else w + u := by rw [zMx, if_neg (by omega), hfa]
            rw [hm, hv]
            by_cases hle : w + u ≤ zMx 1 f b
            · by_cases heq : zMx 1 f b ≤ w + u
              · have he : zMx 1 f b = w + u := by omega
                rw [if_pos heq, he]
                simp (disch := omega) only [l_0, l_1, l_2, l_3, l_4, l_5, l_6, l_7, l_8, l_9, l_10, l_11, l_12, l_13, l_14, l_15, l_16, l_17, l_18, l_19, l_20, l_21, l_22, l_23, l_24, l_25, l_26, l_27, l_28, l_29, l_30, l_31, l_32, l_33, l_34, l_35, l_36, l_37, l_38, l_39, l_40, l_41, l_42, l_43, l_44, l_45, l_46, l_47, l_48, l_49, l_50, l_51, l_52, l_53, l_54, l_55, l_56, l_57, l_58, l_59, l_60, l_61, l_62, l_63, l_64, l_65, l_66, l_67, l_68, l_69, l_70, l_71, l_72, l_73, l_74, l_75, l_76, l_77, l_78, l_79, l_80, l_81, l_82, l_83, l_84, l_85, l_86, l_87, l_88, l_89, l_90, l_91, l_92, l_93, l_94, l_95, l_96, l_97, l_98, l_99, l_100, l_101, l_102, l_103, l_104, l_105, l_106, l_107, l_108, l_109, l_110, l_111, l_121, l_122, l_160, l_200, l_201, l_240, l_255, l_361, l_390, l_499, l_500, l_999, l_1000, l_10000, l_10099, l_12345, l_16383, l_20000, l_20033, l_20038, l_20124, l_100000, l_1000000, l_1103515245, ui_oi, ck_oi, sb, jc_e, bl_0, bl_1, le_oi, lt_oi, eq_oi, add_oi, mul_oi, div_oi, ir_oi, gi_e, gi_n, if_true, if_false, if_pos, if_neg, true_and, and_true, false_and, and_false, true_or, or_true, false_or, or_false, i1.1.g, t1, sub_oi, Nat.add_sub_cancel, Nat.sub_zero, Nat.sub_self, r1, y1]
              · simp (disch := omega) only [l_0, l_1, l_2, l_3, l_4, l_5, l_6, l_7, l_8, l_9, l_10, l_11, l_12, l_13, l_14, l_15, l_16, l_17, l_18, l_19, l_20, l_21, l_22, l_23, l_24, l_25, l_26, l_27, l_28, l_29, l_30, l_31, l_32, l_33, l_34, l_35, l_36, l_37, l_38, l_39, l_40, l_41, l_42, l_43, l_44, l_45, l_46, l_47, l_48, l_49, l_50, l_51, l_52, l_53, l_54, l_55, l_56, l_57, l_58, l_59, l_60, l_61, l_62, l_63, l_64, l_65, l_66, l_67, l_68, l_69, l_70, l_71, l_72, l_73, l_74, l_75, l_76, l_77, l_78, l_79, l_80, l_81, l_82, l_83, l_84, l_85, l_86, l_87, l_88, l_89, l_90, l_91, l_92, l_93, l_94, l_95, l_96, l_97, l_98, l_99, l_100, l_101, l_102, l_103, l_104, l_105, l_106, l_107, l_108, l_109, l_110, l_111, l_121, l_122, l_160, l_200, l_201, l_240, l_255, l_361, l_390, l_499, l_500, l_999, l_1000, l_10000, l_10099, l_12345, l_16383, l_20000, l_20033, l_20038, l_20124, l_100000, l_1000000, l_1103515245, ui_oi, ck_oi, sb, jc_e, bl_0, bl_1, le_oi, lt_oi, eq_oi, add_oi, mul_oi, div_oi, ir_oi, gi_e, gi_n, if_true, if_false, if_pos, if_neg, true_and, and_true, false_and, and_false, true_or, or_true, false_or, or_false, i1.1.g, t1, sub_oi, Nat.add_sub_cancel, Nat.sub_zero, Nat.sub_self, r1, y1]
            · simp (disch := omega) only [l_0, l_1, l_2, l_3, l_4, l_5, l_6, l_7, l_8, l_9, l_10, l_11, l_12, l_13, l_14, l_15, l_16, l_17, l_18, l_19, l_20, l_21, l_22, l_23, l_24, l_25, l_26, l_27, l_28, l_29, l_30, l_31, l_32, l_33, l_34, l_35, l_36, l_37, l_38, l_39, l_40, l_41, l_42, l_43, l_44, l_45, l_46, l_47, l_48, l_49, l_50, l_51, l_52, l_53, l_54, l_55, l_56, l_57, l_58, l_59, l_60, l_61, l_62, l_63, l_64, l_65, l_66, l_67, l_68, l_69, l_70, l_71, l_72, l_73, l_74, l_75, l_76, l_77, l_78, l_79, l_80, l_81, l_82, l_83, l_84, l_85, l_86, l_87, l_88, l_89, l_90, l_91, l_92, l_93, l_94, l_95, l_96, l_97, l_98, l_99, l_100, l_101, l_102, l_103, l_104, l_105, l_106, l_107, l_108, l_109, l_110, l_111, l_121, l_122, l_160, l_200, l_201, l_240, l_255, l_361, l_390, l_499, l_500, l_999, l_1000, l_10000, l_10099, l_12345, l_16383, l_20000, l_20033, l_20038, l_20124, l_100000, l_1000000, l_1103515245, ui_oi, ck_oi, sb, jc_e, bl_0, bl_1, le_oi, lt_oi, eq_oi, add_oi, mul_oi, div_oi, ir_oi, gi_e, gi_n, if_true, if_false, if_pos, if_neg, true_and, and_true, false_and, and_false, true_or, or_true, false_or, or_false, i1.1.g, t1, sub_oi, Nat.add_sub_cancel, Nat.sub_zero, Nat.sub_self, r1, y1]) (fun mm x hx => by
        obtain ⟨X, v⟩ := x
        obtain ⟨i1, i2, i3, i4, i5, i6⟩ := hx
        dsimp only at i1 i2 i3 i4 i5 i6 ⊢
        obtain ⟨N2, t1, t2, t3, t4⟩ := r_takn (p := p) i1 Sd.rf i2 i3 (by omega)
        refine ⟨(v, N2), ?_, i6 (e 0) rfl, t2, t3, i4.tr t4⟩
        rw [F_X12_valueOf_L32]
        simp (disch := omega) only [l_0, l_1, l_2, l_3, l_4, l_5, l_6, l_7, l_8, l_9, l_10, l_11, l_12, l_13, l_14, l_15, l_16, l_17, l_18, l_19, l_20, l_21, l_22, l_23, l_24, l_25, l_26, l_27, l_28, l_29, l_30, l_31, l_32, l_33, l_34, l_35, l_36, l_37, l_38, l_39, l_40, l_41, l_42, l_43, l_44, l_45, l_46, l_47, l_48, l_49, l_50, l_51, l_52, l_53, l_54, l_55, l_56, l_57, l_58, l_59, l_60, l_61, l_62, l_63, l_64, l_65, l_66, l_67, l_68, l_69, l_70, l_71, l_72, l_73, l_74, l_75, l_76, l_77, l_78, l_79, l_80, l_81, l_82, l_83, l_84, l_85, l_86, l_87, l_88, l_89, l_90, l_91, l_92, l_93, l_94, l_95, l_96, l_97, l_98, l_99, l_100, l_101, l_102, l_103, l_104, l_105, l_106, l_107, l_108, l_109, l_110, l_111, l_121, l_122, l_160, l_200, l_201, l_240, l_255, l_361, l_390, l_499, l_500, l_999, l_1000, l_10000, l_10099, l_12345, l_16383, l_20000, l_20033, l_20038, l_20124, l_100000, l_1000000, l_1103515245, ui_oi, ck_oi, sb, jc_e, bl_0, bl_1, le_oi, lt_oi, eq_oi, add_oi, mul_oi, div_oi, ir_oi, gi_e, gi_n, if_true, if_false, if_pos, if_neg, true_and, and_true, false_and, and_false, true_or, or_true, false_or, or_false, i1.1.g, t1]) (e 0 + 1) 0 1000 (N1, st) (by omega) (by omega) ⟨k2, k3, k4, k5, fun _ => rfl, fun b hb => by omega⟩
      obtain ⟨⟨r1, r2⟩, q0, q1, q2, q3, q4⟩ := hloop
      dsimp only at q0 q1 q2 q3 q4
      subst q1
      refine ⟨r2, ?_, q2, q3, q4⟩
      rcases (by omega : par = 0 ∨ par = 1) with rfl | rfl
      · rw [if_pos rfl] at hst
        rw [hst] at q0
        rw [show 1 - 0 = 1 by omega] at q0 ⊢
        simp (disch := omega) only [l_0, l_1, l_2, l_3, l_4, l_5, l_6, l_7, l_8, l_9, l_10, l_11, l_12, l_13, l_14, l_15, l_16, l_17, l_18, l_19, l_20, l_21, l_22, l_23, l_24, l_25, l_26, l_27, l_28, l_29, l_30, l_31, l_32, l_33, l_34, l_35, l_36, l_37, l_38, l_39, l_40, l_41, l_42, l_43, l_44, l_45, l_46, l_47, l_48, l_49, l_50, l_51, l_52, l_53, l_54, l_55, l_56, l_57, l_58, l_59, l_60, l_61, l_62, l_63, l_64, l_65, l_66, l_67, l_68, l_69, l_70, l_71, l_72, l_73, l_74, l_75, l_76, l_77, l_78, l_79, l_80, l_81, l_82, l_83, l_84, l_85, l_86, l_87, l_88, l_89, l_90, l_91, l_92, l_93, l_94, l_95, l_96, l_97, l_98, l_99, l_100, l_101, l_102, l_103, l_104, l_105, l_106, l_107, l_108, l_109, l_110, l_111, l_121, l_122, l_160, l_200, l_201, l_240, l_255, l_361, l_390, l_499, l_500, l_999, l_1000, l_10000, l_10099, l_12345, l_16383, l_20000, l_20033, l_20038, l_20124, l_100000, l_1000000, l_1103515245, ui_oi, ck_oi, sb, jc_e, bl_0, bl_1, le_oi, lt_oi, eq_oi, add_oi, mul_oi, div_oi, ir_oi, gi_e, gi_n, if_true, if_false, if_pos, if_neg, true_and, and_true, false_and, and_false, true_or, or_true, false_or, or_false, hov, k1, q0]
      · rw [if_neg (by omega)] at hst
        rw [hst] at q0
        rw [show 1 - 1 = 0 by omega] at q0 ⊢
        simp (disch := omega) only [l_0, l_1, l_2, l_3, l_4, l_5, l_6, l_7, l_8, l_9, l_10, l_11, l_12, l_13, l_14, l_15, l_16, l_17, l_18, l_19, l_20, l_21, l_22, l_23, l_24, l_25, l_26, l_27, l_28, l_29, l_30, l_31, l_32, l_33, l_34, l_35, l_36, l_37, l_38, l_39, l_40, l_41, l_42, l_43, l_44, l_45, l_46, l_47, l_48, l_49, l_50, l_51, l_52, l_53, l_54, l_55, l_56, l_57, l_58, l_59, l_60, l_61, l_62, l_63, l_64, l_65, l_66, l_67, l_68, l_69, l_70, l_71, l_72, l_73, l_74, l_75, l_76, l_77, l_78, l_79, l_80, l_81, l_82, l_83, l_84, l_85, l_86, l_87, l_88, l_89, l_90, l_91, l_92, l_93, l_94, l_95, l_96, l_97, l_98, l_99, l_100, l_101, l_102, l_103, l_104, l_105, l_106, l_107, l_108, l_109, l_110, l_111, l_121, l_122, l_160, l_200, l_201, l_240, l_255, l_361, l_390, l_499, l_500, l_999, l_1000, l_10000, l_10099, l_12345, l_16383, l_20000, l_20033, l_20038, l_20124, l_100000, l_1000000, l_1103515245, ui_oi, ck_oi, sb, jc_e, bl_0, bl_1, le_oi, lt_oi, eq_oi, add_oi, mul_oi, div_oi, ir_oi, gi_e, gi_n, if_true, if_false, if_pos, if_neg, true_and, and_true, false_and, and_false, true_or, or_true, false_or, or_false, hov, k1, q0]
    · rw [if_neg hlt] at hov
      refine ⟨N, ?_, hI, hA, VFr.rf⟩
      rw [show min (n + 1) (e 2 - e 1) = 0 by omega]
      simp (disch := omega) only [l_0, l_1, l_2, l_3, l_4, l_5, l_6, l_7, l_8, l_9, l_10, l_11, l_12, l_13, l_14, l_15, l_16, l_17, l_18, l_19, l_20, l_21, l_22, l_23, l_24, l_25, l_26, l_27, l_28, l_29, l_30, l_31, l_32, l_33, l_34, l_35, l_36, l_37, l_38, l_39, l_40, l_41, l_42, l_43, l_44, l_45, l_46, l_47, l_48, l_49, l_50, l_51, l_52, l_53, l_54, l_55, l_56, l_57, l_58, l_59, l_60, l_61, l_62, l_63, l_64, l_65, l_66, l_67, l_68, l_69, l_70, l_71, l_72, l_73, l_74, l_75, l_76, l_77, l_78, l_79, l_80, l_81, l_82, l_83, l_84, l_85, l_86, l_87, l_88, l_89, l_90, l_91, l_92, l_93, l_94, l_95, l_96, l_97, l_98, l_99, l_100, l_101, l_102, l_103, l_104, l_105, l_106, l_107, l_108, l_109, l_110, l_111, l_121, l_122, l_160, l_200, l_201, l_240, l_255, l_361, l_390, l_499, l_500, l_999, l_1000, l_10000, l_10099, l_12345, l_16383, l_20000, l_20033, l_20038, l_20124, l_100000, l_1000000, l_1103515245, ui_oi, ck_oi, sb, jc_e, bl_0, bl_1, le_oi, lt_oi, eq_oi, add_oi, mul_oi, div_oi, ir_oi, gi_e, gi_n, if_true, if_false, if_pos, if_neg, true_and, and_true, false_and, and_false, true_or, or_true, false_or, or_false, hov, zVl]
end GA

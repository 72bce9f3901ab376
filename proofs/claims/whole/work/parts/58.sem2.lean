/-! THE TEXT OF RULES: running the told code -/
def RunC (D : Nat) (lc : List Int32) (g : (Nat → Nat) → Bool) : Prop := ∀ (M : Mm) (r s e w fu : Nat) (f : Nat → Nat), r < 8 → gi M 45 (r + 1) = oi e → s + lc.length ≤ e → e ≤ 200 → (∀ i, i < lc.length → gi M 46 (s + i) = lc.getD i 0) → (∀ i, i < 5 → gi M 47 i = oi (f i) ∧ f i ≤ 99) → w < 2 ^ (29 - D) → F_X6_holds_L9 M (oi r) (fu + lc.length) (oi w) (oi s) = F_X6_holds_L9 M (oi r) fu (oi (2 * w + (if g f = true then 1 else 0))) (oi (s + lc.length))
def RunR (D : Nat) (lr : List Int32) (g : (Nat → Nat) → Bool) : Prop := ∀ (N : Mm) (to k p h fu : Nat) (f : Nat → Nat), p + lr.length ≤ to → to ≤ 240 → (∀ i, i < lr.length → gi N 95 (121 + p + i) = lr.getD i 0) → (∀ N2 : Mm, N2.1 95 = N.1 95 → ∀ i, i < 5 → F_X12_factOf N2 (oi i) (oi k) = some (oi (f i)) ∧ f i ≤ 99) → h + D ≤ 240 → ∃ N', F_X12_holds_L13 (oi to) (oi k) (fu + lr.length) N (oi h) (oi p) = F_X12_holds_L13 (oi to) (oi k) fu N' (oi (h + 1)) (oi (p + lr.length)) ∧ Oc [98] N N' ∧ (∀ i, i < h → gi N' 98 i = gi N 98 i) ∧ gi N' 98 h = oi (if g f = true then 1 else 0)
def SM (D : Nat) (lc lr : List Int32) : Prop := lr ≠ [] ∧ ∃ g, RunC D lc g ∧ RunR D lr g
def zVal (f : Nat → Nat) (x : Nat) : Nat := if x < 10000 then x else f (x - 10000)
def zSg (s x y : Nat) : Bool := if s = 0 then decide (x < y) else if s = 1 then decide (x = y) else decide (y < x)
section SE
variable {M N M' N' : Mm} {D D1 D2 : Nat} {lc lr lc1 lr1 lc2 lr2 : List Int32} {g g1 g2 : (Nat → Nat) → Bool}
theorem SM.mono (h : SM D lc lr) (hD : D ≤ D1) : SM D1 lc lr := by
  obtain ⟨hn, g, hC, hR⟩ := h
  refine ⟨hn, g, fun M r s e w fu f a1 a2 a3 a4 a5 a6 a7 => hC M r s e w fu f a1 a2 a3 a4 a5 a6 (Nat.lt_of_lt_of_le a7 (Nat.pow_le_pow_right (by omega) (by omega))), fun N to k p h fu f a1 a2 a3 a4 a5 => hR N to k p h fu f a1 a2 a3 a4 (by omega)⟩
theorem xor1 {x : Nat} (hx : x < 1100000000) : (oi x ^^^ oi 1) = oi (if x % 2 = 1 then x - 1 else x + 1) := by
  rw [xor_oi (by omega) (by omega)]
  congr 1
  apply Nat.eq_of_testBit_eq
  intro i
  rw [Nat.testBit_xor]
  cases i with
  | zero =>
    rw [Nat.testBit_zero, Nat.testBit_zero, Nat.testBit_zero]
    by_cases h : x % 2 = 1
    · rw [if_pos h, decide_eq_true h, decide_eq_false (show ¬ (x - 1) % 2 = 1 by omega)]
      rfl
    · rw [if_neg h, decide_eq_false h, decide_eq_true (show (x + 1) % 2 = 1 by omega)]
      rfl
  | succ i =>
    rw [Nat.testBit_succ, Nat.testBit_succ, Nat.testBit_succ, show 1 / 2 = 0 from rfl, Nat.zero_testBit, Bool.xor_false]
    congr 1
    split <;> omega
theorem pw2_le (D : Nat) : 2 ^ (29 - D) ≤ 536870912 := by
  have : 2 ^ (29 - D) ≤ 2 ^ 29 := Nat.pow_le_pow_right (by omega) (by omega)
  omega
theorem getD_app1 {l1 l2 : List Int32} {i : Nat} (h : i < l1.length) : (l1 ++ l2).getD i 0 = l1.getD i 0 := by
  rw [List.getD_eq_getElem?_getD, List.getD_eq_getElem?_getD, List.getElem?_append_left h]
theorem getD_app2 {l1 l2 : List Int32} {i : Nat} : (l1 ++ l2).getD (l1.length + i) 0 = l2.getD i 0 := by
  rw [List.getD_eq_getElem?_getD, List.getD_eq_getElem?_getD, List.getElem?_append_right (by omega), Nat.add_sub_cancel_left]
/-- turned round -/
theorem RunC_not (h : RunC D lc g) : RunC D (lc ++ [- oi 1]) (fun f => !g f) := by
  intro M r s e w fu f a1 a2 a3 a4 a5 a6 a7
  rw [List.length_append, List.length_singleton] at a3 a5 ⊢
  have hp := pw2_le D
  have h1 := h M r s e w (fu + 1) f a1 a2 (by omega) a4 (fun i hi => by rw [← getD_app1 (l2 := [- oi 1]) hi]; exact a5 i (by omega)) a6 a7
  have hc : gi M 46 (s + lc.length) = - oi 1 := by
    have := a5 (lc.length + 0) (by omega)
    rw [getD_app2] at this
    exact this
  rw [show fu + (lc.length + 1) = fu + 1 + lc.length by omega, h1, F_X6_holds_L9]
  have hx := xor1 (x := 2 * w + (if g f = true then 1 else 0)) (by split <;> omega)
  have he : (oi (if (2 * w + (if g f = true then 1 else 0)) % 2 = 1 then 2 * w + (if g f = true then 1 else 0) - 1 else 2 * w + (if g f = true then 1 else 0) + 1)) = oi (2 * w + (if (!g f) = true then 1 else 0)) := by
    congr 1
    cases g f with
    | true => simp only [if_true, Bool.not_true, Bool.false_eq_true, if_false]; rw [if_pos (by omega)]; omega
    | false => simp only [Bool.false_eq_true, if_false, Bool.not_false, if_true]; rw [if_neg (by omega)]
  rw [he] at hx
  simp (disch := omega) only [l_0, l_1, l_2, l_3, l_4, l_5, l_6, l_7, l_8, l_9, l_10, l_11, l_12, l_13, l_14, l_15, l_16, l_17, l_18, l_19, l_20, l_21, l_22, l_23, l_24, l_25, l_26, l_27, l_28, l_29, l_30, l_31, l_32, l_33, l_34, l_35, l_36, l_37, l_38, l_39, l_40, l_41, l_42, l_43, l_44, l_45, l_46, l_47, l_48, l_49, l_50, l_51, l_52, l_53, l_54, l_55, l_56, l_57, l_58, l_59, l_60, l_61, l_62, l_63, l_64, l_65, l_66, l_67, l_68, l_69, l_70, l_71, l_72, l_73, l_74, l_75, l_76, l_77, l_78, l_79, l_80, l_81, l_82, l_83, l_84, l_85, l_86, l_87, l_88, l_89, l_90, l_91, l_92, l_93, l_94, l_95, l_96, l_97, l_98, l_99, l_100, l_101, l_102, l_103, l_104, l_105, l_106, l_107, l_108, l_109, l_110, l_111, l_121, l_122, l_160, l_200, l_201, l_240, l_255, l_361, l_390, l_499, l_500, l_999, l_1000, l_10000, l_10099, l_12345, l_16383, l_20000, l_20033, l_20038, l_20124, l_100000, l_1000000, l_1103515245, ui_oi, ck_oi, sb, jc_e, bl_0, bl_1, le_oi, lt_oi, eq_oi, add_oi, mul_oi, div_oi, ir_oi, gi_e, gi_n, if_true, if_false, if_pos, if_neg, true_and, and_true, false_and, and_false, true_or, or_true, false_or, or_false, a2, hc, hx, Nat.add_assoc]
theorem RunR_not (h : RunR D lr g) (hD : 1 ≤ D) : RunR D (lr ++ [oi 20033]) (fun f => !g f) := by
  intro N to k p h1 fu f a1 a2 a3 a4 a5
  rw [List.length_append, List.length_singleton] at a1 a3 ⊢
  obtain ⟨N1, x1, x2, x3, x4⟩ := h N to k p h1 (fu + 1) f (by omega) a2 (fun i hi => by rw [← getD_app1 (l2 := [oi 20033]) hi]; exact a3 i (by omega)) a4 a5
  have hc : gi N1 95 (121 + (p + lr.length)) = oi 20033 := by
    have := a3 (lr.length + 0) (by omega)
    rw [getD_app2] at this
    rw [x2.g (by decide), ← Nat.add_assoc]
    exact this
  refine ⟨si N1 98 h1 (oi (if (!g f) = true then 1 else 0)), ?_, x2.tr (Oc.si (S := [98]) (by simp)) (fun c hc => ⟨hc, hc⟩), fun i hi => by rw [gi_n (by omega)]; exact x3 i hi, gi_e⟩
  rw [show fu + (lr.length + 1) = fu + 1 + lr.length by omega, x1, F_X12_holds_L13]
  have hs : oi (h1 + 1) - oi 1 = oi h1 := by rw [sub_oi (by omega), Nat.add_sub_cancel]
  cases hg : g f with
  | true =>
    rw [hg, if_pos rfl] at x4
    simp (disch := omega) only [l_0, l_1, l_2, l_3, l_4, l_5, l_6, l_7, l_8, l_9, l_10, l_11, l_12, l_13, l_14, l_15, l_16, l_17, l_18, l_19, l_20, l_21, l_22, l_23, l_24, l_25, l_26, l_27, l_28, l_29, l_30, l_31, l_32, l_33, l_34, l_35, l_36, l_37, l_38, l_39, l_40, l_41, l_42, l_43, l_44, l_45, l_46, l_47, l_48, l_49, l_50, l_51, l_52, l_53, l_54, l_55, l_56, l_57, l_58, l_59, l_60, l_61, l_62, l_63, l_64, l_65, l_66, l_67, l_68, l_69, l_70, l_71, l_72, l_73, l_74, l_75, l_76, l_77, l_78, l_79, l_80, l_81, l_82, l_83, l_84, l_85, l_86, l_87, l_88, l_89, l_90, l_91, l_92, l_93, l_94, l_95, l_96, l_97, l_98, l_99, l_100, l_101, l_102, l_103, l_104, l_105, l_106, l_107, l_108, l_109, l_110, l_111, l_121, l_122, l_160, l_200, l_201, l_240, l_255, l_361, l_390, l_499, l_500, l_999, l_1000, l_10000, l_10099, l_12345, l_16383, l_20000, l_20033, l_20038, l_20124, l_100000, l_1000000, l_1103515245, ui_oi, ck_oi, sb, jc_e, bl_0, bl_1, le_oi, lt_oi, eq_oi, add_oi, mul_oi, div_oi, ir_oi, gi_e, gi_n, if_true, if_false, if_pos, if_neg, true_and, and_true, false_and, and_false, true_or, or_true, false_or, or_false, hc, hs, x4, sub_oi, Bool.not_true, Bool.false_eq_true, Nat.add_assoc, Nat.sub_self]
  | false =>
    rw [hg, if_neg (by decide)] at x4
    simp (disch := omega) only [l_0, l_1, l_2, l_3, l_4, l_5, l_6, l_7, l_8, l_9, l_10, l_11, l_12, l_13, l_14, l_15, l_16, l_17, l_18, l_19, l_20, l_21, l_22, l_23, l_24, l_25, l_26, l_27, l_28, l_29, l_30, l_31, l_32, l_33, l_34, l_35, l_36, l_37, l_38, l_39, l_40, l_41, l_42, l_43, l_44, l_45, l_46, l_47, l_48, l_49, l_50, l_51, l_52, l_53, l_54, l_55, l_56, l_57, l_58, l_59, l_60, l_61, l_62, l_63, l_64, l_65, l_66, l_67, l_68, l_69, l_70, l_71, l_72, l_73, l_74, l_75, l_76, l_77, l_78, l_79, l_80, l_81, l_82, l_83, l_84, l_85, l_86, l_87, l_88, l_89, l_90, l_91, l_92, l_93, l_94, l_95, l_96, l_97, l_98, l_99, l_100, l_101, l_102, l_103, l_104, l_105, l_106, l_107, l_108, l_109, l_110, l_111, l_121, l_122, l_160, l_200, l_201, l_240, l_255, l_361, l_390, l_499, l_500, l_999, l_1000, l_10000, l_10099, l_12345, l_16383, l_20000, l_20033, l_20038, l_20124, l_100000, l_1000000, l_1103515245, ui_oi, ck_oi, sb, jc_e, bl_0, bl_1, le_oi, lt_oi, eq_oi, add_oi, mul_oi, div_oi, ir_oi, gi_e, gi_n, if_true, if_false, if_pos, if_neg, true_and, and_true, false_and, and_false, true_or, or_true, false_or, or_false, hc, hs, x4, sub_oi, Bool.not_false, Bool.false_eq_true, Nat.add_assoc, Nat.sub_zero]
theorem and_m2 {w t1 t2 : Nat} (h1 : t1 < 2) (h2 : t2 < 2) : (oi (2 * w + t1) &&& (oi (2 * (2 * w + t1) + t2) ||| (- oi 2))) = oi (2 * w + t1 * t2) := by
  apply Int32.toBitVec_inj.1
  have hC : (- oi 2 : Int32).toBitVec = ~~~ (BitVec.ofNat 32 1) := by decide
  show BitVec.ofNat 32 (2 * w + t1) &&& (BitVec.ofNat 32 (2 * (2 * w + t1) + t2) ||| (- oi 2 : Int32).toBitVec) = BitVec.ofNat 32 (2 * w + t1 * t2)
  rw [hC]
  apply BitVec.eq_of_getLsbD_eq
  intro i hi
  rw [BitVec.getLsbD_and, BitVec.getLsbD_or, BitVec.getLsbD_not, BitVec.getLsbD_ofNat, BitVec.getLsbD_ofNat, BitVec.getLsbD_ofNat, BitVec.getLsbD_ofNat]
  cases i with
  | zero =>
    rw [Nat.testBit_zero, Nat.testBit_zero, Nat.testBit_zero, Nat.testBit_zero]
    rcases (by omega : t1 = 0 ∨ t1 = 1) with rfl | rfl <;> rcases (by omega : t2 = 0 ∨ t2 = 1) with rfl | rfl
    · rw [decide_eq_false (show ¬ (2 * w + 0) % 2 = 1 by omega)]
      rfl
    · rw [decide_eq_false (show ¬ (2 * w + 0) % 2 = 1 by omega)]
      rfl
    · rw [decide_eq_true (show (2 * w + 1) % 2 = 1 by omega), decide_eq_false (show ¬ (2 * (2 * w + 1) + 0) % 2 = 1 by omega), decide_eq_false (show ¬ (2 * w + 1 * 0) % 2 = 1 by omega)]
      rfl
    · rw [decide_eq_true (show (2 * w + 1) % 2 = 1 by omega), decide_eq_true (show (2 * (2 * w + 1) + 1) % 2 = 1 by omega)]
      rfl
  | succ i =>
    have e1 : (2 * w + t1) / 2 = w := by omega
    have e2 : (2 * w + t1 * t2) / 2 = w := by
      rcases (by omega : t1 = 0 ∨ t1 = 1) with rfl | rfl <;> omega
    rw [Nat.testBit_succ, Nat.testBit_succ, Nat.testBit_succ, Nat.testBit_succ, e1, e2, show 1 / 2 = 0 from rfl, Nat.zero_testBit]
    simp [hi]
theorem or_m1 {w t1 t2 : Nat} (hw : w < 1000000000) (h1 : t1 < 2) (h2 : t2 < 2) : (oi (2 * w + t1) ||| oi t2) = oi (2 * w + (if t1 = 1 ∨ t2 = 1 then 1 else 0)) := by
  rw [orr_oi (by omega) (by omega)]
  congr 1
  apply Nat.eq_of_testBit_eq
  intro i
  rw [Nat.testBit_or]
  cases i with
  | zero =>
    rw [Nat.testBit_zero, Nat.testBit_zero, Nat.testBit_zero]
    rcases (by omega : t1 = 0 ∨ t1 = 1) with rfl | rfl <;> rcases (by omega : t2 = 0 ∨ t2 = 1) with rfl | rfl
    · rw [if_neg (by omega), decide_eq_false (show ¬ (2 * w + 0) % 2 = 1 by omega)]
      rfl
    · rw [if_pos (by omega), decide_eq_false (show ¬ (2 * w + 0) % 2 = 1 by omega), decide_eq_true (show (2 * w + 1) % 2 = 1 by omega)]
      rfl
    · rw [if_pos (by omega), decide_eq_true (show (2 * w + 1) % 2 = 1 by omega)]
      rfl
    · rw [if_pos (by omega), decide_eq_true (show (2 * w + 1) % 2 = 1 by omega)]
      rfl
  | succ i =>
    have e1 : (2 * w + t1) / 2 = w := by omega
    have e2 : (2 * w + (if t1 = 1 ∨ t2 = 1 then 1 else 0)) / 2 = w := by split <;> omega
    have e3 : t2 / 2 = 0 := by omega
    rw [Nat.testBit_succ, Nat.testBit_succ, Nat.testBit_succ, e1, e2, e3, Nat.zero_testBit, Bool.or_false]
theorem n21 : (- oi 2 : Int32) = - oi 1 ↔ False := ⟨fun q => absurd q (by decide), False.elim⟩
theorem n31 : (- oi 3 : Int32) = - oi 1 ↔ False := ⟨fun q => absurd q (by decide), False.elim⟩
theorem n32 : (- oi 3 : Int32) = - oi 2 ↔ False := ⟨fun q => absurd q (by decide), False.elim⟩
theorem ne_negk {a k : Nat} (h : a < 2147483648) (hk : k < 100) (h0 : 0 < k) : oi a = - oi k ↔ False := ⟨fun q => by
  have := neg_lt_oi (a := a) (b := k) h (by omega) h0
  rw [q] at this
  exact Int32.lt_irrefl this, False.elim⟩
/-- two of them, and what joins them -/
theorem RunC_two (h1 : RunC D1 lc1 g1) (h2 : RunC D2 lc2 g2) (hD1 : D1 ≤ D) (hD2 : D2 + 1 ≤ D) (hD3 : 4 ≤ D) (hD : D ≤ 20) {v : Int32} {j : Bool → Bool → Bool} (hv : (v = - oi 2 ∧ j = fun a b => a && b) ∨ (v = - oi 3 ∧ j = fun a b => a || b)) : RunC D (lc1 ++ (lc2 ++ [v])) (fun f => j (g1 f) (g2 f)) := by
  intro M r s e w fu f a1 a2 a3 a4 a5 a6 a7
  rw [List.length_append, List.length_append, List.length_singleton] at a3 a5 ⊢
  have hp : 2 ^ (29 - D) ≤ 33554432 := by
    have : 2 ^ (29 - D) ≤ 2 ^ 25 := Nat.pow_le_pow_right (by omega) (by omega)
    omega
  have hpa : 2 ^ (29 - D) ≤ 2 ^ (29 - D1) := Nat.pow_le_pow_right (by omega) (by omega)
  have hpb : 2 ^ (29 - D) * 2 ≤ 2 ^ (29 - D2) := by
    rw [← Nat.pow_succ]
    exact Nat.pow_le_pow_right (by omega) (by omega)
  have x1 := h1 M r s e w (fu + 1 + lc2.length) f a1 a2 (by omega) a4 (fun i hi => by rw [← getD_app1 (l2 := lc2 ++ [v]) hi]; exact a5 i (by omega)) a6 (by omega)
  have x2 := h2 M r (s + lc1.length) e (2 * w + (if g1 f = true then 1 else 0)) (fu + 1) f a1 a2 (by omega) a4 (fun i hi => by
    have := a5 (lc1.length + i) (by omega)
    rw [getD_app2, getD_app1 hi] at this
    rw [Nat.add_assoc]
    exact this) a6 (by split <;> omega)
  have hc : gi M 46 (s + lc1.length + lc2.length) = v := by
    have := a5 (lc1.length + (lc2.length + 0)) (by omega)
    rw [getD_app2, getD_app2] at this
    rw [Nat.add_assoc]
    exact this
  rw [show fu + (lc1.length + (lc2.length + 1)) = fu + 1 + lc2.length + lc1.length by omega, x1, x2, F_X6_holds_L9]
  rw [show s + (lc1.length + (lc2.length + 1)) = s + lc1.length + lc2.length + 1 by omega]
  obtain ⟨t1, ht1⟩ : ∃ t1, t1 = (if g1 f = true then 1 else 0) := ⟨_, rfl⟩
  obtain ⟨t2, ht2⟩ : ∃ t2, t2 = (if g2 f = true then 1 else 0) := ⟨_, rfl⟩
  have hl1 : t1 < 2 := by rw [ht1]; split <;> omega
  have hl2 : t2 < 2 := by rw [ht2]; split <;> omega
  rw [← ht1, ← ht2]
  have hsr := sr1 (x := 2 * (2 * w + t1) + t2) (by omega)
  rw [show (2 * (2 * w + t1) + t2) / 2 = 2 * w + t1 by omega] at hsr
  rcases hv with ⟨rfl, rfl⟩ | ⟨rfl, rfl⟩
  · have hand := and_m2 (w := w) hl1 hl2
    have he : t1 * t2 = (if (g1 f && g2 f) = true then 1 else 0) := by
      rw [ht1, ht2]
      cases g1 f <;> cases g2 f <;> rfl
    rw [he] at hand
    simp (disch := omega) only [l_0, l_1, l_2, l_3, l_4, l_5, l_6, l_7, l_8, l_9, l_10, l_11, l_12, l_13, l_14, l_15, l_16, l_17, l_18, l_19, l_20, l_21, l_22, l_23, l_24, l_25, l_26, l_27, l_28, l_29, l_30, l_31, l_32, l_33, l_34, l_35, l_36, l_37, l_38, l_39, l_40, l_41, l_42, l_43, l_44, l_45, l_46, l_47, l_48, l_49, l_50, l_51, l_52, l_53, l_54, l_55, l_56, l_57, l_58, l_59, l_60, l_61, l_62, l_63, l_64, l_65, l_66, l_67, l_68, l_69, l_70, l_71, l_72, l_73, l_74, l_75, l_76, l_77, l_78, l_79, l_80, l_81, l_82, l_83, l_84, l_85, l_86, l_87, l_88, l_89, l_90, l_91, l_92, l_93, l_94, l_95, l_96, l_97, l_98, l_99, l_100, l_101, l_102, l_103, l_104, l_105, l_106, l_107, l_108, l_109, l_110, l_111, l_121, l_122, l_160, l_200, l_201, l_240, l_255, l_361, l_390, l_499, l_500, l_999, l_1000, l_10000, l_10099, l_12345, l_16383, l_20000, l_20033, l_20038, l_20124, l_100000, l_1000000, l_1103515245, ui_oi, ck_oi, sb, jc_e, bl_0, bl_1, le_oi, lt_oi, eq_oi, add_oi, mul_oi, div_oi, ir_oi, gi_e, gi_n, if_true, if_false, if_pos, if_neg, true_and, and_true, false_and, and_false, true_or, or_true, false_or, or_false, a2, hc, n21, hsr, hand]
  · have hor := or_m1 (w := w) (by omega) hl1 hl2
    have he : (if t1 = 1 ∨ t2 = 1 then 1 else 0) = (if (g1 f || g2 f) = true then 1 else 0) := by
      rw [ht1, ht2]
      cases g1 f <;> cases g2 f <;> rfl
    rw [he] at hor
    have hb : (oi (2 * (2 * w + t1) + t2) &&& oi 1) = oi t2 := by
      rw [and_oi (by omega) (by omega)]
      congr 1
      rw [Nat.and_one_is_mod]
      omega
    simp (disch := omega) only [l_0, l_1, l_2, l_3, l_4, l_5, l_6, l_7, l_8, l_9, l_10, l_11, l_12, l_13, l_14, l_15, l_16, l_17, l_18, l_19, l_20, l_21, l_22, l_23, l_24, l_25, l_26, l_27, l_28, l_29, l_30, l_31, l_32, l_33, l_34, l_35, l_36, l_37, l_38, l_39, l_40, l_41, l_42, l_43, l_44, l_45, l_46, l_47, l_48, l_49, l_50, l_51, l_52, l_53, l_54, l_55, l_56, l_57, l_58, l_59, l_60, l_61, l_62, l_63, l_64, l_65, l_66, l_67, l_68, l_69, l_70, l_71, l_72, l_73, l_74, l_75, l_76, l_77, l_78, l_79, l_80, l_81, l_82, l_83, l_84, l_85, l_86, l_87, l_88, l_89, l_90, l_91, l_92, l_93, l_94, l_95, l_96, l_97, l_98, l_99, l_100, l_101, l_102, l_103, l_104, l_105, l_106, l_107, l_108, l_109, l_110, l_111, l_121, l_122, l_160, l_200, l_201, l_240, l_255, l_361, l_390, l_499, l_500, l_999, l_1000, l_10000, l_10099, l_12345, l_16383, l_20000, l_20033, l_20038, l_20124, l_100000, l_1000000, l_1103515245, ui_oi, ck_oi, sb, jc_e, bl_0, bl_1, le_oi, lt_oi, eq_oi, add_oi, mul_oi, div_oi, ir_oi, gi_e, gi_n, if_true, if_false, if_pos, if_neg, true_and, and_true, false_and, and_false, true_or, or_true, false_or, or_false, a2, hc, n31, n32, hsr, hb, hor]
theorem RunR_two (h1 : RunR D1 lr1 g1) (h2 : RunR D2 lr2 g2) (hD1 : D1 ≤ D) (hD2 : D2 + 1 ≤ D) (hD0 : 2 ≤ D) {v : Nat} {j : Bool → Bool → Bool} (hv : (v = 20038 ∧ j = fun a b => a && b) ∨ (v = 20124 ∧ j = fun a b => a || b)) : RunR D (lr1 ++ (lr2 ++ [oi v])) (fun f => j (g1 f) (g2 f)) := by
  intro N to k p h fu f a1 a2 a3 a4 a5
  rw [List.length_append, List.length_append, List.length_singleton] at a1 a3 ⊢
  obtain ⟨N1, x1, x2, x3, x4⟩ := h1 N to k p h (fu + 1 + lr2.length) f (by omega) a2 (fun i hi => by rw [← getD_app1 (l2 := lr2 ++ [oi v]) hi]; exact a3 i (by omega)) a4 (by omega)
  obtain ⟨N2, y1, y2, y3, y4⟩ := h2 N1 to k (p + lr1.length) (h + 1) (fu + 1) f (by omega) a2 (fun i hi => by
    have := a3 (lr1.length + i) (by omega)
    rw [getD_app2, getD_app1 hi] at this
    rw [x2.g (by decide), show 121 + (p + lr1.length) + i = 121 + p + (lr1.length + i) by omega]
    exact this) (fun N3 hN3 => a4 N3 (hN3.trans (x2 95 (by decide)))) (by omega)
  have hc : gi N2 95 (121 + (p + lr1.length + lr2.length)) = oi v := by
    have := a3 (lr1.length + (lr2.length + 0)) (by omega)
    rw [getD_app2, getD_app2] at this
    rw [y2.g (by decide), x2.g (by decide), show 121 + (p + lr1.length + lr2.length) = 121 + p + (lr1.length + (lr2.length + 0)) by omega]
    exact this
  have g1h : gi N2 98 h = oi (if g1 f = true then 1 else 0) := (y3 h (by omega)).trans x4
  have hm1 : oi (h + 1 + 1) + (- oi 1) = oi (h + 1) := by
    rw [← Int32.sub_eq_add_neg, sub_oi (by omega), Nat.add_sub_cancel]
  have hs1 : oi (h + 1) - oi 1 = oi h := by rw [sub_oi (by omega), Nat.add_sub_cancel]
  have hO : Oc [98] N N2 := x2.tr y2 (fun c hc => ⟨hc, hc⟩)
  refine ⟨si N2 98 h (oi (if j (g1 f) (g2 f) = true then 1 else 0)), ?_, hO.tr (Oc.si (S := [98]) (by simp)) (fun c hc => ⟨hc, hc⟩), fun i hi => by rw [gi_n (by omega), y3 i (by omega), x3 i hi], gi_e⟩
  rw [show fu + (lr1.length + (lr2.length + 1)) = fu + 1 + lr2.length + lr1.length by omega, x1, y1, F_X12_holds_L13]
  rw [show p + (lr1.length + (lr2.length + 1)) = p + lr1.length + lr2.length + 1 by omega]
  rcases hv with ⟨rfl, rfl⟩ | ⟨rfl, rfl⟩
  · have hd : F_X12_done (oi 20038 - oi 20000) (oi (if g1 f = true then 1 else 0)) (oi (if g2 f = true then 1 else 0)) = some (oi (if (g1 f && g2 f) = true then 1 else 0)) := by
      cases g1 f <;> cases g2 f <;> decide
    simp (disch := omega) only [l_0, l_1, l_2, l_3, l_4, l_5, l_6, l_7, l_8, l_9, l_10, l_11, l_12, l_13, l_14, l_15, l_16, l_17, l_18, l_19, l_20, l_21, l_22, l_23, l_24, l_25, l_26, l_27, l_28, l_29, l_30, l_31, l_32, l_33, l_34, l_35, l_36, l_37, l_38, l_39, l_40, l_41, l_42, l_43, l_44, l_45, l_46, l_47, l_48, l_49, l_50, l_51, l_52, l_53, l_54, l_55, l_56, l_57, l_58, l_59, l_60, l_61, l_62, l_63, l_64, l_65, l_66, l_67, l_68, l_69, l_70, l_71, l_72, l_73, l_74, l_75, l_76, l_77, l_78, l_79, l_80, l_81, l_82, l_83, l_84, l_85, l_86, l_87, l_88, l_89, l_90, l_91, l_92, l_93, l_94, l_95, l_96, l_97, l_98, l_99, l_100, l_101, l_102, l_103, l_104, l_105, l_106, l_107, l_108, l_109, l_110, l_111, l_121, l_122, l_160, l_200, l_201, l_240, l_255, l_361, l_390, l_499, l_500, l_999, l_1000, l_10000, l_10099, l_12345, l_16383, l_20000, l_20033, l_20038, l_20124, l_100000, l_1000000, l_1103515245, ui_oi, ck_oi, sb, jc_e, bl_0, bl_1, le_oi, lt_oi, eq_oi, add_oi, mul_oi, div_oi, ir_oi, gi_e, gi_n, if_true, if_false, if_pos, if_neg, true_and, and_true, false_and, and_false, true_or, or_true, false_or, or_false, hc, hm1, hs1, g1h, y4, hd]
  · have hd : F_X12_done (oi 20124 - oi 20000) (oi (if g1 f = true then 1 else 0)) (oi (if g2 f = true then 1 else 0)) = some (oi (if (g1 f || g2 f) = true then 1 else 0)) := by
      cases g1 f <;> cases g2 f <;> decide
    simp (disch := omega) only [l_0, l_1, l_2, l_3, l_4, l_5, l_6, l_7, l_8, l_9, l_10, l_11, l_12, l_13, l_14, l_15, l_16, l_17, l_18, l_19, l_20, l_21, l_22, l_23, l_24, l_25, l_26, l_27, l_28, l_29, l_30, l_31, l_32, l_33, l_34, l_35, l_36, l_37, l_38, l_39, l_40, l_41, l_42, l_43, l_44, l_45, l_46, l_47, l_48, l_49, l_50, l_51, l_52, l_53, l_54, l_55, l_56, l_57, l_58, l_59, l_60, l_61, l_62, l_63, l_64, l_65, l_66, l_67, l_68, l_69, l_70, l_71, l_72, l_73, l_74, l_75, l_76, l_77, l_78, l_79, l_80, l_81, l_82, l_83, l_84, l_85, l_86, l_87, l_88, l_89, l_90, l_91, l_92, l_93, l_94, l_95, l_96, l_97, l_98, l_99, l_100, l_101, l_102, l_103, l_104, l_105, l_106, l_107, l_108, l_109, l_110, l_111, l_121, l_122, l_160, l_200, l_201, l_240, l_255, l_361, l_390, l_499, l_500, l_999, l_1000, l_10000, l_10099, l_12345, l_16383, l_20000, l_20033, l_20038, l_20124, l_100000, l_1000000, l_1103515245, ui_oi, ck_oi, sb, jc_e, bl_0, bl_1, le_oi, lt_oi, eq_oi, add_oi, mul_oi, div_oi, ir_oi, gi_e, gi_n, if_true, if_false, if_pos, if_neg, true_and, and_true, false_and, and_false, true_or, or_true, false_or, or_false, hc, hm1, hs1, g1h, y4, hd]
theorem SM_and (h1 : SM D1 lc1 lr1) (h2 : SM D2 lc2 lr2) (hD1 : D1 ≤ D) (hD2 : D2 + 1 ≤ D) (hD3 : 4 ≤ D) (hD : D ≤ 20) : SM D (lc1 ++ (lc2 ++ [- oi 2])) (lr1 ++ (lr2 ++ [oi 20038])) := by
  obtain ⟨m1, g1, a1, a2⟩ := h1
  obtain ⟨m2, g2, b1, b2⟩ := h2
  exact ⟨by simp, fun f => g1 f && g2 f, RunC_two (j := fun a b => a && b) a1 b1 hD1 hD2 hD3 hD (Or.inl ⟨rfl, rfl⟩), RunR_two (j := fun a b => a && b) a2 b2 hD1 hD2 (by omega) (Or.inl ⟨rfl, rfl⟩)⟩
theorem SM_or (h1 : SM D1 lc1 lr1) (h2 : SM D2 lc2 lr2) (hD1 : D1 ≤ D) (hD2 : D2 + 1 ≤ D) (hD3 : 4 ≤ D) (hD : D ≤ 20) : SM D (lc1 ++ (lc2 ++ [- oi 3])) (lr1 ++ (lr2 ++ [oi 20124])) := by
  obtain ⟨m1, g1, a1, a2⟩ := h1
  obtain ⟨m2, g2, b1, b2⟩ := h2
  exact ⟨by simp, fun f => g1 f || g2 f, RunC_two (j := fun a b => a || b) a1 b1 hD1 hD2 hD3 hD (Or.inr ⟨rfl, rfl⟩), RunR_two (j := fun a b => a || b) a2 b2 hD1 hD2 (by omega) (Or.inr ⟨rfl, rfl⟩)⟩
/-- n times not -/
theorem SM_not (h : SM D lc lr) (hD : 1 ≤ D) : ∀ n, SM D (lc ++ (if n % 2 = 1 then [- oi 1] else [])) (lr ++ List.replicate n (oi 20033)) := by
  obtain ⟨hne, g, hC, hR⟩ := h
  have key : ∀ n, RunR D (lr ++ List.replicate n (oi 20033)) (fun f => if n % 2 = 1 then !g f else g f) := by
    intro n
    induction n with
    | zero =>
      rw [List.replicate_zero, List.append_nil]
      exact hR
    | succ n ih =>
      have h2 := RunR_not ih hD
      have e : (fun f => !(if n % 2 = 1 then !g f else g f)) = (fun f => if (n + 1) % 2 = 1 then !g f else g f) := by
        funext f
        by_cases hn : n % 2 = 1
        · rw [if_pos hn, if_neg (by omega), Bool.not_not]
        · rw [if_neg hn, if_pos (by omega)]
      rw [e, List.append_assoc, ← List.replicate_succ'] at h2
      exact h2
  intro n
  by_cases hn : n % 2 = 1
  · have k := key n
    simp only [if_pos hn] at k ⊢
    exact ⟨by simp [hne], _, RunC_not hC, k⟩
  · have k := key n
    simp only [if_neg hn, List.append_nil] at k ⊢
    exact ⟨by simp [hne], _, hC, k⟩
end SE

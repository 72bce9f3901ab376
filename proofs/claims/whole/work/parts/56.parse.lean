/-! THE TEXT OF RULES: both read it; the small steps -/
def TKM (b : Nat → Nat) (n K : Nat) (M : Mm) : Prop := K ≤ n ∧ n ≤ 200 ∧ zPl b n K = n ∧ ∀ a, a ≤ K → gi M 14 a = oi (zPl b n a) ∧ gi M 13 a = tI (zTt b n (zPl b n a)) ∧ (zPl b n a < n ↔ a < K)
def tkn (b : Nat → Nat) (n a : Nat) : Nat := zTt b n (zPl b n a)
def GM (b : Nat → Nat) (n K : Nat) (M : Mm) (a sc : Nat) : Prop := TKM b n K M ∧ a ≤ K ∧ sc ≤ a ∧ gi M 7 9 = oi a ∧ gi M 7 10 = - oi 1 ∧ gi M 7 5 = oi sc
def GN (b : Nat → Nat) (n : Nat) (N : Mm) (a sr o : Nat) : Prop := TY N n b ∧ gi N 94 8 = oi n ∧ sr ≤ a ∧ AT N b n (zPl b n a) ∧ gi N 94 13 = oi 0 ∧ gi N 94 16 = oi sr ∧ gi N 94 14 = oi o
/-- at fault at s -/
def BM (b : Nat → Nat) (n K : Nat) (M : Mm) (s : Nat) : Prop := TKM b n K M ∧ s ≤ n ∧ gi M 7 10 = oi s ∧ ∃ a, a ≤ K ∧ gi M 7 9 = oi a
def BN (b : Nat → Nat) (n : Nat) (N : Mm) (s : Nat) : Prop := TY N n b ∧ gi N 94 8 = oi n ∧ gi N 94 13 = oi 1 ∧ gi N 94 10 = oi s
def FM (M M' : Mm) : Prop := Oc [7, 11] M M' ∧ ∀ j, j ≠ 5 → j ≠ 9 → j ≠ 10 → gi M' 7 j = gi M 7 j
def FR (N N' : Mm) : Prop := Oc [94, 101] N N' ∧ ∀ j, j ≠ 9 → j ≠ 10 → j ≠ 11 → j ≠ 13 → j ≠ 14 → j ≠ 16 → gi N' 94 j = gi N 94 j
section PA
variable {M N M' N' N1 M1 : Mm} {b : Nat → Nat} {n K a sc sr o s t k : Nat}
theorem FM.rf : FM M M := ⟨Oc.rf, fun _ _ _ _ => rfl⟩
theorem FM.tr (h1 : FM M M1) (h2 : FM M1 M') : FM M M' := ⟨h1.1.tr h2.1 (fun c hc => ⟨hc, hc⟩), fun j a b c => (h2.2 j a b c).trans (h1.2 j a b c)⟩
theorem FM.s7 {j : Nat} {v : Int32} (h : j = 5 ∨ j = 9 ∨ j = 10) : FM M (si M 7 j v) := ⟨Oc.si (by simp), fun i a b c => gi_n (by omega)⟩
theorem FM.s11 {j : Nat} {v : Int32} : FM M (si M 11 j v) := ⟨Oc.si (by simp), fun i a b c => gi_n (by omega)⟩
theorem FR.rf : FR N N := ⟨Oc.rf, fun _ _ _ _ _ _ _ => rfl⟩
theorem FR.tr (h1 : FR N N1) (h2 : FR N1 N') : FR N N' := ⟨h1.1.tr h2.1 (fun c hc => ⟨hc, hc⟩), fun j a b c d e f => (h2.2 j a b c d e f).trans (h1.2 j a b c d e f)⟩
theorem FR.s4 {j : Nat} {v : Int32} (h : j = 9 ∨ j = 10 ∨ j = 11 ∨ j = 13 ∨ j = 14 ∨ j = 16) : FR N (si N 94 j v) := ⟨Oc.si (by simp), fun i a b c d e f => gi_n (by omega)⟩
theorem FR.s1 {j : Nat} {v : Int32} : FR N (si N 101 j v) := ⟨Oc.si (by simp), fun i a b c d e f => gi_n (by omega)⟩
theorem FN.fr (h : FN N N') : FR N N' := ⟨h.1.su (fun c hc q => hc (by simp at q ⊢; omega)), fun j a b c _ _ _ => h.2 j a b c⟩
theorem TKM.fm (h : TKM b n K M) (hF : FM M M') : TKM b n K M' := ⟨h.1, h.2.1, h.2.2.1, fun a ha => by
  obtain ⟨x1, x2, x3⟩ := h.2.2.2 a ha
  exact ⟨(hF.1.g (by decide)).trans x1, (hF.1.g (by decide)).trans x2, x3⟩⟩
theorem TKM.pl (h : TKM b n K M) (ha : a ≤ K) : zPl b n a ≤ n := by
  have h1 := (h.2.2.2 a ha).2.2
  have h2 := h.2.2.1
  by_cases hk : a = K
  · rw [hk, h2]
    exact Nat.le_refl _
  · have := h1.mpr (by omega)
    omega
theorem zTk_ne (b : Nat → Nat) (n p : Nat) : zTk b n p ≠ 60 ∧ (zTk b n p < 24 ∨ zTk b n p = 50 ∨ 100 ≤ zTk b n p) := by
  unfold zTk
  split
  · split
    · omega
    · omega
  · rcases zWd_spec (b := b) (p := p) (len := zE_ b n p - p) 24 0 (by omega) with ⟨j, a1, a2, a3, a4⟩ | ⟨a1, a2⟩
    · rw [a4]
      omega
    · rw [a2]
      omega
theorem tkn_k (h : TKM b n K M) (ha : a ≤ K) (ht : tkn b n a ≠ 60) : a < K := by
  refine ((h.2.2.2 a ha).2.2).mp (Classical.byContradiction (fun q => ht ?_))
  unfold tkn zTt
  rw [if_neg q]
theorem tkn_e (h : TKM b n K M) (ht : a < K) : tkn b n a ≠ 60 := by
  have h1 := ((h.2.2.2 a (by omega)).2.2).mpr ht
  unfold tkn zTt
  rw [if_pos h1]
  exact (zTk_ne b n _).1
theorem tkn_c : tkn b n a < 24 ∨ tkn b n a = 50 ∨ tkn b n a = 60 ∨ 100 ≤ tkn b n a := by
  unfold tkn zTt
  split
  · have := (zTk_ne b n (zPl b n a)).2
    omega
  · omega
/-- the class's token as a number -/
theorem tI_lt {lo : Nat} (h : t < 1000000) (hc : t < 24 ∨ t = 50 ∨ t = 60 ∨ 100 ≤ t) (hlo : lo < 1000000) (hlo2 : lo ≤ 100) : (tI t < oi lo ↔ (t < lo ∨ t = 50 ∨ t = 60)) := by
  unfold tI
  by_cases h1 : t = 50
  · rw [if_pos h1]
    exact ⟨fun _ => Or.inr (Or.inl h1), fun _ => neg_lt_oi (by omega) (by omega) (by omega)⟩
  · rw [if_neg h1]
    by_cases h2 : t = 60
    · rw [if_pos h2]
      exact ⟨fun _ => Or.inr (Or.inr h2), fun _ => neg_lt_oi (by omega) (by omega) (by omega)⟩
    · rw [if_neg h2, lt_oi (by omega) (by omega)]
      omega
theorem tI_eq {v : Nat} (h : t < 1000000) (hv : v < 24) : (tI t = oi v ↔ t = v) := by
  unfold tI
  by_cases h1 : t = 50
  · rw [if_pos h1]
    refine ⟨fun q => ?_, fun q => by omega⟩
    have := neg_lt_oi (a := v) (b := 2) (by omega) (by omega) (by omega)
    rw [q] at this
    exact absurd this Int32.lt_irrefl
  · rw [if_neg h1]
    by_cases h2 : t = 60
    · rw [if_pos h2]
      refine ⟨fun q => ?_, fun q => by omega⟩
      have := neg_lt_oi (a := v) (b := 1) (by omega) (by omega) (by omega)
      rw [q] at this
      exact absurd this Int32.lt_irrefl
    · rw [if_neg h2, eq_oi (by omega) (by omega)]
theorem tI_oi (h1 : t ≠ 50) (h2 : t ≠ 60) : tI t = oi t := by
  unfold tI
  rw [if_neg h1, if_neg h2]
theorem zTk_lt : ∀ {p : Nat}, p < n → zTk b n p < 10100 := by
  intro p hp
  unfold zTk
  split
  · split
    · have h := zNm_lt (b := b) (p := p) (len := zE_ b n p - p) (zE_dg hp ‹_›)
      have := pw10 (zE_ b n p - p) ‹_›
      omega
    · omega
  · rcases zWd_spec (b := b) (p := p) (len := zE_ b n p - p) 24 0 (by omega) with ⟨j, a1, a2, a3, a4⟩ | ⟨a1, a2⟩
    · rw [a4]
      omega
    · rw [a2]
      omega
theorem tkn_lt : tkn b n a < 10100 := by
  unfold tkn zTt
  split
  · exact zTk_lt ‹_›
  · omega
/-- the class expects a token of lo .. hi -/
theorem c_exp {lo hi : Nat} (h : GM b n K M a sc) (hlo : lo ≤ 100) (hhi : hi < 20000) (hlh : hi < 24 ∨ (lo = 100 ∧ hi = 10099)) : (lo ≤ tkn b n a ∧ tkn b n a ≤ hi ∧ F_X6_expect M (oi lo) (oi hi) = some (oi (tkn b n a), si M 7 9 (oi (a + 1))) ∧ GM b n K (si M 7 9 (oi (a + 1))) (a + 1) sc) ∨ (¬ (lo ≤ tkn b n a ∧ tkn b n a ≤ hi) ∧ F_X6_expect M (oi lo) (oi hi) = some (oi lo, si M 7 10 (oi (zPl b n a))) ∧ BM b n K (si M 7 10 (oi (zPl b n a))) (zPl b n a)) := by
  obtain ⟨hT, hK, hs, h9, h10, h5⟩ := id h
  obtain ⟨x1, x2, x3⟩ := hT.2.2.2 a hK
  have hnk := hT.2.1
  have hKn := hT.1
  have hpl := hT.pl hK
  have hlt := tkn_lt (b := b) (n := n) (a := a)
  have hc := tkn_c (b := b) (n := n) (a := a)
  have hx2 : gi M 13 a = tI (tkn b n a) := x2
  have hneg : (- oi 1 : Int32) < oi 0 := by decide
  have hl := tI_lt (t := tkn b n a) (lo := lo) (by omega) hc (by omega) hlo
  unfold F_X6_expect
  by_cases hin : lo ≤ tkn b n a ∧ tkn b n a ≤ hi
  · have hr : tkn b n a ≠ 50 ∧ tkn b n a ≠ 60 := by omega
    have ht := tI_oi hr.1 hr.2
    rw [ht] at hx2
    have hak := tkn_k hT hK hr.2
    refine Or.inl ⟨hin.1, hin.2, ?_, hT.fm (FM.s7 (by omega)), by omega, by omega, gi_e, by rw [gi_n (by omega)]; exact h10, by rw [gi_n (by omega)]; exact h5⟩
    simp (disch := omega) only [l_0, l_1, l_2, l_3, l_4, l_5, l_6, l_7, l_8, l_9, l_10, l_11, l_12, l_13, l_14, l_15, l_16, l_17, l_18, l_19, l_20, l_21, l_22, l_23, l_24, l_25, l_26, l_27, l_28, l_29, l_30, l_31, l_32, l_33, l_34, l_35, l_36, l_37, l_38, l_39, l_40, l_41, l_42, l_43, l_44, l_45, l_46, l_47, l_48, l_49, l_50, l_51, l_52, l_53, l_54, l_55, l_56, l_57, l_58, l_59, l_60, l_61, l_62, l_63, l_64, l_65, l_66, l_67, l_68, l_69, l_70, l_71, l_72, l_73, l_74, l_75, l_76, l_77, l_78, l_79, l_80, l_81, l_82, l_83, l_84, l_85, l_86, l_87, l_88, l_89, l_90, l_91, l_92, l_93, l_94, l_95, l_96, l_97, l_98, l_99, l_100, l_101, l_102, l_103, l_104, l_105, l_106, l_107, l_108, l_109, l_110, l_111, l_121, l_122, l_160, l_200, l_201, l_240, l_255, l_361, l_390, l_499, l_500, l_999, l_1000, l_10000, l_10099, l_12345, l_16383, l_20000, l_20033, l_20038, l_20124, l_100000, l_1000000, l_1103515245, ui_oi, ck_oi, sb, jc_e, bl_0, bl_1, le_oi, lt_oi, eq_oi, add_oi, mul_oi, div_oi, ir_oi, gi_e, gi_n, if_true, if_false, if_pos, if_neg, true_and, and_true, false_and, and_false, true_or, or_true, false_or, or_false, h9, h10, hneg, hx2]
  · refine Or.inr ⟨hin, ?_, hT.fm (FM.s7 (by omega)), hpl, gi_e, a, hK, by rw [gi_n (by omega)]; exact h9⟩
    by_cases hlo2 : tI (tkn b n a) < oi lo
    · simp (disch := omega) only [l_0, l_1, l_2, l_3, l_4, l_5, l_6, l_7, l_8, l_9, l_10, l_11, l_12, l_13, l_14, l_15, l_16, l_17, l_18, l_19, l_20, l_21, l_22, l_23, l_24, l_25, l_26, l_27, l_28, l_29, l_30, l_31, l_32, l_33, l_34, l_35, l_36, l_37, l_38, l_39, l_40, l_41, l_42, l_43, l_44, l_45, l_46, l_47, l_48, l_49, l_50, l_51, l_52, l_53, l_54, l_55, l_56, l_57, l_58, l_59, l_60, l_61, l_62, l_63, l_64, l_65, l_66, l_67, l_68, l_69, l_70, l_71, l_72, l_73, l_74, l_75, l_76, l_77, l_78, l_79, l_80, l_81, l_82, l_83, l_84, l_85, l_86, l_87, l_88, l_89, l_90, l_91, l_92, l_93, l_94, l_95, l_96, l_97, l_98, l_99, l_100, l_101, l_102, l_103, l_104, l_105, l_106, l_107, l_108, l_109, l_110, l_111, l_121, l_122, l_160, l_200, l_201, l_240, l_255, l_361, l_390, l_499, l_500, l_999, l_1000, l_10000, l_10099, l_12345, l_16383, l_20000, l_20033, l_20038, l_20124, l_100000, l_1000000, l_1103515245, ui_oi, ck_oi, sb, jc_e, bl_0, bl_1, le_oi, lt_oi, eq_oi, add_oi, mul_oi, div_oi, ir_oi, gi_e, gi_n, if_true, if_false, if_pos, if_neg, true_and, and_true, false_and, and_false, true_or, or_true, false_or, or_false, h9, h10, hneg, hx2, x1, hlo2]
    · have hl2 := (not_congr hl).mp hlo2
      have hr : tkn b n a ≠ 50 ∧ tkn b n a ≠ 60 ∧ lo ≤ tkn b n a := by omega
      have ht := tI_oi hr.1 hr.2.1
      rw [ht] at hx2
      simp (disch := omega) only [l_0, l_1, l_2, l_3, l_4, l_5, l_6, l_7, l_8, l_9, l_10, l_11, l_12, l_13, l_14, l_15, l_16, l_17, l_18, l_19, l_20, l_21, l_22, l_23, l_24, l_25, l_26, l_27, l_28, l_29, l_30, l_31, l_32, l_33, l_34, l_35, l_36, l_37, l_38, l_39, l_40, l_41, l_42, l_43, l_44, l_45, l_46, l_47, l_48, l_49, l_50, l_51, l_52, l_53, l_54, l_55, l_56, l_57, l_58, l_59, l_60, l_61, l_62, l_63, l_64, l_65, l_66, l_67, l_68, l_69, l_70, l_71, l_72, l_73, l_74, l_75, l_76, l_77, l_78, l_79, l_80, l_81, l_82, l_83, l_84, l_85, l_86, l_87, l_88, l_89, l_90, l_91, l_92, l_93, l_94, l_95, l_96, l_97, l_98, l_99, l_100, l_101, l_102, l_103, l_104, l_105, l_106, l_107, l_108, l_109, l_110, l_111, l_121, l_122, l_160, l_200, l_201, l_240, l_255, l_361, l_390, l_499, l_500, l_999, l_1000, l_10000, l_10099, l_12345, l_16383, l_20000, l_20033, l_20038, l_20124, l_100000, l_1000000, l_1103515245, ui_oi, ck_oi, sb, jc_e, bl_0, bl_1, le_oi, lt_oi, eq_oi, add_oi, mul_oi, div_oi, ir_oi, gi_e, gi_n, if_true, if_false, if_pos, if_neg, true_and, and_true, false_and, and_false, true_or, or_true, false_or, or_false, h9, h10, hneg, hx2, x1]
theorem c_expB {lo hi : Int32} (h : BM b n K M s) : F_X6_expect M lo hi = some (lo, M) := by
  obtain ⟨hT, h1, h2, a, h3, h4⟩ := h
  have hnk := hT.2.1
  have hKn := hT.1
  unfold F_X6_expect
  simp (disch := omega) only [l_0, l_1, l_2, l_3, l_4, l_5, l_6, l_7, l_8, l_9, l_10, l_11, l_12, l_13, l_14, l_15, l_16, l_17, l_18, l_19, l_20, l_21, l_22, l_23, l_24, l_25, l_26, l_27, l_28, l_29, l_30, l_31, l_32, l_33, l_34, l_35, l_36, l_37, l_38, l_39, l_40, l_41, l_42, l_43, l_44, l_45, l_46, l_47, l_48, l_49, l_50, l_51, l_52, l_53, l_54, l_55, l_56, l_57, l_58, l_59, l_60, l_61, l_62, l_63, l_64, l_65, l_66, l_67, l_68, l_69, l_70, l_71, l_72, l_73, l_74, l_75, l_76, l_77, l_78, l_79, l_80, l_81, l_82, l_83, l_84, l_85, l_86, l_87, l_88, l_89, l_90, l_91, l_92, l_93, l_94, l_95, l_96, l_97, l_98, l_99, l_100, l_101, l_102, l_103, l_104, l_105, l_106, l_107, l_108, l_109, l_110, l_111, l_121, l_122, l_160, l_200, l_201, l_240, l_255, l_361, l_390, l_499, l_500, l_999, l_1000, l_10000, l_10099, l_12345, l_16383, l_20000, l_20033, l_20038, l_20124, l_100000, l_1000000, l_1103515245, ui_oi, ck_oi, sb, jc_e, bl_0, bl_1, le_oi, lt_oi, eq_oi, add_oi, mul_oi, div_oi, ir_oi, gi_e, gi_n, if_true, if_false, if_pos, if_neg, true_and, and_true, false_and, and_false, true_or, or_true, false_or, or_false, h4, h2]
theorem c_emit {v : Int32} (h : GM b n K M a sc) (hsc : sc + 1 ≤ a) : ∃ M', F_X6_emit M v = some M' ∧ GM b n K M' a (sc + 1) ∧ FM M M' ∧ gi M' 11 sc = v ∧ ∀ i, i ≠ sc → gi M' 11 i = gi M 11 i := by
  obtain ⟨hT, hK, hs, h9, h10, h5⟩ := id h
  have hnk := hT.2.1
  have hKn := hT.1
  have hneg : ¬ oi 0 ≤ (- oi 1 : Int32) := by decide
  have hF : FM M (si (si M 11 sc v) 7 5 (oi (sc + 1))) := FM.s11.tr (FM.s7 (by omega))
  refine ⟨si (si M 11 sc v) 7 5 (oi (sc + 1)), ?_, ⟨hT.fm hF, hK, by omega, by rw [gi_n (by omega), gi_n (by omega)]; exact h9, by rw [gi_n (by omega), gi_n (by omega)]; exact h10, gi_e⟩, hF, by rw [gi_n (by omega), gi_e], fun i hi => by rw [gi_n (by omega), gi_n (by omega)]⟩
  unfold F_X6_emit
  simp (disch := omega) only [l_0, l_1, l_2, l_3, l_4, l_5, l_6, l_7, l_8, l_9, l_10, l_11, l_12, l_13, l_14, l_15, l_16, l_17, l_18, l_19, l_20, l_21, l_22, l_23, l_24, l_25, l_26, l_27, l_28, l_29, l_30, l_31, l_32, l_33, l_34, l_35, l_36, l_37, l_38, l_39, l_40, l_41, l_42, l_43, l_44, l_45, l_46, l_47, l_48, l_49, l_50, l_51, l_52, l_53, l_54, l_55, l_56, l_57, l_58, l_59, l_60, l_61, l_62, l_63, l_64, l_65, l_66, l_67, l_68, l_69, l_70, l_71, l_72, l_73, l_74, l_75, l_76, l_77, l_78, l_79, l_80, l_81, l_82, l_83, l_84, l_85, l_86, l_87, l_88, l_89, l_90, l_91, l_92, l_93, l_94, l_95, l_96, l_97, l_98, l_99, l_100, l_101, l_102, l_103, l_104, l_105, l_106, l_107, l_108, l_109, l_110, l_111, l_121, l_122, l_160, l_200, l_201, l_240, l_255, l_361, l_390, l_499, l_500, l_999, l_1000, l_10000, l_10099, l_12345, l_16383, l_20000, l_20033, l_20038, l_20124, l_100000, l_1000000, l_1103515245, ui_oi, ck_oi, sb, jc_e, bl_0, bl_1, le_oi, lt_oi, eq_oi, add_oi, mul_oi, div_oi, ir_oi, gi_e, gi_n, if_true, if_false, if_pos, if_neg, true_and, and_true, false_and, and_false, true_or, or_true, false_or, or_false, h10, hneg, h5]
theorem c_emitB {v : Int32} (h : BM b n K M s) : F_X6_emit M v = some M := by
  obtain ⟨hT, h1, h2, a, h3, h4⟩ := h
  have hnk := hT.2.1
  unfold F_X6_emit
  simp (disch := omega) only [l_0, l_1, l_2, l_3, l_4, l_5, l_6, l_7, l_8, l_9, l_10, l_11, l_12, l_13, l_14, l_15, l_16, l_17, l_18, l_19, l_20, l_21, l_22, l_23, l_24, l_25, l_26, l_27, l_28, l_29, l_30, l_31, l_32, l_33, l_34, l_35, l_36, l_37, l_38, l_39, l_40, l_41, l_42, l_43, l_44, l_45, l_46, l_47, l_48, l_49, l_50, l_51, l_52, l_53, l_54, l_55, l_56, l_57, l_58, l_59, l_60, l_61, l_62, l_63, l_64, l_65, l_66, l_67, l_68, l_69, l_70, l_71, l_72, l_73, l_74, l_75, l_76, l_77, l_78, l_79, l_80, l_81, l_82, l_83, l_84, l_85, l_86, l_87, l_88, l_89, l_90, l_91, l_92, l_93, l_94, l_95, l_96, l_97, l_98, l_99, l_100, l_101, l_102, l_103, l_104, l_105, l_106, l_107, l_108, l_109, l_110, l_111, l_121, l_122, l_160, l_200, l_201, l_240, l_255, l_361, l_390, l_499, l_500, l_999, l_1000, l_10000, l_10099, l_12345, l_16383, l_20000, l_20033, l_20038, l_20124, l_100000, l_1000000, l_1103515245, ui_oi, ck_oi, sb, jc_e, bl_0, bl_1, le_oi, lt_oi, eq_oi, add_oi, mul_oi, div_oi, ir_oi, gi_e, gi_n, if_true, if_false, if_pos, if_neg, true_and, and_true, false_and, and_false, true_or, or_true, false_or, or_false, h2]
/-! the reference -/
theorem hwi_all : ∀ j, j < 18 → ∀ k, k < 18 → (zHw j = zHw k ↔ j = k) := by decide +kernel
theorem byi_all : ∀ j, j < 24 → 18 ≤ j → ∀ k, k < 24 → 18 ≤ k → (zBy j = zBy k ↔ j = k) := by decide +kernel
theorem cmp_0 (x y : Int64) : lg_cmp x y = oi 0 ↔ x = y := by
  have h1 := lg_cmp_lt x y
  have h2 := lg_cmp_gt x y
  refine ⟨fun q => ?_, fun q => ?_⟩
  · rw [q] at h1 h2
    have a1 : ¬ x < y := fun r => absurd (h1.mpr r) (by decide)
    have a2 : ¬ y < x := fun r => absurd (h2.mpr r) (by decide)
    exact Int64.le_antisymm (Int64.not_lt.mp a2) (Int64.not_lt.mp a1)
  · subst q
    have a1 : ¬ lg_cmp x x < 0 := fun r => absurd (h1.mp r) Int64.lt_irrefl
    have a2 : ¬ 0 < lg_cmp x x := fun r => absurd (h2.mp r) Int64.lt_irrefl
    exact Int32.le_antisymm (Int32.not_lt.mp a2) (Int32.not_lt.mp a1)
theorem r_isW {h : Int64} (hG : GN b n N a sr o) (hk : k < 18) (hh : h = Int64.ofNat (zHw k)) : F_X12_isWord N h = some (oi (if tkn b n a = k then 1 else 0)) := by
  obtain ⟨hT, h8, hs, ⟨q9, q10, hD⟩, h13, h16, h14⟩ := hG
  have hw := hw_lt k hk
  subst hh
  unfold F_X12_isWord
  have hD : TD N (tkn b n a) := hD
  rcases hD with ⟨d1, d2, d3⟩ | ⟨d1, d2, d3, d4⟩ | ⟨d1, d2, d3, d4⟩ | ⟨d1, d2⟩ | ⟨d1, d2⟩
  · have hw2 := hw_lt _ d1
    have hi := hwi_all _ d1 k hk
    have hc := cmp_0 (gl N) (Int64.ofNat (zHw k))
    rw [d3, of64 (by omega) (by omega), hi] at hc
    by_cases he : tkn b n a = k
    · have := hc.mpr he
      rw [if_pos he]
      simp (disch := omega) only [l_0, l_1, l_2, l_3, l_4, l_5, l_6, l_7, l_8, l_9, l_10, l_11, l_12, l_13, l_14, l_15, l_16, l_17, l_18, l_19, l_20, l_21, l_22, l_23, l_24, l_25, l_26, l_27, l_28, l_29, l_30, l_31, l_32, l_33, l_34, l_35, l_36, l_37, l_38, l_39, l_40, l_41, l_42, l_43, l_44, l_45, l_46, l_47, l_48, l_49, l_50, l_51, l_52, l_53, l_54, l_55, l_56, l_57, l_58, l_59, l_60, l_61, l_62, l_63, l_64, l_65, l_66, l_67, l_68, l_69, l_70, l_71, l_72, l_73, l_74, l_75, l_76, l_77, l_78, l_79, l_80, l_81, l_82, l_83, l_84, l_85, l_86, l_87, l_88, l_89, l_90, l_91, l_92, l_93, l_94, l_95, l_96, l_97, l_98, l_99, l_100, l_101, l_102, l_103, l_104, l_105, l_106, l_107, l_108, l_109, l_110, l_111, l_121, l_122, l_160, l_200, l_201, l_240, l_255, l_361, l_390, l_499, l_500, l_999, l_1000, l_10000, l_10099, l_12345, l_16383, l_20000, l_20033, l_20038, l_20124, l_100000, l_1000000, l_1103515245, ui_oi, ck_oi, sb, jc_e, bl_0, bl_1, le_oi, lt_oi, eq_oi, add_oi, mul_oi, div_oi, ir_oi, gi_e, gi_n, if_true, if_false, if_pos, if_neg, true_and, and_true, false_and, and_false, true_or, or_true, false_or, or_false, d2, d3, this, h13]
    · have : ¬ lg_cmp (Int64.ofNat (zHw (tkn b n a))) (Int64.ofNat (zHw k)) = oi 0 := fun q => he (hc.mp q)
      rw [if_neg he]
      simp (disch := omega) only [l_0, l_1, l_2, l_3, l_4, l_5, l_6, l_7, l_8, l_9, l_10, l_11, l_12, l_13, l_14, l_15, l_16, l_17, l_18, l_19, l_20, l_21, l_22, l_23, l_24, l_25, l_26, l_27, l_28, l_29, l_30, l_31, l_32, l_33, l_34, l_35, l_36, l_37, l_38, l_39, l_40, l_41, l_42, l_43, l_44, l_45, l_46, l_47, l_48, l_49, l_50, l_51, l_52, l_53, l_54, l_55, l_56, l_57, l_58, l_59, l_60, l_61, l_62, l_63, l_64, l_65, l_66, l_67, l_68, l_69, l_70, l_71, l_72, l_73, l_74, l_75, l_76, l_77, l_78, l_79, l_80, l_81, l_82, l_83, l_84, l_85, l_86, l_87, l_88, l_89, l_90, l_91, l_92, l_93, l_94, l_95, l_96, l_97, l_98, l_99, l_100, l_101, l_102, l_103, l_104, l_105, l_106, l_107, l_108, l_109, l_110, l_111, l_121, l_122, l_160, l_200, l_201, l_240, l_255, l_361, l_390, l_499, l_500, l_999, l_1000, l_10000, l_10099, l_12345, l_16383, l_20000, l_20033, l_20038, l_20124, l_100000, l_1000000, l_1103515245, ui_oi, ck_oi, sb, jc_e, bl_0, bl_1, le_oi, lt_oi, eq_oi, add_oi, mul_oi, div_oi, ir_oi, gi_e, gi_n, if_true, if_false, if_pos, if_neg, true_and, and_true, false_and, and_false, true_or, or_true, false_or, or_false, d2, d3, this, h13]
  · rw [if_neg (show ¬ tkn b n a = k by omega)]
    simp (disch := omega) only [l_0, l_1, l_2, l_3, l_4, l_5, l_6, l_7, l_8, l_9, l_10, l_11, l_12, l_13, l_14, l_15, l_16, l_17, l_18, l_19, l_20, l_21, l_22, l_23, l_24, l_25, l_26, l_27, l_28, l_29, l_30, l_31, l_32, l_33, l_34, l_35, l_36, l_37, l_38, l_39, l_40, l_41, l_42, l_43, l_44, l_45, l_46, l_47, l_48, l_49, l_50, l_51, l_52, l_53, l_54, l_55, l_56, l_57, l_58, l_59, l_60, l_61, l_62, l_63, l_64, l_65, l_66, l_67, l_68, l_69, l_70, l_71, l_72, l_73, l_74, l_75, l_76, l_77, l_78, l_79, l_80, l_81, l_82, l_83, l_84, l_85, l_86, l_87, l_88, l_89, l_90, l_91, l_92, l_93, l_94, l_95, l_96, l_97, l_98, l_99, l_100, l_101, l_102, l_103, l_104, l_105, l_106, l_107, l_108, l_109, l_110, l_111, l_121, l_122, l_160, l_200, l_201, l_240, l_255, l_361, l_390, l_499, l_500, l_999, l_1000, l_10000, l_10099, l_12345, l_16383, l_20000, l_20033, l_20038, l_20124, l_100000, l_1000000, l_1103515245, ui_oi, ck_oi, sb, jc_e, bl_0, bl_1, le_oi, lt_oi, eq_oi, add_oi, mul_oi, div_oi, ir_oi, gi_e, gi_n, if_true, if_false, if_pos, if_neg, true_and, and_true, false_and, and_false, true_or, or_true, false_or, or_false, d3]
  · rw [if_neg (show ¬ tkn b n a = k by omega)]
    simp (disch := omega) only [l_0, l_1, l_2, l_3, l_4, l_5, l_6, l_7, l_8, l_9, l_10, l_11, l_12, l_13, l_14, l_15, l_16, l_17, l_18, l_19, l_20, l_21, l_22, l_23, l_24, l_25, l_26, l_27, l_28, l_29, l_30, l_31, l_32, l_33, l_34, l_35, l_36, l_37, l_38, l_39, l_40, l_41, l_42, l_43, l_44, l_45, l_46, l_47, l_48, l_49, l_50, l_51, l_52, l_53, l_54, l_55, l_56, l_57, l_58, l_59, l_60, l_61, l_62, l_63, l_64, l_65, l_66, l_67, l_68, l_69, l_70, l_71, l_72, l_73, l_74, l_75, l_76, l_77, l_78, l_79, l_80, l_81, l_82, l_83, l_84, l_85, l_86, l_87, l_88, l_89, l_90, l_91, l_92, l_93, l_94, l_95, l_96, l_97, l_98, l_99, l_100, l_101, l_102, l_103, l_104, l_105, l_106, l_107, l_108, l_109, l_110, l_111, l_121, l_122, l_160, l_200, l_201, l_240, l_255, l_361, l_390, l_499, l_500, l_999, l_1000, l_10000, l_10099, l_12345, l_16383, l_20000, l_20033, l_20038, l_20124, l_100000, l_1000000, l_1103515245, ui_oi, ck_oi, sb, jc_e, bl_0, bl_1, le_oi, lt_oi, eq_oi, add_oi, mul_oi, div_oi, ir_oi, gi_e, gi_n, if_true, if_false, if_pos, if_neg, true_and, and_true, false_and, and_false, true_or, or_true, false_or, or_false, d3]
  · rw [if_neg (show ¬ tkn b n a = k by omega)]
    simp (disch := omega) only [l_0, l_1, l_2, l_3, l_4, l_5, l_6, l_7, l_8, l_9, l_10, l_11, l_12, l_13, l_14, l_15, l_16, l_17, l_18, l_19, l_20, l_21, l_22, l_23, l_24, l_25, l_26, l_27, l_28, l_29, l_30, l_31, l_32, l_33, l_34, l_35, l_36, l_37, l_38, l_39, l_40, l_41, l_42, l_43, l_44, l_45, l_46, l_47, l_48, l_49, l_50, l_51, l_52, l_53, l_54, l_55, l_56, l_57, l_58, l_59, l_60, l_61, l_62, l_63, l_64, l_65, l_66, l_67, l_68, l_69, l_70, l_71, l_72, l_73, l_74, l_75, l_76, l_77, l_78, l_79, l_80, l_81, l_82, l_83, l_84, l_85, l_86, l_87, l_88, l_89, l_90, l_91, l_92, l_93, l_94, l_95, l_96, l_97, l_98, l_99, l_100, l_101, l_102, l_103, l_104, l_105, l_106, l_107, l_108, l_109, l_110, l_111, l_121, l_122, l_160, l_200, l_201, l_240, l_255, l_361, l_390, l_499, l_500, l_999, l_1000, l_10000, l_10099, l_12345, l_16383, l_20000, l_20033, l_20038, l_20124, l_100000, l_1000000, l_1103515245, ui_oi, ck_oi, sb, jc_e, bl_0, bl_1, le_oi, lt_oi, eq_oi, add_oi, mul_oi, div_oi, ir_oi, gi_e, gi_n, if_true, if_false, if_pos, if_neg, true_and, and_true, false_and, and_false, true_or, or_true, false_or, or_false, d2]
  · rw [if_neg (show ¬ tkn b n a = k by omega)]
    rcases d2 with ⟨e1, e2⟩ | ⟨e1, e2⟩ | ⟨e1, e2⟩
    · have : ¬ lg_cmp (gl N) (Int64.ofNat (zHw k)) = oi 0 := fun q => e2 k hk ((cmp_0 _ _).mp q)
      simp (disch := omega) only [l_0, l_1, l_2, l_3, l_4, l_5, l_6, l_7, l_8, l_9, l_10, l_11, l_12, l_13, l_14, l_15, l_16, l_17, l_18, l_19, l_20, l_21, l_22, l_23, l_24, l_25, l_26, l_27, l_28, l_29, l_30, l_31, l_32, l_33, l_34, l_35, l_36, l_37, l_38, l_39, l_40, l_41, l_42, l_43, l_44, l_45, l_46, l_47, l_48, l_49, l_50, l_51, l_52, l_53, l_54, l_55, l_56, l_57, l_58, l_59, l_60, l_61, l_62, l_63, l_64, l_65, l_66, l_67, l_68, l_69, l_70, l_71, l_72, l_73, l_74, l_75, l_76, l_77, l_78, l_79, l_80, l_81, l_82, l_83, l_84, l_85, l_86, l_87, l_88, l_89, l_90, l_91, l_92, l_93, l_94, l_95, l_96, l_97, l_98, l_99, l_100, l_101, l_102, l_103, l_104, l_105, l_106, l_107, l_108, l_109, l_110, l_111, l_121, l_122, l_160, l_200, l_201, l_240, l_255, l_361, l_390, l_499, l_500, l_999, l_1000, l_10000, l_10099, l_12345, l_16383, l_20000, l_20033, l_20038, l_20124, l_100000, l_1000000, l_1103515245, ui_oi, ck_oi, sb, jc_e, bl_0, bl_1, le_oi, lt_oi, eq_oi, add_oi, mul_oi, div_oi, ir_oi, gi_e, gi_n, if_true, if_false, if_pos, if_neg, true_and, and_true, false_and, and_false, true_or, or_true, false_or, or_false, e1, this]
    · simp (disch := omega) only [l_0, l_1, l_2, l_3, l_4, l_5, l_6, l_7, l_8, l_9, l_10, l_11, l_12, l_13, l_14, l_15, l_16, l_17, l_18, l_19, l_20, l_21, l_22, l_23, l_24, l_25, l_26, l_27, l_28, l_29, l_30, l_31, l_32, l_33, l_34, l_35, l_36, l_37, l_38, l_39, l_40, l_41, l_42, l_43, l_44, l_45, l_46, l_47, l_48, l_49, l_50, l_51, l_52, l_53, l_54, l_55, l_56, l_57, l_58, l_59, l_60, l_61, l_62, l_63, l_64, l_65, l_66, l_67, l_68, l_69, l_70, l_71, l_72, l_73, l_74, l_75, l_76, l_77, l_78, l_79, l_80, l_81, l_82, l_83, l_84, l_85, l_86, l_87, l_88, l_89, l_90, l_91, l_92, l_93, l_94, l_95, l_96, l_97, l_98, l_99, l_100, l_101, l_102, l_103, l_104, l_105, l_106, l_107, l_108, l_109, l_110, l_111, l_121, l_122, l_160, l_200, l_201, l_240, l_255, l_361, l_390, l_499, l_500, l_999, l_1000, l_10000, l_10099, l_12345, l_16383, l_20000, l_20033, l_20038, l_20124, l_100000, l_1000000, l_1103515245, ui_oi, ck_oi, sb, jc_e, bl_0, bl_1, le_oi, lt_oi, eq_oi, add_oi, mul_oi, div_oi, ir_oi, gi_e, gi_n, if_true, if_false, if_pos, if_neg, true_and, and_true, false_and, and_false, true_or, or_true, false_or, or_false, e1]
    · simp (disch := omega) only [l_0, l_1, l_2, l_3, l_4, l_5, l_6, l_7, l_8, l_9, l_10, l_11, l_12, l_13, l_14, l_15, l_16, l_17, l_18, l_19, l_20, l_21, l_22, l_23, l_24, l_25, l_26, l_27, l_28, l_29, l_30, l_31, l_32, l_33, l_34, l_35, l_36, l_37, l_38, l_39, l_40, l_41, l_42, l_43, l_44, l_45, l_46, l_47, l_48, l_49, l_50, l_51, l_52, l_53, l_54, l_55, l_56, l_57, l_58, l_59, l_60, l_61, l_62, l_63, l_64, l_65, l_66, l_67, l_68, l_69, l_70, l_71, l_72, l_73, l_74, l_75, l_76, l_77, l_78, l_79, l_80, l_81, l_82, l_83, l_84, l_85, l_86, l_87, l_88, l_89, l_90, l_91, l_92, l_93, l_94, l_95, l_96, l_97, l_98, l_99, l_100, l_101, l_102, l_103, l_104, l_105, l_106, l_107, l_108, l_109, l_110, l_111, l_121, l_122, l_160, l_200, l_201, l_240, l_255, l_361, l_390, l_499, l_500, l_999, l_1000, l_10000, l_10099, l_12345, l_16383, l_20000, l_20033, l_20038, l_20124, l_100000, l_1000000, l_1103515245, ui_oi, ck_oi, sb, jc_e, bl_0, bl_1, le_oi, lt_oi, eq_oi, add_oi, mul_oi, div_oi, ir_oi, gi_e, gi_n, if_true, if_false, if_pos, if_neg, true_and, and_true, false_and, and_false, true_or, or_true, false_or, or_false, e1]
theorem by_lt : ∀ k, k < 24 → zBy k < 128 := by decide +kernel
theorem r_isB {h : Int32} (hG : GN b n N a sr o) (hk1 : 18 ≤ k) (hk : k < 24) (hh : h = oi (zBy k)) : F_X12_isByte N h = some (oi (if tkn b n a = k then 1 else 0)) := by
  obtain ⟨hT, h8, hs, ⟨q9, q10, hD⟩, h13, h16, h14⟩ := hG
  have hw := by_lt k hk
  subst hh
  unfold F_X12_isByte
  rw [o64 (by omega)]
  have hD : TD N (tkn b n a) := hD
  rcases hD with ⟨d1, d2, d3⟩ | ⟨d1, d2, d3, d4⟩ | ⟨d1, d2, d3, d4⟩ | ⟨d1, d2⟩ | ⟨d1, d2⟩
  · rw [if_neg (show ¬ tkn b n a = k by omega)]
    simp (disch := omega) only [l_0, l_1, l_2, l_3, l_4, l_5, l_6, l_7, l_8, l_9, l_10, l_11, l_12, l_13, l_14, l_15, l_16, l_17, l_18, l_19, l_20, l_21, l_22, l_23, l_24, l_25, l_26, l_27, l_28, l_29, l_30, l_31, l_32, l_33, l_34, l_35, l_36, l_37, l_38, l_39, l_40, l_41, l_42, l_43, l_44, l_45, l_46, l_47, l_48, l_49, l_50, l_51, l_52, l_53, l_54, l_55, l_56, l_57, l_58, l_59, l_60, l_61, l_62, l_63, l_64, l_65, l_66, l_67, l_68, l_69, l_70, l_71, l_72, l_73, l_74, l_75, l_76, l_77, l_78, l_79, l_80, l_81, l_82, l_83, l_84, l_85, l_86, l_87, l_88, l_89, l_90, l_91, l_92, l_93, l_94, l_95, l_96, l_97, l_98, l_99, l_100, l_101, l_102, l_103, l_104, l_105, l_106, l_107, l_108, l_109, l_110, l_111, l_121, l_122, l_160, l_200, l_201, l_240, l_255, l_361, l_390, l_499, l_500, l_999, l_1000, l_10000, l_10099, l_12345, l_16383, l_20000, l_20033, l_20038, l_20124, l_100000, l_1000000, l_1103515245, ui_oi, ck_oi, sb, jc_e, bl_0, bl_1, le_oi, lt_oi, eq_oi, add_oi, mul_oi, div_oi, ir_oi, gi_e, gi_n, if_true, if_false, if_pos, if_neg, true_and, and_true, false_and, and_false, true_or, or_true, false_or, or_false, d2]
  · have hw2 := by_lt _ d2
    have hi := byi_all _ d2 d1 k hk hk1
    have hc := cmp_0 (gl N) (Int64.ofNat (zBy k))
    rw [d4, of64 (by omega) (by omega), hi] at hc
    by_cases he : tkn b n a = k
    · have := hc.mpr he
      rw [if_pos he]
      simp (disch := omega) only [l_0, l_1, l_2, l_3, l_4, l_5, l_6, l_7, l_8, l_9, l_10, l_11, l_12, l_13, l_14, l_15, l_16, l_17, l_18, l_19, l_20, l_21, l_22, l_23, l_24, l_25, l_26, l_27, l_28, l_29, l_30, l_31, l_32, l_33, l_34, l_35, l_36, l_37, l_38, l_39, l_40, l_41, l_42, l_43, l_44, l_45, l_46, l_47, l_48, l_49, l_50, l_51, l_52, l_53, l_54, l_55, l_56, l_57, l_58, l_59, l_60, l_61, l_62, l_63, l_64, l_65, l_66, l_67, l_68, l_69, l_70, l_71, l_72, l_73, l_74, l_75, l_76, l_77, l_78, l_79, l_80, l_81, l_82, l_83, l_84, l_85, l_86, l_87, l_88, l_89, l_90, l_91, l_92, l_93, l_94, l_95, l_96, l_97, l_98, l_99, l_100, l_101, l_102, l_103, l_104, l_105, l_106, l_107, l_108, l_109, l_110, l_111, l_121, l_122, l_160, l_200, l_201, l_240, l_255, l_361, l_390, l_499, l_500, l_999, l_1000, l_10000, l_10099, l_12345, l_16383, l_20000, l_20033, l_20038, l_20124, l_100000, l_1000000, l_1103515245, ui_oi, ck_oi, sb, jc_e, bl_0, bl_1, le_oi, lt_oi, eq_oi, add_oi, mul_oi, div_oi, ir_oi, gi_e, gi_n, if_true, if_false, if_pos, if_neg, true_and, and_true, false_and, and_false, true_or, or_true, false_or, or_false, d3, d4, this, h13]
    · have : ¬ lg_cmp (Int64.ofNat (zBy (tkn b n a))) (Int64.ofNat (zBy k)) = oi 0 := fun q => he (hc.mp q)
      rw [if_neg he]
      simp (disch := omega) only [l_0, l_1, l_2, l_3, l_4, l_5, l_6, l_7, l_8, l_9, l_10, l_11, l_12, l_13, l_14, l_15, l_16, l_17, l_18, l_19, l_20, l_21, l_22, l_23, l_24, l_25, l_26, l_27, l_28, l_29, l_30, l_31, l_32, l_33, l_34, l_35, l_36, l_37, l_38, l_39, l_40, l_41, l_42, l_43, l_44, l_45, l_46, l_47, l_48, l_49, l_50, l_51, l_52, l_53, l_54, l_55, l_56, l_57, l_58, l_59, l_60, l_61, l_62, l_63, l_64, l_65, l_66, l_67, l_68, l_69, l_70, l_71, l_72, l_73, l_74, l_75, l_76, l_77, l_78, l_79, l_80, l_81, l_82, l_83, l_84, l_85, l_86, l_87, l_88, l_89, l_90, l_91, l_92, l_93, l_94, l_95, l_96, l_97, l_98, l_99, l_100, l_101, l_102, l_103, l_104, l_105, l_106, l_107, l_108, l_109, l_110, l_111, l_121, l_122, l_160, l_200, l_201, l_240, l_255, l_361, l_390, l_499, l_500, l_999, l_1000, l_10000, l_10099, l_12345, l_16383, l_20000, l_20033, l_20038, l_20124, l_100000, l_1000000, l_1103515245, ui_oi, ck_oi, sb, jc_e, bl_0, bl_1, le_oi, lt_oi, eq_oi, add_oi, mul_oi, div_oi, ir_oi, gi_e, gi_n, if_true, if_false, if_pos, if_neg, true_and, and_true, false_and, and_false, true_or, or_true, false_or, or_false, d3, d4, this, h13]
  · rw [if_neg (show ¬ tkn b n a = k by omega)]
    simp (disch := omega) only [l_0, l_1, l_2, l_3, l_4, l_5, l_6, l_7, l_8, l_9, l_10, l_11, l_12, l_13, l_14, l_15, l_16, l_17, l_18, l_19, l_20, l_21, l_22, l_23, l_24, l_25, l_26, l_27, l_28, l_29, l_30, l_31, l_32, l_33, l_34, l_35, l_36, l_37, l_38, l_39, l_40, l_41, l_42, l_43, l_44, l_45, l_46, l_47, l_48, l_49, l_50, l_51, l_52, l_53, l_54, l_55, l_56, l_57, l_58, l_59, l_60, l_61, l_62, l_63, l_64, l_65, l_66, l_67, l_68, l_69, l_70, l_71, l_72, l_73, l_74, l_75, l_76, l_77, l_78, l_79, l_80, l_81, l_82, l_83, l_84, l_85, l_86, l_87, l_88, l_89, l_90, l_91, l_92, l_93, l_94, l_95, l_96, l_97, l_98, l_99, l_100, l_101, l_102, l_103, l_104, l_105, l_106, l_107, l_108, l_109, l_110, l_111, l_121, l_122, l_160, l_200, l_201, l_240, l_255, l_361, l_390, l_499, l_500, l_999, l_1000, l_10000, l_10099, l_12345, l_16383, l_20000, l_20033, l_20038, l_20124, l_100000, l_1000000, l_1103515245, ui_oi, ck_oi, sb, jc_e, bl_0, bl_1, le_oi, lt_oi, eq_oi, add_oi, mul_oi, div_oi, ir_oi, gi_e, gi_n, if_true, if_false, if_pos, if_neg, true_and, and_true, false_and, and_false, true_or, or_true, false_or, or_false, d3]
  · rw [if_neg (show ¬ tkn b n a = k by omega)]
    simp (disch := omega) only [l_0, l_1, l_2, l_3, l_4, l_5, l_6, l_7, l_8, l_9, l_10, l_11, l_12, l_13, l_14, l_15, l_16, l_17, l_18, l_19, l_20, l_21, l_22, l_23, l_24, l_25, l_26, l_27, l_28, l_29, l_30, l_31, l_32, l_33, l_34, l_35, l_36, l_37, l_38, l_39, l_40, l_41, l_42, l_43, l_44, l_45, l_46, l_47, l_48, l_49, l_50, l_51, l_52, l_53, l_54, l_55, l_56, l_57, l_58, l_59, l_60, l_61, l_62, l_63, l_64, l_65, l_66, l_67, l_68, l_69, l_70, l_71, l_72, l_73, l_74, l_75, l_76, l_77, l_78, l_79, l_80, l_81, l_82, l_83, l_84, l_85, l_86, l_87, l_88, l_89, l_90, l_91, l_92, l_93, l_94, l_95, l_96, l_97, l_98, l_99, l_100, l_101, l_102, l_103, l_104, l_105, l_106, l_107, l_108, l_109, l_110, l_111, l_121, l_122, l_160, l_200, l_201, l_240, l_255, l_361, l_390, l_499, l_500, l_999, l_1000, l_10000, l_10099, l_12345, l_16383, l_20000, l_20033, l_20038, l_20124, l_100000, l_1000000, l_1103515245, ui_oi, ck_oi, sb, jc_e, bl_0, bl_1, le_oi, lt_oi, eq_oi, add_oi, mul_oi, div_oi, ir_oi, gi_e, gi_n, if_true, if_false, if_pos, if_neg, true_and, and_true, false_and, and_false, true_or, or_true, false_or, or_false, d2]
  · rw [if_neg (show ¬ tkn b n a = k by omega)]
    rcases d2 with ⟨e1, e2⟩ | ⟨e1, e2⟩ | ⟨e1, e2⟩
    · simp (disch := omega) only [l_0, l_1, l_2, l_3, l_4, l_5, l_6, l_7, l_8, l_9, l_10, l_11, l_12, l_13, l_14, l_15, l_16, l_17, l_18, l_19, l_20, l_21, l_22, l_23, l_24, l_25, l_26, l_27, l_28, l_29, l_30, l_31, l_32, l_33, l_34, l_35, l_36, l_37, l_38, l_39, l_40, l_41, l_42, l_43, l_44, l_45, l_46, l_47, l_48, l_49, l_50, l_51, l_52, l_53, l_54, l_55, l_56, l_57, l_58, l_59, l_60, l_61, l_62, l_63, l_64, l_65, l_66, l_67, l_68, l_69, l_70, l_71, l_72, l_73, l_74, l_75, l_76, l_77, l_78, l_79, l_80, l_81, l_82, l_83, l_84, l_85, l_86, l_87, l_88, l_89, l_90, l_91, l_92, l_93, l_94, l_95, l_96, l_97, l_98, l_99, l_100, l_101, l_102, l_103, l_104, l_105, l_106, l_107, l_108, l_109, l_110, l_111, l_121, l_122, l_160, l_200, l_201, l_240, l_255, l_361, l_390, l_499, l_500, l_999, l_1000, l_10000, l_10099, l_12345, l_16383, l_20000, l_20033, l_20038, l_20124, l_100000, l_1000000, l_1103515245, ui_oi, ck_oi, sb, jc_e, bl_0, bl_1, le_oi, lt_oi, eq_oi, add_oi, mul_oi, div_oi, ir_oi, gi_e, gi_n, if_true, if_false, if_pos, if_neg, true_and, and_true, false_and, and_false, true_or, or_true, false_or, or_false, e1]
    · have : ¬ lg_cmp (gl N) (Int64.ofNat (zBy k)) = oi 0 := fun q => e2 k hk1 hk ((cmp_0 _ _).mp q)
      simp (disch := omega) only [l_0, l_1, l_2, l_3, l_4, l_5, l_6, l_7, l_8, l_9, l_10, l_11, l_12, l_13, l_14, l_15, l_16, l_17, l_18, l_19, l_20, l_21, l_22, l_23, l_24, l_25, l_26, l_27, l_28, l_29, l_30, l_31, l_32, l_33, l_34, l_35, l_36, l_37, l_38, l_39, l_40, l_41, l_42, l_43, l_44, l_45, l_46, l_47, l_48, l_49, l_50, l_51, l_52, l_53, l_54, l_55, l_56, l_57, l_58, l_59, l_60, l_61, l_62, l_63, l_64, l_65, l_66, l_67, l_68, l_69, l_70, l_71, l_72, l_73, l_74, l_75, l_76, l_77, l_78, l_79, l_80, l_81, l_82, l_83, l_84, l_85, l_86, l_87, l_88, l_89, l_90, l_91, l_92, l_93, l_94, l_95, l_96, l_97, l_98, l_99, l_100, l_101, l_102, l_103, l_104, l_105, l_106, l_107, l_108, l_109, l_110, l_111, l_121, l_122, l_160, l_200, l_201, l_240, l_255, l_361, l_390, l_499, l_500, l_999, l_1000, l_10000, l_10099, l_12345, l_16383, l_20000, l_20033, l_20038, l_20124, l_100000, l_1000000, l_1103515245, ui_oi, ck_oi, sb, jc_e, bl_0, bl_1, le_oi, lt_oi, eq_oi, add_oi, mul_oi, div_oi, ir_oi, gi_e, gi_n, if_true, if_false, if_pos, if_neg, true_and, and_true, false_and, and_false, true_or, or_true, false_or, or_false, e1, this]
    · simp (disch := omega) only [l_0, l_1, l_2, l_3, l_4, l_5, l_6, l_7, l_8, l_9, l_10, l_11, l_12, l_13, l_14, l_15, l_16, l_17, l_18, l_19, l_20, l_21, l_22, l_23, l_24, l_25, l_26, l_27, l_28, l_29, l_30, l_31, l_32, l_33, l_34, l_35, l_36, l_37, l_38, l_39, l_40, l_41, l_42, l_43, l_44, l_45, l_46, l_47, l_48, l_49, l_50, l_51, l_52, l_53, l_54, l_55, l_56, l_57, l_58, l_59, l_60, l_61, l_62, l_63, l_64, l_65, l_66, l_67, l_68, l_69, l_70, l_71, l_72, l_73, l_74, l_75, l_76, l_77, l_78, l_79, l_80, l_81, l_82, l_83, l_84, l_85, l_86, l_87, l_88, l_89, l_90, l_91, l_92, l_93, l_94, l_95, l_96, l_97, l_98, l_99, l_100, l_101, l_102, l_103, l_104, l_105, l_106, l_107, l_108, l_109, l_110, l_111, l_121, l_122, l_160, l_200, l_201, l_240, l_255, l_361, l_390, l_499, l_500, l_999, l_1000, l_10000, l_10099, l_12345, l_16383, l_20000, l_20033, l_20038, l_20124, l_100000, l_1000000, l_1103515245, ui_oi, ck_oi, sb, jc_e, bl_0, bl_1, le_oi, lt_oi, eq_oi, add_oi, mul_oi, div_oi, ir_oi, gi_e, gi_n, if_true, if_false, if_pos, if_neg, true_and, and_true, false_and, and_false, true_or, or_true, false_or, or_false, e1]
theorem r_isWB {h : Int64} (hG : BN b n N s) : F_X12_isWord N h = some (oi 0) := by
  obtain ⟨hT, h8, h13, h10⟩ := hG
  unfold F_X12_isWord
  by_cases q1 : gi N 94 11 = oi 1
  · by_cases q2 : lg_cmp (gl N) h = oi 0 <;> simp (disch := omega) only [l_0, l_1, l_2, l_3, l_4, l_5, l_6, l_7, l_8, l_9, l_10, l_11, l_12, l_13, l_14, l_15, l_16, l_17, l_18, l_19, l_20, l_21, l_22, l_23, l_24, l_25, l_26, l_27, l_28, l_29, l_30, l_31, l_32, l_33, l_34, l_35, l_36, l_37, l_38, l_39, l_40, l_41, l_42, l_43, l_44, l_45, l_46, l_47, l_48, l_49, l_50, l_51, l_52, l_53, l_54, l_55, l_56, l_57, l_58, l_59, l_60, l_61, l_62, l_63, l_64, l_65, l_66, l_67, l_68, l_69, l_70, l_71, l_72, l_73, l_74, l_75, l_76, l_77, l_78, l_79, l_80, l_81, l_82, l_83, l_84, l_85, l_86, l_87, l_88, l_89, l_90, l_91, l_92, l_93, l_94, l_95, l_96, l_97, l_98, l_99, l_100, l_101, l_102, l_103, l_104, l_105, l_106, l_107, l_108, l_109, l_110, l_111, l_121, l_122, l_160, l_200, l_201, l_240, l_255, l_361, l_390, l_499, l_500, l_999, l_1000, l_10000, l_10099, l_12345, l_16383, l_20000, l_20033, l_20038, l_20124, l_100000, l_1000000, l_1103515245, ui_oi, ck_oi, sb, jc_e, bl_0, bl_1, le_oi, lt_oi, eq_oi, add_oi, mul_oi, div_oi, ir_oi, gi_e, gi_n, if_true, if_false, if_pos, if_neg, true_and, and_true, false_and, and_false, true_or, or_true, false_or, or_false, q1, q2, h13]
  · simp (disch := omega) only [l_0, l_1, l_2, l_3, l_4, l_5, l_6, l_7, l_8, l_9, l_10, l_11, l_12, l_13, l_14, l_15, l_16, l_17, l_18, l_19, l_20, l_21, l_22, l_23, l_24, l_25, l_26, l_27, l_28, l_29, l_30, l_31, l_32, l_33, l_34, l_35, l_36, l_37, l_38, l_39, l_40, l_41, l_42, l_43, l_44, l_45, l_46, l_47, l_48, l_49, l_50, l_51, l_52, l_53, l_54, l_55, l_56, l_57, l_58, l_59, l_60, l_61, l_62, l_63, l_64, l_65, l_66, l_67, l_68, l_69, l_70, l_71, l_72, l_73, l_74, l_75, l_76, l_77, l_78, l_79, l_80, l_81, l_82, l_83, l_84, l_85, l_86, l_87, l_88, l_89, l_90, l_91, l_92, l_93, l_94, l_95, l_96, l_97, l_98, l_99, l_100, l_101, l_102, l_103, l_104, l_105, l_106, l_107, l_108, l_109, l_110, l_111, l_121, l_122, l_160, l_200, l_201, l_240, l_255, l_361, l_390, l_499, l_500, l_999, l_1000, l_10000, l_10099, l_12345, l_16383, l_20000, l_20033, l_20038, l_20124, l_100000, l_1000000, l_1103515245, ui_oi, ck_oi, sb, jc_e, bl_0, bl_1, le_oi, lt_oi, eq_oi, add_oi, mul_oi, div_oi, ir_oi, gi_e, gi_n, if_true, if_false, if_pos, if_neg, true_and, and_true, false_and, and_false, true_or, or_true, false_or, or_false, q1]
theorem r_isBB {h : Int32} (hG : BN b n N s) : F_X12_isByte N h = some (oi 0) := by
  obtain ⟨hT, h8, h13, h10⟩ := hG
  unfold F_X12_isByte
  by_cases q1 : gi N 94 11 = oi 3
  · by_cases q2 : lg_cmp (gl N) (Int32.toInt64 h) = oi 0 <;> simp (disch := omega) only [l_0, l_1, l_2, l_3, l_4, l_5, l_6, l_7, l_8, l_9, l_10, l_11, l_12, l_13, l_14, l_15, l_16, l_17, l_18, l_19, l_20, l_21, l_22, l_23, l_24, l_25, l_26, l_27, l_28, l_29, l_30, l_31, l_32, l_33, l_34, l_35, l_36, l_37, l_38, l_39, l_40, l_41, l_42, l_43, l_44, l_45, l_46, l_47, l_48, l_49, l_50, l_51, l_52, l_53, l_54, l_55, l_56, l_57, l_58, l_59, l_60, l_61, l_62, l_63, l_64, l_65, l_66, l_67, l_68, l_69, l_70, l_71, l_72, l_73, l_74, l_75, l_76, l_77, l_78, l_79, l_80, l_81, l_82, l_83, l_84, l_85, l_86, l_87, l_88, l_89, l_90, l_91, l_92, l_93, l_94, l_95, l_96, l_97, l_98, l_99, l_100, l_101, l_102, l_103, l_104, l_105, l_106, l_107, l_108, l_109, l_110, l_111, l_121, l_122, l_160, l_200, l_201, l_240, l_255, l_361, l_390, l_499, l_500, l_999, l_1000, l_10000, l_10099, l_12345, l_16383, l_20000, l_20033, l_20038, l_20124, l_100000, l_1000000, l_1103515245, ui_oi, ck_oi, sb, jc_e, bl_0, bl_1, le_oi, lt_oi, eq_oi, add_oi, mul_oi, div_oi, ir_oi, gi_e, gi_n, if_true, if_false, if_pos, if_neg, true_and, and_true, false_and, and_false, true_or, or_true, false_or, or_false, q1, q2, h13]
  · simp (disch := omega) only [l_0, l_1, l_2, l_3, l_4, l_5, l_6, l_7, l_8, l_9, l_10, l_11, l_12, l_13, l_14, l_15, l_16, l_17, l_18, l_19, l_20, l_21, l_22, l_23, l_24, l_25, l_26, l_27, l_28, l_29, l_30, l_31, l_32, l_33, l_34, l_35, l_36, l_37, l_38, l_39, l_40, l_41, l_42, l_43, l_44, l_45, l_46, l_47, l_48, l_49, l_50, l_51, l_52, l_53, l_54, l_55, l_56, l_57, l_58, l_59, l_60, l_61, l_62, l_63, l_64, l_65, l_66, l_67, l_68, l_69, l_70, l_71, l_72, l_73, l_74, l_75, l_76, l_77, l_78, l_79, l_80, l_81, l_82, l_83, l_84, l_85, l_86, l_87, l_88, l_89, l_90, l_91, l_92, l_93, l_94, l_95, l_96, l_97, l_98, l_99, l_100, l_101, l_102, l_103, l_104, l_105, l_106, l_107, l_108, l_109, l_110, l_111, l_121, l_122, l_160, l_200, l_201, l_240, l_255, l_361, l_390, l_499, l_500, l_999, l_1000, l_10000, l_10099, l_12345, l_16383, l_20000, l_20033, l_20038, l_20124, l_100000, l_1000000, l_1103515245, ui_oi, ck_oi, sb, jc_e, bl_0, bl_1, le_oi, lt_oi, eq_oi, add_oi, mul_oi, div_oi, ir_oi, gi_e, gi_n, if_true, if_false, if_pos, if_neg, true_and, and_true, false_and, and_false, true_or, or_true, false_or, or_false, q1]
theorem r_nx (hT : TKM b n K M) (hG : GN b n N a sr o) (ha : a < K) : ∃ N', F_X12_next N = some N' ∧ GN b n N' (a + 1) sr o ∧ FR N N' ∧ ∀ i, gi N' 101 i = gi N 101 i := by
  obtain ⟨hY, h8, hs, ⟨q9, q10, hD⟩, h13, h16, h14⟩ := hG
  have hpl := ((hT.2.2.2 a (by omega)).2.2).mpr ha
  have hn := hT.2.1
  rw [if_pos hpl] at q9
  obtain ⟨e1, e2⟩ := zE_b (b := b) hpl
  obtain ⟨N', x1, x2, x3⟩ := r_next hn n (zE_ b n (zPl b n a)) 1000 N (by omega) e2 (by omega) hY h8 q9
  refine ⟨N', x1, ⟨hY.oc x3.1 (by decide), (x3.2 8 (by omega) (by omega) (by omega)).trans h8, by omega, x2, (x3.2 13 (by omega) (by omega) (by omega)).trans h13, (x3.2 16 (by omega) (by omega) (by omega)).trans h16, (x3.2 14 (by omega) (by omega) (by omega)).trans h14⟩, x3.fr, fun i => x3.1.g (by decide)⟩
theorem r_go1 (hT : TKM b n K M) (hG : GN b n N a sr o) (ha : a < K) : ∃ N', F_X12_goesBy N (oi 1) = some N' ∧ GN b n N' (a + 1) sr o ∧ FR N N' ∧ ∀ i, gi N' 101 i = gi N 101 i := by
  obtain ⟨hY, h8, hs, ⟨q9, q10, hD⟩, h13, h16, h14⟩ := id hG
  have hO : Oc [94] N (si N 94 13 (oi 0)) := Oc.si (by simp)
  obtain ⟨N', x1, x2, x3, x4⟩ := r_nx hT (N := si N 94 13 (oi 0)) (sr := sr) (o := o) ⟨hY.oc hO (by decide), by rw [gi_n (by omega)]; exact h8, hs, ⟨by rw [gi_n (by omega)]; exact q9, by rw [gi_n (by omega)]; exact q10, by
    unfold TD at hD ⊢
    simp (disch := omega) only [gi_n, gl_si]
    exact hD⟩, gi_e, by rw [gi_n (by omega)]; exact h16, by rw [gi_n (by omega)]; exact h14⟩ ha
  refine ⟨N', ?_, x2, (FR.s4 (by omega)).tr x3, fun i => (x4 i).trans (gi_n (by omega))⟩
  unfold F_X12_goesBy
  simp (disch := omega) only [l_0, l_1, l_2, l_3, l_4, l_5, l_6, l_7, l_8, l_9, l_10, l_11, l_12, l_13, l_14, l_15, l_16, l_17, l_18, l_19, l_20, l_21, l_22, l_23, l_24, l_25, l_26, l_27, l_28, l_29, l_30, l_31, l_32, l_33, l_34, l_35, l_36, l_37, l_38, l_39, l_40, l_41, l_42, l_43, l_44, l_45, l_46, l_47, l_48, l_49, l_50, l_51, l_52, l_53, l_54, l_55, l_56, l_57, l_58, l_59, l_60, l_61, l_62, l_63, l_64, l_65, l_66, l_67, l_68, l_69, l_70, l_71, l_72, l_73, l_74, l_75, l_76, l_77, l_78, l_79, l_80, l_81, l_82, l_83, l_84, l_85, l_86, l_87, l_88, l_89, l_90, l_91, l_92, l_93, l_94, l_95, l_96, l_97, l_98, l_99, l_100, l_101, l_102, l_103, l_104, l_105, l_106, l_107, l_108, l_109, l_110, l_111, l_121, l_122, l_160, l_200, l_201, l_240, l_255, l_361, l_390, l_499, l_500, l_999, l_1000, l_10000, l_10099, l_12345, l_16383, l_20000, l_20033, l_20038, l_20124, l_100000, l_1000000, l_1103515245, ui_oi, ck_oi, sb, jc_e, bl_0, bl_1, le_oi, lt_oi, eq_oi, add_oi, mul_oi, div_oi, ir_oi, gi_e, gi_n, if_true, if_false, if_pos, if_neg, true_and, and_true, false_and, and_false, true_or, or_true, false_or, or_false, h13, x1]
theorem r_go0 (hG : GN b n N a sr o) : F_X12_goesBy N (oi 0) = some (si N 94 13 (oi 1)) ∧ BN b n (si N 94 13 (oi 1)) (zPl b n a) := by
  obtain ⟨hY, h8, hs, ⟨q9, q10, hD⟩, h13, h16, h14⟩ := id hG
  refine ⟨?_, hY.oc (S := [94]) (Oc.si (by simp)) (by decide), by rw [gi_n (by omega)]; exact h8, gi_e, by rw [gi_n (by omega)]; exact q10⟩
  unfold F_X12_goesBy
  simp (disch := omega) only [l_0, l_1, l_2, l_3, l_4, l_5, l_6, l_7, l_8, l_9, l_10, l_11, l_12, l_13, l_14, l_15, l_16, l_17, l_18, l_19, l_20, l_21, l_22, l_23, l_24, l_25, l_26, l_27, l_28, l_29, l_30, l_31, l_32, l_33, l_34, l_35, l_36, l_37, l_38, l_39, l_40, l_41, l_42, l_43, l_44, l_45, l_46, l_47, l_48, l_49, l_50, l_51, l_52, l_53, l_54, l_55, l_56, l_57, l_58, l_59, l_60, l_61, l_62, l_63, l_64, l_65, l_66, l_67, l_68, l_69, l_70, l_71, l_72, l_73, l_74, l_75, l_76, l_77, l_78, l_79, l_80, l_81, l_82, l_83, l_84, l_85, l_86, l_87, l_88, l_89, l_90, l_91, l_92, l_93, l_94, l_95, l_96, l_97, l_98, l_99, l_100, l_101, l_102, l_103, l_104, l_105, l_106, l_107, l_108, l_109, l_110, l_111, l_121, l_122, l_160, l_200, l_201, l_240, l_255, l_361, l_390, l_499, l_500, l_999, l_1000, l_10000, l_10099, l_12345, l_16383, l_20000, l_20033, l_20038, l_20124, l_100000, l_1000000, l_1103515245, ui_oi, ck_oi, sb, jc_e, bl_0, bl_1, le_oi, lt_oi, eq_oi, add_oi, mul_oi, div_oi, ir_oi, gi_e, gi_n, if_true, if_false, if_pos, if_neg, true_and, and_true, false_and, and_false, true_or, or_true, false_or, or_false, h13]
theorem r_goB {v : Int32} (hG : BN b n N s) : F_X12_goesBy N v = some (si N 94 13 (oi 1)) ∧ BN b n (si N 94 13 (oi 1)) s := by
  obtain ⟨hY, h8, h13, h10⟩ := id hG
  refine ⟨?_, hY.oc (S := [94]) (Oc.si (by simp)) (by decide), by rw [gi_n (by omega)]; exact h8, gi_e, by rw [gi_n (by omega)]; exact h10⟩
  unfold F_X12_goesBy
  simp (disch := omega) only [l_0, l_1, l_2, l_3, l_4, l_5, l_6, l_7, l_8, l_9, l_10, l_11, l_12, l_13, l_14, l_15, l_16, l_17, l_18, l_19, l_20, l_21, l_22, l_23, l_24, l_25, l_26, l_27, l_28, l_29, l_30, l_31, l_32, l_33, l_34, l_35, l_36, l_37, l_38, l_39, l_40, l_41, l_42, l_43, l_44, l_45, l_46, l_47, l_48, l_49, l_50, l_51, l_52, l_53, l_54, l_55, l_56, l_57, l_58, l_59, l_60, l_61, l_62, l_63, l_64, l_65, l_66, l_67, l_68, l_69, l_70, l_71, l_72, l_73, l_74, l_75, l_76, l_77, l_78, l_79, l_80, l_81, l_82, l_83, l_84, l_85, l_86, l_87, l_88, l_89, l_90, l_91, l_92, l_93, l_94, l_95, l_96, l_97, l_98, l_99, l_100, l_101, l_102, l_103, l_104, l_105, l_106, l_107, l_108, l_109, l_110, l_111, l_121, l_122, l_160, l_200, l_201, l_240, l_255, l_361, l_390, l_499, l_500, l_999, l_1000, l_10000, l_10099, l_12345, l_16383, l_20000, l_20033, l_20038, l_20124, l_100000, l_1000000, l_1103515245, ui_oi, ck_oi, sb, jc_e, bl_0, bl_1, le_oi, lt_oi, eq_oi, add_oi, mul_oi, div_oi, ir_oi, gi_e, gi_n, if_true, if_false, if_pos, if_neg, true_and, and_true, false_and, and_false, true_or, or_true, false_or, or_false, h13]
theorem r_lay {v : Int32} (hG : GN b n N a sr o) (hsr : sr + 1 ≤ a) (ha : a ≤ 200) : ∃ N', F_X12_lays N v = some N' ∧ GN b n N' a (sr + 1) o ∧ FR N N' ∧ gi N' 101 sr = v ∧ (∀ i, i ≠ sr → gi N' 101 i = gi N 101 i) ∧ gl N' = gl N := by
  obtain ⟨hY, h8, hs, ⟨q9, q10, hD⟩, h13, h16, h14⟩ := id hG
  have hO : Oc [94, 101] N (si (si N 101 sr v) 94 16 (oi (sr + 1))) := (Oc.si (S := [94, 101]) (by simp)).tr (Oc.si (S := [94, 101]) (by simp)) (fun c hc => ⟨hc, hc⟩)
  refine ⟨si (si N 101 sr v) 94 16 (oi (sr + 1)), ?_, ⟨hY.oc hO (by decide), by rw [gi_n (by omega), gi_n (by omega)]; exact h8, by omega, ⟨by rw [gi_n (by omega), gi_n (by omega)]; exact q9, by rw [gi_n (by omega), gi_n (by omega)]; exact q10, by
    unfold TD at hD ⊢
    simp (disch := omega) only [gi_n, gl_si]
    exact hD⟩, by rw [gi_n (by omega), gi_n (by omega)]; exact h13, gi_e, by rw [gi_n (by omega), gi_n (by omega)]; exact h14⟩, FR.s1.tr (FR.s4 (by omega)), by rw [gi_n (by omega), gi_e], fun i hi => by rw [gi_n (by omega), gi_n (by omega)], rfl⟩
  unfold F_X12_lays
  simp (disch := omega) only [l_0, l_1, l_2, l_3, l_4, l_5, l_6, l_7, l_8, l_9, l_10, l_11, l_12, l_13, l_14, l_15, l_16, l_17, l_18, l_19, l_20, l_21, l_22, l_23, l_24, l_25, l_26, l_27, l_28, l_29, l_30, l_31, l_32, l_33, l_34, l_35, l_36, l_37, l_38, l_39, l_40, l_41, l_42, l_43, l_44, l_45, l_46, l_47, l_48, l_49, l_50, l_51, l_52, l_53, l_54, l_55, l_56, l_57, l_58, l_59, l_60, l_61, l_62, l_63, l_64, l_65, l_66, l_67, l_68, l_69, l_70, l_71, l_72, l_73, l_74, l_75, l_76, l_77, l_78, l_79, l_80, l_81, l_82, l_83, l_84, l_85, l_86, l_87, l_88, l_89, l_90, l_91, l_92, l_93, l_94, l_95, l_96, l_97, l_98, l_99, l_100, l_101, l_102, l_103, l_104, l_105, l_106, l_107, l_108, l_109, l_110, l_111, l_121, l_122, l_160, l_200, l_201, l_240, l_255, l_361, l_390, l_499, l_500, l_999, l_1000, l_10000, l_10099, l_12345, l_16383, l_20000, l_20033, l_20038, l_20124, l_100000, l_1000000, l_1103515245, ui_oi, ck_oi, sb, jc_e, bl_0, bl_1, le_oi, lt_oi, eq_oi, add_oi, mul_oi, div_oi, ir_oi, gi_e, gi_n, if_true, if_false, if_pos, if_neg, true_and, and_true, false_and, and_false, true_or, or_true, false_or, or_false, h13, h16]
theorem r_layB {v : Int32} (hG : BN b n N s) : F_X12_lays N v = some N := by
  obtain ⟨hY, h8, h13, h10⟩ := id hG
  unfold F_X12_lays
  simp (disch := omega) only [l_0, l_1, l_2, l_3, l_4, l_5, l_6, l_7, l_8, l_9, l_10, l_11, l_12, l_13, l_14, l_15, l_16, l_17, l_18, l_19, l_20, l_21, l_22, l_23, l_24, l_25, l_26, l_27, l_28, l_29, l_30, l_31, l_32, l_33, l_34, l_35, l_36, l_37, l_38, l_39, l_40, l_41, l_42, l_43, l_44, l_45, l_46, l_47, l_48, l_49, l_50, l_51, l_52, l_53, l_54, l_55, l_56, l_57, l_58, l_59, l_60, l_61, l_62, l_63, l_64, l_65, l_66, l_67, l_68, l_69, l_70, l_71, l_72, l_73, l_74, l_75, l_76, l_77, l_78, l_79, l_80, l_81, l_82, l_83, l_84, l_85, l_86, l_87, l_88, l_89, l_90, l_91, l_92, l_93, l_94, l_95, l_96, l_97, l_98, l_99, l_100, l_101, l_102, l_103, l_104, l_105, l_106, l_107, l_108, l_109, l_110, l_111, l_121, l_122, l_160, l_200, l_201, l_240, l_255, l_361, l_390, l_499, l_500, l_999, l_1000, l_10000, l_10099, l_12345, l_16383, l_20000, l_20033, l_20038, l_20124, l_100000, l_1000000, l_1103515245, ui_oi, ck_oi, sb, jc_e, bl_0, bl_1, le_oi, lt_oi, eq_oi, add_oi, mul_oi, div_oi, ir_oi, gi_e, gi_n, if_true, if_false, if_pos, if_neg, true_and, and_true, false_and, and_false, true_or, or_true, false_or, or_false, h13]
end PA

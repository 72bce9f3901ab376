/-! RAFTS -/
def zcl (d : Nat → Nat) (i j : Nat) : Prop := zS d i = 0 ∧ zS d j = 0 ∧ (zT d i = zT d j ∨ zFl d i = zFl d j)
def Sub (s t : Nat) : Prop := ∀ i, i < 6 → s / 2 ^ i % 2 = 1 → t / 2 ^ i % 2 = 1
def Cls (d : Nat → Nat) (X : Nat) : Prop := ∀ i j, i < d 0 → j < d 0 → X / 2 ^ i % 2 = 1 → zcl d i j → X / 2 ^ j % 2 = 1
def Unk (d : Nat → Nat) (s : Nat) : Prop := ∀ i, i < d 0 → s / 2 ^ i % 2 = 1 → zS d i = 0
def Gr (d : Nat → Nat) (s t : Nat) : Prop := t < 2 ^ d 0 ∧ Sub s t ∧ (∀ i j, i < d 0 → j < d 0 → s / 2 ^ i % 2 = 1 → zcl d i j → t / 2 ^ j % 2 = 1) ∧ (∀ X, Cls d X → Sub s X → Sub t X) ∧ (Unk d s → Unk d t)
def Chn (d : Nat → Nat) : Nat → Nat → Nat → Prop
  | 0, s, t => t = s
  | m + 1, s, t => ∃ s', Gr d s s' ∧ Chn d m s' t
theorem pcl_all : ∀ a, a < 64 → ∀ b, b < 64 → (∀ i, i < 6 → (a / 2 ^ i % 2 = 1 → b / 2 ^ i % 2 = 1)) → (a = b ∨ zPc a < zPc b) := by decide +kernel
theorem pcf_all : ∀ n, n < 7 → ∀ x, x < 2 ^ n → n ≤ zPc x → ∀ i, i < n → x / 2 ^ i % 2 = 1 := by decide +kernel
theorem up_all : ∀ n, n < 7 → ∀ x, x < 2 ^ n → ∀ i, i < 6 → (x / 2 ^ i % 2 = 1 → i < n) := by decide +kernel
section RF
variable {M N M' N' N1 : Mm} {d e : Nat → Nat} {c : Cnd} {n i j k s t u m : Nat}
theorem Sub.rf : Sub s s := fun _ _ h => h
theorem Sub.tr (h1 : Sub s t) (h2 : Sub t u) : Sub s u := fun i hi h => h2 i hi (h1 i hi h)
theorem Sub.eq (h1 : Sub s t) (h2 : Sub t s) (hs : s < 64) (ht : t < 64) : s = t := ext_all s hs t ht (fun i hi => ⟨h1 i hi, h2 i hi⟩)
theorem p2le (h0 : d 0 ≤ 6) : 2 ^ d 0 ≤ 64 := by
  have : 2 ^ d 0 ≤ 2 ^ 6 := Nat.pow_le_pow_right (by omega) h0
  omega
theorem Chn_sub : ∀ m s t, s < 2 ^ d 0 → Chn d m s t → Sub s t ∧ (∀ X, Cls d X → Sub s X → Sub t X) ∧ t < 2 ^ d 0
  | 0, s, t, hs, h => by
    have h : t = s := h
    subst h
    exact ⟨Sub.rf, fun _ _ q => q, hs⟩
  | m + 1, s, t, hs, h => by
    obtain ⟨s', g, h⟩ := h
    obtain ⟨a1, a2, a3⟩ := Chn_sub m s' t g.1 h
    exact ⟨g.2.1.tr a1, fun X q1 q2 => a2 X q1 (g.2.2.2.1 X q1 q2), a3⟩
theorem Chn_end (h0 : d 0 ≤ 6) : ∀ m s t, s < 2 ^ d 0 → Chn d m s t → d 0 ≤ zPc s + m → Cls d t
  | 0, s, t, hs, h, hp => by
    have h : t = s := h
    subst h
    exact fun i j hi hj _ _ => pcf_all (d 0) (by omega) t hs (by omega) j hj
  | m + 1, s, t, hs, h, hp => by
    obtain ⟨s', g, h⟩ := h
    have h64 := p2le h0
    have hs' := g.1
    rcases pcl_all s (by omega) s' (by omega) g.2.1 with he | hlt
    · subst he
      have hc : Cls d s := fun i j hi hj a b => g.2.2.1 i j hi hj a b
      obtain ⟨a1, a2, a3⟩ := Chn_sub m s t hs h
      have := (a2 s hc Sub.rf).eq a1 (by omega) (by omega)
      rw [this]
      exact hc
    · exact Chn_end h0 m s' t g.1 h (by omega)
theorem or_sub (ht : t < 64) (hk : k < 6) (h : t / 2 ^ k % 2 = 1) : t ||| 2 ^ k = t := ext_all _ (Nat.or_lt_two_pow (n := 6) ht (p6_lt k hk)) _ ht (fun i hi => by
  rw [obit_all t ht _ (p6_lt k hk) i hi, pbit_all k hk i hi]
  exact ⟨fun q => by rcases q with q | q; exact q; exact q ▸ h, Or.inl⟩)
theorem pwk_lt (hk : k < d 0) : 2 ^ k < 2 ^ d 0 := Nat.pow_lt_pow_right (by omega) hk
/-- one more in the set, and it stays in every closed one -/
theorem Sub.one (ht : t < 64) (hk : k < 6) (h : Sub t u) (hb : u / 2 ^ k % 2 = 1) : Sub (t ||| 2 ^ k) u := fun i hi q => by
  rw [obit_all t ht _ (p6_lt k hk) i hi, pbit_all k hk i hi] at q
  rcases q with q | q
  · exact h i hi q
  · exact q ▸ hb
theorem Sub.inl (ht : t < 64) (hu : u < 64) : Sub t (t ||| u) := fun i hi q => (obit_all t ht u hu i hi).mpr (Or.inl q)
theorem Sub.inr (ht : t < 64) (hu : u < 64) : Sub u (t ||| u) := fun i hi q => (obit_all t ht u hu i hi).mpr (Or.inr q)
theorem zcl_sy (h : zcl d i j) : zcl d j i := ⟨h.2.1, h.1, h.2.2.elim (fun q => Or.inl q.symm) (fun q => Or.inr q.symm)⟩
theorem zFl_le (hW : WF d) (hk : k < 6) : zFl d k ≤ 13 := zFb_le (hW.2.2.2.2.2.1 k hk).2.2.1
/-- is it close to one of the set -/
theorem c_any (hV : VL 0 M d c) (hF : FL 39 M d) (hW : WF d) (hk : k < d 0) (hs : s < 64) (hU : Unk d s) : ((∃ j, j < d 0 ∧ s / 2 ^ j % 2 = 1 ∧ zcl d j k) ∧ F_X10_isCloseToAny M (oi k) (oi s) = some (oi 1)) ∨ ((∀ j, j < d 0 → s / 2 ^ j % 2 = 1 → ¬ zcl d j k) ∧ F_X10_isCloseToAny M (oi k) (oi s) = some (oi 0)) := by
  have h0 := hW.1
  have hb := hW.2.2.2.2.2.1
  have hs1 := (hb k (by omega)).2.2.2.2.1
  have hst := c_st (w := 39) hF.b hb (k := k) (by omega)
  have hfl := c_fl hV hF hW (k := k) (by omega)
  have hfk := zFl_le hW (k := k) (by omega)
  unfold F_X10_isCloseToAny
  rcases (by omega : zS d k = 1 ∨ zS d k = 0) with hz | hz
  · refine Or.inr ⟨fun j hj _ q => by have := q.2.1; omega, ?_⟩
    rw [hz] at hst
    simp (disch := omega) only [l_0, l_1, l_2, l_3, l_4, l_5, l_6, l_7, l_8, l_9, l_10, l_11, l_12, l_13, l_14, l_15, l_16, l_17, l_18, l_19, l_20, l_21, l_22, l_23, l_24, l_25, l_26, l_27, l_28, l_29, l_30, l_31, l_32, l_33, l_34, l_35, l_36, l_37, l_38, l_39, l_40, l_41, l_42, l_43, l_44, l_45, l_46, l_47, l_48, l_49, l_50, l_51, l_52, l_53, l_54, l_55, l_56, l_57, l_58, l_59, l_60, l_61, l_62, l_63, l_64, l_65, l_66, l_67, l_68, l_69, l_70, l_71, l_72, l_73, l_74, l_75, l_76, l_77, l_78, l_79, l_80, l_81, l_82, l_83, l_84, l_85, l_86, l_87, l_88, l_89, l_90, l_91, l_92, l_93, l_94, l_95, l_96, l_97, l_98, l_99, l_100, l_101, l_102, l_103, l_104, l_105, l_106, l_107, l_108, l_109, l_110, l_111, l_121, l_122, l_160, l_200, l_201, l_240, l_255, l_361, l_390, l_499, l_500, l_999, l_1000, l_10000, l_10099, l_12345, l_16383, l_20000, l_20033, l_20038, l_20124, l_100000, l_1000000, l_1103515245, ui_oi, ck_oi, sb, jc_e, bl_0, bl_1, le_oi, lt_oi, eq_oi, add_oi, mul_oi, div_oi, ir_oi, gi_e, gi_n, if_true, if_false, if_pos, if_neg, true_and, and_true, false_and, and_false, true_or, or_true, false_or, or_false, hst]
  · rw [hz] at hst
    have hloop : ∀ m j fu, j + m = d 0 → m < fu → (∀ i, i < j → s / 2 ^ i % 2 = 1 → ¬ zcl d i k) → ((∃ j, j < d 0 ∧ s / 2 ^ j % 2 = 1 ∧ zcl d j k) ∧ F_X10_isCloseToAny_L26 M (oi k) (oi s) (oi (zFl d k)) fu (oi j) = some (oi 1)) ∨ ((∀ j, j < d 0 → s / 2 ^ j % 2 = 1 → ¬ zcl d j k) ∧ F_X10_isCloseToAny_L26 M (oi k) (oi s) (oi (zFl d k)) fu (oi j) = some (oi 0)) := by
      intro m
      induction m with
      | zero =>
        intro j fu hj hf hn
        obtain ⟨fu', rfl⟩ : ∃ q, fu = q + 1 := ⟨fu - 1, by omega⟩
        refine Or.inr ⟨fun i hi q => hn i (by omega) q, ?_⟩
        rw [F_X10_isCloseToAny_L26]
        simp (disch := omega) only [l_0, l_1, l_2, l_3, l_4, l_5, l_6, l_7, l_8, l_9, l_10, l_11, l_12, l_13, l_14, l_15, l_16, l_17, l_18, l_19, l_20, l_21, l_22, l_23, l_24, l_25, l_26, l_27, l_28, l_29, l_30, l_31, l_32, l_33, l_34, l_35, l_36, l_37, l_38, l_39, l_40, l_41, l_42, l_43, l_44, l_45, l_46, l_47, l_48, l_49, l_50, l_51, l_52, l_53, l_54, l_55, l_56, l_57, l_58, l_59, l_60, l_61, l_62, l_63, l_64, l_65, l_66, l_67, l_68, l_69, l_70, l_71, l_72, l_73, l_74, l_75, l_76, l_77, l_78, l_79, l_80, l_81, l_82, l_83, l_84, l_85, l_86, l_87, l_88, l_89, l_90, l_91, l_92, l_93, l_94, l_95, l_96, l_97, l_98, l_99, l_100, l_101, l_102, l_103, l_104, l_105, l_106, l_107, l_108, l_109, l_110, l_111, l_121, l_122, l_160, l_200, l_201, l_240, l_255, l_361, l_390, l_499, l_500, l_999, l_1000, l_10000, l_10099, l_12345, l_16383, l_20000, l_20033, l_20038, l_20124, l_100000, l_1000000, l_1103515245, ui_oi, ck_oi, sb, jc_e, bl_0, bl_1, le_oi, lt_oi, eq_oi, add_oi, mul_oi, div_oi, ir_oi, gi_e, gi_n, if_true, if_false, if_pos, if_neg, true_and, and_true, false_and, and_false, true_or, or_true, false_or, or_false, hV.n]
      | succ m ih =>
        intro j fu hj hf hn
        obtain ⟨fu', rfl⟩ : ∃ q, fu = q + 1 := ⟨fu - 1, by omega⟩
        have hbit := bit_all s hs j (by omega)
        have hm2 : s / 2 ^ j % 2 < 2 := Nat.mod_lt _ (by omega)
        have hflj := c_fl hV hF hW (k := j) (by omega)
        have hfj := zFl_le hW (k := j) (by omega)
        have htj := (hb j (by omega)).2.2.2.1
        have htk := (hb k (by omega)).2.2.2.1
        have tj := hV.ti (k := j) (by omega)
        have tk := hV.ti (k := k) (by omega)
        rw [F_X10_isCloseToAny_L26]
        by_cases hin : s / 2 ^ j % 2 = 1
        · have hzj := hU j (by omega) hin
          by_cases hT : zT d j = zT d k
          · refine Or.inl ⟨⟨j, by omega, hin, hzj, hz, Or.inl hT⟩, ?_⟩
            rw [hT] at tj
            simp (disch := omega) only [l_0, l_1, l_2, l_3, l_4, l_5, l_6, l_7, l_8, l_9, l_10, l_11, l_12, l_13, l_14, l_15, l_16, l_17, l_18, l_19, l_20, l_21, l_22, l_23, l_24, l_25, l_26, l_27, l_28, l_29, l_30, l_31, l_32, l_33, l_34, l_35, l_36, l_37, l_38, l_39, l_40, l_41, l_42, l_43, l_44, l_45, l_46, l_47, l_48, l_49, l_50, l_51, l_52, l_53, l_54, l_55, l_56, l_57, l_58, l_59, l_60, l_61, l_62, l_63, l_64, l_65, l_66, l_67, l_68, l_69, l_70, l_71, l_72, l_73, l_74, l_75, l_76, l_77, l_78, l_79, l_80, l_81, l_82, l_83, l_84, l_85, l_86, l_87, l_88, l_89, l_90, l_91, l_92, l_93, l_94, l_95, l_96, l_97, l_98, l_99, l_100, l_101, l_102, l_103, l_104, l_105, l_106, l_107, l_108, l_109, l_110, l_111, l_121, l_122, l_160, l_200, l_201, l_240, l_255, l_361, l_390, l_499, l_500, l_999, l_1000, l_10000, l_10099, l_12345, l_16383, l_20000, l_20033, l_20038, l_20124, l_100000, l_1000000, l_1103515245, ui_oi, ck_oi, sb, jc_e, bl_0, bl_1, le_oi, lt_oi, eq_oi, add_oi, mul_oi, div_oi, ir_oi, gi_e, gi_n, if_true, if_false, if_pos, if_neg, true_and, and_true, false_and, and_false, true_or, or_true, false_or, or_false, hV.n, hbit, hin, tj, tk]
          · by_cases hL : zFl d j = zFl d k
            · refine Or.inl ⟨⟨j, by omega, hin, hzj, hz, Or.inr hL⟩, ?_⟩
              rw [hL] at hflj
              simp (disch := omega) only [l_0, l_1, l_2, l_3, l_4, l_5, l_6, l_7, l_8, l_9, l_10, l_11, l_12, l_13, l_14, l_15, l_16, l_17, l_18, l_19, l_20, l_21, l_22, l_23, l_24, l_25, l_26, l_27, l_28, l_29, l_30, l_31, l_32, l_33, l_34, l_35, l_36, l_37, l_38, l_39, l_40, l_41, l_42, l_43, l_44, l_45, l_46, l_47, l_48, l_49, l_50, l_51, l_52, l_53, l_54, l_55, l_56, l_57, l_58, l_59, l_60, l_61, l_62, l_63, l_64, l_65, l_66, l_67, l_68, l_69, l_70, l_71, l_72, l_73, l_74, l_75, l_76, l_77, l_78, l_79, l_80, l_81, l_82, l_83, l_84, l_85, l_86, l_87, l_88, l_89, l_90, l_91, l_92, l_93, l_94, l_95, l_96, l_97, l_98, l_99, l_100, l_101, l_102, l_103, l_104, l_105, l_106, l_107, l_108, l_109, l_110, l_111, l_121, l_122, l_160, l_200, l_201, l_240, l_255, l_361, l_390, l_499, l_500, l_999, l_1000, l_10000, l_10099, l_12345, l_16383, l_20000, l_20033, l_20038, l_20124, l_100000, l_1000000, l_1103515245, ui_oi, ck_oi, sb, jc_e, bl_0, bl_1, le_oi, lt_oi, eq_oi, add_oi, mul_oi, div_oi, ir_oi, gi_e, gi_n, if_true, if_false, if_pos, if_neg, true_and, and_true, false_and, and_false, true_or, or_true, false_or, or_false, hV.n, hbit, hin, tj, tk, hflj]
            · have hn' : ∀ i, i < j + 1 → s / 2 ^ i % 2 = 1 → ¬ zcl d i k := fun i hi q => by
                by_cases hij : i = j
                · rw [hij]
                  exact fun q2 => q2.2.2.elim hT hL
                · exact hn i (by omega) q
              rcases ih (j + 1) fu' (by omega) (by omega) hn' with ⟨a1, a2⟩ | ⟨a1, a2⟩
              · exact Or.inl ⟨a1, by simp (disch := omega) only [l_0, l_1, l_2, l_3, l_4, l_5, l_6, l_7, l_8, l_9, l_10, l_11, l_12, l_13, l_14, l_15, l_16, l_17, l_18, l_19, l_20, l_21, l_22, l_23, l_24, l_25, l_26, l_27, l_28, l_29, l_30, l_31, l_32, l_33, l_34, l_35, l_36, l_37, l_38, l_39, l_40, l_41, l_42, l_43, l_44, l_45, l_46, l_47, l_48, l_49, l_50, l_51, l_52, l_53, l_54, l_55, l_56, l_57, l_58, l_59, l_60, l_61, l_62, l_63, l_64, l_65, l_66, l_67, l_68, l_69, l_70, l_71, l_72, l_73, l_74, l_75, l_76, l_77, l_78, l_79, l_80, l_81, l_82, l_83, l_84, l_85, l_86, l_87, l_88, l_89, l_90, l_91, l_92, l_93, l_94, l_95, l_96, l_97, l_98, l_99, l_100, l_101, l_102, l_103, l_104, l_105, l_106, l_107, l_108, l_109, l_110, l_111, l_121, l_122, l_160, l_200, l_201, l_240, l_255, l_361, l_390, l_499, l_500, l_999, l_1000, l_10000, l_10099, l_12345, l_16383, l_20000, l_20033, l_20038, l_20124, l_100000, l_1000000, l_1103515245, ui_oi, ck_oi, sb, jc_e, bl_0, bl_1, le_oi, lt_oi, eq_oi, add_oi, mul_oi, div_oi, ir_oi, gi_e, gi_n, if_true, if_false, if_pos, if_neg, true_and, and_true, false_and, and_false, true_or, or_true, false_or, or_false, hV.n, hbit, hin, tj, tk, hflj, a2]⟩
              · exact Or.inr ⟨a1, by simp (disch := omega) only [l_0, l_1, l_2, l_3, l_4, l_5, l_6, l_7, l_8, l_9, l_10, l_11, l_12, l_13, l_14, l_15, l_16, l_17, l_18, l_19, l_20, l_21, l_22, l_23, l_24, l_25, l_26, l_27, l_28, l_29, l_30, l_31, l_32, l_33, l_34, l_35, l_36, l_37, l_38, l_39, l_40, l_41, l_42, l_43, l_44, l_45, l_46, l_47, l_48, l_49, l_50, l_51, l_52, l_53, l_54, l_55, l_56, l_57, l_58, l_59, l_60, l_61, l_62, l_63, l_64, l_65, l_66, l_67, l_68, l_69, l_70, l_71, l_72, l_73, l_74, l_75, l_76, l_77, l_78, l_79, l_80, l_81, l_82, l_83, l_84, l_85, l_86, l_87, l_88, l_89, l_90, l_91, l_92, l_93, l_94, l_95, l_96, l_97, l_98, l_99, l_100, l_101, l_102, l_103, l_104, l_105, l_106, l_107, l_108, l_109, l_110, l_111, l_121, l_122, l_160, l_200, l_201, l_240, l_255, l_361, l_390, l_499, l_500, l_999, l_1000, l_10000, l_10099, l_12345, l_16383, l_20000, l_20033, l_20038, l_20124, l_100000, l_1000000, l_1103515245, ui_oi, ck_oi, sb, jc_e, bl_0, bl_1, le_oi, lt_oi, eq_oi, add_oi, mul_oi, div_oi, ir_oi, gi_e, gi_n, if_true, if_false, if_pos, if_neg, true_and, and_true, false_and, and_false, true_or, or_true, false_or, or_false, hV.n, hbit, hin, tj, tk, hflj, a2]⟩
        · have hz0 : s / 2 ^ j % 2 = 0 := by omega
          have hn' : ∀ i, i < j + 1 → s / 2 ^ i % 2 = 1 → ¬ zcl d i k := fun i hi q => by
            by_cases hij : i = j
            · rw [hij] at q
              exact absurd q hin
            · exact hn i (by omega) q
          rcases ih (j + 1) fu' (by omega) (by omega) hn' with ⟨a1, a2⟩ | ⟨a1, a2⟩
          · exact Or.inl ⟨a1, by simp (disch := omega) only [l_0, l_1, l_2, l_3, l_4, l_5, l_6, l_7, l_8, l_9, l_10, l_11, l_12, l_13, l_14, l_15, l_16, l_17, l_18, l_19, l_20, l_21, l_22, l_23, l_24, l_25, l_26, l_27, l_28, l_29, l_30, l_31, l_32, l_33, l_34, l_35, l_36, l_37, l_38, l_39, l_40, l_41, l_42, l_43, l_44, l_45, l_46, l_47, l_48, l_49, l_50, l_51, l_52, l_53, l_54, l_55, l_56, l_57, l_58, l_59, l_60, l_61, l_62, l_63, l_64, l_65, l_66, l_67, l_68, l_69, l_70, l_71, l_72, l_73, l_74, l_75, l_76, l_77, l_78, l_79, l_80, l_81, l_82, l_83, l_84, l_85, l_86, l_87, l_88, l_89, l_90, l_91, l_92, l_93, l_94, l_95, l_96, l_97, l_98, l_99, l_100, l_101, l_102, l_103, l_104, l_105, l_106, l_107, l_108, l_109, l_110, l_111, l_121, l_122, l_160, l_200, l_201, l_240, l_255, l_361, l_390, l_499, l_500, l_999, l_1000, l_10000, l_10099, l_12345, l_16383, l_20000, l_20033, l_20038, l_20124, l_100000, l_1000000, l_1103515245, ui_oi, ck_oi, sb, jc_e, bl_0, bl_1, le_oi, lt_oi, eq_oi, add_oi, mul_oi, div_oi, ir_oi, gi_e, gi_n, if_true, if_false, if_pos, if_neg, true_and, and_true, false_and, and_false, true_or, or_true, false_or, or_false, hV.n, hbit, hz0, a2]⟩
          · exact Or.inr ⟨a1, by simp (disch := omega) only [l_0, l_1, l_2, l_3, l_4, l_5, l_6, l_7, l_8, l_9, l_10, l_11, l_12, l_13, l_14, l_15, l_16, l_17, l_18, l_19, l_20, l_21, l_22, l_23, l_24, l_25, l_26, l_27, l_28, l_29, l_30, l_31, l_32, l_33, l_34, l_35, l_36, l_37, l_38, l_39, l_40, l_41, l_42, l_43, l_44, l_45, l_46, l_47, l_48, l_49, l_50, l_51, l_52, l_53, l_54, l_55, l_56, l_57, l_58, l_59, l_60, l_61, l_62, l_63, l_64, l_65, l_66, l_67, l_68, l_69, l_70, l_71, l_72, l_73, l_74, l_75, l_76, l_77, l_78, l_79, l_80, l_81, l_82, l_83, l_84, l_85, l_86, l_87, l_88, l_89, l_90, l_91, l_92, l_93, l_94, l_95, l_96, l_97, l_98, l_99, l_100, l_101, l_102, l_103, l_104, l_105, l_106, l_107, l_108, l_109, l_110, l_111, l_121, l_122, l_160, l_200, l_201, l_240, l_255, l_361, l_390, l_499, l_500, l_999, l_1000, l_10000, l_10099, l_12345, l_16383, l_20000, l_20033, l_20038, l_20124, l_100000, l_1000000, l_1103515245, ui_oi, ck_oi, sb, jc_e, bl_0, bl_1, le_oi, lt_oi, eq_oi, add_oi, mul_oi, div_oi, ir_oi, gi_e, gi_n, if_true, if_false, if_pos, if_neg, true_and, and_true, false_and, and_false, true_or, or_true, false_or, or_false, hV.n, hbit, hz0, a2]⟩
    rcases hloop (d 0) 0 1000 (by omega) (by omega) (fun i hi => by omega) with ⟨a1, a2⟩ | ⟨a1, a2⟩
    · exact Or.inl ⟨a1, by simp (disch := omega) only [l_0, l_1, l_2, l_3, l_4, l_5, l_6, l_7, l_8, l_9, l_10, l_11, l_12, l_13, l_14, l_15, l_16, l_17, l_18, l_19, l_20, l_21, l_22, l_23, l_24, l_25, l_26, l_27, l_28, l_29, l_30, l_31, l_32, l_33, l_34, l_35, l_36, l_37, l_38, l_39, l_40, l_41, l_42, l_43, l_44, l_45, l_46, l_47, l_48, l_49, l_50, l_51, l_52, l_53, l_54, l_55, l_56, l_57, l_58, l_59, l_60, l_61, l_62, l_63, l_64, l_65, l_66, l_67, l_68, l_69, l_70, l_71, l_72, l_73, l_74, l_75, l_76, l_77, l_78, l_79, l_80, l_81, l_82, l_83, l_84, l_85, l_86, l_87, l_88, l_89, l_90, l_91, l_92, l_93, l_94, l_95, l_96, l_97, l_98, l_99, l_100, l_101, l_102, l_103, l_104, l_105, l_106, l_107, l_108, l_109, l_110, l_111, l_121, l_122, l_160, l_200, l_201, l_240, l_255, l_361, l_390, l_499, l_500, l_999, l_1000, l_10000, l_10099, l_12345, l_16383, l_20000, l_20033, l_20038, l_20124, l_100000, l_1000000, l_1103515245, ui_oi, ck_oi, sb, jc_e, bl_0, bl_1, le_oi, lt_oi, eq_oi, add_oi, mul_oi, div_oi, ir_oi, gi_e, gi_n, if_true, if_false, if_pos, if_neg, true_and, and_true, false_and, and_false, true_or, or_true, false_or, or_false, hst, hfl, a2]⟩
    · exact Or.inr ⟨a1, by simp (disch := omega) only [l_0, l_1, l_2, l_3, l_4, l_5, l_6, l_7, l_8, l_9, l_10, l_11, l_12, l_13, l_14, l_15, l_16, l_17, l_18, l_19, l_20, l_21, l_22, l_23, l_24, l_25, l_26, l_27, l_28, l_29, l_30, l_31, l_32, l_33, l_34, l_35, l_36, l_37, l_38, l_39, l_40, l_41, l_42, l_43, l_44, l_45, l_46, l_47, l_48, l_49, l_50, l_51, l_52, l_53, l_54, l_55, l_56, l_57, l_58, l_59, l_60, l_61, l_62, l_63, l_64, l_65, l_66, l_67, l_68, l_69, l_70, l_71, l_72, l_73, l_74, l_75, l_76, l_77, l_78, l_79, l_80, l_81, l_82, l_83, l_84, l_85, l_86, l_87, l_88, l_89, l_90, l_91, l_92, l_93, l_94, l_95, l_96, l_97, l_98, l_99, l_100, l_101, l_102, l_103, l_104, l_105, l_106, l_107, l_108, l_109, l_110, l_111, l_121, l_122, l_160, l_200, l_201, l_240, l_255, l_361, l_390, l_499, l_500, l_999, l_1000, l_10000, l_10099, l_12345, l_16383, l_20000, l_20033, l_20038, l_20124, l_100000, l_1000000, l_1103515245, ui_oi, ck_oi, sb, jc_e, bl_0, bl_1, le_oi, lt_oi, eq_oi, add_oi, mul_oi, div_oi, ir_oi, gi_e, gi_n, if_true, if_false, if_pos, if_neg, true_and, and_true, false_and, and_false, true_or, or_true, false_or, or_false, hst, hfl, a2]⟩
/-- a round of the class -/
theorem c_round {k22 : Int32 → Int32 → Option Int32} (hV : VL 0 M d c) (hF : FL 39 M d) (hW : WF d) (hs : s < 2 ^ d 0) (hU : Unk d s) (v3 : Int32) : ∃ t, Gr d s t ∧ F_X11_raftOf_L36 k22 M v3 1000 (oi s) (oi 0) = k22 (oi t) (v3 + oi 1) := by
  have h0 := hW.1
  have h64 := p2le h0
  obtain ⟨a', ⟨t, rfl, i1, i2, i3, i4, i5⟩, e1⟩ := lp_k (L := fun m a z => F_X11_raftOf_L36 k22 M v3 m a z) (n := d 0) (I := fun k a => ∃ cur, a = oi cur ∧ cur < 2 ^ d 0 ∧ Sub s cur ∧ (∀ i j, i < d 0 → j < k → s / 2 ^ i % 2 = 1 → zcl d i j → cur / 2 ^ j % 2 = 1) ∧ (∀ X, Cls d X → Sub s X → Sub cur X) ∧ Unk d cur) (R := fun a => k22 a (v3 + oi 1)) (fun k m a hk hI => by
    obtain ⟨cur, rfl, i1, i2, i3, i4, i5⟩ := hI
    have hor := oor_all cur (by omega) (2 ^ k) (p6_lt k (by omega))
    have hsh := shb_all k (by omega)
    rcases c_any hV hF hW hk (s := cur) (by omega) i5 with ⟨⟨j, j1, j2, j3⟩, q2⟩ | ⟨q1, q2⟩
    · refine ⟨oi (cur ||| 2 ^ k), ⟨cur ||| 2 ^ k, rfl, Nat.or_lt_two_pow i1 (pwk_lt hk), i2.tr (Sub.inl (by omega) (p6_lt k (by omega))), fun i j a1 a2 a3 a4 => ?_, fun X hX hs => (i4 X hX hs).one (by omega) (by omega) (hX j k j1 hk (i4 X hX hs j (by omega) j2) j3), fun i hi q => ?_⟩, ?_⟩
      · rw [obit_all cur (by omega) _ (p6_lt k (by omega)) j (by omega), pbit_all k (by omega) j (by omega)]
        by_cases hjk : j = k
        · exact Or.inr hjk
        · exact Or.inl (i3 i j a1 (by omega) a3 a4)
      · rw [obit_all cur (by omega) _ (p6_lt k (by omega)) i (by omega), pbit_all k (by omega) i (by omega)] at q
        rcases q with q | q
        · exact i5 i hi q
        · rw [q]
          exact j3.2.1
      · try dsimp only
        rw [F_X11_raftOf_L36]
        simp (disch := omega) only [l_0, l_1, l_2, l_3, l_4, l_5, l_6, l_7, l_8, l_9, l_10, l_11, l_12, l_13, l_14, l_15, l_16, l_17, l_18, l_19, l_20, l_21, l_22, l_23, l_24, l_25, l_26, l_27, l_28, l_29, l_30, l_31, l_32, l_33, l_34, l_35, l_36, l_37, l_38, l_39, l_40, l_41, l_42, l_43, l_44, l_45, l_46, l_47, l_48, l_49, l_50, l_51, l_52, l_53, l_54, l_55, l_56, l_57, l_58, l_59, l_60, l_61, l_62, l_63, l_64, l_65, l_66, l_67, l_68, l_69, l_70, l_71, l_72, l_73, l_74, l_75, l_76, l_77, l_78, l_79, l_80, l_81, l_82, l_83, l_84, l_85, l_86, l_87, l_88, l_89, l_90, l_91, l_92, l_93, l_94, l_95, l_96, l_97, l_98, l_99, l_100, l_101, l_102, l_103, l_104, l_105, l_106, l_107, l_108, l_109, l_110, l_111, l_121, l_122, l_160, l_200, l_201, l_240, l_255, l_361, l_390, l_499, l_500, l_999, l_1000, l_10000, l_10099, l_12345, l_16383, l_20000, l_20033, l_20038, l_20124, l_100000, l_1000000, l_1103515245, ui_oi, ck_oi, sb, jc_e, bl_0, bl_1, le_oi, lt_oi, eq_oi, add_oi, mul_oi, div_oi, ir_oi, gi_e, gi_n, if_true, if_false, if_pos, if_neg, true_and, and_true, false_and, and_false, true_or, or_true, false_or, or_false, hV.n, q2, hsh, hor]
    · refine ⟨oi cur, ⟨cur, rfl, i1, i2, fun i j a1 a2 a3 a4 => ?_, i4, i5⟩, ?_⟩
      · by_cases hjk : j = k
        · rw [hjk] at a4
          exact absurd a4 (q1 i a1 (i2 i (by omega) a3))
        · exact i3 i j a1 (by omega) a3 a4
      · try dsimp only
        rw [F_X11_raftOf_L36]
        simp (disch := omega) only [l_0, l_1, l_2, l_3, l_4, l_5, l_6, l_7, l_8, l_9, l_10, l_11, l_12, l_13, l_14, l_15, l_16, l_17, l_18, l_19, l_20, l_21, l_22, l_23, l_24, l_25, l_26, l_27, l_28, l_29, l_30, l_31, l_32, l_33, l_34, l_35, l_36, l_37, l_38, l_39, l_40, l_41, l_42, l_43, l_44, l_45, l_46, l_47, l_48, l_49, l_50, l_51, l_52, l_53, l_54, l_55, l_56, l_57, l_58, l_59, l_60, l_61, l_62, l_63, l_64, l_65, l_66, l_67, l_68, l_69, l_70, l_71, l_72, l_73, l_74, l_75, l_76, l_77, l_78, l_79, l_80, l_81, l_82, l_83, l_84, l_85, l_86, l_87, l_88, l_89, l_90, l_91, l_92, l_93, l_94, l_95, l_96, l_97, l_98, l_99, l_100, l_101, l_102, l_103, l_104, l_105, l_106, l_107, l_108, l_109, l_110, l_111, l_121, l_122, l_160, l_200, l_201, l_240, l_255, l_361, l_390, l_499, l_500, l_999, l_1000, l_10000, l_10099, l_12345, l_16383, l_20000, l_20033, l_20038, l_20124, l_100000, l_1000000, l_1103515245, ui_oi, ck_oi, sb, jc_e, bl_0, bl_1, le_oi, lt_oi, eq_oi, add_oi, mul_oi, div_oi, ir_oi, gi_e, gi_n, if_true, if_false, if_pos, if_neg, true_and, and_true, false_and, and_false, true_or, or_true, false_or, or_false, hV.n, q2]) (fun m a hI => by
    try dsimp only
    rw [F_X11_raftOf_L36]
    simp (disch := omega) only [l_0, l_1, l_2, l_3, l_4, l_5, l_6, l_7, l_8, l_9, l_10, l_11, l_12, l_13, l_14, l_15, l_16, l_17, l_18, l_19, l_20, l_21, l_22, l_23, l_24, l_25, l_26, l_27, l_28, l_29, l_30, l_31, l_32, l_33, l_34, l_35, l_36, l_37, l_38, l_39, l_40, l_41, l_42, l_43, l_44, l_45, l_46, l_47, l_48, l_49, l_50, l_51, l_52, l_53, l_54, l_55, l_56, l_57, l_58, l_59, l_60, l_61, l_62, l_63, l_64, l_65, l_66, l_67, l_68, l_69, l_70, l_71, l_72, l_73, l_74, l_75, l_76, l_77, l_78, l_79, l_80, l_81, l_82, l_83, l_84, l_85, l_86, l_87, l_88, l_89, l_90, l_91, l_92, l_93, l_94, l_95, l_96, l_97, l_98, l_99, l_100, l_101, l_102, l_103, l_104, l_105, l_106, l_107, l_108, l_109, l_110, l_111, l_121, l_122, l_160, l_200, l_201, l_240, l_255, l_361, l_390, l_499, l_500, l_999, l_1000, l_10000, l_10099, l_12345, l_16383, l_20000, l_20033, l_20038, l_20124, l_100000, l_1000000, l_1103515245, ui_oi, ck_oi, sb, jc_e, bl_0, bl_1, le_oi, lt_oi, eq_oi, add_oi, mul_oi, div_oi, ir_oi, gi_e, gi_n, if_true, if_false, if_pos, if_neg, true_and, and_true, false_and, and_false, true_or, or_true, false_or, or_false, hV.n]) (d 0) 0 1000 (oi s) (by omega) (by omega) ⟨s, rfl, hs, Sub.rf, fun i j _ q => by omega, fun _ _ q => q, hU⟩
  exact ⟨t, ⟨i1, i2, i3, i4, fun _ => i5⟩, e1⟩
theorem c_rounds (hV : VL 0 M d c) (hF : FL 39 M d) (hW : WF d) : ∀ m v fu s, v + m = d 0 → m < fu → s < 2 ^ d 0 → Unk d s → ∃ t, F_X11_raftOf_L22 M fu (oi s) (oi v) = some (oi t) ∧ Chn d m s t := by
  have h0 := hW.1
  intro m
  induction m with
  | zero =>
    intro v fu s hv hf hs hU
    obtain ⟨fu', rfl⟩ : ∃ q, fu = q + 1 := ⟨fu - 1, by omega⟩
    refine ⟨s, ?_, rfl⟩
    rw [F_X11_raftOf_L22]
    simp (disch := omega) only [l_0, l_1, l_2, l_3, l_4, l_5, l_6, l_7, l_8, l_9, l_10, l_11, l_12, l_13, l_14, l_15, l_16, l_17, l_18, l_19, l_20, l_21, l_22, l_23, l_24, l_25, l_26, l_27, l_28, l_29, l_30, l_31, l_32, l_33, l_34, l_35, l_36, l_37, l_38, l_39, l_40, l_41, l_42, l_43, l_44, l_45, l_46, l_47, l_48, l_49, l_50, l_51, l_52, l_53, l_54, l_55, l_56, l_57, l_58, l_59, l_60, l_61, l_62, l_63, l_64, l_65, l_66, l_67, l_68, l_69, l_70, l_71, l_72, l_73, l_74, l_75, l_76, l_77, l_78, l_79, l_80, l_81, l_82, l_83, l_84, l_85, l_86, l_87, l_88, l_89, l_90, l_91, l_92, l_93, l_94, l_95, l_96, l_97, l_98, l_99, l_100, l_101, l_102, l_103, l_104, l_105, l_106, l_107, l_108, l_109, l_110, l_111, l_121, l_122, l_160, l_200, l_201, l_240, l_255, l_361, l_390, l_499, l_500, l_999, l_1000, l_10000, l_10099, l_12345, l_16383, l_20000, l_20033, l_20038, l_20124, l_100000, l_1000000, l_1103515245, ui_oi, ck_oi, sb, jc_e, bl_0, bl_1, le_oi, lt_oi, eq_oi, add_oi, mul_oi, div_oi, ir_oi, gi_e, gi_n, if_true, if_false, if_pos, if_neg, true_and, and_true, false_and, and_false, true_or, or_true, false_or, or_false, hV.n]
  | succ m ih =>
    intro v fu s hv hf hs hU
    obtain ⟨fu', rfl⟩ : ∃ q, fu = q + 1 := ⟨fu - 1, by omega⟩
    obtain ⟨s', g, e1⟩ := c_round (k22 := F_X11_raftOf_L22 M fu') hV hF hW hs hU (oi v)
    obtain ⟨t, e2, e3⟩ := ih (v + 1) fu' s' (by omega) (by omega) g.1 (g.2.2.2.2 hU)
    refine ⟨t, ?_, s', g, e3⟩
    rw [F_X11_raftOf_L22]
    simp (disch := omega) only [l_0, l_1, l_2, l_3, l_4, l_5, l_6, l_7, l_8, l_9, l_10, l_11, l_12, l_13, l_14, l_15, l_16, l_17, l_18, l_19, l_20, l_21, l_22, l_23, l_24, l_25, l_26, l_27, l_28, l_29, l_30, l_31, l_32, l_33, l_34, l_35, l_36, l_37, l_38, l_39, l_40, l_41, l_42, l_43, l_44, l_45, l_46, l_47, l_48, l_49, l_50, l_51, l_52, l_53, l_54, l_55, l_56, l_57, l_58, l_59, l_60, l_61, l_62, l_63, l_64, l_65, l_66, l_67, l_68, l_69, l_70, l_71, l_72, l_73, l_74, l_75, l_76, l_77, l_78, l_79, l_80, l_81, l_82, l_83, l_84, l_85, l_86, l_87, l_88, l_89, l_90, l_91, l_92, l_93, l_94, l_95, l_96, l_97, l_98, l_99, l_100, l_101, l_102, l_103, l_104, l_105, l_106, l_107, l_108, l_109, l_110, l_111, l_121, l_122, l_160, l_200, l_201, l_240, l_255, l_361, l_390, l_499, l_500, l_999, l_1000, l_10000, l_10099, l_12345, l_16383, l_20000, l_20033, l_20038, l_20124, l_100000, l_1000000, l_1103515245, ui_oi, ck_oi, sb, jc_e, bl_0, bl_1, le_oi, lt_oi, eq_oi, add_oi, mul_oi, div_oi, ir_oi, gi_e, gi_n, if_true, if_false, if_pos, if_neg, true_and, and_true, false_and, and_false, true_or, or_true, false_or, or_false, hV.n, e1, e2]
theorem r_cls (hR : RR N d) (hW : WF d) (hi : i < d 0) (hj : j < d 0) : (zcl d i j ∧ F_X12_isClose N (oi i) (oi j) = some (oi 1)) ∨ (¬ zcl d i j ∧ F_X12_isClose N (oi i) (oi j) = some (oi 0)) := by
  have h0 := hW.1
  have hb := hW.2.2.2.2.2.1
  have s1 := (hb i (by omega)).2.2.2.2.1
  have s2 := (hb j (by omega)).2.2.2.2.1
  have t1 := (hb i (by omega)).2.2.2.1
  have t2 := (hb j (by omega)).2.2.2.1
  have f1 := zFl_le hW (k := i) (by omega)
  have f2 := zFl_le hW (k := j) (by omega)
  have es1 := r_s hR (k := i) (by omega)
  have es2 := r_s hR (k := j) (by omega)
  have et1 := r_t hR (k := i) (by omega)
  have et2 := r_t hR (k := j) (by omega)
  have ef1 := r_fl hR hW (k := i) (by omega)
  have ef2 := r_fl hR hW (k := j) (by omega)
  unfold F_X12_isClose
  by_cases hz : zS d i + zS d j = 0
  · by_cases hT : zT d i = zT d j
    · refine Or.inl ⟨⟨by omega, by omega, Or.inl hT⟩, ?_⟩
      simp (disch := omega) only [l_0, l_1, l_2, l_3, l_4, l_5, l_6, l_7, l_8, l_9, l_10, l_11, l_12, l_13, l_14, l_15, l_16, l_17, l_18, l_19, l_20, l_21, l_22, l_23, l_24, l_25, l_26, l_27, l_28, l_29, l_30, l_31, l_32, l_33, l_34, l_35, l_36, l_37, l_38, l_39, l_40, l_41, l_42, l_43, l_44, l_45, l_46, l_47, l_48, l_49, l_50, l_51, l_52, l_53, l_54, l_55, l_56, l_57, l_58, l_59, l_60, l_61, l_62, l_63, l_64, l_65, l_66, l_67, l_68, l_69, l_70, l_71, l_72, l_73, l_74, l_75, l_76, l_77, l_78, l_79, l_80, l_81, l_82, l_83, l_84, l_85, l_86, l_87, l_88, l_89, l_90, l_91, l_92, l_93, l_94, l_95, l_96, l_97, l_98, l_99, l_100, l_101, l_102, l_103, l_104, l_105, l_106, l_107, l_108, l_109, l_110, l_111, l_121, l_122, l_160, l_200, l_201, l_240, l_255, l_361, l_390, l_499, l_500, l_999, l_1000, l_10000, l_10099, l_12345, l_16383, l_20000, l_20033, l_20038, l_20124, l_100000, l_1000000, l_1103515245, ui_oi, ck_oi, sb, jc_e, bl_0, bl_1, le_oi, lt_oi, eq_oi, add_oi, mul_oi, div_oi, ir_oi, gi_e, gi_n, if_true, if_false, if_pos, if_neg, true_and, and_true, false_and, and_false, true_or, or_true, false_or, or_false, es1, es2, et1, et2]
    · by_cases hL : zFl d i = zFl d j
      · refine Or.inl ⟨⟨by omega, by omega, Or.inr hL⟩, ?_⟩
        simp (disch := omega) only [l_0, l_1, l_2, l_3, l_4, l_5, l_6, l_7, l_8, l_9, l_10, l_11, l_12, l_13, l_14, l_15, l_16, l_17, l_18, l_19, l_20, l_21, l_22, l_23, l_24, l_25, l_26, l_27, l_28, l_29, l_30, l_31, l_32, l_33, l_34, l_35, l_36, l_37, l_38, l_39, l_40, l_41, l_42, l_43, l_44, l_45, l_46, l_47, l_48, l_49, l_50, l_51, l_52, l_53, l_54, l_55, l_56, l_57, l_58, l_59, l_60, l_61, l_62, l_63, l_64, l_65, l_66, l_67, l_68, l_69, l_70, l_71, l_72, l_73, l_74, l_75, l_76, l_77, l_78, l_79, l_80, l_81, l_82, l_83, l_84, l_85, l_86, l_87, l_88, l_89, l_90, l_91, l_92, l_93, l_94, l_95, l_96, l_97, l_98, l_99, l_100, l_101, l_102, l_103, l_104, l_105, l_106, l_107, l_108, l_109, l_110, l_111, l_121, l_122, l_160, l_200, l_201, l_240, l_255, l_361, l_390, l_499, l_500, l_999, l_1000, l_10000, l_10099, l_12345, l_16383, l_20000, l_20033, l_20038, l_20124, l_100000, l_1000000, l_1103515245, ui_oi, ck_oi, sb, jc_e, bl_0, bl_1, le_oi, lt_oi, eq_oi, add_oi, mul_oi, div_oi, ir_oi, gi_e, gi_n, if_true, if_false, if_pos, if_neg, true_and, and_true, false_and, and_false, true_or, or_true, false_or, or_false, es1, es2, et1, et2, ef1, ef2]
      · refine Or.inr ⟨fun q => q.2.2.elim hT hL, ?_⟩
        simp (disch := omega) only [l_0, l_1, l_2, l_3, l_4, l_5, l_6, l_7, l_8, l_9, l_10, l_11, l_12, l_13, l_14, l_15, l_16, l_17, l_18, l_19, l_20, l_21, l_22, l_23, l_24, l_25, l_26, l_27, l_28, l_29, l_30, l_31, l_32, l_33, l_34, l_35, l_36, l_37, l_38, l_39, l_40, l_41, l_42, l_43, l_44, l_45, l_46, l_47, l_48, l_49, l_50, l_51, l_52, l_53, l_54, l_55, l_56, l_57, l_58, l_59, l_60, l_61, l_62, l_63, l_64, l_65, l_66, l_67, l_68, l_69, l_70, l_71, l_72, l_73, l_74, l_75, l_76, l_77, l_78, l_79, l_80, l_81, l_82, l_83, l_84, l_85, l_86, l_87, l_88, l_89, l_90, l_91, l_92, l_93, l_94, l_95, l_96, l_97, l_98, l_99, l_100, l_101, l_102, l_103, l_104, l_105, l_106, l_107, l_108, l_109, l_110, l_111, l_121, l_122, l_160, l_200, l_201, l_240, l_255, l_361, l_390, l_499, l_500, l_999, l_1000, l_10000, l_10099, l_12345, l_16383, l_20000, l_20033, l_20038, l_20124, l_100000, l_1000000, l_1103515245, ui_oi, ck_oi, sb, jc_e, bl_0, bl_1, le_oi, lt_oi, eq_oi, add_oi, mul_oi, div_oi, ir_oi, gi_e, gi_n, if_true, if_false, if_pos, if_neg, true_and, and_true, false_and, and_false, true_or, or_true, false_or, or_false, es1, es2, et1, et2, ef1, ef2]
  · refine Or.inr ⟨fun q => by have := q.1; have := q.2.1; omega, ?_⟩
    simp (disch := omega) only [l_0, l_1, l_2, l_3, l_4, l_5, l_6, l_7, l_8, l_9, l_10, l_11, l_12, l_13, l_14, l_15, l_16, l_17, l_18, l_19, l_20, l_21, l_22, l_23, l_24, l_25, l_26, l_27, l_28, l_29, l_30, l_31, l_32, l_33, l_34, l_35, l_36, l_37, l_38, l_39, l_40, l_41, l_42, l_43, l_44, l_45, l_46, l_47, l_48, l_49, l_50, l_51, l_52, l_53, l_54, l_55, l_56, l_57, l_58, l_59, l_60, l_61, l_62, l_63, l_64, l_65, l_66, l_67, l_68, l_69, l_70, l_71, l_72, l_73, l_74, l_75, l_76, l_77, l_78, l_79, l_80, l_81, l_82, l_83, l_84, l_85, l_86, l_87, l_88, l_89, l_90, l_91, l_92, l_93, l_94, l_95, l_96, l_97, l_98, l_99, l_100, l_101, l_102, l_103, l_104, l_105, l_106, l_107, l_108, l_109, l_110, l_111, l_121, l_122, l_160, l_200, l_201, l_240, l_255, l_361, l_390, l_499, l_500, l_999, l_1000, l_10000, l_10099, l_12345, l_16383, l_20000, l_20033, l_20038, l_20124, l_100000, l_1000000, l_1103515245, ui_oi, ck_oi, sb, jc_e, bl_0, bl_1, le_oi, lt_oi, eq_oi, add_oi, mul_oi, div_oi, ir_oi, gi_e, gi_n, if_true, if_false, if_pos, if_neg, true_and, and_true, false_and, and_false, true_or, or_true, false_or, or_false, es1, es2]
/-- a row of the reference's round -/
theorem r_row {k29 : Int32 → Int32 → Option Int32} (hR : RR N d) (hW : WF d) (hk : k < d 0) (v3 : Int32) (hs : s < 2 ^ d 0) : ∃ t, t < 2 ^ d 0 ∧ Sub s t ∧ (s / 2 ^ k % 2 = 1 → ∀ j, j < d 0 → zcl d k j → t / 2 ^ j % 2 = 1) ∧ (∀ X, Cls d X → Sub s X → Sub t X) ∧ (Unk d s → Unk d t) ∧ F_X12_raftOf_L43 k29 N v3 (oi k) 1000 (oi s) (oi 0) = k29 (oi t) (oi (k + 1)) := by
  have h0 := hW.1
  have h64 := p2le h0
  obtain ⟨a', ⟨t, rfl, i1, i2, i3, i4, i5⟩, e1⟩ := lp_k (L := fun m a z => F_X12_raftOf_L43 k29 N v3 (oi k) m a z) (n := d 0) (I := fun l a => ∃ cur, a = oi cur ∧ cur < 2 ^ d 0 ∧ Sub s cur ∧ (s / 2 ^ k % 2 = 1 → ∀ j, j < l → zcl d k j → cur / 2 ^ j % 2 = 1) ∧ (∀ X, Cls d X → Sub s X → Sub cur X) ∧ (Unk d s → Unk d cur)) (R := fun a => k29 a (oi (k + 1))) (fun l m a hl hI => by
    obtain ⟨cur, rfl, i1, i2, i3, i4, i5⟩ := hI
    have hor := oor_all cur (by omega) (2 ^ l) (p6_lt l (by omega))
    have hor0 : oi cur ||| oi 0 = oi cur := by rw [oor_all cur (by omega) 0 (by omega), Nat.or_zero]
    have hsh := shb_all l (by omega)
    have hbit := bit_all cur (by omega) k (by omega)
    have hm2 : cur / 2 ^ k % 2 < 2 := Nat.mod_lt _ (by omega)
    have keep : (s / 2 ^ k % 2 = 1 → ¬ zcl d k l) → ∃ cur', oi cur = oi cur' ∧ cur' < 2 ^ d 0 ∧ Sub s cur' ∧ (s / 2 ^ k % 2 = 1 → ∀ j, j < l + 1 → zcl d k j → cur' / 2 ^ j % 2 = 1) ∧ (∀ X, Cls d X → Sub s X → Sub cur' X) ∧ (Unk d s → Unk d cur') := fun hno => ⟨cur, rfl, i1, i2, fun q1 j q2 q3 => by
      by_cases hjl : j = l
      · rw [hjl] at q3
        exact absurd q3 (hno q1)
      · exact i3 q1 j (by omega) q3, i4, i5⟩
    by_cases hin : cur / 2 ^ k % 2 = 1
    · rcases r_cls hR hW hk hl with ⟨q1, q2⟩ | ⟨q1, q2⟩
      · refine ⟨oi (cur ||| 2 ^ l), ⟨cur ||| 2 ^ l, rfl, Nat.or_lt_two_pow i1 (pwk_lt hl), i2.tr (Sub.inl (by omega) (p6_lt l (by omega))), fun a1 j a2 a3 => ?_, fun X hX hs => (i4 X hX hs).one (by omega) (by omega) (hX k l hk hl (i4 X hX hs k (by omega) hin) q1), fun hu i hi q => ?_⟩, ?_⟩
        · rw [obit_all cur (by omega) _ (p6_lt l (by omega)) j (by omega), pbit_all l (by omega) j (by omega)]
          by_cases hjl : j = l
          · exact Or.inr hjl
          · exact Or.inl (i3 a1 j (by omega) a3)
        · rw [obit_all cur (by omega) _ (p6_lt l (by omega)) i (by omega), pbit_all l (by omega) i (by omega)] at q
          rcases q with q | q
          · exact i5 hu i hi q
          · rw [q]
            exact q1.2.1
        · try dsimp only
          rw [F_X12_raftOf_L43]
          simp (disch := omega) only [l_0, l_1, l_2, l_3, l_4, l_5, l_6, l_7, l_8, l_9, l_10, l_11, l_12, l_13, l_14, l_15, l_16, l_17, l_18, l_19, l_20, l_21, l_22, l_23, l_24, l_25, l_26, l_27, l_28, l_29, l_30, l_31, l_32, l_33, l_34, l_35, l_36, l_37, l_38, l_39, l_40, l_41, l_42, l_43, l_44, l_45, l_46, l_47, l_48, l_49, l_50, l_51, l_52, l_53, l_54, l_55, l_56, l_57, l_58, l_59, l_60, l_61, l_62, l_63, l_64, l_65, l_66, l_67, l_68, l_69, l_70, l_71, l_72, l_73, l_74, l_75, l_76, l_77, l_78, l_79, l_80, l_81, l_82, l_83, l_84, l_85, l_86, l_87, l_88, l_89, l_90, l_91, l_92, l_93, l_94, l_95, l_96, l_97, l_98, l_99, l_100, l_101, l_102, l_103, l_104, l_105, l_106, l_107, l_108, l_109, l_110, l_111, l_121, l_122, l_160, l_200, l_201, l_240, l_255, l_361, l_390, l_499, l_500, l_999, l_1000, l_10000, l_10099, l_12345, l_16383, l_20000, l_20033, l_20038, l_20124, l_100000, l_1000000, l_1103515245, ui_oi, ck_oi, sb, jc_e, bl_0, bl_1, le_oi, lt_oi, eq_oi, add_oi, mul_oi, div_oi, ir_oi, gi_e, gi_n, if_true, if_false, if_pos, if_neg, true_and, and_true, false_and, and_false, true_or, or_true, false_or, or_false, hR.g, hbit, hin, q2, hsh, hor]
      · refine ⟨oi cur, keep (fun _ => q1), ?_⟩
        try dsimp only
        rw [F_X12_raftOf_L43]
        simp (disch := omega) only [l_0, l_1, l_2, l_3, l_4, l_5, l_6, l_7, l_8, l_9, l_10, l_11, l_12, l_13, l_14, l_15, l_16, l_17, l_18, l_19, l_20, l_21, l_22, l_23, l_24, l_25, l_26, l_27, l_28, l_29, l_30, l_31, l_32, l_33, l_34, l_35, l_36, l_37, l_38, l_39, l_40, l_41, l_42, l_43, l_44, l_45, l_46, l_47, l_48, l_49, l_50, l_51, l_52, l_53, l_54, l_55, l_56, l_57, l_58, l_59, l_60, l_61, l_62, l_63, l_64, l_65, l_66, l_67, l_68, l_69, l_70, l_71, l_72, l_73, l_74, l_75, l_76, l_77, l_78, l_79, l_80, l_81, l_82, l_83, l_84, l_85, l_86, l_87, l_88, l_89, l_90, l_91, l_92, l_93, l_94, l_95, l_96, l_97, l_98, l_99, l_100, l_101, l_102, l_103, l_104, l_105, l_106, l_107, l_108, l_109, l_110, l_111, l_121, l_122, l_160, l_200, l_201, l_240, l_255, l_361, l_390, l_499, l_500, l_999, l_1000, l_10000, l_10099, l_12345, l_16383, l_20000, l_20033, l_20038, l_20124, l_100000, l_1000000, l_1103515245, ui_oi, ck_oi, sb, jc_e, bl_0, bl_1, le_oi, lt_oi, eq_oi, add_oi, mul_oi, div_oi, ir_oi, gi_e, gi_n, if_true, if_false, if_pos, if_neg, true_and, and_true, false_and, and_false, true_or, or_true, false_or, or_false, hR.g, hbit, hin, q2, hor0]
    · have hz0 : cur / 2 ^ k % 2 = 0 := by omega
      refine ⟨oi cur, keep (fun q => absurd (i2 k (by omega) q) hin), ?_⟩
      try dsimp only
      rw [F_X12_raftOf_L43]
      simp (disch := omega) only [l_0, l_1, l_2, l_3, l_4, l_5, l_6, l_7, l_8, l_9, l_10, l_11, l_12, l_13, l_14, l_15, l_16, l_17, l_18, l_19, l_20, l_21, l_22, l_23, l_24, l_25, l_26, l_27, l_28, l_29, l_30, l_31, l_32, l_33, l_34, l_35, l_36, l_37, l_38, l_39, l_40, l_41, l_42, l_43, l_44, l_45, l_46, l_47, l_48, l_49, l_50, l_51, l_52, l_53, l_54, l_55, l_56, l_57, l_58, l_59, l_60, l_61, l_62, l_63, l_64, l_65, l_66, l_67, l_68, l_69, l_70, l_71, l_72, l_73, l_74, l_75, l_76, l_77, l_78, l_79, l_80, l_81, l_82, l_83, l_84, l_85, l_86, l_87, l_88, l_89, l_90, l_91, l_92, l_93, l_94, l_95, l_96, l_97, l_98, l_99, l_100, l_101, l_102, l_103, l_104, l_105, l_106, l_107, l_108, l_109, l_110, l_111, l_121, l_122, l_160, l_200, l_201, l_240, l_255, l_361, l_390, l_499, l_500, l_999, l_1000, l_10000, l_10099, l_12345, l_16383, l_20000, l_20033, l_20038, l_20124, l_100000, l_1000000, l_1103515245, ui_oi, ck_oi, sb, jc_e, bl_0, bl_1, le_oi, lt_oi, eq_oi, add_oi, mul_oi, div_oi, ir_oi, gi_e, gi_n, if_true, if_false, if_pos, if_neg, true_and, and_true, false_and, and_false, true_or, or_true, false_or, or_false, hR.g, hbit, hz0, hor0]) (fun m a hI => by
    try dsimp only
    rw [F_X12_raftOf_L43]
    simp (disch := omega) only [l_0, l_1, l_2, l_3, l_4, l_5, l_6, l_7, l_8, l_9, l_10, l_11, l_12, l_13, l_14, l_15, l_16, l_17, l_18, l_19, l_20, l_21, l_22, l_23, l_24, l_25, l_26, l_27, l_28, l_29, l_30, l_31, l_32, l_33, l_34, l_35, l_36, l_37, l_38, l_39, l_40, l_41, l_42, l_43, l_44, l_45, l_46, l_47, l_48, l_49, l_50, l_51, l_52, l_53, l_54, l_55, l_56, l_57, l_58, l_59, l_60, l_61, l_62, l_63, l_64, l_65, l_66, l_67, l_68, l_69, l_70, l_71, l_72, l_73, l_74, l_75, l_76, l_77, l_78, l_79, l_80, l_81, l_82, l_83, l_84, l_85, l_86, l_87, l_88, l_89, l_90, l_91, l_92, l_93, l_94, l_95, l_96, l_97, l_98, l_99, l_100, l_101, l_102, l_103, l_104, l_105, l_106, l_107, l_108, l_109, l_110, l_111, l_121, l_122, l_160, l_200, l_201, l_240, l_255, l_361, l_390, l_499, l_500, l_999, l_1000, l_10000, l_10099, l_12345, l_16383, l_20000, l_20033, l_20038, l_20124, l_100000, l_1000000, l_1103515245, ui_oi, ck_oi, sb, jc_e, bl_0, bl_1, le_oi, lt_oi, eq_oi, add_oi, mul_oi, div_oi, ir_oi, gi_e, gi_n, if_true, if_false, if_pos, if_neg, true_and, and_true, false_and, and_false, true_or, or_true, false_or, or_false, hR.g]) (d 0) 0 1000 (oi s) (by omega) (by omega) ⟨s, rfl, hs, Sub.rf, fun _ j q => by omega, fun _ _ q => q, fun q => q⟩
  exact ⟨t, i1, i2, i3, i4, i5, e1⟩
theorem r_round {k20 : Int32 → Int32 → Option Int32} (hR : RR N d) (hW : WF d) (hs : s < 2 ^ d 0) (v3 : Int32) : ∃ t, Gr d s t ∧ F_X12_raftOf_L29 k20 N v3 1000 (oi s) (oi 0) = k20 (oi t) (v3 + oi 1) := by
  have h0 := hW.1
  have h64 := p2le h0
  obtain ⟨a', ⟨t, rfl, i1, i2, i3, i4, i5⟩, e1⟩ := lp_k (L := fun m a z => F_X12_raftOf_L29 k20 N v3 m a z) (n := d 0) (I := fun k a => ∃ cur, a = oi cur ∧ cur < 2 ^ d 0 ∧ Sub s cur ∧ (∀ i j, i < k → j < d 0 → s / 2 ^ i % 2 = 1 → zcl d i j → cur / 2 ^ j % 2 = 1) ∧ (∀ X, Cls d X → Sub s X → Sub cur X) ∧ (Unk d s → Unk d cur)) (R := fun a => k20 a (v3 + oi 1)) (fun k m a hk hI => by
    obtain ⟨cur, rfl, i1, i2, i3, i4, i5⟩ := hI
    obtain ⟨t, t1, t2, t3, t4, t5, t6⟩ := r_row (k29 := F_X12_raftOf_L29 k20 N v3 m) hR hW hk v3 i1
    refine ⟨oi t, ⟨t, rfl, t1, i2.tr t2, fun i j a1 a2 a3 a4 => ?_, fun X hX hs => t4 X hX (i4 X hX hs), fun hu => t5 (i5 hu)⟩, ?_⟩
    · by_cases hik : i = k
      · subst hik
        exact t3 (i2 i (by omega) a3) j a2 a4
      · exact t2 j (by omega) (i3 i j (by omega) a2 a3 a4)
    · try dsimp only
      rw [F_X12_raftOf_L29]
      simp (disch := omega) only [l_0, l_1, l_2, l_3, l_4, l_5, l_6, l_7, l_8, l_9, l_10, l_11, l_12, l_13, l_14, l_15, l_16, l_17, l_18, l_19, l_20, l_21, l_22, l_23, l_24, l_25, l_26, l_27, l_28, l_29, l_30, l_31, l_32, l_33, l_34, l_35, l_36, l_37, l_38, l_39, l_40, l_41, l_42, l_43, l_44, l_45, l_46, l_47, l_48, l_49, l_50, l_51, l_52, l_53, l_54, l_55, l_56, l_57, l_58, l_59, l_60, l_61, l_62, l_63, l_64, l_65, l_66, l_67, l_68, l_69, l_70, l_71, l_72, l_73, l_74, l_75, l_76, l_77, l_78, l_79, l_80, l_81, l_82, l_83, l_84, l_85, l_86, l_87, l_88, l_89, l_90, l_91, l_92, l_93, l_94, l_95, l_96, l_97, l_98, l_99, l_100, l_101, l_102, l_103, l_104, l_105, l_106, l_107, l_108, l_109, l_110, l_111, l_121, l_122, l_160, l_200, l_201, l_240, l_255, l_361, l_390, l_499, l_500, l_999, l_1000, l_10000, l_10099, l_12345, l_16383, l_20000, l_20033, l_20038, l_20124, l_100000, l_1000000, l_1103515245, ui_oi, ck_oi, sb, jc_e, bl_0, bl_1, le_oi, lt_oi, eq_oi, add_oi, mul_oi, div_oi, ir_oi, gi_e, gi_n, if_true, if_false, if_pos, if_neg, true_and, and_true, false_and, and_false, true_or, or_true, false_or, or_false, hR.g, t6]) (fun m a hI => by
    try dsimp only
    rw [F_X12_raftOf_L29]
    simp (disch := omega) only [l_0, l_1, l_2, l_3, l_4, l_5, l_6, l_7, l_8, l_9, l_10, l_11, l_12, l_13, l_14, l_15, l_16, l_17, l_18, l_19, l_20, l_21, l_22, l_23, l_24, l_25, l_26, l_27, l_28, l_29, l_30, l_31, l_32, l_33, l_34, l_35, l_36, l_37, l_38, l_39, l_40, l_41, l_42, l_43, l_44, l_45, l_46, l_47, l_48, l_49, l_50, l_51, l_52, l_53, l_54, l_55, l_56, l_57, l_58, l_59, l_60, l_61, l_62, l_63, l_64, l_65, l_66, l_67, l_68, l_69, l_70, l_71, l_72, l_73, l_74, l_75, l_76, l_77, l_78, l_79, l_80, l_81, l_82, l_83, l_84, l_85, l_86, l_87, l_88, l_89, l_90, l_91, l_92, l_93, l_94, l_95, l_96, l_97, l_98, l_99, l_100, l_101, l_102, l_103, l_104, l_105, l_106, l_107, l_108, l_109, l_110, l_111, l_121, l_122, l_160, l_200, l_201, l_240, l_255, l_361, l_390, l_499, l_500, l_999, l_1000, l_10000, l_10099, l_12345, l_16383, l_20000, l_20033, l_20038, l_20124, l_100000, l_1000000, l_1103515245, ui_oi, ck_oi, sb, jc_e, bl_0, bl_1, le_oi, lt_oi, eq_oi, add_oi, mul_oi, div_oi, ir_oi, gi_e, gi_n, if_true, if_false, if_pos, if_neg, true_and, and_true, false_and, and_false, true_or, or_true, false_or, or_false, hR.g]) (d 0) 0 1000 (oi s) (by omega) (by omega) ⟨s, rfl, hs, Sub.rf, fun i j q => by omega, fun _ _ q => q, fun q => q⟩
  exact ⟨t, ⟨i1, i2, i3, i4, i5⟩, e1⟩
theorem r_rounds (hR : RR N d) (hW : WF d) : ∀ m v fu s, v + m = 6 → m < fu → s < 2 ^ d 0 → ∃ t, F_X12_raftOf_L20 N fu (oi s) (oi v) = some (oi t) ∧ Chn d m s t := by
  intro m
  induction m with
  | zero =>
    intro v fu s hv hf hs
    obtain ⟨fu', rfl⟩ : ∃ q, fu = q + 1 := ⟨fu - 1, by omega⟩
    refine ⟨s, ?_, rfl⟩
    rw [F_X12_raftOf_L20]
    simp (disch := omega) only [l_0, l_1, l_2, l_3, l_4, l_5, l_6, l_7, l_8, l_9, l_10, l_11, l_12, l_13, l_14, l_15, l_16, l_17, l_18, l_19, l_20, l_21, l_22, l_23, l_24, l_25, l_26, l_27, l_28, l_29, l_30, l_31, l_32, l_33, l_34, l_35, l_36, l_37, l_38, l_39, l_40, l_41, l_42, l_43, l_44, l_45, l_46, l_47, l_48, l_49, l_50, l_51, l_52, l_53, l_54, l_55, l_56, l_57, l_58, l_59, l_60, l_61, l_62, l_63, l_64, l_65, l_66, l_67, l_68, l_69, l_70, l_71, l_72, l_73, l_74, l_75, l_76, l_77, l_78, l_79, l_80, l_81, l_82, l_83, l_84, l_85, l_86, l_87, l_88, l_89, l_90, l_91, l_92, l_93, l_94, l_95, l_96, l_97, l_98, l_99, l_100, l_101, l_102, l_103, l_104, l_105, l_106, l_107, l_108, l_109, l_110, l_111, l_121, l_122, l_160, l_200, l_201, l_240, l_255, l_361, l_390, l_499, l_500, l_999, l_1000, l_10000, l_10099, l_12345, l_16383, l_20000, l_20033, l_20038, l_20124, l_100000, l_1000000, l_1103515245, ui_oi, ck_oi, sb, jc_e, bl_0, bl_1, le_oi, lt_oi, eq_oi, add_oi, mul_oi, div_oi, ir_oi, gi_e, gi_n, if_true, if_false, if_pos, if_neg, true_and, and_true, false_and, and_false, true_or, or_true, false_or, or_false, ]
  | succ m ih =>
    intro v fu s hv hf hs
    obtain ⟨fu', rfl⟩ : ∃ q, fu = q + 1 := ⟨fu - 1, by omega⟩
    obtain ⟨s', g, e1⟩ := r_round (k20 := F_X12_raftOf_L20 N fu') hR hW hs (oi v)
    obtain ⟨t, e2, e3⟩ := ih (v + 1) fu' s' (by omega) (by omega) g.1
    refine ⟨t, ?_, s', g, e3⟩
    rw [F_X12_raftOf_L20]
    simp (disch := omega) only [l_0, l_1, l_2, l_3, l_4, l_5, l_6, l_7, l_8, l_9, l_10, l_11, l_12, l_13, l_14, l_15, l_16, l_17, l_18, l_19, l_20, l_21, l_22, l_23, l_24, l_25, l_26, l_27, l_28, l_29, l_30, l_31, l_32, l_33, l_34, l_35, l_36, l_37, l_38, l_39, l_40, l_41, l_42, l_43, l_44, l_45, l_46, l_47, l_48, l_49, l_50, l_51, l_52, l_53, l_54, l_55, l_56, l_57, l_58, l_59, l_60, l_61, l_62, l_63, l_64, l_65, l_66, l_67, l_68, l_69, l_70, l_71, l_72, l_73, l_74, l_75, l_76, l_77, l_78, l_79, l_80, l_81, l_82, l_83, l_84, l_85, l_86, l_87, l_88, l_89, l_90, l_91, l_92, l_93, l_94, l_95, l_96, l_97, l_98, l_99, l_100, l_101, l_102, l_103, l_104, l_105, l_106, l_107, l_108, l_109, l_110, l_111, l_121, l_122, l_160, l_200, l_201, l_240, l_255, l_361, l_390, l_499, l_500, l_999, l_1000, l_10000, l_10099, l_12345, l_16383, l_20000, l_20033, l_20038, l_20124, l_100000, l_1000000, l_1103515245, ui_oi, ck_oi, sb, jc_e, bl_0, bl_1, le_oi, lt_oi, eq_oi, add_oi, mul_oi, div_oi, ir_oi, gi_e, gi_n, if_true, if_false, if_pos, if_neg, true_and, and_true, false_and, and_false, true_or, or_true, false_or, or_false, e1, e2]
end RF

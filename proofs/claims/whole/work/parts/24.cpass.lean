/-! A TIDE IN THE CLASS -/
def Wc (w : Nat) : Prop := w = 39 ∨ w = 1 ∨ w = 77 ∨ w = 80 ∨ w = 83 ∨ w = 86 ∨ w = 89
def Vc : List Nat := [33, 34, 35, 36, 37, 38, 42, 43, 44, 45, 46, 50, 51, 52, 53]
def Sd (d d' : Nat → Nat) : Prop := ∀ j, j ≠ 1 → j ≠ 3 → j ≠ 4 → (∀ k, k < 6 → j ≠ 36 + 5 * k ∧ j ≠ 37 + 5 * k ∧ j ≠ 39 + 5 * k) → d' j = d j
theorem VL.oc {a : Nat} {M M' : Mm} {d : Nat → Nat} {c : Cnd} {S : List Nat} (h : VL a M d c) (hO : Oc S M M') (hS : ∀ x, x ∈ Vc → x + a ∉ S) : VL a M' d c := by
  have e : ∀ x, x ∈ Vc → ∀ j, gi M' (x + a) j = gi M (x + a) j := fun x hx j => hO.g (hS x hx)
  have e2 : ∀ x, x ∈ Vc → gi M' (x + a) = gi M (x + a) := fun x hx => funext (e x hx)
  unfold VL at h ⊢
  rw [e2 33 (by decide), e2 34 (by decide), e2 35 (by decide), e2 36 (by decide), e2 37 (by decide), e2 38 (by decide), e2 42 (by decide), e2 43 (by decide), e2 44 (by decide), e2 45 (by decide), e2 46 (by decide), e2 50 (by decide), e2 51 (by decide), e2 52 (by decide), e2 53 (by decide)]
  exact h
theorem VL.sd {a : Nat} {M : Mm} {d d' : Nat → Nat} {c : Cnd} (h : VL a M d c) (hS : Sd d d') : VL a M d' c := by
  have e0 := hS 0 (by omega) (by omega) (by omega) (fun k _ => by omega)
  have e2 := hS 2 (by omega) (by omega) (by omega) (fun k _ => by omega)
  have e5 := hS 5 (by omega) (by omega) (by omega) (fun k _ => by omega)
  have e6 := hS 6 (by omega) (by omega) (by omega) (fun k _ => by omega)
  have ek : ∀ k, zK d' k = zK d k := fun k => hS (35 + 5 * k) (by omega) (by omega) (by omega) (fun k _ => by omega)
  have et : ∀ k, zT d' k = zT d k := fun k => hS (38 + 5 * k) (by omega) (by omega) (by omega) (fun k _ => by omega)
  have er : ∀ j, (5 ≤ j ∧ j < 35) ∨ 65 ≤ j → d' j = d j := fun j hj => hS j (by omega) (by omega) (by omega) (fun k _ => by omega)
  obtain ⟨h1, h2, h3, h4, h7, h8, h9, h10, h11, cs, h12, h13, h14⟩ := h
  refine ⟨by rw [e0]; exact h1, by rw [e2]; exact h2, by rw [e6]; exact h3, fun k hk => by rw [ek, et]; exact h4 k hk, fun t ht => by rw [er _ (by omega)]; exact h7 t ht, fun f hf => by rw [er _ (by omega), er _ (by omega)]; exact h8 f hf, fun r hr => by rw [er _ (by omega), er _ (by omega), er _ (by omega), er _ (by omega)]; exact h9 r hr, by rw [e5]; exact h10, fun r hr => ?_, cs, h12, h13, by rw [e5]; exact h14⟩
  rw [e5] at hr
  rw [er _ (by omega), er _ (by omega)]
  exact h11 r hr
theorem Wc_V {w : Nat} (hw : Wc w) : ∀ x, x ∈ Vc → x + 0 ∉ [w, w + 1, w + 2, 47] := by
  rcases hw with rfl | rfl | rfl | rfl | rfl | rfl | rfl <;> decide
theorem Sd.o {d d1 : Nat → Nat} {j : Nat} (h : Sd d d1) (hj : j = 0 ∨ j = 2 ∨ (5 ≤ j ∧ j < 36) ∨ 65 ≤ j) : d1 j = d j := h j (by omega) (by omega) (by omega) (fun k _ => by omega)
theorem Sd.k {d d1 : Nat → Nat} (h : Sd d d1) (k : Nat) : zK d1 k = zK d k := h (35 + 5 * k) (by omega) (by omega) (by omega) (fun k _ => by omega)
theorem Sd.t {d d1 : Nat → Nat} (h : Sd d d1) (k : Nat) : zT d1 k = zT d k := h (38 + 5 * k) (by omega) (by omega) (by omega) (fun k _ => by omega)
section ZZ
variable {d : Nat → Nat} {c : Cnd} {k j a n : Nat}
theorem zLe_f (k n : Nat) : zF (zLe d n) k = if k < n then zF d k - zLs d k else zF d k := by
  unfold zF zLe
  have e : (36 + 5 * k - 36) / 5 = k := by omega
  by_cases h : k < n
  · rw [if_pos (by omega), if_pos h, e]
  · rw [if_neg (by omega), if_neg h]
theorem zLe_o {j : Nat} (h : (j - 36) % 5 ≠ 0 ∨ j < 36) : zLe d n j = d j := by
  unfold zLe
  rw [if_neg (by omega)]
theorem zU_e {v : Nat} : zU d j v j = v := if_pos rfl
theorem zU_n {v i : Nat} (h : i ≠ j) : zU d j v i = d i := if_neg h
theorem zAd_sd (ha : a ≤ 6) : Sd d (zAd d c a) := by
  intro j h1 h3 h4 hk
  unfold zAd zDd
  have q := hk (a - 1)
  repeat' split
  all_goals first | rfl | skip
  · exact zU_n (by have := q (by omega); omega)
  · rw [zU_n (by have := q (by omega); omega), zU_n (by have := q (by omega); omega)]
theorem zLe_sd (hn : n ≤ 6) : Sd d (zLe d n) := by
  intro j h1 h3 h4 hk
  unfold zLe
  rw [if_neg]
  intro q
  have := hk ((j - 36) / 5) (by omega)
  omega
theorem Sd.tr {d1 d2 : Nat → Nat} (h1 : Sd d d1) (h2 : Sd d1 d2) : Sd d d2 := fun j a1 a3 a4 ak => (h2 j a1 a3 a4 ak).trans (h1 j a1 a3 a4 ak)
theorem zN_sd (ha : a ≤ 6) (h0 : d 0 ≤ 6) : Sd d (zN d c a) := by
  refine (zAd_sd (c := c) ha).tr ((zLe_sd (n := d 0) h0).tr ?_)
  intro j h1 h3 h4 hk
  unfold zN zE
  rw [zU_n h1, zU_n h3]
theorem zAd_1 (ha : a ≤ 6) : zAd d c a 1 = d 1 := by
  unfold zAd zDd
  repeat' split
  all_goals first | rfl | skip
  · exact zU_n (by omega)
  · rw [zU_n (by omega), zU_n (by omega)]
theorem zAd_3 (ha : a ≤ 6) : zAd d c a 3 = d 3 := by
  unfold zAd zDd
  repeat' split
  all_goals first | rfl | skip
  · exact zU_n (by omega)
  · rw [zU_n (by omega), zU_n (by omega)]
theorem zAd_4 (ha : a ≤ 6) : zAd d c a 4 = d 4 := by
  unfold zAd zDd
  repeat' split
  all_goals first | rfl | skip
  · exact zU_n (by omega)
  · rw [zU_n (by omega), zU_n (by omega)]
/-- the bounds of a barrel's numbers behind an act -/
theorem zAd_b (hW : WF d) (ha : a ≤ d 0) : WFb (zAd d c a) := by
  obtain ⟨h0, h1, h2, h5, h6, hb, hw⟩ := id hW
  intro k hk
  have hS : Sd d (zAd d c a) := zAd_sd (by omega)
  obtain ⟨b1, b2, b3, b4, b5, b6⟩ := hb k hk
  rw [hS.k, hS.t, hS.o (j := 0) (by omega)]
  refine ⟨b1, ?_, ?_, b4, ?_, ?_⟩
  · unfold zAd zDd zF
    unfold zF at b2
    repeat' split
    all_goals first | exact b2 | skip
    · rw [zU_n (by omega)]
      exact b2
    · unfold zU
      repeat' split
      all_goals omega
  · unfold zAd zDd zC
    unfold zC at b3
    repeat' split
    all_goals first | exact b3 | skip
    · rw [zU_n (by omega)]
      exact b3
    · unfold zU
      repeat' split
      all_goals omega
  · unfold zAd zDd zS
    unfold zS at b5
    repeat' split
    all_goals first | exact b5 | skip
    · unfold zU
      split <;> omega
    · rw [zU_n (by omega), zU_n (by omega)]
      exact b5
  · intro hd
    have b6 := b6 hd
    unfold zAd zDd zS
    unfold zS at b6
    repeat' split
    all_goals first | exact b6 | skip
    · rw [zU_n (by omega)]
      exact b6
    · rw [zU_n (by omega), zU_n (by omega)]
      exact b6
theorem WFw.sd {d1 : Nat → Nat} (h : WFw d) (hS : Sd d d1) : WFw d1 := by
  obtain ⟨q1, q2, q3, q4⟩ := h
  refine ⟨fun t ht => by rw [hS.o (by omega)]; exact q1 t ht, fun f hf => by rw [hS.o (by omega), hS.o (by omega)]; exact q2 f hf, fun r hr => by rw [hS.o (by omega), hS.o (by omega), hS.o (by omega), hS.o (by omega)]; exact q3 r hr, fun r hr => ?_⟩
  rw [hS.o (j := 5) (by omega)] at hr
  rw [hS.o (by omega), hS.o (by omega)]
  exact q4 r hr
theorem zAd_w (hW : WF d) (ha : a ≤ d 0) : WF (zAd d c a) := by
  obtain ⟨h0, h1, h2, h5, h6, hb, hw⟩ := id hW
  have hS : Sd d (zAd d c a) := zAd_sd (by omega)
  refine ⟨by rw [hS.o (by omega)]; exact h0, by rw [zAd_1 (by omega), hS.o (by omega)]; exact h1, by rw [hS.o (by omega)]; exact h2, by rw [hS.o (by omega)]; exact h5, by rw [hS.o (by omega)]; exact h6, zAd_b hW ha, hw.sd hS⟩
theorem zLe_s (k n : Nat) : zS (zLe d n) k = zS d k := zLe_o (by omega)
theorem zLe_c (k n : Nat) : zC (zLe d n) k = zC d k := zLe_o (by omega)
theorem zN_f (k : Nat) : zF (zN d c a) k = zF (zE d c a) k := by
  unfold zN zF
  rw [zU_n (by omega), zU_n (by omega)]
theorem zN_c (k : Nat) : zC (zN d c a) k = zC (zAd d c a) k := by
  unfold zN zE
  refine Eq.trans ?_ (zLe_c k (d 0))
  unfold zC
  rw [zU_n (by omega), zU_n (by omega)]
theorem zN_s (k : Nat) : zS (zN d c a) k = zS (zAd d c a) k := by
  unfold zN zE
  refine Eq.trans ?_ (zLe_s k (d 0))
  unfold zS
  rw [zU_n (by omega), zU_n (by omega)]
theorem zN_bi : zBi (zN d c a) = zBi (zAd d c a) := by
  unfold zBi
  simp only [zN_s]
theorem zN_1 : zN d c a 1 = d 1 + 1 := zU_e
theorem zN_3 : zN d c a 3 = d 3 + zWo d c a := by
  unfold zN
  rw [zU_n (by omega), zU_e]
theorem zN_4 (ha : a ≤ 6) : zN d c a 4 = d 4 := by
  unfold zN zE
  rw [zU_n (by omega), zU_n (by omega), zLe_o (by omega), zAd_4 ha]
theorem zN_w (hW : WF d) (ha : a ≤ d 0) (ht : d 1 < d 2) : WF (zN d c a) := by
  have hA := zAd_w (c := c) hW ha
  obtain ⟨h0, h1, h2, h5, h6, hb, hw⟩ := id hW
  have hS : Sd d (zN d c a) := zN_sd (by omega) h0
  refine ⟨by rw [hS.o (by omega)]; exact h0, by rw [zN_1, hS.o (by omega)]; omega, by rw [hS.o (by omega)]; exact h2, by rw [hS.o (by omega)]; exact h5, by rw [hS.o (by omega)]; exact h6, ?_, hw.sd hS⟩
  intro k hk
  obtain ⟨b1, b2, b3, b4, b5, b6⟩ := hA.2.2.2.2.2.1 k hk
  have hSA : Sd d (zAd d c a) := zAd_sd (by omega)
  rw [hS.k, hS.t, zN_c, zN_s, zN_f, hS.o (j := 0) (by omega)]
  rw [hSA.k, hSA.t, hSA.o (j := 0) (by omega)] at *
  refine ⟨b1, ?_, b3, b4, b5, b6⟩
  unfold zE
  rw [zLe_f]
  split <;> omega
theorem zAw_le (hW : WF d) (ha : a ≤ d 0) : zAw d c a ≤ 14 := by
  unfold zAw zDw
  have := hW.1
  repeat' split
  all_goals first | omega | skip
  exact zPy_le (hW.2.2.2.2.2.1 (a - 1) (by omega)).2.1
theorem zHe_le (hW : WF d) (ha : a ≤ d 0) {k : Nat} (hk : k < 6) : zHe (zE d c a) k ≤ 3 := by
  obtain ⟨b1, b2, b3, b4, b5, b6⟩ := (zAd_b (c := c) hW ha) k hk
  unfold zHe zE
  rw [zLe_s, zLe_f]
  have e : (if k < d 0 then zF (zAd d c a) k - zLs (zAd d c a) k else zF (zAd d c a) k) / 30 ≤ 3 := by
    split <;> omega
  have := Nat.mul_le_mul b5 e
  omega
theorem zWo_le (hW : WF d) (ha : a ≤ d 0) : zWo d c a ≤ 32 := by
  have h1 := zAw_le (c := c) hW ha
  have h0 := hW.1
  have h2 : zSum (zHe (zE d c a)) (d 0) ≤ d 0 * 3 := zSum_le (fun k hk => zHe_le hW ha (by omega))
  unfold zWo
  omega
theorem zRa_le : zRa d c ≤ d 0 := by
  have h : ∀ m k, k + m = d 0 → zRaF d c m k ≤ d 0 := by
    intro m
    induction m with
    | zero =>
      intro k _
      exact Nat.zero_le _
    | succ m ih =>
      intro k hk
      unfold zRaF
      split
      · omega
      · exact ih (k + 1) (by omega)
  exact h (d 0) 0 (by omega)
end ZZ
section CP
variable {M : Mm} {d : Nat → Nat} {c : Cnd} {w k t f r a : Nat}
theorem c_un {kd rk : Nat} (h : kd ≤ 5) (h2 : rk ≤ 5) : F_X0_isUnder M (oi kd) (oi rk) = some (oi (if rk = 0 ∨ rk = kd ∨ rk = zAb kd then 1 else 0)) := by
  have := zAb_le kd
  unfold F_X0_isUnder
  by_cases h1 : rk = 0
  · simp (disch := omega) only [l_0, l_1, l_2, l_3, l_4, l_5, l_6, l_7, l_8, l_9, l_10, l_11, l_12, l_13, l_14, l_15, l_16, l_17, l_18, l_19, l_20, l_21, l_22, l_23, l_24, l_25, l_26, l_27, l_28, l_29, l_30, l_31, l_32, l_33, l_34, l_35, l_36, l_37, l_38, l_39, l_40, l_41, l_42, l_43, l_44, l_45, l_46, l_47, l_48, l_49, l_50, l_51, l_52, l_53, l_54, l_55, l_56, l_57, l_58, l_59, l_60, l_61, l_62, l_63, l_64, l_65, l_66, l_67, l_68, l_69, l_70, l_71, l_72, l_73, l_74, l_75, l_76, l_77, l_78, l_79, l_80, l_81, l_82, l_83, l_84, l_85, l_86, l_87, l_88, l_89, l_90, l_91, l_92, l_93, l_94, l_95, l_96, l_97, l_98, l_99, l_100, l_101, l_102, l_103, l_104, l_105, l_106, l_107, l_108, l_109, l_110, l_111, l_121, l_122, l_160, l_200, l_201, l_240, l_255, l_361, l_390, l_499, l_500, l_999, l_1000, l_10000, l_10099, l_12345, l_16383, l_20000, l_20033, l_20038, l_20124, l_100000, l_1000000, l_1103515245, ui_oi, ck_oi, sb, jc_e, bl_0, bl_1, le_oi, lt_oi, eq_oi, add_oi, mul_oi, div_oi, ir_oi, gi_e, gi_n, if_true, if_false, if_pos, if_neg, true_and, and_true, false_and, and_false, true_or, or_true, false_or, or_false, zab_g h]
  · by_cases h3 : rk = kd
    · simp (disch := omega) only [l_0, l_1, l_2, l_3, l_4, l_5, l_6, l_7, l_8, l_9, l_10, l_11, l_12, l_13, l_14, l_15, l_16, l_17, l_18, l_19, l_20, l_21, l_22, l_23, l_24, l_25, l_26, l_27, l_28, l_29, l_30, l_31, l_32, l_33, l_34, l_35, l_36, l_37, l_38, l_39, l_40, l_41, l_42, l_43, l_44, l_45, l_46, l_47, l_48, l_49, l_50, l_51, l_52, l_53, l_54, l_55, l_56, l_57, l_58, l_59, l_60, l_61, l_62, l_63, l_64, l_65, l_66, l_67, l_68, l_69, l_70, l_71, l_72, l_73, l_74, l_75, l_76, l_77, l_78, l_79, l_80, l_81, l_82, l_83, l_84, l_85, l_86, l_87, l_88, l_89, l_90, l_91, l_92, l_93, l_94, l_95, l_96, l_97, l_98, l_99, l_100, l_101, l_102, l_103, l_104, l_105, l_106, l_107, l_108, l_109, l_110, l_111, l_121, l_122, l_160, l_200, l_201, l_240, l_255, l_361, l_390, l_499, l_500, l_999, l_1000, l_10000, l_10099, l_12345, l_16383, l_20000, l_20033, l_20038, l_20124, l_100000, l_1000000, l_1103515245, ui_oi, ck_oi, sb, jc_e, bl_0, bl_1, le_oi, lt_oi, eq_oi, add_oi, mul_oi, div_oi, ir_oi, gi_e, gi_n, if_true, if_false, if_pos, if_neg, true_and, and_true, false_and, and_false, true_or, or_true, false_or, or_false, zab_g h]
    · by_cases h4 : rk = zAb kd <;> simp (disch := omega) only [l_0, l_1, l_2, l_3, l_4, l_5, l_6, l_7, l_8, l_9, l_10, l_11, l_12, l_13, l_14, l_15, l_16, l_17, l_18, l_19, l_20, l_21, l_22, l_23, l_24, l_25, l_26, l_27, l_28, l_29, l_30, l_31, l_32, l_33, l_34, l_35, l_36, l_37, l_38, l_39, l_40, l_41, l_42, l_43, l_44, l_45, l_46, l_47, l_48, l_49, l_50, l_51, l_52, l_53, l_54, l_55, l_56, l_57, l_58, l_59, l_60, l_61, l_62, l_63, l_64, l_65, l_66, l_67, l_68, l_69, l_70, l_71, l_72, l_73, l_74, l_75, l_76, l_77, l_78, l_79, l_80, l_81, l_82, l_83, l_84, l_85, l_86, l_87, l_88, l_89, l_90, l_91, l_92, l_93, l_94, l_95, l_96, l_97, l_98, l_99, l_100, l_101, l_102, l_103, l_104, l_105, l_106, l_107, l_108, l_109, l_110, l_111, l_121, l_122, l_160, l_200, l_201, l_240, l_255, l_361, l_390, l_499, l_500, l_999, l_1000, l_10000, l_10099, l_12345, l_16383, l_20000, l_20033, l_20038, l_20124, l_100000, l_1000000, l_1103515245, ui_oi, ck_oi, sb, jc_e, bl_0, bl_1, le_oi, lt_oi, eq_oi, add_oi, mul_oi, div_oi, ir_oi, gi_e, gi_n, if_true, if_false, if_pos, if_neg, true_and, and_true, false_and, and_false, true_or, or_true, false_or, or_false, zab_g h]
theorem c_wl (hV : VL 0 M d c) (hF : FL w M d) (hW : WF d) (hk : k < 6) (hw : Wc w) : ∃ M', F_X10_will M w (oi k) = some (oi (zWl d c k), M') ∧ Oc [47] M M' := by
  obtain ⟨h0, h1, h2, h5, h6, hb, hw7⟩ := id hW
  obtain ⟨b1, b2, b3, b4, b5, b6⟩ := hb k hk
  have e4 := zRi_le hw7
  have hw47 : w ≠ 47 ∧ w + 1 ≠ 47 ∧ w + 2 ≠ 47 := by rcases hw with rfl | rfl | rfl | rfl | rfl | rfl | rfl <;> decide
  obtain ⟨q1, q2, q3⟩ := hw47
  obtain ⟨cs, hcs, hcs2, hE⟩ := hV.2.2.2.2.2.2.2.2.2
  have hE : CE (gi M 45) (gi M 46) (d 5) cs c := hE
  obtain ⟨M1, hM1⟩ : ∃ M1, M1 = si (si (si (si (si M 47 0 (oi (d 1))) 47 1 (oi (zF d k))) 47 2 (oi (zC d k))) 47 3 (oi (zRi d))) 47 4 (oi k) := ⟨_, rfl⟩
  have hO : Oc [47] M M1 := by
    intro x hx
    have hx : x ≠ 47 := by simpa using hx
    rw [hM1, si_ne hx, si_ne hx, si_ne hx, si_ne hx, si_ne hx]
  have hf : ∀ i, i < 5 → gi M1 47 i = oi (zfa d k i) ∧ zfa d k i ≤ 99 := by
    intro i hi
    unfold zfa
    rw [hM1]
    rcases (by omega : i = 0 ∨ i = 1 ∨ i = 2 ∨ i = 3 ∨ i = 4) with rfl | rfl | rfl | rfl | rfl <;> refine ⟨?_, ?_⟩
    all_goals first | (simp (disch := omega) only [l_0, l_1, l_2, l_3, l_4, l_5, l_6, l_7, l_8, l_9, l_10, l_11, l_12, l_13, l_14, l_15, l_16, l_17, l_18, l_19, l_20, l_21, l_22, l_23, l_24, l_25, l_26, l_27, l_28, l_29, l_30, l_31, l_32, l_33, l_34, l_35, l_36, l_37, l_38, l_39, l_40, l_41, l_42, l_43, l_44, l_45, l_46, l_47, l_48, l_49, l_50, l_51, l_52, l_53, l_54, l_55, l_56, l_57, l_58, l_59, l_60, l_61, l_62, l_63, l_64, l_65, l_66, l_67, l_68, l_69, l_70, l_71, l_72, l_73, l_74, l_75, l_76, l_77, l_78, l_79, l_80, l_81, l_82, l_83, l_84, l_85, l_86, l_87, l_88, l_89, l_90, l_91, l_92, l_93, l_94, l_95, l_96, l_97, l_98, l_99, l_100, l_101, l_102, l_103, l_104, l_105, l_106, l_107, l_108, l_109, l_110, l_111, l_121, l_122, l_160, l_200, l_201, l_240, l_255, l_361, l_390, l_499, l_500, l_999, l_1000, l_10000, l_10099, l_12345, l_16383, l_20000, l_20033, l_20038, l_20124, l_100000, l_1000000, l_1103515245, ui_oi, ck_oi, sb, jc_e, bl_0, bl_1, le_oi, lt_oi, eq_oi, add_oi, mul_oi, div_oi, ir_oi, gi_e, gi_n, if_true, if_false, if_pos, if_neg, true_and, and_true, false_and, and_false, true_or, or_true, false_or, or_false, ]; done) | (simp (disch := omega) only [l_0, l_1, l_2, l_3, l_4, l_5, l_6, l_7, l_8, l_9, l_10, l_11, l_12, l_13, l_14, l_15, l_16, l_17, l_18, l_19, l_20, l_21, l_22, l_23, l_24, l_25, l_26, l_27, l_28, l_29, l_30, l_31, l_32, l_33, l_34, l_35, l_36, l_37, l_38, l_39, l_40, l_41, l_42, l_43, l_44, l_45, l_46, l_47, l_48, l_49, l_50, l_51, l_52, l_53, l_54, l_55, l_56, l_57, l_58, l_59, l_60, l_61, l_62, l_63, l_64, l_65, l_66, l_67, l_68, l_69, l_70, l_71, l_72, l_73, l_74, l_75, l_76, l_77, l_78, l_79, l_80, l_81, l_82, l_83, l_84, l_85, l_86, l_87, l_88, l_89, l_90, l_91, l_92, l_93, l_94, l_95, l_96, l_97, l_98, l_99, l_100, l_101, l_102, l_103, l_104, l_105, l_106, l_107, l_108, l_109, l_110, l_111, l_121, l_122, l_160, l_200, l_201, l_240, l_255, l_361, l_390, l_499, l_500, l_999, l_1000, l_10000, l_10099, l_12345, l_16383, l_20000, l_20033, l_20038, l_20124, l_100000, l_1000000, l_1103515245, ui_oi, ck_oi, sb, jc_e, bl_0, bl_1, le_oi, lt_oi, eq_oi, add_oi, mul_oi, div_oi, ir_oi, gi_e, gi_n, if_true, if_false, if_pos, if_neg, true_and, and_true, false_and, and_false, true_or, or_true, false_or, or_false, ]; omega)
  have hh : ∀ r, r < d 5 → F_X6_holds M1 (oi r) = some (oi (if c r (zfa d k) = true then 1 else 0)) := fun r hr => hE r hr M1 (zfa d k) (fun i _ => hO.g (by decide)) (fun i _ => hO.g (by decide)) hf
  refine ⟨M1, ?_, hO⟩
  have hloop : ∀ m r fu, r + m = d 5 → m < fu → F_X6_willOf_L52 M1 (oi (zK d k)) fu (oi r) = some (oi (zWlF d c k m r), M1) := by
    have hV1 : VL 0 M1 d c := hV.oc hO (by decide)
    intro m
    induction m with
    | zero =>
      intro r fu hr hf
      obtain ⟨fu', rfl⟩ : ∃ q, fu = q + 1 := ⟨fu - 1, by omega⟩
      rw [F_X6_willOf_L52]
      unfold zWlF
      simp (disch := omega) only [l_0, l_1, l_2, l_3, l_4, l_5, l_6, l_7, l_8, l_9, l_10, l_11, l_12, l_13, l_14, l_15, l_16, l_17, l_18, l_19, l_20, l_21, l_22, l_23, l_24, l_25, l_26, l_27, l_28, l_29, l_30, l_31, l_32, l_33, l_34, l_35, l_36, l_37, l_38, l_39, l_40, l_41, l_42, l_43, l_44, l_45, l_46, l_47, l_48, l_49, l_50, l_51, l_52, l_53, l_54, l_55, l_56, l_57, l_58, l_59, l_60, l_61, l_62, l_63, l_64, l_65, l_66, l_67, l_68, l_69, l_70, l_71, l_72, l_73, l_74, l_75, l_76, l_77, l_78, l_79, l_80, l_81, l_82, l_83, l_84, l_85, l_86, l_87, l_88, l_89, l_90, l_91, l_92, l_93, l_94, l_95, l_96, l_97, l_98, l_99, l_100, l_101, l_102, l_103, l_104, l_105, l_106, l_107, l_108, l_109, l_110, l_111, l_121, l_122, l_160, l_200, l_201, l_240, l_255, l_361, l_390, l_499, l_500, l_999, l_1000, l_10000, l_10099, l_12345, l_16383, l_20000, l_20033, l_20038, l_20124, l_100000, l_1000000, l_1103515245, ui_oi, ck_oi, sb, jc_e, bl_0, bl_1, le_oi, lt_oi, eq_oi, add_oi, mul_oi, div_oi, ir_oi, gi_e, gi_n, if_true, if_false, if_pos, if_neg, true_and, and_true, false_and, and_false, true_or, or_true, false_or, or_false, hV1.ru]
    | succ m ih =>
      intro r fu hr hf
      obtain ⟨fu', rfl⟩ : ∃ q, fu = q + 1 := ⟨fu - 1, by omega⟩
      have hk5 := (hw7.2.2.2 r (by omega)).1
      have hk6 := (hw7.2.2.2 r (by omega)).2
      have ih' := ih (r + 1) fu' (by omega) (by omega)
      by_cases ht : d (89 + 4 * r) = 0 ∨ d (89 + 4 * r) = zK d k ∨ d (89 + 4 * r) = zAb (zK d k)
      · by_cases hc : c r (zfa d k) = true
        · have hz : zWlF d c k (m + 1) r = d (90 + 4 * r) := zWl_y ht hc
          rw [hz, F_X6_willOf_L52]
          have := hh r (by omega)
          rw [if_pos hc] at this
          have hu := c_un (M := M1) b1 hk5
          rw [if_pos ht] at hu
          simp (disch := omega) only [l_0, l_1, l_2, l_3, l_4, l_5, l_6, l_7, l_8, l_9, l_10, l_11, l_12, l_13, l_14, l_15, l_16, l_17, l_18, l_19, l_20, l_21, l_22, l_23, l_24, l_25, l_26, l_27, l_28, l_29, l_30, l_31, l_32, l_33, l_34, l_35, l_36, l_37, l_38, l_39, l_40, l_41, l_42, l_43, l_44, l_45, l_46, l_47, l_48, l_49, l_50, l_51, l_52, l_53, l_54, l_55, l_56, l_57, l_58, l_59, l_60, l_61, l_62, l_63, l_64, l_65, l_66, l_67, l_68, l_69, l_70, l_71, l_72, l_73, l_74, l_75, l_76, l_77, l_78, l_79, l_80, l_81, l_82, l_83, l_84, l_85, l_86, l_87, l_88, l_89, l_90, l_91, l_92, l_93, l_94, l_95, l_96, l_97, l_98, l_99, l_100, l_101, l_102, l_103, l_104, l_105, l_106, l_107, l_108, l_109, l_110, l_111, l_121, l_122, l_160, l_200, l_201, l_240, l_255, l_361, l_390, l_499, l_500, l_999, l_1000, l_10000, l_10099, l_12345, l_16383, l_20000, l_20033, l_20038, l_20124, l_100000, l_1000000, l_1103515245, ui_oi, ck_oi, sb, jc_e, bl_0, bl_1, le_oi, lt_oi, eq_oi, add_oi, mul_oi, div_oi, ir_oi, gi_e, gi_n, if_true, if_false, if_pos, if_neg, true_and, and_true, false_and, and_false, true_or, or_true, false_or, or_false, hV1.ru, hV1.rk, hV1.rd, hu, this]
        · have hz : zWlF d c k (m + 1) r = zWlF d c k m (r + 1) := zWl_c hc
          rw [hz, F_X6_willOf_L52]
          have := hh r (by omega)
          rw [if_neg hc] at this
          have hu := c_un (M := M1) b1 hk5
          rw [if_pos ht] at hu
          simp (disch := omega) only [l_0, l_1, l_2, l_3, l_4, l_5, l_6, l_7, l_8, l_9, l_10, l_11, l_12, l_13, l_14, l_15, l_16, l_17, l_18, l_19, l_20, l_21, l_22, l_23, l_24, l_25, l_26, l_27, l_28, l_29, l_30, l_31, l_32, l_33, l_34, l_35, l_36, l_37, l_38, l_39, l_40, l_41, l_42, l_43, l_44, l_45, l_46, l_47, l_48, l_49, l_50, l_51, l_52, l_53, l_54, l_55, l_56, l_57, l_58, l_59, l_60, l_61, l_62, l_63, l_64, l_65, l_66, l_67, l_68, l_69, l_70, l_71, l_72, l_73, l_74, l_75, l_76, l_77, l_78, l_79, l_80, l_81, l_82, l_83, l_84, l_85, l_86, l_87, l_88, l_89, l_90, l_91, l_92, l_93, l_94, l_95, l_96, l_97, l_98, l_99, l_100, l_101, l_102, l_103, l_104, l_105, l_106, l_107, l_108, l_109, l_110, l_111, l_121, l_122, l_160, l_200, l_201, l_240, l_255, l_361, l_390, l_499, l_500, l_999, l_1000, l_10000, l_10099, l_12345, l_16383, l_20000, l_20033, l_20038, l_20124, l_100000, l_1000000, l_1103515245, ui_oi, ck_oi, sb, jc_e, bl_0, bl_1, le_oi, lt_oi, eq_oi, add_oi, mul_oi, div_oi, ir_oi, gi_e, gi_n, if_true, if_false, if_pos, if_neg, true_and, and_true, false_and, and_false, true_or, or_true, false_or, or_false, hV1.ru, hV1.rk, hV1.rd, hu, this, ih']
      · have hz : zWlF d c k (m + 1) r = zWlF d c k m (r + 1) := zWl_t ht
        rw [hz, F_X6_willOf_L52]
        have hu := c_un (M := M1) b1 hk5
        rw [if_neg ht] at hu
        simp (disch := omega) only [l_0, l_1, l_2, l_3, l_4, l_5, l_6, l_7, l_8, l_9, l_10, l_11, l_12, l_13, l_14, l_15, l_16, l_17, l_18, l_19, l_20, l_21, l_22, l_23, l_24, l_25, l_26, l_27, l_28, l_29, l_30, l_31, l_32, l_33, l_34, l_35, l_36, l_37, l_38, l_39, l_40, l_41, l_42, l_43, l_44, l_45, l_46, l_47, l_48, l_49, l_50, l_51, l_52, l_53, l_54, l_55, l_56, l_57, l_58, l_59, l_60, l_61, l_62, l_63, l_64, l_65, l_66, l_67, l_68, l_69, l_70, l_71, l_72, l_73, l_74, l_75, l_76, l_77, l_78, l_79, l_80, l_81, l_82, l_83, l_84, l_85, l_86, l_87, l_88, l_89, l_90, l_91, l_92, l_93, l_94, l_95, l_96, l_97, l_98, l_99, l_100, l_101, l_102, l_103, l_104, l_105, l_106, l_107, l_108, l_109, l_110, l_111, l_121, l_122, l_160, l_200, l_201, l_240, l_255, l_361, l_390, l_499, l_500, l_999, l_1000, l_10000, l_10099, l_12345, l_16383, l_20000, l_20033, l_20038, l_20124, l_100000, l_1000000, l_1103515245, ui_oi, ck_oi, sb, jc_e, bl_0, bl_1, le_oi, lt_oi, eq_oi, add_oi, mul_oi, div_oi, ir_oi, gi_e, gi_n, if_true, if_false, if_pos, if_neg, true_and, and_true, false_and, and_false, true_or, or_true, false_or, or_false, hV1.ru, hV1.rk, hV1.rd, hu, ih']
  have hz := hloop (d 5) 0 1000 (by omega) (by omega)
  unfold F_X10_will F_X6_willOf
  unfold zRi at hM1
  rw [show zWl d c k = zWlF d c k (d 5) 0 from rfl]
  simp (disch := omega) only [l_0, l_1, l_2, l_3, l_4, l_5, l_6, l_7, l_8, l_9, l_10, l_11, l_12, l_13, l_14, l_15, l_16, l_17, l_18, l_19, l_20, l_21, l_22, l_23, l_24, l_25, l_26, l_27, l_28, l_29, l_30, l_31, l_32, l_33, l_34, l_35, l_36, l_37, l_38, l_39, l_40, l_41, l_42, l_43, l_44, l_45, l_46, l_47, l_48, l_49, l_50, l_51, l_52, l_53, l_54, l_55, l_56, l_57, l_58, l_59, l_60, l_61, l_62, l_63, l_64, l_65, l_66, l_67, l_68, l_69, l_70, l_71, l_72, l_73, l_74, l_75, l_76, l_77, l_78, l_79, l_80, l_81, l_82, l_83, l_84, l_85, l_86, l_87, l_88, l_89, l_90, l_91, l_92, l_93, l_94, l_95, l_96, l_97, l_98, l_99, l_100, l_101, l_102, l_103, l_104, l_105, l_106, l_107, l_108, l_109, l_110, l_111, l_121, l_122, l_160, l_200, l_201, l_240, l_255, l_361, l_390, l_499, l_500, l_999, l_1000, l_10000, l_10099, l_12345, l_16383, l_20000, l_20033, l_20038, l_20124, l_100000, l_1000000, l_1103515245, ui_oi, ck_oi, sb, jc_e, bl_0, bl_1, le_oi, lt_oi, eq_oi, add_oi, mul_oi, div_oi, ir_oi, gi_e, gi_n, if_true, if_false, if_pos, if_neg, true_and, and_true, false_and, and_false, true_or, or_true, false_or, or_false, hV.kd, hF.t, c_ri hV hw7, hF.f, hF.c]
  rw [← hM1, hz]
  rfl
theorem c_bung (hV : VL 0 M d c) (hF : FL w M d) (hW : WF d) (hk : k < 6) (hw : Wc w) : F_X10_bung M w (oi k) = some (oi (if zSa d = 0 then 1 else 0), si (si M (w + 2) k (oi (min 9 (zC d k + 2)))) (w + 1) k (oi (min 99 (zF d k + 3)))) := by
  obtain ⟨h0, h1, h2, h5, h6, hb, hw7⟩ := id hW
  obtain ⟨b1, b2, b3, b4, b5, b6⟩ := hb k hk
  have e5 := zSa_le (d := d)
  obtain ⟨M1, hM1⟩ : ∃ M1, M1 = si (si M (w + 2) k (oi (min 9 (zC d k + 2)))) (w + 1) k (oi (min 99 (zF d k + 3))) := ⟨_, rfl⟩
  have hO : Oc [w, w + 1, w + 2, 47] M M1 := by
    rw [hM1]
    exact (Oc.si (S := [w, w + 1, w + 2, 47]) (by simp)).tr (Oc.si (S := [w, w + 1, w + 2, 47]) (by simp)) (fun c hc => ⟨hc, hc⟩)
  have hV1 : VL 0 M1 d c := hV.oc hO (Wc_V hw)
  have hs := c_sa hV1 hw7 (t := d 1) (by omega)
  unfold zSa at e5 ⊢
  unfold F_X10_bung
  simp (disch := omega) only [l_0, l_1, l_2, l_3, l_4, l_5, l_6, l_7, l_8, l_9, l_10, l_11, l_12, l_13, l_14, l_15, l_16, l_17, l_18, l_19, l_20, l_21, l_22, l_23, l_24, l_25, l_26, l_27, l_28, l_29, l_30, l_31, l_32, l_33, l_34, l_35, l_36, l_37, l_38, l_39, l_40, l_41, l_42, l_43, l_44, l_45, l_46, l_47, l_48, l_49, l_50, l_51, l_52, l_53, l_54, l_55, l_56, l_57, l_58, l_59, l_60, l_61, l_62, l_63, l_64, l_65, l_66, l_67, l_68, l_69, l_70, l_71, l_72, l_73, l_74, l_75, l_76, l_77, l_78, l_79, l_80, l_81, l_82, l_83, l_84, l_85, l_86, l_87, l_88, l_89, l_90, l_91, l_92, l_93, l_94, l_95, l_96, l_97, l_98, l_99, l_100, l_101, l_102, l_103, l_104, l_105, l_106, l_107, l_108, l_109, l_110, l_111, l_121, l_122, l_160, l_200, l_201, l_240, l_255, l_361, l_390, l_499, l_500, l_999, l_1000, l_10000, l_10099, l_12345, l_16383, l_20000, l_20033, l_20038, l_20124, l_100000, l_1000000, l_1103515245, ui_oi, ck_oi, sb, jc_e, bl_0, bl_1, le_oi, lt_oi, eq_oi, add_oi, mul_oi, div_oi, ir_oi, gi_e, gi_n, if_true, if_false, if_pos, if_neg, true_and, and_true, false_and, and_false, true_or, or_true, false_or, or_false, hF.c, hF.f, hF.t, mn_oi]
  rw [← hM1, hs]
  by_cases h9 : zW d (d 1) % 4 = 0 <;> simp (disch := omega) only [l_0, l_1, l_2, l_3, l_4, l_5, l_6, l_7, l_8, l_9, l_10, l_11, l_12, l_13, l_14, l_15, l_16, l_17, l_18, l_19, l_20, l_21, l_22, l_23, l_24, l_25, l_26, l_27, l_28, l_29, l_30, l_31, l_32, l_33, l_34, l_35, l_36, l_37, l_38, l_39, l_40, l_41, l_42, l_43, l_44, l_45, l_46, l_47, l_48, l_49, l_50, l_51, l_52, l_53, l_54, l_55, l_56, l_57, l_58, l_59, l_60, l_61, l_62, l_63, l_64, l_65, l_66, l_67, l_68, l_69, l_70, l_71, l_72, l_73, l_74, l_75, l_76, l_77, l_78, l_79, l_80, l_81, l_82, l_83, l_84, l_85, l_86, l_87, l_88, l_89, l_90, l_91, l_92, l_93, l_94, l_95, l_96, l_97, l_98, l_99, l_100, l_101, l_102, l_103, l_104, l_105, l_106, l_107, l_108, l_109, l_110, l_111, l_121, l_122, l_160, l_200, l_201, l_240, l_255, l_361, l_390, l_499, l_500, l_999, l_1000, l_10000, l_10099, l_12345, l_16383, l_20000, l_20033, l_20038, l_20124, l_100000, l_1000000, l_1103515245, ui_oi, ck_oi, sb, jc_e, bl_0, bl_1, le_oi, lt_oi, eq_oi, add_oi, mul_oi, div_oi, ir_oi, gi_e, gi_n, if_true, if_false, if_pos, if_neg, true_and, and_true, false_and, and_false, true_or, or_true, false_or, or_false, h9]
theorem c_has0 : F_X10_has M (oi 0 - oi 1) = some (oi 0) := by
  unfold F_X10_has
  rw [l_0, if_pos (sub_lt0 (by omega) (by omega) (by omega)), bl_0]
/-- the told barrel -/
theorem c_act (hV : VL 0 M d c) (hF : FL w M d) (hW : WF d) (ha : a ≤ d 0) (hw : Wc w) : ∃ M1, F_X10_pass M w (oi a) = F_X10_pass_L79 w 1000 M1 (oi (zAw d c a)) (oi 0) ∧ FL w M1 (zAd d c a) ∧ Oc [w, w + 1, w + 2, 47] M M1 := by
  obtain ⟨h0, h1, h2, h5, h6, hb, hw7⟩ := id hW
  unfold F_X10_pass zAw zAd
  by_cases ha0 : a = 0
  · subst ha0
    refine ⟨M, ?_, by rw [if_neg (by omega)]; exact hF, Oc.rf⟩
    simp (disch := omega) only [l_0, l_1, l_2, l_3, l_4, l_5, l_6, l_7, l_8, l_9, l_10, l_11, l_12, l_13, l_14, l_15, l_16, l_17, l_18, l_19, l_20, l_21, l_22, l_23, l_24, l_25, l_26, l_27, l_28, l_29, l_30, l_31, l_32, l_33, l_34, l_35, l_36, l_37, l_38, l_39, l_40, l_41, l_42, l_43, l_44, l_45, l_46, l_47, l_48, l_49, l_50, l_51, l_52, l_53, l_54, l_55, l_56, l_57, l_58, l_59, l_60, l_61, l_62, l_63, l_64, l_65, l_66, l_67, l_68, l_69, l_70, l_71, l_72, l_73, l_74, l_75, l_76, l_77, l_78, l_79, l_80, l_81, l_82, l_83, l_84, l_85, l_86, l_87, l_88, l_89, l_90, l_91, l_92, l_93, l_94, l_95, l_96, l_97, l_98, l_99, l_100, l_101, l_102, l_103, l_104, l_105, l_106, l_107, l_108, l_109, l_110, l_111, l_121, l_122, l_160, l_200, l_201, l_240, l_255, l_361, l_390, l_499, l_500, l_999, l_1000, l_10000, l_10099, l_12345, l_16383, l_20000, l_20033, l_20038, l_20124, l_100000, l_1000000, l_1103515245, ui_oi, ck_oi, sb, jc_e, bl_0, bl_1, le_oi, lt_oi, eq_oi, add_oi, mul_oi, div_oi, ir_oi, gi_e, gi_n, if_true, if_false, if_pos, if_neg, true_and, and_true, false_and, and_false, true_or, or_true, false_or, or_false, c_has0]
  · obtain ⟨k, rfl⟩ : ∃ k, a = k + 1 := ⟨a - 1, by omega⟩
    have hk : k < 6 := by omega
    obtain ⟨b1, b2, b3, b4, b5, b6⟩ := hb k hk
    rw [show k + 1 - 1 = k by omega, l_1, sub_oi (show 1 ≤ k + 1 by omega), show k + 1 - 1 = k by omega]
    have hh := c_has hV h0 (k := k) (by omega)
    rw [if_pos (by omega)] at hh
    rcases (by omega : zS d k = 0 ∨ zS d k = 1) with h | h
    · rw [if_pos (by omega), if_pos (by omega)]
      obtain ⟨M2, g1, g2⟩ := c_wl hV hF hW hk hw
      have hO2 : Oc [w, w + 1, w + 2, 47] M M2 := g2.su (fun x hx => by
        intro q
        have : x = 47 := by simpa using q
        subst this
        exact hx (by simp))
      have hV2 : VL 0 M2 d c := hV.oc hO2 (Wc_V hw)
      have hw47 : w ≠ 47 ∧ w + 1 ≠ 47 ∧ w + 2 ≠ 47 := by rcases hw with rfl | rfl | rfl | rfl | rfl | rfl | rfl <;> decide
      have hF2 : FL w M2 d := ⟨fun k hk => ⟨(g2.g (by simpa using hw47.2.1)).trans (hF.f hk), (g2.g (by simpa using hw47.2.2)).trans (hF.c hk)⟩, (g2.g (by simpa using hw47.1)).trans hF.b, (g2.g (by simpa using hw47.1)).trans hF.t⟩
      have hz2 := hW
      have hp := c_py hV2 hF2 hW hk
      have hp14 := zPy_le b2
      unfold zDw zDd
      rcases (by have := zWl_le (c := c) hW k; omega : zWl d c k = 0 ∨ zWl d c k = 1 ∨ zWl d c k = 2) with hq | hq | hq
      · rw [if_pos hq, if_pos hq]
        by_cases hp0 : 0 < zPy d k
        · rw [if_pos hp0]
          refine ⟨si M2 w 2 (oi (zBi (zU d (39 + 5 * k) 1))), ?_, ?_, hO2.tr (Oc.si (S := [w, w + 1, w + 2, 47]) (by simp)) (fun c hc => ⟨hc, hc⟩)⟩
          · simp (disch := omega) only [l_0, l_1, l_2, l_3, l_4, l_5, l_6, l_7, l_8, l_9, l_10, l_11, l_12, l_13, l_14, l_15, l_16, l_17, l_18, l_19, l_20, l_21, l_22, l_23, l_24, l_25, l_26, l_27, l_28, l_29, l_30, l_31, l_32, l_33, l_34, l_35, l_36, l_37, l_38, l_39, l_40, l_41, l_42, l_43, l_44, l_45, l_46, l_47, l_48, l_49, l_50, l_51, l_52, l_53, l_54, l_55, l_56, l_57, l_58, l_59, l_60, l_61, l_62, l_63, l_64, l_65, l_66, l_67, l_68, l_69, l_70, l_71, l_72, l_73, l_74, l_75, l_76, l_77, l_78, l_79, l_80, l_81, l_82, l_83, l_84, l_85, l_86, l_87, l_88, l_89, l_90, l_91, l_92, l_93, l_94, l_95, l_96, l_97, l_98, l_99, l_100, l_101, l_102, l_103, l_104, l_105, l_106, l_107, l_108, l_109, l_110, l_111, l_121, l_122, l_160, l_200, l_201, l_240, l_255, l_361, l_390, l_499, l_500, l_999, l_1000, l_10000, l_10099, l_12345, l_16383, l_20000, l_20033, l_20038, l_20124, l_100000, l_1000000, l_1103515245, ui_oi, ck_oi, sb, jc_e, bl_0, bl_1, le_oi, lt_oi, eq_oi, add_oi, mul_oi, div_oi, ir_oi, gi_e, gi_n, if_true, if_false, if_pos, if_neg, true_and, and_true, false_and, and_false, true_or, or_true, false_or, or_false, hh, c_st hF.b hb hk, h, g1, hq, hp, c_put hF2.b hb hk]
          · refine ⟨fun j hj => ?_, by rw [gi_e], ?_⟩
            · unfold zF zC
              rw [gi_n (by omega), gi_n (by omega), zU_n (by omega), zU_n (by omega)]
              exact ⟨hF2.f hj, hF2.c hj⟩
            · rw [gi_n (by omega), zU_n (by omega)]
              exact hF2.t
        · rw [if_neg hp0]
          refine ⟨M2, ?_, hF2, hO2⟩
          simp (disch := omega) only [l_0, l_1, l_2, l_3, l_4, l_5, l_6, l_7, l_8, l_9, l_10, l_11, l_12, l_13, l_14, l_15, l_16, l_17, l_18, l_19, l_20, l_21, l_22, l_23, l_24, l_25, l_26, l_27, l_28, l_29, l_30, l_31, l_32, l_33, l_34, l_35, l_36, l_37, l_38, l_39, l_40, l_41, l_42, l_43, l_44, l_45, l_46, l_47, l_48, l_49, l_50, l_51, l_52, l_53, l_54, l_55, l_56, l_57, l_58, l_59, l_60, l_61, l_62, l_63, l_64, l_65, l_66, l_67, l_68, l_69, l_70, l_71, l_72, l_73, l_74, l_75, l_76, l_77, l_78, l_79, l_80, l_81, l_82, l_83, l_84, l_85, l_86, l_87, l_88, l_89, l_90, l_91, l_92, l_93, l_94, l_95, l_96, l_97, l_98, l_99, l_100, l_101, l_102, l_103, l_104, l_105, l_106, l_107, l_108, l_109, l_110, l_111, l_121, l_122, l_160, l_200, l_201, l_240, l_255, l_361, l_390, l_499, l_500, l_999, l_1000, l_10000, l_10099, l_12345, l_16383, l_20000, l_20033, l_20038, l_20124, l_100000, l_1000000, l_1103515245, ui_oi, ck_oi, sb, jc_e, bl_0, bl_1, le_oi, lt_oi, eq_oi, add_oi, mul_oi, div_oi, ir_oi, gi_e, gi_n, if_true, if_false, if_pos, if_neg, true_and, and_true, false_and, and_false, true_or, or_true, false_or, or_false, hh, c_st hF.b hb hk, h, g1, hq, hp]
      · simp only [if_neg (show ¬ zWl d c k = 0 by omega), if_neg (show ¬ zWl d c k = 2 by omega)]
        refine ⟨M2, ?_, hF2, hO2⟩
        simp (disch := omega) only [l_0, l_1, l_2, l_3, l_4, l_5, l_6, l_7, l_8, l_9, l_10, l_11, l_12, l_13, l_14, l_15, l_16, l_17, l_18, l_19, l_20, l_21, l_22, l_23, l_24, l_25, l_26, l_27, l_28, l_29, l_30, l_31, l_32, l_33, l_34, l_35, l_36, l_37, l_38, l_39, l_40, l_41, l_42, l_43, l_44, l_45, l_46, l_47, l_48, l_49, l_50, l_51, l_52, l_53, l_54, l_55, l_56, l_57, l_58, l_59, l_60, l_61, l_62, l_63, l_64, l_65, l_66, l_67, l_68, l_69, l_70, l_71, l_72, l_73, l_74, l_75, l_76, l_77, l_78, l_79, l_80, l_81, l_82, l_83, l_84, l_85, l_86, l_87, l_88, l_89, l_90, l_91, l_92, l_93, l_94, l_95, l_96, l_97, l_98, l_99, l_100, l_101, l_102, l_103, l_104, l_105, l_106, l_107, l_108, l_109, l_110, l_111, l_121, l_122, l_160, l_200, l_201, l_240, l_255, l_361, l_390, l_499, l_500, l_999, l_1000, l_10000, l_10099, l_12345, l_16383, l_20000, l_20033, l_20038, l_20124, l_100000, l_1000000, l_1103515245, ui_oi, ck_oi, sb, jc_e, bl_0, bl_1, le_oi, lt_oi, eq_oi, add_oi, mul_oi, div_oi, ir_oi, gi_e, gi_n, if_true, if_false, if_pos, if_neg, true_and, and_true, false_and, and_false, true_or, or_true, false_or, or_false, hh, c_st hF.b hb hk, h, g1, hq]
      · simp only [if_neg (show ¬ zWl d c k = 0 by omega), if_pos hq]
        have hbu := c_bung hV2 hF2 hW hk hw
        refine ⟨si (si M2 (w + 2) k (oi (min 9 (zC d k + 2)))) (w + 1) k (oi (min 99 (zF d k + 3))), ?_, ?_, hO2.tr ((Oc.si (S := [w, w + 1, w + 2, 47]) (by simp)).tr (Oc.si (S := [w, w + 1, w + 2, 47]) (by simp)) (fun c hc => ⟨hc, hc⟩)) (fun c hc => ⟨hc, hc⟩)⟩
        · simp (disch := omega) only [l_0, l_1, l_2, l_3, l_4, l_5, l_6, l_7, l_8, l_9, l_10, l_11, l_12, l_13, l_14, l_15, l_16, l_17, l_18, l_19, l_20, l_21, l_22, l_23, l_24, l_25, l_26, l_27, l_28, l_29, l_30, l_31, l_32, l_33, l_34, l_35, l_36, l_37, l_38, l_39, l_40, l_41, l_42, l_43, l_44, l_45, l_46, l_47, l_48, l_49, l_50, l_51, l_52, l_53, l_54, l_55, l_56, l_57, l_58, l_59, l_60, l_61, l_62, l_63, l_64, l_65, l_66, l_67, l_68, l_69, l_70, l_71, l_72, l_73, l_74, l_75, l_76, l_77, l_78, l_79, l_80, l_81, l_82, l_83, l_84, l_85, l_86, l_87, l_88, l_89, l_90, l_91, l_92, l_93, l_94, l_95, l_96, l_97, l_98, l_99, l_100, l_101, l_102, l_103, l_104, l_105, l_106, l_107, l_108, l_109, l_110, l_111, l_121, l_122, l_160, l_200, l_201, l_240, l_255, l_361, l_390, l_499, l_500, l_999, l_1000, l_10000, l_10099, l_12345, l_16383, l_20000, l_20033, l_20038, l_20124, l_100000, l_1000000, l_1103515245, ui_oi, ck_oi, sb, jc_e, bl_0, bl_1, le_oi, lt_oi, eq_oi, add_oi, mul_oi, div_oi, ir_oi, gi_e, gi_n, if_true, if_false, if_pos, if_neg, true_and, and_true, false_and, and_false, true_or, or_true, false_or, or_false, hh, c_st hF.b hb hk, h, g1, hq, hbu]
        · refine ⟨fun j hj => ⟨?_, ?_⟩, ?_, ?_⟩
          · unfold zF
            by_cases hjk : j = k
            · subst hjk
              rw [gi_e, zU_e]
            · rw [gi_n (by omega), gi_n (by omega), zU_n (by omega), zU_n (by omega)]
              exact hF2.f hj
          · unfold zC
            rw [gi_n (by omega), zU_n (by omega)]
            by_cases hjk : j = k
            · subst hjk
              rw [gi_e, zU_e]
            · rw [gi_n (by omega), zU_n (by omega)]
              exact hF2.c hj
          · rw [gi_n (by omega), gi_n (by omega), hF2.b]
            unfold zBi zS
            simp (disch := omega) only [zU_n]
          · rw [gi_n (by omega), gi_n (by omega), zU_n (by omega), zU_n (by omega)]
            exact hF2.t
    · rw [if_neg (by omega), if_neg (by omega)]
      refine ⟨M, ?_, hF, Oc.rf⟩
      simp (disch := omega) only [l_0, l_1, l_2, l_3, l_4, l_5, l_6, l_7, l_8, l_9, l_10, l_11, l_12, l_13, l_14, l_15, l_16, l_17, l_18, l_19, l_20, l_21, l_22, l_23, l_24, l_25, l_26, l_27, l_28, l_29, l_30, l_31, l_32, l_33, l_34, l_35, l_36, l_37, l_38, l_39, l_40, l_41, l_42, l_43, l_44, l_45, l_46, l_47, l_48, l_49, l_50, l_51, l_52, l_53, l_54, l_55, l_56, l_57, l_58, l_59, l_60, l_61, l_62, l_63, l_64, l_65, l_66, l_67, l_68, l_69, l_70, l_71, l_72, l_73, l_74, l_75, l_76, l_77, l_78, l_79, l_80, l_81, l_82, l_83, l_84, l_85, l_86, l_87, l_88, l_89, l_90, l_91, l_92, l_93, l_94, l_95, l_96, l_97, l_98, l_99, l_100, l_101, l_102, l_103, l_104, l_105, l_106, l_107, l_108, l_109, l_110, l_111, l_121, l_122, l_160, l_200, l_201, l_240, l_255, l_361, l_390, l_499, l_500, l_999, l_1000, l_10000, l_10099, l_12345, l_16383, l_20000, l_20033, l_20038, l_20124, l_100000, l_1000000, l_1103515245, ui_oi, ck_oi, sb, jc_e, bl_0, bl_1, le_oi, lt_oi, eq_oi, add_oi, mul_oi, div_oi, ir_oi, gi_e, gi_n, if_true, if_false, if_pos, if_neg, true_and, and_true, false_and, and_false, true_or, or_true, false_or, or_false, hh, c_st hF.b hb hk, h]
theorem c_pass (hV : VL 0 M d c) (hF : FL w M d) (hW : WF d) (ha : a ≤ d 0) (hw : Wc w) : ∃ M', F_X10_pass M w (oi a) = some (oi (zWo d c a), M') ∧ FL w M' (zN d c a) ∧ Oc [w, w + 1, w + 2, 47] M M' := by
  obtain ⟨M1, e1, hF1, hO1⟩ := c_act hV hF hW ha hw
  obtain ⟨e, he⟩ : ∃ e, e = zAd d c a := ⟨_, rfl⟩
  have h0 := hW.1
  have hWe : WF e := by rw [he]; exact zAd_w hW ha
  have hSe : Sd d e := by rw [he]; exact zAd_sd (by omega)
  have e0 : e 0 = d 0 := hSe.o (by omega)
  have e11 : e 1 = d 1 := by rw [he]; exact zAd_1 (by omega)
  have hV1 : VL 0 M1 e c := (hV.oc hO1 (Wc_V hw)).sd hSe
  have hb := hWe.2.2.2.2.2.1
  have hN : zHe (zE d c a) = zHe (zLe e (d 0)) := by rw [he]; rfl
  have hA := zAw_le (c := c) hW ha
  rw [e1]
  unfold zWo
  rw [hN]
  rw [← he] at hF1
  have hSL : ∀ j, j ≤ d 0 → zSum (zHe (zLe e (d 0))) j ≤ 18 := fun j hj => by
    have : zSum (zHe (zLe e (d 0))) j ≤ j * 3 := zSum_le (fun i hi => by rw [← hN]; exact zHe_le hW ha (by omega))
    omega
  refine (lp_inv (L := fun m (x : Mm × Int32) y => F_X10_pass_L79 w m x.1 x.2 y) (n := d 0) (I := fun j x => x.2 = oi (zAw d c a + zSum (zHe (zLe e (d 0))) j) ∧ (∀ i, i < 6 → gi x.1 (w + 1) i = oi (zF (zLe e j) i)) ∧ Oc [w + 1] M1 x.1) (Q := fun r => r.1 = oi (zAw d c a + zSum (zHe (zLe e (d 0))) (d 0)) ∧ FL w r.2 (zN d c a) ∧ Oc [w, w + 1] M1 r.2) (fun j m x hj hI => ?_) (fun m x hI => ?_) (d 0) 0 1000 (M1, oi (zAw d c a)) (by omega) (by omega) ⟨rfl, fun i hi => (hF1.f hi).trans (by rw [zLe_f, if_neg (by omega)]), Oc.rf⟩).elim (fun r hr => ?_)
  · obtain ⟨A, s⟩ := x
    obtain ⟨i1, i2, i3⟩ := hI
    dsimp only at i1 i2 i3 ⊢
    subst i1
    have hj6 : j < 6 := by omega
    obtain ⟨b1, b2, b3, b4, b5, b6⟩ := hb j hj6
    have hlk := zLk_le hWe hj6
    have hVA : VL 0 A e c := hV1.oc i3 (by
      intro x hx q
      exact Wc_V hw x hx (by simp at q ⊢; omega))
    have hbA : gi A w 2 = oi (zBi e) := (i3.g (by simp)).trans hF1.b
    have htA : gi A w 3 = oi (e 1) := (i3.g (by simp)).trans hF1.t
    have hfj : gi A (w + 1) j = oi (zF e j) := by rw [i2 j hj6, zLe_f, if_neg (by omega)]
    have hle := hSL j (by omega)
    have hlk2 := c_lk hVA hbA htA hWe hj6
    have hst2 := c_st hbA hb hj6
    have hls : zLs e j ≤ 22 := by unfold zLs; split <;> omega
    refine ⟨(si A (w + 1) j (oi (zF e j - zLs e j)), oi (zAw d c a + zSum (zHe (zLe e (d 0))) j + zHe (zLe e (d 0)) j)), ⟨by show oi _ = oi (zAw d c a + (zSum (zHe (zLe e (d 0))) j + zHe (zLe e (d 0)) j)); rw [Nat.add_assoc], fun i hi => ?_, i3.tr (Oc.si (S := [w + 1]) (by simp)) (fun c hc => ⟨hc, hc⟩)⟩, ?_⟩
    · try dsimp only
      rw [zLe_f]
      by_cases hij : i = j
      · subst hij
        rw [gi_e, if_pos (by omega)]
      · rw [gi_n (by omega), i2 i hi, zLe_f]
        congr 1
        by_cases h8 : i < j
        · rw [if_pos h8, if_pos (by omega)]
        · rw [if_neg h8, if_neg (by omega)]
    · try dsimp only
      rw [F_X10_pass_L79]
      unfold zHe
      rw [zLe_s, zLe_f, if_pos hj]
      unfold zLs at hls ⊢
      rcases (by omega : zS e j = 0 ∨ zS e j = 1) with h | h
      · simp only [if_neg (show ¬ zS e j = 1 by omega)] at hls ⊢
        simp (disch := omega) only [l_0, l_1, l_2, l_3, l_4, l_5, l_6, l_7, l_8, l_9, l_10, l_11, l_12, l_13, l_14, l_15, l_16, l_17, l_18, l_19, l_20, l_21, l_22, l_23, l_24, l_25, l_26, l_27, l_28, l_29, l_30, l_31, l_32, l_33, l_34, l_35, l_36, l_37, l_38, l_39, l_40, l_41, l_42, l_43, l_44, l_45, l_46, l_47, l_48, l_49, l_50, l_51, l_52, l_53, l_54, l_55, l_56, l_57, l_58, l_59, l_60, l_61, l_62, l_63, l_64, l_65, l_66, l_67, l_68, l_69, l_70, l_71, l_72, l_73, l_74, l_75, l_76, l_77, l_78, l_79, l_80, l_81, l_82, l_83, l_84, l_85, l_86, l_87, l_88, l_89, l_90, l_91, l_92, l_93, l_94, l_95, l_96, l_97, l_98, l_99, l_100, l_101, l_102, l_103, l_104, l_105, l_106, l_107, l_108, l_109, l_110, l_111, l_121, l_122, l_160, l_200, l_201, l_240, l_255, l_361, l_390, l_499, l_500, l_999, l_1000, l_10000, l_10099, l_12345, l_16383, l_20000, l_20033, l_20038, l_20124, l_100000, l_1000000, l_1103515245, ui_oi, ck_oi, sb, jc_e, bl_0, bl_1, le_oi, lt_oi, eq_oi, add_oi, mul_oi, div_oi, ir_oi, gi_e, gi_n, if_true, if_false, if_pos, if_neg, true_and, and_true, false_and, and_false, true_or, or_true, false_or, or_false, hVA.n, e0, hst2, h, hlk2, hfj, mxs_oi, Nat.zero_mul, Nat.add_zero]
      · simp only [if_pos h] at hls ⊢
        simp (disch := omega) only [l_0, l_1, l_2, l_3, l_4, l_5, l_6, l_7, l_8, l_9, l_10, l_11, l_12, l_13, l_14, l_15, l_16, l_17, l_18, l_19, l_20, l_21, l_22, l_23, l_24, l_25, l_26, l_27, l_28, l_29, l_30, l_31, l_32, l_33, l_34, l_35, l_36, l_37, l_38, l_39, l_40, l_41, l_42, l_43, l_44, l_45, l_46, l_47, l_48, l_49, l_50, l_51, l_52, l_53, l_54, l_55, l_56, l_57, l_58, l_59, l_60, l_61, l_62, l_63, l_64, l_65, l_66, l_67, l_68, l_69, l_70, l_71, l_72, l_73, l_74, l_75, l_76, l_77, l_78, l_79, l_80, l_81, l_82, l_83, l_84, l_85, l_86, l_87, l_88, l_89, l_90, l_91, l_92, l_93, l_94, l_95, l_96, l_97, l_98, l_99, l_100, l_101, l_102, l_103, l_104, l_105, l_106, l_107, l_108, l_109, l_110, l_111, l_121, l_122, l_160, l_200, l_201, l_240, l_255, l_361, l_390, l_499, l_500, l_999, l_1000, l_10000, l_10099, l_12345, l_16383, l_20000, l_20033, l_20038, l_20124, l_100000, l_1000000, l_1103515245, ui_oi, ck_oi, sb, jc_e, bl_0, bl_1, le_oi, lt_oi, eq_oi, add_oi, mul_oi, div_oi, ir_oi, gi_e, gi_n, if_true, if_false, if_pos, if_neg, true_and, and_true, false_and, and_false, true_or, or_true, false_or, or_false, hVA.n, e0, hst2, h, hlk2, hfj, mxs_oi, Nat.one_mul]
  · obtain ⟨A, s⟩ := x
    obtain ⟨i1, i2, i3⟩ := hI
    dsimp only at i1 i2 i3 ⊢
    subst i1
    have hVA : VL 0 A e c := hV1.oc i3 (by
      intro x hx q
      exact Wc_V hw x hx (by simp at q ⊢; omega))
    have hbA : gi A w 2 = oi (zBi e) := (i3.g (by simp)).trans hF1.b
    have htA : gi A w 3 = oi (e 1) := (i3.g (by simp)).trans hF1.t
    refine ⟨(oi (zAw d c a + zSum (zHe (zLe e (d 0))) (d 0)), si A w 3 (oi (d 1 + 1))), ?_, rfl, ⟨fun i hi => ⟨?_, ?_⟩, ?_, ?_⟩, ?_⟩
    · rw [F_X10_pass_L79]
      simp (disch := omega) only [l_0, l_1, l_2, l_3, l_4, l_5, l_6, l_7, l_8, l_9, l_10, l_11, l_12, l_13, l_14, l_15, l_16, l_17, l_18, l_19, l_20, l_21, l_22, l_23, l_24, l_25, l_26, l_27, l_28, l_29, l_30, l_31, l_32, l_33, l_34, l_35, l_36, l_37, l_38, l_39, l_40, l_41, l_42, l_43, l_44, l_45, l_46, l_47, l_48, l_49, l_50, l_51, l_52, l_53, l_54, l_55, l_56, l_57, l_58, l_59, l_60, l_61, l_62, l_63, l_64, l_65, l_66, l_67, l_68, l_69, l_70, l_71, l_72, l_73, l_74, l_75, l_76, l_77, l_78, l_79, l_80, l_81, l_82, l_83, l_84, l_85, l_86, l_87, l_88, l_89, l_90, l_91, l_92, l_93, l_94, l_95, l_96, l_97, l_98, l_99, l_100, l_101, l_102, l_103, l_104, l_105, l_106, l_107, l_108, l_109, l_110, l_111, l_121, l_122, l_160, l_200, l_201, l_240, l_255, l_361, l_390, l_499, l_500, l_999, l_1000, l_10000, l_10099, l_12345, l_16383, l_20000, l_20033, l_20038, l_20124, l_100000, l_1000000, l_1103515245, ui_oi, ck_oi, sb, jc_e, bl_0, bl_1, le_oi, lt_oi, eq_oi, add_oi, mul_oi, div_oi, ir_oi, gi_e, gi_n, if_true, if_false, if_pos, if_neg, true_and, and_true, false_and, and_false, true_or, or_true, false_or, or_false, hVA.n, e0, htA, e11]
    · try dsimp only
      rw [gi_n (by omega), i2 i hi, zN_f]
      unfold zE
      rw [he]
    · try dsimp only
      rw [gi_n (by omega), i3.g (by simp), hF1.c hi, zN_c, he]
    · try dsimp only
      rw [gi_n (by omega), hbA, zN_bi, he]
    · try dsimp only
      rw [gi_e, zN_1]
    · exact i3.tr (Oc.si (S := [w]) (by simp)) (fun c hc => ⟨fun q => hc (by simp at q ⊢; omega), fun q => hc (by simp at q ⊢; omega)⟩)
  · obtain ⟨s, A⟩ := r
    obtain ⟨q0, q1, q2, q3⟩ := hr
    dsimp only at q0 q1 q2 q3
    subst q1
    exact ⟨A, q0, q2, hO1.tr q3 (fun c hc => ⟨hc, fun q => hc (by simp at q ⊢; omega)⟩)⟩
end CP

/-! CALLS: feed, keep, again -/
section TA
variable {M N M' N' : Mm} {d d' : Nat → Nat} {c : Cnd}
theorem nar_b (x : Int32) : vp_nar .byte (tb8 x) = tb8 x := by
  show (tb8 x).toInt8.toInt32 = tb8 x
  show (x.toInt8.toInt32).toInt8.toInt32 = x.toInt8.toInt32
  rw [Int8.toInt8_toInt32]
theorem byte_rel (y : Int64) : ∃ b, b < 256 ∧ Int64.toInt32 (y &&& 255) = oi b ∧ vp_nar .byte (tb8 (Int64.toInt32 y)) = tb8 (oi b) := by
  have h2 : Int64.toInt32 (y &&& 255) = y.toInt32 &&& 255 := by rw [Int64.toInt32_and]; rfl
  have hb : y.toInt32.toBitVec.toNat % 256 < 256 := Nat.mod_lt _ (by omega)
  have h3 : y.toInt32 &&& 255 = oi (y.toInt32.toBitVec.toNat % 256) := by
    apply Int32.toBitVec_inj.1
    apply BitVec.eq_of_toNat_eq
    have e1 : (y.toInt32 &&& 255).toBitVec.toNat = y.toInt32.toBitVec.toNat &&& 255 := by
      rw [Int32.toBitVec_and, BitVec.toNat_and]
      rfl
    have e2 : (oi (y.toInt32.toBitVec.toNat % 256)).toBitVec.toNat = (y.toInt32.toBitVec.toNat % 256) % 2 ^ 32 := BitVec.toNat_ofNat _ _
    have e3 := Nat.and_two_pow_sub_one_eq_mod y.toInt32.toBitVec.toNat 8
    rw [e1, e2, Nat.mod_eq_of_lt (a := y.toInt32.toBitVec.toNat % 256) (by omega)]
    exact e3
  refine ⟨y.toInt32.toBitVec.toNat % 256, hb, by rw [h2, h3], ?_⟩
  rw [nar_b, ← h3]
  show (y.toInt32).toInt8.toInt32 = (y.toInt32 &&& 255).toInt8.toInt32
  rw [Int32.toInt8_and, show (255 : Int32).toInt8 = -1 by decide, Int8.and_neg_one]
theorem c_feedL {t n : Nat} (v : Int64) (ht : t + n ≤ 200) (h : gi M 0 7 = oi t) : ∃ M', F_X11_feed_L30 v (oi n) 1000 M (oi 0) = some (oi (t + n), M') ∧ gi M' 0 7 = oi (t + n) ∧ (∀ i, i < n → gi M' 6 (t + i) = vp_nar .byte (tb8 (Int64.toInt32 (v >>> (Int32.toInt64 (oi (8 * i)) &&& 63))))) ∧ (∀ i, i < t → gi M' 6 i = gi M 6 i) ∧ Oc [0, 6] M M' ∧ (∀ j, j ≠ 7 → gi M' 0 j = gi M 0 j) := by
  refine (lp_inv (L := fun m (x : Mm) y => F_X11_feed_L30 v (oi n) m x y) (n := n) (I := fun j x => gi x 0 7 = oi (t + j) ∧ (∀ i, i < j → gi x 6 (t + i) = vp_nar .byte (tb8 (Int64.toInt32 (v >>> (Int32.toInt64 (oi (8 * i)) &&& 63))))) ∧ (∀ i, i < t → gi x 6 i = gi M 6 i) ∧ Oc [0, 6] M x ∧ (∀ j, j ≠ 7 → gi x 0 j = gi M 0 j)) (Q := fun r => r.1 = oi (t + n) ∧ gi r.2 0 7 = oi (t + n) ∧ (∀ i, i < n → gi r.2 6 (t + i) = vp_nar .byte (tb8 (Int64.toInt32 (v >>> (Int32.toInt64 (oi (8 * i)) &&& 63))))) ∧ (∀ i, i < t → gi r.2 6 i = gi M 6 i) ∧ Oc [0, 6] M r.2 ∧ (∀ j, j ≠ 7 → gi r.2 0 j = gi M 0 j)) (fun j m x hj hI => ?_) (fun m x hI => ?_) n 0 1000 M (by omega) (by omega) ⟨h, fun i hi => by omega, fun _ _ => rfl, Oc.rf, fun _ _ => rfl⟩).elim (fun r hr => ?_)
  · obtain ⟨i0, i1, i2, i3, i4⟩ := hI
    refine ⟨si (si x 6 (t + j) (vp_nar .byte (tb8 (Int64.toInt32 (v >>> (Int32.toInt64 (oi (8 * j)) &&& 63)))))) 0 7 (oi (t + j + 1)), ⟨gi_e, fun i hi => ?_, fun i hi => ?_, i3.tr ((Oc.si (S := [0, 6]) (by simp)).tr (Oc.si (S := [0, 6]) (by simp)) (fun c hc => ⟨hc, hc⟩)) (fun c hc => ⟨hc, hc⟩), fun i hi => ?_⟩, ?_⟩
    · rw [gi_n (by omega)]
      by_cases hij : i = j
      · subst hij
        rw [gi_e]
      · rw [gi_n (by omega)]
        exact i1 i (by omega)
    · simp (disch := omega) only [gi_n]
      exact i2 i hi
    · simp (disch := omega) only [gi_n]
      exact i4 i hi
    · try dsimp only
      rw [F_X11_feed_L30]
      simp (disch := omega) only [l_0, l_1, l_2, l_3, l_4, l_5, l_6, l_7, l_8, l_9, l_10, l_11, l_12, l_13, l_14, l_15, l_16, l_17, l_18, l_19, l_20, l_21, l_22, l_23, l_24, l_25, l_26, l_27, l_28, l_29, l_30, l_31, l_32, l_33, l_34, l_35, l_36, l_37, l_38, l_39, l_40, l_41, l_42, l_43, l_44, l_45, l_46, l_47, l_48, l_49, l_50, l_51, l_52, l_53, l_54, l_55, l_56, l_57, l_58, l_59, l_60, l_61, l_62, l_63, l_64, l_65, l_66, l_67, l_68, l_69, l_70, l_71, l_72, l_73, l_74, l_75, l_76, l_77, l_78, l_79, l_80, l_81, l_82, l_83, l_84, l_85, l_86, l_87, l_88, l_89, l_90, l_91, l_92, l_93, l_94, l_95, l_96, l_97, l_98, l_99, l_100, l_101, l_102, l_103, l_104, l_105, l_106, l_107, l_108, l_109, l_110, l_111, l_121, l_122, l_160, l_200, l_201, l_240, l_255, l_361, l_390, l_499, l_500, l_999, l_1000, l_10000, l_10099, l_12345, l_16383, l_20000, l_20033, l_20038, l_20124, l_100000, l_1000000, l_1103515245, ui_oi, ck_oi, sb, jc_e, bl_0, bl_1, le_oi, lt_oi, eq_oi, add_oi, mul_oi, div_oi, ir_oi, gi_e, gi_n, if_true, if_false, if_pos, if_neg, true_and, and_true, false_and, and_false, true_or, or_true, false_or, or_false, i0]
  · obtain ⟨i0, i1, i2, i3, i4⟩ := hI
    refine ⟨(oi (t + n), x), ?_, rfl, i0, i1, i2, i3, i4⟩
    try dsimp only
    rw [F_X11_feed_L30]
    simp (disch := omega) only [l_0, l_1, l_2, l_3, l_4, l_5, l_6, l_7, l_8, l_9, l_10, l_11, l_12, l_13, l_14, l_15, l_16, l_17, l_18, l_19, l_20, l_21, l_22, l_23, l_24, l_25, l_26, l_27, l_28, l_29, l_30, l_31, l_32, l_33, l_34, l_35, l_36, l_37, l_38, l_39, l_40, l_41, l_42, l_43, l_44, l_45, l_46, l_47, l_48, l_49, l_50, l_51, l_52, l_53, l_54, l_55, l_56, l_57, l_58, l_59, l_60, l_61, l_62, l_63, l_64, l_65, l_66, l_67, l_68, l_69, l_70, l_71, l_72, l_73, l_74, l_75, l_76, l_77, l_78, l_79, l_80, l_81, l_82, l_83, l_84, l_85, l_86, l_87, l_88, l_89, l_90, l_91, l_92, l_93, l_94, l_95, l_96, l_97, l_98, l_99, l_100, l_101, l_102, l_103, l_104, l_105, l_106, l_107, l_108, l_109, l_110, l_111, l_121, l_122, l_160, l_200, l_201, l_240, l_255, l_361, l_390, l_499, l_500, l_999, l_1000, l_10000, l_10099, l_12345, l_16383, l_20000, l_20033, l_20038, l_20124, l_100000, l_1000000, l_1103515245, ui_oi, ck_oi, sb, jc_e, bl_0, bl_1, le_oi, lt_oi, eq_oi, add_oi, mul_oi, div_oi, ir_oi, gi_e, gi_n, if_true, if_false, if_pos, if_neg, true_and, and_true, false_and, and_false, true_or, or_true, false_or, or_false, i0]
  · obtain ⟨a, A⟩ := r
    obtain ⟨q0, q1, q2⟩ := hr
    try dsimp only at q0 q1 q2
    subst q1
    exact ⟨A, q0, q2⟩
theorem r_feedL {t n : Nat} (v : Int64) (ht : t + n ≤ 200) (h : gi M 94 8 = oi t) : ∃ M', F_X12_feed_L32 v (oi n) 1000 M (oi 0) = some (oi (t + n), M') ∧ gi M' 94 8 = oi (t + n) ∧ (∀ i, i < n → gi M' 100 (t + i) = Int64.toInt32 ((v >>> (Int32.toInt64 (oi (8 * i)) &&& 63)) &&& 255)) ∧ (∀ i, i < t → gi M' 100 i = gi M 100 i) ∧ Oc [94, 100] M M' ∧ (∀ j, j ≠ 8 → gi M' 94 j = gi M 94 j) := by
  refine (lp_inv (L := fun m (x : Mm) y => F_X12_feed_L32 v (oi n) m x y) (n := n) (I := fun j x => gi x 94 8 = oi (t + j) ∧ (∀ i, i < j → gi x 100 (t + i) = Int64.toInt32 ((v >>> (Int32.toInt64 (oi (8 * i)) &&& 63)) &&& 255)) ∧ (∀ i, i < t → gi x 100 i = gi M 100 i) ∧ Oc [94, 100] M x ∧ (∀ j, j ≠ 8 → gi x 94 j = gi M 94 j)) (Q := fun r => r.1 = oi (t + n) ∧ gi r.2 94 8 = oi (t + n) ∧ (∀ i, i < n → gi r.2 100 (t + i) = Int64.toInt32 ((v >>> (Int32.toInt64 (oi (8 * i)) &&& 63)) &&& 255)) ∧ (∀ i, i < t → gi r.2 100 i = gi M 100 i) ∧ Oc [94, 100] M r.2 ∧ (∀ j, j ≠ 8 → gi r.2 94 j = gi M 94 j)) (fun j m x hj hI => ?_) (fun m x hI => ?_) n 0 1000 M (by omega) (by omega) ⟨h, fun i hi => by omega, fun _ _ => rfl, Oc.rf, fun _ _ => rfl⟩).elim (fun r hr => ?_)
  · obtain ⟨i0, i1, i2, i3, i4⟩ := hI
    refine ⟨si (si x 100 (t + j) (Int64.toInt32 ((v >>> (Int32.toInt64 (oi (8 * j)) &&& 63)) &&& 255))) 94 8 (oi (t + j + 1)), ⟨gi_e, fun i hi => ?_, fun i hi => ?_, i3.tr ((Oc.si (S := [94, 100]) (by simp)).tr (Oc.si (S := [94, 100]) (by simp)) (fun c hc => ⟨hc, hc⟩)) (fun c hc => ⟨hc, hc⟩), fun i hi => ?_⟩, ?_⟩
    · rw [gi_n (by omega)]
      by_cases hij : i = j
      · subst hij
        rw [gi_e]
      · rw [gi_n (by omega)]
        exact i1 i (by omega)
    · simp (disch := omega) only [gi_n]
      exact i2 i hi
    · simp (disch := omega) only [gi_n]
      exact i4 i hi
    · try dsimp only
      rw [F_X12_feed_L32]
      simp (disch := omega) only [l_0, l_1, l_2, l_3, l_4, l_5, l_6, l_7, l_8, l_9, l_10, l_11, l_12, l_13, l_14, l_15, l_16, l_17, l_18, l_19, l_20, l_21, l_22, l_23, l_24, l_25, l_26, l_27, l_28, l_29, l_30, l_31, l_32, l_33, l_34, l_35, l_36, l_37, l_38, l_39, l_40, l_41, l_42, l_43, l_44, l_45, l_46, l_47, l_48, l_49, l_50, l_51, l_52, l_53, l_54, l_55, l_56, l_57, l_58, l_59, l_60, l_61, l_62, l_63, l_64, l_65, l_66, l_67, l_68, l_69, l_70, l_71, l_72, l_73, l_74, l_75, l_76, l_77, l_78, l_79, l_80, l_81, l_82, l_83, l_84, l_85, l_86, l_87, l_88, l_89, l_90, l_91, l_92, l_93, l_94, l_95, l_96, l_97, l_98, l_99, l_100, l_101, l_102, l_103, l_104, l_105, l_106, l_107, l_108, l_109, l_110, l_111, l_121, l_122, l_160, l_200, l_201, l_240, l_255, l_361, l_390, l_499, l_500, l_999, l_1000, l_10000, l_10099, l_12345, l_16383, l_20000, l_20033, l_20038, l_20124, l_100000, l_1000000, l_1103515245, ui_oi, ck_oi, sb, jc_e, bl_0, bl_1, le_oi, lt_oi, eq_oi, add_oi, mul_oi, div_oi, ir_oi, gi_e, gi_n, if_true, if_false, if_pos, if_neg, true_and, and_true, false_and, and_false, true_or, or_true, false_or, or_false, i0]
  · obtain ⟨i0, i1, i2, i3, i4⟩ := hI
    refine ⟨(oi (t + n), x), ?_, rfl, i0, i1, i2, i3, i4⟩
    try dsimp only
    rw [F_X12_feed_L32]
    simp (disch := omega) only [l_0, l_1, l_2, l_3, l_4, l_5, l_6, l_7, l_8, l_9, l_10, l_11, l_12, l_13, l_14, l_15, l_16, l_17, l_18, l_19, l_20, l_21, l_22, l_23, l_24, l_25, l_26, l_27, l_28, l_29, l_30, l_31, l_32, l_33, l_34, l_35, l_36, l_37, l_38, l_39, l_40, l_41, l_42, l_43, l_44, l_45, l_46, l_47, l_48, l_49, l_50, l_51, l_52, l_53, l_54, l_55, l_56, l_57, l_58, l_59, l_60, l_61, l_62, l_63, l_64, l_65, l_66, l_67, l_68, l_69, l_70, l_71, l_72, l_73, l_74, l_75, l_76, l_77, l_78, l_79, l_80, l_81, l_82, l_83, l_84, l_85, l_86, l_87, l_88, l_89, l_90, l_91, l_92, l_93, l_94, l_95, l_96, l_97, l_98, l_99, l_100, l_101, l_102, l_103, l_104, l_105, l_106, l_107, l_108, l_109, l_110, l_111, l_121, l_122, l_160, l_200, l_201, l_240, l_255, l_361, l_390, l_499, l_500, l_999, l_1000, l_10000, l_10099, l_12345, l_16383, l_20000, l_20033, l_20038, l_20124, l_100000, l_1000000, l_1103515245, ui_oi, ck_oi, sb, jc_e, bl_0, bl_1, le_oi, lt_oi, eq_oi, add_oi, mul_oi, div_oi, ir_oi, gi_e, gi_n, if_true, if_false, if_pos, if_neg, true_and, and_true, false_and, and_false, true_or, or_true, false_or, or_false, i0]
  · obtain ⟨a, A⟩ := r
    obtain ⟨q0, q1, q2⟩ := hr
    try dsimp only at q0 q1 q2
    subst q1
    exact ⟨A, q0, q2⟩
/-- all pieces but the tape -/
theorem Inv.fe (hI : Inv M N) (hO : Oc [0, 6] M M') (hP : Oc [94, 100] N N') (h7 : ∀ j, j ≠ 7 → gi M' 0 j = gi M 0 j) (h9 : ∀ j, j ≠ 8 → gi N' 94 j = gi N 94 j) (h : IT M' N') : Inv M' N' ∧ (∀ x, 94 ≤ x → M'.1 x = M.1 x) ∧ (∀ x, x < 94 → N'.1 x = N.1 x) := by
  obtain ⟨⟨d, c, hV, hF, h3, h4, hRI, hW, hA⟩, a1, a2, a3, a4, a5, a6⟩ := hI
  have e1 : ∀ x j, x ≠ 0 → x ≠ 6 → gi M' x j = gi M x j := fun x j q1 q2 => hO.g (by simp; omega)
  have e2 : ∀ x j, x ≠ 94 → x ≠ 100 → gi N' x j = gi N x j := fun x j q1 q2 => hP.g (by simp; omega)
  refine ⟨⟨⟨d, c, hV.oc hO (fun x hx => by unfold Vc at hx; simp at hx ⊢; omega), hF.oc hO (by simp) (by simp) (by simp), (e1 _ _ (by omega) (by omega)).trans h3, (e1 _ _ (by omega) (by omega)).trans h4, hRI.oc hP (by simp), hW, (h9 4 (by omega)).trans hA⟩, a1.mv (h7 _ (by omega)) (h9 _ (by omega)) (fun x q1 q2 j => e1 _ _ (by omega) (by omega)) (fun j => e2 _ _ (by omega) (by omega)), h, a3.mv (h7 _ (by omega)) (h9 _ (by omega)) (fun j => e1 _ _ (by omega) (by omega)) (fun j => e2 _ _ (by omega) (by omega)), a4.mv (fun x q1 q2 j => e1 _ _ (by omega) (by omega)) (fun x q1 q2 j => e2 _ _ (by omega) (by omega)), a5.mv (fun x q1 q2 j => e1 _ _ (by omega) (by omega)) (fun x q1 q2 j => e2 _ _ (by omega) (by omega)), a6.mv (e1 _ _ (by omega) (by omega)) (h9 _ (by omega)) (fun j => e1 _ _ (by omega) (by omega)) (fun j => e2 _ _ (by omega) (by omega))⟩, fun x hx => hO x (by simp; omega), fun x hx => hP x (by simp; omega)⟩
theorem q_feed (v1 : Int64) (v3 : Int32) : Cl (fun M => F_X11_feed M v1 v3) (fun M => F_X12_feed M v1 v3) := by
  intro M N hI
  obtain ⟨t, ht, h1, h2, h3⟩ := hI.2.2.1
  try dsimp only
  unfold F_X11_feed F_X12_feed
  rcases win v3 1 8 (by omega) (by omega) with ⟨n, hn0, hn, rfl, e1⟩ | ⟨e1, -⟩
  · by_cases hq : t + n ≤ 200
    · obtain ⟨M', g1, g2, g3, g4, g5, g6⟩ := c_feedL v1 hq h1
      obtain ⟨N', k1, k2, k3, k4, k5, k6⟩ := r_feedL v1 hq h2
      obtain ⟨y1, y2, y3⟩ := Inv.fe hI g5 k5 g6 k6 ⟨t + n, hq, g2, k2, fun i hi => by
        by_cases hit : i < t
        · rw [g4 i hit, k4 i hit]
          exact h3 i hit
        · obtain ⟨j, rfl⟩ : ∃ j, i = t + j := ⟨i - t, by omega⟩
          rw [g3 j (by omega), k3 j (by omega)]
          exact byte_rel _⟩
      exact ⟨oi (t + n), M', N', by simp (disch := omega) only [l_0, l_1, l_2, l_3, l_4, l_5, l_6, l_7, l_8, l_9, l_10, l_11, l_12, l_13, l_14, l_15, l_16, l_17, l_18, l_19, l_20, l_21, l_22, l_23, l_24, l_25, l_26, l_27, l_28, l_29, l_30, l_31, l_32, l_33, l_34, l_35, l_36, l_37, l_38, l_39, l_40, l_41, l_42, l_43, l_44, l_45, l_46, l_47, l_48, l_49, l_50, l_51, l_52, l_53, l_54, l_55, l_56, l_57, l_58, l_59, l_60, l_61, l_62, l_63, l_64, l_65, l_66, l_67, l_68, l_69, l_70, l_71, l_72, l_73, l_74, l_75, l_76, l_77, l_78, l_79, l_80, l_81, l_82, l_83, l_84, l_85, l_86, l_87, l_88, l_89, l_90, l_91, l_92, l_93, l_94, l_95, l_96, l_97, l_98, l_99, l_100, l_101, l_102, l_103, l_104, l_105, l_106, l_107, l_108, l_109, l_110, l_111, l_121, l_122, l_160, l_200, l_201, l_240, l_255, l_361, l_390, l_499, l_500, l_999, l_1000, l_10000, l_10099, l_12345, l_16383, l_20000, l_20033, l_20038, l_20124, l_100000, l_1000000, l_1103515245, ui_oi, ck_oi, sb, jc_e, bl_0, bl_1, le_oi, lt_oi, eq_oi, add_oi, mul_oi, div_oi, ir_oi, gi_e, gi_n, if_true, if_false, if_pos, if_neg, true_and, and_true, false_and, and_false, true_or, or_true, false_or, or_false, m_0, m_1, m_2, m_3, m_4, m_5, m_8, m_9, m_10, m_14, m_15, m_16, m_20, m_40, m_99, m_999, m_neg, in_within, e1, h1, g1], by simp (disch := omega) only [l_0, l_1, l_2, l_3, l_4, l_5, l_6, l_7, l_8, l_9, l_10, l_11, l_12, l_13, l_14, l_15, l_16, l_17, l_18, l_19, l_20, l_21, l_22, l_23, l_24, l_25, l_26, l_27, l_28, l_29, l_30, l_31, l_32, l_33, l_34, l_35, l_36, l_37, l_38, l_39, l_40, l_41, l_42, l_43, l_44, l_45, l_46, l_47, l_48, l_49, l_50, l_51, l_52, l_53, l_54, l_55, l_56, l_57, l_58, l_59, l_60, l_61, l_62, l_63, l_64, l_65, l_66, l_67, l_68, l_69, l_70, l_71, l_72, l_73, l_74, l_75, l_76, l_77, l_78, l_79, l_80, l_81, l_82, l_83, l_84, l_85, l_86, l_87, l_88, l_89, l_90, l_91, l_92, l_93, l_94, l_95, l_96, l_97, l_98, l_99, l_100, l_101, l_102, l_103, l_104, l_105, l_106, l_107, l_108, l_109, l_110, l_111, l_121, l_122, l_160, l_200, l_201, l_240, l_255, l_361, l_390, l_499, l_500, l_999, l_1000, l_10000, l_10099, l_12345, l_16383, l_20000, l_20033, l_20038, l_20124, l_100000, l_1000000, l_1103515245, ui_oi, ck_oi, sb, jc_e, bl_0, bl_1, le_oi, lt_oi, eq_oi, add_oi, mul_oi, div_oi, ir_oi, gi_e, gi_n, if_true, if_false, if_pos, if_neg, true_and, and_true, false_and, and_false, true_or, or_true, false_or, or_false, m_0, m_1, m_2, m_3, m_4, m_5, m_8, m_9, m_10, m_14, m_15, m_16, m_20, m_40, m_99, m_999, m_neg, in_within, e1, h2, k1], y1, y2, y3⟩
    · exact ⟨-2, M, N, by simp (disch := omega) only [l_0, l_1, l_2, l_3, l_4, l_5, l_6, l_7, l_8, l_9, l_10, l_11, l_12, l_13, l_14, l_15, l_16, l_17, l_18, l_19, l_20, l_21, l_22, l_23, l_24, l_25, l_26, l_27, l_28, l_29, l_30, l_31, l_32, l_33, l_34, l_35, l_36, l_37, l_38, l_39, l_40, l_41, l_42, l_43, l_44, l_45, l_46, l_47, l_48, l_49, l_50, l_51, l_52, l_53, l_54, l_55, l_56, l_57, l_58, l_59, l_60, l_61, l_62, l_63, l_64, l_65, l_66, l_67, l_68, l_69, l_70, l_71, l_72, l_73, l_74, l_75, l_76, l_77, l_78, l_79, l_80, l_81, l_82, l_83, l_84, l_85, l_86, l_87, l_88, l_89, l_90, l_91, l_92, l_93, l_94, l_95, l_96, l_97, l_98, l_99, l_100, l_101, l_102, l_103, l_104, l_105, l_106, l_107, l_108, l_109, l_110, l_111, l_121, l_122, l_160, l_200, l_201, l_240, l_255, l_361, l_390, l_499, l_500, l_999, l_1000, l_10000, l_10099, l_12345, l_16383, l_20000, l_20033, l_20038, l_20124, l_100000, l_1000000, l_1103515245, ui_oi, ck_oi, sb, jc_e, bl_0, bl_1, le_oi, lt_oi, eq_oi, add_oi, mul_oi, div_oi, ir_oi, gi_e, gi_n, if_true, if_false, if_pos, if_neg, true_and, and_true, false_and, and_false, true_or, or_true, false_or, or_false, m_0, m_1, m_2, m_3, m_4, m_5, m_8, m_9, m_10, m_14, m_15, m_16, m_20, m_40, m_99, m_999, m_neg, in_within, e1, h1], by simp (disch := omega) only [l_0, l_1, l_2, l_3, l_4, l_5, l_6, l_7, l_8, l_9, l_10, l_11, l_12, l_13, l_14, l_15, l_16, l_17, l_18, l_19, l_20, l_21, l_22, l_23, l_24, l_25, l_26, l_27, l_28, l_29, l_30, l_31, l_32, l_33, l_34, l_35, l_36, l_37, l_38, l_39, l_40, l_41, l_42, l_43, l_44, l_45, l_46, l_47, l_48, l_49, l_50, l_51, l_52, l_53, l_54, l_55, l_56, l_57, l_58, l_59, l_60, l_61, l_62, l_63, l_64, l_65, l_66, l_67, l_68, l_69, l_70, l_71, l_72, l_73, l_74, l_75, l_76, l_77, l_78, l_79, l_80, l_81, l_82, l_83, l_84, l_85, l_86, l_87, l_88, l_89, l_90, l_91, l_92, l_93, l_94, l_95, l_96, l_97, l_98, l_99, l_100, l_101, l_102, l_103, l_104, l_105, l_106, l_107, l_108, l_109, l_110, l_111, l_121, l_122, l_160, l_200, l_201, l_240, l_255, l_361, l_390, l_499, l_500, l_999, l_1000, l_10000, l_10099, l_12345, l_16383, l_20000, l_20033, l_20038, l_20124, l_100000, l_1000000, l_1103515245, ui_oi, ck_oi, sb, jc_e, bl_0, bl_1, le_oi, lt_oi, eq_oi, add_oi, mul_oi, div_oi, ir_oi, gi_e, gi_n, if_true, if_false, if_pos, if_neg, true_and, and_true, false_and, and_false, true_or, or_true, false_or, or_false, m_0, m_1, m_2, m_3, m_4, m_5, m_8, m_9, m_10, m_14, m_15, m_16, m_20, m_40, m_99, m_999, m_neg, in_within, e1, h2], hI, fun _ _ => rfl, fun _ _ => rfl⟩
  · exact ⟨-1, M, N, by simp (disch := omega) only [l_0, l_1, l_2, l_3, l_4, l_5, l_6, l_7, l_8, l_9, l_10, l_11, l_12, l_13, l_14, l_15, l_16, l_17, l_18, l_19, l_20, l_21, l_22, l_23, l_24, l_25, l_26, l_27, l_28, l_29, l_30, l_31, l_32, l_33, l_34, l_35, l_36, l_37, l_38, l_39, l_40, l_41, l_42, l_43, l_44, l_45, l_46, l_47, l_48, l_49, l_50, l_51, l_52, l_53, l_54, l_55, l_56, l_57, l_58, l_59, l_60, l_61, l_62, l_63, l_64, l_65, l_66, l_67, l_68, l_69, l_70, l_71, l_72, l_73, l_74, l_75, l_76, l_77, l_78, l_79, l_80, l_81, l_82, l_83, l_84, l_85, l_86, l_87, l_88, l_89, l_90, l_91, l_92, l_93, l_94, l_95, l_96, l_97, l_98, l_99, l_100, l_101, l_102, l_103, l_104, l_105, l_106, l_107, l_108, l_109, l_110, l_111, l_121, l_122, l_160, l_200, l_201, l_240, l_255, l_361, l_390, l_499, l_500, l_999, l_1000, l_10000, l_10099, l_12345, l_16383, l_20000, l_20033, l_20038, l_20124, l_100000, l_1000000, l_1103515245, ui_oi, ck_oi, sb, jc_e, bl_0, bl_1, le_oi, lt_oi, eq_oi, add_oi, mul_oi, div_oi, ir_oi, gi_e, gi_n, if_true, if_false, if_pos, if_neg, true_and, and_true, false_and, and_false, true_or, or_true, false_or, or_false, m_0, m_1, m_2, m_3, m_4, m_5, m_8, m_9, m_10, m_14, m_15, m_16, m_20, m_40, m_99, m_999, m_neg, in_within, e1], by simp (disch := omega) only [l_0, l_1, l_2, l_3, l_4, l_5, l_6, l_7, l_8, l_9, l_10, l_11, l_12, l_13, l_14, l_15, l_16, l_17, l_18, l_19, l_20, l_21, l_22, l_23, l_24, l_25, l_26, l_27, l_28, l_29, l_30, l_31, l_32, l_33, l_34, l_35, l_36, l_37, l_38, l_39, l_40, l_41, l_42, l_43, l_44, l_45, l_46, l_47, l_48, l_49, l_50, l_51, l_52, l_53, l_54, l_55, l_56, l_57, l_58, l_59, l_60, l_61, l_62, l_63, l_64, l_65, l_66, l_67, l_68, l_69, l_70, l_71, l_72, l_73, l_74, l_75, l_76, l_77, l_78, l_79, l_80, l_81, l_82, l_83, l_84, l_85, l_86, l_87, l_88, l_89, l_90, l_91, l_92, l_93, l_94, l_95, l_96, l_97, l_98, l_99, l_100, l_101, l_102, l_103, l_104, l_105, l_106, l_107, l_108, l_109, l_110, l_111, l_121, l_122, l_160, l_200, l_201, l_240, l_255, l_361, l_390, l_499, l_500, l_999, l_1000, l_10000, l_10099, l_12345, l_16383, l_20000, l_20033, l_20038, l_20124, l_100000, l_1000000, l_1103515245, ui_oi, ck_oi, sb, jc_e, bl_0, bl_1, le_oi, lt_oi, eq_oi, add_oi, mul_oi, div_oi, ir_oi, gi_e, gi_n, if_true, if_false, if_pos, if_neg, true_and, and_true, false_and, and_false, true_or, or_true, false_or, or_false, m_0, m_1, m_2, m_3, m_4, m_5, m_8, m_9, m_10, m_14, m_15, m_16, m_20, m_40, m_99, m_999, m_neg, in_within, e1], hI, fun _ _ => rfl, fun _ _ => rfl⟩
end TA

/-! THE TEXT OF RULES: the class parts it; the reference reads on -/
def zPl (b : Nat → Nat) (n : Nat) : Nat → Nat
  | 0 => zSk b n 0
  | k + 1 => zSk b n (zE_ b n (zPl b n k))
def zTt (b : Nat → Nat) (n p : Nat) : Nat := if p < n then zTk b n p else 60
def zHs (b : Nat → Nat) (p : Nat) : Nat → Nat
  | 0 => 0
  | l + 1 => 27 * zHs b p l + (b (p + l) - 96)
def zHw (k : Nat) : Nat := [29596818, 16085, 15161, 55235, 8161, 60302, 10492070, 6477035, 55060, 249, 423, 1111, 10631, 400334, 124995, 1752851, 361373, 212302449].getD k 0
def zBy (k : Nat) : Nat := zTch (zSt k)
def TD (N : Mm) (t : Nat) : Prop := (t < 18 ∧ gi N 94 11 = oi 1 ∧ gl N = Int64.ofNat (zHw t)) ∨ (18 ≤ t ∧ t < 24 ∧ gi N 94 11 = oi 3 ∧ gl N = Int64.ofNat (zBy t)) ∨ (100 ≤ t ∧ t < 10100 ∧ gi N 94 11 = oi 2 ∧ gl N = Int64.ofNat (t - 100)) ∨ (t = 60 ∧ gi N 94 11 = oi 0) ∨ (t = 50 ∧ ((gi N 94 11 = oi 1 ∧ ∀ k, k < 18 → gl N ≠ Int64.ofNat (zHw k)) ∨ (gi N 94 11 = oi 3 ∧ ∀ k, 18 ≤ k → k < 24 → gl N ≠ Int64.ofNat (zBy k)) ∨ (gi N 94 11 = oi 2 ∧ gl N = Int64.ofNat 100000)))
def TY (N : Mm) (n : Nat) (b : Nat → Nat) : Prop := ∀ i, i < n → b i < 256 ∧ gi N 100 i = oi (b i)
theorem hw_all : ∀ k, k < 18 → zHs (fun i => zTch (zSt k + i)) 0 (zLn k) = zHw k ∧ ∀ i, i < zLn k → 97 ≤ zTch (zSt k + i) ∧ zTch (zSt k + i) ≤ 122 := by decide +kernel
theorem by_all : ∀ k, k < 24 → 18 ≤ k → zLn k = 1 ∧ zBy k < 97 ∧ (zBy k < 48 ∨ 57 < zBy k) := by decide +kernel
theorem l1_all : ∀ k, k < 18 → zLn k ≠ 1 := by decide +kernel
theorem hw_lt : ∀ k, k < 18 → zHw k < 1000000000 := by decide +kernel
theorem p27 : ∀ l, l ≤ 7 → 27 ^ l ≤ 10460353203 := by decide +kernel
section LY
variable {M N M' N' : Mm} {b w : Nat → Nat} {n p k len : Nat} {q : Nat → Bool}
theorem of64 {a c : Nat} (ha : a < 9223372036854775808) (hc : c < 9223372036854775808) : Int64.ofNat a = Int64.ofNat c ↔ a = c := by
  refine ⟨fun h => ?_, fun h => by rw [h]⟩
  have h2 := congrArg Int64.toInt h
  rw [Int64.toInt_ofNat_of_lt (by omega), Int64.toInt_ofNat_of_lt (by omega)] at h2
  omega
theorem o64 {a : Nat} (ha : a < 2147483648) : Int32.toInt64 (oi a) = Int64.ofNat a := by
  apply Int64.toInt_inj.mp
  rw [Int32.toInt_toInt64, toInt_oi ha, Int64.toInt_ofNat_of_lt (by omega)]
theorem zHs_lt (h : ∀ i, i < len → isL (b (p + i)) = true) : zHs b p len < 27 ^ len := by
  induction len with
  | zero => exact Nat.lt_succ_self 0
  | succ l ih =>
    have h1 := ih (fun i hi => h i (by omega))
    have h2 := of_decide_eq_true (h l (by omega))
    have e : 27 ^ (l + 1) = 27 ^ l * 27 := Nat.pow_succ 27 l
    rw [zHs, e]
    omega
theorem zHs_inj : ∀ l m, (∀ i, i < l → 97 ≤ b (p + i) ∧ b (p + i) ≤ 122) → (∀ i, i < m → 97 ≤ w i ∧ w i ≤ 122) → zHs b p l = zHs w 0 m → l = m ∧ ∀ i, i < l → b (p + i) = w i
  | 0, 0, _, _, _ => ⟨rfl, fun i hi => absurd hi (Nat.not_lt_zero i)⟩
  | 0, m + 1, _, h2, h => by
    have := h2 m (by omega)
    rw [zHs, zHs, Nat.zero_add] at h
    omega
  | l + 1, 0, h1, _, h => by
    have := h1 l (by omega)
    rw [zHs, zHs] at h
    omega
  | l + 1, m + 1, h1, h2, h => by
    have a1 := h1 l (by omega)
    have a2 := h2 m (by omega)
    rw [zHs, zHs, Nat.zero_add] at h
    obtain ⟨c1, c2⟩ := zHs_inj l m (fun i hi => h1 i (by omega)) (fun i hi => h2 i (by omega)) (by omega)
    subst c1
    refine ⟨rfl, fun i hi => ?_⟩
    by_cases hil : i = l
    · rw [hil]
      omega
    · exact c2 i (by omega)
theorem mt_hash (hk : k < 18) (h : ∀ i, i < len → isL (b (p + i)) = true) : zHs b p len = zHw k ↔ zMt b p len k = true := by
  obtain ⟨t1, t2⟩ := hw_all k hk
  refine ⟨fun q => ?_, fun q => ?_⟩
  · rw [← t1] at q
    obtain ⟨c1, c2⟩ := zHs_inj (w := fun i => zTch (zSt k + i)) len (zLn k) (fun i hi => of_decide_eq_true (h i hi)) t2 q
    exact decide_eq_true ⟨c1, c2⟩
  · obtain ⟨c1, c2⟩ := of_decide_eq_true q
    have key : ∀ l, l ≤ len → zHs b p l = zHs (fun i => zTch (zSt k + i)) 0 l := by
      intro l
      induction l with
      | zero => intro _; rfl
      | succ l ih =>
        intro hl
        rw [zHs, zHs, ih (by omega), c2 l (by omega), Nat.zero_add]
    rw [key len (Nat.le_refl _), c1, t1]
theorem zWd_spec : ∀ m k, k + m = 24 → (∃ j, k ≤ j ∧ j < 24 ∧ zMt b p len j = true ∧ zWdF b p len m k = j) ∨ ((∀ j, k ≤ j → j < 24 → zMt b p len j = false) ∧ zWdF b p len m k = 50)
  | 0, k, h => Or.inr ⟨fun j h1 h2 => by omega, rfl⟩
  | m + 1, k, h => by
    unfold zWdF
    by_cases q : zMt b p len k = true
    · rw [if_pos q]
      exact Or.inl ⟨k, Nat.le_refl _, by omega, q, rfl⟩
    · rw [if_neg q]
      rcases zWd_spec m (k + 1) (by omega) with ⟨j, a1, a2, a3, a4⟩ | ⟨a1, a2⟩
      · exact Or.inl ⟨j, by omega, a2, a3, a4⟩
      · refine Or.inr ⟨fun j h1 h2 => ?_, a2⟩
        by_cases hjk : j = k
        · rw [hjk]
          exact Bool.not_eq_true _ |>.mp q
        · exact a1 j (by omega) h2
theorem zE_sp (h : isO (b p) = true) : zE_ b n p = p + 1 := by
  have h1 := of_decide_eq_true h
  unfold zE_
  rw [if_neg (fun q => by have := of_decide_eq_true q; omega), if_neg (fun q => by have := of_decide_eq_true q; omega)]
theorem zSk_end : zSk b n n = n := by
  unfold zSk
  rw [Nat.sub_self]
  rfl
theorem TX.oc {S : List Nat} (h : TX M n b) (hO : Oc S M M') (hS : 6 ∉ S) : TX M' n b := fun i hi => ⟨(h i hi).1, (hO.g hS).trans (h i hi).2⟩
theorem TY.oc {S : List Nat} (h : TY N n b) (hO : Oc S N N') (hS : 100 ∉ S) : TY N' n b := fun i hi => ⟨(h i hi).1, (hO.g hS).trans (h i hi).2⟩
/-- the class parts the text -/
theorem c_partL (hn : n ≤ 200) : ∀ w q k i fu (M : Mm), n - q ≤ w → q ≤ n → k ≤ q → i ≤ q → w < fu → TX M n b → zSk b n q = zPl b n k → (∀ j, j < k → zPl b n j < n ∧ gi M 14 j = oi (zPl b n j) ∧ gi M 13 j = tI (zTk b n (zPl b n j))) → ∃ M' K, F_X6_part_L8 (oi n) fu M (oi k) (oi q) (oi i) = some M' ∧ K ≤ n ∧ (∀ j, j < K → zPl b n j < n ∧ gi M' 14 j = oi (zPl b n j) ∧ gi M' 13 j = tI (zTk b n (zPl b n j))) ∧ zPl b n K = n ∧ gi M' 14 K = oi n ∧ gi M' 13 K = - oi 1 ∧ Oc [13, 14] M M' := by
  intro w
  induction w with
  | zero =>
    intro q k i fu M hw hq hk hi hf hT hz hA
    obtain ⟨fu', rfl⟩ : ∃ q, fu = q + 1 := ⟨fu - 1, by omega⟩
    obtain rfl : q = n := by omega
    rw [zSk_end] at hz
    refine ⟨si (si M 14 k (oi q)) 13 k (- oi 1), k, ?_, hk, fun j hj => ⟨(hA j hj).1, by rw [gi_n (by omega), gi_n (by omega)]; exact (hA j hj).2.1, by rw [gi_n (by omega), gi_n (by omega)]; exact (hA j hj).2.2⟩, hz.symm, by rw [gi_n (by omega), gi_e], gi_e, (Oc.si (S := [13, 14]) (by simp)).tr (Oc.si (S := [13, 14]) (by simp)) (fun c hc => ⟨hc, hc⟩)⟩
    rw [F_X6_part_L8]
    by_cases h200 : 200 ≤ i <;> simp (disch := omega) only [l_0, l_1, l_2, l_3, l_4, l_5, l_6, l_7, l_8, l_9, l_10, l_11, l_12, l_13, l_14, l_15, l_16, l_17, l_18, l_19, l_20, l_21, l_22, l_23, l_24, l_25, l_26, l_27, l_28, l_29, l_30, l_31, l_32, l_33, l_34, l_35, l_36, l_37, l_38, l_39, l_40, l_41, l_42, l_43, l_44, l_45, l_46, l_47, l_48, l_49, l_50, l_51, l_52, l_53, l_54, l_55, l_56, l_57, l_58, l_59, l_60, l_61, l_62, l_63, l_64, l_65, l_66, l_67, l_68, l_69, l_70, l_71, l_72, l_73, l_74, l_75, l_76, l_77, l_78, l_79, l_80, l_81, l_82, l_83, l_84, l_85, l_86, l_87, l_88, l_89, l_90, l_91, l_92, l_93, l_94, l_95, l_96, l_97, l_98, l_99, l_100, l_101, l_102, l_103, l_104, l_105, l_106, l_107, l_108, l_109, l_110, l_111, l_121, l_122, l_160, l_200, l_201, l_240, l_255, l_361, l_390, l_499, l_500, l_999, l_1000, l_10000, l_10099, l_12345, l_16383, l_20000, l_20033, l_20038, l_20124, l_100000, l_1000000, l_1103515245, ui_oi, ck_oi, sb, jc_e, bl_0, bl_1, le_oi, lt_oi, eq_oi, add_oi, mul_oi, div_oi, ir_oi, gi_e, gi_n, if_true, if_false, if_pos, if_neg, true_and, and_true, false_and, and_false, true_or, or_true, false_or, or_false, ]
  | succ w ih =>
    intro q k i fu M hw hq hk hi hf hT hz hA
    obtain ⟨fu', rfl⟩ : ∃ q, fu = q + 1 := ⟨fu - 1, by omega⟩
    by_cases hqn : q = n
    · subst hqn
      rw [zSk_end] at hz
      refine ⟨si (si M 14 k (oi q)) 13 k (- oi 1), k, ?_, hk, fun j hj => ⟨(hA j hj).1, by rw [gi_n (by omega), gi_n (by omega)]; exact (hA j hj).2.1, by rw [gi_n (by omega), gi_n (by omega)]; exact (hA j hj).2.2⟩, hz.symm, by rw [gi_n (by omega), gi_e], gi_e, (Oc.si (S := [13, 14]) (by simp)).tr (Oc.si (S := [13, 14]) (by simp)) (fun c hc => ⟨hc, hc⟩)⟩
      rw [F_X6_part_L8]
      by_cases h200 : 200 ≤ i <;> simp (disch := omega) only [l_0, l_1, l_2, l_3, l_4, l_5, l_6, l_7, l_8, l_9, l_10, l_11, l_12, l_13, l_14, l_15, l_16, l_17, l_18, l_19, l_20, l_21, l_22, l_23, l_24, l_25, l_26, l_27, l_28, l_29, l_30, l_31, l_32, l_33, l_34, l_35, l_36, l_37, l_38, l_39, l_40, l_41, l_42, l_43, l_44, l_45, l_46, l_47, l_48, l_49, l_50, l_51, l_52, l_53, l_54, l_55, l_56, l_57, l_58, l_59, l_60, l_61, l_62, l_63, l_64, l_65, l_66, l_67, l_68, l_69, l_70, l_71, l_72, l_73, l_74, l_75, l_76, l_77, l_78, l_79, l_80, l_81, l_82, l_83, l_84, l_85, l_86, l_87, l_88, l_89, l_90, l_91, l_92, l_93, l_94, l_95, l_96, l_97, l_98, l_99, l_100, l_101, l_102, l_103, l_104, l_105, l_106, l_107, l_108, l_109, l_110, l_111, l_121, l_122, l_160, l_200, l_201, l_240, l_255, l_361, l_390, l_499, l_500, l_999, l_1000, l_10000, l_10099, l_12345, l_16383, l_20000, l_20033, l_20038, l_20124, l_100000, l_1000000, l_1103515245, ui_oi, ck_oi, sb, jc_e, bl_0, bl_1, le_oi, lt_oi, eq_oi, add_oi, mul_oi, div_oi, ir_oi, gi_e, gi_n, if_true, if_false, if_pos, if_neg, true_and, and_true, false_and, and_false, true_or, or_true, false_or, or_false, ]
    · have hlt : q < n := by omega
      obtain ⟨t1, t2⟩ := hT q hlt
      have hE := c_endOf hT hn hlt
      obtain ⟨e1, e2⟩ := zE_b (b := b) hlt
      have hsp := sp_all (b q) t1
      rw [← t2] at hsp
      by_cases ho : isO (b q) = true
      · have h1 := hsp.mpr ho
        obtain ⟨M', K, x1, x2⟩ := ih (zE_ b n q) k (i + 1) fu' M (by omega) (by omega) (by omega) (by omega) (by omega) hT (by rw [zE_sp ho, ← zSk_s hlt ho]; exact hz) hA
        refine ⟨M', K, ?_, x2⟩
        rw [F_X6_part_L8]
        simp (disch := omega) only [l_0, l_1, l_2, l_3, l_4, l_5, l_6, l_7, l_8, l_9, l_10, l_11, l_12, l_13, l_14, l_15, l_16, l_17, l_18, l_19, l_20, l_21, l_22, l_23, l_24, l_25, l_26, l_27, l_28, l_29, l_30, l_31, l_32, l_33, l_34, l_35, l_36, l_37, l_38, l_39, l_40, l_41, l_42, l_43, l_44, l_45, l_46, l_47, l_48, l_49, l_50, l_51, l_52, l_53, l_54, l_55, l_56, l_57, l_58, l_59, l_60, l_61, l_62, l_63, l_64, l_65, l_66, l_67, l_68, l_69, l_70, l_71, l_72, l_73, l_74, l_75, l_76, l_77, l_78, l_79, l_80, l_81, l_82, l_83, l_84, l_85, l_86, l_87, l_88, l_89, l_90, l_91, l_92, l_93, l_94, l_95, l_96, l_97, l_98, l_99, l_100, l_101, l_102, l_103, l_104, l_105, l_106, l_107, l_108, l_109, l_110, l_111, l_121, l_122, l_160, l_200, l_201, l_240, l_255, l_361, l_390, l_499, l_500, l_999, l_1000, l_10000, l_10099, l_12345, l_16383, l_20000, l_20033, l_20038, l_20124, l_100000, l_1000000, l_1103515245, ui_oi, ck_oi, sb, jc_e, bl_0, bl_1, le_oi, lt_oi, eq_oi, add_oi, mul_oi, div_oi, ir_oi, gi_e, gi_n, if_true, if_false, if_pos, if_neg, true_and, and_true, false_and, and_false, true_or, or_true, false_or, or_false, hE, h1, x1]
      · have h1 : ¬ gi M 6 q = oi 32 := fun q => ho (hsp.mp q)
        have hpq : zPl b n k = q := by rw [← hz, zSk_n hlt ho]
        have hO1 : Oc [13, 14] M (si M 14 k (oi q)) := Oc.si (by simp)
        have htk := c_token (hT.oc hO1 (by decide)) hn hlt
        obtain ⟨M1, hM1⟩ : ∃ M1, M1 = si (si M 14 k (oi q)) 13 k (tI (zTk b n q)) := ⟨_, rfl⟩
        have hO : Oc [13, 14] M M1 := by
          rw [hM1]
          exact hO1.tr (Oc.si (S := [13, 14]) (by simp)) (fun c hc => ⟨hc, hc⟩)
        obtain ⟨M', K, x1, x2, x3, x4, x5, x6, x7⟩ := ih (zE_ b n q) (k + 1) (i + 1) fu' M1 (by omega) (by omega) (by omega) (by omega) (by omega) (hT.oc hO (by decide)) (by rw [zPl, hpq]) (fun j hj => by
          by_cases hjk : j = k
          · subst hjk
            rw [hpq, hM1, gi_n (by omega), gi_e, gi_e]
            exact ⟨hlt, rfl, rfl⟩
          · rw [hM1]
            simp (disch := omega) only [gi_n]
            exact hA j (by omega))
        refine ⟨M', K, ?_, x2, x3, x4, x5, x6, hO.tr x7 (fun c hc => ⟨hc, hc⟩)⟩
        rw [F_X6_part_L8]
        simp (disch := omega) only [l_0, l_1, l_2, l_3, l_4, l_5, l_6, l_7, l_8, l_9, l_10, l_11, l_12, l_13, l_14, l_15, l_16, l_17, l_18, l_19, l_20, l_21, l_22, l_23, l_24, l_25, l_26, l_27, l_28, l_29, l_30, l_31, l_32, l_33, l_34, l_35, l_36, l_37, l_38, l_39, l_40, l_41, l_42, l_43, l_44, l_45, l_46, l_47, l_48, l_49, l_50, l_51, l_52, l_53, l_54, l_55, l_56, l_57, l_58, l_59, l_60, l_61, l_62, l_63, l_64, l_65, l_66, l_67, l_68, l_69, l_70, l_71, l_72, l_73, l_74, l_75, l_76, l_77, l_78, l_79, l_80, l_81, l_82, l_83, l_84, l_85, l_86, l_87, l_88, l_89, l_90, l_91, l_92, l_93, l_94, l_95, l_96, l_97, l_98, l_99, l_100, l_101, l_102, l_103, l_104, l_105, l_106, l_107, l_108, l_109, l_110, l_111, l_121, l_122, l_160, l_200, l_201, l_240, l_255, l_361, l_390, l_499, l_500, l_999, l_1000, l_10000, l_10099, l_12345, l_16383, l_20000, l_20033, l_20038, l_20124, l_100000, l_1000000, l_1103515245, ui_oi, ck_oi, sb, jc_e, bl_0, bl_1, le_oi, lt_oi, eq_oi, add_oi, mul_oi, div_oi, ir_oi, gi_e, gi_n, if_true, if_false, if_pos, if_neg, true_and, and_true, false_and, and_false, true_or, or_true, false_or, or_false, hE, h1, htk]
        rw [← hM1, x1]
theorem c_part (hT : TX M n b) (hn : n ≤ 200) : ∃ M' K, F_X6_part M (oi n) = some M' ∧ K ≤ n ∧ (∀ a, a ≤ K → gi M' 14 a = oi (zPl b n a) ∧ gi M' 13 a = tI (zTt b n (zPl b n a)) ∧ (zPl b n a < n ↔ a < K)) ∧ zPl b n K = n ∧ Oc [13, 14] M M' := by
  obtain ⟨M', K, x1, x2, x3, x4, x5, x6, x7⟩ := c_partL hn n 0 0 0 1000 M (by omega) (by omega) (by omega) (by omega) (by omega) hT rfl (fun j hj => by omega)
  refine ⟨M', K, ?_, x2, fun a ha => ?_, x4, x7⟩
  · unfold F_X6_part
    simp (disch := omega) only [l_0, l_1, l_2, l_3, l_4, l_5, l_6, l_7, l_8, l_9, l_10, l_11, l_12, l_13, l_14, l_15, l_16, l_17, l_18, l_19, l_20, l_21, l_22, l_23, l_24, l_25, l_26, l_27, l_28, l_29, l_30, l_31, l_32, l_33, l_34, l_35, l_36, l_37, l_38, l_39, l_40, l_41, l_42, l_43, l_44, l_45, l_46, l_47, l_48, l_49, l_50, l_51, l_52, l_53, l_54, l_55, l_56, l_57, l_58, l_59, l_60, l_61, l_62, l_63, l_64, l_65, l_66, l_67, l_68, l_69, l_70, l_71, l_72, l_73, l_74, l_75, l_76, l_77, l_78, l_79, l_80, l_81, l_82, l_83, l_84, l_85, l_86, l_87, l_88, l_89, l_90, l_91, l_92, l_93, l_94, l_95, l_96, l_97, l_98, l_99, l_100, l_101, l_102, l_103, l_104, l_105, l_106, l_107, l_108, l_109, l_110, l_111, l_121, l_122, l_160, l_200, l_201, l_240, l_255, l_361, l_390, l_499, l_500, l_999, l_1000, l_10000, l_10099, l_12345, l_16383, l_20000, l_20033, l_20038, l_20124, l_100000, l_1000000, l_1103515245, ui_oi, ck_oi, sb, jc_e, bl_0, bl_1, le_oi, lt_oi, eq_oi, add_oi, mul_oi, div_oi, ir_oi, gi_e, gi_n, if_true, if_false, if_pos, if_neg, true_and, and_true, false_and, and_false, true_or, or_true, false_or, or_false, x1]
  · by_cases hak : a = K
    · subst hak
      unfold zTt
      rw [x4, if_neg (by omega), x5, x6]
      exact ⟨rfl, rfl, by omega⟩
    · obtain ⟨y1, y2, y3⟩ := x3 a (by omega)
      unfold zTt
      rw [if_pos y1]
      exact ⟨y2, y3, by omega⟩
end LY

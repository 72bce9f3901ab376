/-! THE TWO MEMORIES BELONG TOGETHER -/
def IV (M N : Mm) (d : Nat → Nat) (c : Cnd) : Prop := VL 0 M d c ∧ FL 39 M d ∧ gi M 33 14 = oi (d 3) ∧ gi M 33 16 = oi (d 4) ∧ RI N d c ∧ WF d ∧ AN N 0
def IKb (M N : Mm) (d : Nat → Nat) (c : Cnd) : Prop := VL 21 M d c ∧ FL 60 M d ∧ gi M 54 14 = oi (d 3) ∧ gi M 54 16 = oi (d 4) ∧ WF d ∧ (∀ j, j < 121 → gi N 96 j = oi (d j)) ∧ ∃ cs, cs ≤ 240 ∧ RE (fun r => d (91 + 4 * r)) (fun r => d (92 + 4 * r)) (fun i => gi N 96 (121 + i)) (d 5) cs c
def IK (M N : Mm) : Prop := (gi M 0 2 = oi 0 ∧ gi N 94 2 = oi 0) ∨ (gi M 0 2 = oi 1 ∧ gi N 94 2 = oi 1 ∧ ∃ d c, IKb M N d c)
def IT (M N : Mm) : Prop := ∃ t, t ≤ 200 ∧ gi M 0 7 = oi t ∧ gi N 94 8 = oi t ∧ ∀ i, i < t → ∃ b, b < 256 ∧ gi N 100 i = oi b ∧ gi M 6 i = tb8 (oi b)
def IR (M N : Mm) : Prop := ∃ r, r ≤ 4 ∧ gi M 0 10 = oi r ∧ gi N 94 28 = oi r ∧ ∀ i, i < 12 → gi N 104 i = gi M 15 i
def IS1 (M N : Mm) (s so sz : Nat) : Prop := so ≤ 5 ∧ sz ≤ 40 ∧ gi M 16 s = oi so - oi 1 ∧ gi N 105 s = oi so ∧ gi M 17 s = oi sz ∧ gi N 106 s = oi sz ∧ ∀ i, i < 40 → gi N 107 (40 * s + i) = gi M (19 + s) i
def IS (M N : Mm) : Prop := ∀ s, s < 4 → ∃ so sz, IS1 M N s so sz
def IH1 (M N : Mm) (s h w : Nat) : Prop := h ≤ 2 ∧ w ≤ 5 ∧ gi N 108 s = oi h ∧ gi M 23 s = oi (if h = 0 then 2 else if h = 1 then 0 else 1) ∧ gi M 24 s = oi w ∧ gi N 109 s = oi w ∧ gi N 110 s = gi M 25 s
def IH (M N : Mm) : Prop := ∀ s, s < 4 → ∃ h w, IH1 M N s h w
def IC (M N : Mm) : Prop := ∃ t, t ≤ 30 ∧ gi M 4 1 = oi t ∧ gi N 94 36 = oi t ∧ ∀ i, i < t → gi N 111 i = gi M 5 i
def Inv (M N : Mm) : Prop := (∃ d c, IV M N d c) ∧ IK M N ∧ IT M N ∧ IR M N ∧ IS M N ∧ IH M N ∧ IC M N
/-- all but the vault that is -/
def IZ (M N : Mm) : Prop := IK M N ∧ IT M N ∧ IR M N ∧ IS M N ∧ IH M N ∧ IC M N
def Cl (f g : Mm → Option (Int32 × Mm)) : Prop := ∀ M N, Inv M N → ∃ a M' N', f M = some (a, M') ∧ g N = some (a, N') ∧ Inv M' N' ∧ (∀ c, 94 ≤ c → M'.1 c = M.1 c) ∧ (∀ c, c < 94 → N'.1 c = N.1 c)
def pu (f : Mm → Option Int32) : Mm → Option (Int32 × Mm) := fun M => (f M).map (fun r => (r, M))
section IN
variable {M N M' N' : Mm} {d : Nat → Nat} {c : Cnd}
theorem IKb.mv (h : IKb M N d c) (h1 : ∀ x, 54 ≤ x → x ≤ 74 → ∀ j, gi M' x j = gi M x j) (h2 : ∀ j, gi N' 96 j = gi N 96 j) : IKb M' N' d c := by
  obtain ⟨a1, a2, a3, a4, a5, a6, cs, a7, a8⟩ := h
  have e : ∀ x, 54 ≤ x → x ≤ 74 → gi M' x = gi M x := fun x q1 q2 => funext (h1 x q1 q2)
  refine ⟨?_, ?_, by rw [h1 54 (by omega) (by omega)]; exact a3, by rw [h1 54 (by omega) (by omega)]; exact a4, a5, fun j hj => by rw [h2]; exact a6 j hj, cs, a7, ?_⟩
  · unfold VL at a1 ⊢
    rw [e (33 + 21) (by omega) (by omega), e (34 + 21) (by omega) (by omega), e (35 + 21) (by omega) (by omega), e (36 + 21) (by omega) (by omega), e (37 + 21) (by omega) (by omega), e (38 + 21) (by omega) (by omega), e (42 + 21) (by omega) (by omega), e (43 + 21) (by omega) (by omega), e (44 + 21) (by omega) (by omega), e (45 + 21) (by omega) (by omega), e (46 + 21) (by omega) (by omega), e (50 + 21) (by omega) (by omega), e (51 + 21) (by omega) (by omega), e (52 + 21) (by omega) (by omega), e (53 + 21) (by omega) (by omega)]
    exact a1
  · unfold FL at a2 ⊢
    rw [e 60 (by omega) (by omega), e (60 + 1) (by omega) (by omega), e (60 + 2) (by omega) (by omega)]
    exact a2
  · have e2 : (fun i => gi N' 96 (121 + i)) = (fun i => gi N 96 (121 + i)) := funext fun i => h2 _
    rw [e2]
    exact a8
theorem IK.mv (h : IK M N) (h0 : gi M' 0 2 = gi M 0 2) (h9 : gi N' 94 2 = gi N 94 2) (h1 : ∀ x, 54 ≤ x → x ≤ 74 → ∀ j, gi M' x j = gi M x j) (h2 : ∀ j, gi N' 96 j = gi N 96 j) : IK M' N' := by
  unfold IK at h ⊢
  rw [h0, h9]
  rcases h with h | ⟨a, b, d, c, h⟩
  · exact Or.inl h
  · exact Or.inr ⟨a, b, d, c, h.mv h1 h2⟩
theorem IT.mv (h : IT M N) (h0 : gi M' 0 7 = gi M 0 7) (h9 : gi N' 94 8 = gi N 94 8) (h1 : ∀ j, gi M' 6 j = gi M 6 j) (h2 : ∀ j, gi N' 100 j = gi N 100 j) : IT M' N' := by
  unfold IT at h ⊢
  simp only [h0, h9, h1, h2]
  exact h
theorem IR.mv (h : IR M N) (h0 : gi M' 0 10 = gi M 0 10) (h9 : gi N' 94 28 = gi N 94 28) (h1 : ∀ j, gi M' 15 j = gi M 15 j) (h2 : ∀ j, gi N' 104 j = gi N 104 j) : IR M' N' := by
  unfold IR at h ⊢
  simp only [h0, h9, h1, h2]
  exact h
theorem IS.mv (h : IS M N) (h1 : ∀ x, 16 ≤ x → x ≤ 22 → ∀ j, gi M' x j = gi M x j) (h2 : ∀ x, 105 ≤ x → x ≤ 107 → ∀ j, gi N' x j = gi N x j) : IS M' N' := by
  intro s hs
  obtain ⟨so, sz, a1, a2, a3, a4, a5, a6, a7⟩ := h s hs
  exact ⟨so, sz, a1, a2, by rw [h1 16 (by omega) (by omega)]; exact a3, by rw [h2 105 (by omega) (by omega)]; exact a4, by rw [h1 17 (by omega) (by omega)]; exact a5, by rw [h2 106 (by omega) (by omega)]; exact a6, fun i hi => by rw [h2 107 (by omega) (by omega), h1 (19 + s) (by omega) (by omega)]; exact a7 i hi⟩
theorem IH.mv (h : IH M N) (h1 : ∀ x, 23 ≤ x → x ≤ 25 → ∀ j, gi M' x j = gi M x j) (h2 : ∀ x, 108 ≤ x → x ≤ 110 → ∀ j, gi N' x j = gi N x j) : IH M' N' := by
  intro s hs
  obtain ⟨hh, w, a1, a2, a3, a4, a5, a6, a7⟩ := h s hs
  exact ⟨hh, w, a1, a2, by rw [h2 108 (by omega) (by omega)]; exact a3, by rw [h1 23 (by omega) (by omega)]; exact a4, by rw [h1 24 (by omega) (by omega)]; exact a5, by rw [h2 109 (by omega) (by omega)]; exact a6, by rw [h2 110 (by omega) (by omega), h1 25 (by omega) (by omega)]; exact a7⟩
theorem IC.mv (h : IC M N) (h0 : gi M' 4 1 = gi M 4 1) (h9 : gi N' 94 36 = gi N 94 36) (h1 : ∀ j, gi M' 5 j = gi M 5 j) (h2 : ∀ j, gi N' 111 j = gi N 111 j) : IC M' N' := by
  unfold IC at h ⊢
  simp only [h0, h9, h1, h2]
  exact h
/-- cells of the class, of the reference, that the rest of the picture looks at -/
def ZM (x j : Nat) : Prop := (x = 0 ∧ (j = 2 ∨ j = 7 ∨ j = 10)) ∨ (x = 4 ∧ j = 1) ∨ x = 5 ∨ x = 6 ∨ (15 ≤ x ∧ x ≤ 25) ∨ (54 ≤ x ∧ x ≤ 74)
def ZN (x j : Nat) : Prop := (x = 94 ∧ (j = 2 ∨ j = 8 ∨ j = 28 ∨ j = 36)) ∨ x = 96 ∨ x = 100 ∨ (104 ≤ x ∧ x ≤ 111)
theorem IZ.mv (h : IZ M N) (h1 : ∀ x j, ZM x j → gi M' x j = gi M x j) (h2 : ∀ x j, ZN x j → gi N' x j = gi N x j) : IZ M' N' := by
  obtain ⟨a1, a2, a3, a4, a5, a6⟩ := h
  unfold ZM at h1
  unfold ZN at h2
  exact ⟨a1.mv (h1 _ _ (by omega)) (h2 _ _ (by omega)) (fun x q1 q2 j => h1 _ _ (by omega)) (fun j => h2 _ _ (by omega)), a2.mv (h1 _ _ (by omega)) (h2 _ _ (by omega)) (fun j => h1 _ _ (by omega)) (fun j => h2 _ _ (by omega)), a3.mv (h1 _ _ (by omega)) (h2 _ _ (by omega)) (fun j => h1 _ _ (by omega)) (fun j => h2 _ _ (by omega)), a4.mv (fun x q1 q2 j => h1 _ _ (by omega)) (fun x q1 q2 j => h2 _ _ (by omega)), a5.mv (fun x q1 q2 j => h1 _ _ (by omega)) (fun x q1 q2 j => h2 _ _ (by omega)), a6.mv (h1 _ _ (by omega)) (h2 _ _ (by omega)) (fun j => h1 _ _ (by omega)) (fun j => h2 _ _ (by omega))⟩
/-- a list of cells that leaves the rest of the picture alone -/
def Zm (S : List Nat) : Prop := ∀ x, x ∈ S → x ≠ 0 ∧ x ≠ 4 ∧ x ≠ 5 ∧ x ≠ 6 ∧ ¬ (15 ≤ x ∧ x ≤ 25) ∧ ¬ (54 ≤ x ∧ x ≤ 74) ∧ x < 94
theorem Zm.m {S : List Nat} (hS : Zm S) (hO : Oc S M M') : ∀ x j, ZM x j → gi M' x j = gi M x j := by
  intro x j hx
  refine hO.g (fun q => ?_)
  have := hS x q
  unfold ZM at hx
  omega
theorem Zm.f {S : List Nat} (hS : Zm S) (hO : Oc S M M') : ∀ x, 94 ≤ x → M'.1 x = M.1 x := fun x hx => hO x (fun q => by have := hS x q; omega)
def Zn (S : List Nat) : Prop := ∀ x, x ∈ S → x = 95 ∨ x = 97 ∨ x = 98 ∨ x = 99 ∨ x = 101 ∨ x = 102 ∨ x = 103
theorem Zn.n {S : List Nat} (hS : Zn S) (hO : Oc S N N') : ∀ x j, ZN x j → gi N' x j = gi N x j := by
  intro x j hx
  refine hO.g (fun q => ?_)
  have := hS x q
  unfold ZN at hx
  omega
theorem Zn.f {S : List Nat} (hS : Zn S) (hO : Oc S N N') : ∀ x, x < 94 → N'.1 x = N.1 x := fun x hx => hO x (fun q => by have := hS x q; omega)
theorem Inv.z (h : Inv M N) : IZ M N := h.2
theorem Inv.of (h1 : IV M N d c) (h2 : IZ M N) : Inv M N := ⟨⟨d, c, h1⟩, h2⟩
end IN
/-! ints that lie in a range -/
theorem lt64 (x y : Int32) : (Int32.toInt64 x < Int32.toInt64 y) ↔ x < y := by rw [Int64.lt_iff_toInt_lt, Int32.lt_iff_toInt_lt, Int32.toInt_toInt64, Int32.toInt_toInt64]
theorem cmp_lt (x y : Int32) : lg_cmp (Int32.toInt64 x) (Int32.toInt64 y) < 0 ↔ x < y := (lg_cmp_lt _ _).trans (lt64 x y)
theorem cmp_gt (x y : Int32) : 0 < lg_cmp (Int32.toInt64 x) (Int32.toInt64 y) ↔ y < x := (lg_cmp_gt _ _).trans (lt64 y x)
theorem in_within (v a b : Int32) : F_X12_in (Int32.toInt64 v) (Int32.toInt64 a) (Int32.toInt64 b) = F_X11_within v a b := by
  unfold F_X12_in F_X11_within
  by_cases h1 : v < a
  · rw [if_pos ((cmp_lt v a).mpr h1), if_pos h1]
  · rw [if_neg (fun q => h1 ((cmp_lt v a).mp q)), if_neg h1]
    by_cases h2 : b < v
    · rw [if_pos ((cmp_gt v b).mpr h2), if_pos h2]
    · rw [if_neg (fun q => h2 ((cmp_gt v b).mp q)), if_neg h2]
theorem win (v : Int32) (a b : Nat) (hb : b < 2147483648) (ha : a ≤ b) : (∃ k, a ≤ k ∧ k ≤ b ∧ v = oi k ∧ F_X11_within v (oi a) (oi b) = some (oi 1)) ∨ (F_X11_within v (oi a) (oi b) = some (oi 0) ∧ ∀ k, a ≤ k → k ≤ b → v ≠ oi k) := by
  unfold F_X11_within
  by_cases h1 : v < oi a
  · right
    rw [if_pos h1]
    refine ⟨rfl, fun k q1 q2 q3 => ?_⟩
    rw [q3, lt_oi (by omega) (by omega)] at h1
    omega
  · by_cases h2 : oi b < v
    · right
      rw [if_neg h1, if_pos h2]
      refine ⟨rfl, fun k q1 q2 q3 => ?_⟩
      rw [q3, lt_oi (by omega) (by omega)] at h2
      omega
    · left
      rw [if_neg h1, if_neg h2]
      have h3 : oi a ≤ v := Int32.not_lt.mp h1
      have h4 : oi 0 ≤ oi a := (le_oi (by omega) (by omega)).mpr (Nat.zero_le _)
      obtain ⟨k, hk, rfl⟩ := oi_of (x := v) (n := b) (fun q => Int32.not_lt.mpr (Int32.le_trans h4 h3) q) (Int32.not_lt.mp h2) hb
      exact ⟨k, (le_oi (by omega) (by omega)).mp h3, hk, rfl, rfl⟩
/-- below n -/
theorem wil (v : Int32) (n : Nat) (hn : n < 2147483648) : (∃ k, k < n ∧ v = oi k ∧ F_X11_within v (oi 0) (oi n - oi 1) = some (oi 1)) ∨ (F_X11_within v (oi 0) (oi n - oi 1) = some (oi 0) ∧ ∀ k, k < n → v ≠ oi k) := by
  by_cases h : 1 ≤ n
  · rw [sub_oi h]
    rcases win v 0 (n - 1) (by omega) (by omega) with ⟨k, q1, q2, q3, q4⟩ | ⟨q1, q2⟩
    · exact Or.inl ⟨k, by omega, q3, q4⟩
    · exact Or.inr ⟨q1, fun k hk => q2 k (by omega) (by omega)⟩
  · obtain rfl : n = 0 := by omega
    right
    refine ⟨?_, fun k hk => by omega⟩
    unfold F_X11_within
    by_cases h1 : v < oi 0
    · rw [if_pos h1]
      rfl
    · rw [if_neg h1, if_pos (Int32.lt_of_lt_of_le (sub_lt0 (by omega) (by omega) (by omega)) (Int32.not_lt.mp h1))]
      rfl
theorem m_0 : (0 : Int64) = Int32.toInt64 (oi 0) := by decide
theorem m_1 : (1 : Int64) = Int32.toInt64 (oi 1) := by decide
theorem m_2 : (2 : Int64) = Int32.toInt64 (oi 2) := by decide
theorem m_3 : (3 : Int64) = Int32.toInt64 (oi 3) := by decide
theorem m_4 : (4 : Int64) = Int32.toInt64 (oi 4) := by decide
theorem m_5 : (5 : Int64) = Int32.toInt64 (oi 5) := by decide
theorem m_8 : (8 : Int64) = Int32.toInt64 (oi 8) := by decide
theorem m_9 : (9 : Int64) = Int32.toInt64 (oi 9) := by decide
theorem m_10 : (10 : Int64) = Int32.toInt64 (oi 10) := by decide
theorem m_14 : (14 : Int64) = Int32.toInt64 (oi 14) := by decide
theorem m_15 : (15 : Int64) = Int32.toInt64 (oi 15) := by decide
theorem m_16 : (16 : Int64) = Int32.toInt64 (oi 16) := by decide
theorem m_20 : (20 : Int64) = Int32.toInt64 (oi 20) := by decide
theorem m_40 : (40 : Int64) = Int32.toInt64 (oi 40) := by decide
theorem m_99 : (99 : Int64) = Int32.toInt64 (oi 99) := by decide
theorem m_999 : (999 : Int64) = Int32.toInt64 (oi 999) := by decide
theorem m_neg : -(Int32.toInt64 (oi 1)) = Int32.toInt64 (- oi 1) := by decide
theorem m_n1 : (-1 : Int64) = Int32.toInt64 (-1) := by decide
theorem has2 {M N : Mm} {d : Nat → Nat} {c : Cnd} (hV : VL 0 M d c) (hR : RR N d) (h0 : d 0 ≤ 6) (v : Int32) : (∃ k, k < d 0 ∧ v = oi k ∧ F_X10_has M v = some (oi 1) ∧ F_X12_isBarrel N v = some (oi 1)) ∨ (F_X10_has M v = some (oi 0) ∧ F_X12_isBarrel N v = some (oi 0) ∧ ∀ k, k < d 0 → v ≠ oi k) := by
  have e : F_X12_isBarrel N v = F_X11_within v (oi 0) (oi (d 0) - oi 1) := by
    unfold F_X12_isBarrel
    simp (disch := omega) only [l_0, l_1, l_2, l_3, l_4, l_5, l_6, l_7, l_8, l_9, l_10, l_11, l_12, l_13, l_14, l_15, l_16, l_17, l_18, l_19, l_20, l_21, l_22, l_23, l_24, l_25, l_26, l_27, l_28, l_29, l_30, l_31, l_32, l_33, l_34, l_35, l_36, l_37, l_38, l_39, l_40, l_41, l_42, l_43, l_44, l_45, l_46, l_47, l_48, l_49, l_50, l_51, l_52, l_53, l_54, l_55, l_56, l_57, l_58, l_59, l_60, l_61, l_62, l_63, l_64, l_65, l_66, l_67, l_68, l_69, l_70, l_71, l_72, l_73, l_74, l_75, l_76, l_77, l_78, l_79, l_80, l_81, l_82, l_83, l_84, l_85, l_86, l_87, l_88, l_89, l_90, l_91, l_92, l_93, l_94, l_95, l_96, l_97, l_98, l_99, l_100, l_101, l_102, l_103, l_104, l_105, l_106, l_107, l_108, l_109, l_110, l_111, l_121, l_122, l_160, l_200, l_201, l_240, l_255, l_361, l_390, l_499, l_500, l_999, l_1000, l_10000, l_10099, l_12345, l_16383, l_20000, l_20033, l_20038, l_20124, l_100000, l_1000000, l_1103515245, ui_oi, ck_oi, sb, jc_e, bl_0, bl_1, le_oi, lt_oi, eq_oi, add_oi, mul_oi, div_oi, ir_oi, gi_e, gi_n, if_true, if_false, if_pos, if_neg, true_and, and_true, false_and, and_false, true_or, or_true, false_or, or_false, m_0, hR.g, in_within]
    rcases wil v (d 0) (by omega) with ⟨k, q1, q2, q3⟩ | ⟨q1, q2⟩
    · rw [q3, sb, bl_1]
    · rw [q1, sb, bl_0]
  rw [e]
  rcases wil v (d 0) (by omega) with ⟨k, q1, q2, q3⟩ | ⟨q1, q2⟩
  · left
    refine ⟨k, q1, q2, ?_, q3⟩
    rw [q2, c_has hV h0 (by omega), if_pos q1]
  · right
    refine ⟨?_, q1, q2⟩
    unfold F_X10_has
    by_cases h1 : v < 0
    · rw [if_pos h1]
      rfl
    · rw [if_neg h1, hV.n]
      by_cases h2 : oi (d 0) ≤ v
      · rw [if_pos h2]
        rfl
      · exfalso
        obtain ⟨k, hk, rfl⟩ := oi_of (x := v) (n := d 0) h1 (Int32.le_of_lt (Int32.not_le.mp h2)) (by omega)
        rw [le_oi (by omega) (by omega)] at h2
        exact q2 k (by omega) rfl

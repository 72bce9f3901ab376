/-! NUMBERS: an int that is a small number -/
def oi (n : Nat) : Int32 := Int32.ofNat n
theorem l_0 : (0 : Int32) = oi 0 := rfl
theorem l_1 : (1 : Int32) = oi 1 := rfl
theorem l_2 : (2 : Int32) = oi 2 := rfl
theorem l_3 : (3 : Int32) = oi 3 := rfl
theorem l_4 : (4 : Int32) = oi 4 := rfl
theorem l_5 : (5 : Int32) = oi 5 := rfl
theorem l_6 : (6 : Int32) = oi 6 := rfl
theorem l_7 : (7 : Int32) = oi 7 := rfl
theorem l_8 : (8 : Int32) = oi 8 := rfl
theorem l_9 : (9 : Int32) = oi 9 := rfl
theorem l_10 : (10 : Int32) = oi 10 := rfl
theorem l_11 : (11 : Int32) = oi 11 := rfl
theorem l_12 : (12 : Int32) = oi 12 := rfl
theorem l_13 : (13 : Int32) = oi 13 := rfl
theorem l_14 : (14 : Int32) = oi 14 := rfl
theorem l_15 : (15 : Int32) = oi 15 := rfl
theorem l_16 : (16 : Int32) = oi 16 := rfl
theorem l_17 : (17 : Int32) = oi 17 := rfl
theorem l_18 : (18 : Int32) = oi 18 := rfl
theorem l_19 : (19 : Int32) = oi 19 := rfl
theorem l_20 : (20 : Int32) = oi 20 := rfl
theorem l_21 : (21 : Int32) = oi 21 := rfl
theorem l_22 : (22 : Int32) = oi 22 := rfl
theorem l_23 : (23 : Int32) = oi 23 := rfl
theorem l_24 : (24 : Int32) = oi 24 := rfl
theorem l_25 : (25 : Int32) = oi 25 := rfl
theorem l_26 : (26 : Int32) = oi 26 := rfl
theorem l_27 : (27 : Int32) = oi 27 := rfl
theorem l_28 : (28 : Int32) = oi 28 := rfl
theorem l_29 : (29 : Int32) = oi 29 := rfl
theorem l_30 : (30 : Int32) = oi 30 := rfl
theorem l_31 : (31 : Int32) = oi 31 := rfl
theorem l_32 : (32 : Int32) = oi 32 := rfl
theorem l_33 : (33 : Int32) = oi 33 := rfl
theorem l_34 : (34 : Int32) = oi 34 := rfl
theorem l_35 : (35 : Int32) = oi 35 := rfl
theorem l_36 : (36 : Int32) = oi 36 := rfl
theorem l_37 : (37 : Int32) = oi 37 := rfl
theorem l_38 : (38 : Int32) = oi 38 := rfl
theorem l_39 : (39 : Int32) = oi 39 := rfl
theorem l_40 : (40 : Int32) = oi 40 := rfl
theorem l_41 : (41 : Int32) = oi 41 := rfl
theorem l_42 : (42 : Int32) = oi 42 := rfl
theorem l_43 : (43 : Int32) = oi 43 := rfl
theorem l_44 : (44 : Int32) = oi 44 := rfl
theorem l_45 : (45 : Int32) = oi 45 := rfl
theorem l_46 : (46 : Int32) = oi 46 := rfl
theorem l_47 : (47 : Int32) = oi 47 := rfl
theorem l_48 : (48 : Int32) = oi 48 := rfl
theorem l_49 : (49 : Int32) = oi 49 := rfl
theorem l_50 : (50 : Int32) = oi 50 := rfl
theorem l_51 : (51 : Int32) = oi 51 := rfl
theorem l_52 : (52 : Int32) = oi 52 := rfl
theorem l_53 : (53 : Int32) = oi 53 := rfl
theorem l_54 : (54 : Int32) = oi 54 := rfl
theorem l_55 : (55 : Int32) = oi 55 := rfl
theorem l_56 : (56 : Int32) = oi 56 := rfl
theorem l_57 : (57 : Int32) = oi 57 := rfl
theorem l_58 : (58 : Int32) = oi 58 := rfl
theorem l_59 : (59 : Int32) = oi 59 := rfl
theorem l_60 : (60 : Int32) = oi 60 := rfl
theorem l_61 : (61 : Int32) = oi 61 := rfl
theorem l_62 : (62 : Int32) = oi 62 := rfl
theorem l_63 : (63 : Int32) = oi 63 := rfl
theorem l_64 : (64 : Int32) = oi 64 := rfl
theorem l_65 : (65 : Int32) = oi 65 := rfl
theorem l_66 : (66 : Int32) = oi 66 := rfl
theorem l_67 : (67 : Int32) = oi 67 := rfl
theorem l_68 : (68 : Int32) = oi 68 := rfl
theorem l_69 : (69 : Int32) = oi 69 := rfl
theorem l_70 : (70 : Int32) = oi 70 := rfl
theorem l_71 : (71 : Int32) = oi 71 := rfl
theorem l_72 : (72 : Int32) = oi 72 := rfl
theorem l_73 : (73 : Int32) = oi 73 := rfl
theorem l_74 : (74 : Int32) = oi 74 := rfl
theorem l_75 : (75 : Int32) = oi 75 := rfl
theorem l_76 : (76 : Int32) = oi 76 := rfl
theorem l_77 : (77 : Int32) = oi 77 := rfl
theorem l_78 : (78 : Int32) = oi 78 := rfl
theorem l_79 : (79 : Int32) = oi 79 := rfl
theorem l_80 : (80 : Int32) = oi 80 := rfl
theorem l_81 : (81 : Int32) = oi 81 := rfl
theorem l_82 : (82 : Int32) = oi 82 := rfl
theorem l_83 : (83 : Int32) = oi 83 := rfl
theorem l_84 : (84 : Int32) = oi 84 := rfl
theorem l_85 : (85 : Int32) = oi 85 := rfl
theorem l_86 : (86 : Int32) = oi 86 := rfl
theorem l_87 : (87 : Int32) = oi 87 := rfl
theorem l_88 : (88 : Int32) = oi 88 := rfl
theorem l_89 : (89 : Int32) = oi 89 := rfl
theorem l_90 : (90 : Int32) = oi 90 := rfl
theorem l_91 : (91 : Int32) = oi 91 := rfl
theorem l_92 : (92 : Int32) = oi 92 := rfl
theorem l_93 : (93 : Int32) = oi 93 := rfl
theorem l_94 : (94 : Int32) = oi 94 := rfl
theorem l_95 : (95 : Int32) = oi 95 := rfl
theorem l_96 : (96 : Int32) = oi 96 := rfl
theorem l_97 : (97 : Int32) = oi 97 := rfl
theorem l_98 : (98 : Int32) = oi 98 := rfl
theorem l_99 : (99 : Int32) = oi 99 := rfl
theorem l_100 : (100 : Int32) = oi 100 := rfl
theorem l_101 : (101 : Int32) = oi 101 := rfl
theorem l_102 : (102 : Int32) = oi 102 := rfl
theorem l_103 : (103 : Int32) = oi 103 := rfl
theorem l_104 : (104 : Int32) = oi 104 := rfl
theorem l_105 : (105 : Int32) = oi 105 := rfl
theorem l_106 : (106 : Int32) = oi 106 := rfl
theorem l_107 : (107 : Int32) = oi 107 := rfl
theorem l_108 : (108 : Int32) = oi 108 := rfl
theorem l_109 : (109 : Int32) = oi 109 := rfl
theorem l_110 : (110 : Int32) = oi 110 := rfl
theorem l_111 : (111 : Int32) = oi 111 := rfl
theorem l_121 : (121 : Int32) = oi 121 := rfl
theorem l_122 : (122 : Int32) = oi 122 := rfl
theorem l_160 : (160 : Int32) = oi 160 := rfl
theorem l_200 : (200 : Int32) = oi 200 := rfl
theorem l_201 : (201 : Int32) = oi 201 := rfl
theorem l_240 : (240 : Int32) = oi 240 := rfl
theorem l_255 : (255 : Int32) = oi 255 := rfl
theorem l_361 : (361 : Int32) = oi 361 := rfl
theorem l_390 : (390 : Int32) = oi 390 := rfl
theorem l_499 : (499 : Int32) = oi 499 := rfl
theorem l_500 : (500 : Int32) = oi 500 := rfl
theorem l_999 : (999 : Int32) = oi 999 := rfl
theorem l_1000 : (1000 : Int32) = oi 1000 := rfl
theorem l_10000 : (10000 : Int32) = oi 10000 := rfl
theorem l_10099 : (10099 : Int32) = oi 10099 := rfl
theorem l_12345 : (12345 : Int32) = oi 12345 := rfl
theorem l_16383 : (16383 : Int32) = oi 16383 := rfl
theorem l_20000 : (20000 : Int32) = oi 20000 := rfl
theorem l_20033 : (20033 : Int32) = oi 20033 := rfl
theorem l_20038 : (20038 : Int32) = oi 20038 := rfl
theorem l_20124 : (20124 : Int32) = oi 20124 := rfl
theorem l_100000 : (100000 : Int32) = oi 100000 := rfl
theorem l_1000000 : (1000000 : Int32) = oi 1000000 := rfl
theorem l_1103515245 : (1103515245 : Int32) = oi 1103515245 := rfl
section NUM
variable {a b c : Nat}
theorem ui_oi (h : a < 2147483648) : ui (oi a) = a := Int32.toNatClampNeg_ofNat_of_lt (by omega)
theorem le_oi (ha : a < 2147483648) (hb : b < 2147483648) : oi a ≤ oi b ↔ a ≤ b := Int32.ofNat_le_iff_le (by omega) (by omega)
theorem lt_oi (ha : a < 2147483648) (hb : b < 2147483648) : oi a < oi b ↔ a < b := Int32.ofNat_lt_iff_lt (by omega) (by omega)
theorem eq_oi (ha : a < 2147483648) (hb : b < 2147483648) : oi a = oi b ↔ a = b := ⟨fun h => by
  have h2 := congrArg (fun x => ui x) h
  rwa [ui_oi ha, ui_oi hb] at h2, fun h => by rw [h]⟩
theorem add_oi : oi a + oi b = oi (a + b) := (Int32.ofNat_add a b).symm
theorem mul_oi : oi a * oi b = oi (a * b) := (Int32.ofNat_mul a b).symm
theorem sub_oi (h : b ≤ a) : oi a - oi b = oi (a - b) := (Int32.ofNat_sub a b h).symm
theorem div_oi (ha : a < 2147483648) (hb : b < 2147483648) : oi a / oi b = oi (a / b) := (Int32.ofNat_div (by omega) (by omega)).symm
theorem ir_oi (ha : a < 2147483648) (hb : b < 2147483648) : ir (oi a) (oi b) = oi (a % b) := by
  show oi a - oi a / oi b * oi b = _
  have h : a / b * b ≤ a := Nat.div_mul_le_self a b
  rw [div_oi ha hb, mul_oi, sub_oi h, Nat.mod_def, Nat.mul_comm]
theorem neg_lt_oi (ha : a < 2147483648) (hb : b < 2147483648) (h0 : 0 < b) : - oi b < oi a := by
  rw [Int32.lt_iff_toInt_lt]
  have e1 : (oi a).toInt = (a : Int) := Int32.toInt_ofNat_of_lt (by omega)
  have e2 : (oi b).toInt = (b : Int) := Int32.toInt_ofNat_of_lt (by omega)
  rw [e1, Int32.toInt_neg, e2, Int.bmod_def]
  omega
theorem sub_lt0 (ha : a < 2147483648) (hb : b < 2147483648) (h : a < b) : oi a - oi b < oi 0 := by
  rw [Int32.lt_iff_toInt_lt]
  have e1 : (oi a).toInt = (a : Int) := Int32.toInt_ofNat_of_lt (by omega)
  have e2 : (oi b).toInt = (b : Int) := Int32.toInt_ofNat_of_lt (by omega)
  have e3 : (oi 0).toInt = (0 : Int) := rfl
  rw [e3, Int32.toInt_sub, e1, e2, Int.bmod_def]
  omega
theorem mx_oi (ha : a < 2147483648) (hb : b < 2147483648) : mx (oi a) (oi b) = oi (max a b) := by
  show (if oi a < oi b then oi b else oi a) = _
  by_cases h : a < b
  · rw [if_pos ((lt_oi ha hb).mpr h), Nat.max_eq_right (by omega)]
  · rw [if_neg (fun q => h ((lt_oi ha hb).mp q)), Nat.max_eq_left (by omega)]
theorem mn_oi (ha : a < 2147483648) (hb : b < 2147483648) : mn (oi a) (oi b) = oi (min a b) := by
  show (if oi b < oi a then oi b else oi a) = _
  by_cases h : b < a
  · rw [if_pos ((lt_oi hb ha).mpr h), Nat.min_eq_right (by omega)]
  · rw [if_neg (fun q => h ((lt_oi hb ha).mp q)), Nat.min_eq_left (by omega)]
/-- max(0, a - b) -/
theorem mxs_oi (ha : a < 2147483648) (hb : b < 2147483648) : mx (oi 0) (oi a - oi b) = oi (a - b) := by
  by_cases h : b ≤ a
  · rw [sub_oi h, mx_oi (by omega) (by omega), Nat.max_eq_right (by omega)]
  · show (if oi 0 < oi a - oi b then oi a - oi b else oi 0) = _
    have h2 := sub_lt0 ha hb (by omega)
    rw [if_neg (fun q => absurd (Int32.lt_trans q h2) (Int32.lt_irrefl)), show a - b = 0 by omega]
theorem ck_oi {α : Type} {n : Nat} {o : Option α} (h : a < n) (h2 : n ≤ 2147483648) : ck (oi a) n o = o := by
  unfold ck
  refine if_neg (fun q => ?_)
  rcases q with q | q
  · rw [l_0, lt_oi (by omega) (by omega)] at q
    omega
  · have e : (oi a).toNatClampNeg = a := ui_oi (by omega)
    rw [e] at q
    omega
theorem sb {α β : Type} {x : α} {f : α → Option β} : (some x).bind f = f x := rfl
theorem jc_e {γ δ : Type} {r : γ} {t : γ → δ} : jc r t = t r := rfl
theorem bl_0 {α : Type} {o : Option α} : bl (oi 0) o = o := if_pos (Or.inl rfl)
theorem bl_1 {α : Type} {o : Option α} : bl (oi 1) o = o := if_pos (Or.inr rfl)
theorem gi_si {M : Mm} {c j : Nat} {v : Int32} {c' j' : Nat} : gi (si M c j v) c' j' = if c' = c ∧ j' = j then v else gi M c' j' := rfl
theorem gi_e {M : Mm} {c j : Nat} {v : Int32} : gi (si M c j v) c j = v := by rw [gi_si, if_pos ⟨rfl, rfl⟩]
theorem gi_n {M : Mm} {c j : Nat} {v : Int32} {c' j' : Nat} (h : c' ≠ c ∨ j' ≠ j) : gi (si M c j v) c' j' = gi M c' j' := by rw [gi_si, if_neg (by omega)]
theorem oi_all (x : Int32) : ∃ n : Nat, x = oi n := ⟨x.toUInt32.toNat, by
  show x = Int32.ofNat x.toUInt32.toNat
  have : Int32.ofNat x.toUInt32.toNat = (UInt32.ofNat x.toUInt32.toNat).toInt32 := rfl
  rw [this, UInt32.ofNat_toNat]
  rfl⟩
theorem oi_of {x : Int32} {n : Nat} (h0 : ¬ x < 0) (h : x ≤ oi n) (hn : n < 2147483648) : ∃ k, k ≤ n ∧ x = oi k := by
  have h0 : (0 : Int32) ≤ x := Int32.not_lt.mp h0
  refine ⟨x.toNatClampNeg, ?_, (Int32.ofNat_toNatClampNeg x h0).symm⟩
  rw [show x = oi x.toNatClampNeg from (Int32.ofNat_toNatClampNeg x h0).symm] at h
  exact (le_oi (by have := Int32.toNatClampNeg_lt x; omega) hn).mp h
end NUM
/-- a loop whose state is known at each turn -/
theorem lp_up {α β : Type} {L : Nat → α → Int32 → Option β} {n : Nat} {a : Nat → α} {r : Option β} (hs : ∀ k m, k < n → L (m + 1) (a k) (oi k) = L m (a (k + 1)) (oi (k + 1))) (he : ∀ m, L (m + 1) (a n) (oi n) = r) : ∀ j k m, k + j = n → j < m → L m (a k) (oi k) = r := by
  intro j
  induction j with
  | zero =>
    intro k m hk hm
    obtain rfl : k = n := by omega
    obtain ⟨m', rfl⟩ : ∃ m', m = m' + 1 := ⟨m - 1, by omega⟩
    exact he m'
  | succ j ih =>
    intro k m hk hm
    obtain ⟨m', rfl⟩ : ∃ m', m = m' + 1 := ⟨m - 1, by omega⟩
    rw [hs k m' (by omega)]
    exact ih (k + 1) m' (by omega) (by omega)
/-- a loop with an invariant -/
theorem lp_inv {α β : Type} {L : Nat → α → Int32 → Option β} {n : Nat} {I : Nat → α → Prop} {Q : β → Prop} (hs : ∀ k m a, k < n → I k a → ∃ a', I (k + 1) a' ∧ L (m + 1) a (oi k) = L m a' (oi (k + 1))) (he : ∀ m a, I n a → ∃ r, L (m + 1) a (oi n) = some r ∧ Q r) : ∀ j k m a, k + j = n → j < m → I k a → ∃ r, L m a (oi k) = some r ∧ Q r := by
  intro j
  induction j with
  | zero =>
    intro k m a hk hm hI
    obtain rfl : k = n := by omega
    obtain ⟨m', rfl⟩ : ∃ m', m = m' + 1 := ⟨m - 1, by omega⟩
    exact he m' a hI
  | succ j ih =>
    intro k m a hk hm hI
    obtain ⟨m', rfl⟩ : ∃ m', m = m' + 1 := ⟨m - 1, by omega⟩
    obtain ⟨a', h1, h2⟩ := hs k m' a (by omega) hI
    rw [h2]
    exact ih (k + 1) m' a' (by omega) (by omega) h1

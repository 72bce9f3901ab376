/-! PLANS: the picture; the class's way through them -/
def zPd (c : Cnd) (d : Nat → Nat) : Nat → Nat → (Nat → Nat)
  | 0, _ => d
  | t + 1, p => zN (zPd c d t (p / (d 0 + 1))) c (p % (d 0 + 1))
def zPw (c : Cnd) (d : Nat → Nat) : Nat → Nat → Nat
  | 0, _ => 0
  | t + 1, p => zPw c d t (p / (d 0 + 1)) + zWo (zPd c d t (p / (d 0 + 1))) c (p % (d 0 + 1))
def zPa (b : Nat) : Nat → Nat → Nat
  | 0, _ => 0
  | t + 1, p => zPa b t (p / b) + (if p % b = 0 then 0 else 1)
def zBm (W : Nat → Nat) : Nat → Nat
  | 0 => 0
  | p + 1 => if p = 0 ∨ zBm W p < W p then W p else zBm W p
def zBt (W : Nat → Nat) : Nat → Nat
  | 0 => 0
  | p + 1 => if p = 0 ∨ zBm W p < W p then 1 else if W p = zBm W p then zBt W p + 1 else zBt W p
def zBf (W : Nat → Nat) : Nat → Nat
  | 0 => 0
  | p + 1 => if p = 0 ∨ zBm W p < W p then p else zBf W p
def zFw (S : Nat → Int32) (A : Nat → Nat) (want : Int32) : Nat → Int32
  | 0 => - oi 3
  | p + 1 => if (want &&& (S p ^^^ (- oi 1))) = oi 0 ∧ (zFw S A want p < oi 0 ∨ oi (A p) < zFw S A want p) then oi (A p) else zFw S A want p
def zRc (S : Nat → Int32) : Nat → Int32
  | 0 => oi 0
  | p + 1 => zRc S p ||| S p
/-- a loop that goes on elsewhere -/
theorem lp_k {α β : Type} {L : Nat → α → Int32 → Option β} {n : Nat} {I : Nat → α → Prop} {R : α → Option β} (hs : ∀ k m a, k < n → I k a → ∃ a', I (k + 1) a' ∧ L (m + 1) a (oi k) = L m a' (oi (k + 1))) (he : ∀ m a, I n a → L (m + 1) a (oi n) = R a) : ∀ j k m a, k + j = n → j < m → I k a → ∃ a', I n a' ∧ L m a (oi k) = R a' := by
  intro j
  induction j with
  | zero =>
    intro k m a hk hm hI
    obtain rfl : k = n := by omega
    obtain ⟨m', rfl⟩ : ∃ m', m = m' + 1 := ⟨m - 1, by omega⟩
    exact ⟨a, hI, he m' a hI⟩
  | succ j ih =>
    intro k m a hk hm hI
    obtain ⟨m', rfl⟩ : ∃ m', m = m' + 1 := ⟨m - 1, by omega⟩
    obtain ⟨a', h1, h2⟩ := hs k m' a (by omega) hI
    rw [h2]
    exact ih (k + 1) m' a' (by omega) (by omega) h1
section PL
variable {M N M' N' : Mm} {d : Nat → Nat} {c : Cnd} {L b : Nat} {W A : Nat → Nat} {S : Nat → Int32} {want : Int32} {p : Nat}
theorem zPd_w (hW : WF d) : ∀ t p, d 1 + t ≤ d 2 → WF (zPd c d t p) ∧ Sd d (zPd c d t p) ∧ zPd c d t p 1 = d 1 + t
  | 0, _, _ => ⟨hW, Sd.rf, rfl⟩
  | t + 1, p, h => by
    obtain ⟨h1, h2, h3⟩ := zPd_w hW t (p / (d 0 + 1)) (by omega)
    have e0 : zPd c d t (p / (d 0 + 1)) 0 = d 0 := h2.o (by omega)
    have e2 : zPd c d t (p / (d 0 + 1)) 2 = d 2 := h2.o (by omega)
    have hm : p % (d 0 + 1) ≤ d 0 := by have := Nat.mod_lt p (show d 0 + 1 > 0 by omega); omega
    have h0 := hW.1
    unfold zPd
    refine ⟨zN_w h1 (by omega) (by omega), h2.tr (zN_sd (by omega) (by omega)), ?_⟩
    rw [zN_1, h3]
    omega
theorem zPw_le (hW : WF d) : ∀ t p, d 1 + t ≤ d 2 → zPw c d t p ≤ 32 * t
  | 0, _, _ => Nat.le_refl _
  | t + 1, p, h => by
    obtain ⟨h1, h2, h3⟩ := zPd_w (c := c) hW t (p / (d 0 + 1)) (by omega)
    have e0 : zPd c d t (p / (d 0 + 1)) 0 = d 0 := h2.o (by omega)
    have hm : p % (d 0 + 1) ≤ d 0 := by have := Nat.mod_lt p (show d 0 + 1 > 0 by omega); omega
    have ha := zPw_le hW t (p / (d 0 + 1)) (by omega)
    have hb := zWo_le (c := c) h1 (a := p % (d 0 + 1)) (by omega)
    unfold zPw
    omega
theorem zPa_le : ∀ t p, zPa b t p ≤ t
  | 0, _ => Nat.le_refl _
  | t + 1, p => by
    have := zPa_le t (p / b)
    unfold zPa
    split <;> omega
theorem zBm_le {w : Nat} (h : ∀ p, W p ≤ w) : ∀ p, zBm W p ≤ w
  | 0 => Nat.zero_le _
  | p + 1 => by
    have := zBm_le h p
    unfold zBm
    split
    · exact h p
    · exact this
theorem zBt_le : ∀ p, zBt W p ≤ p
  | 0 => Nat.le_refl _
  | p + 1 => by
    have := zBt_le p
    unfold zBt
    repeat' split
    all_goals omega
theorem zBt_pos : ∀ p, p ≠ 0 → 1 ≤ zBt W p
  | 0, h => absurd rfl h
  | p + 1, _ => by
    unfold zBt
    by_cases hp : p = 0
    · rw [if_pos (Or.inl hp)]
      exact Nat.le_refl 1
    · have := zBt_pos p hp
      repeat' split
      all_goals omega
def PS (M : Mm) (L b : Nat) (W A : Nat → Nat) (S : Nat → Int32) (want : Int32) (p : Nat) : Prop := gi M 75 3 = oi L ∧ gi M 75 4 = want ∧ (p ≠ 0 → gi M 75 6 = oi (zBm W p)) ∧ gi M 75 7 = oi (zBt W p) ∧ gi M 75 8 = zFw S A want p ∧ gi M 75 9 = zRc S p ∧ (p ≠ 0 → ∀ i, i < L → gi M 93 i = oi (zBf W p / b ^ (L - 1 - i) % b))
theorem PS.oc {T : List Nat} (h : PS M L b W A S want p) (hO : Oc T M M') (h1 : 75 ∉ T) (h2 : 93 ∉ T) : PS M' L b W A S want p := by
  obtain ⟨a1, a2, a3, a4, a5, a6, a7⟩ := h
  exact ⟨(hO.g h1).trans a1, (hO.g h1).trans a2, fun q => (hO.g h1).trans (a3 q), (hO.g h1).trans a4, (hO.g h1).trans a5, (hO.g h1).trans a6, fun q i hi => (hO.g h2).trans (a7 q i hi)⟩
theorem c_weigh (hP : PS M L b W A S want p) (hL : L ≤ 4) (hw : ∀ p, W p ≤ 200) (hp : p < 3000) (hA : A p ≤ 4) (hacts : ∀ i, i < L → gi M 92 i = oi (p / b ^ (L - 1 - i) % b)) : ∃ M', F_X5_weigh M (oi (W p)) (oi (A p)) (S p) = some M' ∧ PS M' L b W A S want (p + 1) ∧ Oc [75, 93] M M' := by
  obtain ⟨a1, a2, a3, a4, a5, a6, a7⟩ := hP
  have hwp := hw p
  have hbm := zBm_le hw p
  have hbt := zBt_le (W := W) p
  -- the end, from a memory whose most, ties and first are right
  have fin : ∀ (M1 : Mm) (t : Nat), t ≤ 3000 → gi M1 75 3 = oi L → gi M1 75 4 = want → gi M1 75 7 = oi t → gi M1 75 8 = zFw S A want p → gi M1 75 9 = zRc S p → gi M1 75 6 = oi (zBm W (p + 1)) → (zBt W (p + 1) = if W p = zBm W (p + 1) then t + 1 else t) → (∀ i, i < L → gi M1 93 i = oi (zBf W (p + 1) / b ^ (L - 1 - i) % b)) → ∃ M', (jc (fun (M : Mm) => ((if ((gi (si M 75 9 ((gi M 75 9) ||| (S p))) 75 4) &&& ((S p) ^^^ (-1))) = 0 then (if (gi (si M 75 9 ((gi M 75 9) ||| (S p))) 75 8) < 0 then some (si (si M 75 9 ((gi M 75 9) ||| (S p))) 75 8 (oi (A p))) else (if (gi (si M 75 9 ((gi M 75 9) ||| (S p))) 75 8) ≤ (oi (A p)) then some (si M 75 9 ((gi M 75 9) ||| (S p))) else some (si (si M 75 9 ((gi M 75 9) ||| (S p))) 75 8 (oi (A p))))) else some (si M 75 9 ((gi M 75 9) ||| (S p)))) : Option Mm)) (fun j75 => (if (oi (W p)) = (gi M1 75 6) then j75 (si M1 75 7 ((gi M1 75 7) + 1)) else j75 M1)) : Option Mm) = some M' ∧ PS M' L b W A S want (p + 1) ∧ Oc [75, 93] M1 M' := by
    intro M1 t ht b1 b2 b3 b4 b5 b6 b7 b8
    have hbm2 := zBm_le hw (p + 1)
    have htr : ∀ {A B C : Mm}, Oc [75, 93] A B → Oc [75, 93] B C → Oc [75, 93] A C := fun p q => p.tr q (fun c hc => ⟨hc, hc⟩)
    obtain ⟨M2, hM2, e2⟩ : ∃ M2, M2 = (if W p = zBm W (p + 1) then si M1 75 7 (oi (t + 1)) else M1) ∧ True := ⟨_, rfl, trivial⟩
    have hO2 : Oc [75, 93] M1 M2 := by
      rw [hM2]
      split
      · exact Oc.si (by simp)
      · exact Oc.rf
    have g : ∀ j, j ≠ 7 → gi M2 75 j = gi M1 75 j := by
      intro j hj
      rw [hM2]
      split
      · rw [gi_n (by omega)]
      · rfl
    have g93 : ∀ j, gi M2 93 j = gi M1 93 j := by
      intro j
      rw [hM2]
      split
      · rw [gi_n (by omega)]
      · rfl
    have g7 : gi M2 75 7 = oi (zBt W (p + 1)) := by
      rw [hM2, b7]
      split
      · rw [gi_e]
      · exact b3
    obtain ⟨M3, hM3⟩ : ∃ M3, M3 = si M2 75 9 (zRc S p ||| S p) := ⟨_, rfl⟩
    have hO3 : Oc [75, 93] M2 M3 := by rw [hM3]; exact Oc.si (by simp)
    have hn : (-1 : Int32) = - oi 1 := rfl
    have eJ : (jc (fun (M : Mm) => ((if ((gi (si M 75 9 ((gi M 75 9) ||| (S p))) 75 4) &&& ((S p) ^^^ (-1))) = 0 then (if (gi (si M 75 9 ((gi M 75 9) ||| (S p))) 75 8) < 0 then some (si (si M 75 9 ((gi M 75 9) ||| (S p))) 75 8 (oi (A p))) else (if (gi (si M 75 9 ((gi M 75 9) ||| (S p))) 75 8) ≤ (oi (A p)) then some (si M 75 9 ((gi M 75 9) ||| (S p))) else some (si (si M 75 9 ((gi M 75 9) ||| (S p))) 75 8 (oi (A p))))) else some (si M 75 9 ((gi M 75 9) ||| (S p)))) : Option Mm)) (fun j75 => (if (oi (W p)) = (gi M1 75 6) then j75 (si M1 75 7 ((gi M1 75 7) + 1)) else j75 M1)) : Option Mm) = (if (want &&& ((S p) ^^^ (-1))) = 0 then (if (zFw S A want p) < 0 then some (si M3 75 8 (oi (A p))) else (if (zFw S A want p) ≤ (oi (A p)) then some M3 else some (si M3 75 8 (oi (A p))))) else some M3) := by
      rw [b6, hM3]
      by_cases hq : W p = zBm W (p + 1)
      · rw [if_pos hq] at hM2
        have g4 : gi M2 75 4 = want := (g 4 (by omega)).trans b2
        have g8 : gi M2 75 8 = zFw S A want p := (g 8 (by omega)).trans b4
        have g9 : gi M2 75 9 = zRc S p := (g 9 (by omega)).trans b5
        have e1 : oi (W p) = oi (zBm W (p + 1)) := by rw [hq]
        have eM : si M1 75 7 (gi M1 75 7 + 1) = M2 := by rw [hM2, b3, l_1, add_oi]
        unfold jc
        try dsimp only
        rw [if_pos e1, eM, gi_n (by omega), gi_n (by omega), g4, g8, g9]
      · rw [if_neg hq] at hM2
        have g4 : gi M1 75 4 = want := b2
        have e1 : ¬ oi (W p) = oi (zBm W (p + 1)) := by rw [eq_oi (by omega) (by omega)]; exact hq
        unfold jc
        try dsimp only
        rw [if_neg e1, gi_n (by omega), gi_n (by omega), g4, b4, b5, hM2]
    rw [eJ]
    have fr : ∀ (v : Int32), Oc [75, 93] M3 (si M3 75 8 v) := fun v => Oc.si (by simp)
    have q3 : ∀ j, j ≠ 9 → gi M3 75 j = gi M2 75 j := fun j hj => by rw [hM3, gi_n (by omega)]
    have q9 : gi M3 75 9 = zRc S (p + 1) := by rw [hM3, gi_e]; rfl
    have q93 : ∀ j, gi M3 93 j = gi M1 93 j := fun j => by rw [hM3, gi_n (by omega), g93]
    have keep : zFw S A want (p + 1) = zFw S A want p → PS M3 L b W A S want (p + 1) := fun e => ⟨by rw [q3 3 (by omega), g 3 (by omega)]; exact b1, by rw [q3 4 (by omega), g 4 (by omega)]; exact b2, fun _ => by rw [q3 6 (by omega), g 6 (by omega)]; exact b6, by rw [q3 7 (by omega)]; exact g7, by rw [q3 8 (by omega), g 8 (by omega), e]; exact b4, q9, fun _ i hi => by rw [q93]; exact b8 i hi⟩
    have take : zFw S A want (p + 1) = oi (A p) → PS (si M3 75 8 (oi (A p))) L b W A S want (p + 1) := fun e => ⟨by rw [gi_n (by omega), q3 3 (by omega), g 3 (by omega)]; exact b1, by rw [gi_n (by omega), q3 4 (by omega), g 4 (by omega)]; exact b2, fun _ => by rw [gi_n (by omega), q3 6 (by omega), g 6 (by omega)]; exact b6, by rw [gi_n (by omega), q3 7 (by omega)]; exact g7, by rw [gi_e, e], by rw [gi_n (by omega)]; exact q9, fun _ i hi => by rw [gi_n (by omega), q93]; exact b8 i hi⟩
    have hz : zFw S A want (p + 1) = if (want &&& (S p ^^^ (- oi 1))) = oi 0 ∧ (zFw S A want p < oi 0 ∨ oi (A p) < zFw S A want p) then oi (A p) else zFw S A want p := rfl
    rw [hn, l_0]
    by_cases h1 : (want &&& (S p ^^^ (- oi 1))) = oi 0
    · rw [if_pos h1]
      by_cases h2 : zFw S A want p < oi 0
      · rw [if_pos h2]
        rw [if_pos ⟨h1, Or.inl h2⟩] at hz
        exact ⟨_, rfl, take hz, htr (htr hO2 hO3) (fr _)⟩
      · rw [if_neg h2]
        by_cases h3 : zFw S A want p ≤ oi (A p)
        · rw [if_pos h3]
          rw [if_neg (fun q => by rcases q.2 with q2 | q2; exact h2 q2; exact Int32.not_lt.mpr h3 q2)] at hz
          exact ⟨_, rfl, keep hz, htr hO2 hO3⟩
        · rw [if_neg h3]
          rw [if_pos ⟨h1, Or.inr (Int32.not_le.mp h3)⟩] at hz
          exact ⟨_, rfl, take hz, htr (htr hO2 hO3) (fr _)⟩
    · rw [if_neg h1]
      rw [if_neg (fun q => h1 q.1)] at hz
      exact ⟨_, rfl, keep hz, htr hO2 hO3⟩
  -- a new best
  have new : p = 0 ∨ zBm W p < W p → ∃ M', F_X5_weigh_L28 (fun M1 => (jc (fun (M : Mm) => ((if ((gi (si M 75 9 ((gi M 75 9) ||| (S p))) 75 4) &&& ((S p) ^^^ (-1))) = 0 then (if (gi (si M 75 9 ((gi M 75 9) ||| (S p))) 75 8) < 0 then some (si (si M 75 9 ((gi M 75 9) ||| (S p))) 75 8 (oi (A p))) else (if (gi (si M 75 9 ((gi M 75 9) ||| (S p))) 75 8) ≤ (oi (A p)) then some (si M 75 9 ((gi M 75 9) ||| (S p))) else some (si (si M 75 9 ((gi M 75 9) ||| (S p))) 75 8 (oi (A p))))) else some (si M 75 9 ((gi M 75 9) ||| (S p)))) : Option Mm)) (fun j75 => (if (oi (W p)) = (gi M1 75 6) then j75 (si M1 75 7 ((gi M1 75 7) + 1)) else j75 M1)) : Option Mm)) (oi (W p)) (oi (A p)) (S p) 1000 (si (si M 75 6 (oi (W p))) 75 7 0) 0 = some M' ∧ PS M' L b W A S want (p + 1) ∧ Oc [75, 93] M M' := by
    intro hnew
    obtain ⟨M0, hM0⟩ : ∃ M0, M0 = si (si M 75 6 (oi (W p))) 75 7 (oi 0) := ⟨_, rfl⟩
    have hO0 : Oc [75, 93] M M0 := by
      rw [hM0]
      exact (Oc.si (S := [75, 93]) (by simp)).tr (Oc.si (S := [75, 93]) (by simp)) (fun c hc => ⟨hc, hc⟩)
    have x3 : gi M0 75 3 = oi L := by rw [hM0, gi_n (by omega), gi_n (by omega)]; exact a1
    have x92 : ∀ i, i < L → gi M0 92 i = oi (p / b ^ (L - 1 - i) % b) := fun i hi => by rw [hM0, gi_n (by omega), gi_n (by omega)]; exact hacts i hi
    rw [show (si (si M 75 6 (oi (W p))) 75 7 0) = M0 from hM0.symm]
    have hk := fun K => lp_k (L := fun m (x : Mm) y => F_X5_weigh_L28 K (oi (W p)) (oi (A p)) (S p) m x y) (n := L) (I := fun j x => (∀ i, i < j → gi x 93 i = oi (p / b ^ (L - 1 - i) % b)) ∧ Oc [93] M0 x) (R := K) (fun j m x hj hI => by
        obtain ⟨i1, i2⟩ := hI
        have y3 : gi x 75 3 = oi L := (i2.g (by simp)).trans x3
        have y92 : gi x 92 j = oi (p / b ^ (L - 1 - j) % b) := (i2.g (by simp)).trans (x92 j hj)
        refine ⟨si x 93 j (oi (p / b ^ (L - 1 - j) % b)), ⟨fun i hi => ?_, i2.tr (Oc.si (S := [93]) (by simp)) (fun c hc => ⟨hc, hc⟩)⟩, ?_⟩
        · by_cases hij : i = j
          · subst hij
            exact gi_e
          · rw [gi_n (by omega)]
            exact i1 i (by omega)
        · try dsimp only
          rw [F_X5_weigh_L28]
          simp (disch := omega) only [l_0, l_1, l_2, l_3, l_4, l_5, l_6, l_7, l_8, l_9, l_10, l_11, l_12, l_13, l_14, l_15, l_16, l_17, l_18, l_19, l_20, l_21, l_22, l_23, l_24, l_25, l_26, l_27, l_28, l_29, l_30, l_31, l_32, l_33, l_34, l_35, l_36, l_37, l_38, l_39, l_40, l_41, l_42, l_43, l_44, l_45, l_46, l_47, l_48, l_49, l_50, l_51, l_52, l_53, l_54, l_55, l_56, l_57, l_58, l_59, l_60, l_61, l_62, l_63, l_64, l_65, l_66, l_67, l_68, l_69, l_70, l_71, l_72, l_73, l_74, l_75, l_76, l_77, l_78, l_79, l_80, l_81, l_82, l_83, l_84, l_85, l_86, l_87, l_88, l_89, l_90, l_91, l_92, l_93, l_94, l_95, l_96, l_97, l_98, l_99, l_100, l_101, l_102, l_103, l_104, l_105, l_106, l_107, l_108, l_109, l_110, l_111, l_121, l_122, l_160, l_200, l_201, l_240, l_255, l_361, l_390, l_499, l_500, l_999, l_1000, l_10000, l_10099, l_12345, l_16383, l_20000, l_20033, l_20038, l_20124, l_100000, l_1000000, l_1103515245, ui_oi, ck_oi, sb, jc_e, bl_0, bl_1, le_oi, lt_oi, eq_oi, add_oi, mul_oi, div_oi, ir_oi, gi_e, gi_n, if_true, if_false, if_pos, if_neg, true_and, and_true, false_and, and_false, true_or, or_true, false_or, or_false, y3, y92]) (fun m x hI => by
        obtain ⟨i1, i2⟩ := hI
        have y3 : gi x 75 3 = oi L := (i2.g (by simp)).trans x3
        try dsimp only
        rw [F_X5_weigh_L28]
        simp (disch := omega) only [l_0, l_1, l_2, l_3, l_4, l_5, l_6, l_7, l_8, l_9, l_10, l_11, l_12, l_13, l_14, l_15, l_16, l_17, l_18, l_19, l_20, l_21, l_22, l_23, l_24, l_25, l_26, l_27, l_28, l_29, l_30, l_31, l_32, l_33, l_34, l_35, l_36, l_37, l_38, l_39, l_40, l_41, l_42, l_43, l_44, l_45, l_46, l_47, l_48, l_49, l_50, l_51, l_52, l_53, l_54, l_55, l_56, l_57, l_58, l_59, l_60, l_61, l_62, l_63, l_64, l_65, l_66, l_67, l_68, l_69, l_70, l_71, l_72, l_73, l_74, l_75, l_76, l_77, l_78, l_79, l_80, l_81, l_82, l_83, l_84, l_85, l_86, l_87, l_88, l_89, l_90, l_91, l_92, l_93, l_94, l_95, l_96, l_97, l_98, l_99, l_100, l_101, l_102, l_103, l_104, l_105, l_106, l_107, l_108, l_109, l_110, l_111, l_121, l_122, l_160, l_200, l_201, l_240, l_255, l_361, l_390, l_499, l_500, l_999, l_1000, l_10000, l_10099, l_12345, l_16383, l_20000, l_20033, l_20038, l_20124, l_100000, l_1000000, l_1103515245, ui_oi, ck_oi, sb, jc_e, bl_0, bl_1, le_oi, lt_oi, eq_oi, add_oi, mul_oi, div_oi, ir_oi, gi_e, gi_n, if_true, if_false, if_pos, if_neg, true_and, and_true, false_and, and_false, true_or, or_true, false_or, or_false, y3]) L 0 1000 M0 (by omega) (by omega) ⟨fun i hi => by omega, Oc.rf⟩
    obtain ⟨M1, ⟨i1, i2⟩, e1⟩ := hk (fun M1 => (jc (fun (M : Mm) => ((if ((gi (si M 75 9 ((gi M 75 9) ||| (S p))) 75 4) &&& ((S p) ^^^ (-1))) = 0 then (if (gi (si M 75 9 ((gi M 75 9) ||| (S p))) 75 8) < 0 then some (si (si M 75 9 ((gi M 75 9) ||| (S p))) 75 8 (oi (A p))) else (if (gi (si M 75 9 ((gi M 75 9) ||| (S p))) 75 8) ≤ (oi (A p)) then some (si M 75 9 ((gi M 75 9) ||| (S p))) else some (si (si M 75 9 ((gi M 75 9) ||| (S p))) 75 8 (oi (A p))))) else some (si M 75 9 ((gi M 75 9) ||| (S p)))) : Option Mm)) (fun j75 => (if (oi (W p)) = (gi M1 75 6) then j75 (si M1 75 7 ((gi M1 75 7) + 1)) else j75 M1)) : Option Mm))
    have zm : zBm W (p + 1) = W p := if_pos hnew
    have zt : zBt W (p + 1) = 1 := if_pos hnew
    have zf : zBf W (p + 1) = p := if_pos hnew
    obtain ⟨M', f1, f2, f3⟩ := fin M1 0 (by omega) ((i2.g (by simp)).trans x3) (by rw [i2.g (by simp), hM0, gi_n (by omega), gi_n (by omega)]; exact a2) (by rw [i2.g (by simp), hM0, gi_e]) (by rw [i2.g (by simp), hM0, gi_n (by omega), gi_n (by omega)]; exact a5) (by rw [i2.g (by simp), hM0, gi_n (by omega), gi_n (by omega)]; exact a6) (by rw [i2.g (by simp), hM0, gi_n (by omega), gi_e, zm]) (by rw [zm, zt, if_pos rfl]) (fun i hi => by rw [zf]; exact i1 i hi)
    try dsimp only at e1
    refine ⟨M', ?_, f2, hO0.tr (i2.tr f3 (U := [75, 93]) (fun c hc => ⟨fun q => hc (by simp at q ⊢; omega), hc⟩)) (fun c hc => ⟨hc, hc⟩)⟩
    exact e1.trans f1
  unfold F_X5_weigh
  rw [jc, jc, l_0, a4]
  by_cases hp0 : p = 0
  · obtain ⟨M', n1, n2, n3⟩ := new (Or.inl hp0)
    refine ⟨M', ?_, n2, n3⟩
    rw [if_pos (by rw [hp0]; rfl)]
    exact n1
  · have htp := zBt_pos (W := W) p hp0
    rw [if_neg (by rw [eq_oi (by omega) (by omega)]; omega), a3 hp0]
    by_cases hle : zBm W p < W p
    · obtain ⟨M', n1, n2, n3⟩ := new (Or.inr hle)
      refine ⟨M', ?_, n2, n3⟩
      rw [if_neg (by rw [le_oi (by omega) (by omega)]; omega)]
      exact n1
    · have hnn : ¬ (p = 0 ∨ zBm W p < W p) := fun q => by rcases q with q | q; exact hp0 q; exact hle q
      have zm : zBm W (p + 1) = zBm W p := if_neg hnn
      have zt : zBt W (p + 1) = if W p = zBm W p then zBt W p + 1 else zBt W p := if_neg hnn
      have zf : zBf W (p + 1) = zBf W p := if_neg hnn
      obtain ⟨M', f1, f2, f3⟩ := fin M (zBt W p) (by omega) a1 a2 a4 a5 a6 (by rw [zm]; exact a3 hp0) (by rw [zm]; exact zt) (fun i hi => by rw [zf]; exact a7 hp0 i hi)
      refine ⟨M', ?_, f2, f3⟩
      rw [if_pos ((le_oi (by omega) (by omega)).mpr (by omega))]
      exact f1
end PL

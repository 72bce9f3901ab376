/-! THE TEXT OF RULES: conditions, both sides -/
def SgC (M : Mm) (lo : Nat) (l : List Int32) : Prop := ∀ i, i < l.length → gi M 11 (lo + i) = l.getD i 0
def SgR (N : Mm) (lo : Nat) (l : List Int32) : Prop := ∀ i, i < l.length → gi N 101 (lo + i) = l.getD i 0
def OUT (b : Nat → Nat) (n K : Nat) (M N M' N' : Mm) (a sc sr o : Nat) (P : List Int32 → List Int32 → Prop) : Prop := FM M M' ∧ FR N N' ∧ ((∃ s, BM b n K M' s ∧ BN b n N' s) ∨ ∃ a' lc lr, a < a' ∧ a + lc.length ≤ a' ∧ a + lr.length ≤ a' ∧ GM b n K M' a' (sc + lc.length) ∧ GN b n N' a' (sr + lr.length) o ∧ (∀ i, i < sc → gi M' 11 i = gi M 11 i) ∧ SgC M' sc lc ∧ (∀ i, i < sr → gi N' 101 i = gi N 101 i) ∧ SgR N' sr lr ∧ P lc lr)
section PC
variable {M N M' N' N1 M1 : Mm} {b : Nat → Nat} {n K a sc sr o s t k c D : Nat}
theorem by_v : zBy 21 = 60 ∧ zBy 22 = 61 ∧ zBy 23 = 62 ∧ zBy 18 = 40 ∧ zBy 19 = 41 ∧ zBy 20 = 59 := by decide +kernel
/-- a comparison -/
theorem p_cmp (hM : GM b n K M a sc) (hG : GN b n N a sr o) (hsr : sr + 1 ≤ a) (hsc : sc + 1 ≤ a) : ∃ M' N', OUT b n K M N M' N' a sc sr o (SM 3) ∧ (∀ j : Mm → Option Mm, ((F_X6_readValue M).bind fun r73 => (F_X6_expect r73.2 (oi 21) (oi 23)).bind fun r82 => (F_X6_readValue r82.2).bind fun r91 => (F_X6_emit r91.2 ((((r82.1 - oi 21) <<< (oi 28 &&& oi 31)) ||| (r73.1 <<< (oi 14 &&& oi 31))) ||| r91.1)).bind fun r110 => j r110) = j M') ∧ (∀ j : Mm → Option Mm, ((F_X12_valueHere N).bind fun r86 => (F_X12_isByte r86 (oi 60)).bind fun r99 => jc (fun (x128_0 : Int32) => ((F_X12_goesBy r86 x128_0).bind fun r128 => (F_X12_valueHere r128).bind fun r132 => (F_X12_lays r132 (oi 20000 + (Int64.toInt32 (gl r86)))).bind fun r141 => j r141 : Option Mm)) (fun j128 => jc (j128 (oi 1) : Option Mm) (fun j123 => (if r99 = oi 0 then (F_X12_isByte r86 (oi 61)).bind fun r108 => (if r108 = oi 0 then (F_X12_isByte r86 (oi 62)).bind fun r117 => (if r117 = oi 0 then j128 (oi 0) else j123) else j123) else j123)))) = j N') := by
  obtain ⟨y1, y2, y3, y4, y5, y6⟩ := by_v
  rcases p_val hM hG hsr with ⟨x, N1, v0, v1, v2, v3, v4, v5, v6, v7⟩ | ⟨x, M1, N1, s, v1, v2, v3, v4, v5, v6⟩
  · have hT1 := v2.1
    have hK1 := v2.2.1
    have hnk := hT1.2.1
    have hKn := hT1.1
    have w21 := r_isB (h := oi 60) v4 (k := 21) (by omega) (by omega) (by rw [y1])
    have w22 := r_isB (h := oi 61) v4 (k := 22) (by omega) (by omega) (by rw [y2])
    have w23 := r_isB (h := oi 62) v4 (k := 23) (by omega) (by omega) (by rw [y3])
    rcases c_exp (lo := 21) (hi := 23) v2 (by omega) (by omega) (Or.inl (by omega)) with ⟨e1, e2, e3, e4⟩ | ⟨e1, e2, e3⟩
    · obtain ⟨sg, hsg⟩ : ∃ sg, tkn b n (a + 1) = 21 + sg := ⟨tkn b n (a + 1) - 21, by omega⟩
      have hsg3 : sg < 3 := by omega
      have hak := tkn_k hT1 hK1 (by omega)
      obtain ⟨N2, g1, g2, g3, g4⟩ := r_go1 hT1 v4 hak
      have hgl : Int64.toInt32 (gl N1) = oi (60 + sg) := by
        obtain ⟨hY, h8, hs', ⟨q9, q10, hD⟩, h13, h16, h14⟩ := v4
        have hD : TD N1 (tkn b n (a + 1)) := hD
        rcases hD with ⟨d1, d2, d3⟩ | ⟨d1, d2, d3, d4⟩ | ⟨d1, d2, d3, d4⟩ | ⟨d1, d2⟩ | ⟨d1, d2⟩
        · omega
        · have hz : zBy (tkn b n (a + 1)) = 60 + sg := by
            rcases (by omega : sg = 0 ∨ sg = 1 ∨ sg = 2) with rfl | rfl | rfl
            · rw [hsg, y1]
            · rw [hsg, y2]
            · rw [hsg, y3]
          rw [d4, hz, i64_32 (by omega)]
        · omega
        · omega
        · omega
      have href : ∀ j : Mm → Option Mm, ((F_X12_valueHere N).bind fun r86 => (F_X12_isByte r86 (oi 60)).bind fun r99 => jc (fun (x128_0 : Int32) => ((F_X12_goesBy r86 x128_0).bind fun r128 => (F_X12_valueHere r128).bind fun r132 => (F_X12_lays r132 (oi 20000 + (Int64.toInt32 (gl r86)))).bind fun r141 => j r141 : Option Mm)) (fun j128 => jc (j128 (oi 1) : Option Mm) (fun j123 => (if r99 = oi 0 then (F_X12_isByte r86 (oi 61)).bind fun r108 => (if r108 = oi 0 then (F_X12_isByte r86 (oi 62)).bind fun r117 => (if r117 = oi 0 then j128 (oi 0) else j123) else j123) else j123)))) = (F_X12_valueHere N2).bind fun r132 => (F_X12_lays r132 (oi (20060 + sg))).bind fun r141 => j r141 := fun j => by
        have e20 : oi 20000 + oi (60 + sg) = oi (20060 + sg) := by
          rw [add_oi]
          congr 1
          omega
        rcases (by omega : sg = 0 ∨ sg = 1 ∨ sg = 2) with rfl | rfl | rfl
        · rw [hsg] at w21 w22 w23
          simp (disch := omega) only [v3, sb, w21, w22, w23, jc_e, if_pos, if_neg, eq_oi, if_true, g1, hgl, e20]
        · rw [hsg] at w21 w22 w23
          simp (disch := omega) only [v3, sb, w21, w22, w23, jc_e, if_pos, if_neg, eq_oi, if_true, g1, hgl, e20]
        · rw [hsg] at w21 w22 w23
          simp (disch := omega) only [v3, sb, w21, w22, w23, jc_e, if_pos, if_neg, eq_oi, if_true, g1, hgl, e20]
      have FM2 : FM M (si (si M 7 9 (oi (a + 1))) 7 9 (oi (a + 1 + 1))) := (FM.s7 (by omega)).tr (FM.s7 (by omega))
      rcases p_val e4 g2 (by omega) with ⟨y, N3, u0, u1, u2, u3, u4, u5, u6, u7⟩ | ⟨y, M3, N3, s, u1, u2, u3, u4, u5, u6⟩
      · obtain ⟨M4, z1, z2, z3, z4, z5⟩ := c_emit (v := oi (sg * 268435456 + x * 16384 + y)) u2 (by omega)
        obtain ⟨N4, l1, l2, l3, l4, l5, l6⟩ := r_lay (v := oi (20060 + sg)) u4 (by omega) (by have := u2.2.1; omega)
        have m11 : ∀ i, i ≠ sc → gi M4 11 i = gi M 11 i := fun i hi => by
          rw [z5 i hi, gi_n (by omega), gi_n (by omega), gi_n (by omega)]
        have n101 : ∀ i, i < sr ∨ i = sr + 1 ∨ i = sr → gi N4 101 i = (if i = sr then oi x else if i = sr + 1 then oi y else gi N 101 i) := fun i hi => by
          rw [l5 i (by omega)]
          by_cases hi1 : i = sr + 1
          · rw [if_neg (by omega), if_pos hi1, hi1]
            exact u6
          · rw [u7 i hi1, g4 i]
            by_cases hi0 : i = sr
            · rw [if_pos hi0, hi0]
              exact v6
            · rw [if_neg hi0, if_neg hi1]
              exact v7 i hi0
        refine ⟨M4, N4, ⟨(FM2.tr (FM.s7 (by omega))).tr z3, ((v5.tr g3).tr u5).tr l3, Or.inr ⟨a + 1 + 1 + 1, [oi (sg * 268435456 + x * 16384 + y)], [oi x, oi y, oi (20060 + sg)], by omega, by show a + 1 ≤ _; omega, by show a + 3 ≤ _; omega, z2, l2, fun i hi => m11 i (by omega), fun i hi => ?_, fun i hi => by rw [n101 i (by omega), if_neg (by omega), if_neg (by omega)], fun i hi => ?_, (SM_cmp hsg3 v0 u0).mono (by omega)⟩⟩, fun j => ?_, fun j => ?_⟩
        · have hi : i < 1 := hi
          obtain rfl : i = 0 := by omega
          exact z4
        · have hi : i < 3 := hi
          rcases (by omega : i = 0 ∨ i = 1 ∨ i = 2) with rfl | rfl | rfl
          · rw [Nat.add_zero, n101 sr (by omega), if_pos rfl]
            rfl
          · rw [n101 (sr + 1) (by omega), if_neg (by omega), if_pos rfl]
            rfl
          · exact l4
        · have hw := what_oi hsg3 (show x < 16384 by omega) (show y < 16384 by omega)
          have es : oi (tkn b n (a + 1)) - oi 21 = oi sg := by
            rw [hsg, sub_oi (by omega), Nat.add_sub_cancel_left]
          simp only [v1, sb, e3, u1, es, hw, z1]
        · rw [href j]
          simp only [u3, sb, l1]
      · refine ⟨M3, N3, ⟨FM2.tr u3, (v5.tr g3).tr u6, Or.inl ⟨s, u2, u5⟩⟩, fun j => ?_, fun j => ?_⟩
        · simp only [v1, sb, e3, u1, c_emitB u2]
        · rw [href j]
          simp only [u4, sb, r_layB u5]
    · have hne : tkn b n (a + 1) ≠ 21 ∧ tkn b n (a + 1) ≠ 22 ∧ tkn b n (a + 1) ≠ 23 := by omega
      rw [if_neg hne.1] at w21
      rw [if_neg hne.2.1] at w22
      rw [if_neg hne.2.2] at w23
      obtain ⟨g1, g2⟩ := r_go0 v4
      obtain ⟨⟨q, q1⟩, q2, q3⟩ := p_valB e3 g2
      refine ⟨_, _, ⟨(FM.s7 (by omega)).tr (FM.s7 (by omega)), (v5.tr (FR.s4 (by omega))).tr (FR.s4 (by omega)), Or.inl ⟨_, e3, q3⟩⟩, fun j => ?_, fun j => ?_⟩
      · simp only [v1, sb, e2, q1, c_emitB e3]
      · simp only [v3, sb, w21, w22, w23, jc_e, if_true, g1, q2, r_layB q3]
  · obtain ⟨g1, g2⟩ := r_goB (v := oi 0) v5
    obtain ⟨⟨q, q1⟩, -, -⟩ := p_valB v2 v5
    obtain ⟨-, q2, q3⟩ := p_valB v2 g2
    refine ⟨M1, _, ⟨v3, (v6.tr (FR.s4 (by omega))).tr (FR.s4 (by omega)), Or.inl ⟨s, v2, q3⟩⟩, fun j => ?_, fun j => ?_⟩
    · simp only [v1, sb, c_expB v2, q1, c_emitB v2]
    · simp only [v4, sb, r_isBB v5, jc_e, if_true, g1, q2, r_layB q3]
end PC

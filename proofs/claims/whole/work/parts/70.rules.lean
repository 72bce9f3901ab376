/-! CALLS: rules: up to the reading -/
section PL2
variable {M N M' N' : Mm}
theorem p_rules (hT : ∃ t, t ≤ 200 ∧ gi M 0 7 = oi t ∧ gi N 94 8 = oi t ∧ ∀ i, i < t → ∃ b, b < 256 ∧ gi N 100 i = oi b ∧ gi M 6 i = tb8 (oi b)) : ∃ M3 N3 b n K, F_X6_read M (gi M 0 7) = some (gi M3 7 10, M3) ∧ F_X12_rules N = fnR N3 ∧ Oc [7, 8, 9, 10, 11, 13, 14] M M3 ∧ FR2 N N3 ∧ ((∃ s, BM b n K M3 s ∧ BN b n N3 s) ∨ ∃ a c sc sr, RS b n K M3 N3 a c sc sr) := by
  obtain ⟨t, ht, t1, t2, t3⟩ := hT
  have hb : ∀ i, ∃ b, i < t → (b < 256 ∧ gi N 100 i = oi b ∧ gi M 6 i = tb8 (oi b)) := fun i => by
    by_cases hi : i < t
    · obtain ⟨b, q⟩ := t3 i hi
      exact ⟨b, fun _ => q⟩
    · exact ⟨0, fun q => absurd q hi⟩
  obtain ⟨b, hb⟩ := Classical.axiomOfChoice hb
  have hX : TX M t b := fun i hi => ⟨(hb i hi).1, (hb i hi).2.2⟩
  have hY : TY N t b := fun i hi => ⟨(hb i hi).1, (hb i hi).2.1⟩
  obtain ⟨M1, K, p1, p2, p3, p4, p5⟩ := c_part hX ht
  obtain ⟨M2, hM2⟩ : ∃ M2, M2 = si (si (si (si M1 7 0 (oi 0)) 7 5 (oi 0)) 7 9 (oi 0)) 7 10 (- oi 1) := ⟨_, rfl⟩
  have hF2 : FM2 M1 M2 := by
    rw [hM2]
    exact (((FM2.si (by omega)).tr (FM2.si (by omega))).tr (FM2.si (by omega))).tr (FM2.si (by omega))
  have hTK : TKM b t K M1 := ⟨p2, ht, p4, p3⟩
  obtain ⟨N0, hN0⟩ : ∃ N0, N0 = si (si (si (si (si N 94 9 (oi 0)) 94 13 (oi 0)) 94 14 (oi 0)) 94 16 (oi 0)) 94 18 (oi 0) := ⟨_, rfl⟩
  have hO0 : FR2 N N0 := by
    rw [hN0]
    exact (((((FR.s4 (by omega)).f2.tr (FR.s4 (by omega)).f2).tr (FR.s4 (by omega)).f2).tr (FR.s4 (by omega)).f2).tr FR2.s4)
  have n8 : gi N0 94 8 = oi t := by rw [hN0]; simp (disch := omega) only [gi_n]; exact t2
  have n9 : gi N0 94 9 = oi 0 := by rw [hN0]; simp (disch := omega) only [gi_n, gi_e]
  obtain ⟨N1, x1, x2, x3⟩ := r_next ht t 0 1000 N0 (by omega) (by omega) (by omega) (hY.oc hO0.1 (by decide)) n8 n9
  have hRS : RS b t K M2 N1 0 0 0 0 := by
    refine ⟨⟨hTK.f2 hF2, by omega, by omega, ?_, ?_, ?_⟩, ⟨(hY.oc hO0.1 (by decide)).oc x3.1 (by decide), (x3.2 8 (by omega) (by omega) (by omega)).trans n8, by omega, x2, (x3.2 13 (by omega) (by omega) (by omega)).trans ?_, (x3.2 16 (by omega) (by omega) (by omega)).trans ?_, (x3.2 14 (by omega) (by omega) (by omega)).trans ?_⟩, ?_, (x3.2 18 (by omega) (by omega) (by omega)).trans ?_, by omega, fun q => absurd rfl q, fun r hr => absurd hr (Nat.not_lt_zero r)⟩
    · rw [hM2]; simp (disch := omega) only [gi_n, gi_e]
    · rw [hM2]; simp (disch := omega) only [gi_n, gi_e]
    · rw [hM2]; simp (disch := omega) only [gi_n, gi_e]
    · rw [hN0]; simp (disch := omega) only [gi_n, gi_e]
    · rw [hN0]; simp (disch := omega) only [gi_n, gi_e]
    · rw [hN0]; simp (disch := omega) only [gi_n, gi_e]
    · rw [hM2]; simp (disch := omega) only [gi_n, gi_e]
    · rw [hN0]; simp (disch := omega) only [gi_n, gi_e]
  obtain ⟨M3, N3, r1, r2, r3, r4, r5⟩ := p_read 9 0 0 0 0 M2 N1 1000 1000 (by omega) (by omega) (by omega) hRS
  refine ⟨M3, N3, b, t, K, ?_, ?_, ?_, (hO0.tr x3.fr.f2).tr r4, r5⟩
  · unfold F_X6_read
    rw [t1, p1, sb, l_0, show (-1 : Int32) = - oi 1 from rfl, ← hM2, r1]
  · unfold F_X12_rules F_X12_next
    rw [l_0, bl_0, ← hN0, x1, sb, r2]
  · exact (Oc.tr p5 hF2 (U := [7, 8, 9, 10, 11, 13, 14]) (fun c hc => ⟨fun q => hc (by simp at q ⊢; omega), fun q => hc (by simp at q ⊢; omega)⟩)).tr r3 (fun c hc => ⟨hc, fun q => hc (by simp at q ⊢; omega)⟩)
end PL2

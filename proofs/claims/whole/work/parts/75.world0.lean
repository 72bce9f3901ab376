/-! THE FIRST MEMORY -/
def d0 (j : Nat) : Nat := if j = 2 then 12 else if j = 4 then 1 else if 7 ≤ j ∧ j < 23 then 9 else 0
theorem d0_hi {j : Nat} (h : 23 ≤ j) : d0 j = 0 := by
  unfold d0
  rw [if_neg (by omega), if_neg (by omega), if_neg (by omega)]
theorem d0_wa {t : Nat} (h : t < 16) : d0 (7 + t) = 9 := by
  unfold d0
  rw [if_neg (by omega), if_neg (by omega), if_pos (by omega)]
theorem dI_d0 (j : Nat) : dI 16 j = oi (d0 j) := by
  unfold dI d0
  by_cases h2 : j = 2
  · rw [if_pos h2, if_pos h2]
    rfl
  · rw [if_neg h2, if_neg h2]
    by_cases h4 : j = 4
    · rw [if_pos h4, if_pos h4]
      rfl
    · rw [if_neg h4, if_neg h4]
      by_cases h7 : 7 ≤ j ∧ j < 23
      · rw [if_pos (show 7 ≤ j ∧ j < 7 + 16 by omega), if_pos h7]
        rfl
      · rw [if_neg (show ¬ (7 ≤ j ∧ j < 7 + 16) by omega), if_neg h7]
        rfl
def A0 (a a2 : Nat) (u v : Nat → Nat) : Nat → Nat := fun i => if i = 0 then a else if i < 94 then u (i - 1) else if i = 94 then a2 else v (i - 95)
def m0 (g0 g2 g4 g5 h0 : Nat → Int32) : Nat → Nat → Int32 := fun c => if c = 16 then g0 else if c = 23 then g2 else if c = 36 then g4 else if c = 57 then g5 else if c = 95 then h0 else if c = 33 ∨ c = 54 then (fun j => if j = 13 then 12 else if j = 16 then 1 else 0) else fun _ => 0
section W0
variable {g0 g2 g4 g5 h0 : Nat → Int32}
theorem m0_o {c : Nat} (h : c ≠ 16 ∧ c ≠ 23 ∧ c ≠ 36 ∧ c ≠ 57 ∧ c ≠ 95 ∧ c ≠ 33 ∧ c ≠ 54) (j : Nat) : gi (m0 g0 g2 g4 g5 h0, 0) c j = oi 0 := by
  show m0 g0 g2 g4 g5 h0 c j = oi 0
  unfold m0
  rw [if_neg (by omega), if_neg (by omega), if_neg (by omega), if_neg (by omega), if_neg (by omega), if_neg (by omega)]
  rfl
theorem inv0 (q0 : ∀ j, j < 4 → g0 j = (-1)) (q2 : ∀ j, j < 4 → g2 j = 2) (q4 : ∀ j, j < 16 → g4 j = 9) (q9 : ∀ j, h0 j = dI 16 j) : Inv (m0 g0 g2 g4 g5 h0, 0) (m0 g0 g2 g4 g5 h0, 0) := by
  have z : ∀ k, k < 6 → zK d0 k = 0 ∧ zF d0 k = 0 ∧ zC d0 k = 0 ∧ zT d0 k = 0 ∧ zS d0 k = 0 := fun k hk => ⟨d0_hi (by omega), d0_hi (by omega), d0_hi (by omega), d0_hi (by omega), d0_hi (by omega)⟩
  have e : ∀ c j, c ≠ 16 ∧ c ≠ 23 ∧ c ≠ 36 ∧ c ≠ 57 ∧ c ≠ 95 ∧ c ≠ 33 ∧ c ≠ 54 → gi (m0 g0 g2 g4 g5 h0, 0) c j = oi 0 := fun c j h => m0_o h j
  have e95 : ∀ j, gi (m0 g0 g2 g4 g5 h0, 0) 95 j = oi (d0 j) := fun j => (q9 j).trans (dI_d0 j)
  refine ⟨⟨d0, fun _ _ => true, ⟨rfl, rfl, rfl, fun k hk => ⟨?_, ?_⟩, fun t ht => ?_, fun f hf => ⟨?_, ?_⟩, fun r hr => ⟨?_, ?_, ?_, ?_⟩, rfl, fun r hr => absurd hr (Nat.not_lt_zero r), 0, Nat.zero_le _, rfl, fun r hr => absurd hr (Nat.not_lt_zero r)⟩, ⟨fun k hk => ⟨?_, ?_⟩, rfl, rfl⟩, rfl, rfl, ⟨fun j _ => e95 j, 0, Nat.zero_le _, fun r hr => absurd hr (Nat.not_lt_zero r)⟩, ?_, rfl⟩, Or.inl ⟨rfl, rfl⟩, ⟨0, Nat.zero_le _, rfl, rfl, fun i hi => absurd hi (Nat.not_lt_zero i)⟩, ⟨0, Nat.zero_le _, rfl, rfl, fun i _ => rfl⟩, fun s hs => ⟨0, 0, Nat.zero_le _, Nat.zero_le _, ?_, e _ _ (by omega), e _ _ (by omega), e _ _ (by omega), fun i _ => (e _ _ (by omega)).trans (e _ _ (by omega)).symm⟩, fun s hs => ⟨0, 0, Nat.zero_le _, Nat.zero_le _, e _ _ (by omega), ?_, e _ _ (by omega), e _ _ (by omega), (e _ _ (by omega)).trans (e _ _ (by omega)).symm⟩, ⟨0, Nat.zero_le _, rfl, rfl, fun i hi => absurd hi (Nat.not_lt_zero i)⟩⟩
  · rw [(z k hk).1]
    exact e _ _ (by omega)
  · rw [(z k hk).2.2.2.1]
    exact e _ _ (by omega)
  · rw [d0_wa ht]
    exact q4 t ht
  · rw [d0_hi (by omega)]
    exact e _ _ (by omega)
  · rw [d0_hi (by omega)]
    exact e _ _ (by omega)
  · rw [d0_hi (by omega)]
    exact e _ _ (by omega)
  · rw [d0_hi (by omega)]
    exact e _ _ (by omega)
  · rw [d0_hi (by omega)]
    exact e _ _ (by omega)
  · rw [d0_hi (by omega)]
    exact e _ _ (by omega)
  · rw [(z k hk).2.1]
    exact e _ _ (by omega)
  · rw [(z k hk).2.2.1]
    exact e _ _ (by omega)
  · refine ⟨by decide, by decide, by decide, by decide, by decide, fun k hk => ?_, fun t ht => ?_, fun f hf => ?_, fun r hr => ?_, fun r hr => absurd hr (Nat.not_lt_zero r)⟩
    · obtain ⟨z1, z2, z3, z4, z5⟩ := z k hk
      rw [z1, z2, z3, z4, z5]
      exact ⟨Nat.zero_le _, Nat.zero_le _, Nat.zero_le _, Nat.zero_le _, Nat.zero_le _, fun _ => rfl⟩
    · rw [d0_wa ht]
      omega
    · rw [d0_hi (by omega), d0_hi (by omega)]
      omega
    · rw [d0_hi (by omega), d0_hi (by omega), d0_hi (by omega), d0_hi (by omega)]
      omega
  · exact (q0 s hs).trans (by decide)
  · exact (q2 s hs).trans rfl
end W0
section CG
variable {M N M' N' : Mm}
theorem Inv.cg (h : Inv M N) (h1 : ∀ c, c < 94 → M'.1 c = M.1 c) (h2 : ∀ c, 94 ≤ c → N'.1 c = N.1 c) : Inv M' N' := by
  have e1 : ∀ x, x < 94 → gi M' x = gi M x := fun x hx => h1 x hx
  have e2 : ∀ x, 94 ≤ x → gi N' x = gi N x := fun x hx => h2 x hx
  obtain ⟨⟨d, c, hV, hF, e3, e4, hRI, hW, hA⟩, hz⟩ := h
  refine ⟨⟨d, c, ?_, ?_, by rw [e1 33 (by omega)]; exact e3, by rw [e1 33 (by omega)]; exact e4, ?_, hW, ?_⟩, IZ.mv hz (fun x j hx => ?_) (fun x j hx => ?_)⟩
  · unfold VL at hV ⊢
    rw [e1 (33 + 0) (by omega), e1 (34 + 0) (by omega), e1 (35 + 0) (by omega), e1 (36 + 0) (by omega), e1 (37 + 0) (by omega), e1 (38 + 0) (by omega), e1 (42 + 0) (by omega), e1 (43 + 0) (by omega), e1 (44 + 0) (by omega), e1 (45 + 0) (by omega), e1 (46 + 0) (by omega), e1 (50 + 0) (by omega), e1 (51 + 0) (by omega), e1 (52 + 0) (by omega), e1 (53 + 0) (by omega)]
    exact hV
  · unfold FL at hF ⊢
    rw [e1 39 (by omega), e1 (39 + 1) (by omega), e1 (39 + 2) (by omega)]
    exact hF
  · unfold RI RR at hRI ⊢
    rw [e2 95 (by omega)]
    exact hRI
  · unfold AN at hA ⊢
    rw [e2 94 (by omega)]
    exact hA
  · rw [e1 x (by unfold ZM at hx; omega)]
  · rw [e2 x (by unfold ZN at hx; omega)]
/-- a call of both, one behind the other, in one memory -/
theorem Cl.pair {f g : Mm → Option (Int32 × Mm)} (h : Cl f g) (hI : Inv M M) : ∃ a M1 M2, f M = some (a, M1) ∧ g M1 = some (a, M2) ∧ Inv M2 M2 := by
  obtain ⟨a, M1, N1, f1, g1, I1, k1, k2⟩ := h M M hI
  have I2 : Inv M M1 := hI.cg (fun _ _ => rfl) k1
  obtain ⟨a', M2, N2, f2, g2, I3, k3, k4⟩ := h M M1 I2
  have e : some (a, M1) = some (a', M2) := f1.symm.trans f2
  cases e
  exact ⟨a, M1, N2, f1, g2, I3.cg k4 (fun _ _ => rfl)⟩
end CG

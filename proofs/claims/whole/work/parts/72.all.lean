/-! CALLS: rules: the condition of all rules read -/
section PN
variable {M N M' N' : Mm} {c sc sr : Nat}
theorem rul_all (h : ∀ r, r < c → Rul M N sc sr r) (hc : c ≤ 8) (hsc : sc ≤ 200) (hsr : sr ≤ 240) : ∃ (cc : Cnd) (fr to : Nat → Nat), (∀ r, r < c → gi N 102 (4 * r + 2) = oi (fr r) ∧ gi N 102 (4 * r + 3) = oi (to r) ∧ fr r ≤ 240 ∧ to r ≤ 240) ∧ CE (gi M 10) (gi M 11) c sc cc ∧ RE fr to (gi N 101) c sr cc := by
  have hex : ∀ r, ∃ z : ((Nat → Nat) → Bool) × Nat × Nat, r < c → gi N 102 (4 * r + 2) = oi z.2.1 ∧ gi N 102 (4 * r + 3) = oi z.2.2 ∧ z.2.1 ≤ 240 ∧ z.2.2 ≤ 240 ∧ (∀ (M' : Mm) (f : Nat → Nat), (∀ i, i ≤ r + 1 → gi M' 45 i = gi M 10 i) → (∀ i, i < sc → gi M' 46 i = gi M 11 i) → (∀ i, i < 5 → gi M' 47 i = oi (f i) ∧ f i ≤ 99) → F_X6_holds M' (oi r) = some (oi (if z.1 f = true then 1 else 0))) ∧ (∀ (N1 : Mm) (k : Nat) (f : Nat → Nat), (∀ i, i < sr → gi N1 95 (121 + i) = gi N 101 i) → (∀ N2 : Mm, N2.1 95 = N1.1 95 → ∀ i, i < 5 → F_X12_factOf N2 (oi i) (oi k) = some (oi (f i)) ∧ f i ≤ 99) → ∃ N', F_X12_holds N1 (oi z.2.1) (oi z.2.2) (oi k) = some (oi (if z.1 f = true then 1 else 0), N') ∧ Oc [98] N1 N') := fun r => by
    by_cases hr : r < c
    · obtain ⟨g, f0, t0, q⟩ := Rul_c (h r hr) (by omega) hsc hsr
      exact ⟨(g, f0, t0), fun _ => q⟩
    · exact ⟨(fun _ => true, 0, 0), fun q => absurd q hr⟩
  obtain ⟨z, hz⟩ := Classical.axiomOfChoice hex
  refine ⟨fun r => (z r).1, fun r => (z r).2.1, fun r => (z r).2.2, fun r hr => ?_, fun r hr M' f m1 m2 m3 => ?_, fun r hr => ?_⟩
  · obtain ⟨a1, a2, a3, a4, a5, a6⟩ := hz r hr
    exact ⟨a1, a2, a3, a4⟩
  · obtain ⟨a1, a2, a3, a4, a5, a6⟩ := hz r hr
    exact a5 M' f (fun i hi => m1 i (by omega)) m2 m3
  · obtain ⟨a1, a2, a3, a4, a5, a6⟩ := hz r hr
    exact ⟨Nat.lt_of_le_of_lt a3 (by decide), Nat.lt_of_le_of_lt a4 (by decide), fun N1 k f n1 n2 => a6 N1 k f n1 n2⟩
end PN

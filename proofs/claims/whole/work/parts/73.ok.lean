/-! CALLS: rules: all is read -/
section PO
variable {M N M' N' M3 N3 : Mm}
theorem oi_pick (x : Int32) : ∃ k : Nat, x = oi k ∧ ∀ f, f < 2147483648 → x = oi f → k = f := by
  by_cases h : ∃ f, f < 2147483648 ∧ x = oi f
  · obtain ⟨f, h1, h2⟩ := h
    exact ⟨f, h2, fun g h3 h4 => (eq_oi h1 h3).mp (h2.symm.trans h4)⟩
  · obtain ⟨k, hk⟩ := oi_all x
    exact ⟨k, hk, fun f h1 h2 => absurd ⟨f, h1, h2⟩ h⟩
theorem rules_ok (hI : Inv M N) {b : Nat → Nat} {n K a c sc sr : Nat} (h1 : F_X6_read M (gi M 0 7) = some (gi M3 7 10, M3)) (h2 : F_X12_rules N = fnR N3) (hO : Oc [7, 8, 9, 10, 11, 13, 14] M M3) (hR : FR2 N N3) (hS : RS b n K M3 N3 a c sc sr) : ∃ a M' N', F_X11_rules M = some (a, M') ∧ F_X12_rules N = some (a, N') ∧ Inv M' N' ∧ (∀ c, 94 ≤ c → M'.1 c = M.1 c) ∧ (∀ c, c < 94 → N'.1 c = N.1 c) := by
  obtain ⟨⟨d, cd, hV, hF, e3, e4, hRI, hW, hA⟩, yK, yT, yR, yS, yH, yC⟩ := hI
  obtain ⟨hGM, hGN, g70, g18, hc8, hst, hRul⟩ := hS
  have hKn := hGM.1.1
  have hnn := hGM.1.2.1
  have haK := hGM.2.1
  have hsca := hGM.2.2.1
  have g10 := hGM.2.2.2.2.1
  have g5 := hGM.2.2.2.2.2
  have hsra := hGN.2.2.1
  have k13 := hGN.2.2.2.2.1
  have k16 := hGN.2.2.2.2.2.1
  have hsc : sc ≤ 200 := by omega
  have hsr : sr ≤ 240 := by omega
  obtain ⟨cc, fr, to, f1, hCE, hRE⟩ := rul_all hRul hc8 hsc hsr
  have m75 : gi (si M3 0 7 (oi 0)) 7 5 = oi sc := by rw [gi_n (by omega)]; exact g5
  obtain ⟨M', t1, t2, t3, t4, t5, t6, t7, t8, t9⟩ := tk_42_7 (M := si M3 0 7 (oi 0)) hsc m75
  obtain ⟨N', s1, s2, s3, s4, s5, s6, s7, s8⟩ := r_fnR (N := N3) (c := c) hsr k13 k16 g18
  obtain ⟨v, hv⟩ := Classical.axiomOfChoice (fun i => oi_pick (gi N3 102 i))
  obtain ⟨d', hd'⟩ : ∃ d' : Nat → Nat, d' = fun j => if j = 5 then c else if 89 ≤ j ∧ j < 121 then v (j - 89) else d j := ⟨_, rfl⟩
  have ed5 : d' 5 = c := by rw [hd']; exact if_pos rfl
  have edv : ∀ i, i < 32 → d' (89 + i) = v i := fun i hi => by
    rw [hd']
    show (if 89 + i = 5 then c else if 89 ≤ 89 + i ∧ 89 + i < 121 then v (89 + i - 89) else d (89 + i)) = v i
    rw [if_neg (by omega), if_pos (by omega), show 89 + i - 89 = i by omega]
  have ed : ∀ j, j ≠ 5 → j < 89 → d' j = d j := fun j j1 j2 => by
    rw [hd']
    show (if j = 5 then c else if 89 ≤ j ∧ j < 121 then v (j - 89) else d j) = d j
    rw [if_neg j1, if_neg (by omega)]
  have ek : ∀ k, k < 6 → zK d' k = zK d k := fun k hk => ed _ (by omega) (by omega)
  have ef : ∀ k, k < 6 → zF d' k = zF d k := fun k hk => ed _ (by omega) (by omega)
  have ec : ∀ k, k < 6 → zC d' k = zC d k := fun k hk => ed _ (by omega) (by omega)
  have et : ∀ k, k < 6 → zT d' k = zT d k := fun k hk => ed _ (by omega) (by omega)
  have es : ∀ k, k < 6 → zS d' k = zS d k := fun k hk => ed _ (by omega) (by omega)
  have eb : zBi d' = zBi d := by
    unfold zBi
    rw [es 0 (by omega), es 1 (by omega), es 2 (by omega), es 3 (by omega), es 4 (by omega), es 5 (by omega)]
  -- the numbers of a rule
  have hvr : ∀ r, r < c → v (4 * r) ≤ 5 ∧ v (4 * r + 1) ≤ 2 ∧ v (4 * r + 2) = fr r ∧ v (4 * r + 3) = to r ∧ gi M3 8 r = oi (v (4 * r)) ∧ gi M3 9 r = oi (v (4 * r + 1)) := fun r hr => by
    obtain ⟨kd, dd, s0, f0, lc, lr, a1, a2, a3, a4, a5, a6, a7, a8, b1, b2, -⟩ := hRul r hr
    obtain ⟨q1, q2, q3, q4⟩ := f1 r hr
    have w0 := (hv (4 * r)).2 kd (by omega) b1
    have w1 := (hv (4 * r + 1)).2 dd (by omega) b2
    have w2 := (hv (4 * r + 2)).2 (fr r) (by omega) q1
    have w3 := (hv (4 * r + 3)).2 (to r) (by omega) q2
    rw [w0, w1]
    exact ⟨a1, a2, w2, w3, a3, a4⟩
  have hO2 : Oc [0, 7, 8, 9, 10, 11, 13, 14, 42, 43, 44, 45, 46] M M' := (hO.tr (Oc.si (S := [0]) (by simp)) (U := [0, 7, 8, 9, 10, 11, 13, 14]) (fun c hc => ⟨fun q => hc (by simp at q ⊢; omega), fun q => hc (by simp at q ⊢; omega)⟩)).tr t8 (fun c hc => ⟨fun q => hc (by simp at q ⊢; omega), fun q => hc (by simp at q ⊢; omega)⟩)
  have hP2 : Oc [94, 95, 101, 102] N N' := hR.1.tr s8 (fun c hc => ⟨fun q => hc (by simp at q ⊢; omega), fun q => hc (by simp at q ⊢; omega)⟩)
  have m0 : ∀ j, j ≠ 7 → gi M' 0 j = gi M 0 j := fun j hj => (t8.g (by decide)).trans ((gi_n (by omega)).trans (hO.g (by decide)))
  have n4 : ∀ j, j = 2 ∨ j = 4 ∨ j = 28 ∨ j = 36 → gi N' 94 j = gi N 94 j := fun j hj => (s7 j (by omega)).trans (hR.2 j (by omega) (by omega) (by omega) (by omega) (by omega) (by omega) (by omega))
  have mx : ∀ x, x ∉ [0, 7, 8, 9, 10, 11, 13, 14, 42, 43, 44, 45, 46] → ∀ j, gi M' x j = gi M x j := fun x hx j => hO2.g hx
  have nx : ∀ x, x ∉ [94, 95, 101, 102] → ∀ j, gi N' x j = gi N x j := fun x hx j => hP2.g hx
  have u42 : gi M' 42 0 = oi c := t2.trans ((gi_n (by omega)).trans g70)
  obtain ⟨l1, l2, l3, l4, l7, l8, l9, l10, l11, -⟩ := hV
  have hV' : VL 0 M' d' cc := by
    refine ⟨(mx 33 (by decide) 12).trans ?_, (mx 33 (by decide) 13).trans ?_, (mx 33 (by decide) 15).trans ?_, fun k hk => ⟨(mx 34 (by decide) k).trans ?_, (mx 35 (by decide) k).trans ?_⟩, fun t ht => (mx 36 (by decide) t).trans ?_, fun f hf => ⟨(mx 37 (by decide) f).trans ?_, (mx 38 (by decide) f).trans ?_⟩, fun r hr => ⟨(mx 50 (by decide) r).trans ?_, (mx 51 (by decide) r).trans ?_, (mx 52 (by decide) r).trans ?_, (mx 53 (by decide) r).trans ?_⟩, ?_, fun r hr => ?_, sc, hsc, t3, ?_⟩
    · rw [ed 0 (by omega) (by omega)]; exact l1
    · rw [ed 2 (by omega) (by omega)]; exact l2
    · rw [ed 6 (by omega) (by omega)]; exact l3
    · rw [ek k hk]; exact (l4 k hk).1
    · rw [et k hk]; exact (l4 k hk).2
    · rw [ed (7 + t) (by omega) (by omega)]; exact l7 t ht
    · rw [ed (23 + f) (by omega) (by omega)]; exact (l8 f hf).1
    · rw [ed (29 + f) (by omega) (by omega)]; exact (l8 f hf).2
    · rw [ed (65 + 4 * r) (by omega) (by omega)]; exact (l9 r hr).1
    · rw [ed (66 + 4 * r) (by omega) (by omega)]; exact (l9 r hr).2.1
    · rw [ed (67 + 4 * r) (by omega) (by omega)]; exact (l9 r hr).2.2.1
    · rw [ed (68 + 4 * r) (by omega) (by omega)]; exact (l9 r hr).2.2.2
    · rw [ed5]; exact u42
    · rw [ed5] at hr
      obtain ⟨p1, p2, p3, p4, p5, p6⟩ := hvr r hr
      have q1 := edv (4 * r) (by omega)
      have q2 := edv (4 * r + 1) (by omega)
      rw [show 89 + (4 * r + 1) = 90 + 4 * r by omega] at q2
      rw [q1, q2]
      exact ⟨(t4 r (by omega)).trans ((gi_n (by omega)).trans p5), (t5 r (by omega)).trans ((gi_n (by omega)).trans p6)⟩
    · rw [ed5]
      exact hCE.mv (fun i hi => (t6 i (by omega)).trans (gi_n (by omega))) (fun i hi => (t7 i hi).trans (gi_n (by omega)))
  have hF' : FL 39 M' d' := by
    refine ⟨fun k hk => ⟨(mx 40 (by decide) k).trans ?_, (mx 41 (by decide) k).trans ?_⟩, (mx 39 (by decide) 2).trans ?_, (mx 39 (by decide) 3).trans ?_⟩
    · rw [ef k hk]; exact hF.f hk
    · rw [ec k hk]; exact hF.c hk
    · rw [eb]; exact hF.b
    · rw [ed 1 (by omega) (by omega)]; exact hF.t
  have hRI' : RI N' d' cc := by
    refine ⟨fun j hj => ?_, sr, hsr, fun r hr => ?_⟩
    · by_cases j5 : j = 5
      · rw [j5, ed5]; exact s2
      · by_cases j9 : j < 89
        · rw [ed j j5 j9]
          exact (s5 j j5 j9).trans ((hR.1.g (by decide)).trans (hRI.1 j hj))
        · obtain ⟨i, rfl⟩ : ∃ i, j = 89 + i := ⟨j - 89, by omega⟩
          rw [edv i (by omega)]
          exact (s3 i (by omega)).trans (hv i).1
    · rw [ed5] at hr
      obtain ⟨p1, p2, p3, p4, p5, p6⟩ := hvr r hr
      have q1 := edv (4 * r + 2) (by omega)
      have q2 := edv (4 * r + 3) (by omega)
      rw [show 89 + (4 * r + 2) = 91 + 4 * r by omega, p3] at q1
      rw [show 89 + (4 * r + 3) = 92 + 4 * r by omega, p4] at q2
      have hx := (hRE.mv (co' := fun i => gi N' 95 (121 + i)) (fun i hi => s4 i hi)) r hr
      show d' (91 + 4 * r) < _ ∧ d' (92 + 4 * r) < _ ∧ ∀ (N : Mm) (k : Nat) (f : Nat → Nat), _ → _ → ∃ N', F_X12_holds N (oi (d' (91 + 4 * r))) (oi (d' (92 + 4 * r))) (oi k) = _ ∧ Oc [98] N N'
      rw [q1, q2]
      exact hx
  obtain ⟨w0, w1, w2, w5, w6, wb, ww1, ww2, ww3, ww4⟩ := hW
  have hW' : WF d' := by
    refine ⟨?_, ?_, ?_, ?_, ?_, fun k hk => ?_, fun t ht => ?_, fun f hf => ?_, fun r hr => ?_, fun r hr => ?_⟩
    · rw [ed 0 (by omega) (by omega)]; exact w0
    · rw [ed 1 (by omega) (by omega), ed 2 (by omega) (by omega)]; exact w1
    · rw [ed 2 (by omega) (by omega)]; exact w2
    · rw [ed5]; exact hc8
    · rw [ed 6 (by omega) (by omega)]; exact w6
    · rw [ek k hk, ef k hk, ec k hk, et k hk, es k hk, ed 0 (by omega) (by omega)]; exact wb k hk
    · rw [ed (7 + t) (by omega) (by omega)]; exact ww1 t ht
    · rw [ed (23 + f) (by omega) (by omega), ed (29 + f) (by omega) (by omega)]; exact ww2 f hf
    · rw [ed (65 + 4 * r) (by omega) (by omega), ed (66 + 4 * r) (by omega) (by omega), ed (67 + 4 * r) (by omega) (by omega), ed (68 + 4 * r) (by omega) (by omega)]; exact ww3 r hr
    · rw [ed5] at hr
      obtain ⟨p1, p2, p3, p4, p5, p6⟩ := hvr r hr
      have q1 := edv (4 * r) (by omega)
      have q2 := edv (4 * r + 1) (by omega)
      rw [show 89 + (4 * r + 1) = 90 + 4 * r by omega] at q2
      rw [q1, q2]
      exact ⟨p1, p2⟩
  have h33 : gi M' 33 14 = oi (d' 3) := by rw [ed 3 (by omega) (by omega)]; exact (mx 33 (by decide) 14).trans e3
  have h34 : gi M' 33 16 = oi (d' 4) := by rw [ed 4 (by omega) (by omega)]; exact (mx 33 (by decide) 16).trans e4
  refine ⟨oi c, M', N', ?_, h2.trans s1, ⟨⟨d', cc, hV', hF', h33, h34, hRI', hW', (n4 4 (by omega)).trans hA⟩, yK.mv (m0 2 (by omega)) (n4 2 (by omega)) (fun x q1 q2 j => mx x (by simp; omega) j) (nx 96 (by decide)), ⟨0, by omega, (t8.g (by decide)).trans gi_e, s6, fun i hi => absurd hi (Nat.not_lt_zero i)⟩, yR.mv (m0 10 (by omega)) (n4 28 (by omega)) (mx 15 (by decide)) (nx 104 (by decide)), yS.mv (fun x q1 q2 j => mx x (by simp; omega) j) (fun x q1 q2 j => nx x (by simp; omega) j), yH.mv (fun x q1 q2 j => mx x (by simp; omega) j) (fun x q1 q2 j => nx x (by simp; omega) j), yC.mv (mx 4 (by decide) 1) (n4 36 (by omega)) (mx 5 (by decide)) (nx 111 (by decide))⟩, fun x hx => hO2 x (by simp; omega), fun x hx => hP2 x (by simp; omega)⟩
  have hneg : (- oi 1 : Int32) < oi 0 := by decide
  unfold F_X11_rules
  simp (disch := omega) only [l_0, l_1, l_2, l_3, l_4, l_5, l_6, l_7, l_8, l_9, l_10, l_11, l_12, l_13, l_14, l_15, l_16, l_17, l_18, l_19, l_20, l_21, l_22, l_23, l_24, l_25, l_26, l_27, l_28, l_29, l_30, l_31, l_32, l_33, l_34, l_35, l_36, l_37, l_38, l_39, l_40, l_41, l_42, l_43, l_44, l_45, l_46, l_47, l_48, l_49, l_50, l_51, l_52, l_53, l_54, l_55, l_56, l_57, l_58, l_59, l_60, l_61, l_62, l_63, l_64, l_65, l_66, l_67, l_68, l_69, l_70, l_71, l_72, l_73, l_74, l_75, l_76, l_77, l_78, l_79, l_80, l_81, l_82, l_83, l_84, l_85, l_86, l_87, l_88, l_89, l_90, l_91, l_92, l_93, l_94, l_95, l_96, l_97, l_98, l_99, l_100, l_101, l_102, l_103, l_104, l_105, l_106, l_107, l_108, l_109, l_110, l_111, l_121, l_122, l_160, l_200, l_201, l_240, l_255, l_361, l_390, l_499, l_500, l_999, l_1000, l_10000, l_10099, l_12345, l_16383, l_20000, l_20033, l_20038, l_20124, l_100000, l_1000000, l_1103515245, ui_oi, ck_oi, sb, jc_e, bl_0, bl_1, le_oi, lt_oi, eq_oi, add_oi, mul_oi, div_oi, ir_oi, gi_e, gi_n, if_true, if_false, if_pos, if_neg, true_and, and_true, false_and, and_false, true_or, or_true, false_or, or_false, h1, g10, hneg, t1, u42]
theorem q_rules : Cl (fun M => F_X11_rules M) (fun M => F_X12_rules M) := by
  intro M N hI
  obtain ⟨M3, N3, b, n, K, h1, h2, h3, h4, h5⟩ := p_rules hI.2.2.1
  rcases h5 with ⟨s, bM, bN⟩ | ⟨a, c, sc, sr, hS⟩
  · exact rules_fault hI h1 h2 h3 h4 bM bN
  · exact rules_ok hI h1 h2 h3 h4 hS
end PO

/-! CALLS: keep, again -/
section KE
variable {M N M' N' : Mm} {d d' : Nat → Nat} {c : Cnd}
theorem ckc_ok {α : Type} {k n0 n1 : Nat} {o : Option α} (hk : k < 2147483648) (h0 : k ≤ n0) (h1 : k ≤ n1) : ckc 0 0 (oi k) n0 n1 o = o := by
  unfold ckc
  refine if_neg (fun q => ?_)
  have e0 : ui 0 = 0 := rfl
  have ek : ui (oi k) = k := ui_oi hk
  rcases q with q | q | q | q | q
  · exact absurd q (by decide)
  · exact absurd q (by decide)
  · rw [l_0, lt_oi hk (by omega)] at q
    omega
  · rw [e0, ek] at q
    omega
  · rw [e0, ek] at q
    omega
theorem gi_sc {M : Mm} {x : Nat} {g : Nat → Int32} {x' j : Nat} : gi (sc M x g) x' j = if x' = x then g j else gi M x' j := by
  unfold gi sc
  dsimp only
  split <;> rfl
theorem cpy_at {f g : Nat → Int32} {n i : Nat} (h : i < n) (hn : n < 2147483648) : va_cpy f g (ui 0) (ui 0) (ui (oi n)) i = f i := by
  have e0 : ui 0 = 0 := rfl
  unfold va_cpy
  rw [e0, ui_oi hn, if_pos (by omega)]
  congr 1
  omega
theorem Oc.sc {S : List Nat} {M : Mm} {x : Nat} {g : Nat → Int32} (h : x ∈ S) : Oc S M (sc M x g) := fun y hy => sc_off (fun q => hy (by rw [q]; exact h))
theorem c_copy {w0 w1 n : Nat} (h0 : ly_ln w0 = n) (h1 : ly_ln w1 = n) (hn : n < 1000) : ∃ M', F_X10_copy M w0 w1 = some M' ∧ (∀ i, i < n → gi M' w1 i = gi M w0 i) ∧ Oc [w1] M M' := by
  have e : mn (Int32.ofNat n) (Int32.ofNat n) = oi n := by
    show mn (oi n) (oi n) = oi n
    rw [mn_oi (by omega) (by omega), Nat.min_self]
  refine ⟨sc M w1 (va_cpy (M.1 w0) (M.1 w1) (ui 0) (ui 0) (ui (oi n))), ?_, fun i hi => ?_, Oc.sc (by simp)⟩
  · unfold F_X10_copy
    rw [h0, h1, e, ckc_ok (by omega) (Nat.le_refl _) (Nat.le_refl _)]
  · rw [gi_sc, if_pos rfl, cpy_at hi (by omega)]
    rfl
theorem tk_63_42 {cs : Nat} (hcs : cs ≤ 200) (h : gi M 42 5 = oi cs) : ∃ M', F_X6_take_63_42 M = some M' ∧ gi M' 63 0 = gi M 42 0 ∧ gi M' 63 5 = oi cs ∧ (∀ i, i < 8 → gi M' 64 i = gi M 43 i) ∧ (∀ i, i < 8 → gi M' 65 i = gi M 44 i) ∧ (∀ i, i < 9 → gi M' 66 i = gi M 45 i) ∧ (∀ i, i < cs → gi M' 67 i = gi M 46 i) ∧ Oc [63, 64, 65, 66, 67] M M' ∧ (∀ j, j ≠ 0 → j ≠ 5 → gi M' 63 j = gi M 63 j) := by
  obtain ⟨A1, hA1⟩ : ∃ A, A = si M 63 0 (gi M 42 0) := ⟨_, rfl⟩
  obtain ⟨A2, hA2⟩ : ∃ A, A = si A1 63 5 (gi A1 42 5) := ⟨_, rfl⟩
  obtain ⟨A3, hA3⟩ : ∃ A, A = sc A2 64 (va_cpy (A2.1 43) (A2.1 64) (ui 0) (ui 0) (ui 8)) := ⟨_, rfl⟩
  obtain ⟨A4, hA4⟩ : ∃ A, A = sc A3 65 (va_cpy (A3.1 44) (A3.1 65) (ui 0) (ui 0) (ui 8)) := ⟨_, rfl⟩
  obtain ⟨A5, hA5⟩ : ∃ A, A = sc A4 66 (va_cpy (A4.1 45) (A4.1 66) (ui 0) (ui 0) (ui 9)) := ⟨_, rfl⟩
  obtain ⟨A6, hA6⟩ : ∃ A, A = sc A5 67 (va_cpy (A5.1 46) (A5.1 67) (ui 0) (ui 0) (ui (gi A5 63 5))) := ⟨_, rfl⟩
  have e : F_X6_take_63_42 M = ckc 0 0 8 8 8 (ckc 0 0 8 8 8 (ckc 0 0 9 9 9 (ckc 0 0 (gi A5 63 5) 200 200 (some A6)))) := by
    subst hA6 hA5 hA4 hA3 hA2 hA1
    rfl
  have c2 : gi A2 63 5 = oi cs := by rw [hA2, gi_e, hA1, gi_n (by omega), h]
  have c5 : gi A5 63 5 = oi cs := by rw [hA5, gi_sc, if_neg (by omega), hA4, gi_sc, if_neg (by omega), hA3, gi_sc, if_neg (by omega), c2]
  rw [c5] at hA6 e
  have k8 : ui 8 = ui (oi 8) := rfl
  have k9 : ui 9 = ui (oi 9) := rfl
  refine ⟨A6, ?_, ?_, ?_, fun i hi => ?_, fun i hi => ?_, fun i hi => ?_, fun i hi => ?_, fun y hy => ?_, fun j j1 j2 => ?_⟩
  · rw [e, show (8 : Int32) = oi 8 from rfl, show (9 : Int32) = oi 9 from rfl, ckc_ok (by omega) (by omega) (by omega), ckc_ok (by omega) (by omega) (by omega), ckc_ok (by omega) (by omega) (by omega), ckc_ok (by omega) (by omega) (by omega)]
  · rw [hA6, gi_sc, if_neg (by omega), hA5, gi_sc, if_neg (by omega), hA4, gi_sc, if_neg (by omega), hA3, gi_sc, if_neg (by omega), hA2, gi_n (by omega), hA1, gi_e]
  · rw [hA6, gi_sc, if_neg (by omega), c5]
  · rw [hA6, gi_sc, if_neg (by omega), hA5, gi_sc, if_neg (by omega), hA4, gi_sc, if_neg (by omega), hA3, gi_sc, if_pos rfl, k8, cpy_at hi (by omega)]
    show gi A2 43 i = _
    rw [hA2, gi_n (by omega), hA1, gi_n (by omega)]
  · rw [hA6, gi_sc, if_neg (by omega), hA5, gi_sc, if_neg (by omega), hA4, gi_sc, if_pos rfl, k8, cpy_at hi (by omega)]
    show gi A3 44 i = _
    rw [hA3, gi_sc, if_neg (by omega), hA2, gi_n (by omega), hA1, gi_n (by omega)]
  · rw [hA6, gi_sc, if_neg (by omega), hA5, gi_sc, if_pos rfl, k9, cpy_at hi (by omega)]
    show gi A4 45 i = _
    rw [hA4, gi_sc, if_neg (by omega), hA3, gi_sc, if_neg (by omega), hA2, gi_n (by omega), hA1, gi_n (by omega)]
  · rw [hA6, gi_sc, if_pos rfl, cpy_at hi (by omega)]
    show gi A5 46 i = _
    rw [hA5, gi_sc, if_neg (by omega), hA4, gi_sc, if_neg (by omega), hA3, gi_sc, if_neg (by omega), hA2, gi_n (by omega), hA1, gi_n (by omega)]
  · simp at hy
    rw [hA6, sc_off (by omega), hA5, sc_off (by omega), hA4, sc_off (by omega), hA3, sc_off (by omega), hA2, si_ne (by omega), hA1, si_ne (by omega)]
  · rw [hA6, gi_sc, if_neg (by omega), hA5, gi_sc, if_neg (by omega), hA4, gi_sc, if_neg (by omega), hA3, gi_sc, if_neg (by omega), hA2, gi_n (by omega), hA1, gi_n (by omega)]
theorem tk_42_63 {cs : Nat} (hcs : cs ≤ 200) (h : gi M 63 5 = oi cs) : ∃ M', F_X6_take_42_63 M = some M' ∧ gi M' 42 0 = gi M 63 0 ∧ gi M' 42 5 = oi cs ∧ (∀ i, i < 8 → gi M' 43 i = gi M 64 i) ∧ (∀ i, i < 8 → gi M' 44 i = gi M 65 i) ∧ (∀ i, i < 9 → gi M' 45 i = gi M 66 i) ∧ (∀ i, i < cs → gi M' 46 i = gi M 67 i) ∧ Oc [42, 43, 44, 45, 46] M M' ∧ (∀ j, j ≠ 0 → j ≠ 5 → gi M' 42 j = gi M 42 j) := by
  obtain ⟨A1, hA1⟩ : ∃ A, A = si M 42 0 (gi M 63 0) := ⟨_, rfl⟩
  obtain ⟨A2, hA2⟩ : ∃ A, A = si A1 42 5 (gi A1 63 5) := ⟨_, rfl⟩
  obtain ⟨A3, hA3⟩ : ∃ A, A = sc A2 43 (va_cpy (A2.1 64) (A2.1 43) (ui 0) (ui 0) (ui 8)) := ⟨_, rfl⟩
  obtain ⟨A4, hA4⟩ : ∃ A, A = sc A3 44 (va_cpy (A3.1 65) (A3.1 44) (ui 0) (ui 0) (ui 8)) := ⟨_, rfl⟩
  obtain ⟨A5, hA5⟩ : ∃ A, A = sc A4 45 (va_cpy (A4.1 66) (A4.1 45) (ui 0) (ui 0) (ui 9)) := ⟨_, rfl⟩
  obtain ⟨A6, hA6⟩ : ∃ A, A = sc A5 46 (va_cpy (A5.1 67) (A5.1 46) (ui 0) (ui 0) (ui (gi A5 42 5))) := ⟨_, rfl⟩
  have e : F_X6_take_42_63 M = ckc 0 0 8 8 8 (ckc 0 0 8 8 8 (ckc 0 0 9 9 9 (ckc 0 0 (gi A5 42 5) 200 200 (some A6)))) := by
    subst hA6 hA5 hA4 hA3 hA2 hA1
    rfl
  have c2 : gi A2 42 5 = oi cs := by rw [hA2, gi_e, hA1, gi_n (by omega), h]
  have c5 : gi A5 42 5 = oi cs := by rw [hA5, gi_sc, if_neg (by omega), hA4, gi_sc, if_neg (by omega), hA3, gi_sc, if_neg (by omega), c2]
  rw [c5] at hA6 e
  have k8 : ui 8 = ui (oi 8) := rfl
  have k9 : ui 9 = ui (oi 9) := rfl
  refine ⟨A6, ?_, ?_, ?_, fun i hi => ?_, fun i hi => ?_, fun i hi => ?_, fun i hi => ?_, fun y hy => ?_, fun j j1 j2 => ?_⟩
  · rw [e, show (8 : Int32) = oi 8 from rfl, show (9 : Int32) = oi 9 from rfl, ckc_ok (by omega) (by omega) (by omega), ckc_ok (by omega) (by omega) (by omega), ckc_ok (by omega) (by omega) (by omega), ckc_ok (by omega) (by omega) (by omega)]
  · rw [hA6, gi_sc, if_neg (by omega), hA5, gi_sc, if_neg (by omega), hA4, gi_sc, if_neg (by omega), hA3, gi_sc, if_neg (by omega), hA2, gi_n (by omega), hA1, gi_e]
  · rw [hA6, gi_sc, if_neg (by omega), c5]
  · rw [hA6, gi_sc, if_neg (by omega), hA5, gi_sc, if_neg (by omega), hA4, gi_sc, if_neg (by omega), hA3, gi_sc, if_pos rfl, k8, cpy_at hi (by omega)]
    show gi A2 64 i = _
    rw [hA2, gi_n (by omega), hA1, gi_n (by omega)]
  · rw [hA6, gi_sc, if_neg (by omega), hA5, gi_sc, if_neg (by omega), hA4, gi_sc, if_pos rfl, k8, cpy_at hi (by omega)]
    show gi A3 65 i = _
    rw [hA3, gi_sc, if_neg (by omega), hA2, gi_n (by omega), hA1, gi_n (by omega)]
  · rw [hA6, gi_sc, if_neg (by omega), hA5, gi_sc, if_pos rfl, k9, cpy_at hi (by omega)]
    show gi A4 66 i = _
    rw [hA4, gi_sc, if_neg (by omega), hA3, gi_sc, if_neg (by omega), hA2, gi_n (by omega), hA1, gi_n (by omega)]
  · rw [hA6, gi_sc, if_pos rfl, cpy_at hi (by omega)]
    show gi A5 67 i = _
    rw [hA5, gi_sc, if_neg (by omega), hA4, gi_sc, if_neg (by omega), hA3, gi_sc, if_neg (by omega), hA2, gi_n (by omega), hA1, gi_n (by omega)]
  · simp at hy
    rw [hA6, sc_off (by omega), hA5, sc_off (by omega), hA4, sc_off (by omega), hA3, sc_off (by omega), hA2, si_ne (by omega), hA1, si_ne (by omega)]
  · rw [hA6, gi_sc, if_neg (by omega), hA5, gi_sc, if_neg (by omega), hA4, gi_sc, if_neg (by omega), hA3, gi_sc, if_neg (by omega), hA2, gi_n (by omega), hA1, gi_n (by omega)]
theorem tk_42_7 {cs : Nat} (hcs : cs ≤ 200) (h : gi M 7 5 = oi cs) : ∃ M', F_X6_take_42_7 M = some M' ∧ gi M' 42 0 = gi M 7 0 ∧ gi M' 42 5 = oi cs ∧ (∀ i, i < 8 → gi M' 43 i = gi M 8 i) ∧ (∀ i, i < 8 → gi M' 44 i = gi M 9 i) ∧ (∀ i, i < 9 → gi M' 45 i = gi M 10 i) ∧ (∀ i, i < cs → gi M' 46 i = gi M 11 i) ∧ Oc [42, 43, 44, 45, 46] M M' ∧ (∀ j, j ≠ 0 → j ≠ 5 → gi M' 42 j = gi M 42 j) := by
  obtain ⟨A1, hA1⟩ : ∃ A, A = si M 42 0 (gi M 7 0) := ⟨_, rfl⟩
  obtain ⟨A2, hA2⟩ : ∃ A, A = si A1 42 5 (gi A1 7 5) := ⟨_, rfl⟩
  obtain ⟨A3, hA3⟩ : ∃ A, A = sc A2 43 (va_cpy (A2.1 8) (A2.1 43) (ui 0) (ui 0) (ui 8)) := ⟨_, rfl⟩
  obtain ⟨A4, hA4⟩ : ∃ A, A = sc A3 44 (va_cpy (A3.1 9) (A3.1 44) (ui 0) (ui 0) (ui 8)) := ⟨_, rfl⟩
  obtain ⟨A5, hA5⟩ : ∃ A, A = sc A4 45 (va_cpy (A4.1 10) (A4.1 45) (ui 0) (ui 0) (ui 9)) := ⟨_, rfl⟩
  obtain ⟨A6, hA6⟩ : ∃ A, A = sc A5 46 (va_cpy (A5.1 11) (A5.1 46) (ui 0) (ui 0) (ui (gi A5 42 5))) := ⟨_, rfl⟩
  have e : F_X6_take_42_7 M = ckc 0 0 8 8 8 (ckc 0 0 8 8 8 (ckc 0 0 9 9 9 (ckc 0 0 (gi A5 42 5) 200 200 (some A6)))) := by
    subst hA6 hA5 hA4 hA3 hA2 hA1
    rfl
  have c2 : gi A2 42 5 = oi cs := by rw [hA2, gi_e, hA1, gi_n (by omega), h]
  have c5 : gi A5 42 5 = oi cs := by rw [hA5, gi_sc, if_neg (by omega), hA4, gi_sc, if_neg (by omega), hA3, gi_sc, if_neg (by omega), c2]
  rw [c5] at hA6 e
  have k8 : ui 8 = ui (oi 8) := rfl
  have k9 : ui 9 = ui (oi 9) := rfl
  refine ⟨A6, ?_, ?_, ?_, fun i hi => ?_, fun i hi => ?_, fun i hi => ?_, fun i hi => ?_, fun y hy => ?_, fun j j1 j2 => ?_⟩
  · rw [e, show (8 : Int32) = oi 8 from rfl, show (9 : Int32) = oi 9 from rfl, ckc_ok (by omega) (by omega) (by omega), ckc_ok (by omega) (by omega) (by omega), ckc_ok (by omega) (by omega) (by omega), ckc_ok (by omega) (by omega) (by omega)]
  · rw [hA6, gi_sc, if_neg (by omega), hA5, gi_sc, if_neg (by omega), hA4, gi_sc, if_neg (by omega), hA3, gi_sc, if_neg (by omega), hA2, gi_n (by omega), hA1, gi_e]
  · rw [hA6, gi_sc, if_neg (by omega), c5]
  · rw [hA6, gi_sc, if_neg (by omega), hA5, gi_sc, if_neg (by omega), hA4, gi_sc, if_neg (by omega), hA3, gi_sc, if_pos rfl, k8, cpy_at hi (by omega)]
    show gi A2 8 i = _
    rw [hA2, gi_n (by omega), hA1, gi_n (by omega)]
  · rw [hA6, gi_sc, if_neg (by omega), hA5, gi_sc, if_neg (by omega), hA4, gi_sc, if_pos rfl, k8, cpy_at hi (by omega)]
    show gi A3 9 i = _
    rw [hA3, gi_sc, if_neg (by omega), hA2, gi_n (by omega), hA1, gi_n (by omega)]
  · rw [hA6, gi_sc, if_neg (by omega), hA5, gi_sc, if_pos rfl, k9, cpy_at hi (by omega)]
    show gi A4 10 i = _
    rw [hA4, gi_sc, if_neg (by omega), hA3, gi_sc, if_neg (by omega), hA2, gi_n (by omega), hA1, gi_n (by omega)]
  · rw [hA6, gi_sc, if_pos rfl, cpy_at hi (by omega)]
    show gi A5 11 i = _
    rw [hA5, gi_sc, if_neg (by omega), hA4, gi_sc, if_neg (by omega), hA3, gi_sc, if_neg (by omega), hA2, gi_n (by omega), hA1, gi_n (by omega)]
  · simp at hy
    rw [hA6, sc_off (by omega), hA5, sc_off (by omega), hA4, sc_off (by omega), hA3, sc_off (by omega), hA2, si_ne (by omega), hA1, si_ne (by omega)]
  · rw [hA6, gi_sc, if_neg (by omega), hA5, gi_sc, if_neg (by omega), hA4, gi_sc, if_neg (by omega), hA3, gi_sc, if_neg (by omega), hA2, gi_n (by omega), hA1, gi_n (by omega)]
theorem CE.mv {st co st' co' : Nat → Int32} {n cs : Nat} (h : CE st co n cs c) (h1 : ∀ i, i ≤ n → st' i = st i) (h2 : ∀ i, i < cs → co' i = co i) : CE st' co' n cs c := fun r hr M f f1 f2 f3 => h r hr M f (fun i hi => (f1 i hi).trans (h1 i hi)) (fun i hi => (f2 i hi).trans (h2 i hi)) f3
theorem RE.mv {fr to : Nat → Nat} {co co' : Nat → Int32} {n cs : Nat} (h : RE fr to co n cs c) (h2 : ∀ i, i < cs → co' i = co i) : RE fr to co' n cs c := by
  intro r hr
  obtain ⟨a1, a2, a3⟩ := h r hr
  exact ⟨a1, a2, fun N k f f1 f2 => a3 N k f (fun i hi => (f1 i hi).trans (h2 i hi)) f2⟩
theorem VL.cp {a b : Nat} (h : VL a M d c) (h5 : d 5 ≤ 8) (e33 : ∀ j, j = 12 ∨ j = 13 ∨ j = 15 → gi M' (33 + b) j = gi M (33 + a) j) (e34 : ∀ k, k < 6 → gi M' (34 + b) k = gi M (34 + a) k) (e35 : ∀ k, k < 6 → gi M' (35 + b) k = gi M (35 + a) k) (e36 : ∀ k, k < 16 → gi M' (36 + b) k = gi M (36 + a) k) (e37 : ∀ k, k < 6 → gi M' (37 + b) k = gi M (37 + a) k) (e38 : ∀ k, k < 6 → gi M' (38 + b) k = gi M (38 + a) k) (e50 : ∀ k, k < 6 → gi M' (50 + b) k = gi M (50 + a) k) (e51 : ∀ k, k < 6 → gi M' (51 + b) k = gi M (51 + a) k) (e52 : ∀ k, k < 6 → gi M' (52 + b) k = gi M (52 + a) k) (e53 : ∀ k, k < 6 → gi M' (53 + b) k = gi M (53 + a) k) (e42 : ∀ j, j = 0 ∨ j = 5 → gi M' (42 + b) j = gi M (42 + a) j) (e43 : ∀ k, k < 8 → gi M' (43 + b) k = gi M (43 + a) k) (e44 : ∀ k, k < 8 → gi M' (44 + b) k = gi M (44 + a) k) (e45 : ∀ k, k < 9 → gi M' (45 + b) k = gi M (45 + a) k) (e46 : ∀ cs, gi M (42 + a) 5 = oi cs → cs ≤ 200 → ∀ k, k < cs → gi M' (46 + b) k = gi M (46 + a) k) : VL b M' d c := by
  obtain ⟨h1, h2, h3, h4, h7, h8, h9, h10, h11, cs, h12, h13, h14⟩ := h
  refine ⟨(e33 12 (by omega)).trans h1, (e33 13 (by omega)).trans h2, (e33 15 (by omega)).trans h3, fun k hk => ⟨(e34 k hk).trans (h4 k hk).1, (e35 k hk).trans (h4 k hk).2⟩, fun t ht => (e36 t ht).trans (h7 t ht), fun f hf => ⟨(e37 f hf).trans (h8 f hf).1, (e38 f hf).trans (h8 f hf).2⟩, fun r hr => ⟨(e50 r hr).trans (h9 r hr).1, (e51 r hr).trans (h9 r hr).2.1, (e52 r hr).trans (h9 r hr).2.2.1, (e53 r hr).trans (h9 r hr).2.2.2⟩, (e42 0 (by omega)).trans h10, fun r hr => ⟨(e43 r (by omega)).trans (h11 r hr).1, (e44 r (by omega)).trans (h11 r hr).2⟩, cs, h12, (e42 5 (by omega)).trans h13, h14.mv (fun i hi => e45 i (by omega)) (e46 cs h13 h12)⟩
theorem c_keep (hV : VL 0 M d c) (hF : FL 39 M d) (h5 : d 5 ≤ 8) : ∃ M', F_X10_take_54_33 M = some M' ∧ VL 21 M' d c ∧ FL 60 M' d ∧ gi M' 54 14 = gi M 33 14 ∧ gi M' 54 16 = gi M 33 16 ∧ (∀ x, (x < 54 ∨ 74 < x ∨ x = 68) → M'.1 x = M.1 x) := by
  obtain ⟨cs, hcs, hcs2, -⟩ := id hV.2.2.2.2.2.2.2.2.2
  obtain ⟨M1, g1, p1, o1⟩ := c_copy (M := M) (w0 := 34) (w1 := 55) (n := 6) (by decide +kernel) (by decide +kernel) (by omega)
  obtain ⟨M2, g2, p2, o2⟩ := c_copy (M := M1) (w0 := 35) (w1 := 56) (n := 6) (by decide +kernel) (by decide +kernel) (by omega)
  obtain ⟨M3, g3, p3, o3⟩ := c_copy (M := M2) (w0 := 36) (w1 := 57) (n := 16) (by decide +kernel) (by decide +kernel) (by omega)
  obtain ⟨M4, g4, p4, o4⟩ := c_copy (M := M3) (w0 := 37) (w1 := 58) (n := 6) (by decide +kernel) (by decide +kernel) (by omega)
  obtain ⟨M5, g5, p5, o5⟩ := c_copy (M := M4) (w0 := 38) (w1 := 59) (n := 6) (by decide +kernel) (by decide +kernel) (by omega)
  have hF5 : FL 39 M5 d := ((((hF.oc o1 (by decide) (by decide) (by decide)).oc o2 (by decide) (by decide) (by decide)).oc o3 (by decide) (by decide) (by decide)).oc o4 (by decide) (by decide) (by decide)).oc o5 (by decide) (by decide) (by decide)
  obtain ⟨M6, g6, p6, o6⟩ := c_take (w0 := 60) (w1 := 39) hF5 (by omega)
  have h65 : gi M6 42 5 = oi cs := by rw [o6.g (by decide), o5.g (by decide), o4.g (by decide), o3.g (by decide), o2.g (by decide), o1.g (by decide)]; exact hcs2
  obtain ⟨M7, g7, r0, r5, r1, r2, r3, r4, o7, r6⟩ := tk_63_42 hcs h65
  obtain ⟨M8, g8, p8, o8⟩ := c_copy (M := M7) (w0 := 50) (w1 := 71) (n := 6) (by decide +kernel) (by decide +kernel) (by omega)
  obtain ⟨M9, g9, p9, o9⟩ := c_copy (M := M8) (w0 := 51) (w1 := 72) (n := 6) (by decide +kernel) (by decide +kernel) (by omega)
  obtain ⟨M10, g10, p10, o10⟩ := c_copy (M := M9) (w0 := 52) (w1 := 73) (n := 6) (by decide +kernel) (by decide +kernel) (by omega)
  obtain ⟨M11, g11, p11, o11⟩ := c_copy (M := M10) (w0 := 53) (w1 := 74) (n := 6) (by decide +kernel) (by decide +kernel) (by omega)
  obtain ⟨M12, hM12⟩ : ∃ A, A = si (si (si (si (si M11 54 12 (gi M11 33 12)) 54 13 (gi M11 33 13)) 54 14 (gi M11 33 14)) 54 15 (gi M11 33 15)) 54 16 (gi M11 33 16) := ⟨_, rfl⟩
  have o12 : Oc [54] M11 M12 := by
    intro y hy
    simp at hy
    rw [hM12, si_ne hy, si_ne hy, si_ne hy, si_ne hy, si_ne hy]
  refine ⟨M12, ?_, VL.cp hV h5 (fun j hj => ?_) (fun k hk => ?_) (fun k hk => ?_) (fun k hk => ?_) (fun k hk => ?_) (fun k hk => ?_) (fun k hk => ?_) (fun k hk => ?_) (fun k hk => ?_) (fun k hk => ?_) (fun j hj => ?_) (fun k hk => ?_) (fun k hk => ?_) (fun k hk => ?_) (fun cs2 q1 q2 k hk => ?_), ?_, ?_, ?_, fun x hx => ?_⟩
  · unfold F_X10_take_54_33
    rw [g1, sb, g2, sb, g3, sb, g4, sb, g5, sb, g6, sb, g7, sb, g8, sb, g9, sb, g10, sb, g11, sb, hM12]
    simp (disch := omega) only [gi_n]
  · have e : gi M12 54 j = gi M11 33 j := by
      rw [hM12]
      rcases hj with rfl | rfl | rfl <;> simp (disch := omega) only [gi_n, gi_e]
    show gi M12 54 j = gi M 33 j
    rw [e, o11.g (by decide), o10.g (by decide), o9.g (by decide), o8.g (by decide), o7.g (by decide), o6.g (by decide), o5.g (by decide), o4.g (by decide), o3.g (by decide), o2.g (by decide), o1.g (by decide)]
  · show gi M12 55 k = gi M 34 k
    rw [o12.g (by decide), o11.g (by decide), o10.g (by decide), o9.g (by decide), o8.g (by decide), o7.g (by decide), o6.g (by decide), o5.g (by decide), o4.g (by decide), o3.g (by decide), o2.g (by decide), p1 k hk]
  · show gi M12 56 k = gi M 35 k
    rw [o12.g (by decide), o11.g (by decide), o10.g (by decide), o9.g (by decide), o8.g (by decide), o7.g (by decide), o6.g (by decide), o5.g (by decide), o4.g (by decide), o3.g (by decide), p2 k hk, o1.g (by decide)]
  · show gi M12 57 k = gi M 36 k
    rw [o12.g (by decide), o11.g (by decide), o10.g (by decide), o9.g (by decide), o8.g (by decide), o7.g (by decide), o6.g (by decide), o5.g (by decide), o4.g (by decide), p3 k hk, o2.g (by decide), o1.g (by decide)]
  · show gi M12 58 k = gi M 37 k
    rw [o12.g (by decide), o11.g (by decide), o10.g (by decide), o9.g (by decide), o8.g (by decide), o7.g (by decide), o6.g (by decide), o5.g (by decide), p4 k hk, o3.g (by decide), o2.g (by decide), o1.g (by decide)]
  · show gi M12 59 k = gi M 38 k
    rw [o12.g (by decide), o11.g (by decide), o10.g (by decide), o9.g (by decide), o8.g (by decide), o7.g (by decide), o6.g (by decide), p5 k hk, o4.g (by decide), o3.g (by decide), o2.g (by decide), o1.g (by decide)]
  · show gi M12 71 k = gi M 50 k
    rw [o12.g (by decide), o11.g (by decide), o10.g (by decide), o9.g (by decide), p8 k hk, o7.g (by decide), o6.g (by decide), o5.g (by decide), o4.g (by decide), o3.g (by decide), o2.g (by decide), o1.g (by decide)]
  · show gi M12 72 k = gi M 51 k
    rw [o12.g (by decide), o11.g (by decide), o10.g (by decide), p9 k hk, o8.g (by decide), o7.g (by decide), o6.g (by decide), o5.g (by decide), o4.g (by decide), o3.g (by decide), o2.g (by decide), o1.g (by decide)]
  · show gi M12 73 k = gi M 52 k
    rw [o12.g (by decide), o11.g (by decide), p10 k hk, o9.g (by decide), o8.g (by decide), o7.g (by decide), o6.g (by decide), o5.g (by decide), o4.g (by decide), o3.g (by decide), o2.g (by decide), o1.g (by decide)]
  · show gi M12 74 k = gi M 53 k
    rw [o12.g (by decide), p11 k hk, o10.g (by decide), o9.g (by decide), o8.g (by decide), o7.g (by decide), o6.g (by decide), o5.g (by decide), o4.g (by decide), o3.g (by decide), o2.g (by decide), o1.g (by decide)]
  · show gi M12 63 j = gi M 42 j
    rcases hj with rfl | rfl
    · rw [o12.g (by decide), o11.g (by decide), o10.g (by decide), o9.g (by decide), o8.g (by decide), r0, o6.g (by decide), o5.g (by decide), o4.g (by decide), o3.g (by decide), o2.g (by decide), o1.g (by decide)]
    · rw [o12.g (by decide), o11.g (by decide), o10.g (by decide), o9.g (by decide), o8.g (by decide), r5]
      exact hcs2.symm
  · show gi M12 64 k = gi M 43 k
    rw [o12.g (by decide), o11.g (by decide), o10.g (by decide), o9.g (by decide), o8.g (by decide), r1 k hk, o6.g (by decide), o5.g (by decide), o4.g (by decide), o3.g (by decide), o2.g (by decide), o1.g (by decide)]
  · show gi M12 65 k = gi M 44 k
    rw [o12.g (by decide), o11.g (by decide), o10.g (by decide), o9.g (by decide), o8.g (by decide), r2 k hk, o6.g (by decide), o5.g (by decide), o4.g (by decide), o3.g (by decide), o2.g (by decide), o1.g (by decide)]
  · show gi M12 66 k = gi M 45 k
    rw [o12.g (by decide), o11.g (by decide), o10.g (by decide), o9.g (by decide), o8.g (by decide), r3 k hk, o6.g (by decide), o5.g (by decide), o4.g (by decide), o3.g (by decide), o2.g (by decide), o1.g (by decide)]
  · show gi M12 67 k = gi M 46 k
    have hcc : oi cs2 = oi cs := by rw [← q1]; exact hcs2
    rw [eq_oi (by omega) (by omega)] at hcc
    rw [o12.g (by decide), o11.g (by decide), o10.g (by decide), o9.g (by decide), o8.g (by decide), r4 k (by omega), o6.g (by decide), o5.g (by decide), o4.g (by decide), o3.g (by decide), o2.g (by decide), o1.g (by decide)]
  · exact (((((p6.oc o7 (by decide) (by decide) (by decide)).oc o8 (by decide) (by decide) (by decide)).oc o9 (by decide) (by decide) (by decide)).oc o10 (by decide) (by decide) (by decide)).oc o11 (by decide) (by decide) (by decide)).oc o12 (by decide) (by decide) (by decide)
  · have e : gi M12 54 14 = gi M11 33 14 := by
      rw [hM12]
      simp (disch := omega) only [gi_n, gi_e]
    rw [e, o11.g (by decide), o10.g (by decide), o9.g (by decide), o8.g (by decide), o7.g (by decide), o6.g (by decide), o5.g (by decide), o4.g (by decide), o3.g (by decide), o2.g (by decide), o1.g (by decide)]
  · have e : gi M12 54 16 = gi M11 33 16 := by
      rw [hM12]
      simp (disch := omega) only [gi_n, gi_e]
    rw [e, o11.g (by decide), o10.g (by decide), o9.g (by decide), o8.g (by decide), o7.g (by decide), o6.g (by decide), o5.g (by decide), o4.g (by decide), o3.g (by decide), o2.g (by decide), o1.g (by decide)]
  · rw [o12 x (by simp; omega), o11 x (by simp; omega), o10 x (by simp; omega), o9 x (by simp; omega), o8 x (by simp; omega), o7 x (by simp; omega), o6 x (by simp; omega), o5 x (by simp; omega), o4 x (by simp; omega), o3 x (by simp; omega), o2 x (by simp; omega), o1 x (by simp; omega)]
theorem c_again (hV : VL 21 M d c) (hF : FL 60 M d) (h5 : d 5 ≤ 8) : ∃ M', F_X10_take_33_54 M = some M' ∧ VL 0 M' d c ∧ FL 39 M' d ∧ gi M' 33 14 = gi M 54 14 ∧ gi M' 33 16 = gi M 54 16 ∧ (∀ x, (x < 33 ∨ 53 < x ∨ x = 47) → M'.1 x = M.1 x) := by
  obtain ⟨cs, hcs, hcs2, -⟩ := id hV.2.2.2.2.2.2.2.2.2
  obtain ⟨M1, g1, p1, o1⟩ := c_copy (M := M) (w0 := 55) (w1 := 34) (n := 6) (by decide +kernel) (by decide +kernel) (by omega)
  obtain ⟨M2, g2, p2, o2⟩ := c_copy (M := M1) (w0 := 56) (w1 := 35) (n := 6) (by decide +kernel) (by decide +kernel) (by omega)
  obtain ⟨M3, g3, p3, o3⟩ := c_copy (M := M2) (w0 := 57) (w1 := 36) (n := 16) (by decide +kernel) (by decide +kernel) (by omega)
  obtain ⟨M4, g4, p4, o4⟩ := c_copy (M := M3) (w0 := 58) (w1 := 37) (n := 6) (by decide +kernel) (by decide +kernel) (by omega)
  obtain ⟨M5, g5, p5, o5⟩ := c_copy (M := M4) (w0 := 59) (w1 := 38) (n := 6) (by decide +kernel) (by decide +kernel) (by omega)
  have hF5 : FL 60 M5 d := ((((hF.oc o1 (by decide) (by decide) (by decide)).oc o2 (by decide) (by decide) (by decide)).oc o3 (by decide) (by decide) (by decide)).oc o4 (by decide) (by decide) (by decide)).oc o5 (by decide) (by decide) (by decide)
  obtain ⟨M6, g6, p6, o6⟩ := c_take (w0 := 39) (w1 := 60) hF5 (by omega)
  have h65 : gi M6 63 5 = oi cs := by rw [o6.g (by decide), o5.g (by decide), o4.g (by decide), o3.g (by decide), o2.g (by decide), o1.g (by decide)]; exact hcs2
  obtain ⟨M7, g7, r0, r5, r1, r2, r3, r4, o7, r6⟩ := tk_42_63 hcs h65
  obtain ⟨M8, g8, p8, o8⟩ := c_copy (M := M7) (w0 := 71) (w1 := 50) (n := 6) (by decide +kernel) (by decide +kernel) (by omega)
  obtain ⟨M9, g9, p9, o9⟩ := c_copy (M := M8) (w0 := 72) (w1 := 51) (n := 6) (by decide +kernel) (by decide +kernel) (by omega)
  obtain ⟨M10, g10, p10, o10⟩ := c_copy (M := M9) (w0 := 73) (w1 := 52) (n := 6) (by decide +kernel) (by decide +kernel) (by omega)
  obtain ⟨M11, g11, p11, o11⟩ := c_copy (M := M10) (w0 := 74) (w1 := 53) (n := 6) (by decide +kernel) (by decide +kernel) (by omega)
  obtain ⟨M12, hM12⟩ : ∃ A, A = si (si (si (si (si M11 33 12 (gi M11 54 12)) 33 13 (gi M11 54 13)) 33 14 (gi M11 54 14)) 33 15 (gi M11 54 15)) 33 16 (gi M11 54 16) := ⟨_, rfl⟩
  have o12 : Oc [33] M11 M12 := by
    intro y hy
    simp at hy
    rw [hM12, si_ne hy, si_ne hy, si_ne hy, si_ne hy, si_ne hy]
  refine ⟨M12, ?_, VL.cp hV h5 (fun j hj => ?_) (fun k hk => ?_) (fun k hk => ?_) (fun k hk => ?_) (fun k hk => ?_) (fun k hk => ?_) (fun k hk => ?_) (fun k hk => ?_) (fun k hk => ?_) (fun k hk => ?_) (fun j hj => ?_) (fun k hk => ?_) (fun k hk => ?_) (fun k hk => ?_) (fun cs2 q1 q2 k hk => ?_), ?_, ?_, ?_, fun x hx => ?_⟩
  · unfold F_X10_take_33_54
    rw [g1, sb, g2, sb, g3, sb, g4, sb, g5, sb, g6, sb, g7, sb, g8, sb, g9, sb, g10, sb, g11, sb, hM12]
    simp (disch := omega) only [gi_n]
  · have e : gi M12 33 j = gi M11 54 j := by
      rw [hM12]
      rcases hj with rfl | rfl | rfl <;> simp (disch := omega) only [gi_n, gi_e]
    show gi M12 33 j = gi M 54 j
    rw [e, o11.g (by decide), o10.g (by decide), o9.g (by decide), o8.g (by decide), o7.g (by decide), o6.g (by decide), o5.g (by decide), o4.g (by decide), o3.g (by decide), o2.g (by decide), o1.g (by decide)]
  · show gi M12 34 k = gi M 55 k
    rw [o12.g (by decide), o11.g (by decide), o10.g (by decide), o9.g (by decide), o8.g (by decide), o7.g (by decide), o6.g (by decide), o5.g (by decide), o4.g (by decide), o3.g (by decide), o2.g (by decide), p1 k hk]
  · show gi M12 35 k = gi M 56 k
    rw [o12.g (by decide), o11.g (by decide), o10.g (by decide), o9.g (by decide), o8.g (by decide), o7.g (by decide), o6.g (by decide), o5.g (by decide), o4.g (by decide), o3.g (by decide), p2 k hk, o1.g (by decide)]
  · show gi M12 36 k = gi M 57 k
    rw [o12.g (by decide), o11.g (by decide), o10.g (by decide), o9.g (by decide), o8.g (by decide), o7.g (by decide), o6.g (by decide), o5.g (by decide), o4.g (by decide), p3 k hk, o2.g (by decide), o1.g (by decide)]
  · show gi M12 37 k = gi M 58 k
    rw [o12.g (by decide), o11.g (by decide), o10.g (by decide), o9.g (by decide), o8.g (by decide), o7.g (by decide), o6.g (by decide), o5.g (by decide), p4 k hk, o3.g (by decide), o2.g (by decide), o1.g (by decide)]
  · show gi M12 38 k = gi M 59 k
    rw [o12.g (by decide), o11.g (by decide), o10.g (by decide), o9.g (by decide), o8.g (by decide), o7.g (by decide), o6.g (by decide), p5 k hk, o4.g (by decide), o3.g (by decide), o2.g (by decide), o1.g (by decide)]
  · show gi M12 50 k = gi M 71 k
    rw [o12.g (by decide), o11.g (by decide), o10.g (by decide), o9.g (by decide), p8 k hk, o7.g (by decide), o6.g (by decide), o5.g (by decide), o4.g (by decide), o3.g (by decide), o2.g (by decide), o1.g (by decide)]
  · show gi M12 51 k = gi M 72 k
    rw [o12.g (by decide), o11.g (by decide), o10.g (by decide), p9 k hk, o8.g (by decide), o7.g (by decide), o6.g (by decide), o5.g (by decide), o4.g (by decide), o3.g (by decide), o2.g (by decide), o1.g (by decide)]
  · show gi M12 52 k = gi M 73 k
    rw [o12.g (by decide), o11.g (by decide), p10 k hk, o9.g (by decide), o8.g (by decide), o7.g (by decide), o6.g (by decide), o5.g (by decide), o4.g (by decide), o3.g (by decide), o2.g (by decide), o1.g (by decide)]
  · show gi M12 53 k = gi M 74 k
    rw [o12.g (by decide), p11 k hk, o10.g (by decide), o9.g (by decide), o8.g (by decide), o7.g (by decide), o6.g (by decide), o5.g (by decide), o4.g (by decide), o3.g (by decide), o2.g (by decide), o1.g (by decide)]
  · show gi M12 42 j = gi M 63 j
    rcases hj with rfl | rfl
    · rw [o12.g (by decide), o11.g (by decide), o10.g (by decide), o9.g (by decide), o8.g (by decide), r0, o6.g (by decide), o5.g (by decide), o4.g (by decide), o3.g (by decide), o2.g (by decide), o1.g (by decide)]
    · rw [o12.g (by decide), o11.g (by decide), o10.g (by decide), o9.g (by decide), o8.g (by decide), r5]
      exact hcs2.symm
  · show gi M12 43 k = gi M 64 k
    rw [o12.g (by decide), o11.g (by decide), o10.g (by decide), o9.g (by decide), o8.g (by decide), r1 k hk, o6.g (by decide), o5.g (by decide), o4.g (by decide), o3.g (by decide), o2.g (by decide), o1.g (by decide)]
  · show gi M12 44 k = gi M 65 k
    rw [o12.g (by decide), o11.g (by decide), o10.g (by decide), o9.g (by decide), o8.g (by decide), r2 k hk, o6.g (by decide), o5.g (by decide), o4.g (by decide), o3.g (by decide), o2.g (by decide), o1.g (by decide)]
  · show gi M12 45 k = gi M 66 k
    rw [o12.g (by decide), o11.g (by decide), o10.g (by decide), o9.g (by decide), o8.g (by decide), r3 k hk, o6.g (by decide), o5.g (by decide), o4.g (by decide), o3.g (by decide), o2.g (by decide), o1.g (by decide)]
  · show gi M12 46 k = gi M 67 k
    have hcc : oi cs2 = oi cs := by rw [← q1]; exact hcs2
    rw [eq_oi (by omega) (by omega)] at hcc
    rw [o12.g (by decide), o11.g (by decide), o10.g (by decide), o9.g (by decide), o8.g (by decide), r4 k (by omega), o6.g (by decide), o5.g (by decide), o4.g (by decide), o3.g (by decide), o2.g (by decide), o1.g (by decide)]
  · exact (((((p6.oc o7 (by decide) (by decide) (by decide)).oc o8 (by decide) (by decide) (by decide)).oc o9 (by decide) (by decide) (by decide)).oc o10 (by decide) (by decide) (by decide)).oc o11 (by decide) (by decide) (by decide)).oc o12 (by decide) (by decide) (by decide)
  · have e : gi M12 33 14 = gi M11 54 14 := by
      rw [hM12]
      simp (disch := omega) only [gi_n, gi_e]
    rw [e, o11.g (by decide), o10.g (by decide), o9.g (by decide), o8.g (by decide), o7.g (by decide), o6.g (by decide), o5.g (by decide), o4.g (by decide), o3.g (by decide), o2.g (by decide), o1.g (by decide)]
  · have e : gi M12 33 16 = gi M11 54 16 := by
      rw [hM12]
      simp (disch := omega) only [gi_n, gi_e]
    rw [e, o11.g (by decide), o10.g (by decide), o9.g (by decide), o8.g (by decide), o7.g (by decide), o6.g (by decide), o5.g (by decide), o4.g (by decide), o3.g (by decide), o2.g (by decide), o1.g (by decide)]
  · rw [o12 x (by simp; omega), o11 x (by simp; omega), o10 x (by simp; omega), o9 x (by simp; omega), o8 x (by simp; omega), o7 x (by simp; omega), o6 x (by simp; omega), o5 x (by simp; omega), o4 x (by simp; omega), o3 x (by simp; omega), o2 x (by simp; omega), o1 x (by simp; omega)]
theorem r_cpyL {F : Nat → Mm → Int32 → Option (Int32 × Mm)} {src dst : Nat} (hsd : src ≠ dst) (hs : ∀ m x j, j < 361 → F (m + 1) x (oi j) = F m (si x dst j (gi x src j)) (oi (j + 1))) {g : Mm → Int32 × Mm} (he : ∀ m x, (∀ j, j < 361 → gi x dst j = gi N src j) → Oc [dst] N x → F (m + 1) x (oi 361) = some (g x)) : ∃ N1, F 1000 N (oi 0) = some (g N1) ∧ (∀ j, j < 361 → gi N1 dst j = gi N src j) ∧ Oc [dst] N N1 := by
  refine (lp_inv (L := fun m (x : Mm) y => F m x y) (n := 361) (I := fun j x => (∀ i, i < j → gi x dst i = gi N src i) ∧ Oc [dst] N x) (Q := fun r => ∃ N1, r = g N1 ∧ (∀ j, j < 361 → gi N1 dst j = gi N src j) ∧ Oc [dst] N N1) (fun j m x hj hI => ?_) (fun m x hI => ?_) 361 0 1000 N (by omega) (by omega) ⟨fun i hi => by omega, Oc.rf⟩).elim (fun r hr => ?_)
  · obtain ⟨i1, i2⟩ := hI
    have e : gi x src j = gi N src j := i2.g (by simp; exact hsd)
    refine ⟨si x dst j (gi x src j), ⟨fun i hi => ?_, i2.tr (Oc.si (S := [dst]) (by simp)) (fun c hc => ⟨hc, hc⟩)⟩, hs m x j hj⟩
    by_cases hij : i = j
    · subst hij
      rw [gi_e, e]
    · rw [gi_n (by omega)]
      exact i1 i (by omega)
  · obtain ⟨i1, i2⟩ := hI
    exact ⟨g x, he m x i1 i2, x, rfl, i1, i2⟩
  · obtain ⟨q0, N1, q1, q2⟩ := hr
    exact ⟨N1, by rw [← q1]; exact q0, q2⟩
theorem q_keep : Cl (fun M => F_X11_keep M) (fun M => F_X12_keep M) := by
  intro M N hI
  obtain ⟨⟨d, c, hV, hF, h3, h4, hRI, hW, hA⟩, a1, a2, a3, a4, a5, a6⟩ := id hI
  try dsimp only
  obtain ⟨M1, g1, g2, g3, g4, g5, g6⟩ := c_keep hV hF hW.2.2.2.1
  obtain ⟨N1, k1, k2, k3⟩ := r_cpyL (N := N) (F := F_X12_keep_L2) (src := 95) (dst := 96) (by omega) (fun m x j hj => by rw [F_X12_keep_L2]; simp (disch := omega) only [l_0, l_1, l_2, l_3, l_4, l_5, l_6, l_7, l_8, l_9, l_10, l_11, l_12, l_13, l_14, l_15, l_16, l_17, l_18, l_19, l_20, l_21, l_22, l_23, l_24, l_25, l_26, l_27, l_28, l_29, l_30, l_31, l_32, l_33, l_34, l_35, l_36, l_37, l_38, l_39, l_40, l_41, l_42, l_43, l_44, l_45, l_46, l_47, l_48, l_49, l_50, l_51, l_52, l_53, l_54, l_55, l_56, l_57, l_58, l_59, l_60, l_61, l_62, l_63, l_64, l_65, l_66, l_67, l_68, l_69, l_70, l_71, l_72, l_73, l_74, l_75, l_76, l_77, l_78, l_79, l_80, l_81, l_82, l_83, l_84, l_85, l_86, l_87, l_88, l_89, l_90, l_91, l_92, l_93, l_94, l_95, l_96, l_97, l_98, l_99, l_100, l_101, l_102, l_103, l_104, l_105, l_106, l_107, l_108, l_109, l_110, l_111, l_121, l_122, l_160, l_200, l_201, l_240, l_255, l_361, l_390, l_499, l_500, l_999, l_1000, l_10000, l_10099, l_12345, l_16383, l_20000, l_20033, l_20038, l_20124, l_100000, l_1000000, l_1103515245, ui_oi, ck_oi, sb, jc_e, bl_0, bl_1, le_oi, lt_oi, eq_oi, add_oi, mul_oi, div_oi, ir_oi, gi_e, gi_n, if_true, if_false, if_pos, if_neg, true_and, and_true, false_and, and_false, true_or, or_true, false_or, or_false, ]) (g := fun x => (oi 1, si x 94 2 (oi 1))) (fun m x h1 h2 => by rw [F_X12_keep_L2]; simp (disch := omega) only [l_0, l_1, l_2, l_3, l_4, l_5, l_6, l_7, l_8, l_9, l_10, l_11, l_12, l_13, l_14, l_15, l_16, l_17, l_18, l_19, l_20, l_21, l_22, l_23, l_24, l_25, l_26, l_27, l_28, l_29, l_30, l_31, l_32, l_33, l_34, l_35, l_36, l_37, l_38, l_39, l_40, l_41, l_42, l_43, l_44, l_45, l_46, l_47, l_48, l_49, l_50, l_51, l_52, l_53, l_54, l_55, l_56, l_57, l_58, l_59, l_60, l_61, l_62, l_63, l_64, l_65, l_66, l_67, l_68, l_69, l_70, l_71, l_72, l_73, l_74, l_75, l_76, l_77, l_78, l_79, l_80, l_81, l_82, l_83, l_84, l_85, l_86, l_87, l_88, l_89, l_90, l_91, l_92, l_93, l_94, l_95, l_96, l_97, l_98, l_99, l_100, l_101, l_102, l_103, l_104, l_105, l_106, l_107, l_108, l_109, l_110, l_111, l_121, l_122, l_160, l_200, l_201, l_240, l_255, l_361, l_390, l_499, l_500, l_999, l_1000, l_10000, l_10099, l_12345, l_16383, l_20000, l_20033, l_20038, l_20124, l_100000, l_1000000, l_1103515245, ui_oi, ck_oi, sb, jc_e, bl_0, bl_1, le_oi, lt_oi, eq_oi, add_oi, mul_oi, div_oi, ir_oi, gi_e, gi_n, if_true, if_false, if_pos, if_neg, true_and, and_true, false_and, and_false, true_or, or_true, false_or, or_false, ])
  have e1 : ∀ x j, x ≠ 0 → (x < 54 ∨ 74 < x) → gi (si M1 0 2 (oi 1)) x j = gi M x j := fun x j q1 q2 => by rw [gi_n (by omega)]; exact congrFun (g6 x (by omega)) j
  have e0 : ∀ j, j ≠ 2 → gi (si M1 0 2 (oi 1)) 0 j = gi M 0 j := fun j q1 => by rw [gi_n (by omega)]; exact congrFun (g6 0 (by omega)) j
  have e2 : ∀ x j, x ≠ 94 → x ≠ 96 → gi (si N1 94 2 (oi 1)) x j = gi N x j := fun x j q1 q2 => by rw [gi_n (by omega)]; exact k3.g (by simp; omega)
  have e9 : ∀ j, j ≠ 2 → gi (si N1 94 2 (oi 1)) 94 j = gi N 94 j := fun j q1 => by rw [gi_n (by omega)]; exact k3.g (by simp)
  have hOM : Oc (0 :: (List.range 21).map (fun i => 54 + i)) M (si M1 0 2 (oi 1)) := by
    intro y hy
    simp at hy
    rw [si_ne hy.1]
    refine g6 y ?_
    rcases Nat.lt_or_ge y 54 with q | q
    · exact Or.inl q
    · rcases Nat.lt_or_ge 74 y with q2 | q2
      · exact Or.inr (Or.inl q2)
      · exact absurd (by omega) (hy.2 (y - 54) (by omega))
  have hON : Oc [94, 96] N (si N1 94 2 (oi 1)) := (k3.su (fun c hc q => hc (by simp at q ⊢; omega))).tr (Oc.si (S := [94, 96]) (by simp)) (fun c hc => ⟨hc, hc⟩)
  refine ⟨oi 1, si M1 0 2 (oi 1), si N1 94 2 (oi 1), ?_, ?_, ⟨⟨d, c, hV.oc hOM (by decide), hF.oc hOM (by decide) (by decide) (by decide), (e1 _ _ (by omega) (by omega)).trans h3, (e1 _ _ (by omega) (by omega)).trans h4, hRI.oc hON (by decide), hW, (e9 4 (by omega)).trans hA⟩, Or.inr ⟨gi_e, gi_e, d, c, ?_, ?_, ?_, ?_, hW, fun j hj => ?_, ?_⟩, a2.mv (e0 _ (by omega)) (e9 _ (by omega)) (fun j => e1 _ _ (by omega) (by omega)) (fun j => e2 _ _ (by omega) (by omega)), a3.mv (e0 _ (by omega)) (e9 _ (by omega)) (fun j => e1 _ _ (by omega) (by omega)) (fun j => e2 _ _ (by omega) (by omega)), a4.mv (fun x q1 q2 j => e1 _ _ (by omega) (by omega)) (fun x q1 q2 j => e2 _ _ (by omega) (by omega)), a5.mv (fun x q1 q2 j => e1 _ _ (by omega) (by omega)) (fun x q1 q2 j => e2 _ _ (by omega) (by omega)), a6.mv (e1 _ _ (by omega) (by omega)) (e9 _ (by omega)) (fun j => e1 _ _ (by omega) (by omega)) (fun j => e2 _ _ (by omega) (by omega))⟩, fun x hx => ?_, fun x hx => ?_⟩
  · unfold F_X11_keep
    simp (disch := omega) only [l_0, l_1, l_2, l_3, l_4, l_5, l_6, l_7, l_8, l_9, l_10, l_11, l_12, l_13, l_14, l_15, l_16, l_17, l_18, l_19, l_20, l_21, l_22, l_23, l_24, l_25, l_26, l_27, l_28, l_29, l_30, l_31, l_32, l_33, l_34, l_35, l_36, l_37, l_38, l_39, l_40, l_41, l_42, l_43, l_44, l_45, l_46, l_47, l_48, l_49, l_50, l_51, l_52, l_53, l_54, l_55, l_56, l_57, l_58, l_59, l_60, l_61, l_62, l_63, l_64, l_65, l_66, l_67, l_68, l_69, l_70, l_71, l_72, l_73, l_74, l_75, l_76, l_77, l_78, l_79, l_80, l_81, l_82, l_83, l_84, l_85, l_86, l_87, l_88, l_89, l_90, l_91, l_92, l_93, l_94, l_95, l_96, l_97, l_98, l_99, l_100, l_101, l_102, l_103, l_104, l_105, l_106, l_107, l_108, l_109, l_110, l_111, l_121, l_122, l_160, l_200, l_201, l_240, l_255, l_361, l_390, l_499, l_500, l_999, l_1000, l_10000, l_10099, l_12345, l_16383, l_20000, l_20033, l_20038, l_20124, l_100000, l_1000000, l_1103515245, ui_oi, ck_oi, sb, jc_e, bl_0, bl_1, le_oi, lt_oi, eq_oi, add_oi, mul_oi, div_oi, ir_oi, gi_e, gi_n, if_true, if_false, if_pos, if_neg, true_and, and_true, false_and, and_false, true_or, or_true, false_or, or_false, g1]
  · unfold F_X12_keep
    rw [l_0, k1]
  · exact g2.oc (Oc.si (S := [0]) (by simp)) (by decide)
  · exact g3.oc (Oc.si (S := [0]) (by simp)) (by decide) (by decide) (by decide)
  · rw [gi_n (by omega), g4]
    exact h3
  · rw [gi_n (by omega), g5]
    exact h4
  · rw [gi_n (by omega), k2 j (by omega)]
    exact hRI.1.g hj
  · obtain ⟨-, cs, hcs, hE⟩ := hRI
    refine ⟨cs, hcs, hE.mv (fun i hi => ?_)⟩
    rw [gi_n (by omega)]
    exact k2 _ (by omega)
  · rw [si_ne (by omega)]
    exact g6 x (by omega)
  · rw [si_ne (by omega)]
    exact k3 x (by simp; omega)
theorem q_again : Cl (fun M => F_X11_again M) (fun M => F_X12_again M) := by
  intro M N hI
  obtain ⟨⟨d, c, hV, hF, h3, h4, hRI, hW, hA⟩, a1, a2, a3, a4, a5, a6⟩ := id hI
  try dsimp only
  unfold F_X11_again F_X12_again
  rcases a1 with ⟨b1, b2⟩ | ⟨b1, b2, dk, ck, hV2, hF2, z3, z4, hW2, hr, cs, hcs, hE⟩
  · exact ⟨-3, M, N, by simp (disch := omega) only [l_0, l_1, l_2, l_3, l_4, l_5, l_6, l_7, l_8, l_9, l_10, l_11, l_12, l_13, l_14, l_15, l_16, l_17, l_18, l_19, l_20, l_21, l_22, l_23, l_24, l_25, l_26, l_27, l_28, l_29, l_30, l_31, l_32, l_33, l_34, l_35, l_36, l_37, l_38, l_39, l_40, l_41, l_42, l_43, l_44, l_45, l_46, l_47, l_48, l_49, l_50, l_51, l_52, l_53, l_54, l_55, l_56, l_57, l_58, l_59, l_60, l_61, l_62, l_63, l_64, l_65, l_66, l_67, l_68, l_69, l_70, l_71, l_72, l_73, l_74, l_75, l_76, l_77, l_78, l_79, l_80, l_81, l_82, l_83, l_84, l_85, l_86, l_87, l_88, l_89, l_90, l_91, l_92, l_93, l_94, l_95, l_96, l_97, l_98, l_99, l_100, l_101, l_102, l_103, l_104, l_105, l_106, l_107, l_108, l_109, l_110, l_111, l_121, l_122, l_160, l_200, l_201, l_240, l_255, l_361, l_390, l_499, l_500, l_999, l_1000, l_10000, l_10099, l_12345, l_16383, l_20000, l_20033, l_20038, l_20124, l_100000, l_1000000, l_1103515245, ui_oi, ck_oi, sb, jc_e, bl_0, bl_1, le_oi, lt_oi, eq_oi, add_oi, mul_oi, div_oi, ir_oi, gi_e, gi_n, if_true, if_false, if_pos, if_neg, true_and, and_true, false_and, and_false, true_or, or_true, false_or, or_false, b1], by simp (disch := omega) only [l_0, l_1, l_2, l_3, l_4, l_5, l_6, l_7, l_8, l_9, l_10, l_11, l_12, l_13, l_14, l_15, l_16, l_17, l_18, l_19, l_20, l_21, l_22, l_23, l_24, l_25, l_26, l_27, l_28, l_29, l_30, l_31, l_32, l_33, l_34, l_35, l_36, l_37, l_38, l_39, l_40, l_41, l_42, l_43, l_44, l_45, l_46, l_47, l_48, l_49, l_50, l_51, l_52, l_53, l_54, l_55, l_56, l_57, l_58, l_59, l_60, l_61, l_62, l_63, l_64, l_65, l_66, l_67, l_68, l_69, l_70, l_71, l_72, l_73, l_74, l_75, l_76, l_77, l_78, l_79, l_80, l_81, l_82, l_83, l_84, l_85, l_86, l_87, l_88, l_89, l_90, l_91, l_92, l_93, l_94, l_95, l_96, l_97, l_98, l_99, l_100, l_101, l_102, l_103, l_104, l_105, l_106, l_107, l_108, l_109, l_110, l_111, l_121, l_122, l_160, l_200, l_201, l_240, l_255, l_361, l_390, l_499, l_500, l_999, l_1000, l_10000, l_10099, l_12345, l_16383, l_20000, l_20033, l_20038, l_20124, l_100000, l_1000000, l_1103515245, ui_oi, ck_oi, sb, jc_e, bl_0, bl_1, le_oi, lt_oi, eq_oi, add_oi, mul_oi, div_oi, ir_oi, gi_e, gi_n, if_true, if_false, if_pos, if_neg, true_and, and_true, false_and, and_false, true_or, or_true, false_or, or_false, b2], hI, fun _ _ => rfl, fun _ _ => rfl⟩
  · obtain ⟨M1, g1, g2, g3, g4, g5, g6⟩ := c_again hV2 hF2 hW2.2.2.2.1
    obtain ⟨N1, k1, k2, k3⟩ := r_cpyL (N := N) (F := F_X12_again_L12) (src := 96) (dst := 95) (by omega) (fun m x j hj => by rw [F_X12_again_L12]; simp (disch := omega) only [l_0, l_1, l_2, l_3, l_4, l_5, l_6, l_7, l_8, l_9, l_10, l_11, l_12, l_13, l_14, l_15, l_16, l_17, l_18, l_19, l_20, l_21, l_22, l_23, l_24, l_25, l_26, l_27, l_28, l_29, l_30, l_31, l_32, l_33, l_34, l_35, l_36, l_37, l_38, l_39, l_40, l_41, l_42, l_43, l_44, l_45, l_46, l_47, l_48, l_49, l_50, l_51, l_52, l_53, l_54, l_55, l_56, l_57, l_58, l_59, l_60, l_61, l_62, l_63, l_64, l_65, l_66, l_67, l_68, l_69, l_70, l_71, l_72, l_73, l_74, l_75, l_76, l_77, l_78, l_79, l_80, l_81, l_82, l_83, l_84, l_85, l_86, l_87, l_88, l_89, l_90, l_91, l_92, l_93, l_94, l_95, l_96, l_97, l_98, l_99, l_100, l_101, l_102, l_103, l_104, l_105, l_106, l_107, l_108, l_109, l_110, l_111, l_121, l_122, l_160, l_200, l_201, l_240, l_255, l_361, l_390, l_499, l_500, l_999, l_1000, l_10000, l_10099, l_12345, l_16383, l_20000, l_20033, l_20038, l_20124, l_100000, l_1000000, l_1103515245, ui_oi, ck_oi, sb, jc_e, bl_0, bl_1, le_oi, lt_oi, eq_oi, add_oi, mul_oi, div_oi, ir_oi, gi_e, gi_n, if_true, if_false, if_pos, if_neg, true_and, and_true, false_and, and_false, true_or, or_true, false_or, or_false, ]) (g := fun x => (oi (dk 0), x)) (fun m x h1 h2 => by
      have := (h1 0 (by omega)).trans (hr 0 (by omega))
      rw [F_X12_again_L12]
      simp (disch := omega) only [l_0, l_1, l_2, l_3, l_4, l_5, l_6, l_7, l_8, l_9, l_10, l_11, l_12, l_13, l_14, l_15, l_16, l_17, l_18, l_19, l_20, l_21, l_22, l_23, l_24, l_25, l_26, l_27, l_28, l_29, l_30, l_31, l_32, l_33, l_34, l_35, l_36, l_37, l_38, l_39, l_40, l_41, l_42, l_43, l_44, l_45, l_46, l_47, l_48, l_49, l_50, l_51, l_52, l_53, l_54, l_55, l_56, l_57, l_58, l_59, l_60, l_61, l_62, l_63, l_64, l_65, l_66, l_67, l_68, l_69, l_70, l_71, l_72, l_73, l_74, l_75, l_76, l_77, l_78, l_79, l_80, l_81, l_82, l_83, l_84, l_85, l_86, l_87, l_88, l_89, l_90, l_91, l_92, l_93, l_94, l_95, l_96, l_97, l_98, l_99, l_100, l_101, l_102, l_103, l_104, l_105, l_106, l_107, l_108, l_109, l_110, l_111, l_121, l_122, l_160, l_200, l_201, l_240, l_255, l_361, l_390, l_499, l_500, l_999, l_1000, l_10000, l_10099, l_12345, l_16383, l_20000, l_20033, l_20038, l_20124, l_100000, l_1000000, l_1103515245, ui_oi, ck_oi, sb, jc_e, bl_0, bl_1, le_oi, lt_oi, eq_oi, add_oi, mul_oi, div_oi, ir_oi, gi_e, gi_n, if_true, if_false, if_pos, if_neg, true_and, and_true, false_and, and_false, true_or, or_true, false_or, or_false, this])
    have e1 : ∀ x j, (x < 33 ∨ 53 < x ∨ x = 47) → gi M1 x j = gi M x j := fun x j q2 => congrFun (g6 x (by omega)) j
    have e2 : ∀ x j, x ≠ 95 → gi N1 x j = gi N x j := fun x j q1 => k3.g (by simp; omega)
    refine ⟨oi (dk 0), M1, N1, by simp (disch := omega) only [l_0, l_1, l_2, l_3, l_4, l_5, l_6, l_7, l_8, l_9, l_10, l_11, l_12, l_13, l_14, l_15, l_16, l_17, l_18, l_19, l_20, l_21, l_22, l_23, l_24, l_25, l_26, l_27, l_28, l_29, l_30, l_31, l_32, l_33, l_34, l_35, l_36, l_37, l_38, l_39, l_40, l_41, l_42, l_43, l_44, l_45, l_46, l_47, l_48, l_49, l_50, l_51, l_52, l_53, l_54, l_55, l_56, l_57, l_58, l_59, l_60, l_61, l_62, l_63, l_64, l_65, l_66, l_67, l_68, l_69, l_70, l_71, l_72, l_73, l_74, l_75, l_76, l_77, l_78, l_79, l_80, l_81, l_82, l_83, l_84, l_85, l_86, l_87, l_88, l_89, l_90, l_91, l_92, l_93, l_94, l_95, l_96, l_97, l_98, l_99, l_100, l_101, l_102, l_103, l_104, l_105, l_106, l_107, l_108, l_109, l_110, l_111, l_121, l_122, l_160, l_200, l_201, l_240, l_255, l_361, l_390, l_499, l_500, l_999, l_1000, l_10000, l_10099, l_12345, l_16383, l_20000, l_20033, l_20038, l_20124, l_100000, l_1000000, l_1103515245, ui_oi, ck_oi, sb, jc_e, bl_0, bl_1, le_oi, lt_oi, eq_oi, add_oi, mul_oi, div_oi, ir_oi, gi_e, gi_n, if_true, if_false, if_pos, if_neg, true_and, and_true, false_and, and_false, true_or, or_true, false_or, or_false, b1, g1, g2.n], by simp (disch := omega) only [l_0, l_1, l_2, l_3, l_4, l_5, l_6, l_7, l_8, l_9, l_10, l_11, l_12, l_13, l_14, l_15, l_16, l_17, l_18, l_19, l_20, l_21, l_22, l_23, l_24, l_25, l_26, l_27, l_28, l_29, l_30, l_31, l_32, l_33, l_34, l_35, l_36, l_37, l_38, l_39, l_40, l_41, l_42, l_43, l_44, l_45, l_46, l_47, l_48, l_49, l_50, l_51, l_52, l_53, l_54, l_55, l_56, l_57, l_58, l_59, l_60, l_61, l_62, l_63, l_64, l_65, l_66, l_67, l_68, l_69, l_70, l_71, l_72, l_73, l_74, l_75, l_76, l_77, l_78, l_79, l_80, l_81, l_82, l_83, l_84, l_85, l_86, l_87, l_88, l_89, l_90, l_91, l_92, l_93, l_94, l_95, l_96, l_97, l_98, l_99, l_100, l_101, l_102, l_103, l_104, l_105, l_106, l_107, l_108, l_109, l_110, l_111, l_121, l_122, l_160, l_200, l_201, l_240, l_255, l_361, l_390, l_499, l_500, l_999, l_1000, l_10000, l_10099, l_12345, l_16383, l_20000, l_20033, l_20038, l_20124, l_100000, l_1000000, l_1103515245, ui_oi, ck_oi, sb, jc_e, bl_0, bl_1, le_oi, lt_oi, eq_oi, add_oi, mul_oi, div_oi, ir_oi, gi_e, gi_n, if_true, if_false, if_pos, if_neg, true_and, and_true, false_and, and_false, true_or, or_true, false_or, or_false, b2, k1], ⟨⟨dk, ck, g2, g3, g4.trans z3, g5.trans z4, ⟨fun j hj => (k2 j (by omega)).trans (hr j hj), cs, hcs, hE.mv (fun i hi => k2 _ (by omega))⟩, hW2, (e2 94 4 (by omega)).trans hA⟩, IK.mv (M := M) (N := N) (Or.inr ⟨b1, b2, dk, ck, hV2, hF2, z3, z4, hW2, hr, cs, hcs, hE⟩) (e1 _ _ (by omega)) (e2 _ _ (by omega)) (fun x q1 q2 j => e1 _ _ (by omega)) (fun j => e2 _ _ (by omega)), a2.mv (e1 _ _ (by omega)) (e2 _ _ (by omega)) (fun j => e1 _ _ (by omega)) (fun j => e2 _ _ (by omega)), a3.mv (e1 _ _ (by omega)) (e2 _ _ (by omega)) (fun j => e1 _ _ (by omega)) (fun j => e2 _ _ (by omega)), a4.mv (fun x q1 q2 j => e1 _ _ (by omega)) (fun x q1 q2 j => e2 _ _ (by omega)), a5.mv (fun x q1 q2 j => e1 _ _ (by omega)) (fun x q1 q2 j => e2 _ _ (by omega)), a6.mv (e1 _ _ (by omega)) (e2 _ _ (by omega)) (fun j => e1 _ _ (by omega)) (fun j => e2 _ _ (by omega))⟩, fun x hx => g6 x (by omega), fun x hx => k3 x (by simp; omega)⟩
end KE

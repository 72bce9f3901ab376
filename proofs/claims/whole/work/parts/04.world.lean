/-! THE FIXED WORLD: 112 cells; types 0..12 the classes X0..X12, 20 int[], 21 byte[], 22 Flood[], 23 Barrel[], 24 int[][] -/
abbrev Mm : Type := (Nat → Nat → Int32) × Int64
def gi (M : Mm) (c j : Nat) : Int32 := M.1 c j
def si (M : Mm) (c j : Nat) (v : Int32) : Mm := (fun c' j' => if c' = c ∧ j' = j then v else M.1 c' j', M.2)
def gl (M : Mm) : Int64 := M.2
def sl (M : Mm) (v : Int64) : Mm := (M.1, v)
abbrev ly_N : Nat := 112
def ly_tyL : List Nat := [11, 3, 20, 20, 7, 20, 21, 6, 20, 20, 20, 20, 20, 20, 20, 20, 20, 20, 24, 20, 20, 20, 20, 20, 20, 20, 23, 0, 9, 8, 1, 4, 2, 10, 20, 20, 20, 20, 20, 3, 20, 20, 6, 20, 20, 20, 20, 20, 20, 20, 20, 20, 20, 20, 10, 20, 20, 20, 20, 20, 3, 20, 20, 6, 20, 20, 20, 20, 20, 20, 20, 20, 20, 20, 20, 5, 22, 3, 20, 20, 3, 20, 20, 3, 20, 20, 3, 20, 20, 3, 20, 20, 20, 20, 12, 20, 20, 20, 20, 20, 20, 20, 20, 20, 20, 20, 20, 20, 20, 20, 20, 20]
def ly_lnL : List Nat := [0, 0, 6, 6, 0, 30, 200, 0, 8, 8, 9, 200, 5, 201, 201, 12, 4, 4, 4, 40, 40, 40, 40, 4, 4, 4, 6, 0, 0, 0, 0, 0, 0, 0, 6, 6, 16, 6, 6, 0, 6, 6, 0, 8, 8, 9, 200, 5, 201, 201, 6, 6, 6, 6, 0, 6, 6, 16, 6, 6, 0, 6, 6, 0, 8, 8, 9, 200, 5, 201, 201, 6, 6, 6, 6, 0, 5, 0, 6, 6, 0, 6, 6, 0, 6, 6, 0, 6, 6, 0, 6, 6, 4, 4, 0, 361, 361, 390, 240, 6, 200, 240, 32, 4, 12, 4, 4, 160, 4, 4, 4, 30]
def ly_rfL : List (List Nat) := [[33, 54, 0, 1, 75, 4, 6, 0, 7, 15, 0, 16, 17, 18, 23, 24, 25], [2, 3], [], [], [5], [], [], [0, 8, 9, 10, 11, 0, 12, 13, 14], [], [], [], [], [], [], [], [], [], [], [19, 20, 21, 22], [], [], [], [], [], [], [], [27, 28, 29, 30, 31, 32], [], [], [], [], [], [], [26, 34, 35, 36, 37, 38, 39, 42, 50, 51, 52, 53], [], [], [], [], [], [40, 41], [], [], [0, 43, 44, 45, 46, 0, 47, 48, 49], [], [], [], [], [], [], [], [], [], [], [], [26, 55, 56, 57, 58, 59, 60, 63, 71, 72, 73, 74], [], [], [], [], [], [61, 62], [], [], [0, 64, 65, 66, 67, 0, 68, 69, 70], [], [], [], [], [], [], [], [], [], [], [], [33, 76, 92, 0, 0, 93], [77, 80, 83, 86, 89], [78, 79], [], [], [81, 82], [], [], [84, 85], [], [], [87, 88], [], [], [90, 91], [], [], [], [], [95, 96, 0, 97, 0, 98, 99, 100, 0, 0, 0, 0, 0, 0, 0, 101, 0, 102, 0, 103, 0, 0, 0, 0, 0, 0, 0, 104, 0, 105, 106, 107, 108, 109, 110, 111], [], [], [], [], [], [], [], [], [], [], [], [], [], [], [], [], []]
def ly_kdL : List (List Nat) := [[], [], [], [2, 2, 0, 0], [], [2, 2, 2, 0, 0, 2, 0, 0, 0, 0, 0], [0, 2, 2, 2, 2, 0, 2, 2, 2, 0, 0], [2, 0, 0, 0, 0], [], [], [2, 2, 2, 2, 2, 2, 2, 2, 2, 2, 2, 2, 0, 0, 0, 0, 0], [2, 2, 0, 2, 2, 2, 2, 0, 2, 2, 0, 2, 2, 2, 2, 2, 2], [2, 2, 0, 2, 0, 2, 2, 2, 0, 0, 0, 0, 1, 0, 0, 2, 0, 2, 0, 2, 0, 0, 0, 0, 0, 0, 0, 2, 0, 2, 2, 2, 2, 2, 2, 2, 0, 0, 0]]
def ly_ty (i : Nat) : Nat := ly_tyL.getD i 99
def ly_ln (i : Nat) : Nat := ly_lnL.getD i 0
def ly_rf (i j : Nat) : Nat := (ly_rfL.getD i []).getD j 0
def ly_kd (ci : Nat) : List Nat := ly_kdL.getD ci []
def ly_fv (A : Nat → Nat) (M : Mm) (i j k : Nat) : Value := if k = 0 then .int (M.1 i j) else if k = 1 then .long M.2 else .ref (A (ly_rf i j))
def ly_fs (A : Nat → Nat) (M : Mm) (i : Nat) : List Value := (ly_kd (ly_ty i)).mapIdx (fun j k => ly_fv A M i j k)
def ly_cel (A : Nat → Nat) (K : Nat → ClassId) (M : Mm) (i : Nat) : va_E :=
  if ly_ty i < 20 then .inr (ly_ty i, ly_fs A M i)
  else if ly_ty i < 22 then .inl (K (ly_ty i - 20), ly_ln i, .inl (M.1 i))
  else .inl (K (ly_ty i - 20), ly_ln i, .inr (.inr (.inr (.inr (fun j => some (A (ly_rf i j)))))))
def wd (A : Nat → Nat) (K : Nat → ClassId) (M : Mm) : va_W := (List.range ly_N).map (fun i => (A i, ly_cel A K M i))
theorem wd_at {A : Nat → Nat} {K : Nat → ClassId} {M : Mm} {i : Nat} (h : i < ly_N) : (wd A K M)[i]? = some (A i, ly_cel A K M i) := by
  unfold wd
  rw [List.getElem?_map, List.getElem?_range h]
  rfl
theorem cel_obj {A : Nat → Nat} {K : Nat → ClassId} {M : Mm} {i ci : Nat} (h : ly_ty i = ci) (h2 : ci < 20) : ly_cel A K M i = .inr (ci, ly_fs A M i) := by
  subst h
  exact if_pos h2
theorem cel_int {A : Nat → Nat} {K : Nat → ClassId} {M : Mm} {i : Nat} (h : ly_ty i = 20) : ly_cel A K M i = .inl (K 0, ly_ln i, .inl (M.1 i)) := by
  unfold ly_cel
  rw [h]
  rfl
theorem cel_byte {A : Nat → Nat} {K : Nat → ClassId} {M : Mm} {i : Nat} (h : ly_ty i = 21) : ly_cel A K M i = .inl (K 1, ly_ln i, .inl (M.1 i)) := by
  unfold ly_cel
  rw [h]
  rfl
theorem cel_ref {A : Nat → Nat} {K : Nat → ClassId} {M : Mm} {i t : Nat} (h : ly_ty i = t) (h1 : ¬ t < 20) (h2 : ¬ t < 22) : ly_cel A K M i = .inl (K (t - 20), ly_ln i, .inr (.inr (.inr (.inr (fun j => some (A (ly_rf i j))))))) := by
  subst h
  unfold ly_cel
  rw [if_neg h1, if_neg h2]
theorem si_ne {M : Mm} {c j : Nat} {v : Int32} {c' : Nat} (h : c' ≠ c) : (si M c j v).1 c' = M.1 c' := by
  funext j'
  simp [si, h]
theorem si_eq {M : Mm} {c j : Nat} {v : Int32} : (si M c j v).1 c = upd (M.1 c) j v := by
  funext j'
  simp [si, upd]
theorem fs_ne {A : Nat → Nat} {M M' : Mm} {i : Nat} (h : M'.1 i = M.1 i) (h2 : M'.2 = M.2) : ly_fs A M' i = ly_fs A M i := by
  unfold ly_fs ly_fv
  rw [h, h2]
theorem cel_ne {A : Nat → Nat} {K : Nat → ClassId} {M M' : Mm} {i : Nat} (h : M'.1 i = M.1 i) (h2 : M'.2 = M.2) : ly_cel A K M' i = ly_cel A K M i := by
  unfold ly_cel
  rw [fs_ne h h2, h]
/-- a store into a cell of the world gives the world of the changed memory -/
theorem wd_set {A : Nat → Nat} {K : Nat → ClassId} {M M' : Mm} {i : Nat} {e : va_E} (hi : i < ly_N) (he : e = ly_cel A K M' i) (hn : ∀ c, c < ly_N → c ≠ i → ly_cel A K M' c = ly_cel A K M c) : (wd A K M).set i (A i, e) = wd A K M' := by
  apply List.ext_getElem?
  intro k
  by_cases hk : k = i
  · subst hk
    rw [List.getElem?_set_self (by simp [wd, hi]), wd_at hi, he]
  · rw [List.getElem?_set_ne (Ne.symm hk)]
    by_cases hkn : k < ly_N
    · rw [wd_at hkn, wd_at hkn, hn k hkn hk]
    · rw [List.getElem?_eq_none (by simp [wd]; omega), List.getElem?_eq_none (by simp [wd]; omega)]
theorem fs_set_int {A : Nat → Nat} {M : Mm} {i j : Nat} {v : Int32} (hk : (ly_kd (ly_ty i))[j]? = some 0) : (ly_fs A M i).set j (.int v) = ly_fs A (si M i j v) i := by
  apply List.ext_getElem?
  intro k
  have hl : j < (ly_kd (ly_ty i)).length := (List.getElem?_eq_some_iff.mp hk).1
  unfold ly_fs
  by_cases hkj : k = j
  · subst hkj
    rw [List.getElem?_set_self (by simpa using hl), List.getElem?_mapIdx, hk]
    simp [ly_fv, si]
  · rw [List.getElem?_set_ne (Ne.symm hkj), List.getElem?_mapIdx, List.getElem?_mapIdx]
    congr 1
    funext x
    simp [ly_fv, si, hkj]
theorem fs_at {A : Nat → Nat} {M : Mm} {i ci j k : Nat} (h : ly_ty i = ci) (hk : (ly_kd ci)[j]? = some k) : (ly_fs A M i)[j]? = some (ly_fv A M i j k) := by
  unfold ly_fs
  rw [h, List.getElem?_mapIdx, hk]
  rfl
theorem fs_len {A : Nat → Nat} {M : Mm} {i ci : Nat} (h : ly_ty i = ci) : (ly_fs A M i).length = (ly_kd ci).length := by
  unfold ly_fs
  rw [h, List.length_mapIdx]
theorem lt_of_ty {i t : Nat} (h : ly_ty i = t) (ht : t ≠ 99) : i < ly_N := by
  rcases Nat.lt_or_ge i ly_N with q | q
  · exact q
  · exfalso
    apply ht
    rw [← h]
    unfold ly_ty
    rw [List.getD_eq_getElem?_getD, List.getElem?_eq_none (by exact q)]
    rfl
/-- only the reference's object holds the long -/
theorem long_only : ∀ c, c < ly_N → c ≠ 94 → ∀ k ∈ ly_kd (ly_ty c), k ≠ 1 := by decide +kernel

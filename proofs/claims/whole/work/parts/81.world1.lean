/-! THE FIRST WORLD -/
theorem va_P.qset {D : va_G} {cl : List vw_C} {ws : va_W} {H : Heap} {i a n : Nat} {c : ClassId} {f g : Nat → Option Nat} (hP : va_P D cl ws H) (he : ws[i]? = some (a, .inl (c, n, .inr (.inr (.inr (.inr f)))))) (h : ∀ j, j < n → f j = g j) : va_P D cl (ws.set i (a, .inl (c, n, .inr (.inr (.inr (.inr g)))))) H := by
  intro k q hq
  by_cases hk : k = i
  · subst hk
    rw [List.getElem?_set_self (List.getElem?_eq_some_iff.mp he).1] at hq
    cases hq
    have h0 := hP k _ he
    show H[a]? = some (vp_cell c (n, .inr (.inr (.inr (.inr g)))))
    have h1 : H[a]? = some (vp_cell c (n, .inr (.inr (.inr (.inr f))))) := h0
    rw [h1, vp_cell_q, vp_cell_q]
    unfold arrV
    have e : (fun j : Fin n => va_rf (f j.val)) = (fun j : Fin n => va_rf (g j.val)) := funext fun j => by rw [h j.val j.isLt]
    rw [e]
  · rw [List.getElem?_set_ne (Ne.symm hk)] at hq
    exact hP k q hq
section W1
variable {K : Nat → ClassId} {a a2 : Nat} {u v : Nat → Nat} {g0 g2 g4 g5 h0 : Nat → Int32}
def W00 (K : Nat → ClassId) (a a2 : Nat) (u v : Nat → Nat) (g0 g2 g4 g5 h0 : Nat → Int32) : va_W := W_X11_init K a u g0 (fun j => some (A0 a a2 u v (ly_rf 18 j))) g2 (fun j => some (A0 a a2 u v (ly_rf 26 j))) g4 g5 (fun j => some (A0 a a2 u v (ly_rf 76 j))) ++ W_X12_init K a2 v h0
theorem fsx0_a (A : Nat → Nat) (M : Mm) : ∀ k : Nat, (ly_fs A M 0)[k]? = ([.ref (A (ly_rf 0 0)), .ref (A (ly_rf 0 1)), .int (M.1 0 2), .ref (A (ly_rf 0 3)), .ref (A (ly_rf 0 4)), .ref (A (ly_rf 0 5)), .ref (A (ly_rf 0 6)), .int (M.1 0 7), .ref (A (ly_rf 0 8)), .ref (A (ly_rf 0 9)), .int (M.1 0 10), .ref (A (ly_rf 0 11)), .ref (A (ly_rf 0 12)), .ref (A (ly_rf 0 13)), .ref (A (ly_rf 0 14)), .ref (A (ly_rf 0 15)), .ref (A (ly_rf 0 16))] : List Value)[k]?
  | 0 => fs_at (ci := 11) (k := 2) rfl rfl
  | 1 => fs_at (ci := 11) (k := 2) rfl rfl
  | 2 => fs_at (ci := 11) (k := 0) rfl rfl
  | 3 => fs_at (ci := 11) (k := 2) rfl rfl
  | 4 => fs_at (ci := 11) (k := 2) rfl rfl
  | 5 => fs_at (ci := 11) (k := 2) rfl rfl
  | 6 => fs_at (ci := 11) (k := 2) rfl rfl
  | 7 => fs_at (ci := 11) (k := 0) rfl rfl
  | 8 => fs_at (ci := 11) (k := 2) rfl rfl
  | 9 => fs_at (ci := 11) (k := 2) rfl rfl
  | 10 => fs_at (ci := 11) (k := 0) rfl rfl
  | 11 => fs_at (ci := 11) (k := 2) rfl rfl
  | 12 => fs_at (ci := 11) (k := 2) rfl rfl
  | 13 => fs_at (ci := 11) (k := 2) rfl rfl
  | 14 => fs_at (ci := 11) (k := 2) rfl rfl
  | 15 => fs_at (ci := 11) (k := 2) rfl rfl
  | 16 => fs_at (ci := 11) (k := 2) rfl rfl
  | k + 17 => by rw [List.getElem?_eq_none (by rw [fs_len (ci := 11) rfl]; exact Nat.le_add_left 17 k), List.getElem?_eq_none (Nat.le_add_left 17 k)]
theorem fsx0 (A : Nat → Nat) (M : Mm) : ly_fs A M 0 = [.ref (A (ly_rf 0 0)), .ref (A (ly_rf 0 1)), .int (M.1 0 2), .ref (A (ly_rf 0 3)), .ref (A (ly_rf 0 4)), .ref (A (ly_rf 0 5)), .ref (A (ly_rf 0 6)), .int (M.1 0 7), .ref (A (ly_rf 0 8)), .ref (A (ly_rf 0 9)), .int (M.1 0 10), .ref (A (ly_rf 0 11)), .ref (A (ly_rf 0 12)), .ref (A (ly_rf 0 13)), .ref (A (ly_rf 0 14)), .ref (A (ly_rf 0 15)), .ref (A (ly_rf 0 16))] := List.ext_getElem? (fsx0_a A M)
theorem fsx33_a (A : Nat → Nat) (M : Mm) : ∀ k : Nat, (ly_fs A M 33)[k]? = ([.ref (A (ly_rf 33 0)), .ref (A (ly_rf 33 1)), .ref (A (ly_rf 33 2)), .ref (A (ly_rf 33 3)), .ref (A (ly_rf 33 4)), .ref (A (ly_rf 33 5)), .ref (A (ly_rf 33 6)), .ref (A (ly_rf 33 7)), .ref (A (ly_rf 33 8)), .ref (A (ly_rf 33 9)), .ref (A (ly_rf 33 10)), .ref (A (ly_rf 33 11)), .int (M.1 33 12), .int (M.1 33 13), .int (M.1 33 14), .int (M.1 33 15), .int (M.1 33 16)] : List Value)[k]?
  | 0 => fs_at (ci := 10) (k := 2) rfl rfl
  | 1 => fs_at (ci := 10) (k := 2) rfl rfl
  | 2 => fs_at (ci := 10) (k := 2) rfl rfl
  | 3 => fs_at (ci := 10) (k := 2) rfl rfl
  | 4 => fs_at (ci := 10) (k := 2) rfl rfl
  | 5 => fs_at (ci := 10) (k := 2) rfl rfl
  | 6 => fs_at (ci := 10) (k := 2) rfl rfl
  | 7 => fs_at (ci := 10) (k := 2) rfl rfl
  | 8 => fs_at (ci := 10) (k := 2) rfl rfl
  | 9 => fs_at (ci := 10) (k := 2) rfl rfl
  | 10 => fs_at (ci := 10) (k := 2) rfl rfl
  | 11 => fs_at (ci := 10) (k := 2) rfl rfl
  | 12 => fs_at (ci := 10) (k := 0) rfl rfl
  | 13 => fs_at (ci := 10) (k := 0) rfl rfl
  | 14 => fs_at (ci := 10) (k := 0) rfl rfl
  | 15 => fs_at (ci := 10) (k := 0) rfl rfl
  | 16 => fs_at (ci := 10) (k := 0) rfl rfl
  | k + 17 => by rw [List.getElem?_eq_none (by rw [fs_len (ci := 10) rfl]; exact Nat.le_add_left 17 k), List.getElem?_eq_none (Nat.le_add_left 17 k)]
theorem fsx33 (A : Nat → Nat) (M : Mm) : ly_fs A M 33 = [.ref (A (ly_rf 33 0)), .ref (A (ly_rf 33 1)), .ref (A (ly_rf 33 2)), .ref (A (ly_rf 33 3)), .ref (A (ly_rf 33 4)), .ref (A (ly_rf 33 5)), .ref (A (ly_rf 33 6)), .ref (A (ly_rf 33 7)), .ref (A (ly_rf 33 8)), .ref (A (ly_rf 33 9)), .ref (A (ly_rf 33 10)), .ref (A (ly_rf 33 11)), .int (M.1 33 12), .int (M.1 33 13), .int (M.1 33 14), .int (M.1 33 15), .int (M.1 33 16)] := List.ext_getElem? (fsx33_a A M)
theorem fsx54_a (A : Nat → Nat) (M : Mm) : ∀ k : Nat, (ly_fs A M 54)[k]? = ([.ref (A (ly_rf 54 0)), .ref (A (ly_rf 54 1)), .ref (A (ly_rf 54 2)), .ref (A (ly_rf 54 3)), .ref (A (ly_rf 54 4)), .ref (A (ly_rf 54 5)), .ref (A (ly_rf 54 6)), .ref (A (ly_rf 54 7)), .ref (A (ly_rf 54 8)), .ref (A (ly_rf 54 9)), .ref (A (ly_rf 54 10)), .ref (A (ly_rf 54 11)), .int (M.1 54 12), .int (M.1 54 13), .int (M.1 54 14), .int (M.1 54 15), .int (M.1 54 16)] : List Value)[k]?
  | 0 => fs_at (ci := 10) (k := 2) rfl rfl
  | 1 => fs_at (ci := 10) (k := 2) rfl rfl
  | 2 => fs_at (ci := 10) (k := 2) rfl rfl
  | 3 => fs_at (ci := 10) (k := 2) rfl rfl
  | 4 => fs_at (ci := 10) (k := 2) rfl rfl
  | 5 => fs_at (ci := 10) (k := 2) rfl rfl
  | 6 => fs_at (ci := 10) (k := 2) rfl rfl
  | 7 => fs_at (ci := 10) (k := 2) rfl rfl
  | 8 => fs_at (ci := 10) (k := 2) rfl rfl
  | 9 => fs_at (ci := 10) (k := 2) rfl rfl
  | 10 => fs_at (ci := 10) (k := 2) rfl rfl
  | 11 => fs_at (ci := 10) (k := 2) rfl rfl
  | 12 => fs_at (ci := 10) (k := 0) rfl rfl
  | 13 => fs_at (ci := 10) (k := 0) rfl rfl
  | 14 => fs_at (ci := 10) (k := 0) rfl rfl
  | 15 => fs_at (ci := 10) (k := 0) rfl rfl
  | 16 => fs_at (ci := 10) (k := 0) rfl rfl
  | k + 17 => by rw [List.getElem?_eq_none (by rw [fs_len (ci := 10) rfl]; exact Nat.le_add_left 17 k), List.getElem?_eq_none (Nat.le_add_left 17 k)]
theorem fsx54 (A : Nat → Nat) (M : Mm) : ly_fs A M 54 = [.ref (A (ly_rf 54 0)), .ref (A (ly_rf 54 1)), .ref (A (ly_rf 54 2)), .ref (A (ly_rf 54 3)), .ref (A (ly_rf 54 4)), .ref (A (ly_rf 54 5)), .ref (A (ly_rf 54 6)), .ref (A (ly_rf 54 7)), .ref (A (ly_rf 54 8)), .ref (A (ly_rf 54 9)), .ref (A (ly_rf 54 10)), .ref (A (ly_rf 54 11)), .int (M.1 54 12), .int (M.1 54 13), .int (M.1 54 14), .int (M.1 54 15), .int (M.1 54 16)] := List.ext_getElem? (fsx54_a A M)
theorem fsx94_a (A : Nat → Nat) (M : Mm) : ∀ k : Nat, (ly_fs A M 94)[k]? = ([.ref (A (ly_rf 94 0)), .ref (A (ly_rf 94 1)), .int (M.1 94 2), .ref (A (ly_rf 94 3)), .int (M.1 94 4), .ref (A (ly_rf 94 5)), .ref (A (ly_rf 94 6)), .ref (A (ly_rf 94 7)), .int (M.1 94 8), .int (M.1 94 9), .int (M.1 94 10), .int (M.1 94 11), .long M.2, .int (M.1 94 13), .int (M.1 94 14), .ref (A (ly_rf 94 15)), .int (M.1 94 16), .ref (A (ly_rf 94 17)), .int (M.1 94 18), .ref (A (ly_rf 94 19)), .int (M.1 94 20), .int (M.1 94 21), .int (M.1 94 22), .int (M.1 94 23), .int (M.1 94 24), .int (M.1 94 25), .int (M.1 94 26), .ref (A (ly_rf 94 27)), .int (M.1 94 28), .ref (A (ly_rf 94 29)), .ref (A (ly_rf 94 30)), .ref (A (ly_rf 94 31)), .ref (A (ly_rf 94 32)), .ref (A (ly_rf 94 33)), .ref (A (ly_rf 94 34)), .ref (A (ly_rf 94 35)), .int (M.1 94 36), .int (M.1 94 37), .int (M.1 94 38)] : List Value)[k]?
  | 0 => fs_at (ci := 12) (k := 2) rfl rfl
  | 1 => fs_at (ci := 12) (k := 2) rfl rfl
  | 2 => fs_at (ci := 12) (k := 0) rfl rfl
  | 3 => fs_at (ci := 12) (k := 2) rfl rfl
  | 4 => fs_at (ci := 12) (k := 0) rfl rfl
  | 5 => fs_at (ci := 12) (k := 2) rfl rfl
  | 6 => fs_at (ci := 12) (k := 2) rfl rfl
  | 7 => fs_at (ci := 12) (k := 2) rfl rfl
  | 8 => fs_at (ci := 12) (k := 0) rfl rfl
  | 9 => fs_at (ci := 12) (k := 0) rfl rfl
  | 10 => fs_at (ci := 12) (k := 0) rfl rfl
  | 11 => fs_at (ci := 12) (k := 0) rfl rfl
  | 12 => fs_at (ci := 12) (k := 1) rfl rfl
  | 13 => fs_at (ci := 12) (k := 0) rfl rfl
  | 14 => fs_at (ci := 12) (k := 0) rfl rfl
  | 15 => fs_at (ci := 12) (k := 2) rfl rfl
  | 16 => fs_at (ci := 12) (k := 0) rfl rfl
  | 17 => fs_at (ci := 12) (k := 2) rfl rfl
  | 18 => fs_at (ci := 12) (k := 0) rfl rfl
  | 19 => fs_at (ci := 12) (k := 2) rfl rfl
  | 20 => fs_at (ci := 12) (k := 0) rfl rfl
  | 21 => fs_at (ci := 12) (k := 0) rfl rfl
  | 22 => fs_at (ci := 12) (k := 0) rfl rfl
  | 23 => fs_at (ci := 12) (k := 0) rfl rfl
  | 24 => fs_at (ci := 12) (k := 0) rfl rfl
  | 25 => fs_at (ci := 12) (k := 0) rfl rfl
  | 26 => fs_at (ci := 12) (k := 0) rfl rfl
  | 27 => fs_at (ci := 12) (k := 2) rfl rfl
  | 28 => fs_at (ci := 12) (k := 0) rfl rfl
  | 29 => fs_at (ci := 12) (k := 2) rfl rfl
  | 30 => fs_at (ci := 12) (k := 2) rfl rfl
  | 31 => fs_at (ci := 12) (k := 2) rfl rfl
  | 32 => fs_at (ci := 12) (k := 2) rfl rfl
  | 33 => fs_at (ci := 12) (k := 2) rfl rfl
  | 34 => fs_at (ci := 12) (k := 2) rfl rfl
  | 35 => fs_at (ci := 12) (k := 2) rfl rfl
  | 36 => fs_at (ci := 12) (k := 0) rfl rfl
  | 37 => fs_at (ci := 12) (k := 0) rfl rfl
  | 38 => fs_at (ci := 12) (k := 0) rfl rfl
  | k + 39 => by rw [List.getElem?_eq_none (by rw [fs_len (ci := 12) rfl]; exact Nat.le_add_left 39 k), List.getElem?_eq_none (Nat.le_add_left 39 k)]
theorem fsx94 (A : Nat → Nat) (M : Mm) : ly_fs A M 94 = [.ref (A (ly_rf 94 0)), .ref (A (ly_rf 94 1)), .int (M.1 94 2), .ref (A (ly_rf 94 3)), .int (M.1 94 4), .ref (A (ly_rf 94 5)), .ref (A (ly_rf 94 6)), .ref (A (ly_rf 94 7)), .int (M.1 94 8), .int (M.1 94 9), .int (M.1 94 10), .int (M.1 94 11), .long M.2, .int (M.1 94 13), .int (M.1 94 14), .ref (A (ly_rf 94 15)), .int (M.1 94 16), .ref (A (ly_rf 94 17)), .int (M.1 94 18), .ref (A (ly_rf 94 19)), .int (M.1 94 20), .int (M.1 94 21), .int (M.1 94 22), .int (M.1 94 23), .int (M.1 94 24), .int (M.1 94 25), .int (M.1 94 26), .ref (A (ly_rf 94 27)), .int (M.1 94 28), .ref (A (ly_rf 94 29)), .ref (A (ly_rf 94 30)), .ref (A (ly_rf 94 31)), .ref (A (ly_rf 94 32)), .ref (A (ly_rf 94 33)), .ref (A (ly_rf 94 34)), .ref (A (ly_rf 94 35)), .int (M.1 94 36), .int (M.1 94 37), .int (M.1 94 38)] := List.ext_getElem? (fsx94_a A M)
theorem ce_0 : (W00 K a a2 u v g0 g2 g4 g5 h0)[0]? = some (A0 a a2 u v 0, ly_cel (A0 a a2 u v) K (m0 g0 g2 g4 g5 h0, 0) 0) := by
  rw [cel_obj (ci := 11) rfl (by decide), fsx0]
  rfl
theorem ce_1 : (W00 K a a2 u v g0 g2 g4 g5 h0)[1]? = some (A0 a a2 u v 1, ly_cel (A0 a a2 u v) K (m0 g0 g2 g4 g5 h0, 0) 1) := rfl
theorem ce_2 : (W00 K a a2 u v g0 g2 g4 g5 h0)[2]? = some (A0 a a2 u v 2, ly_cel (A0 a a2 u v) K (m0 g0 g2 g4 g5 h0, 0) 2) := rfl
theorem ce_3 : (W00 K a a2 u v g0 g2 g4 g5 h0)[3]? = some (A0 a a2 u v 3, ly_cel (A0 a a2 u v) K (m0 g0 g2 g4 g5 h0, 0) 3) := rfl
theorem ce_4 : (W00 K a a2 u v g0 g2 g4 g5 h0)[4]? = some (A0 a a2 u v 4, ly_cel (A0 a a2 u v) K (m0 g0 g2 g4 g5 h0, 0) 4) := rfl
theorem ce_5 : (W00 K a a2 u v g0 g2 g4 g5 h0)[5]? = some (A0 a a2 u v 5, ly_cel (A0 a a2 u v) K (m0 g0 g2 g4 g5 h0, 0) 5) := rfl
theorem ce_6 : (W00 K a a2 u v g0 g2 g4 g5 h0)[6]? = some (A0 a a2 u v 6, ly_cel (A0 a a2 u v) K (m0 g0 g2 g4 g5 h0, 0) 6) := rfl
theorem ce_7 : (W00 K a a2 u v g0 g2 g4 g5 h0)[7]? = some (A0 a a2 u v 7, ly_cel (A0 a a2 u v) K (m0 g0 g2 g4 g5 h0, 0) 7) := rfl
theorem ce_8 : (W00 K a a2 u v g0 g2 g4 g5 h0)[8]? = some (A0 a a2 u v 8, ly_cel (A0 a a2 u v) K (m0 g0 g2 g4 g5 h0, 0) 8) := rfl
theorem ce_9 : (W00 K a a2 u v g0 g2 g4 g5 h0)[9]? = some (A0 a a2 u v 9, ly_cel (A0 a a2 u v) K (m0 g0 g2 g4 g5 h0, 0) 9) := rfl
theorem ce_10 : (W00 K a a2 u v g0 g2 g4 g5 h0)[10]? = some (A0 a a2 u v 10, ly_cel (A0 a a2 u v) K (m0 g0 g2 g4 g5 h0, 0) 10) := rfl
theorem ce_11 : (W00 K a a2 u v g0 g2 g4 g5 h0)[11]? = some (A0 a a2 u v 11, ly_cel (A0 a a2 u v) K (m0 g0 g2 g4 g5 h0, 0) 11) := rfl
theorem ce_12 : (W00 K a a2 u v g0 g2 g4 g5 h0)[12]? = some (A0 a a2 u v 12, ly_cel (A0 a a2 u v) K (m0 g0 g2 g4 g5 h0, 0) 12) := rfl
theorem ce_13 : (W00 K a a2 u v g0 g2 g4 g5 h0)[13]? = some (A0 a a2 u v 13, ly_cel (A0 a a2 u v) K (m0 g0 g2 g4 g5 h0, 0) 13) := rfl
theorem ce_14 : (W00 K a a2 u v g0 g2 g4 g5 h0)[14]? = some (A0 a a2 u v 14, ly_cel (A0 a a2 u v) K (m0 g0 g2 g4 g5 h0, 0) 14) := rfl
theorem ce_15 : (W00 K a a2 u v g0 g2 g4 g5 h0)[15]? = some (A0 a a2 u v 15, ly_cel (A0 a a2 u v) K (m0 g0 g2 g4 g5 h0, 0) 15) := rfl
theorem ce_16 : (W00 K a a2 u v g0 g2 g4 g5 h0)[16]? = some (A0 a a2 u v 16, ly_cel (A0 a a2 u v) K (m0 g0 g2 g4 g5 h0, 0) 16) := rfl
theorem ce_17 : (W00 K a a2 u v g0 g2 g4 g5 h0)[17]? = some (A0 a a2 u v 17, ly_cel (A0 a a2 u v) K (m0 g0 g2 g4 g5 h0, 0) 17) := rfl
theorem ce_18 : (W00 K a a2 u v g0 g2 g4 g5 h0)[18]? = some (A0 a a2 u v 18, ly_cel (A0 a a2 u v) K (m0 g0 g2 g4 g5 h0, 0) 18) := rfl
theorem ce_19 : (W00 K a a2 u v g0 g2 g4 g5 h0)[19]? = some (A0 a a2 u v 19, ly_cel (A0 a a2 u v) K (m0 g0 g2 g4 g5 h0, 0) 19) := rfl
theorem ce_20 : (W00 K a a2 u v g0 g2 g4 g5 h0)[20]? = some (A0 a a2 u v 20, ly_cel (A0 a a2 u v) K (m0 g0 g2 g4 g5 h0, 0) 20) := rfl
theorem ce_21 : (W00 K a a2 u v g0 g2 g4 g5 h0)[21]? = some (A0 a a2 u v 21, ly_cel (A0 a a2 u v) K (m0 g0 g2 g4 g5 h0, 0) 21) := rfl
theorem ce_22 : (W00 K a a2 u v g0 g2 g4 g5 h0)[22]? = some (A0 a a2 u v 22, ly_cel (A0 a a2 u v) K (m0 g0 g2 g4 g5 h0, 0) 22) := rfl
theorem ce_23 : (W00 K a a2 u v g0 g2 g4 g5 h0)[23]? = some (A0 a a2 u v 23, ly_cel (A0 a a2 u v) K (m0 g0 g2 g4 g5 h0, 0) 23) := rfl
theorem ce_24 : (W00 K a a2 u v g0 g2 g4 g5 h0)[24]? = some (A0 a a2 u v 24, ly_cel (A0 a a2 u v) K (m0 g0 g2 g4 g5 h0, 0) 24) := rfl
theorem ce_25 : (W00 K a a2 u v g0 g2 g4 g5 h0)[25]? = some (A0 a a2 u v 25, ly_cel (A0 a a2 u v) K (m0 g0 g2 g4 g5 h0, 0) 25) := rfl
theorem ce_26 : (W00 K a a2 u v g0 g2 g4 g5 h0)[26]? = some (A0 a a2 u v 26, ly_cel (A0 a a2 u v) K (m0 g0 g2 g4 g5 h0, 0) 26) := rfl
theorem ce_27 : (W00 K a a2 u v g0 g2 g4 g5 h0)[27]? = some (A0 a a2 u v 27, ly_cel (A0 a a2 u v) K (m0 g0 g2 g4 g5 h0, 0) 27) := rfl
theorem ce_28 : (W00 K a a2 u v g0 g2 g4 g5 h0)[28]? = some (A0 a a2 u v 28, ly_cel (A0 a a2 u v) K (m0 g0 g2 g4 g5 h0, 0) 28) := rfl
theorem ce_29 : (W00 K a a2 u v g0 g2 g4 g5 h0)[29]? = some (A0 a a2 u v 29, ly_cel (A0 a a2 u v) K (m0 g0 g2 g4 g5 h0, 0) 29) := rfl
theorem ce_30 : (W00 K a a2 u v g0 g2 g4 g5 h0)[30]? = some (A0 a a2 u v 30, ly_cel (A0 a a2 u v) K (m0 g0 g2 g4 g5 h0, 0) 30) := rfl
theorem ce_31 : (W00 K a a2 u v g0 g2 g4 g5 h0)[31]? = some (A0 a a2 u v 31, ly_cel (A0 a a2 u v) K (m0 g0 g2 g4 g5 h0, 0) 31) := rfl
theorem ce_32 : (W00 K a a2 u v g0 g2 g4 g5 h0)[32]? = some (A0 a a2 u v 32, ly_cel (A0 a a2 u v) K (m0 g0 g2 g4 g5 h0, 0) 32) := rfl
theorem ce_33 : (W00 K a a2 u v g0 g2 g4 g5 h0)[33]? = some (A0 a a2 u v 33, ly_cel (A0 a a2 u v) K (m0 g0 g2 g4 g5 h0, 0) 33) := by
  rw [cel_obj (ci := 10) rfl (by decide), fsx33]
  rfl
theorem ce_34 : (W00 K a a2 u v g0 g2 g4 g5 h0)[34]? = some (A0 a a2 u v 34, ly_cel (A0 a a2 u v) K (m0 g0 g2 g4 g5 h0, 0) 34) := rfl
theorem ce_35 : (W00 K a a2 u v g0 g2 g4 g5 h0)[35]? = some (A0 a a2 u v 35, ly_cel (A0 a a2 u v) K (m0 g0 g2 g4 g5 h0, 0) 35) := rfl
theorem ce_36 : (W00 K a a2 u v g0 g2 g4 g5 h0)[36]? = some (A0 a a2 u v 36, ly_cel (A0 a a2 u v) K (m0 g0 g2 g4 g5 h0, 0) 36) := rfl
theorem ce_37 : (W00 K a a2 u v g0 g2 g4 g5 h0)[37]? = some (A0 a a2 u v 37, ly_cel (A0 a a2 u v) K (m0 g0 g2 g4 g5 h0, 0) 37) := rfl
theorem ce_38 : (W00 K a a2 u v g0 g2 g4 g5 h0)[38]? = some (A0 a a2 u v 38, ly_cel (A0 a a2 u v) K (m0 g0 g2 g4 g5 h0, 0) 38) := rfl
theorem ce_39 : (W00 K a a2 u v g0 g2 g4 g5 h0)[39]? = some (A0 a a2 u v 39, ly_cel (A0 a a2 u v) K (m0 g0 g2 g4 g5 h0, 0) 39) := rfl
theorem ce_40 : (W00 K a a2 u v g0 g2 g4 g5 h0)[40]? = some (A0 a a2 u v 40, ly_cel (A0 a a2 u v) K (m0 g0 g2 g4 g5 h0, 0) 40) := rfl
theorem ce_41 : (W00 K a a2 u v g0 g2 g4 g5 h0)[41]? = some (A0 a a2 u v 41, ly_cel (A0 a a2 u v) K (m0 g0 g2 g4 g5 h0, 0) 41) := rfl
theorem ce_42 : (W00 K a a2 u v g0 g2 g4 g5 h0)[42]? = some (A0 a a2 u v 42, ly_cel (A0 a a2 u v) K (m0 g0 g2 g4 g5 h0, 0) 42) := rfl
theorem ce_43 : (W00 K a a2 u v g0 g2 g4 g5 h0)[43]? = some (A0 a a2 u v 43, ly_cel (A0 a a2 u v) K (m0 g0 g2 g4 g5 h0, 0) 43) := rfl
theorem ce_44 : (W00 K a a2 u v g0 g2 g4 g5 h0)[44]? = some (A0 a a2 u v 44, ly_cel (A0 a a2 u v) K (m0 g0 g2 g4 g5 h0, 0) 44) := rfl
theorem ce_45 : (W00 K a a2 u v g0 g2 g4 g5 h0)[45]? = some (A0 a a2 u v 45, ly_cel (A0 a a2 u v) K (m0 g0 g2 g4 g5 h0, 0) 45) := rfl
theorem ce_46 : (W00 K a a2 u v g0 g2 g4 g5 h0)[46]? = some (A0 a a2 u v 46, ly_cel (A0 a a2 u v) K (m0 g0 g2 g4 g5 h0, 0) 46) := rfl
theorem ce_47 : (W00 K a a2 u v g0 g2 g4 g5 h0)[47]? = some (A0 a a2 u v 47, ly_cel (A0 a a2 u v) K (m0 g0 g2 g4 g5 h0, 0) 47) := rfl
theorem ce_48 : (W00 K a a2 u v g0 g2 g4 g5 h0)[48]? = some (A0 a a2 u v 48, ly_cel (A0 a a2 u v) K (m0 g0 g2 g4 g5 h0, 0) 48) := rfl
theorem ce_49 : (W00 K a a2 u v g0 g2 g4 g5 h0)[49]? = some (A0 a a2 u v 49, ly_cel (A0 a a2 u v) K (m0 g0 g2 g4 g5 h0, 0) 49) := rfl
theorem ce_50 : (W00 K a a2 u v g0 g2 g4 g5 h0)[50]? = some (A0 a a2 u v 50, ly_cel (A0 a a2 u v) K (m0 g0 g2 g4 g5 h0, 0) 50) := rfl
theorem ce_51 : (W00 K a a2 u v g0 g2 g4 g5 h0)[51]? = some (A0 a a2 u v 51, ly_cel (A0 a a2 u v) K (m0 g0 g2 g4 g5 h0, 0) 51) := rfl
theorem ce_52 : (W00 K a a2 u v g0 g2 g4 g5 h0)[52]? = some (A0 a a2 u v 52, ly_cel (A0 a a2 u v) K (m0 g0 g2 g4 g5 h0, 0) 52) := rfl
theorem ce_53 : (W00 K a a2 u v g0 g2 g4 g5 h0)[53]? = some (A0 a a2 u v 53, ly_cel (A0 a a2 u v) K (m0 g0 g2 g4 g5 h0, 0) 53) := rfl
theorem ce_54 : (W00 K a a2 u v g0 g2 g4 g5 h0)[54]? = some (A0 a a2 u v 54, ly_cel (A0 a a2 u v) K (m0 g0 g2 g4 g5 h0, 0) 54) := by
  rw [cel_obj (ci := 10) rfl (by decide), fsx54]
  rfl
theorem ce_55 : (W00 K a a2 u v g0 g2 g4 g5 h0)[55]? = some (A0 a a2 u v 55, ly_cel (A0 a a2 u v) K (m0 g0 g2 g4 g5 h0, 0) 55) := rfl
theorem ce_56 : (W00 K a a2 u v g0 g2 g4 g5 h0)[56]? = some (A0 a a2 u v 56, ly_cel (A0 a a2 u v) K (m0 g0 g2 g4 g5 h0, 0) 56) := rfl
theorem ce_57 : (W00 K a a2 u v g0 g2 g4 g5 h0)[57]? = some (A0 a a2 u v 57, ly_cel (A0 a a2 u v) K (m0 g0 g2 g4 g5 h0, 0) 57) := rfl
theorem ce_58 : (W00 K a a2 u v g0 g2 g4 g5 h0)[58]? = some (A0 a a2 u v 58, ly_cel (A0 a a2 u v) K (m0 g0 g2 g4 g5 h0, 0) 58) := rfl
theorem ce_59 : (W00 K a a2 u v g0 g2 g4 g5 h0)[59]? = some (A0 a a2 u v 59, ly_cel (A0 a a2 u v) K (m0 g0 g2 g4 g5 h0, 0) 59) := rfl
theorem ce_60 : (W00 K a a2 u v g0 g2 g4 g5 h0)[60]? = some (A0 a a2 u v 60, ly_cel (A0 a a2 u v) K (m0 g0 g2 g4 g5 h0, 0) 60) := rfl
theorem ce_61 : (W00 K a a2 u v g0 g2 g4 g5 h0)[61]? = some (A0 a a2 u v 61, ly_cel (A0 a a2 u v) K (m0 g0 g2 g4 g5 h0, 0) 61) := rfl
theorem ce_62 : (W00 K a a2 u v g0 g2 g4 g5 h0)[62]? = some (A0 a a2 u v 62, ly_cel (A0 a a2 u v) K (m0 g0 g2 g4 g5 h0, 0) 62) := rfl
theorem ce_63 : (W00 K a a2 u v g0 g2 g4 g5 h0)[63]? = some (A0 a a2 u v 63, ly_cel (A0 a a2 u v) K (m0 g0 g2 g4 g5 h0, 0) 63) := rfl
theorem ce_64 : (W00 K a a2 u v g0 g2 g4 g5 h0)[64]? = some (A0 a a2 u v 64, ly_cel (A0 a a2 u v) K (m0 g0 g2 g4 g5 h0, 0) 64) := rfl
theorem ce_65 : (W00 K a a2 u v g0 g2 g4 g5 h0)[65]? = some (A0 a a2 u v 65, ly_cel (A0 a a2 u v) K (m0 g0 g2 g4 g5 h0, 0) 65) := rfl
theorem ce_66 : (W00 K a a2 u v g0 g2 g4 g5 h0)[66]? = some (A0 a a2 u v 66, ly_cel (A0 a a2 u v) K (m0 g0 g2 g4 g5 h0, 0) 66) := rfl
theorem ce_67 : (W00 K a a2 u v g0 g2 g4 g5 h0)[67]? = some (A0 a a2 u v 67, ly_cel (A0 a a2 u v) K (m0 g0 g2 g4 g5 h0, 0) 67) := rfl
theorem ce_68 : (W00 K a a2 u v g0 g2 g4 g5 h0)[68]? = some (A0 a a2 u v 68, ly_cel (A0 a a2 u v) K (m0 g0 g2 g4 g5 h0, 0) 68) := rfl
theorem ce_69 : (W00 K a a2 u v g0 g2 g4 g5 h0)[69]? = some (A0 a a2 u v 69, ly_cel (A0 a a2 u v) K (m0 g0 g2 g4 g5 h0, 0) 69) := rfl
theorem ce_70 : (W00 K a a2 u v g0 g2 g4 g5 h0)[70]? = some (A0 a a2 u v 70, ly_cel (A0 a a2 u v) K (m0 g0 g2 g4 g5 h0, 0) 70) := rfl
theorem ce_71 : (W00 K a a2 u v g0 g2 g4 g5 h0)[71]? = some (A0 a a2 u v 71, ly_cel (A0 a a2 u v) K (m0 g0 g2 g4 g5 h0, 0) 71) := rfl
theorem ce_72 : (W00 K a a2 u v g0 g2 g4 g5 h0)[72]? = some (A0 a a2 u v 72, ly_cel (A0 a a2 u v) K (m0 g0 g2 g4 g5 h0, 0) 72) := rfl
theorem ce_73 : (W00 K a a2 u v g0 g2 g4 g5 h0)[73]? = some (A0 a a2 u v 73, ly_cel (A0 a a2 u v) K (m0 g0 g2 g4 g5 h0, 0) 73) := rfl
theorem ce_74 : (W00 K a a2 u v g0 g2 g4 g5 h0)[74]? = some (A0 a a2 u v 74, ly_cel (A0 a a2 u v) K (m0 g0 g2 g4 g5 h0, 0) 74) := rfl
theorem ce_75 : (W00 K a a2 u v g0 g2 g4 g5 h0)[75]? = some (A0 a a2 u v 75, ly_cel (A0 a a2 u v) K (m0 g0 g2 g4 g5 h0, 0) 75) := rfl
theorem ce_76 : (W00 K a a2 u v g0 g2 g4 g5 h0)[76]? = some (A0 a a2 u v 76, ly_cel (A0 a a2 u v) K (m0 g0 g2 g4 g5 h0, 0) 76) := rfl
theorem ce_77 : (W00 K a a2 u v g0 g2 g4 g5 h0)[77]? = some (A0 a a2 u v 77, ly_cel (A0 a a2 u v) K (m0 g0 g2 g4 g5 h0, 0) 77) := rfl
theorem ce_78 : (W00 K a a2 u v g0 g2 g4 g5 h0)[78]? = some (A0 a a2 u v 78, ly_cel (A0 a a2 u v) K (m0 g0 g2 g4 g5 h0, 0) 78) := rfl
theorem ce_79 : (W00 K a a2 u v g0 g2 g4 g5 h0)[79]? = some (A0 a a2 u v 79, ly_cel (A0 a a2 u v) K (m0 g0 g2 g4 g5 h0, 0) 79) := rfl
theorem ce_80 : (W00 K a a2 u v g0 g2 g4 g5 h0)[80]? = some (A0 a a2 u v 80, ly_cel (A0 a a2 u v) K (m0 g0 g2 g4 g5 h0, 0) 80) := rfl
theorem ce_81 : (W00 K a a2 u v g0 g2 g4 g5 h0)[81]? = some (A0 a a2 u v 81, ly_cel (A0 a a2 u v) K (m0 g0 g2 g4 g5 h0, 0) 81) := rfl
theorem ce_82 : (W00 K a a2 u v g0 g2 g4 g5 h0)[82]? = some (A0 a a2 u v 82, ly_cel (A0 a a2 u v) K (m0 g0 g2 g4 g5 h0, 0) 82) := rfl
theorem ce_83 : (W00 K a a2 u v g0 g2 g4 g5 h0)[83]? = some (A0 a a2 u v 83, ly_cel (A0 a a2 u v) K (m0 g0 g2 g4 g5 h0, 0) 83) := rfl
theorem ce_84 : (W00 K a a2 u v g0 g2 g4 g5 h0)[84]? = some (A0 a a2 u v 84, ly_cel (A0 a a2 u v) K (m0 g0 g2 g4 g5 h0, 0) 84) := rfl
theorem ce_85 : (W00 K a a2 u v g0 g2 g4 g5 h0)[85]? = some (A0 a a2 u v 85, ly_cel (A0 a a2 u v) K (m0 g0 g2 g4 g5 h0, 0) 85) := rfl
theorem ce_86 : (W00 K a a2 u v g0 g2 g4 g5 h0)[86]? = some (A0 a a2 u v 86, ly_cel (A0 a a2 u v) K (m0 g0 g2 g4 g5 h0, 0) 86) := rfl
theorem ce_87 : (W00 K a a2 u v g0 g2 g4 g5 h0)[87]? = some (A0 a a2 u v 87, ly_cel (A0 a a2 u v) K (m0 g0 g2 g4 g5 h0, 0) 87) := rfl
theorem ce_88 : (W00 K a a2 u v g0 g2 g4 g5 h0)[88]? = some (A0 a a2 u v 88, ly_cel (A0 a a2 u v) K (m0 g0 g2 g4 g5 h0, 0) 88) := rfl
theorem ce_89 : (W00 K a a2 u v g0 g2 g4 g5 h0)[89]? = some (A0 a a2 u v 89, ly_cel (A0 a a2 u v) K (m0 g0 g2 g4 g5 h0, 0) 89) := rfl
theorem ce_90 : (W00 K a a2 u v g0 g2 g4 g5 h0)[90]? = some (A0 a a2 u v 90, ly_cel (A0 a a2 u v) K (m0 g0 g2 g4 g5 h0, 0) 90) := rfl
theorem ce_91 : (W00 K a a2 u v g0 g2 g4 g5 h0)[91]? = some (A0 a a2 u v 91, ly_cel (A0 a a2 u v) K (m0 g0 g2 g4 g5 h0, 0) 91) := rfl
theorem ce_92 : (W00 K a a2 u v g0 g2 g4 g5 h0)[92]? = some (A0 a a2 u v 92, ly_cel (A0 a a2 u v) K (m0 g0 g2 g4 g5 h0, 0) 92) := rfl
theorem ce_93 : (W00 K a a2 u v g0 g2 g4 g5 h0)[93]? = some (A0 a a2 u v 93, ly_cel (A0 a a2 u v) K (m0 g0 g2 g4 g5 h0, 0) 93) := rfl
theorem ce_94 : (W00 K a a2 u v g0 g2 g4 g5 h0)[94]? = some (A0 a a2 u v 94, ly_cel (A0 a a2 u v) K (m0 g0 g2 g4 g5 h0, 0) 94) := by
  rw [cel_obj (ci := 12) rfl (by decide), fsx94]
  rfl
theorem ce_95 : (W00 K a a2 u v g0 g2 g4 g5 h0)[95]? = some (A0 a a2 u v 95, ly_cel (A0 a a2 u v) K (m0 g0 g2 g4 g5 h0, 0) 95) := rfl
theorem ce_96 : (W00 K a a2 u v g0 g2 g4 g5 h0)[96]? = some (A0 a a2 u v 96, ly_cel (A0 a a2 u v) K (m0 g0 g2 g4 g5 h0, 0) 96) := rfl
theorem ce_97 : (W00 K a a2 u v g0 g2 g4 g5 h0)[97]? = some (A0 a a2 u v 97, ly_cel (A0 a a2 u v) K (m0 g0 g2 g4 g5 h0, 0) 97) := rfl
theorem ce_98 : (W00 K a a2 u v g0 g2 g4 g5 h0)[98]? = some (A0 a a2 u v 98, ly_cel (A0 a a2 u v) K (m0 g0 g2 g4 g5 h0, 0) 98) := rfl
theorem ce_99 : (W00 K a a2 u v g0 g2 g4 g5 h0)[99]? = some (A0 a a2 u v 99, ly_cel (A0 a a2 u v) K (m0 g0 g2 g4 g5 h0, 0) 99) := rfl
theorem ce_100 : (W00 K a a2 u v g0 g2 g4 g5 h0)[100]? = some (A0 a a2 u v 100, ly_cel (A0 a a2 u v) K (m0 g0 g2 g4 g5 h0, 0) 100) := rfl
theorem ce_101 : (W00 K a a2 u v g0 g2 g4 g5 h0)[101]? = some (A0 a a2 u v 101, ly_cel (A0 a a2 u v) K (m0 g0 g2 g4 g5 h0, 0) 101) := rfl
theorem ce_102 : (W00 K a a2 u v g0 g2 g4 g5 h0)[102]? = some (A0 a a2 u v 102, ly_cel (A0 a a2 u v) K (m0 g0 g2 g4 g5 h0, 0) 102) := rfl
theorem ce_103 : (W00 K a a2 u v g0 g2 g4 g5 h0)[103]? = some (A0 a a2 u v 103, ly_cel (A0 a a2 u v) K (m0 g0 g2 g4 g5 h0, 0) 103) := rfl
theorem ce_104 : (W00 K a a2 u v g0 g2 g4 g5 h0)[104]? = some (A0 a a2 u v 104, ly_cel (A0 a a2 u v) K (m0 g0 g2 g4 g5 h0, 0) 104) := rfl
theorem ce_105 : (W00 K a a2 u v g0 g2 g4 g5 h0)[105]? = some (A0 a a2 u v 105, ly_cel (A0 a a2 u v) K (m0 g0 g2 g4 g5 h0, 0) 105) := rfl
theorem ce_106 : (W00 K a a2 u v g0 g2 g4 g5 h0)[106]? = some (A0 a a2 u v 106, ly_cel (A0 a a2 u v) K (m0 g0 g2 g4 g5 h0, 0) 106) := rfl
theorem ce_107 : (W00 K a a2 u v g0 g2 g4 g5 h0)[107]? = some (A0 a a2 u v 107, ly_cel (A0 a a2 u v) K (m0 g0 g2 g4 g5 h0, 0) 107) := rfl
theorem ce_108 : (W00 K a a2 u v g0 g2 g4 g5 h0)[108]? = some (A0 a a2 u v 108, ly_cel (A0 a a2 u v) K (m0 g0 g2 g4 g5 h0, 0) 108) := rfl
theorem ce_109 : (W00 K a a2 u v g0 g2 g4 g5 h0)[109]? = some (A0 a a2 u v 109, ly_cel (A0 a a2 u v) K (m0 g0 g2 g4 g5 h0, 0) 109) := rfl
theorem ce_110 : (W00 K a a2 u v g0 g2 g4 g5 h0)[110]? = some (A0 a a2 u v 110, ly_cel (A0 a a2 u v) K (m0 g0 g2 g4 g5 h0, 0) 110) := rfl
theorem ce_111 : (W00 K a a2 u v g0 g2 g4 g5 h0)[111]? = some (A0 a a2 u v 111, ly_cel (A0 a a2 u v) K (m0 g0 g2 g4 g5 h0, 0) 111) := rfl
theorem ce_all : ∀ k, k < 112 → (W00 K a a2 u v g0 g2 g4 g5 h0)[k]? = some (A0 a a2 u v k, ly_cel (A0 a a2 u v) K (m0 g0 g2 g4 g5 h0, 0) k)
  | 0, _ => ce_0
  | 1, _ => ce_1
  | 2, _ => ce_2
  | 3, _ => ce_3
  | 4, _ => ce_4
  | 5, _ => ce_5
  | 6, _ => ce_6
  | 7, _ => ce_7
  | 8, _ => ce_8
  | 9, _ => ce_9
  | 10, _ => ce_10
  | 11, _ => ce_11
  | 12, _ => ce_12
  | 13, _ => ce_13
  | 14, _ => ce_14
  | 15, _ => ce_15
  | 16, _ => ce_16
  | 17, _ => ce_17
  | 18, _ => ce_18
  | 19, _ => ce_19
  | 20, _ => ce_20
  | 21, _ => ce_21
  | 22, _ => ce_22
  | 23, _ => ce_23
  | 24, _ => ce_24
  | 25, _ => ce_25
  | 26, _ => ce_26
  | 27, _ => ce_27
  | 28, _ => ce_28
  | 29, _ => ce_29
  | 30, _ => ce_30
  | 31, _ => ce_31
  | 32, _ => ce_32
  | 33, _ => ce_33
  | 34, _ => ce_34
  | 35, _ => ce_35
  | 36, _ => ce_36
  | 37, _ => ce_37
  | 38, _ => ce_38
  | 39, _ => ce_39
  | 40, _ => ce_40
  | 41, _ => ce_41
  | 42, _ => ce_42
  | 43, _ => ce_43
  | 44, _ => ce_44
  | 45, _ => ce_45
  | 46, _ => ce_46
  | 47, _ => ce_47
  | 48, _ => ce_48
  | 49, _ => ce_49
  | 50, _ => ce_50
  | 51, _ => ce_51
  | 52, _ => ce_52
  | 53, _ => ce_53
  | 54, _ => ce_54
  | 55, _ => ce_55
  | 56, _ => ce_56
  | 57, _ => ce_57
  | 58, _ => ce_58
  | 59, _ => ce_59
  | 60, _ => ce_60
  | 61, _ => ce_61
  | 62, _ => ce_62
  | 63, _ => ce_63
  | 64, _ => ce_64
  | 65, _ => ce_65
  | 66, _ => ce_66
  | 67, _ => ce_67
  | 68, _ => ce_68
  | 69, _ => ce_69
  | 70, _ => ce_70
  | 71, _ => ce_71
  | 72, _ => ce_72
  | 73, _ => ce_73
  | 74, _ => ce_74
  | 75, _ => ce_75
  | 76, _ => ce_76
  | 77, _ => ce_77
  | 78, _ => ce_78
  | 79, _ => ce_79
  | 80, _ => ce_80
  | 81, _ => ce_81
  | 82, _ => ce_82
  | 83, _ => ce_83
  | 84, _ => ce_84
  | 85, _ => ce_85
  | 86, _ => ce_86
  | 87, _ => ce_87
  | 88, _ => ce_88
  | 89, _ => ce_89
  | 90, _ => ce_90
  | 91, _ => ce_91
  | 92, _ => ce_92
  | 93, _ => ce_93
  | 94, _ => ce_94
  | 95, _ => ce_95
  | 96, _ => ce_96
  | 97, _ => ce_97
  | 98, _ => ce_98
  | 99, _ => ce_99
  | 100, _ => ce_100
  | 101, _ => ce_101
  | 102, _ => ce_102
  | 103, _ => ce_103
  | 104, _ => ce_104
  | 105, _ => ce_105
  | 106, _ => ce_106
  | 107, _ => ce_107
  | 108, _ => ce_108
  | 109, _ => ce_109
  | 110, _ => ce_110
  | 111, _ => ce_111
  | k + 112, h => absurd h (by omega)
theorem wd0 : wd (A0 a a2 u v) K (m0 g0 g2 g4 g5 h0, 0) = W00 K a a2 u v g0 g2 g4 g5 h0 := by
  apply List.ext_getElem?
  intro k
  by_cases hk : k < 112
  · exact (wd_at hk).trans (ce_all k hk).symm
  · have e1 : (wd (A0 a a2 u v) K (m0 g0 g2 g4 g5 h0, 0)).length = 112 := by simp [wd]
    have e2 : (W00 K a a2 u v g0 g2 g4 g5 h0).length = 112 := rfl
    rw [List.getElem?_eq_none (by omega), List.getElem?_eq_none (by omega)]
/-- both constructors' worlds together are the fixed world -/
theorem w_join {D : va_G} {H : Heap} {A : Nat → Prop} {g1 g3 g6 : Nat → Option Nat} (hP : va_P D vwCl (W_X11_init K a u g0 g1 g2 g3 g4 g5 g6 ++ W_X12_init K a2 v h0) H) (hD : va_D A (W_X11_init K a u g0 g1 g2 g3 g4 g5 g6 ++ W_X12_init K a2 v h0))
    (e1 : g1 0 = some (u 18) ∧ g1 1 = some (u 19) ∧ g1 2 = some (u 20) ∧ g1 3 = some (u 21)) (e3 : g3 0 = some (u 26) ∧ g3 1 = some (u 27) ∧ g3 2 = some (u 28) ∧ g3 3 = some (u 29) ∧ g3 4 = some (u 30) ∧ g3 5 = some (u 31)) (e6 : g6 0 = some (u 76) ∧ g6 1 = some (u 79) ∧ g6 2 = some (u 82) ∧ g6 3 = some (u 85) ∧ g6 4 = some (u 88)) : va_P D vwCl (wd (A0 a a2 u v) K (m0 g0 g2 g4 g5 h0, 0)) H ∧ va_D A (wd (A0 a a2 u v) K (m0 g0 g2 g4 g5 h0, 0)) := by
  have x1 : ∀ j, j < 4 → g1 j = some (A0 a a2 u v (ly_rf 18 j)) := fun j hj => by
    rcases (by omega : j = 0 ∨ j = 1 ∨ j = 2 ∨ j = 3) with rfl | rfl | rfl | rfl
    · exact e1.1
    · exact e1.2.1
    · exact e1.2.2.1
    · exact e1.2.2.2
  have x3 : ∀ j, j < 6 → g3 j = some (A0 a a2 u v (ly_rf 26 j)) := fun j hj => by
    rcases (by omega : j = 0 ∨ j = 1 ∨ j = 2 ∨ j = 3 ∨ j = 4 ∨ j = 5) with rfl | rfl | rfl | rfl | rfl | rfl
    · exact e3.1
    · exact e3.2.1
    · exact e3.2.2.1
    · exact e3.2.2.2.1
    · exact e3.2.2.2.2.1
    · exact e3.2.2.2.2.2
  have x6 : ∀ j, j < 5 → g6 j = some (A0 a a2 u v (ly_rf 76 j)) := fun j hj => by
    rcases (by omega : j = 0 ∨ j = 1 ∨ j = 2 ∨ j = 3 ∨ j = 4) with rfl | rfl | rfl | rfl | rfl
    · exact e6.1
    · exact e6.2.1
    · exact e6.2.2.1
    · exact e6.2.2.2.1
    · exact e6.2.2.2.2
  have hP1 := va_P.qset (i := 18) (a := u 17) (n := 4) (c := K 4) (f := g1) (g := fun j => some (A0 a a2 u v (ly_rf 18 j))) hP rfl x1
  have hD1 := va_D.set (p := 18) (a := u 17) (e0 := .inl (K 4, 4, .inr (.inr (.inr (.inr g1))))) (e := .inl (K 4, 4, .inr (.inr (.inr (.inr (fun j => some (A0 a a2 u v (ly_rf 18 j)))))))) hD rfl
  have hP1 : va_P D vwCl (W_X11_init K a u g0 (fun j => some (A0 a a2 u v (ly_rf 18 j))) g2 g3 g4 g5 g6 ++ W_X12_init K a2 v h0) H := hP1
  have hD1 : va_D A (W_X11_init K a u g0 (fun j => some (A0 a a2 u v (ly_rf 18 j))) g2 g3 g4 g5 g6 ++ W_X12_init K a2 v h0) := hD1
  have hP2 := va_P.qset (i := 26) (a := u 25) (n := 6) (c := K 3) (f := g3) (g := fun j => some (A0 a a2 u v (ly_rf 26 j))) hP1 rfl x3
  have hD2 := va_D.set (p := 26) (a := u 25) (e0 := .inl (K 3, 6, .inr (.inr (.inr (.inr g3))))) (e := .inl (K 3, 6, .inr (.inr (.inr (.inr (fun j => some (A0 a a2 u v (ly_rf 26 j)))))))) hD1 rfl
  have hP2 : va_P D vwCl (W_X11_init K a u g0 (fun j => some (A0 a a2 u v (ly_rf 18 j))) g2 (fun j => some (A0 a a2 u v (ly_rf 26 j))) g4 g5 g6 ++ W_X12_init K a2 v h0) H := hP2
  have hD2 : va_D A (W_X11_init K a u g0 (fun j => some (A0 a a2 u v (ly_rf 18 j))) g2 (fun j => some (A0 a a2 u v (ly_rf 26 j))) g4 g5 g6 ++ W_X12_init K a2 v h0) := hD2
  have hP3 := va_P.qset (i := 76) (a := u 75) (n := 5) (c := K 2) (f := g6) (g := fun j => some (A0 a a2 u v (ly_rf 76 j))) hP2 rfl x6
  have hD3 := va_D.set (p := 76) (a := u 75) (e0 := .inl (K 2, 5, .inr (.inr (.inr (.inr g6))))) (e := .inl (K 2, 5, .inr (.inr (.inr (.inr (fun j => some (A0 a a2 u v (ly_rf 76 j)))))))) hD2 rfl
  rw [wd0]
  exact ⟨hP3, hD3⟩
end W1

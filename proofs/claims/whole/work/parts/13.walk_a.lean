set_option maxRecDepth 100000 in
theorem c_X0_isUnder (G : Gm) (M : Mm) (v0 : Int32) (v1 : Int32) : Ct (fI M) G miX0_isUnder (0) [.int v0, .int v1] M (F_X0_isUnder M v0 v1) := by
  refine Ct_of (pn_X0) (Nat.le_of_ble_eq_true rfl) ?_
  refine X_lv [0, 1] (lv' := [(0, .int v0), (1, .int v1)]) rfl ?_
  unfold F_X0_isUnder
  refine X_iload_n (a := 0) dX0_isUnder_0 rfl rfl rfl ?_
  refine X_if_lt (tgt := 12) dX0_isUnder_1 rfl rfl (fun e1 => ?_) (fun e1 => ?_)
  · refine X_iconst (w := 0) dX0_isUnder_12 ki_0 rfl ?_
    exact X_zretI rfl dX0_isUnder_13
  · refine X_iload_n (a := 0) dX0_isUnder_4 rfl rfl rfl ?_
    refine X_gsA t_571 dX0_isUnder_5 rfl ?_
    refine X_alen0 dX0_isUnder_8 rfl ?_
    refine X_icmp_lt (tgt := 14) dX0_isUnder_9 rfl rfl (fun e9 => ?_) (fun e9 => ?_)
    · refine X_iload_n (a := 1) dX0_isUnder_14 rfl rfl rfl ?_
      refine X_if_eq (tgt := 32) dX0_isUnder_15 rfl rfl (fun e15 => ?_) (fun e15 => ?_)
      · refine X_iconst (w := 1) dX0_isUnder_32 ki_1 rfl ?_
        refine X_goto (tgt := 37) dX0_isUnder_33 rfl ?_
        exact X_zretI rfl dX0_isUnder_37
      · refine X_iload_n (a := 1) dX0_isUnder_18 rfl rfl rfl ?_
        refine X_iload_n (a := 0) dX0_isUnder_19 rfl rfl rfl ?_
        refine X_icmp_eq (tgt := 32) dX0_isUnder_20 rfl rfl (fun e20 => ?_) (fun e20 => ?_)
        · refine X_iconst (w := 1) dX0_isUnder_32 ki_1 rfl ?_
          refine X_goto (tgt := 37) dX0_isUnder_33 rfl ?_
          exact X_zretI rfl dX0_isUnder_37
        · refine X_iload_n (a := 1) dX0_isUnder_23 rfl rfl rfl ?_
          refine X_gsA t_571 dX0_isUnder_24 rfl ?_
          refine X_iload_n (a := 0) dX0_isUnder_27 rfl rfl rfl ?_
          refine X_ald0 dX0_isUnder_28 rfl ?_
          refine X_icmp_ne (tgt := 36) dX0_isUnder_29 rfl rfl (fun e29 => ?_) (fun e29 => ?_)
          · refine X_iconst (w := 0) dX0_isUnder_36 ki_0 rfl ?_
            exact X_zretI rfl dX0_isUnder_37
          · refine X_iconst (w := 1) dX0_isUnder_32 ki_1 rfl ?_
            refine X_goto (tgt := 37) dX0_isUnder_33 rfl ?_
            exact X_zretI rfl dX0_isUnder_37
    · refine X_iconst (w := 0) dX0_isUnder_12 ki_0 rfl ?_
      exact X_zretI rfl dX0_isUnder_13
set_option maxRecDepth 100000 in
theorem c_X0_leak (G : Gm) (M : Mm) (w0 : Nat) (v1 : Int32) (v2 : Int32) (v3 : Int32) (hw0 : ly_ty w0 = 0 ∨ ly_ty w0 = 9 ∨ ly_ty w0 = 8 ∨ ly_ty w0 = 1 ∨ ly_ty w0 = 4 ∨ ly_ty w0 = 2) : Ct (fI M) G miX0_leak (0) [.ref (ga G w0), .int v1, .int v2, .int v3] M (F_X0_leak w0 v1 v2 v3) := by
  refine Ct_of (pn_X0) (Nat.le_of_ble_eq_true rfl) ?_
  refine X_lv [0, 1, 2, 3] (lv' := [(0, .ref (ga G w0)), (1, .int v1), (2, .int v2), (3, .int v3)]) rfl ?_
  unfold F_X0_leak
  refine X_iconst (w := 2) dX0_leak_0 ki_2 rfl ?_
  refine X_iload_n (a := 1) dX0_leak_1 rfl rfl rfl ?_
  refine X_iadd dX0_leak_2 rfl ?_
  exact X_iretI rfl dX0_leak_3
set_option maxRecDepth 100000 in
theorem c_X0_lift (G : Gm) (M : Mm) (w0 : Nat) (v1 : Int32) (v2 : Int32) (v3 : Int32) (hw0 : ly_ty w0 = 0 ∨ ly_ty w0 = 9 ∨ ly_ty w0 = 8 ∨ ly_ty w0 = 1 ∨ ly_ty w0 = 4 ∨ ly_ty w0 = 2) : Ct (fI M) G miX0_lift (0) [.ref (ga G w0), .int v1, .int v2, .int v3] M (F_X0_lift w0 v1 v2 v3) := by
  refine Ct_of (pn_X0) (Nat.le_of_ble_eq_true rfl) ?_
  refine X_lv [0, 1, 2, 3] (lv' := [(0, .ref (ga G w0)), (1, .int v1), (2, .int v2), (3, .int v3)]) rfl ?_
  unfold F_X0_lift
  refine X_iload_n (a := 1) dX0_lift_0 rfl rfl rfl ?_
  refine X_bipush (w := 99) dX0_lift_1 kb_99 rfl ?_
  refine X_icmp_ge (tgt := 16) dX0_lift_3 rfl rfl (fun e3 => ?_) (fun e3 => ?_)
  · refine X_iconst (w := 0) dX0_lift_16 ki_0 rfl ?_
    exact X_iretI rfl dX0_lift_17
  · refine X_bipush (w := 9) dX0_lift_6 kb_9 rfl ?_
    refine X_iload_n (a := 1) dX0_lift_8 rfl rfl rfl ?_
    refine X_bipush (w := 11) dX0_lift_9 kb_11 rfl ?_
    refine X_idiv dX0_lift_11 (by decide) rfl ?_
    refine X_isub dX0_lift_12 rfl ?_
    refine X_goto (tgt := 17) dX0_lift_13 rfl ?_
    exact X_iretI rfl dX0_lift_17
set_option maxRecDepth 100000 in
theorem c_X7_began (G : Gm) (M : Mm) (v1 : Int32) : Ct fV G miX7_began (0) [.ref (ga G 4), .int v1] M (F_X7_began M v1) := by
  refine Ct_of (pn_X7) (Nat.le_of_ble_eq_true rfl) ?_
  refine X_lv [0, 1] (lv' := [(0, .ref (ga G 4)), (1, .int v1)]) rfl ?_
  unfold F_X7_began
  refine X_aload_n (a := 0) dX7_began_0 rfl rfl rfl ?_
  refine X_getI fl_X7_19 rfl dX7_began_1 rfl ?_
  refine X_if_ne (tgt := 16) dX7_began_4 rfl rfl (fun e4 => ?_) (fun e4 => ?_)
  · exact X_vret rfl dX7_began_16
  · refine X_aload_n (a := 0) dX7_began_7 rfl rfl rfl ?_
    refine X_getI fl_X7_15 rfl dX7_began_8 rfl ?_
    refine X_bipush (w := 30) dX7_began_11 kb_30 rfl ?_
    refine X_icmp_lt (tgt := 17) dX7_began_13 rfl rfl (fun e13 => ?_) (fun e13 => ?_)
    · refine X_aload_n (a := 0) dX7_began_17 rfl rfl rfl ?_
      refine X_getR (t := 5) fl_X7_9 rfl rfl dX7_began_18 rfl ?_
      refine X_aload_n (a := 0) dX7_began_21 rfl rfl rfl ?_
      refine X_getI fl_X7_15 rfl dX7_began_22 rfl ?_
      refine X_iload_n (a := 1) dX7_began_25 rfl rfl rfl ?_
      refine X_iast rfl rfl dX7_began_26 rfl ?_
      refine X_aload_n (a := 0) dX7_began_27 rfl rfl rfl ?_
      refine X_dup dX7_began_28 rfl rfl ?_
      refine X_getI fl_X7_15 rfl dX7_began_29 rfl ?_
      refine X_iconst (w := 1) dX7_began_32 ki_1 rfl ?_
      refine X_iadd dX7_began_33 rfl ?_
      refine X_putI fp_X7_15 rfl dX7_began_34 rfl ?_
      exact X_vret rfl dX7_began_37
    · exact X_vret rfl dX7_began_16
set_option maxRecDepth 100000 in
theorem c_X0_rolls (G : Gm) (M : Mm) (w0 : Nat) (v2 : Int32) (hw0 : ly_ty w0 = 0 ∨ ly_ty w0 = 9 ∨ ly_ty w0 = 8 ∨ ly_ty w0 = 1 ∨ ly_ty w0 = 4 ∨ ly_ty w0 = 2) : Ct fJ G miX0_rolls (1) [.ref (ga G w0), .ref (ga G 4), .int v2] M (F_X0_rolls M w0 v2) := by
  refine Ct_of (pn_X0) (Nat.le_of_ble_eq_true rfl) ?_
  refine X_lv [0, 1, 2] (lv' := [(0, .ref (ga G w0)), (1, .ref (ga G 4)), (2, .int v2)]) rfl ?_
  unfold F_X0_rolls
  refine X_aload_n (a := 1) dX0_rolls_0 rfl rfl rfl ?_
  refine X_bipush (w := 10) dX0_rolls_1 kb_10 rfl ?_
  refine X_ruV (Ru_V (st := []) cv_X0_13 rfl (c_X7_began G M 10) (by decide) rfl rfl (Nat.le_of_ble_eq_true rfl) dX0_rolls_3) rfl (fun r3 => ?_)
  refine X_iload_n (a := 2) dX0_rolls_6 rfl rfl rfl ?_
  refine X_iconst (w := 2) dX0_rolls_7 ki_2 rfl ?_
  refine X_imul dX0_rolls_8 rfl ?_
  refine X_iconst (w := 3) dX0_rolls_9 ki_3 rfl ?_
  refine X_aload_n (a := 1) dX0_rolls_10 rfl rfl rfl ?_
  refine X_getI fl_X0_19 rfl dX0_rolls_11 rfl ?_
  refine X_imul dX0_rolls_14 rfl ?_
  refine X_iadd dX0_rolls_15 rfl ?_
  exact X_iretJ rfl dX0_rolls_16
set_option maxRecDepth 100000 in
theorem c_X1_rolls (G : Gm) (M : Mm) (w0 : Nat) (v2 : Int32) (hw0 : ly_ty w0 = 1) : Ct fJ G miX1_rolls (2) [.ref (ga G w0), .ref (ga G 4), .int v2] M (F_X1_rolls M w0 v2) := by
  refine Ct_of (pn_X1) (Nat.le_of_ble_eq_true rfl) ?_
  refine X_lv [0, 1, 2] (lv' := [(0, .ref (ga G w0)), (1, .ref (ga G 4)), (2, .int v2)]) rfl ?_
  unfold F_X1_rolls
  refine X_aload_n (a := 1) dX1_rolls_0 rfl rfl rfl ?_
  refine X_bipush (w := 50) dX1_rolls_1 kb_50 rfl ?_
  refine X_ruV (Ru_V (st := []) cv_X1_20 rfl (c_X7_began G M 50) (by decide) rfl rfl (Nat.le_of_ble_eq_true rfl) dX1_rolls_3) rfl (fun r3 => ?_)
  refine X_aload_n (a := 0) dX1_rolls_6 rfl rfl rfl ?_
  refine X_aload_n (a := 1) dX1_rolls_7 rfl rfl rfl ?_
  refine X_iload_n (a := 2) dX1_rolls_8 rfl rfl rfl ?_
  refine X_bipush (w := 7) dX1_rolls_9 kb_7 rfl ?_
  refine X_isub dX1_rolls_11 rfl ?_
  refine X_ruJ (Ru_I (st := []) ci_X1_26 (by omega) (c_X0_rolls G r3 w0 (v2 - 7) (by omega)) (by decide) rfl rfl (Nat.le_of_ble_eq_true rfl) dX1_rolls_12) rfl (fun r12 => ?_)
  exact X_iretJ rfl dX1_rolls_15
set_option maxRecDepth 100000 in
theorem c_X9_rolls (G : Gm) (M : Mm) (w0 : Nat) (v2 : Int32) (hw0 : ly_ty w0 = 9) : Ct fJ G miX9_rolls (2) [.ref (ga G w0), .ref (ga G 4), .int v2] M (F_X9_rolls M w0 v2) := by
  refine Ct_of (pn_X9) (Nat.le_of_ble_eq_true rfl) ?_
  refine X_lv [0, 1, 2] (lv' := [(0, .ref (ga G w0)), (1, .ref (ga G 4)), (2, .int v2)]) rfl ?_
  unfold F_X9_rolls
  refine X_aload_n (a := 1) dX9_rolls_0 rfl rfl rfl ?_
  refine X_bipush (w := 20) dX9_rolls_1 kb_20 rfl ?_
  refine X_ruV (Ru_V (st := []) cv_X9_7 rfl (c_X7_began G M 20) (by decide) rfl rfl (Nat.le_of_ble_eq_true rfl) dX9_rolls_3) rfl (fun r3 => ?_)
  refine X_aload_n (a := 0) dX9_rolls_6 rfl rfl rfl ?_
  refine X_aload_n (a := 1) dX9_rolls_7 rfl rfl rfl ?_
  refine X_iload_n (a := 2) dX9_rolls_8 rfl rfl rfl ?_
  refine X_ruJ (Ru_P (st := []) cp_X9_13 (by omega) (c_X0_rolls G r3 w0 v2 (by omega)) (by decide) rfl rfl (Nat.le_of_ble_eq_true rfl) dX9_rolls_9) rfl (fun r9 => ?_)
  refine X_bipush (w := 16) dX9_rolls_12 kb_16 rfl ?_
  refine X_iadd dX9_rolls_14 rfl ?_
  exact X_iretJ rfl dX9_rolls_15
set_option maxRecDepth 100000 in
theorem rv_X0_23 {G : Gm} {mi : Mi} {d pc : Nat} {lv : List (Nat × Value)} {st0 st : List Value} {M : Mm} {w : Nat} {a0 : Int32} (hc : mi.1.cls = RX0) (hw0 : ly_ty w = 0 ∨ ly_ty w = 9 ∨ ly_ty w = 8 ∨ ly_ty w = 1 ∨ ly_ty w = 4 ∨ ly_ty w = 2) (hdd : 3 ≤ d) (hst : st0 = ([.ref (ga G 4), .int a0] : List Value).reverse ++ .ref (ga G w) :: st) (hw : (st.map fun v => v.category).sum ≤ 8) (hd : decode mi.2.1 pc = .ok (.invokevirtual 23, 3)) : Ru fJ G mi d pc lv st0 st M (F_v_rolls M w a0) := by
  unfold F_v_rolls
  rcases hw0 with h | h | h | h | h | h
  · rw [if_pos h]
    exact Ru_U (hc ▸ cu_X0_23_0) h (c_X0_rolls G M w a0 (by omega)) (by omega) rfl hst hw hd
  · rw [if_neg (by omega), if_pos h]
    exact Ru_U (hc ▸ cu_X0_23_9) h (c_X9_rolls G M w a0 (by omega)) (by omega) rfl hst hw hd
  · rw [if_neg (by omega), if_neg (by omega), if_pos h]
    exact Ru_U (hc ▸ cu_X0_23_8) h (c_X0_rolls G M w a0 (by omega)) (by omega) rfl hst hw hd
  · rw [if_neg (by omega), if_neg (by omega), if_neg (by omega), if_pos h]
    exact Ru_U (hc ▸ cu_X0_23_1) h (c_X1_rolls G M w a0 (by omega)) (by omega) rfl hst hw hd
  · rw [if_neg (by omega), if_neg (by omega), if_neg (by omega), if_neg (by omega), if_pos h]
    exact Ru_U (hc ▸ cu_X0_23_4) h (c_X0_rolls G M w a0 (by omega)) (by omega) rfl hst hw hd
  · rw [if_neg (by omega), if_neg (by omega), if_neg (by omega), if_neg (by omega), if_neg (by omega), if_pos h]
    exact Ru_U (hc ▸ cu_X0_23_2) h (c_X0_rolls G M w a0 (by omega)) (by omega) rfl hst hw hd
set_option maxRecDepth 100000 in
theorem c_X0_seeps (G : Gm) (M : Mm) (w0 : Nat) (v2 : Int32) (hw0 : ly_ty w0 = 0 ∨ ly_ty w0 = 9 ∨ ly_ty w0 = 8 ∨ ly_ty w0 = 1 ∨ ly_ty w0 = 4 ∨ ly_ty w0 = 2) : Ct fJ G miX0_seeps (3) [.ref (ga G w0), .ref (ga G 4), .int v2] M (F_X0_seeps M w0 v2) := by
  refine Ct_of (pn_X0) (Nat.le_of_ble_eq_true rfl) ?_
  refine X_lv [0, 1, 2] (lv' := [(0, .ref (ga G w0)), (1, .ref (ga G 4)), (2, .int v2)]) rfl ?_
  unfold F_X0_seeps
  refine X_aload_n (a := 1) dX0_seeps_0 rfl rfl rfl ?_
  refine X_bipush (w := 11) dX0_seeps_1 kb_11 rfl ?_
  refine X_ruV (Ru_V (st := []) cv_X0_13 rfl (c_X7_began G M 11) (by decide) rfl rfl (Nat.le_of_ble_eq_true rfl) dX0_seeps_3) rfl (fun r3 => ?_)
  refine X_aload_n (a := 0) dX0_seeps_6 rfl rfl rfl ?_
  refine X_aload_n (a := 1) dX0_seeps_7 rfl rfl rfl ?_
  refine X_iload_n (a := 2) dX0_seeps_8 rfl rfl rfl ?_
  refine X_ruJ (rv_X0_23 rfl hw0 (by decide) rfl (Nat.le_of_ble_eq_true rfl) dX0_seeps_9) rfl (fun r9 => ?_)
  refine X_iconst (w := 4) dX0_seeps_12 ki_4 rfl ?_
  refine X_aload_n (a := 1) dX0_seeps_13 rfl rfl rfl ?_
  refine X_getI fl_X0_27 rfl dX0_seeps_14 rfl ?_
  refine X_imul dX0_seeps_17 rfl ?_
  refine X_isub dX0_seeps_18 rfl ?_
  exact X_iretJ rfl dX0_seeps_19
set_option maxRecDepth 100000 in
theorem c_X0_hoops (G : Gm) (M : Mm) (w0 : Nat) (v2 : Int32) (hw0 : ly_ty w0 = 0 ∨ ly_ty w0 = 9 ∨ ly_ty w0 = 8 ∨ ly_ty w0 = 1 ∨ ly_ty w0 = 4 ∨ ly_ty w0 = 2) : Ct fJ G miX0_hoops (1) [.ref (ga G w0), .ref (ga G 4), .int v2] M (F_X0_hoops M w0 v2) := by
  refine Ct_of (pn_X0) (Nat.le_of_ble_eq_true rfl) ?_
  refine X_lv [0, 1, 2] (lv' := [(0, .ref (ga G w0)), (1, .ref (ga G 4)), (2, .int v2)]) rfl ?_
  unfold F_X0_hoops
  refine X_aload_n (a := 1) dX0_hoops_0 rfl rfl rfl ?_
  refine X_bipush (w := 12) dX0_hoops_1 kb_12 rfl ?_
  refine X_ruV (Ru_V (st := []) cv_X0_13 rfl (c_X7_began G M 12) (by decide) rfl rfl (Nat.le_of_ble_eq_true rfl) dX0_hoops_3) rfl (fun r3 => ?_)
  refine X_aload_n (a := 1) dX0_hoops_6 rfl rfl rfl ?_
  refine X_getI fl_X0_19 rfl dX0_hoops_7 rfl ?_
  refine X_aload_n (a := 1) dX0_hoops_10 rfl rfl rfl ?_
  refine X_getI fl_X0_27 rfl dX0_hoops_11 rfl ?_
  refine X_iadd dX0_hoops_14 rfl ?_
  refine X_iconst (w := 2) dX0_hoops_15 ki_2 rfl ?_
  refine X_isub dX0_hoops_16 rfl ?_
  refine X_istore_n (lv2 := [(3, .int (((gi r3 4 2) + (gi r3 4 3)) - 2)), (0, .ref (ga G w0)), (1, .ref (ga G 4)), (2, .int v2)]) dX0_hoops_17 rfl (by decide) rfl rfl ?_
  refine X_iload_n (a := 0) dX0_hoops_18 rfl rfl rfl ?_
  refine X_if_ne (tgt := 29) dX0_hoops_19 rfl rfl (fun e19 => ?_) (fun e19 => ?_)
  · refine X_iload_n (a := 3) dX0_hoops_29 rfl rfl rfl ?_
    refine X_iload_n (a := 0) dX0_hoops_30 rfl rfl rfl ?_
    refine X_nz (fun h31 => ?_)
    refine X_idiv dX0_hoops_31 h31 rfl ?_
    exact X_iretJ rfl dX0_hoops_32
  · refine X_aload_n (a := 2) dX0_hoops_22 rfl rfl rfl ?_
    refine X_iconst (w := 1) dX0_hoops_23 ki_1 rfl ?_
    refine X_putZ fp_X0_30 rfl dX0_hoops_24 rfl ?_
    refine X_iconst (w := 0) dX0_hoops_27 ki_0 rfl ?_
    exact X_iretJ rfl dX0_hoops_28
set_option maxRecDepth 100000 in
theorem c_X4_hoops (G : Gm) (M : Mm) (w0 : Nat) (v2 : Int32) (hw0 : ly_ty w0 = 4 ∨ ly_ty w0 = 2) : Ct fJ G miX4_hoops (2) [.ref (ga G w0), .ref (ga G 4), .int v2] M (F_X4_hoops M w0 v2) := by
  refine Ct_of (pn_X4) (Nat.le_of_ble_eq_true rfl) ?_
  refine X_lv [0, 1, 2] (lv' := [(0, .ref (ga G w0)), (1, .ref (ga G 4)), (2, .int v2)]) rfl ?_
  unfold F_X4_hoops
  refine X_aload_n (a := 1) dX4_hoops_0 rfl rfl rfl ?_
  refine X_bipush (w := 40) dX4_hoops_1 kb_40 rfl ?_
  refine X_ruV (Ru_V (st := []) cv_X4_11 rfl (c_X7_began G M 40) (by decide) rfl rfl (Nat.le_of_ble_eq_true rfl) dX4_hoops_3) rfl (fun r3 => ?_)
  refine X_aload_n (a := 0) dX4_hoops_6 rfl rfl rfl ?_
  refine X_aload_n (a := 1) dX4_hoops_7 rfl rfl rfl ?_
  refine X_iload_n (a := 2) dX4_hoops_8 rfl rfl rfl ?_
  refine X_ruJ (Ru_P (st := []) cp_X4_17 (by omega) (c_X0_hoops G r3 w0 v2 (by omega)) (by decide) rfl rfl (Nat.le_of_ble_eq_true rfl) dX4_hoops_9) rfl (fun r9 => ?_)
  refine X_iconst (w := 3) dX4_hoops_12 ki_3 rfl ?_
  refine X_imul dX4_hoops_13 rfl ?_
  exact X_iretJ rfl dX4_hoops_14
set_option maxRecDepth 100000 in
theorem c_X2_hoops (G : Gm) (M : Mm) (w0 : Nat) (v2 : Int32) (hw0 : ly_ty w0 = 2) : Ct fJ G miX2_hoops (3) [.ref (ga G w0), .ref (ga G 4), .int v2] M (F_X2_hoops M w0 v2) := by
  refine Ct_of (pn_X2) (Nat.le_of_ble_eq_true rfl) ?_
  refine X_lv [0, 1, 2] (lv' := [(0, .ref (ga G w0)), (1, .ref (ga G 4)), (2, .int v2)]) rfl ?_
  unfold F_X2_hoops
  refine X_aload_n (a := 1) dX2_hoops_0 rfl rfl rfl ?_
  refine X_bipush (w := 61) dX2_hoops_1 kb_61 rfl ?_
  refine X_ruV (Ru_V (st := []) cv_X2_20 rfl (c_X7_began G M 61) (by decide) rfl rfl (Nat.le_of_ble_eq_true rfl) dX2_hoops_3) rfl (fun r3 => ?_)
  refine X_aload_n (a := 0) dX2_hoops_6 rfl rfl rfl ?_
  refine X_aload_n (a := 1) dX2_hoops_7 rfl rfl rfl ?_
  refine X_iload_n (a := 2) dX2_hoops_8 rfl rfl rfl ?_
  refine X_ruJ (Ru_P (st := []) cp_X2_30 (by omega) (c_X4_hoops G r3 w0 v2 (by omega)) (by decide) rfl rfl (Nat.le_of_ble_eq_true rfl) dX2_hoops_9) rfl (fun r9 => ?_)
  refine X_aload_n (a := 0) dX2_hoops_12 rfl rfl rfl ?_
  refine X_aload_n (a := 1) dX2_hoops_13 rfl rfl rfl ?_
  refine X_aload_n (a := 1) dX2_hoops_14 rfl rfl rfl ?_
  refine X_getI fl_X2_33 rfl dX2_hoops_15 rfl ?_
  refine X_ruJ (Ru_U (st := [.int r9.1]) cu_X2_37_2 hw0 (c_X0_rolls G r9.2 w0 (gi r9.2 4 2) (by omega)) (by decide) rfl rfl (Nat.le_of_ble_eq_true rfl) dX2_hoops_18) rfl (fun r18 => ?_)
  refine X_isub dX2_hoops_21 rfl ?_
  exact X_iretJ rfl dX2_hoops_22
set_option maxRecDepth 100000 in
theorem c_X2_seeps (G : Gm) (M : Mm) (w0 : Nat) (v2 : Int32) (hw0 : ly_ty w0 = 2) : Ct fJ G miX2_seeps (4) [.ref (ga G w0), .ref (ga G 4), .int v2] M (F_X2_seeps M w0 v2) := by
  refine Ct_of (pn_X2) (Nat.le_of_ble_eq_true rfl) ?_
  refine X_lv [0, 1, 2] (lv' := [(0, .ref (ga G w0)), (1, .ref (ga G 4)), (2, .int v2)]) rfl ?_
  unfold F_X2_seeps
  refine X_aload_n (a := 1) dX2_seeps_0 rfl rfl rfl ?_
  refine X_bipush (w := 60) dX2_seeps_1 kb_60 rfl ?_
  refine X_ruV (Ru_V (st := []) cv_X2_20 rfl (c_X7_began G M 60) (by decide) rfl rfl (Nat.le_of_ble_eq_true rfl) dX2_seeps_3) rfl (fun r3 => ?_)
  refine X_iconst (w := 0) dX2_seeps_6 ki_0 rfl ?_
  refine X_aload_n (a := 0) dX2_seeps_7 rfl rfl rfl ?_
  refine X_aload_n (a := 1) dX2_seeps_8 rfl rfl rfl ?_
  refine X_iload_n (a := 2) dX2_seeps_9 rfl rfl rfl ?_
  refine X_ruJ (Ru_I (st := [.int 0]) ci_X2_26 (by omega) (c_X0_seeps G r3 w0 v2 (by omega)) (by decide) rfl rfl (Nat.le_of_ble_eq_true rfl) dX2_seeps_10) rfl (fun r10 => ?_)
  refine X_isub dX2_seeps_13 rfl ?_
  exact X_iretJ rfl dX2_seeps_14
set_option maxRecDepth 100000 in
theorem c_X8_seeps (G : Gm) (M : Mm) (w0 : Nat) (v2 : Int32) (hw0 : ly_ty w0 = 8 ∨ ly_ty w0 = 1) : Ct fJ G miX8_seeps (4) [.ref (ga G w0), .ref (ga G 4), .int v2] M (F_X8_seeps M w0 v2) := by
  refine Ct_of (pn_X8) (Nat.le_of_ble_eq_true rfl) ?_
  refine X_lv [0, 1, 2] (lv' := [(0, .ref (ga G w0)), (1, .ref (ga G 4)), (2, .int v2)]) rfl ?_
  unfold F_X8_seeps
  refine X_aload_n (a := 1) dX8_seeps_0 rfl rfl rfl ?_
  refine X_bipush (w := 30) dX8_seeps_1 kb_30 rfl ?_
  refine X_ruV (Ru_V (st := []) cv_X8_14 rfl (c_X7_began G M 30) (by decide) rfl rfl (Nat.le_of_ble_eq_true rfl) dX8_seeps_3) rfl (fun r3 => ?_)
  refine X_aload_n (a := 0) dX8_seeps_6 rfl rfl rfl ?_
  refine X_aload_n (a := 1) dX8_seeps_7 rfl rfl rfl ?_
  refine X_iload_n (a := 2) dX8_seeps_8 rfl rfl rfl ?_
  refine X_ruJ (Ru_P (st := []) cp_X8_20 (by omega) (c_X0_seeps G r3 w0 v2 (by omega)) (by decide) rfl rfl (Nat.le_of_ble_eq_true rfl) dX8_seeps_9) rfl (fun r9 => ?_)
  refine X_bipush (w := 17) dX8_seeps_12 kb_17 rfl ?_
  refine X_ixor dX8_seeps_14 rfl ?_
  exact X_iretJ rfl dX8_seeps_15
set_option maxRecDepth 100000 in
theorem rv_X0_34 {G : Gm} {mi : Mi} {d pc : Nat} {lv : List (Nat × Value)} {st0 st : List Value} {M : Mm} {w : Nat} {a0 : Int32} (hc : mi.1.cls = RX0) (hw0 : ly_ty w = 0 ∨ ly_ty w = 9 ∨ ly_ty w = 8 ∨ ly_ty w = 1 ∨ ly_ty w = 4 ∨ ly_ty w = 2) (hdd : 5 ≤ d) (hst : st0 = ([.ref (ga G 4), .int a0] : List Value).reverse ++ .ref (ga G w) :: st) (hw : (st.map fun v => v.category).sum ≤ 8) (hd : decode mi.2.1 pc = .ok (.invokevirtual 34, 3)) : Ru fJ G mi d pc lv st0 st M (F_v_seeps M w a0) := by
  unfold F_v_seeps
  rcases hw0 with h | h | h | h | h | h
  · rw [if_pos h]
    exact Ru_U (hc ▸ cu_X0_34_0) h (c_X0_seeps G M w a0 (by omega)) (by omega) rfl hst hw hd
  · rw [if_neg (by omega), if_pos h]
    exact Ru_U (hc ▸ cu_X0_34_9) h (c_X0_seeps G M w a0 (by omega)) (by omega) rfl hst hw hd
  · rw [if_neg (by omega), if_neg (by omega), if_pos h]
    exact Ru_U (hc ▸ cu_X0_34_8) h (c_X8_seeps G M w a0 (by omega)) (by omega) rfl hst hw hd
  · rw [if_neg (by omega), if_neg (by omega), if_neg (by omega), if_pos h]
    exact Ru_U (hc ▸ cu_X0_34_1) h (c_X8_seeps G M w a0 (by omega)) (by omega) rfl hst hw hd
  · rw [if_neg (by omega), if_neg (by omega), if_neg (by omega), if_neg (by omega), if_pos h]
    exact Ru_U (hc ▸ cu_X0_34_4) h (c_X0_seeps G M w a0 (by omega)) (by omega) rfl hst hw hd
  · rw [if_neg (by omega), if_neg (by omega), if_neg (by omega), if_neg (by omega), if_neg (by omega), if_pos h]
    exact Ru_U (hc ▸ cu_X0_34_2) h (c_X2_seeps G M w a0 (by omega)) (by omega) rfl hst hw hd
set_option maxRecDepth 100000 in
theorem rv_X0_37 {G : Gm} {mi : Mi} {d pc : Nat} {lv : List (Nat × Value)} {st0 st : List Value} {M : Mm} {w : Nat} {a0 : Int32} (hc : mi.1.cls = RX0) (hw0 : ly_ty w = 0 ∨ ly_ty w = 9 ∨ ly_ty w = 8 ∨ ly_ty w = 1 ∨ ly_ty w = 4 ∨ ly_ty w = 2) (hdd : 4 ≤ d) (hst : st0 = ([.ref (ga G 4), .int a0] : List Value).reverse ++ .ref (ga G w) :: st) (hw : (st.map fun v => v.category).sum ≤ 8) (hd : decode mi.2.1 pc = .ok (.invokevirtual 37, 3)) : Ru fJ G mi d pc lv st0 st M (F_v_hoops M w a0) := by
  unfold F_v_hoops
  rcases hw0 with h | h | h | h | h | h
  · rw [if_pos h]
    exact Ru_U (hc ▸ cu_X0_37_0) h (c_X0_hoops G M w a0 (by omega)) (by omega) rfl hst hw hd
  · rw [if_neg (by omega), if_pos h]
    exact Ru_U (hc ▸ cu_X0_37_9) h (c_X0_hoops G M w a0 (by omega)) (by omega) rfl hst hw hd
  · rw [if_neg (by omega), if_neg (by omega), if_pos h]
    exact Ru_U (hc ▸ cu_X0_37_8) h (c_X0_hoops G M w a0 (by omega)) (by omega) rfl hst hw hd
  · rw [if_neg (by omega), if_neg (by omega), if_neg (by omega), if_pos h]
    exact Ru_U (hc ▸ cu_X0_37_1) h (c_X0_hoops G M w a0 (by omega)) (by omega) rfl hst hw hd
  · rw [if_neg (by omega), if_neg (by omega), if_neg (by omega), if_neg (by omega), if_pos h]
    exact Ru_U (hc ▸ cu_X0_37_4) h (c_X4_hoops G M w a0 (by omega)) (by omega) rfl hst hw hd
  · rw [if_neg (by omega), if_neg (by omega), if_neg (by omega), if_neg (by omega), if_neg (by omega), if_pos h]
    exact Ru_U (hc ▸ cu_X0_37_2) h (c_X2_hoops G M w a0 (by omega)) (by omega) rfl hst hw hd
set_option maxRecDepth 100000 in
theorem c_X0_floods (G : Gm) (M : Mm) (w0 : Nat) (v2 : Int32) (hw0 : ly_ty w0 = 0 ∨ ly_ty w0 = 9 ∨ ly_ty w0 = 8 ∨ ly_ty w0 = 1 ∨ ly_ty w0 = 4 ∨ ly_ty w0 = 2) : Ct fJ G miX0_floods (5) [.ref (ga G w0), .ref (ga G 4), .int v2] M (F_X0_floods M w0 v2) := by
  refine Ct_of (pn_X0) (Nat.le_of_ble_eq_true rfl) ?_
  refine X_lv [0, 1, 2] (lv' := [(0, .ref (ga G w0)), (1, .ref (ga G 4)), (2, .int v2)]) rfl ?_
  unfold F_X0_floods
  refine X_aload_n (a := 1) dX0_floods_0 rfl rfl rfl ?_
  refine X_bipush (w := 13) dX0_floods_1 kb_13 rfl ?_
  refine X_ruV (Ru_V (st := []) cv_X0_13 rfl (c_X7_began G M 13) (by decide) rfl rfl (Nat.le_of_ble_eq_true rfl) dX0_floods_3) rfl (fun r3 => ?_)
  refine X_aload_n (a := 0) dX0_floods_6 rfl rfl rfl ?_
  refine X_aload_n (a := 1) dX0_floods_7 rfl rfl rfl ?_
  refine X_iload_n (a := 2) dX0_floods_8 rfl rfl rfl ?_
  refine X_ruJ (rv_X0_34 rfl hw0 (by decide) rfl (Nat.le_of_ble_eq_true rfl) dX0_floods_9) rfl (fun r9 => ?_)
  refine X_aload_n (a := 0) dX0_floods_12 rfl rfl rfl ?_
  refine X_aload_n (a := 1) dX0_floods_13 rfl rfl rfl ?_
  refine X_iload_n (a := 2) dX0_floods_14 rfl rfl rfl ?_
  refine X_ruJ (rv_X0_37 rfl hw0 (by decide) rfl (Nat.le_of_ble_eq_true rfl) dX0_floods_15) rfl (fun r15 => ?_)
  refine X_ixor dX0_floods_18 rfl ?_
  exact X_iretJ rfl dX0_floods_19
set_option maxRecDepth 100000 in
theorem c_X8_leak (G : Gm) (M : Mm) (w0 : Nat) (v1 : Int32) (v2 : Int32) (v3 : Int32) (hw0 : ly_ty w0 = 8 ∨ ly_ty w0 = 1) : Ct (fI M) G miX8_leak (1) [.ref (ga G w0), .int v1, .int v2, .int v3] M (F_X8_leak w0 v1 v2 v3) := by
  refine Ct_of (pn_X8) (Nat.le_of_ble_eq_true rfl) ?_
  refine X_lv [0, 1, 2, 3] (lv' := [(0, .ref (ga G w0)), (1, .int v1), (2, .int v2), (3, .int v3)]) rfl ?_
  unfold F_X8_leak
  refine X_iconst (w := 2) dX8_leak_0 ki_2 rfl ?_
  refine X_aload_n (a := 0) dX8_leak_1 rfl rfl rfl ?_
  refine X_iload_n (a := 1) dX8_leak_2 rfl rfl rfl ?_
  refine X_iload_n (a := 2) dX8_leak_3 rfl rfl rfl ?_
  refine X_iload_n (a := 3) dX8_leak_4 rfl rfl rfl ?_
  refine X_ruI (Ru_P (st := [.int 2]) cp_X8_7 (by omega) (c_X0_leak G M w0 v1 v2 v3 (by omega)) (by decide) rfl rfl (Nat.le_of_ble_eq_true rfl) dX8_leak_5) rfl (fun r5 => ?_)
  refine X_imul dX8_leak_8 rfl ?_
  exact X_iretI rfl dX8_leak_9
set_option maxRecDepth 100000 in
theorem c_X1_leak (G : Gm) (M : Mm) (w0 : Nat) (v1 : Int32) (v2 : Int32) (v3 : Int32) (hw0 : ly_ty w0 = 1) : Ct (fI M) G miX1_leak (2) [.ref (ga G w0), .int v1, .int v2, .int v3] M (F_X1_leak w0 v1 v2 v3) := by
  refine Ct_of (pn_X1) (Nat.le_of_ble_eq_true rfl) ?_
  refine X_lv [0, 1, 2, 3] (lv' := [(0, .ref (ga G w0)), (1, .int v1), (2, .int v2), (3, .int v3)]) rfl ?_
  unfold F_X1_leak
  refine X_iconst (w := 0) dX1_leak_0 ki_0 rfl ?_
  refine X_aload_n (a := 0) dX1_leak_1 rfl rfl rfl ?_
  refine X_iload_n (a := 1) dX1_leak_2 rfl rfl rfl ?_
  refine X_iload_n (a := 2) dX1_leak_3 rfl rfl rfl ?_
  refine X_iload_n (a := 3) dX1_leak_4 rfl rfl rfl ?_
  refine X_ruI (Ru_P (st := [.int 0]) cp_X1_7 (by omega) (c_X8_leak G M w0 v1 v2 v3 (by omega)) (by decide) rfl rfl (Nat.le_of_ble_eq_true rfl) dX1_leak_5) rfl (fun r5 => ?_)
  refine X_iconst (w := 4) dX1_leak_8 ki_4 rfl ?_
  refine X_isub dX1_leak_9 rfl ?_
  refine X_max mx_X1_11 (by decide) (Nat.le_of_ble_eq_true rfl) dX1_leak_10 rfl ?_
  exact X_iretI rfl dX1_leak_13
set_option maxRecDepth 100000 in
theorem c_X8_lift (G : Gm) (M : Mm) (w0 : Nat) (v1 : Int32) (v2 : Int32) (v3 : Int32) (hw0 : ly_ty w0 = 8 ∨ ly_ty w0 = 1) : Ct (fI M) G miX8_lift (1) [.ref (ga G w0), .int v1, .int v2, .int v3] M (F_X8_lift w0 v1 v2 v3) := by
  refine Ct_of (pn_X8) (Nat.le_of_ble_eq_true rfl) ?_
  refine X_lv [0, 1, 2, 3] (lv' := [(0, .ref (ga G w0)), (1, .int v1), (2, .int v2), (3, .int v3)]) rfl ?_
  unfold F_X8_lift
  refine X_aload_n (a := 0) dX8_lift_0 rfl rfl rfl ?_
  refine X_iload_n (a := 1) dX8_lift_1 rfl rfl rfl ?_
  refine X_iload_n (a := 2) dX8_lift_2 rfl rfl rfl ?_
  refine X_iload_n (a := 3) dX8_lift_3 rfl rfl rfl ?_
  refine X_ruI (Ru_P (st := []) cp_X8_11 (by omega) (c_X0_lift G M w0 v1 v2 v3 (by omega)) (by decide) rfl rfl (Nat.le_of_ble_eq_true rfl) dX8_lift_4) rfl (fun r4 => ?_)
  refine X_iconst (w := 2) dX8_lift_7 ki_2 rfl ?_
  refine X_idiv dX8_lift_8 (by decide) rfl ?_
  exact X_iretI rfl dX8_lift_9
set_option maxRecDepth 100000 in
theorem c_X1_lift (G : Gm) (M : Mm) (w0 : Nat) (v1 : Int32) (v2 : Int32) (v3 : Int32) (hw0 : ly_ty w0 = 1) : Ct (fI M) G miX1_lift (2) [.ref (ga G w0), .int v1, .int v2, .int v3] M (F_X1_lift w0 v1 v2 v3) := by
  refine Ct_of (pn_X1) (Nat.le_of_ble_eq_true rfl) ?_
  refine X_lv [0, 1, 2, 3] (lv' := [(0, .ref (ga G w0)), (1, .int v1), (2, .int v2), (3, .int v3)]) rfl ?_
  unfold F_X1_lift
  refine X_aload_n (a := 0) dX1_lift_0 rfl rfl rfl ?_
  refine X_iload_n (a := 1) dX1_lift_1 rfl rfl rfl ?_
  refine X_iload_n (a := 2) dX1_lift_2 rfl rfl rfl ?_
  refine X_iload_n (a := 3) dX1_lift_3 rfl rfl rfl ?_
  refine X_ruI (Ru_P (st := []) cp_X1_17 (by omega) (c_X8_lift G M w0 v1 v2 v3 (by omega)) (by decide) rfl rfl (Nat.le_of_ble_eq_true rfl) dX1_lift_4) rfl (fun r4 => ?_)
  refine X_iload_n (a := 2) dX1_lift_7 rfl rfl rfl ?_
  refine X_iconst (w := 3) dX1_lift_8 ki_3 rfl ?_
  refine X_idiv dX1_lift_9 (by decide) rfl ?_
  refine X_iadd dX1_lift_10 rfl ?_
  exact X_iretI rfl dX1_lift_11
set_option maxRecDepth 100000 in
theorem c_X1_floods (G : Gm) (M : Mm) (w0 : Nat) (v2 : Int32) (hw0 : ly_ty w0 = 1) : Ct fJ G miX1_floods (6) [.ref (ga G w0), .ref (ga G 4), .int v2] M (F_X1_floods M w0 v2) := by
  refine Ct_of (pn_X1) (Nat.le_of_ble_eq_true rfl) ?_
  refine X_lv [0, 1, 2] (lv' := [(0, .ref (ga G w0)), (1, .ref (ga G 4)), (2, .int v2)]) rfl ?_
  unfold F_X1_floods
  refine X_aload_n (a := 1) dX1_floods_0 rfl rfl rfl ?_
  refine X_bipush (w := 51) dX1_floods_1 kb_51 rfl ?_
  refine X_ruV (Ru_V (st := []) cv_X1_20 rfl (c_X7_began G M 51) (by decide) rfl rfl (Nat.le_of_ble_eq_true rfl) dX1_floods_3) rfl (fun r3 => ?_)
  refine X_aload_n (a := 0) dX1_floods_6 rfl rfl rfl ?_
  refine X_aload_n (a := 1) dX1_floods_7 rfl rfl rfl ?_
  refine X_iload_n (a := 2) dX1_floods_8 rfl rfl rfl ?_
  refine X_ruJ (Ru_I (st := []) ci_X1_30 (by omega) (c_X0_floods G r3 w0 v2 (by omega)) (by decide) rfl rfl (Nat.le_of_ble_eq_true rfl) dX1_floods_9) rfl (fun r9 => ?_)
  refine X_aload_n (a := 0) dX1_floods_12 rfl rfl rfl ?_
  refine X_aload_n (a := 1) dX1_floods_13 rfl rfl rfl ?_
  refine X_aload_n (a := 1) dX1_floods_14 rfl rfl rfl ?_
  refine X_getI fl_X1_33 rfl dX1_floods_15 rfl ?_
  refine X_ruJ (Ru_U (st := [.int r9.1]) cu_X1_37_1 hw0 (c_X8_seeps G r9.2 w0 (gi r9.2 4 3) (by omega)) (by decide) rfl rfl (Nat.le_of_ble_eq_true rfl) dX1_floods_18) rfl (fun r18 => ?_)
  refine X_iadd dX1_floods_21 rfl ?_
  exact X_iretJ rfl dX1_floods_22
set_option maxRecDepth 100000 in
theorem c_X4_leak (G : Gm) (M : Mm) (w0 : Nat) (v1 : Int32) (v2 : Int32) (v3 : Int32) (hw0 : ly_ty w0 = 4 ∨ ly_ty w0 = 2) : Ct (fI M) G miX4_leak (0) [.ref (ga G w0), .int v1, .int v2, .int v3] M (F_X4_leak w0 v1 v2 v3) := by
  refine Ct_of (pn_X4) (Nat.le_of_ble_eq_true rfl) ?_
  refine X_lv [0, 1, 2, 3] (lv' := [(0, .ref (ga G w0)), (1, .int v1), (2, .int v2), (3, .int v3)]) rfl ?_
  unfold F_X4_leak
  refine X_iload_n (a := 1) dX4_leak_0 rfl rfl rfl ?_
  refine X_iload_n (a := 2) dX4_leak_1 rfl rfl rfl ?_
  refine X_imul dX4_leak_2 rfl ?_
  exact X_iretI rfl dX4_leak_3
set_option maxRecDepth 100000 in
theorem c_X2_leak (G : Gm) (M : Mm) (w0 : Nat) (v1 : Int32) (v2 : Int32) (v3 : Int32) (hw0 : ly_ty w0 = 2) : Ct (fI M) G miX2_leak (1) [.ref (ga G w0), .int v1, .int v2, .int v3] M (F_X2_leak w0 v1 v2 v3) := by
  refine Ct_of (pn_X2) (Nat.le_of_ble_eq_true rfl) ?_
  refine X_lv [0, 1, 2, 3] (lv' := [(0, .ref (ga G w0)), (1, .int v1), (2, .int v2), (3, .int v3)]) rfl ?_
  unfold F_X2_leak
  refine X_aload_n (a := 0) dX2_leak_0 rfl rfl rfl ?_
  refine X_iload_n (a := 1) dX2_leak_1 rfl rfl rfl ?_
  refine X_iload_n (a := 2) dX2_leak_2 rfl rfl rfl ?_
  refine X_iload_n (a := 3) dX2_leak_3 rfl rfl rfl ?_
  refine X_ruI (Ru_P (st := []) cp_X2_7 (by omega) (c_X4_leak G M w0 v1 v2 v3 (by omega)) (by decide) rfl rfl (Nat.le_of_ble_eq_true rfl) dX2_leak_4) rfl (fun r4 => ?_)
  refine X_iload_n (a := 3) dX2_leak_7 rfl rfl rfl ?_
  refine X_iconst (w := 4) dX2_leak_8 ki_4 rfl ?_
  refine X_idiv dX2_leak_9 (by decide) rfl ?_
  refine X_iadd dX2_leak_10 rfl ?_
  exact X_iretI rfl dX2_leak_11
set_option maxRecDepth 100000 in
theorem c_X4_lift (G : Gm) (M : Mm) (w0 : Nat) (v1 : Int32) (v2 : Int32) (v3 : Int32) (hw0 : ly_ty w0 = 4 ∨ ly_ty w0 = 2) : Ct (fI M) G miX4_lift (1) [.ref (ga G w0), .int v1, .int v2, .int v3] M (F_X4_lift w0 v1 v2 v3) := by
  refine Ct_of (pn_X4) (Nat.le_of_ble_eq_true rfl) ?_
  refine X_lv [0, 1, 2, 3] (lv' := [(0, .ref (ga G w0)), (1, .int v1), (2, .int v2), (3, .int v3)]) rfl ?_
  unfold F_X4_lift
  refine X_aload_n (a := 0) dX4_lift_0 rfl rfl rfl ?_
  refine X_iload_n (a := 1) dX4_lift_1 rfl rfl rfl ?_
  refine X_iload_n (a := 2) dX4_lift_2 rfl rfl rfl ?_
  refine X_iload_n (a := 3) dX4_lift_3 rfl rfl rfl ?_
  refine X_ruI (Ru_P (st := []) cp_X4_7 (by omega) (c_X0_lift G M w0 v1 v2 v3 (by omega)) (by decide) rfl rfl (Nat.le_of_ble_eq_true rfl) dX4_lift_4) rfl (fun r4 => ?_)
  refine X_iload_n (a := 2) dX4_lift_7 rfl rfl rfl ?_
  refine X_iconst (w := 2) dX4_lift_8 ki_2 rfl ?_
  refine X_idiv dX4_lift_9 (by decide) rfl ?_
  refine X_iadd dX4_lift_10 rfl ?_
  exact X_iretI rfl dX4_lift_11
set_option maxRecDepth 100000 in
theorem c_X2_lift (G : Gm) (M : Mm) (w0 : Nat) (v1 : Int32) (v2 : Int32) (v3 : Int32) (hw0 : ly_ty w0 = 2) : Ct (fI M) G miX2_lift (2) [.ref (ga G w0), .int v1, .int v2, .int v3] M (F_X2_lift w0 v1 v2 v3) := by
  refine Ct_of (pn_X2) (Nat.le_of_ble_eq_true rfl) ?_
  refine X_lv [0, 1, 2, 3] (lv' := [(0, .ref (ga G w0)), (1, .int v1), (2, .int v2), (3, .int v3)]) rfl ?_
  unfold F_X2_lift
  refine X_bipush (w := 9) dX2_lift_0 kb_9 rfl ?_
  refine X_aload_n (a := 0) dX2_lift_2 rfl rfl rfl ?_
  refine X_iload_n (a := 1) dX2_lift_3 rfl rfl rfl ?_
  refine X_iload_n (a := 2) dX2_lift_4 rfl rfl rfl ?_
  refine X_iload_n (a := 3) dX2_lift_5 rfl rfl rfl ?_
  refine X_ruI (Ru_P (st := [.int 9]) cp_X2_11 (by omega) (c_X4_lift G M w0 v1 v2 v3 (by omega)) (by decide) rfl rfl (Nat.le_of_ble_eq_true rfl) dX2_lift_6) rfl (fun r6 => ?_)
  refine X_iload_n (a := 3) dX2_lift_9 rfl rfl rfl ?_
  refine X_iadd dX2_lift_10 rfl ?_
  refine X_min mx_X2_14 (by decide) (Nat.le_of_ble_eq_true rfl) dX2_lift_11 rfl ?_
  exact X_iretI rfl dX2_lift_14
set_option maxRecDepth 100000 in
theorem x_X3_take_L2 (G : Gm) (w0 : Nat) (w1 : Nat) (hw0 : ly_ty w0 = 3) (hw1 : ly_ty w1 = 3) : ∀ (n : Nat) (M : Mm) (v2 : Int32), X fV G miX3_take (0) 2 [(0, .ref (ga G w0)), (1, .ref (ga G w1)), (2, .int v2)] [] M (F_X3_take_L2 w0 w1 n M v2) := by
  intro n
  induction n with
  | zero => intro M v2; exact X_none
  | succ n ih =>
    intro M v2
    rw [F_X3_take_L2]
    refine X_iload_n (a := 2) dX3_take_2 rfl rfl rfl ?_
    refine X_bipush (w := 6) dX3_take_3 kb_6 rfl ?_
    refine X_icmp_ge (tgt := 38) dX3_take_5 rfl rfl (fun e5 => ?_) (fun e5 => ?_)
    · refine X_aload_n (a := 0) dX3_take_38 rfl rfl rfl ?_
      refine X_aload_n (a := 1) dX3_take_39 rfl rfl rfl ?_
      refine X_getI fl_X3_18 hw1 dX3_take_40 rfl ?_
      refine X_putI fp_X3_18 hw0 dX3_take_43 rfl ?_
      refine X_aload_n (a := 0) dX3_take_46 rfl rfl rfl ?_
      refine X_aload_n (a := 1) dX3_take_47 rfl rfl rfl ?_
      refine X_getI fl_X3_22 hw1 dX3_take_48 rfl ?_
      refine X_putI fp_X3_22 hw0 dX3_take_51 rfl ?_
      exact X_vret rfl dX3_take_54
    · refine X_aload_n (a := 0) dX3_take_8 rfl rfl rfl ?_
      refine X_getR (t := w0 + 1) fl_X3_9 hw0 (rf_eq0 hw0) dX3_take_9 rfl ?_
      refine X_iload_n (a := 2) dX3_take_12 rfl rfl rfl ?_
      refine X_aload_n (a := 1) dX3_take_13 rfl rfl rfl ?_
      refine X_getR (t := w1 + 1) fl_X3_9 hw1 (rf_eq0 hw1) dX3_take_14 rfl ?_
      refine X_iload_n (a := 2) dX3_take_17 rfl rfl rfl ?_
      refine X_iald (rf_ty0 hw1) (rf_ln0 hw1) dX3_take_18 rfl ?_
      refine X_iast (rf_ty0 hw0) (rf_ln0 hw0) dX3_take_19 rfl ?_
      refine X_aload_n (a := 0) dX3_take_20 rfl rfl rfl ?_
      refine X_getR (t := w0 + 2) fl_X3_15 hw0 (rf_eq1 hw0) dX3_take_21 rfl ?_
      refine X_iload_n (a := 2) dX3_take_24 rfl rfl rfl ?_
      refine X_aload_n (a := 1) dX3_take_25 rfl rfl rfl ?_
      refine X_getR (t := w1 + 2) fl_X3_15 hw1 (rf_eq1 hw1) dX3_take_26 rfl ?_
      refine X_iload_n (a := 2) dX3_take_29 rfl rfl rfl ?_
      refine X_iald (rf_ty1 hw1) (rf_ln1 hw1) dX3_take_30 rfl ?_
      refine X_iast (rf_ty1 hw0) (rf_ln1 hw0) dX3_take_31 rfl ?_
      refine X_iinc (a := 2) (lv2 := [(2, .int (v2 + 1)), (0, .ref (ga G w0)), (1, .ref (ga G w1))]) dX3_take_32 rfl (ii_1 _) (by decide) rfl rfl ?_
      refine X_goto (tgt := 2) dX3_take_35 rfl ?_
      exact X_lv [1, 2, 0] rfl (ih (si (si M (w0 + 1) (ui v2) (gi M (w1 + 1) (ui v2))) (w0 + 2) (ui v2) (gi (si M (w0 + 1) (ui v2) (gi M (w1 + 1) (ui v2))) (w1 + 2) (ui v2))) (v2 + 1))
set_option maxRecDepth 100000 in
theorem c_X3_take (G : Gm) (M : Mm) (w0 : Nat) (w1 : Nat) (hw0 : ly_ty w0 = 3) (hw1 : ly_ty w1 = 3) : Ct fV G miX3_take (0) [.ref (ga G w0), .ref (ga G w1)] M (F_X3_take M w0 w1) := by
  refine Ct_of (pn_X3) (Nat.le_of_ble_eq_true rfl) ?_
  refine X_lv [0, 1] (lv' := [(0, .ref (ga G w0)), (1, .ref (ga G w1))]) rfl ?_
  unfold F_X3_take
  refine X_iconst (w := 0) dX3_take_0 ki_0 rfl ?_
  refine X_istore_n (lv2 := [(2, .int 0), (0, .ref (ga G w0)), (1, .ref (ga G w1))]) dX3_take_1 rfl (by decide) rfl rfl ?_
  exact X_lv [1, 2, 0] rfl (x_X3_take_L2 G w0 w1 hw0 hw1 1000 M 0)
set_option maxRecDepth 100000 in
theorem c_X3_isStaked (G : Gm) (M : Mm) (w0 : Nat) (v1 : Int32) (hw0 : ly_ty w0 = 3) : Ct (fI M) G miX3_isStaked (0) [.ref (ga G w0), .int v1] M (F_X3_isStaked M w0 v1) := by
  refine Ct_of (pn_X3) (Nat.le_of_ble_eq_true rfl) ?_
  refine X_lv [0, 1] (lv' := [(0, .ref (ga G w0)), (1, .int v1)]) rfl ?_
  unfold F_X3_isStaked
  refine X_aload_n (a := 0) dX3_isStaked_0 rfl rfl rfl ?_
  refine X_getI fl_X3_18 hw0 dX3_isStaked_1 rfl ?_
  refine X_iload_n (a := 1) dX3_isStaked_4 rfl rfl rfl ?_
  refine X_ishr dX3_isStaked_5 rfl ?_
  refine X_iconst (w := 1) dX3_isStaked_6 ki_1 rfl ?_
  refine X_iand dX3_isStaked_7 rfl ?_
  refine X_iconst (w := 1) dX3_isStaked_8 ki_1 rfl ?_
  refine X_icmp_ne (tgt := 16) dX3_isStaked_9 rfl rfl (fun e9 => ?_) (fun e9 => ?_)
  · refine X_iconst (w := 0) dX3_isStaked_16 ki_0 rfl ?_
    exact X_zretI rfl dX3_isStaked_17
  · refine X_iconst (w := 1) dX3_isStaked_12 ki_1 rfl ?_
    refine X_goto (tgt := 17) dX3_isStaked_13 rfl ?_
    exact X_zretI rfl dX3_isStaked_17
set_option maxRecDepth 100000 in
theorem c_X3_putStaked (G : Gm) (M : Mm) (w0 : Nat) (v1 : Int32) (v2 : Int32) (hw0 : ly_ty w0 = 3) : Ct fJ G miX3_putStaked (0) [.ref (ga G w0), .int v1, .int v2] M (F_X3_putStaked M w0 v1 v2) := by
  refine Ct_of (pn_X3) (Nat.le_of_ble_eq_true rfl) ?_
  refine X_lv [0, 1, 2] (lv' := [(0, .ref (ga G w0)), (1, .int v1), (2, .int v2)]) rfl ?_
  unfold F_X3_putStaked
  refine X_aload_n (a := 0) dX3_putStaked_0 rfl rfl rfl ?_
  refine X_getI fl_X3_18 hw0 dX3_putStaked_1 rfl ?_
  refine X_iload_n (a := 1) dX3_putStaked_4 rfl rfl rfl ?_
  refine X_ishr dX3_putStaked_5 rfl ?_
  refine X_iconst (w := 1) dX3_putStaked_6 ki_1 rfl ?_
  refine X_iand dX3_putStaked_7 rfl ?_
  refine X_istore_n (lv2 := [(3, .int (((gi M w0 2) >>> (v1 &&& 31)) &&& 1)), (0, .ref (ga G w0)), (1, .int v1), (2, .int v2)]) dX3_putStaked_8 rfl (by decide) rfl rfl ?_
  refine X_aload_n (a := 1) dX3_putStaked_9 rfl rfl rfl ?_
  refine X_aload_n (a := 1) dX3_putStaked_10 rfl rfl rfl ?_
  refine X_getI fl_X3_18 hw0 dX3_putStaked_11 rfl ?_
  refine X_iconst (w := 1) dX3_putStaked_14 ki_1 rfl ?_
  refine X_iload_n (a := 2) dX3_putStaked_15 rfl rfl rfl ?_
  refine X_ishl dX3_putStaked_16 rfl ?_
  refine X_iconst (w := (-1)) dX3_putStaked_17 ki_m1 rfl ?_
  refine X_ixor dX3_putStaked_18 rfl ?_
  refine X_iand dX3_putStaked_19 rfl ?_
  refine X_iload_n (a := 3) dX3_putStaked_20 rfl rfl rfl ?_
  refine X_iload_n (a := 2) dX3_putStaked_21 rfl rfl rfl ?_
  refine X_ishl dX3_putStaked_22 rfl ?_
  refine X_ior dX3_putStaked_23 rfl ?_
  refine X_putI fp_X3_18 hw0 dX3_putStaked_24 rfl ?_
  refine X_iload_n (a := 0) dX3_putStaked_27 rfl rfl rfl ?_
  exact X_iretJ rfl dX3_putStaked_28
set_option maxRecDepth 100000 in
theorem c_X5_lengthOf (G : Gm) (M : Mm) (v1 : Int32) : Ct (fI M) G miX5_lengthOf (1) [.ref (ga G 75), .int v1] M (F_X5_lengthOf M v1) := by
  refine Ct_of (pn_X5) (Nat.le_of_ble_eq_true rfl) ?_
  refine X_lv [0, 1] (lv' := [(0, .ref (ga G 75)), (1, .int v1)]) rfl ?_
  unfold F_X5_lengthOf
  refine X_iconst (w := 0) dX5_lengthOf_0 ki_0 rfl ?_
  refine X_iload_n (a := 1) dX5_lengthOf_1 rfl rfl rfl ?_
  refine X_aload_n (a := 0) dX5_lengthOf_2 rfl rfl rfl ?_
  refine X_getR (t := 33) fl_X5_25 rfl rfl dX5_lengthOf_3 rfl ?_
  refine X_getI fl_X5_29 rfl dX5_lengthOf_6 rfl ?_
  refine X_aload_n (a := 0) dX5_lengthOf_9 rfl rfl rfl ?_
  refine X_getR (t := 33) fl_X5_25 rfl rfl dX5_lengthOf_10 rfl ?_
  refine X_getR (t := 39) fl_X5_35 rfl rfl dX5_lengthOf_13 rfl ?_
  refine X_getI fl_X5_39 rfl dX5_lengthOf_16 rfl ?_
  refine X_isub dX5_lengthOf_19 rfl ?_
  refine X_min mx_X5_42 (by decide) (Nat.le_of_ble_eq_true rfl) dX5_lengthOf_20 rfl ?_
  refine X_max mx_X5_48 (by decide) (Nat.le_of_ble_eq_true rfl) dX5_lengthOf_23 rfl ?_
  exact X_iretI rfl dX5_lengthOf_26
set_option maxRecDepth 100000 in
theorem c_X5_begin (G : Gm) (M : Mm) (v1 : Int32) : Ct fV G miX5_begin (2) [.ref (ga G 75), .int v1] M (F_X5_begin M v1) := by
  refine Ct_of (pn_X5) (Nat.le_of_ble_eq_true rfl) ?_
  refine X_lv [0, 1] (lv' := [(0, .ref (ga G 75)), (1, .int v1)]) rfl ?_
  unfold F_X5_begin
  refine X_aload_n (a := 0) dX5_begin_0 rfl rfl rfl ?_
  refine X_iconst (w := 4) dX5_begin_1 ki_4 rfl ?_
  refine X_aload_n (a := 0) dX5_begin_2 rfl rfl rfl ?_
  refine X_iload_n (a := 1) dX5_begin_3 rfl rfl rfl ?_
  refine X_ruI (Ru_V (st := [.int 4, .ref (ga G 75)]) cv_X5_51 rfl (c_X5_lengthOf G M v1) (by decide) rfl rfl (Nat.le_of_ble_eq_true rfl) dX5_begin_4) rfl (fun r4 => ?_)
  refine X_min mx_X5_42 (by decide) (Nat.le_of_ble_eq_true rfl) dX5_begin_7 rfl ?_
  refine X_putI fp_X5_55 rfl dX5_begin_10 rfl ?_
  refine X_aload_n (a := 0) dX5_begin_13 rfl rfl rfl ?_
  refine X_getR (t := 76) fl_X5_12 rfl rfl dX5_begin_14 rfl ?_
  refine X_iconst (w := 0) dX5_begin_17 ki_0 rfl ?_
  refine X_aald (t := 22) rfl (by decide) rfl dX5_begin_18 rfl (fun h18 => ?_)
  refine X_aload_n (a := 0) dX5_begin_19 rfl rfl rfl ?_
  refine X_getR (t := 33) fl_X5_25 rfl rfl dX5_begin_20 rfl ?_
  refine X_getR (t := 39) fl_X5_35 rfl rfl dX5_begin_23 rfl ?_
  refine X_ruV (Ru_V (st := []) cv_X5_58 (ty_floods h18) (c_X3_take G (si M 75 3 (mn 4 r4)) (ly_rf 76 (ui 0)) 39 (ty_floods h18) rfl) (by decide) rfl rfl (Nat.le_of_ble_eq_true rfl) dX5_begin_26) rfl (fun r26 => ?_)
  exact X_vret rfl dX5_begin_29
set_option maxRecDepth 100000 in
theorem c_X10_waterAt (G : Gm) (M : Mm) (v1 : Int32) : Ct (fI M) G miX10_waterAt (0) [.ref (ga G 33), .int v1] M (F_X10_waterAt M v1) := by
  refine Ct_of (pn_X10) (Nat.le_of_ble_eq_true rfl) ?_
  refine X_lv [0, 1] (lv' := [(0, .ref (ga G 33)), (1, .int v1)]) rfl ?_
  unfold F_X10_waterAt
  refine X_iload_n (a := 1) dX10_waterAt_0 rfl rfl rfl ?_
  refine X_if_lt (tgt := 19) dX10_waterAt_1 rfl rfl (fun e1 => ?_) (fun e1 => ?_)
  · refine X_iconst (w := 0) dX10_waterAt_19 ki_0 rfl ?_
    exact X_iretI rfl dX10_waterAt_20
  · refine X_iload_n (a := 1) dX10_waterAt_4 rfl rfl rfl ?_
    refine X_bipush (w := 16) dX10_waterAt_5 kb_16 rfl ?_
    refine X_icmp_ge (tgt := 19) dX10_waterAt_7 rfl rfl (fun e7 => ?_) (fun e7 => ?_)
    · refine X_iconst (w := 0) dX10_waterAt_19 ki_0 rfl ?_
      exact X_iretI rfl dX10_waterAt_20
    · refine X_aload_n (a := 0) dX10_waterAt_10 rfl rfl rfl ?_
      refine X_getR (t := 36) fl_X10_18 rfl rfl dX10_waterAt_11 rfl ?_
      refine X_iload_n (a := 1) dX10_waterAt_14 rfl rfl rfl ?_
      refine X_iald rfl rfl dX10_waterAt_15 rfl ?_
      refine X_goto (tgt := 20) dX10_waterAt_16 rfl ?_
      exact X_iretI rfl dX10_waterAt_20
set_option maxRecDepth 100000 in
theorem c_X10_saltAt (G : Gm) (M : Mm) (v1 : Int32) : Ct (fI M) G miX10_saltAt (1) [.ref (ga G 33), .int v1] M (F_X10_saltAt M v1) := by
  refine Ct_of (pn_X10) (Nat.le_of_ble_eq_true rfl) ?_
  refine X_lv [0, 1] (lv' := [(0, .ref (ga G 33)), (1, .int v1)]) rfl ?_
  unfold F_X10_saltAt
  refine X_aload_n (a := 0) dX10_saltAt_0 rfl rfl rfl ?_
  refine X_iload_n (a := 1) dX10_saltAt_1 rfl rfl rfl ?_
  refine X_ruI (Ru_V (st := []) cv_X10_99 rfl (c_X10_waterAt G M v1) (by decide) rfl rfl (Nat.le_of_ble_eq_true rfl) dX10_saltAt_2) rfl (fun r2 => ?_)
  refine X_iconst (w := 3) dX10_saltAt_5 ki_3 rfl ?_
  refine X_iand dX10_saltAt_6 rfl ?_
  exact X_iretI rfl dX10_saltAt_7
set_option maxRecDepth 100000 in
theorem c_X10_bung (G : Gm) (M : Mm) (w1 : Nat) (v2 : Int32) (hw1 : ly_ty w1 = 3) : Ct fJ G miX10_bung (2) [.ref (ga G 33), .ref (ga G w1), .int v2] M (F_X10_bung M w1 v2) := by
  refine Ct_of (pn_X10) (Nat.le_of_ble_eq_true rfl) ?_
  refine X_lv [0, 1, 2] (lv' := [(0, .ref (ga G 33)), (1, .ref (ga G w1)), (2, .int v2)]) rfl ?_
  unfold F_X10_bung
  refine X_aload_n (a := 1) dX10_bung_0 rfl rfl rfl ?_
  refine X_getR (t := w1 + 2) fl_X10_132 hw1 (rf_eq1 hw1) dX10_bung_1 rfl ?_
  refine X_iload_n (a := 2) dX10_bung_4 rfl rfl rfl ?_
  refine X_bipush (w := 9) dX10_bung_5 kb_9 rfl ?_
  refine X_aload_n (a := 1) dX10_bung_7 rfl rfl rfl ?_
  refine X_getR (t := w1 + 2) fl_X10_132 hw1 (rf_eq1 hw1) dX10_bung_8 rfl ?_
  refine X_iload_n (a := 2) dX10_bung_11 rfl rfl rfl ?_
  refine X_iald (rf_ty1 hw1) (rf_ln1 hw1) dX10_bung_12 rfl ?_
  refine X_iconst (w := 2) dX10_bung_13 ki_2 rfl ?_
  refine X_iadd dX10_bung_14 rfl ?_
  refine X_min mx_X10_84 (by decide) (Nat.le_of_ble_eq_true rfl) dX10_bung_15 rfl ?_
  refine X_iast (rf_ty1 hw1) (rf_ln1 hw1) dX10_bung_18 rfl ?_
  refine X_aload_n (a := 1) dX10_bung_19 rfl rfl rfl ?_
  refine X_getR (t := w1 + 1) fl_X10_103 hw1 (rf_eq0 hw1) dX10_bung_20 rfl ?_
  refine X_iload_n (a := 2) dX10_bung_23 rfl rfl rfl ?_
  refine X_bipush (w := 99) dX10_bung_24 kb_99 rfl ?_
  refine X_aload_n (a := 1) dX10_bung_26 rfl rfl rfl ?_
  refine X_getR (t := w1 + 1) fl_X10_103 hw1 (rf_eq0 hw1) dX10_bung_27 rfl ?_
  refine X_iload_n (a := 2) dX10_bung_30 rfl rfl rfl ?_
  refine X_iald (rf_ty0 hw1) (rf_ln0 hw1) dX10_bung_31 rfl ?_
  refine X_iconst (w := 3) dX10_bung_32 ki_3 rfl ?_
  refine X_iadd dX10_bung_33 rfl ?_
  refine X_min mx_X10_84 (by decide) (Nat.le_of_ble_eq_true rfl) dX10_bung_34 rfl ?_
  refine X_iast (rf_ty0 hw1) (rf_ln0 hw1) dX10_bung_37 rfl ?_
  refine X_aload_n (a := 0) dX10_bung_38 rfl rfl rfl ?_
  refine X_aload_n (a := 1) dX10_bung_39 rfl rfl rfl ?_
  refine X_getI fl_X10_96 hw1 dX10_bung_40 rfl ?_
  refine X_ruI (Ru_V (st := []) cv_X10_109 rfl (c_X10_saltAt G (si (si M (w1 + 2) (ui v2) (mn 9 ((gi M (w1 + 2) (ui v2)) + 2))) (w1 + 1) (ui v2) (mn 99 ((gi (si M (w1 + 2) (ui v2) (mn 9 ((gi M (w1 + 2) (ui v2)) + 2))) (w1 + 1) (ui v2)) + 3))) (gi (si (si M (w1 + 2) (ui v2) (mn 9 ((gi M (w1 + 2) (ui v2)) + 2))) (w1 + 1) (ui v2) (mn 99 ((gi (si M (w1 + 2) (ui v2) (mn 9 ((gi M (w1 + 2) (ui v2)) + 2))) (w1 + 1) (ui v2)) + 3))) w1 3)) (by decide) rfl rfl (Nat.le_of_ble_eq_true rfl) dX10_bung_43) rfl (fun r43 => ?_)
  refine X_if_ne (tgt := 53) dX10_bung_46 rfl rfl (fun e46 => ?_) (fun e46 => ?_)
  · refine X_iconst (w := 0) dX10_bung_53 ki_0 rfl ?_
    exact X_iretJ rfl dX10_bung_54
  · refine X_iconst (w := 1) dX10_bung_49 ki_1 rfl ?_
    refine X_goto (tgt := 54) dX10_bung_50 rfl ?_
    exact X_iretJ rfl dX10_bung_54
set_option maxRecDepth 100000 in
theorem c_X10_has (G : Gm) (M : Mm) (v1 : Int32) : Ct (fI M) G miX10_has (0) [.ref (ga G 33), .int v1] M (F_X10_has M v1) := by
  refine Ct_of (pn_X10) (Nat.le_of_ble_eq_true rfl) ?_
  refine X_lv [0, 1] (lv' := [(0, .ref (ga G 33)), (1, .int v1)]) rfl ?_
  unfold F_X10_has
  refine X_iload_n (a := 1) dX10_has_0 rfl rfl rfl ?_
  refine X_if_lt (tgt := 16) dX10_has_1 rfl rfl (fun e1 => ?_) (fun e1 => ?_)
  · refine X_iconst (w := 0) dX10_has_16 ki_0 rfl ?_
    exact X_zretI rfl dX10_has_17
  · refine X_iload_n (a := 1) dX10_has_4 rfl rfl rfl ?_
    refine X_aload_n (a := 0) dX10_has_5 rfl rfl rfl ?_
    refine X_getI fl_X10_75 rfl dX10_has_6 rfl ?_
    refine X_icmp_ge (tgt := 16) dX10_has_9 rfl rfl (fun e9 => ?_) (fun e9 => ?_)
    · refine X_iconst (w := 0) dX10_has_16 ki_0 rfl ?_
      exact X_zretI rfl dX10_has_17
    · refine X_iconst (w := 1) dX10_has_12 ki_1 rfl ?_
      refine X_goto (tgt := 17) dX10_has_13 rfl ?_
      exact X_zretI rfl dX10_has_17
set_option maxRecDepth 100000 in
theorem c_X10_riseAt (G : Gm) (M : Mm) (v1 : Int32) : Ct (fI M) G miX10_riseAt (1) [.ref (ga G 33), .int v1] M (F_X10_riseAt M v1) := by
  refine Ct_of (pn_X10) (Nat.le_of_ble_eq_true rfl) ?_
  refine X_lv [0, 1] (lv' := [(0, .ref (ga G 33)), (1, .int v1)]) rfl ?_
  unfold F_X10_riseAt
  refine X_aload_n (a := 0) dX10_riseAt_0 rfl rfl rfl ?_
  refine X_iload_n (a := 1) dX10_riseAt_1 rfl rfl rfl ?_
  refine X_ruI (Ru_V (st := []) cv_X10_99 rfl (c_X10_waterAt G M v1) (by decide) rfl rfl (Nat.le_of_ble_eq_true rfl) dX10_riseAt_2) rfl (fun r2 => ?_)
  refine X_iconst (w := 2) dX10_riseAt_5 ki_2 rfl ?_
  refine X_ishr dX10_riseAt_6 rfl ?_
  exact X_iretI rfl dX10_riseAt_7
set_option maxRecDepth 100000 in
theorem x_X10_stakedIn_L14 (G : Gm) (M : Mm) (w1 : Nat) (v2 : Int32) (hw1 : ly_ty w1 = 3) : ∀ (n : Nat) (v3 : Int32) (v4 : Int32), X (fI M) G miX10_stakedIn (1) 14 [(0, .ref (ga G 33)), (1, .ref (ga G w1)), (2, .int v2), (3, .int v3), (4, .int v4)] [] M (F_X10_stakedIn_L14 M w1 v2 n v3 v4) := by
  intro n
  induction n with
  | zero => intro v3 v4; exact X_none
  | succ n ih =>
    intro v3 v4
    rw [F_X10_stakedIn_L14]
    refine X_iload (a := 4) dX10_stakedIn_14 rfl rfl ?_
    refine X_aload_n (a := 0) dX10_stakedIn_16 rfl rfl rfl ?_
    refine X_getI fl_X10_75 rfl dX10_stakedIn_17 rfl ?_
    refine X_icmp_ge (tgt := 52) dX10_stakedIn_20 rfl rfl (fun e20 => ?_) (fun e20 => ?_)
    · refine X_iload_n (a := 3) dX10_stakedIn_52 rfl rfl rfl ?_
      exact X_iretI rfl dX10_stakedIn_53
    · refine X_aload_n (a := 0) dX10_stakedIn_23 rfl rfl rfl ?_
      refine X_getR (t := 35) fl_X10_15 rfl rfl dX10_stakedIn_24 rfl ?_
      refine X_iload (a := 4) dX10_stakedIn_27 rfl rfl ?_
      refine X_iald rfl rfl dX10_stakedIn_29 rfl ?_
      refine X_iload_n (a := 2) dX10_stakedIn_30 rfl rfl rfl ?_
      refine X_jc (P := fun j => ∀ (v3 : Int32), X (fI M) G miX10_stakedIn (1) 46 [(0, .ref (ga G 33)), (1, .ref (ga G w1)), (2, .int v2), (3, .int v3), (4, .int v4)] [] M (j v3)) (fun v3 => ?_) (fun j46 hj46 => ?_)
      · refine X_iinc (a := 4) (lv2 := [(4, .int (v4 + 1)), (0, .ref (ga G 33)), (1, .ref (ga G w1)), (2, .int v2), (3, .int v3)]) dX10_stakedIn_46 rfl (ii_1 _) (by decide) rfl rfl ?_
        refine X_goto (tgt := 14) dX10_stakedIn_49 rfl ?_
        exact X_lv [1, 2, 3, 4, 0] rfl (ih v3 (v4 + 1))
      refine X_icmp_ne (tgt := 46) dX10_stakedIn_31 rfl rfl (fun e31 => ?_) (fun e31 => ?_)
      · exact X_lv [0, 1, 2, 3, 4] rfl (hj46 v3)
      · refine X_aload_n (a := 1) dX10_stakedIn_34 rfl rfl rfl ?_
        refine X_iload (a := 4) dX10_stakedIn_35 rfl rfl ?_
        refine X_ruI (Ru_V (st := []) cv_X10_128 hw1 (c_X3_isStaked G M w1 v4 hw1) (by decide) rfl rfl (Nat.le_of_ble_eq_true rfl) dX10_stakedIn_37) rfl (fun r37 => ?_)
        refine X_if_eq (tgt := 46) dX10_stakedIn_40 rfl rfl (fun e40 => ?_) (fun e40 => ?_)
        · exact X_lv [0, 1, 2, 3, 4] rfl (hj46 v3)
        · refine X_iinc (a := 3) (lv2 := [(3, .int (v3 + 1)), (0, .ref (ga G 33)), (1, .ref (ga G w1)), (2, .int v2), (4, .int v4)]) dX10_stakedIn_43 rfl (ii_1 _) (by decide) rfl rfl ?_
          exact X_lv [1, 2, 3, 0, 4] rfl (hj46 (v3 + 1))
set_option maxRecDepth 100000 in
theorem c_X10_stakedIn (G : Gm) (M : Mm) (w1 : Nat) (v2 : Int32) (hw1 : ly_ty w1 = 3) : Ct (fI M) G miX10_stakedIn (1) [.ref (ga G 33), .ref (ga G w1), .int v2] M (F_X10_stakedIn M w1 v2) := by
  refine Ct_of (pn_X10) (Nat.le_of_ble_eq_true rfl) ?_
  refine X_lv [0, 1, 2] (lv' := [(0, .ref (ga G 33)), (1, .ref (ga G w1)), (2, .int v2)]) rfl ?_
  unfold F_X10_stakedIn
  refine X_aload_n (a := 1) dX10_stakedIn_0 rfl rfl rfl ?_
  refine X_getI fl_X10_125 hw1 dX10_stakedIn_1 rfl ?_
  refine X_if_ne (tgt := 9) dX10_stakedIn_4 rfl rfl (fun e4 => ?_) (fun e4 => ?_)
  · refine X_iconst (w := 0) dX10_stakedIn_9 ki_0 rfl ?_
    refine X_istore_n (lv2 := [(3, .int 0), (0, .ref (ga G 33)), (1, .ref (ga G w1)), (2, .int v2)]) dX10_stakedIn_10 rfl (by decide) rfl rfl ?_
    refine X_iconst (w := 0) dX10_stakedIn_11 ki_0 rfl ?_
    refine X_istore (lv2 := [(4, .int 0), (3, .int 0), (0, .ref (ga G 33)), (1, .ref (ga G w1)), (2, .int v2)]) dX10_stakedIn_12 (by decide) rfl rfl ?_
    exact X_lv [2, 3, 4, 1, 0] rfl (x_X10_stakedIn_L14 G M w1 v2 hw1 1000 0 0)
  · refine X_iconst (w := 0) dX10_stakedIn_7 ki_0 rfl ?_
    exact X_iretI rfl dX10_stakedIn_8
set_option maxRecDepth 100000 in
theorem c_X9_leak (G : Gm) (M : Mm) (w0 : Nat) (v1 : Int32) (v2 : Int32) (v3 : Int32) (hw0 : ly_ty w0 = 9) : Ct (fI M) G miX9_leak (0) [.ref (ga G w0), .int v1, .int v2, .int v3] M (F_X9_leak w0 v1 v2 v3) := by
  refine Ct_of (pn_X9) (Nat.le_of_ble_eq_true rfl) ?_
  refine X_lv [0, 1, 2, 3] (lv' := [(0, .ref (ga G w0)), (1, .int v1), (2, .int v2), (3, .int v3)]) rfl ?_
  unfold F_X9_leak
  refine X_iconst (w := 1) dX9_leak_0 ki_1 rfl ?_
  exact X_iretI rfl dX9_leak_1
set_option maxRecDepth 100000 in
theorem rv_X10_112 {G : Gm} {mi : Mi} {d pc : Nat} {lv : List (Nat × Value)} {st0 st : List Value} {M : Mm} {w : Nat} {a0 a1 a2 : Int32} (hc : mi.1.cls = RX10) (hw0 : ly_ty w = 0 ∨ ly_ty w = 9 ∨ ly_ty w = 8 ∨ ly_ty w = 1 ∨ ly_ty w = 4 ∨ ly_ty w = 2) (hdd : 3 ≤ d) (hst : st0 = ([.int a0, .int a1, .int a2] : List Value).reverse ++ .ref (ga G w) :: st) (hw : (st.map fun v => v.category).sum ≤ 8) (hd : decode mi.2.1 pc = .ok (.invokevirtual 112, 3)) : Ru (fI M) G mi d pc lv st0 st M (F_v_leak w a0 a1 a2) := by
  unfold F_v_leak
  rcases hw0 with h | h | h | h | h | h
  · rw [if_pos h]
    exact Ru_U (hc ▸ cu_X10_112_0) h (c_X0_leak G M w a0 a1 a2 (by omega)) (by omega) rfl hst hw hd
  · rw [if_neg (by omega), if_pos h]
    exact Ru_U (hc ▸ cu_X10_112_9) h (c_X9_leak G M w a0 a1 a2 (by omega)) (by omega) rfl hst hw hd
  · rw [if_neg (by omega), if_neg (by omega), if_pos h]
    exact Ru_U (hc ▸ cu_X10_112_8) h (c_X8_leak G M w a0 a1 a2 (by omega)) (by omega) rfl hst hw hd
  · rw [if_neg (by omega), if_neg (by omega), if_neg (by omega), if_pos h]
    exact Ru_U (hc ▸ cu_X10_112_1) h (c_X1_leak G M w a0 a1 a2 (by omega)) (by omega) rfl hst hw hd
  · rw [if_neg (by omega), if_neg (by omega), if_neg (by omega), if_neg (by omega), if_pos h]
    exact Ru_U (hc ▸ cu_X10_112_4) h (c_X4_leak G M w a0 a1 a2 (by omega)) (by omega) rfl hst hw hd
  · rw [if_neg (by omega), if_neg (by omega), if_neg (by omega), if_neg (by omega), if_neg (by omega), if_pos h]
    exact Ru_U (hc ▸ cu_X10_112_2) h (c_X2_leak G M w a0 a1 a2 (by omega)) (by omega) rfl hst hw hd
set_option maxRecDepth 100000 in
theorem c_X10_leaks (G : Gm) (M : Mm) (w1 : Nat) (v2 : Int32) (hw1 : ly_ty w1 = 3) : Ct (fI M) G miX10_leaks (3) [.ref (ga G 33), .ref (ga G w1), .int v2] M (F_X10_leaks M w1 v2) := by
  refine Ct_of (pn_X10) (Nat.le_of_ble_eq_true rfl) ?_
  refine X_lv [0, 1, 2] (lv' := [(0, .ref (ga G 33)), (1, .ref (ga G w1)), (2, .int v2)]) rfl ?_
  unfold F_X10_leaks
  refine X_aload_n (a := 0) dX10_leaks_0 rfl rfl rfl ?_
  refine X_getR (t := 26) fl_X10_60 rfl rfl dX10_leaks_1 rfl ?_
  refine X_aload_n (a := 0) dX10_leaks_4 rfl rfl rfl ?_
  refine X_getR (t := 34) fl_X10_9 rfl rfl dX10_leaks_5 rfl ?_
  refine X_iload_n (a := 2) dX10_leaks_8 rfl rfl rfl ?_
  refine X_iald rfl rfl dX10_leaks_9 rfl ?_
  refine X_aald (t := 23) rfl (by decide) rfl dX10_leaks_10 rfl (fun h10 => ?_)
  refine X_aload_n (a := 0) dX10_leaks_11 rfl rfl rfl ?_
  refine X_aload_n (a := 1) dX10_leaks_12 rfl rfl rfl ?_
  refine X_getI fl_X10_96 hw1 dX10_leaks_13 rfl ?_
  refine X_ruI (Ru_V (st := [.ref (ga G (ly_rf 26 (ui (gi M 34 (ui v2)))))]) cv_X10_106 rfl (c_X10_riseAt G M (gi M w1 3)) (by decide) rfl rfl (Nat.le_of_ble_eq_true rfl) dX10_leaks_16) rfl (fun r16 => ?_)
  refine X_aload_n (a := 0) dX10_leaks_19 rfl rfl rfl ?_
  refine X_aload_n (a := 1) dX10_leaks_20 rfl rfl rfl ?_
  refine X_getI fl_X10_96 hw1 dX10_leaks_21 rfl ?_
  refine X_ruI (Ru_V (st := [.int r16, .ref (ga G (ly_rf 26 (ui (gi M 34 (ui v2)))))]) cv_X10_109 rfl (c_X10_saltAt G M (gi M w1 3)) (by decide) rfl rfl (Nat.le_of_ble_eq_true rfl) dX10_leaks_24) rfl (fun r24 => ?_)
  refine X_aload_n (a := 1) dX10_leaks_27 rfl rfl rfl ?_
  refine X_getI fl_X10_96 hw1 dX10_leaks_28 rfl ?_
  refine X_ruI (rv_X10_112 rfl (ty_nat h10) (by decide) rfl (Nat.le_of_ble_eq_true rfl) dX10_leaks_31) rfl (fun r31 => ?_)
  refine X_istore_n (lv2 := [(3, .int r31), (0, .ref (ga G 33)), (1, .ref (ga G w1)), (2, .int v2)]) dX10_leaks_34 rfl (by decide) rfl rfl ?_
  refine X_iconst (w := 0) dX10_leaks_35 ki_0 rfl ?_
  refine X_iload_n (a := 0) dX10_leaks_36 rfl rfl rfl ?_
  refine X_aload_n (a := 1) dX10_leaks_37 rfl rfl rfl ?_
  refine X_getR (t := 38) fl_X10_24 rfl rfl dX10_leaks_38 rfl ?_
  refine X_aload_n (a := 1) dX10_leaks_41 rfl rfl rfl ?_
  refine X_getR (t := 35) fl_X10_15 rfl rfl dX10_leaks_42 rfl ?_
  refine X_iload_n (a := 3) dX10_leaks_45 rfl rfl rfl ?_
  refine X_iald rfl rfl dX10_leaks_46 rfl ?_
  refine X_iald rfl rfl dX10_leaks_47 rfl ?_
  refine X_iadd dX10_leaks_48 rfl ?_
  refine X_iconst (w := 2) dX10_leaks_49 ki_2 rfl ?_
  refine X_aload_n (a := 1) dX10_leaks_50 rfl rfl rfl ?_
  refine X_aload_n (a := 2) dX10_leaks_51 rfl rfl rfl ?_
  refine X_aload_n (a := 1) dX10_leaks_52 rfl rfl rfl ?_
  refine X_getR (t := 35) fl_X10_15 rfl rfl dX10_leaks_53 rfl ?_
  refine X_iload_n (a := 3) dX10_leaks_56 rfl rfl rfl ?_
  refine X_iald rfl rfl dX10_leaks_57 rfl ?_
  refine X_iconst (w := 1) dX10_leaks_58 ki_1 rfl ?_
  refine X_isub dX10_leaks_59 rfl ?_
  refine X_ruI (Ru_V (st := [.int 2, .int (r31 + (gi M 38 (ui (gi M 35 (ui v2))))), .int 0]) cv_X10_118 rfl (c_X10_stakedIn G M w1 ((gi M 35 (ui v2)) - 1) hw1) (by decide) rfl rfl (Nat.le_of_ble_eq_true rfl) dX10_leaks_60) rfl (fun r60 => ?_)
  refine X_imul dX10_leaks_63 rfl ?_
  refine X_isub dX10_leaks_64 rfl ?_
  refine X_max mx_X10_122 (by decide) (Nat.le_of_ble_eq_true rfl) dX10_leaks_65 rfl ?_
  exact X_iretI rfl dX10_leaks_68
set_option maxRecDepth 100000 in
theorem c_X9_lift (G : Gm) (M : Mm) (w0 : Nat) (v1 : Int32) (v2 : Int32) (v3 : Int32) (hw0 : ly_ty w0 = 9) : Ct (fI M) G miX9_lift (0) [.ref (ga G w0), .int v1, .int v2, .int v3] M (F_X9_lift w0 v1 v2 v3) := by
  refine Ct_of (pn_X9) (Nat.le_of_ble_eq_true rfl) ?_
  refine X_lv [0, 1, 2, 3] (lv' := [(0, .ref (ga G w0)), (1, .int v1), (2, .int v2), (3, .int v3)]) rfl ?_
  unfold F_X9_lift
  refine X_iconst (w := 0) dX9_lift_0 ki_0 rfl ?_
  exact X_iretI rfl dX9_lift_1
set_option maxRecDepth 100000 in
theorem rv_X10_135 {G : Gm} {mi : Mi} {d pc : Nat} {lv : List (Nat × Value)} {st0 st : List Value} {M : Mm} {w : Nat} {a0 a1 a2 : Int32} (hc : mi.1.cls = RX10) (hw0 : ly_ty w = 0 ∨ ly_ty w = 9 ∨ ly_ty w = 8 ∨ ly_ty w = 1 ∨ ly_ty w = 4 ∨ ly_ty w = 2) (hdd : 3 ≤ d) (hst : st0 = ([.int a0, .int a1, .int a2] : List Value).reverse ++ .ref (ga G w) :: st) (hw : (st.map fun v => v.category).sum ≤ 8) (hd : decode mi.2.1 pc = .ok (.invokevirtual 135, 3)) : Ru (fI M) G mi d pc lv st0 st M (F_v_lift w a0 a1 a2) := by
  unfold F_v_lift
  rcases hw0 with h | h | h | h | h | h
  · rw [if_pos h]
    exact Ru_U (hc ▸ cu_X10_135_0) h (c_X0_lift G M w a0 a1 a2 (by omega)) (by omega) rfl hst hw hd
  · rw [if_neg (by omega), if_pos h]
    exact Ru_U (hc ▸ cu_X10_135_9) h (c_X9_lift G M w a0 a1 a2 (by omega)) (by omega) rfl hst hw hd
  · rw [if_neg (by omega), if_neg (by omega), if_pos h]
    exact Ru_U (hc ▸ cu_X10_135_8) h (c_X8_lift G M w a0 a1 a2 (by omega)) (by omega) rfl hst hw hd
  · rw [if_neg (by omega), if_neg (by omega), if_neg (by omega), if_pos h]
    exact Ru_U (hc ▸ cu_X10_135_1) h (c_X1_lift G M w a0 a1 a2 (by omega)) (by omega) rfl hst hw hd
  · rw [if_neg (by omega), if_neg (by omega), if_neg (by omega), if_neg (by omega), if_pos h]
    exact Ru_U (hc ▸ cu_X10_135_4) h (c_X4_lift G M w a0 a1 a2 (by omega)) (by omega) rfl hst hw hd
  · rw [if_neg (by omega), if_neg (by omega), if_neg (by omega), if_neg (by omega), if_neg (by omega), if_pos h]
    exact Ru_U (hc ▸ cu_X10_135_2) h (c_X2_lift G M w a0 a1 a2 (by omega)) (by omega) rfl hst hw hd
set_option maxRecDepth 100000 in
theorem c_X10_pays (G : Gm) (M : Mm) (w1 : Nat) (v2 : Int32) (hw1 : ly_ty w1 = 3) : Ct (fI M) G miX10_pays (3) [.ref (ga G 33), .ref (ga G w1), .int v2] M (F_X10_pays M w1 v2) := by
  refine Ct_of (pn_X10) (Nat.le_of_ble_eq_true rfl) ?_
  refine X_lv [0, 1, 2] (lv' := [(0, .ref (ga G 33)), (1, .ref (ga G w1)), (2, .int v2)]) rfl ?_
  unfold F_X10_pays
  refine X_aload_n (a := 1) dX10_pays_0 rfl rfl rfl ?_
  refine X_getR (t := w1 + 1) fl_X10_103 hw1 (rf_eq0 hw1) dX10_pays_1 rfl ?_
  refine X_iload_n (a := 2) dX10_pays_4 rfl rfl rfl ?_
  refine X_iald (rf_ty0 hw1) (rf_ln0 hw1) dX10_pays_5 rfl ?_
  refine X_istore_n (lv2 := [(3, .int (gi M (w1 + 1) (ui v2))), (0, .ref (ga G 33)), (1, .ref (ga G w1)), (2, .int v2)]) dX10_pays_6 rfl (by decide) rfl rfl ?_
  refine X_aload_n (a := 2) dX10_pays_7 rfl rfl rfl ?_
  refine X_iload_n (a := 3) dX10_pays_8 rfl rfl rfl ?_
  refine X_ruI (Ru_V (st := []) cv_X10_128 hw1 (c_X3_isStaked G M w1 v2 hw1) (by decide) rfl rfl (Nat.le_of_ble_eq_true rfl) dX10_pays_9) rfl (fun r9 => ?_)
  refine X_if_ne (tgt := 19) dX10_pays_12 rfl rfl (fun e12 => ?_) (fun e12 => ?_)
  · refine X_iconst (w := 0) dX10_pays_19 ki_0 rfl ?_
    exact X_iretI rfl dX10_pays_20
  · refine X_iload_n (a := 0) dX10_pays_15 rfl rfl rfl ?_
    refine X_if_ne (tgt := 21) dX10_pays_16 rfl rfl (fun e16 => ?_) (fun e16 => ?_)
    · refine X_aload_n (a := 1) dX10_pays_21 rfl rfl rfl ?_
      refine X_getR (t := 26) fl_X10_60 rfl rfl dX10_pays_22 rfl ?_
      refine X_aload_n (a := 1) dX10_pays_25 rfl rfl rfl ?_
      refine X_getR (t := 34) fl_X10_9 rfl rfl dX10_pays_26 rfl ?_
      refine X_iload_n (a := 3) dX10_pays_29 rfl rfl rfl ?_
      refine X_iald rfl rfl dX10_pays_30 rfl ?_
      refine X_aald (t := 23) rfl (by decide) rfl dX10_pays_31 rfl (fun h31 => ?_)
      refine X_iload_n (a := 0) dX10_pays_32 rfl rfl rfl ?_
      refine X_aload_n (a := 2) dX10_pays_33 rfl rfl rfl ?_
      refine X_getR (t := w1 + 2) fl_X10_132 hw1 (rf_eq1 hw1) dX10_pays_34 rfl ?_
      refine X_iload_n (a := 3) dX10_pays_37 rfl rfl rfl ?_
      refine X_iald (rf_ty1 hw1) (rf_ln1 hw1) dX10_pays_38 rfl ?_
      refine X_iload_n (a := 3) dX10_pays_39 rfl rfl rfl ?_
      refine X_ruI (rv_X10_135 rfl (ty_nat h31) (by decide) rfl (Nat.le_of_ble_eq_true rfl) dX10_pays_40) rfl (fun r40 => ?_)
      refine X_istore (lv2 := [(4, .int r40), (3, .int (gi M (w1 + 1) (ui v2))), (0, .ref (ga G 33)), (1, .ref (ga G w1)), (2, .int v2)]) dX10_pays_43 (by decide) rfl rfl ?_
      refine X_iload (a := 0) dX10_pays_45 rfl rfl ?_
      refine X_aload_n (a := 2) dX10_pays_47 rfl rfl rfl ?_
      refine X_aload_n (a := 3) dX10_pays_48 rfl rfl rfl ?_
      refine X_getI fl_X10_96 hw1 dX10_pays_49 rfl ?_
      refine X_ruI (Ru_V (st := [.int r40]) cv_X10_106 rfl (c_X10_riseAt G M (gi M w1 3)) (by decide) rfl rfl (Nat.le_of_ble_eq_true rfl) dX10_pays_52) rfl (fun r52 => ?_)
      refine X_iadd dX10_pays_55 rfl ?_
      refine X_iconst (w := 4) dX10_pays_56 ki_4 rfl ?_
      refine X_aload_n (a := 2) dX10_pays_57 rfl rfl rfl ?_
      refine X_getR (t := 37) fl_X10_21 rfl rfl dX10_pays_58 rfl ?_
      refine X_aload_n (a := 2) dX10_pays_61 rfl rfl rfl ?_
      refine X_getR (t := 35) fl_X10_15 rfl rfl dX10_pays_62 rfl ?_
      refine X_iload_n (a := 4) dX10_pays_65 rfl rfl rfl ?_
      refine X_iald rfl rfl dX10_pays_66 rfl ?_
      refine X_iald rfl rfl dX10_pays_67 rfl ?_
      refine X_iadd dX10_pays_68 rfl ?_
      refine X_icmp_gt (tgt := 81) dX10_pays_69 rfl rfl (fun e69 => ?_) (fun e69 => ?_)
      · refine X_iconst (w := 0) dX10_pays_81 ki_0 rfl ?_
        exact X_iretI rfl dX10_pays_82
      · refine X_iconst (w := 3) dX10_pays_72 ki_3 rfl ?_
        refine X_iload_n (a := 1) dX10_pays_73 rfl rfl rfl ?_
        refine X_bipush (w := 9) dX10_pays_74 kb_9 rfl ?_
        refine X_idiv dX10_pays_76 (by decide) rfl ?_
        refine X_iadd dX10_pays_77 rfl ?_
        refine X_goto (tgt := 82) dX10_pays_78 rfl ?_
        exact X_iretI rfl dX10_pays_82
    · refine X_iconst (w := 0) dX10_pays_19 ki_0 rfl ?_
      exact X_iretI rfl dX10_pays_20
set_option maxRecDepth 100000 in
theorem c_X6_compares (G : Gm) (M : Mm) (v1 : Int32) : Ct (fI M) G miX6_compares (0) [.ref (ga G 42), .int v1] M (F_X6_compares M v1) := by
  refine Ct_of (pn_X6) (Nat.le_of_ble_eq_true rfl) ?_
  refine X_lv [0, 1] (lv' := [(0, .ref (ga G 42)), (1, .int v1)]) rfl ?_
  unfold F_X6_compares
  refine X_iload_n (a := 1) dX6_compares_0 rfl rfl rfl ?_
  refine X_bipush (w := 14) dX6_compares_1 kb_14 rfl ?_
  refine X_ishr dX6_compares_3 rfl ?_
  refine X_sipush (w := 16383) dX6_compares_4 ks_16383 rfl ?_
  refine X_iand dX6_compares_7 rfl ?_
  refine X_istore_n (lv2 := [(2, .int ((v1 >>> (14 &&& 31)) &&& 16383)), (0, .ref (ga G 42)), (1, .int v1)]) dX6_compares_8 rfl (by decide) rfl rfl ?_
  refine X_iload_n (a := 2) dX6_compares_9 rfl rfl rfl ?_
  refine X_sipush (w := 16383) dX6_compares_10 ks_16383 rfl ?_
  refine X_iand dX6_compares_13 rfl ?_
  refine X_istore_n (lv2 := [(3, .int (v1 &&& 16383)), (2, .int ((v1 >>> (14 &&& 31)) &&& 16383)), (0, .ref (ga G 42)), (1, .int v1)]) dX6_compares_14 rfl (by decide) rfl rfl ?_
  refine X_iload_n (a := 1) dX6_compares_15 rfl rfl rfl ?_
  refine X_sipush (w := 10000) dX6_compares_16 ks_10000 rfl ?_
  refine X_jc (P := fun j => ∀ (v2 : Int32), X (fI M) G miX6_compares (0) 33 [(0, .ref (ga G 42)), (1, .int v1), (2, .int v2), (3, .int (v1 &&& 16383))] [] M (j v2)) (fun v2 => ?_) (fun j33 hj33 => ?_)
  · refine X_iload_n (a := 3) dX6_compares_33 rfl rfl rfl ?_
    refine X_sipush (w := 10000) dX6_compares_34 ks_10000 rfl ?_
    refine X_jc (P := fun j => ∀ (v3 : Int32), X (fI M) G miX6_compares (0) 51 [(1, .int v1), (2, .int v2), (3, .int v3)] [] M (j v3)) (fun v3 => ?_) (fun j51 hj51 => ?_)
    · refine X_iload_n (a := 0) dX6_compares_51 rfl rfl rfl ?_
      refine X_bipush (w := 28) dX6_compares_52 kb_28 rfl ?_
      refine X_ishr dX6_compares_54 rfl ?_
      refine X_istore (lv2 := [(4, .int (v1 >>> (28 &&& 31))), (1, .int v1), (2, .int v2), (3, .int v3)]) dX6_compares_55 (by decide) rfl rfl ?_
      refine X_iload (a := 0) dX6_compares_57 rfl rfl ?_
      refine X_if_ne (tgt := 73) dX6_compares_59 rfl rfl (fun e59 => ?_) (fun e59 => ?_)
      · refine X_iload (a := 0) dX6_compares_73 rfl rfl ?_
        refine X_iconst (w := 1) dX6_compares_75 ki_1 rfl ?_
        refine X_icmp_ne (tgt := 92) dX6_compares_76 rfl rfl (fun e76 => ?_) (fun e76 => ?_)
        · refine X_iload_n (a := 2) dX6_compares_92 rfl rfl rfl ?_
          refine X_iload_n (a := 3) dX6_compares_93 rfl rfl rfl ?_
          refine X_icmp_le (tgt := 101) dX6_compares_94 rfl rfl (fun e94 => ?_) (fun e94 => ?_)
          · refine X_iconst (w := 0) dX6_compares_101 ki_0 rfl ?_
            exact X_zretI rfl dX6_compares_102
          · refine X_iconst (w := 1) dX6_compares_97 ki_1 rfl ?_
            refine X_goto (tgt := 102) dX6_compares_98 rfl ?_
            exact X_zretI rfl dX6_compares_102
        · refine X_iload_n (a := 2) dX6_compares_79 rfl rfl rfl ?_
          refine X_iload_n (a := 3) dX6_compares_80 rfl rfl rfl ?_
          refine X_icmp_ne (tgt := 88) dX6_compares_81 rfl rfl (fun e81 => ?_) (fun e81 => ?_)
          · refine X_iconst (w := 0) dX6_compares_88 ki_0 rfl ?_
            refine X_goto (tgt := 102) dX6_compares_89 rfl ?_
            exact X_zretI rfl dX6_compares_102
          · refine X_iconst (w := 1) dX6_compares_84 ki_1 rfl ?_
            refine X_goto (tgt := 102) dX6_compares_85 rfl ?_
            exact X_zretI rfl dX6_compares_102
      · refine X_iload_n (a := 2) dX6_compares_62 rfl rfl rfl ?_
        refine X_iload_n (a := 3) dX6_compares_63 rfl rfl rfl ?_
        refine X_icmp_ge (tgt := 71) dX6_compares_64 rfl rfl (fun e64 => ?_) (fun e64 => ?_)
        · refine X_iconst (w := 0) dX6_compares_71 ki_0 rfl ?_
          exact X_zretI rfl dX6_compares_72
        · refine X_iconst (w := 1) dX6_compares_67 ki_1 rfl ?_
          refine X_goto (tgt := 72) dX6_compares_68 rfl ?_
          exact X_zretI rfl dX6_compares_72
    refine X_icmp_lt (tgt := 51) dX6_compares_37 rfl rfl (fun e37 => ?_) (fun e37 => ?_)
    · exact X_lv [1, 2, 3] rfl (hj51 (v1 &&& 16383))
    · refine X_aload_n (a := 0) dX6_compares_40 rfl rfl rfl ?_
      refine X_getR (t := 47) fl_X6_24 rfl rfl dX6_compares_41 rfl ?_
      refine X_iload_n (a := 3) dX6_compares_44 rfl rfl rfl ?_
      refine X_sipush (w := 10000) dX6_compares_45 ks_10000 rfl ?_
      refine X_isub dX6_compares_48 rfl ?_
      refine X_iald rfl rfl dX6_compares_49 rfl ?_
      refine X_istore_n (lv2 := [(3, .int (gi M 47 (ui ((v1 &&& 16383) - 10000)))), (0, .ref (ga G 42)), (1, .int v1), (2, .int v2)]) dX6_compares_50 rfl (by decide) rfl rfl ?_
      exact X_lv [2, 3, 0] rfl (hj51 (gi M 47 (ui ((v1 &&& 16383) - 10000))))
  refine X_icmp_lt (tgt := 33) dX6_compares_19 rfl rfl (fun e19 => ?_) (fun e19 => ?_)
  · exact X_lv [2, 3, 1, 0] rfl (hj33 ((v1 >>> (14 &&& 31)) &&& 16383))
  · refine X_aload_n (a := 2) dX6_compares_22 rfl rfl rfl ?_
    refine X_getR (t := 47) fl_X6_24 rfl rfl dX6_compares_23 rfl ?_
    refine X_iload_n (a := 1) dX6_compares_26 rfl rfl rfl ?_
    refine X_sipush (w := 10000) dX6_compares_27 ks_10000 rfl ?_
    refine X_isub dX6_compares_30 rfl ?_
    refine X_iald rfl rfl dX6_compares_31 rfl ?_
    refine X_istore_n (lv2 := [(2, .int (gi M 47 (ui (((v1 >>> (14 &&& 31)) &&& 16383) - 10000)))), (3, .int (v1 &&& 16383)), (0, .ref (ga G 42)), (1, .int v1)]) dX6_compares_32 rfl (by decide) rfl rfl ?_
    exact X_lv [2, 3, 0, 1] rfl (hj33 (gi M 47 (ui (((v1 >>> (14 &&& 31)) &&& 16383) - 10000))))
set_option maxRecDepth 100000 in
theorem x_X6_holds_L9 (G : Gm) (M : Mm) (v1 : Int32) : ∀ (n : Nat) (v2 : Int32) (v3 : Int32), X (fI M) G miX6_holds (1) 9 [(0, .ref (ga G 42)), (1, .int v1), (2, .int v2), (3, .int v3)] [] M (F_X6_holds_L9 M v1 n v2 v3) := by
  intro n
  induction n with
  | zero => intro v2 v3; exact X_none
  | succ n ih =>
    intro v2 v3
    rw [F_X6_holds_L9]
    refine X_iload_n (a := 3) dX6_holds_9 rfl rfl rfl ?_
    refine X_aload_n (a := 0) dX6_holds_10 rfl rfl rfl ?_
    refine X_getR (t := 45) fl_X6_18 rfl rfl dX6_holds_11 rfl ?_
    refine X_iload_n (a := 1) dX6_holds_14 rfl rfl rfl ?_
    refine X_iconst (w := 1) dX6_holds_15 ki_1 rfl ?_
    refine X_iadd dX6_holds_16 rfl ?_
    refine X_iald rfl rfl dX6_holds_17 rfl ?_
    refine X_icmp_ge (tgt := 104) dX6_holds_18 rfl rfl (fun e18 => ?_) (fun e18 => ?_)
    · refine X_iload_n (a := 2) dX6_holds_104 rfl rfl rfl ?_
      refine X_iconst (w := 1) dX6_holds_105 ki_1 rfl ?_
      refine X_iand dX6_holds_106 rfl ?_
      refine X_iconst (w := 1) dX6_holds_107 ki_1 rfl ?_
      refine X_icmp_ne (tgt := 115) dX6_holds_108 rfl rfl (fun e108 => ?_) (fun e108 => ?_)
      · refine X_iconst (w := 0) dX6_holds_115 ki_0 rfl ?_
        exact X_zretI rfl dX6_holds_116
      · refine X_iconst (w := 1) dX6_holds_111 ki_1 rfl ?_
        refine X_goto (tgt := 116) dX6_holds_112 rfl ?_
        exact X_zretI rfl dX6_holds_116
    · refine X_aload_n (a := 0) dX6_holds_21 rfl rfl rfl ?_
      refine X_getR (t := 46) fl_X6_21 rfl rfl dX6_holds_22 rfl ?_
      refine X_iload_n (a := 3) dX6_holds_25 rfl rfl rfl ?_
      refine X_iald rfl rfl dX6_holds_26 rfl ?_
      refine X_istore (lv2 := [(4, .int (gi M 46 (ui v3))), (0, .ref (ga G 42)), (1, .int v1), (2, .int v2), (3, .int v3)]) dX6_holds_27 (by decide) rfl rfl ?_
      refine X_iload (a := 0) dX6_holds_29 rfl rfl ?_
      refine X_iconst (w := (-1)) dX6_holds_31 ki_m1 rfl ?_
      refine X_jc (P := fun j => ∀ (v2 : Int32), X (fI M) G miX6_holds (1) 98 [(0, .ref (ga G 42)), (1, .int v1), (2, .int v2), (3, .int v3)] [] M (j v2)) (fun v2 => ?_) (fun j98 hj98 => ?_)
      · refine X_iinc (a := 3) (lv2 := [(3, .int (v3 + 1)), (0, .ref (ga G 42)), (1, .int v1), (2, .int v2)]) dX6_holds_98 rfl (ii_1 _) (by decide) rfl rfl ?_
        refine X_goto (tgt := 9) dX6_holds_101 rfl ?_
        exact X_lv [1, 2, 3, 0] rfl (ih v2 (v3 + 1))
      refine X_icmp_ne (tgt := 42) dX6_holds_32 rfl rfl (fun e32 => ?_) (fun e32 => ?_)
      · refine X_iload (a := 0) dX6_holds_42 rfl rfl ?_
        refine X_bipush (w := (-2)) dX6_holds_44 kb_m2 rfl ?_
        refine X_icmp_ne (tgt := 61) dX6_holds_46 rfl rfl (fun e46 => ?_) (fun e46 => ?_)
        · refine X_iload (a := 0) dX6_holds_61 rfl rfl ?_
          refine X_bipush (w := (-3)) dX6_holds_63 kb_m3 rfl ?_
          refine X_icmp_ne (tgt := 79) dX6_holds_65 rfl rfl (fun e65 => ?_) (fun e65 => ?_)
          · refine X_iload_n (a := 3) dX6_holds_79 rfl rfl rfl ?_
            refine X_iconst (w := 1) dX6_holds_80 ki_1 rfl ?_
            refine X_ishl dX6_holds_81 rfl ?_
            refine X_aload_n (a := 1) dX6_holds_82 rfl rfl rfl ?_
            refine X_iload (a := 0) dX6_holds_83 rfl rfl ?_
            refine X_ruI (Ru_V (st := [.int (v2 <<< (1 &&& 31))]) cv_X6_67 rfl (c_X6_compares G M (gi M 46 (ui v3))) (by decide) rfl rfl (Nat.le_of_ble_eq_true rfl) dX6_holds_85) rfl (fun r85 => ?_)
            refine X_jc (P := fun j => ∀ (x96_0 : Int32), X (fI M) G miX6_holds (1) 96 [(0, .ref (ga G 42)), (1, .int v1), (3, .int v3)] [.int x96_0, .int (v2 <<< (1 &&& 31))] M (j x96_0)) (fun x96_0 => ?_) (fun j96 hj96 => ?_)
            · refine X_ior dX6_holds_96 rfl ?_
              refine X_istore_n (lv2 := [(2, .int ((v2 <<< (1 &&& 31)) ||| x96_0)), (0, .ref (ga G 42)), (1, .int v1), (3, .int v3)]) dX6_holds_97 rfl (by decide) rfl rfl ?_
              exact X_lv [1, 2, 0, 3] rfl (hj98 ((v2 <<< (1 &&& 31)) ||| x96_0))
            refine X_if_eq (tgt := 95) dX6_holds_88 rfl rfl (fun e88 => ?_) (fun e88 => ?_)
            · refine X_iconst (w := 0) dX6_holds_95 ki_0 rfl ?_
              exact X_lv [1, 2, 4] rfl (hj96 0)
            · refine X_iconst (w := 1) dX6_holds_91 ki_1 rfl ?_
              refine X_goto (tgt := 96) dX6_holds_92 rfl ?_
              exact X_lv [1, 2, 4] rfl (hj96 1)
          · refine X_iload_n (a := 3) dX6_holds_68 rfl rfl rfl ?_
            refine X_iconst (w := 1) dX6_holds_69 ki_1 rfl ?_
            refine X_ishr dX6_holds_70 rfl ?_
            refine X_iload_n (a := 3) dX6_holds_71 rfl rfl rfl ?_
            refine X_iconst (w := 1) dX6_holds_72 ki_1 rfl ?_
            refine X_iand dX6_holds_73 rfl ?_
            refine X_ior dX6_holds_74 rfl ?_
            refine X_istore_n (lv2 := [(2, .int ((v2 >>> (1 &&& 31)) ||| (v2 &&& 1))), (4, .int (gi M 46 (ui v3))), (0, .ref (ga G 42)), (1, .int v1), (3, .int v3)]) dX6_holds_75 rfl (by decide) rfl rfl ?_
            refine X_goto (tgt := 98) dX6_holds_76 rfl ?_
            exact X_lv [2, 3, 0, 4] rfl (hj98 ((v2 >>> (1 &&& 31)) ||| (v2 &&& 1)))
        · refine X_iload_n (a := 3) dX6_holds_49 rfl rfl rfl ?_
          refine X_iconst (w := 1) dX6_holds_50 ki_1 rfl ?_
          refine X_ishr dX6_holds_51 rfl ?_
          refine X_iload_n (a := 3) dX6_holds_52 rfl rfl rfl ?_
          refine X_bipush (w := (-2)) dX6_holds_53 kb_m2 rfl ?_
          refine X_ior dX6_holds_55 rfl ?_
          refine X_iand dX6_holds_56 rfl ?_
          refine X_istore_n (lv2 := [(2, .int ((v2 >>> (1 &&& 31)) &&& (v2 ||| (-2)))), (4, .int (gi M 46 (ui v3))), (0, .ref (ga G 42)), (1, .int v1), (3, .int v3)]) dX6_holds_57 rfl (by decide) rfl rfl ?_
          refine X_goto (tgt := 98) dX6_holds_58 rfl ?_
          exact X_lv [2, 3, 0, 4] rfl (hj98 ((v2 >>> (1 &&& 31)) &&& (v2 ||| (-2))))
      · refine X_iload_n (a := 3) dX6_holds_35 rfl rfl rfl ?_
        refine X_iconst (w := 1) dX6_holds_36 ki_1 rfl ?_
        refine X_ixor dX6_holds_37 rfl ?_
        refine X_istore_n (lv2 := [(2, .int (v2 ^^^ 1)), (4, .int (gi M 46 (ui v3))), (0, .ref (ga G 42)), (1, .int v1), (3, .int v3)]) dX6_holds_38 rfl (by decide) rfl rfl ?_
        refine X_goto (tgt := 98) dX6_holds_39 rfl ?_
        exact X_lv [2, 3, 0, 4] rfl (hj98 (v2 ^^^ 1))
set_option maxRecDepth 100000 in
theorem c_X6_holds (G : Gm) (M : Mm) (v1 : Int32) : Ct (fI M) G miX6_holds (1) [.ref (ga G 42), .int v1] M (F_X6_holds M v1) := by
  refine Ct_of (pn_X6) (Nat.le_of_ble_eq_true rfl) ?_
  refine X_lv [0, 1] (lv' := [(0, .ref (ga G 42)), (1, .int v1)]) rfl ?_
  unfold F_X6_holds
  refine X_iconst (w := 1) dX6_holds_0 ki_1 rfl ?_
  refine X_istore_n (lv2 := [(2, .int 1), (0, .ref (ga G 42)), (1, .int v1)]) dX6_holds_1 rfl (by decide) rfl rfl ?_
  refine X_aload_n (a := 1) dX6_holds_2 rfl rfl rfl ?_
  refine X_getR (t := 45) fl_X6_18 rfl rfl dX6_holds_3 rfl ?_
  refine X_iload_n (a := 2) dX6_holds_6 rfl rfl rfl ?_
  refine X_iald rfl rfl dX6_holds_7 rfl ?_
  refine X_istore_n (lv2 := [(3, .int (gi M 45 (ui v1))), (2, .int 1), (0, .ref (ga G 42)), (1, .int v1)]) dX6_holds_8 rfl (by decide) rfl rfl ?_
  exact X_lv [2, 3, 1, 0] rfl (x_X6_holds_L9 G M v1 1000 1 (gi M 45 (ui v1)))
set_option maxRecDepth 100000 in
theorem x_X6_willOf_L52 (G : Gm) (M : Mm) (v1 : Int32) : ∀ (n : Nat) (v5 : Int32), X fJ G miX6_willOf (2) 52 [(0, .ref (ga G 42)), (1, .int v1), (5, .int v5)] [] M (F_X6_willOf_L52 M v1 n v5) := by
  intro n
  induction n with
  | zero => intro v5; exact X_none
  | succ n ih =>
    intro v5
    rw [F_X6_willOf_L52]
    refine X_iload (a := 2) dX6_willOf_52 rfl rfl ?_
    refine X_aload_n (a := 0) dX6_willOf_54 rfl rfl rfl ?_
    refine X_getI fl_X6_33 rfl dX6_willOf_55 rfl ?_
    refine X_icmp_ge (tgt := 98) dX6_willOf_58 rfl rfl (fun e58 => ?_) (fun e58 => ?_)
    · refine X_iconst (w := 0) dX6_willOf_98 ki_0 rfl ?_
      exact X_iretJ rfl dX6_willOf_99
    · refine X_iload_n (a := 1) dX6_willOf_61 rfl rfl rfl ?_
      refine X_aload_n (a := 0) dX6_willOf_62 rfl rfl rfl ?_
      refine X_getR (t := 43) fl_X6_9 rfl rfl dX6_willOf_63 rfl ?_
      refine X_iload (a := 2) dX6_willOf_66 rfl rfl ?_
      refine X_iald rfl rfl dX6_willOf_68 rfl ?_
      refine X_ruI (Ru_S (st := []) cs_X6_57 (c_X0_isUnder G M v1 (gi M 43 (ui v5))) (by decide) rfl rfl (Nat.le_of_ble_eq_true rfl) dX6_willOf_69) rfl (fun r69 => ?_)
      refine X_jc (P := fun j => X fJ G miX6_willOf (2) 92 [(0, .ref (ga G 42)), (1, .int v1), (5, .int v5)] [] M (j)) (?_) (fun j92 hj92 => ?_)
      · refine X_iinc (a := 2) (lv2 := [(5, .int (v5 + 1)), (0, .ref (ga G 42)), (1, .int v1)]) dX6_willOf_92 rfl (ii_1 _) (by decide) rfl rfl ?_
        refine X_goto (tgt := 52) dX6_willOf_95 rfl ?_
        exact X_lv [1, 2, 0] rfl (ih (v5 + 1))
      refine X_if_eq (tgt := 92) dX6_willOf_72 rfl rfl (fun e72 => ?_) (fun e72 => ?_)
      · exact X_lv [0, 1, 2] rfl (hj92)
      · refine X_aload_n (a := 0) dX6_willOf_75 rfl rfl rfl ?_
        refine X_iload (a := 2) dX6_willOf_76 rfl rfl ?_
        refine X_ruI (Ru_V (st := []) cv_X6_63 rfl (c_X6_holds G M v5) (by decide) rfl rfl (Nat.le_of_ble_eq_true rfl) dX6_willOf_78) rfl (fun r78 => ?_)
        refine X_if_eq (tgt := 92) dX6_willOf_81 rfl rfl (fun e81 => ?_) (fun e81 => ?_)
        · exact X_lv [0, 1, 2] rfl (hj92)
        · refine X_aload_n (a := 0) dX6_willOf_84 rfl rfl rfl ?_
          refine X_getR (t := 44) fl_X6_15 rfl rfl dX6_willOf_85 rfl ?_
          refine X_iload (a := 2) dX6_willOf_88 rfl rfl ?_
          refine X_iald rfl rfl dX6_willOf_90 rfl ?_
          exact X_iretJ rfl dX6_willOf_91
set_option maxRecDepth 100000 in
theorem c_X6_willOf (G : Gm) (M : Mm) (v1 : Int32) (w2 : Nat) (v3 : Int32) (v4 : Int32) (hw2 : ly_ty w2 = 3) : Ct fJ G miX6_willOf (2) [.ref (ga G 42), .int v1, .ref (ga G w2), .int v3, .int v4] M (F_X6_willOf M v1 w2 v3 v4) := by
  refine Ct_of (pn_X6) (Nat.le_of_ble_eq_true rfl) ?_
  refine X_lv [0, 1, 2, 3, 4] (lv' := [(0, .ref (ga G 42)), (1, .int v1), (2, .ref (ga G w2)), (3, .int v3), (4, .int v4)]) rfl ?_
  unfold F_X6_willOf
  refine X_aload_n (a := 0) dX6_willOf_0 rfl rfl rfl ?_
  refine X_getR (t := 47) fl_X6_24 rfl rfl dX6_willOf_1 rfl ?_
  refine X_iconst (w := 0) dX6_willOf_4 ki_0 rfl ?_
  refine X_aload_n (a := 2) dX6_willOf_5 rfl rfl rfl ?_
  refine X_getI fl_X6_46 hw2 dX6_willOf_6 rfl ?_
  refine X_iast rfl rfl dX6_willOf_9 rfl ?_
  refine X_aload_n (a := 0) dX6_willOf_10 rfl rfl rfl ?_
  refine X_getR (t := 47) fl_X6_24 rfl rfl dX6_willOf_11 rfl ?_
  refine X_iconst (w := 1) dX6_willOf_14 ki_1 rfl ?_
  refine X_aload_n (a := 2) dX6_willOf_15 rfl rfl rfl ?_
  refine X_getR (t := w2 + 1) fl_X6_51 hw2 (rf_eq0 hw2) dX6_willOf_16 rfl ?_
  refine X_iload_n (a := 3) dX6_willOf_19 rfl rfl rfl ?_
  refine X_iald (rf_ty0 hw2) (rf_ln0 hw2) dX6_willOf_20 rfl ?_
  refine X_iast rfl rfl dX6_willOf_21 rfl ?_
  refine X_aload_n (a := 0) dX6_willOf_22 rfl rfl rfl ?_
  refine X_getR (t := 47) fl_X6_24 rfl rfl dX6_willOf_23 rfl ?_
  refine X_iconst (w := 2) dX6_willOf_26 ki_2 rfl ?_
  refine X_aload_n (a := 2) dX6_willOf_27 rfl rfl rfl ?_
  refine X_getR (t := w2 + 2) fl_X6_54 hw2 (rf_eq1 hw2) dX6_willOf_28 rfl ?_
  refine X_iload_n (a := 3) dX6_willOf_31 rfl rfl rfl ?_
  refine X_iald (rf_ty1 hw2) (rf_ln1 hw2) dX6_willOf_32 rfl ?_
  refine X_iast rfl rfl dX6_willOf_33 rfl ?_
  refine X_aload_n (a := 0) dX6_willOf_34 rfl rfl rfl ?_
  refine X_getR (t := 47) fl_X6_24 rfl rfl dX6_willOf_35 rfl ?_
  refine X_iconst (w := 3) dX6_willOf_38 ki_3 rfl ?_
  refine X_iload (a := 4) dX6_willOf_39 rfl rfl ?_
  refine X_iast rfl rfl dX6_willOf_41 rfl ?_
  refine X_aload_n (a := 0) dX6_willOf_42 rfl rfl rfl ?_
  refine X_getR (t := 47) fl_X6_24 rfl rfl dX6_willOf_43 rfl ?_
  refine X_iconst (w := 4) dX6_willOf_46 ki_4 rfl ?_
  refine X_iload_n (a := 3) dX6_willOf_47 rfl rfl rfl ?_
  refine X_iast rfl rfl dX6_willOf_48 rfl ?_
  refine X_iconst (w := 0) dX6_willOf_49 ki_0 rfl ?_
  refine X_istore (lv2 := [(5, .int 0), (0, .ref (ga G 42)), (1, .int v1), (2, .ref (ga G w2)), (3, .int v3), (4, .int v4)]) dX6_willOf_50 (by decide) rfl rfl ?_
  exact X_lv [1, 2, 0] rfl (x_X6_willOf_L52 G (si (si (si (si (si M 47 (ui 0) (gi M w2 3)) 47 (ui 1) (gi (si M 47 (ui 0) (gi M w2 3)) (w2 + 1) (ui v3))) 47 (ui 2) (gi (si (si M 47 (ui 0) (gi M w2 3)) 47 (ui 1) (gi (si M 47 (ui 0) (gi M w2 3)) (w2 + 1) (ui v3))) (w2 + 2) (ui v3))) 47 (ui 3) v4) 47 (ui 4) v3) v1 1000 0)
set_option maxRecDepth 100000 in
theorem c_X10_will (G : Gm) (M : Mm) (w1 : Nat) (v2 : Int32) (hw1 : ly_ty w1 = 3) : Ct fJ G miX10_will (3) [.ref (ga G 33), .ref (ga G w1), .int v2] M (F_X10_will M w1 v2) := by
  refine Ct_of (pn_X10) (Nat.le_of_ble_eq_true rfl) ?_
  refine X_lv [0, 1, 2] (lv' := [(0, .ref (ga G 33)), (1, .ref (ga G w1)), (2, .int v2)]) rfl ?_
  unfold F_X10_will
  refine X_aload_n (a := 0) dX10_will_0 rfl rfl rfl ?_
  refine X_getR (t := 42) fl_X10_37 rfl rfl dX10_will_1 rfl ?_
  refine X_aload_n (a := 0) dX10_will_4 rfl rfl rfl ?_
  refine X_getR (t := 34) fl_X10_9 rfl rfl dX10_will_5 rfl ?_
  refine X_iload_n (a := 2) dX10_will_8 rfl rfl rfl ?_
  refine X_iald rfl rfl dX10_will_9 rfl ?_
  refine X_aload_n (a := 1) dX10_will_10 rfl rfl rfl ?_
  refine X_iload_n (a := 2) dX10_will_11 rfl rfl rfl ?_
  refine X_aload_n (a := 0) dX10_will_12 rfl rfl rfl ?_
  refine X_aload_n (a := 1) dX10_will_13 rfl rfl rfl ?_
  refine X_getI fl_X10_96 hw1 dX10_will_14 rfl ?_
  refine X_ruI (Ru_V (st := [.int v2, .ref (ga G w1), .int (gi M 34 (ui v2)), .ref (ga G 42)]) cv_X10_106 rfl (c_X10_riseAt G M (gi M w1 3)) (by decide) rfl rfl (Nat.le_of_ble_eq_true rfl) dX10_will_17) rfl (fun r17 => ?_)
  refine X_ruJ (Ru_V (st := []) cv_X10_138 rfl (c_X6_willOf G M (gi M 34 (ui v2)) w1 v2 r17 hw1) (by decide) rfl rfl (Nat.le_of_ble_eq_true rfl) dX10_will_20) rfl (fun r20 => ?_)
  exact X_iretJ rfl dX10_will_23
set_option maxRecDepth 100000 in
theorem x_X10_pass_L79 (G : Gm) (w1 : Nat) (hw1 : ly_ty w1 = 3) : ∀ (n : Nat) (M : Mm) (v3 : Int32) (v5 : Int32), X fJ G miX10_pass (4) 79 [(0, .ref (ga G 33)), (1, .ref (ga G w1)), (3, .int v3), (5, .int v5)] [] M (F_X10_pass_L79 w1 n M v3 v5) := by
  intro n
  induction n with
  | zero => intro M v3 v5; exact X_none
  | succ n ih =>
    intro M v3 v5
    rw [F_X10_pass_L79]
    refine X_iload (a := 3) dX10_pass_79 rfl rfl ?_
    refine X_aload_n (a := 0) dX10_pass_81 rfl rfl rfl ?_
    refine X_getI fl_X10_75 rfl dX10_pass_82 rfl ?_
    refine X_icmp_ge (tgt := 167) dX10_pass_85 rfl rfl (fun e85 => ?_) (fun e85 => ?_)
    · refine X_aload_n (a := 1) dX10_pass_167 rfl rfl rfl ?_
      refine X_dup dX10_pass_168 rfl rfl ?_
      refine X_getI fl_X10_96 hw1 dX10_pass_169 rfl ?_
      refine X_iconst (w := 1) dX10_pass_172 ki_1 rfl ?_
      refine X_iadd dX10_pass_173 rfl ?_
      refine X_putI fp_X10_96 hw1 dX10_pass_174 rfl ?_
      refine X_iload_n (a := 2) dX10_pass_177 rfl rfl rfl ?_
      exact X_iretJ rfl dX10_pass_178
    · refine X_aload_n (a := 1) dX10_pass_88 rfl rfl rfl ?_
      refine X_iload (a := 3) dX10_pass_89 rfl rfl ?_
      refine X_ruI (Ru_V (st := []) cv_X10_128 hw1 (c_X3_isStaked G M w1 v5 hw1) (by decide) rfl rfl (Nat.le_of_ble_eq_true rfl) dX10_pass_91) rfl (fun r91 => ?_)
      refine X_istore (lv2 := [(6, .int r91), (0, .ref (ga G 33)), (1, .ref (ga G w1)), (3, .int v3), (5, .int v5)]) dX10_pass_94 (by decide) rfl rfl ?_
      refine X_iload (a := 0) dX10_pass_96 rfl rfl ?_
      refine X_jc (P := fun j => ∀ (x120_0 : Int32), X fJ G miX10_pass (4) 120 [(0, .ref (ga G 33)), (1, .ref (ga G w1)), (3, .int v3), (5, .int v5), (6, .int r91)] [.int x120_0] M (j x120_0)) (fun x120_0 => ?_) (fun j120 hj120 => ?_)
      · refine X_istore (lv2 := [(7, .int x120_0), (0, .ref (ga G 33)), (1, .ref (ga G w1)), (3, .int v3), (5, .int v5), (6, .int r91)]) dX10_pass_120 (by decide) rfl rfl ?_
        refine X_aload_n (a := 2) dX10_pass_122 rfl rfl rfl ?_
        refine X_getR (t := w1 + 1) fl_X10_103 hw1 (rf_eq0 hw1) dX10_pass_123 rfl ?_
        refine X_iload (a := 4) dX10_pass_126 rfl rfl ?_
        refine X_iconst (w := 0) dX10_pass_128 ki_0 rfl ?_
        refine X_aload_n (a := 2) dX10_pass_129 rfl rfl rfl ?_
        refine X_getR (t := w1 + 1) fl_X10_103 hw1 (rf_eq0 hw1) dX10_pass_130 rfl ?_
        refine X_iload (a := 4) dX10_pass_133 rfl rfl ?_
        refine X_iald (rf_ty0 hw1) (rf_ln0 hw1) dX10_pass_135 rfl ?_
        refine X_iload (a := 0) dX10_pass_136 rfl rfl ?_
        refine X_isub dX10_pass_138 rfl ?_
        refine X_max mx_X10_122 (by decide) (Nat.le_of_ble_eq_true rfl) dX10_pass_139 rfl ?_
        refine X_iast (rf_ty0 hw1) (rf_ln0 hw1) dX10_pass_142 rfl ?_
        refine X_iload (a := 5) dX10_pass_143 rfl rfl ?_
        refine X_jc (P := fun j => ∀ (v3 : Int32), X fJ G miX10_pass (4) 161 [(0, .ref (ga G 33)), (1, .ref (ga G w1)), (3, .int v3), (5, .int v5)] [] (si M (w1 + 1) (ui v5) (mx 0 ((gi M (w1 + 1) (ui v5)) - x120_0))) (j v3)) (fun v3 => ?_) (fun j161 hj161 => ?_)
        · refine X_iinc (a := 3) (lv2 := [(5, .int (v5 + 1)), (0, .ref (ga G 33)), (1, .ref (ga G w1)), (3, .int v3)]) dX10_pass_161 rfl (ii_1 _) (by decide) rfl rfl ?_
          refine X_goto (tgt := 79) dX10_pass_164 rfl ?_
          exact X_lv [1, 2, 3, 0] rfl (ih (si M (w1 + 1) (ui v5) (mx 0 ((gi M (w1 + 1) (ui v5)) - x120_0))) v3 (v5 + 1))
        refine X_if_eq (tgt := 161) dX10_pass_145 rfl rfl (fun e145 => ?_) (fun e145 => ?_)
        · exact X_lv [1, 2, 3, 4] rfl (hj161 v3)
        · refine X_iload_n (a := 3) dX10_pass_148 rfl rfl rfl ?_
          refine X_aload_n (a := 2) dX10_pass_149 rfl rfl rfl ?_
          refine X_getR (t := w1 + 1) fl_X10_103 hw1 (rf_eq0 hw1) dX10_pass_150 rfl ?_
          refine X_iload (a := 4) dX10_pass_153 rfl rfl ?_
          refine X_iald (rf_ty0 hw1) (rf_ln0 hw1) dX10_pass_155 rfl ?_
          refine X_bipush (w := 30) dX10_pass_156 kb_30 rfl ?_
          refine X_idiv dX10_pass_158 (by decide) rfl ?_
          refine X_iadd dX10_pass_159 rfl ?_
          refine X_istore_n (lv2 := [(3, .int (v3 + ((gi (si M (w1 + 1) (ui v5) (mx 0 ((gi M (w1 + 1) (ui v5)) - x120_0))) (w1 + 1) (ui v5)) / 30))), (7, .int x120_0), (0, .ref (ga G 33)), (1, .ref (ga G w1)), (5, .int v5), (6, .int r91)]) dX10_pass_160 rfl (by decide) rfl rfl ?_
          exact X_lv [2, 3, 0, 4] rfl (hj161 (v3 + ((gi (si M (w1 + 1) (ui v5) (mx 0 ((gi M (w1 + 1) (ui v5)) - x120_0))) (w1 + 1) (ui v5)) / 30)))
      refine X_if_eq (tgt := 113) dX10_pass_98 rfl rfl (fun e98 => ?_) (fun e98 => ?_)
      · refine X_aload_n (a := 1) dX10_pass_113 rfl rfl rfl ?_
        refine X_aload_n (a := 2) dX10_pass_114 rfl rfl rfl ?_
        refine X_iload (a := 4) dX10_pass_115 rfl rfl ?_
        refine X_ruI (Ru_V (st := []) cv_X10_172 rfl (c_X10_leaks G M w1 v5 hw1) (by decide) rfl rfl (Nat.le_of_ble_eq_true rfl) dX10_pass_117) rfl (fun r117 => ?_)
        exact X_lv [1, 2, 3, 4, 0] rfl (hj120 r117)
      · refine X_aload_n (a := 1) dX10_pass_101 rfl rfl rfl ?_
        refine X_aload_n (a := 2) dX10_pass_102 rfl rfl rfl ?_
        refine X_iload (a := 4) dX10_pass_103 rfl rfl ?_
        refine X_ruI (Ru_V (st := []) cv_X10_172 rfl (c_X10_leaks G M w1 v5 hw1) (by decide) rfl rfl (Nat.le_of_ble_eq_true rfl) dX10_pass_105) rfl (fun r105 => ?_)
        refine X_iconst (w := 3) dX10_pass_108 ki_3 rfl ?_
        refine X_idiv dX10_pass_109 (by decide) rfl ?_
        refine X_goto (tgt := 120) dX10_pass_110 rfl ?_
        exact X_lv [1, 2, 3, 4, 0] rfl (hj120 (r105 / 3))
set_option maxRecDepth 100000 in
theorem c_X10_pass (G : Gm) (M : Mm) (w1 : Nat) (v2 : Int32) (hw1 : ly_ty w1 = 3) : Ct fJ G miX10_pass (4) [.ref (ga G 33), .ref (ga G w1), .int v2] M (F_X10_pass M w1 v2) := by
  refine Ct_of (pn_X10) (Nat.le_of_ble_eq_true rfl) ?_
  refine X_lv [0, 1, 2] (lv' := [(0, .ref (ga G 33)), (1, .ref (ga G w1)), (2, .int v2)]) rfl ?_
  unfold F_X10_pass
  refine X_iconst (w := 0) dX10_pass_0 ki_0 rfl ?_
  refine X_istore_n (lv2 := [(3, .int 0), (0, .ref (ga G 33)), (1, .ref (ga G w1)), (2, .int v2)]) dX10_pass_1 rfl (by decide) rfl rfl ?_
  refine X_iload_n (a := 3) dX10_pass_2 rfl rfl rfl ?_
  refine X_iconst (w := 1) dX10_pass_3 ki_1 rfl ?_
  refine X_isub dX10_pass_4 rfl ?_
  refine X_istore (lv2 := [(4, .int (v2 - 1)), (3, .int 0), (0, .ref (ga G 33)), (1, .ref (ga G w1)), (2, .int v2)]) dX10_pass_5 (by decide) rfl rfl ?_
  refine X_aload_n (a := 2) dX10_pass_7 rfl rfl rfl ?_
  refine X_iload (a := 0) dX10_pass_8 rfl rfl ?_
  refine X_ruI (Ru_V (st := []) cv_X10_163 rfl (c_X10_has G M (v2 - 1)) (by decide) rfl rfl (Nat.le_of_ble_eq_true rfl) dX10_pass_10) rfl (fun r10 => ?_)
  refine X_jc (P := fun j => ∀ (v3 : Int32) (M : Mm), X fJ G miX10_pass (4) 76 [(0, .ref (ga G 33)), (1, .ref (ga G w1)), (3, .int v3)] [] M (j v3 M)) (fun v3 M => ?_) (fun j76 hj76 => ?_)
  · refine X_iconst (w := 0) dX10_pass_76 ki_0 rfl ?_
    refine X_istore (lv2 := [(5, .int 0), (0, .ref (ga G 33)), (1, .ref (ga G w1)), (3, .int v3)]) dX10_pass_77 (by decide) rfl rfl ?_
    exact X_lv [1, 2, 3, 0] rfl (x_X10_pass_L79 G w1 hw1 1000 M v3 0)
  refine X_if_eq (tgt := 76) dX10_pass_13 rfl rfl (fun e13 => ?_) (fun e13 => ?_)
  · exact X_lv [2, 3, 1] rfl (hj76 0 M)
  · refine X_aload_n (a := 3) dX10_pass_16 rfl rfl rfl ?_
    refine X_iload (a := 0) dX10_pass_17 rfl rfl ?_
    refine X_ruI (Ru_V (st := []) cv_X10_128 hw1 (c_X3_isStaked G M w1 (v2 - 1) hw1) (by decide) rfl rfl (Nat.le_of_ble_eq_true rfl) dX10_pass_19) rfl (fun r19 => ?_)
    refine X_if_ne (tgt := 76) dX10_pass_22 rfl rfl (fun e22 => ?_) (fun e22 => ?_)
    · exact X_lv [2, 3, 1] rfl (hj76 0 M)
    · refine X_aload_n (a := 2) dX10_pass_25 rfl rfl rfl ?_
      refine X_aload_n (a := 3) dX10_pass_26 rfl rfl rfl ?_
      refine X_iload (a := 0) dX10_pass_27 rfl rfl ?_
      refine X_ruJ (Ru_V (st := []) cv_X10_145 rfl (c_X10_will G M w1 (v2 - 1) hw1) (by decide) rfl rfl (Nat.le_of_ble_eq_true rfl) dX10_pass_29) rfl (fun r29 => ?_)
      refine X_istore (lv2 := [(5, .int r29.1), (4, .int (v2 - 1)), (3, .int 0), (0, .ref (ga G 33)), (1, .ref (ga G w1)), (2, .int v2)]) dX10_pass_32 (by decide) rfl rfl ?_
      refine X_iload (a := 0) dX10_pass_34 rfl rfl ?_
      refine X_if_ne (tgt := 62) dX10_pass_36 rfl rfl (fun e36 => ?_) (fun e36 => ?_)
      · refine X_iload (a := 0) dX10_pass_62 rfl rfl ?_
        refine X_iconst (w := 2) dX10_pass_64 ki_2 rfl ?_
        refine X_icmp_ne (tgt := 76) dX10_pass_65 rfl rfl (fun e65 => ?_) (fun e65 => ?_)
        · exact X_lv [3, 4, 2] rfl (hj76 0 r29.2)
        · refine X_aload_n (a := 3) dX10_pass_68 rfl rfl rfl ?_
          refine X_aload_n (a := 4) dX10_pass_69 rfl rfl rfl ?_
          refine X_iload (a := 1) dX10_pass_70 rfl rfl ?_
          refine X_ruJ (Ru_V (st := []) cv_X10_169 rfl (c_X10_bung G r29.2 w1 (v2 - 1) hw1) (by decide) rfl rfl (Nat.le_of_ble_eq_true rfl) dX10_pass_72) rfl (fun r72 => ?_)
          refine X_istore_n (lv2 := [(3, .int r72.1), (5, .int r29.1), (4, .int (v2 - 1)), (0, .ref (ga G 33)), (1, .ref (ga G w1)), (2, .int v2)]) dX10_pass_75 rfl (by decide) rfl rfl ?_
          exact X_lv [3, 4, 0] rfl (hj76 r72.1 r72.2)
      · refine X_aload_n (a := 3) dX10_pass_39 rfl rfl rfl ?_
        refine X_aload_n (a := 4) dX10_pass_40 rfl rfl rfl ?_
        refine X_iload (a := 1) dX10_pass_41 rfl rfl ?_
        refine X_ruI (Ru_V (st := []) cv_X10_142 rfl (c_X10_pays G r29.2 w1 (v2 - 1) hw1) (by decide) rfl rfl (Nat.le_of_ble_eq_true rfl) dX10_pass_43) rfl (fun r43 => ?_)
        refine X_istore_n (lv2 := [(3, .int r43), (5, .int r29.1), (4, .int (v2 - 1)), (0, .ref (ga G 33)), (1, .ref (ga G w1)), (2, .int v2)]) dX10_pass_46 rfl (by decide) rfl rfl ?_
        refine X_iload_n (a := 0) dX10_pass_47 rfl rfl rfl ?_
        refine X_if_le (tgt := 76) dX10_pass_48 rfl rfl (fun e48 => ?_) (fun e48 => ?_)
        · exact X_lv [3, 4, 0] rfl (hj76 r43 r29.2)
        · refine X_aload_n (a := 4) dX10_pass_51 rfl rfl rfl ?_
          refine X_iload (a := 2) dX10_pass_52 rfl rfl ?_
          refine X_iconst (w := 1) dX10_pass_54 ki_1 rfl ?_
          refine X_ruJ (Ru_V (st := []) cv_X10_166 hw1 (c_X3_putStaked G r29.2 w1 (v2 - 1) 1 hw1) (by decide) rfl rfl (Nat.le_of_ble_eq_true rfl) dX10_pass_55) rfl (fun r55 => ?_)
          refine X_pop dX10_pass_58 rfl rfl ?_
          refine X_goto (tgt := 76) dX10_pass_59 rfl ?_
          exact X_lv [3, 4, 0] rfl (hj76 r43 r55.2)
set_option maxRecDepth 100000 in
theorem x_X5_weigh_L28 (G : Gm) (v1 : Int32) (v2 : Int32) (v3 : Int32) (k57 : Mm → Option Mm) (hk57 : ∀ (M : Mm), X fV G miX5_weigh (0) 57 [(0, .ref (ga G 75)), (1, .int v1), (2, .int v2), (3, .int v3)] [] M (k57 M)) : ∀ (n : Nat) (M : Mm) (v4 : Int32), X fV G miX5_weigh (0) 28 [(0, .ref (ga G 75)), (1, .int v1), (2, .int v2), (3, .int v3), (4, .int v4)] [] M (F_X5_weigh_L28 k57 v1 v2 v3 n M v4) := by
  intro n
  induction n with
  | zero => intro M v4; exact X_none
  | succ n ih =>
    intro M v4
    rw [F_X5_weigh_L28]
    refine X_iload (a := 4) dX5_weigh_28 rfl rfl ?_
    refine X_aload_n (a := 0) dX5_weigh_30 rfl rfl rfl ?_
    refine X_getI fl_X5_55 rfl dX5_weigh_31 rfl ?_
    refine X_icmp_ge (tgt := 57) dX5_weigh_34 rfl rfl (fun e34 => ?_) (fun e34 => ?_)
    · exact X_lv [0, 1, 2, 3] rfl (hk57 M)
    · refine X_aload_n (a := 0) dX5_weigh_37 rfl rfl rfl ?_
      refine X_getR (t := 93) fl_X5_22 rfl rfl dX5_weigh_38 rfl ?_
      refine X_iload (a := 4) dX5_weigh_41 rfl rfl ?_
      refine X_aload_n (a := 0) dX5_weigh_43 rfl rfl rfl ?_
      refine X_getR (t := 92) fl_X5_18 rfl rfl dX5_weigh_44 rfl ?_
      refine X_iload (a := 4) dX5_weigh_47 rfl rfl ?_
      refine X_iald rfl rfl dX5_weigh_49 rfl ?_
      refine X_iast rfl rfl dX5_weigh_50 rfl ?_
      refine X_iinc (a := 4) (lv2 := [(4, .int (v4 + 1)), (0, .ref (ga G 75)), (1, .int v1), (2, .int v2), (3, .int v3)]) dX5_weigh_51 rfl (ii_1 _) (by decide) rfl rfl ?_
      refine X_goto (tgt := 28) dX5_weigh_54 rfl ?_
      exact X_lv [1, 2, 3, 4, 0] rfl (ih (si M 93 (ui v4) (gi M 92 (ui v4))) (v4 + 1))
set_option maxRecDepth 100000 in
theorem c_X5_weigh (G : Gm) (M : Mm) (v1 : Int32) (v2 : Int32) (v3 : Int32) : Ct fV G miX5_weigh (0) [.ref (ga G 75), .int v1, .int v2, .int v3] M (F_X5_weigh M v1 v2 v3) := by
  refine Ct_of (pn_X5) (Nat.le_of_ble_eq_true rfl) ?_
  refine X_lv [0, 1, 2, 3] (lv' := [(0, .ref (ga G 75)), (1, .int v1), (2, .int v2), (3, .int v3)]) rfl ?_
  unfold F_X5_weigh
  refine X_aload_n (a := 0) dX5_weigh_0 rfl rfl rfl ?_
  refine X_getI fl_X5_69 rfl dX5_weigh_1 rfl ?_
  refine X_jc (P := fun j => ∀ (M : Mm), X fV G miX5_weigh (0) 57 [(0, .ref (ga G 75)), (1, .int v1), (2, .int v2), (3, .int v3)] [] M (j M)) (fun M => ?_) (fun j57 hj57 => ?_)
  · refine X_iload_n (a := 1) dX5_weigh_57 rfl rfl rfl ?_
    refine X_aload_n (a := 0) dX5_weigh_58 rfl rfl rfl ?_
    refine X_getI fl_X5_95 rfl dX5_weigh_59 rfl ?_
    refine X_jc (P := fun j => ∀ (M : Mm), X fV G miX5_weigh (0) 75 [(0, .ref (ga G 75)), (2, .int v2), (3, .int v3)] [] M (j M)) (fun M => ?_) (fun j75 hj75 => ?_)
    · refine X_aload_n (a := 0) dX5_weigh_75 rfl rfl rfl ?_
      refine X_dup dX5_weigh_76 rfl rfl ?_
      refine X_getI fl_X5_75 rfl dX5_weigh_77 rfl ?_
      refine X_iload_n (a := 2) dX5_weigh_80 rfl rfl rfl ?_
      refine X_ior dX5_weigh_81 rfl ?_
      refine X_putI fp_X5_75 rfl dX5_weigh_82 rfl ?_
      refine X_aload_n (a := 0) dX5_weigh_85 rfl rfl rfl ?_
      refine X_getI fl_X5_66 rfl dX5_weigh_86 rfl ?_
      refine X_iload_n (a := 2) dX5_weigh_89 rfl rfl rfl ?_
      refine X_iconst (w := (-1)) dX5_weigh_90 ki_m1 rfl ?_
      refine X_ixor dX5_weigh_91 rfl ?_
      refine X_iand dX5_weigh_92 rfl ?_
      refine X_if_ne (tgt := 116) dX5_weigh_93 rfl rfl (fun e93 => ?_) (fun e93 => ?_)
      · exact X_vret rfl dX5_weigh_116
      · refine X_aload_n (a := 0) dX5_weigh_96 rfl rfl rfl ?_
        refine X_getI fl_X5_72 rfl dX5_weigh_97 rfl ?_
        refine X_if_lt (tgt := 111) dX5_weigh_100 rfl rfl (fun e100 => ?_) (fun e100 => ?_)
        · refine X_aload_n (a := 0) dX5_weigh_111 rfl rfl rfl ?_
          refine X_iload_n (a := 1) dX5_weigh_112 rfl rfl rfl ?_
          refine X_putI fp_X5_72 rfl dX5_weigh_113 rfl ?_
          exact X_vret rfl dX5_weigh_116
        · refine X_iload_n (a := 1) dX5_weigh_103 rfl rfl rfl ?_
          refine X_aload_n (a := 0) dX5_weigh_104 rfl rfl rfl ?_
          refine X_getI fl_X5_72 rfl dX5_weigh_105 rfl ?_
          refine X_icmp_ge (tgt := 116) dX5_weigh_108 rfl rfl (fun e108 => ?_) (fun e108 => ?_)
          · exact X_vret rfl dX5_weigh_116
          · refine X_aload_n (a := 0) dX5_weigh_111 rfl rfl rfl ?_
            refine X_iload_n (a := 1) dX5_weigh_112 rfl rfl rfl ?_
            refine X_putI fp_X5_72 rfl dX5_weigh_113 rfl ?_
            exact X_vret rfl dX5_weigh_116
    refine X_icmp_ne (tgt := 75) dX5_weigh_62 rfl rfl (fun e62 => ?_) (fun e62 => ?_)
    · exact X_lv [0, 2, 3] rfl (hj75 M)
    · refine X_aload_n (a := 0) dX5_weigh_65 rfl rfl rfl ?_
      refine X_dup dX5_weigh_66 rfl rfl ?_
      refine X_getI fl_X5_69 rfl dX5_weigh_67 rfl ?_
      refine X_iconst (w := 1) dX5_weigh_70 ki_1 rfl ?_
      refine X_iadd dX5_weigh_71 rfl ?_
      refine X_putI fp_X5_69 rfl dX5_weigh_72 rfl ?_
      exact X_lv [0, 2, 3] rfl (hj75 (si M 75 7 ((gi M 75 7) + 1)))
  refine X_jc (P := fun j => X fV G miX5_weigh (0) 15 [(0, .ref (ga G 75)), (1, .int v1), (2, .int v2), (3, .int v3)] [] M (j)) (?_) (fun j15 hj15 => ?_)
  · refine X_aload_n (a := 0) dX5_weigh_15 rfl rfl rfl ?_
    refine X_iload_n (a := 1) dX5_weigh_16 rfl rfl rfl ?_
    refine X_putI fp_X5_95 rfl dX5_weigh_17 rfl ?_
    refine X_aload_n (a := 0) dX5_weigh_20 rfl rfl rfl ?_
    refine X_iconst (w := 0) dX5_weigh_21 ki_0 rfl ?_
    refine X_putI fp_X5_69 rfl dX5_weigh_22 rfl ?_
    refine X_iconst (w := 0) dX5_weigh_25 ki_0 rfl ?_
    refine X_istore (lv2 := [(4, .int 0), (0, .ref (ga G 75)), (1, .int v1), (2, .int v2), (3, .int v3)]) dX5_weigh_26 (by decide) rfl rfl ?_
    exact X_lv [1, 2, 3, 4, 0] rfl (x_X5_weigh_L28 G v1 v2 v3 j57 hj57 1000 (si (si M 75 6 v1) 75 7 0) 0)
  refine X_if_eq (tgt := 15) dX5_weigh_4 rfl rfl (fun e4 => ?_) (fun e4 => ?_)
  · exact X_lv [0, 1, 2, 3] rfl (hj15)
  · refine X_iload_n (a := 1) dX5_weigh_7 rfl rfl rfl ?_
    refine X_aload_n (a := 0) dX5_weigh_8 rfl rfl rfl ?_
    refine X_getI fl_X5_95 rfl dX5_weigh_9 rfl ?_
    refine X_icmp_le (tgt := 57) dX5_weigh_12 rfl rfl (fun e12 => ?_) (fun e12 => ?_)
    · exact X_lv [0, 1, 2, 3] rfl (hj57 M)
    · exact X_lv [0, 1, 2, 3] rfl (hj15)
set_option maxRecDepth 100000 in
theorem x_X5_tryAll_L40 (G : Gm) (dd : Nat) (rc : Mm → Int32 → Int32 → Int32 → Option Mm) (hrc : ∀ (M : Mm) (v1 : Int32) (v2 : Int32) (v3 : Int32), Ct fV G miX5_tryAll dd [.ref (ga G 75), .int v1, .int v2, .int v3] M (rc M v1 v2 v3)) (v1 : Int32) (v2 : Int32) (v3 : Int32) (w4 : Nat) (hw4 : ly_ty w4 = 3) : ∀ (n : Nat) (M : Mm) (v5 : Int32), X fV G miX5_tryAll (dd + 5) 40 [(0, .ref (ga G 75)), (1, .int v1), (2, .int v2), (3, .int v3), (4, .ref (ga G w4)), (5, .int v5)] [] M (F_X5_tryAll_L40 rc v1 v2 v3 w4 n M v5) := by
  intro n
  induction n with
  | zero => intro M v5; exact X_none
  | succ n ih =>
    intro M v5
    rw [F_X5_tryAll_L40]
    refine X_iload (a := 5) dX5_tryAll_40 rfl rfl ?_
    refine X_aload_n (a := 0) dX5_tryAll_42 rfl rfl rfl ?_
    refine X_getR (t := 33) fl_X5_25 rfl rfl dX5_tryAll_43 rfl ?_
    refine X_getI fl_X5_88 rfl dX5_tryAll_46 rfl ?_
    refine X_icmp_gt (tgt := 113) dX5_tryAll_49 rfl rfl (fun e49 => ?_) (fun e49 => ?_)
    · exact X_vret rfl dX5_tryAll_113
    · refine X_aload_n (a := 0) dX5_tryAll_52 rfl rfl rfl ?_
      refine X_getR (t := 92) fl_X5_18 rfl rfl dX5_tryAll_53 rfl ?_
      refine X_iload_n (a := 1) dX5_tryAll_56 rfl rfl rfl ?_
      refine X_iload (a := 5) dX5_tryAll_57 rfl rfl ?_
      refine X_iast rfl rfl dX5_tryAll_59 rfl ?_
      refine X_aload (a := 4) dX5_tryAll_60 rfl rfl ?_
      refine X_aload_n (a := 0) dX5_tryAll_62 rfl rfl rfl ?_
      refine X_getR (t := 76) fl_X5_12 rfl rfl dX5_tryAll_63 rfl ?_
      refine X_iload_n (a := 1) dX5_tryAll_66 rfl rfl rfl ?_
      refine X_aald (t := 22) rfl (by decide) rfl dX5_tryAll_67 rfl (fun h67 => ?_)
      refine X_ruV (Ru_V (st := []) cv_X5_58 hw4 (c_X3_take G (si M 92 (ui v1) v5) w4 (ly_rf 76 (ui v1)) hw4 (ty_floods h67)) (by omega) rfl rfl (Nat.le_of_ble_eq_true rfl) dX5_tryAll_68) rfl (fun r68 => ?_)
      refine X_aload_n (a := 0) dX5_tryAll_71 rfl rfl rfl ?_
      refine X_getR (t := 33) fl_X5_25 rfl rfl dX5_tryAll_72 rfl ?_
      refine X_aload (a := 4) dX5_tryAll_75 rfl rfl ?_
      refine X_iload (a := 5) dX5_tryAll_77 rfl rfl ?_
      refine X_ruJ (Ru_V (st := []) cv_X5_91 rfl (c_X10_pass G r68 w4 v5 hw4) (by omega) rfl rfl (Nat.le_of_ble_eq_true rfl) dX5_tryAll_79) rfl (fun r79 => ?_)
      refine X_istore (lv2 := [(6, .int r79.1), (0, .ref (ga G 75)), (1, .int v1), (2, .int v2), (3, .int v3), (4, .ref (ga G w4)), (5, .int v5)]) dX5_tryAll_82 (by decide) rfl rfl ?_
      refine X_aload_n (a := 1) dX5_tryAll_84 rfl rfl rfl ?_
      refine X_iload_n (a := 2) dX5_tryAll_85 rfl rfl rfl ?_
      refine X_iconst (w := 1) dX5_tryAll_86 ki_1 rfl ?_
      refine X_iadd dX5_tryAll_87 rfl ?_
      refine X_iload_n (a := 3) dX5_tryAll_88 rfl rfl rfl ?_
      refine X_iload (a := 0) dX5_tryAll_89 rfl rfl ?_
      refine X_iadd dX5_tryAll_91 rfl ?_
      refine X_iload (a := 6) dX5_tryAll_92 rfl rfl ?_
      refine X_jc (P := fun j => ∀ (x104_0 : Int32), X fV G miX5_tryAll (dd + 5) 104 [(0, .ref (ga G 75)), (1, .int v1), (2, .int v2), (3, .int v3), (4, .ref (ga G w4)), (5, .int v5)] [.int x104_0, .int (v2 + r79.1), .int (v1 + 1), .ref (ga G 75)] r79.2 (j x104_0)) (fun x104_0 => ?_) (fun j104 hj104 => ?_)
      · refine X_ruV (Ru_V (st := []) cv_X5_78 rfl (hrc r79.2 (v1 + 1) (v2 + r79.1) x104_0) (by omega) rfl rfl (Nat.le_of_ble_eq_true rfl) dX5_tryAll_104) rfl (fun r104 => ?_)
        refine X_iinc (a := 5) (lv2 := [(5, .int (v5 + 1)), (0, .ref (ga G 75)), (1, .int v1), (2, .int v2), (3, .int v3), (4, .ref (ga G w4))]) dX5_tryAll_107 rfl (ii_1 _) (by decide) rfl rfl ?_
        refine X_goto (tgt := 40) dX5_tryAll_110 rfl ?_
        exact X_lv [1, 2, 3, 4, 5, 0] rfl (ih r104 (v5 + 1))
      refine X_if_ne (tgt := 101) dX5_tryAll_94 rfl rfl (fun e94 => ?_) (fun e94 => ?_)
      · refine X_iload_n (a := 4) dX5_tryAll_101 rfl rfl rfl ?_
        refine X_iconst (w := 1) dX5_tryAll_102 ki_1 rfl ?_
        refine X_iadd dX5_tryAll_103 rfl ?_
        exact X_lv [1, 2, 3, 4, 5, 6] rfl (hj104 (v3 + 1))
      · refine X_iload_n (a := 4) dX5_tryAll_97 rfl rfl rfl ?_
        refine X_goto (tgt := 104) dX5_tryAll_98 rfl ?_
        exact X_lv [1, 2, 3, 4, 5, 6] rfl (hj104 v3)
set_option maxRecDepth 100000 in
theorem c_X5_tryAll_b (G : Gm) (dd : Nat) (rc : Mm → Int32 → Int32 → Int32 → Option Mm) (hrc : ∀ (M : Mm) (v1 : Int32) (v2 : Int32) (v3 : Int32), Ct fV G miX5_tryAll dd [.ref (ga G 75), .int v1, .int v2, .int v3] M (rc M v1 v2 v3)) (M : Mm) (v1 : Int32) (v2 : Int32) (v3 : Int32) : Ct fV G miX5_tryAll (dd + 5) [.ref (ga G 75), .int v1, .int v2, .int v3] M (F_X5_tryAll_b rc M v1 v2 v3) := by
  refine Ct_of (pn_X5) (Nat.le_of_ble_eq_true rfl) ?_
  refine X_lv [0, 1, 2, 3] (lv' := [(0, .ref (ga G 75)), (1, .int v1), (2, .int v2), (3, .int v3)]) rfl ?_
  unfold F_X5_tryAll_b
  refine X_iload_n (a := 1) dX5_tryAll_0 rfl rfl rfl ?_
  refine X_aload_n (a := 0) dX5_tryAll_1 rfl rfl rfl ?_
  refine X_getI fl_X5_55 rfl dX5_tryAll_2 rfl ?_
  refine X_icmp_lt (tgt := 27) dX5_tryAll_5 rfl rfl (fun e5 => ?_) (fun e5 => ?_)
  · refine X_aload_n (a := 0) dX5_tryAll_27 rfl rfl rfl ?_
    refine X_getR (t := 76) fl_X5_12 rfl rfl dX5_tryAll_28 rfl ?_
    refine X_iload_n (a := 1) dX5_tryAll_31 rfl rfl rfl ?_
    refine X_iconst (w := 1) dX5_tryAll_32 ki_1 rfl ?_
    refine X_iadd dX5_tryAll_33 rfl ?_
    refine X_aald (t := 22) rfl (by decide) rfl dX5_tryAll_34 rfl (fun h34 => ?_)
    refine X_astore (lv2 := [(4, .ref (ga G (ly_rf 76 (ui (v1 + 1))))), (0, .ref (ga G 75)), (1, .int v1), (2, .int v2), (3, .int v3)]) dX5_tryAll_35 (by decide) rfl rfl ?_
    refine X_iconst (w := 0) dX5_tryAll_37 ki_0 rfl ?_
    refine X_istore (lv2 := [(5, .int 0), (4, .ref (ga G (ly_rf 76 (ui (v1 + 1))))), (0, .ref (ga G 75)), (1, .int v1), (2, .int v2), (3, .int v3)]) dX5_tryAll_38 (by decide) rfl rfl ?_
    exact X_lv [2, 3, 4, 5, 1, 0] rfl (x_X5_tryAll_L40 G dd rc hrc v1 v2 v3 (ly_rf 76 (ui (v1 + 1))) (ty_floods h34) 1000 M 0)
  · refine X_aload_n (a := 0) dX5_tryAll_8 rfl rfl rfl ?_
    refine X_iload_n (a := 2) dX5_tryAll_9 rfl rfl rfl ?_
    refine X_iload_n (a := 3) dX5_tryAll_10 rfl rfl rfl ?_
    refine X_aload_n (a := 0) dX5_tryAll_11 rfl rfl rfl ?_
    refine X_getR (t := 76) fl_X5_12 rfl rfl dX5_tryAll_12 rfl ?_
    refine X_aload_n (a := 0) dX5_tryAll_15 rfl rfl rfl ?_
    refine X_getI fl_X5_55 rfl dX5_tryAll_16 rfl ?_
    refine X_aald (t := 22) rfl (by decide) rfl dX5_tryAll_19 rfl (fun h19 => ?_)
    refine X_getI fl_X5_82 (ty_floods h19) dX5_tryAll_20 rfl ?_
    refine X_ruV (Ru_V (st := []) cv_X5_85 rfl (c_X5_weigh G M v2 v3 (gi M (ly_rf 76 (ui (gi M 75 3))) 2)) (by omega) rfl rfl (Nat.le_of_ble_eq_true rfl) dX5_tryAll_23) rfl (fun r23 => ?_)
    exact X_vret rfl dX5_tryAll_26
theorem c_X5_tryAll (G : Gm) : ∀ (n : Nat) (M : Mm) (v1 : Int32) (v2 : Int32) (v3 : Int32), Ct fV G miX5_tryAll (5 * n) [.ref (ga G 75), .int v1, .int v2, .int v3] M (F_X5_tryAll n M v1 v2 v3) := by
  intro n
  induction n with
  | zero => intro M v1 v2 v3; exact Ct_none
  | succ n ih =>
    intro M v1 v2 v3
    exact c_X5_tryAll_b G (5 * n) (F_X5_tryAll n) ih M v1 v2 v3
set_option maxRecDepth 100000 in
theorem c_X5_lookAhead (G : Gm) (M : Mm) (v1 : Int32) (v2 : Int32) : Ct fV G miX5_lookAhead (41) [.ref (ga G 75), .int v1, .int v2] M (F_X5_lookAhead M v1 v2) := by
  refine Ct_of (pn_X5) (Nat.le_of_ble_eq_true rfl) ?_
  refine X_lv [0, 1, 2] (lv' := [(0, .ref (ga G 75)), (1, .int v1), (2, .int v2)]) rfl ?_
  unfold F_X5_lookAhead
  refine X_aload_n (a := 0) dX5_lookAhead_0 rfl rfl rfl ?_
  refine X_iload_n (a := 1) dX5_lookAhead_1 rfl rfl rfl ?_
  refine X_ruV (Ru_V (st := []) cv_X5_62 rfl (c_X5_begin G M v1) (by decide) rfl rfl (Nat.le_of_ble_eq_true rfl) dX5_lookAhead_2) rfl (fun r2 => ?_)
  refine X_aload_n (a := 0) dX5_lookAhead_5 rfl rfl rfl ?_
  refine X_iload_n (a := 2) dX5_lookAhead_6 rfl rfl rfl ?_
  refine X_putI fp_X5_66 rfl dX5_lookAhead_7 rfl ?_
  refine X_aload_n (a := 0) dX5_lookAhead_10 rfl rfl rfl ?_
  refine X_iconst (w := 0) dX5_lookAhead_11 ki_0 rfl ?_
  refine X_putI fp_X5_69 rfl dX5_lookAhead_12 rfl ?_
  refine X_aload_n (a := 0) dX5_lookAhead_15 rfl rfl rfl ?_
  refine X_bipush (w := (-3)) dX5_lookAhead_16 kb_m3 rfl ?_
  refine X_putI fp_X5_72 rfl dX5_lookAhead_18 rfl ?_
  refine X_aload_n (a := 0) dX5_lookAhead_21 rfl rfl rfl ?_
  refine X_iconst (w := 0) dX5_lookAhead_22 ki_0 rfl ?_
  refine X_putI fp_X5_75 rfl dX5_lookAhead_23 rfl ?_
  refine X_aload_n (a := 0) dX5_lookAhead_26 rfl rfl rfl ?_
  refine X_iconst (w := 0) dX5_lookAhead_27 ki_0 rfl ?_
  refine X_iconst (w := 0) dX5_lookAhead_28 ki_0 rfl ?_
  refine X_iconst (w := 0) dX5_lookAhead_29 ki_0 rfl ?_
  refine X_ruV (Ru_V (st := []) cv_X5_78 rfl (c_X5_tryAll G 8 (si (si (si (si r2 75 4 v2) 75 7 0) 75 8 (-3)) 75 9 0) 0 0 0) (by decide) rfl rfl (Nat.le_of_ble_eq_true rfl) dX5_lookAhead_30) rfl (fun r30 => ?_)
  exact X_vret rfl dX5_lookAhead_33
set_option maxRecDepth 100000 in
theorem x_X5_valueFrom_L27 (G : Gm) (dd : Nat) (rc : Mm → Int32 → Option (Int32 × Mm)) (hrc : ∀ (M : Mm) (v1 : Int32), Ct fJ G miX5_valueFrom dd [.ref (ga G 75), .int v1] M (rc M v1)) (v1 : Int32) (w2 : Nat) (hw2 : ly_ty w2 = 3) : ∀ (n : Nat) (M : Mm) (v3 : Int32) (v4 : Int32) (v5 : Int32), X fJ G miX5_valueFrom (dd + 5) 27 [(0, .ref (ga G 75)), (1, .int v1), (2, .ref (ga G w2)), (3, .int v3), (4, .int v4), (5, .int v5)] [] M (F_X5_valueFrom_L27 rc v1 w2 n M v3 v4 v5) := by
  intro n
  induction n with
  | zero => intro M v3 v4 v5; exact X_none
  | succ n ih =>
    intro M v3 v4 v5
    rw [F_X5_valueFrom_L27]
    refine X_iload (a := 5) dX5_valueFrom_27 rfl rfl ?_
    refine X_aload_n (a := 0) dX5_valueFrom_29 rfl rfl rfl ?_
    refine X_getR (t := 33) fl_X5_25 rfl rfl dX5_valueFrom_30 rfl ?_
    refine X_getI fl_X5_88 rfl dX5_valueFrom_33 rfl ?_
    refine X_icmp_gt (tgt := 129) dX5_valueFrom_36 rfl rfl (fun e36 => ?_) (fun e36 => ?_)
    · refine X_iload_n (a := 1) dX5_valueFrom_129 rfl rfl rfl ?_
      refine X_if_ne (tgt := 139) dX5_valueFrom_130 rfl rfl (fun e130 => ?_) (fun e130 => ?_)
      · refine X_iload_n (a := 3) dX5_valueFrom_139 rfl rfl rfl ?_
        exact X_iretJ rfl dX5_valueFrom_140
      · refine X_aload_n (a := 0) dX5_valueFrom_133 rfl rfl rfl ?_
        refine X_iload (a := 4) dX5_valueFrom_134 rfl rfl ?_
        refine X_putI fp_X5_98 rfl dX5_valueFrom_136 rfl ?_
        refine X_iload_n (a := 3) dX5_valueFrom_139 rfl rfl rfl ?_
        exact X_iretJ rfl dX5_valueFrom_140
    · refine X_aload_n (a := 2) dX5_valueFrom_39 rfl rfl rfl ?_
      refine X_aload_n (a := 0) dX5_valueFrom_40 rfl rfl rfl ?_
      refine X_getR (t := 76) fl_X5_12 rfl rfl dX5_valueFrom_41 rfl ?_
      refine X_iload_n (a := 1) dX5_valueFrom_44 rfl rfl rfl ?_
      refine X_aald (t := 22) rfl (by decide) rfl dX5_valueFrom_45 rfl (fun h45 => ?_)
      refine X_ruV (Ru_V (st := []) cv_X5_58 hw2 (c_X3_take G M w2 (ly_rf 76 (ui v1)) hw2 (ty_floods h45)) (by omega) rfl rfl (Nat.le_of_ble_eq_true rfl) dX5_valueFrom_46) rfl (fun r46 => ?_)
      refine X_aload_n (a := 0) dX5_valueFrom_49 rfl rfl rfl ?_
      refine X_getR (t := 33) fl_X5_25 rfl rfl dX5_valueFrom_50 rfl ?_
      refine X_aload_n (a := 2) dX5_valueFrom_53 rfl rfl rfl ?_
      refine X_iload (a := 5) dX5_valueFrom_54 rfl rfl ?_
      refine X_ruJ (Ru_V (st := []) cv_X5_91 rfl (c_X10_pass G r46 w2 v5 hw2) (by omega) rfl rfl (Nat.le_of_ble_eq_true rfl) dX5_valueFrom_56) rfl (fun r56 => ?_)
      refine X_istore (lv2 := [(6, .int r56.1), (0, .ref (ga G 75)), (1, .int v1), (2, .ref (ga G w2)), (3, .int v3), (4, .int v4), (5, .int v5)]) dX5_valueFrom_59 (by decide) rfl rfl ?_
      refine X_iload (a := 0) dX5_valueFrom_61 rfl rfl ?_
      refine X_aload_n (a := 1) dX5_valueFrom_63 rfl rfl rfl ?_
      refine X_iload_n (a := 2) dX5_valueFrom_64 rfl rfl rfl ?_
      refine X_iconst (w := 1) dX5_valueFrom_65 ki_1 rfl ?_
      refine X_iadd dX5_valueFrom_66 rfl ?_
      refine X_ruJ (Ru_V (st := [.int r56.1]) cv_X5_101 rfl (hrc r56.2 (v1 + 1)) (by omega) rfl rfl (Nat.le_of_ble_eq_true rfl) dX5_valueFrom_67) rfl (fun r67 => ?_)
      refine X_iadd dX5_valueFrom_70 rfl ?_
      refine X_istore (lv2 := [(6, .int (r56.1 + r67.1)), (0, .ref (ga G 75)), (1, .int v1), (2, .ref (ga G w2)), (3, .int v3), (4, .int v4), (5, .int v5)]) dX5_valueFrom_71 (by decide) rfl rfl ?_
      refine X_iload_n (a := 2) dX5_valueFrom_73 rfl rfl rfl ?_
      refine X_iconst (w := 2) dX5_valueFrom_74 ki_2 rfl ?_
      refine X_irem dX5_valueFrom_75 (by decide) rfl ?_
      refine X_jc (P := fun j => ∀ (x104_0 : Int32), X fJ G miX5_valueFrom (dd + 5) 104 [(0, .ref (ga G 75)), (1, .int v1), (2, .ref (ga G w2)), (3, .int v3), (4, .int v4), (5, .int v5), (6, .int (r56.1 + r67.1))] [.int x104_0] r67.2 (j x104_0)) (fun x104_0 => ?_) (fun j104 hj104 => ?_)
      · refine X_istore (lv2 := [(7, .int x104_0), (0, .ref (ga G 75)), (1, .int v1), (2, .ref (ga G w2)), (3, .int v3), (4, .int v4), (5, .int v5), (6, .int (r56.1 + r67.1))]) dX5_valueFrom_104 (by decide) rfl rfl ?_
        refine X_iload (a := 6) dX5_valueFrom_106 rfl rfl ?_
        refine X_jc (P := fun j => ∀ (v3 : Int32) (v4 : Int32), X fJ G miX5_valueFrom (dd + 5) 123 [(0, .ref (ga G 75)), (1, .int v1), (2, .ref (ga G w2)), (3, .int v3), (4, .int v4), (5, .int v5)] [] r67.2 (j v3 v4)) (fun v3 v4 => ?_) (fun j123 hj123 => ?_)
        · refine X_iinc (a := 5) (lv2 := [(5, .int (v5 + 1)), (0, .ref (ga G 75)), (1, .int v1), (2, .ref (ga G w2)), (3, .int v3), (4, .int v4)]) dX5_valueFrom_123 rfl (ii_1 _) (by decide) rfl rfl ?_
          refine X_goto (tgt := 27) dX5_valueFrom_126 rfl ?_
          exact X_lv [1, 2, 3, 4, 5, 0] rfl (ih r67.2 v3 v4 (v5 + 1))
        refine X_jc (P := fun j => X fJ G miX5_valueFrom (dd + 5) 116 [(0, .ref (ga G 75)), (1, .int v1), (2, .ref (ga G w2)), (5, .int v5), (6, .int (r56.1 + r67.1))] [] r67.2 (j)) (?_) (fun j116 hj116 => ?_)
        · refine X_iload (a := 4) dX5_valueFrom_116 rfl rfl ?_
          refine X_istore_n (lv2 := [(3, .int (r56.1 + r67.1)), (0, .ref (ga G 75)), (1, .int v1), (2, .ref (ga G w2)), (5, .int v5), (6, .int (r56.1 + r67.1))]) dX5_valueFrom_118 rfl (by decide) rfl rfl ?_
          refine X_iload (a := 4) dX5_valueFrom_119 rfl rfl ?_
          refine X_istore (lv2 := [(4, .int v5), (3, .int (r56.1 + r67.1)), (0, .ref (ga G 75)), (1, .int v1), (2, .ref (ga G w2)), (5, .int v5), (6, .int (r56.1 + r67.1))]) dX5_valueFrom_121 (by decide) rfl rfl ?_
          exact X_lv [2, 3, 4, 1, 0, 5] rfl (hj123 (r56.1 + r67.1) v5)
        refine X_if_eq (tgt := 116) dX5_valueFrom_108 rfl rfl (fun e108 => ?_) (fun e108 => ?_)
        · exact X_lv [1, 2, 3, 6, 7] rfl (hj116)
        · refine X_iload (a := 0) dX5_valueFrom_111 rfl rfl ?_
          refine X_if_eq (tgt := 123) dX5_valueFrom_113 rfl rfl (fun e113 => ?_) (fun e113 => ?_)
          · exact X_lv [1, 2, 3, 4, 5, 6] rfl (hj123 v3 v4)
          · exact X_lv [1, 2, 3, 6, 7] rfl (hj116)
      refine X_if_ne (tgt := 93) dX5_valueFrom_76 rfl rfl (fun e76 => ?_) (fun e76 => ?_)
      · refine X_iload (a := 0) dX5_valueFrom_93 rfl rfl ?_
        refine X_iload_n (a := 4) dX5_valueFrom_95 rfl rfl rfl ?_
        refine X_icmp_ge (tgt := 103) dX5_valueFrom_96 rfl rfl (fun e96 => ?_) (fun e96 => ?_)
        · refine X_iconst (w := 0) dX5_valueFrom_103 ki_0 rfl ?_
          exact X_lv [1, 2, 3, 4, 5, 6, 0] rfl (hj104 0)
        · refine X_iconst (w := 1) dX5_valueFrom_99 ki_1 rfl ?_
          refine X_goto (tgt := 104) dX5_valueFrom_100 rfl ?_
          exact X_lv [1, 2, 3, 4, 5, 6, 0] rfl (hj104 1)
      · refine X_iload (a := 0) dX5_valueFrom_79 rfl rfl ?_
        refine X_iload_n (a := 4) dX5_valueFrom_81 rfl rfl rfl ?_
        refine X_icmp_le (tgt := 89) dX5_valueFrom_82 rfl rfl (fun e82 => ?_) (fun e82 => ?_)
        · refine X_iconst (w := 0) dX5_valueFrom_89 ki_0 rfl ?_
          refine X_goto (tgt := 104) dX5_valueFrom_90 rfl ?_
          exact X_lv [1, 2, 3, 4, 5, 6, 0] rfl (hj104 0)
        · refine X_iconst (w := 1) dX5_valueFrom_85 ki_1 rfl ?_
          refine X_goto (tgt := 104) dX5_valueFrom_86 rfl ?_
          exact X_lv [1, 2, 3, 4, 5, 6, 0] rfl (hj104 1)
set_option maxRecDepth 100000 in
theorem c_X5_valueFrom_b (G : Gm) (dd : Nat) (rc : Mm → Int32 → Option (Int32 × Mm)) (hrc : ∀ (M : Mm) (v1 : Int32), Ct fJ G miX5_valueFrom dd [.ref (ga G 75), .int v1] M (rc M v1)) (M : Mm) (v1 : Int32) : Ct fJ G miX5_valueFrom (dd + 5) [.ref (ga G 75), .int v1] M (F_X5_valueFrom_b rc M v1) := by
  refine Ct_of (pn_X5) (Nat.le_of_ble_eq_true rfl) ?_
  refine X_lv [0, 1] (lv' := [(0, .ref (ga G 75)), (1, .int v1)]) rfl ?_
  unfold F_X5_valueFrom_b
  refine X_iload_n (a := 1) dX5_valueFrom_0 rfl rfl rfl ?_
  refine X_aload_n (a := 0) dX5_valueFrom_1 rfl rfl rfl ?_
  refine X_getI fl_X5_55 rfl dX5_valueFrom_2 rfl ?_
  refine X_icmp_lt (tgt := 10) dX5_valueFrom_5 rfl rfl (fun e5 => ?_) (fun e5 => ?_)
  · refine X_aload_n (a := 0) dX5_valueFrom_10 rfl rfl rfl ?_
    refine X_getR (t := 76) fl_X5_12 rfl rfl dX5_valueFrom_11 rfl ?_
    refine X_iload_n (a := 1) dX5_valueFrom_14 rfl rfl rfl ?_
    refine X_iconst (w := 1) dX5_valueFrom_15 ki_1 rfl ?_
    refine X_iadd dX5_valueFrom_16 rfl ?_
    refine X_aald (t := 22) rfl (by decide) rfl dX5_valueFrom_17 rfl (fun h17 => ?_)
    refine X_astore_n (lv2 := [(2, .ref (ga G (ly_rf 76 (ui (v1 + 1))))), (0, .ref (ga G 75)), (1, .int v1)]) dX5_valueFrom_18 rfl (by decide) rfl rfl ?_
    refine X_iconst (w := 0) dX5_valueFrom_19 ki_0 rfl ?_
    refine X_istore_n (lv2 := [(3, .int 0), (2, .ref (ga G (ly_rf 76 (ui (v1 + 1))))), (0, .ref (ga G 75)), (1, .int v1)]) dX5_valueFrom_20 rfl (by decide) rfl rfl ?_
    refine X_iconst (w := 0) dX5_valueFrom_21 ki_0 rfl ?_
    refine X_istore (lv2 := [(4, .int 0), (3, .int 0), (2, .ref (ga G (ly_rf 76 (ui (v1 + 1))))), (0, .ref (ga G 75)), (1, .int v1)]) dX5_valueFrom_22 (by decide) rfl rfl ?_
    refine X_iconst (w := 0) dX5_valueFrom_24 ki_0 rfl ?_
    refine X_istore (lv2 := [(5, .int 0), (4, .int 0), (3, .int 0), (2, .ref (ga G (ly_rf 76 (ui (v1 + 1))))), (0, .ref (ga G 75)), (1, .int v1)]) dX5_valueFrom_25 (by decide) rfl rfl ?_
    exact X_lv [4, 5, 3, 2, 1, 0] rfl (x_X5_valueFrom_L27 G dd rc hrc v1 (ly_rf 76 (ui (v1 + 1))) (ty_floods h17) 1000 M 0 0 0)
  · refine X_iconst (w := 0) dX5_valueFrom_8 ki_0 rfl ?_
    exact X_iretJ rfl dX5_valueFrom_9
theorem c_X5_valueFrom (G : Gm) : ∀ (n : Nat) (M : Mm) (v1 : Int32), Ct fJ G miX5_valueFrom (5 * n) [.ref (ga G 75), .int v1] M (F_X5_valueFrom n M v1) := by
  intro n
  induction n with
  | zero => intro M v1; exact Ct_none
  | succ n ih =>
    intro M v1
    exact c_X5_valueFrom_b G (5 * n) (F_X5_valueFrom n) ih M v1
set_option maxRecDepth 100000 in
theorem c_X5_gameOf (G : Gm) (M : Mm) (v1 : Int32) : Ct fJ G miX5_gameOf (41) [.ref (ga G 75), .int v1] M (F_X5_gameOf M v1) := by
  refine Ct_of (pn_X5) (Nat.le_of_ble_eq_true rfl) ?_
  refine X_lv [0, 1] (lv' := [(0, .ref (ga G 75)), (1, .int v1)]) rfl ?_
  unfold F_X5_gameOf
  refine X_aload_n (a := 0) dX5_gameOf_0 rfl rfl rfl ?_
  refine X_iload_n (a := 1) dX5_gameOf_1 rfl rfl rfl ?_
  refine X_ruV (Ru_V (st := []) cv_X5_62 rfl (c_X5_begin G M v1) (by decide) rfl rfl (Nat.le_of_ble_eq_true rfl) dX5_gameOf_2) rfl (fun r2 => ?_)
  refine X_aload_n (a := 0) dX5_gameOf_5 rfl rfl rfl ?_
  refine X_iconst (w := 0) dX5_gameOf_6 ki_0 rfl ?_
  refine X_putI fp_X5_98 rfl dX5_gameOf_7 rfl ?_
  refine X_aload_n (a := 0) dX5_gameOf_10 rfl rfl rfl ?_
  refine X_iconst (w := 0) dX5_gameOf_11 ki_0 rfl ?_
  refine X_ruJ (Ru_V (st := []) cv_X5_101 rfl (c_X5_valueFrom G 8 (si r2 75 10 0) 0) (by decide) rfl rfl (Nat.le_of_ble_eq_true rfl) dX5_gameOf_12) rfl (fun r12 => ?_)
  exact X_iretJ rfl dX5_gameOf_15

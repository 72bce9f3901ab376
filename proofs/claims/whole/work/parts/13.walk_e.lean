set_option maxRecDepth 100000 in
theorem c_X12_in (G : Gm) (M : Mm) (v0 : Int64) (v2 : Int64) (v4 : Int64) : Ct (fI M) G miX12_in (0) [.long v0, .long v2, .long v4] M (F_X12_in v0 v2 v4) := by
  refine Ct_of (pn_X12) (Nat.le_of_ble_eq_true rfl) ?_
  refine X_lv [0, 1, 2] (lv' := [(0, .long v0), (2, .long v2), (4, .long v4)]) rfl ?_
  unfold F_X12_in
  refine X_lload_n (a := 0) dX12_in_0 rfl rfl rfl ?_
  refine X_lload_n (a := 1) dX12_in_1 rfl rfl rfl ?_
  refine X_lcmp dX12_in_2 rfl ?_
  refine X_if_lt (tgt := 17) dX12_in_3 rfl rfl (fun e3 => ?_) (fun e3 => ?_)
  · refine X_iconst (w := 0) dX12_in_17 ki_0 rfl ?_
    exact X_zretI rfl dX12_in_18
  · refine X_lload_n (a := 0) dX12_in_6 rfl rfl rfl ?_
    refine X_lload (a := 2) dX12_in_7 rfl rfl ?_
    refine X_lcmp dX12_in_9 rfl ?_
    refine X_if_gt (tgt := 17) dX12_in_10 rfl rfl (fun e10 => ?_) (fun e10 => ?_)
    · refine X_iconst (w := 0) dX12_in_17 ki_0 rfl ?_
      exact X_zretI rfl dX12_in_18
    · refine X_iconst (w := 1) dX12_in_13 ki_1 rfl ?_
      refine X_goto (tgt := 18) dX12_in_14 rfl ?_
      exact X_zretI rfl dX12_in_18
set_option maxRecDepth 100000 in
theorem c_X12_held (G : Gm) (M : Mm) (v0 : Int32) (v1 : Int32) (v2 : Int32) : Ct (fI M) G miX12_held (0) [.int v0, .int v1, .int v2] M (F_X12_held v0 v1 v2) := by
  refine Ct_of (pn_X12) (Nat.le_of_ble_eq_true rfl) ?_
  refine X_lv [0, 1, 2] (lv' := [(0, .int v0), (1, .int v1), (2, .int v2)]) rfl ?_
  unfold F_X12_held
  refine X_iload_n (a := 0) dX12_held_0 rfl rfl rfl ?_
  refine X_iload_n (a := 1) dX12_held_1 rfl rfl rfl ?_
  refine X_icmp_ge (tgt := 9) dX12_held_2 rfl rfl (fun e2 => ?_) (fun e2 => ?_)
  · refine X_iload_n (a := 0) dX12_held_9 rfl rfl rfl ?_
    refine X_iload_n (a := 2) dX12_held_10 rfl rfl rfl ?_
    refine X_icmp_le (tgt := 18) dX12_held_11 rfl rfl (fun e11 => ?_) (fun e11 => ?_)
    · refine X_iload_n (a := 0) dX12_held_18 rfl rfl rfl ?_
      exact X_iretI rfl dX12_held_19
    · refine X_iload_n (a := 2) dX12_held_14 rfl rfl rfl ?_
      refine X_goto (tgt := 19) dX12_held_15 rfl ?_
      exact X_iretI rfl dX12_held_19
  · refine X_iload_n (a := 1) dX12_held_5 rfl rfl rfl ?_
    refine X_goto (tgt := 19) dX12_held_6 rfl ?_
    exact X_iretI rfl dX12_held_19
set_option maxRecDepth 100000 in
theorem x_X12_ones_L4 (G : Gm) (M : Mm) (v0 : Int32) : ∀ (n : Nat) (v1 : Int32) (v2 : Int32), X (fI M) G miX12_ones (0) 4 [(0, .int v0), (1, .int v1), (2, .int v2)] [] M (F_X12_ones_L4 v0 n v1 v2) := by
  intro n
  induction n with
  | zero => intro v1 v2; exact X_none
  | succ n ih =>
    intro v1 v2
    rw [F_X12_ones_L4]
    refine X_iload_n (a := 2) dX12_ones_4 rfl rfl rfl ?_
    refine X_bipush (w := 6) dX12_ones_5 kb_6 rfl ?_
    refine X_icmp_ge (tgt := 24) dX12_ones_7 rfl rfl (fun e7 => ?_) (fun e7 => ?_)
    · refine X_iload_n (a := 1) dX12_ones_24 rfl rfl rfl ?_
      exact X_iretI rfl dX12_ones_25
    · refine X_iload_n (a := 1) dX12_ones_10 rfl rfl rfl ?_
      refine X_iload_n (a := 0) dX12_ones_11 rfl rfl rfl ?_
      refine X_iload_n (a := 2) dX12_ones_12 rfl rfl rfl ?_
      refine X_ishr dX12_ones_13 rfl ?_
      refine X_iconst (w := 1) dX12_ones_14 ki_1 rfl ?_
      refine X_iand dX12_ones_15 rfl ?_
      refine X_iadd dX12_ones_16 rfl ?_
      refine X_istore_n (lv2 := [(1, .int (v1 + ((v0 >>> (v2 &&& 31)) &&& 1))), (0, .int v0), (2, .int v2)]) dX12_ones_17 rfl (by decide) rfl rfl ?_
      refine X_iinc (a := 2) (lv2 := [(2, .int (v2 + 1)), (1, .int (v1 + ((v0 >>> (v2 &&& 31)) &&& 1))), (0, .int v0)]) dX12_ones_18 rfl (ii_1 _) (by decide) rfl rfl ?_
      refine X_goto (tgt := 4) dX12_ones_21 rfl ?_
      exact X_lv [2, 1, 0] rfl (ih (v1 + ((v0 >>> (v2 &&& 31)) &&& 1)) (v2 + 1))
set_option maxRecDepth 100000 in
theorem c_X12_ones (G : Gm) (M : Mm) (v0 : Int32) : Ct (fI M) G miX12_ones (0) [.int v0] M (F_X12_ones v0) := by
  refine Ct_of (pn_X12) (Nat.le_of_ble_eq_true rfl) ?_
  refine X_lv [0] (lv' := [(0, .int v0)]) rfl ?_
  unfold F_X12_ones
  refine X_iconst (w := 0) dX12_ones_0 ki_0 rfl ?_
  refine X_istore_n (lv2 := [(1, .int 0), (0, .int v0)]) dX12_ones_1 rfl (by decide) rfl rfl ?_
  refine X_iconst (w := 0) dX12_ones_2 ki_0 rfl ?_
  refine X_istore_n (lv2 := [(2, .int 0), (1, .int 0), (0, .int v0)]) dX12_ones_3 rfl (by decide) rfl rfl ?_
  exact X_lv [2, 1, 0] rfl (x_X12_ones_L4 G M v0 1000 0 0)
set_option maxRecDepth 100000 in
theorem c_X12_isBarrel (G : Gm) (M : Mm) (v1 : Int32) : Ct (fI M) G miX12_isBarrel (1) [.ref (ga G 94), .int v1] M (F_X12_isBarrel M v1) := by
  refine Ct_of (pn_X12) (Nat.le_of_ble_eq_true rfl) ?_
  refine X_lv [0, 1] (lv' := [(0, .ref (ga G 94)), (1, .int v1)]) rfl ?_
  unfold F_X12_isBarrel
  refine X_iload_n (a := 1) dX12_isBarrel_0 rfl rfl rfl ?_
  refine X_i2l dX12_isBarrel_1 rfl rfl ?_
  refine X_lconst (w := 0) dX12_isBarrel_2 kl_0 rfl ?_
  refine X_aload_n (a := 0) dX12_isBarrel_3 rfl rfl rfl ?_
  refine X_getR (t := 95) fl_X12_7 rfl rfl dX12_isBarrel_4 rfl ?_
  refine X_iconst (w := 0) dX12_isBarrel_7 ki_0 rfl ?_
  refine X_iald rfl rfl dX12_isBarrel_8 rfl ?_
  refine X_iconst (w := 1) dX12_isBarrel_9 ki_1 rfl ?_
  refine X_isub dX12_isBarrel_10 rfl ?_
  refine X_i2l dX12_isBarrel_11 rfl rfl ?_
  refine X_ruI (Ru_S (st := []) cs_X12_61 (c_X12_in G M (Int32.toInt64 v1) 0 (Int32.toInt64 ((gi M 95 (ui 0)) - 1))) (by decide) rfl rfl (Nat.le_of_ble_eq_true rfl) dX12_isBarrel_12) rfl (fun r12 => ?_)
  exact X_zretI rfl dX12_isBarrel_15
set_option maxRecDepth 100000 in
theorem c_X12_of (G : Gm) (M : Mm) (v1 : Int32) (v2 : Int32) : Ct (fI M) G miX12_of (0) [.ref (ga G 94), .int v1, .int v2] M (F_X12_of M v1 v2) := by
  refine Ct_of (pn_X12) (Nat.le_of_ble_eq_true rfl) ?_
  refine X_lv [0, 1, 2] (lv' := [(0, .ref (ga G 94)), (1, .int v1), (2, .int v2)]) rfl ?_
  unfold F_X12_of
  refine X_aload_n (a := 0) dX12_of_0 rfl rfl rfl ?_
  refine X_getR (t := 95) fl_X12_7 rfl rfl dX12_of_1 rfl ?_
  refine X_bipush (w := 35) dX12_of_4 kb_35 rfl ?_
  refine X_iconst (w := 5) dX12_of_6 ki_5 rfl ?_
  refine X_iload_n (a := 1) dX12_of_7 rfl rfl rfl ?_
  refine X_imul dX12_of_8 rfl ?_
  refine X_iadd dX12_of_9 rfl ?_
  refine X_iload_n (a := 2) dX12_of_10 rfl rfl rfl ?_
  refine X_iadd dX12_of_11 rfl ?_
  refine X_iald rfl rfl dX12_of_12 rfl ?_
  exact X_iretI rfl dX12_of_13
set_option maxRecDepth 100000 in
theorem c_X12_sets (G : Gm) (M : Mm) (v1 : Int32) (v2 : Int32) (v3 : Int32) : Ct fV G miX12_sets (0) [.ref (ga G 94), .int v1, .int v2, .int v3] M (F_X12_sets M v1 v2 v3) := by
  refine Ct_of (pn_X12) (Nat.le_of_ble_eq_true rfl) ?_
  refine X_lv [0, 1, 2, 3] (lv' := [(0, .ref (ga G 94)), (1, .int v1), (2, .int v2), (3, .int v3)]) rfl ?_
  unfold F_X12_sets
  refine X_aload_n (a := 0) dX12_sets_0 rfl rfl rfl ?_
  refine X_getR (t := 95) fl_X12_7 rfl rfl dX12_sets_1 rfl ?_
  refine X_bipush (w := 35) dX12_sets_4 kb_35 rfl ?_
  refine X_iconst (w := 5) dX12_sets_6 ki_5 rfl ?_
  refine X_iload_n (a := 1) dX12_sets_7 rfl rfl rfl ?_
  refine X_imul dX12_sets_8 rfl ?_
  refine X_iadd dX12_sets_9 rfl ?_
  refine X_iload_n (a := 2) dX12_sets_10 rfl rfl rfl ?_
  refine X_iadd dX12_sets_11 rfl ?_
  refine X_iload_n (a := 3) dX12_sets_12 rfl rfl rfl ?_
  refine X_iast rfl rfl dX12_sets_13 rfl ?_
  exact X_vret rfl dX12_sets_14
set_option maxRecDepth 100000 in
theorem c_X12_becomes (G : Gm) (M : Mm) (v1 : Int32) (v2 : Int32) : Ct fJ G miX12_becomes (0) [.ref (ga G 94), .int v1, .int v2] M (F_X12_becomes M v1 v2) := by
  refine Ct_of (pn_X12) (Nat.le_of_ble_eq_true rfl) ?_
  refine X_lv [0, 1, 2] (lv' := [(0, .ref (ga G 94)), (1, .int v1), (2, .int v2)]) rfl ?_
  unfold F_X12_becomes
  refine X_aload_n (a := 0) dX12_becomes_0 rfl rfl rfl ?_
  refine X_getR (t := 95) fl_X12_7 rfl rfl dX12_becomes_1 rfl ?_
  refine X_iload_n (a := 1) dX12_becomes_4 rfl rfl rfl ?_
  refine X_iald rfl rfl dX12_becomes_5 rfl ?_
  refine X_istore_n (lv2 := [(3, .int (gi M 95 (ui v1))), (0, .ref (ga G 94)), (1, .int v1), (2, .int v2)]) dX12_becomes_6 rfl (by decide) rfl rfl ?_
  refine X_aload_n (a := 1) dX12_becomes_7 rfl rfl rfl ?_
  refine X_getR (t := 95) fl_X12_7 rfl rfl dX12_becomes_8 rfl ?_
  refine X_iload_n (a := 2) dX12_becomes_11 rfl rfl rfl ?_
  refine X_iload_n (a := 3) dX12_becomes_12 rfl rfl rfl ?_
  refine X_iast rfl rfl dX12_becomes_13 rfl ?_
  refine X_iload_n (a := 0) dX12_becomes_14 rfl rfl rfl ?_
  exact X_iretJ rfl dX12_becomes_15
set_option maxRecDepth 100000 in
theorem x_X12_puts_L2 (G : Gm) : ∀ (n : Nat) (M : Mm) (v1 : Int32), X fV G miX12_puts (0) 2 [(0, .ref (ga G 94)), (1, .int v1)] [] M (F_X12_puts_L2 n M v1) := by
  intro n
  induction n with
  | zero => intro M v1; exact X_none
  | succ n ih =>
    intro M v1
    rw [F_X12_puts_L2]
    refine X_iload_n (a := 1) dX12_puts_2 rfl rfl rfl ?_
    refine X_bipush (w := 65) dX12_puts_3 kb_65 rfl ?_
    refine X_icmp_ge (tgt := 34) dX12_puts_5 rfl rfl (fun e5 => ?_) (fun e5 => ?_)
    · refine X_aload_n (a := 0) dX12_puts_34 rfl rfl rfl ?_
      refine X_dup dX12_puts_35 rfl rfl ?_
      refine X_getI fl_X12_65 rfl dX12_puts_36 rfl ?_
      refine X_iconst (w := 1) dX12_puts_39 ki_1 rfl ?_
      refine X_iadd dX12_puts_40 rfl ?_
      refine X_putI fp_X12_65 rfl dX12_puts_41 rfl ?_
      exact X_vret rfl dX12_puts_44
    · refine X_aload_n (a := 0) dX12_puts_8 rfl rfl rfl ?_
      refine X_getR (t := 97) fl_X12_16 rfl rfl dX12_puts_9 rfl ?_
      refine X_bipush (w := 65) dX12_puts_12 kb_65 rfl ?_
      refine X_aload_n (a := 0) dX12_puts_14 rfl rfl rfl ?_
      refine X_getI fl_X12_65 rfl dX12_puts_15 rfl ?_
      refine X_imul dX12_puts_18 rfl ?_
      refine X_iload_n (a := 1) dX12_puts_19 rfl rfl rfl ?_
      refine X_iadd dX12_puts_20 rfl ?_
      refine X_aload_n (a := 0) dX12_puts_21 rfl rfl rfl ?_
      refine X_getR (t := 95) fl_X12_7 rfl rfl dX12_puts_22 rfl ?_
      refine X_iload_n (a := 1) dX12_puts_25 rfl rfl rfl ?_
      refine X_iald rfl rfl dX12_puts_26 rfl ?_
      refine X_iast rfl rfl dX12_puts_27 rfl ?_
      refine X_iinc (a := 1) (lv2 := [(1, .int (v1 + 1)), (0, .ref (ga G 94))]) dX12_puts_28 rfl (ii_1 _) (by decide) rfl rfl ?_
      refine X_goto (tgt := 2) dX12_puts_31 rfl ?_
      exact X_lv [1, 0] rfl (ih (si M 97 (ui ((65 * (gi M 94 4)) + v1)) (gi M 95 (ui v1))) (v1 + 1))
set_option maxRecDepth 100000 in
theorem c_X12_puts (G : Gm) (M : Mm) : Ct fV G miX12_puts (0) [.ref (ga G 94)] M (F_X12_puts M) := by
  refine Ct_of (pn_X12) (Nat.le_of_ble_eq_true rfl) ?_
  refine X_lv [0] (lv' := [(0, .ref (ga G 94))]) rfl ?_
  unfold F_X12_puts
  refine X_iconst (w := 0) dX12_puts_0 ki_0 rfl ?_
  refine X_istore_n (lv2 := [(1, .int 0), (0, .ref (ga G 94))]) dX12_puts_1 rfl (by decide) rfl rfl ?_
  exact X_lv [1, 0] rfl (x_X12_puts_L2 G 1000 M 0)
set_option maxRecDepth 100000 in
theorem x_X12_back_L2 (G : Gm) : ∀ (n : Nat) (M : Mm) (v1 : Int32), X fV G miX12_back (0) 2 [(0, .ref (ga G 94)), (1, .int v1)] [] M (F_X12_back_L2 n M v1) := by
  intro n
  induction n with
  | zero => intro M v1; exact X_none
  | succ n ih =>
    intro M v1
    rw [F_X12_back_L2]
    refine X_iload_n (a := 1) dX12_back_2 rfl rfl rfl ?_
    refine X_bipush (w := 65) dX12_back_3 kb_65 rfl ?_
    refine X_icmp_ge (tgt := 36) dX12_back_5 rfl rfl (fun e5 => ?_) (fun e5 => ?_)
    · exact X_vret rfl dX12_back_36
    · refine X_aload_n (a := 0) dX12_back_8 rfl rfl rfl ?_
      refine X_getR (t := 95) fl_X12_7 rfl rfl dX12_back_9 rfl ?_
      refine X_iload_n (a := 1) dX12_back_12 rfl rfl rfl ?_
      refine X_aload_n (a := 0) dX12_back_13 rfl rfl rfl ?_
      refine X_getR (t := 97) fl_X12_16 rfl rfl dX12_back_14 rfl ?_
      refine X_bipush (w := 65) dX12_back_17 kb_65 rfl ?_
      refine X_aload_n (a := 0) dX12_back_19 rfl rfl rfl ?_
      refine X_getI fl_X12_65 rfl dX12_back_20 rfl ?_
      refine X_iconst (w := 1) dX12_back_23 ki_1 rfl ?_
      refine X_isub dX12_back_24 rfl ?_
      refine X_imul dX12_back_25 rfl ?_
      refine X_iload_n (a := 1) dX12_back_26 rfl rfl rfl ?_
      refine X_iadd dX12_back_27 rfl ?_
      refine X_iald rfl rfl dX12_back_28 rfl ?_
      refine X_iast rfl rfl dX12_back_29 rfl ?_
      refine X_iinc (a := 1) (lv2 := [(1, .int (v1 + 1)), (0, .ref (ga G 94))]) dX12_back_30 rfl (ii_1 _) (by decide) rfl rfl ?_
      refine X_goto (tgt := 2) dX12_back_33 rfl ?_
      exact X_lv [1, 0] rfl (ih (si M 95 (ui v1) (gi M 97 (ui ((65 * ((gi M 94 4) - 1)) + v1)))) (v1 + 1))
set_option maxRecDepth 100000 in
theorem c_X12_back (G : Gm) (M : Mm) : Ct fV G miX12_back (0) [.ref (ga G 94)] M (F_X12_back M) := by
  refine Ct_of (pn_X12) (Nat.le_of_ble_eq_true rfl) ?_
  refine X_lv [0] (lv' := [(0, .ref (ga G 94))]) rfl ?_
  unfold F_X12_back
  refine X_iconst (w := 0) dX12_back_0 ki_0 rfl ?_
  refine X_istore_n (lv2 := [(1, .int 0), (0, .ref (ga G 94))]) dX12_back_1 rfl (by decide) rfl rfl ?_
  exact X_lv [1, 0] rfl (x_X12_back_L2 G 1000 M 0)
set_option maxRecDepth 100000 in
theorem c_X12_takes (G : Gm) (M : Mm) : Ct fV G miX12_takes (1) [.ref (ga G 94)] M (F_X12_takes M) := by
  refine Ct_of (pn_X12) (Nat.le_of_ble_eq_true rfl) ?_
  refine X_lv [0] (lv' := [(0, .ref (ga G 94))]) rfl ?_
  unfold F_X12_takes
  refine X_aload_n (a := 0) dX12_takes_0 rfl rfl rfl ?_
  refine X_ruV (Ru_V (st := []) cv_X12_69 rfl (c_X12_back G M) (by decide) rfl rfl (Nat.le_of_ble_eq_true rfl) dX12_takes_1) rfl (fun r1 => ?_)
  refine X_aload_n (a := 0) dX12_takes_4 rfl rfl rfl ?_
  refine X_dup dX12_takes_5 rfl rfl ?_
  refine X_getI fl_X12_65 rfl dX12_takes_6 rfl ?_
  refine X_iconst (w := 1) dX12_takes_9 ki_1 rfl ?_
  refine X_isub dX12_takes_10 rfl ?_
  refine X_putI fp_X12_65 rfl dX12_takes_11 rfl ?_
  exact X_vret rfl dX12_takes_14
set_option maxRecDepth 100000 in
theorem c_X12_isOver (G : Gm) (M : Mm) : Ct (fI M) G miX12_isOver (0) [.ref (ga G 94)] M (F_X12_isOver M) := by
  refine Ct_of (pn_X12) (Nat.le_of_ble_eq_true rfl) ?_
  refine X_lv [0] (lv' := [(0, .ref (ga G 94))]) rfl ?_
  unfold F_X12_isOver
  refine X_aload_n (a := 0) dX12_isOver_0 rfl rfl rfl ?_
  refine X_getR (t := 95) fl_X12_7 rfl rfl dX12_isOver_1 rfl ?_
  refine X_iconst (w := 1) dX12_isOver_4 ki_1 rfl ?_
  refine X_iald rfl rfl dX12_isOver_5 rfl ?_
  refine X_aload_n (a := 0) dX12_isOver_6 rfl rfl rfl ?_
  refine X_getR (t := 95) fl_X12_7 rfl rfl dX12_isOver_7 rfl ?_
  refine X_iconst (w := 2) dX12_isOver_10 ki_2 rfl ?_
  refine X_iald rfl rfl dX12_isOver_11 rfl ?_
  refine X_icmp_lt (tgt := 19) dX12_isOver_12 rfl rfl (fun e12 => ?_) (fun e12 => ?_)
  · refine X_iconst (w := 0) dX12_isOver_19 ki_0 rfl ?_
    exact X_zretI rfl dX12_isOver_20
  · refine X_iconst (w := 1) dX12_isOver_15 ki_1 rfl ?_
    refine X_goto (tgt := 20) dX12_isOver_16 rfl ?_
    exact X_zretI rfl dX12_isOver_20
set_option maxRecDepth 100000 in
theorem c_X12_waterOf (G : Gm) (M : Mm) (v1 : Int32) : Ct (fI M) G miX12_waterOf (0) [.ref (ga G 94), .int v1] M (F_X12_waterOf M v1) := by
  refine Ct_of (pn_X12) (Nat.le_of_ble_eq_true rfl) ?_
  refine X_lv [0, 1] (lv' := [(0, .ref (ga G 94)), (1, .int v1)]) rfl ?_
  unfold F_X12_waterOf
  refine X_iload_n (a := 1) dX12_waterOf_0 rfl rfl rfl ?_
  refine X_bipush (w := 16) dX12_waterOf_1 kb_16 rfl ?_
  refine X_icmp_ge (tgt := 18) dX12_waterOf_3 rfl rfl (fun e3 => ?_) (fun e3 => ?_)
  · refine X_iconst (w := 0) dX12_waterOf_18 ki_0 rfl ?_
    exact X_iretI rfl dX12_waterOf_19
  · refine X_aload_n (a := 0) dX12_waterOf_6 rfl rfl rfl ?_
    refine X_getR (t := 95) fl_X12_7 rfl rfl dX12_waterOf_7 rfl ?_
    refine X_bipush (w := 7) dX12_waterOf_10 kb_7 rfl ?_
    refine X_iload_n (a := 1) dX12_waterOf_12 rfl rfl rfl ?_
    refine X_iadd dX12_waterOf_13 rfl ?_
    refine X_iald rfl rfl dX12_waterOf_14 rfl ?_
    refine X_goto (tgt := 19) dX12_waterOf_15 rfl ?_
    exact X_iretI rfl dX12_waterOf_19
set_option maxRecDepth 100000 in
theorem c_X12_rise (G : Gm) (M : Mm) : Ct (fI M) G miX12_rise (1) [.ref (ga G 94)] M (F_X12_rise M) := by
  refine Ct_of (pn_X12) (Nat.le_of_ble_eq_true rfl) ?_
  refine X_lv [0] (lv' := [(0, .ref (ga G 94))]) rfl ?_
  unfold F_X12_rise
  refine X_aload_n (a := 0) dX12_rise_0 rfl rfl rfl ?_
  refine X_aload_n (a := 0) dX12_rise_1 rfl rfl rfl ?_
  refine X_getR (t := 95) fl_X12_7 rfl rfl dX12_rise_2 rfl ?_
  refine X_iconst (w := 1) dX12_rise_5 ki_1 rfl ?_
  refine X_iald rfl rfl dX12_rise_6 rfl ?_
  refine X_ruI (Ru_V (st := []) cv_X12_72 rfl (c_X12_waterOf G M (gi M 95 (ui 1))) (by decide) rfl rfl (Nat.le_of_ble_eq_true rfl) dX12_rise_7) rfl (fun r7 => ?_)
  refine X_iconst (w := 4) dX12_rise_10 ki_4 rfl ?_
  refine X_idiv dX12_rise_11 (by decide) rfl ?_
  exact X_iretI rfl dX12_rise_12
set_option maxRecDepth 100000 in
theorem c_X12_salt (G : Gm) (M : Mm) : Ct (fI M) G miX12_salt (1) [.ref (ga G 94)] M (F_X12_salt M) := by
  refine Ct_of (pn_X12) (Nat.le_of_ble_eq_true rfl) ?_
  refine X_lv [0] (lv' := [(0, .ref (ga G 94))]) rfl ?_
  unfold F_X12_salt
  refine X_aload_n (a := 0) dX12_salt_0 rfl rfl rfl ?_
  refine X_aload_n (a := 0) dX12_salt_1 rfl rfl rfl ?_
  refine X_getR (t := 95) fl_X12_7 rfl rfl dX12_salt_2 rfl ?_
  refine X_iconst (w := 1) dX12_salt_5 ki_1 rfl ?_
  refine X_iald rfl rfl dX12_salt_6 rfl ?_
  refine X_ruI (Ru_V (st := []) cv_X12_72 rfl (c_X12_waterOf G M (gi M 95 (ui 1))) (by decide) rfl rfl (Nat.le_of_ble_eq_true rfl) dX12_salt_7) rfl (fun r7 => ?_)
  refine X_iconst (w := 4) dX12_salt_10 ki_4 rfl ?_
  refine X_irem dX12_salt_11 (by decide) rfl ?_
  exact X_iretI rfl dX12_salt_12
set_option maxRecDepth 100000 in
theorem c_X12_above (G : Gm) (M : Mm) (v0 : Int32) : Ct (fI M) G miX12_above (0) [.int v0] M (F_X12_above v0) := by
  refine Ct_of (pn_X12) (Nat.le_of_ble_eq_true rfl) ?_
  refine X_lv [0] (lv' := [(0, .int v0)]) rfl ?_
  unfold F_X12_above
  refine X_iload_n (a := 0) dX12_above_0 rfl rfl rfl ?_
  refine X_iconst (w := 3) dX12_above_1 ki_3 rfl ?_
  refine X_icmp_ne (tgt := 9) dX12_above_2 rfl rfl (fun e2 => ?_) (fun e2 => ?_)
  · refine X_iload_n (a := 0) dX12_above_9 rfl rfl rfl ?_
    refine X_iconst (w := 5) dX12_above_10 ki_5 rfl ?_
    refine X_icmp_ne (tgt := 18) dX12_above_11 rfl rfl (fun e11 => ?_) (fun e11 => ?_)
    · refine X_iconst (w := 0) dX12_above_18 ki_0 rfl ?_
      exact X_iretI rfl dX12_above_19
    · refine X_iconst (w := 4) dX12_above_14 ki_4 rfl ?_
      refine X_goto (tgt := 19) dX12_above_15 rfl ?_
      exact X_iretI rfl dX12_above_19
  · refine X_iconst (w := 2) dX12_above_5 ki_2 rfl ?_
    refine X_goto (tgt := 19) dX12_above_6 rfl ?_
    exact X_iretI rfl dX12_above_19
set_option maxRecDepth 100000 in
theorem c_X12_leaksBy (G : Gm) (M : Mm) (v0 : Int32) (v1 : Int32) (v2 : Int32) (v3 : Int32) : Ct (fI M) G miX12_leaksBy (0) [.int v0, .int v1, .int v2, .int v3] M (F_X12_leaksBy v0 v1 v2 v3) := by
  refine Ct_of (pn_X12) (Nat.le_of_ble_eq_true rfl) ?_
  refine X_lv [0, 1, 2, 3] (lv' := [(0, .int v0), (1, .int v1), (2, .int v2), (3, .int v3)]) rfl ?_
  unfold F_X12_leaksBy
  refine X_iload_n (a := 0) dX12_leaksBy_0 rfl rfl rfl ?_
  refine X_if (fun e1_1 => ?_) (fun e1_1 => ?_)
  · refine X_tsIn (tgt := 36) dX12_leaksBy_1 (by rw [e1_1]; decide) (by rw [e1_1]; decide) (by rw [e1_1]; rfl) rfl ?_
    refine X_iconst (w := 1) dX12_leaksBy_36 ki_1 rfl ?_
    exact X_iretI rfl dX12_leaksBy_37
  · skip
    refine X_if (fun e1_2 => ?_) (fun e1_2 => ?_)
    · refine X_tsIn (tgt := 38) dX12_leaksBy_1 (by rw [e1_2]; decide) (by rw [e1_2]; decide) (by rw [e1_2]; rfl) rfl ?_
      refine X_iconst (w := 2) dX12_leaksBy_38 ki_2 rfl ?_
      refine X_iconst (w := 2) dX12_leaksBy_39 ki_2 rfl ?_
      refine X_iload_n (a := 1) dX12_leaksBy_40 rfl rfl rfl ?_
      refine X_iadd dX12_leaksBy_41 rfl ?_
      refine X_imul dX12_leaksBy_42 rfl ?_
      exact X_iretI rfl dX12_leaksBy_43
    · skip
      refine X_if (fun e1_3 => ?_) (fun e1_3 => ?_)
      · refine X_tsIn (tgt := 44) dX12_leaksBy_1 (by rw [e1_3]; decide) (by rw [e1_3]; decide) (by rw [e1_3]; rfl) rfl ?_
        refine X_iconst (w := 2) dX12_leaksBy_44 ki_2 rfl ?_
        refine X_iload_n (a := 1) dX12_leaksBy_45 rfl rfl rfl ?_
        refine X_imul dX12_leaksBy_46 rfl ?_
        exact X_iretI rfl dX12_leaksBy_47
      · skip
        refine X_if (fun e1_4 => ?_) (fun e1_4 => ?_)
        · refine X_tsIn (tgt := 48) dX12_leaksBy_1 (by rw [e1_4]; decide) (by rw [e1_4]; decide) (by rw [e1_4]; rfl) rfl ?_
          refine X_iload_n (a := 1) dX12_leaksBy_48 rfl rfl rfl ?_
          refine X_iload_n (a := 2) dX12_leaksBy_49 rfl rfl rfl ?_
          refine X_imul dX12_leaksBy_50 rfl ?_
          exact X_iretI rfl dX12_leaksBy_51
        · skip
          refine X_if (fun e1_5 => ?_) (fun e1_5 => ?_)
          · refine X_tsIn (tgt := 52) dX12_leaksBy_1 (by rw [e1_5]; decide) (by rw [e1_5]; decide) (by rw [e1_5]; rfl) rfl ?_
            refine X_iload_n (a := 1) dX12_leaksBy_52 rfl rfl rfl ?_
            refine X_iload_n (a := 2) dX12_leaksBy_53 rfl rfl rfl ?_
            refine X_imul dX12_leaksBy_54 rfl ?_
            refine X_iload_n (a := 3) dX12_leaksBy_55 rfl rfl rfl ?_
            refine X_iconst (w := 4) dX12_leaksBy_56 ki_4 rfl ?_
            refine X_idiv dX12_leaksBy_57 (by decide) rfl ?_
            refine X_iadd dX12_leaksBy_58 rfl ?_
            exact X_iretI rfl dX12_leaksBy_59
          · skip
            refine X_tsOut (tgt := 60) dX12_leaksBy_1 (by have ne1_1 := ne_toInt e1_1 (n := 1) (by decide); have ne1_2 := ne_toInt e1_2 (n := 2) (by decide); have ne1_3 := ne_toInt e1_3 (n := 3) (by decide); have ne1_4 := ne_toInt e1_4 (n := 4) (by decide); have ne1_5 := ne_toInt e1_5 (n := 5) (by decide); omega) rfl ?_
            refine X_iconst (w := 2) dX12_leaksBy_60 ki_2 rfl ?_
            refine X_iload_n (a := 1) dX12_leaksBy_61 rfl rfl rfl ?_
            refine X_iadd dX12_leaksBy_62 rfl ?_
            exact X_iretI rfl dX12_leaksBy_63
set_option maxRecDepth 100000 in
theorem c_X12_floatsBy (G : Gm) (M : Mm) (v0 : Int32) (v1 : Int32) (v2 : Int32) (v3 : Int32) : Ct (fI M) G miX12_floatsBy (1) [.int v0, .int v1, .int v2, .int v3] M (F_X12_floatsBy v0 v1 v2 v3) := by
  refine Ct_of (pn_X12) (Nat.le_of_ble_eq_true rfl) ?_
  refine X_lv [0, 1, 2, 3] (lv' := [(0, .int v0), (1, .int v1), (2, .int v2), (3, .int v3)]) rfl ?_
  unfold F_X12_floatsBy
  refine X_bipush (w := 9) dX12_floatsBy_0 kb_9 rfl ?_
  refine X_iload_n (a := 1) dX12_floatsBy_2 rfl rfl rfl ?_
  refine X_bipush (w := 11) dX12_floatsBy_3 kb_11 rfl ?_
  refine X_idiv dX12_floatsBy_5 (by decide) rfl ?_
  refine X_isub dX12_floatsBy_6 rfl ?_
  refine X_iconst (w := 0) dX12_floatsBy_7 ki_0 rfl ?_
  refine X_bipush (w := 99) dX12_floatsBy_8 kb_99 rfl ?_
  refine X_ruI (Ru_S (st := []) cs_X12_76 (c_X12_held G M (9 - (v1 / 11)) 0 99) (by decide) rfl rfl (Nat.le_of_ble_eq_true rfl) dX12_floatsBy_10) rfl (fun r10 => ?_)
  refine X_istore (lv2 := [(4, .int r10), (0, .int v0), (1, .int v1), (2, .int v2), (3, .int v3)]) dX12_floatsBy_13 (by decide) rfl rfl ?_
  refine X_iload_n (a := 1) dX12_floatsBy_15 rfl rfl rfl ?_
  refine X_if (fun e16_1 => ?_) (fun e16_1 => ?_)
  · refine X_tsIn (tgt := 52) dX12_floatsBy_16 (by rw [e16_1]; decide) (by rw [e16_1]; decide) (by rw [e16_1]; rfl) rfl ?_
    refine X_iconst (w := 0) dX12_floatsBy_52 ki_0 rfl ?_
    exact X_iretI rfl dX12_floatsBy_53
  · skip
    refine X_if (fun e16_2 => ?_) (fun e16_2 => ?_)
    · refine X_tsIn (tgt := 54) dX12_floatsBy_16 (by rw [e16_2]; decide) (by rw [e16_2]; decide) (by rw [e16_2]; rfl) rfl ?_
      refine X_iload (a := 0) dX12_floatsBy_54 rfl rfl ?_
      refine X_iconst (w := 2) dX12_floatsBy_56 ki_2 rfl ?_
      refine X_idiv dX12_floatsBy_57 (by decide) rfl ?_
      exact X_iretI rfl dX12_floatsBy_58
    · skip
      refine X_if (fun e16_3 => ?_) (fun e16_3 => ?_)
      · refine X_tsIn (tgt := 59) dX12_floatsBy_16 (by rw [e16_3]; decide) (by rw [e16_3]; decide) (by rw [e16_3]; rfl) rfl ?_
        refine X_iload (a := 0) dX12_floatsBy_59 rfl rfl ?_
        refine X_iconst (w := 2) dX12_floatsBy_61 ki_2 rfl ?_
        refine X_idiv dX12_floatsBy_62 (by decide) rfl ?_
        refine X_iload_n (a := 3) dX12_floatsBy_63 rfl rfl rfl ?_
        refine X_iconst (w := 3) dX12_floatsBy_64 ki_3 rfl ?_
        refine X_idiv dX12_floatsBy_65 (by decide) rfl ?_
        refine X_iadd dX12_floatsBy_66 rfl ?_
        exact X_iretI rfl dX12_floatsBy_67
      · skip
        refine X_if (fun e16_4 => ?_) (fun e16_4 => ?_)
        · refine X_tsIn (tgt := 68) dX12_floatsBy_16 (by rw [e16_4]; decide) (by rw [e16_4]; decide) (by rw [e16_4]; rfl) rfl ?_
          refine X_iload (a := 0) dX12_floatsBy_68 rfl rfl ?_
          refine X_iload_n (a := 3) dX12_floatsBy_70 rfl rfl rfl ?_
          refine X_iconst (w := 2) dX12_floatsBy_71 ki_2 rfl ?_
          refine X_idiv dX12_floatsBy_72 (by decide) rfl ?_
          refine X_iadd dX12_floatsBy_73 rfl ?_
          exact X_iretI rfl dX12_floatsBy_74
        · skip
          refine X_if (fun e16_5 => ?_) (fun e16_5 => ?_)
          · refine X_tsIn (tgt := 75) dX12_floatsBy_16 (by rw [e16_5]; decide) (by rw [e16_5]; decide) (by rw [e16_5]; rfl) rfl ?_
            refine X_iload (a := 0) dX12_floatsBy_75 rfl rfl ?_
            refine X_iload_n (a := 3) dX12_floatsBy_77 rfl rfl rfl ?_
            refine X_iconst (w := 2) dX12_floatsBy_78 ki_2 rfl ?_
            refine X_idiv dX12_floatsBy_79 (by decide) rfl ?_
            refine X_iadd dX12_floatsBy_80 rfl ?_
            refine X_iload_n (a := 4) dX12_floatsBy_81 rfl rfl rfl ?_
            refine X_iadd dX12_floatsBy_82 rfl ?_
            refine X_iconst (w := 0) dX12_floatsBy_83 ki_0 rfl ?_
            refine X_bipush (w := 9) dX12_floatsBy_84 kb_9 rfl ?_
            refine X_ruI (Ru_S (st := []) cs_X12_76 (c_X12_held G M ((r10 + (v2 / 2)) + v3) 0 9) (by decide) rfl rfl (Nat.le_of_ble_eq_true rfl) dX12_floatsBy_86) rfl (fun r86 => ?_)
            exact X_iretI rfl dX12_floatsBy_89
          · skip
            refine X_tsOut (tgt := 90) dX12_floatsBy_16 (by have ne16_1 := ne_toInt e16_1 (n := 1) (by decide); have ne16_2 := ne_toInt e16_2 (n := 2) (by decide); have ne16_3 := ne_toInt e16_3 (n := 3) (by decide); have ne16_4 := ne_toInt e16_4 (n := 4) (by decide); have ne16_5 := ne_toInt e16_5 (n := 5) (by decide); omega) rfl ?_
            refine X_iload (a := 0) dX12_floatsBy_90 rfl rfl ?_
            exact X_iretI rfl dX12_floatsBy_92
set_option maxRecDepth 100000 in
theorem x_X12_stakedBelow_L4 (G : Gm) (M : Mm) (v1 : Int32) : ∀ (n : Nat) (v2 : Int32) (v3 : Int32), X (fI M) G miX12_stakedBelow (1) 4 [(0, .ref (ga G 94)), (1, .int v1), (2, .int v2), (3, .int v3)] [] M (F_X12_stakedBelow_L4 M v1 n v2 v3) := by
  intro n
  induction n with
  | zero => intro v2 v3; exact X_none
  | succ n ih =>
    intro v2 v3
    rw [F_X12_stakedBelow_L4]
    refine X_iload_n (a := 3) dX12_stakedBelow_4 rfl rfl rfl ?_
    refine X_aload_n (a := 0) dX12_stakedBelow_5 rfl rfl rfl ?_
    refine X_getR (t := 95) fl_X12_7 rfl rfl dX12_stakedBelow_6 rfl ?_
    refine X_iconst (w := 0) dX12_stakedBelow_9 ki_0 rfl ?_
    refine X_iald rfl rfl dX12_stakedBelow_10 rfl ?_
    refine X_icmp_ge (tgt := 55) dX12_stakedBelow_11 rfl rfl (fun e11 => ?_) (fun e11 => ?_)
    · refine X_iload_n (a := 2) dX12_stakedBelow_55 rfl rfl rfl ?_
      exact X_iretI rfl dX12_stakedBelow_56
    · refine X_iload_n (a := 2) dX12_stakedBelow_14 rfl rfl rfl ?_
      refine X_aload_n (a := 0) dX12_stakedBelow_15 rfl rfl rfl ?_
      refine X_iload_n (a := 3) dX12_stakedBelow_16 rfl rfl rfl ?_
      refine X_iconst (w := 4) dX12_stakedBelow_17 ki_4 rfl ?_
      refine X_ruI (Ru_V (st := [.int v2]) cv_X12_80 rfl (c_X12_of G M v3 4) (by decide) rfl rfl (Nat.le_of_ble_eq_true rfl) dX12_stakedBelow_18) rfl (fun r18 => ?_)
      refine X_iconst (w := 1) dX12_stakedBelow_21 ki_1 rfl ?_
      refine X_jc (P := fun j => ∀ (x47_0 : Int32), X (fI M) G miX12_stakedBelow (1) 47 [(0, .ref (ga G 94)), (1, .int v1), (3, .int v3)] [.int x47_0, .int v2] M (j x47_0)) (fun x47_0 => ?_) (fun j47 hj47 => ?_)
      · refine X_iadd dX12_stakedBelow_47 rfl ?_
        refine X_istore_n (lv2 := [(2, .int (v2 + x47_0)), (0, .ref (ga G 94)), (1, .int v1), (3, .int v3)]) dX12_stakedBelow_48 rfl (by decide) rfl rfl ?_
        refine X_iinc (a := 3) (lv2 := [(3, .int (v3 + 1)), (2, .int (v2 + x47_0)), (0, .ref (ga G 94)), (1, .int v1)]) dX12_stakedBelow_49 rfl (ii_1 _) (by decide) rfl rfl ?_
        refine X_goto (tgt := 4) dX12_stakedBelow_52 rfl ?_
        exact X_lv [2, 3, 1, 0] rfl (ih (v2 + x47_0) (v3 + 1))
      refine X_jc (P := fun j => X (fI M) G miX12_stakedBelow (1) 46 [(0, .ref (ga G 94)), (1, .int v1), (3, .int v3)] [.int v2] M (j)) (?_) (fun j46 hj46 => ?_)
      · refine X_iconst (w := 0) dX12_stakedBelow_46 ki_0 rfl ?_
        exact X_lv [0, 1, 2] rfl (hj47 0)
      refine X_icmp_ne (tgt := 46) dX12_stakedBelow_22 rfl rfl (fun e22 => ?_) (fun e22 => ?_)
      · exact X_lv [0, 1, 3] rfl (hj46)
      · refine X_aload_n (a := 0) dX12_stakedBelow_25 rfl rfl rfl ?_
        refine X_iload_n (a := 3) dX12_stakedBelow_26 rfl rfl rfl ?_
        refine X_iconst (w := 3) dX12_stakedBelow_27 ki_3 rfl ?_
        refine X_ruI (Ru_V (st := [.int v2]) cv_X12_80 rfl (c_X12_of G M v3 3) (by decide) rfl rfl (Nat.le_of_ble_eq_true rfl) dX12_stakedBelow_28) rfl (fun r28 => ?_)
        refine X_aload_n (a := 0) dX12_stakedBelow_31 rfl rfl rfl ?_
        refine X_iload_n (a := 1) dX12_stakedBelow_32 rfl rfl rfl ?_
        refine X_iconst (w := 3) dX12_stakedBelow_33 ki_3 rfl ?_
        refine X_ruI (Ru_V (st := [.int r28, .int v2]) cv_X12_80 rfl (c_X12_of G M v1 3) (by decide) rfl rfl (Nat.le_of_ble_eq_true rfl) dX12_stakedBelow_34) rfl (fun r34 => ?_)
        refine X_iconst (w := 1) dX12_stakedBelow_37 ki_1 rfl ?_
        refine X_isub dX12_stakedBelow_38 rfl ?_
        refine X_icmp_ne (tgt := 46) dX12_stakedBelow_39 rfl rfl (fun e39 => ?_) (fun e39 => ?_)
        · exact X_lv [0, 1, 3] rfl (hj46)
        · refine X_iconst (w := 1) dX12_stakedBelow_42 ki_1 rfl ?_
          refine X_goto (tgt := 47) dX12_stakedBelow_43 rfl ?_
          exact X_lv [0, 1, 3] rfl (hj47 1)
set_option maxRecDepth 100000 in
theorem c_X12_stakedBelow (G : Gm) (M : Mm) (v1 : Int32) : Ct (fI M) G miX12_stakedBelow (1) [.ref (ga G 94), .int v1] M (F_X12_stakedBelow M v1) := by
  refine Ct_of (pn_X12) (Nat.le_of_ble_eq_true rfl) ?_
  refine X_lv [0, 1] (lv' := [(0, .ref (ga G 94)), (1, .int v1)]) rfl ?_
  unfold F_X12_stakedBelow
  refine X_iconst (w := 0) dX12_stakedBelow_0 ki_0 rfl ?_
  refine X_istore_n (lv2 := [(2, .int 0), (0, .ref (ga G 94)), (1, .int v1)]) dX12_stakedBelow_1 rfl (by decide) rfl rfl ?_
  refine X_iconst (w := 0) dX12_stakedBelow_2 ki_0 rfl ?_
  refine X_istore_n (lv2 := [(3, .int 0), (2, .int 0), (0, .ref (ga G 94)), (1, .int v1)]) dX12_stakedBelow_3 rfl (by decide) rfl rfl ?_
  exact X_lv [2, 3, 1, 0] rfl (x_X12_stakedBelow_L4 G M v1 1000 0 0)
set_option maxRecDepth 100000 in
theorem c_X12_leaks (G : Gm) (M : Mm) (v1 : Int32) : Ct (fI M) G miX12_leaks (2) [.ref (ga G 94), .int v1] M (F_X12_leaks M v1) := by
  refine Ct_of (pn_X12) (Nat.le_of_ble_eq_true rfl) ?_
  refine X_lv [0, 1] (lv' := [(0, .ref (ga G 94)), (1, .int v1)]) rfl ?_
  unfold F_X12_leaks
  refine X_aload_n (a := 0) dX12_leaks_0 rfl rfl rfl ?_
  refine X_iload_n (a := 1) dX12_leaks_1 rfl rfl rfl ?_
  refine X_iconst (w := 0) dX12_leaks_2 ki_0 rfl ?_
  refine X_ruI (Ru_V (st := []) cv_X12_80 rfl (c_X12_of G M v1 0) (by decide) rfl rfl (Nat.le_of_ble_eq_true rfl) dX12_leaks_3) rfl (fun r3 => ?_)
  refine X_aload_n (a := 0) dX12_leaks_6 rfl rfl rfl ?_
  refine X_ruI (Ru_V (st := [.int r3]) cv_X12_84 rfl (c_X12_rise G M) (by decide) rfl rfl (Nat.le_of_ble_eq_true rfl) dX12_leaks_7) rfl (fun r7 => ?_)
  refine X_aload_n (a := 0) dX12_leaks_10 rfl rfl rfl ?_
  refine X_ruI (Ru_V (st := [.int r7, .int r3]) cv_X12_88 rfl (c_X12_salt G M) (by decide) rfl rfl (Nat.le_of_ble_eq_true rfl) dX12_leaks_11) rfl (fun r11 => ?_)
  refine X_aload_n (a := 0) dX12_leaks_14 rfl rfl rfl ?_
  refine X_getR (t := 95) fl_X12_7 rfl rfl dX12_leaks_15 rfl ?_
  refine X_iconst (w := 1) dX12_leaks_18 ki_1 rfl ?_
  refine X_iald rfl rfl dX12_leaks_19 rfl ?_
  refine X_ruI (Ru_S (st := []) cs_X12_91 (c_X12_leaksBy G M r3 r7 r11 (gi M 95 (ui 1))) (by decide) rfl rfl (Nat.le_of_ble_eq_true rfl) dX12_leaks_20) rfl (fun r20 => ?_)
  refine X_aload_n (a := 0) dX12_leaks_23 rfl rfl rfl ?_
  refine X_getR (t := 95) fl_X12_7 rfl rfl dX12_leaks_24 rfl ?_
  refine X_bipush (w := 29) dX12_leaks_27 kb_29 rfl ?_
  refine X_aload_n (a := 0) dX12_leaks_29 rfl rfl rfl ?_
  refine X_iload_n (a := 1) dX12_leaks_30 rfl rfl rfl ?_
  refine X_iconst (w := 3) dX12_leaks_31 ki_3 rfl ?_
  refine X_ruI (Ru_V (st := [.int 29, .ref (ga G 95), .int r20]) cv_X12_80 rfl (c_X12_of G M v1 3) (by decide) rfl rfl (Nat.le_of_ble_eq_true rfl) dX12_leaks_32) rfl (fun r32 => ?_)
  refine X_iadd dX12_leaks_35 rfl ?_
  refine X_iald rfl rfl dX12_leaks_36 rfl ?_
  refine X_iadd dX12_leaks_37 rfl ?_
  refine X_iconst (w := 2) dX12_leaks_38 ki_2 rfl ?_
  refine X_aload_n (a := 0) dX12_leaks_39 rfl rfl rfl ?_
  refine X_iload_n (a := 1) dX12_leaks_40 rfl rfl rfl ?_
  refine X_ruI (Ru_V (st := [.int 2, .int (r20 + (gi M 95 (ui (29 + r32))))]) cv_X12_95 rfl (c_X12_stakedBelow G M v1) (by decide) rfl rfl (Nat.le_of_ble_eq_true rfl) dX12_leaks_41) rfl (fun r41 => ?_)
  refine X_imul dX12_leaks_44 rfl ?_
  refine X_isub dX12_leaks_45 rfl ?_
  refine X_iconst (w := 0) dX12_leaks_46 ki_0 rfl ?_
  refine X_sipush (w := 361) dX12_leaks_47 ks_361 rfl ?_
  refine X_ruI (Ru_S (st := []) cs_X12_76 (c_X12_held G M ((r20 + (gi M 95 (ui (29 + r32)))) - (2 * r41)) 0 361) (by decide) rfl rfl (Nat.le_of_ble_eq_true rfl) dX12_leaks_50) rfl (fun r50 => ?_)
  exact X_iretI rfl dX12_leaks_53
set_option maxRecDepth 100000 in
theorem c_X12_floats (G : Gm) (M : Mm) (v1 : Int32) : Ct (fI M) G miX12_floats (2) [.ref (ga G 94), .int v1] M (F_X12_floats M v1) := by
  refine Ct_of (pn_X12) (Nat.le_of_ble_eq_true rfl) ?_
  refine X_lv [0, 1] (lv' := [(0, .ref (ga G 94)), (1, .int v1)]) rfl ?_
  unfold F_X12_floats
  refine X_aload_n (a := 0) dX12_floats_0 rfl rfl rfl ?_
  refine X_iload_n (a := 1) dX12_floats_1 rfl rfl rfl ?_
  refine X_iconst (w := 0) dX12_floats_2 ki_0 rfl ?_
  refine X_ruI (Ru_V (st := []) cv_X12_80 rfl (c_X12_of G M v1 0) (by decide) rfl rfl (Nat.le_of_ble_eq_true rfl) dX12_floats_3) rfl (fun r3 => ?_)
  refine X_aload_n (a := 0) dX12_floats_6 rfl rfl rfl ?_
  refine X_iload_n (a := 1) dX12_floats_7 rfl rfl rfl ?_
  refine X_iconst (w := 1) dX12_floats_8 ki_1 rfl ?_
  refine X_ruI (Ru_V (st := [.int r3]) cv_X12_80 rfl (c_X12_of G M v1 1) (by decide) rfl rfl (Nat.le_of_ble_eq_true rfl) dX12_floats_9) rfl (fun r9 => ?_)
  refine X_aload_n (a := 0) dX12_floats_12 rfl rfl rfl ?_
  refine X_iload_n (a := 1) dX12_floats_13 rfl rfl rfl ?_
  refine X_iconst (w := 2) dX12_floats_14 ki_2 rfl ?_
  refine X_ruI (Ru_V (st := [.int r9, .int r3]) cv_X12_80 rfl (c_X12_of G M v1 2) (by decide) rfl rfl (Nat.le_of_ble_eq_true rfl) dX12_floats_15) rfl (fun r15 => ?_)
  refine X_iload_n (a := 1) dX12_floats_18 rfl rfl rfl ?_
  refine X_ruI (Ru_S (st := []) cs_X12_98 (c_X12_floatsBy G M r3 r9 r15 v1) (by decide) rfl rfl (Nat.le_of_ble_eq_true rfl) dX12_floats_19) rfl (fun r19 => ?_)
  exact X_iretI rfl dX12_floats_22
set_option maxRecDepth 100000 in
theorem c_X12_pays (G : Gm) (M : Mm) (v1 : Int32) : Ct (fI M) G miX12_pays (3) [.ref (ga G 94), .int v1] M (F_X12_pays M v1) := by
  refine Ct_of (pn_X12) (Nat.le_of_ble_eq_true rfl) ?_
  refine X_lv [0, 1] (lv' := [(0, .ref (ga G 94)), (1, .int v1)]) rfl ?_
  unfold F_X12_pays
  refine X_aload_n (a := 0) dX12_pays_0 rfl rfl rfl ?_
  refine X_iload_n (a := 1) dX12_pays_1 rfl rfl rfl ?_
  refine X_iconst (w := 4) dX12_pays_2 ki_4 rfl ?_
  refine X_ruI (Ru_V (st := []) cv_X12_80 rfl (c_X12_of G M v1 4) (by decide) rfl rfl (Nat.le_of_ble_eq_true rfl) dX12_pays_3) rfl (fun r3 => ?_)
  refine X_jc (P := fun j => ∀ (x52_0 : Int32), X (fI M) G miX12_pays (3) 52 [(0, .ref (ga G 94)), (1, .int v1)] [.int x52_0] M (j x52_0)) (fun x52_0 => ?_) (fun j52 hj52 => ?_)
  · refine X_istore_n (lv2 := [(2, .int x52_0), (0, .ref (ga G 94)), (1, .int v1)]) dX12_pays_52 rfl (by decide) rfl rfl ?_
    refine X_iload_n (a := 0) dX12_pays_53 rfl rfl rfl ?_
    refine X_if_eq (tgt := 71) dX12_pays_54 rfl rfl (fun e54 => ?_) (fun e54 => ?_)
    · refine X_iconst (w := 0) dX12_pays_71 ki_0 rfl ?_
      exact X_iretI rfl dX12_pays_72
    · refine X_iconst (w := 3) dX12_pays_57 ki_3 rfl ?_
      refine X_aload_n (a := 1) dX12_pays_58 rfl rfl rfl ?_
      refine X_iload_n (a := 2) dX12_pays_59 rfl rfl rfl ?_
      refine X_iconst (w := 1) dX12_pays_60 ki_1 rfl ?_
      refine X_ruI (Ru_V (st := [.int 3]) cv_X12_80 rfl (c_X12_of G M v1 1) (by decide) rfl rfl (Nat.le_of_ble_eq_true rfl) dX12_pays_61) rfl (fun r61 => ?_)
      refine X_bipush (w := 9) dX12_pays_64 kb_9 rfl ?_
      refine X_idiv dX12_pays_66 (by decide) rfl ?_
      refine X_iadd dX12_pays_67 rfl ?_
      refine X_goto (tgt := 72) dX12_pays_68 rfl ?_
      exact X_iretI rfl dX12_pays_72
  refine X_jc (P := fun j => X (fI M) G miX12_pays (3) 51 [(0, .ref (ga G 94)), (1, .int v1)] [] M (j)) (?_) (fun j51 hj51 => ?_)
  · refine X_iconst (w := 0) dX12_pays_51 ki_0 rfl ?_
    exact X_lv [0, 1] rfl (hj52 0)
  refine X_if_ne (tgt := 51) dX12_pays_6 rfl rfl (fun e6 => ?_) (fun e6 => ?_)
  · exact X_lv [0, 1] rfl (hj51)
  · refine X_aload_n (a := 0) dX12_pays_9 rfl rfl rfl ?_
    refine X_iload_n (a := 1) dX12_pays_10 rfl rfl rfl ?_
    refine X_iconst (w := 1) dX12_pays_11 ki_1 rfl ?_
    refine X_ruI (Ru_V (st := []) cv_X12_80 rfl (c_X12_of G M v1 1) (by decide) rfl rfl (Nat.le_of_ble_eq_true rfl) dX12_pays_12) rfl (fun r12 => ?_)
    refine X_if_le (tgt := 51) dX12_pays_15 rfl rfl (fun e15 => ?_) (fun e15 => ?_)
    · exact X_lv [0, 1] rfl (hj51)
    · refine X_aload_n (a := 0) dX12_pays_18 rfl rfl rfl ?_
      refine X_iload_n (a := 1) dX12_pays_19 rfl rfl rfl ?_
      refine X_ruI (Ru_V (st := []) cv_X12_101 rfl (c_X12_floats G M v1) (by decide) rfl rfl (Nat.le_of_ble_eq_true rfl) dX12_pays_20) rfl (fun r20 => ?_)
      refine X_aload_n (a := 0) dX12_pays_23 rfl rfl rfl ?_
      refine X_ruI (Ru_V (st := [.int r20]) cv_X12_84 rfl (c_X12_rise G M) (by decide) rfl rfl (Nat.le_of_ble_eq_true rfl) dX12_pays_24) rfl (fun r24 => ?_)
      refine X_iadd dX12_pays_27 rfl ?_
      refine X_iconst (w := 4) dX12_pays_28 ki_4 rfl ?_
      refine X_aload_n (a := 0) dX12_pays_29 rfl rfl rfl ?_
      refine X_getR (t := 95) fl_X12_7 rfl rfl dX12_pays_30 rfl ?_
      refine X_bipush (w := 23) dX12_pays_33 kb_23 rfl ?_
      refine X_aload_n (a := 0) dX12_pays_35 rfl rfl rfl ?_
      refine X_iload_n (a := 1) dX12_pays_36 rfl rfl rfl ?_
      refine X_iconst (w := 3) dX12_pays_37 ki_3 rfl ?_
      refine X_ruI (Ru_V (st := [.int 23, .ref (ga G 95), .int 4, .int (r20 + r24)]) cv_X12_80 rfl (c_X12_of G M v1 3) (by decide) rfl rfl (Nat.le_of_ble_eq_true rfl) dX12_pays_38) rfl (fun r38 => ?_)
      refine X_iadd dX12_pays_41 rfl ?_
      refine X_iald rfl rfl dX12_pays_42 rfl ?_
      refine X_iadd dX12_pays_43 rfl ?_
      refine X_icmp_gt (tgt := 51) dX12_pays_44 rfl rfl (fun e44 => ?_) (fun e44 => ?_)
      · exact X_lv [0, 1] rfl (hj51)
      · refine X_iconst (w := 1) dX12_pays_47 ki_1 rfl ?_
        refine X_goto (tgt := 52) dX12_pays_48 rfl ?_
        exact X_lv [0, 1] rfl (hj52 1)
set_option maxRecDepth 100000 in
theorem c_X12_factOf (G : Gm) (M : Mm) (v1 : Int32) (v2 : Int32) : Ct (fI M) G miX12_factOf (2) [.ref (ga G 94), .int v1, .int v2] M (F_X12_factOf M v1 v2) := by
  refine Ct_of (pn_X12) (Nat.le_of_ble_eq_true rfl) ?_
  refine X_lv [0, 1, 2] (lv' := [(0, .ref (ga G 94)), (1, .int v1), (2, .int v2)]) rfl ?_
  unfold F_X12_factOf
  refine X_iload_n (a := 1) dX12_factOf_0 rfl rfl rfl ?_
  refine X_if (fun e1_0 => ?_) (fun e1_0 => ?_)
  · refine X_tsIn (tgt := 32) dX12_factOf_1 (by rw [e1_0]; decide) (by rw [e1_0]; decide) (by rw [e1_0]; rfl) rfl ?_
    refine X_aload_n (a := 0) dX12_factOf_32 rfl rfl rfl ?_
    refine X_getR (t := 95) fl_X12_7 rfl rfl dX12_factOf_33 rfl ?_
    refine X_iconst (w := 1) dX12_factOf_36 ki_1 rfl ?_
    refine X_iald rfl rfl dX12_factOf_37 rfl ?_
    exact X_iretI rfl dX12_factOf_38
  · skip
    refine X_if (fun e1_1 => ?_) (fun e1_1 => ?_)
    · refine X_tsIn (tgt := 39) dX12_factOf_1 (by rw [e1_1]; decide) (by rw [e1_1]; decide) (by rw [e1_1]; rfl) rfl ?_
      refine X_aload_n (a := 0) dX12_factOf_39 rfl rfl rfl ?_
      refine X_iload_n (a := 2) dX12_factOf_40 rfl rfl rfl ?_
      refine X_iconst (w := 1) dX12_factOf_41 ki_1 rfl ?_
      refine X_ruI (Ru_V (st := []) cv_X12_80 rfl (c_X12_of G M v2 1) (by decide) rfl rfl (Nat.le_of_ble_eq_true rfl) dX12_factOf_42) rfl (fun r42 => ?_)
      exact X_iretI rfl dX12_factOf_45
    · skip
      refine X_if (fun e1_2 => ?_) (fun e1_2 => ?_)
      · refine X_tsIn (tgt := 46) dX12_factOf_1 (by rw [e1_2]; decide) (by rw [e1_2]; decide) (by rw [e1_2]; rfl) rfl ?_
        refine X_aload_n (a := 0) dX12_factOf_46 rfl rfl rfl ?_
        refine X_iload_n (a := 2) dX12_factOf_47 rfl rfl rfl ?_
        refine X_iconst (w := 2) dX12_factOf_48 ki_2 rfl ?_
        refine X_ruI (Ru_V (st := []) cv_X12_80 rfl (c_X12_of G M v2 2) (by decide) rfl rfl (Nat.le_of_ble_eq_true rfl) dX12_factOf_49) rfl (fun r49 => ?_)
        exact X_iretI rfl dX12_factOf_52
      · skip
        refine X_if (fun e1_3 => ?_) (fun e1_3 => ?_)
        · refine X_tsIn (tgt := 53) dX12_factOf_1 (by rw [e1_3]; decide) (by rw [e1_3]; decide) (by rw [e1_3]; rfl) rfl ?_
          refine X_aload_n (a := 0) dX12_factOf_53 rfl rfl rfl ?_
          refine X_ruI (Ru_V (st := []) cv_X12_84 rfl (c_X12_rise G M) (by decide) rfl rfl (Nat.le_of_ble_eq_true rfl) dX12_factOf_54) rfl (fun r54 => ?_)
          exact X_iretI rfl dX12_factOf_57
        · skip
          refine X_tsOut (tgt := 58) dX12_factOf_1 (by have ne1_0 := ne_toInt e1_0 (n := 0) (by decide); have ne1_1 := ne_toInt e1_1 (n := 1) (by decide); have ne1_2 := ne_toInt e1_2 (n := 2) (by decide); have ne1_3 := ne_toInt e1_3 (n := 3) (by decide); omega) rfl ?_
          refine X_iload_n (a := 2) dX12_factOf_58 rfl rfl rfl ?_
          exact X_iretI rfl dX12_factOf_59
set_option maxRecDepth 100000 in
theorem c_X12_done (G : Gm) (M : Mm) (v0 : Int32) (v1 : Int32) (v2 : Int32) : Ct (fI M) G miX12_done (0) [.int v0, .int v1, .int v2] M (F_X12_done v0 v1 v2) := by
  refine Ct_of (pn_X12) (Nat.le_of_ble_eq_true rfl) ?_
  refine X_lv [0, 1, 2] (lv' := [(0, .int v0), (1, .int v1), (2, .int v2)]) rfl ?_
  unfold F_X12_done
  refine X_iload_n (a := 0) dX12_done_0 rfl rfl rfl ?_
  refine X_if (fun e1_38 => ?_) (fun e1_38 => ?_)
  · refine X_lsw (tgt := 77) dX12_done_1 (by decide) (by rw [e1_38] <;> rfl) rfl ?_
    refine X_iload_n (a := 1) dX12_done_77 rfl rfl rfl ?_
    refine X_iload_n (a := 2) dX12_done_78 rfl rfl rfl ?_
    refine X_imul dX12_done_79 rfl ?_
    exact X_iretI rfl dX12_done_80
  · skip
    refine X_if (fun e1_60 => ?_) (fun e1_60 => ?_)
    · refine X_lsw (tgt := 44) dX12_done_1 (by decide) (by rw [e1_60] <;> rfl) rfl ?_
      refine X_iload_n (a := 1) dX12_done_44 rfl rfl rfl ?_
      refine X_iload_n (a := 2) dX12_done_45 rfl rfl rfl ?_
      refine X_icmp_ge (tgt := 53) dX12_done_46 rfl rfl (fun e46 => ?_) (fun e46 => ?_)
      · refine X_iconst (w := 0) dX12_done_53 ki_0 rfl ?_
        exact X_iretI rfl dX12_done_54
      · refine X_iconst (w := 1) dX12_done_49 ki_1 rfl ?_
        refine X_goto (tgt := 54) dX12_done_50 rfl ?_
        exact X_iretI rfl dX12_done_54
    · skip
      refine X_if (fun e1_61 => ?_) (fun e1_61 => ?_)
      · refine X_lsw (tgt := 55) dX12_done_1 (by decide) (by rw [e1_61] <;> rfl) rfl ?_
        refine X_iload_n (a := 1) dX12_done_55 rfl rfl rfl ?_
        refine X_iload_n (a := 2) dX12_done_56 rfl rfl rfl ?_
        refine X_icmp_ne (tgt := 64) dX12_done_57 rfl rfl (fun e57 => ?_) (fun e57 => ?_)
        · refine X_iconst (w := 0) dX12_done_64 ki_0 rfl ?_
          exact X_iretI rfl dX12_done_65
        · refine X_iconst (w := 1) dX12_done_60 ki_1 rfl ?_
          refine X_goto (tgt := 65) dX12_done_61 rfl ?_
          exact X_iretI rfl dX12_done_65
      · skip
        refine X_if (fun e1_62 => ?_) (fun e1_62 => ?_)
        · refine X_lsw (tgt := 66) dX12_done_1 (by decide) (by rw [e1_62] <;> rfl) rfl ?_
          refine X_iload_n (a := 1) dX12_done_66 rfl rfl rfl ?_
          refine X_iload_n (a := 2) dX12_done_67 rfl rfl rfl ?_
          refine X_icmp_le (tgt := 75) dX12_done_68 rfl rfl (fun e68 => ?_) (fun e68 => ?_)
          · refine X_iconst (w := 0) dX12_done_75 ki_0 rfl ?_
            exact X_iretI rfl dX12_done_76
          · refine X_iconst (w := 1) dX12_done_71 ki_1 rfl ?_
            refine X_goto (tgt := 76) dX12_done_72 rfl ?_
            exact X_iretI rfl dX12_done_76
        · skip
          refine X_lsw (tgt := 81) dX12_done_1 (by decide) (by have ne1_38 := ne_toInt e1_38 (n := 38) (by decide); have ne1_60 := ne_toInt e1_60 (n := 60) (by decide); have ne1_61 := ne_toInt e1_61 (n := 61) (by decide); have ne1_62 := ne_toInt e1_62 (n := 62) (by decide); simp [Op.lookupswitch.offset, Ne.symm ne1_38, Ne.symm ne1_60, Ne.symm ne1_61, Ne.symm ne1_62] <;> rfl) rfl ?_
          refine X_iload_n (a := 1) dX12_done_81 rfl rfl rfl ?_
          refine X_iload_n (a := 2) dX12_done_82 rfl rfl rfl ?_
          refine X_iadd dX12_done_83 rfl ?_
          refine X_if_le (tgt := 91) dX12_done_84 rfl rfl (fun e84 => ?_) (fun e84 => ?_)
          · refine X_iconst (w := 0) dX12_done_91 ki_0 rfl ?_
            exact X_iretI rfl dX12_done_92
          · refine X_iconst (w := 1) dX12_done_87 ki_1 rfl ?_
            refine X_goto (tgt := 92) dX12_done_88 rfl ?_
            exact X_iretI rfl dX12_done_92
set_option maxRecDepth 100000 in
theorem x_X12_holds_L13 (G : Gm) (v2 : Int32) (v3 : Int32) : ∀ (n : Nat) (M : Mm) (v4 : Int32) (v5 : Int32), X fJ G miX12_holds (3) 13 [(0, .ref (ga G 94)), (2, .int v2), (3, .int v3), (4, .int v4), (5, .int v5)] [] M (F_X12_holds_L13 v2 v3 n M v4 v5) := by
  intro n
  induction n with
  | zero => intro M v4 v5; exact X_none
  | succ n ih =>
    intro M v4 v5
    rw [F_X12_holds_L13]
    refine X_iload (a := 4) dX12_holds_13 rfl rfl ?_
    refine X_iload_n (a := 1) dX12_holds_15 rfl rfl rfl ?_
    refine X_icmp_ge (tgt := 150) dX12_holds_16 rfl rfl (fun e16 => ?_) (fun e16 => ?_)
    · refine X_aload_n (a := 0) dX12_holds_150 rfl rfl rfl ?_
      refine X_getR (t := 98) fl_X12_19 rfl rfl dX12_holds_151 rfl ?_
      refine X_iconst (w := 0) dX12_holds_154 ki_0 rfl ?_
      refine X_iald rfl rfl dX12_holds_155 rfl ?_
      refine X_iconst (w := 1) dX12_holds_156 ki_1 rfl ?_
      refine X_icmp_ne (tgt := 164) dX12_holds_157 rfl rfl (fun e157 => ?_) (fun e157 => ?_)
      · refine X_iconst (w := 0) dX12_holds_164 ki_0 rfl ?_
        exact X_zretJ rfl dX12_holds_165
      · refine X_iconst (w := 1) dX12_holds_160 ki_1 rfl ?_
        refine X_goto (tgt := 165) dX12_holds_161 rfl ?_
        exact X_zretJ rfl dX12_holds_165
    · refine X_aload_n (a := 0) dX12_holds_19 rfl rfl rfl ?_
      refine X_getR (t := 95) fl_X12_7 rfl rfl dX12_holds_20 rfl ?_
      refine X_bipush (w := 121) dX12_holds_23 kb_121 rfl ?_
      refine X_iload (a := 4) dX12_holds_25 rfl rfl ?_
      refine X_iadd dX12_holds_27 rfl ?_
      refine X_iald rfl rfl dX12_holds_28 rfl ?_
      refine X_istore (lv2 := [(6, .int (gi M 95 (ui (121 + v5)))), (0, .ref (ga G 94)), (2, .int v2), (3, .int v3), (4, .int v4), (5, .int v5)]) dX12_holds_29 (by decide) rfl rfl ?_
      refine X_iload (a := 0) dX12_holds_31 rfl rfl ?_
      refine X_sipush (w := 20000) dX12_holds_33 ks_20000 rfl ?_
      refine X_jc (P := fun j => ∀ (v4 : Int32) (M : Mm), X fJ G miX12_holds (3) 144 [(0, .ref (ga G 94)), (2, .int v2), (3, .int v3), (4, .int v4), (5, .int v5)] [] M (j v4 M)) (fun v4 M => ?_) (fun j144 hj144 => ?_)
      · refine X_iinc (a := 4) (lv2 := [(5, .int (v5 + 1)), (0, .ref (ga G 94)), (2, .int v2), (3, .int v3), (4, .int v4)]) dX12_holds_144 rfl (ii_1 _) (by decide) rfl rfl ?_
        refine X_goto (tgt := 13) dX12_holds_147 rfl ?_
        exact X_lv [1, 2, 3, 4, 0] rfl (ih M v4 (v5 + 1))
      refine X_icmp_ge (tgt := 76) dX12_holds_36 rfl rfl (fun e36 => ?_) (fun e36 => ?_)
      · refine X_iload (a := 0) dX12_holds_76 rfl rfl ?_
        refine X_sipush (w := 20033) dX12_holds_78 ks_20033 rfl ?_
        refine X_icmp_ne (tgt := 107) dX12_holds_81 rfl rfl (fun e81 => ?_) (fun e81 => ?_)
        · refine X_iinc (a := 4) (lv2 := [(4, .int (v4 + (-1))), (6, .int (gi M 95 (ui (121 + v5)))), (0, .ref (ga G 94)), (2, .int v2), (3, .int v3), (5, .int v5)]) dX12_holds_107 rfl (ii_m1 _) (by decide) rfl rfl ?_
          refine X_aload_n (a := 2) dX12_holds_110 rfl rfl rfl ?_
          refine X_getR (t := 98) fl_X12_19 rfl rfl dX12_holds_111 rfl ?_
          refine X_iload (a := 0) dX12_holds_114 rfl rfl ?_
          refine X_iconst (w := 1) dX12_holds_116 ki_1 rfl ?_
          refine X_isub dX12_holds_117 rfl ?_
          refine X_iload (a := 1) dX12_holds_118 rfl rfl ?_
          refine X_sipush (w := 20000) dX12_holds_120 ks_20000 rfl ?_
          refine X_isub dX12_holds_123 rfl ?_
          refine X_aload_n (a := 2) dX12_holds_124 rfl rfl rfl ?_
          refine X_getR (t := 98) fl_X12_19 rfl rfl dX12_holds_125 rfl ?_
          refine X_iload (a := 0) dX12_holds_128 rfl rfl ?_
          refine X_iconst (w := 1) dX12_holds_130 ki_1 rfl ?_
          refine X_isub dX12_holds_131 rfl ?_
          refine X_iald rfl rfl dX12_holds_132 rfl ?_
          refine X_aload_n (a := 2) dX12_holds_133 rfl rfl rfl ?_
          refine X_getR (t := 98) fl_X12_19 rfl rfl dX12_holds_134 rfl ?_
          refine X_iload (a := 0) dX12_holds_137 rfl rfl ?_
          refine X_iald rfl rfl dX12_holds_139 rfl ?_
          refine X_ruI (Ru_S (st := [.int ((v4 + (-1)) - 1), .ref (ga G 98)]) cs_X12_107 (c_X12_done G M ((gi M 95 (ui (121 + v5))) - 20000) (gi M 98 (ui ((v4 + (-1)) - 1))) (gi M 98 (ui (v4 + (-1))))) (by decide) rfl rfl (Nat.le_of_ble_eq_true rfl) dX12_holds_140) rfl (fun r140 => ?_)
          refine X_iast rfl rfl dX12_holds_143 rfl ?_
          exact X_lv [2, 3, 4, 0, 5] rfl (hj144 (v4 + (-1)) (si M 98 (ui ((v4 + (-1)) - 1)) r140))
        · refine X_aload_n (a := 1) dX12_holds_84 rfl rfl rfl ?_
          refine X_getR (t := 98) fl_X12_19 rfl rfl dX12_holds_85 rfl ?_
          refine X_iload (a := 4) dX12_holds_88 rfl rfl ?_
          refine X_iconst (w := 1) dX12_holds_90 ki_1 rfl ?_
          refine X_isub dX12_holds_91 rfl ?_
          refine X_iconst (w := 1) dX12_holds_92 ki_1 rfl ?_
          refine X_aload_n (a := 1) dX12_holds_93 rfl rfl rfl ?_
          refine X_getR (t := 98) fl_X12_19 rfl rfl dX12_holds_94 rfl ?_
          refine X_iload (a := 4) dX12_holds_97 rfl rfl ?_
          refine X_iconst (w := 1) dX12_holds_99 ki_1 rfl ?_
          refine X_isub dX12_holds_100 rfl ?_
          refine X_iald rfl rfl dX12_holds_101 rfl ?_
          refine X_isub dX12_holds_102 rfl ?_
          refine X_iast rfl rfl dX12_holds_103 rfl ?_
          refine X_goto (tgt := 144) dX12_holds_104 rfl ?_
          exact X_lv [1, 2, 3, 4, 5] rfl (hj144 v4 (si M 98 (ui (v4 - 1)) (1 - (gi M 98 (ui (v4 - 1))))))
      · refine X_aload_n (a := 1) dX12_holds_39 rfl rfl rfl ?_
        refine X_getR (t := 98) fl_X12_19 rfl rfl dX12_holds_40 rfl ?_
        refine X_iload (a := 4) dX12_holds_43 rfl rfl ?_
        refine X_iload (a := 0) dX12_holds_45 rfl rfl ?_
        refine X_sipush (w := 10000) dX12_holds_47 ks_10000 rfl ?_
        refine X_jc (P := fun j => ∀ (x69_0 : Int32), X fJ G miX12_holds (3) 69 [(0, .ref (ga G 94)), (2, .int v2), (3, .int v3), (4, .int v4), (5, .int v5)] [.int x69_0, .int v4, .ref (ga G 98)] M (j x69_0)) (fun x69_0 => ?_) (fun j69 hj69 => ?_)
        · refine X_iast rfl rfl dX12_holds_69 rfl ?_
          refine X_iinc (a := 3) (lv2 := [(4, .int (v4 + 1)), (0, .ref (ga G 94)), (2, .int v2), (3, .int v3), (5, .int v5)]) dX12_holds_70 rfl (ii_1 _) (by decide) rfl rfl ?_
          refine X_goto (tgt := 144) dX12_holds_73 rfl ?_
          exact X_lv [1, 2, 3, 0, 4] rfl (hj144 (v4 + 1) (si M 98 (ui v4) x69_0))
        refine X_icmp_ge (tgt := 58) dX12_holds_50 rfl rfl (fun e50 => ?_) (fun e50 => ?_)
        · refine X_aload_n (a := 1) dX12_holds_58 rfl rfl rfl ?_
          refine X_iload (a := 0) dX12_holds_59 rfl rfl ?_
          refine X_sipush (w := 10000) dX12_holds_61 ks_10000 rfl ?_
          refine X_isub dX12_holds_64 rfl ?_
          refine X_iload_n (a := 3) dX12_holds_65 rfl rfl rfl ?_
          refine X_ruI (Ru_V (st := [.int v4, .ref (ga G 98)]) cv_X12_104 rfl (c_X12_factOf G M ((gi M 95 (ui (121 + v5))) - 10000) v3) (by decide) rfl rfl (Nat.le_of_ble_eq_true rfl) dX12_holds_66) rfl (fun r66 => ?_)
          exact X_lv [1, 2, 3, 4, 5] rfl (hj69 r66)
        · refine X_iload (a := 0) dX12_holds_53 rfl rfl ?_
          refine X_goto (tgt := 69) dX12_holds_55 rfl ?_
          exact X_lv [1, 2, 3, 4, 5] rfl (hj69 (gi M 95 (ui (121 + v5))))
set_option maxRecDepth 100000 in
theorem c_X12_holds (G : Gm) (M : Mm) (v1 : Int32) (v2 : Int32) (v3 : Int32) : Ct fJ G miX12_holds (3) [.ref (ga G 94), .int v1, .int v2, .int v3] M (F_X12_holds M v1 v2 v3) := by
  refine Ct_of (pn_X12) (Nat.le_of_ble_eq_true rfl) ?_
  refine X_lv [0, 1, 2, 3] (lv' := [(0, .ref (ga G 94)), (1, .int v1), (2, .int v2), (3, .int v3)]) rfl ?_
  unfold F_X12_holds
  refine X_iload_n (a := 1) dX12_holds_0 rfl rfl rfl ?_
  refine X_iload_n (a := 2) dX12_holds_1 rfl rfl rfl ?_
  refine X_icmp_ne (tgt := 7) dX12_holds_2 rfl rfl (fun e2 => ?_) (fun e2 => ?_)
  · refine X_iconst (w := 0) dX12_holds_7 ki_0 rfl ?_
    refine X_istore (lv2 := [(4, .int 0), (0, .ref (ga G 94)), (1, .int v1), (2, .int v2), (3, .int v3)]) dX12_holds_8 (by decide) rfl rfl ?_
    refine X_iload_n (a := 2) dX12_holds_10 rfl rfl rfl ?_
    refine X_istore (lv2 := [(5, .int v1), (4, .int 0), (0, .ref (ga G 94)), (1, .int v1), (2, .int v2), (3, .int v3)]) dX12_holds_11 (by decide) rfl rfl ?_
    exact X_lv [2, 4, 5, 1, 0] rfl (x_X12_holds_L13 G v2 v3 1000 M 0 v1)
  · refine X_iconst (w := 1) dX12_holds_5 ki_1 rfl ?_
    exact X_zretJ rfl dX12_holds_6
set_option maxRecDepth 100000 in
theorem x_X12_will_L2 (G : Gm) (v1 : Int32) : ∀ (n : Nat) (M : Mm) (v2 : Int32), X fJ G miX12_will (4) 2 [(0, .ref (ga G 94)), (1, .int v1), (2, .int v2)] [] M (F_X12_will_L2 v1 n M v2) := by
  intro n
  induction n with
  | zero => intro M v2; exact X_none
  | succ n ih =>
    intro M v2
    rw [F_X12_will_L2]
    refine X_iload_n (a := 2) dX12_will_2 rfl rfl rfl ?_
    refine X_aload_n (a := 0) dX12_will_3 rfl rfl rfl ?_
    refine X_getR (t := 95) fl_X12_7 rfl rfl dX12_will_4 rfl ?_
    refine X_iconst (w := 5) dX12_will_7 ki_5 rfl ?_
    refine X_iald rfl rfl dX12_will_8 rfl ?_
    refine X_icmp_ge (tgt := 105) dX12_will_9 rfl rfl (fun e9 => ?_) (fun e9 => ?_)
    · refine X_iconst (w := 0) dX12_will_105 ki_0 rfl ?_
      exact X_iretJ rfl dX12_will_106
    · refine X_aload_n (a := 0) dX12_will_12 rfl rfl rfl ?_
      refine X_getR (t := 95) fl_X12_7 rfl rfl dX12_will_13 rfl ?_
      refine X_bipush (w := 89) dX12_will_16 kb_89 rfl ?_
      refine X_iconst (w := 4) dX12_will_18 ki_4 rfl ?_
      refine X_iload_n (a := 2) dX12_will_19 rfl rfl rfl ?_
      refine X_imul dX12_will_20 rfl ?_
      refine X_iadd dX12_will_21 rfl ?_
      refine X_iald rfl rfl dX12_will_22 rfl ?_
      refine X_istore_n (lv2 := [(3, .int (gi M 95 (ui (89 + (4 * v2))))), (0, .ref (ga G 94)), (1, .int v1), (2, .int v2)]) dX12_will_23 rfl (by decide) rfl rfl ?_
      refine X_iload_n (a := 0) dX12_will_24 rfl rfl rfl ?_
      refine X_jc (P := fun j => ∀ (M : Mm), X fJ G miX12_will (4) 99 [(0, .ref (ga G 94)), (1, .int v1), (2, .int v2)] [] M (j M)) (fun M => ?_) (fun j99 hj99 => ?_)
      · refine X_iinc (a := 2) (lv2 := [(2, .int (v2 + 1)), (0, .ref (ga G 94)), (1, .int v1)]) dX12_will_99 rfl (ii_1 _) (by decide) rfl rfl ?_
        refine X_goto (tgt := 2) dX12_will_102 rfl ?_
        exact X_lv [1, 2, 0] rfl (ih M (v2 + 1))
      refine X_jc (P := fun j => X fJ G miX12_will (4) 51 [(0, .ref (ga G 94)), (1, .int v1), (2, .int v2)] [] M (j)) (?_) (fun j51 hj51 => ?_)
      · refine X_aload_n (a := 0) dX12_will_51 rfl rfl rfl ?_
        refine X_aload_n (a := 0) dX12_will_52 rfl rfl rfl ?_
        refine X_getR (t := 95) fl_X12_7 rfl rfl dX12_will_53 rfl ?_
        refine X_bipush (w := 89) dX12_will_56 kb_89 rfl ?_
        refine X_iconst (w := 4) dX12_will_58 ki_4 rfl ?_
        refine X_iload_n (a := 2) dX12_will_59 rfl rfl rfl ?_
        refine X_imul dX12_will_60 rfl ?_
        refine X_iadd dX12_will_61 rfl ?_
        refine X_iconst (w := 2) dX12_will_62 ki_2 rfl ?_
        refine X_iadd dX12_will_63 rfl ?_
        refine X_iald rfl rfl dX12_will_64 rfl ?_
        refine X_aload_n (a := 0) dX12_will_65 rfl rfl rfl ?_
        refine X_getR (t := 95) fl_X12_7 rfl rfl dX12_will_66 rfl ?_
        refine X_bipush (w := 89) dX12_will_69 kb_89 rfl ?_
        refine X_iconst (w := 4) dX12_will_71 ki_4 rfl ?_
        refine X_iload_n (a := 2) dX12_will_72 rfl rfl rfl ?_
        refine X_imul dX12_will_73 rfl ?_
        refine X_iadd dX12_will_74 rfl ?_
        refine X_iconst (w := 3) dX12_will_75 ki_3 rfl ?_
        refine X_iadd dX12_will_76 rfl ?_
        refine X_iald rfl rfl dX12_will_77 rfl ?_
        refine X_iload_n (a := 1) dX12_will_78 rfl rfl rfl ?_
        refine X_ruJ (Ru_V (st := []) cv_X12_113 rfl (c_X12_holds G M (gi M 95 (ui ((89 + (4 * v2)) + 2))) (gi M 95 (ui ((89 + (4 * v2)) + 3))) v1) (by decide) rfl rfl (Nat.le_of_ble_eq_true rfl) dX12_will_79) rfl (fun r79 => ?_)
        refine X_if_eq (tgt := 99) dX12_will_82 rfl rfl (fun e82 => ?_) (fun e82 => ?_)
        · exact X_lv [0, 1, 2] rfl (hj99 r79.2)
        · refine X_aload_n (a := 0) dX12_will_85 rfl rfl rfl ?_
          refine X_getR (t := 95) fl_X12_7 rfl rfl dX12_will_86 rfl ?_
          refine X_bipush (w := 89) dX12_will_89 kb_89 rfl ?_
          refine X_iconst (w := 4) dX12_will_91 ki_4 rfl ?_
          refine X_iload_n (a := 2) dX12_will_92 rfl rfl rfl ?_
          refine X_imul dX12_will_93 rfl ?_
          refine X_iadd dX12_will_94 rfl ?_
          refine X_iconst (w := 1) dX12_will_95 ki_1 rfl ?_
          refine X_iadd dX12_will_96 rfl ?_
          refine X_iald rfl rfl dX12_will_97 rfl ?_
          exact X_iretJ rfl dX12_will_98
      refine X_if_eq (tgt := 51) dX12_will_25 rfl rfl (fun e25 => ?_) (fun e25 => ?_)
      · exact X_lv [1, 2, 3] rfl (hj51)
      · refine X_iload_n (a := 0) dX12_will_28 rfl rfl rfl ?_
        refine X_aload_n (a := 1) dX12_will_29 rfl rfl rfl ?_
        refine X_iload_n (a := 2) dX12_will_30 rfl rfl rfl ?_
        refine X_iconst (w := 0) dX12_will_31 ki_0 rfl ?_
        refine X_ruI (Ru_V (st := [.int (gi M 95 (ui (89 + (4 * v2))))]) cv_X12_80 rfl (c_X12_of G M v1 0) (by decide) rfl rfl (Nat.le_of_ble_eq_true rfl) dX12_will_32) rfl (fun r32 => ?_)
        refine X_icmp_eq (tgt := 51) dX12_will_35 rfl rfl (fun e35 => ?_) (fun e35 => ?_)
        · exact X_lv [1, 2, 3] rfl (hj51)
        · refine X_iload_n (a := 0) dX12_will_38 rfl rfl rfl ?_
          refine X_aload_n (a := 1) dX12_will_39 rfl rfl rfl ?_
          refine X_iload_n (a := 2) dX12_will_40 rfl rfl rfl ?_
          refine X_iconst (w := 0) dX12_will_41 ki_0 rfl ?_
          refine X_ruI (Ru_V (st := [.int (gi M 95 (ui (89 + (4 * v2))))]) cv_X12_80 rfl (c_X12_of G M v1 0) (by decide) rfl rfl (Nat.le_of_ble_eq_true rfl) dX12_will_42) rfl (fun r42 => ?_)
          refine X_ruI (Ru_S (st := [.int (gi M 95 (ui (89 + (4 * v2))))]) cs_X12_110 (c_X12_above G M r42) (by decide) rfl rfl (Nat.le_of_ble_eq_true rfl) dX12_will_45) rfl (fun r45 => ?_)
          refine X_icmp_ne (tgt := 99) dX12_will_48 rfl rfl (fun e48 => ?_) (fun e48 => ?_)
          · exact X_lv [1, 2, 3] rfl (hj99 M)
          · exact X_lv [1, 2, 3] rfl (hj51)
set_option maxRecDepth 100000 in
theorem c_X12_will (G : Gm) (M : Mm) (v1 : Int32) : Ct fJ G miX12_will (4) [.ref (ga G 94), .int v1] M (F_X12_will M v1) := by
  refine Ct_of (pn_X12) (Nat.le_of_ble_eq_true rfl) ?_
  refine X_lv [0, 1] (lv' := [(0, .ref (ga G 94)), (1, .int v1)]) rfl ?_
  unfold F_X12_will
  refine X_iconst (w := 0) dX12_will_0 ki_0 rfl ?_
  refine X_istore_n (lv2 := [(2, .int 0), (0, .ref (ga G 94)), (1, .int v1)]) dX12_will_1 rfl (by decide) rfl rfl ?_
  exact X_lv [1, 2, 0] rfl (x_X12_will_L2 G v1 1000 M 0)
set_option maxRecDepth 100000 in
theorem c_X12_isStakeable (G : Gm) (M : Mm) (v1 : Int32) : Ct fJ G miX12_isStakeable (5) [.ref (ga G 94), .int v1] M (F_X12_isStakeable M v1) := by
  refine Ct_of (pn_X12) (Nat.le_of_ble_eq_true rfl) ?_
  refine X_lv [0, 1] (lv' := [(0, .ref (ga G 94)), (1, .int v1)]) rfl ?_
  unfold F_X12_isStakeable
  refine X_aload_n (a := 0) dX12_isStakeable_0 rfl rfl rfl ?_
  refine X_iload_n (a := 1) dX12_isStakeable_1 rfl rfl rfl ?_
  refine X_ruJ (Ru_V (st := []) cv_X12_117 rfl (c_X12_will G M v1) (by decide) rfl rfl (Nat.le_of_ble_eq_true rfl) dX12_isStakeable_2) rfl (fun r2 => ?_)
  refine X_if_ne (tgt := 20) dX12_isStakeable_5 rfl rfl (fun e5 => ?_) (fun e5 => ?_)
  · refine X_iconst (w := 0) dX12_isStakeable_20 ki_0 rfl ?_
    exact X_zretJ rfl dX12_isStakeable_21
  · refine X_aload_n (a := 0) dX12_isStakeable_8 rfl rfl rfl ?_
    refine X_iload_n (a := 1) dX12_isStakeable_9 rfl rfl rfl ?_
    refine X_ruI (Ru_V (st := []) cv_X12_120 rfl (c_X12_pays G r2.2 v1) (by decide) rfl rfl (Nat.le_of_ble_eq_true rfl) dX12_isStakeable_10) rfl (fun r10 => ?_)
    refine X_if_le (tgt := 20) dX12_isStakeable_13 rfl rfl (fun e13 => ?_) (fun e13 => ?_)
    · refine X_iconst (w := 0) dX12_isStakeable_20 ki_0 rfl ?_
      exact X_zretJ rfl dX12_isStakeable_21
    · refine X_iconst (w := 1) dX12_isStakeable_16 ki_1 rfl ?_
      refine X_goto (tgt := 21) dX12_isStakeable_17 rfl ?_
      exact X_zretJ rfl dX12_isStakeable_21
set_option maxRecDepth 100000 in
theorem x_X12_staked_L4 (G : Gm) (M : Mm) : ∀ (n : Nat) (v1 : Int32) (v2 : Int32), X (fI M) G miX12_staked (1) 4 [(0, .ref (ga G 94)), (1, .int v1), (2, .int v2)] [] M (F_X12_staked_L4 M n v1 v2) := by
  intro n
  induction n with
  | zero => intro v1 v2; exact X_none
  | succ n ih =>
    intro v1 v2
    rw [F_X12_staked_L4]
    refine X_iload_n (a := 2) dX12_staked_4 rfl rfl rfl ?_
    refine X_aload_n (a := 0) dX12_staked_5 rfl rfl rfl ?_
    refine X_getR (t := 95) fl_X12_7 rfl rfl dX12_staked_6 rfl ?_
    refine X_iconst (w := 0) dX12_staked_9 ki_0 rfl ?_
    refine X_iald rfl rfl dX12_staked_10 rfl ?_
    refine X_icmp_ge (tgt := 31) dX12_staked_11 rfl rfl (fun e11 => ?_) (fun e11 => ?_)
    · refine X_iload_n (a := 1) dX12_staked_31 rfl rfl rfl ?_
      exact X_iretI rfl dX12_staked_32
    · refine X_iload_n (a := 1) dX12_staked_14 rfl rfl rfl ?_
      refine X_aload_n (a := 0) dX12_staked_15 rfl rfl rfl ?_
      refine X_iload_n (a := 2) dX12_staked_16 rfl rfl rfl ?_
      refine X_iconst (w := 4) dX12_staked_17 ki_4 rfl ?_
      refine X_ruI (Ru_V (st := [.int v1]) cv_X12_80 rfl (c_X12_of G M v2 4) (by decide) rfl rfl (Nat.le_of_ble_eq_true rfl) dX12_staked_18) rfl (fun r18 => ?_)
      refine X_iload_n (a := 2) dX12_staked_21 rfl rfl rfl ?_
      refine X_ishl dX12_staked_22 rfl ?_
      refine X_ior dX12_staked_23 rfl ?_
      refine X_istore_n (lv2 := [(1, .int (v1 ||| (r18 <<< (v2 &&& 31)))), (0, .ref (ga G 94)), (2, .int v2)]) dX12_staked_24 rfl (by decide) rfl rfl ?_
      refine X_iinc (a := 2) (lv2 := [(2, .int (v2 + 1)), (1, .int (v1 ||| (r18 <<< (v2 &&& 31)))), (0, .ref (ga G 94))]) dX12_staked_25 rfl (ii_1 _) (by decide) rfl rfl ?_
      refine X_goto (tgt := 4) dX12_staked_28 rfl ?_
      exact X_lv [2, 1, 0] rfl (ih (v1 ||| (r18 <<< (v2 &&& 31))) (v2 + 1))
set_option maxRecDepth 100000 in
theorem c_X12_staked (G : Gm) (M : Mm) : Ct (fI M) G miX12_staked (1) [.ref (ga G 94)] M (F_X12_staked M) := by
  refine Ct_of (pn_X12) (Nat.le_of_ble_eq_true rfl) ?_
  refine X_lv [0] (lv' := [(0, .ref (ga G 94))]) rfl ?_
  unfold F_X12_staked
  refine X_iconst (w := 0) dX12_staked_0 ki_0 rfl ?_
  refine X_istore_n (lv2 := [(1, .int 0), (0, .ref (ga G 94))]) dX12_staked_1 rfl (by decide) rfl rfl ?_
  refine X_iconst (w := 0) dX12_staked_2 ki_0 rfl ?_
  refine X_istore_n (lv2 := [(2, .int 0), (1, .int 0), (0, .ref (ga G 94))]) dX12_staked_3 rfl (by decide) rfl rfl ?_
  exact X_lv [2, 1, 0] rfl (x_X12_staked_L4 G M 1000 0 0)
set_option maxRecDepth 100000 in
theorem x_X12_fillAll_L4 (G : Gm) (M : Mm) : ∀ (n : Nat) (v1 : Int32) (v2 : Int32), X (fI M) G miX12_fillAll (1) 4 [(0, .ref (ga G 94)), (1, .int v1), (2, .int v2)] [] M (F_X12_fillAll_L4 M n v1 v2) := by
  intro n
  induction n with
  | zero => intro v1 v2; exact X_none
  | succ n ih =>
    intro v1 v2
    rw [F_X12_fillAll_L4]
    refine X_iload_n (a := 2) dX12_fillAll_4 rfl rfl rfl ?_
    refine X_aload_n (a := 0) dX12_fillAll_5 rfl rfl rfl ?_
    refine X_getR (t := 95) fl_X12_7 rfl rfl dX12_fillAll_6 rfl ?_
    refine X_iconst (w := 0) dX12_fillAll_9 ki_0 rfl ?_
    refine X_iald rfl rfl dX12_fillAll_10 rfl ?_
    refine X_icmp_ge (tgt := 29) dX12_fillAll_11 rfl rfl (fun e11 => ?_) (fun e11 => ?_)
    · refine X_iload_n (a := 1) dX12_fillAll_29 rfl rfl rfl ?_
      exact X_iretI rfl dX12_fillAll_30
    · refine X_iload_n (a := 1) dX12_fillAll_14 rfl rfl rfl ?_
      refine X_aload_n (a := 0) dX12_fillAll_15 rfl rfl rfl ?_
      refine X_iload_n (a := 2) dX12_fillAll_16 rfl rfl rfl ?_
      refine X_iconst (w := 1) dX12_fillAll_17 ki_1 rfl ?_
      refine X_ruI (Ru_V (st := [.int v1]) cv_X12_80 rfl (c_X12_of G M v2 1) (by decide) rfl rfl (Nat.le_of_ble_eq_true rfl) dX12_fillAll_18) rfl (fun r18 => ?_)
      refine X_iadd dX12_fillAll_21 rfl ?_
      refine X_istore_n (lv2 := [(1, .int (v1 + r18)), (0, .ref (ga G 94)), (2, .int v2)]) dX12_fillAll_22 rfl (by decide) rfl rfl ?_
      refine X_iinc (a := 2) (lv2 := [(2, .int (v2 + 1)), (1, .int (v1 + r18)), (0, .ref (ga G 94))]) dX12_fillAll_23 rfl (ii_1 _) (by decide) rfl rfl ?_
      refine X_goto (tgt := 4) dX12_fillAll_26 rfl ?_
      exact X_lv [2, 1, 0] rfl (ih (v1 + r18) (v2 + 1))
set_option maxRecDepth 100000 in
theorem c_X12_fillAll (G : Gm) (M : Mm) : Ct (fI M) G miX12_fillAll (1) [.ref (ga G 94)] M (F_X12_fillAll M) := by
  refine Ct_of (pn_X12) (Nat.le_of_ble_eq_true rfl) ?_
  refine X_lv [0] (lv' := [(0, .ref (ga G 94))]) rfl ?_
  unfold F_X12_fillAll
  refine X_iconst (w := 0) dX12_fillAll_0 ki_0 rfl ?_
  refine X_istore_n (lv2 := [(1, .int 0), (0, .ref (ga G 94))]) dX12_fillAll_1 rfl (by decide) rfl rfl ?_
  refine X_iconst (w := 0) dX12_fillAll_2 ki_0 rfl ?_
  refine X_istore_n (lv2 := [(2, .int 0), (1, .int 0), (0, .ref (ga G 94))]) dX12_fillAll_3 rfl (by decide) rfl rfl ?_
  exact X_lv [2, 1, 0] rfl (x_X12_fillAll_L4 G M 1000 0 0)
set_option maxRecDepth 100000 in
theorem c_X12_does (G : Gm) (M : Mm) (v1 : Int32) : Ct fJ G miX12_does (5) [.ref (ga G 94), .int v1] M (F_X12_does M v1) := by
  refine Ct_of (pn_X12) (Nat.le_of_ble_eq_true rfl) ?_
  refine X_lv [0, 1] (lv' := [(0, .ref (ga G 94)), (1, .int v1)]) rfl ?_
  unfold F_X12_does
  refine X_aload_n (a := 0) dX12_does_0 rfl rfl rfl ?_
  refine X_iload_n (a := 1) dX12_does_1 rfl rfl rfl ?_
  refine X_ruJ (Ru_V (st := []) cv_X12_117 rfl (c_X12_will G M v1) (by decide) rfl rfl (Nat.le_of_ble_eq_true rfl) dX12_does_2) rfl (fun r2 => ?_)
  refine X_istore_n (lv2 := [(2, .int r2.1), (0, .ref (ga G 94)), (1, .int v1)]) dX12_does_5 rfl (by decide) rfl rfl ?_
  refine X_iload_n (a := 0) dX12_does_6 rfl rfl rfl ?_
  refine X_if_ne (tgt := 33) dX12_does_7 rfl rfl (fun e7 => ?_) (fun e7 => ?_)
  · refine X_iload_n (a := 0) dX12_does_33 rfl rfl rfl ?_
    refine X_iconst (w := 2) dX12_does_34 ki_2 rfl ?_
    refine X_icmp_ne (tgt := 91) dX12_does_35 rfl rfl (fun e35 => ?_) (fun e35 => ?_)
    · refine X_iconst (w := 0) dX12_does_91 ki_0 rfl ?_
      exact X_iretJ rfl dX12_does_92
    · refine X_aload_n (a := 1) dX12_does_38 rfl rfl rfl ?_
      refine X_iload_n (a := 2) dX12_does_39 rfl rfl rfl ?_
      refine X_iconst (w := 2) dX12_does_40 ki_2 rfl ?_
      refine X_aload_n (a := 1) dX12_does_41 rfl rfl rfl ?_
      refine X_iload_n (a := 2) dX12_does_42 rfl rfl rfl ?_
      refine X_iconst (w := 2) dX12_does_43 ki_2 rfl ?_
      refine X_ruI (Ru_V (st := [.int 2, .int v1, .ref (ga G 94)]) cv_X12_80 rfl (c_X12_of G r2.2 v1 2) (by decide) rfl rfl (Nat.le_of_ble_eq_true rfl) dX12_does_44) rfl (fun r44 => ?_)
      refine X_iconst (w := 2) dX12_does_47 ki_2 rfl ?_
      refine X_iadd dX12_does_48 rfl ?_
      refine X_iconst (w := 0) dX12_does_49 ki_0 rfl ?_
      refine X_bipush (w := 9) dX12_does_50 kb_9 rfl ?_
      refine X_ruI (Ru_S (st := [.int 2, .int v1, .ref (ga G 94)]) cs_X12_76 (c_X12_held G r2.2 (r44 + 2) 0 9) (by decide) rfl rfl (Nat.le_of_ble_eq_true rfl) dX12_does_52) rfl (fun r52 => ?_)
      refine X_ruV (Ru_V (st := []) cv_X12_123 rfl (c_X12_sets G r2.2 v1 2 r52) (by decide) rfl rfl (Nat.le_of_ble_eq_true rfl) dX12_does_55) rfl (fun r55 => ?_)
      refine X_aload_n (a := 1) dX12_does_58 rfl rfl rfl ?_
      refine X_iload_n (a := 2) dX12_does_59 rfl rfl rfl ?_
      refine X_iconst (w := 1) dX12_does_60 ki_1 rfl ?_
      refine X_aload_n (a := 1) dX12_does_61 rfl rfl rfl ?_
      refine X_iload_n (a := 2) dX12_does_62 rfl rfl rfl ?_
      refine X_iconst (w := 1) dX12_does_63 ki_1 rfl ?_
      refine X_ruI (Ru_V (st := [.int 1, .int v1, .ref (ga G 94)]) cv_X12_80 rfl (c_X12_of G r55 v1 1) (by decide) rfl rfl (Nat.le_of_ble_eq_true rfl) dX12_does_64) rfl (fun r64 => ?_)
      refine X_iconst (w := 3) dX12_does_67 ki_3 rfl ?_
      refine X_iadd dX12_does_68 rfl ?_
      refine X_iconst (w := 0) dX12_does_69 ki_0 rfl ?_
      refine X_bipush (w := 99) dX12_does_70 kb_99 rfl ?_
      refine X_ruI (Ru_S (st := [.int 1, .int v1, .ref (ga G 94)]) cs_X12_76 (c_X12_held G r55 (r64 + 3) 0 99) (by decide) rfl rfl (Nat.le_of_ble_eq_true rfl) dX12_does_72) rfl (fun r72 => ?_)
      refine X_ruV (Ru_V (st := []) cv_X12_123 rfl (c_X12_sets G r55 v1 1 r72) (by decide) rfl rfl (Nat.le_of_ble_eq_true rfl) dX12_does_75) rfl (fun r75 => ?_)
      refine X_aload_n (a := 1) dX12_does_78 rfl rfl rfl ?_
      refine X_ruI (Ru_V (st := []) cv_X12_88 rfl (c_X12_salt G r75) (by decide) rfl rfl (Nat.le_of_ble_eq_true rfl) dX12_does_79) rfl (fun r79 => ?_)
      refine X_if_ne (tgt := 89) dX12_does_82 rfl rfl (fun e82 => ?_) (fun e82 => ?_)
      · refine X_iconst (w := 0) dX12_does_89 ki_0 rfl ?_
        exact X_iretJ rfl dX12_does_90
      · refine X_iconst (w := 1) dX12_does_85 ki_1 rfl ?_
        refine X_goto (tgt := 90) dX12_does_86 rfl ?_
        exact X_iretJ rfl dX12_does_90
  · refine X_aload_n (a := 1) dX12_does_10 rfl rfl rfl ?_
    refine X_iload_n (a := 2) dX12_does_11 rfl rfl rfl ?_
    refine X_ruI (Ru_V (st := []) cv_X12_120 rfl (c_X12_pays G r2.2 v1) (by decide) rfl rfl (Nat.le_of_ble_eq_true rfl) dX12_does_12) rfl (fun r12 => ?_)
    refine X_istore_n (lv2 := [(3, .int r12), (2, .int r2.1), (0, .ref (ga G 94)), (1, .int v1)]) dX12_does_15 rfl (by decide) rfl rfl ?_
    refine X_aload_n (a := 2) dX12_does_16 rfl rfl rfl ?_
    refine X_iload_n (a := 3) dX12_does_17 rfl rfl rfl ?_
    refine X_iconst (w := 4) dX12_does_18 ki_4 rfl ?_
    refine X_iload_n (a := 0) dX12_does_19 rfl rfl rfl ?_
    refine X_jc (P := fun j => ∀ (x28_0 : Int32), X fJ G miX12_does (5) 28 [(3, .int r12)] [.int x28_0, .int 4, .int v1, .ref (ga G 94)] r2.2 (j x28_0)) (fun x28_0 => ?_) (fun j28 hj28 => ?_)
    · refine X_ruV (Ru_V (st := []) cv_X12_123 rfl (c_X12_sets G r2.2 v1 4 x28_0) (by decide) rfl rfl (Nat.le_of_ble_eq_true rfl) dX12_does_28) rfl (fun r28 => ?_)
      refine X_iload_n (a := 0) dX12_does_31 rfl rfl rfl ?_
      exact X_iretJ rfl dX12_does_32
    refine X_if_le (tgt := 27) dX12_does_20 rfl rfl (fun e20 => ?_) (fun e20 => ?_)
    · refine X_iconst (w := 0) dX12_does_27 ki_0 rfl ?_
      exact X_lv [0] rfl (hj28 0)
    · refine X_iconst (w := 1) dX12_does_23 ki_1 rfl ?_
      refine X_goto (tgt := 28) dX12_does_24 rfl ?_
      exact X_lv [0] rfl (hj28 1)
set_option maxRecDepth 100000 in
theorem x_X12_tideGoes_L78 (G : Gm) : ∀ (n : Nat) (M : Mm) (v2 : Int32) (v3 : Int32), X fJ G miX12_tideGoes (6) 78 [(0, .ref (ga G 94)), (2, .int v2), (3, .int v3)] [] M (F_X12_tideGoes_L78 n M v2 v3) := by
  intro n
  induction n with
  | zero => intro M v2 v3; exact X_none
  | succ n ih =>
    intro M v2 v3
    rw [F_X12_tideGoes_L78]
    refine X_iload_n (a := 2) dX12_tideGoes_78 rfl rfl rfl ?_
    refine X_aload_n (a := 0) dX12_tideGoes_79 rfl rfl rfl ?_
    refine X_getR (t := 95) fl_X12_7 rfl rfl dX12_tideGoes_80 rfl ?_
    refine X_iconst (w := 0) dX12_tideGoes_83 ki_0 rfl ?_
    refine X_iald rfl rfl dX12_tideGoes_84 rfl ?_
    refine X_icmp_ge (tgt := 138) dX12_tideGoes_85 rfl rfl (fun e85 => ?_) (fun e85 => ?_)
    · refine X_aload_n (a := 0) dX12_tideGoes_138 rfl rfl rfl ?_
      refine X_getR (t := 95) fl_X12_7 rfl rfl dX12_tideGoes_139 rfl ?_
      refine X_iconst (w := 3) dX12_tideGoes_142 ki_3 rfl ?_
      refine X_dup2 dX12_tideGoes_143 rfl rfl rfl ?_
      refine X_iald rfl rfl dX12_tideGoes_144 rfl ?_
      refine X_iload_n (a := 1) dX12_tideGoes_145 rfl rfl rfl ?_
      refine X_iadd dX12_tideGoes_146 rfl ?_
      refine X_iast rfl rfl dX12_tideGoes_147 rfl ?_
      refine X_aload_n (a := 0) dX12_tideGoes_148 rfl rfl rfl ?_
      refine X_getR (t := 95) fl_X12_7 rfl rfl dX12_tideGoes_149 rfl ?_
      refine X_iconst (w := 1) dX12_tideGoes_152 ki_1 rfl ?_
      refine X_dup2 dX12_tideGoes_153 rfl rfl rfl ?_
      refine X_iald rfl rfl dX12_tideGoes_154 rfl ?_
      refine X_iconst (w := 1) dX12_tideGoes_155 ki_1 rfl ?_
      refine X_iadd dX12_tideGoes_156 rfl ?_
      refine X_iast rfl rfl dX12_tideGoes_157 rfl ?_
      refine X_iload_n (a := 1) dX12_tideGoes_158 rfl rfl rfl ?_
      exact X_iretJ rfl dX12_tideGoes_159
    · refine X_aload_n (a := 0) dX12_tideGoes_88 rfl rfl rfl ?_
      refine X_iload_n (a := 2) dX12_tideGoes_89 rfl rfl rfl ?_
      refine X_iconst (w := 1) dX12_tideGoes_90 ki_1 rfl ?_
      refine X_aload_n (a := 0) dX12_tideGoes_91 rfl rfl rfl ?_
      refine X_iload_n (a := 2) dX12_tideGoes_92 rfl rfl rfl ?_
      refine X_iconst (w := 1) dX12_tideGoes_93 ki_1 rfl ?_
      refine X_ruI (Ru_V (st := [.int 1, .int v3, .ref (ga G 94)]) cv_X12_80 rfl (c_X12_of G M v3 1) (by decide) rfl rfl (Nat.le_of_ble_eq_true rfl) dX12_tideGoes_94) rfl (fun r94 => ?_)
      refine X_aload_n (a := 0) dX12_tideGoes_97 rfl rfl rfl ?_
      refine X_getR (t := 99) fl_X12_22 rfl rfl dX12_tideGoes_98 rfl ?_
      refine X_iload_n (a := 2) dX12_tideGoes_101 rfl rfl rfl ?_
      refine X_iald rfl rfl dX12_tideGoes_102 rfl ?_
      refine X_isub dX12_tideGoes_103 rfl ?_
      refine X_iconst (w := 0) dX12_tideGoes_104 ki_0 rfl ?_
      refine X_bipush (w := 99) dX12_tideGoes_105 kb_99 rfl ?_
      refine X_ruI (Ru_S (st := [.int 1, .int v3, .ref (ga G 94)]) cs_X12_76 (c_X12_held G M (r94 - (gi M 99 (ui v3))) 0 99) (by decide) rfl rfl (Nat.le_of_ble_eq_true rfl) dX12_tideGoes_107) rfl (fun r107 => ?_)
      refine X_ruV (Ru_V (st := []) cv_X12_123 rfl (c_X12_sets G M v3 1 r107) (by decide) rfl rfl (Nat.le_of_ble_eq_true rfl) dX12_tideGoes_110) rfl (fun r110 => ?_)
      refine X_iload_n (a := 1) dX12_tideGoes_113 rfl rfl rfl ?_
      refine X_aload_n (a := 0) dX12_tideGoes_114 rfl rfl rfl ?_
      refine X_iload_n (a := 2) dX12_tideGoes_115 rfl rfl rfl ?_
      refine X_iconst (w := 4) dX12_tideGoes_116 ki_4 rfl ?_
      refine X_ruI (Ru_V (st := [.int v2]) cv_X12_80 rfl (c_X12_of G r110 v3 4) (by decide) rfl rfl (Nat.le_of_ble_eq_true rfl) dX12_tideGoes_117) rfl (fun r117 => ?_)
      refine X_aload_n (a := 0) dX12_tideGoes_120 rfl rfl rfl ?_
      refine X_iload_n (a := 2) dX12_tideGoes_121 rfl rfl rfl ?_
      refine X_iconst (w := 1) dX12_tideGoes_122 ki_1 rfl ?_
      refine X_ruI (Ru_V (st := [.int r117, .int v2]) cv_X12_80 rfl (c_X12_of G r110 v3 1) (by decide) rfl rfl (Nat.le_of_ble_eq_true rfl) dX12_tideGoes_123) rfl (fun r123 => ?_)
      refine X_bipush (w := 30) dX12_tideGoes_126 kb_30 rfl ?_
      refine X_idiv dX12_tideGoes_128 (by decide) rfl ?_
      refine X_imul dX12_tideGoes_129 rfl ?_
      refine X_iadd dX12_tideGoes_130 rfl ?_
      refine X_istore_n (lv2 := [(2, .int (v2 + (r117 * (r123 / 30)))), (0, .ref (ga G 94)), (3, .int v3)]) dX12_tideGoes_131 rfl (by decide) rfl rfl ?_
      refine X_iinc (a := 2) (lv2 := [(3, .int (v3 + 1)), (2, .int (v2 + (r117 * (r123 / 30)))), (0, .ref (ga G 94))]) dX12_tideGoes_132 rfl (ii_1 _) (by decide) rfl rfl ?_
      refine X_goto (tgt := 78) dX12_tideGoes_135 rfl ?_
      exact X_lv [2, 1, 0] rfl (ih r110 (v2 + (r117 * (r123 / 30))) (v3 + 1))
set_option maxRecDepth 100000 in
theorem x_X12_tideGoes_L29 (G : Gm) (v2 : Int32) : ∀ (n : Nat) (M : Mm) (v3 : Int32), X fJ G miX12_tideGoes (6) 29 [(0, .ref (ga G 94)), (2, .int v2), (3, .int v3)] [] M (F_X12_tideGoes_L29 v2 n M v3) := by
  intro n
  induction n with
  | zero => intro M v3; exact X_none
  | succ n ih =>
    intro M v3
    rw [F_X12_tideGoes_L29]
    refine X_iload_n (a := 2) dX12_tideGoes_29 rfl rfl rfl ?_
    refine X_aload_n (a := 0) dX12_tideGoes_30 rfl rfl rfl ?_
    refine X_getR (t := 95) fl_X12_7 rfl rfl dX12_tideGoes_31 rfl ?_
    refine X_iconst (w := 0) dX12_tideGoes_34 ki_0 rfl ?_
    refine X_iald rfl rfl dX12_tideGoes_35 rfl ?_
    refine X_icmp_ge (tgt := 76) dX12_tideGoes_36 rfl rfl (fun e36 => ?_) (fun e36 => ?_)
    · refine X_iconst (w := 0) dX12_tideGoes_76 ki_0 rfl ?_
      refine X_istore_n (lv2 := [(3, .int 0), (0, .ref (ga G 94)), (2, .int v2)]) dX12_tideGoes_77 rfl (by decide) rfl rfl ?_
      exact X_lv [1, 2, 0] rfl (x_X12_tideGoes_L78 G 1000 M v2 0)
    · refine X_aload_n (a := 0) dX12_tideGoes_39 rfl rfl rfl ?_
      refine X_getR (t := 99) fl_X12_22 rfl rfl dX12_tideGoes_40 rfl ?_
      refine X_iload_n (a := 2) dX12_tideGoes_43 rfl rfl rfl ?_
      refine X_aload_n (a := 0) dX12_tideGoes_44 rfl rfl rfl ?_
      refine X_iload_n (a := 2) dX12_tideGoes_45 rfl rfl rfl ?_
      refine X_iconst (w := 4) dX12_tideGoes_46 ki_4 rfl ?_
      refine X_ruI (Ru_V (st := [.int v3, .ref (ga G 99)]) cv_X12_80 rfl (c_X12_of G M v3 4) (by decide) rfl rfl (Nat.le_of_ble_eq_true rfl) dX12_tideGoes_47) rfl (fun r47 => ?_)
      refine X_iconst (w := 1) dX12_tideGoes_50 ki_1 rfl ?_
      refine X_jc (P := fun j => ∀ (x69_0 : Int32), X fJ G miX12_tideGoes (6) 69 [(0, .ref (ga G 94)), (2, .int v2), (3, .int v3)] [.int x69_0, .int v3, .ref (ga G 99)] M (j x69_0)) (fun x69_0 => ?_) (fun j69 hj69 => ?_)
      · refine X_iast rfl rfl dX12_tideGoes_69 rfl ?_
        refine X_iinc (a := 2) (lv2 := [(3, .int (v3 + 1)), (0, .ref (ga G 94)), (2, .int v2)]) dX12_tideGoes_70 rfl (ii_1 _) (by decide) rfl rfl ?_
        refine X_goto (tgt := 29) dX12_tideGoes_73 rfl ?_
        exact X_lv [1, 2, 0] rfl (ih (si M 99 (ui v3) x69_0) (v3 + 1))
      refine X_icmp_ne (tgt := 64) dX12_tideGoes_51 rfl rfl (fun e51 => ?_) (fun e51 => ?_)
      · refine X_aload_n (a := 0) dX12_tideGoes_64 rfl rfl rfl ?_
        refine X_iload_n (a := 2) dX12_tideGoes_65 rfl rfl rfl ?_
        refine X_ruI (Ru_V (st := [.int v3, .ref (ga G 99)]) cv_X12_130 rfl (c_X12_leaks G M v3) (by decide) rfl rfl (Nat.le_of_ble_eq_true rfl) dX12_tideGoes_66) rfl (fun r66 => ?_)
        exact X_lv [0, 1, 2] rfl (hj69 r66)
      · refine X_aload_n (a := 0) dX12_tideGoes_54 rfl rfl rfl ?_
        refine X_iload_n (a := 2) dX12_tideGoes_55 rfl rfl rfl ?_
        refine X_ruI (Ru_V (st := [.int v3, .ref (ga G 99)]) cv_X12_130 rfl (c_X12_leaks G M v3) (by decide) rfl rfl (Nat.le_of_ble_eq_true rfl) dX12_tideGoes_56) rfl (fun r56 => ?_)
        refine X_iconst (w := 3) dX12_tideGoes_59 ki_3 rfl ?_
        refine X_idiv dX12_tideGoes_60 (by decide) rfl ?_
        refine X_goto (tgt := 69) dX12_tideGoes_61 rfl ?_
        exact X_lv [0, 1, 2] rfl (hj69 (r56 / 3))
set_option maxRecDepth 100000 in
theorem c_X12_tideGoes (G : Gm) (M : Mm) (v1 : Int32) : Ct fJ G miX12_tideGoes (6) [.ref (ga G 94), .int v1] M (F_X12_tideGoes M v1) := by
  refine Ct_of (pn_X12) (Nat.le_of_ble_eq_true rfl) ?_
  refine X_lv [0, 1] (lv' := [(0, .ref (ga G 94)), (1, .int v1)]) rfl ?_
  unfold F_X12_tideGoes
  refine X_iload_n (a := 1) dX12_tideGoes_0 rfl rfl rfl ?_
  refine X_jc (P := fun j => ∀ (x26_0 : Int32) (M : Mm), X fJ G miX12_tideGoes (6) 26 [(0, .ref (ga G 94))] [.int x26_0] M (j x26_0 M)) (fun x26_0 M => ?_) (fun j26 hj26 => ?_)
  · refine X_istore_n (lv2 := [(2, .int x26_0), (0, .ref (ga G 94))]) dX12_tideGoes_26 rfl (by decide) rfl rfl ?_
    refine X_iconst (w := 0) dX12_tideGoes_27 ki_0 rfl ?_
    refine X_istore_n (lv2 := [(3, .int 0), (2, .int x26_0), (0, .ref (ga G 94))]) dX12_tideGoes_28 rfl (by decide) rfl rfl ?_
    exact X_lv [2, 1, 0] rfl (x_X12_tideGoes_L29 G x26_0 1000 M 0)
  refine X_jc (P := fun j => X fJ G miX12_tideGoes (6) 25 [(0, .ref (ga G 94))] [] M (j)) (?_) (fun j25 hj25 => ?_)
  · refine X_iconst (w := 0) dX12_tideGoes_25 ki_0 rfl ?_
    exact X_lv [0] rfl (hj26 0 M)
  refine X_if_le (tgt := 25) dX12_tideGoes_1 rfl rfl (fun e1 => ?_) (fun e1 => ?_)
  · exact X_lv [0] rfl (hj25)
  · refine X_aload_n (a := 0) dX12_tideGoes_4 rfl rfl rfl ?_
    refine X_iload_n (a := 1) dX12_tideGoes_5 rfl rfl rfl ?_
    refine X_iconst (w := 1) dX12_tideGoes_6 ki_1 rfl ?_
    refine X_isub dX12_tideGoes_7 rfl ?_
    refine X_iconst (w := 4) dX12_tideGoes_8 ki_4 rfl ?_
    refine X_ruI (Ru_V (st := []) cv_X12_80 rfl (c_X12_of G M (v1 - 1) 4) (by decide) rfl rfl (Nat.le_of_ble_eq_true rfl) dX12_tideGoes_9) rfl (fun r9 => ?_)
    refine X_if_ne (tgt := 25) dX12_tideGoes_12 rfl rfl (fun e12 => ?_) (fun e12 => ?_)
    · exact X_lv [0] rfl (hj25)
    · refine X_aload_n (a := 0) dX12_tideGoes_15 rfl rfl rfl ?_
      refine X_iload_n (a := 1) dX12_tideGoes_16 rfl rfl rfl ?_
      refine X_iconst (w := 1) dX12_tideGoes_17 ki_1 rfl ?_
      refine X_isub dX12_tideGoes_18 rfl ?_
      refine X_ruJ (Ru_V (st := []) cv_X12_127 rfl (c_X12_does G M (v1 - 1)) (by decide) rfl rfl (Nat.le_of_ble_eq_true rfl) dX12_tideGoes_19) rfl (fun r19 => ?_)
      refine X_goto (tgt := 26) dX12_tideGoes_22 rfl ?_
      exact X_lv [0] rfl (hj26 r19.1 r19.2)
set_option maxRecDepth 100000 in
theorem x_X12_actOfRest_L2 (G : Gm) : ∀ (n : Nat) (M : Mm) (v1 : Int32), X fJ G miX12_actOfRest (6) 2 [(0, .ref (ga G 94)), (1, .int v1)] [] M (F_X12_actOfRest_L2 n M v1) := by
  intro n
  induction n with
  | zero => intro M v1; exact X_none
  | succ n ih =>
    intro M v1
    rw [F_X12_actOfRest_L2]
    refine X_iload_n (a := 1) dX12_actOfRest_2 rfl rfl rfl ?_
    refine X_aload_n (a := 0) dX12_actOfRest_3 rfl rfl rfl ?_
    refine X_getR (t := 95) fl_X12_7 rfl rfl dX12_actOfRest_4 rfl ?_
    refine X_iconst (w := 0) dX12_actOfRest_7 ki_0 rfl ?_
    refine X_iald rfl rfl dX12_actOfRest_8 rfl ?_
    refine X_icmp_ge (tgt := 30) dX12_actOfRest_9 rfl rfl (fun e9 => ?_) (fun e9 => ?_)
    · refine X_iconst (w := 0) dX12_actOfRest_30 ki_0 rfl ?_
      exact X_iretJ rfl dX12_actOfRest_31
    · refine X_aload_n (a := 0) dX12_actOfRest_12 rfl rfl rfl ?_
      refine X_iload_n (a := 1) dX12_actOfRest_13 rfl rfl rfl ?_
      refine X_ruJ (Ru_V (st := []) cv_X12_133 rfl (c_X12_isStakeable G M v1) (by decide) rfl rfl (Nat.le_of_ble_eq_true rfl) dX12_actOfRest_14) rfl (fun r14 => ?_)
      refine X_if_eq (tgt := 24) dX12_actOfRest_17 rfl rfl (fun e17 => ?_) (fun e17 => ?_)
      · refine X_iinc (a := 1) (lv2 := [(1, .int (v1 + 1)), (0, .ref (ga G 94))]) dX12_actOfRest_24 rfl (ii_1 _) (by decide) rfl rfl ?_
        refine X_goto (tgt := 2) dX12_actOfRest_27 rfl ?_
        exact X_lv [1, 0] rfl (ih r14.2 (v1 + 1))
      · refine X_iload_n (a := 1) dX12_actOfRest_20 rfl rfl rfl ?_
        refine X_iconst (w := 1) dX12_actOfRest_21 ki_1 rfl ?_
        refine X_iadd dX12_actOfRest_22 rfl ?_
        exact X_iretJ rfl dX12_actOfRest_23
set_option maxRecDepth 100000 in
theorem c_X12_actOfRest (G : Gm) (M : Mm) : Ct fJ G miX12_actOfRest (6) [.ref (ga G 94)] M (F_X12_actOfRest M) := by
  refine Ct_of (pn_X12) (Nat.le_of_ble_eq_true rfl) ?_
  refine X_lv [0] (lv' := [(0, .ref (ga G 94))]) rfl ?_
  unfold F_X12_actOfRest
  refine X_iconst (w := 0) dX12_actOfRest_0 ki_0 rfl ?_
  refine X_istore_n (lv2 := [(1, .int 0), (0, .ref (ga G 94))]) dX12_actOfRest_1 rfl (by decide) rfl rfl ?_
  exact X_lv [1, 0] rfl (x_X12_actOfRest_L2 G 1000 M 0)
set_option maxRecDepth 100000 in
theorem x_X12_restGoes_L4 (G : Gm) (v1 : Int32) : ∀ (n : Nat) (M : Mm) (v2 : Int32) (v3 : Int32), X fJ G miX12_restGoes (7) 4 [(0, .ref (ga G 94)), (1, .int v1), (2, .int v2), (3, .int v3)] [] M (F_X12_restGoes_L4 v1 n M v2 v3) := by
  intro n
  induction n with
  | zero => intro M v2 v3; exact X_none
  | succ n ih =>
    intro M v2 v3
    rw [F_X12_restGoes_L4]
    refine X_iload_n (a := 3) dX12_restGoes_4 rfl rfl rfl ?_
    refine X_iload_n (a := 1) dX12_restGoes_5 rfl rfl rfl ?_
    refine X_icmp_ge (tgt := 33) dX12_restGoes_6 rfl rfl (fun e6 => ?_) (fun e6 => ?_)
    · refine X_iload_n (a := 2) dX12_restGoes_33 rfl rfl rfl ?_
      exact X_iretJ rfl dX12_restGoes_34
    · refine X_aload_n (a := 0) dX12_restGoes_9 rfl rfl rfl ?_
      refine X_ruI (Ru_V (st := []) cv_X12_137 rfl (c_X12_isOver G M) (by decide) rfl rfl (Nat.le_of_ble_eq_true rfl) dX12_restGoes_10) rfl (fun r10 => ?_)
      refine X_if_ne (tgt := 33) dX12_restGoes_13 rfl rfl (fun e13 => ?_) (fun e13 => ?_)
      · refine X_iload_n (a := 2) dX12_restGoes_33 rfl rfl rfl ?_
        exact X_iretJ rfl dX12_restGoes_34
      · refine X_iload_n (a := 2) dX12_restGoes_16 rfl rfl rfl ?_
        refine X_aload_n (a := 0) dX12_restGoes_17 rfl rfl rfl ?_
        refine X_aload_n (a := 0) dX12_restGoes_18 rfl rfl rfl ?_
        refine X_ruJ (Ru_V (st := [.ref (ga G 94), .int v2]) cv_X12_141 rfl (c_X12_actOfRest G M) (by decide) rfl rfl (Nat.le_of_ble_eq_true rfl) dX12_restGoes_19) rfl (fun r19 => ?_)
        refine X_ruJ (Ru_V (st := [.int v2]) cv_X12_144 rfl (c_X12_tideGoes G r19.2 r19.1) (by decide) rfl rfl (Nat.le_of_ble_eq_true rfl) dX12_restGoes_22) rfl (fun r22 => ?_)
        refine X_iadd dX12_restGoes_25 rfl ?_
        refine X_istore_n (lv2 := [(2, .int (v2 + r22.1)), (0, .ref (ga G 94)), (1, .int v1), (3, .int v3)]) dX12_restGoes_26 rfl (by decide) rfl rfl ?_
        refine X_iinc (a := 3) (lv2 := [(3, .int (v3 + 1)), (2, .int (v2 + r22.1)), (0, .ref (ga G 94)), (1, .int v1)]) dX12_restGoes_27 rfl (ii_1 _) (by decide) rfl rfl ?_
        refine X_goto (tgt := 4) dX12_restGoes_30 rfl ?_
        exact X_lv [2, 3, 1, 0] rfl (ih r22.2 (v2 + r22.1) (v3 + 1))
set_option maxRecDepth 100000 in
theorem c_X12_restGoes (G : Gm) (M : Mm) (v1 : Int32) : Ct fJ G miX12_restGoes (7) [.ref (ga G 94), .int v1] M (F_X12_restGoes M v1) := by
  refine Ct_of (pn_X12) (Nat.le_of_ble_eq_true rfl) ?_
  refine X_lv [0, 1] (lv' := [(0, .ref (ga G 94)), (1, .int v1)]) rfl ?_
  unfold F_X12_restGoes
  refine X_iconst (w := 0) dX12_restGoes_0 ki_0 rfl ?_
  refine X_istore_n (lv2 := [(2, .int 0), (0, .ref (ga G 94)), (1, .int v1)]) dX12_restGoes_1 rfl (by decide) rfl rfl ?_
  refine X_iconst (w := 0) dX12_restGoes_2 ki_0 rfl ?_
  refine X_istore_n (lv2 := [(3, .int 0), (2, .int 0), (0, .ref (ga G 94)), (1, .int v1)]) dX12_restGoes_3 rfl (by decide) rfl rfl ?_
  exact X_lv [2, 3, 1, 0] rfl (x_X12_restGoes_L4 G v1 1000 M 0 0)
set_option maxRecDepth 100000 in
theorem c_X12_barrel (G : Gm) (M : Mm) (v1 : Int32) (v2 : Int32) (v3 : Int32) (v4 : Int32) : Ct fJ G miX12_barrel (1) [.ref (ga G 94), .int v1, .int v2, .int v3, .int v4] M (F_X12_barrel M v1 v2 v3 v4) := by
  refine Ct_of (pn_X12) (Nat.le_of_ble_eq_true rfl) ?_
  refine X_lv [0, 1, 2, 3, 4] (lv' := [(0, .ref (ga G 94)), (1, .int v1), (2, .int v2), (3, .int v3), (4, .int v4)]) rfl ?_
  unfold F_X12_barrel
  refine X_iload_n (a := 1) dX12_barrel_0 rfl rfl rfl ?_
  refine X_i2l dX12_barrel_1 rfl rfl ?_
  refine X_lconst (w := 1) dX12_barrel_2 kl_1 rfl ?_
  refine X_ldc2 (w := 5) dX12_barrel_3 t_1287 rfl ?_
  refine X_ruI (Ru_S (st := []) cs_X12_61 (c_X12_in G M (Int32.toInt64 v1) 1 5) (by decide) rfl rfl (Nat.le_of_ble_eq_true rfl) dX12_barrel_6) rfl (fun r6 => ?_)
  refine X_if_eq (tgt := 49) dX12_barrel_9 rfl rfl (fun e9 => ?_) (fun e9 => ?_)
  · refine X_iconst (w := (-1)) dX12_barrel_49 ki_m1 rfl ?_
    exact X_iretJ rfl dX12_barrel_50
  · refine X_iload_n (a := 2) dX12_barrel_12 rfl rfl rfl ?_
    refine X_i2l dX12_barrel_13 rfl rfl ?_
    refine X_lconst (w := 0) dX12_barrel_14 kl_0 rfl ?_
    refine X_ldc2 (w := 99) dX12_barrel_15 t_1291 rfl ?_
    refine X_ruI (Ru_S (st := []) cs_X12_61 (c_X12_in G M (Int32.toInt64 v2) 0 99) (by decide) rfl rfl (Nat.le_of_ble_eq_true rfl) dX12_barrel_18) rfl (fun r18 => ?_)
    refine X_if_eq (tgt := 49) dX12_barrel_21 rfl rfl (fun e21 => ?_) (fun e21 => ?_)
    · refine X_iconst (w := (-1)) dX12_barrel_49 ki_m1 rfl ?_
      exact X_iretJ rfl dX12_barrel_50
    · refine X_iload_n (a := 3) dX12_barrel_24 rfl rfl rfl ?_
      refine X_i2l dX12_barrel_25 rfl rfl ?_
      refine X_lconst (w := 0) dX12_barrel_26 kl_0 rfl ?_
      refine X_ldc2 (w := 9) dX12_barrel_27 t_1292 rfl ?_
      refine X_ruI (Ru_S (st := []) cs_X12_61 (c_X12_in G M (Int32.toInt64 v3) 0 9) (by decide) rfl rfl (Nat.le_of_ble_eq_true rfl) dX12_barrel_30) rfl (fun r30 => ?_)
      refine X_if_eq (tgt := 49) dX12_barrel_33 rfl rfl (fun e33 => ?_) (fun e33 => ?_)
      · refine X_iconst (w := (-1)) dX12_barrel_49 ki_m1 rfl ?_
        exact X_iretJ rfl dX12_barrel_50
      · refine X_iload (a := 4) dX12_barrel_36 rfl rfl ?_
        refine X_i2l dX12_barrel_38 rfl rfl ?_
        refine X_lconst (w := 0) dX12_barrel_39 kl_0 rfl ?_
        refine X_ldc2 (w := 5) dX12_barrel_40 t_1287 rfl ?_
        refine X_ruI (Ru_S (st := []) cs_X12_61 (c_X12_in G M (Int32.toInt64 v4) 0 5) (by decide) rfl rfl (Nat.le_of_ble_eq_true rfl) dX12_barrel_43) rfl (fun r43 => ?_)
        refine X_if_ne (tgt := 51) dX12_barrel_46 rfl rfl (fun e46 => ?_) (fun e46 => ?_)
        · refine X_aload_n (a := 0) dX12_barrel_51 rfl rfl rfl ?_
          refine X_getR (t := 95) fl_X12_7 rfl rfl dX12_barrel_52 rfl ?_
          refine X_iconst (w := 0) dX12_barrel_55 ki_0 rfl ?_
          refine X_iald rfl rfl dX12_barrel_56 rfl ?_
          refine X_bipush (w := 6) dX12_barrel_57 kb_6 rfl ?_
          refine X_icmp_ne (tgt := 65) dX12_barrel_59 rfl rfl (fun e59 => ?_) (fun e59 => ?_)
          · refine X_aload_n (a := 0) dX12_barrel_65 rfl rfl rfl ?_
            refine X_getR (t := 95) fl_X12_7 rfl rfl dX12_barrel_66 rfl ?_
            refine X_iconst (w := 0) dX12_barrel_69 ki_0 rfl ?_
            refine X_iald rfl rfl dX12_barrel_70 rfl ?_
            refine X_istore (lv2 := [(5, .int (gi M 95 (ui 0))), (0, .ref (ga G 94)), (1, .int v1), (2, .int v2), (3, .int v3), (4, .int v4)]) dX12_barrel_71 (by decide) rfl rfl ?_
            refine X_aload_n (a := 1) dX12_barrel_73 rfl rfl rfl ?_
            refine X_iload (a := 0) dX12_barrel_74 rfl rfl ?_
            refine X_iconst (w := 0) dX12_barrel_76 ki_0 rfl ?_
            refine X_iload_n (a := 2) dX12_barrel_77 rfl rfl rfl ?_
            refine X_ruV (Ru_V (st := []) cv_X12_123 rfl (c_X12_sets G M (gi M 95 (ui 0)) 0 v1) (by decide) rfl rfl (Nat.le_of_ble_eq_true rfl) dX12_barrel_78) rfl (fun r78 => ?_)
            refine X_aload_n (a := 1) dX12_barrel_81 rfl rfl rfl ?_
            refine X_iload (a := 0) dX12_barrel_82 rfl rfl ?_
            refine X_iconst (w := 1) dX12_barrel_84 ki_1 rfl ?_
            refine X_iload_n (a := 3) dX12_barrel_85 rfl rfl rfl ?_
            refine X_ruV (Ru_V (st := []) cv_X12_123 rfl (c_X12_sets G r78 (gi M 95 (ui 0)) 1 v2) (by decide) rfl rfl (Nat.le_of_ble_eq_true rfl) dX12_barrel_86) rfl (fun r86 => ?_)
            refine X_aload_n (a := 1) dX12_barrel_89 rfl rfl rfl ?_
            refine X_iload (a := 0) dX12_barrel_90 rfl rfl ?_
            refine X_iconst (w := 2) dX12_barrel_92 ki_2 rfl ?_
            refine X_iload_n (a := 4) dX12_barrel_93 rfl rfl rfl ?_
            refine X_ruV (Ru_V (st := []) cv_X12_123 rfl (c_X12_sets G r86 (gi M 95 (ui 0)) 2 v3) (by decide) rfl rfl (Nat.le_of_ble_eq_true rfl) dX12_barrel_94) rfl (fun r94 => ?_)
            refine X_aload_n (a := 1) dX12_barrel_97 rfl rfl rfl ?_
            refine X_iload (a := 0) dX12_barrel_98 rfl rfl ?_
            refine X_iconst (w := 3) dX12_barrel_100 ki_3 rfl ?_
            refine X_iload (a := 5) dX12_barrel_101 rfl rfl ?_
            refine X_ruV (Ru_V (st := []) cv_X12_123 rfl (c_X12_sets G r94 (gi M 95 (ui 0)) 3 v4) (by decide) rfl rfl (Nat.le_of_ble_eq_true rfl) dX12_barrel_103) rfl (fun r103 => ?_)
            refine X_aload_n (a := 1) dX12_barrel_106 rfl rfl rfl ?_
            refine X_iload (a := 0) dX12_barrel_107 rfl rfl ?_
            refine X_iconst (w := 4) dX12_barrel_109 ki_4 rfl ?_
            refine X_iconst (w := 0) dX12_barrel_110 ki_0 rfl ?_
            refine X_ruV (Ru_V (st := []) cv_X12_123 rfl (c_X12_sets G r103 (gi M 95 (ui 0)) 4 0) (by decide) rfl rfl (Nat.le_of_ble_eq_true rfl) dX12_barrel_111) rfl (fun r111 => ?_)
            refine X_aload_n (a := 1) dX12_barrel_114 rfl rfl rfl ?_
            refine X_getR (t := 95) fl_X12_7 rfl rfl dX12_barrel_115 rfl ?_
            refine X_iconst (w := 0) dX12_barrel_118 ki_0 rfl ?_
            refine X_dup2 dX12_barrel_119 rfl rfl rfl ?_
            refine X_iald rfl rfl dX12_barrel_120 rfl ?_
            refine X_iconst (w := 1) dX12_barrel_121 ki_1 rfl ?_
            refine X_iadd dX12_barrel_122 rfl ?_
            refine X_iast rfl rfl dX12_barrel_123 rfl ?_
            refine X_iload (a := 0) dX12_barrel_124 rfl rfl ?_
            exact X_iretJ rfl dX12_barrel_126
          · refine X_bipush (w := (-2)) dX12_barrel_62 kb_m2 rfl ?_
            exact X_iretJ rfl dX12_barrel_64
        · refine X_iconst (w := (-1)) dX12_barrel_49 ki_m1 rfl ?_
          exact X_iretJ rfl dX12_barrel_50
set_option maxRecDepth 100000 in
theorem c_X12_barrelOf (G : Gm) (M : Mm) (v1 : Int32) (v2 : Int32) : Ct fJ G miX12_barrelOf (6) [.ref (ga G 94), .int v1, .int v2] M (F_X12_barrelOf M v1 v2) := by
  refine Ct_of (pn_X12) (Nat.le_of_ble_eq_true rfl) ?_
  refine X_lv [0, 1, 2] (lv' := [(0, .ref (ga G 94)), (1, .int v1), (2, .int v2)]) rfl ?_
  unfold F_X12_barrelOf
  refine X_aload_n (a := 0) dX12_barrelOf_0 rfl rfl rfl ?_
  refine X_iload_n (a := 1) dX12_barrelOf_1 rfl rfl rfl ?_
  refine X_ruI (Ru_V (st := []) cv_X12_153 rfl (c_X12_isBarrel G M v1) (by decide) rfl rfl (Nat.le_of_ble_eq_true rfl) dX12_barrelOf_2) rfl (fun r2 => ?_)
  refine X_if_eq (tgt := 20) dX12_barrelOf_5 rfl rfl (fun e5 => ?_) (fun e5 => ?_)
  · refine X_iconst (w := (-1)) dX12_barrelOf_20 ki_m1 rfl ?_
    exact X_iretJ rfl dX12_barrelOf_21
  · refine X_iload_n (a := 2) dX12_barrelOf_8 rfl rfl rfl ?_
    refine X_i2l dX12_barrelOf_9 rfl rfl ?_
    refine X_lconst (w := 0) dX12_barrelOf_10 kl_0 rfl ?_
    refine X_ldc2 (w := 9) dX12_barrelOf_11 t_1292 rfl ?_
    refine X_ruI (Ru_S (st := []) cs_X12_61 (c_X12_in G M (Int32.toInt64 v2) 0 9) (by decide) rfl rfl (Nat.le_of_ble_eq_true rfl) dX12_barrelOf_14) rfl (fun r14 => ?_)
    refine X_if_ne (tgt := 22) dX12_barrelOf_17 rfl rfl (fun e17 => ?_) (fun e17 => ?_)
    · refine X_iload_n (a := 2) dX12_barrelOf_22 rfl rfl rfl ?_
      refine X_if (fun e23_5 => ?_) (fun e23_5 => ?_)
      · refine X_tsIn (tgt := 56) dX12_barrelOf_23 (by rw [e23_5]; decide) (by rw [e23_5]; decide) (by rw [e23_5]; rfl) rfl ?_
        refine X_aload_n (a := 0) dX12_barrelOf_56 rfl rfl rfl ?_
        refine X_iload_n (a := 1) dX12_barrelOf_57 rfl rfl rfl ?_
        refine X_ruI (Ru_V (st := []) cv_X12_130 rfl (c_X12_leaks G M v1) (by decide) rfl rfl (Nat.le_of_ble_eq_true rfl) dX12_barrelOf_58) rfl (fun r58 => ?_)
        exact X_iretJ rfl dX12_barrelOf_61
      · skip
        refine X_if (fun e23_6 => ?_) (fun e23_6 => ?_)
        · refine X_tsIn (tgt := 62) dX12_barrelOf_23 (by rw [e23_6]; decide) (by rw [e23_6]; decide) (by rw [e23_6]; rfl) rfl ?_
          refine X_aload_n (a := 0) dX12_barrelOf_62 rfl rfl rfl ?_
          refine X_iload_n (a := 1) dX12_barrelOf_63 rfl rfl rfl ?_
          refine X_ruI (Ru_V (st := []) cv_X12_101 rfl (c_X12_floats G M v1) (by decide) rfl rfl (Nat.le_of_ble_eq_true rfl) dX12_barrelOf_64) rfl (fun r64 => ?_)
          exact X_iretJ rfl dX12_barrelOf_67
        · skip
          refine X_if (fun e23_7 => ?_) (fun e23_7 => ?_)
          · refine X_tsIn (tgt := 68) dX12_barrelOf_23 (by rw [e23_7]; decide) (by rw [e23_7]; decide) (by rw [e23_7]; rfl) rfl ?_
            refine X_aload_n (a := 0) dX12_barrelOf_68 rfl rfl rfl ?_
            refine X_iload_n (a := 1) dX12_barrelOf_69 rfl rfl rfl ?_
            refine X_ruI (Ru_V (st := []) cv_X12_120 rfl (c_X12_pays G M v1) (by decide) rfl rfl (Nat.le_of_ble_eq_true rfl) dX12_barrelOf_70) rfl (fun r70 => ?_)
            exact X_iretJ rfl dX12_barrelOf_73
          · skip
            refine X_if (fun e23_8 => ?_) (fun e23_8 => ?_)
            · refine X_tsIn (tgt := 74) dX12_barrelOf_23 (by rw [e23_8]; decide) (by rw [e23_8]; decide) (by rw [e23_8]; rfl) rfl ?_
              refine X_aload_n (a := 0) dX12_barrelOf_74 rfl rfl rfl ?_
              refine X_iload_n (a := 1) dX12_barrelOf_75 rfl rfl rfl ?_
              refine X_ruJ (Ru_V (st := []) cv_X12_133 rfl (c_X12_isStakeable G M v1) (by decide) rfl rfl (Nat.le_of_ble_eq_true rfl) dX12_barrelOf_76) rfl (fun r76 => ?_)
              refine X_if_eq (tgt := 86) dX12_barrelOf_79 rfl rfl (fun e79 => ?_) (fun e79 => ?_)
              · refine X_iconst (w := 0) dX12_barrelOf_86 ki_0 rfl ?_
                exact X_iretJ rfl dX12_barrelOf_87
              · refine X_iconst (w := 1) dX12_barrelOf_82 ki_1 rfl ?_
                refine X_goto (tgt := 87) dX12_barrelOf_83 rfl ?_
                exact X_iretJ rfl dX12_barrelOf_87
            · skip
              refine X_if (fun e23_9 => ?_) (fun e23_9 => ?_)
              · refine X_tsIn (tgt := 88) dX12_barrelOf_23 (by rw [e23_9]; decide) (by rw [e23_9]; decide) (by rw [e23_9]; rfl) rfl ?_
                refine X_aload_n (a := 0) dX12_barrelOf_88 rfl rfl rfl ?_
                refine X_iload_n (a := 1) dX12_barrelOf_89 rfl rfl rfl ?_
                refine X_ruJ (Ru_V (st := []) cv_X12_117 rfl (c_X12_will G M v1) (by decide) rfl rfl (Nat.le_of_ble_eq_true rfl) dX12_barrelOf_90) rfl (fun r90 => ?_)
                exact X_iretJ rfl dX12_barrelOf_93
              · skip
                refine X_tsOut (tgt := 94) dX12_barrelOf_23 (by have ne23_5 := ne_toInt e23_5 (n := 5) (by decide); have ne23_6 := ne_toInt e23_6 (n := 6) (by decide); have ne23_7 := ne_toInt e23_7 (n := 7) (by decide); have ne23_8 := ne_toInt e23_8 (n := 8) (by decide); have ne23_9 := ne_toInt e23_9 (n := 9) (by decide); omega) rfl ?_
                refine X_aload_n (a := 0) dX12_barrelOf_94 rfl rfl rfl ?_
                refine X_iload_n (a := 1) dX12_barrelOf_95 rfl rfl rfl ?_
                refine X_iload_n (a := 2) dX12_barrelOf_96 rfl rfl rfl ?_
                refine X_ruI (Ru_V (st := []) cv_X12_80 rfl (c_X12_of G M v1 v2) (by decide) rfl rfl (Nat.le_of_ble_eq_true rfl) dX12_barrelOf_97) rfl (fun r97 => ?_)
                exact X_iretJ rfl dX12_barrelOf_100
    · refine X_iconst (w := (-1)) dX12_barrelOf_20 ki_m1 rfl ?_
      exact X_iretJ rfl dX12_barrelOf_21
set_option maxRecDepth 100000 in
theorem c_X12_change (G : Gm) (M : Mm) (v1 : Int32) (v2 : Int32) (v3 : Int32) : Ct fJ G miX12_change (2) [.ref (ga G 94), .int v1, .int v2, .int v3] M (F_X12_change M v1 v2 v3) := by
  refine Ct_of (pn_X12) (Nat.le_of_ble_eq_true rfl) ?_
  refine X_lv [0, 1, 2, 3] (lv' := [(0, .ref (ga G 94)), (1, .int v1), (2, .int v2), (3, .int v3)]) rfl ?_
  unfold F_X12_change
  refine X_iload_n (a := 2) dX12_change_0 rfl rfl rfl ?_
  refine X_iconst (w := 1) dX12_change_1 ki_1 rfl ?_
  refine X_jc (P := fun j => ∀ (x71_0 : Int32), X fJ G miX12_change (2) 71 [(0, .ref (ga G 94)), (1, .int v1), (2, .int v2), (3, .int v3)] [.int x71_0] M (j x71_0)) (fun x71_0 => ?_) (fun j71 hj71 => ?_)
  · refine X_istore (lv2 := [(4, .int x71_0), (0, .ref (ga G 94)), (1, .int v1), (2, .int v2), (3, .int v3)]) dX12_change_71 (by decide) rfl rfl ?_
    refine X_aload_n (a := 1) dX12_change_73 rfl rfl rfl ?_
    refine X_iload_n (a := 2) dX12_change_74 rfl rfl rfl ?_
    refine X_ruI (Ru_V (st := []) cv_X12_153 rfl (c_X12_isBarrel G M v1) (by decide) rfl rfl (Nat.le_of_ble_eq_true rfl) dX12_change_75) rfl (fun r75 => ?_)
    refine X_if_eq (tgt := 102) dX12_change_78 rfl rfl (fun e78 => ?_) (fun e78 => ?_)
    · refine X_iconst (w := (-1)) dX12_change_102 ki_m1 rfl ?_
      exact X_iretJ rfl dX12_change_103
    · refine X_iload (a := 0) dX12_change_81 rfl rfl ?_
      refine X_if_eq (tgt := 102) dX12_change_83 rfl rfl (fun e83 => ?_) (fun e83 => ?_)
      · refine X_iconst (w := (-1)) dX12_change_102 ki_m1 rfl ?_
        exact X_iretJ rfl dX12_change_103
      · refine X_aload_n (a := 1) dX12_change_86 rfl rfl rfl ?_
        refine X_bipush (w := 35) dX12_change_87 kb_35 rfl ?_
        refine X_iconst (w := 5) dX12_change_89 ki_5 rfl ?_
        refine X_iload_n (a := 2) dX12_change_90 rfl rfl rfl ?_
        refine X_imul dX12_change_91 rfl ?_
        refine X_iadd dX12_change_92 rfl ?_
        refine X_iload_n (a := 3) dX12_change_93 rfl rfl rfl ?_
        refine X_iadd dX12_change_94 rfl ?_
        refine X_iload_n (a := 4) dX12_change_95 rfl rfl rfl ?_
        refine X_ruJ (Ru_V (st := []) cv_X12_156 rfl (c_X12_becomes G M ((35 + (5 * v1)) + v2) v3) (by decide) rfl rfl (Nat.le_of_ble_eq_true rfl) dX12_change_96) rfl (fun r96 => ?_)
        refine X_goto (tgt := 103) dX12_change_99 rfl ?_
        exact X_iretJ rfl dX12_change_103
  refine X_icmp_ne (tgt := 17) dX12_change_2 rfl rfl (fun e2 => ?_) (fun e2 => ?_)
  · refine X_iload_n (a := 2) dX12_change_17 rfl rfl rfl ?_
    refine X_iconst (w := 2) dX12_change_18 ki_2 rfl ?_
    refine X_icmp_ne (tgt := 34) dX12_change_19 rfl rfl (fun e19 => ?_) (fun e19 => ?_)
    · refine X_iload_n (a := 2) dX12_change_34 rfl rfl rfl ?_
      refine X_iconst (w := 3) dX12_change_35 ki_3 rfl ?_
      refine X_icmp_ne (tgt := 51) dX12_change_36 rfl rfl (fun e36 => ?_) (fun e36 => ?_)
      · refine X_iload_n (a := 2) dX12_change_51 rfl rfl rfl ?_
        refine X_iconst (w := 4) dX12_change_52 ki_4 rfl ?_
        refine X_jc (P := fun j => X fJ G miX12_change (2) 70 [(0, .ref (ga G 94)), (1, .int v1), (2, .int v2), (3, .int v3)] [] M (j)) (?_) (fun j70 hj70 => ?_)
        · refine X_iconst (w := 0) dX12_change_70 ki_0 rfl ?_
          exact X_lv [0, 1, 2, 3] rfl (hj71 0)
        refine X_icmp_ne (tgt := 70) dX12_change_53 rfl rfl (fun e53 => ?_) (fun e53 => ?_)
        · exact X_lv [0, 1, 2, 3] rfl (hj70)
        · refine X_iload_n (a := 3) dX12_change_56 rfl rfl rfl ?_
          refine X_i2l dX12_change_57 rfl rfl ?_
          refine X_lconst (w := 0) dX12_change_58 kl_0 rfl ?_
          refine X_lconst (w := 1) dX12_change_59 kl_1 rfl ?_
          refine X_ruI (Ru_S (st := []) cs_X12_61 (c_X12_in G M (Int32.toInt64 v3) 0 1) (by decide) rfl rfl (Nat.le_of_ble_eq_true rfl) dX12_change_60) rfl (fun r60 => ?_)
          refine X_if_eq (tgt := 70) dX12_change_63 rfl rfl (fun e63 => ?_) (fun e63 => ?_)
          · exact X_lv [0, 1, 2, 3] rfl (hj70)
          · refine X_iconst (w := 1) dX12_change_66 ki_1 rfl ?_
            refine X_goto (tgt := 71) dX12_change_67 rfl ?_
            exact X_lv [0, 1, 2, 3] rfl (hj71 1)
      · refine X_iload_n (a := 3) dX12_change_39 rfl rfl rfl ?_
        refine X_i2l dX12_change_40 rfl rfl ?_
        refine X_lconst (w := 0) dX12_change_41 kl_0 rfl ?_
        refine X_ldc2 (w := 5) dX12_change_42 t_1287 rfl ?_
        refine X_ruI (Ru_S (st := []) cs_X12_61 (c_X12_in G M (Int32.toInt64 v3) 0 5) (by decide) rfl rfl (Nat.le_of_ble_eq_true rfl) dX12_change_45) rfl (fun r45 => ?_)
        refine X_goto (tgt := 71) dX12_change_48 rfl ?_
        exact X_lv [0, 1, 2, 3] rfl (hj71 r45)
    · refine X_iload_n (a := 3) dX12_change_22 rfl rfl rfl ?_
      refine X_i2l dX12_change_23 rfl rfl ?_
      refine X_lconst (w := 0) dX12_change_24 kl_0 rfl ?_
      refine X_ldc2 (w := 9) dX12_change_25 t_1292 rfl ?_
      refine X_ruI (Ru_S (st := []) cs_X12_61 (c_X12_in G M (Int32.toInt64 v3) 0 9) (by decide) rfl rfl (Nat.le_of_ble_eq_true rfl) dX12_change_28) rfl (fun r28 => ?_)
      refine X_goto (tgt := 71) dX12_change_31 rfl ?_
      exact X_lv [0, 1, 2, 3] rfl (hj71 r28)
  · refine X_iload_n (a := 3) dX12_change_5 rfl rfl rfl ?_
    refine X_i2l dX12_change_6 rfl rfl ?_
    refine X_lconst (w := 0) dX12_change_7 kl_0 rfl ?_
    refine X_ldc2 (w := 99) dX12_change_8 t_1291 rfl ?_
    refine X_ruI (Ru_S (st := []) cs_X12_61 (c_X12_in G M (Int32.toInt64 v3) 0 99) (by decide) rfl rfl (Nat.le_of_ble_eq_true rfl) dX12_change_11) rfl (fun r11 => ?_)
    refine X_goto (tgt := 71) dX12_change_14 rfl ?_
    exact X_lv [0, 1, 2, 3] rfl (hj71 r11)
set_option maxRecDepth 100000 in
theorem c_X12_remake (G : Gm) (M : Mm) (v1 : Int32) (v2 : Int32) : Ct fJ G miX12_remake (2) [.ref (ga G 94), .int v1, .int v2] M (F_X12_remake M v1 v2) := by
  refine Ct_of (pn_X12) (Nat.le_of_ble_eq_true rfl) ?_
  refine X_lv [0, 1, 2] (lv' := [(0, .ref (ga G 94)), (1, .int v1), (2, .int v2)]) rfl ?_
  unfold F_X12_remake
  refine X_aload_n (a := 0) dX12_remake_0 rfl rfl rfl ?_
  refine X_iload_n (a := 1) dX12_remake_1 rfl rfl rfl ?_
  refine X_ruI (Ru_V (st := []) cv_X12_153 rfl (c_X12_isBarrel G M v1) (by decide) rfl rfl (Nat.le_of_ble_eq_true rfl) dX12_remake_2) rfl (fun r2 => ?_)
  refine X_if_eq (tgt := 34) dX12_remake_5 rfl rfl (fun e5 => ?_) (fun e5 => ?_)
  · refine X_iconst (w := (-1)) dX12_remake_34 ki_m1 rfl ?_
    exact X_iretJ rfl dX12_remake_35
  · refine X_iload_n (a := 2) dX12_remake_8 rfl rfl rfl ?_
    refine X_i2l dX12_remake_9 rfl rfl ?_
    refine X_lconst (w := 1) dX12_remake_10 kl_1 rfl ?_
    refine X_ldc2 (w := 5) dX12_remake_11 t_1287 rfl ?_
    refine X_ruI (Ru_S (st := []) cs_X12_61 (c_X12_in G M (Int32.toInt64 v2) 1 5) (by decide) rfl rfl (Nat.le_of_ble_eq_true rfl) dX12_remake_14) rfl (fun r14 => ?_)
    refine X_if_eq (tgt := 34) dX12_remake_17 rfl rfl (fun e17 => ?_) (fun e17 => ?_)
    · refine X_iconst (w := (-1)) dX12_remake_34 ki_m1 rfl ?_
      exact X_iretJ rfl dX12_remake_35
    · refine X_aload_n (a := 0) dX12_remake_20 rfl rfl rfl ?_
      refine X_bipush (w := 35) dX12_remake_21 kb_35 rfl ?_
      refine X_iconst (w := 5) dX12_remake_23 ki_5 rfl ?_
      refine X_iload_n (a := 1) dX12_remake_24 rfl rfl rfl ?_
      refine X_imul dX12_remake_25 rfl ?_
      refine X_iadd dX12_remake_26 rfl ?_
      refine X_iload_n (a := 2) dX12_remake_27 rfl rfl rfl ?_
      refine X_ruJ (Ru_V (st := []) cv_X12_156 rfl (c_X12_becomes G M (35 + (5 * v1)) v2) (by decide) rfl rfl (Nat.le_of_ble_eq_true rfl) dX12_remake_28) rfl (fun r28 => ?_)
      refine X_goto (tgt := 35) dX12_remake_31 rfl ?_
      exact X_iretJ rfl dX12_remake_35
set_option maxRecDepth 100000 in
theorem c_X12_water (G : Gm) (M : Mm) (v1 : Int32) (v2 : Int32) : Ct fJ G miX12_water (1) [.ref (ga G 94), .int v1, .int v2] M (F_X12_water M v1 v2) := by
  refine Ct_of (pn_X12) (Nat.le_of_ble_eq_true rfl) ?_
  refine X_lv [0, 1, 2] (lv' := [(0, .ref (ga G 94)), (1, .int v1), (2, .int v2)]) rfl ?_
  unfold F_X12_water
  refine X_iload_n (a := 1) dX12_water_0 rfl rfl rfl ?_
  refine X_i2l dX12_water_1 rfl rfl ?_
  refine X_lconst (w := 0) dX12_water_2 kl_0 rfl ?_
  refine X_ldc2 (w := 15) dX12_water_3 t_1384 rfl ?_
  refine X_ruI (Ru_S (st := []) cs_X12_61 (c_X12_in G M (Int32.toInt64 v1) 0 15) (by decide) rfl rfl (Nat.le_of_ble_eq_true rfl) dX12_water_6) rfl (fun r6 => ?_)
  refine X_if_eq (tgt := 36) dX12_water_9 rfl rfl (fun e9 => ?_) (fun e9 => ?_)
  · refine X_iconst (w := (-1)) dX12_water_36 ki_m1 rfl ?_
    exact X_iretJ rfl dX12_water_37
  · refine X_iload_n (a := 2) dX12_water_12 rfl rfl rfl ?_
    refine X_i2l dX12_water_13 rfl rfl ?_
    refine X_lconst (w := 0) dX12_water_14 kl_0 rfl ?_
    refine X_ldc2 (w := 15) dX12_water_15 t_1384 rfl ?_
    refine X_ruI (Ru_S (st := []) cs_X12_61 (c_X12_in G M (Int32.toInt64 v2) 0 15) (by decide) rfl rfl (Nat.le_of_ble_eq_true rfl) dX12_water_18) rfl (fun r18 => ?_)
    refine X_if_eq (tgt := 36) dX12_water_21 rfl rfl (fun e21 => ?_) (fun e21 => ?_)
    · refine X_iconst (w := (-1)) dX12_water_36 ki_m1 rfl ?_
      exact X_iretJ rfl dX12_water_37
    · refine X_aload_n (a := 0) dX12_water_24 rfl rfl rfl ?_
      refine X_bipush (w := 7) dX12_water_25 kb_7 rfl ?_
      refine X_iload_n (a := 1) dX12_water_27 rfl rfl rfl ?_
      refine X_iadd dX12_water_28 rfl ?_
      refine X_iload_n (a := 2) dX12_water_29 rfl rfl rfl ?_
      refine X_ruJ (Ru_V (st := []) cv_X12_156 rfl (c_X12_becomes G M (7 + v1) v2) (by decide) rfl rfl (Nat.le_of_ble_eq_true rfl) dX12_water_30) rfl (fun r30 => ?_)
      refine X_goto (tgt := 37) dX12_water_33 rfl ?_
      exact X_iretJ rfl dX12_water_37
set_option maxRecDepth 100000 in
theorem c_X12_tier (G : Gm) (M : Mm) (v1 : Int32) (v2 : Int32) (v3 : Int32) : Ct fJ G miX12_tier (1) [.ref (ga G 94), .int v1, .int v2, .int v3] M (F_X12_tier M v1 v2 v3) := by
  refine Ct_of (pn_X12) (Nat.le_of_ble_eq_true rfl) ?_
  refine X_lv [0, 1, 2, 3] (lv' := [(0, .ref (ga G 94)), (1, .int v1), (2, .int v2), (3, .int v3)]) rfl ?_
  unfold F_X12_tier
  refine X_iload_n (a := 1) dX12_tier_0 rfl rfl rfl ?_
  refine X_i2l dX12_tier_1 rfl rfl ?_
  refine X_lconst (w := 0) dX12_tier_2 kl_0 rfl ?_
  refine X_ldc2 (w := 5) dX12_tier_3 t_1287 rfl ?_
  refine X_ruI (Ru_S (st := []) cs_X12_61 (c_X12_in G M (Int32.toInt64 v1) 0 5) (by decide) rfl rfl (Nat.le_of_ble_eq_true rfl) dX12_tier_6) rfl (fun r6 => ?_)
  refine X_if_eq (tgt := 51) dX12_tier_9 rfl rfl (fun e9 => ?_) (fun e9 => ?_)
  · refine X_iconst (w := (-1)) dX12_tier_51 ki_m1 rfl ?_
    exact X_iretJ rfl dX12_tier_52
  · refine X_iload_n (a := 2) dX12_tier_12 rfl rfl rfl ?_
    refine X_i2l dX12_tier_13 rfl rfl ?_
    refine X_lconst (w := 0) dX12_tier_14 kl_0 rfl ?_
    refine X_lconst (w := 1) dX12_tier_15 kl_1 rfl ?_
    refine X_ruI (Ru_S (st := []) cs_X12_61 (c_X12_in G M (Int32.toInt64 v2) 0 1) (by decide) rfl rfl (Nat.le_of_ble_eq_true rfl) dX12_tier_16) rfl (fun r16 => ?_)
    refine X_if_eq (tgt := 51) dX12_tier_19 rfl rfl (fun e19 => ?_) (fun e19 => ?_)
    · refine X_iconst (w := (-1)) dX12_tier_51 ki_m1 rfl ?_
      exact X_iretJ rfl dX12_tier_52
    · refine X_iload_n (a := 3) dX12_tier_22 rfl rfl rfl ?_
      refine X_i2l dX12_tier_23 rfl rfl ?_
      refine X_lconst (w := 0) dX12_tier_24 kl_0 rfl ?_
      refine X_ldc2 (w := 9) dX12_tier_25 t_1292 rfl ?_
      refine X_ruI (Ru_S (st := []) cs_X12_61 (c_X12_in G M (Int32.toInt64 v3) 0 9) (by decide) rfl rfl (Nat.le_of_ble_eq_true rfl) dX12_tier_28) rfl (fun r28 => ?_)
      refine X_if_eq (tgt := 51) dX12_tier_31 rfl rfl (fun e31 => ?_) (fun e31 => ?_)
      · refine X_iconst (w := (-1)) dX12_tier_51 ki_m1 rfl ?_
        exact X_iretJ rfl dX12_tier_52
      · refine X_aload_n (a := 0) dX12_tier_34 rfl rfl rfl ?_
        refine X_bipush (w := 23) dX12_tier_35 kb_23 rfl ?_
        refine X_bipush (w := 6) dX12_tier_37 kb_6 rfl ?_
        refine X_iload_n (a := 2) dX12_tier_39 rfl rfl rfl ?_
        refine X_imul dX12_tier_40 rfl ?_
        refine X_iadd dX12_tier_41 rfl ?_
        refine X_iload_n (a := 1) dX12_tier_42 rfl rfl rfl ?_
        refine X_iadd dX12_tier_43 rfl ?_
        refine X_iload_n (a := 3) dX12_tier_44 rfl rfl rfl ?_
        refine X_ruJ (Ru_V (st := []) cv_X12_156 rfl (c_X12_becomes G M ((23 + (6 * v2)) + v1) v3) (by decide) rfl rfl (Nat.le_of_ble_eq_true rfl) dX12_tier_45) rfl (fun r45 => ?_)
        refine X_goto (tgt := 52) dX12_tier_48 rfl ?_
        exact X_iretJ rfl dX12_tier_52
set_option maxRecDepth 100000 in
theorem c_X12_tierOf (G : Gm) (M : Mm) (v1 : Int32) (v2 : Int32) : Ct (fI M) G miX12_tierOf (1) [.ref (ga G 94), .int v1, .int v2] M (F_X12_tierOf M v1 v2) := by
  refine Ct_of (pn_X12) (Nat.le_of_ble_eq_true rfl) ?_
  refine X_lv [0, 1, 2] (lv' := [(0, .ref (ga G 94)), (1, .int v1), (2, .int v2)]) rfl ?_
  unfold F_X12_tierOf
  refine X_iload_n (a := 1) dX12_tierOf_0 rfl rfl rfl ?_
  refine X_i2l dX12_tierOf_1 rfl rfl ?_
  refine X_lconst (w := 0) dX12_tierOf_2 kl_0 rfl ?_
  refine X_ldc2 (w := 5) dX12_tierOf_3 t_1287 rfl ?_
  refine X_ruI (Ru_S (st := []) cs_X12_61 (c_X12_in G M (Int32.toInt64 v1) 0 5) (by decide) rfl rfl (Nat.le_of_ble_eq_true rfl) dX12_tierOf_6) rfl (fun r6 => ?_)
  refine X_if_eq (tgt := 39) dX12_tierOf_9 rfl rfl (fun e9 => ?_) (fun e9 => ?_)
  · refine X_iconst (w := (-1)) dX12_tierOf_39 ki_m1 rfl ?_
    exact X_iretI rfl dX12_tierOf_40
  · refine X_iload_n (a := 2) dX12_tierOf_12 rfl rfl rfl ?_
    refine X_i2l dX12_tierOf_13 rfl rfl ?_
    refine X_lconst (w := 0) dX12_tierOf_14 kl_0 rfl ?_
    refine X_lconst (w := 1) dX12_tierOf_15 kl_1 rfl ?_
    refine X_ruI (Ru_S (st := []) cs_X12_61 (c_X12_in G M (Int32.toInt64 v2) 0 1) (by decide) rfl rfl (Nat.le_of_ble_eq_true rfl) dX12_tierOf_16) rfl (fun r16 => ?_)
    refine X_if_eq (tgt := 39) dX12_tierOf_19 rfl rfl (fun e19 => ?_) (fun e19 => ?_)
    · refine X_iconst (w := (-1)) dX12_tierOf_39 ki_m1 rfl ?_
      exact X_iretI rfl dX12_tierOf_40
    · refine X_aload_n (a := 0) dX12_tierOf_22 rfl rfl rfl ?_
      refine X_getR (t := 95) fl_X12_7 rfl rfl dX12_tierOf_23 rfl ?_
      refine X_bipush (w := 23) dX12_tierOf_26 kb_23 rfl ?_
      refine X_bipush (w := 6) dX12_tierOf_28 kb_6 rfl ?_
      refine X_iload_n (a := 2) dX12_tierOf_30 rfl rfl rfl ?_
      refine X_imul dX12_tierOf_31 rfl ?_
      refine X_iadd dX12_tierOf_32 rfl ?_
      refine X_iload_n (a := 1) dX12_tierOf_33 rfl rfl rfl ?_
      refine X_iadd dX12_tierOf_34 rfl ?_
      refine X_iald rfl rfl dX12_tierOf_35 rfl ?_
      refine X_goto (tgt := 40) dX12_tierOf_36 rfl ?_
      exact X_iretI rfl dX12_tierOf_40
set_option maxRecDepth 100000 in
theorem c_X12_ends (G : Gm) (M : Mm) (v1 : Int32) : Ct fJ G miX12_ends (1) [.ref (ga G 94), .int v1] M (F_X12_ends M v1) := by
  refine Ct_of (pn_X12) (Nat.le_of_ble_eq_true rfl) ?_
  refine X_lv [0, 1] (lv' := [(0, .ref (ga G 94)), (1, .int v1)]) rfl ?_
  unfold F_X12_ends
  refine X_iload_n (a := 1) dX12_ends_0 rfl rfl rfl ?_
  refine X_i2l dX12_ends_1 rfl rfl ?_
  refine X_lconst (w := 1) dX12_ends_2 kl_1 rfl ?_
  refine X_ldc2 (w := 16) dX12_ends_3 t_1397 rfl ?_
  refine X_ruI (Ru_S (st := []) cs_X12_61 (c_X12_in G M (Int32.toInt64 v1) 1 16) (by decide) rfl rfl (Nat.le_of_ble_eq_true rfl) dX12_ends_6) rfl (fun r6 => ?_)
  refine X_if_ne (tgt := 14) dX12_ends_9 rfl rfl (fun e9 => ?_) (fun e9 => ?_)
  · refine X_iload_n (a := 1) dX12_ends_14 rfl rfl rfl ?_
    refine X_aload_n (a := 0) dX12_ends_15 rfl rfl rfl ?_
    refine X_getR (t := 95) fl_X12_7 rfl rfl dX12_ends_16 rfl ?_
    refine X_iconst (w := 1) dX12_ends_19 ki_1 rfl ?_
    refine X_iald rfl rfl dX12_ends_20 rfl ?_
    refine X_icmp_ge (tgt := 29) dX12_ends_21 rfl rfl (fun e21 => ?_) (fun e21 => ?_)
    · refine X_aload_n (a := 0) dX12_ends_29 rfl rfl rfl ?_
      refine X_iconst (w := 2) dX12_ends_30 ki_2 rfl ?_
      refine X_iload_n (a := 1) dX12_ends_31 rfl rfl rfl ?_
      refine X_ruJ (Ru_V (st := []) cv_X12_156 rfl (c_X12_becomes G M 2 v1) (by decide) rfl rfl (Nat.le_of_ble_eq_true rfl) dX12_ends_32) rfl (fun r32 => ?_)
      exact X_iretJ rfl dX12_ends_35
    · refine X_bipush (w := (-4)) dX12_ends_24 kb_m4 rfl ?_
      refine X_goto (tgt := 35) dX12_ends_26 rfl ?_
      exact X_iretJ rfl dX12_ends_35
  · refine X_iconst (w := (-1)) dX12_ends_12 ki_m1 rfl ?_
    exact X_iretJ rfl dX12_ends_13
set_option maxRecDepth 100000 in
theorem x_X12_anew_L9 (G : Gm) : ∀ (n : Nat) (M : Mm) (v1 : Int32), X fJ G miX12_anew (1) 9 [(0, .ref (ga G 94)), (1, .int v1)] [] M (F_X12_anew_L9 n M v1) := by
  intro n
  induction n with
  | zero => intro M v1; exact X_none
  | succ n ih =>
    intro M v1
    rw [F_X12_anew_L9]
    refine X_iload_n (a := 1) dX12_anew_9 rfl rfl rfl ?_
    refine X_aload_n (a := 0) dX12_anew_10 rfl rfl rfl ?_
    refine X_getR (t := 95) fl_X12_7 rfl rfl dX12_anew_11 rfl ?_
    refine X_iconst (w := 0) dX12_anew_14 ki_0 rfl ?_
    refine X_iald rfl rfl dX12_anew_15 rfl ?_
    refine X_icmp_ge (tgt := 32) dX12_anew_16 rfl rfl (fun e16 => ?_) (fun e16 => ?_)
    · refine X_aload_n (a := 0) dX12_anew_32 rfl rfl rfl ?_
      refine X_iconst (w := 1) dX12_anew_33 ki_1 rfl ?_
      refine X_iconst (w := 0) dX12_anew_34 ki_0 rfl ?_
      refine X_ruJ (Ru_V (st := []) cv_X12_156 rfl (c_X12_becomes G M 1 0) (by decide) rfl rfl (Nat.le_of_ble_eq_true rfl) dX12_anew_35) rfl (fun r35 => ?_)
      exact X_iretJ rfl dX12_anew_38
    · refine X_aload_n (a := 0) dX12_anew_19 rfl rfl rfl ?_
      refine X_iload_n (a := 1) dX12_anew_20 rfl rfl rfl ?_
      refine X_iconst (w := 4) dX12_anew_21 ki_4 rfl ?_
      refine X_iconst (w := 0) dX12_anew_22 ki_0 rfl ?_
      refine X_ruV (Ru_V (st := []) cv_X12_123 rfl (c_X12_sets G M v1 4 0) (by decide) rfl rfl (Nat.le_of_ble_eq_true rfl) dX12_anew_23) rfl (fun r23 => ?_)
      refine X_iinc (a := 1) (lv2 := [(1, .int (v1 + 1)), (0, .ref (ga G 94))]) dX12_anew_26 rfl (ii_1 _) (by decide) rfl rfl ?_
      refine X_goto (tgt := 9) dX12_anew_29 rfl ?_
      exact X_lv [1, 0] rfl (ih r23 (v1 + 1))
set_option maxRecDepth 100000 in
theorem c_X12_anew (G : Gm) (M : Mm) : Ct fJ G miX12_anew (1) [.ref (ga G 94)] M (F_X12_anew M) := by
  refine Ct_of (pn_X12) (Nat.le_of_ble_eq_true rfl) ?_
  refine X_lv [0] (lv' := [(0, .ref (ga G 94))]) rfl ?_
  unfold F_X12_anew
  refine X_aload_n (a := 0) dX12_anew_0 rfl rfl rfl ?_
  refine X_getR (t := 95) fl_X12_7 rfl rfl dX12_anew_1 rfl ?_
  refine X_iconst (w := 3) dX12_anew_4 ki_3 rfl ?_
  refine X_iconst (w := 0) dX12_anew_5 ki_0 rfl ?_
  refine X_iast rfl rfl dX12_anew_6 rfl ?_
  refine X_iconst (w := 0) dX12_anew_7 ki_0 rfl ?_
  refine X_istore_n (lv2 := [(1, .int 0), (0, .ref (ga G 94))]) dX12_anew_8 rfl (by decide) rfl rfl ?_
  exact X_lv [1, 0] rfl (x_X12_anew_L9 G 1000 (si M 95 (ui 3) 0) 0)

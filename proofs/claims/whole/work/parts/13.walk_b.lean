set_option maxRecDepth 100000 in
theorem c_X6_take_42_7 (G : Gm) (M : Mm) : Ct fV G miX6_take (2) [.ref (ga G 42), .ref (ga G 7)] M (F_X6_take_42_7 M) := by
  refine Ct_of (pn_X6) (Nat.le_of_ble_eq_true rfl) ?_
  refine X_lv [0, 1] (lv' := [(0, .ref (ga G 42)), (1, .ref (ga G 7))]) rfl ?_
  unfold F_X6_take_42_7
  refine X_aload_n (a := 0) dX6_take_0 rfl rfl rfl ?_
  refine X_aload_n (a := 1) dX6_take_1 rfl rfl rfl ?_
  refine X_getI fl_X6_33 rfl dX6_take_2 rfl ?_
  refine X_putI fp_X6_33 rfl dX6_take_5 rfl ?_
  refine X_aload_n (a := 0) dX6_take_8 rfl rfl rfl ?_
  refine X_aload_n (a := 1) dX6_take_9 rfl rfl rfl ?_
  refine X_getI fl_X6_37 rfl dX6_take_10 rfl ?_
  refine X_putI fp_X6_37 rfl dX6_take_13 rfl ?_
  refine X_aload_n (a := 1) dX6_take_16 rfl rfl rfl ?_
  refine X_getR (t := 8) fl_X6_9 rfl rfl dX6_take_17 rfl ?_
  refine X_iconst (w := 0) dX6_take_20 ki_0 rfl ?_
  refine X_aload_n (a := 0) dX6_take_21 rfl rfl rfl ?_
  refine X_getR (t := 43) fl_X6_9 rfl rfl dX6_take_22 rfl ?_
  refine X_iconst (w := 0) dX6_take_25 ki_0 rfl ?_
  refine X_bipush (w := 8) dX6_take_26 kb_8 rfl ?_
  refine X_copy cc_X6_40 (by decide) rfl rfl rfl rfl (Nat.le_of_ble_eq_true rfl) dX6_take_28 rfl ?_
  refine X_aload_n (a := 1) dX6_take_31 rfl rfl rfl ?_
  refine X_getR (t := 9) fl_X6_15 rfl rfl dX6_take_32 rfl ?_
  refine X_iconst (w := 0) dX6_take_35 ki_0 rfl ?_
  refine X_aload_n (a := 0) dX6_take_36 rfl rfl rfl ?_
  refine X_getR (t := 44) fl_X6_15 rfl rfl dX6_take_37 rfl ?_
  refine X_iconst (w := 0) dX6_take_40 ki_0 rfl ?_
  refine X_bipush (w := 8) dX6_take_41 kb_8 rfl ?_
  refine X_copy cc_X6_40 (by decide) rfl rfl rfl rfl (Nat.le_of_ble_eq_true rfl) dX6_take_43 rfl ?_
  refine X_aload_n (a := 1) dX6_take_46 rfl rfl rfl ?_
  refine X_getR (t := 10) fl_X6_18 rfl rfl dX6_take_47 rfl ?_
  refine X_iconst (w := 0) dX6_take_50 ki_0 rfl ?_
  refine X_aload_n (a := 0) dX6_take_51 rfl rfl rfl ?_
  refine X_getR (t := 45) fl_X6_18 rfl rfl dX6_take_52 rfl ?_
  refine X_iconst (w := 0) dX6_take_55 ki_0 rfl ?_
  refine X_bipush (w := 9) dX6_take_56 kb_9 rfl ?_
  refine X_copy cc_X6_40 (by decide) rfl rfl rfl rfl (Nat.le_of_ble_eq_true rfl) dX6_take_58 rfl ?_
  refine X_aload_n (a := 1) dX6_take_61 rfl rfl rfl ?_
  refine X_getR (t := 11) fl_X6_21 rfl rfl dX6_take_62 rfl ?_
  refine X_iconst (w := 0) dX6_take_65 ki_0 rfl ?_
  refine X_aload_n (a := 0) dX6_take_66 rfl rfl rfl ?_
  refine X_getR (t := 46) fl_X6_21 rfl rfl dX6_take_67 rfl ?_
  refine X_iconst (w := 0) dX6_take_70 ki_0 rfl ?_
  refine X_aload_n (a := 0) dX6_take_71 rfl rfl rfl ?_
  refine X_getI fl_X6_37 rfl dX6_take_72 rfl ?_
  refine X_copy cc_X6_40 (by decide) rfl rfl rfl rfl (Nat.le_of_ble_eq_true rfl) dX6_take_75 rfl ?_
  exact X_vret rfl dX6_take_78
set_option maxRecDepth 100000 in
theorem c_X6_take_63_42 (G : Gm) (M : Mm) : Ct fV G miX6_take (2) [.ref (ga G 63), .ref (ga G 42)] M (F_X6_take_63_42 M) := by
  refine Ct_of (pn_X6) (Nat.le_of_ble_eq_true rfl) ?_
  refine X_lv [0, 1] (lv' := [(0, .ref (ga G 63)), (1, .ref (ga G 42))]) rfl ?_
  unfold F_X6_take_63_42
  refine X_aload_n (a := 0) dX6_take_0 rfl rfl rfl ?_
  refine X_aload_n (a := 1) dX6_take_1 rfl rfl rfl ?_
  refine X_getI fl_X6_33 rfl dX6_take_2 rfl ?_
  refine X_putI fp_X6_33 rfl dX6_take_5 rfl ?_
  refine X_aload_n (a := 0) dX6_take_8 rfl rfl rfl ?_
  refine X_aload_n (a := 1) dX6_take_9 rfl rfl rfl ?_
  refine X_getI fl_X6_37 rfl dX6_take_10 rfl ?_
  refine X_putI fp_X6_37 rfl dX6_take_13 rfl ?_
  refine X_aload_n (a := 1) dX6_take_16 rfl rfl rfl ?_
  refine X_getR (t := 43) fl_X6_9 rfl rfl dX6_take_17 rfl ?_
  refine X_iconst (w := 0) dX6_take_20 ki_0 rfl ?_
  refine X_aload_n (a := 0) dX6_take_21 rfl rfl rfl ?_
  refine X_getR (t := 64) fl_X6_9 rfl rfl dX6_take_22 rfl ?_
  refine X_iconst (w := 0) dX6_take_25 ki_0 rfl ?_
  refine X_bipush (w := 8) dX6_take_26 kb_8 rfl ?_
  refine X_copy cc_X6_40 (by decide) rfl rfl rfl rfl (Nat.le_of_ble_eq_true rfl) dX6_take_28 rfl ?_
  refine X_aload_n (a := 1) dX6_take_31 rfl rfl rfl ?_
  refine X_getR (t := 44) fl_X6_15 rfl rfl dX6_take_32 rfl ?_
  refine X_iconst (w := 0) dX6_take_35 ki_0 rfl ?_
  refine X_aload_n (a := 0) dX6_take_36 rfl rfl rfl ?_
  refine X_getR (t := 65) fl_X6_15 rfl rfl dX6_take_37 rfl ?_
  refine X_iconst (w := 0) dX6_take_40 ki_0 rfl ?_
  refine X_bipush (w := 8) dX6_take_41 kb_8 rfl ?_
  refine X_copy cc_X6_40 (by decide) rfl rfl rfl rfl (Nat.le_of_ble_eq_true rfl) dX6_take_43 rfl ?_
  refine X_aload_n (a := 1) dX6_take_46 rfl rfl rfl ?_
  refine X_getR (t := 45) fl_X6_18 rfl rfl dX6_take_47 rfl ?_
  refine X_iconst (w := 0) dX6_take_50 ki_0 rfl ?_
  refine X_aload_n (a := 0) dX6_take_51 rfl rfl rfl ?_
  refine X_getR (t := 66) fl_X6_18 rfl rfl dX6_take_52 rfl ?_
  refine X_iconst (w := 0) dX6_take_55 ki_0 rfl ?_
  refine X_bipush (w := 9) dX6_take_56 kb_9 rfl ?_
  refine X_copy cc_X6_40 (by decide) rfl rfl rfl rfl (Nat.le_of_ble_eq_true rfl) dX6_take_58 rfl ?_
  refine X_aload_n (a := 1) dX6_take_61 rfl rfl rfl ?_
  refine X_getR (t := 46) fl_X6_21 rfl rfl dX6_take_62 rfl ?_
  refine X_iconst (w := 0) dX6_take_65 ki_0 rfl ?_
  refine X_aload_n (a := 0) dX6_take_66 rfl rfl rfl ?_
  refine X_getR (t := 67) fl_X6_21 rfl rfl dX6_take_67 rfl ?_
  refine X_iconst (w := 0) dX6_take_70 ki_0 rfl ?_
  refine X_aload_n (a := 0) dX6_take_71 rfl rfl rfl ?_
  refine X_getI fl_X6_37 rfl dX6_take_72 rfl ?_
  refine X_copy cc_X6_40 (by decide) rfl rfl rfl rfl (Nat.le_of_ble_eq_true rfl) dX6_take_75 rfl ?_
  exact X_vret rfl dX6_take_78
set_option maxRecDepth 100000 in
theorem c_X6_take_42_63 (G : Gm) (M : Mm) : Ct fV G miX6_take (2) [.ref (ga G 42), .ref (ga G 63)] M (F_X6_take_42_63 M) := by
  refine Ct_of (pn_X6) (Nat.le_of_ble_eq_true rfl) ?_
  refine X_lv [0, 1] (lv' := [(0, .ref (ga G 42)), (1, .ref (ga G 63))]) rfl ?_
  unfold F_X6_take_42_63
  refine X_aload_n (a := 0) dX6_take_0 rfl rfl rfl ?_
  refine X_aload_n (a := 1) dX6_take_1 rfl rfl rfl ?_
  refine X_getI fl_X6_33 rfl dX6_take_2 rfl ?_
  refine X_putI fp_X6_33 rfl dX6_take_5 rfl ?_
  refine X_aload_n (a := 0) dX6_take_8 rfl rfl rfl ?_
  refine X_aload_n (a := 1) dX6_take_9 rfl rfl rfl ?_
  refine X_getI fl_X6_37 rfl dX6_take_10 rfl ?_
  refine X_putI fp_X6_37 rfl dX6_take_13 rfl ?_
  refine X_aload_n (a := 1) dX6_take_16 rfl rfl rfl ?_
  refine X_getR (t := 64) fl_X6_9 rfl rfl dX6_take_17 rfl ?_
  refine X_iconst (w := 0) dX6_take_20 ki_0 rfl ?_
  refine X_aload_n (a := 0) dX6_take_21 rfl rfl rfl ?_
  refine X_getR (t := 43) fl_X6_9 rfl rfl dX6_take_22 rfl ?_
  refine X_iconst (w := 0) dX6_take_25 ki_0 rfl ?_
  refine X_bipush (w := 8) dX6_take_26 kb_8 rfl ?_
  refine X_copy cc_X6_40 (by decide) rfl rfl rfl rfl (Nat.le_of_ble_eq_true rfl) dX6_take_28 rfl ?_
  refine X_aload_n (a := 1) dX6_take_31 rfl rfl rfl ?_
  refine X_getR (t := 65) fl_X6_15 rfl rfl dX6_take_32 rfl ?_
  refine X_iconst (w := 0) dX6_take_35 ki_0 rfl ?_
  refine X_aload_n (a := 0) dX6_take_36 rfl rfl rfl ?_
  refine X_getR (t := 44) fl_X6_15 rfl rfl dX6_take_37 rfl ?_
  refine X_iconst (w := 0) dX6_take_40 ki_0 rfl ?_
  refine X_bipush (w := 8) dX6_take_41 kb_8 rfl ?_
  refine X_copy cc_X6_40 (by decide) rfl rfl rfl rfl (Nat.le_of_ble_eq_true rfl) dX6_take_43 rfl ?_
  refine X_aload_n (a := 1) dX6_take_46 rfl rfl rfl ?_
  refine X_getR (t := 66) fl_X6_18 rfl rfl dX6_take_47 rfl ?_
  refine X_iconst (w := 0) dX6_take_50 ki_0 rfl ?_
  refine X_aload_n (a := 0) dX6_take_51 rfl rfl rfl ?_
  refine X_getR (t := 45) fl_X6_18 rfl rfl dX6_take_52 rfl ?_
  refine X_iconst (w := 0) dX6_take_55 ki_0 rfl ?_
  refine X_bipush (w := 9) dX6_take_56 kb_9 rfl ?_
  refine X_copy cc_X6_40 (by decide) rfl rfl rfl rfl (Nat.le_of_ble_eq_true rfl) dX6_take_58 rfl ?_
  refine X_aload_n (a := 1) dX6_take_61 rfl rfl rfl ?_
  refine X_getR (t := 67) fl_X6_21 rfl rfl dX6_take_62 rfl ?_
  refine X_iconst (w := 0) dX6_take_65 ki_0 rfl ?_
  refine X_aload_n (a := 0) dX6_take_66 rfl rfl rfl ?_
  refine X_getR (t := 46) fl_X6_21 rfl rfl dX6_take_67 rfl ?_
  refine X_iconst (w := 0) dX6_take_70 ki_0 rfl ?_
  refine X_aload_n (a := 0) dX6_take_71 rfl rfl rfl ?_
  refine X_getI fl_X6_37 rfl dX6_take_72 rfl ?_
  refine X_copy cc_X6_40 (by decide) rfl rfl rfl rfl (Nat.le_of_ble_eq_true rfl) dX6_take_75 rfl ?_
  exact X_vret rfl dX6_take_78
set_option maxRecDepth 100000 in
theorem c_X6_isDigit (G : Gm) (M : Mm) (v0 : Int32) : Ct (fI M) G miX6_isDigit (0) [.int v0] M (F_X6_isDigit v0) := by
  refine Ct_of (pn_X6) (Nat.le_of_ble_eq_true rfl) ?_
  refine X_lv [0] (lv' := [(0, .int v0)]) rfl ?_
  unfold F_X6_isDigit
  refine X_iload_n (a := 0) dX6_isDigit_0 rfl rfl rfl ?_
  refine X_bipush (w := 48) dX6_isDigit_1 kb_48 rfl ?_
  refine X_icmp_lt (tgt := 16) dX6_isDigit_3 rfl rfl (fun e3 => ?_) (fun e3 => ?_)
  · refine X_iconst (w := 0) dX6_isDigit_16 ki_0 rfl ?_
    exact X_zretI rfl dX6_isDigit_17
  · refine X_iload_n (a := 0) dX6_isDigit_6 rfl rfl rfl ?_
    refine X_bipush (w := 57) dX6_isDigit_7 kb_57 rfl ?_
    refine X_icmp_gt (tgt := 16) dX6_isDigit_9 rfl rfl (fun e9 => ?_) (fun e9 => ?_)
    · refine X_iconst (w := 0) dX6_isDigit_16 ki_0 rfl ?_
      exact X_zretI rfl dX6_isDigit_17
    · refine X_iconst (w := 1) dX6_isDigit_12 ki_1 rfl ?_
      refine X_goto (tgt := 17) dX6_isDigit_13 rfl ?_
      exact X_zretI rfl dX6_isDigit_17
set_option maxRecDepth 100000 in
theorem c_X6_isLetter (G : Gm) (M : Mm) (v0 : Int32) : Ct (fI M) G miX6_isLetter (0) [.int v0] M (F_X6_isLetter v0) := by
  refine Ct_of (pn_X6) (Nat.le_of_ble_eq_true rfl) ?_
  refine X_lv [0] (lv' := [(0, .int v0)]) rfl ?_
  unfold F_X6_isLetter
  refine X_iload_n (a := 0) dX6_isLetter_0 rfl rfl rfl ?_
  refine X_bipush (w := 97) dX6_isLetter_1 kb_97 rfl ?_
  refine X_icmp_lt (tgt := 16) dX6_isLetter_3 rfl rfl (fun e3 => ?_) (fun e3 => ?_)
  · refine X_iconst (w := 0) dX6_isLetter_16 ki_0 rfl ?_
    exact X_zretI rfl dX6_isLetter_17
  · refine X_iload_n (a := 0) dX6_isLetter_6 rfl rfl rfl ?_
    refine X_bipush (w := 122) dX6_isLetter_7 kb_122 rfl ?_
    refine X_icmp_gt (tgt := 16) dX6_isLetter_9 rfl rfl (fun e9 => ?_) (fun e9 => ?_)
    · refine X_iconst (w := 0) dX6_isLetter_16 ki_0 rfl ?_
      exact X_zretI rfl dX6_isLetter_17
    · refine X_iconst (w := 1) dX6_isLetter_12 ki_1 rfl ?_
      refine X_goto (tgt := 17) dX6_isLetter_13 rfl ?_
      exact X_zretI rfl dX6_isLetter_17
set_option maxRecDepth 100000 in
theorem x_X6_endOf_L29 (G : Gm) (M : Mm) (v2 : Int32) (v3 : Int32) : ∀ (n : Nat) (v4 : Int32), X (fI M) G miX6_endOf (1) 29 [(0, .ref (ga G 6)), (2, .int v2), (3, .int v3), (4, .int v4)] [] M (F_X6_endOf_L29 M v2 v3 n v4) := by
  intro n
  induction n with
  | zero => intro v4; exact X_none
  | succ n ih =>
    intro v4
    rw [F_X6_endOf_L29]
    refine X_iload (a := 3) dX6_endOf_29 rfl rfl ?_
    refine X_iload_n (a := 1) dX6_endOf_31 rfl rfl rfl ?_
    refine X_icmp_ge (tgt := 68) dX6_endOf_32 rfl rfl (fun e32 => ?_) (fun e32 => ?_)
    · refine X_iload (a := 3) dX6_endOf_68 rfl rfl ?_
      exact X_iretI rfl dX6_endOf_70
    · refine X_iload_n (a := 2) dX6_endOf_35 rfl rfl rfl ?_
      refine X_jc (P := fun j => X (fI M) G miX6_endOf (1) 62 [(0, .ref (ga G 6)), (2, .int v2), (3, .int v3), (4, .int v4)] [] M (j)) (?_) (fun j62 hj62 => ?_)
      · refine X_iinc (a := 3) (lv2 := [(4, .int (v4 + 1)), (0, .ref (ga G 6)), (2, .int v2), (3, .int v3)]) dX6_endOf_62 rfl (ii_1 _) (by decide) rfl rfl ?_
        refine X_goto (tgt := 29) dX6_endOf_65 rfl ?_
        exact X_lv [1, 2, 3, 0] rfl (ih (v4 + 1))
      refine X_if_eq (tgt := 52) dX6_endOf_36 rfl rfl (fun e36 => ?_) (fun e36 => ?_)
      · refine X_aload_n (a := 0) dX6_endOf_52 rfl rfl rfl ?_
        refine X_iload (a := 3) dX6_endOf_53 rfl rfl ?_
        refine X_bald rfl rfl dX6_endOf_55 rfl ?_
        refine X_ruI (Ru_S (st := []) cs_X6_114 (c_X6_isDigit G M (gi M 6 (ui v4))) (by decide) rfl rfl (Nat.le_of_ble_eq_true rfl) dX6_endOf_56) rfl (fun r56 => ?_)
        refine X_if_eq (tgt := 68) dX6_endOf_59 rfl rfl (fun e59 => ?_) (fun e59 => ?_)
        · refine X_iload (a := 3) dX6_endOf_68 rfl rfl ?_
          exact X_iretI rfl dX6_endOf_70
        · exact X_lv [0, 1, 2, 3] rfl (hj62)
      · refine X_aload_n (a := 0) dX6_endOf_39 rfl rfl rfl ?_
        refine X_iload (a := 3) dX6_endOf_40 rfl rfl ?_
        refine X_bald rfl rfl dX6_endOf_42 rfl ?_
        refine X_ruI (Ru_S (st := []) cs_X6_111 (c_X6_isLetter G M (gi M 6 (ui v4))) (by decide) rfl rfl (Nat.le_of_ble_eq_true rfl) dX6_endOf_43) rfl (fun r43 => ?_)
        refine X_if_eq (tgt := 68) dX6_endOf_46 rfl rfl (fun e46 => ?_) (fun e46 => ?_)
        · refine X_iload (a := 3) dX6_endOf_68 rfl rfl ?_
          exact X_iretI rfl dX6_endOf_70
        · refine X_goto (tgt := 62) dX6_endOf_49 rfl ?_
          exact X_lv [0, 1, 2, 3] rfl (hj62)
set_option maxRecDepth 100000 in
theorem c_X6_endOf (G : Gm) (M : Mm) (v1 : Int32) (v2 : Int32) : Ct (fI M) G miX6_endOf (1) [.ref (ga G 6), .int v1, .int v2] M (F_X6_endOf M v1 v2) := by
  refine Ct_of (pn_X6) (Nat.le_of_ble_eq_true rfl) ?_
  refine X_lv [0, 1, 2] (lv' := [(0, .ref (ga G 6)), (1, .int v1), (2, .int v2)]) rfl ?_
  unfold F_X6_endOf
  refine X_aload_n (a := 0) dX6_endOf_0 rfl rfl rfl ?_
  refine X_iload_n (a := 1) dX6_endOf_1 rfl rfl rfl ?_
  refine X_bald rfl rfl dX6_endOf_2 rfl ?_
  refine X_ruI (Ru_S (st := []) cs_X6_111 (c_X6_isLetter G M (gi M 6 (ui v1))) (by decide) rfl rfl (Nat.le_of_ble_eq_true rfl) dX6_endOf_3) rfl (fun r3 => ?_)
  refine X_istore_n (lv2 := [(3, .int r3), (0, .ref (ga G 6)), (1, .int v1), (2, .int v2)]) dX6_endOf_6 rfl (by decide) rfl rfl ?_
  refine X_iload_n (a := 0) dX6_endOf_7 rfl rfl rfl ?_
  refine X_jc (P := fun j => X (fI M) G miX6_endOf (1) 24 [(0, .ref (ga G 6)), (1, .int v1), (2, .int v2), (3, .int r3)] [] M (j)) (?_) (fun j24 hj24 => ?_)
  · refine X_iload_n (a := 1) dX6_endOf_24 rfl rfl rfl ?_
    refine X_iconst (w := 1) dX6_endOf_25 ki_1 rfl ?_
    refine X_iadd dX6_endOf_26 rfl ?_
    refine X_istore (lv2 := [(4, .int (v1 + 1)), (0, .ref (ga G 6)), (1, .int v1), (2, .int v2), (3, .int r3)]) dX6_endOf_27 (by decide) rfl rfl ?_
    exact X_lv [1, 3, 4, 0] rfl (x_X6_endOf_L29 G M v2 r3 1000 (v1 + 1))
  refine X_if_ne (tgt := 24) dX6_endOf_8 rfl rfl (fun e8 => ?_) (fun e8 => ?_)
  · exact X_lv [1, 2, 3, 0] rfl (hj24)
  · refine X_aload_n (a := 1) dX6_endOf_11 rfl rfl rfl ?_
    refine X_iload_n (a := 2) dX6_endOf_12 rfl rfl rfl ?_
    refine X_bald rfl rfl dX6_endOf_13 rfl ?_
    refine X_ruI (Ru_S (st := []) cs_X6_114 (c_X6_isDigit G M (gi M 6 (ui v1))) (by decide) rfl rfl (Nat.le_of_ble_eq_true rfl) dX6_endOf_14) rfl (fun r14 => ?_)
    refine X_if_ne (tgt := 24) dX6_endOf_17 rfl rfl (fun e17 => ?_) (fun e17 => ?_)
    · exact X_lv [1, 2, 3, 0] rfl (hj24)
    · refine X_iload_n (a := 2) dX6_endOf_20 rfl rfl rfl ?_
      refine X_iconst (w := 1) dX6_endOf_21 ki_1 rfl ?_
      refine X_iadd dX6_endOf_22 rfl ?_
      exact X_iretI rfl dX6_endOf_23
set_option maxRecDepth 100000 in
theorem c_J0_isLatin1_aae02 (G : Gm) (M : Mm) : Ct (fI M) G miJ0_isLatin1_aae02 (0) [.ref (gz G 1)] M (F_J0_isLatin1_aae02) := by
  refine Ct_of (pn_J0) (Nat.le_of_ble_eq_true rfl) ?_
  refine X_lv [0] (lv' := [(0, .ref (gz G 1))]) rfl ?_
  unfold F_J0_isLatin1_aae02
  refine X_gsC t_666 dJ0_isLatin1_aae02_0 rfl ?_
  refine X_if_eq (tgt := 17) dJ0_isLatin1_aae02_3 rfl rfl (fun e3 => ?_) (fun e3 => ?_)
  · refine X_iconst (w := 0) dJ0_isLatin1_aae02_17 ki_0 rfl ?_
    exact X_zretI rfl dJ0_isLatin1_aae02_18
  · refine X_aload_n (a := 0) dJ0_isLatin1_aae02_6 rfl rfl rfl ?_
    refine X_sCod t_1802 dJ0_isLatin1_aae02_7 rfl ?_
    refine X_if_ne (tgt := 17) dJ0_isLatin1_aae02_10 rfl rfl (fun e10 => ?_) (fun e10 => ?_)
    · refine X_iconst (w := 0) dJ0_isLatin1_aae02_17 ki_0 rfl ?_
      exact X_zretI rfl dJ0_isLatin1_aae02_18
    · refine X_iconst (w := 1) dJ0_isLatin1_aae02_13 ki_1 rfl ?_
      refine X_goto (tgt := 18) dJ0_isLatin1_aae02_14 rfl ?_
      exact X_zretI rfl dJ0_isLatin1_aae02_18
set_option maxRecDepth 100000 in
theorem c_J3_checkIndex_8e157 (G : Gm) (M : Mm) (v0 : Int32) (v1 : Int32) : Ct (fI M) G miJ3_checkIndex_8e157 (0) [.int v0, .int v1, (va_rf (gv G))] M (F_J3_checkIndex_8e157 v0 v1) := by
  have hz : va_rf (gv G) = .null ∨ ∃ a, va_rf (gv G) = .ref a := by cases gv G <;> simp [va_rf]
  rcases hz with hz | ⟨a9, hz⟩
  all_goals rw [hz]
  · refine Ct_of (pn_J3) (Nat.le_of_ble_eq_true rfl) ?_
    refine X_lv [0, 1, 2] (lv' := [(0, .int v0), (1, .int v1), (2, .null)]) rfl ?_
    unfold F_J3_checkIndex_8e157
    refine X_iload_n (a := 0) dJ3_checkIndex_8e157_0 rfl rfl rfl ?_
    refine X_jc (P := fun j => X (fI M) G miJ3_checkIndex_8e157 (0) 9 [(0, .int v0), (1, .int v1), (2, .null)] [] M (j)) (?_) (fun j9 hj9 => ?_)
    · exact X_none
    refine X_if_lt (tgt := 9) dJ3_checkIndex_8e157_1 rfl rfl (fun e1 => ?_) (fun e1 => ?_)
    · exact X_lv [0, 1, 2] rfl (hj9)
    · refine X_iload_n (a := 0) dJ3_checkIndex_8e157_4 rfl rfl rfl ?_
      refine X_iload_n (a := 1) dJ3_checkIndex_8e157_5 rfl rfl rfl ?_
      refine X_icmp_lt (tgt := 16) dJ3_checkIndex_8e157_6 rfl rfl (fun e6 => ?_) (fun e6 => ?_)
      · refine X_iload_n (a := 0) dJ3_checkIndex_8e157_16 rfl rfl rfl ?_
        exact X_iretI rfl dJ3_checkIndex_8e157_17
      · exact X_lv [0, 1, 2] rfl (hj9)
  · refine Ct_of (pn_J3) (Nat.le_of_ble_eq_true rfl) ?_
    refine X_lv [0, 1, 2] (lv' := [(0, .int v0), (1, .int v1), (2, .ref a9)]) rfl ?_
    unfold F_J3_checkIndex_8e157
    refine X_iload_n (a := 0) dJ3_checkIndex_8e157_0 rfl rfl rfl ?_
    refine X_jc (P := fun j => X (fI M) G miJ3_checkIndex_8e157 (0) 9 [(0, .int v0), (1, .int v1), (2, .ref a9)] [] M (j)) (?_) (fun j9 hj9 => ?_)
    · exact X_none
    refine X_if_lt (tgt := 9) dJ3_checkIndex_8e157_1 rfl rfl (fun e1 => ?_) (fun e1 => ?_)
    · exact X_lv [0, 1, 2] rfl (hj9)
    · refine X_iload_n (a := 0) dJ3_checkIndex_8e157_4 rfl rfl rfl ?_
      refine X_iload_n (a := 1) dJ3_checkIndex_8e157_5 rfl rfl rfl ?_
      refine X_icmp_lt (tgt := 16) dJ3_checkIndex_8e157_6 rfl rfl (fun e6 => ?_) (fun e6 => ?_)
      · refine X_iload_n (a := 0) dJ3_checkIndex_8e157_16 rfl rfl rfl ?_
        exact X_iretI rfl dJ3_checkIndex_8e157_17
      · exact X_lv [0, 1, 2] rfl (hj9)
set_option maxRecDepth 100000 in
theorem c_J0_checkIndex_df160 (G : Gm) (M : Mm) (v0 : Int32) (v1 : Int32) : Ct (fU M) G miJ0_checkIndex_df160 (1) [.int v0, .int v1] M (F_J0_checkIndex_df160 v0 v1) := by
  refine Ct_of (pn_J0) (Nat.le_of_ble_eq_true rfl) ?_
  refine X_lv [0, 1] (lv' := [(0, .int v0), (1, .int v1)]) rfl ?_
  unfold F_J0_checkIndex_df160
  refine X_iload_n (a := 0) dJ0_checkIndex_df160_0 rfl rfl rfl ?_
  refine X_iload_n (a := 1) dJ0_checkIndex_df160_1 rfl rfl rfl ?_
  refine X_gsF t_682 dJ0_checkIndex_df160_2 rfl ?_
  refine X_ruI (Ru_S (st := []) cs_J0_1059 (c_J3_checkIndex_8e157 G M v0 v1) (by decide) rfl rfl (Nat.le_of_ble_eq_true rfl) dJ0_checkIndex_df160_5) rfl (fun r5 => ?_)
  refine X_pop dJ0_checkIndex_df160_8 rfl rfl ?_
  exact X_vretU rfl dJ0_checkIndex_df160_9
set_option maxRecDepth 100000 in
theorem c_J1_charAt_3b067 (G : Gm) (M : Mm) (v1 : Int32) : Ct (fI M) G miJ1_charAt_3b067 (2) [.ref (gz G 2), .int v1] M (F_J1_charAt_3b067 v1) := by
  refine Ct_of (pn_J1) (Nat.le_of_ble_eq_true rfl) ?_
  refine X_lv [0, 1] (lv' := [(0, .ref (gz G 2)), (1, .int v1)]) rfl ?_
  unfold F_J1_charAt_3b067
  refine X_iload_n (a := 1) dJ1_charAt_3b067_0 rfl rfl rfl ?_
  refine X_aload_n (a := 0) dJ1_charAt_3b067_1 rfl rfl rfl ?_
  refine X_alen2 dJ1_charAt_3b067_2 rfl ?_
  refine X_ruU (Ru_S (st := []) cs_J1_9 (c_J0_checkIndex_df160 G M v1 100) (by decide) rfl rfl (Nat.le_of_ble_eq_true rfl) dJ1_charAt_3b067_3) rfl ?_
  refine X_aload_n (a := 0) dJ1_charAt_3b067_6 rfl rfl rfl ?_
  refine X_iload_n (a := 1) dJ1_charAt_3b067_7 rfl rfl rfl ?_
  refine X_ald2 dJ1_charAt_3b067_8 rfl ?_
  refine X_sipush (w := 255) dJ1_charAt_3b067_9 ks_255 rfl ?_
  refine X_iand dJ1_charAt_3b067_12 rfl ?_
  refine X_i2c dJ1_charAt_3b067_13 rfl rfl ?_
  exact X_nretI (ty := .char) rfl (by simp) dJ1_charAt_3b067_14
set_option maxRecDepth 100000 in
theorem c_J0_charAt_5068e (G : Gm) (M : Mm) (v1 : Int32) : Ct (fI M) G miJ0_charAt_5068e (4) [.ref (gz G 1), .int v1] M (F_J0_charAt_5068e v1) := by
  refine Ct_of (pn_J0) (Nat.le_of_ble_eq_true rfl) ?_
  refine X_lv [0, 1] (lv' := [(0, .ref (gz G 1)), (1, .int v1)]) rfl ?_
  unfold F_J0_charAt_5068e
  refine X_aload_n (a := 0) dJ0_charAt_5068e_0 rfl rfl rfl ?_
  refine X_ruI (Ru_W (st := []) cw_J0_492 (c_J0_isLatin1_aae02 G M) (by decide) rfl rfl (Nat.le_of_ble_eq_true rfl) dJ0_charAt_5068e_1) rfl (fun r1 => ?_)
  refine X_if_eq (tgt := 16) dJ0_charAt_5068e_4 rfl rfl (fun e4 => ?_) (fun e4 => ?_)
  · refine X_aload_n (a := 0) dJ0_charAt_5068e_16 rfl rfl rfl ?_
    refine X_sVal t_1801 dJ0_charAt_5068e_17 rfl ?_
    refine X_iload_n (a := 1) dJ0_charAt_5068e_20 rfl rfl rfl ?_
    exact X_none
  · refine X_aload_n (a := 0) dJ0_charAt_5068e_7 rfl rfl rfl ?_
    refine X_sVal t_1801 dJ0_charAt_5068e_8 rfl ?_
    refine X_iload_n (a := 1) dJ0_charAt_5068e_11 rfl rfl rfl ?_
    refine X_ruI (Ru_S (st := []) cs_J0_495 (c_J1_charAt_3b067 G M v1) (by decide) rfl rfl (Nat.le_of_ble_eq_true rfl) dJ0_charAt_5068e_12) rfl (fun r12 => ?_)
    exact X_nretI (ty := .char) rfl (by simp) dJ0_charAt_5068e_15
set_option maxRecDepth 100000 in
theorem c_J0_coder_7d493 (G : Gm) (M : Mm) : Ct (fI M) G miJ0_coder_7d493 (0) [.ref (gz G 1)] M (F_J0_coder_7d493) := by
  refine Ct_of (pn_J0) (Nat.le_of_ble_eq_true rfl) ?_
  refine X_lv [0] (lv' := [(0, .ref (gz G 1))]) rfl ?_
  unfold F_J0_coder_7d493
  refine X_gsC t_666 dJ0_coder_7d493_0 rfl ?_
  refine X_if_eq (tgt := 13) dJ0_coder_7d493_3 rfl rfl (fun e3 => ?_) (fun e3 => ?_)
  · refine X_iconst (w := 1) dJ0_coder_7d493_13 ki_1 rfl ?_
    exact X_nretI (ty := .byte) rfl (by simp) dJ0_coder_7d493_14
  · refine X_aload_n (a := 0) dJ0_coder_7d493_6 rfl rfl rfl ?_
    refine X_sCod t_1802 dJ0_coder_7d493_7 rfl ?_
    refine X_goto (tgt := 14) dJ0_coder_7d493_10 rfl ?_
    exact X_nretI (ty := .byte) rfl (by simp) dJ0_coder_7d493_14
set_option maxRecDepth 100000 in
theorem c_J0_length_8abf5 (G : Gm) (M : Mm) : Ct (fI M) G miJ0_length_8abf5 (1) [.ref (gz G 1)] M (F_J0_length_8abf5) := by
  refine Ct_of (pn_J0) (Nat.le_of_ble_eq_true rfl) ?_
  refine X_lv [0] (lv' := [(0, .ref (gz G 1))]) rfl ?_
  unfold F_J0_length_8abf5
  refine X_aload_n (a := 0) dJ0_length_8abf5_0 rfl rfl rfl ?_
  refine X_sVal t_1801 dJ0_length_8abf5_1 rfl ?_
  refine X_alen2 dJ0_length_8abf5_4 rfl ?_
  refine X_aload_n (a := 0) dJ0_length_8abf5_5 rfl rfl rfl ?_
  refine X_ruI (Ru_W (st := [.int 100]) cw_J0_335 (c_J0_coder_7d493 G M) (by decide) rfl rfl (Nat.le_of_ble_eq_true rfl) dJ0_length_8abf5_6) rfl (fun r6 => ?_)
  refine X_ishr dJ0_length_8abf5_9 rfl ?_
  exact X_iretI rfl dJ0_length_8abf5_10
set_option maxRecDepth 100000 in
theorem x_X6_isWordAt_L3 (G : Gm) (M : Mm) (v0 : Int32) (v2 : Int32) (v3 : Int32) : ∀ (n : Nat) (v4 : Int32), X (fI M) G miX6_isWordAt (5) 3 [(0, .int v0), (1, .ref (ga G 6)), (2, .int v2), (3, .int v3), (4, .int v4)] [] M (F_X6_isWordAt_L3 M v0 v2 v3 n v4) := by
  intro n
  induction n with
  | zero => intro v4; exact X_none
  | succ n ih =>
    intro v4
    rw [F_X6_isWordAt_L3]
    refine X_iload (a := 4) dX6_isWordAt_3 rfl rfl ?_
    refine X_iload_n (a := 3) dX6_isWordAt_5 rfl rfl rfl ?_
    refine X_icmp_ge (tgt := 35) dX6_isWordAt_6 rfl rfl (fun e6 => ?_) (fun e6 => ?_)
    · refine X_iconst (w := 1) dX6_isWordAt_35 ki_1 rfl ?_
      exact X_zretI rfl dX6_isWordAt_36
    · refine X_ldcS rfl dX6_isWordAt_9 rfl ?_
      refine X_iload_n (a := 0) dX6_isWordAt_11 rfl rfl rfl ?_
      refine X_iload (a := 4) dX6_isWordAt_12 rfl rfl ?_
      refine X_iadd dX6_isWordAt_14 rfl ?_
      refine X_iload_n (a := 2) dX6_isWordAt_15 rfl rfl rfl ?_
      refine X_isub dX6_isWordAt_16 rfl ?_
      refine X_ruI (Ru_W (st := []) cw_X6_127 (c_J0_charAt_5068e G M ((v0 + v4) - v2)) (by decide) rfl rfl (Nat.le_of_ble_eq_true rfl) dX6_isWordAt_17) rfl (fun r17 => ?_)
      refine X_aload_n (a := 1) dX6_isWordAt_20 rfl rfl rfl ?_
      refine X_iload (a := 4) dX6_isWordAt_21 rfl rfl ?_
      refine X_bald rfl rfl dX6_isWordAt_23 rfl ?_
      refine X_icmp_eq (tgt := 29) dX6_isWordAt_24 rfl rfl (fun e24 => ?_) (fun e24 => ?_)
      · refine X_iinc (a := 4) (lv2 := [(4, .int (v4 + 1)), (0, .int v0), (1, .ref (ga G 6)), (2, .int v2), (3, .int v3)]) dX6_isWordAt_29 rfl (ii_1 _) (by decide) rfl rfl ?_
        refine X_goto (tgt := 3) dX6_isWordAt_32 rfl ?_
        exact X_lv [1, 2, 3, 4, 0] rfl (ih (v4 + 1))
      · refine X_iconst (w := 0) dX6_isWordAt_27 ki_0 rfl ?_
        exact X_zretI rfl dX6_isWordAt_28
set_option maxRecDepth 100000 in
theorem c_X6_isWordAt (G : Gm) (M : Mm) (v0 : Int32) (v2 : Int32) (v3 : Int32) : Ct (fI M) G miX6_isWordAt (5) [.int v0, .ref (ga G 6), .int v2, .int v3] M (F_X6_isWordAt M v0 v2 v3) := by
  refine Ct_of (pn_X6) (Nat.le_of_ble_eq_true rfl) ?_
  refine X_lv [0, 1, 2, 3] (lv' := [(0, .int v0), (1, .ref (ga G 6)), (2, .int v2), (3, .int v3)]) rfl ?_
  unfold F_X6_isWordAt
  refine X_iload_n (a := 2) dX6_isWordAt_0 rfl rfl rfl ?_
  refine X_istore (lv2 := [(4, .int v2), (0, .int v0), (1, .ref (ga G 6)), (2, .int v2), (3, .int v3)]) dX6_isWordAt_1 (by decide) rfl rfl ?_
  exact X_lv [1, 2, 3, 4, 0] rfl (x_X6_isWordAt_L3 G M v0 v2 v3 1000 v2)
set_option maxRecDepth 100000 in
theorem x_X6_wordOf_L8 (G : Gm) (M : Mm) (v1 : Int32) (v2 : Int32) : ∀ (n : Nat) (v3 : Int32) (v4 : Int32) (v5 : Int32), X (fI M) G miX6_wordOf (6) 8 [(0, .ref (ga G 6)), (1, .int v1), (2, .int v2), (3, .int v3), (4, .int v4), (5, .int v5)] [] M (F_X6_wordOf_L8 M v1 v2 n v3 v4 v5) := by
  intro n
  induction n with
  | zero => intro v3 v4 v5; exact X_none
  | succ n ih =>
    intro v3 v4 v5
    rw [F_X6_wordOf_L8]
    refine X_iload (a := 5) dX6_wordOf_8 rfl rfl ?_
    refine X_ldcS rfl dX6_wordOf_10 rfl ?_
    refine X_ruI (Ru_W (st := [.int v5]) cw_X6_122 (c_J0_length_8abf5 G M) (by decide) rfl rfl (Nat.le_of_ble_eq_true rfl) dX6_wordOf_12) rfl (fun r12 => ?_)
    refine X_icmp_ge (tgt := 72) dX6_wordOf_15 rfl rfl (fun e15 => ?_) (fun e15 => ?_)
    · refine X_bipush (w := (-2)) dX6_wordOf_72 kb_m2 rfl ?_
      exact X_iretI rfl dX6_wordOf_74
    · refine X_ldcS rfl dX6_wordOf_18 rfl ?_
      refine X_iload (a := 5) dX6_wordOf_20 rfl rfl ?_
      refine X_ruI (Ru_W (st := []) cw_X6_127 (c_J0_charAt_5068e G M v5) (by decide) rfl rfl (Nat.le_of_ble_eq_true rfl) dX6_wordOf_22) rfl (fun r22 => ?_)
      refine X_bipush (w := 32) dX6_wordOf_25 kb_32 rfl ?_
      refine X_jc (P := fun j => ∀ (v3 : Int32) (v4 : Int32), X (fI M) G miX6_wordOf (6) 66 [(0, .ref (ga G 6)), (1, .int v1), (2, .int v2), (3, .int v3), (4, .int v4), (5, .int v5)] [] M (j v3 v4)) (fun v3 v4 => ?_) (fun j66 hj66 => ?_)
      · refine X_iinc (a := 5) (lv2 := [(5, .int (v5 + 1)), (0, .ref (ga G 6)), (1, .int v1), (2, .int v2), (3, .int v3), (4, .int v4)]) dX6_wordOf_66 rfl (ii_1 _) (by decide) rfl rfl ?_
        refine X_goto (tgt := 8) dX6_wordOf_69 rfl ?_
        exact X_lv [1, 2, 3, 4, 5, 0] rfl (ih v3 v4 (v5 + 1))
      refine X_icmp_eq (tgt := 33) dX6_wordOf_27 rfl rfl (fun e27 => ?_) (fun e27 => ?_)
      · refine X_iload (a := 5) dX6_wordOf_33 rfl rfl ?_
        refine X_iload (a := 4) dX6_wordOf_35 rfl rfl ?_
        refine X_isub dX6_wordOf_37 rfl ?_
        refine X_iload_n (a := 2) dX6_wordOf_38 rfl rfl rfl ?_
        refine X_iload_n (a := 1) dX6_wordOf_39 rfl rfl rfl ?_
        refine X_isub dX6_wordOf_40 rfl ?_
        refine X_jc (P := fun j => X (fI M) G miX6_wordOf (6) 57 [(0, .ref (ga G 6)), (1, .int v1), (2, .int v2), (3, .int v3), (5, .int v5)] [] M (j)) (?_) (fun j57 hj57 => ?_)
        · refine X_iinc (a := 3) (lv2 := [(3, .int (v3 + 1)), (0, .ref (ga G 6)), (1, .int v1), (2, .int v2), (5, .int v5)]) dX6_wordOf_57 rfl (ii_1 _) (by decide) rfl rfl ?_
          refine X_iload (a := 4) dX6_wordOf_60 rfl rfl ?_
          refine X_iconst (w := 1) dX6_wordOf_62 ki_1 rfl ?_
          refine X_iadd dX6_wordOf_63 rfl ?_
          refine X_istore (lv2 := [(4, .int (v5 + 1)), (3, .int (v3 + 1)), (0, .ref (ga G 6)), (1, .int v1), (2, .int v2), (5, .int v5)]) dX6_wordOf_64 (by decide) rfl rfl ?_
          exact X_lv [2, 3, 4, 1, 0, 5] rfl (hj66 (v3 + 1) (v5 + 1))
        refine X_icmp_ne (tgt := 57) dX6_wordOf_41 rfl rfl (fun e41 => ?_) (fun e41 => ?_)
        · exact X_lv [0, 1, 2, 3, 5] rfl (hj57)
        · refine X_iload (a := 4) dX6_wordOf_44 rfl rfl ?_
          refine X_aload_n (a := 0) dX6_wordOf_46 rfl rfl rfl ?_
          refine X_iload_n (a := 1) dX6_wordOf_47 rfl rfl rfl ?_
          refine X_iload_n (a := 2) dX6_wordOf_48 rfl rfl rfl ?_
          refine X_ruI (Ru_S (st := []) cs_X6_131 (c_X6_isWordAt G M v4 v1 v2) (by decide) rfl rfl (Nat.le_of_ble_eq_true rfl) dX6_wordOf_49) rfl (fun r49 => ?_)
          refine X_if_eq (tgt := 57) dX6_wordOf_52 rfl rfl (fun e52 => ?_) (fun e52 => ?_)
          · exact X_lv [0, 1, 2, 3, 5] rfl (hj57)
          · refine X_iload_n (a := 3) dX6_wordOf_55 rfl rfl rfl ?_
            exact X_iretI rfl dX6_wordOf_56
      · refine X_goto (tgt := 66) dX6_wordOf_30 rfl ?_
        exact X_lv [0, 1, 2, 3, 4, 5] rfl (hj66 v3 v4)
set_option maxRecDepth 100000 in
theorem c_X6_wordOf (G : Gm) (M : Mm) (v1 : Int32) (v2 : Int32) : Ct (fI M) G miX6_wordOf (6) [.ref (ga G 6), .int v1, .int v2] M (F_X6_wordOf M v1 v2) := by
  refine Ct_of (pn_X6) (Nat.le_of_ble_eq_true rfl) ?_
  refine X_lv [0, 1, 2] (lv' := [(0, .ref (ga G 6)), (1, .int v1), (2, .int v2)]) rfl ?_
  unfold F_X6_wordOf
  refine X_iconst (w := 0) dX6_wordOf_0 ki_0 rfl ?_
  refine X_istore_n (lv2 := [(3, .int 0), (0, .ref (ga G 6)), (1, .int v1), (2, .int v2)]) dX6_wordOf_1 rfl (by decide) rfl rfl ?_
  refine X_iconst (w := 0) dX6_wordOf_2 ki_0 rfl ?_
  refine X_istore (lv2 := [(4, .int 0), (3, .int 0), (0, .ref (ga G 6)), (1, .int v1), (2, .int v2)]) dX6_wordOf_3 (by decide) rfl rfl ?_
  refine X_iconst (w := 0) dX6_wordOf_5 ki_0 rfl ?_
  refine X_istore (lv2 := [(5, .int 0), (4, .int 0), (3, .int 0), (0, .ref (ga G 6)), (1, .int v1), (2, .int v2)]) dX6_wordOf_6 (by decide) rfl rfl ?_
  exact X_lv [3, 4, 5, 2, 1, 0] rfl (x_X6_wordOf_L8 G M v1 v2 1000 0 0 0)
set_option maxRecDepth 100000 in
theorem x_X6_tokenOf_L31 (G : Gm) (M : Mm) (v2 : Int32) : ∀ (n : Nat) (v3 : Int32) (v4 : Int32), X (fI M) G miX6_tokenOf (7) 31 [(0, .ref (ga G 6)), (2, .int v2), (3, .int v3), (4, .int v4)] [] M (F_X6_tokenOf_L31 M v2 n v3 v4) := by
  intro n
  induction n with
  | zero => intro v3 v4; exact X_none
  | succ n ih =>
    intro v3 v4
    rw [F_X6_tokenOf_L31]
    refine X_iload (a := 3) dX6_tokenOf_31 rfl rfl ?_
    refine X_iload_n (a := 1) dX6_tokenOf_33 rfl rfl rfl ?_
    refine X_icmp_ge (tgt := 56) dX6_tokenOf_34 rfl rfl (fun e34 => ?_) (fun e34 => ?_)
    · refine X_bipush (w := 100) dX6_tokenOf_56 kb_100 rfl ?_
      refine X_iload_n (a := 2) dX6_tokenOf_58 rfl rfl rfl ?_
      refine X_iadd dX6_tokenOf_59 rfl ?_
      exact X_iretI rfl dX6_tokenOf_60
    · refine X_iload_n (a := 2) dX6_tokenOf_37 rfl rfl rfl ?_
      refine X_bipush (w := 10) dX6_tokenOf_38 kb_10 rfl ?_
      refine X_imul dX6_tokenOf_40 rfl ?_
      refine X_aload_n (a := 0) dX6_tokenOf_41 rfl rfl rfl ?_
      refine X_iload (a := 3) dX6_tokenOf_42 rfl rfl ?_
      refine X_bald rfl rfl dX6_tokenOf_44 rfl ?_
      refine X_iadd dX6_tokenOf_45 rfl ?_
      refine X_bipush (w := 48) dX6_tokenOf_46 kb_48 rfl ?_
      refine X_isub dX6_tokenOf_48 rfl ?_
      refine X_istore_n (lv2 := [(3, .int (((v3 * 10) + (gi M 6 (ui v4))) - 48)), (0, .ref (ga G 6)), (2, .int v2), (4, .int v4)]) dX6_tokenOf_49 rfl (by decide) rfl rfl ?_
      refine X_iinc (a := 3) (lv2 := [(4, .int (v4 + 1)), (3, .int (((v3 * 10) + (gi M 6 (ui v4))) - 48)), (0, .ref (ga G 6)), (2, .int v2)]) dX6_tokenOf_50 rfl (ii_1 _) (by decide) rfl rfl ?_
      refine X_goto (tgt := 31) dX6_tokenOf_53 rfl ?_
      exact X_lv [2, 3, 1, 0] rfl (ih (((v3 * 10) + (gi M 6 (ui v4))) - 48) (v4 + 1))
set_option maxRecDepth 100000 in
theorem c_X6_tokenOf (G : Gm) (M : Mm) (v1 : Int32) (v2 : Int32) : Ct (fI M) G miX6_tokenOf (7) [.ref (ga G 6), .int v1, .int v2] M (F_X6_tokenOf M v1 v2) := by
  refine Ct_of (pn_X6) (Nat.le_of_ble_eq_true rfl) ?_
  refine X_lv [0, 1, 2] (lv' := [(0, .ref (ga G 6)), (1, .int v1), (2, .int v2)]) rfl ?_
  unfold F_X6_tokenOf
  refine X_aload_n (a := 0) dX6_tokenOf_0 rfl rfl rfl ?_
  refine X_iload_n (a := 1) dX6_tokenOf_1 rfl rfl rfl ?_
  refine X_bald rfl rfl dX6_tokenOf_2 rfl ?_
  refine X_ruI (Ru_S (st := []) cs_X6_114 (c_X6_isDigit G M (gi M 6 (ui v1))) (by decide) rfl rfl (Nat.le_of_ble_eq_true rfl) dX6_tokenOf_3) rfl (fun r3 => ?_)
  refine X_if_ne (tgt := 16) dX6_tokenOf_6 rfl rfl (fun e6 => ?_) (fun e6 => ?_)
  · refine X_iload_n (a := 2) dX6_tokenOf_16 rfl rfl rfl ?_
    refine X_iload_n (a := 1) dX6_tokenOf_17 rfl rfl rfl ?_
    refine X_isub dX6_tokenOf_18 rfl ?_
    refine X_iconst (w := 4) dX6_tokenOf_19 ki_4 rfl ?_
    refine X_icmp_le (tgt := 26) dX6_tokenOf_20 rfl rfl (fun e20 => ?_) (fun e20 => ?_)
    · refine X_iconst (w := 0) dX6_tokenOf_26 ki_0 rfl ?_
      refine X_istore_n (lv2 := [(3, .int 0), (0, .ref (ga G 6)), (1, .int v1), (2, .int v2)]) dX6_tokenOf_27 rfl (by decide) rfl rfl ?_
      refine X_iload_n (a := 2) dX6_tokenOf_28 rfl rfl rfl ?_
      refine X_istore (lv2 := [(4, .int v1), (3, .int 0), (0, .ref (ga G 6)), (1, .int v1), (2, .int v2)]) dX6_tokenOf_29 (by decide) rfl rfl ?_
      exact X_lv [2, 4, 1, 0] rfl (x_X6_tokenOf_L31 G M v2 1000 0 v1)
    · refine X_bipush (w := (-2)) dX6_tokenOf_23 kb_m2 rfl ?_
      exact X_iretI rfl dX6_tokenOf_25
  · refine X_aload_n (a := 0) dX6_tokenOf_9 rfl rfl rfl ?_
    refine X_iload_n (a := 1) dX6_tokenOf_10 rfl rfl rfl ?_
    refine X_iload_n (a := 2) dX6_tokenOf_11 rfl rfl rfl ?_
    refine X_ruI (Ru_S (st := []) cs_X6_117 (c_X6_wordOf G M v1 v2) (by decide) rfl rfl (Nat.le_of_ble_eq_true rfl) dX6_tokenOf_12) rfl (fun r12 => ?_)
    exact X_iretI rfl dX6_tokenOf_15
set_option maxRecDepth 100000 in
theorem x_X6_part_L8 (G : Gm) (v2 : Int32) : ∀ (n : Nat) (M : Mm) (v3 : Int32) (v4 : Int32) (v5 : Int32), X fV G miX6_part (8) 8 [(0, .ref (ga G 7)), (1, .ref (ga G 6)), (2, .int v2), (3, .int v3), (4, .int v4), (5, .int v5)] [] M (F_X6_part_L8 v2 n M v3 v4 v5) := by
  intro n
  induction n with
  | zero => intro M v3 v4 v5; exact X_none
  | succ n ih =>
    intro M v3 v4 v5
    rw [F_X6_part_L8]
    refine X_iload (a := 5) dX6_part_8 rfl rfl ?_
    refine X_sipush (w := 200) dX6_part_10 ks_200 rfl ?_
    refine X_jc (P := fun j => X fV G miX6_part (8) 75 [(0, .ref (ga G 7)), (2, .int v2), (3, .int v3)] [] M (j)) (?_) (fun j75 hj75 => ?_)
    · refine X_aload_n (a := 0) dX6_part_75 rfl rfl rfl ?_
      refine X_getR (t := 14) fl_X6_30 rfl rfl dX6_part_76 rfl ?_
      refine X_iload_n (a := 2) dX6_part_79 rfl rfl rfl ?_
      refine X_iload_n (a := 1) dX6_part_80 rfl rfl rfl ?_
      refine X_iast rfl rfl dX6_part_81 rfl ?_
      refine X_aload_n (a := 0) dX6_part_82 rfl rfl rfl ?_
      refine X_getR (t := 13) fl_X6_27 rfl rfl dX6_part_83 rfl ?_
      refine X_iload_n (a := 2) dX6_part_86 rfl rfl rfl ?_
      refine X_iconst (w := (-1)) dX6_part_87 ki_m1 rfl ?_
      refine X_iast rfl rfl dX6_part_88 rfl ?_
      exact X_vret rfl dX6_part_89
    refine X_icmp_ge (tgt := 75) dX6_part_13 rfl rfl (fun e13 => ?_) (fun e13 => ?_)
    · exact X_lv [0, 2, 3] rfl (hj75)
    · refine X_iload (a := 4) dX6_part_16 rfl rfl ?_
      refine X_iload_n (a := 2) dX6_part_18 rfl rfl rfl ?_
      refine X_icmp_ge (tgt := 75) dX6_part_19 rfl rfl (fun e19 => ?_) (fun e19 => ?_)
      · exact X_lv [0, 2, 3] rfl (hj75)
      · refine X_aload_n (a := 1) dX6_part_22 rfl rfl rfl ?_
        refine X_iload (a := 4) dX6_part_23 rfl rfl ?_
        refine X_iload_n (a := 2) dX6_part_25 rfl rfl rfl ?_
        refine X_ruI (Ru_S (st := []) cs_X6_104 (c_X6_endOf G M v4 v2) (by decide) rfl rfl (Nat.le_of_ble_eq_true rfl) dX6_part_26) rfl (fun r26 => ?_)
        refine X_istore (lv2 := [(6, .int r26), (0, .ref (ga G 7)), (1, .ref (ga G 6)), (2, .int v2), (3, .int v3), (4, .int v4), (5, .int v5)]) dX6_part_29 (by decide) rfl rfl ?_
        refine X_aload_n (a := 2) dX6_part_31 rfl rfl rfl ?_
        refine X_iload (a := 5) dX6_part_32 rfl rfl ?_
        refine X_bald rfl rfl dX6_part_34 rfl ?_
        refine X_bipush (w := 32) dX6_part_35 kb_32 rfl ?_
        refine X_jc (P := fun j => ∀ (v3 : Int32) (M : Mm), X fV G miX6_part (8) 65 [(0, .ref (ga G 7)), (1, .ref (ga G 6)), (2, .int v2), (3, .int v3), (5, .int v5), (6, .int r26)] [] M (j v3 M)) (fun v3 M => ?_) (fun j65 hj65 => ?_)
        · refine X_iload (a := 5) dX6_part_65 rfl rfl ?_
          refine X_istore (lv2 := [(4, .int r26), (0, .ref (ga G 7)), (1, .ref (ga G 6)), (2, .int v2), (3, .int v3), (5, .int v5), (6, .int r26)]) dX6_part_67 (by decide) rfl rfl ?_
          refine X_iinc (a := 5) (lv2 := [(5, .int (v5 + 1)), (4, .int r26), (0, .ref (ga G 7)), (1, .ref (ga G 6)), (2, .int v2), (3, .int v3), (6, .int r26)]) dX6_part_69 rfl (ii_1 _) (by decide) rfl rfl ?_
          refine X_goto (tgt := 8) dX6_part_72 rfl ?_
          exact X_lv [2, 3, 4, 5, 1, 0] rfl (ih M v3 r26 (v5 + 1))
        refine X_icmp_eq (tgt := 65) dX6_part_37 rfl rfl (fun e37 => ?_) (fun e37 => ?_)
        · exact X_lv [1, 2, 3, 4, 6, 0] rfl (hj65 v3 M)
        · refine X_aload_n (a := 1) dX6_part_40 rfl rfl rfl ?_
          refine X_getR (t := 14) fl_X6_30 rfl rfl dX6_part_41 rfl ?_
          refine X_iload_n (a := 4) dX6_part_44 rfl rfl rfl ?_
          refine X_iload (a := 5) dX6_part_45 rfl rfl ?_
          refine X_iast rfl rfl dX6_part_47 rfl ?_
          refine X_aload_n (a := 1) dX6_part_48 rfl rfl rfl ?_
          refine X_getR (t := 13) fl_X6_27 rfl rfl dX6_part_49 rfl ?_
          refine X_iload_n (a := 4) dX6_part_52 rfl rfl rfl ?_
          refine X_aload_n (a := 2) dX6_part_53 rfl rfl rfl ?_
          refine X_iload (a := 5) dX6_part_54 rfl rfl ?_
          refine X_iload (a := 0) dX6_part_56 rfl rfl ?_
          refine X_ruI (Ru_S (st := [.int v3, .ref (ga G 13)]) cs_X6_108 (c_X6_tokenOf G (si M 14 (ui v3) v4) v4 r26) (by decide) rfl rfl (Nat.le_of_ble_eq_true rfl) dX6_part_58) rfl (fun r58 => ?_)
          refine X_iast rfl rfl dX6_part_61 rfl ?_
          refine X_iinc (a := 4) (lv2 := [(3, .int (v3 + 1)), (6, .int r26), (0, .ref (ga G 7)), (1, .ref (ga G 6)), (2, .int v2), (4, .int v4), (5, .int v5)]) dX6_part_62 rfl (ii_1 _) (by decide) rfl rfl ?_
          exact X_lv [2, 3, 4, 0, 6, 1] rfl (hj65 (v3 + 1) (si (si M 14 (ui v3) v4) 13 (ui v3) r58))
set_option maxRecDepth 100000 in
theorem c_X6_part (G : Gm) (M : Mm) (v2 : Int32) : Ct fV G miX6_part (8) [.ref (ga G 7), .ref (ga G 6), .int v2] M (F_X6_part M v2) := by
  refine Ct_of (pn_X6) (Nat.le_of_ble_eq_true rfl) ?_
  refine X_lv [0, 1, 2] (lv' := [(0, .ref (ga G 7)), (1, .ref (ga G 6)), (2, .int v2)]) rfl ?_
  unfold F_X6_part
  refine X_iconst (w := 0) dX6_part_0 ki_0 rfl ?_
  refine X_istore_n (lv2 := [(3, .int 0), (0, .ref (ga G 7)), (1, .ref (ga G 6)), (2, .int v2)]) dX6_part_1 rfl (by decide) rfl rfl ?_
  refine X_iconst (w := 0) dX6_part_2 ki_0 rfl ?_
  refine X_istore (lv2 := [(4, .int 0), (3, .int 0), (0, .ref (ga G 7)), (1, .ref (ga G 6)), (2, .int v2)]) dX6_part_3 (by decide) rfl rfl ?_
  refine X_iconst (w := 0) dX6_part_5 ki_0 rfl ?_
  refine X_istore (lv2 := [(5, .int 0), (4, .int 0), (3, .int 0), (0, .ref (ga G 7)), (1, .ref (ga G 6)), (2, .int v2)]) dX6_part_6 (by decide) rfl rfl ?_
  exact X_lv [3, 4, 5, 2, 1, 0] rfl (x_X6_part_L8 G v2 1000 M 0 0 0)
set_option maxRecDepth 100000 in
theorem c_X6_expect (G : Gm) (M : Mm) (v1 : Int32) (v2 : Int32) : Ct fJ G miX6_expect (0) [.ref (ga G 7), .int v1, .int v2] M (F_X6_expect M v1 v2) := by
  refine Ct_of (pn_X6) (Nat.le_of_ble_eq_true rfl) ?_
  refine X_lv [0, 1, 2] (lv' := [(0, .ref (ga G 7)), (1, .int v1), (2, .int v2)]) rfl ?_
  unfold F_X6_expect
  refine X_aload_n (a := 0) dX6_expect_0 rfl rfl rfl ?_
  refine X_getR (t := 13) fl_X6_27 rfl rfl dX6_expect_1 rfl ?_
  refine X_aload_n (a := 0) dX6_expect_4 rfl rfl rfl ?_
  refine X_getI fl_X6_74 rfl dX6_expect_5 rfl ?_
  refine X_iald rfl rfl dX6_expect_8 rfl ?_
  refine X_istore_n (lv2 := [(3, .int (gi M 13 (ui (gi M 7 9)))), (0, .ref (ga G 7)), (1, .int v1), (2, .int v2)]) dX6_expect_9 rfl (by decide) rfl rfl ?_
  refine X_aload_n (a := 1) dX6_expect_10 rfl rfl rfl ?_
  refine X_getI fl_X6_77 rfl dX6_expect_11 rfl ?_
  refine X_if_lt (tgt := 19) dX6_expect_14 rfl rfl (fun e14 => ?_) (fun e14 => ?_)
  · refine X_iload_n (a := 0) dX6_expect_19 rfl rfl rfl ?_
    refine X_iload_n (a := 2) dX6_expect_20 rfl rfl rfl ?_
    refine X_jc (P := fun j => X fJ G miX6_expect (0) 29 [(0, .ref (ga G 7)), (1, .int v1)] [] M (j)) (?_) (fun j29 hj29 => ?_)
    · refine X_aload_n (a := 0) dX6_expect_29 rfl rfl rfl ?_
      refine X_aload_n (a := 0) dX6_expect_30 rfl rfl rfl ?_
      refine X_getR (t := 14) fl_X6_30 rfl rfl dX6_expect_31 rfl ?_
      refine X_aload_n (a := 0) dX6_expect_34 rfl rfl rfl ?_
      refine X_getI fl_X6_74 rfl dX6_expect_35 rfl ?_
      refine X_iald rfl rfl dX6_expect_38 rfl ?_
      refine X_putI fp_X6_77 rfl dX6_expect_39 rfl ?_
      refine X_iload_n (a := 1) dX6_expect_42 rfl rfl rfl ?_
      exact X_iretJ rfl dX6_expect_43
    refine X_icmp_lt (tgt := 29) dX6_expect_21 rfl rfl (fun e21 => ?_) (fun e21 => ?_)
    · exact X_lv [1, 2] rfl (hj29)
    · refine X_iload_n (a := 0) dX6_expect_24 rfl rfl rfl ?_
      refine X_iload_n (a := 3) dX6_expect_25 rfl rfl rfl ?_
      refine X_icmp_le (tgt := 44) dX6_expect_26 rfl rfl (fun e26 => ?_) (fun e26 => ?_)
      · refine X_aload_n (a := 1) dX6_expect_44 rfl rfl rfl ?_
        refine X_dup dX6_expect_45 rfl rfl ?_
        refine X_getI fl_X6_74 rfl dX6_expect_46 rfl ?_
        refine X_iconst (w := 1) dX6_expect_49 ki_1 rfl ?_
        refine X_iadd dX6_expect_50 rfl ?_
        refine X_putI fp_X6_74 rfl dX6_expect_51 rfl ?_
        refine X_iload_n (a := 0) dX6_expect_54 rfl rfl rfl ?_
        exact X_iretJ rfl dX6_expect_55
      · exact X_lv [1, 2] rfl (hj29)
  · refine X_iload_n (a := 2) dX6_expect_17 rfl rfl rfl ?_
    exact X_iretJ rfl dX6_expect_18
set_option maxRecDepth 100000 in
theorem c_X6_emit (G : Gm) (M : Mm) (v1 : Int32) : Ct fV G miX6_emit (0) [.ref (ga G 7), .int v1] M (F_X6_emit M v1) := by
  refine Ct_of (pn_X6) (Nat.le_of_ble_eq_true rfl) ?_
  refine X_lv [0, 1] (lv' := [(0, .ref (ga G 7)), (1, .int v1)]) rfl ?_
  unfold F_X6_emit
  refine X_aload_n (a := 0) dX6_emit_0 rfl rfl rfl ?_
  refine X_getI fl_X6_77 rfl dX6_emit_1 rfl ?_
  refine X_if_ge (tgt := 17) dX6_emit_4 rfl rfl (fun e4 => ?_) (fun e4 => ?_)
  · exact X_vret rfl dX6_emit_17
  · refine X_aload_n (a := 0) dX6_emit_7 rfl rfl rfl ?_
    refine X_getI fl_X6_37 rfl dX6_emit_8 rfl ?_
    refine X_sipush (w := 200) dX6_emit_11 ks_200 rfl ?_
    refine X_icmp_lt (tgt := 18) dX6_emit_14 rfl rfl (fun e14 => ?_) (fun e14 => ?_)
    · refine X_aload_n (a := 0) dX6_emit_18 rfl rfl rfl ?_
      refine X_getR (t := 11) fl_X6_21 rfl rfl dX6_emit_19 rfl ?_
      refine X_aload_n (a := 0) dX6_emit_22 rfl rfl rfl ?_
      refine X_getI fl_X6_37 rfl dX6_emit_23 rfl ?_
      refine X_iload_n (a := 1) dX6_emit_26 rfl rfl rfl ?_
      refine X_iast rfl rfl dX6_emit_27 rfl ?_
      refine X_aload_n (a := 0) dX6_emit_28 rfl rfl rfl ?_
      refine X_dup dX6_emit_29 rfl rfl ?_
      refine X_getI fl_X6_37 rfl dX6_emit_30 rfl ?_
      refine X_iconst (w := 1) dX6_emit_33 ki_1 rfl ?_
      refine X_iadd dX6_emit_34 rfl ?_
      refine X_putI fp_X6_37 rfl dX6_emit_35 rfl ?_
      exact X_vret rfl dX6_emit_38
    · exact X_vret rfl dX6_emit_17
set_option maxRecDepth 100000 in
theorem c_X6_readValue (G : Gm) (M : Mm) : Ct fJ G miX6_readValue (1) [.ref (ga G 7)] M (F_X6_readValue M) := by
  refine Ct_of (pn_X6) (Nat.le_of_ble_eq_true rfl) ?_
  refine X_lv [0] (lv' := [(0, .ref (ga G 7))]) rfl ?_
  unfold F_X6_readValue
  refine X_aload_n (a := 0) dX6_readValue_0 rfl rfl rfl ?_
  refine X_getR (t := 13) fl_X6_27 rfl rfl dX6_readValue_1 rfl ?_
  refine X_aload_n (a := 0) dX6_readValue_4 rfl rfl rfl ?_
  refine X_getI fl_X6_74 rfl dX6_readValue_5 rfl ?_
  refine X_iald rfl rfl dX6_readValue_8 rfl ?_
  refine X_bipush (w := 100) dX6_readValue_9 kb_100 rfl ?_
  refine X_icmp_lt (tgt := 27) dX6_readValue_11 rfl rfl (fun e11 => ?_) (fun e11 => ?_)
  · refine X_aload_n (a := 0) dX6_readValue_27 rfl rfl rfl ?_
    refine X_bipush (w := 13) dX6_readValue_28 kb_13 rfl ?_
    refine X_bipush (w := 17) dX6_readValue_30 kb_17 rfl ?_
    refine X_ruJ (Ru_V (st := []) cv_X6_87 rfl (c_X6_expect G M 13 17) (by decide) rfl rfl (Nat.le_of_ble_eq_true rfl) dX6_readValue_32) rfl (fun r32 => ?_)
    refine X_bipush (w := 13) dX6_readValue_35 kb_13 rfl ?_
    refine X_isub dX6_readValue_37 rfl ?_
    refine X_sipush (w := 10000) dX6_readValue_38 ks_10000 rfl ?_
    refine X_iadd dX6_readValue_41 rfl ?_
    exact X_iretJ rfl dX6_readValue_42
  · refine X_aload_n (a := 0) dX6_readValue_14 rfl rfl rfl ?_
    refine X_bipush (w := 100) dX6_readValue_15 kb_100 rfl ?_
    refine X_sipush (w := 10099) dX6_readValue_17 ks_10099 rfl ?_
    refine X_ruJ (Ru_V (st := []) cv_X6_87 rfl (c_X6_expect G M 100 10099) (by decide) rfl rfl (Nat.le_of_ble_eq_true rfl) dX6_readValue_20) rfl (fun r20 => ?_)
    refine X_bipush (w := 100) dX6_readValue_23 kb_100 rfl ?_
    refine X_isub dX6_readValue_25 rfl ?_
    exact X_iretJ rfl dX6_readValue_26
set_option maxRecDepth 100000 in
theorem x_X6_readOne_L4 (G : Gm) (dd : Nat) (rc : Mm → Int32 → Option Mm) (hrc : ∀ (M : Mm) (v1 : Int32), Ct fV G miX6_readCondition dd [.ref (ga G 7), .int v1] M (rc M v1)) (v1 : Int32) : ∀ (n : Nat) (M : Mm) (v2 : Int32) (v3 : Int32), X fV G miX6_readOne (dd + 2) 4 [(0, .ref (ga G 7)), (1, .int v1), (2, .int v2), (3, .int v3)] [] M (F_X6_readOne_L4 rc v1 n M v2 v3) := by
  intro n
  induction n with
  | zero => intro M v2 v3; exact X_none
  | succ n ih =>
    intro M v2 v3
    rw [F_X6_readOne_L4]
    refine X_iload_n (a := 3) dX6_readOne_4 rfl rfl rfl ?_
    refine X_sipush (w := 200) dX6_readOne_5 ks_200 rfl ?_
    refine X_jc (P := fun j => X fV G miX6_readOne (dd + 2) 58 [(0, .ref (ga G 7)), (1, .int v1), (2, .int v2)] [] M (j)) (?_) (fun j58 hj58 => ?_)
    · refine X_aload_n (a := 0) dX6_readOne_58 rfl rfl rfl ?_
      refine X_getR (t := 13) fl_X6_27 rfl rfl dX6_readOne_59 rfl ?_
      refine X_aload_n (a := 0) dX6_readOne_62 rfl rfl rfl ?_
      refine X_getI fl_X6_74 rfl dX6_readOne_63 rfl ?_
      refine X_iald rfl rfl dX6_readOne_66 rfl ?_
      refine X_bipush (w := 18) dX6_readOne_67 kb_18 rfl ?_
      refine X_jc (P := fun j => ∀ (M : Mm), X fV G miX6_readOne (dd + 2) 170 [(0, .ref (ga G 7)), (2, .int v2)] [] M (j M)) (fun M => ?_) (fun j170 hj170 => ?_)
      · refine X_iload_n (a := 1) dX6_readOne_170 rfl rfl rfl ?_
        refine X_if_eq (tgt := 179) dX6_readOne_171 rfl rfl (fun e171 => ?_) (fun e171 => ?_)
        · exact X_vret rfl dX6_readOne_179
        · refine X_aload_n (a := 0) dX6_readOne_174 rfl rfl rfl ?_
          refine X_iconst (w := (-1)) dX6_readOne_175 ki_m1 rfl ?_
          refine X_ruV (Ru_V (st := []) cv_X6_94 rfl (c_X6_emit G M (-1)) (by omega) rfl rfl (Nat.le_of_ble_eq_true rfl) dX6_readOne_176) rfl (fun r176 => ?_)
          exact X_vret rfl dX6_readOne_179
      refine X_icmp_eq (tgt := 116) dX6_readOne_69 rfl rfl (fun e69 => ?_) (fun e69 => ?_)
      · refine X_iload_n (a := 1) dX6_readOne_116 rfl rfl rfl ?_
        refine X_iconst (w := 3) dX6_readOne_117 ki_3 rfl ?_
        refine X_icmp_lt (tgt := 144) dX6_readOne_118 rfl rfl (fun e118 => ?_) (fun e118 => ?_)
        · refine X_aload_n (a := 0) dX6_readOne_144 rfl rfl rfl ?_
          refine X_dup dX6_readOne_145 rfl rfl ?_
          refine X_getI fl_X6_74 rfl dX6_readOne_146 rfl ?_
          refine X_iconst (w := 1) dX6_readOne_149 ki_1 rfl ?_
          refine X_iadd dX6_readOne_150 rfl ?_
          refine X_putI fp_X6_74 rfl dX6_readOne_151 rfl ?_
          refine X_aload_n (a := 0) dX6_readOne_154 rfl rfl rfl ?_
          refine X_iload_n (a := 1) dX6_readOne_155 rfl rfl rfl ?_
          refine X_iconst (w := 1) dX6_readOne_156 ki_1 rfl ?_
          refine X_iadd dX6_readOne_157 rfl ?_
          refine X_ruV (Ru_V (st := []) cv_X6_83 rfl (hrc (si M 7 9 ((gi M 7 9) + 1)) (v1 + 1)) (by omega) rfl rfl (Nat.le_of_ble_eq_true rfl) dX6_readOne_158) rfl (fun r158 => ?_)
          refine X_aload_n (a := 0) dX6_readOne_161 rfl rfl rfl ?_
          refine X_bipush (w := 19) dX6_readOne_162 kb_19 rfl ?_
          refine X_bipush (w := 19) dX6_readOne_164 kb_19 rfl ?_
          refine X_ruJ (Ru_V (st := []) cv_X6_87 rfl (c_X6_expect G r158 19 19) (by omega) rfl rfl (Nat.le_of_ble_eq_true rfl) dX6_readOne_166) rfl (fun r166 => ?_)
          refine X_pop dX6_readOne_169 rfl rfl ?_
          exact X_lv [0, 2] rfl (hj170 r166.2)
        · refine X_aload_n (a := 0) dX6_readOne_121 rfl rfl rfl ?_
          refine X_getI fl_X6_77 rfl dX6_readOne_122 rfl ?_
          refine X_if_ge (tgt := 170) dX6_readOne_125 rfl rfl (fun e125 => ?_) (fun e125 => ?_)
          · exact X_lv [0, 2] rfl (hj170 M)
          · refine X_aload_n (a := 0) dX6_readOne_128 rfl rfl rfl ?_
            refine X_aload_n (a := 0) dX6_readOne_129 rfl rfl rfl ?_
            refine X_getR (t := 14) fl_X6_30 rfl rfl dX6_readOne_130 rfl ?_
            refine X_aload_n (a := 0) dX6_readOne_133 rfl rfl rfl ?_
            refine X_getI fl_X6_74 rfl dX6_readOne_134 rfl ?_
            refine X_iald rfl rfl dX6_readOne_137 rfl ?_
            refine X_putI fp_X6_77 rfl dX6_readOne_138 rfl ?_
            refine X_goto (tgt := 170) dX6_readOne_141 rfl ?_
            exact X_lv [0, 2] rfl (hj170 (si M 7 10 (gi M 14 (ui (gi M 7 9)))))
      · refine X_aload_n (a := 0) dX6_readOne_72 rfl rfl rfl ?_
        refine X_ruJ (Ru_V (st := []) cv_X6_100 rfl (c_X6_readValue G M) (by omega) rfl rfl (Nat.le_of_ble_eq_true rfl) dX6_readOne_73) rfl (fun r73 => ?_)
        refine X_istore_n (lv2 := [(3, .int r73.1), (0, .ref (ga G 7)), (1, .int v1), (2, .int v2)]) dX6_readOne_76 rfl (by decide) rfl rfl ?_
        refine X_aload_n (a := 1) dX6_readOne_77 rfl rfl rfl ?_
        refine X_bipush (w := 21) dX6_readOne_78 kb_21 rfl ?_
        refine X_bipush (w := 23) dX6_readOne_80 kb_23 rfl ?_
        refine X_ruJ (Ru_V (st := []) cv_X6_87 rfl (c_X6_expect G r73.2 21 23) (by omega) rfl rfl (Nat.le_of_ble_eq_true rfl) dX6_readOne_82) rfl (fun r82 => ?_)
        refine X_bipush (w := 21) dX6_readOne_85 kb_21 rfl ?_
        refine X_isub dX6_readOne_87 rfl ?_
        refine X_istore (lv2 := [(4, .int (r82.1 - 21)), (3, .int r73.1), (0, .ref (ga G 7)), (1, .int v1), (2, .int v2)]) dX6_readOne_88 (by decide) rfl rfl ?_
        refine X_aload_n (a := 2) dX6_readOne_90 rfl rfl rfl ?_
        refine X_ruJ (Ru_V (st := []) cv_X6_100 rfl (c_X6_readValue G r82.2) (by omega) rfl rfl (Nat.le_of_ble_eq_true rfl) dX6_readOne_91) rfl (fun r91 => ?_)
        refine X_istore (lv2 := [(5, .int r91.1), (4, .int (r82.1 - 21)), (3, .int r73.1), (0, .ref (ga G 7)), (1, .int v1), (2, .int v2)]) dX6_readOne_94 (by decide) rfl rfl ?_
        refine X_aload_n (a := 3) dX6_readOne_96 rfl rfl rfl ?_
        refine X_iload (a := 1) dX6_readOne_97 rfl rfl ?_
        refine X_bipush (w := 28) dX6_readOne_99 kb_28 rfl ?_
        refine X_ishl dX6_readOne_101 rfl ?_
        refine X_iload_n (a := 2) dX6_readOne_102 rfl rfl rfl ?_
        refine X_bipush (w := 14) dX6_readOne_103 kb_14 rfl ?_
        refine X_ishl dX6_readOne_105 rfl ?_
        refine X_ior dX6_readOne_106 rfl ?_
        refine X_iload (a := 0) dX6_readOne_107 rfl rfl ?_
        refine X_ior dX6_readOne_109 rfl ?_
        refine X_ruV (Ru_V (st := []) cv_X6_94 rfl (c_X6_emit G r91.2 ((((r82.1 - 21) <<< (28 &&& 31)) ||| (r73.1 <<< (14 &&& 31))) ||| r91.1)) (by omega) rfl rfl (Nat.le_of_ble_eq_true rfl) dX6_readOne_110) rfl (fun r110 => ?_)
        refine X_goto (tgt := 170) dX6_readOne_113 rfl ?_
        exact X_lv [3, 5] rfl (hj170 r110)
    refine X_icmp_ge (tgt := 58) dX6_readOne_8 rfl rfl (fun e8 => ?_) (fun e8 => ?_)
    · exact X_lv [0, 1, 2] rfl (hj58)
    · refine X_aload_n (a := 0) dX6_readOne_11 rfl rfl rfl ?_
      refine X_getI fl_X6_77 rfl dX6_readOne_12 rfl ?_
      refine X_if_ge (tgt := 58) dX6_readOne_15 rfl rfl (fun e15 => ?_) (fun e15 => ?_)
      · exact X_lv [0, 1, 2] rfl (hj58)
      · refine X_aload_n (a := 0) dX6_readOne_18 rfl rfl rfl ?_
        refine X_getR (t := 13) fl_X6_27 rfl rfl dX6_readOne_19 rfl ?_
        refine X_aload_n (a := 0) dX6_readOne_22 rfl rfl rfl ?_
        refine X_getI fl_X6_74 rfl dX6_readOne_23 rfl ?_
        refine X_iald rfl rfl dX6_readOne_26 rfl ?_
        refine X_bipush (w := 12) dX6_readOne_27 kb_12 rfl ?_
        refine X_icmp_ne (tgt := 58) dX6_readOne_29 rfl rfl (fun e29 => ?_) (fun e29 => ?_)
        · exact X_lv [0, 1, 2] rfl (hj58)
        · refine X_aload_n (a := 0) dX6_readOne_32 rfl rfl rfl ?_
          refine X_dup dX6_readOne_33 rfl rfl ?_
          refine X_getI fl_X6_74 rfl dX6_readOne_34 rfl ?_
          refine X_iconst (w := 1) dX6_readOne_37 ki_1 rfl ?_
          refine X_iadd dX6_readOne_38 rfl ?_
          refine X_putI fp_X6_74 rfl dX6_readOne_39 rfl ?_
          refine X_iload_n (a := 2) dX6_readOne_42 rfl rfl rfl ?_
          refine X_jc (P := fun j => ∀ (x51_0 : Int32), X fV G miX6_readOne (dd + 2) 51 [(0, .ref (ga G 7)), (1, .int v1), (3, .int v3)] [.int x51_0] (si M 7 9 ((gi M 7 9) + 1)) (j x51_0)) (fun x51_0 => ?_) (fun j51 hj51 => ?_)
          · refine X_istore_n (lv2 := [(2, .int x51_0), (0, .ref (ga G 7)), (1, .int v1), (3, .int v3)]) dX6_readOne_51 rfl (by decide) rfl rfl ?_
            refine X_iinc (a := 3) (lv2 := [(3, .int (v3 + 1)), (2, .int x51_0), (0, .ref (ga G 7)), (1, .int v1)]) dX6_readOne_52 rfl (ii_1 _) (by decide) rfl rfl ?_
            refine X_goto (tgt := 4) dX6_readOne_55 rfl ?_
            exact X_lv [2, 3, 1, 0] rfl (ih (si M 7 9 ((gi M 7 9) + 1)) x51_0 (v3 + 1))
          refine X_if_ne (tgt := 50) dX6_readOne_43 rfl rfl (fun e43 => ?_) (fun e43 => ?_)
          · refine X_iconst (w := 0) dX6_readOne_50 ki_0 rfl ?_
            exact X_lv [0, 1, 3] rfl (hj51 0)
          · refine X_iconst (w := 1) dX6_readOne_46 ki_1 rfl ?_
            refine X_goto (tgt := 51) dX6_readOne_47 rfl ?_
            exact X_lv [0, 1, 3] rfl (hj51 1)
set_option maxRecDepth 100000 in
theorem c_X6_readOne (G : Gm) (dd : Nat) (rc : Mm → Int32 → Option Mm) (hrc : ∀ (M : Mm) (v1 : Int32), Ct fV G miX6_readCondition dd [.ref (ga G 7), .int v1] M (rc M v1)) (M : Mm) (v1 : Int32) : Ct fV G miX6_readOne (dd + 2) [.ref (ga G 7), .int v1] M (F_X6_readOne rc M v1) := by
  refine Ct_of (pn_X6) (Nat.le_of_ble_eq_true rfl) ?_
  refine X_lv [0, 1] (lv' := [(0, .ref (ga G 7)), (1, .int v1)]) rfl ?_
  unfold F_X6_readOne
  refine X_iconst (w := 0) dX6_readOne_0 ki_0 rfl ?_
  refine X_istore_n (lv2 := [(2, .int 0), (0, .ref (ga G 7)), (1, .int v1)]) dX6_readOne_1 rfl (by decide) rfl rfl ?_
  refine X_iconst (w := 0) dX6_readOne_2 ki_0 rfl ?_
  refine X_istore_n (lv2 := [(3, .int 0), (2, .int 0), (0, .ref (ga G 7)), (1, .int v1)]) dX6_readOne_3 rfl (by decide) rfl rfl ?_
  exact X_lv [2, 3, 1, 0] rfl (x_X6_readOne_L4 G dd rc hrc v1 1000 M 0 0)
set_option maxRecDepth 100000 in
theorem x_X6_readAll_L7 (G : Gm) (dd : Nat) (rc : Mm → Int32 → Option Mm) (hrc : ∀ (M : Mm) (v1 : Int32), Ct fV G miX6_readCondition dd [.ref (ga G 7), .int v1] M (rc M v1)) (v1 : Int32) : ∀ (n : Nat) (M : Mm) (v2 : Int32), X fV G miX6_readAll (dd + 3) 7 [(0, .ref (ga G 7)), (1, .int v1), (2, .int v2)] [] M (F_X6_readAll_L7 rc v1 n M v2) := by
  intro n
  induction n with
  | zero => intro M v2; exact X_none
  | succ n ih =>
    intro M v2
    rw [F_X6_readAll_L7]
    refine X_iload_n (a := 2) dX6_readAll_7 rfl rfl rfl ?_
    refine X_sipush (w := 200) dX6_readAll_8 ks_200 rfl ?_
    refine X_icmp_ge (tgt := 62) dX6_readAll_11 rfl rfl (fun e11 => ?_) (fun e11 => ?_)
    · exact X_vret rfl dX6_readAll_62
    · refine X_aload_n (a := 0) dX6_readAll_14 rfl rfl rfl ?_
      refine X_getI fl_X6_77 rfl dX6_readAll_15 rfl ?_
      refine X_if_ge (tgt := 62) dX6_readAll_18 rfl rfl (fun e18 => ?_) (fun e18 => ?_)
      · exact X_vret rfl dX6_readAll_62
      · refine X_aload_n (a := 0) dX6_readAll_21 rfl rfl rfl ?_
        refine X_getR (t := 13) fl_X6_27 rfl rfl dX6_readAll_22 rfl ?_
        refine X_aload_n (a := 0) dX6_readAll_25 rfl rfl rfl ?_
        refine X_getI fl_X6_74 rfl dX6_readAll_26 rfl ?_
        refine X_iald rfl rfl dX6_readAll_29 rfl ?_
        refine X_bipush (w := 11) dX6_readAll_30 kb_11 rfl ?_
        refine X_icmp_ne (tgt := 62) dX6_readAll_32 rfl rfl (fun e32 => ?_) (fun e32 => ?_)
        · exact X_vret rfl dX6_readAll_62
        · refine X_aload_n (a := 0) dX6_readAll_35 rfl rfl rfl ?_
          refine X_dup dX6_readAll_36 rfl rfl ?_
          refine X_getI fl_X6_74 rfl dX6_readAll_37 rfl ?_
          refine X_iconst (w := 1) dX6_readAll_40 ki_1 rfl ?_
          refine X_iadd dX6_readAll_41 rfl ?_
          refine X_putI fp_X6_74 rfl dX6_readAll_42 rfl ?_
          refine X_aload_n (a := 0) dX6_readAll_45 rfl rfl rfl ?_
          refine X_iload_n (a := 1) dX6_readAll_46 rfl rfl rfl ?_
          refine X_ruV (Ru_V (st := []) cv_X6_97 rfl (c_X6_readOne G dd rc hrc (si M 7 9 ((gi M 7 9) + 1)) v1) (by omega) rfl rfl (Nat.le_of_ble_eq_true rfl) dX6_readAll_47) rfl (fun r47 => ?_)
          refine X_aload_n (a := 0) dX6_readAll_50 rfl rfl rfl ?_
          refine X_bipush (w := (-2)) dX6_readAll_51 kb_m2 rfl ?_
          refine X_ruV (Ru_V (st := []) cv_X6_94 rfl (c_X6_emit G r47 (-2)) (by omega) rfl rfl (Nat.le_of_ble_eq_true rfl) dX6_readAll_53) rfl (fun r53 => ?_)
          refine X_iinc (a := 2) (lv2 := [(2, .int (v2 + 1)), (0, .ref (ga G 7)), (1, .int v1)]) dX6_readAll_56 rfl (ii_1 _) (by decide) rfl rfl ?_
          refine X_goto (tgt := 7) dX6_readAll_59 rfl ?_
          exact X_lv [1, 2, 0] rfl (ih r53 (v2 + 1))
set_option maxRecDepth 100000 in
theorem c_X6_readAll (G : Gm) (dd : Nat) (rc : Mm → Int32 → Option Mm) (hrc : ∀ (M : Mm) (v1 : Int32), Ct fV G miX6_readCondition dd [.ref (ga G 7), .int v1] M (rc M v1)) (M : Mm) (v1 : Int32) : Ct fV G miX6_readAll (dd + 3) [.ref (ga G 7), .int v1] M (F_X6_readAll rc M v1) := by
  refine Ct_of (pn_X6) (Nat.le_of_ble_eq_true rfl) ?_
  refine X_lv [0, 1] (lv' := [(0, .ref (ga G 7)), (1, .int v1)]) rfl ?_
  unfold F_X6_readAll
  refine X_aload_n (a := 0) dX6_readAll_0 rfl rfl rfl ?_
  refine X_iload_n (a := 1) dX6_readAll_1 rfl rfl rfl ?_
  refine X_ruV (Ru_V (st := []) cv_X6_97 rfl (c_X6_readOne G dd rc hrc M v1) (by omega) rfl rfl (Nat.le_of_ble_eq_true rfl) dX6_readAll_2) rfl (fun r2 => ?_)
  refine X_iconst (w := 0) dX6_readAll_5 ki_0 rfl ?_
  refine X_istore_n (lv2 := [(2, .int 0), (0, .ref (ga G 7)), (1, .int v1)]) dX6_readAll_6 rfl (by decide) rfl rfl ?_
  exact X_lv [1, 2, 0] rfl (x_X6_readAll_L7 G dd rc hrc v1 1000 r2 0)
set_option maxRecDepth 100000 in
theorem x_X6_readCondition_L7 (G : Gm) (dd : Nat) (rc : Mm → Int32 → Option Mm) (hrc : ∀ (M : Mm) (v1 : Int32), Ct fV G miX6_readCondition dd [.ref (ga G 7), .int v1] M (rc M v1)) (v1 : Int32) : ∀ (n : Nat) (M : Mm) (v2 : Int32), X fV G miX6_readCondition (dd + 4) 7 [(0, .ref (ga G 7)), (1, .int v1), (2, .int v2)] [] M (F_X6_readCondition_L7 rc v1 n M v2) := by
  intro n
  induction n with
  | zero => intro M v2; exact X_none
  | succ n ih =>
    intro M v2
    rw [F_X6_readCondition_L7]
    refine X_iload_n (a := 2) dX6_readCondition_7 rfl rfl rfl ?_
    refine X_sipush (w := 200) dX6_readCondition_8 ks_200 rfl ?_
    refine X_icmp_ge (tgt := 62) dX6_readCondition_11 rfl rfl (fun e11 => ?_) (fun e11 => ?_)
    · exact X_vret rfl dX6_readCondition_62
    · refine X_aload_n (a := 0) dX6_readCondition_14 rfl rfl rfl ?_
      refine X_getI fl_X6_77 rfl dX6_readCondition_15 rfl ?_
      refine X_if_ge (tgt := 62) dX6_readCondition_18 rfl rfl (fun e18 => ?_) (fun e18 => ?_)
      · exact X_vret rfl dX6_readCondition_62
      · refine X_aload_n (a := 0) dX6_readCondition_21 rfl rfl rfl ?_
        refine X_getR (t := 13) fl_X6_27 rfl rfl dX6_readCondition_22 rfl ?_
        refine X_aload_n (a := 0) dX6_readCondition_25 rfl rfl rfl ?_
        refine X_getI fl_X6_74 rfl dX6_readCondition_26 rfl ?_
        refine X_iald rfl rfl dX6_readCondition_29 rfl ?_
        refine X_bipush (w := 10) dX6_readCondition_30 kb_10 rfl ?_
        refine X_icmp_ne (tgt := 62) dX6_readCondition_32 rfl rfl (fun e32 => ?_) (fun e32 => ?_)
        · exact X_vret rfl dX6_readCondition_62
        · refine X_aload_n (a := 0) dX6_readCondition_35 rfl rfl rfl ?_
          refine X_dup dX6_readCondition_36 rfl rfl ?_
          refine X_getI fl_X6_74 rfl dX6_readCondition_37 rfl ?_
          refine X_iconst (w := 1) dX6_readCondition_40 ki_1 rfl ?_
          refine X_iadd dX6_readCondition_41 rfl ?_
          refine X_putI fp_X6_74 rfl dX6_readCondition_42 rfl ?_
          refine X_aload_n (a := 0) dX6_readCondition_45 rfl rfl rfl ?_
          refine X_iload_n (a := 1) dX6_readCondition_46 rfl rfl rfl ?_
          refine X_ruV (Ru_V (st := []) cv_X6_91 rfl (c_X6_readAll G dd rc hrc (si M 7 9 ((gi M 7 9) + 1)) v1) (by omega) rfl rfl (Nat.le_of_ble_eq_true rfl) dX6_readCondition_47) rfl (fun r47 => ?_)
          refine X_aload_n (a := 0) dX6_readCondition_50 rfl rfl rfl ?_
          refine X_bipush (w := (-3)) dX6_readCondition_51 kb_m3 rfl ?_
          refine X_ruV (Ru_V (st := []) cv_X6_94 rfl (c_X6_emit G r47 (-3)) (by omega) rfl rfl (Nat.le_of_ble_eq_true rfl) dX6_readCondition_53) rfl (fun r53 => ?_)
          refine X_iinc (a := 2) (lv2 := [(2, .int (v2 + 1)), (0, .ref (ga G 7)), (1, .int v1)]) dX6_readCondition_56 rfl (ii_1 _) (by decide) rfl rfl ?_
          refine X_goto (tgt := 7) dX6_readCondition_59 rfl ?_
          exact X_lv [1, 2, 0] rfl (ih r53 (v2 + 1))
set_option maxRecDepth 100000 in
theorem c_X6_readCondition_b (G : Gm) (dd : Nat) (rc : Mm → Int32 → Option Mm) (hrc : ∀ (M : Mm) (v1 : Int32), Ct fV G miX6_readCondition dd [.ref (ga G 7), .int v1] M (rc M v1)) (M : Mm) (v1 : Int32) : Ct fV G miX6_readCondition (dd + 4) [.ref (ga G 7), .int v1] M (F_X6_readCondition_b rc M v1) := by
  refine Ct_of (pn_X6) (Nat.le_of_ble_eq_true rfl) ?_
  refine X_lv [0, 1] (lv' := [(0, .ref (ga G 7)), (1, .int v1)]) rfl ?_
  unfold F_X6_readCondition_b
  refine X_aload_n (a := 0) dX6_readCondition_0 rfl rfl rfl ?_
  refine X_iload_n (a := 1) dX6_readCondition_1 rfl rfl rfl ?_
  refine X_ruV (Ru_V (st := []) cv_X6_91 rfl (c_X6_readAll G dd rc hrc M v1) (by omega) rfl rfl (Nat.le_of_ble_eq_true rfl) dX6_readCondition_2) rfl (fun r2 => ?_)
  refine X_iconst (w := 0) dX6_readCondition_5 ki_0 rfl ?_
  refine X_istore_n (lv2 := [(2, .int 0), (0, .ref (ga G 7)), (1, .int v1)]) dX6_readCondition_6 rfl (by decide) rfl rfl ?_
  exact X_lv [1, 2, 0] rfl (x_X6_readCondition_L7 G dd rc hrc v1 1000 r2 0)
theorem c_X6_readCondition (G : Gm) : ∀ (n : Nat) (M : Mm) (v1 : Int32), Ct fV G miX6_readCondition (4 * n) [.ref (ga G 7), .int v1] M (F_X6_readCondition n M v1) := by
  intro n
  induction n with
  | zero => intro M v1; exact Ct_none
  | succ n ih =>
    intro M v1
    exact c_X6_readCondition_b G (4 * n) (F_X6_readCondition n) ih M v1
set_option maxRecDepth 100000 in
theorem c_X6_readRule (G : Gm) (M : Mm) : Ct fV G miX6_readRule (33) [.ref (ga G 7)] M (F_X6_readRule M) := by
  refine Ct_of (pn_X6) (Nat.le_of_ble_eq_true rfl) ?_
  refine X_lv [0] (lv' := [(0, .ref (ga G 7))]) rfl ?_
  unfold F_X6_readRule
  refine X_aload_n (a := 0) dX6_readRule_0 rfl rfl rfl ?_
  refine X_getR (t := 13) fl_X6_27 rfl rfl dX6_readRule_1 rfl ?_
  refine X_aload_n (a := 0) dX6_readRule_4 rfl rfl rfl ?_
  refine X_getI fl_X6_74 rfl dX6_readRule_5 rfl ?_
  refine X_iald rfl rfl dX6_readRule_8 rfl ?_
  refine X_istore_n (lv2 := [(1, .int (gi M 13 (ui (gi M 7 9)))), (0, .ref (ga G 7))]) dX6_readRule_9 rfl (by decide) rfl rfl ?_
  refine X_aload_n (a := 1) dX6_readRule_10 rfl rfl rfl ?_
  refine X_getI fl_X6_33 rfl dX6_readRule_11 rfl ?_
  refine X_bipush (w := 8) dX6_readRule_14 kb_8 rfl ?_
  refine X_jc (P := fun j => X fV G miX6_readRule (33) 28 [(0, .ref (ga G 7))] [] M (j)) (?_) (fun j28 hj28 => ?_)
  · refine X_aload_n (a := 0) dX6_readRule_28 rfl rfl rfl ?_
    refine X_aload_n (a := 0) dX6_readRule_29 rfl rfl rfl ?_
    refine X_getR (t := 14) fl_X6_30 rfl rfl dX6_readRule_30 rfl ?_
    refine X_aload_n (a := 0) dX6_readRule_33 rfl rfl rfl ?_
    refine X_getI fl_X6_74 rfl dX6_readRule_34 rfl ?_
    refine X_iald rfl rfl dX6_readRule_37 rfl ?_
    refine X_putI fp_X6_77 rfl dX6_readRule_38 rfl ?_
    exact X_vret rfl dX6_readRule_41
  refine X_icmp_ge (tgt := 28) dX6_readRule_16 rfl rfl (fun e16 => ?_) (fun e16 => ?_)
  · exact X_lv [1] rfl (hj28)
  · refine X_iload_n (a := 0) dX6_readRule_19 rfl rfl rfl ?_
    refine X_if_lt (tgt := 28) dX6_readRule_20 rfl rfl (fun e20 => ?_) (fun e20 => ?_)
    · exact X_lv [1] rfl (hj28)
    · refine X_iload_n (a := 0) dX6_readRule_23 rfl rfl rfl ?_
      refine X_iconst (w := 5) dX6_readRule_24 ki_5 rfl ?_
      refine X_icmp_le (tgt := 42) dX6_readRule_25 rfl rfl (fun e25 => ?_) (fun e25 => ?_)
      · refine X_aload_n (a := 1) dX6_readRule_42 rfl rfl rfl ?_
        refine X_dup dX6_readRule_43 rfl rfl ?_
        refine X_getI fl_X6_74 rfl dX6_readRule_44 rfl ?_
        refine X_iconst (w := 1) dX6_readRule_47 ki_1 rfl ?_
        refine X_iadd dX6_readRule_48 rfl ?_
        refine X_putI fp_X6_74 rfl dX6_readRule_49 rfl ?_
        refine X_aload_n (a := 1) dX6_readRule_52 rfl rfl rfl ?_
        refine X_getR (t := 8) fl_X6_9 rfl rfl dX6_readRule_53 rfl ?_
        refine X_aload_n (a := 1) dX6_readRule_56 rfl rfl rfl ?_
        refine X_getI fl_X6_33 rfl dX6_readRule_57 rfl ?_
        refine X_iload_n (a := 0) dX6_readRule_60 rfl rfl rfl ?_
        refine X_iast rfl rfl dX6_readRule_61 rfl ?_
        refine X_aload_n (a := 1) dX6_readRule_62 rfl rfl rfl ?_
        refine X_getR (t := 10) fl_X6_18 rfl rfl dX6_readRule_63 rfl ?_
        refine X_aload_n (a := 1) dX6_readRule_66 rfl rfl rfl ?_
        refine X_getI fl_X6_33 rfl dX6_readRule_67 rfl ?_
        refine X_aload_n (a := 1) dX6_readRule_70 rfl rfl rfl ?_
        refine X_getI fl_X6_37 rfl dX6_readRule_71 rfl ?_
        refine X_iast rfl rfl dX6_readRule_74 rfl ?_
        refine X_aload_n (a := 1) dX6_readRule_75 rfl rfl rfl ?_
        refine X_getR (t := 13) fl_X6_27 rfl rfl dX6_readRule_76 rfl ?_
        refine X_aload_n (a := 1) dX6_readRule_79 rfl rfl rfl ?_
        refine X_getI fl_X6_74 rfl dX6_readRule_80 rfl ?_
        refine X_iald rfl rfl dX6_readRule_83 rfl ?_
        refine X_bipush (w := 9) dX6_readRule_84 kb_9 rfl ?_
        refine X_jc (P := fun j => ∀ (M : Mm), X fV G miX6_readRule (33) 104 [(0, .ref (ga G 7))] [] M (j M)) (fun M => ?_) (fun j104 hj104 => ?_)
        · refine X_aload_n (a := 0) dX6_readRule_104 rfl rfl rfl ?_
          refine X_bipush (w := 6) dX6_readRule_105 kb_6 rfl ?_
          refine X_bipush (w := 8) dX6_readRule_107 kb_8 rfl ?_
          refine X_ruJ (Ru_V (st := []) cv_X6_87 rfl (c_X6_expect G M 6 8) (by decide) rfl rfl (Nat.le_of_ble_eq_true rfl) dX6_readRule_109) rfl (fun r109 => ?_)
          refine X_istore_n (lv2 := [(2, .int r109.1), (0, .ref (ga G 7))]) dX6_readRule_112 rfl (by decide) rfl rfl ?_
          refine X_aload_n (a := 1) dX6_readRule_113 rfl rfl rfl ?_
          refine X_bipush (w := 20) dX6_readRule_114 kb_20 rfl ?_
          refine X_bipush (w := 20) dX6_readRule_116 kb_20 rfl ?_
          refine X_ruJ (Ru_V (st := []) cv_X6_87 rfl (c_X6_expect G r109.2 20 20) (by decide) rfl rfl (Nat.le_of_ble_eq_true rfl) dX6_readRule_118) rfl (fun r118 => ?_)
          refine X_pop dX6_readRule_121 rfl rfl ?_
          refine X_aload_n (a := 1) dX6_readRule_122 rfl rfl rfl ?_
          refine X_getI fl_X6_77 rfl dX6_readRule_123 rfl ?_
          refine X_if_lt (tgt := 130) dX6_readRule_126 rfl rfl (fun e126 => ?_) (fun e126 => ?_)
          · refine X_aload_n (a := 1) dX6_readRule_130 rfl rfl rfl ?_
            refine X_getR (t := 9) fl_X6_15 rfl rfl dX6_readRule_131 rfl ?_
            refine X_aload_n (a := 1) dX6_readRule_134 rfl rfl rfl ?_
            refine X_getI fl_X6_33 rfl dX6_readRule_135 rfl ?_
            refine X_iload_n (a := 0) dX6_readRule_138 rfl rfl rfl ?_
            refine X_bipush (w := 6) dX6_readRule_139 kb_6 rfl ?_
            refine X_isub dX6_readRule_141 rfl ?_
            refine X_iast rfl rfl dX6_readRule_142 rfl ?_
            refine X_aload_n (a := 1) dX6_readRule_143 rfl rfl rfl ?_
            refine X_dup dX6_readRule_144 rfl rfl ?_
            refine X_getI fl_X6_33 rfl dX6_readRule_145 rfl ?_
            refine X_iconst (w := 1) dX6_readRule_148 ki_1 rfl ?_
            refine X_iadd dX6_readRule_149 rfl ?_
            refine X_putI fp_X6_33 rfl dX6_readRule_150 rfl ?_
            refine X_aload_n (a := 1) dX6_readRule_153 rfl rfl rfl ?_
            refine X_getR (t := 10) fl_X6_18 rfl rfl dX6_readRule_154 rfl ?_
            refine X_aload_n (a := 1) dX6_readRule_157 rfl rfl rfl ?_
            refine X_getI fl_X6_33 rfl dX6_readRule_158 rfl ?_
            refine X_aload_n (a := 1) dX6_readRule_161 rfl rfl rfl ?_
            refine X_getI fl_X6_37 rfl dX6_readRule_162 rfl ?_
            refine X_iast rfl rfl dX6_readRule_165 rfl ?_
            exact X_vret rfl dX6_readRule_166
          · exact X_vret rfl dX6_readRule_129
        refine X_icmp_ne (tgt := 104) dX6_readRule_86 rfl rfl (fun e86 => ?_) (fun e86 => ?_)
        · exact X_lv [1] rfl (hj104 (si (si (si M 7 9 ((gi M 7 9) + 1)) 8 (ui (gi (si M 7 9 ((gi M 7 9) + 1)) 7 0)) (gi M 13 (ui (gi M 7 9)))) 10 (ui (gi (si (si M 7 9 ((gi M 7 9) + 1)) 8 (ui (gi (si M 7 9 ((gi M 7 9) + 1)) 7 0)) (gi M 13 (ui (gi M 7 9)))) 7 0)) (gi (si (si M 7 9 ((gi M 7 9) + 1)) 8 (ui (gi (si M 7 9 ((gi M 7 9) + 1)) 7 0)) (gi M 13 (ui (gi M 7 9)))) 7 5)))
        · refine X_aload_n (a := 1) dX6_readRule_89 rfl rfl rfl ?_
          refine X_dup dX6_readRule_90 rfl rfl ?_
          refine X_getI fl_X6_74 rfl dX6_readRule_91 rfl ?_
          refine X_iconst (w := 1) dX6_readRule_94 ki_1 rfl ?_
          refine X_iadd dX6_readRule_95 rfl ?_
          refine X_putI fp_X6_74 rfl dX6_readRule_96 rfl ?_
          refine X_aload_n (a := 1) dX6_readRule_99 rfl rfl rfl ?_
          refine X_iconst (w := 0) dX6_readRule_100 ki_0 rfl ?_
          refine X_ruV (Ru_V (st := []) cv_X6_83 rfl (c_X6_readCondition G 8 (si (si (si (si M 7 9 ((gi M 7 9) + 1)) 8 (ui (gi (si M 7 9 ((gi M 7 9) + 1)) 7 0)) (gi M 13 (ui (gi M 7 9)))) 10 (ui (gi (si (si M 7 9 ((gi M 7 9) + 1)) 8 (ui (gi (si M 7 9 ((gi M 7 9) + 1)) 7 0)) (gi M 13 (ui (gi M 7 9)))) 7 0)) (gi (si (si M 7 9 ((gi M 7 9) + 1)) 8 (ui (gi (si M 7 9 ((gi M 7 9) + 1)) 7 0)) (gi M 13 (ui (gi M 7 9)))) 7 5)) 7 9 ((gi (si (si (si M 7 9 ((gi M 7 9) + 1)) 8 (ui (gi (si M 7 9 ((gi M 7 9) + 1)) 7 0)) (gi M 13 (ui (gi M 7 9)))) 10 (ui (gi (si (si M 7 9 ((gi M 7 9) + 1)) 8 (ui (gi (si M 7 9 ((gi M 7 9) + 1)) 7 0)) (gi M 13 (ui (gi M 7 9)))) 7 0)) (gi (si (si M 7 9 ((gi M 7 9) + 1)) 8 (ui (gi (si M 7 9 ((gi M 7 9) + 1)) 7 0)) (gi M 13 (ui (gi M 7 9)))) 7 5)) 7 9) + 1)) 0) (by decide) rfl rfl (Nat.le_of_ble_eq_true rfl) dX6_readRule_101) rfl (fun r101 => ?_)
          exact X_lv [1] rfl (hj104 r101)
      · exact X_lv [1] rfl (hj28)
set_option maxRecDepth 100000 in
theorem x_X6_read_L28 (G : Gm) : ∀ (n : Nat) (M : Mm) (v3 : Int32), X fJ G miX6_read (34) 28 [(0, .ref (ga G 7)), (3, .int v3)] [] M (F_X6_read_L28 n M v3) := by
  intro n
  induction n with
  | zero => intro M v3; exact X_none
  | succ n ih =>
    intro M v3
    rw [F_X6_read_L28]
    refine X_iload_n (a := 1) dX6_read_28 rfl rfl rfl ?_
    refine X_bipush (w := 8) dX6_read_29 kb_8 rfl ?_
    refine X_icmp_gt (tgt := 64) dX6_read_31 rfl rfl (fun e31 => ?_) (fun e31 => ?_)
    · refine X_aload_n (a := 0) dX6_read_64 rfl rfl rfl ?_
      refine X_getI fl_X6_77 rfl dX6_read_65 rfl ?_
      exact X_iretJ rfl dX6_read_68
    · refine X_aload_n (a := 0) dX6_read_34 rfl rfl rfl ?_
      refine X_getI fl_X6_77 rfl dX6_read_35 rfl ?_
      refine X_if_ge (tgt := 64) dX6_read_38 rfl rfl (fun e38 => ?_) (fun e38 => ?_)
      · refine X_aload_n (a := 0) dX6_read_64 rfl rfl rfl ?_
        refine X_getI fl_X6_77 rfl dX6_read_65 rfl ?_
        exact X_iretJ rfl dX6_read_68
      · refine X_aload_n (a := 0) dX6_read_41 rfl rfl rfl ?_
        refine X_getR (t := 13) fl_X6_27 rfl rfl dX6_read_42 rfl ?_
        refine X_aload_n (a := 0) dX6_read_45 rfl rfl rfl ?_
        refine X_getI fl_X6_74 rfl dX6_read_46 rfl ?_
        refine X_iald rfl rfl dX6_read_49 rfl ?_
        refine X_iconst (w := (-1)) dX6_read_50 ki_m1 rfl ?_
        refine X_icmp_eq (tgt := 64) dX6_read_51 rfl rfl (fun e51 => ?_) (fun e51 => ?_)
        · refine X_aload_n (a := 0) dX6_read_64 rfl rfl rfl ?_
          refine X_getI fl_X6_77 rfl dX6_read_65 rfl ?_
          exact X_iretJ rfl dX6_read_68
        · refine X_aload_n (a := 0) dX6_read_54 rfl rfl rfl ?_
          refine X_ruV (Ru_V (st := []) cv_X6_80 rfl (c_X6_readRule G M) (by decide) rfl rfl (Nat.le_of_ble_eq_true rfl) dX6_read_55) rfl (fun r55 => ?_)
          refine X_iinc (a := 1) (lv2 := [(3, .int (v3 + 1)), (0, .ref (ga G 7))]) dX6_read_58 rfl (ii_1 _) (by decide) rfl rfl ?_
          refine X_goto (tgt := 28) dX6_read_61 rfl ?_
          exact X_lv [1, 0] rfl (ih r55 (v3 + 1))
set_option maxRecDepth 100000 in
theorem c_X6_read (G : Gm) (M : Mm) (v2 : Int32) : Ct fJ G miX6_read (34) [.ref (ga G 7), .ref (ga G 6), .int v2] M (F_X6_read M v2) := by
  refine Ct_of (pn_X6) (Nat.le_of_ble_eq_true rfl) ?_
  refine X_lv [0, 1, 2] (lv' := [(0, .ref (ga G 7)), (1, .ref (ga G 6)), (2, .int v2)]) rfl ?_
  unfold F_X6_read
  refine X_aload_n (a := 0) dX6_read_0 rfl rfl rfl ?_
  refine X_aload_n (a := 1) dX6_read_1 rfl rfl rfl ?_
  refine X_iload_n (a := 2) dX6_read_2 rfl rfl rfl ?_
  refine X_ruV (Ru_V (st := []) cv_X6_70 rfl (c_X6_part G M v2) (by decide) rfl rfl (Nat.le_of_ble_eq_true rfl) dX6_read_3) rfl (fun r3 => ?_)
  refine X_aload_n (a := 0) dX6_read_6 rfl rfl rfl ?_
  refine X_iconst (w := 0) dX6_read_7 ki_0 rfl ?_
  refine X_putI fp_X6_33 rfl dX6_read_8 rfl ?_
  refine X_aload_n (a := 0) dX6_read_11 rfl rfl rfl ?_
  refine X_iconst (w := 0) dX6_read_12 ki_0 rfl ?_
  refine X_putI fp_X6_37 rfl dX6_read_13 rfl ?_
  refine X_aload_n (a := 0) dX6_read_16 rfl rfl rfl ?_
  refine X_iconst (w := 0) dX6_read_17 ki_0 rfl ?_
  refine X_putI fp_X6_74 rfl dX6_read_18 rfl ?_
  refine X_aload_n (a := 0) dX6_read_21 rfl rfl rfl ?_
  refine X_iconst (w := (-1)) dX6_read_22 ki_m1 rfl ?_
  refine X_putI fp_X6_77 rfl dX6_read_23 rfl ?_
  refine X_iconst (w := 0) dX6_read_26 ki_0 rfl ?_
  refine X_istore_n (lv2 := [(3, .int 0), (0, .ref (ga G 7)), (1, .ref (ga G 6)), (2, .int v2)]) dX6_read_27 rfl (by decide) rfl rfl ?_
  exact X_lv [1, 0] rfl (x_X6_read_L28 G 1000 (si (si (si (si r3 7 0 0) 7 5 0) 7 9 0) 7 10 (-1)) 0)
set_option maxRecDepth 100000 in
theorem c_X7_clear (G : Gm) (M : Mm) : Ct fV G miX7_clear (0) [.ref (ga G 4)] M (F_X7_clear M) := by
  refine Ct_of (pn_X7) (Nat.le_of_ble_eq_true rfl) ?_
  refine X_lv [0] (lv' := [(0, .ref (ga G 4))]) rfl ?_
  unfold F_X7_clear
  refine X_aload_n (a := 0) dX7_clear_0 rfl rfl rfl ?_
  refine X_iconst (w := 0) dX7_clear_1 ki_0 rfl ?_
  refine X_putI fp_X7_15 rfl dX7_clear_2 rfl ?_
  refine X_aload_n (a := 0) dX7_clear_5 rfl rfl rfl ?_
  refine X_iconst (w := 0) dX7_clear_6 ki_0 rfl ?_
  refine X_putZ fp_X7_19 rfl dX7_clear_7 rfl ?_
  exact X_vret rfl dX7_clear_10
set_option maxRecDepth 100000 in
theorem c_X10_copy (G : Gm) (M : Mm) (w0 : Nat) (w1 : Nat) (hw0 : ly_ty w0 = 20) (hw1 : ly_ty w1 = 20) : Ct fV G miX10_copy (2) [.ref (ga G w0), .ref (ga G w1)] M (F_X10_copy M w0 w1) := by
  refine Ct_of (pn_X10) (Nat.le_of_ble_eq_true rfl) ?_
  refine X_lv [0, 1] (lv' := [(0, .ref (ga G w0)), (1, .ref (ga G w1))]) rfl ?_
  unfold F_X10_copy
  refine X_aload_n (a := 0) dX10_copy_0 rfl rfl rfl ?_
  refine X_iconst (w := 0) dX10_copy_1 ki_0 rfl ?_
  refine X_aload_n (a := 1) dX10_copy_2 rfl rfl rfl ?_
  refine X_iconst (w := 0) dX10_copy_3 ki_0 rfl ?_
  refine X_aload_n (a := 0) dX10_copy_4 rfl rfl rfl ?_
  refine X_alen (w := (Int32.ofNat (ly_ln w0))) hw0 (Or.inl rfl) rfl dX10_copy_5 rfl ?_
  refine X_aload_n (a := 1) dX10_copy_6 rfl rfl rfl ?_
  refine X_alen (w := (Int32.ofNat (ly_ln w1))) hw1 (Or.inl rfl) rfl dX10_copy_7 rfl ?_
  refine X_min mx_X10_84 (by decide) (Nat.le_of_ble_eq_true rfl) dX10_copy_8 rfl ?_
  refine X_copy cc_X10_90 (by decide) hw0 hw1 rfl rfl (Nat.le_of_ble_eq_true rfl) dX10_copy_11 rfl ?_
  exact X_vret rfl dX10_copy_14
set_option maxRecDepth 100000 in
theorem c_X10_take_33_54 (G : Gm) (M : Mm) : Ct fV G miX10_take (3) [.ref (ga G 33), .ref (ga G 54)] M (F_X10_take_33_54 M) := by
  refine Ct_of (pn_X10) (Nat.le_of_ble_eq_true rfl) ?_
  refine X_lv [0, 1] (lv' := [(0, .ref (ga G 33)), (1, .ref (ga G 54))]) rfl ?_
  unfold F_X10_take_33_54
  refine X_aload_n (a := 1) dX10_take_0 rfl rfl rfl ?_
  refine X_getR (t := 55) fl_X10_9 rfl rfl dX10_take_1 rfl ?_
  refine X_aload_n (a := 0) dX10_take_4 rfl rfl rfl ?_
  refine X_getR (t := 34) fl_X10_9 rfl rfl dX10_take_5 rfl ?_
  refine X_ruV (Ru_S (st := []) cs_X10_64 (c_X10_copy G M 55 34 rfl rfl) (by decide) rfl rfl (Nat.le_of_ble_eq_true rfl) dX10_take_8) rfl (fun r8 => ?_)
  refine X_aload_n (a := 1) dX10_take_11 rfl rfl rfl ?_
  refine X_getR (t := 56) fl_X10_15 rfl rfl dX10_take_12 rfl ?_
  refine X_aload_n (a := 0) dX10_take_15 rfl rfl rfl ?_
  refine X_getR (t := 35) fl_X10_15 rfl rfl dX10_take_16 rfl ?_
  refine X_ruV (Ru_S (st := []) cs_X10_64 (c_X10_copy G r8 56 35 rfl rfl) (by decide) rfl rfl (Nat.le_of_ble_eq_true rfl) dX10_take_19) rfl (fun r19 => ?_)
  refine X_aload_n (a := 1) dX10_take_22 rfl rfl rfl ?_
  refine X_getR (t := 57) fl_X10_18 rfl rfl dX10_take_23 rfl ?_
  refine X_aload_n (a := 0) dX10_take_26 rfl rfl rfl ?_
  refine X_getR (t := 36) fl_X10_18 rfl rfl dX10_take_27 rfl ?_
  refine X_ruV (Ru_S (st := []) cs_X10_64 (c_X10_copy G r19 57 36 rfl rfl) (by decide) rfl rfl (Nat.le_of_ble_eq_true rfl) dX10_take_30) rfl (fun r30 => ?_)
  refine X_aload_n (a := 1) dX10_take_33 rfl rfl rfl ?_
  refine X_getR (t := 58) fl_X10_21 rfl rfl dX10_take_34 rfl ?_
  refine X_aload_n (a := 0) dX10_take_37 rfl rfl rfl ?_
  refine X_getR (t := 37) fl_X10_21 rfl rfl dX10_take_38 rfl ?_
  refine X_ruV (Ru_S (st := []) cs_X10_64 (c_X10_copy G r30 58 37 rfl rfl) (by decide) rfl rfl (Nat.le_of_ble_eq_true rfl) dX10_take_41) rfl (fun r41 => ?_)
  refine X_aload_n (a := 1) dX10_take_44 rfl rfl rfl ?_
  refine X_getR (t := 59) fl_X10_24 rfl rfl dX10_take_45 rfl ?_
  refine X_aload_n (a := 0) dX10_take_48 rfl rfl rfl ?_
  refine X_getR (t := 38) fl_X10_24 rfl rfl dX10_take_49 rfl ?_
  refine X_ruV (Ru_S (st := []) cs_X10_64 (c_X10_copy G r41 59 38 rfl rfl) (by decide) rfl rfl (Nat.le_of_ble_eq_true rfl) dX10_take_52) rfl (fun r52 => ?_)
  refine X_aload_n (a := 0) dX10_take_55 rfl rfl rfl ?_
  refine X_getR (t := 39) fl_X10_30 rfl rfl dX10_take_56 rfl ?_
  refine X_aload_n (a := 1) dX10_take_59 rfl rfl rfl ?_
  refine X_getR (t := 60) fl_X10_30 rfl rfl dX10_take_60 rfl ?_
  refine X_ruV (Ru_V (st := []) cv_X10_68 rfl (c_X3_take G r52 39 60 rfl rfl) (by decide) rfl rfl (Nat.le_of_ble_eq_true rfl) dX10_take_63) rfl (fun r63 => ?_)
  refine X_aload_n (a := 0) dX10_take_66 rfl rfl rfl ?_
  refine X_getR (t := 42) fl_X10_37 rfl rfl dX10_take_67 rfl ?_
  refine X_aload_n (a := 1) dX10_take_70 rfl rfl rfl ?_
  refine X_getR (t := 63) fl_X10_37 rfl rfl dX10_take_71 rfl ?_
  refine X_ruV (Ru_V (st := []) cv_X10_72 rfl (c_X6_take_42_63 G r63) (by decide) rfl rfl (Nat.le_of_ble_eq_true rfl) dX10_take_74) rfl (fun r74 => ?_)
  refine X_aload_n (a := 1) dX10_take_77 rfl rfl rfl ?_
  refine X_getR (t := 71) fl_X10_41 rfl rfl dX10_take_78 rfl ?_
  refine X_aload_n (a := 0) dX10_take_81 rfl rfl rfl ?_
  refine X_getR (t := 50) fl_X10_41 rfl rfl dX10_take_82 rfl ?_
  refine X_ruV (Ru_S (st := []) cs_X10_64 (c_X10_copy G r74 71 50 rfl rfl) (by decide) rfl rfl (Nat.le_of_ble_eq_true rfl) dX10_take_85) rfl (fun r85 => ?_)
  refine X_aload_n (a := 1) dX10_take_88 rfl rfl rfl ?_
  refine X_getR (t := 72) fl_X10_44 rfl rfl dX10_take_89 rfl ?_
  refine X_aload_n (a := 0) dX10_take_92 rfl rfl rfl ?_
  refine X_getR (t := 51) fl_X10_44 rfl rfl dX10_take_93 rfl ?_
  refine X_ruV (Ru_S (st := []) cs_X10_64 (c_X10_copy G r85 72 51 rfl rfl) (by decide) rfl rfl (Nat.le_of_ble_eq_true rfl) dX10_take_96) rfl (fun r96 => ?_)
  refine X_aload_n (a := 1) dX10_take_99 rfl rfl rfl ?_
  refine X_getR (t := 73) fl_X10_47 rfl rfl dX10_take_100 rfl ?_
  refine X_aload_n (a := 0) dX10_take_103 rfl rfl rfl ?_
  refine X_getR (t := 52) fl_X10_47 rfl rfl dX10_take_104 rfl ?_
  refine X_ruV (Ru_S (st := []) cs_X10_64 (c_X10_copy G r96 73 52 rfl rfl) (by decide) rfl rfl (Nat.le_of_ble_eq_true rfl) dX10_take_107) rfl (fun r107 => ?_)
  refine X_aload_n (a := 1) dX10_take_110 rfl rfl rfl ?_
  refine X_getR (t := 74) fl_X10_50 rfl rfl dX10_take_111 rfl ?_
  refine X_aload_n (a := 0) dX10_take_114 rfl rfl rfl ?_
  refine X_getR (t := 53) fl_X10_50 rfl rfl dX10_take_115 rfl ?_
  refine X_ruV (Ru_S (st := []) cs_X10_64 (c_X10_copy G r107 74 53 rfl rfl) (by decide) rfl rfl (Nat.le_of_ble_eq_true rfl) dX10_take_118) rfl (fun r118 => ?_)
  refine X_aload_n (a := 0) dX10_take_121 rfl rfl rfl ?_
  refine X_aload_n (a := 1) dX10_take_122 rfl rfl rfl ?_
  refine X_getI fl_X10_75 rfl dX10_take_123 rfl ?_
  refine X_putI fp_X10_75 rfl dX10_take_126 rfl ?_
  refine X_aload_n (a := 0) dX10_take_129 rfl rfl rfl ?_
  refine X_aload_n (a := 1) dX10_take_130 rfl rfl rfl ?_
  refine X_getI fl_X10_53 rfl dX10_take_131 rfl ?_
  refine X_putI fp_X10_53 rfl dX10_take_134 rfl ?_
  refine X_aload_n (a := 0) dX10_take_137 rfl rfl rfl ?_
  refine X_aload_n (a := 1) dX10_take_138 rfl rfl rfl ?_
  refine X_getI fl_X10_78 rfl dX10_take_139 rfl ?_
  refine X_putI fp_X10_78 rfl dX10_take_142 rfl ?_
  refine X_aload_n (a := 0) dX10_take_145 rfl rfl rfl ?_
  refine X_aload_n (a := 1) dX10_take_146 rfl rfl rfl ?_
  refine X_getI fl_X10_81 rfl dX10_take_147 rfl ?_
  refine X_putI fp_X10_81 rfl dX10_take_150 rfl ?_
  refine X_aload_n (a := 0) dX10_take_153 rfl rfl rfl ?_
  refine X_aload_n (a := 1) dX10_take_154 rfl rfl rfl ?_
  refine X_getI fl_X10_57 rfl dX10_take_155 rfl ?_
  refine X_putI fp_X10_57 rfl dX10_take_158 rfl ?_
  exact X_vret rfl dX10_take_161
set_option maxRecDepth 100000 in
theorem c_X10_take_54_33 (G : Gm) (M : Mm) : Ct fV G miX10_take (3) [.ref (ga G 54), .ref (ga G 33)] M (F_X10_take_54_33 M) := by
  refine Ct_of (pn_X10) (Nat.le_of_ble_eq_true rfl) ?_
  refine X_lv [0, 1] (lv' := [(0, .ref (ga G 54)), (1, .ref (ga G 33))]) rfl ?_
  unfold F_X10_take_54_33
  refine X_aload_n (a := 1) dX10_take_0 rfl rfl rfl ?_
  refine X_getR (t := 34) fl_X10_9 rfl rfl dX10_take_1 rfl ?_
  refine X_aload_n (a := 0) dX10_take_4 rfl rfl rfl ?_
  refine X_getR (t := 55) fl_X10_9 rfl rfl dX10_take_5 rfl ?_
  refine X_ruV (Ru_S (st := []) cs_X10_64 (c_X10_copy G M 34 55 rfl rfl) (by decide) rfl rfl (Nat.le_of_ble_eq_true rfl) dX10_take_8) rfl (fun r8 => ?_)
  refine X_aload_n (a := 1) dX10_take_11 rfl rfl rfl ?_
  refine X_getR (t := 35) fl_X10_15 rfl rfl dX10_take_12 rfl ?_
  refine X_aload_n (a := 0) dX10_take_15 rfl rfl rfl ?_
  refine X_getR (t := 56) fl_X10_15 rfl rfl dX10_take_16 rfl ?_
  refine X_ruV (Ru_S (st := []) cs_X10_64 (c_X10_copy G r8 35 56 rfl rfl) (by decide) rfl rfl (Nat.le_of_ble_eq_true rfl) dX10_take_19) rfl (fun r19 => ?_)
  refine X_aload_n (a := 1) dX10_take_22 rfl rfl rfl ?_
  refine X_getR (t := 36) fl_X10_18 rfl rfl dX10_take_23 rfl ?_
  refine X_aload_n (a := 0) dX10_take_26 rfl rfl rfl ?_
  refine X_getR (t := 57) fl_X10_18 rfl rfl dX10_take_27 rfl ?_
  refine X_ruV (Ru_S (st := []) cs_X10_64 (c_X10_copy G r19 36 57 rfl rfl) (by decide) rfl rfl (Nat.le_of_ble_eq_true rfl) dX10_take_30) rfl (fun r30 => ?_)
  refine X_aload_n (a := 1) dX10_take_33 rfl rfl rfl ?_
  refine X_getR (t := 37) fl_X10_21 rfl rfl dX10_take_34 rfl ?_
  refine X_aload_n (a := 0) dX10_take_37 rfl rfl rfl ?_
  refine X_getR (t := 58) fl_X10_21 rfl rfl dX10_take_38 rfl ?_
  refine X_ruV (Ru_S (st := []) cs_X10_64 (c_X10_copy G r30 37 58 rfl rfl) (by decide) rfl rfl (Nat.le_of_ble_eq_true rfl) dX10_take_41) rfl (fun r41 => ?_)
  refine X_aload_n (a := 1) dX10_take_44 rfl rfl rfl ?_
  refine X_getR (t := 38) fl_X10_24 rfl rfl dX10_take_45 rfl ?_
  refine X_aload_n (a := 0) dX10_take_48 rfl rfl rfl ?_
  refine X_getR (t := 59) fl_X10_24 rfl rfl dX10_take_49 rfl ?_
  refine X_ruV (Ru_S (st := []) cs_X10_64 (c_X10_copy G r41 38 59 rfl rfl) (by decide) rfl rfl (Nat.le_of_ble_eq_true rfl) dX10_take_52) rfl (fun r52 => ?_)
  refine X_aload_n (a := 0) dX10_take_55 rfl rfl rfl ?_
  refine X_getR (t := 60) fl_X10_30 rfl rfl dX10_take_56 rfl ?_
  refine X_aload_n (a := 1) dX10_take_59 rfl rfl rfl ?_
  refine X_getR (t := 39) fl_X10_30 rfl rfl dX10_take_60 rfl ?_
  refine X_ruV (Ru_V (st := []) cv_X10_68 rfl (c_X3_take G r52 60 39 rfl rfl) (by decide) rfl rfl (Nat.le_of_ble_eq_true rfl) dX10_take_63) rfl (fun r63 => ?_)
  refine X_aload_n (a := 0) dX10_take_66 rfl rfl rfl ?_
  refine X_getR (t := 63) fl_X10_37 rfl rfl dX10_take_67 rfl ?_
  refine X_aload_n (a := 1) dX10_take_70 rfl rfl rfl ?_
  refine X_getR (t := 42) fl_X10_37 rfl rfl dX10_take_71 rfl ?_
  refine X_ruV (Ru_V (st := []) cv_X10_72 rfl (c_X6_take_63_42 G r63) (by decide) rfl rfl (Nat.le_of_ble_eq_true rfl) dX10_take_74) rfl (fun r74 => ?_)
  refine X_aload_n (a := 1) dX10_take_77 rfl rfl rfl ?_
  refine X_getR (t := 50) fl_X10_41 rfl rfl dX10_take_78 rfl ?_
  refine X_aload_n (a := 0) dX10_take_81 rfl rfl rfl ?_
  refine X_getR (t := 71) fl_X10_41 rfl rfl dX10_take_82 rfl ?_
  refine X_ruV (Ru_S (st := []) cs_X10_64 (c_X10_copy G r74 50 71 rfl rfl) (by decide) rfl rfl (Nat.le_of_ble_eq_true rfl) dX10_take_85) rfl (fun r85 => ?_)
  refine X_aload_n (a := 1) dX10_take_88 rfl rfl rfl ?_
  refine X_getR (t := 51) fl_X10_44 rfl rfl dX10_take_89 rfl ?_
  refine X_aload_n (a := 0) dX10_take_92 rfl rfl rfl ?_
  refine X_getR (t := 72) fl_X10_44 rfl rfl dX10_take_93 rfl ?_
  refine X_ruV (Ru_S (st := []) cs_X10_64 (c_X10_copy G r85 51 72 rfl rfl) (by decide) rfl rfl (Nat.le_of_ble_eq_true rfl) dX10_take_96) rfl (fun r96 => ?_)
  refine X_aload_n (a := 1) dX10_take_99 rfl rfl rfl ?_
  refine X_getR (t := 52) fl_X10_47 rfl rfl dX10_take_100 rfl ?_
  refine X_aload_n (a := 0) dX10_take_103 rfl rfl rfl ?_
  refine X_getR (t := 73) fl_X10_47 rfl rfl dX10_take_104 rfl ?_
  refine X_ruV (Ru_S (st := []) cs_X10_64 (c_X10_copy G r96 52 73 rfl rfl) (by decide) rfl rfl (Nat.le_of_ble_eq_true rfl) dX10_take_107) rfl (fun r107 => ?_)
  refine X_aload_n (a := 1) dX10_take_110 rfl rfl rfl ?_
  refine X_getR (t := 53) fl_X10_50 rfl rfl dX10_take_111 rfl ?_
  refine X_aload_n (a := 0) dX10_take_114 rfl rfl rfl ?_
  refine X_getR (t := 74) fl_X10_50 rfl rfl dX10_take_115 rfl ?_
  refine X_ruV (Ru_S (st := []) cs_X10_64 (c_X10_copy G r107 53 74 rfl rfl) (by decide) rfl rfl (Nat.le_of_ble_eq_true rfl) dX10_take_118) rfl (fun r118 => ?_)
  refine X_aload_n (a := 0) dX10_take_121 rfl rfl rfl ?_
  refine X_aload_n (a := 1) dX10_take_122 rfl rfl rfl ?_
  refine X_getI fl_X10_75 rfl dX10_take_123 rfl ?_
  refine X_putI fp_X10_75 rfl dX10_take_126 rfl ?_
  refine X_aload_n (a := 0) dX10_take_129 rfl rfl rfl ?_
  refine X_aload_n (a := 1) dX10_take_130 rfl rfl rfl ?_
  refine X_getI fl_X10_53 rfl dX10_take_131 rfl ?_
  refine X_putI fp_X10_53 rfl dX10_take_134 rfl ?_
  refine X_aload_n (a := 0) dX10_take_137 rfl rfl rfl ?_
  refine X_aload_n (a := 1) dX10_take_138 rfl rfl rfl ?_
  refine X_getI fl_X10_78 rfl dX10_take_139 rfl ?_
  refine X_putI fp_X10_78 rfl dX10_take_142 rfl ?_
  refine X_aload_n (a := 0) dX10_take_145 rfl rfl rfl ?_
  refine X_aload_n (a := 1) dX10_take_146 rfl rfl rfl ?_
  refine X_getI fl_X10_81 rfl dX10_take_147 rfl ?_
  refine X_putI fp_X10_81 rfl dX10_take_150 rfl ?_
  refine X_aload_n (a := 0) dX10_take_153 rfl rfl rfl ?_
  refine X_aload_n (a := 1) dX10_take_154 rfl rfl rfl ?_
  refine X_getI fl_X10_57 rfl dX10_take_155 rfl ?_
  refine X_putI fp_X10_57 rfl dX10_take_158 rfl ?_
  exact X_vret rfl dX10_take_161
set_option maxRecDepth 100000 in
theorem c_X10_isOver (G : Gm) (M : Mm) (w1 : Nat) (hw1 : ly_ty w1 = 3) : Ct (fI M) G miX10_isOver (0) [.ref (ga G 33), .ref (ga G w1)] M (F_X10_isOver M w1) := by
  refine Ct_of (pn_X10) (Nat.le_of_ble_eq_true rfl) ?_
  refine X_lv [0, 1] (lv' := [(0, .ref (ga G 33)), (1, .ref (ga G w1))]) rfl ?_
  unfold F_X10_isOver
  refine X_aload_n (a := 1) dX10_isOver_0 rfl rfl rfl ?_
  refine X_getI fl_X10_96 hw1 dX10_isOver_1 rfl ?_
  refine X_aload_n (a := 0) dX10_isOver_4 rfl rfl rfl ?_
  refine X_getI fl_X10_53 rfl dX10_isOver_5 rfl ?_
  refine X_icmp_lt (tgt := 15) dX10_isOver_8 rfl rfl (fun e8 => ?_) (fun e8 => ?_)
  · refine X_iconst (w := 0) dX10_isOver_15 ki_0 rfl ?_
    exact X_zretI rfl dX10_isOver_16
  · refine X_iconst (w := 1) dX10_isOver_11 ki_1 rfl ?_
    refine X_goto (tgt := 16) dX10_isOver_12 rfl ?_
    exact X_zretI rfl dX10_isOver_16
set_option maxRecDepth 100000 in
theorem x_X10_allFill_L4 (G : Gm) (M : Mm) (w1 : Nat) (hw1 : ly_ty w1 = 3) : ∀ (n : Nat) (v2 : Int32) (v3 : Int32), X (fI M) G miX10_allFill (0) 4 [(0, .ref (ga G 33)), (1, .ref (ga G w1)), (2, .int v2), (3, .int v3)] [] M (F_X10_allFill_L4 M w1 n v2 v3) := by
  intro n
  induction n with
  | zero => intro v2 v3; exact X_none
  | succ n ih =>
    intro v2 v3
    rw [F_X10_allFill_L4]
    refine X_iload_n (a := 3) dX10_allFill_4 rfl rfl rfl ?_
    refine X_aload_n (a := 0) dX10_allFill_5 rfl rfl rfl ?_
    refine X_getI fl_X10_75 rfl dX10_allFill_6 rfl ?_
    refine X_icmp_ge (tgt := 27) dX10_allFill_9 rfl rfl (fun e9 => ?_) (fun e9 => ?_)
    · refine X_iload_n (a := 2) dX10_allFill_27 rfl rfl rfl ?_
      exact X_iretI rfl dX10_allFill_28
    · refine X_iload_n (a := 2) dX10_allFill_12 rfl rfl rfl ?_
      refine X_aload_n (a := 1) dX10_allFill_13 rfl rfl rfl ?_
      refine X_getR (t := w1 + 1) fl_X10_103 hw1 (rf_eq0 hw1) dX10_allFill_14 rfl ?_
      refine X_iload_n (a := 3) dX10_allFill_17 rfl rfl rfl ?_
      refine X_iald (rf_ty0 hw1) (rf_ln0 hw1) dX10_allFill_18 rfl ?_
      refine X_iadd dX10_allFill_19 rfl ?_
      refine X_istore_n (lv2 := [(2, .int (v2 + (gi M (w1 + 1) (ui v3)))), (0, .ref (ga G 33)), (1, .ref (ga G w1)), (3, .int v3)]) dX10_allFill_20 rfl (by decide) rfl rfl ?_
      refine X_iinc (a := 3) (lv2 := [(3, .int (v3 + 1)), (2, .int (v2 + (gi M (w1 + 1) (ui v3)))), (0, .ref (ga G 33)), (1, .ref (ga G w1))]) dX10_allFill_21 rfl (ii_1 _) (by decide) rfl rfl ?_
      refine X_goto (tgt := 4) dX10_allFill_24 rfl ?_
      exact X_lv [2, 3, 1, 0] rfl (ih (v2 + (gi M (w1 + 1) (ui v3))) (v3 + 1))
set_option maxRecDepth 100000 in
theorem c_X10_allFill (G : Gm) (M : Mm) (w1 : Nat) (hw1 : ly_ty w1 = 3) : Ct (fI M) G miX10_allFill (0) [.ref (ga G 33), .ref (ga G w1)] M (F_X10_allFill M w1) := by
  refine Ct_of (pn_X10) (Nat.le_of_ble_eq_true rfl) ?_
  refine X_lv [0, 1] (lv' := [(0, .ref (ga G 33)), (1, .ref (ga G w1))]) rfl ?_
  unfold F_X10_allFill
  refine X_iconst (w := 0) dX10_allFill_0 ki_0 rfl ?_
  refine X_istore_n (lv2 := [(2, .int 0), (0, .ref (ga G 33)), (1, .ref (ga G w1))]) dX10_allFill_1 rfl (by decide) rfl rfl ?_
  refine X_iconst (w := 0) dX10_allFill_2 ki_0 rfl ?_
  refine X_istore_n (lv2 := [(3, .int 0), (2, .int 0), (0, .ref (ga G 33)), (1, .ref (ga G w1))]) dX10_allFill_3 rfl (by decide) rfl rfl ?_
  exact X_lv [2, 3, 1, 0] rfl (x_X10_allFill_L4 G M w1 hw1 1000 0 0)
set_option maxRecDepth 100000 in
theorem c_X10_floatsOf (G : Gm) (M : Mm) (w1 : Nat) (v2 : Int32) (hw1 : ly_ty w1 = 3) : Ct (fI M) G miX10_floatsOf (3) [.ref (ga G 33), .ref (ga G w1), .int v2] M (F_X10_floatsOf M w1 v2) := by
  refine Ct_of (pn_X10) (Nat.le_of_ble_eq_true rfl) ?_
  refine X_lv [0, 1, 2] (lv' := [(0, .ref (ga G 33)), (1, .ref (ga G w1)), (2, .int v2)]) rfl ?_
  unfold F_X10_floatsOf
  refine X_aload_n (a := 0) dX10_floatsOf_0 rfl rfl rfl ?_
  refine X_getR (t := 26) fl_X10_60 rfl rfl dX10_floatsOf_1 rfl ?_
  refine X_aload_n (a := 0) dX10_floatsOf_4 rfl rfl rfl ?_
  refine X_getR (t := 34) fl_X10_9 rfl rfl dX10_floatsOf_5 rfl ?_
  refine X_iload_n (a := 2) dX10_floatsOf_8 rfl rfl rfl ?_
  refine X_iald rfl rfl dX10_floatsOf_9 rfl ?_
  refine X_aald (t := 23) rfl (by decide) rfl dX10_floatsOf_10 rfl (fun h10 => ?_)
  refine X_aload_n (a := 1) dX10_floatsOf_11 rfl rfl rfl ?_
  refine X_getR (t := w1 + 1) fl_X10_103 hw1 (rf_eq0 hw1) dX10_floatsOf_12 rfl ?_
  refine X_iload_n (a := 2) dX10_floatsOf_15 rfl rfl rfl ?_
  refine X_iald (rf_ty0 hw1) (rf_ln0 hw1) dX10_floatsOf_16 rfl ?_
  refine X_aload_n (a := 1) dX10_floatsOf_17 rfl rfl rfl ?_
  refine X_getR (t := w1 + 2) fl_X10_132 hw1 (rf_eq1 hw1) dX10_floatsOf_18 rfl ?_
  refine X_iload_n (a := 2) dX10_floatsOf_21 rfl rfl rfl ?_
  refine X_iald (rf_ty1 hw1) (rf_ln1 hw1) dX10_floatsOf_22 rfl ?_
  refine X_iload_n (a := 2) dX10_floatsOf_23 rfl rfl rfl ?_
  refine X_ruI (rv_X10_135 rfl (ty_nat h10) (by decide) rfl (Nat.le_of_ble_eq_true rfl) dX10_floatsOf_24) rfl (fun r24 => ?_)
  exact X_iretI rfl dX10_floatsOf_27
set_option maxRecDepth 100000 in
theorem c_X10_may (G : Gm) (M : Mm) (w1 : Nat) (v2 : Int32) (hw1 : ly_ty w1 = 3) : Ct fJ G miX10_may (4) [.ref (ga G 33), .ref (ga G w1), .int v2] M (F_X10_may M w1 v2) := by
  refine Ct_of (pn_X10) (Nat.le_of_ble_eq_true rfl) ?_
  refine X_lv [0, 1, 2] (lv' := [(0, .ref (ga G 33)), (1, .ref (ga G w1)), (2, .int v2)]) rfl ?_
  unfold F_X10_may
  refine X_aload_n (a := 0) dX10_may_0 rfl rfl rfl ?_
  refine X_aload_n (a := 1) dX10_may_1 rfl rfl rfl ?_
  refine X_iload_n (a := 2) dX10_may_2 rfl rfl rfl ?_
  refine X_ruI (Ru_V (st := []) cv_X10_142 rfl (c_X10_pays G M w1 v2 hw1) (by decide) rfl rfl (Nat.le_of_ble_eq_true rfl) dX10_may_3) rfl (fun r3 => ?_)
  refine X_if_le (tgt := 22) dX10_may_6 rfl rfl (fun e6 => ?_) (fun e6 => ?_)
  · refine X_iconst (w := 0) dX10_may_22 ki_0 rfl ?_
    exact X_zretJ rfl dX10_may_23
  · refine X_aload_n (a := 0) dX10_may_9 rfl rfl rfl ?_
    refine X_aload_n (a := 1) dX10_may_10 rfl rfl rfl ?_
    refine X_iload_n (a := 2) dX10_may_11 rfl rfl rfl ?_
    refine X_ruJ (Ru_V (st := []) cv_X10_145 rfl (c_X10_will G M w1 v2 hw1) (by decide) rfl rfl (Nat.le_of_ble_eq_true rfl) dX10_may_12) rfl (fun r12 => ?_)
    refine X_if_ne (tgt := 22) dX10_may_15 rfl rfl (fun e15 => ?_) (fun e15 => ?_)
    · refine X_iconst (w := 0) dX10_may_22 ki_0 rfl ?_
      exact X_zretJ rfl dX10_may_23
    · refine X_iconst (w := 1) dX10_may_18 ki_1 rfl ?_
      refine X_goto (tgt := 23) dX10_may_19 rfl ?_
      exact X_zretJ rfl dX10_may_23
set_option maxRecDepth 100000 in
theorem x_X10_restAct_L2 (G : Gm) (w1 : Nat) (hw1 : ly_ty w1 = 3) : ∀ (n : Nat) (M : Mm) (v2 : Int32), X fJ G miX10_restAct (5) 2 [(0, .ref (ga G 33)), (1, .ref (ga G w1)), (2, .int v2)] [] M (F_X10_restAct_L2 w1 n M v2) := by
  intro n
  induction n with
  | zero => intro M v2; exact X_none
  | succ n ih =>
    intro M v2
    rw [F_X10_restAct_L2]
    refine X_iload_n (a := 2) dX10_restAct_2 rfl rfl rfl ?_
    refine X_aload_n (a := 0) dX10_restAct_3 rfl rfl rfl ?_
    refine X_getI fl_X10_75 rfl dX10_restAct_4 rfl ?_
    refine X_icmp_ge (tgt := 29) dX10_restAct_7 rfl rfl (fun e7 => ?_) (fun e7 => ?_)
    · refine X_iconst (w := 0) dX10_restAct_29 ki_0 rfl ?_
      exact X_iretJ rfl dX10_restAct_30
    · refine X_aload_n (a := 0) dX10_restAct_10 rfl rfl rfl ?_
      refine X_aload_n (a := 1) dX10_restAct_11 rfl rfl rfl ?_
      refine X_iload_n (a := 2) dX10_restAct_12 rfl rfl rfl ?_
      refine X_ruJ (Ru_V (st := []) cv_X10_148 rfl (c_X10_may G M w1 v2 hw1) (by decide) rfl rfl (Nat.le_of_ble_eq_true rfl) dX10_restAct_13) rfl (fun r13 => ?_)
      refine X_if_eq (tgt := 23) dX10_restAct_16 rfl rfl (fun e16 => ?_) (fun e16 => ?_)
      · refine X_iinc (a := 2) (lv2 := [(2, .int (v2 + 1)), (0, .ref (ga G 33)), (1, .ref (ga G w1))]) dX10_restAct_23 rfl (ii_1 _) (by decide) rfl rfl ?_
        refine X_goto (tgt := 2) dX10_restAct_26 rfl ?_
        exact X_lv [1, 2, 0] rfl (ih r13.2 (v2 + 1))
      · refine X_iload_n (a := 2) dX10_restAct_19 rfl rfl rfl ?_
        refine X_iconst (w := 1) dX10_restAct_20 ki_1 rfl ?_
        refine X_iadd dX10_restAct_21 rfl ?_
        exact X_iretJ rfl dX10_restAct_22
set_option maxRecDepth 100000 in
theorem c_X10_restAct (G : Gm) (M : Mm) (w1 : Nat) (hw1 : ly_ty w1 = 3) : Ct fJ G miX10_restAct (5) [.ref (ga G 33), .ref (ga G w1)] M (F_X10_restAct M w1) := by
  refine Ct_of (pn_X10) (Nat.le_of_ble_eq_true rfl) ?_
  refine X_lv [0, 1] (lv' := [(0, .ref (ga G 33)), (1, .ref (ga G w1))]) rfl ?_
  unfold F_X10_restAct
  refine X_iconst (w := 0) dX10_restAct_0 ki_0 rfl ?_
  refine X_istore_n (lv2 := [(2, .int 0), (0, .ref (ga G 33)), (1, .ref (ga G w1))]) dX10_restAct_1 rfl (by decide) rfl rfl ?_
  exact X_lv [1, 2, 0] rfl (x_X10_restAct_L2 G w1 hw1 1000 M 0)
set_option maxRecDepth 100000 in
theorem x_X10_rest_L5 (G : Gm) (w1 : Nat) (v2 : Int32) (hw1 : ly_ty w1 = 3) : ∀ (n : Nat) (M : Mm) (v3 : Int32) (v4 : Int32), X fJ G miX10_rest (6) 5 [(0, .ref (ga G 33)), (1, .ref (ga G w1)), (2, .int v2), (3, .int v3), (4, .int v4)] [] M (F_X10_rest_L5 w1 v2 n M v3 v4) := by
  intro n
  induction n with
  | zero => intro M v3 v4; exact X_none
  | succ n ih =>
    intro M v3 v4
    rw [F_X10_rest_L5]
    refine X_iload (a := 4) dX10_rest_5 rfl rfl ?_
    refine X_iload_n (a := 2) dX10_rest_7 rfl rfl rfl ?_
    refine X_icmp_ge (tgt := 38) dX10_rest_8 rfl rfl (fun e8 => ?_) (fun e8 => ?_)
    · refine X_iload_n (a := 3) dX10_rest_38 rfl rfl rfl ?_
      exact X_iretJ rfl dX10_rest_39
    · refine X_aload_n (a := 0) dX10_rest_11 rfl rfl rfl ?_
      refine X_aload_n (a := 1) dX10_rest_12 rfl rfl rfl ?_
      refine X_ruI (Ru_V (st := []) cv_X10_152 rfl (c_X10_isOver G M w1 hw1) (by decide) rfl rfl (Nat.le_of_ble_eq_true rfl) dX10_rest_13) rfl (fun r13 => ?_)
      refine X_if_ne (tgt := 38) dX10_rest_16 rfl rfl (fun e16 => ?_) (fun e16 => ?_)
      · refine X_iload_n (a := 3) dX10_rest_38 rfl rfl rfl ?_
        exact X_iretJ rfl dX10_rest_39
      · refine X_iload_n (a := 3) dX10_rest_19 rfl rfl rfl ?_
        refine X_aload_n (a := 0) dX10_rest_20 rfl rfl rfl ?_
        refine X_aload_n (a := 1) dX10_rest_21 rfl rfl rfl ?_
        refine X_aload_n (a := 0) dX10_rest_22 rfl rfl rfl ?_
        refine X_aload_n (a := 1) dX10_rest_23 rfl rfl rfl ?_
        refine X_ruJ (Ru_V (st := [.ref (ga G w1), .ref (ga G 33), .int v3]) cv_X10_156 rfl (c_X10_restAct G M w1 hw1) (by decide) rfl rfl (Nat.le_of_ble_eq_true rfl) dX10_rest_24) rfl (fun r24 => ?_)
        refine X_ruJ (Ru_V (st := [.int v3]) cv_X10_160 rfl (c_X10_pass G r24.2 w1 r24.1 hw1) (by decide) rfl rfl (Nat.le_of_ble_eq_true rfl) dX10_rest_27) rfl (fun r27 => ?_)
        refine X_iadd dX10_rest_30 rfl ?_
        refine X_istore_n (lv2 := [(3, .int (v3 + r27.1)), (0, .ref (ga G 33)), (1, .ref (ga G w1)), (2, .int v2), (4, .int v4)]) dX10_rest_31 rfl (by decide) rfl rfl ?_
        refine X_iinc (a := 4) (lv2 := [(4, .int (v4 + 1)), (3, .int (v3 + r27.1)), (0, .ref (ga G 33)), (1, .ref (ga G w1)), (2, .int v2)]) dX10_rest_32 rfl (ii_1 _) (by decide) rfl rfl ?_
        refine X_goto (tgt := 5) dX10_rest_35 rfl ?_
        exact X_lv [2, 3, 4, 1, 0] rfl (ih r27.2 (v3 + r27.1) (v4 + 1))
set_option maxRecDepth 100000 in
theorem c_X10_rest (G : Gm) (M : Mm) (w1 : Nat) (v2 : Int32) (hw1 : ly_ty w1 = 3) : Ct fJ G miX10_rest (6) [.ref (ga G 33), .ref (ga G w1), .int v2] M (F_X10_rest M w1 v2) := by
  refine Ct_of (pn_X10) (Nat.le_of_ble_eq_true rfl) ?_
  refine X_lv [0, 1, 2] (lv' := [(0, .ref (ga G 33)), (1, .ref (ga G w1)), (2, .int v2)]) rfl ?_
  unfold F_X10_rest
  refine X_iconst (w := 0) dX10_rest_0 ki_0 rfl ?_
  refine X_istore_n (lv2 := [(3, .int 0), (0, .ref (ga G 33)), (1, .ref (ga G w1)), (2, .int v2)]) dX10_rest_1 rfl (by decide) rfl rfl ?_
  refine X_iconst (w := 0) dX10_rest_2 ki_0 rfl ?_
  refine X_istore (lv2 := [(4, .int 0), (3, .int 0), (0, .ref (ga G 33)), (1, .ref (ga G w1)), (2, .int v2)]) dX10_rest_3 (by decide) rfl rfl ?_
  exact X_lv [2, 3, 4, 1, 0] rfl (x_X10_rest_L5 G w1 v2 hw1 1000 M 0 0)
set_option maxRecDepth 100000 in
theorem x_X10_isCloseToAny_L26 (G : Gm) (M : Mm) (v1 : Int32) (v2 : Int32) (v3 : Int32) : ∀ (n : Nat) (v4 : Int32), X (fI M) G miX10_isCloseToAny (4) 26 [(0, .ref (ga G 33)), (1, .int v1), (2, .int v2), (3, .int v3), (4, .int v4)] [] M (F_X10_isCloseToAny_L26 M v1 v2 v3 n v4) := by
  intro n
  induction n with
  | zero => intro v4; exact X_none
  | succ n ih =>
    intro v4
    rw [F_X10_isCloseToAny_L26]
    refine X_iload (a := 4) dX10_isCloseToAny_26 rfl rfl ?_
    refine X_aload_n (a := 0) dX10_isCloseToAny_28 rfl rfl rfl ?_
    refine X_getI fl_X10_75 rfl dX10_isCloseToAny_29 rfl ?_
    refine X_icmp_ge (tgt := 85) dX10_isCloseToAny_32 rfl rfl (fun e32 => ?_) (fun e32 => ?_)
    · refine X_iconst (w := 0) dX10_isCloseToAny_85 ki_0 rfl ?_
      exact X_zretI rfl dX10_isCloseToAny_86
    · refine X_iload_n (a := 2) dX10_isCloseToAny_35 rfl rfl rfl ?_
      refine X_iload (a := 4) dX10_isCloseToAny_36 rfl rfl ?_
      refine X_ishr dX10_isCloseToAny_38 rfl ?_
      refine X_iconst (w := 1) dX10_isCloseToAny_39 ki_1 rfl ?_
      refine X_iand dX10_isCloseToAny_40 rfl ?_
      refine X_jc (P := fun j => X (fI M) G miX10_isCloseToAny (4) 79 [(0, .ref (ga G 33)), (1, .int v1), (2, .int v2), (3, .int v3), (4, .int v4)] [] M (j)) (?_) (fun j79 hj79 => ?_)
      · refine X_iinc (a := 4) (lv2 := [(4, .int (v4 + 1)), (0, .ref (ga G 33)), (1, .int v1), (2, .int v2), (3, .int v3)]) dX10_isCloseToAny_79 rfl (ii_1 _) (by decide) rfl rfl ?_
        refine X_goto (tgt := 26) dX10_isCloseToAny_82 rfl ?_
        exact X_lv [1, 2, 3, 4, 0] rfl (ih (v4 + 1))
      refine X_if_ne (tgt := 47) dX10_isCloseToAny_41 rfl rfl (fun e41 => ?_) (fun e41 => ?_)
      · refine X_aload_n (a := 0) dX10_isCloseToAny_47 rfl rfl rfl ?_
        refine X_getR (t := 35) fl_X10_15 rfl rfl dX10_isCloseToAny_48 rfl ?_
        refine X_iload (a := 4) dX10_isCloseToAny_51 rfl rfl ?_
        refine X_iald rfl rfl dX10_isCloseToAny_53 rfl ?_
        refine X_aload_n (a := 0) dX10_isCloseToAny_54 rfl rfl rfl ?_
        refine X_getR (t := 35) fl_X10_15 rfl rfl dX10_isCloseToAny_55 rfl ?_
        refine X_iload_n (a := 1) dX10_isCloseToAny_58 rfl rfl rfl ?_
        refine X_iald rfl rfl dX10_isCloseToAny_59 rfl ?_
        refine X_icmp_eq (tgt := 77) dX10_isCloseToAny_60 rfl rfl (fun e60 => ?_) (fun e60 => ?_)
        · refine X_iconst (w := 1) dX10_isCloseToAny_77 ki_1 rfl ?_
          exact X_zretI rfl dX10_isCloseToAny_78
        · refine X_aload_n (a := 0) dX10_isCloseToAny_63 rfl rfl rfl ?_
          refine X_aload_n (a := 0) dX10_isCloseToAny_64 rfl rfl rfl ?_
          refine X_getR (t := 39) fl_X10_30 rfl rfl dX10_isCloseToAny_65 rfl ?_
          refine X_iload (a := 4) dX10_isCloseToAny_68 rfl rfl ?_
          refine X_ruI (Ru_V (st := []) cv_X10_175 rfl (c_X10_floatsOf G M 39 v4 rfl) (by decide) rfl rfl (Nat.le_of_ble_eq_true rfl) dX10_isCloseToAny_70) rfl (fun r70 => ?_)
          refine X_iload_n (a := 3) dX10_isCloseToAny_73 rfl rfl rfl ?_
          refine X_icmp_ne (tgt := 79) dX10_isCloseToAny_74 rfl rfl (fun e74 => ?_) (fun e74 => ?_)
          · exact X_lv [0, 1, 2, 3, 4] rfl (hj79)
          · refine X_iconst (w := 1) dX10_isCloseToAny_77 ki_1 rfl ?_
            exact X_zretI rfl dX10_isCloseToAny_78
      · refine X_goto (tgt := 79) dX10_isCloseToAny_44 rfl ?_
        exact X_lv [0, 1, 2, 3, 4] rfl (hj79)
set_option maxRecDepth 100000 in
theorem c_X10_isCloseToAny (G : Gm) (M : Mm) (v1 : Int32) (v2 : Int32) : Ct (fI M) G miX10_isCloseToAny (4) [.ref (ga G 33), .int v1, .int v2] M (F_X10_isCloseToAny M v1 v2) := by
  refine Ct_of (pn_X10) (Nat.le_of_ble_eq_true rfl) ?_
  refine X_lv [0, 1, 2] (lv' := [(0, .ref (ga G 33)), (1, .int v1), (2, .int v2)]) rfl ?_
  unfold F_X10_isCloseToAny
  refine X_aload_n (a := 0) dX10_isCloseToAny_0 rfl rfl rfl ?_
  refine X_getR (t := 39) fl_X10_30 rfl rfl dX10_isCloseToAny_1 rfl ?_
  refine X_iload_n (a := 1) dX10_isCloseToAny_4 rfl rfl rfl ?_
  refine X_ruI (Ru_V (st := []) cv_X10_128 rfl (c_X3_isStaked G M 39 v1 rfl) (by decide) rfl rfl (Nat.le_of_ble_eq_true rfl) dX10_isCloseToAny_5) rfl (fun r5 => ?_)
  refine X_if_eq (tgt := 13) dX10_isCloseToAny_8 rfl rfl (fun e8 => ?_) (fun e8 => ?_)
  · refine X_aload_n (a := 0) dX10_isCloseToAny_13 rfl rfl rfl ?_
    refine X_aload_n (a := 0) dX10_isCloseToAny_14 rfl rfl rfl ?_
    refine X_getR (t := 39) fl_X10_30 rfl rfl dX10_isCloseToAny_15 rfl ?_
    refine X_iload_n (a := 1) dX10_isCloseToAny_18 rfl rfl rfl ?_
    refine X_ruI (Ru_V (st := []) cv_X10_175 rfl (c_X10_floatsOf G M 39 v1 rfl) (by decide) rfl rfl (Nat.le_of_ble_eq_true rfl) dX10_isCloseToAny_19) rfl (fun r19 => ?_)
    refine X_istore_n (lv2 := [(3, .int r19), (0, .ref (ga G 33)), (1, .int v1), (2, .int v2)]) dX10_isCloseToAny_22 rfl (by decide) rfl rfl ?_
    refine X_iconst (w := 0) dX10_isCloseToAny_23 ki_0 rfl ?_
    refine X_istore (lv2 := [(4, .int 0), (3, .int r19), (0, .ref (ga G 33)), (1, .int v1), (2, .int v2)]) dX10_isCloseToAny_24 (by decide) rfl rfl ?_
    exact X_lv [2, 3, 4, 1, 0] rfl (x_X10_isCloseToAny_L26 G M v1 v2 r19 1000 0)
  · refine X_iconst (w := 0) dX10_isCloseToAny_11 ki_0 rfl ?_
    exact X_zretI rfl dX10_isCloseToAny_12
set_option maxRecDepth 100000 in
theorem c_X10_loneKind (G : Gm) (M : Mm) (v0 : Int32) : Ct (fI M) G miX10_loneKind (0) [.int v0] M (F_X10_loneKind v0) := by
  refine Ct_of (pn_X10) (Nat.le_of_ble_eq_true rfl) ?_
  refine X_lv [0] (lv' := [(0, .int v0)]) rfl ?_
  unfold F_X10_loneKind
  refine X_iconst (w := 1) dX10_loneKind_0 ki_1 rfl ?_
  refine X_iload_n (a := 0) dX10_loneKind_1 rfl rfl rfl ?_
  refine X_bipush (w := 100) dX10_loneKind_2 kb_100 rfl ?_
  refine X_idiv dX10_loneKind_4 (by decide) rfl ?_
  refine X_iadd dX10_loneKind_5 rfl ?_
  exact X_iretI rfl dX10_loneKind_6
set_option maxRecDepth 100000 in
theorem c_X10_loneChalk (G : Gm) (M : Mm) (v0 : Int32) : Ct (fI M) G miX10_loneChalk (0) [.int v0] M (F_X10_loneChalk v0) := by
  refine Ct_of (pn_X10) (Nat.le_of_ble_eq_true rfl) ?_
  refine X_lv [0] (lv' := [(0, .int v0)]) rfl ?_
  unfold F_X10_loneChalk
  refine X_iload_n (a := 0) dX10_loneChalk_0 rfl rfl rfl ?_
  refine X_bipush (w := 10) dX10_loneChalk_1 kb_10 rfl ?_
  refine X_idiv dX10_loneChalk_3 (by decide) rfl ?_
  refine X_bipush (w := 10) dX10_loneChalk_4 kb_10 rfl ?_
  refine X_irem dX10_loneChalk_6 (by decide) rfl ?_
  exact X_iretI rfl dX10_loneChalk_7
set_option maxRecDepth 100000 in
theorem c_X10_loneFill (G : Gm) (M : Mm) (v0 : Int32) : Ct (fI M) G miX10_loneFill (0) [.int v0] M (F_X10_loneFill v0) := by
  refine Ct_of (pn_X10) (Nat.le_of_ble_eq_true rfl) ?_
  refine X_lv [0] (lv' := [(0, .int v0)]) rfl ?_
  unfold F_X10_loneFill
  refine X_bipush (w := 9) dX10_loneFill_0 kb_9 rfl ?_
  refine X_bipush (w := 10) dX10_loneFill_2 kb_10 rfl ?_
  refine X_iload_n (a := 0) dX10_loneFill_4 rfl rfl rfl ?_
  refine X_bipush (w := 10) dX10_loneFill_5 kb_10 rfl ?_
  refine X_irem dX10_loneFill_7 (by decide) rfl ?_
  refine X_imul dX10_loneFill_8 rfl ?_
  refine X_iadd dX10_loneFill_9 rfl ?_
  exact X_iretI rfl dX10_loneFill_10
set_option maxRecDepth 100000 in
theorem x_X10_deniedBehind_L6 (G : Gm) (M : Mm) (v1 : Int32) (v2 : Int32) (v3 : Int32) : ∀ (n : Nat) (v4 : Int32) (v5 : Int32), X (fI M) G miX10_deniedBehind (0) 6 [(0, .ref (ga G 33)), (1, .int v1), (2, .int v2), (3, .int v3), (4, .int v4), (5, .int v5)] [] M (F_X10_deniedBehind_L6 M v1 v2 v3 n v4 v5) := by
  intro n
  induction n with
  | zero => intro v4 v5; exact X_none
  | succ n ih =>
    intro v4 v5
    rw [F_X10_deniedBehind_L6]
    refine X_iload (a := 5) dX10_deniedBehind_6 rfl rfl ?_
    refine X_aload_n (a := 0) dX10_deniedBehind_8 rfl rfl rfl ?_
    refine X_getI fl_X10_81 rfl dX10_deniedBehind_9 rfl ?_
    refine X_icmp_ge (tgt := 85) dX10_deniedBehind_12 rfl rfl (fun e12 => ?_) (fun e12 => ?_)
    · refine X_iload (a := 4) dX10_deniedBehind_85 rfl rfl ?_
      exact X_iretI rfl dX10_deniedBehind_87
    · refine X_aload_n (a := 0) dX10_deniedBehind_15 rfl rfl rfl ?_
      refine X_getR (t := 50) fl_X10_41 rfl rfl dX10_deniedBehind_16 rfl ?_
      refine X_iload (a := 5) dX10_deniedBehind_19 rfl rfl ?_
      refine X_iald rfl rfl dX10_deniedBehind_21 rfl ?_
      refine X_iload_n (a := 1) dX10_deniedBehind_22 rfl rfl rfl ?_
      refine X_jc (P := fun j => ∀ (v4 : Int32), X (fI M) G miX10_deniedBehind (0) 79 [(0, .ref (ga G 33)), (1, .int v1), (2, .int v2), (3, .int v3), (4, .int v4), (5, .int v5)] [] M (j v4)) (fun v4 => ?_) (fun j79 hj79 => ?_)
      · refine X_iinc (a := 5) (lv2 := [(5, .int (v5 + 1)), (0, .ref (ga G 33)), (1, .int v1), (2, .int v2), (3, .int v3), (4, .int v4)]) dX10_deniedBehind_79 rfl (ii_1 _) (by decide) rfl rfl ?_
        refine X_goto (tgt := 6) dX10_deniedBehind_82 rfl ?_
        exact X_lv [1, 2, 3, 4, 5, 0] rfl (ih v4 (v5 + 1))
      refine X_icmp_eq (tgt := 29) dX10_deniedBehind_23 rfl rfl (fun e23 => ?_) (fun e23 => ?_)
      · refine X_aload_n (a := 0) dX10_deniedBehind_29 rfl rfl rfl ?_
        refine X_getR (t := 51) fl_X10_44 rfl rfl dX10_deniedBehind_30 rfl ?_
        refine X_iload (a := 5) dX10_deniedBehind_33 rfl rfl ?_
        refine X_iald rfl rfl dX10_deniedBehind_35 rfl ?_
        refine X_jc (P := fun j => ∀ (x44_0 : Int32), X (fI M) G miX10_deniedBehind (0) 44 [(0, .ref (ga G 33)), (1, .int v1), (2, .int v2), (3, .int v3), (4, .int v4), (5, .int v5)] [.int x44_0] M (j x44_0)) (fun x44_0 => ?_) (fun j44 hj44 => ?_)
        · refine X_istore (lv2 := [(6, .int x44_0), (0, .ref (ga G 33)), (1, .int v1), (2, .int v2), (3, .int v3), (4, .int v4), (5, .int v5)]) dX10_deniedBehind_44 (by decide) rfl rfl ?_
          refine X_iload (a := 0) dX10_deniedBehind_46 rfl rfl ?_
          refine X_aload_n (a := 1) dX10_deniedBehind_48 rfl rfl rfl ?_
          refine X_getR (t := 52) fl_X10_47 rfl rfl dX10_deniedBehind_49 rfl ?_
          refine X_iload (a := 6) dX10_deniedBehind_52 rfl rfl ?_
          refine X_iald rfl rfl dX10_deniedBehind_54 rfl ?_
          refine X_jc (P := fun j => X (fI M) G miX10_deniedBehind (0) 70 [(0, .ref (ga G 33)), (1, .int v1), (2, .int v2), (3, .int v3), (4, .int v4), (5, .int v5)] [] M (j)) (?_) (fun j70 hj70 => ?_)
          · refine X_iload (a := 4) dX10_deniedBehind_70 rfl rfl ?_
            refine X_iconst (w := 1) dX10_deniedBehind_72 ki_1 rfl ?_
            refine X_iload (a := 5) dX10_deniedBehind_73 rfl rfl ?_
            refine X_ishl dX10_deniedBehind_75 rfl ?_
            refine X_ior dX10_deniedBehind_76 rfl ?_
            refine X_istore (lv2 := [(4, .int (v4 ||| (1 <<< (v5 &&& 31)))), (0, .ref (ga G 33)), (1, .int v1), (2, .int v2), (3, .int v3), (5, .int v5)]) dX10_deniedBehind_77 (by decide) rfl rfl ?_
            exact X_lv [1, 2, 3, 4, 0, 5] rfl (hj79 (v4 ||| (1 <<< (v5 &&& 31))))
          refine X_icmp_lt (tgt := 70) dX10_deniedBehind_55 rfl rfl (fun e55 => ?_) (fun e55 => ?_)
          · exact X_lv [1, 2, 3, 4, 5, 6] rfl (hj70)
          · refine X_iload (a := 0) dX10_deniedBehind_58 rfl rfl ?_
            refine X_aload_n (a := 1) dX10_deniedBehind_60 rfl rfl rfl ?_
            refine X_getR (t := 53) fl_X10_50 rfl rfl dX10_deniedBehind_61 rfl ?_
            refine X_iload (a := 6) dX10_deniedBehind_64 rfl rfl ?_
            refine X_iald rfl rfl dX10_deniedBehind_66 rfl ?_
            refine X_icmp_le (tgt := 79) dX10_deniedBehind_67 rfl rfl (fun e67 => ?_) (fun e67 => ?_)
            · exact X_lv [1, 2, 3, 4, 5, 6] rfl (hj79 v4)
            · exact X_lv [1, 2, 3, 4, 5, 6] rfl (hj70)
        refine X_if_ne (tgt := 43) dX10_deniedBehind_36 rfl rfl (fun e36 => ?_) (fun e36 => ?_)
        · refine X_iload_n (a := 3) dX10_deniedBehind_43 rfl rfl rfl ?_
          exact X_lv [0, 1, 2, 3, 4, 5] rfl (hj44 v3)
        · refine X_iload_n (a := 2) dX10_deniedBehind_39 rfl rfl rfl ?_
          refine X_goto (tgt := 44) dX10_deniedBehind_40 rfl ?_
          exact X_lv [0, 1, 2, 3, 4, 5] rfl (hj44 v2)
      · refine X_goto (tgt := 79) dX10_deniedBehind_26 rfl ?_
        exact X_lv [0, 1, 2, 3, 4, 5] rfl (hj79 v4)
set_option maxRecDepth 100000 in
theorem c_X10_deniedBehind (G : Gm) (M : Mm) (v1 : Int32) (v2 : Int32) (v3 : Int32) : Ct (fI M) G miX10_deniedBehind (0) [.ref (ga G 33), .int v1, .int v2, .int v3] M (F_X10_deniedBehind M v1 v2 v3) := by
  refine Ct_of (pn_X10) (Nat.le_of_ble_eq_true rfl) ?_
  refine X_lv [0, 1, 2, 3] (lv' := [(0, .ref (ga G 33)), (1, .int v1), (2, .int v2), (3, .int v3)]) rfl ?_
  unfold F_X10_deniedBehind
  refine X_iconst (w := 0) dX10_deniedBehind_0 ki_0 rfl ?_
  refine X_istore (lv2 := [(4, .int 0), (0, .ref (ga G 33)), (1, .int v1), (2, .int v2), (3, .int v3)]) dX10_deniedBehind_1 (by decide) rfl rfl ?_
  refine X_iconst (w := 0) dX10_deniedBehind_3 ki_0 rfl ?_
  refine X_istore (lv2 := [(5, .int 0), (4, .int 0), (0, .ref (ga G 33)), (1, .int v1), (2, .int v2), (3, .int v3)]) dX10_deniedBehind_4 (by decide) rfl rfl ?_
  exact X_lv [2, 3, 4, 5, 1, 0] rfl (x_X10_deniedBehind_L6 G M v1 v2 v3 1000 0 0)
set_option maxRecDepth 100000 in
theorem x_X10_lastReported_L4 (G : Gm) (M : Mm) : ∀ (n : Nat) (v1 : Int32) (v2 : Int32), X (fI M) G miX10_lastReported (1) 4 [(0, .ref (ga G 33)), (1, .int v1), (2, .int v2)] [] M (F_X10_lastReported_L4 M n v1 v2) := by
  intro n
  induction n with
  | zero => intro v1 v2; exact X_none
  | succ n ih =>
    intro v1 v2
    rw [F_X10_lastReported_L4]
    refine X_iload_n (a := 2) dX10_lastReported_4 rfl rfl rfl ?_
    refine X_aload_n (a := 0) dX10_lastReported_5 rfl rfl rfl ?_
    refine X_getI fl_X10_81 rfl dX10_lastReported_6 rfl ?_
    refine X_icmp_ge (tgt := 29) dX10_lastReported_9 rfl rfl (fun e9 => ?_) (fun e9 => ?_)
    · refine X_iload_n (a := 1) dX10_lastReported_29 rfl rfl rfl ?_
      exact X_iretI rfl dX10_lastReported_30
    · refine X_iload_n (a := 1) dX10_lastReported_12 rfl rfl rfl ?_
      refine X_aload_n (a := 0) dX10_lastReported_13 rfl rfl rfl ?_
      refine X_getR (t := 50) fl_X10_41 rfl rfl dX10_lastReported_14 rfl ?_
      refine X_iload_n (a := 2) dX10_lastReported_17 rfl rfl rfl ?_
      refine X_iald rfl rfl dX10_lastReported_18 rfl ?_
      refine X_max mx_X10_122 (by decide) (Nat.le_of_ble_eq_true rfl) dX10_lastReported_19 rfl ?_
      refine X_istore_n (lv2 := [(1, .int (mx v1 (gi M 50 (ui v2)))), (0, .ref (ga G 33)), (2, .int v2)]) dX10_lastReported_22 rfl (by decide) rfl rfl ?_
      refine X_iinc (a := 2) (lv2 := [(2, .int (v2 + 1)), (1, .int (mx v1 (gi M 50 (ui v2)))), (0, .ref (ga G 33))]) dX10_lastReported_23 rfl (ii_1 _) (by decide) rfl rfl ?_
      refine X_goto (tgt := 4) dX10_lastReported_26 rfl ?_
      exact X_lv [2, 1, 0] rfl (ih (mx v1 (gi M 50 (ui v2))) (v2 + 1))
set_option maxRecDepth 100000 in
theorem c_X10_lastReported (G : Gm) (M : Mm) : Ct (fI M) G miX10_lastReported (1) [.ref (ga G 33)] M (F_X10_lastReported M) := by
  refine Ct_of (pn_X10) (Nat.le_of_ble_eq_true rfl) ?_
  refine X_lv [0] (lv' := [(0, .ref (ga G 33))]) rfl ?_
  unfold F_X10_lastReported
  refine X_iconst (w := (-1)) dX10_lastReported_0 ki_m1 rfl ?_
  refine X_istore_n (lv2 := [(1, .int (-1)), (0, .ref (ga G 33))]) dX10_lastReported_1 rfl (by decide) rfl rfl ?_
  refine X_iconst (w := 0) dX10_lastReported_2 ki_0 rfl ?_
  refine X_istore_n (lv2 := [(2, .int 0), (1, .int (-1)), (0, .ref (ga G 33))]) dX10_lastReported_3 rfl (by decide) rfl rfl ?_
  exact X_lv [2, 1, 0] rfl (x_X10_lastReported_L4 G M 1000 (-1) 0)
set_option maxRecDepth 100000 in
theorem x_X10_denied_L36 (G : Gm) (M : Mm) (w2 : Nat) (v3 : Int32) (v7 : Int32) (hw2 : (ly_ty w2 = 0 ∨ ly_ty w2 = 9 ∨ ly_ty w2 = 8 ∨ ly_ty w2 = 1 ∨ ly_ty w2 = 4 ∨ ly_ty w2 = 2)) : ∀ (n : Nat) (v4 : Int32) (v5 : Int32) (v6 : Int32) (v8 : Int32), X (fI M) G miX10_denied (3) 36 [(0, .ref (ga G 33)), (2, .ref (ga G w2)), (3, .int v3), (4, .int v4), (5, .int v5), (6, .int v6), (7, .int v7), (8, .int v8)] [] M (F_X10_denied_L36 M w2 v3 v7 n v4 v5 v6 v8) := by
  intro n
  induction n with
  | zero => intro v4 v5 v6 v8; exact X_none
  | succ n ih =>
    intro v4 v5 v6 v8
    rw [F_X10_denied_L36]
    refine X_iload (a := 7) dX10_denied_36 rfl rfl ?_
    refine X_iload (a := 6) dX10_denied_38 rfl rfl ?_
    refine X_icmp_gt (tgt := 118) dX10_denied_40 rfl rfl (fun e40 => ?_) (fun e40 => ?_)
    · refine X_iload (a := 5) dX10_denied_118 rfl rfl ?_
      exact X_iretI rfl dX10_denied_120
    · refine X_iload (a := 5) dX10_denied_43 rfl rfl ?_
      refine X_aload_n (a := 0) dX10_denied_45 rfl rfl rfl ?_
      refine X_iload (a := 7) dX10_denied_46 rfl rfl ?_
      refine X_iload (a := 3) dX10_denied_48 rfl rfl ?_
      refine X_iload (a := 4) dX10_denied_50 rfl rfl ?_
      refine X_ruI (Ru_V (st := [.int v6]) cv_X10_191 rfl (c_X10_deniedBehind G M v8 v4 v5) (by decide) rfl rfl (Nat.le_of_ble_eq_true rfl) dX10_denied_52) rfl (fun r52 => ?_)
      refine X_ior dX10_denied_55 rfl ?_
      refine X_istore (lv2 := [(6, .int (v6 ||| r52)), (0, .ref (ga G 33)), (2, .ref (ga G w2)), (3, .int v3), (4, .int v4), (5, .int v5), (7, .int v7), (8, .int v8)]) dX10_denied_56 (by decide) rfl rfl ?_
      refine X_iload (a := 4) dX10_denied_58 rfl rfl ?_
      refine X_jc (P := fun j => ∀ (v5 : Int32), X (fI M) G miX10_denied (3) 85 [(0, .ref (ga G 33)), (2, .ref (ga G w2)), (3, .int v3), (4, .int v4), (5, .int v5), (6, .int (v6 ||| r52)), (7, .int v7), (8, .int v8)] [] M (j v5)) (fun v5 => ?_) (fun j85 hj85 => ?_)
      · refine X_iconst (w := 0) dX10_denied_85 ki_0 rfl ?_
        refine X_iload (a := 3) dX10_denied_86 rfl rfl ?_
        refine X_aload_n (a := 1) dX10_denied_88 rfl rfl rfl ?_
        refine X_aload_n (a := 0) dX10_denied_89 rfl rfl rfl ?_
        refine X_iload (a := 7) dX10_denied_90 rfl rfl ?_
        refine X_ruI (Ru_V (st := [.ref (ga G w2), .int v4, .int 0]) cv_X10_106 rfl (c_X10_riseAt G M v8) (by decide) rfl rfl (Nat.le_of_ble_eq_true rfl) dX10_denied_92) rfl (fun r92 => ?_)
        refine X_aload_n (a := 0) dX10_denied_95 rfl rfl rfl ?_
        refine X_iload (a := 7) dX10_denied_96 rfl rfl ?_
        refine X_ruI (Ru_V (st := [.int r92, .ref (ga G w2), .int v4, .int 0]) cv_X10_109 rfl (c_X10_saltAt G M v8) (by decide) rfl rfl (Nat.le_of_ble_eq_true rfl) dX10_denied_98) rfl (fun r98 => ?_)
        refine X_iload (a := 7) dX10_denied_101 rfl rfl ?_
        refine X_ruI (rv_X10_112 rfl hw2 (by decide) rfl (Nat.le_of_ble_eq_true rfl) dX10_denied_103) rfl (fun r103 => ?_)
        refine X_isub dX10_denied_106 rfl ?_
        refine X_max mx_X10_122 (by decide) (Nat.le_of_ble_eq_true rfl) dX10_denied_107 rfl ?_
        refine X_istore (lv2 := [(4, .int (mx 0 (v4 - r103))), (0, .ref (ga G 33)), (2, .ref (ga G w2)), (3, .int v3), (5, .int v5), (6, .int (v6 ||| r52)), (7, .int v7), (8, .int v8)]) dX10_denied_110 (by decide) rfl rfl ?_
        refine X_iinc (a := 7) (lv2 := [(8, .int (v8 + 1)), (4, .int (mx 0 (v4 - r103))), (0, .ref (ga G 33)), (2, .ref (ga G w2)), (3, .int v3), (5, .int v5), (6, .int (v6 ||| r52)), (7, .int v7)]) dX10_denied_112 rfl (ii_1 _) (by decide) rfl rfl ?_
        refine X_goto (tgt := 36) dX10_denied_115 rfl ?_
        exact X_lv [2, 3, 4, 1, 5, 6, 7, 0] rfl (ih (mx 0 (v4 - r103)) v5 (v6 ||| r52) (v8 + 1))
      refine X_if_le (tgt := 85) dX10_denied_60 rfl rfl (fun e60 => ?_) (fun e60 => ?_)
      · exact X_lv [1, 2, 3, 4, 5, 0, 6, 7] rfl (hj85 v5)
      · refine X_aload_n (a := 2) dX10_denied_63 rfl rfl rfl ?_
        refine X_iload (a := 4) dX10_denied_64 rfl rfl ?_
        refine X_iload_n (a := 3) dX10_denied_66 rfl rfl rfl ?_
        refine X_iconst (w := 0) dX10_denied_67 ki_0 rfl ?_
        refine X_ruI (rv_X10_135 rfl hw2 (by decide) rfl (Nat.le_of_ble_eq_true rfl) dX10_denied_68) rfl (fun r68 => ?_)
        refine X_aload_n (a := 1) dX10_denied_71 rfl rfl rfl ?_
        refine X_iload (a := 7) dX10_denied_72 rfl rfl ?_
        refine X_ruI (Ru_V (st := [.int r68]) cv_X10_106 rfl (c_X10_riseAt G M v8) (by decide) rfl rfl (Nat.le_of_ble_eq_true rfl) dX10_denied_74) rfl (fun r74 => ?_)
        refine X_iadd dX10_denied_77 rfl ?_
        refine X_iconst (w := 4) dX10_denied_78 ki_4 rfl ?_
        refine X_icmp_gt (tgt := 85) dX10_denied_79 rfl rfl (fun e79 => ?_) (fun e79 => ?_)
        · exact X_lv [1, 2, 3, 4, 5, 0, 6, 7] rfl (hj85 v5)
        · refine X_iinc (a := 5) (lv2 := [(5, .int (v5 + 1)), (6, .int (v6 ||| r52)), (0, .ref (ga G 33)), (2, .ref (ga G w2)), (3, .int v3), (4, .int v4), (7, .int v7), (8, .int v8)]) dX10_denied_82 rfl (ii_1 _) (by decide) rfl rfl ?_
          exact X_lv [2, 3, 4, 5, 0, 1, 6, 7] rfl (hj85 (v5 + 1))
set_option maxRecDepth 100000 in
theorem c_X10_denied (G : Gm) (M : Mm) (v1 : Int32) : Ct (fI M) G miX10_denied (3) [.ref (ga G 33), .int v1] M (F_X10_denied M v1) := by
  refine Ct_of (pn_X10) (Nat.le_of_ble_eq_true rfl) ?_
  refine X_lv [0, 1] (lv' := [(0, .ref (ga G 33)), (1, .int v1)]) rfl ?_
  unfold F_X10_denied
  refine X_aload_n (a := 0) dX10_denied_0 rfl rfl rfl ?_
  refine X_getR (t := 26) fl_X10_60 rfl rfl dX10_denied_1 rfl ?_
  refine X_iload_n (a := 1) dX10_denied_4 rfl rfl rfl ?_
  refine X_ruI (Ru_S (st := [.ref (ga G 26)]) cs_X10_178 (c_X10_loneKind G M v1) (by decide) rfl rfl (Nat.le_of_ble_eq_true rfl) dX10_denied_5) rfl (fun r5 => ?_)
  refine X_aald (t := 23) rfl (by decide) rfl dX10_denied_8 rfl (fun h8 => ?_)
  refine X_astore_n (lv2 := [(2, .ref (ga G (ly_rf 26 (ui r5)))), (0, .ref (ga G 33)), (1, .int v1)]) dX10_denied_9 rfl (by decide) rfl rfl ?_
  refine X_iload_n (a := 2) dX10_denied_10 rfl rfl rfl ?_
  refine X_ruI (Ru_S (st := []) cs_X10_181 (c_X10_loneChalk G M v1) (by decide) rfl rfl (Nat.le_of_ble_eq_true rfl) dX10_denied_11) rfl (fun r11 => ?_)
  refine X_istore_n (lv2 := [(3, .int r11), (2, .ref (ga G (ly_rf 26 (ui r5)))), (0, .ref (ga G 33)), (1, .int v1)]) dX10_denied_14 rfl (by decide) rfl rfl ?_
  refine X_iload_n (a := 3) dX10_denied_15 rfl rfl rfl ?_
  refine X_ruI (Ru_S (st := []) cs_X10_184 (c_X10_loneFill G M v1) (by decide) rfl rfl (Nat.le_of_ble_eq_true rfl) dX10_denied_16) rfl (fun r16 => ?_)
  refine X_istore (lv2 := [(4, .int r16), (3, .int r11), (2, .ref (ga G (ly_rf 26 (ui r5)))), (0, .ref (ga G 33)), (1, .int v1)]) dX10_denied_19 (by decide) rfl rfl ?_
  refine X_iconst (w := 0) dX10_denied_21 ki_0 rfl ?_
  refine X_istore (lv2 := [(5, .int 0), (4, .int r16), (3, .int r11), (2, .ref (ga G (ly_rf 26 (ui r5)))), (0, .ref (ga G 33)), (1, .int v1)]) dX10_denied_22 (by decide) rfl rfl ?_
  refine X_iconst (w := 0) dX10_denied_24 ki_0 rfl ?_
  refine X_istore (lv2 := [(6, .int 0), (5, .int 0), (4, .int r16), (3, .int r11), (2, .ref (ga G (ly_rf 26 (ui r5)))), (0, .ref (ga G 33)), (1, .int v1)]) dX10_denied_25 (by decide) rfl rfl ?_
  refine X_aload_n (a := 5) dX10_denied_27 rfl rfl rfl ?_
  refine X_ruI (Ru_V (st := []) cv_X10_187 rfl (c_X10_lastReported G M) (by decide) rfl rfl (Nat.le_of_ble_eq_true rfl) dX10_denied_28) rfl (fun r28 => ?_)
  refine X_istore (lv2 := [(7, .int r28), (6, .int 0), (5, .int 0), (4, .int r16), (3, .int r11), (2, .ref (ga G (ly_rf 26 (ui r5)))), (0, .ref (ga G 33)), (1, .int v1)]) dX10_denied_31 (by decide) rfl rfl ?_
  refine X_iconst (w := 0) dX10_denied_33 ki_0 rfl ?_
  refine X_istore (lv2 := [(8, .int 0), (7, .int r28), (6, .int 0), (5, .int 0), (4, .int r16), (3, .int r11), (2, .ref (ga G (ly_rf 26 (ui r5)))), (0, .ref (ga G 33)), (1, .int v1)]) dX10_denied_34 (by decide) rfl rfl ?_
  exact X_lv [7, 6, 5, 4, 3, 2, 1, 0] rfl (x_X10_denied_L36 G M (ly_rf 26 (ui r5)) r11 r28 (ty_nat h8) 1000 r16 0 0 0)

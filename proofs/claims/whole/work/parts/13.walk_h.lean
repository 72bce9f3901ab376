set_option maxRecDepth 100000 in
theorem c_X12_isSheet (G : Gm) (M : Mm) (v0 : Int32) : Ct (fI M) G miX12_isSheet (1) [.int v0] M (F_X12_isSheet v0) := by
  refine Ct_of (pn_X12) (Nat.le_of_ble_eq_true rfl) ?_
  refine X_lv [0] (lv' := [(0, .int v0)]) rfl ?_
  unfold F_X12_isSheet
  refine X_iload_n (a := 0) dX12_isSheet_0 rfl rfl rfl ?_
  refine X_i2l dX12_isSheet_1 rfl rfl ?_
  refine X_lconst (w := 0) dX12_isSheet_2 kl_0 rfl ?_
  refine X_ldc2 (w := 3) dX12_isSheet_3 t_1612 rfl ?_
  refine X_ruI (Ru_S (st := []) cs_X12_61 (c_X12_in G M (Int32.toInt64 v0) 0 3) (by decide) rfl rfl (Nat.le_of_ble_eq_true rfl) dX12_isSheet_6) rfl (fun r6 => ?_)
  exact X_zretI rfl dX12_isSheet_9
set_option maxRecDepth 100000 in
theorem x_X12_sheet_L71 (G : Gm) (v1 : Int32) : ∀ (n : Nat) (M : Mm) (v4 : Int32), X fJ G miX12_sheet (2) 71 [(0, .ref (ga G 94)), (1, .int v1), (4, .int v4)] [] M (F_X12_sheet_L71 v1 n M v4) := by
  intro n
  induction n with
  | zero => intro M v4; exact X_none
  | succ n ih =>
    intro M v4
    rw [F_X12_sheet_L71]
    refine X_iload (a := 2) dX12_sheet_71 rfl rfl ?_
    refine X_bipush (w := 40) dX12_sheet_73 kb_40 rfl ?_
    refine X_icmp_ge (tgt := 97) dX12_sheet_75 rfl rfl (fun e75 => ?_) (fun e75 => ?_)
    · refine X_iconst (w := 1) dX12_sheet_97 ki_1 rfl ?_
      exact X_iretJ rfl dX12_sheet_98
    · refine X_aload_n (a := 0) dX12_sheet_78 rfl rfl rfl ?_
      refine X_getR (t := 107) fl_X12_46 rfl rfl dX12_sheet_79 rfl ?_
      refine X_bipush (w := 40) dX12_sheet_82 kb_40 rfl ?_
      refine X_iload_n (a := 1) dX12_sheet_84 rfl rfl rfl ?_
      refine X_imul dX12_sheet_85 rfl ?_
      refine X_iload (a := 2) dX12_sheet_86 rfl rfl ?_
      refine X_iadd dX12_sheet_88 rfl ?_
      refine X_iconst (w := 0) dX12_sheet_89 ki_0 rfl ?_
      refine X_iast rfl rfl dX12_sheet_90 rfl ?_
      refine X_iinc (a := 2) (lv2 := [(4, .int (v4 + 1)), (0, .ref (ga G 94)), (1, .int v1)]) dX12_sheet_91 rfl (ii_1 _) (by decide) rfl rfl ?_
      refine X_goto (tgt := 71) dX12_sheet_94 rfl ?_
      exact X_lv [1, 2, 0] rfl (ih (si M 107 (ui ((40 * v1) + v4)) 0) (v4 + 1))
set_option maxRecDepth 100000 in
theorem c_X12_sheet (G : Gm) (M : Mm) (v1 : Int32) (v2 : Int32) (v3 : Int32) : Ct fJ G miX12_sheet (2) [.ref (ga G 94), .int v1, .int v2, .int v3] M (F_X12_sheet M v1 v2 v3) := by
  refine Ct_of (pn_X12) (Nat.le_of_ble_eq_true rfl) ?_
  refine X_lv [0, 1, 2, 3] (lv' := [(0, .ref (ga G 94)), (1, .int v1), (2, .int v2), (3, .int v3)]) rfl ?_
  unfold F_X12_sheet
  refine X_iload_n (a := 1) dX12_sheet_0 rfl rfl rfl ?_
  refine X_ruI (Ru_S (st := []) cs_X12_387 (c_X12_isSheet G M v1) (by decide) rfl rfl (Nat.le_of_ble_eq_true rfl) dX12_sheet_1) rfl (fun r1 => ?_)
  refine X_if_eq (tgt := 31) dX12_sheet_4 rfl rfl (fun e4 => ?_) (fun e4 => ?_)
  · refine X_iconst (w := (-1)) dX12_sheet_31 ki_m1 rfl ?_
    exact X_iretJ rfl dX12_sheet_32
  · refine X_iload_n (a := 2) dX12_sheet_7 rfl rfl rfl ?_
    refine X_i2l dX12_sheet_8 rfl rfl ?_
    refine X_ldc2 (w := (-1)) dX12_sheet_9 t_1438 rfl ?_
    refine X_ldc2 (w := 4) dX12_sheet_12 t_1591 rfl ?_
    refine X_ruI (Ru_S (st := []) cs_X12_61 (c_X12_in G M (Int32.toInt64 v2) (-1) 4) (by decide) rfl rfl (Nat.le_of_ble_eq_true rfl) dX12_sheet_15) rfl (fun r15 => ?_)
    refine X_if_eq (tgt := 31) dX12_sheet_18 rfl rfl (fun e18 => ?_) (fun e18 => ?_)
    · refine X_iconst (w := (-1)) dX12_sheet_31 ki_m1 rfl ?_
      exact X_iretJ rfl dX12_sheet_32
    · refine X_iload_n (a := 2) dX12_sheet_21 rfl rfl rfl ?_
      refine X_jc (P := fun j => X fJ G miX12_sheet (2) 33 [(0, .ref (ga G 94)), (1, .int v1), (2, .int v2), (3, .int v3)] [] M (j)) (?_) (fun j33 hj33 => ?_)
      · refine X_iload_n (a := 2) dX12_sheet_33 rfl rfl rfl ?_
        refine X_jc (P := fun j => X fJ G miX12_sheet (2) 44 [(0, .ref (ga G 94)), (1, .int v1), (2, .int v2), (3, .int v3)] [] M (j)) (?_) (fun j44 hj44 => ?_)
        · refine X_aload_n (a := 0) dX12_sheet_44 rfl rfl rfl ?_
          refine X_getR (t := 105) fl_X12_40 rfl rfl dX12_sheet_45 rfl ?_
          refine X_iload_n (a := 1) dX12_sheet_48 rfl rfl rfl ?_
          refine X_iload_n (a := 2) dX12_sheet_49 rfl rfl rfl ?_
          refine X_iconst (w := 1) dX12_sheet_50 ki_1 rfl ?_
          refine X_iadd dX12_sheet_51 rfl ?_
          refine X_iast rfl rfl dX12_sheet_52 rfl ?_
          refine X_aload_n (a := 0) dX12_sheet_53 rfl rfl rfl ?_
          refine X_getR (t := 106) fl_X12_43 rfl rfl dX12_sheet_54 rfl ?_
          refine X_iload_n (a := 1) dX12_sheet_57 rfl rfl rfl ?_
          refine X_iload_n (a := 2) dX12_sheet_58 rfl rfl rfl ?_
          refine X_jc (P := fun j => ∀ (x67_0 : Int32), X fJ G miX12_sheet (2) 67 [(0, .ref (ga G 94)), (1, .int v1)] [.int x67_0, .int v1, .ref (ga G 106)] (si M 105 (ui v1) (v2 + 1)) (j x67_0)) (fun x67_0 => ?_) (fun j67 hj67 => ?_)
          · refine X_iast rfl rfl dX12_sheet_67 rfl ?_
            refine X_iconst (w := 0) dX12_sheet_68 ki_0 rfl ?_
            refine X_istore (lv2 := [(4, .int 0), (0, .ref (ga G 94)), (1, .int v1)]) dX12_sheet_69 (by decide) rfl rfl ?_
            exact X_lv [1, 2, 0] rfl (x_X12_sheet_L71 G v1 1000 (si (si M 105 (ui v1) (v2 + 1)) 106 (ui v1) x67_0) 0)
          refine X_if_ge (tgt := 66) dX12_sheet_59 rfl rfl (fun e59 => ?_) (fun e59 => ?_)
          · refine X_iload_n (a := 3) dX12_sheet_66 rfl rfl rfl ?_
            exact X_lv [0, 1] rfl (hj67 v3)
          · refine X_iconst (w := 0) dX12_sheet_62 ki_0 rfl ?_
            refine X_goto (tgt := 67) dX12_sheet_63 rfl ?_
            exact X_lv [0, 1] rfl (hj67 0)
        refine X_if_lt (tgt := 44) dX12_sheet_34 rfl rfl (fun e34 => ?_) (fun e34 => ?_)
        · exact X_lv [0, 1, 2, 3] rfl (hj44)
        · refine X_iload_n (a := 3) dX12_sheet_37 rfl rfl rfl ?_
          refine X_if_ge (tgt := 44) dX12_sheet_38 rfl rfl (fun e38 => ?_) (fun e38 => ?_)
          · exact X_lv [0, 1, 2, 3] rfl (hj44)
          · refine X_bipush (w := (-14)) dX12_sheet_41 kb_m14 rfl ?_
            exact X_iretJ rfl dX12_sheet_43
      refine X_if_lt (tgt := 33) dX12_sheet_22 rfl rfl (fun e22 => ?_) (fun e22 => ?_)
      · exact X_lv [0, 1, 2, 3] rfl (hj33)
      · refine X_iload_n (a := 3) dX12_sheet_25 rfl rfl rfl ?_
        refine X_bipush (w := 40) dX12_sheet_26 kb_40 rfl ?_
        refine X_icmp_le (tgt := 33) dX12_sheet_28 rfl rfl (fun e28 => ?_) (fun e28 => ?_)
        · exact X_lv [0, 1, 2, 3] rfl (hj33)
        · refine X_iconst (w := (-1)) dX12_sheet_31 ki_m1 rfl ?_
          exact X_iretJ rfl dX12_sheet_32
set_option maxRecDepth 100000 in
theorem c_X12_write (G : Gm) (M : Mm) (v1 : Int32) (v2 : Int32) (v3 : Int32) : Ct fJ G miX12_write (2) [.ref (ga G 94), .int v1, .int v2, .int v3] M (F_X12_write M v1 v2 v3) := by
  refine Ct_of (pn_X12) (Nat.le_of_ble_eq_true rfl) ?_
  refine X_lv [0, 1, 2, 3] (lv' := [(0, .ref (ga G 94)), (1, .int v1), (2, .int v2), (3, .int v3)]) rfl ?_
  unfold F_X12_write
  refine X_iload_n (a := 1) dX12_write_0 rfl rfl rfl ?_
  refine X_ruI (Ru_S (st := []) cs_X12_387 (c_X12_isSheet G M v1) (by decide) rfl rfl (Nat.le_of_ble_eq_true rfl) dX12_write_1) rfl (fun r1 => ?_)
  refine X_if_ne (tgt := 9) dX12_write_4 rfl rfl (fun e4 => ?_) (fun e4 => ?_)
  · refine X_aload_n (a := 0) dX12_write_9 rfl rfl rfl ?_
    refine X_getR (t := 105) fl_X12_40 rfl rfl dX12_write_10 rfl ?_
    refine X_iload_n (a := 1) dX12_write_13 rfl rfl rfl ?_
    refine X_iald rfl rfl dX12_write_14 rfl ?_
    refine X_if_ne (tgt := 21) dX12_write_15 rfl rfl (fun e15 => ?_) (fun e15 => ?_)
    · refine X_iload_n (a := 2) dX12_write_21 rfl rfl rfl ?_
      refine X_i2l dX12_write_22 rfl rfl ?_
      refine X_lconst (w := 0) dX12_write_23 kl_0 rfl ?_
      refine X_aload_n (a := 0) dX12_write_24 rfl rfl rfl ?_
      refine X_getR (t := 106) fl_X12_43 rfl rfl dX12_write_25 rfl ?_
      refine X_iload_n (a := 1) dX12_write_28 rfl rfl rfl ?_
      refine X_iald rfl rfl dX12_write_29 rfl ?_
      refine X_iconst (w := 1) dX12_write_30 ki_1 rfl ?_
      refine X_isub dX12_write_31 rfl ?_
      refine X_i2l dX12_write_32 rfl rfl ?_
      refine X_ruI (Ru_S (st := []) cs_X12_61 (c_X12_in G M (Int32.toInt64 v2) 0 (Int32.toInt64 ((gi M 106 (ui v1)) - 1))) (by decide) rfl rfl (Nat.le_of_ble_eq_true rfl) dX12_write_33) rfl (fun r33 => ?_)
      refine X_if_ne (tgt := 42) dX12_write_36 rfl rfl (fun e36 => ?_) (fun e36 => ?_)
      · refine X_aload_n (a := 0) dX12_write_42 rfl rfl rfl ?_
        refine X_getR (t := 105) fl_X12_40 rfl rfl dX12_write_43 rfl ?_
        refine X_iload_n (a := 1) dX12_write_46 rfl rfl rfl ?_
        refine X_iald rfl rfl dX12_write_47 rfl ?_
        refine X_istore (lv2 := [(4, .int (gi M 105 (ui v1))), (0, .ref (ga G 94)), (1, .int v1), (2, .int v2), (3, .int v3)]) dX12_write_48 (by decide) rfl rfl ?_
        refine X_aload_n (a := 1) dX12_write_50 rfl rfl rfl ?_
        refine X_getR (t := 107) fl_X12_46 rfl rfl dX12_write_51 rfl ?_
        refine X_bipush (w := 40) dX12_write_54 kb_40 rfl ?_
        refine X_iload_n (a := 2) dX12_write_56 rfl rfl rfl ?_
        refine X_imul dX12_write_57 rfl ?_
        refine X_iload_n (a := 3) dX12_write_58 rfl rfl rfl ?_
        refine X_iadd dX12_write_59 rfl ?_
        refine X_iload (a := 0) dX12_write_60 rfl rfl ?_
        refine X_iconst (w := 1) dX12_write_62 ki_1 rfl ?_
        refine X_icmp_ne (tgt := 71) dX12_write_63 rfl rfl (fun e63 => ?_) (fun e63 => ?_)
        · refine X_iload (a := 0) dX12_write_71 rfl rfl ?_
          refine X_iconst (w := 2) dX12_write_73 ki_2 rfl ?_
          refine X_icmp_ne (tgt := 82) dX12_write_74 rfl rfl (fun e74 => ?_) (fun e74 => ?_)
          · refine X_iload (a := 0) dX12_write_82 rfl rfl ?_
            refine X_iconst (w := 5) dX12_write_84 ki_5 rfl ?_
            refine X_icmp_ne (tgt := 100) dX12_write_85 rfl rfl (fun e85 => ?_) (fun e85 => ?_)
            · refine X_iload_n (a := 4) dX12_write_100 rfl rfl rfl ?_
              refine X_iast rfl rfl dX12_write_101 rfl ?_
              refine X_iconst (w := 1) dX12_write_102 ki_1 rfl ?_
              exact X_iretJ rfl dX12_write_103
            · refine X_iload_n (a := 4) dX12_write_88 rfl rfl rfl ?_
              refine X_if_ne (tgt := 96) dX12_write_89 rfl rfl (fun e89 => ?_) (fun e89 => ?_)
              · refine X_iconst (w := 1) dX12_write_96 ki_1 rfl ?_
                refine X_goto (tgt := 101) dX12_write_97 rfl ?_
                refine X_iast rfl rfl dX12_write_101 rfl ?_
                refine X_iconst (w := 1) dX12_write_102 ki_1 rfl ?_
                exact X_iretJ rfl dX12_write_103
              · refine X_iconst (w := 0) dX12_write_92 ki_0 rfl ?_
                refine X_goto (tgt := 101) dX12_write_93 rfl ?_
                refine X_iast rfl rfl dX12_write_101 rfl ?_
                refine X_iconst (w := 1) dX12_write_102 ki_1 rfl ?_
                exact X_iretJ rfl dX12_write_103
          · refine X_iload_n (a := 4) dX12_write_77 rfl rfl rfl ?_
            refine X_i2s dX12_write_78 rfl rfl ?_
            refine X_goto (tgt := 101) dX12_write_79 rfl ?_
            refine X_iast rfl rfl dX12_write_101 rfl ?_
            refine X_iconst (w := 1) dX12_write_102 ki_1 rfl ?_
            exact X_iretJ rfl dX12_write_103
        · refine X_iload_n (a := 4) dX12_write_66 rfl rfl rfl ?_
          refine X_i2b dX12_write_67 rfl rfl ?_
          refine X_goto (tgt := 101) dX12_write_68 rfl ?_
          refine X_iast rfl rfl dX12_write_101 rfl ?_
          refine X_iconst (w := 1) dX12_write_102 ki_1 rfl ?_
          exact X_iretJ rfl dX12_write_103
      · refine X_bipush (w := (-12)) dX12_write_39 kb_m12 rfl ?_
        exact X_iretJ rfl dX12_write_41
    · refine X_bipush (w := (-11)) dX12_write_18 kb_m11 rfl ?_
      exact X_iretJ rfl dX12_write_20
  · refine X_iconst (w := (-1)) dX12_write_7 ki_m1 rfl ?_
    exact X_iretJ rfl dX12_write_8
set_option maxRecDepth 100000 in
theorem c_X12_item (G : Gm) (M : Mm) (v1 : Int32) (v2 : Int32) (v3 : Int32) : Ct (fI M) G miX12_item (2) [.ref (ga G 94), .int v1, .int v2, .int v3] M (F_X12_item M v1 v2 v3) := by
  refine Ct_of (pn_X12) (Nat.le_of_ble_eq_true rfl) ?_
  refine X_lv [0, 1, 2, 3] (lv' := [(0, .ref (ga G 94)), (1, .int v1), (2, .int v2), (3, .int v3)]) rfl ?_
  unfold F_X12_item
  refine X_iload_n (a := 1) dX12_item_0 rfl rfl rfl ?_
  refine X_ruI (Ru_S (st := []) cs_X12_387 (c_X12_isSheet G M v1) (by decide) rfl rfl (Nat.le_of_ble_eq_true rfl) dX12_item_1) rfl (fun r1 => ?_)
  refine X_if_eq (tgt := 19) dX12_item_4 rfl rfl (fun e4 => ?_) (fun e4 => ?_)
  · refine X_iconst (w := (-1)) dX12_item_19 ki_m1 rfl ?_
    exact X_iretI rfl dX12_item_20
  · refine X_iload_n (a := 2) dX12_item_7 rfl rfl rfl ?_
    refine X_i2l dX12_item_8 rfl rfl ?_
    refine X_lconst (w := 0) dX12_item_9 kl_0 rfl ?_
    refine X_ldc2 (w := 4) dX12_item_10 t_1591 rfl ?_
    refine X_ruI (Ru_S (st := []) cs_X12_61 (c_X12_in G M (Int32.toInt64 v2) 0 4) (by decide) rfl rfl (Nat.le_of_ble_eq_true rfl) dX12_item_13) rfl (fun r13 => ?_)
    refine X_if_ne (tgt := 21) dX12_item_16 rfl rfl (fun e16 => ?_) (fun e16 => ?_)
    · refine X_aload_n (a := 0) dX12_item_21 rfl rfl rfl ?_
      refine X_getR (t := 105) fl_X12_40 rfl rfl dX12_item_22 rfl ?_
      refine X_iload_n (a := 1) dX12_item_25 rfl rfl rfl ?_
      refine X_iald rfl rfl dX12_item_26 rfl ?_
      refine X_if_ne (tgt := 33) dX12_item_27 rfl rfl (fun e27 => ?_) (fun e27 => ?_)
      · refine X_aload_n (a := 0) dX12_item_33 rfl rfl rfl ?_
        refine X_getR (t := 105) fl_X12_40 rfl rfl dX12_item_34 rfl ?_
        refine X_iload_n (a := 1) dX12_item_37 rfl rfl rfl ?_
        refine X_iald rfl rfl dX12_item_38 rfl ?_
        refine X_iload_n (a := 2) dX12_item_39 rfl rfl rfl ?_
        refine X_iconst (w := 1) dX12_item_40 ki_1 rfl ?_
        refine X_iadd dX12_item_41 rfl ?_
        refine X_icmp_eq (tgt := 48) dX12_item_42 rfl rfl (fun e42 => ?_) (fun e42 => ?_)
        · refine X_iload_n (a := 3) dX12_item_48 rfl rfl rfl ?_
          refine X_i2l dX12_item_49 rfl rfl ?_
          refine X_lconst (w := 0) dX12_item_50 kl_0 rfl ?_
          refine X_aload_n (a := 0) dX12_item_51 rfl rfl rfl ?_
          refine X_getR (t := 106) fl_X12_43 rfl rfl dX12_item_52 rfl ?_
          refine X_iload_n (a := 1) dX12_item_55 rfl rfl rfl ?_
          refine X_iald rfl rfl dX12_item_56 rfl ?_
          refine X_iconst (w := 1) dX12_item_57 ki_1 rfl ?_
          refine X_isub dX12_item_58 rfl ?_
          refine X_i2l dX12_item_59 rfl rfl ?_
          refine X_ruI (Ru_S (st := []) cs_X12_61 (c_X12_in G M (Int32.toInt64 v3) 0 (Int32.toInt64 ((gi M 106 (ui v1)) - 1))) (by decide) rfl rfl (Nat.le_of_ble_eq_true rfl) dX12_item_60) rfl (fun r60 => ?_)
          refine X_if_eq (tgt := 80) dX12_item_63 rfl rfl (fun e63 => ?_) (fun e63 => ?_)
          · refine X_bipush (w := (-12)) dX12_item_80 kb_m12 rfl ?_
            exact X_iretI rfl dX12_item_82
          · refine X_aload_n (a := 0) dX12_item_66 rfl rfl rfl ?_
            refine X_getR (t := 107) fl_X12_46 rfl rfl dX12_item_67 rfl ?_
            refine X_bipush (w := 40) dX12_item_70 kb_40 rfl ?_
            refine X_iload_n (a := 1) dX12_item_72 rfl rfl rfl ?_
            refine X_imul dX12_item_73 rfl ?_
            refine X_iload_n (a := 3) dX12_item_74 rfl rfl rfl ?_
            refine X_iadd dX12_item_75 rfl ?_
            refine X_iald rfl rfl dX12_item_76 rfl ?_
            refine X_goto (tgt := 82) dX12_item_77 rfl ?_
            exact X_iretI rfl dX12_item_82
        · refine X_bipush (w := (-13)) dX12_item_45 kb_m13 rfl ?_
          exact X_iretI rfl dX12_item_47
      · refine X_bipush (w := (-11)) dX12_item_30 kb_m11 rfl ?_
        exact X_iretI rfl dX12_item_32
    · refine X_iconst (w := (-1)) dX12_item_19 ki_m1 rfl ?_
      exact X_iretI rfl dX12_item_20
set_option maxRecDepth 100000 in
theorem c_X12_whyNoBytes (G : Gm) (M : Mm) (v1 : Int32) (v2 : Int32) : Ct (fI M) G miX12_whyNoBytes (2) [.ref (ga G 94), .int v1, .int v2] M (F_X12_whyNoBytes M v1 v2) := by
  refine Ct_of (pn_X12) (Nat.le_of_ble_eq_true rfl) ?_
  refine X_lv [0, 1, 2] (lv' := [(0, .ref (ga G 94)), (1, .int v1), (2, .int v2)]) rfl ?_
  unfold F_X12_whyNoBytes
  refine X_iload_n (a := 1) dX12_whyNoBytes_0 rfl rfl rfl ?_
  refine X_ruI (Ru_S (st := []) cs_X12_387 (c_X12_isSheet G M v1) (by decide) rfl rfl (Nat.le_of_ble_eq_true rfl) dX12_whyNoBytes_1) rfl (fun r1 => ?_)
  refine X_if_eq (tgt := 19) dX12_whyNoBytes_4 rfl rfl (fun e4 => ?_) (fun e4 => ?_)
  · refine X_iconst (w := (-1)) dX12_whyNoBytes_19 ki_m1 rfl ?_
    exact X_iretI rfl dX12_whyNoBytes_20
  · refine X_iload_n (a := 2) dX12_whyNoBytes_7 rfl rfl rfl ?_
    refine X_i2l dX12_whyNoBytes_8 rfl rfl ?_
    refine X_lconst (w := 0) dX12_whyNoBytes_9 kl_0 rfl ?_
    refine X_ldc2 (w := 20) dX12_whyNoBytes_10 t_1729 rfl ?_
    refine X_ruI (Ru_S (st := []) cs_X12_61 (c_X12_in G M (Int32.toInt64 v2) 0 20) (by decide) rfl rfl (Nat.le_of_ble_eq_true rfl) dX12_whyNoBytes_13) rfl (fun r13 => ?_)
    refine X_if_ne (tgt := 21) dX12_whyNoBytes_16 rfl rfl (fun e16 => ?_) (fun e16 => ?_)
    · refine X_aload_n (a := 0) dX12_whyNoBytes_21 rfl rfl rfl ?_
      refine X_getR (t := 105) fl_X12_40 rfl rfl dX12_whyNoBytes_22 rfl ?_
      refine X_iload_n (a := 1) dX12_whyNoBytes_25 rfl rfl rfl ?_
      refine X_iald rfl rfl dX12_whyNoBytes_26 rfl ?_
      refine X_if_ne (tgt := 35) dX12_whyNoBytes_27 rfl rfl (fun e27 => ?_) (fun e27 => ?_)
      · refine X_aload_n (a := 0) dX12_whyNoBytes_35 rfl rfl rfl ?_
        refine X_getR (t := 105) fl_X12_40 rfl rfl dX12_whyNoBytes_36 rfl ?_
        refine X_iload_n (a := 1) dX12_whyNoBytes_39 rfl rfl rfl ?_
        refine X_iald rfl rfl dX12_whyNoBytes_40 rfl ?_
        refine X_iconst (w := 1) dX12_whyNoBytes_41 ki_1 rfl ?_
        refine X_icmp_eq (tgt := 50) dX12_whyNoBytes_42 rfl rfl (fun e42 => ?_) (fun e42 => ?_)
        · refine X_iconst (w := 0) dX12_whyNoBytes_50 ki_0 rfl ?_
          exact X_iretI rfl dX12_whyNoBytes_51
        · refine X_bipush (w := (-13)) dX12_whyNoBytes_45 kb_m13 rfl ?_
          refine X_goto (tgt := 51) dX12_whyNoBytes_47 rfl ?_
          exact X_iretI rfl dX12_whyNoBytes_51
      · refine X_bipush (w := (-11)) dX12_whyNoBytes_30 kb_m11 rfl ?_
        refine X_goto (tgt := 51) dX12_whyNoBytes_32 rfl ?_
        exact X_iretI rfl dX12_whyNoBytes_51
    · refine X_iconst (w := (-1)) dX12_whyNoBytes_19 ki_m1 rfl ?_
      exact X_iretI rfl dX12_whyNoBytes_20
set_option maxRecDepth 100000 in
theorem x_X12_goAll_L22 (G : Gm) (v1 : Int32) (v2 : Int32) (v3 : Int32) : ∀ (n : Nat) (M : Mm) (v5 : Int32) (v6 : Int32), X fJ G miX12_goAll (7) 22 [(0, .ref (ga G 94)), (1, .int v1), (2, .int v2), (3, .int v3), (5, .int v5), (6, .int v6)] [] M (F_X12_goAll_L22 v1 v2 v3 n M v5 v6) := by
  intro n
  induction n with
  | zero => intro M v5 v6; exact X_none
  | succ n ih =>
    intro M v5 v6
    rw [F_X12_goAll_L22]
    refine X_iload (a := 5) dX12_goAll_22 rfl rfl ?_
    refine X_iload_n (a := 3) dX12_goAll_24 rfl rfl rfl ?_
    refine X_icmp_ge (tgt := 114) dX12_goAll_25 rfl rfl (fun e25 => ?_) (fun e25 => ?_)
    · refine X_iload (a := 4) dX12_goAll_114 rfl rfl ?_
      exact X_iretJ rfl dX12_goAll_116
    · refine X_iload_n (a := 2) dX12_goAll_28 rfl rfl rfl ?_
      refine X_i2l dX12_goAll_29 rfl rfl ?_
      refine X_iload (a := 5) dX12_goAll_30 rfl rfl ?_
      refine X_i2l dX12_goAll_32 rfl rfl ?_
      refine X_ladd dX12_goAll_33 rfl ?_
      refine X_lconst (w := 0) dX12_goAll_34 kl_0 rfl ?_
      refine X_aload_n (a := 0) dX12_goAll_35 rfl rfl rfl ?_
      refine X_getR (t := 106) fl_X12_43 rfl rfl dX12_goAll_36 rfl ?_
      refine X_iload_n (a := 1) dX12_goAll_39 rfl rfl rfl ?_
      refine X_iald rfl rfl dX12_goAll_40 rfl ?_
      refine X_iconst (w := 1) dX12_goAll_41 ki_1 rfl ?_
      refine X_isub dX12_goAll_42 rfl ?_
      refine X_i2l dX12_goAll_43 rfl rfl ?_
      refine X_ruI (Ru_S (st := []) cs_X12_61 (c_X12_in G M ((Int32.toInt64 v2) + (Int32.toInt64 v6)) 0 (Int32.toInt64 ((gi M 106 (ui v1)) - 1))) (by decide) rfl rfl (Nat.le_of_ble_eq_true rfl) dX12_goAll_44) rfl (fun r44 => ?_)
      refine X_if_ne (tgt := 53) dX12_goAll_47 rfl rfl (fun e47 => ?_) (fun e47 => ?_)
      · refine X_aload_n (a := 0) dX12_goAll_53 rfl rfl rfl ?_
        refine X_getR (t := 107) fl_X12_46 rfl rfl dX12_goAll_54 rfl ?_
        refine X_bipush (w := 40) dX12_goAll_57 kb_40 rfl ?_
        refine X_iload_n (a := 1) dX12_goAll_59 rfl rfl rfl ?_
        refine X_imul dX12_goAll_60 rfl ?_
        refine X_iload_n (a := 2) dX12_goAll_61 rfl rfl rfl ?_
        refine X_iadd dX12_goAll_62 rfl ?_
        refine X_iload (a := 5) dX12_goAll_63 rfl rfl ?_
        refine X_iadd dX12_goAll_65 rfl ?_
        refine X_iald rfl rfl dX12_goAll_66 rfl ?_
        refine X_istore (lv2 := [(7, .int (gi M 107 (ui (((40 * v1) + v2) + v6)))), (0, .ref (ga G 94)), (1, .int v1), (2, .int v2), (3, .int v3), (5, .int v5), (6, .int v6)]) dX12_goAll_67 (by decide) rfl rfl ?_
        refine X_iload (a := 5) dX12_goAll_69 rfl rfl ?_
        refine X_iload (a := 0) dX12_goAll_71 rfl rfl ?_
        refine X_i2l dX12_goAll_73 rfl rfl ?_
        refine X_lconst (w := 0) dX12_goAll_74 kl_0 rfl ?_
        refine X_aload_n (a := 1) dX12_goAll_75 rfl rfl rfl ?_
        refine X_getR (t := 95) fl_X12_7 rfl rfl dX12_goAll_76 rfl ?_
        refine X_iconst (w := 0) dX12_goAll_79 ki_0 rfl ?_
        refine X_iald rfl rfl dX12_goAll_80 rfl ?_
        refine X_i2l dX12_goAll_81 rfl rfl ?_
        refine X_ruI (Ru_S (st := [.int v5]) cs_X12_61 (c_X12_in G M (Int32.toInt64 (gi M 107 (ui (((40 * v1) + v2) + v6)))) 0 (Int32.toInt64 (gi M 95 (ui 0)))) (by decide) rfl rfl (Nat.le_of_ble_eq_true rfl) dX12_goAll_82) rfl (fun r82 => ?_)
        refine X_jc (P := fun j => ∀ (x105_0 : Int32) (M : Mm), X fJ G miX12_goAll (7) 105 [(0, .ref (ga G 94)), (1, .int v1), (2, .int v2), (3, .int v3), (6, .int v6)] [.int x105_0, .int v5] M (j x105_0 M)) (fun x105_0 M => ?_) (fun j105 hj105 => ?_)
        · refine X_iadd dX12_goAll_105 rfl ?_
          refine X_istore (lv2 := [(5, .int (v5 + x105_0)), (0, .ref (ga G 94)), (1, .int v1), (2, .int v2), (3, .int v3), (6, .int v6)]) dX12_goAll_106 (by decide) rfl rfl ?_
          refine X_iinc (a := 5) (lv2 := [(6, .int (v6 + 1)), (5, .int (v5 + x105_0)), (0, .ref (ga G 94)), (1, .int v1), (2, .int v2), (3, .int v3)]) dX12_goAll_108 rfl (ii_1 _) (by decide) rfl rfl ?_
          refine X_goto (tgt := 22) dX12_goAll_111 rfl ?_
          exact X_lv [2, 3, 4, 5, 1, 0] rfl (ih M (v5 + x105_0) (v6 + 1))
        refine X_jc (P := fun j => X fJ G miX12_goAll (7) 104 [(0, .ref (ga G 94)), (1, .int v1), (2, .int v2), (3, .int v3), (6, .int v6)] [.int v5] M (j)) (?_) (fun j104 hj104 => ?_)
        · refine X_iconst (w := 0) dX12_goAll_104 ki_0 rfl ?_
          exact X_lv [0, 1, 2, 3, 4] rfl (hj105 0 M)
        refine X_if_eq (tgt := 104) dX12_goAll_85 rfl rfl (fun e85 => ?_) (fun e85 => ?_)
        · exact X_lv [1, 2, 3, 4, 6] rfl (hj104)
        · refine X_aload_n (a := 1) dX12_goAll_88 rfl rfl rfl ?_
          refine X_ruI (Ru_V (st := [.int v5]) cv_X12_137 rfl (c_X12_isOver G M) (by decide) rfl rfl (Nat.le_of_ble_eq_true rfl) dX12_goAll_89) rfl (fun r89 => ?_)
          refine X_if_ne (tgt := 104) dX12_goAll_92 rfl rfl (fun e92 => ?_) (fun e92 => ?_)
          · exact X_lv [1, 2, 3, 4, 6] rfl (hj104)
          · refine X_aload_n (a := 1) dX12_goAll_95 rfl rfl rfl ?_
            refine X_iload (a := 0) dX12_goAll_96 rfl rfl ?_
            refine X_ruJ (Ru_V (st := [.int v5]) cv_X12_144 rfl (c_X12_tideGoes G M (gi M 107 (ui (((40 * v1) + v2) + v6)))) (by decide) rfl rfl (Nat.le_of_ble_eq_true rfl) dX12_goAll_98) rfl (fun r98 => ?_)
            refine X_goto (tgt := 105) dX12_goAll_101 rfl ?_
            exact X_lv [1, 2, 3, 4, 6] rfl (hj105 r98.1 r98.2)
      · refine X_bipush (w := (-12)) dX12_goAll_50 kb_m12 rfl ?_
        exact X_iretJ rfl dX12_goAll_52
set_option maxRecDepth 100000 in
theorem c_X12_goAll (G : Gm) (M : Mm) (v1 : Int32) (v2 : Int32) (v3 : Int32) : Ct fJ G miX12_goAll (7) [.ref (ga G 94), .int v1, .int v2, .int v3] M (F_X12_goAll M v1 v2 v3) := by
  refine Ct_of (pn_X12) (Nat.le_of_ble_eq_true rfl) ?_
  refine X_lv [0, 1, 2, 3] (lv' := [(0, .ref (ga G 94)), (1, .int v1), (2, .int v2), (3, .int v3)]) rfl ?_
  unfold F_X12_goAll
  refine X_aload_n (a := 0) dX12_goAll_0 rfl rfl rfl ?_
  refine X_iload_n (a := 1) dX12_goAll_1 rfl rfl rfl ?_
  refine X_iload_n (a := 3) dX12_goAll_2 rfl rfl rfl ?_
  refine X_ruI (Ru_V (st := []) cv_X12_392 rfl (c_X12_whyNoBytes G M v1 v3) (by decide) rfl rfl (Nat.le_of_ble_eq_true rfl) dX12_goAll_3) rfl (fun r3 => ?_)
  refine X_istore (lv2 := [(4, .int r3), (0, .ref (ga G 94)), (1, .int v1), (2, .int v2), (3, .int v3)]) dX12_goAll_6 (by decide) rfl rfl ?_
  refine X_iload (a := 0) dX12_goAll_8 rfl rfl ?_
  refine X_if_ge (tgt := 16) dX12_goAll_10 rfl rfl (fun e10 => ?_) (fun e10 => ?_)
  · refine X_iconst (w := 0) dX12_goAll_16 ki_0 rfl ?_
    refine X_istore (lv2 := [(5, .int 0), (4, .int r3), (0, .ref (ga G 94)), (1, .int v1), (2, .int v2), (3, .int v3)]) dX12_goAll_17 (by decide) rfl rfl ?_
    refine X_iconst (w := 0) dX12_goAll_19 ki_0 rfl ?_
    refine X_istore (lv2 := [(6, .int 0), (5, .int 0), (4, .int r3), (0, .ref (ga G 94)), (1, .int v1), (2, .int v2), (3, .int v3)]) dX12_goAll_20 (by decide) rfl rfl ?_
    exact X_lv [3, 4, 5, 6, 1, 0] rfl (x_X12_goAll_L22 G v1 v2 v3 1000 M 0 0)
  · refine X_iload (a := 0) dX12_goAll_13 rfl rfl ?_
    exact X_iretJ rfl dX12_goAll_15
set_option maxRecDepth 100000 in
theorem x_X12_wouldBe_L26 (G : Gm) (v1 : Int32) (v2 : Int32) (v3 : Int32) : ∀ (n : Nat) (M : Mm) (v5 : Int32) (v6 : Int32), X fJ G miX12_wouldBe (7) 26 [(0, .ref (ga G 94)), (1, .int v1), (2, .int v2), (3, .int v3), (5, .int v5), (6, .int v6)] [] M (F_X12_wouldBe_L26 v1 v2 v3 n M v5 v6) := by
  intro n
  induction n with
  | zero => intro M v5 v6; exact X_none
  | succ n ih =>
    intro M v5 v6
    rw [F_X12_wouldBe_L26]
    refine X_iload (a := 5) dX12_wouldBe_26 rfl rfl ?_
    refine X_iload_n (a := 3) dX12_wouldBe_28 rfl rfl rfl ?_
    refine X_jc (P := fun j => X fJ G miX12_wouldBe (7) 138 [(0, .ref (ga G 94)), (5, .int v5)] [] M (j)) (?_) (fun j138 hj138 => ?_)
    · refine X_aload_n (a := 0) dX12_wouldBe_138 rfl rfl rfl ?_
      refine X_ruV (Ru_V (st := []) cv_X12_303 rfl (c_X12_takes G M) (by decide) rfl rfl (Nat.le_of_ble_eq_true rfl) dX12_wouldBe_139) rfl (fun r139 => ?_)
      refine X_iload (a := 1) dX12_wouldBe_142 rfl rfl ?_
      exact X_iretJ rfl dX12_wouldBe_144
    refine X_icmp_ge (tgt := 138) dX12_wouldBe_29 rfl rfl (fun e29 => ?_) (fun e29 => ?_)
    · exact X_lv [0, 4] rfl (hj138)
    · refine X_iload (a := 4) dX12_wouldBe_32 rfl rfl ?_
      refine X_if_lt (tgt := 138) dX12_wouldBe_34 rfl rfl (fun e34 => ?_) (fun e34 => ?_)
      · exact X_lv [0, 4] rfl (hj138)
      · refine X_iload_n (a := 2) dX12_wouldBe_37 rfl rfl rfl ?_
        refine X_i2l dX12_wouldBe_38 rfl rfl ?_
        refine X_iload (a := 5) dX12_wouldBe_39 rfl rfl ?_
        refine X_i2l dX12_wouldBe_41 rfl rfl ?_
        refine X_ladd dX12_wouldBe_42 rfl ?_
        refine X_lconst (w := 0) dX12_wouldBe_43 kl_0 rfl ?_
        refine X_aload_n (a := 0) dX12_wouldBe_44 rfl rfl rfl ?_
        refine X_getR (t := 106) fl_X12_43 rfl rfl dX12_wouldBe_45 rfl ?_
        refine X_iload_n (a := 1) dX12_wouldBe_48 rfl rfl rfl ?_
        refine X_iald rfl rfl dX12_wouldBe_49 rfl ?_
        refine X_iconst (w := 1) dX12_wouldBe_50 ki_1 rfl ?_
        refine X_isub dX12_wouldBe_51 rfl ?_
        refine X_i2l dX12_wouldBe_52 rfl rfl ?_
        refine X_ruI (Ru_S (st := []) cs_X12_61 (c_X12_in G M ((Int32.toInt64 v2) + (Int32.toInt64 v6)) 0 (Int32.toInt64 ((gi M 106 (ui v1)) - 1))) (by decide) rfl rfl (Nat.le_of_ble_eq_true rfl) dX12_wouldBe_53) rfl (fun r53 => ?_)
        refine X_jc (P := fun j => ∀ (v5 : Int32) (M : Mm), X fJ G miX12_wouldBe (7) 132 [(0, .ref (ga G 94)), (1, .int v1), (2, .int v2), (3, .int v3), (5, .int v5), (6, .int v6)] [] M (j v5 M)) (fun v5 M => ?_) (fun j132 hj132 => ?_)
        · refine X_iinc (a := 5) (lv2 := [(6, .int (v6 + 1)), (0, .ref (ga G 94)), (1, .int v1), (2, .int v2), (3, .int v3), (5, .int v5)]) dX12_wouldBe_132 rfl (ii_1 _) (by decide) rfl rfl ?_
          refine X_goto (tgt := 26) dX12_wouldBe_135 rfl ?_
          exact X_lv [1, 2, 3, 4, 5, 0] rfl (ih M v5 (v6 + 1))
        refine X_if_ne (tgt := 66) dX12_wouldBe_56 rfl rfl (fun e56 => ?_) (fun e56 => ?_)
        · refine X_aload_n (a := 0) dX12_wouldBe_66 rfl rfl rfl ?_
          refine X_getR (t := 107) fl_X12_46 rfl rfl dX12_wouldBe_67 rfl ?_
          refine X_bipush (w := 40) dX12_wouldBe_70 kb_40 rfl ?_
          refine X_iload_n (a := 1) dX12_wouldBe_72 rfl rfl rfl ?_
          refine X_imul dX12_wouldBe_73 rfl ?_
          refine X_iload_n (a := 2) dX12_wouldBe_74 rfl rfl rfl ?_
          refine X_iadd dX12_wouldBe_75 rfl ?_
          refine X_iload (a := 5) dX12_wouldBe_76 rfl rfl ?_
          refine X_iadd dX12_wouldBe_78 rfl ?_
          refine X_iald rfl rfl dX12_wouldBe_79 rfl ?_
          refine X_i2l dX12_wouldBe_80 rfl rfl ?_
          refine X_lconst (w := 0) dX12_wouldBe_81 kl_0 rfl ?_
          refine X_aload_n (a := 0) dX12_wouldBe_82 rfl rfl rfl ?_
          refine X_getR (t := 95) fl_X12_7 rfl rfl dX12_wouldBe_83 rfl ?_
          refine X_iconst (w := 0) dX12_wouldBe_86 ki_0 rfl ?_
          refine X_iald rfl rfl dX12_wouldBe_87 rfl ?_
          refine X_i2l dX12_wouldBe_88 rfl rfl ?_
          refine X_ruI (Ru_S (st := []) cs_X12_61 (c_X12_in G M (Int32.toInt64 (gi M 107 (ui (((40 * v1) + v2) + v6)))) 0 (Int32.toInt64 (gi M 95 (ui 0)))) (by decide) rfl rfl (Nat.le_of_ble_eq_true rfl) dX12_wouldBe_89) rfl (fun r89 => ?_)
          refine X_jc (P := fun j => X fJ G miX12_wouldBe (7) 102 [(0, .ref (ga G 94)), (1, .int v1), (2, .int v2), (3, .int v3), (6, .int v6)] [] M (j)) (?_) (fun j102 hj102 => ?_)
          · refine X_bipush (w := (-4)) dX12_wouldBe_102 kb_m4 rfl ?_
            refine X_istore (lv2 := [(5, .int (-4)), (0, .ref (ga G 94)), (1, .int v1), (2, .int v2), (3, .int v3), (6, .int v6)]) dX12_wouldBe_104 (by decide) rfl rfl ?_
            refine X_goto (tgt := 132) dX12_wouldBe_106 rfl ?_
            exact X_lv [1, 2, 3, 4, 0, 5] rfl (hj132 (-4) M)
          refine X_if_eq (tgt := 102) dX12_wouldBe_92 rfl rfl (fun e92 => ?_) (fun e92 => ?_)
          · exact X_lv [0, 1, 2, 3, 5] rfl (hj102)
          · refine X_aload_n (a := 0) dX12_wouldBe_95 rfl rfl rfl ?_
            refine X_ruI (Ru_V (st := []) cv_X12_137 rfl (c_X12_isOver G M) (by decide) rfl rfl (Nat.le_of_ble_eq_true rfl) dX12_wouldBe_96) rfl (fun r96 => ?_)
            refine X_if_eq (tgt := 109) dX12_wouldBe_99 rfl rfl (fun e99 => ?_) (fun e99 => ?_)
            · refine X_iload (a := 4) dX12_wouldBe_109 rfl rfl ?_
              refine X_aload_n (a := 0) dX12_wouldBe_111 rfl rfl rfl ?_
              refine X_aload_n (a := 0) dX12_wouldBe_112 rfl rfl rfl ?_
              refine X_getR (t := 107) fl_X12_46 rfl rfl dX12_wouldBe_113 rfl ?_
              refine X_bipush (w := 40) dX12_wouldBe_116 kb_40 rfl ?_
              refine X_iload_n (a := 1) dX12_wouldBe_118 rfl rfl rfl ?_
              refine X_imul dX12_wouldBe_119 rfl ?_
              refine X_iload_n (a := 2) dX12_wouldBe_120 rfl rfl rfl ?_
              refine X_iadd dX12_wouldBe_121 rfl ?_
              refine X_iload (a := 5) dX12_wouldBe_122 rfl rfl ?_
              refine X_iadd dX12_wouldBe_124 rfl ?_
              refine X_iald rfl rfl dX12_wouldBe_125 rfl ?_
              refine X_ruJ (Ru_V (st := [.int v5]) cv_X12_144 rfl (c_X12_tideGoes G M (gi M 107 (ui (((40 * v1) + v2) + v6)))) (by decide) rfl rfl (Nat.le_of_ble_eq_true rfl) dX12_wouldBe_126) rfl (fun r126 => ?_)
              refine X_iadd dX12_wouldBe_129 rfl ?_
              refine X_istore (lv2 := [(5, .int (v5 + r126.1)), (0, .ref (ga G 94)), (1, .int v1), (2, .int v2), (3, .int v3), (6, .int v6)]) dX12_wouldBe_130 (by decide) rfl rfl ?_
              exact X_lv [1, 2, 3, 4, 0, 5] rfl (hj132 (v5 + r126.1) r126.2)
            · exact X_lv [0, 1, 2, 3, 5] rfl (hj102)
        · refine X_bipush (w := (-12)) dX12_wouldBe_59 kb_m12 rfl ?_
          refine X_istore (lv2 := [(5, .int (-12)), (0, .ref (ga G 94)), (1, .int v1), (2, .int v2), (3, .int v3), (6, .int v6)]) dX12_wouldBe_61 (by decide) rfl rfl ?_
          refine X_goto (tgt := 132) dX12_wouldBe_63 rfl ?_
          exact X_lv [1, 2, 3, 4, 0, 5] rfl (hj132 (-12) M)
set_option maxRecDepth 100000 in
theorem c_X12_wouldBe (G : Gm) (M : Mm) (v1 : Int32) (v2 : Int32) (v3 : Int32) : Ct fJ G miX12_wouldBe (7) [.ref (ga G 94), .int v1, .int v2, .int v3] M (F_X12_wouldBe M v1 v2 v3) := by
  refine Ct_of (pn_X12) (Nat.le_of_ble_eq_true rfl) ?_
  refine X_lv [0, 1, 2, 3] (lv' := [(0, .ref (ga G 94)), (1, .int v1), (2, .int v2), (3, .int v3)]) rfl ?_
  unfold F_X12_wouldBe
  refine X_aload_n (a := 0) dX12_wouldBe_0 rfl rfl rfl ?_
  refine X_iload_n (a := 1) dX12_wouldBe_1 rfl rfl rfl ?_
  refine X_iload_n (a := 3) dX12_wouldBe_2 rfl rfl rfl ?_
  refine X_ruI (Ru_V (st := []) cv_X12_392 rfl (c_X12_whyNoBytes G M v1 v3) (by decide) rfl rfl (Nat.le_of_ble_eq_true rfl) dX12_wouldBe_3) rfl (fun r3 => ?_)
  refine X_istore (lv2 := [(4, .int r3), (0, .ref (ga G 94)), (1, .int v1), (2, .int v2), (3, .int v3)]) dX12_wouldBe_6 (by decide) rfl rfl ?_
  refine X_iload (a := 0) dX12_wouldBe_8 rfl rfl ?_
  refine X_if_ge (tgt := 16) dX12_wouldBe_10 rfl rfl (fun e10 => ?_) (fun e10 => ?_)
  · refine X_iconst (w := 0) dX12_wouldBe_16 ki_0 rfl ?_
    refine X_istore (lv2 := [(5, .int 0), (4, .int r3), (0, .ref (ga G 94)), (1, .int v1), (2, .int v2), (3, .int v3)]) dX12_wouldBe_17 (by decide) rfl rfl ?_
    refine X_aload_n (a := 2) dX12_wouldBe_19 rfl rfl rfl ?_
    refine X_ruV (Ru_V (st := []) cv_X12_297 rfl (c_X12_puts G M) (by decide) rfl rfl (Nat.le_of_ble_eq_true rfl) dX12_wouldBe_20) rfl (fun r20 => ?_)
    refine X_iconst (w := 0) dX12_wouldBe_23 ki_0 rfl ?_
    refine X_istore (lv2 := [(6, .int 0), (5, .int 0), (4, .int r3), (0, .ref (ga G 94)), (1, .int v1), (2, .int v2), (3, .int v3)]) dX12_wouldBe_24 (by decide) rfl rfl ?_
    exact X_lv [3, 4, 5, 6, 1, 0] rfl (x_X12_wouldBe_L26 G v1 v2 v3 1000 r20 0 0)
  · refine X_iload (a := 0) dX12_wouldBe_13 rfl rfl ?_
    exact X_iretJ rfl dX12_wouldBe_15
set_option maxRecDepth 100000 in
theorem c_X12_shelf (G : Gm) (M : Mm) (v1 : Int32) (v2 : Int32) (v3 : Int32) : Ct fJ G miX12_shelf (2) [.ref (ga G 94), .int v1, .int v2, .int v3] M (F_X12_shelf M v1 v2 v3) := by
  refine Ct_of (pn_X12) (Nat.le_of_ble_eq_true rfl) ?_
  refine X_lv [0, 1, 2, 3] (lv' := [(0, .ref (ga G 94)), (1, .int v1), (2, .int v2), (3, .int v3)]) rfl ?_
  unfold F_X12_shelf
  refine X_iload_n (a := 2) dX12_shelf_0 rfl rfl rfl ?_
  refine X_jc (P := fun j => ∀ (x34_0 : Int32), X fJ G miX12_shelf (2) 34 [(0, .ref (ga G 94)), (1, .int v1), (2, .int v2), (3, .int v3)] [.int x34_0] M (j x34_0)) (fun x34_0 => ?_) (fun j34 hj34 => ?_)
  · refine X_istore (lv2 := [(4, .int x34_0), (0, .ref (ga G 94)), (1, .int v1), (2, .int v2), (3, .int v3)]) dX12_shelf_34 (by decide) rfl rfl ?_
    refine X_iload_n (a := 2) dX12_shelf_36 rfl rfl rfl ?_
    refine X_i2l dX12_shelf_37 rfl rfl ?_
    refine X_lconst (w := 0) dX12_shelf_38 kl_0 rfl ?_
    refine X_ldc2 (w := 3) dX12_shelf_39 t_1612 rfl ?_
    refine X_ruI (Ru_S (st := []) cs_X12_61 (c_X12_in G M (Int32.toInt64 v1) 0 3) (by decide) rfl rfl (Nat.le_of_ble_eq_true rfl) dX12_shelf_42) rfl (fun r42 => ?_)
    refine X_if_eq (tgt := 53) dX12_shelf_45 rfl rfl (fun e45 => ?_) (fun e45 => ?_)
    · refine X_iconst (w := (-1)) dX12_shelf_53 ki_m1 rfl ?_
      exact X_iretJ rfl dX12_shelf_54
    · refine X_iload (a := 0) dX12_shelf_48 rfl rfl ?_
      refine X_if_ne (tgt := 55) dX12_shelf_50 rfl rfl (fun e50 => ?_) (fun e50 => ?_)
      · refine X_iload_n (a := 3) dX12_shelf_55 rfl rfl rfl ?_
        refine X_iconst (w := 1) dX12_shelf_56 ki_1 rfl ?_
        refine X_jc (P := fun j => ∀ (x74_0 : Int32), X fJ G miX12_shelf (2) 74 [(0, .ref (ga G 94)), (1, .int v1), (2, .int v2), (3, .int v3)] [.int x74_0] M (j x74_0)) (fun x74_0 => ?_) (fun j74 hj74 => ?_)
        · refine X_istore (lv2 := [(5, .int x74_0), (0, .ref (ga G 94)), (1, .int v1), (2, .int v2), (3, .int v3)]) dX12_shelf_74 (by decide) rfl rfl ?_
          refine X_aload_n (a := 1) dX12_shelf_76 rfl rfl rfl ?_
          refine X_getR (t := 108) fl_X12_49 rfl rfl dX12_shelf_77 rfl ?_
          refine X_iload_n (a := 2) dX12_shelf_80 rfl rfl rfl ?_
          refine X_iload_n (a := 3) dX12_shelf_81 rfl rfl rfl ?_
          refine X_jc (P := fun j => ∀ (x99_0 : Int32), X fJ G miX12_shelf (2) 99 [(0, .ref (ga G 94)), (1, .int v1), (2, .int v2), (3, .int v3), (5, .int x74_0)] [.int x99_0, .int v1, .ref (ga G 108)] M (j x99_0)) (fun x99_0 => ?_) (fun j99 hj99 => ?_)
          · refine X_iast rfl rfl dX12_shelf_99 rfl ?_
            refine X_aload_n (a := 0) dX12_shelf_100 rfl rfl rfl ?_
            refine X_getR (t := 109) fl_X12_52 rfl rfl dX12_shelf_101 rfl ?_
            refine X_iload_n (a := 1) dX12_shelf_104 rfl rfl rfl ?_
            refine X_iload_n (a := 2) dX12_shelf_105 rfl rfl rfl ?_
            refine X_jc (P := fun j => ∀ (x130_0 : Int32), X fJ G miX12_shelf (2) 130 [(0, .ref (ga G 94)), (1, .int v1), (3, .int v3), (5, .int x74_0)] [.int x130_0, .int v1, .ref (ga G 109)] (si M 108 (ui v1) x99_0) (j x130_0)) (fun x130_0 => ?_) (fun j130 hj130 => ?_)
            · refine X_iast rfl rfl dX12_shelf_130 rfl ?_
              refine X_aload_n (a := 0) dX12_shelf_131 rfl rfl rfl ?_
              refine X_getR (t := 110) fl_X12_55 rfl rfl dX12_shelf_132 rfl ?_
              refine X_iload_n (a := 1) dX12_shelf_135 rfl rfl rfl ?_
              refine X_iload (a := 3) dX12_shelf_136 rfl rfl ?_
              refine X_if_eq (tgt := 150) dX12_shelf_138 rfl rfl (fun e138 => ?_) (fun e138 => ?_)
              · refine X_iconst (w := 0) dX12_shelf_150 ki_0 rfl ?_
                refine X_iast rfl rfl dX12_shelf_151 rfl ?_
                refine X_iconst (w := 1) dX12_shelf_152 ki_1 rfl ?_
                exact X_iretJ rfl dX12_shelf_153
              · refine X_aload_n (a := 0) dX12_shelf_141 rfl rfl rfl ?_
                refine X_getR (t := 106) fl_X12_43 rfl rfl dX12_shelf_142 rfl ?_
                refine X_iload_n (a := 2) dX12_shelf_145 rfl rfl rfl ?_
                refine X_iald rfl rfl dX12_shelf_146 rfl ?_
                refine X_goto (tgt := 151) dX12_shelf_147 rfl ?_
                refine X_iast rfl rfl dX12_shelf_151 rfl ?_
                refine X_iconst (w := 1) dX12_shelf_152 ki_1 rfl ?_
                exact X_iretJ rfl dX12_shelf_153
            refine X_if_ne (tgt := 113) dX12_shelf_106 rfl rfl (fun e106 => ?_) (fun e106 => ?_)
            · refine X_iload (a := 4) dX12_shelf_113 rfl rfl ?_
              refine X_if_eq (tgt := 129) dX12_shelf_115 rfl rfl (fun e115 => ?_) (fun e115 => ?_)
              · refine X_iconst (w := 0) dX12_shelf_129 ki_0 rfl ?_
                exact X_lv [0, 1, 3, 4] rfl (hj130 0)
              · refine X_aload_n (a := 0) dX12_shelf_118 rfl rfl rfl ?_
                refine X_getR (t := 105) fl_X12_40 rfl rfl dX12_shelf_119 rfl ?_
                refine X_iload_n (a := 3) dX12_shelf_122 rfl rfl rfl ?_
                refine X_iald rfl rfl dX12_shelf_123 rfl ?_
                refine X_iconst (w := 1) dX12_shelf_124 ki_1 rfl ?_
                refine X_isub dX12_shelf_125 rfl ?_
                refine X_goto (tgt := 130) dX12_shelf_126 rfl ?_
                exact X_lv [0, 1, 3, 4] rfl (hj130 ((gi (si M 108 (ui v1) x99_0) 105 (ui v3)) - 1))
            · refine X_iload_n (a := 3) dX12_shelf_109 rfl rfl rfl ?_
              refine X_goto (tgt := 130) dX12_shelf_110 rfl ?_
              exact X_lv [0, 1, 3, 4] rfl (hj130 v3)
          refine X_if_ne (tgt := 89) dX12_shelf_82 rfl rfl (fun e82 => ?_) (fun e82 => ?_)
          · refine X_iload (a := 0) dX12_shelf_89 rfl rfl ?_
            refine X_if_eq (tgt := 98) dX12_shelf_91 rfl rfl (fun e91 => ?_) (fun e91 => ?_)
            · refine X_iconst (w := 0) dX12_shelf_98 ki_0 rfl ?_
              exact X_lv [1, 2, 3, 4, 0] rfl (hj99 0)
            · refine X_iconst (w := 2) dX12_shelf_94 ki_2 rfl ?_
              refine X_goto (tgt := 99) dX12_shelf_95 rfl ?_
              exact X_lv [1, 2, 3, 4, 0] rfl (hj99 2)
          · refine X_iconst (w := 1) dX12_shelf_85 ki_1 rfl ?_
            refine X_goto (tgt := 99) dX12_shelf_86 rfl ?_
            exact X_lv [1, 2, 3, 4, 0] rfl (hj99 1)
        refine X_jc (P := fun j => X fJ G miX12_shelf (2) 73 [(0, .ref (ga G 94)), (1, .int v1), (2, .int v2), (3, .int v3)] [] M (j)) (?_) (fun j73 hj73 => ?_)
        · refine X_iconst (w := 0) dX12_shelf_73 ki_0 rfl ?_
          exact X_lv [0, 1, 2, 3] rfl (hj74 0)
        refine X_icmp_ne (tgt := 73) dX12_shelf_57 rfl rfl (fun e57 => ?_) (fun e57 => ?_)
        · exact X_lv [1, 2, 3, 4] rfl (hj73)
        · refine X_aload_n (a := 1) dX12_shelf_60 rfl rfl rfl ?_
          refine X_getR (t := 105) fl_X12_40 rfl rfl dX12_shelf_61 rfl ?_
          refine X_iload_n (a := 4) dX12_shelf_64 rfl rfl rfl ?_
          refine X_iald rfl rfl dX12_shelf_65 rfl ?_
          refine X_if_le (tgt := 73) dX12_shelf_66 rfl rfl (fun e66 => ?_) (fun e66 => ?_)
          · exact X_lv [1, 2, 3, 4] rfl (hj73)
          · refine X_iconst (w := 1) dX12_shelf_69 ki_1 rfl ?_
            refine X_goto (tgt := 74) dX12_shelf_70 rfl ?_
            exact X_lv [1, 2, 3, 4] rfl (hj74 1)
      · refine X_iconst (w := (-1)) dX12_shelf_53 ki_m1 rfl ?_
        exact X_iretJ rfl dX12_shelf_54
  refine X_if_ne (tgt := 12) dX12_shelf_1 rfl rfl (fun e1 => ?_) (fun e1 => ?_)
  · refine X_iload_n (a := 2) dX12_shelf_12 rfl rfl rfl ?_
    refine X_iconst (w := 1) dX12_shelf_13 ki_1 rfl ?_
    refine X_icmp_ne (tgt := 24) dX12_shelf_14 rfl rfl (fun e14 => ?_) (fun e14 => ?_)
    · refine X_iload_n (a := 2) dX12_shelf_24 rfl rfl rfl ?_
      refine X_iconst (w := 2) dX12_shelf_25 ki_2 rfl ?_
      refine X_icmp_ne (tgt := 33) dX12_shelf_26 rfl rfl (fun e26 => ?_) (fun e26 => ?_)
      · refine X_iconst (w := 0) dX12_shelf_33 ki_0 rfl ?_
        exact X_lv [0, 1, 2, 3] rfl (hj34 0)
      · refine X_iconst (w := 1) dX12_shelf_29 ki_1 rfl ?_
        refine X_goto (tgt := 34) dX12_shelf_30 rfl ?_
        exact X_lv [0, 1, 2, 3] rfl (hj34 1)
    · refine X_iload_n (a := 3) dX12_shelf_17 rfl rfl rfl ?_
      refine X_ruI (Ru_S (st := []) cs_X12_387 (c_X12_isSheet G M v3) (by decide) rfl rfl (Nat.le_of_ble_eq_true rfl) dX12_shelf_18) rfl (fun r18 => ?_)
      refine X_goto (tgt := 34) dX12_shelf_21 rfl ?_
      exact X_lv [0, 1, 2, 3] rfl (hj34 r18)
  · refine X_aload_n (a := 0) dX12_shelf_4 rfl rfl rfl ?_
    refine X_iload_n (a := 3) dX12_shelf_5 rfl rfl rfl ?_
    refine X_ruI (Ru_V (st := []) cv_X12_153 rfl (c_X12_isBarrel G M v3) (by decide) rfl rfl (Nat.le_of_ble_eq_true rfl) dX12_shelf_6) rfl (fun r6 => ?_)
    refine X_goto (tgt := 34) dX12_shelf_9 rfl ?_
    exact X_lv [0, 1, 2, 3] rfl (hj34 r6)
set_option maxRecDepth 100000 in
theorem c_X12_holdsNothing (G : Gm) (M : Mm) (v1 : Int32) : Ct (fI M) G miX12_holdsNothing (2) [.ref (ga G 94), .int v1] M (F_X12_holdsNothing M v1) := by
  refine Ct_of (pn_X12) (Nat.le_of_ble_eq_true rfl) ?_
  refine X_lv [0, 1] (lv' := [(0, .ref (ga G 94)), (1, .int v1)]) rfl ?_
  unfold F_X12_holdsNothing
  refine X_aload_n (a := 0) dX12_holdsNothing_0 rfl rfl rfl ?_
  refine X_getR (t := 108) fl_X12_49 rfl rfl dX12_holdsNothing_1 rfl ?_
  refine X_iload_n (a := 1) dX12_holdsNothing_4 rfl rfl rfl ?_
  refine X_iald rfl rfl dX12_holdsNothing_5 rfl ?_
  refine X_if_eq (tgt := 32) dX12_holdsNothing_6 rfl rfl (fun e6 => ?_) (fun e6 => ?_)
  · refine X_iconst (w := 1) dX12_holdsNothing_32 ki_1 rfl ?_
    refine X_goto (tgt := 37) dX12_holdsNothing_33 rfl ?_
    exact X_zretI rfl dX12_holdsNothing_37
  · refine X_aload_n (a := 0) dX12_holdsNothing_9 rfl rfl rfl ?_
    refine X_getR (t := 108) fl_X12_49 rfl rfl dX12_holdsNothing_10 rfl ?_
    refine X_iload_n (a := 1) dX12_holdsNothing_13 rfl rfl rfl ?_
    refine X_iald rfl rfl dX12_holdsNothing_14 rfl ?_
    refine X_iconst (w := 1) dX12_holdsNothing_15 ki_1 rfl ?_
    refine X_icmp_ne (tgt := 36) dX12_holdsNothing_16 rfl rfl (fun e16 => ?_) (fun e16 => ?_)
    · refine X_iconst (w := 0) dX12_holdsNothing_36 ki_0 rfl ?_
      exact X_zretI rfl dX12_holdsNothing_37
    · refine X_aload_n (a := 0) dX12_holdsNothing_19 rfl rfl rfl ?_
      refine X_aload_n (a := 0) dX12_holdsNothing_20 rfl rfl rfl ?_
      refine X_getR (t := 109) fl_X12_52 rfl rfl dX12_holdsNothing_21 rfl ?_
      refine X_iload_n (a := 1) dX12_holdsNothing_24 rfl rfl rfl ?_
      refine X_iald rfl rfl dX12_holdsNothing_25 rfl ?_
      refine X_ruI (Ru_V (st := []) cv_X12_153 rfl (c_X12_isBarrel G M (gi M 109 (ui v1))) (by decide) rfl rfl (Nat.le_of_ble_eq_true rfl) dX12_holdsNothing_26) rfl (fun r26 => ?_)
      refine X_if_ne (tgt := 36) dX12_holdsNothing_29 rfl rfl (fun e29 => ?_) (fun e29 => ?_)
      · refine X_iconst (w := 0) dX12_holdsNothing_36 ki_0 rfl ?_
        exact X_zretI rfl dX12_holdsNothing_37
      · refine X_iconst (w := 1) dX12_holdsNothing_32 ki_1 rfl ?_
        refine X_goto (tgt := 37) dX12_holdsNothing_33 rfl ?_
        exact X_zretI rfl dX12_holdsNothing_37
set_option maxRecDepth 100000 in
theorem c_X12_taken (G : Gm) (M : Mm) (v1 : Int32) (v2 : Int32) : Ct (fI M) G miX12_taken (3) [.ref (ga G 94), .int v1, .int v2] M (F_X12_taken M v1 v2) := by
  refine Ct_of (pn_X12) (Nat.le_of_ble_eq_true rfl) ?_
  refine X_lv [0, 1, 2] (lv' := [(0, .ref (ga G 94)), (1, .int v1), (2, .int v2)]) rfl ?_
  unfold F_X12_taken
  refine X_iload_n (a := 1) dX12_taken_0 rfl rfl rfl ?_
  refine X_i2l dX12_taken_1 rfl rfl ?_
  refine X_lconst (w := 0) dX12_taken_2 kl_0 rfl ?_
  refine X_ldc2 (w := 3) dX12_taken_3 t_1612 rfl ?_
  refine X_ruI (Ru_S (st := []) cs_X12_61 (c_X12_in G M (Int32.toInt64 v1) 0 3) (by decide) rfl rfl (Nat.le_of_ble_eq_true rfl) dX12_taken_6) rfl (fun r6 => ?_)
  refine X_if_eq (tgt := 38) dX12_taken_9 rfl rfl (fun e9 => ?_) (fun e9 => ?_)
  · refine X_iconst (w := (-1)) dX12_taken_38 ki_m1 rfl ?_
    exact X_iretI rfl dX12_taken_39
  · refine X_iload_n (a := 2) dX12_taken_12 rfl rfl rfl ?_
    refine X_i2l dX12_taken_13 rfl rfl ?_
    refine X_lconst (w := 0) dX12_taken_14 kl_0 rfl ?_
    refine X_ldc2 (w := 5) dX12_taken_15 t_1287 rfl ?_
    refine X_ruI (Ru_S (st := []) cs_X12_61 (c_X12_in G M (Int32.toInt64 v2) 0 5) (by decide) rfl rfl (Nat.le_of_ble_eq_true rfl) dX12_taken_18) rfl (fun r18 => ?_)
    refine X_jc (P := fun j => X (fI M) G miX12_taken (3) 40 [(0, .ref (ga G 94)), (1, .int v1), (2, .int v2)] [] M (j)) (?_) (fun j40 hj40 => ?_)
    · refine X_aload_n (a := 0) dX12_taken_40 rfl rfl rfl ?_
      refine X_iload_n (a := 1) dX12_taken_41 rfl rfl rfl ?_
      refine X_ruI (Ru_V (st := []) cv_X12_397 rfl (c_X12_holdsNothing G M v1) (by decide) rfl rfl (Nat.le_of_ble_eq_true rfl) dX12_taken_42) rfl (fun r42 => ?_)
      refine X_if_eq (tgt := 51) dX12_taken_45 rfl rfl (fun e45 => ?_) (fun e45 => ?_)
      · refine X_aload_n (a := 0) dX12_taken_51 rfl rfl rfl ?_
        refine X_getR (t := 108) fl_X12_49 rfl rfl dX12_taken_52 rfl ?_
        refine X_iload_n (a := 1) dX12_taken_55 rfl rfl rfl ?_
        refine X_iald rfl rfl dX12_taken_56 rfl ?_
        refine X_iconst (w := 2) dX12_taken_57 ki_2 rfl ?_
        refine X_icmp_ne (tgt := 86) dX12_taken_58 rfl rfl (fun e58 => ?_) (fun e58 => ?_)
        · refine X_aload_n (a := 0) dX12_taken_86 rfl rfl rfl ?_
          refine X_aload_n (a := 0) dX12_taken_87 rfl rfl rfl ?_
          refine X_getR (t := 109) fl_X12_52 rfl rfl dX12_taken_88 rfl ?_
          refine X_iload_n (a := 1) dX12_taken_91 rfl rfl rfl ?_
          refine X_iald rfl rfl dX12_taken_92 rfl ?_
          refine X_iconst (w := 0) dX12_taken_93 ki_0 rfl ?_
          refine X_ruI (Ru_V (st := []) cv_X12_80 rfl (c_X12_of G M (gi M 109 (ui v1)) 0) (by decide) rfl rfl (Nat.le_of_ble_eq_true rfl) dX12_taken_94) rfl (fun r94 => ?_)
          refine X_istore_n (lv2 := [(3, .int r94), (0, .ref (ga G 94)), (1, .int v1), (2, .int v2)]) dX12_taken_97 rfl (by decide) rfl rfl ?_
          refine X_iload_n (a := 3) dX12_taken_98 rfl rfl rfl ?_
          refine X_bipush (w := 10) dX12_taken_99 kb_10 rfl ?_
          refine X_icmp_ge (tgt := 130) dX12_taken_101 rfl rfl (fun e101 => ?_) (fun e101 => ?_)
          · refine X_bipush (w := (-13)) dX12_taken_130 kb_m13 rfl ?_
            exact X_iretI rfl dX12_taken_132
          · refine X_iload_n (a := 3) dX12_taken_104 rfl rfl rfl ?_
            refine X_if_eq (tgt := 121) dX12_taken_105 rfl rfl (fun e105 => ?_) (fun e105 => ?_)
            · refine X_aload_n (a := 1) dX12_taken_121 rfl rfl rfl ?_
              refine X_getR (t := 109) fl_X12_52 rfl rfl dX12_taken_122 rfl ?_
              refine X_iload_n (a := 2) dX12_taken_125 rfl rfl rfl ?_
              refine X_iald rfl rfl dX12_taken_126 rfl ?_
              refine X_goto (tgt := 132) dX12_taken_127 rfl ?_
              exact X_iretI rfl dX12_taken_132
            · refine X_iload_n (a := 0) dX12_taken_108 rfl rfl rfl ?_
              refine X_iload_n (a := 3) dX12_taken_109 rfl rfl rfl ?_
              refine X_icmp_eq (tgt := 121) dX12_taken_110 rfl rfl (fun e110 => ?_) (fun e110 => ?_)
              · refine X_aload_n (a := 1) dX12_taken_121 rfl rfl rfl ?_
                refine X_getR (t := 109) fl_X12_52 rfl rfl dX12_taken_122 rfl ?_
                refine X_iload_n (a := 2) dX12_taken_125 rfl rfl rfl ?_
                refine X_iald rfl rfl dX12_taken_126 rfl ?_
                refine X_goto (tgt := 132) dX12_taken_127 rfl ?_
                exact X_iretI rfl dX12_taken_132
              · refine X_iload_n (a := 0) dX12_taken_113 rfl rfl rfl ?_
                refine X_ruI (Ru_S (st := []) cs_X12_110 (c_X12_above G M r94) (by decide) rfl rfl (Nat.le_of_ble_eq_true rfl) dX12_taken_114) rfl (fun r114 => ?_)
                refine X_iload_n (a := 3) dX12_taken_117 rfl rfl rfl ?_
                refine X_icmp_ne (tgt := 130) dX12_taken_118 rfl rfl (fun e118 => ?_) (fun e118 => ?_)
                · refine X_bipush (w := (-13)) dX12_taken_130 kb_m13 rfl ?_
                  exact X_iretI rfl dX12_taken_132
                · refine X_aload_n (a := 1) dX12_taken_121 rfl rfl rfl ?_
                  refine X_getR (t := 109) fl_X12_52 rfl rfl dX12_taken_122 rfl ?_
                  refine X_iload_n (a := 2) dX12_taken_125 rfl rfl rfl ?_
                  refine X_iald rfl rfl dX12_taken_126 rfl ?_
                  refine X_goto (tgt := 132) dX12_taken_127 rfl ?_
                  exact X_iretI rfl dX12_taken_132
        · refine X_aload_n (a := 0) dX12_taken_61 rfl rfl rfl ?_
          refine X_getR (t := 109) fl_X12_52 rfl rfl dX12_taken_62 rfl ?_
          refine X_iload_n (a := 1) dX12_taken_65 rfl rfl rfl ?_
          refine X_iald rfl rfl dX12_taken_66 rfl ?_
          refine X_iload_n (a := 2) dX12_taken_67 rfl rfl rfl ?_
          refine X_bipush (w := 10) dX12_taken_68 kb_10 rfl ?_
          refine X_isub dX12_taken_70 rfl ?_
          refine X_icmp_ne (tgt := 83) dX12_taken_71 rfl rfl (fun e71 => ?_) (fun e71 => ?_)
          · refine X_bipush (w := (-13)) dX12_taken_83 kb_m13 rfl ?_
            exact X_iretI rfl dX12_taken_85
          · refine X_aload_n (a := 0) dX12_taken_74 rfl rfl rfl ?_
            refine X_getR (t := 110) fl_X12_55 rfl rfl dX12_taken_75 rfl ?_
            refine X_iload_n (a := 1) dX12_taken_78 rfl rfl rfl ?_
            refine X_iald rfl rfl dX12_taken_79 rfl ?_
            refine X_goto (tgt := 85) dX12_taken_80 rfl ?_
            exact X_iretI rfl dX12_taken_85
      · refine X_bipush (w := (-11)) dX12_taken_48 kb_m11 rfl ?_
        exact X_iretI rfl dX12_taken_50
    refine X_if_ne (tgt := 40) dX12_taken_21 rfl rfl (fun e21 => ?_) (fun e21 => ?_)
    · exact X_lv [0, 1, 2] rfl (hj40)
    · refine X_iload_n (a := 2) dX12_taken_24 rfl rfl rfl ?_
      refine X_i2l dX12_taken_25 rfl rfl ?_
      refine X_ldc2 (w := 10) dX12_taken_26 t_1439 rfl ?_
      refine X_ldc2 (w := 14) dX12_taken_29 t_1742 rfl ?_
      refine X_ruI (Ru_S (st := []) cs_X12_61 (c_X12_in G M (Int32.toInt64 v2) 10 14) (by decide) rfl rfl (Nat.le_of_ble_eq_true rfl) dX12_taken_32) rfl (fun r32 => ?_)
      refine X_if_ne (tgt := 40) dX12_taken_35 rfl rfl (fun e35 => ?_) (fun e35 => ?_)
      · exact X_lv [0, 1, 2] rfl (hj40)
      · refine X_iconst (w := (-1)) dX12_taken_38 ki_m1 rfl ?_
        exact X_iretI rfl dX12_taken_39
set_option maxRecDepth 100000 in
theorem c_X12_ran (G : Gm) (M : Mm) (v1 : Int32) : Ct fV G miX12_ran (0) [.ref (ga G 94), .int v1] M (F_X12_ran M v1) := by
  refine Ct_of (pn_X12) (Nat.le_of_ble_eq_true rfl) ?_
  refine X_lv [0, 1] (lv' := [(0, .ref (ga G 94)), (1, .int v1)]) rfl ?_
  unfold F_X12_ran
  refine X_aload_n (a := 0) dX12_ran_0 rfl rfl rfl ?_
  refine X_getI fl_X12_400 rfl dX12_ran_1 rfl ?_
  refine X_bipush (w := 30) dX12_ran_4 kb_30 rfl ?_
  refine X_icmp_ge (tgt := 36) dX12_ran_6 rfl rfl (fun e6 => ?_) (fun e6 => ?_)
  · exact X_vret rfl dX12_ran_36
  · refine X_aload_n (a := 0) dX12_ran_9 rfl rfl rfl ?_
    refine X_getI fl_X12_403 rfl dX12_ran_10 rfl ?_
    refine X_if_ne (tgt := 36) dX12_ran_13 rfl rfl (fun e13 => ?_) (fun e13 => ?_)
    · exact X_vret rfl dX12_ran_36
    · refine X_aload_n (a := 0) dX12_ran_16 rfl rfl rfl ?_
      refine X_getR (t := 111) fl_X12_58 rfl rfl dX12_ran_17 rfl ?_
      refine X_aload_n (a := 0) dX12_ran_20 rfl rfl rfl ?_
      refine X_getI fl_X12_400 rfl dX12_ran_21 rfl ?_
      refine X_iload_n (a := 1) dX12_ran_24 rfl rfl rfl ?_
      refine X_iast rfl rfl dX12_ran_25 rfl ?_
      refine X_aload_n (a := 0) dX12_ran_26 rfl rfl rfl ?_
      refine X_dup dX12_ran_27 rfl rfl ?_
      refine X_getI fl_X12_400 rfl dX12_ran_28 rfl ?_
      refine X_iconst (w := 1) dX12_ran_31 ki_1 rfl ?_
      refine X_iadd dX12_ran_32 rfl ?_
      refine X_putI fp_X12_400 rfl dX12_ran_33 rfl ?_
      exact X_vret rfl dX12_ran_36
set_option maxRecDepth 100000 in
theorem c_X12_rollsBy_b (G : Gm) (dd : Nat) (rc : Mm → Int32 → Int32 → Option (Int32 × Mm)) (hrc : ∀ (M : Mm) (v1 : Int32) (v2 : Int32), Ct fJ G miX12_rollsBy dd [.ref (ga G 94), .int v1, .int v2] M (rc M v1 v2)) (M : Mm) (v1 : Int32) (v2 : Int32) : Ct fJ G miX12_rollsBy (dd + 1) [.ref (ga G 94), .int v1, .int v2] M (F_X12_rollsBy_b rc M v1 v2) := by
  refine Ct_of (pn_X12) (Nat.le_of_ble_eq_true rfl) ?_
  refine X_lv [0, 1, 2] (lv' := [(0, .ref (ga G 94)), (1, .int v1), (2, .int v2)]) rfl ?_
  unfold F_X12_rollsBy_b
  refine X_iload_n (a := 1) dX12_rollsBy_0 rfl rfl rfl ?_
  refine X_jc (P := fun j => X fJ G miX12_rollsBy (dd + 1) 81 [(0, .ref (ga G 94)), (1, .int v1), (2, .int v2)] [] M (j)) (?_) (fun j81 hj81 => ?_)
  · refine X_aload_n (a := 0) dX12_rollsBy_81 rfl rfl rfl ?_
    refine X_iload_n (a := 1) dX12_rollsBy_82 rfl rfl rfl ?_
    refine X_ruI (Ru_S (st := [.ref (ga G 94)]) cs_X12_110 (c_X12_above G M v1) (by omega) rfl rfl (Nat.le_of_ble_eq_true rfl) dX12_rollsBy_83) rfl (fun r83 => ?_)
    refine X_iload_n (a := 2) dX12_rollsBy_86 rfl rfl rfl ?_
    refine X_ruJ (Ru_V (st := []) cv_X12_412 rfl (hrc M r83 v2) (by omega) rfl rfl (Nat.le_of_ble_eq_true rfl) dX12_rollsBy_87) rfl (fun r87 => ?_)
    exact X_iretJ rfl dX12_rollsBy_90
  refine X_if (fun e1_0 => ?_) (fun e1_0 => ?_)
  · refine X_tsIn (tgt := 32) dX12_rollsBy_1 (by rw [e1_0]; decide) (by rw [e1_0]; decide) (by rw [e1_0]; rfl) rfl ?_
    refine X_aload_n (a := 0) dX12_rollsBy_32 rfl rfl rfl ?_
    refine X_bipush (w := 10) dX12_rollsBy_33 kb_10 rfl ?_
    refine X_ruV (Ru_V (st := []) cv_X12_406 rfl (c_X12_ran G M 10) (by omega) rfl rfl (Nat.le_of_ble_eq_true rfl) dX12_rollsBy_35) rfl (fun r35 => ?_)
    refine X_iload_n (a := 2) dX12_rollsBy_38 rfl rfl rfl ?_
    refine X_iconst (w := 2) dX12_rollsBy_39 ki_2 rfl ?_
    refine X_imul dX12_rollsBy_40 rfl ?_
    refine X_iconst (w := 3) dX12_rollsBy_41 ki_3 rfl ?_
    refine X_aload_n (a := 0) dX12_rollsBy_42 rfl rfl rfl ?_
    refine X_getI fl_X12_409 rfl dX12_rollsBy_43 rfl ?_
    refine X_imul dX12_rollsBy_46 rfl ?_
    refine X_iadd dX12_rollsBy_47 rfl ?_
    exact X_iretJ rfl dX12_rollsBy_48
  · skip
    refine X_if (fun e1_1 => ?_) (fun e1_1 => ?_)
    · refine X_tsIn (tgt := 49) dX12_rollsBy_1 (by rw [e1_1]; decide) (by rw [e1_1]; decide) (by rw [e1_1]; rfl) rfl ?_
      refine X_aload_n (a := 0) dX12_rollsBy_49 rfl rfl rfl ?_
      refine X_bipush (w := 20) dX12_rollsBy_50 kb_20 rfl ?_
      refine X_ruV (Ru_V (st := []) cv_X12_406 rfl (c_X12_ran G M 20) (by omega) rfl rfl (Nat.le_of_ble_eq_true rfl) dX12_rollsBy_52) rfl (fun r52 => ?_)
      refine X_aload_n (a := 0) dX12_rollsBy_55 rfl rfl rfl ?_
      refine X_iconst (w := 0) dX12_rollsBy_56 ki_0 rfl ?_
      refine X_iload_n (a := 2) dX12_rollsBy_57 rfl rfl rfl ?_
      refine X_ruJ (Ru_V (st := []) cv_X12_412 rfl (hrc r52 0 v2) (by omega) rfl rfl (Nat.le_of_ble_eq_true rfl) dX12_rollsBy_58) rfl (fun r58 => ?_)
      refine X_bipush (w := 16) dX12_rollsBy_61 kb_16 rfl ?_
      refine X_iadd dX12_rollsBy_63 rfl ?_
      exact X_iretJ rfl dX12_rollsBy_64
    · skip
      refine X_if (fun e1_2 => ?_) (fun e1_2 => ?_)
      · refine X_tsIn (tgt := 81) dX12_rollsBy_1 (by rw [e1_2]; decide) (by rw [e1_2]; decide) (by rw [e1_2]; rfl) rfl ?_
        exact X_lv [0, 1, 2] rfl (hj81)
      · skip
        refine X_if (fun e1_3 => ?_) (fun e1_3 => ?_)
        · refine X_tsIn (tgt := 65) dX12_rollsBy_1 (by rw [e1_3]; decide) (by rw [e1_3]; decide) (by rw [e1_3]; rfl) rfl ?_
          refine X_aload_n (a := 0) dX12_rollsBy_65 rfl rfl rfl ?_
          refine X_bipush (w := 50) dX12_rollsBy_66 kb_50 rfl ?_
          refine X_ruV (Ru_V (st := []) cv_X12_406 rfl (c_X12_ran G M 50) (by omega) rfl rfl (Nat.le_of_ble_eq_true rfl) dX12_rollsBy_68) rfl (fun r68 => ?_)
          refine X_aload_n (a := 0) dX12_rollsBy_71 rfl rfl rfl ?_
          refine X_iconst (w := 2) dX12_rollsBy_72 ki_2 rfl ?_
          refine X_iload_n (a := 2) dX12_rollsBy_73 rfl rfl rfl ?_
          refine X_bipush (w := 7) dX12_rollsBy_74 kb_7 rfl ?_
          refine X_isub dX12_rollsBy_76 rfl ?_
          refine X_ruJ (Ru_V (st := []) cv_X12_412 rfl (hrc r68 2 (v2 - 7)) (by omega) rfl rfl (Nat.le_of_ble_eq_true rfl) dX12_rollsBy_77) rfl (fun r77 => ?_)
          exact X_iretJ rfl dX12_rollsBy_80
        · skip
          refine X_tsOut (tgt := 81) dX12_rollsBy_1 (by have ne1_0 := ne_toInt e1_0 (n := 0) (by decide); have ne1_1 := ne_toInt e1_1 (n := 1) (by decide); have ne1_2 := ne_toInt e1_2 (n := 2) (by decide); have ne1_3 := ne_toInt e1_3 (n := 3) (by decide); omega) rfl ?_
          exact X_lv [0, 1, 2] rfl (hj81)
theorem c_X12_rollsBy (G : Gm) : ∀ (n : Nat) (M : Mm) (v1 : Int32) (v2 : Int32), Ct fJ G miX12_rollsBy (1 * n) [.ref (ga G 94), .int v1, .int v2] M (F_X12_rollsBy n M v1 v2) := by
  intro n
  induction n with
  | zero => intro M v1 v2; exact Ct_none
  | succ n ih =>
    intro M v1 v2
    exact c_X12_rollsBy_b G (1 * n) (F_X12_rollsBy n) ih M v1 v2
set_option maxRecDepth 100000 in
theorem c_X12_seepsBy_b (G : Gm) (dd : Nat) (rc : Mm → Int32 → Int32 → Option (Int32 × Mm)) (hrc : ∀ (M : Mm) (v1 : Int32) (v2 : Int32), Ct fJ G miX12_seepsBy dd [.ref (ga G 94), .int v1, .int v2] M (rc M v1 v2)) (M : Mm) (v1 : Int32) (v2 : Int32) : Ct fJ G miX12_seepsBy (dd + 9) [.ref (ga G 94), .int v1, .int v2] M (F_X12_seepsBy_b rc M v1 v2) := by
  refine Ct_of (pn_X12) (Nat.le_of_ble_eq_true rfl) ?_
  refine X_lv [0, 1, 2] (lv' := [(0, .ref (ga G 94)), (1, .int v1), (2, .int v2)]) rfl ?_
  unfold F_X12_seepsBy_b
  refine X_iload_n (a := 1) dX12_seepsBy_0 rfl rfl rfl ?_
  refine X_if (fun e1_0 => ?_) (fun e1_0 => ?_)
  · refine X_lsw (tgt := 36) dX12_seepsBy_1 (by decide) (by rw [e1_0] <;> rfl) rfl ?_
    refine X_aload_n (a := 0) dX12_seepsBy_36 rfl rfl rfl ?_
    refine X_bipush (w := 11) dX12_seepsBy_37 kb_11 rfl ?_
    refine X_ruV (Ru_V (st := []) cv_X12_406 rfl (c_X12_ran G M 11) (by omega) rfl rfl (Nat.le_of_ble_eq_true rfl) dX12_seepsBy_39) rfl (fun r39 => ?_)
    refine X_aload_n (a := 0) dX12_seepsBy_42 rfl rfl rfl ?_
    refine X_aload_n (a := 0) dX12_seepsBy_43 rfl rfl rfl ?_
    refine X_aload_n (a := 0) dX12_seepsBy_44 rfl rfl rfl ?_
    refine X_getI fl_X12_409 rfl dX12_seepsBy_45 rfl ?_
    refine X_iconst (w := 0) dX12_seepsBy_48 ki_0 rfl ?_
    refine X_ruI (Ru_V (st := [.ref (ga G 94)]) cv_X12_80 rfl (c_X12_of G r39 (gi r39 94 37) 0) (by omega) rfl rfl (Nat.le_of_ble_eq_true rfl) dX12_seepsBy_49) rfl (fun r49 => ?_)
    refine X_iload_n (a := 2) dX12_seepsBy_52 rfl rfl rfl ?_
    refine X_ruJ (Ru_V (st := []) cv_X12_412 rfl (c_X12_rollsBy G 8 r39 r49 v2) (by omega) rfl rfl (Nat.le_of_ble_eq_true rfl) dX12_seepsBy_53) rfl (fun r53 => ?_)
    refine X_iconst (w := 4) dX12_seepsBy_56 ki_4 rfl ?_
    refine X_aload_n (a := 0) dX12_seepsBy_57 rfl rfl rfl ?_
    refine X_aload_n (a := 0) dX12_seepsBy_58 rfl rfl rfl ?_
    refine X_getI fl_X12_409 rfl dX12_seepsBy_59 rfl ?_
    refine X_iconst (w := 3) dX12_seepsBy_62 ki_3 rfl ?_
    refine X_ruI (Ru_V (st := [.int 4, .int r53.1]) cv_X12_80 rfl (c_X12_of G r53.2 (gi r53.2 94 37) 3) (by omega) rfl rfl (Nat.le_of_ble_eq_true rfl) dX12_seepsBy_63) rfl (fun r63 => ?_)
    refine X_imul dX12_seepsBy_66 rfl ?_
    refine X_isub dX12_seepsBy_67 rfl ?_
    exact X_iretJ rfl dX12_seepsBy_68
  · skip
    refine X_if (fun e1_2 => ?_) (fun e1_2 => ?_)
    · refine X_lsw (tgt := 69) dX12_seepsBy_1 (by decide) (by rw [e1_2] <;> rfl) rfl ?_
      refine X_aload_n (a := 0) dX12_seepsBy_69 rfl rfl rfl ?_
      refine X_bipush (w := 30) dX12_seepsBy_70 kb_30 rfl ?_
      refine X_ruV (Ru_V (st := []) cv_X12_406 rfl (c_X12_ran G M 30) (by omega) rfl rfl (Nat.le_of_ble_eq_true rfl) dX12_seepsBy_72) rfl (fun r72 => ?_)
      refine X_aload_n (a := 0) dX12_seepsBy_75 rfl rfl rfl ?_
      refine X_iconst (w := 0) dX12_seepsBy_76 ki_0 rfl ?_
      refine X_iload_n (a := 2) dX12_seepsBy_77 rfl rfl rfl ?_
      refine X_ruJ (Ru_V (st := []) cv_X12_415 rfl (hrc r72 0 v2) (by omega) rfl rfl (Nat.le_of_ble_eq_true rfl) dX12_seepsBy_78) rfl (fun r78 => ?_)
      refine X_bipush (w := 17) dX12_seepsBy_81 kb_17 rfl ?_
      refine X_ixor dX12_seepsBy_83 rfl ?_
      exact X_iretJ rfl dX12_seepsBy_84
    · skip
      refine X_if (fun e1_5 => ?_) (fun e1_5 => ?_)
      · refine X_lsw (tgt := 85) dX12_seepsBy_1 (by decide) (by rw [e1_5] <;> rfl) rfl ?_
        refine X_aload_n (a := 0) dX12_seepsBy_85 rfl rfl rfl ?_
        refine X_bipush (w := 60) dX12_seepsBy_86 kb_60 rfl ?_
        refine X_ruV (Ru_V (st := []) cv_X12_406 rfl (c_X12_ran G M 60) (by omega) rfl rfl (Nat.le_of_ble_eq_true rfl) dX12_seepsBy_88) rfl (fun r88 => ?_)
        refine X_iconst (w := 0) dX12_seepsBy_91 ki_0 rfl ?_
        refine X_aload_n (a := 0) dX12_seepsBy_92 rfl rfl rfl ?_
        refine X_iconst (w := 4) dX12_seepsBy_93 ki_4 rfl ?_
        refine X_iload_n (a := 2) dX12_seepsBy_94 rfl rfl rfl ?_
        refine X_ruJ (Ru_V (st := [.int 0]) cv_X12_415 rfl (hrc r88 4 v2) (by omega) rfl rfl (Nat.le_of_ble_eq_true rfl) dX12_seepsBy_95) rfl (fun r95 => ?_)
        refine X_isub dX12_seepsBy_98 rfl ?_
        exact X_iretJ rfl dX12_seepsBy_99
      · skip
        refine X_lsw (tgt := 100) dX12_seepsBy_1 (by decide) (by have ne1_0 := ne_toInt e1_0 (n := 0) (by decide); have ne1_2 := ne_toInt e1_2 (n := 2) (by decide); have ne1_5 := ne_toInt e1_5 (n := 5) (by decide); simp [Op.lookupswitch.offset, Ne.symm ne1_0, Ne.symm ne1_2, Ne.symm ne1_5] <;> rfl) rfl ?_
        refine X_aload_n (a := 0) dX12_seepsBy_100 rfl rfl rfl ?_
        refine X_iload_n (a := 1) dX12_seepsBy_101 rfl rfl rfl ?_
        refine X_ruI (Ru_S (st := [.ref (ga G 94)]) cs_X12_110 (c_X12_above G M v1) (by omega) rfl rfl (Nat.le_of_ble_eq_true rfl) dX12_seepsBy_102) rfl (fun r102 => ?_)
        refine X_iload_n (a := 2) dX12_seepsBy_105 rfl rfl rfl ?_
        refine X_ruJ (Ru_V (st := []) cv_X12_415 rfl (hrc M r102 v2) (by omega) rfl rfl (Nat.le_of_ble_eq_true rfl) dX12_seepsBy_106) rfl (fun r106 => ?_)
        exact X_iretJ rfl dX12_seepsBy_109
theorem c_X12_seepsBy (G : Gm) : ∀ (n : Nat) (M : Mm) (v1 : Int32) (v2 : Int32), Ct fJ G miX12_seepsBy (9 * n) [.ref (ga G 94), .int v1, .int v2] M (F_X12_seepsBy n M v1 v2) := by
  intro n
  induction n with
  | zero => intro M v1 v2; exact Ct_none
  | succ n ih =>
    intro M v1 v2
    exact c_X12_seepsBy_b G (9 * n) (F_X12_seepsBy n) ih M v1 v2
set_option maxRecDepth 100000 in
theorem c_X12_hoopsBy_b (G : Gm) (dd : Nat) (rc : Mm → Int32 → Int32 → Option (Int32 × Mm)) (hrc : ∀ (M : Mm) (v1 : Int32) (v2 : Int32), Ct fJ G miX12_hoopsBy dd [.ref (ga G 94), .int v1, .int v2] M (rc M v1 v2)) (M : Mm) (v1 : Int32) (v2 : Int32) : Ct fJ G miX12_hoopsBy (dd + 9) [.ref (ga G 94), .int v1, .int v2] M (F_X12_hoopsBy_b rc M v1 v2) := by
  refine Ct_of (pn_X12) (Nat.le_of_ble_eq_true rfl) ?_
  refine X_lv [0, 1, 2] (lv' := [(0, .ref (ga G 94)), (1, .int v1), (2, .int v2)]) rfl ?_
  unfold F_X12_hoopsBy_b
  refine X_iconst (w := 0) dX12_hoopsBy_0 ki_0 rfl ?_
  refine X_istore_n (lv2 := [(3, .int 0), (0, .ref (ga G 94)), (1, .int v1), (2, .int v2)]) dX12_hoopsBy_1 rfl (by decide) rfl rfl ?_
  refine X_iload_n (a := 2) dX12_hoopsBy_2 rfl rfl rfl ?_
  refine X_if (fun e3_0 => ?_) (fun e3_0 => ?_)
  · refine X_lsw (tgt := 36) dX12_hoopsBy_3 (by decide) (by rw [e3_0] <;> rfl) rfl ?_
    refine X_aload_n (a := 1) dX12_hoopsBy_36 rfl rfl rfl ?_
    refine X_bipush (w := 12) dX12_hoopsBy_37 kb_12 rfl ?_
    refine X_ruV (Ru_V (st := []) cv_X12_406 rfl (c_X12_ran G M 12) (by omega) rfl rfl (Nat.le_of_ble_eq_true rfl) dX12_hoopsBy_39) rfl (fun r39 => ?_)
    refine X_aload_n (a := 1) dX12_hoopsBy_42 rfl rfl rfl ?_
    refine X_getI fl_X12_409 rfl dX12_hoopsBy_43 rfl ?_
    refine X_aload_n (a := 1) dX12_hoopsBy_46 rfl rfl rfl ?_
    refine X_aload_n (a := 1) dX12_hoopsBy_47 rfl rfl rfl ?_
    refine X_getI fl_X12_409 rfl dX12_hoopsBy_48 rfl ?_
    refine X_iconst (w := 3) dX12_hoopsBy_51 ki_3 rfl ?_
    refine X_ruI (Ru_V (st := [.int (gi r39 94 37)]) cv_X12_80 rfl (c_X12_of G r39 (gi r39 94 37) 3) (by omega) rfl rfl (Nat.le_of_ble_eq_true rfl) dX12_hoopsBy_52) rfl (fun r52 => ?_)
    refine X_iadd dX12_hoopsBy_55 rfl ?_
    refine X_iconst (w := 2) dX12_hoopsBy_56 ki_2 rfl ?_
    refine X_isub dX12_hoopsBy_57 rfl ?_
    refine X_istore_n (lv2 := [(3, .int (((gi r39 94 37) + r52) - 2)), (0, .ref (ga G 94)), (1, .int v1), (2, .int v2)]) dX12_hoopsBy_58 rfl (by decide) rfl rfl ?_
    refine X_aload_n (a := 1) dX12_hoopsBy_59 rfl rfl rfl ?_
    refine X_aload_n (a := 1) dX12_hoopsBy_60 rfl rfl rfl ?_
    refine X_getI fl_X12_403 rfl dX12_hoopsBy_61 rfl ?_
    refine X_jc (P := fun j => ∀ (x76_0 : Int32), X fJ G miX12_hoopsBy (dd + 9) 76 [(2, .int v2), (3, .int (((gi r39 94 37) + r52) - 2))] [.int x76_0, .ref (ga G 94)] r39 (j x76_0)) (fun x76_0 => ?_) (fun j76 hj76 => ?_)
    · refine X_putZ fp_X12_403 rfl dX12_hoopsBy_76 rfl ?_
      refine X_iload_n (a := 1) dX12_hoopsBy_79 rfl rfl rfl ?_
      refine X_if_ne (tgt := 87) dX12_hoopsBy_80 rfl rfl (fun e80 => ?_) (fun e80 => ?_)
      · refine X_iload_n (a := 0) dX12_hoopsBy_87 rfl rfl rfl ?_
        refine X_iload_n (a := 1) dX12_hoopsBy_88 rfl rfl rfl ?_
        refine X_nz (fun h89 => ?_)
        refine X_idiv dX12_hoopsBy_89 h89 rfl ?_
        exact X_iretJ rfl dX12_hoopsBy_90
      · refine X_iconst (w := 0) dX12_hoopsBy_83 ki_0 rfl ?_
        refine X_goto (tgt := 90) dX12_hoopsBy_84 rfl ?_
        exact X_iretJ rfl dX12_hoopsBy_90
    refine X_jc (P := fun j => X fJ G miX12_hoopsBy (dd + 9) 71 [(2, .int v2), (3, .int (((gi r39 94 37) + r52) - 2))] [.ref (ga G 94)] r39 (j)) (?_) (fun j71 hj71 => ?_)
    · refine X_iconst (w := 1) dX12_hoopsBy_71 ki_1 rfl ?_
      refine X_goto (tgt := 76) dX12_hoopsBy_72 rfl ?_
      exact X_lv [0, 1] rfl (hj76 1)
    refine X_if_ne (tgt := 71) dX12_hoopsBy_64 rfl rfl (fun e64 => ?_) (fun e64 => ?_)
    · exact X_lv [3, 0] rfl (hj71)
    · refine X_iload_n (a := 0) dX12_hoopsBy_67 rfl rfl rfl ?_
      refine X_if_ne (tgt := 75) dX12_hoopsBy_68 rfl rfl (fun e68 => ?_) (fun e68 => ?_)
      · refine X_iconst (w := 0) dX12_hoopsBy_75 ki_0 rfl ?_
        exact X_lv [3, 0] rfl (hj76 0)
      · exact X_lv [3, 0] rfl (hj71)
  · skip
    refine X_if (fun e3_4 => ?_) (fun e3_4 => ?_)
    · refine X_lsw (tgt := 91) dX12_hoopsBy_3 (by decide) (by rw [e3_4] <;> rfl) rfl ?_
      refine X_aload_n (a := 1) dX12_hoopsBy_91 rfl rfl rfl ?_
      refine X_bipush (w := 40) dX12_hoopsBy_92 kb_40 rfl ?_
      refine X_ruV (Ru_V (st := []) cv_X12_406 rfl (c_X12_ran G M 40) (by omega) rfl rfl (Nat.le_of_ble_eq_true rfl) dX12_hoopsBy_94) rfl (fun r94 => ?_)
      refine X_aload_n (a := 1) dX12_hoopsBy_97 rfl rfl rfl ?_
      refine X_iconst (w := 0) dX12_hoopsBy_98 ki_0 rfl ?_
      refine X_iload_n (a := 3) dX12_hoopsBy_99 rfl rfl rfl ?_
      refine X_ruJ (Ru_V (st := []) cv_X12_418 rfl (hrc r94 0 v2) (by omega) rfl rfl (Nat.le_of_ble_eq_true rfl) dX12_hoopsBy_100) rfl (fun r100 => ?_)
      refine X_iconst (w := 3) dX12_hoopsBy_103 ki_3 rfl ?_
      refine X_imul dX12_hoopsBy_104 rfl ?_
      exact X_iretJ rfl dX12_hoopsBy_105
    · skip
      refine X_if (fun e3_5 => ?_) (fun e3_5 => ?_)
      · refine X_lsw (tgt := 106) dX12_hoopsBy_3 (by decide) (by rw [e3_5] <;> rfl) rfl ?_
        refine X_aload_n (a := 1) dX12_hoopsBy_106 rfl rfl rfl ?_
        refine X_bipush (w := 61) dX12_hoopsBy_107 kb_61 rfl ?_
        refine X_ruV (Ru_V (st := []) cv_X12_406 rfl (c_X12_ran G M 61) (by omega) rfl rfl (Nat.le_of_ble_eq_true rfl) dX12_hoopsBy_109) rfl (fun r109 => ?_)
        refine X_aload_n (a := 1) dX12_hoopsBy_112 rfl rfl rfl ?_
        refine X_iconst (w := 4) dX12_hoopsBy_113 ki_4 rfl ?_
        refine X_iload_n (a := 3) dX12_hoopsBy_114 rfl rfl rfl ?_
        refine X_ruJ (Ru_V (st := []) cv_X12_418 rfl (hrc r109 4 v2) (by omega) rfl rfl (Nat.le_of_ble_eq_true rfl) dX12_hoopsBy_115) rfl (fun r115 => ?_)
        refine X_istore_n (lv2 := [(3, .int r115.1), (0, .ref (ga G 94)), (1, .int v1), (2, .int v2)]) dX12_hoopsBy_118 rfl (by decide) rfl rfl ?_
        refine X_iload_n (a := 0) dX12_hoopsBy_119 rfl rfl rfl ?_
        refine X_aload_n (a := 1) dX12_hoopsBy_120 rfl rfl rfl ?_
        refine X_aload_n (a := 1) dX12_hoopsBy_121 rfl rfl rfl ?_
        refine X_aload_n (a := 1) dX12_hoopsBy_122 rfl rfl rfl ?_
        refine X_getI fl_X12_409 rfl dX12_hoopsBy_123 rfl ?_
        refine X_iconst (w := 0) dX12_hoopsBy_126 ki_0 rfl ?_
        refine X_ruI (Ru_V (st := [.ref (ga G 94), .int r115.1]) cv_X12_80 rfl (c_X12_of G r115.2 (gi r115.2 94 37) 0) (by omega) rfl rfl (Nat.le_of_ble_eq_true rfl) dX12_hoopsBy_127) rfl (fun r127 => ?_)
        refine X_aload_n (a := 1) dX12_hoopsBy_130 rfl rfl rfl ?_
        refine X_getI fl_X12_409 rfl dX12_hoopsBy_131 rfl ?_
        refine X_ruJ (Ru_V (st := [.int r115.1]) cv_X12_412 rfl (c_X12_rollsBy G 8 r115.2 r127 (gi r115.2 94 37)) (by omega) rfl rfl (Nat.le_of_ble_eq_true rfl) dX12_hoopsBy_134) rfl (fun r134 => ?_)
        refine X_isub dX12_hoopsBy_137 rfl ?_
        exact X_iretJ rfl dX12_hoopsBy_138
      · skip
        refine X_lsw (tgt := 139) dX12_hoopsBy_3 (by decide) (by have ne3_0 := ne_toInt e3_0 (n := 0) (by decide); have ne3_4 := ne_toInt e3_4 (n := 4) (by decide); have ne3_5 := ne_toInt e3_5 (n := 5) (by decide); simp [Op.lookupswitch.offset, Ne.symm ne3_0, Ne.symm ne3_4, Ne.symm ne3_5] <;> rfl) rfl ?_
        refine X_aload_n (a := 1) dX12_hoopsBy_139 rfl rfl rfl ?_
        refine X_iload_n (a := 2) dX12_hoopsBy_140 rfl rfl rfl ?_
        refine X_ruI (Ru_S (st := [.ref (ga G 94)]) cs_X12_110 (c_X12_above G M v1) (by omega) rfl rfl (Nat.le_of_ble_eq_true rfl) dX12_hoopsBy_141) rfl (fun r141 => ?_)
        refine X_iload_n (a := 3) dX12_hoopsBy_144 rfl rfl rfl ?_
        refine X_ruJ (Ru_V (st := []) cv_X12_418 rfl (hrc M r141 v2) (by omega) rfl rfl (Nat.le_of_ble_eq_true rfl) dX12_hoopsBy_145) rfl (fun r145 => ?_)
        exact X_iretJ rfl dX12_hoopsBy_148
theorem c_X12_hoopsBy (G : Gm) : ∀ (n : Nat) (M : Mm) (v1 : Int32) (v2 : Int32), Ct fJ G miX12_hoopsBy (9 * n) [.ref (ga G 94), .int v1, .int v2] M (F_X12_hoopsBy n M v1 v2) := by
  intro n
  induction n with
  | zero => intro M v1 v2; exact Ct_none
  | succ n ih =>
    intro M v1 v2
    exact c_X12_hoopsBy_b G (9 * n) (F_X12_hoopsBy n) ih M v1 v2
set_option maxRecDepth 100000 in
theorem c_X12_floodsBy_b (G : Gm) (dd : Nat) (rc : Mm → Int32 → Int32 → Option (Int32 × Mm)) (hrc : ∀ (M : Mm) (v1 : Int32) (v2 : Int32), Ct fJ G miX12_floodsBy dd [.ref (ga G 94), .int v1, .int v2] M (rc M v1 v2)) (M : Mm) (v1 : Int32) (v2 : Int32) : Ct fJ G miX12_floodsBy (dd + 73) [.ref (ga G 94), .int v1, .int v2] M (F_X12_floodsBy_b rc M v1 v2) := by
  refine Ct_of (pn_X12) (Nat.le_of_ble_eq_true rfl) ?_
  refine X_lv [0, 1, 2] (lv' := [(0, .ref (ga G 94)), (1, .int v1), (2, .int v2)]) rfl ?_
  unfold F_X12_floodsBy_b
  refine X_iconst (w := 0) dX12_floodsBy_0 ki_0 rfl ?_
  refine X_istore_n (lv2 := [(3, .int 0), (0, .ref (ga G 94)), (1, .int v1), (2, .int v2)]) dX12_floodsBy_1 rfl (by decide) rfl rfl ?_
  refine X_iload_n (a := 2) dX12_floodsBy_2 rfl rfl rfl ?_
  refine X_if (fun e3_0 => ?_) (fun e3_0 => ?_)
  · refine X_lsw (tgt := 28) dX12_floodsBy_3 (by decide) (by rw [e3_0] <;> rfl) rfl ?_
    refine X_aload_n (a := 1) dX12_floodsBy_28 rfl rfl rfl ?_
    refine X_bipush (w := 13) dX12_floodsBy_29 kb_13 rfl ?_
    refine X_ruV (Ru_V (st := []) cv_X12_406 rfl (c_X12_ran G M 13) (by omega) rfl rfl (Nat.le_of_ble_eq_true rfl) dX12_floodsBy_31) rfl (fun r31 => ?_)
    refine X_aload_n (a := 1) dX12_floodsBy_34 rfl rfl rfl ?_
    refine X_aload_n (a := 1) dX12_floodsBy_35 rfl rfl rfl ?_
    refine X_aload_n (a := 1) dX12_floodsBy_36 rfl rfl rfl ?_
    refine X_getI fl_X12_409 rfl dX12_floodsBy_37 rfl ?_
    refine X_iconst (w := 0) dX12_floodsBy_40 ki_0 rfl ?_
    refine X_ruI (Ru_V (st := [.ref (ga G 94)]) cv_X12_80 rfl (c_X12_of G r31 (gi r31 94 37) 0) (by omega) rfl rfl (Nat.le_of_ble_eq_true rfl) dX12_floodsBy_41) rfl (fun r41 => ?_)
    refine X_iload_n (a := 3) dX12_floodsBy_44 rfl rfl rfl ?_
    refine X_ruJ (Ru_V (st := []) cv_X12_415 rfl (c_X12_seepsBy G 8 r31 r41 v2) (by omega) rfl rfl (Nat.le_of_ble_eq_true rfl) dX12_floodsBy_45) rfl (fun r45 => ?_)
    refine X_istore_n (lv2 := [(3, .int r45.1), (0, .ref (ga G 94)), (1, .int v1), (2, .int v2)]) dX12_floodsBy_48 rfl (by decide) rfl rfl ?_
    refine X_iload_n (a := 0) dX12_floodsBy_49 rfl rfl rfl ?_
    refine X_aload_n (a := 1) dX12_floodsBy_50 rfl rfl rfl ?_
    refine X_aload_n (a := 1) dX12_floodsBy_51 rfl rfl rfl ?_
    refine X_aload_n (a := 1) dX12_floodsBy_52 rfl rfl rfl ?_
    refine X_getI fl_X12_409 rfl dX12_floodsBy_53 rfl ?_
    refine X_iconst (w := 0) dX12_floodsBy_56 ki_0 rfl ?_
    refine X_ruI (Ru_V (st := [.ref (ga G 94), .int r45.1]) cv_X12_80 rfl (c_X12_of G r45.2 (gi r45.2 94 37) 0) (by omega) rfl rfl (Nat.le_of_ble_eq_true rfl) dX12_floodsBy_57) rfl (fun r57 => ?_)
    refine X_iload_n (a := 3) dX12_floodsBy_60 rfl rfl rfl ?_
    refine X_ruJ (Ru_V (st := [.int r45.1]) cv_X12_418 rfl (c_X12_hoopsBy G 8 r45.2 r57 v2) (by omega) rfl rfl (Nat.le_of_ble_eq_true rfl) dX12_floodsBy_61) rfl (fun r61 => ?_)
    refine X_ixor dX12_floodsBy_64 rfl ?_
    exact X_iretJ rfl dX12_floodsBy_65
  · skip
    refine X_if (fun e3_3 => ?_) (fun e3_3 => ?_)
    · refine X_lsw (tgt := 66) dX12_floodsBy_3 (by decide) (by rw [e3_3] <;> rfl) rfl ?_
      refine X_aload_n (a := 1) dX12_floodsBy_66 rfl rfl rfl ?_
      refine X_bipush (w := 51) dX12_floodsBy_67 kb_51 rfl ?_
      refine X_ruV (Ru_V (st := []) cv_X12_406 rfl (c_X12_ran G M 51) (by omega) rfl rfl (Nat.le_of_ble_eq_true rfl) dX12_floodsBy_69) rfl (fun r69 => ?_)
      refine X_aload_n (a := 1) dX12_floodsBy_72 rfl rfl rfl ?_
      refine X_iconst (w := 2) dX12_floodsBy_73 ki_2 rfl ?_
      refine X_iload_n (a := 3) dX12_floodsBy_74 rfl rfl rfl ?_
      refine X_ruJ (Ru_V (st := []) cv_X12_421 rfl (hrc r69 2 v2) (by omega) rfl rfl (Nat.le_of_ble_eq_true rfl) dX12_floodsBy_75) rfl (fun r75 => ?_)
      refine X_istore_n (lv2 := [(3, .int r75.1), (0, .ref (ga G 94)), (1, .int v1), (2, .int v2)]) dX12_floodsBy_78 rfl (by decide) rfl rfl ?_
      refine X_iload_n (a := 0) dX12_floodsBy_79 rfl rfl rfl ?_
      refine X_aload_n (a := 1) dX12_floodsBy_80 rfl rfl rfl ?_
      refine X_aload_n (a := 1) dX12_floodsBy_81 rfl rfl rfl ?_
      refine X_aload_n (a := 1) dX12_floodsBy_82 rfl rfl rfl ?_
      refine X_getI fl_X12_409 rfl dX12_floodsBy_83 rfl ?_
      refine X_iconst (w := 0) dX12_floodsBy_86 ki_0 rfl ?_
      refine X_ruI (Ru_V (st := [.ref (ga G 94), .int r75.1]) cv_X12_80 rfl (c_X12_of G r75.2 (gi r75.2 94 37) 0) (by omega) rfl rfl (Nat.le_of_ble_eq_true rfl) dX12_floodsBy_87) rfl (fun r87 => ?_)
      refine X_aload_n (a := 1) dX12_floodsBy_90 rfl rfl rfl ?_
      refine X_aload_n (a := 1) dX12_floodsBy_91 rfl rfl rfl ?_
      refine X_getI fl_X12_409 rfl dX12_floodsBy_92 rfl ?_
      refine X_iconst (w := 3) dX12_floodsBy_95 ki_3 rfl ?_
      refine X_ruI (Ru_V (st := [.int r87, .ref (ga G 94), .int r75.1]) cv_X12_80 rfl (c_X12_of G r75.2 (gi r75.2 94 37) 3) (by omega) rfl rfl (Nat.le_of_ble_eq_true rfl) dX12_floodsBy_96) rfl (fun r96 => ?_)
      refine X_ruJ (Ru_V (st := [.int r75.1]) cv_X12_415 rfl (c_X12_seepsBy G 8 r75.2 r87 r96) (by omega) rfl rfl (Nat.le_of_ble_eq_true rfl) dX12_floodsBy_99) rfl (fun r99 => ?_)
      refine X_iadd dX12_floodsBy_102 rfl ?_
      exact X_iretJ rfl dX12_floodsBy_103
    · skip
      refine X_lsw (tgt := 104) dX12_floodsBy_3 (by decide) (by have ne3_0 := ne_toInt e3_0 (n := 0) (by decide); have ne3_3 := ne_toInt e3_3 (n := 3) (by decide); simp [Op.lookupswitch.offset, Ne.symm ne3_0, Ne.symm ne3_3] <;> rfl) rfl ?_
      refine X_aload_n (a := 1) dX12_floodsBy_104 rfl rfl rfl ?_
      refine X_iload_n (a := 2) dX12_floodsBy_105 rfl rfl rfl ?_
      refine X_ruI (Ru_S (st := [.ref (ga G 94)]) cs_X12_110 (c_X12_above G M v1) (by omega) rfl rfl (Nat.le_of_ble_eq_true rfl) dX12_floodsBy_106) rfl (fun r106 => ?_)
      refine X_iload_n (a := 3) dX12_floodsBy_109 rfl rfl rfl ?_
      refine X_ruJ (Ru_V (st := []) cv_X12_421 rfl (hrc M r106 v2) (by omega) rfl rfl (Nat.le_of_ble_eq_true rfl) dX12_floodsBy_110) rfl (fun r110 => ?_)
      exact X_iretJ rfl dX12_floodsBy_113
theorem c_X12_floodsBy (G : Gm) : ∀ (n : Nat) (M : Mm) (v1 : Int32) (v2 : Int32), Ct fJ G miX12_floodsBy (73 * n) [.ref (ga G 94), .int v1, .int v2] M (F_X12_floodsBy n M v1 v2) := by
  intro n
  induction n with
  | zero => intro M v1 v2; exact Ct_none
  | succ n ih =>
    intro M v1 v2
    exact c_X12_floodsBy_b G (73 * n) (F_X12_floodsBy n) ih M v1 v2
set_option maxRecDepth 100000 in
theorem c_X12_act (G : Gm) (M : Mm) (v1 : Int32) (v2 : Int32) (v3 : Int32) : Ct fJ G miX12_act (585) [.ref (ga G 94), .int v1, .int v2, .int v3] M (F_X12_act M v1 v2 v3) := by
  refine Ct_of (pn_X12) (Nat.le_of_ble_eq_true rfl) ?_
  refine X_lv [0, 1, 2, 3] (lv' := [(0, .ref (ga G 94)), (1, .int v1), (2, .int v2), (3, .int v3)]) rfl ?_
  unfold F_X12_act
  refine X_aload_n (a := 0) dX12_act_0 rfl rfl rfl ?_
  refine X_iconst (w := 0) dX12_act_1 ki_0 rfl ?_
  refine X_putI fp_X12_400 rfl dX12_act_2 rfl ?_
  refine X_aload_n (a := 0) dX12_act_5 rfl rfl rfl ?_
  refine X_iconst (w := 0) dX12_act_6 ki_0 rfl ?_
  refine X_putZ fp_X12_403 rfl dX12_act_7 rfl ?_
  refine X_iload_n (a := 1) dX12_act_10 rfl rfl rfl ?_
  refine X_i2l dX12_act_11 rfl rfl ?_
  refine X_lconst (w := 0) dX12_act_12 kl_0 rfl ?_
  refine X_ldc2 (w := 3) dX12_act_13 t_1612 rfl ?_
  refine X_ruI (Ru_S (st := []) cs_X12_61 (c_X12_in G (si (si M 94 36 0) 94 38 0) (Int32.toInt64 v1) 0 3) (by decide) rfl rfl (Nat.le_of_ble_eq_true rfl) dX12_act_16) rfl (fun r16 => ?_)
  refine X_if_eq (tgt := 52) dX12_act_19 rfl rfl (fun e19 => ?_) (fun e19 => ?_)
  · refine X_iconst (w := 0) dX12_act_52 ki_0 rfl ?_
    exact X_iretJ rfl dX12_act_53
  · refine X_iload_n (a := 2) dX12_act_22 rfl rfl rfl ?_
    refine X_i2l dX12_act_23 rfl rfl ?_
    refine X_lconst (w := 0) dX12_act_24 kl_0 rfl ?_
    refine X_ldc2 (w := 3) dX12_act_25 t_1612 rfl ?_
    refine X_ruI (Ru_S (st := []) cs_X12_61 (c_X12_in G (si (si M 94 36 0) 94 38 0) (Int32.toInt64 v2) 0 3) (by decide) rfl rfl (Nat.le_of_ble_eq_true rfl) dX12_act_28) rfl (fun r28 => ?_)
    refine X_if_eq (tgt := 52) dX12_act_31 rfl rfl (fun e31 => ?_) (fun e31 => ?_)
    · refine X_iconst (w := 0) dX12_act_52 ki_0 rfl ?_
      exact X_iretJ rfl dX12_act_53
    · refine X_aload_n (a := 0) dX12_act_34 rfl rfl rfl ?_
      refine X_iload_n (a := 1) dX12_act_35 rfl rfl rfl ?_
      refine X_ruI (Ru_V (st := []) cv_X12_397 rfl (c_X12_holdsNothing G (si (si M 94 36 0) 94 38 0) v1) (by decide) rfl rfl (Nat.le_of_ble_eq_true rfl) dX12_act_36) rfl (fun r36 => ?_)
      refine X_if_ne (tgt := 52) dX12_act_39 rfl rfl (fun e39 => ?_) (fun e39 => ?_)
      · refine X_iconst (w := 0) dX12_act_52 ki_0 rfl ?_
        exact X_iretJ rfl dX12_act_53
      · refine X_aload_n (a := 0) dX12_act_42 rfl rfl rfl ?_
        refine X_getR (t := 108) fl_X12_49 rfl rfl dX12_act_43 rfl ?_
        refine X_iload_n (a := 1) dX12_act_46 rfl rfl rfl ?_
        refine X_iald rfl rfl dX12_act_47 rfl ?_
        refine X_iconst (w := 2) dX12_act_48 ki_2 rfl ?_
        refine X_icmp_ne (tgt := 54) dX12_act_49 rfl rfl (fun e49 => ?_) (fun e49 => ?_)
        · refine X_aload_n (a := 0) dX12_act_54 rfl rfl rfl ?_
          refine X_aload_n (a := 0) dX12_act_55 rfl rfl rfl ?_
          refine X_getR (t := 109) fl_X12_52 rfl rfl dX12_act_56 rfl ?_
          refine X_iload_n (a := 1) dX12_act_59 rfl rfl rfl ?_
          refine X_iald rfl rfl dX12_act_60 rfl ?_
          refine X_putI fp_X12_409 rfl dX12_act_61 rfl ?_
          refine X_aload_n (a := 0) dX12_act_64 rfl rfl rfl ?_
          refine X_aload_n (a := 0) dX12_act_65 rfl rfl rfl ?_
          refine X_getI fl_X12_409 rfl dX12_act_66 rfl ?_
          refine X_iconst (w := 0) dX12_act_69 ki_0 rfl ?_
          refine X_ruI (Ru_V (st := []) cv_X12_80 rfl (c_X12_of G (si (si (si M 94 36 0) 94 38 0) 94 37 (gi (si (si M 94 36 0) 94 38 0) 109 (ui v1))) (gi (si (si (si M 94 36 0) 94 38 0) 94 37 (gi (si (si M 94 36 0) 94 38 0) 109 (ui v1))) 94 37) 0) (by decide) rfl rfl (Nat.le_of_ble_eq_true rfl) dX12_act_70) rfl (fun r70 => ?_)
          refine X_istore (lv2 := [(4, .int r70), (0, .ref (ga G 94)), (1, .int v1), (2, .int v2), (3, .int v3)]) dX12_act_73 (by decide) rfl rfl ?_
          refine X_iload_n (a := 3) dX12_act_75 rfl rfl rfl ?_
          refine X_jc (P := fun j => ∀ (x126_0 : Int32) (M : Mm), X fJ G miX12_act (585) 126 [(0, .ref (ga G 94))] [.int x126_0] M (j x126_0 M)) (fun x126_0 M => ?_) (fun j126 hj126 => ?_)
          · refine X_istore (lv2 := [(5, .int x126_0), (0, .ref (ga G 94))]) dX12_act_126 (by decide) rfl rfl ?_
            refine X_aload_n (a := 1) dX12_act_128 rfl rfl rfl ?_
            refine X_getI fl_X12_403 rfl dX12_act_129 rfl ?_
            refine X_if_eq (tgt := 140) dX12_act_132 rfl rfl (fun e132 => ?_) (fun e132 => ?_)
            · refine X_iload (a := 0) dX12_act_140 rfl rfl ?_
              exact X_iretJ rfl dX12_act_142
            · refine X_bipush (w := (-15)) dX12_act_135 kb_m15 rfl ?_
              refine X_goto (tgt := 142) dX12_act_137 rfl ?_
              exact X_iretJ rfl dX12_act_142
          refine X_if_ne (tgt := 89) dX12_act_76 rfl rfl (fun e76 => ?_) (fun e76 => ?_)
          · refine X_iload_n (a := 3) dX12_act_89 rfl rfl rfl ?_
            refine X_iconst (w := 1) dX12_act_90 ki_1 rfl ?_
            refine X_icmp_ne (tgt := 104) dX12_act_91 rfl rfl (fun e91 => ?_) (fun e91 => ?_)
            · refine X_iload_n (a := 3) dX12_act_104 rfl rfl rfl ?_
              refine X_iconst (w := 2) dX12_act_105 ki_2 rfl ?_
              refine X_icmp_ne (tgt := 119) dX12_act_106 rfl rfl (fun e106 => ?_) (fun e106 => ?_)
              · refine X_aload_n (a := 1) dX12_act_119 rfl rfl rfl ?_
                refine X_iload (a := 0) dX12_act_120 rfl rfl ?_
                refine X_iload_n (a := 4) dX12_act_122 rfl rfl rfl ?_
                refine X_ruJ (Ru_V (st := []) cv_X12_421 rfl (c_X12_floodsBy G 8 (si (si (si M 94 36 0) 94 38 0) 94 37 (gi (si (si M 94 36 0) 94 38 0) 109 (ui v1))) r70 v3) (by decide) rfl rfl (Nat.le_of_ble_eq_true rfl) dX12_act_123) rfl (fun r123 => ?_)
                exact X_lv [1] rfl (hj126 r123.1 r123.2)
              · refine X_aload_n (a := 1) dX12_act_109 rfl rfl rfl ?_
                refine X_iload (a := 0) dX12_act_110 rfl rfl ?_
                refine X_iload_n (a := 4) dX12_act_112 rfl rfl rfl ?_
                refine X_ruJ (Ru_V (st := []) cv_X12_418 rfl (c_X12_hoopsBy G 8 (si (si (si M 94 36 0) 94 38 0) 94 37 (gi (si (si M 94 36 0) 94 38 0) 109 (ui v1))) r70 v3) (by decide) rfl rfl (Nat.le_of_ble_eq_true rfl) dX12_act_113) rfl (fun r113 => ?_)
                refine X_goto (tgt := 126) dX12_act_116 rfl ?_
                exact X_lv [1] rfl (hj126 r113.1 r113.2)
            · refine X_aload_n (a := 1) dX12_act_94 rfl rfl rfl ?_
              refine X_iload (a := 0) dX12_act_95 rfl rfl ?_
              refine X_iload_n (a := 4) dX12_act_97 rfl rfl rfl ?_
              refine X_ruJ (Ru_V (st := []) cv_X12_415 rfl (c_X12_seepsBy G 8 (si (si (si M 94 36 0) 94 38 0) 94 37 (gi (si (si M 94 36 0) 94 38 0) 109 (ui v1))) r70 v3) (by decide) rfl rfl (Nat.le_of_ble_eq_true rfl) dX12_act_98) rfl (fun r98 => ?_)
              refine X_goto (tgt := 126) dX12_act_101 rfl ?_
              exact X_lv [1] rfl (hj126 r98.1 r98.2)
          · refine X_aload_n (a := 1) dX12_act_79 rfl rfl rfl ?_
            refine X_iload (a := 0) dX12_act_80 rfl rfl ?_
            refine X_iload_n (a := 4) dX12_act_82 rfl rfl rfl ?_
            refine X_ruJ (Ru_V (st := []) cv_X12_412 rfl (c_X12_rollsBy G 8 (si (si (si M 94 36 0) 94 38 0) 94 37 (gi (si (si M 94 36 0) 94 38 0) 109 (ui v1))) r70 v3) (by decide) rfl rfl (Nat.le_of_ble_eq_true rfl) dX12_act_83) rfl (fun r83 => ?_)
            refine X_goto (tgt := 126) dX12_act_86 rfl ?_
            exact X_lv [1] rfl (hj126 r83.1 r83.2)
        · refine X_iconst (w := 0) dX12_act_52 ki_0 rfl ?_
          exact X_iretJ rfl dX12_act_53
set_option maxRecDepth 100000 in
theorem c_X12_trace (G : Gm) (M : Mm) (v1 : Int32) : Ct (fI M) G miX12_trace (1) [.ref (ga G 94), .int v1] M (F_X12_trace M v1) := by
  refine Ct_of (pn_X12) (Nat.le_of_ble_eq_true rfl) ?_
  refine X_lv [0, 1] (lv' := [(0, .ref (ga G 94)), (1, .int v1)]) rfl ?_
  unfold F_X12_trace
  refine X_iload_n (a := 1) dX12_trace_0 rfl rfl rfl ?_
  refine X_i2l dX12_trace_1 rfl rfl ?_
  refine X_lconst (w := 0) dX12_trace_2 kl_0 rfl ?_
  refine X_aload_n (a := 0) dX12_trace_3 rfl rfl rfl ?_
  refine X_getI fl_X12_400 rfl dX12_trace_4 rfl ?_
  refine X_iconst (w := 1) dX12_trace_7 ki_1 rfl ?_
  refine X_isub dX12_trace_8 rfl ?_
  refine X_i2l dX12_trace_9 rfl rfl ?_
  refine X_ruI (Ru_S (st := []) cs_X12_61 (c_X12_in G M (Int32.toInt64 v1) 0 (Int32.toInt64 ((gi M 94 36) - 1))) (by decide) rfl rfl (Nat.le_of_ble_eq_true rfl) dX12_trace_10) rfl (fun r10 => ?_)
  refine X_if_eq (tgt := 25) dX12_trace_13 rfl rfl (fun e13 => ?_) (fun e13 => ?_)
  · refine X_bipush (w := (-3)) dX12_trace_25 kb_m3 rfl ?_
    exact X_iretI rfl dX12_trace_27
  · refine X_aload_n (a := 0) dX12_trace_16 rfl rfl rfl ?_
    refine X_getR (t := 111) fl_X12_58 rfl rfl dX12_trace_17 rfl ?_
    refine X_iload_n (a := 1) dX12_trace_20 rfl rfl rfl ?_
    refine X_iald rfl rfl dX12_trace_21 rfl ?_
    refine X_goto (tgt := 27) dX12_trace_22 rfl ?_
    exact X_iretI rfl dX12_trace_27
set_option maxRecDepth 100000 in
theorem c_X12_many (G : Gm) (M : Mm) (v1 : Int32) : Ct (fI M) G miX12_many (2) [.ref (ga G 94), .int v1] M (F_X12_many M v1) := by
  refine Ct_of (pn_X12) (Nat.le_of_ble_eq_true rfl) ?_
  refine X_lv [0, 1] (lv' := [(0, .ref (ga G 94)), (1, .int v1)]) rfl ?_
  unfold F_X12_many
  refine X_iload_n (a := 1) dX12_many_0 rfl rfl rfl ?_
  refine X_if (fun e1_0 => ?_) (fun e1_0 => ?_)
  · refine X_tsIn (tgt := 44) dX12_many_1 (by rw [e1_0]; decide) (by rw [e1_0]; decide) (by rw [e1_0]; rfl) rfl ?_
    refine X_aload_n (a := 0) dX12_many_44 rfl rfl rfl ?_
    refine X_getR (t := 95) fl_X12_7 rfl rfl dX12_many_45 rfl ?_
    refine X_iconst (w := 0) dX12_many_48 ki_0 rfl ?_
    refine X_iald rfl rfl dX12_many_49 rfl ?_
    exact X_iretI rfl dX12_many_50
  · skip
    refine X_if (fun e1_1 => ?_) (fun e1_1 => ?_)
    · refine X_tsIn (tgt := 51) dX12_many_1 (by rw [e1_1]; decide) (by rw [e1_1]; decide) (by rw [e1_1]; rfl) rfl ?_
      refine X_aload_n (a := 0) dX12_many_51 rfl rfl rfl ?_
      refine X_getR (t := 95) fl_X12_7 rfl rfl dX12_many_52 rfl ?_
      refine X_iconst (w := 5) dX12_many_55 ki_5 rfl ?_
      refine X_iald rfl rfl dX12_many_56 rfl ?_
      exact X_iretI rfl dX12_many_57
    · skip
      refine X_if (fun e1_2 => ?_) (fun e1_2 => ?_)
      · refine X_tsIn (tgt := 58) dX12_many_1 (by rw [e1_2]; decide) (by rw [e1_2]; decide) (by rw [e1_2]; rfl) rfl ?_
        refine X_aload_n (a := 0) dX12_many_58 rfl rfl rfl ?_
        refine X_ruI (Ru_V (st := []) cv_X12_163 rfl (c_X12_staked G M) (by decide) rfl rfl (Nat.le_of_ble_eq_true rfl) dX12_many_59) rfl (fun r59 => ?_)
        refine X_ruI (Ru_S (st := []) cs_X12_424 (c_X12_ones G M r59) (by decide) rfl rfl (Nat.le_of_ble_eq_true rfl) dX12_many_62) rfl (fun r62 => ?_)
        exact X_iretI rfl dX12_many_65
      · skip
        refine X_if (fun e1_3 => ?_) (fun e1_3 => ?_)
        · refine X_tsIn (tgt := 66) dX12_many_1 (by rw [e1_3]; decide) (by rw [e1_3]; decide) (by rw [e1_3]; rfl) rfl ?_
          refine X_aload_n (a := 0) dX12_many_66 rfl rfl rfl ?_
          refine X_getR (t := 95) fl_X12_7 rfl rfl dX12_many_67 rfl ?_
          refine X_bipush (w := 6) dX12_many_70 kb_6 rfl ?_
          refine X_iald rfl rfl dX12_many_72 rfl ?_
          exact X_iretI rfl dX12_many_73
        · skip
          refine X_if (fun e1_4 => ?_) (fun e1_4 => ?_)
          · refine X_tsIn (tgt := 74) dX12_many_1 (by rw [e1_4]; decide) (by rw [e1_4]; decide) (by rw [e1_4]; rfl) rfl ?_
            refine X_aload_n (a := 0) dX12_many_74 rfl rfl rfl ?_
            refine X_getI fl_X12_382 rfl dX12_many_75 rfl ?_
            exact X_iretI rfl dX12_many_78
          · skip
            refine X_if (fun e1_5 => ?_) (fun e1_5 => ?_)
            · refine X_tsIn (tgt := 79) dX12_many_1 (by rw [e1_5]; decide) (by rw [e1_5]; decide) (by rw [e1_5]; rfl) rfl ?_
              refine X_aload_n (a := 0) dX12_many_79 rfl rfl rfl ?_
              refine X_getI fl_X12_171 rfl dX12_many_80 rfl ?_
              exact X_iretI rfl dX12_many_83
            · skip
              refine X_if (fun e1_6 => ?_) (fun e1_6 => ?_)
              · refine X_tsIn (tgt := 84) dX12_many_1 (by rw [e1_6]; decide) (by rw [e1_6]; decide) (by rw [e1_6]; rfl) rfl ?_
                refine X_aload_n (a := 0) dX12_many_84 rfl rfl rfl ?_
                refine X_getI fl_X12_400 rfl dX12_many_85 rfl ?_
                exact X_iretI rfl dX12_many_88
              · skip
                refine X_tsOut (tgt := 89) dX12_many_1 (by have ne1_0 := ne_toInt e1_0 (n := 0) (by decide); have ne1_1 := ne_toInt e1_1 (n := 1) (by decide); have ne1_2 := ne_toInt e1_2 (n := 2) (by decide); have ne1_3 := ne_toInt e1_3 (n := 3) (by decide); have ne1_4 := ne_toInt e1_4 (n := 4) (by decide); have ne1_5 := ne_toInt e1_5 (n := 5) (by decide); have ne1_6 := ne_toInt e1_6 (n := 6) (by decide); omega) rfl ?_
                refine X_iconst (w := (-1)) dX12_many_89 ki_m1 rfl ?_
                exact X_iretI rfl dX12_many_90
set_option maxRecDepth 100000 in
theorem x_X12_keep_L2 (G : Gm) : ∀ (n : Nat) (M : Mm) (v1 : Int32), X fJ G miX12_keep (0) 2 [(0, .ref (ga G 94)), (1, .int v1)] [] M (F_X12_keep_L2 n M v1) := by
  intro n
  induction n with
  | zero => intro M v1; exact X_none
  | succ n ih =>
    intro M v1
    rw [F_X12_keep_L2]
    refine X_iload_n (a := 1) dX12_keep_2 rfl rfl rfl ?_
    refine X_sipush (w := 361) dX12_keep_3 ks_361 rfl ?_
    refine X_icmp_ge (tgt := 27) dX12_keep_6 rfl rfl (fun e6 => ?_) (fun e6 => ?_)
    · refine X_aload_n (a := 0) dX12_keep_27 rfl rfl rfl ?_
      refine X_iconst (w := 1) dX12_keep_28 ki_1 rfl ?_
      refine X_putZ fp_X12_427 rfl dX12_keep_29 rfl ?_
      refine X_iconst (w := 1) dX12_keep_32 ki_1 rfl ?_
      exact X_iretJ rfl dX12_keep_33
    · refine X_aload_n (a := 0) dX12_keep_9 rfl rfl rfl ?_
      refine X_getR (t := 96) fl_X12_13 rfl rfl dX12_keep_10 rfl ?_
      refine X_iload_n (a := 1) dX12_keep_13 rfl rfl rfl ?_
      refine X_aload_n (a := 0) dX12_keep_14 rfl rfl rfl ?_
      refine X_getR (t := 95) fl_X12_7 rfl rfl dX12_keep_15 rfl ?_
      refine X_iload_n (a := 1) dX12_keep_18 rfl rfl rfl ?_
      refine X_iald rfl rfl dX12_keep_19 rfl ?_
      refine X_iast rfl rfl dX12_keep_20 rfl ?_
      refine X_iinc (a := 1) (lv2 := [(1, .int (v1 + 1)), (0, .ref (ga G 94))]) dX12_keep_21 rfl (ii_1 _) (by decide) rfl rfl ?_
      refine X_goto (tgt := 2) dX12_keep_24 rfl ?_
      exact X_lv [1, 0] rfl (ih (si M 96 (ui v1) (gi M 95 (ui v1))) (v1 + 1))
set_option maxRecDepth 100000 in
theorem c_X12_keep (G : Gm) (M : Mm) : Ct fJ G miX12_keep (0) [.ref (ga G 94)] M (F_X12_keep M) := by
  refine Ct_of (pn_X12) (Nat.le_of_ble_eq_true rfl) ?_
  refine X_lv [0] (lv' := [(0, .ref (ga G 94))]) rfl ?_
  unfold F_X12_keep
  refine X_iconst (w := 0) dX12_keep_0 ki_0 rfl ?_
  refine X_istore_n (lv2 := [(1, .int 0), (0, .ref (ga G 94))]) dX12_keep_1 rfl (by decide) rfl rfl ?_
  exact X_lv [1, 0] rfl (x_X12_keep_L2 G 1000 M 0)
set_option maxRecDepth 100000 in
theorem x_X12_again_L12 (G : Gm) : ∀ (n : Nat) (M : Mm) (v1 : Int32), X fJ G miX12_again (0) 12 [(0, .ref (ga G 94)), (1, .int v1)] [] M (F_X12_again_L12 n M v1) := by
  intro n
  induction n with
  | zero => intro M v1; exact X_none
  | succ n ih =>
    intro M v1
    rw [F_X12_again_L12]
    refine X_iload_n (a := 1) dX12_again_12 rfl rfl rfl ?_
    refine X_sipush (w := 361) dX12_again_13 ks_361 rfl ?_
    refine X_icmp_ge (tgt := 37) dX12_again_16 rfl rfl (fun e16 => ?_) (fun e16 => ?_)
    · refine X_aload_n (a := 0) dX12_again_37 rfl rfl rfl ?_
      refine X_getR (t := 95) fl_X12_7 rfl rfl dX12_again_38 rfl ?_
      refine X_iconst (w := 0) dX12_again_41 ki_0 rfl ?_
      refine X_iald rfl rfl dX12_again_42 rfl ?_
      exact X_iretJ rfl dX12_again_43
    · refine X_aload_n (a := 0) dX12_again_19 rfl rfl rfl ?_
      refine X_getR (t := 95) fl_X12_7 rfl rfl dX12_again_20 rfl ?_
      refine X_iload_n (a := 1) dX12_again_23 rfl rfl rfl ?_
      refine X_aload_n (a := 0) dX12_again_24 rfl rfl rfl ?_
      refine X_getR (t := 96) fl_X12_13 rfl rfl dX12_again_25 rfl ?_
      refine X_iload_n (a := 1) dX12_again_28 rfl rfl rfl ?_
      refine X_iald rfl rfl dX12_again_29 rfl ?_
      refine X_iast rfl rfl dX12_again_30 rfl ?_
      refine X_iinc (a := 1) (lv2 := [(1, .int (v1 + 1)), (0, .ref (ga G 94))]) dX12_again_31 rfl (ii_1 _) (by decide) rfl rfl ?_
      refine X_goto (tgt := 12) dX12_again_34 rfl ?_
      exact X_lv [1, 0] rfl (ih (si M 95 (ui v1) (gi M 96 (ui v1))) (v1 + 1))
set_option maxRecDepth 100000 in
theorem c_X12_again (G : Gm) (M : Mm) : Ct fJ G miX12_again (0) [.ref (ga G 94)] M (F_X12_again M) := by
  refine Ct_of (pn_X12) (Nat.le_of_ble_eq_true rfl) ?_
  refine X_lv [0] (lv' := [(0, .ref (ga G 94))]) rfl ?_
  unfold F_X12_again
  refine X_aload_n (a := 0) dX12_again_0 rfl rfl rfl ?_
  refine X_getI fl_X12_427 rfl dX12_again_1 rfl ?_
  refine X_if_ne (tgt := 10) dX12_again_4 rfl rfl (fun e4 => ?_) (fun e4 => ?_)
  · refine X_iconst (w := 0) dX12_again_10 ki_0 rfl ?_
    refine X_istore_n (lv2 := [(1, .int 0), (0, .ref (ga G 94))]) dX12_again_11 rfl (by decide) rfl rfl ?_
    exact X_lv [1, 0] rfl (x_X12_again_L12 G 1000 M 0)
  · refine X_bipush (w := (-3)) dX12_again_7 kb_m3 rfl ?_
    exact X_iretJ rfl dX12_again_9

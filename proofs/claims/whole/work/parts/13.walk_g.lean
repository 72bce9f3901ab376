set_option maxRecDepth 100000 in
theorem c_X12_isPlan (G : Gm) (M : Mm) (v0 : Int32) : Ct (fI M) G miX12_isPlan (1) [.int v0] M (F_X12_isPlan v0) := by
  refine Ct_of (pn_X12) (Nat.le_of_ble_eq_true rfl) ?_
  refine X_lv [0] (lv' := [(0, .int v0)]) rfl ?_
  unfold F_X12_isPlan
  refine X_iload_n (a := 0) dX12_isPlan_0 rfl rfl rfl ?_
  refine X_i2l dX12_isPlan_1 rfl rfl ?_
  refine X_lconst (w := 0) dX12_isPlan_2 kl_0 rfl ?_
  refine X_ldc2 (w := 4) dX12_isPlan_3 t_1591 rfl ?_
  refine X_ruI (Ru_S (st := []) cs_X12_61 (c_X12_in G M (Int32.toInt64 v0) 0 4) (by decide) rfl rfl (Nat.le_of_ble_eq_true rfl) dX12_isPlan_6) rfl (fun r6 => ?_)
  exact X_zretI rfl dX12_isPlan_9
set_option maxRecDepth 100000 in
theorem c_X12_longOf (G : Gm) (M : Mm) (v1 : Int32) : Ct (fI M) G miX12_longOf (1) [.ref (ga G 94), .int v1] M (F_X12_longOf M v1) := by
  refine Ct_of (pn_X12) (Nat.le_of_ble_eq_true rfl) ?_
  refine X_lv [0, 1] (lv' := [(0, .ref (ga G 94)), (1, .int v1)]) rfl ?_
  unfold F_X12_longOf
  refine X_iload_n (a := 1) dX12_longOf_0 rfl rfl rfl ?_
  refine X_iconst (w := 0) dX12_longOf_1 ki_0 rfl ?_
  refine X_aload_n (a := 0) dX12_longOf_2 rfl rfl rfl ?_
  refine X_getR (t := 95) fl_X12_7 rfl rfl dX12_longOf_3 rfl ?_
  refine X_iconst (w := 2) dX12_longOf_6 ki_2 rfl ?_
  refine X_iald rfl rfl dX12_longOf_7 rfl ?_
  refine X_aload_n (a := 0) dX12_longOf_8 rfl rfl rfl ?_
  refine X_getR (t := 95) fl_X12_7 rfl rfl dX12_longOf_9 rfl ?_
  refine X_iconst (w := 1) dX12_longOf_12 ki_1 rfl ?_
  refine X_iald rfl rfl dX12_longOf_13 rfl ?_
  refine X_isub dX12_longOf_14 rfl ?_
  refine X_iconst (w := 0) dX12_longOf_15 ki_0 rfl ?_
  refine X_bipush (w := 16) dX12_longOf_16 kb_16 rfl ?_
  refine X_ruI (Ru_S (st := [.int 0, .int v1]) cs_X12_76 (c_X12_held G M ((gi M 95 (ui 2)) - (gi M 95 (ui 1))) 0 16) (by decide) rfl rfl (Nat.le_of_ble_eq_true rfl) dX12_longOf_18) rfl (fun r18 => ?_)
  refine X_ruI (Ru_S (st := []) cs_X12_76 (c_X12_held G M v1 0 r18) (by decide) rfl rfl (Nat.le_of_ble_eq_true rfl) dX12_longOf_21) rfl (fun r21 => ?_)
  exact X_iretI rfl dX12_longOf_24
set_option maxRecDepth 100000 in
theorem x_X12_plansOf_L4 (G : Gm) (M : Mm) (v1 : Int32) : ∀ (n : Nat) (v2 : Int32) (v3 : Int32), X (fI M) G miX12_plansOf (2) 4 [(0, .ref (ga G 94)), (1, .int v1), (2, .int v2), (3, .int v3)] [] M (F_X12_plansOf_L4 M v1 n v2 v3) := by
  intro n
  induction n with
  | zero => intro v2 v3; exact X_none
  | succ n ih =>
    intro v2 v3
    rw [F_X12_plansOf_L4]
    refine X_iload_n (a := 3) dX12_plansOf_4 rfl rfl rfl ?_
    refine X_aload_n (a := 0) dX12_plansOf_5 rfl rfl rfl ?_
    refine X_iload_n (a := 1) dX12_plansOf_6 rfl rfl rfl ?_
    refine X_ruI (Ru_V (st := [.int v3]) cv_X12_318 rfl (c_X12_longOf G M v1) (by decide) rfl rfl (Nat.le_of_ble_eq_true rfl) dX12_plansOf_7) rfl (fun r7 => ?_)
    refine X_icmp_ge (tgt := 30) dX12_plansOf_10 rfl rfl (fun e10 => ?_) (fun e10 => ?_)
    · refine X_iload_n (a := 2) dX12_plansOf_30 rfl rfl rfl ?_
      exact X_iretI rfl dX12_plansOf_31
    · refine X_iload_n (a := 2) dX12_plansOf_13 rfl rfl rfl ?_
      refine X_aload_n (a := 0) dX12_plansOf_14 rfl rfl rfl ?_
      refine X_getR (t := 95) fl_X12_7 rfl rfl dX12_plansOf_15 rfl ?_
      refine X_iconst (w := 0) dX12_plansOf_18 ki_0 rfl ?_
      refine X_iald rfl rfl dX12_plansOf_19 rfl ?_
      refine X_iconst (w := 1) dX12_plansOf_20 ki_1 rfl ?_
      refine X_iadd dX12_plansOf_21 rfl ?_
      refine X_imul dX12_plansOf_22 rfl ?_
      refine X_istore_n (lv2 := [(2, .int (v2 * ((gi M 95 (ui 0)) + 1))), (0, .ref (ga G 94)), (1, .int v1), (3, .int v3)]) dX12_plansOf_23 rfl (by decide) rfl rfl ?_
      refine X_iinc (a := 3) (lv2 := [(3, .int (v3 + 1)), (2, .int (v2 * ((gi M 95 (ui 0)) + 1))), (0, .ref (ga G 94)), (1, .int v1)]) dX12_plansOf_24 rfl (ii_1 _) (by decide) rfl rfl ?_
      refine X_goto (tgt := 4) dX12_plansOf_27 rfl ?_
      exact X_lv [2, 3, 1, 0] rfl (ih (v2 * ((gi M 95 (ui 0)) + 1)) (v3 + 1))
set_option maxRecDepth 100000 in
theorem c_X12_plansOf (G : Gm) (M : Mm) (v1 : Int32) : Ct (fI M) G miX12_plansOf (2) [.ref (ga G 94), .int v1] M (F_X12_plansOf M v1) := by
  refine Ct_of (pn_X12) (Nat.le_of_ble_eq_true rfl) ?_
  refine X_lv [0, 1] (lv' := [(0, .ref (ga G 94)), (1, .int v1)]) rfl ?_
  unfold F_X12_plansOf
  refine X_iconst (w := 1) dX12_plansOf_0 ki_1 rfl ?_
  refine X_istore_n (lv2 := [(2, .int 1), (0, .ref (ga G 94)), (1, .int v1)]) dX12_plansOf_1 rfl (by decide) rfl rfl ?_
  refine X_iconst (w := 0) dX12_plansOf_2 ki_0 rfl ?_
  refine X_istore_n (lv2 := [(3, .int 0), (2, .int 1), (0, .ref (ga G 94)), (1, .int v1)]) dX12_plansOf_3 rfl (by decide) rfl rfl ?_
  exact X_lv [2, 3, 1, 0] rfl (x_X12_plansOf_L4 G M v1 1000 1 0)
set_option maxRecDepth 100000 in
theorem x_X12_actsOf_L7 (G : Gm) : ∀ (n : Nat) (M : Mm) (v3 : Int32) (v4 : Int32), X fV G miX12_actsOf (0) 7 [(0, .ref (ga G 94)), (3, .int v3), (4, .int v4)] [] M (F_X12_actsOf_L7 n M v3 v4) := by
  intro n
  induction n with
  | zero => intro M v3 v4; exact X_none
  | succ n ih =>
    intro M v3 v4
    rw [F_X12_actsOf_L7]
    refine X_iload (a := 2) dX12_actsOf_7 rfl rfl ?_
    refine X_if_lt (tgt := 46) dX12_actsOf_9 rfl rfl (fun e9 => ?_) (fun e9 => ?_)
    · exact X_vret rfl dX12_actsOf_46
    · refine X_aload_n (a := 0) dX12_actsOf_12 rfl rfl rfl ?_
      refine X_getR (t := 103) fl_X12_34 rfl rfl dX12_actsOf_13 rfl ?_
      refine X_iload (a := 2) dX12_actsOf_16 rfl rfl ?_
      refine X_iload_n (a := 1) dX12_actsOf_18 rfl rfl rfl ?_
      refine X_aload_n (a := 0) dX12_actsOf_19 rfl rfl rfl ?_
      refine X_getR (t := 95) fl_X12_7 rfl rfl dX12_actsOf_20 rfl ?_
      refine X_iconst (w := 0) dX12_actsOf_23 ki_0 rfl ?_
      refine X_iald rfl rfl dX12_actsOf_24 rfl ?_
      refine X_iconst (w := 1) dX12_actsOf_25 ki_1 rfl ?_
      refine X_iadd dX12_actsOf_26 rfl ?_
      refine X_nz (fun h27 => ?_)
      refine X_irem dX12_actsOf_27 h27 rfl ?_
      refine X_iast rfl rfl dX12_actsOf_28 rfl ?_
      refine X_iload_n (a := 1) dX12_actsOf_29 rfl rfl rfl ?_
      refine X_aload_n (a := 0) dX12_actsOf_30 rfl rfl rfl ?_
      refine X_getR (t := 95) fl_X12_7 rfl rfl dX12_actsOf_31 rfl ?_
      refine X_iconst (w := 0) dX12_actsOf_34 ki_0 rfl ?_
      refine X_iald rfl rfl dX12_actsOf_35 rfl ?_
      refine X_iconst (w := 1) dX12_actsOf_36 ki_1 rfl ?_
      refine X_iadd dX12_actsOf_37 rfl ?_
      refine X_nz (fun h38 => ?_)
      refine X_idiv dX12_actsOf_38 h38 rfl ?_
      refine X_istore_n (lv2 := [(3, .int (v3 / ((gi (si M 103 (ui v4) (ir v3 ((gi M 95 (ui 0)) + 1))) 95 (ui 0)) + 1))), (0, .ref (ga G 94)), (4, .int v4)]) dX12_actsOf_39 rfl (by decide) rfl rfl ?_
      refine X_iinc (a := 2) (lv2 := [(4, .int (v4 + (-1))), (3, .int (v3 / ((gi (si M 103 (ui v4) (ir v3 ((gi M 95 (ui 0)) + 1))) 95 (ui 0)) + 1))), (0, .ref (ga G 94))]) dX12_actsOf_40 rfl (ii_m1 _) (by decide) rfl rfl ?_
      refine X_goto (tgt := 7) dX12_actsOf_43 rfl ?_
      exact X_lv [2, 1, 0] rfl (ih (si M 103 (ui v4) (ir v3 ((gi M 95 (ui 0)) + 1))) (v3 / ((gi (si M 103 (ui v4) (ir v3 ((gi M 95 (ui 0)) + 1))) 95 (ui 0)) + 1)) (v4 + (-1)))
set_option maxRecDepth 100000 in
theorem c_X12_actsOf (G : Gm) (M : Mm) (v1 : Int32) (v2 : Int32) : Ct fV G miX12_actsOf (0) [.ref (ga G 94), .int v1, .int v2] M (F_X12_actsOf M v1 v2) := by
  refine Ct_of (pn_X12) (Nat.le_of_ble_eq_true rfl) ?_
  refine X_lv [0, 1, 2] (lv' := [(0, .ref (ga G 94)), (1, .int v1), (2, .int v2)]) rfl ?_
  unfold F_X12_actsOf
  refine X_iload_n (a := 1) dX12_actsOf_0 rfl rfl rfl ?_
  refine X_istore_n (lv2 := [(3, .int v1), (0, .ref (ga G 94)), (1, .int v1), (2, .int v2)]) dX12_actsOf_1 rfl (by decide) rfl rfl ?_
  refine X_iload_n (a := 3) dX12_actsOf_2 rfl rfl rfl ?_
  refine X_iconst (w := 1) dX12_actsOf_3 ki_1 rfl ?_
  refine X_isub dX12_actsOf_4 rfl ?_
  refine X_istore (lv2 := [(4, .int (v2 - 1)), (3, .int v1), (0, .ref (ga G 94)), (1, .int v1), (2, .int v2)]) dX12_actsOf_5 (by decide) rfl rfl ?_
  exact X_lv [2, 1, 0] rfl (x_X12_actsOf_L7 G 1000 M v1 (v2 - 1))
set_option maxRecDepth 100000 in
theorem x_X12_findBest_L43 (G : Gm) (v2 : Int32) (v3 : Int32) (v4 : Int32) (k24 : Mm → Int32 → Option Mm) (hk24 : ∀ (M : Mm) (v4 : Int32), X fV G miX12_findBest (7) 24 [(0, .ref (ga G 94)), (2, .int v2), (3, .int v3), (4, .int v4)] [] M (k24 M v4)) : ∀ (n : Nat) (M : Mm) (v5 : Int32) (v6 : Int32), X fV G miX12_findBest (7) 43 [(0, .ref (ga G 94)), (2, .int v2), (3, .int v3), (4, .int v4), (5, .int v5), (6, .int v6)] [] M (F_X12_findBest_L43 k24 v2 v3 v4 n M v5 v6) := by
  intro n
  induction n with
  | zero => intro M v5 v6; exact X_none
  | succ n ih =>
    intro M v5 v6
    rw [F_X12_findBest_L43]
    refine X_iload (a := 5) dX12_findBest_43 rfl rfl ?_
    refine X_iload_n (a := 1) dX12_findBest_45 rfl rfl rfl ?_
    refine X_icmp_ge (tgt := 71) dX12_findBest_46 rfl rfl (fun e46 => ?_) (fun e46 => ?_)
    · refine X_aload_n (a := 0) dX12_findBest_71 rfl rfl rfl ?_
      refine X_ruV (Ru_V (st := []) cv_X12_69 rfl (c_X12_back G M) (by decide) rfl rfl (Nat.le_of_ble_eq_true rfl) dX12_findBest_72) rfl (fun r72 => ?_)
      refine X_aload_n (a := 0) dX12_findBest_75 rfl rfl rfl ?_
      refine X_iload (a := 4) dX12_findBest_76 rfl rfl ?_
      refine X_aload_n (a := 0) dX12_findBest_78 rfl rfl rfl ?_
      refine X_getI fl_X12_324 rfl dX12_findBest_79 rfl ?_
      refine X_jc (P := fun j => ∀ (x94_0 : Int32), X fV G miX12_findBest (7) 94 [(0, .ref (ga G 94)), (2, .int v2), (3, .int v3), (4, .int v4), (5, .int v5)] [.int x94_0, .ref (ga G 94)] r72 (j x94_0)) (fun x94_0 => ?_) (fun j94 hj94 => ?_)
      · refine X_putI fp_X12_331 rfl dX12_findBest_94 rfl ?_
        refine X_aload_n (a := 0) dX12_findBest_97 rfl rfl rfl ?_
        refine X_iload (a := 4) dX12_findBest_98 rfl rfl ?_
        refine X_aload_n (a := 0) dX12_findBest_100 rfl rfl rfl ?_
        refine X_getI fl_X12_324 rfl dX12_findBest_101 rfl ?_
        refine X_jc (P := fun j => ∀ (x133_0 : Int32), X fV G miX12_findBest (7) 133 [(0, .ref (ga G 94)), (2, .int v2), (3, .int v3), (4, .int v4), (5, .int v5)] [.int x133_0, .ref (ga G 94)] (si r72 94 21 x94_0) (j x133_0)) (fun x133_0 => ?_) (fun j133 hj133 => ?_)
        · refine X_putI fp_X12_334 rfl dX12_findBest_133 rfl ?_
          refine X_aload_n (a := 0) dX12_findBest_136 rfl rfl rfl ?_
          refine X_iload (a := 4) dX12_findBest_137 rfl rfl ?_
          refine X_aload_n (a := 0) dX12_findBest_139 rfl rfl rfl ?_
          refine X_getI fl_X12_324 rfl dX12_findBest_140 rfl ?_
          refine X_jc (P := fun j => ∀ (x155_0 : Int32), X fV G miX12_findBest (7) 155 [(0, .ref (ga G 94)), (2, .int v2), (3, .int v3), (4, .int v4)] [.int x155_0, .ref (ga G 94)] (si (si r72 94 21 x94_0) 94 22 x133_0) (j x155_0)) (fun x155_0 => ?_) (fun j155 hj155 => ?_)
          · refine X_putI fp_X12_324 rfl dX12_findBest_155 rfl ?_
            refine X_iinc (a := 3) (lv2 := [(4, .int (v4 + 1)), (0, .ref (ga G 94)), (2, .int v2), (3, .int v3)]) dX12_findBest_158 rfl (ii_1 _) (by decide) rfl rfl ?_
            refine X_goto (tgt := 24) dX12_findBest_161 rfl ?_
            exact X_lv [1, 2, 3, 0] rfl (hk24 (si (si (si r72 94 21 x94_0) 94 22 x133_0) 94 20 x155_0) (v4 + 1))
          refine X_icmp_le (tgt := 151) dX12_findBest_143 rfl rfl (fun e143 => ?_) (fun e143 => ?_)
          · refine X_aload_n (a := 0) dX12_findBest_151 rfl rfl rfl ?_
            refine X_getI fl_X12_324 rfl dX12_findBest_152 rfl ?_
            exact X_lv [0, 1, 2, 3] rfl (hj155 (gi (si (si r72 94 21 x94_0) 94 22 x133_0) 94 20))
          · refine X_iload (a := 4) dX12_findBest_146 rfl rfl ?_
            refine X_goto (tgt := 155) dX12_findBest_148 rfl ?_
            exact X_lv [0, 1, 2, 3] rfl (hj155 v5)
        refine X_icmp_le (tgt := 111) dX12_findBest_104 rfl rfl (fun e104 => ?_) (fun e104 => ?_)
        · refine X_iload (a := 4) dX12_findBest_111 rfl rfl ?_
          refine X_aload_n (a := 0) dX12_findBest_113 rfl rfl rfl ?_
          refine X_getI fl_X12_324 rfl dX12_findBest_114 rfl ?_
          refine X_icmp_ne (tgt := 129) dX12_findBest_117 rfl rfl (fun e117 => ?_) (fun e117 => ?_)
          · refine X_aload_n (a := 0) dX12_findBest_129 rfl rfl rfl ?_
            refine X_getI fl_X12_334 rfl dX12_findBest_130 rfl ?_
            exact X_lv [0, 1, 2, 3, 4] rfl (hj133 (gi (si r72 94 21 x94_0) 94 22))
          · refine X_aload_n (a := 0) dX12_findBest_120 rfl rfl rfl ?_
            refine X_getI fl_X12_334 rfl dX12_findBest_121 rfl ?_
            refine X_iconst (w := 1) dX12_findBest_124 ki_1 rfl ?_
            refine X_iadd dX12_findBest_125 rfl ?_
            refine X_goto (tgt := 133) dX12_findBest_126 rfl ?_
            exact X_lv [0, 1, 2, 3, 4] rfl (hj133 ((gi (si r72 94 21 x94_0) 94 22) + 1))
        · refine X_iconst (w := 1) dX12_findBest_107 ki_1 rfl ?_
          refine X_goto (tgt := 133) dX12_findBest_108 rfl ?_
          exact X_lv [0, 1, 2, 3, 4] rfl (hj133 1)
      refine X_icmp_le (tgt := 90) dX12_findBest_82 rfl rfl (fun e82 => ?_) (fun e82 => ?_)
      · refine X_aload_n (a := 0) dX12_findBest_90 rfl rfl rfl ?_
        refine X_getI fl_X12_331 rfl dX12_findBest_91 rfl ?_
        exact X_lv [0, 1, 2, 3, 4] rfl (hj94 (gi r72 94 21))
      · refine X_iload (a := 3) dX12_findBest_85 rfl rfl ?_
        refine X_goto (tgt := 94) dX12_findBest_87 rfl ?_
        exact X_lv [0, 1, 2, 3, 4] rfl (hj94 v4)
    · refine X_iload (a := 4) dX12_findBest_49 rfl rfl ?_
      refine X_aload_n (a := 0) dX12_findBest_51 rfl rfl rfl ?_
      refine X_aload_n (a := 0) dX12_findBest_52 rfl rfl rfl ?_
      refine X_getR (t := 103) fl_X12_34 rfl rfl dX12_findBest_53 rfl ?_
      refine X_iload (a := 5) dX12_findBest_56 rfl rfl ?_
      refine X_iald rfl rfl dX12_findBest_58 rfl ?_
      refine X_ruJ (Ru_V (st := [.int v5]) cv_X12_144 rfl (c_X12_tideGoes G M (gi M 103 (ui v6))) (by decide) rfl rfl (Nat.le_of_ble_eq_true rfl) dX12_findBest_59) rfl (fun r59 => ?_)
      refine X_iadd dX12_findBest_62 rfl ?_
      refine X_istore (lv2 := [(5, .int (v5 + r59.1)), (0, .ref (ga G 94)), (2, .int v2), (3, .int v3), (4, .int v4), (6, .int v6)]) dX12_findBest_63 (by decide) rfl rfl ?_
      refine X_iinc (a := 5) (lv2 := [(6, .int (v6 + 1)), (5, .int (v5 + r59.1)), (0, .ref (ga G 94)), (2, .int v2), (3, .int v3), (4, .int v4)]) dX12_findBest_65 rfl (ii_1 _) (by decide) rfl rfl ?_
      refine X_goto (tgt := 43) dX12_findBest_68 rfl ?_
      exact X_lv [2, 3, 4, 5, 1, 0] rfl (ih r59.2 (v5 + r59.1) (v6 + 1))
set_option maxRecDepth 100000 in
theorem x_X12_findBest_L24 (G : Gm) (v2 : Int32) (v3 : Int32) : ∀ (n : Nat) (M : Mm) (v4 : Int32), X fV G miX12_findBest (7) 24 [(0, .ref (ga G 94)), (2, .int v2), (3, .int v3), (4, .int v4)] [] M (F_X12_findBest_L24 v2 v3 n M v4) := by
  intro n
  induction n with
  | zero => intro M v4; exact X_none
  | succ n ih =>
    intro M v4
    rw [F_X12_findBest_L24]
    refine X_iload (a := 3) dX12_findBest_24 rfl rfl ?_
    refine X_iload_n (a := 2) dX12_findBest_26 rfl rfl rfl ?_
    refine X_icmp_ge (tgt := 164) dX12_findBest_27 rfl rfl (fun e27 => ?_) (fun e27 => ?_)
    · refine X_aload_n (a := 0) dX12_findBest_164 rfl rfl rfl ?_
      refine X_ruV (Ru_V (st := []) cv_X12_303 rfl (c_X12_takes G M) (by decide) rfl rfl (Nat.le_of_ble_eq_true rfl) dX12_findBest_165) rfl (fun r165 => ?_)
      exact X_vret rfl dX12_findBest_168
    · refine X_aload_n (a := 0) dX12_findBest_30 rfl rfl rfl ?_
      refine X_iload (a := 3) dX12_findBest_31 rfl rfl ?_
      refine X_iload_n (a := 1) dX12_findBest_33 rfl rfl rfl ?_
      refine X_ruV (Ru_V (st := []) cv_X12_327 rfl (c_X12_actsOf G M v4 v2) (by decide) rfl rfl (Nat.le_of_ble_eq_true rfl) dX12_findBest_34) rfl (fun r34 => ?_)
      refine X_iconst (w := 0) dX12_findBest_37 ki_0 rfl ?_
      refine X_istore (lv2 := [(5, .int 0), (0, .ref (ga G 94)), (2, .int v2), (3, .int v3), (4, .int v4)]) dX12_findBest_38 (by decide) rfl rfl ?_
      refine X_iconst (w := 0) dX12_findBest_40 ki_0 rfl ?_
      refine X_istore (lv2 := [(6, .int 0), (5, .int 0), (0, .ref (ga G 94)), (2, .int v2), (3, .int v3), (4, .int v4)]) dX12_findBest_41 (by decide) rfl rfl ?_
      exact X_lv [2, 3, 4, 5, 1, 0] rfl (x_X12_findBest_L43 G v2 v3 v4 (F_X12_findBest_L24 v2 v3 n) ih 1000 r34 0 0)
set_option maxRecDepth 100000 in
theorem c_X12_findBest (G : Gm) (M : Mm) (v1 : Int32) : Ct fV G miX12_findBest (7) [.ref (ga G 94), .int v1] M (F_X12_findBest M v1) := by
  refine Ct_of (pn_X12) (Nat.le_of_ble_eq_true rfl) ?_
  refine X_lv [0, 1] (lv' := [(0, .ref (ga G 94)), (1, .int v1)]) rfl ?_
  unfold F_X12_findBest
  refine X_aload_n (a := 0) dX12_findBest_0 rfl rfl rfl ?_
  refine X_iload_n (a := 1) dX12_findBest_1 rfl rfl rfl ?_
  refine X_ruI (Ru_V (st := []) cv_X12_318 rfl (c_X12_longOf G M v1) (by decide) rfl rfl (Nat.le_of_ble_eq_true rfl) dX12_findBest_2) rfl (fun r2 => ?_)
  refine X_istore_n (lv2 := [(2, .int r2), (0, .ref (ga G 94)), (1, .int v1)]) dX12_findBest_5 rfl (by decide) rfl rfl ?_
  refine X_aload_n (a := 1) dX12_findBest_6 rfl rfl rfl ?_
  refine X_iload_n (a := 2) dX12_findBest_7 rfl rfl rfl ?_
  refine X_ruI (Ru_V (st := []) cv_X12_321 rfl (c_X12_plansOf G M v1) (by decide) rfl rfl (Nat.le_of_ble_eq_true rfl) dX12_findBest_8) rfl (fun r8 => ?_)
  refine X_istore_n (lv2 := [(3, .int r8), (2, .int r2), (0, .ref (ga G 94)), (1, .int v1)]) dX12_findBest_11 rfl (by decide) rfl rfl ?_
  refine X_aload_n (a := 2) dX12_findBest_12 rfl rfl rfl ?_
  refine X_iconst (w := (-1)) dX12_findBest_13 ki_m1 rfl ?_
  refine X_putI fp_X12_324 rfl dX12_findBest_14 rfl ?_
  refine X_aload_n (a := 2) dX12_findBest_17 rfl rfl rfl ?_
  refine X_ruV (Ru_V (st := []) cv_X12_297 rfl (c_X12_puts G (si M 94 20 (-1))) (by decide) rfl rfl (Nat.le_of_ble_eq_true rfl) dX12_findBest_18) rfl (fun r18 => ?_)
  refine X_iconst (w := 0) dX12_findBest_21 ki_0 rfl ?_
  refine X_istore (lv2 := [(4, .int 0), (3, .int r8), (2, .int r2), (0, .ref (ga G 94)), (1, .int v1)]) dX12_findBest_22 (by decide) rfl rfl ?_
  exact X_lv [3, 2, 1, 0] rfl (x_X12_findBest_L24 G r2 r8 3000 r18 0)
set_option maxRecDepth 100000 in
theorem c_X12_best (G : Gm) (M : Mm) (v1 : Int32) : Ct fJ G miX12_best (8) [.ref (ga G 94), .int v1] M (F_X12_best M v1) := by
  refine Ct_of (pn_X12) (Nat.le_of_ble_eq_true rfl) ?_
  refine X_lv [0, 1] (lv' := [(0, .ref (ga G 94)), (1, .int v1)]) rfl ?_
  unfold F_X12_best
  refine X_iload_n (a := 1) dX12_best_0 rfl rfl rfl ?_
  refine X_ruI (Ru_S (st := []) cs_X12_337 (c_X12_isPlan G M v1) (by decide) rfl rfl (Nat.le_of_ble_eq_true rfl) dX12_best_1) rfl (fun r1 => ?_)
  refine X_if_ne (tgt := 9) dX12_best_4 rfl rfl (fun e4 => ?_) (fun e4 => ?_)
  · refine X_aload_n (a := 0) dX12_best_9 rfl rfl rfl ?_
    refine X_iload_n (a := 1) dX12_best_10 rfl rfl rfl ?_
    refine X_ruV (Ru_V (st := []) cv_X12_340 rfl (c_X12_findBest G M v1) (by decide) rfl rfl (Nat.le_of_ble_eq_true rfl) dX12_best_11) rfl (fun r11 => ?_)
    refine X_aload_n (a := 0) dX12_best_14 rfl rfl rfl ?_
    refine X_getI fl_X12_324 rfl dX12_best_15 rfl ?_
    exact X_iretJ rfl dX12_best_18
  · refine X_iconst (w := (-1)) dX12_best_7 ki_m1 rfl ?_
    exact X_iretJ rfl dX12_best_8
set_option maxRecDepth 100000 in
theorem c_X12_ith (G : Gm) (M : Mm) (v1 : Int32) (v2 : Int32) : Ct fJ G miX12_ith (8) [.ref (ga G 94), .int v1, .int v2] M (F_X12_ith M v1 v2) := by
  refine Ct_of (pn_X12) (Nat.le_of_ble_eq_true rfl) ?_
  refine X_lv [0, 1, 2] (lv' := [(0, .ref (ga G 94)), (1, .int v1), (2, .int v2)]) rfl ?_
  unfold F_X12_ith
  refine X_iload_n (a := 1) dX12_ith_0 rfl rfl rfl ?_
  refine X_ruI (Ru_S (st := []) cs_X12_337 (c_X12_isPlan G M v1) (by decide) rfl rfl (Nat.le_of_ble_eq_true rfl) dX12_ith_1) rfl (fun r1 => ?_)
  refine X_if_eq (tgt := 19) dX12_ith_4 rfl rfl (fun e4 => ?_) (fun e4 => ?_)
  · refine X_iconst (w := (-1)) dX12_ith_19 ki_m1 rfl ?_
    exact X_iretJ rfl dX12_ith_20
  · refine X_iload_n (a := 2) dX12_ith_7 rfl rfl rfl ?_
    refine X_i2l dX12_ith_8 rfl rfl ?_
    refine X_lconst (w := 0) dX12_ith_9 kl_0 rfl ?_
    refine X_ldc2 (w := 3) dX12_ith_10 t_1612 rfl ?_
    refine X_ruI (Ru_S (st := []) cs_X12_61 (c_X12_in G M (Int32.toInt64 v2) 0 3) (by decide) rfl rfl (Nat.le_of_ble_eq_true rfl) dX12_ith_13) rfl (fun r13 => ?_)
    refine X_if_ne (tgt := 21) dX12_ith_16 rfl rfl (fun e16 => ?_) (fun e16 => ?_)
    · refine X_iload_n (a := 2) dX12_ith_21 rfl rfl rfl ?_
      refine X_aload_n (a := 0) dX12_ith_22 rfl rfl rfl ?_
      refine X_iload_n (a := 1) dX12_ith_23 rfl rfl rfl ?_
      refine X_ruI (Ru_V (st := [.int v2]) cv_X12_318 rfl (c_X12_longOf G M v1) (by decide) rfl rfl (Nat.le_of_ble_eq_true rfl) dX12_ith_24) rfl (fun r24 => ?_)
      refine X_icmp_lt (tgt := 33) dX12_ith_27 rfl rfl (fun e27 => ?_) (fun e27 => ?_)
      · refine X_aload_n (a := 0) dX12_ith_33 rfl rfl rfl ?_
        refine X_iload_n (a := 1) dX12_ith_34 rfl rfl rfl ?_
        refine X_ruV (Ru_V (st := []) cv_X12_340 rfl (c_X12_findBest G M v1) (by decide) rfl rfl (Nat.le_of_ble_eq_true rfl) dX12_ith_35) rfl (fun r35 => ?_)
        refine X_aload_n (a := 0) dX12_ith_38 rfl rfl rfl ?_
        refine X_aload_n (a := 0) dX12_ith_39 rfl rfl rfl ?_
        refine X_getI fl_X12_331 rfl dX12_ith_40 rfl ?_
        refine X_aload_n (a := 0) dX12_ith_43 rfl rfl rfl ?_
        refine X_iload_n (a := 1) dX12_ith_44 rfl rfl rfl ?_
        refine X_ruI (Ru_V (st := [.int (gi r35 94 21), .ref (ga G 94)]) cv_X12_318 rfl (c_X12_longOf G r35 v1) (by decide) rfl rfl (Nat.le_of_ble_eq_true rfl) dX12_ith_45) rfl (fun r45 => ?_)
        refine X_ruV (Ru_V (st := []) cv_X12_327 rfl (c_X12_actsOf G r35 (gi r35 94 21) r45) (by decide) rfl rfl (Nat.le_of_ble_eq_true rfl) dX12_ith_48) rfl (fun r48 => ?_)
        refine X_aload_n (a := 0) dX12_ith_51 rfl rfl rfl ?_
        refine X_getR (t := 103) fl_X12_34 rfl rfl dX12_ith_52 rfl ?_
        refine X_iload_n (a := 2) dX12_ith_55 rfl rfl rfl ?_
        refine X_iald rfl rfl dX12_ith_56 rfl ?_
        exact X_iretJ rfl dX12_ith_57
      · refine X_bipush (w := (-3)) dX12_ith_30 kb_m3 rfl ?_
        exact X_iretJ rfl dX12_ith_32
    · refine X_iconst (w := (-1)) dX12_ith_19 ki_m1 rfl ?_
      exact X_iretJ rfl dX12_ith_20
set_option maxRecDepth 100000 in
theorem c_X12_ways (G : Gm) (M : Mm) (v1 : Int32) : Ct fJ G miX12_ways (8) [.ref (ga G 94), .int v1] M (F_X12_ways M v1) := by
  refine Ct_of (pn_X12) (Nat.le_of_ble_eq_true rfl) ?_
  refine X_lv [0, 1] (lv' := [(0, .ref (ga G 94)), (1, .int v1)]) rfl ?_
  unfold F_X12_ways
  refine X_iload_n (a := 1) dX12_ways_0 rfl rfl rfl ?_
  refine X_ruI (Ru_S (st := []) cs_X12_337 (c_X12_isPlan G M v1) (by decide) rfl rfl (Nat.le_of_ble_eq_true rfl) dX12_ways_1) rfl (fun r1 => ?_)
  refine X_if_ne (tgt := 9) dX12_ways_4 rfl rfl (fun e4 => ?_) (fun e4 => ?_)
  · refine X_aload_n (a := 0) dX12_ways_9 rfl rfl rfl ?_
    refine X_iload_n (a := 1) dX12_ways_10 rfl rfl rfl ?_
    refine X_ruV (Ru_V (st := []) cv_X12_340 rfl (c_X12_findBest G M v1) (by decide) rfl rfl (Nat.le_of_ble_eq_true rfl) dX12_ways_11) rfl (fun r11 => ?_)
    refine X_aload_n (a := 0) dX12_ways_14 rfl rfl rfl ?_
    refine X_getI fl_X12_334 rfl dX12_ways_15 rfl ?_
    exact X_iretJ rfl dX12_ways_18
  · refine X_iconst (w := (-1)) dX12_ways_7 ki_m1 rfl ?_
    exact X_iretJ rfl dX12_ways_8
set_option maxRecDepth 100000 in
theorem c_X12_areBarrels (G : Gm) (M : Mm) (v1 : Int32) : Ct (fI M) G miX12_areBarrels (1) [.ref (ga G 94), .int v1] M (F_X12_areBarrels M v1) := by
  refine Ct_of (pn_X12) (Nat.le_of_ble_eq_true rfl) ?_
  refine X_lv [0, 1] (lv' := [(0, .ref (ga G 94)), (1, .int v1)]) rfl ?_
  unfold F_X12_areBarrels
  refine X_iload_n (a := 1) dX12_areBarrels_0 rfl rfl rfl ?_
  refine X_i2l dX12_areBarrels_1 rfl rfl ?_
  refine X_lconst (w := 0) dX12_areBarrels_2 kl_0 rfl ?_
  refine X_iconst (w := 1) dX12_areBarrels_3 ki_1 rfl ?_
  refine X_aload_n (a := 0) dX12_areBarrels_4 rfl rfl rfl ?_
  refine X_getR (t := 95) fl_X12_7 rfl rfl dX12_areBarrels_5 rfl ?_
  refine X_iconst (w := 0) dX12_areBarrels_8 ki_0 rfl ?_
  refine X_iald rfl rfl dX12_areBarrels_9 rfl ?_
  refine X_ishl dX12_areBarrels_10 rfl ?_
  refine X_iconst (w := 1) dX12_areBarrels_11 ki_1 rfl ?_
  refine X_isub dX12_areBarrels_12 rfl ?_
  refine X_i2l dX12_areBarrels_13 rfl rfl ?_
  refine X_ruI (Ru_S (st := []) cs_X12_61 (c_X12_in G M (Int32.toInt64 v1) 0 (Int32.toInt64 ((1 <<< ((gi M 95 (ui 0)) &&& 31)) - 1))) (by decide) rfl rfl (Nat.le_of_ble_eq_true rfl) dX12_areBarrels_14) rfl (fun r14 => ?_)
  exact X_zretI rfl dX12_areBarrels_17
set_option maxRecDepth 100000 in
theorem x_X12_findCharts_L51 (G : Gm) (v2 : Int32) (v3 : Int32) (v4 : Int32) (v5 : Int32) (k31 : Mm → Int32 → Option Mm) (hk31 : ∀ (M : Mm) (v5 : Int32), X fV G miX12_findCharts (7) 31 [(0, .ref (ga G 94)), (2, .int v2), (3, .int v3), (4, .int v4), (5, .int v5)] [] M (k31 M v5)) : ∀ (n : Nat) (M : Mm) (v6 : Int32) (v7 : Int32), X fV G miX12_findCharts (7) 51 [(0, .ref (ga G 94)), (2, .int v2), (3, .int v3), (4, .int v4), (5, .int v5), (6, .int v6), (7, .int v7)] [] M (F_X12_findCharts_L51 k31 v2 v3 v4 v5 n M v6 v7) := by
  intro n
  induction n with
  | zero => intro M v6 v7; exact X_none
  | succ n ih =>
    intro M v6 v7
    rw [F_X12_findCharts_L51]
    refine X_iload (a := 6) dX12_findCharts_51 rfl rfl ?_
    refine X_iload_n (a := 2) dX12_findCharts_53 rfl rfl rfl ?_
    refine X_icmp_ge (tgt := 95) dX12_findCharts_54 rfl rfl (fun e54 => ?_) (fun e54 => ?_)
    · refine X_aload_n (a := 0) dX12_findCharts_95 rfl rfl rfl ?_
      refine X_ruI (Ru_V (st := []) cv_X12_163 rfl (c_X12_staked G M) (by decide) rfl rfl (Nat.le_of_ble_eq_true rfl) dX12_findCharts_96) rfl (fun r96 => ?_)
      refine X_istore (lv2 := [(7, .int r96), (0, .ref (ga G 94)), (2, .int v2), (3, .int v3), (4, .int v4), (5, .int v5), (6, .int v6)]) dX12_findCharts_99 (by decide) rfl rfl ?_
      refine X_aload_n (a := 1) dX12_findCharts_101 rfl rfl rfl ?_
      refine X_ruV (Ru_V (st := []) cv_X12_69 rfl (c_X12_back G M) (by decide) rfl rfl (Nat.le_of_ble_eq_true rfl) dX12_findCharts_102) rfl (fun r102 => ?_)
      refine X_aload_n (a := 1) dX12_findCharts_105 rfl rfl rfl ?_
      refine X_dup dX12_findCharts_106 rfl rfl ?_
      refine X_getI fl_X12_348 rfl dX12_findCharts_107 rfl ?_
      refine X_iload (a := 0) dX12_findCharts_110 rfl rfl ?_
      refine X_ior dX12_findCharts_112 rfl ?_
      refine X_putI fp_X12_348 rfl dX12_findCharts_113 rfl ?_
      refine X_aload_n (a := 1) dX12_findCharts_116 rfl rfl rfl ?_
      refine X_iload_n (a := 2) dX12_findCharts_117 rfl rfl rfl ?_
      refine X_iload (a := 0) dX12_findCharts_118 rfl rfl ?_
      refine X_iconst (w := (-1)) dX12_findCharts_120 ki_m1 rfl ?_
      refine X_ixor dX12_findCharts_121 rfl ?_
      refine X_iand dX12_findCharts_122 rfl ?_
      refine X_jc (P := fun j => ∀ (x151_0 : Int32), X fV G miX12_findCharts (7) 151 [(0, .ref (ga G 94)), (2, .int v2), (3, .int v3), (4, .int v4), (5, .int v5)] [.int x151_0, .ref (ga G 94)] (si r102 94 24 ((gi r102 94 24) ||| r96)) (j x151_0)) (fun x151_0 => ?_) (fun j151 hj151 => ?_)
      · refine X_putI fp_X12_345 rfl dX12_findCharts_151 rfl ?_
        refine X_iinc (a := 4) (lv2 := [(5, .int (v5 + 1)), (0, .ref (ga G 94)), (2, .int v2), (3, .int v3), (4, .int v4)]) dX12_findCharts_154 rfl (ii_1 _) (by decide) rfl rfl ?_
        refine X_goto (tgt := 31) dX12_findCharts_157 rfl ?_
        exact X_lv [1, 2, 3, 4, 0] rfl (hk31 (si (si r102 94 24 ((gi r102 94 24) ||| r96)) 94 23 x151_0) (v5 + 1))
      refine X_jc (P := fun j => X fV G miX12_findCharts (7) 147 [(0, .ref (ga G 94)), (2, .int v2), (3, .int v3), (4, .int v4), (5, .int v5)] [.ref (ga G 94)] (si r102 94 24 ((gi r102 94 24) ||| r96)) (j)) (?_) (fun j147 hj147 => ?_)
      · refine X_aload_n (a := 0) dX12_findCharts_147 rfl rfl rfl ?_
        refine X_getI fl_X12_345 rfl dX12_findCharts_148 rfl ?_
        exact X_lv [0, 1, 2, 3, 4] rfl (hj151 (gi (si r102 94 24 ((gi r102 94 24) ||| r96)) 94 23))
      refine X_if_ne (tgt := 147) dX12_findCharts_123 rfl rfl (fun e123 => ?_) (fun e123 => ?_)
      · exact X_lv [1, 2, 3, 4, 5] rfl (hj147)
      · refine X_aload_n (a := 1) dX12_findCharts_126 rfl rfl rfl ?_
        refine X_getI fl_X12_345 rfl dX12_findCharts_127 rfl ?_
        refine X_jc (P := fun j => X fV G miX12_findCharts (7) 142 [(0, .ref (ga G 94)), (2, .int v2), (3, .int v3), (4, .int v4), (5, .int v5), (6, .int v6)] [.ref (ga G 94)] (si r102 94 24 ((gi r102 94 24) ||| r96)) (j)) (?_) (fun j142 hj142 => ?_)
        · refine X_iload (a := 5) dX12_findCharts_142 rfl rfl ?_
          refine X_goto (tgt := 151) dX12_findCharts_144 rfl ?_
          exact X_lv [0, 1, 2, 3, 4] rfl (hj151 v6)
        refine X_if_lt (tgt := 142) dX12_findCharts_130 rfl rfl (fun e130 => ?_) (fun e130 => ?_)
        · exact X_lv [1, 2, 3, 4, 5, 6] rfl (hj142)
        · refine X_iload (a := 6) dX12_findCharts_133 rfl rfl ?_
          refine X_aload_n (a := 1) dX12_findCharts_135 rfl rfl rfl ?_
          refine X_getI fl_X12_345 rfl dX12_findCharts_136 rfl ?_
          refine X_icmp_ge (tgt := 147) dX12_findCharts_139 rfl rfl (fun e139 => ?_) (fun e139 => ?_)
          · exact X_lv [1, 2, 3, 4, 5] rfl (hj147)
          · exact X_lv [1, 2, 3, 4, 5, 6] rfl (hj142)
    · refine X_iload (a := 5) dX12_findCharts_57 rfl rfl ?_
      refine X_aload_n (a := 0) dX12_findCharts_59 rfl rfl rfl ?_
      refine X_getR (t := 103) fl_X12_34 rfl rfl dX12_findCharts_60 rfl ?_
      refine X_iload (a := 6) dX12_findCharts_63 rfl rfl ?_
      refine X_iald rfl rfl dX12_findCharts_65 rfl ?_
      refine X_jc (P := fun j => ∀ (x74_0 : Int32), X fV G miX12_findCharts (7) 74 [(0, .ref (ga G 94)), (2, .int v2), (3, .int v3), (4, .int v4), (5, .int v5), (7, .int v7)] [.int x74_0, .int v6] M (j x74_0)) (fun x74_0 => ?_) (fun j74 hj74 => ?_)
      · refine X_iadd dX12_findCharts_74 rfl ?_
        refine X_istore (lv2 := [(6, .int (v6 + x74_0)), (0, .ref (ga G 94)), (2, .int v2), (3, .int v3), (4, .int v4), (5, .int v5), (7, .int v7)]) dX12_findCharts_75 (by decide) rfl rfl ?_
        refine X_aload_n (a := 1) dX12_findCharts_77 rfl rfl rfl ?_
        refine X_aload_n (a := 1) dX12_findCharts_78 rfl rfl rfl ?_
        refine X_getR (t := 103) fl_X12_34 rfl rfl dX12_findCharts_79 rfl ?_
        refine X_iload (a := 6) dX12_findCharts_82 rfl rfl ?_
        refine X_iald rfl rfl dX12_findCharts_84 rfl ?_
        refine X_ruJ (Ru_V (st := []) cv_X12_144 rfl (c_X12_tideGoes G M (gi M 103 (ui v7))) (by decide) rfl rfl (Nat.le_of_ble_eq_true rfl) dX12_findCharts_85) rfl (fun r85 => ?_)
        refine X_pop dX12_findCharts_88 rfl rfl ?_
        refine X_iinc (a := 6) (lv2 := [(7, .int (v7 + 1)), (6, .int (v6 + x74_0)), (0, .ref (ga G 94)), (2, .int v2), (3, .int v3), (4, .int v4), (5, .int v5)]) dX12_findCharts_89 rfl (ii_1 _) (by decide) rfl rfl ?_
        refine X_goto (tgt := 51) dX12_findCharts_92 rfl ?_
        exact X_lv [2, 3, 4, 5, 6, 1, 0] rfl (ih r85.2 (v6 + x74_0) (v7 + 1))
      refine X_if_le (tgt := 73) dX12_findCharts_66 rfl rfl (fun e66 => ?_) (fun e66 => ?_)
      · refine X_iconst (w := 0) dX12_findCharts_73 ki_0 rfl ?_
        exact X_lv [0, 1, 2, 3, 4, 6] rfl (hj74 0)
      · refine X_iconst (w := 1) dX12_findCharts_69 ki_1 rfl ?_
        refine X_goto (tgt := 74) dX12_findCharts_70 rfl ?_
        exact X_lv [0, 1, 2, 3, 4, 6] rfl (hj74 1)
set_option maxRecDepth 100000 in
theorem x_X12_findCharts_L31 (G : Gm) (v2 : Int32) (v3 : Int32) (v4 : Int32) : ∀ (n : Nat) (M : Mm) (v5 : Int32), X fV G miX12_findCharts (7) 31 [(0, .ref (ga G 94)), (2, .int v2), (3, .int v3), (4, .int v4), (5, .int v5)] [] M (F_X12_findCharts_L31 v2 v3 v4 n M v5) := by
  intro n
  induction n with
  | zero => intro M v5; exact X_none
  | succ n ih =>
    intro M v5
    rw [F_X12_findCharts_L31]
    refine X_iload (a := 4) dX12_findCharts_31 rfl rfl ?_
    refine X_iload (a := 3) dX12_findCharts_33 rfl rfl ?_
    refine X_icmp_ge (tgt := 160) dX12_findCharts_35 rfl rfl (fun e35 => ?_) (fun e35 => ?_)
    · refine X_aload_n (a := 0) dX12_findCharts_160 rfl rfl rfl ?_
      refine X_ruV (Ru_V (st := []) cv_X12_303 rfl (c_X12_takes G M) (by decide) rfl rfl (Nat.le_of_ble_eq_true rfl) dX12_findCharts_161) rfl (fun r161 => ?_)
      exact X_vret rfl dX12_findCharts_164
    · refine X_aload_n (a := 0) dX12_findCharts_38 rfl rfl rfl ?_
      refine X_iload (a := 4) dX12_findCharts_39 rfl rfl ?_
      refine X_iload_n (a := 2) dX12_findCharts_41 rfl rfl rfl ?_
      refine X_ruV (Ru_V (st := []) cv_X12_327 rfl (c_X12_actsOf G M v5 v3) (by decide) rfl rfl (Nat.le_of_ble_eq_true rfl) dX12_findCharts_42) rfl (fun r42 => ?_)
      refine X_iconst (w := 0) dX12_findCharts_45 ki_0 rfl ?_
      refine X_istore (lv2 := [(6, .int 0), (0, .ref (ga G 94)), (2, .int v2), (3, .int v3), (4, .int v4), (5, .int v5)]) dX12_findCharts_46 (by decide) rfl rfl ?_
      refine X_iconst (w := 0) dX12_findCharts_48 ki_0 rfl ?_
      refine X_istore (lv2 := [(7, .int 0), (6, .int 0), (0, .ref (ga G 94)), (2, .int v2), (3, .int v3), (4, .int v4), (5, .int v5)]) dX12_findCharts_49 (by decide) rfl rfl ?_
      exact X_lv [2, 3, 4, 5, 6, 1, 0] rfl (x_X12_findCharts_L51 G v2 v3 v4 v5 (F_X12_findCharts_L31 v2 v3 v4 n) ih 1000 r42 0 0)
set_option maxRecDepth 100000 in
theorem c_X12_findCharts (G : Gm) (M : Mm) (v1 : Int32) (v2 : Int32) : Ct fV G miX12_findCharts (7) [.ref (ga G 94), .int v1, .int v2] M (F_X12_findCharts M v1 v2) := by
  refine Ct_of (pn_X12) (Nat.le_of_ble_eq_true rfl) ?_
  refine X_lv [0, 1, 2] (lv' := [(0, .ref (ga G 94)), (1, .int v1), (2, .int v2)]) rfl ?_
  unfold F_X12_findCharts
  refine X_aload_n (a := 0) dX12_findCharts_0 rfl rfl rfl ?_
  refine X_iload_n (a := 1) dX12_findCharts_1 rfl rfl rfl ?_
  refine X_ruI (Ru_V (st := []) cv_X12_318 rfl (c_X12_longOf G M v1) (by decide) rfl rfl (Nat.le_of_ble_eq_true rfl) dX12_findCharts_2) rfl (fun r2 => ?_)
  refine X_istore_n (lv2 := [(3, .int r2), (0, .ref (ga G 94)), (1, .int v1), (2, .int v2)]) dX12_findCharts_5 rfl (by decide) rfl rfl ?_
  refine X_aload_n (a := 1) dX12_findCharts_6 rfl rfl rfl ?_
  refine X_iload_n (a := 2) dX12_findCharts_7 rfl rfl rfl ?_
  refine X_ruI (Ru_V (st := []) cv_X12_321 rfl (c_X12_plansOf G M v1) (by decide) rfl rfl (Nat.le_of_ble_eq_true rfl) dX12_findCharts_8) rfl (fun r8 => ?_)
  refine X_istore (lv2 := [(4, .int r8), (3, .int r2), (0, .ref (ga G 94)), (1, .int v1), (2, .int v2)]) dX12_findCharts_11 (by decide) rfl rfl ?_
  refine X_aload_n (a := 2) dX12_findCharts_13 rfl rfl rfl ?_
  refine X_bipush (w := (-3)) dX12_findCharts_14 kb_m3 rfl ?_
  refine X_putI fp_X12_345 rfl dX12_findCharts_16 rfl ?_
  refine X_aload_n (a := 2) dX12_findCharts_19 rfl rfl rfl ?_
  refine X_iconst (w := 0) dX12_findCharts_20 ki_0 rfl ?_
  refine X_putI fp_X12_348 rfl dX12_findCharts_21 rfl ?_
  refine X_aload_n (a := 2) dX12_findCharts_24 rfl rfl rfl ?_
  refine X_ruV (Ru_V (st := []) cv_X12_297 rfl (c_X12_puts G (si (si M 94 23 (-3)) 94 24 0)) (by decide) rfl rfl (Nat.le_of_ble_eq_true rfl) dX12_findCharts_25) rfl (fun r25 => ?_)
  refine X_iconst (w := 0) dX12_findCharts_28 ki_0 rfl ?_
  refine X_istore (lv2 := [(5, .int 0), (4, .int r8), (3, .int r2), (0, .ref (ga G 94)), (1, .int v1), (2, .int v2)]) dX12_findCharts_29 (by decide) rfl rfl ?_
  exact X_lv [3, 5, 2, 1, 0] rfl (x_X12_findCharts_L31 G v2 r2 r8 3000 r25 0)
set_option maxRecDepth 100000 in
theorem c_X12_chart (G : Gm) (M : Mm) (v1 : Int32) (v2 : Int32) : Ct fJ G miX12_chart (8) [.ref (ga G 94), .int v1, .int v2] M (F_X12_chart M v1 v2) := by
  refine Ct_of (pn_X12) (Nat.le_of_ble_eq_true rfl) ?_
  refine X_lv [0, 1, 2] (lv' := [(0, .ref (ga G 94)), (1, .int v1), (2, .int v2)]) rfl ?_
  unfold F_X12_chart
  refine X_iload_n (a := 1) dX12_chart_0 rfl rfl rfl ?_
  refine X_ruI (Ru_S (st := []) cs_X12_337 (c_X12_isPlan G M v1) (by decide) rfl rfl (Nat.le_of_ble_eq_true rfl) dX12_chart_1) rfl (fun r1 => ?_)
  refine X_if_eq (tgt := 15) dX12_chart_4 rfl rfl (fun e4 => ?_) (fun e4 => ?_)
  · refine X_iconst (w := (-1)) dX12_chart_15 ki_m1 rfl ?_
    exact X_iretJ rfl dX12_chart_16
  · refine X_aload_n (a := 0) dX12_chart_7 rfl rfl rfl ?_
    refine X_iload_n (a := 2) dX12_chart_8 rfl rfl rfl ?_
    refine X_ruI (Ru_V (st := []) cv_X12_351 rfl (c_X12_areBarrels G M v2) (by decide) rfl rfl (Nat.le_of_ble_eq_true rfl) dX12_chart_9) rfl (fun r9 => ?_)
    refine X_if_ne (tgt := 17) dX12_chart_12 rfl rfl (fun e12 => ?_) (fun e12 => ?_)
    · refine X_aload_n (a := 0) dX12_chart_17 rfl rfl rfl ?_
      refine X_iload_n (a := 1) dX12_chart_18 rfl rfl rfl ?_
      refine X_iload_n (a := 2) dX12_chart_19 rfl rfl rfl ?_
      refine X_ruV (Ru_V (st := []) cv_X12_354 rfl (c_X12_findCharts G M v1 v2) (by decide) rfl rfl (Nat.le_of_ble_eq_true rfl) dX12_chart_20) rfl (fun r20 => ?_)
      refine X_aload_n (a := 0) dX12_chart_23 rfl rfl rfl ?_
      refine X_getI fl_X12_345 rfl dX12_chart_24 rfl ?_
      exact X_iretJ rfl dX12_chart_27
    · refine X_iconst (w := (-1)) dX12_chart_15 ki_m1 rfl ?_
      exact X_iretJ rfl dX12_chart_16
set_option maxRecDepth 100000 in
theorem x_X12_bars_L25 (G : Gm) (M : Mm) (v2 : Int32) : ∀ (n : Nat) (v3 : Int32), X fJ G miX12_bars (8) 25 [(0, .ref (ga G 94)), (2, .int v2), (3, .int v3)] [] M (F_X12_bars_L25 M v2 n v3) := by
  intro n
  induction n with
  | zero => intro v3; exact X_none
  | succ n ih =>
    intro v3
    rw [F_X12_bars_L25]
    refine X_iload_n (a := 2) dX12_bars_25 rfl rfl rfl ?_
    refine X_aload_n (a := 0) dX12_bars_26 rfl rfl rfl ?_
    refine X_getR (t := 95) fl_X12_7 rfl rfl dX12_bars_27 rfl ?_
    refine X_iconst (w := 0) dX12_bars_30 ki_0 rfl ?_
    refine X_iald rfl rfl dX12_bars_31 rfl ?_
    refine X_icmp_ge (tgt := 63) dX12_bars_32 rfl rfl (fun e32 => ?_) (fun e32 => ?_)
    · refine X_bipush (w := (-3)) dX12_bars_63 kb_m3 rfl ?_
      exact X_iretJ rfl dX12_bars_65
    · refine X_iload_n (a := 1) dX12_bars_35 rfl rfl rfl ?_
      refine X_iload_n (a := 2) dX12_bars_36 rfl rfl rfl ?_
      refine X_ishr dX12_bars_37 rfl ?_
      refine X_iconst (w := 1) dX12_bars_38 ki_1 rfl ?_
      refine X_iand dX12_bars_39 rfl ?_
      refine X_iconst (w := 1) dX12_bars_40 ki_1 rfl ?_
      refine X_jc (P := fun j => X fJ G miX12_bars (8) 57 [(0, .ref (ga G 94)), (2, .int v2), (3, .int v3)] [] M (j)) (?_) (fun j57 hj57 => ?_)
      · refine X_iinc (a := 2) (lv2 := [(3, .int (v3 + 1)), (0, .ref (ga G 94)), (2, .int v2)]) dX12_bars_57 rfl (ii_1 _) (by decide) rfl rfl ?_
        refine X_goto (tgt := 25) dX12_bars_60 rfl ?_
        exact X_lv [1, 2, 0] rfl (ih (v3 + 1))
      refine X_icmp_ne (tgt := 57) dX12_bars_41 rfl rfl (fun e41 => ?_) (fun e41 => ?_)
      · exact X_lv [0, 1, 2] rfl (hj57)
      · refine X_aload_n (a := 0) dX12_bars_44 rfl rfl rfl ?_
        refine X_getI fl_X12_348 rfl dX12_bars_45 rfl ?_
        refine X_iload_n (a := 2) dX12_bars_48 rfl rfl rfl ?_
        refine X_ishr dX12_bars_49 rfl ?_
        refine X_iconst (w := 1) dX12_bars_50 ki_1 rfl ?_
        refine X_iand dX12_bars_51 rfl ?_
        refine X_if_ne (tgt := 57) dX12_bars_52 rfl rfl (fun e52 => ?_) (fun e52 => ?_)
        · exact X_lv [0, 1, 2] rfl (hj57)
        · refine X_iload_n (a := 2) dX12_bars_55 rfl rfl rfl ?_
          exact X_iretJ rfl dX12_bars_56
set_option maxRecDepth 100000 in
theorem c_X12_bars (G : Gm) (M : Mm) (v1 : Int32) (v2 : Int32) : Ct fJ G miX12_bars (8) [.ref (ga G 94), .int v1, .int v2] M (F_X12_bars M v1 v2) := by
  refine Ct_of (pn_X12) (Nat.le_of_ble_eq_true rfl) ?_
  refine X_lv [0, 1, 2] (lv' := [(0, .ref (ga G 94)), (1, .int v1), (2, .int v2)]) rfl ?_
  unfold F_X12_bars
  refine X_iload_n (a := 1) dX12_bars_0 rfl rfl rfl ?_
  refine X_ruI (Ru_S (st := []) cs_X12_337 (c_X12_isPlan G M v1) (by decide) rfl rfl (Nat.le_of_ble_eq_true rfl) dX12_bars_1) rfl (fun r1 => ?_)
  refine X_if_eq (tgt := 15) dX12_bars_4 rfl rfl (fun e4 => ?_) (fun e4 => ?_)
  · refine X_iconst (w := (-1)) dX12_bars_15 ki_m1 rfl ?_
    exact X_iretJ rfl dX12_bars_16
  · refine X_aload_n (a := 0) dX12_bars_7 rfl rfl rfl ?_
    refine X_iload_n (a := 2) dX12_bars_8 rfl rfl rfl ?_
    refine X_ruI (Ru_V (st := []) cv_X12_351 rfl (c_X12_areBarrels G M v2) (by decide) rfl rfl (Nat.le_of_ble_eq_true rfl) dX12_bars_9) rfl (fun r9 => ?_)
    refine X_if_ne (tgt := 17) dX12_bars_12 rfl rfl (fun e12 => ?_) (fun e12 => ?_)
    · refine X_aload_n (a := 0) dX12_bars_17 rfl rfl rfl ?_
      refine X_iload_n (a := 1) dX12_bars_18 rfl rfl rfl ?_
      refine X_iload_n (a := 2) dX12_bars_19 rfl rfl rfl ?_
      refine X_ruV (Ru_V (st := []) cv_X12_354 rfl (c_X12_findCharts G M v1 v2) (by decide) rfl rfl (Nat.le_of_ble_eq_true rfl) dX12_bars_20) rfl (fun r20 => ?_)
      refine X_iconst (w := 0) dX12_bars_23 ki_0 rfl ?_
      refine X_istore_n (lv2 := [(3, .int 0), (0, .ref (ga G 94)), (1, .int v1), (2, .int v2)]) dX12_bars_24 rfl (by decide) rfl rfl ?_
      exact X_lv [1, 3, 0] rfl (x_X12_bars_L25 G r20 v2 1000 0)
    · refine X_iconst (w := (-1)) dX12_bars_15 ki_m1 rfl ?_
      exact X_iretJ rfl dX12_bars_16
set_option maxRecDepth 100000 in
theorem x_X12_valueOf_L32 (G : Gm) (dd : Nat) (rc : Mm → Int32 → Int32 → Option (Int32 × Mm)) (hrc : ∀ (M : Mm) (v1 : Int32) (v2 : Int32), Ct fJ G miX12_valueOf dd [.ref (ga G 94), .int v1, .int v2] M (rc M v1 v2)) (v1 : Int32) (v2 : Int32) : ∀ (n : Nat) (M : Mm) (v3 : Int32) (v4 : Int32), X fJ G miX12_valueOf (dd + 7) 32 [(0, .ref (ga G 94)), (1, .int v1), (2, .int v2), (3, .int v3), (4, .int v4)] [] M (F_X12_valueOf_L32 rc v1 v2 n M v3 v4) := by
  intro n
  induction n with
  | zero => intro M v3 v4; exact X_none
  | succ n ih =>
    intro M v3 v4
    rw [F_X12_valueOf_L32]
    refine X_iload (a := 4) dX12_valueOf_32 rfl rfl ?_
    refine X_aload_n (a := 0) dX12_valueOf_34 rfl rfl rfl ?_
    refine X_getR (t := 95) fl_X12_7 rfl rfl dX12_valueOf_35 rfl ?_
    refine X_iconst (w := 0) dX12_valueOf_38 ki_0 rfl ?_
    refine X_iald rfl rfl dX12_valueOf_39 rfl ?_
    refine X_icmp_gt (tgt := 100) dX12_valueOf_40 rfl rfl (fun e40 => ?_) (fun e40 => ?_)
    · refine X_aload_n (a := 0) dX12_valueOf_100 rfl rfl rfl ?_
      refine X_ruV (Ru_V (st := []) cv_X12_303 rfl (c_X12_takes G M) (by omega) rfl rfl (Nat.le_of_ble_eq_true rfl) dX12_valueOf_101) rfl (fun r101 => ?_)
      refine X_iload_n (a := 3) dX12_valueOf_104 rfl rfl rfl ?_
      exact X_iretJ rfl dX12_valueOf_105
    · refine X_aload_n (a := 0) dX12_valueOf_43 rfl rfl rfl ?_
      refine X_iload (a := 4) dX12_valueOf_44 rfl rfl ?_
      refine X_ruJ (Ru_V (st := []) cv_X12_144 rfl (c_X12_tideGoes G M v4) (by omega) rfl rfl (Nat.le_of_ble_eq_true rfl) dX12_valueOf_46) rfl (fun r46 => ?_)
      refine X_aload_n (a := 0) dX12_valueOf_49 rfl rfl rfl ?_
      refine X_iload_n (a := 1) dX12_valueOf_50 rfl rfl rfl ?_
      refine X_iconst (w := 1) dX12_valueOf_51 ki_1 rfl ?_
      refine X_isub dX12_valueOf_52 rfl ?_
      refine X_iload_n (a := 2) dX12_valueOf_53 rfl rfl rfl ?_
      refine X_jc (P := fun j => ∀ (x62_0 : Int32), X fJ G miX12_valueOf (dd + 7) 62 [(0, .ref (ga G 94)), (1, .int v1), (2, .int v2), (3, .int v3), (4, .int v4)] [.int x62_0, .int (v1 - 1), .ref (ga G 94), .int r46.1] r46.2 (j x62_0)) (fun x62_0 => ?_) (fun j62 hj62 => ?_)
      · refine X_ruJ (Ru_V (st := [.int r46.1]) cv_X12_358 rfl (hrc r46.2 (v1 - 1) x62_0) (by omega) rfl rfl (Nat.le_of_ble_eq_true rfl) dX12_valueOf_62) rfl (fun r62 => ?_)
        refine X_iadd dX12_valueOf_65 rfl ?_
        refine X_istore (lv2 := [(5, .int (r46.1 + r62.1)), (0, .ref (ga G 94)), (1, .int v1), (2, .int v2), (3, .int v3), (4, .int v4)]) dX12_valueOf_66 (by decide) rfl rfl ?_
        refine X_aload_n (a := 1) dX12_valueOf_68 rfl rfl rfl ?_
        refine X_ruV (Ru_V (st := []) cv_X12_69 rfl (c_X12_back G r62.2) (by omega) rfl rfl (Nat.le_of_ble_eq_true rfl) dX12_valueOf_69) rfl (fun r69 => ?_)
        refine X_iload_n (a := 3) dX12_valueOf_72 rfl rfl rfl ?_
        refine X_iload (a := 0) dX12_valueOf_73 rfl rfl ?_
        refine X_iload_n (a := 4) dX12_valueOf_75 rfl rfl rfl ?_
        refine X_jc (P := fun j => ∀ (x84_0 : Int32), X fJ G miX12_valueOf (dd + 7) 84 [(0, .ref (ga G 94)), (1, .int v1), (2, .int v2), (3, .int v3), (4, .int v4), (5, .int (r46.1 + r62.1))] [.int x84_0, .int v2] r69 (j x84_0)) (fun x84_0 => ?_) (fun j84 hj84 => ?_)
        · refine X_jc (P := fun j => ∀ (x93_0 : Int32), X fJ G miX12_valueOf (dd + 7) 93 [(0, .ref (ga G 94)), (1, .int v1), (2, .int v2), (4, .int v4)] [.int x93_0] r69 (j x93_0)) (fun x93_0 => ?_) (fun j93 hj93 => ?_)
          · refine X_istore_n (lv2 := [(3, .int x93_0), (0, .ref (ga G 94)), (1, .int v1), (2, .int v2), (4, .int v4)]) dX12_valueOf_93 rfl (by decide) rfl rfl ?_
            refine X_iinc (a := 4) (lv2 := [(4, .int (v4 + 1)), (3, .int x93_0), (0, .ref (ga G 94)), (1, .int v1), (2, .int v2)]) dX12_valueOf_94 rfl (ii_1 _) (by decide) rfl rfl ?_
            refine X_goto (tgt := 32) dX12_valueOf_97 rfl ?_
            exact X_lv [2, 3, 4, 1, 0] rfl (ih r69 x93_0 (v4 + 1))
          refine X_icmp_ne (tgt := 92) dX12_valueOf_84 rfl rfl (fun e84 => ?_) (fun e84 => ?_)
          · refine X_iload_n (a := 3) dX12_valueOf_92 rfl rfl rfl ?_
            exact X_lv [0, 1, 2, 4] rfl (hj93 v3)
          · refine X_iload (a := 5) dX12_valueOf_87 rfl rfl ?_
            refine X_goto (tgt := 93) dX12_valueOf_89 rfl ?_
            exact X_lv [0, 1, 2, 4] rfl (hj93 (r46.1 + r62.1))
        refine X_icmp_le (tgt := 83) dX12_valueOf_76 rfl rfl (fun e76 => ?_) (fun e76 => ?_)
        · refine X_iconst (w := 0) dX12_valueOf_83 ki_0 rfl ?_
          exact X_lv [1, 2, 3, 4, 5, 0] rfl (hj84 0)
        · refine X_iconst (w := 1) dX12_valueOf_79 ki_1 rfl ?_
          refine X_goto (tgt := 84) dX12_valueOf_80 rfl ?_
          exact X_lv [1, 2, 3, 4, 5, 0] rfl (hj84 1)
      refine X_if_ne (tgt := 61) dX12_valueOf_54 rfl rfl (fun e54 => ?_) (fun e54 => ?_)
      · refine X_iconst (w := 0) dX12_valueOf_61 ki_0 rfl ?_
        exact X_lv [0, 1, 2, 3, 4] rfl (hj62 0)
      · refine X_iconst (w := 1) dX12_valueOf_57 ki_1 rfl ?_
        refine X_goto (tgt := 62) dX12_valueOf_58 rfl ?_
        exact X_lv [0, 1, 2, 3, 4] rfl (hj62 1)
set_option maxRecDepth 100000 in
theorem c_X12_valueOf_b (G : Gm) (dd : Nat) (rc : Mm → Int32 → Int32 → Option (Int32 × Mm)) (hrc : ∀ (M : Mm) (v1 : Int32) (v2 : Int32), Ct fJ G miX12_valueOf dd [.ref (ga G 94), .int v1, .int v2] M (rc M v1 v2)) (M : Mm) (v1 : Int32) (v2 : Int32) : Ct fJ G miX12_valueOf (dd + 7) [.ref (ga G 94), .int v1, .int v2] M (F_X12_valueOf_b rc M v1 v2) := by
  refine Ct_of (pn_X12) (Nat.le_of_ble_eq_true rfl) ?_
  refine X_lv [0, 1, 2] (lv' := [(0, .ref (ga G 94)), (1, .int v1), (2, .int v2)]) rfl ?_
  unfold F_X12_valueOf_b
  refine X_iload_n (a := 1) dX12_valueOf_0 rfl rfl rfl ?_
  refine X_if_eq (tgt := 11) dX12_valueOf_1 rfl rfl (fun e1 => ?_) (fun e1 => ?_)
  · refine X_iconst (w := 0) dX12_valueOf_11 ki_0 rfl ?_
    exact X_iretJ rfl dX12_valueOf_12
  · refine X_aload_n (a := 0) dX12_valueOf_4 rfl rfl rfl ?_
    refine X_ruI (Ru_V (st := []) cv_X12_137 rfl (c_X12_isOver G M) (by omega) rfl rfl (Nat.le_of_ble_eq_true rfl) dX12_valueOf_5) rfl (fun r5 => ?_)
    refine X_if_eq (tgt := 13) dX12_valueOf_8 rfl rfl (fun e8 => ?_) (fun e8 => ?_)
    · refine X_iload_n (a := 2) dX12_valueOf_13 rfl rfl rfl ?_
      refine X_jc (P := fun j => ∀ (x24_0 : Int32), X fJ G miX12_valueOf (dd + 7) 24 [(0, .ref (ga G 94)), (1, .int v1), (2, .int v2)] [.int x24_0] M (j x24_0)) (fun x24_0 => ?_) (fun j24 hj24 => ?_)
      · refine X_istore_n (lv2 := [(3, .int x24_0), (0, .ref (ga G 94)), (1, .int v1), (2, .int v2)]) dX12_valueOf_24 rfl (by decide) rfl rfl ?_
        refine X_aload_n (a := 1) dX12_valueOf_25 rfl rfl rfl ?_
        refine X_ruV (Ru_V (st := []) cv_X12_297 rfl (c_X12_puts G M) (by omega) rfl rfl (Nat.le_of_ble_eq_true rfl) dX12_valueOf_26) rfl (fun r26 => ?_)
        refine X_iconst (w := 0) dX12_valueOf_29 ki_0 rfl ?_
        refine X_istore (lv2 := [(4, .int 0), (3, .int x24_0), (0, .ref (ga G 94)), (1, .int v1), (2, .int v2)]) dX12_valueOf_30 (by decide) rfl rfl ?_
        exact X_lv [2, 3, 4, 1, 0] rfl (x_X12_valueOf_L32 G dd rc hrc v1 v2 1000 r26 x24_0 0)
      refine X_if_eq (tgt := 21) dX12_valueOf_14 rfl rfl (fun e14 => ?_) (fun e14 => ?_)
      · refine X_ldcw (w := 1000000) dX12_valueOf_21 t_1641 rfl ?_
        exact X_lv [0, 1, 2] rfl (hj24 1000000)
      · refine X_iconst (w := (-1)) dX12_valueOf_17 ki_m1 rfl ?_
        refine X_goto (tgt := 24) dX12_valueOf_18 rfl ?_
        exact X_lv [0, 1, 2] rfl (hj24 (-1))
    · refine X_iconst (w := 0) dX12_valueOf_11 ki_0 rfl ?_
      exact X_iretJ rfl dX12_valueOf_12
theorem c_X12_valueOf (G : Gm) : ∀ (n : Nat) (M : Mm) (v1 : Int32) (v2 : Int32), Ct fJ G miX12_valueOf (7 * n) [.ref (ga G 94), .int v1, .int v2] M (F_X12_valueOf n M v1 v2) := by
  intro n
  induction n with
  | zero => intro M v1 v2; exact Ct_none
  | succ n ih =>
    intro M v1 v2
    exact c_X12_valueOf_b G (7 * n) (F_X12_valueOf n) ih M v1 v2
set_option maxRecDepth 100000 in
theorem c_X12_game (G : Gm) (M : Mm) (v1 : Int32) : Ct fJ G miX12_game (57) [.ref (ga G 94), .int v1] M (F_X12_game M v1) := by
  refine Ct_of (pn_X12) (Nat.le_of_ble_eq_true rfl) ?_
  refine X_lv [0, 1] (lv' := [(0, .ref (ga G 94)), (1, .int v1)]) rfl ?_
  unfold F_X12_game
  refine X_iload_n (a := 1) dX12_game_0 rfl rfl rfl ?_
  refine X_i2l dX12_game_1 rfl rfl ?_
  refine X_lconst (w := 1) dX12_game_2 kl_1 rfl ?_
  refine X_ldc2 (w := 4) dX12_game_3 t_1591 rfl ?_
  refine X_ruI (Ru_S (st := []) cs_X12_61 (c_X12_in G M (Int32.toInt64 v1) 1 4) (by decide) rfl rfl (Nat.le_of_ble_eq_true rfl) dX12_game_6) rfl (fun r6 => ?_)
  refine X_if_eq (tgt := 21) dX12_game_9 rfl rfl (fun e9 => ?_) (fun e9 => ?_)
  · refine X_iconst (w := (-1)) dX12_game_21 ki_m1 rfl ?_
    exact X_iretJ rfl dX12_game_22
  · refine X_aload_n (a := 0) dX12_game_12 rfl rfl rfl ?_
    refine X_iload_n (a := 1) dX12_game_13 rfl rfl rfl ?_
    refine X_iconst (w := 1) dX12_game_14 ki_1 rfl ?_
    refine X_ruJ (Ru_V (st := []) cv_X12_358 rfl (c_X12_valueOf G 8 M v1 1) (by decide) rfl rfl (Nat.le_of_ble_eq_true rfl) dX12_game_15) rfl (fun r15 => ?_)
    refine X_goto (tgt := 22) dX12_game_18 rfl ?_
    exact X_iretJ rfl dX12_game_22
set_option maxRecDepth 100000 in
theorem x_X12_play_L46 (G : Gm) (v1 : Int32) (v2 : Int32) : ∀ (n : Nat) (M : Mm) (v3 : Int32) (v4 : Int32), X fJ G miX12_play (57) 46 [(0, .ref (ga G 94)), (1, .int v1), (2, .int v2), (3, .int v3), (4, .int v4)] [] M (F_X12_play_L46 v1 v2 n M v3 v4) := by
  intro n
  induction n with
  | zero => intro M v3 v4; exact X_none
  | succ n ih =>
    intro M v3 v4
    rw [F_X12_play_L46]
    refine X_iload (a := 4) dX12_play_46 rfl rfl ?_
    refine X_if_lt (tgt := 91) dX12_play_48 rfl rfl (fun e48 => ?_) (fun e48 => ?_)
    · refine X_aload_n (a := 0) dX12_play_91 rfl rfl rfl ?_
      refine X_ruV (Ru_V (st := []) cv_X12_303 rfl (c_X12_takes G M) (by decide) rfl rfl (Nat.le_of_ble_eq_true rfl) dX12_play_92) rfl (fun r92 => ?_)
      refine X_iload_n (a := 3) dX12_play_95 rfl rfl rfl ?_
      exact X_iretJ rfl dX12_play_96
    · refine X_aload_n (a := 0) dX12_play_51 rfl rfl rfl ?_
      refine X_iload (a := 4) dX12_play_52 rfl rfl ?_
      refine X_ruJ (Ru_V (st := []) cv_X12_144 rfl (c_X12_tideGoes G M v4) (by decide) rfl rfl (Nat.le_of_ble_eq_true rfl) dX12_play_54) rfl (fun r54 => ?_)
      refine X_aload_n (a := 0) dX12_play_57 rfl rfl rfl ?_
      refine X_iload_n (a := 1) dX12_play_58 rfl rfl rfl ?_
      refine X_iconst (w := 1) dX12_play_59 ki_1 rfl ?_
      refine X_isub dX12_play_60 rfl ?_
      refine X_iconst (w := 0) dX12_play_61 ki_0 rfl ?_
      refine X_ruJ (Ru_V (st := [.int r54.1]) cv_X12_358 rfl (c_X12_valueOf G 8 r54.2 (v1 - 1) 0) (by decide) rfl rfl (Nat.le_of_ble_eq_true rfl) dX12_play_62) rfl (fun r62 => ?_)
      refine X_iadd dX12_play_65 rfl ?_
      refine X_istore (lv2 := [(5, .int (r54.1 + r62.1)), (0, .ref (ga G 94)), (1, .int v1), (2, .int v2), (3, .int v3), (4, .int v4)]) dX12_play_66 (by decide) rfl rfl ?_
      refine X_aload_n (a := 1) dX12_play_68 rfl rfl rfl ?_
      refine X_ruV (Ru_V (st := []) cv_X12_69 rfl (c_X12_back G r62.2) (by decide) rfl rfl (Nat.le_of_ble_eq_true rfl) dX12_play_69) rfl (fun r69 => ?_)
      refine X_iload (a := 0) dX12_play_72 rfl rfl ?_
      refine X_iload_n (a := 3) dX12_play_74 rfl rfl rfl ?_
      refine X_jc (P := fun j => ∀ (x84_0 : Int32), X fJ G miX12_play (57) 84 [(0, .ref (ga G 94)), (1, .int v1), (2, .int v2), (4, .int v4)] [.int x84_0] r69 (j x84_0)) (fun x84_0 => ?_) (fun j84 hj84 => ?_)
      · refine X_istore_n (lv2 := [(3, .int x84_0), (0, .ref (ga G 94)), (1, .int v1), (2, .int v2), (4, .int v4)]) dX12_play_84 rfl (by decide) rfl rfl ?_
        refine X_iinc (a := 4) (lv2 := [(4, .int (v4 + (-1))), (3, .int x84_0), (0, .ref (ga G 94)), (1, .int v1), (2, .int v2)]) dX12_play_85 rfl (ii_m1 _) (by decide) rfl rfl ?_
        refine X_goto (tgt := 46) dX12_play_88 rfl ?_
        exact X_lv [2, 3, 4, 1, 0] rfl (ih r69 x84_0 (v4 + (-1)))
      refine X_icmp_ne (tgt := 83) dX12_play_75 rfl rfl (fun e75 => ?_) (fun e75 => ?_)
      · refine X_iload_n (a := 4) dX12_play_83 rfl rfl rfl ?_
        exact X_lv [1, 2, 3, 5] rfl (hj84 v3)
      · refine X_iload (a := 5) dX12_play_78 rfl rfl ?_
        refine X_goto (tgt := 84) dX12_play_80 rfl ?_
        exact X_lv [1, 2, 3, 5] rfl (hj84 v4)
set_option maxRecDepth 100000 in
theorem c_X12_play (G : Gm) (M : Mm) (v1 : Int32) : Ct fJ G miX12_play (57) [.ref (ga G 94), .int v1] M (F_X12_play M v1) := by
  refine Ct_of (pn_X12) (Nat.le_of_ble_eq_true rfl) ?_
  refine X_lv [0, 1] (lv' := [(0, .ref (ga G 94)), (1, .int v1)]) rfl ?_
  unfold F_X12_play
  refine X_iload_n (a := 1) dX12_play_0 rfl rfl rfl ?_
  refine X_i2l dX12_play_1 rfl rfl ?_
  refine X_lconst (w := 1) dX12_play_2 kl_1 rfl ?_
  refine X_ldc2 (w := 4) dX12_play_3 t_1591 rfl ?_
  refine X_ruI (Ru_S (st := []) cs_X12_61 (c_X12_in G M (Int32.toInt64 v1) 1 4) (by decide) rfl rfl (Nat.le_of_ble_eq_true rfl) dX12_play_6) rfl (fun r6 => ?_)
  refine X_if_ne (tgt := 14) dX12_play_9 rfl rfl (fun e9 => ?_) (fun e9 => ?_)
  · refine X_aload_n (a := 0) dX12_play_14 rfl rfl rfl ?_
    refine X_ruI (Ru_V (st := []) cv_X12_137 rfl (c_X12_isOver G M) (by decide) rfl rfl (Nat.le_of_ble_eq_true rfl) dX12_play_15) rfl (fun r15 => ?_)
    refine X_if_eq (tgt := 24) dX12_play_18 rfl rfl (fun e18 => ?_) (fun e18 => ?_)
    · refine X_aload_n (a := 0) dX12_play_24 rfl rfl rfl ?_
      refine X_iload_n (a := 1) dX12_play_25 rfl rfl rfl ?_
      refine X_iconst (w := 1) dX12_play_26 ki_1 rfl ?_
      refine X_ruJ (Ru_V (st := []) cv_X12_358 rfl (c_X12_valueOf G 8 M v1 1) (by decide) rfl rfl (Nat.le_of_ble_eq_true rfl) dX12_play_27) rfl (fun r27 => ?_)
      refine X_istore_n (lv2 := [(2, .int r27.1), (0, .ref (ga G 94)), (1, .int v1)]) dX12_play_30 rfl (by decide) rfl rfl ?_
      refine X_bipush (w := (-3)) dX12_play_31 kb_m3 rfl ?_
      refine X_istore_n (lv2 := [(3, .int (-3)), (2, .int r27.1), (0, .ref (ga G 94)), (1, .int v1)]) dX12_play_33 rfl (by decide) rfl rfl ?_
      refine X_aload_n (a := 2) dX12_play_34 rfl rfl rfl ?_
      refine X_ruV (Ru_V (st := []) cv_X12_297 rfl (c_X12_puts G r27.2) (by decide) rfl rfl (Nat.le_of_ble_eq_true rfl) dX12_play_35) rfl (fun r35 => ?_)
      refine X_aload_n (a := 2) dX12_play_38 rfl rfl rfl ?_
      refine X_getR (t := 95) fl_X12_7 rfl rfl dX12_play_39 rfl ?_
      refine X_iconst (w := 0) dX12_play_42 ki_0 rfl ?_
      refine X_iald rfl rfl dX12_play_43 rfl ?_
      refine X_istore (lv2 := [(4, .int (gi r35 95 (ui 0))), (3, .int (-3)), (2, .int r27.1), (0, .ref (ga G 94)), (1, .int v1)]) dX12_play_44 (by decide) rfl rfl ?_
      exact X_lv [3, 4, 2, 1, 0] rfl (x_X12_play_L46 G v1 r27.1 1000 r35 (-3) (gi r35 95 (ui 0)))
    · refine X_bipush (w := (-3)) dX12_play_21 kb_m3 rfl ?_
      exact X_iretJ rfl dX12_play_23
  · refine X_iconst (w := (-1)) dX12_play_12 ki_m1 rfl ?_
    exact X_iretJ rfl dX12_play_13
set_option maxRecDepth 100000 in
theorem c_X12_report (G : Gm) (M : Mm) (v1 : Int32) (v2 : Int32) (v3 : Int32) (v4 : Int32) : Ct fJ G miX12_report (1) [.ref (ga G 94), .int v1, .int v2, .int v3, .int v4] M (F_X12_report M v1 v2 v3 v4) := by
  refine Ct_of (pn_X12) (Nat.le_of_ble_eq_true rfl) ?_
  refine X_lv [0, 1, 2, 3, 4] (lv' := [(0, .ref (ga G 94)), (1, .int v1), (2, .int v2), (3, .int v3), (4, .int v4)]) rfl ?_
  unfold F_X12_report
  refine X_iload_n (a := 2) dX12_report_0 rfl rfl rfl ?_
  refine X_jc (P := fun j => ∀ (x11_0 : Int32), X fJ G miX12_report (1) 11 [(0, .ref (ga G 94)), (1, .int v1), (2, .int v2), (3, .int v3), (4, .int v4)] [.int x11_0] M (j x11_0)) (fun x11_0 => ?_) (fun j11 hj11 => ?_)
  · refine X_istore (lv2 := [(5, .int x11_0), (0, .ref (ga G 94)), (1, .int v1), (2, .int v2), (3, .int v3), (4, .int v4)]) dX12_report_11 (by decide) rfl rfl ?_
    refine X_iload_n (a := 2) dX12_report_13 rfl rfl rfl ?_
    refine X_i2l dX12_report_14 rfl rfl ?_
    refine X_lconst (w := 0) dX12_report_15 kl_0 rfl ?_
    refine X_ldc2 (w := 15) dX12_report_16 t_1384 rfl ?_
    refine X_ruI (Ru_S (st := []) cs_X12_61 (c_X12_in G M (Int32.toInt64 v1) 0 15) (by decide) rfl rfl (Nat.le_of_ble_eq_true rfl) dX12_report_19) rfl (fun r19 => ?_)
    refine X_if_eq (tgt := 61) dX12_report_22 rfl rfl (fun e22 => ?_) (fun e22 => ?_)
    · refine X_iconst (w := (-1)) dX12_report_61 ki_m1 rfl ?_
      exact X_iretJ rfl dX12_report_62
    · refine X_iload_n (a := 3) dX12_report_25 rfl rfl rfl ?_
      refine X_i2l dX12_report_26 rfl rfl ?_
      refine X_lconst (w := 0) dX12_report_27 kl_0 rfl ?_
      refine X_lconst (w := 1) dX12_report_28 kl_1 rfl ?_
      refine X_ruI (Ru_S (st := []) cs_X12_61 (c_X12_in G M (Int32.toInt64 v2) 0 1) (by decide) rfl rfl (Nat.le_of_ble_eq_true rfl) dX12_report_29) rfl (fun r29 => ?_)
      refine X_if_eq (tgt := 61) dX12_report_32 rfl rfl (fun e32 => ?_) (fun e32 => ?_)
      · refine X_iconst (w := (-1)) dX12_report_61 ki_m1 rfl ?_
        exact X_iretJ rfl dX12_report_62
      · refine X_iload_n (a := 4) dX12_report_35 rfl rfl rfl ?_
        refine X_i2l dX12_report_36 rfl rfl ?_
        refine X_lconst (w := 0) dX12_report_37 kl_0 rfl ?_
        refine X_iload (a := 0) dX12_report_38 rfl rfl ?_
        refine X_i2l dX12_report_40 rfl rfl ?_
        refine X_ruI (Ru_S (st := []) cs_X12_61 (c_X12_in G M (Int32.toInt64 v3) 0 (Int32.toInt64 x11_0)) (by decide) rfl rfl (Nat.le_of_ble_eq_true rfl) dX12_report_41) rfl (fun r41 => ?_)
        refine X_if_eq (tgt := 61) dX12_report_44 rfl rfl (fun e44 => ?_) (fun e44 => ?_)
        · refine X_iconst (w := (-1)) dX12_report_61 ki_m1 rfl ?_
          exact X_iretJ rfl dX12_report_62
        · refine X_iload (a := 5) dX12_report_47 rfl rfl ?_
          refine X_i2l dX12_report_49 rfl rfl ?_
          refine X_iload_n (a := 4) dX12_report_50 rfl rfl rfl ?_
          refine X_i2l dX12_report_51 rfl rfl ?_
          refine X_iload (a := 0) dX12_report_52 rfl rfl ?_
          refine X_i2l dX12_report_54 rfl rfl ?_
          refine X_ruI (Ru_S (st := []) cs_X12_61 (c_X12_in G M (Int32.toInt64 v4) (Int32.toInt64 v3) (Int32.toInt64 x11_0)) (by decide) rfl rfl (Nat.le_of_ble_eq_true rfl) dX12_report_55) rfl (fun r55 => ?_)
          refine X_if_ne (tgt := 63) dX12_report_58 rfl rfl (fun e58 => ?_) (fun e58 => ?_)
          · refine X_aload_n (a := 1) dX12_report_63 rfl rfl rfl ?_
            refine X_getR (t := 95) fl_X12_7 rfl rfl dX12_report_64 rfl ?_
            refine X_bipush (w := 6) dX12_report_67 kb_6 rfl ?_
            refine X_iald rfl rfl dX12_report_69 rfl ?_
            refine X_bipush (w := 6) dX12_report_70 kb_6 rfl ?_
            refine X_icmp_ne (tgt := 78) dX12_report_72 rfl rfl (fun e72 => ?_) (fun e72 => ?_)
            · refine X_aload_n (a := 1) dX12_report_78 rfl rfl rfl ?_
              refine X_getR (t := 95) fl_X12_7 rfl rfl dX12_report_79 rfl ?_
              refine X_bipush (w := 6) dX12_report_82 kb_6 rfl ?_
              refine X_iald rfl rfl dX12_report_84 rfl ?_
              refine X_istore (lv2 := [(6, .int (gi M 95 (ui 6))), (5, .int x11_0), (0, .ref (ga G 94)), (1, .int v1), (2, .int v2), (3, .int v3), (4, .int v4)]) dX12_report_85 (by decide) rfl rfl ?_
              refine X_aload_n (a := 2) dX12_report_87 rfl rfl rfl ?_
              refine X_getR (t := 95) fl_X12_7 rfl rfl dX12_report_88 rfl ?_
              refine X_bipush (w := 65) dX12_report_91 kb_65 rfl ?_
              refine X_iconst (w := 4) dX12_report_93 ki_4 rfl ?_
              refine X_iload (a := 0) dX12_report_94 rfl rfl ?_
              refine X_imul dX12_report_96 rfl ?_
              refine X_iadd dX12_report_97 rfl ?_
              refine X_iload_n (a := 3) dX12_report_98 rfl rfl rfl ?_
              refine X_iast rfl rfl dX12_report_99 rfl ?_
              refine X_aload_n (a := 2) dX12_report_100 rfl rfl rfl ?_
              refine X_getR (t := 95) fl_X12_7 rfl rfl dX12_report_101 rfl ?_
              refine X_bipush (w := 65) dX12_report_104 kb_65 rfl ?_
              refine X_iconst (w := 4) dX12_report_106 ki_4 rfl ?_
              refine X_iload (a := 0) dX12_report_107 rfl rfl ?_
              refine X_imul dX12_report_109 rfl ?_
              refine X_iadd dX12_report_110 rfl ?_
              refine X_iconst (w := 1) dX12_report_111 ki_1 rfl ?_
              refine X_iadd dX12_report_112 rfl ?_
              refine X_iload_n (a := 4) dX12_report_113 rfl rfl rfl ?_
              refine X_iast rfl rfl dX12_report_114 rfl ?_
              refine X_aload_n (a := 2) dX12_report_115 rfl rfl rfl ?_
              refine X_getR (t := 95) fl_X12_7 rfl rfl dX12_report_116 rfl ?_
              refine X_bipush (w := 65) dX12_report_119 kb_65 rfl ?_
              refine X_iconst (w := 4) dX12_report_121 ki_4 rfl ?_
              refine X_iload (a := 0) dX12_report_122 rfl rfl ?_
              refine X_imul dX12_report_124 rfl ?_
              refine X_iadd dX12_report_125 rfl ?_
              refine X_iconst (w := 2) dX12_report_126 ki_2 rfl ?_
              refine X_iadd dX12_report_127 rfl ?_
              refine X_iload_n (a := 5) dX12_report_128 rfl rfl rfl ?_
              refine X_iast rfl rfl dX12_report_129 rfl ?_
              refine X_aload_n (a := 2) dX12_report_130 rfl rfl rfl ?_
              refine X_getR (t := 95) fl_X12_7 rfl rfl dX12_report_131 rfl ?_
              refine X_bipush (w := 65) dX12_report_134 kb_65 rfl ?_
              refine X_iconst (w := 4) dX12_report_136 ki_4 rfl ?_
              refine X_iload (a := 0) dX12_report_137 rfl rfl ?_
              refine X_imul dX12_report_139 rfl ?_
              refine X_iadd dX12_report_140 rfl ?_
              refine X_iconst (w := 3) dX12_report_141 ki_3 rfl ?_
              refine X_iadd dX12_report_142 rfl ?_
              refine X_iload (a := 6) dX12_report_143 rfl rfl ?_
              refine X_iast rfl rfl dX12_report_145 rfl ?_
              refine X_aload_n (a := 2) dX12_report_146 rfl rfl rfl ?_
              refine X_getR (t := 95) fl_X12_7 rfl rfl dX12_report_147 rfl ?_
              refine X_bipush (w := 6) dX12_report_150 kb_6 rfl ?_
              refine X_dup2 dX12_report_152 rfl rfl rfl ?_
              refine X_iald rfl rfl dX12_report_153 rfl ?_
              refine X_iconst (w := 1) dX12_report_154 ki_1 rfl ?_
              refine X_iadd dX12_report_155 rfl ?_
              refine X_iast rfl rfl dX12_report_156 rfl ?_
              refine X_iload (a := 0) dX12_report_157 rfl rfl ?_
              exact X_iretJ rfl dX12_report_159
            · refine X_bipush (w := (-2)) dX12_report_75 kb_m2 rfl ?_
              exact X_iretJ rfl dX12_report_77
          · refine X_iconst (w := (-1)) dX12_report_61 ki_m1 rfl ?_
            exact X_iretJ rfl dX12_report_62
  refine X_if_ne (tgt := 9) dX12_report_1 rfl rfl (fun e1 => ?_) (fun e1 => ?_)
  · refine X_bipush (w := 16) dX12_report_9 kb_16 rfl ?_
    exact X_lv [0, 1, 2, 3, 4] rfl (hj11 16)
  · refine X_bipush (w := 99) dX12_report_4 kb_99 rfl ?_
    refine X_goto (tgt := 11) dX12_report_6 rfl ?_
    exact X_lv [0, 1, 2, 3, 4] rfl (hj11 99)
set_option maxRecDepth 100000 in
theorem c_X12_forget (G : Gm) (M : Mm) : Ct fJ G miX12_forget (1) [.ref (ga G 94)] M (F_X12_forget M) := by
  refine Ct_of (pn_X12) (Nat.le_of_ble_eq_true rfl) ?_
  refine X_lv [0] (lv' := [(0, .ref (ga G 94))]) rfl ?_
  unfold F_X12_forget
  refine X_aload_n (a := 0) dX12_forget_0 rfl rfl rfl ?_
  refine X_bipush (w := 6) dX12_forget_1 kb_6 rfl ?_
  refine X_iconst (w := 0) dX12_forget_3 ki_0 rfl ?_
  refine X_ruJ (Ru_V (st := []) cv_X12_156 rfl (c_X12_becomes G M 6 0) (by decide) rfl rfl (Nat.le_of_ble_eq_true rfl) dX12_forget_4) rfl (fun r4 => ?_)
  exact X_iretJ rfl dX12_forget_7
set_option maxRecDepth 100000 in
theorem x_X12_fitting_L22 (G : Gm) (M : Mm) (v1 : Int32) (v2 : Int32) (v5 : Int32) (v6 : Int32) (v7 : Int32) (k12 : Int32 → Int32 → Int32 → Int32 → Option Int32) (hk12 : ∀ (v4 : Int32) (v5 : Int32) (v6 : Int32) (v7 : Int32), X (fI M) G miX12_fitting (2) 12 [(0, .ref (ga G 94)), (1, .int v1), (2, .int v2), (4, .int v4), (5, .int v5), (6, .int v6), (7, .int v7)] [] M (k12 v4 v5 v6 v7)) : ∀ (n : Nat) (v4 : Int32) (v8 : Int32), X (fI M) G miX12_fitting (2) 22 [(0, .ref (ga G 94)), (1, .int v1), (2, .int v2), (4, .int v4), (5, .int v5), (6, .int v6), (7, .int v7), (8, .int v8)] [] M (F_X12_fitting_L22 k12 M v1 v2 v5 v6 v7 n v4 v8) := by
  intro n
  induction n with
  | zero => intro v4 v8; exact X_none
  | succ n ih =>
    intro v4 v8
    rw [F_X12_fitting_L22]
    refine X_iload (a := 7) dX12_fitting_22 rfl rfl ?_
    refine X_aload_n (a := 0) dX12_fitting_24 rfl rfl rfl ?_
    refine X_getR (t := 95) fl_X12_7 rfl rfl dX12_fitting_25 rfl ?_
    refine X_bipush (w := 6) dX12_fitting_28 kb_6 rfl ?_
    refine X_iald rfl rfl dX12_fitting_30 rfl ?_
    refine X_icmp_ge (tgt := 147) dX12_fitting_31 rfl rfl (fun e31 => ?_) (fun e31 => ?_)
    · refine X_aload_n (a := 0) dX12_fitting_147 rfl rfl rfl ?_
      refine X_getR (t := 95) fl_X12_7 rfl rfl dX12_fitting_148 rfl ?_
      refine X_bipush (w := 7) dX12_fitting_151 kb_7 rfl ?_
      refine X_iload (a := 6) dX12_fitting_153 rfl rfl ?_
      refine X_iadd dX12_fitting_155 rfl ?_
      refine X_iald rfl rfl dX12_fitting_156 rfl ?_
      refine X_iconst (w := 4) dX12_fitting_157 ki_4 rfl ?_
      refine X_idiv dX12_fitting_158 (by decide) rfl ?_
      refine X_istore (lv2 := [(8, .int ((gi M 95 (ui (7 + v7))) / 4)), (0, .ref (ga G 94)), (1, .int v1), (2, .int v2), (4, .int v4), (5, .int v5), (6, .int v6), (7, .int v7)]) dX12_fitting_159 (by decide) rfl rfl ?_
      refine X_iload (a := 6) dX12_fitting_161 rfl rfl ?_
      refine X_iload (a := 5) dX12_fitting_163 rfl rfl ?_
      refine X_jc (P := fun j => ∀ (x188_0 : Int32), X (fI M) G miX12_fitting (2) 188 [(0, .ref (ga G 94)), (1, .int v1), (2, .int v2), (4, .int v4), (5, .int v5), (7, .int v7), (8, .int ((gi M 95 (ui (7 + v7))) / 4))] [.int x188_0, .int v6] M (j x188_0)) (fun x188_0 => ?_) (fun j188 hj188 => ?_)
      · refine X_iadd dX12_fitting_188 rfl ?_
        refine X_istore (lv2 := [(6, .int (v6 + x188_0)), (0, .ref (ga G 94)), (1, .int v1), (2, .int v2), (4, .int v4), (5, .int v5), (7, .int v7), (8, .int ((gi M 95 (ui (7 + v7))) / 4))]) dX12_fitting_189 (by decide) rfl rfl ?_
        refine X_iload (a := 5) dX12_fitting_191 rfl rfl ?_
        refine X_iload_n (a := 2) dX12_fitting_193 rfl rfl rfl ?_
        refine X_iload (a := 7) dX12_fitting_194 rfl rfl ?_
        refine X_aload_n (a := 1) dX12_fitting_196 rfl rfl rfl ?_
        refine X_getR (t := 95) fl_X12_7 rfl rfl dX12_fitting_197 rfl ?_
        refine X_bipush (w := 7) dX12_fitting_200 kb_7 rfl ?_
        refine X_iload (a := 6) dX12_fitting_202 rfl rfl ?_
        refine X_iadd dX12_fitting_204 rfl ?_
        refine X_iald rfl rfl dX12_fitting_205 rfl ?_
        refine X_iconst (w := 4) dX12_fitting_206 ki_4 rfl ?_
        refine X_irem dX12_fitting_207 (by decide) rfl ?_
        refine X_iload (a := 6) dX12_fitting_208 rfl rfl ?_
        refine X_ruI (Ru_S (st := [.int v5]) cs_X12_91 (c_X12_leaksBy G M v1 ((gi M 95 (ui (7 + v7))) / 4) (ir (gi M 95 (ui (7 + v7))) 4) v7) (by decide) rfl rfl (Nat.le_of_ble_eq_true rfl) dX12_fitting_210) rfl (fun r210 => ?_)
        refine X_isub dX12_fitting_213 rfl ?_
        refine X_iconst (w := 0) dX12_fitting_214 ki_0 rfl ?_
        refine X_bipush (w := 99) dX12_fitting_215 kb_99 rfl ?_
        refine X_ruI (Ru_S (st := []) cs_X12_76 (c_X12_held G M (v5 - r210) 0 99) (by decide) rfl rfl (Nat.le_of_ble_eq_true rfl) dX12_fitting_217) rfl (fun r217 => ?_)
        refine X_istore (lv2 := [(5, .int r217), (6, .int (v6 + x188_0)), (0, .ref (ga G 94)), (1, .int v1), (2, .int v2), (4, .int v4), (7, .int v7), (8, .int ((gi M 95 (ui (7 + v7))) / 4))]) dX12_fitting_220 (by decide) rfl rfl ?_
        refine X_iinc (a := 6) (lv2 := [(7, .int (v7 + 1)), (5, .int r217), (6, .int (v6 + x188_0)), (0, .ref (ga G 94)), (1, .int v1), (2, .int v2), (4, .int v4), (8, .int ((gi M 95 (ui (7 + v7))) / 4))]) dX12_fitting_222 rfl (ii_1 _) (by decide) rfl rfl ?_
        refine X_goto (tgt := 12) dX12_fitting_225 rfl ?_
        exact X_lv [3, 4, 5, 6, 1, 2, 0] rfl (hk12 v4 r217 (v6 + x188_0) (v7 + 1))
      refine X_jc (P := fun j => X (fI M) G miX12_fitting (2) 187 [(0, .ref (ga G 94)), (1, .int v1), (2, .int v2), (4, .int v4), (5, .int v5), (7, .int v7), (8, .int ((gi M 95 (ui (7 + v7))) / 4))] [.int v6] M (j)) (?_) (fun j187 hj187 => ?_)
      · refine X_iconst (w := 0) dX12_fitting_187 ki_0 rfl ?_
        exact X_lv [0, 1, 2, 3, 4, 5, 6] rfl (hj188 0)
      refine X_if_le (tgt := 187) dX12_fitting_165 rfl rfl (fun e165 => ?_) (fun e165 => ?_)
      · exact X_lv [1, 2, 3, 4, 5, 7, 0] rfl (hj187)
      · refine X_iload_n (a := 2) dX12_fitting_168 rfl rfl rfl ?_
        refine X_iload (a := 5) dX12_fitting_169 rfl rfl ?_
        refine X_iload_n (a := 3) dX12_fitting_171 rfl rfl rfl ?_
        refine X_iconst (w := 0) dX12_fitting_172 ki_0 rfl ?_
        refine X_ruI (Ru_S (st := [.int v6]) cs_X12_98 (c_X12_floatsBy G M v1 v5 v2 0) (by decide) rfl rfl (Nat.le_of_ble_eq_true rfl) dX12_fitting_173) rfl (fun r173 => ?_)
        refine X_iload (a := 0) dX12_fitting_176 rfl rfl ?_
        refine X_iadd dX12_fitting_178 rfl ?_
        refine X_iconst (w := 4) dX12_fitting_179 ki_4 rfl ?_
        refine X_icmp_gt (tgt := 187) dX12_fitting_180 rfl rfl (fun e180 => ?_) (fun e180 => ?_)
        · exact X_lv [1, 2, 3, 4, 5, 7, 0] rfl (hj187)
        · refine X_iconst (w := 1) dX12_fitting_183 ki_1 rfl ?_
          refine X_goto (tgt := 188) dX12_fitting_184 rfl ?_
          exact X_lv [1, 2, 3, 4, 5, 7, 0] rfl (hj188 1)
    · refine X_aload_n (a := 0) dX12_fitting_34 rfl rfl rfl ?_
      refine X_getR (t := 95) fl_X12_7 rfl rfl dX12_fitting_35 rfl ?_
      refine X_bipush (w := 65) dX12_fitting_38 kb_65 rfl ?_
      refine X_iconst (w := 4) dX12_fitting_40 ki_4 rfl ?_
      refine X_iload (a := 7) dX12_fitting_41 rfl rfl ?_
      refine X_imul dX12_fitting_43 rfl ?_
      refine X_iadd dX12_fitting_44 rfl ?_
      refine X_iconst (w := 1) dX12_fitting_45 ki_1 rfl ?_
      refine X_iadd dX12_fitting_46 rfl ?_
      refine X_iald rfl rfl dX12_fitting_47 rfl ?_
      refine X_jc (P := fun j => ∀ (x58_0 : Int32), X (fI M) G miX12_fitting (2) 58 [(0, .ref (ga G 94)), (1, .int v1), (2, .int v2), (4, .int v4), (5, .int v5), (6, .int v6), (7, .int v7), (8, .int v8)] [.int x58_0] M (j x58_0)) (fun x58_0 => ?_) (fun j58 hj58 => ?_)
      · refine X_istore (lv2 := [(9, .int x58_0), (0, .ref (ga G 94)), (1, .int v1), (2, .int v2), (4, .int v4), (5, .int v5), (6, .int v6), (7, .int v7), (8, .int v8)]) dX12_fitting_58 (by decide) rfl rfl ?_
        refine X_aload_n (a := 1) dX12_fitting_60 rfl rfl rfl ?_
        refine X_getR (t := 95) fl_X12_7 rfl rfl dX12_fitting_61 rfl ?_
        refine X_bipush (w := 65) dX12_fitting_64 kb_65 rfl ?_
        refine X_iconst (w := 4) dX12_fitting_66 ki_4 rfl ?_
        refine X_iload (a := 8) dX12_fitting_67 rfl rfl ?_
        refine X_imul dX12_fitting_69 rfl ?_
        refine X_iadd dX12_fitting_70 rfl ?_
        refine X_iald rfl rfl dX12_fitting_71 rfl ?_
        refine X_iload (a := 7) dX12_fitting_72 rfl rfl ?_
        refine X_jc (P := fun j => ∀ (x121_0 : Int32), X (fI M) G miX12_fitting (2) 121 [(0, .ref (ga G 94)), (1, .int v1), (2, .int v2), (4, .int v4), (5, .int v5), (6, .int v6), (7, .int v7), (8, .int v8)] [.int x121_0] M (j x121_0)) (fun x121_0 => ?_) (fun j121 hj121 => ?_)
        · refine X_istore (lv2 := [(10, .int x121_0), (0, .ref (ga G 94)), (1, .int v1), (2, .int v2), (4, .int v4), (5, .int v5), (6, .int v6), (7, .int v7), (8, .int v8)]) dX12_fitting_121 (by decide) rfl rfl ?_
          refine X_iload (a := 4) dX12_fitting_123 rfl rfl ?_
          refine X_iload (a := 0) dX12_fitting_125 rfl rfl ?_
          refine X_jc (P := fun j => ∀ (x138_0 : Int32), X (fI M) G miX12_fitting (2) 138 [(0, .ref (ga G 94)), (1, .int v1), (2, .int v2), (5, .int v5), (6, .int v6), (7, .int v7), (8, .int v8)] [.int x138_0, .int v4] M (j x138_0)) (fun x138_0 => ?_) (fun j138 hj138 => ?_)
          · refine X_ior dX12_fitting_138 rfl ?_
            refine X_istore (lv2 := [(4, .int (v4 ||| x138_0)), (0, .ref (ga G 94)), (1, .int v1), (2, .int v2), (5, .int v5), (6, .int v6), (7, .int v7), (8, .int v8)]) dX12_fitting_139 (by decide) rfl rfl ?_
            refine X_iinc (a := 7) (lv2 := [(8, .int (v8 + 1)), (4, .int (v4 ||| x138_0)), (0, .ref (ga G 94)), (1, .int v1), (2, .int v2), (5, .int v5), (6, .int v6), (7, .int v7)]) dX12_fitting_141 rfl (ii_1 _) (by decide) rfl rfl ?_
            refine X_goto (tgt := 22) dX12_fitting_144 rfl ?_
            exact X_lv [2, 3, 4, 1, 5, 6, 7, 0] rfl (ih (v4 ||| x138_0) (v8 + 1))
          refine X_if_eq (tgt := 137) dX12_fitting_127 rfl rfl (fun e127 => ?_) (fun e127 => ?_)
          · refine X_iconst (w := 0) dX12_fitting_137 ki_0 rfl ?_
            exact X_lv [1, 2, 3, 5, 6, 7, 8] rfl (hj138 0)
          · refine X_iconst (w := 1) dX12_fitting_130 ki_1 rfl ?_
            refine X_iload (a := 8) dX12_fitting_131 rfl rfl ?_
            refine X_ishl dX12_fitting_133 rfl ?_
            refine X_goto (tgt := 138) dX12_fitting_134 rfl ?_
            exact X_lv [1, 2, 3, 5, 6, 7, 8] rfl (hj138 (1 <<< (v8 &&& 31)))
        refine X_jc (P := fun j => X (fI M) G miX12_fitting (2) 120 [(0, .ref (ga G 94)), (1, .int v1), (2, .int v2), (4, .int v4), (5, .int v5), (6, .int v6), (7, .int v7), (8, .int v8)] [] M (j)) (?_) (fun j120 hj120 => ?_)
        · refine X_iconst (w := 0) dX12_fitting_120 ki_0 rfl ?_
          exact X_lv [0, 1, 2, 3, 4, 5, 6, 7] rfl (hj121 0)
        refine X_icmp_ne (tgt := 120) dX12_fitting_74 rfl rfl (fun e74 => ?_) (fun e74 => ?_)
        · exact X_lv [1, 2, 3, 4, 5, 6, 7, 8] rfl (hj120)
        · refine X_iload (a := 0) dX12_fitting_77 rfl rfl ?_
          refine X_i2l dX12_fitting_79 rfl rfl ?_
          refine X_aload_n (a := 1) dX12_fitting_80 rfl rfl rfl ?_
          refine X_getR (t := 95) fl_X12_7 rfl rfl dX12_fitting_81 rfl ?_
          refine X_bipush (w := 65) dX12_fitting_84 kb_65 rfl ?_
          refine X_iconst (w := 4) dX12_fitting_86 ki_4 rfl ?_
          refine X_iload (a := 8) dX12_fitting_87 rfl rfl ?_
          refine X_imul dX12_fitting_89 rfl ?_
          refine X_iadd dX12_fitting_90 rfl ?_
          refine X_iconst (w := 2) dX12_fitting_91 ki_2 rfl ?_
          refine X_iadd dX12_fitting_92 rfl ?_
          refine X_iald rfl rfl dX12_fitting_93 rfl ?_
          refine X_i2l dX12_fitting_94 rfl rfl ?_
          refine X_aload_n (a := 1) dX12_fitting_95 rfl rfl rfl ?_
          refine X_getR (t := 95) fl_X12_7 rfl rfl dX12_fitting_96 rfl ?_
          refine X_bipush (w := 65) dX12_fitting_99 kb_65 rfl ?_
          refine X_iconst (w := 4) dX12_fitting_101 ki_4 rfl ?_
          refine X_iload (a := 8) dX12_fitting_102 rfl rfl ?_
          refine X_imul dX12_fitting_104 rfl ?_
          refine X_iadd dX12_fitting_105 rfl ?_
          refine X_iconst (w := 3) dX12_fitting_106 ki_3 rfl ?_
          refine X_iadd dX12_fitting_107 rfl ?_
          refine X_iald rfl rfl dX12_fitting_108 rfl ?_
          refine X_i2l dX12_fitting_109 rfl rfl ?_
          refine X_ruI (Ru_S (st := []) cs_X12_61 (c_X12_in G M (Int32.toInt64 x58_0) (Int32.toInt64 (gi M 95 (ui ((65 + (4 * v8)) + 2)))) (Int32.toInt64 (gi M 95 (ui ((65 + (4 * v8)) + 3))))) (by decide) rfl rfl (Nat.le_of_ble_eq_true rfl) dX12_fitting_110) rfl (fun r110 => ?_)
          refine X_if_eq (tgt := 120) dX12_fitting_113 rfl rfl (fun e113 => ?_) (fun e113 => ?_)
          · exact X_lv [1, 2, 3, 4, 5, 6, 7, 8] rfl (hj120)
          · refine X_iconst (w := 1) dX12_fitting_116 ki_1 rfl ?_
            refine X_goto (tgt := 121) dX12_fitting_117 rfl ?_
            exact X_lv [1, 2, 3, 4, 5, 6, 7, 8] rfl (hj121 1)
      refine X_if_ne (tgt := 56) dX12_fitting_48 rfl rfl (fun e48 => ?_) (fun e48 => ?_)
      · refine X_iload (a := 5) dX12_fitting_56 rfl rfl ?_
        exact X_lv [0, 1, 2, 3, 4, 5, 6, 7] rfl (hj58 v6)
      · refine X_iload (a := 4) dX12_fitting_51 rfl rfl ?_
        refine X_goto (tgt := 58) dX12_fitting_53 rfl ?_
        exact X_lv [0, 1, 2, 3, 4, 5, 6, 7] rfl (hj58 v5)
set_option maxRecDepth 100000 in
theorem x_X12_fitting_L12 (G : Gm) (M : Mm) (v1 : Int32) (v2 : Int32) : ∀ (n : Nat) (v4 : Int32) (v5 : Int32) (v6 : Int32) (v7 : Int32), X (fI M) G miX12_fitting (2) 12 [(0, .ref (ga G 94)), (1, .int v1), (2, .int v2), (4, .int v4), (5, .int v5), (6, .int v6), (7, .int v7)] [] M (F_X12_fitting_L12 M v1 v2 n v4 v5 v6 v7) := by
  intro n
  induction n with
  | zero => intro v4 v5 v6 v7; exact X_none
  | succ n ih =>
    intro v4 v5 v6 v7
    rw [F_X12_fitting_L12]
    refine X_iload (a := 6) dX12_fitting_12 rfl rfl ?_
    refine X_bipush (w := 16) dX12_fitting_14 kb_16 rfl ?_
    refine X_icmp_ge (tgt := 228) dX12_fitting_16 rfl rfl (fun e16 => ?_) (fun e16 => ?_)
    · refine X_iload (a := 3) dX12_fitting_228 rfl rfl ?_
      exact X_iretI rfl dX12_fitting_230
    · refine X_iconst (w := 0) dX12_fitting_19 ki_0 rfl ?_
      refine X_istore (lv2 := [(8, .int 0), (0, .ref (ga G 94)), (1, .int v1), (2, .int v2), (4, .int v4), (5, .int v5), (6, .int v6), (7, .int v7)]) dX12_fitting_20 (by decide) rfl rfl ?_
      exact X_lv [1, 2, 3, 4, 5, 6, 7, 0] rfl (x_X12_fitting_L22 G M v1 v2 v5 v6 v7 (F_X12_fitting_L12 M v1 v2 n) ih 1000 v4 0)
set_option maxRecDepth 100000 in
theorem c_X12_fitting (G : Gm) (M : Mm) (v1 : Int32) (v2 : Int32) (v3 : Int32) : Ct (fI M) G miX12_fitting (2) [.ref (ga G 94), .int v1, .int v2, .int v3] M (F_X12_fitting M v1 v2 v3) := by
  refine Ct_of (pn_X12) (Nat.le_of_ble_eq_true rfl) ?_
  refine X_lv [0, 1, 2, 3] (lv' := [(0, .ref (ga G 94)), (1, .int v1), (2, .int v2), (3, .int v3)]) rfl ?_
  unfold F_X12_fitting
  refine X_iconst (w := 0) dX12_fitting_0 ki_0 rfl ?_
  refine X_istore (lv2 := [(4, .int 0), (0, .ref (ga G 94)), (1, .int v1), (2, .int v2), (3, .int v3)]) dX12_fitting_1 (by decide) rfl rfl ?_
  refine X_iload_n (a := 4) dX12_fitting_3 rfl rfl rfl ?_
  refine X_istore (lv2 := [(5, .int v3), (4, .int 0), (0, .ref (ga G 94)), (1, .int v1), (2, .int v2), (3, .int v3)]) dX12_fitting_4 (by decide) rfl rfl ?_
  refine X_iconst (w := 0) dX12_fitting_6 ki_0 rfl ?_
  refine X_istore (lv2 := [(6, .int 0), (5, .int v3), (4, .int 0), (0, .ref (ga G 94)), (1, .int v1), (2, .int v2), (3, .int v3)]) dX12_fitting_7 (by decide) rfl rfl ?_
  refine X_iconst (w := 0) dX12_fitting_9 ki_0 rfl ?_
  refine X_istore (lv2 := [(7, .int 0), (6, .int 0), (5, .int v3), (4, .int 0), (0, .ref (ga G 94)), (1, .int v1), (2, .int v2), (3, .int v3)]) dX12_fitting_10 (by decide) rfl rfl ?_
  exact X_lv [4, 5, 6, 3, 2, 1, 0] rfl (x_X12_fitting_L12 G M v1 v2 1000 0 v3 0 0)
set_option maxRecDepth 100000 in
theorem x_X12_findLone_L31 (G : Gm) (v2 : Int32) : ∀ (n : Nat) (M : Mm) (v3 : Int32), X fV G miX12_findLone (3) 31 [(0, .ref (ga G 94)), (2, .int v2), (3, .int v3)] [] M (F_X12_findLone_L31 v2 n M v3) := by
  intro n
  induction n with
  | zero => intro M v3; exact X_none
  | succ n ih =>
    intro M v3
    rw [F_X12_findLone_L31]
    refine X_iload_n (a := 2) dX12_findLone_31 rfl rfl rfl ?_
    refine X_if_lt (tgt := 118) dX12_findLone_32 rfl rfl (fun e32 => ?_) (fun e32 => ?_)
    · exact X_vret rfl dX12_findLone_118
    · refine X_iload_n (a := 1) dX12_findLone_35 rfl rfl rfl ?_
      refine X_aload_n (a := 0) dX12_findLone_36 rfl rfl rfl ?_
      refine X_iconst (w := 1) dX12_findLone_37 ki_1 rfl ?_
      refine X_iload_n (a := 2) dX12_findLone_38 rfl rfl rfl ?_
      refine X_bipush (w := 100) dX12_findLone_39 kb_100 rfl ?_
      refine X_idiv dX12_findLone_41 (by decide) rfl ?_
      refine X_iadd dX12_findLone_42 rfl ?_
      refine X_iload_n (a := 2) dX12_findLone_43 rfl rfl rfl ?_
      refine X_bipush (w := 10) dX12_findLone_44 kb_10 rfl ?_
      refine X_idiv dX12_findLone_46 (by decide) rfl ?_
      refine X_bipush (w := 10) dX12_findLone_47 kb_10 rfl ?_
      refine X_irem dX12_findLone_49 (by decide) rfl ?_
      refine X_bipush (w := 9) dX12_findLone_50 kb_9 rfl ?_
      refine X_bipush (w := 10) dX12_findLone_52 kb_10 rfl ?_
      refine X_iload_n (a := 2) dX12_findLone_54 rfl rfl rfl ?_
      refine X_bipush (w := 10) dX12_findLone_55 kb_10 rfl ?_
      refine X_irem dX12_findLone_57 (by decide) rfl ?_
      refine X_imul dX12_findLone_58 rfl ?_
      refine X_iadd dX12_findLone_59 rfl ?_
      refine X_ruI (Ru_V (st := [.int v2]) cv_X12_368 rfl (c_X12_fitting G M (1 + (v3 / 100)) (ir (v3 / 10) 10) (9 + (10 * (ir v3 10)))) (by decide) rfl rfl (Nat.le_of_ble_eq_true rfl) dX12_findLone_60) rfl (fun r60 => ?_)
      refine X_iconst (w := (-1)) dX12_findLone_63 ki_m1 rfl ?_
      refine X_ixor dX12_findLone_64 rfl ?_
      refine X_iand dX12_findLone_65 rfl ?_
      refine X_jc (P := fun j => ∀ (x74_0 : Int32), X fV G miX12_findLone (3) 74 [(0, .ref (ga G 94)), (2, .int v2), (3, .int v3)] [.int x74_0] M (j x74_0)) (fun x74_0 => ?_) (fun j74 hj74 => ?_)
      · refine X_istore (lv2 := [(4, .int x74_0), (0, .ref (ga G 94)), (2, .int v2), (3, .int v3)]) dX12_findLone_74 (by decide) rfl rfl ?_
        refine X_aload_n (a := 1) dX12_findLone_76 rfl rfl rfl ?_
        refine X_dup dX12_findLone_77 rfl rfl ?_
        refine X_getI fl_X12_362 rfl dX12_findLone_78 rfl ?_
        refine X_iload (a := 0) dX12_findLone_81 rfl rfl ?_
        refine X_jc (P := fun j => ∀ (x91_0 : Int32), X fV G miX12_findLone (3) 91 [(0, .ref (ga G 94)), (2, .int v2), (3, .int v3), (4, .int x74_0)] [.int x91_0, .int (gi M 94 25), .ref (ga G 94)] M (j x91_0)) (fun x91_0 => ?_) (fun j91 hj91 => ?_)
        · refine X_iadd dX12_findLone_91 rfl ?_
          refine X_putI fp_X12_362 rfl dX12_findLone_92 rfl ?_
          refine X_aload_n (a := 0) dX12_findLone_95 rfl rfl rfl ?_
          refine X_iload (a := 3) dX12_findLone_96 rfl rfl ?_
          refine X_jc (P := fun j => ∀ (x109_0 : Int32), X fV G miX12_findLone (3) 109 [(0, .ref (ga G 94)), (2, .int v2), (3, .int v3)] [.int x109_0, .ref (ga G 94)] (si M 94 25 ((gi M 94 25) + x91_0)) (j x109_0)) (fun x109_0 => ?_) (fun j109 hj109 => ?_)
          · refine X_putI fp_X12_365 rfl dX12_findLone_109 rfl ?_
            refine X_iinc (a := 2) (lv2 := [(3, .int (v3 + (-1))), (0, .ref (ga G 94)), (2, .int v2)]) dX12_findLone_112 rfl (ii_m1 _) (by decide) rfl rfl ?_
            refine X_goto (tgt := 31) dX12_findLone_115 rfl ?_
            exact X_lv [1, 2, 0] rfl (ih (si (si M 94 25 ((gi M 94 25) + x91_0)) 94 26 x109_0) (v3 + (-1)))
          refine X_if_eq (tgt := 105) dX12_findLone_98 rfl rfl (fun e98 => ?_) (fun e98 => ?_)
          · refine X_aload_n (a := 0) dX12_findLone_105 rfl rfl rfl ?_
            refine X_getI fl_X12_365 rfl dX12_findLone_106 rfl ?_
            exact X_lv [0, 1, 2] rfl (hj109 (gi (si M 94 25 ((gi M 94 25) + x91_0)) 94 26))
          · refine X_iload_n (a := 2) dX12_findLone_101 rfl rfl rfl ?_
            refine X_goto (tgt := 109) dX12_findLone_102 rfl ?_
            exact X_lv [0, 1, 2] rfl (hj109 v3)
        refine X_if_eq (tgt := 90) dX12_findLone_83 rfl rfl (fun e83 => ?_) (fun e83 => ?_)
        · refine X_iconst (w := 0) dX12_findLone_90 ki_0 rfl ?_
          exact X_lv [1, 2, 3, 0] rfl (hj91 0)
        · refine X_iconst (w := 1) dX12_findLone_86 ki_1 rfl ?_
          refine X_goto (tgt := 91) dX12_findLone_87 rfl ?_
          exact X_lv [1, 2, 3, 0] rfl (hj91 1)
      refine X_if_ne (tgt := 73) dX12_findLone_66 rfl rfl (fun e66 => ?_) (fun e66 => ?_)
      · refine X_iconst (w := 0) dX12_findLone_73 ki_0 rfl ?_
        exact X_lv [0, 1, 2] rfl (hj74 0)
      · refine X_iconst (w := 1) dX12_findLone_69 ki_1 rfl ?_
        refine X_goto (tgt := 74) dX12_findLone_70 rfl ?_
        exact X_lv [0, 1, 2] rfl (hj74 1)
set_option maxRecDepth 100000 in
theorem c_X12_findLone (G : Gm) (M : Mm) (v1 : Int32) : Ct fV G miX12_findLone (3) [.ref (ga G 94), .int v1] M (F_X12_findLone M v1) := by
  refine Ct_of (pn_X12) (Nat.le_of_ble_eq_true rfl) ?_
  refine X_lv [0, 1] (lv' := [(0, .ref (ga G 94)), (1, .int v1)]) rfl ?_
  unfold F_X12_findLone
  refine X_iconst (w := 1) dX12_findLone_0 ki_1 rfl ?_
  refine X_aload_n (a := 0) dX12_findLone_1 rfl rfl rfl ?_
  refine X_getR (t := 95) fl_X12_7 rfl rfl dX12_findLone_2 rfl ?_
  refine X_bipush (w := 6) dX12_findLone_5 kb_6 rfl ?_
  refine X_iald rfl rfl dX12_findLone_7 rfl ?_
  refine X_ishl dX12_findLone_8 rfl ?_
  refine X_iconst (w := 1) dX12_findLone_9 ki_1 rfl ?_
  refine X_isub dX12_findLone_10 rfl ?_
  refine X_iload_n (a := 1) dX12_findLone_11 rfl rfl rfl ?_
  refine X_iconst (w := (-1)) dX12_findLone_12 ki_m1 rfl ?_
  refine X_ixor dX12_findLone_13 rfl ?_
  refine X_iand dX12_findLone_14 rfl ?_
  refine X_istore_n (lv2 := [(2, .int (((1 <<< ((gi M 95 (ui 6)) &&& 31)) - 1) &&& (v1 ^^^ (-1)))), (0, .ref (ga G 94)), (1, .int v1)]) dX12_findLone_15 rfl (by decide) rfl rfl ?_
  refine X_aload_n (a := 1) dX12_findLone_16 rfl rfl rfl ?_
  refine X_iconst (w := 0) dX12_findLone_17 ki_0 rfl ?_
  refine X_putI fp_X12_362 rfl dX12_findLone_18 rfl ?_
  refine X_aload_n (a := 1) dX12_findLone_21 rfl rfl rfl ?_
  refine X_bipush (w := (-3)) dX12_findLone_22 kb_m3 rfl ?_
  refine X_putI fp_X12_365 rfl dX12_findLone_24 rfl ?_
  refine X_sipush (w := 499) dX12_findLone_27 ks_499 rfl ?_
  refine X_istore_n (lv2 := [(3, .int 499), (2, .int (((1 <<< ((gi M 95 (ui 6)) &&& 31)) - 1) &&& (v1 ^^^ (-1)))), (0, .ref (ga G 94)), (1, .int v1)]) dX12_findLone_30 rfl (by decide) rfl rfl ?_
  exact X_lv [2, 1, 0] rfl (x_X12_findLone_L31 G (((1 <<< ((gi M 95 (ui 6)) &&& 31)) - 1) &&& (v1 ^^^ (-1))) 1000 (si (si M 94 25 0) 94 26 (-3)) 499)
set_option maxRecDepth 100000 in
theorem c_X12_lone (G : Gm) (M : Mm) (v1 : Int32) : Ct fJ G miX12_lone (4) [.ref (ga G 94), .int v1] M (F_X12_lone M v1) := by
  refine Ct_of (pn_X12) (Nat.le_of_ble_eq_true rfl) ?_
  refine X_lv [0, 1] (lv' := [(0, .ref (ga G 94)), (1, .int v1)]) rfl ?_
  unfold F_X12_lone
  refine X_iload_n (a := 1) dX12_lone_0 rfl rfl rfl ?_
  refine X_i2l dX12_lone_1 rfl rfl ?_
  refine X_lconst (w := 0) dX12_lone_2 kl_0 rfl ?_
  refine X_ldc2 (w := 3) dX12_lone_3 t_1612 rfl ?_
  refine X_ruI (Ru_S (st := []) cs_X12_61 (c_X12_in G M (Int32.toInt64 v1) 0 3) (by decide) rfl rfl (Nat.le_of_ble_eq_true rfl) dX12_lone_6) rfl (fun r6 => ?_)
  refine X_if_ne (tgt := 14) dX12_lone_9 rfl rfl (fun e9 => ?_) (fun e9 => ?_)
  · refine X_aload_n (a := 0) dX12_lone_14 rfl rfl rfl ?_
    refine X_iconst (w := 0) dX12_lone_15 ki_0 rfl ?_
    refine X_ruV (Ru_V (st := []) cv_X12_371 rfl (c_X12_findLone G M 0) (by decide) rfl rfl (Nat.le_of_ble_eq_true rfl) dX12_lone_16) rfl (fun r16 => ?_)
    refine X_iload_n (a := 1) dX12_lone_19 rfl rfl rfl ?_
    refine X_if_ne (tgt := 28) dX12_lone_20 rfl rfl (fun e20 => ?_) (fun e20 => ?_)
    · refine X_aload_n (a := 0) dX12_lone_28 rfl rfl rfl ?_
      refine X_getI fl_X12_365 rfl dX12_lone_29 rfl ?_
      refine X_if_ge (tgt := 40) dX12_lone_32 rfl rfl (fun e32 => ?_) (fun e32 => ?_)
      · refine X_iload_n (a := 1) dX12_lone_40 rfl rfl rfl ?_
        refine X_iconst (w := 1) dX12_lone_41 ki_1 rfl ?_
        refine X_icmp_ne (tgt := 57) dX12_lone_42 rfl rfl (fun e42 => ?_) (fun e42 => ?_)
        · refine X_iload_n (a := 1) dX12_lone_57 rfl rfl rfl ?_
          refine X_iconst (w := 2) dX12_lone_58 ki_2 rfl ?_
          refine X_icmp_ne (tgt := 75) dX12_lone_59 rfl rfl (fun e59 => ?_) (fun e59 => ?_)
          · refine X_bipush (w := 9) dX12_lone_75 kb_9 rfl ?_
            refine X_bipush (w := 10) dX12_lone_77 kb_10 rfl ?_
            refine X_aload_n (a := 0) dX12_lone_79 rfl rfl rfl ?_
            refine X_getI fl_X12_365 rfl dX12_lone_80 rfl ?_
            refine X_bipush (w := 10) dX12_lone_83 kb_10 rfl ?_
            refine X_irem dX12_lone_85 (by decide) rfl ?_
            refine X_imul dX12_lone_86 rfl ?_
            refine X_iadd dX12_lone_87 rfl ?_
            exact X_iretJ rfl dX12_lone_88
          · refine X_aload_n (a := 0) dX12_lone_62 rfl rfl rfl ?_
            refine X_getI fl_X12_365 rfl dX12_lone_63 rfl ?_
            refine X_bipush (w := 10) dX12_lone_66 kb_10 rfl ?_
            refine X_idiv dX12_lone_68 (by decide) rfl ?_
            refine X_bipush (w := 10) dX12_lone_69 kb_10 rfl ?_
            refine X_irem dX12_lone_71 (by decide) rfl ?_
            refine X_goto (tgt := 88) dX12_lone_72 rfl ?_
            exact X_iretJ rfl dX12_lone_88
        · refine X_iconst (w := 1) dX12_lone_45 ki_1 rfl ?_
          refine X_aload_n (a := 0) dX12_lone_46 rfl rfl rfl ?_
          refine X_getI fl_X12_365 rfl dX12_lone_47 rfl ?_
          refine X_bipush (w := 100) dX12_lone_50 kb_100 rfl ?_
          refine X_idiv dX12_lone_52 (by decide) rfl ?_
          refine X_iadd dX12_lone_53 rfl ?_
          refine X_goto (tgt := 88) dX12_lone_54 rfl ?_
          exact X_iretJ rfl dX12_lone_88
      · refine X_bipush (w := (-3)) dX12_lone_35 kb_m3 rfl ?_
        refine X_goto (tgt := 88) dX12_lone_37 rfl ?_
        exact X_iretJ rfl dX12_lone_88
    · refine X_aload_n (a := 0) dX12_lone_23 rfl rfl rfl ?_
      refine X_getI fl_X12_362 rfl dX12_lone_24 rfl ?_
      exact X_iretJ rfl dX12_lone_27
  · refine X_iconst (w := (-1)) dX12_lone_12 ki_m1 rfl ?_
    exact X_iretJ rfl dX12_lone_13
set_option maxRecDepth 100000 in
theorem x_X12_liar_L17 (G : Gm) : ∀ (n : Nat) (M : Mm) (v1 : Int32), X fJ G miX12_liar (4) 17 [(0, .ref (ga G 94)), (1, .int v1)] [] M (F_X12_liar_L17 n M v1) := by
  intro n
  induction n with
  | zero => intro M v1; exact X_none
  | succ n ih =>
    intro M v1
    rw [F_X12_liar_L17]
    refine X_iload_n (a := 1) dX12_liar_17 rfl rfl rfl ?_
    refine X_aload_n (a := 0) dX12_liar_18 rfl rfl rfl ?_
    refine X_getR (t := 95) fl_X12_7 rfl rfl dX12_liar_19 rfl ?_
    refine X_bipush (w := 6) dX12_liar_22 kb_6 rfl ?_
    refine X_iald rfl rfl dX12_liar_24 rfl ?_
    refine X_icmp_ge (tgt := 50) dX12_liar_25 rfl rfl (fun e25 => ?_) (fun e25 => ?_)
    · refine X_bipush (w := (-3)) dX12_liar_50 kb_m3 rfl ?_
      exact X_iretJ rfl dX12_liar_52
    · refine X_aload_n (a := 0) dX12_liar_28 rfl rfl rfl ?_
      refine X_iconst (w := 1) dX12_liar_29 ki_1 rfl ?_
      refine X_iload_n (a := 1) dX12_liar_30 rfl rfl rfl ?_
      refine X_ishl dX12_liar_31 rfl ?_
      refine X_ruV (Ru_V (st := []) cv_X12_371 rfl (c_X12_findLone G M (1 <<< (v1 &&& 31))) (by decide) rfl rfl (Nat.le_of_ble_eq_true rfl) dX12_liar_32) rfl (fun r32 => ?_)
      refine X_aload_n (a := 0) dX12_liar_35 rfl rfl rfl ?_
      refine X_getI fl_X12_362 rfl dX12_liar_36 rfl ?_
      refine X_if_le (tgt := 44) dX12_liar_39 rfl rfl (fun e39 => ?_) (fun e39 => ?_)
      · refine X_iinc (a := 1) (lv2 := [(1, .int (v1 + 1)), (0, .ref (ga G 94))]) dX12_liar_44 rfl (ii_1 _) (by decide) rfl rfl ?_
        refine X_goto (tgt := 17) dX12_liar_47 rfl ?_
        exact X_lv [1, 0] rfl (ih r32 (v1 + 1))
      · refine X_iload_n (a := 1) dX12_liar_42 rfl rfl rfl ?_
        exact X_iretJ rfl dX12_liar_43
set_option maxRecDepth 100000 in
theorem c_X12_liar (G : Gm) (M : Mm) : Ct fJ G miX12_liar (4) [.ref (ga G 94)] M (F_X12_liar M) := by
  refine Ct_of (pn_X12) (Nat.le_of_ble_eq_true rfl) ?_
  refine X_lv [0] (lv' := [(0, .ref (ga G 94))]) rfl ?_
  unfold F_X12_liar
  refine X_aload_n (a := 0) dX12_liar_0 rfl rfl rfl ?_
  refine X_iconst (w := 0) dX12_liar_1 ki_0 rfl ?_
  refine X_ruV (Ru_V (st := []) cv_X12_371 rfl (c_X12_findLone G M 0) (by decide) rfl rfl (Nat.le_of_ble_eq_true rfl) dX12_liar_2) rfl (fun r2 => ?_)
  refine X_aload_n (a := 0) dX12_liar_5 rfl rfl rfl ?_
  refine X_getI fl_X12_362 rfl dX12_liar_6 rfl ?_
  refine X_if_le (tgt := 15) dX12_liar_9 rfl rfl (fun e9 => ?_) (fun e9 => ?_)
  · refine X_iconst (w := 0) dX12_liar_15 ki_0 rfl ?_
    refine X_istore_n (lv2 := [(1, .int 0), (0, .ref (ga G 94))]) dX12_liar_16 rfl (by decide) rfl rfl ?_
    exact X_lv [1, 0] rfl (x_X12_liar_L17 G 1000 r2 0)
  · refine X_bipush (w := (-3)) dX12_liar_12 kb_m3 rfl ?_
    exact X_iretJ rfl dX12_liar_14
set_option maxRecDepth 100000 in
theorem c_X12_seed (G : Gm) (M : Mm) (v1 : Int32) : Ct fJ G miX12_seed (1) [.ref (ga G 94), .int v1] M (F_X12_seed M v1) := by
  refine Ct_of (pn_X12) (Nat.le_of_ble_eq_true rfl) ?_
  refine X_lv [0, 1] (lv' := [(0, .ref (ga G 94)), (1, .int v1)]) rfl ?_
  unfold F_X12_seed
  refine X_aload_n (a := 0) dX12_seed_0 rfl rfl rfl ?_
  refine X_iconst (w := 4) dX12_seed_1 ki_4 rfl ?_
  refine X_iload_n (a := 1) dX12_seed_2 rfl rfl rfl ?_
  refine X_ruJ (Ru_V (st := []) cv_X12_156 rfl (c_X12_becomes G M 4 v1) (by decide) rfl rfl (Nat.le_of_ble_eq_true rfl) dX12_seed_3) rfl (fun r3 => ?_)
  exact X_iretJ rfl dX12_seed_6
set_option maxRecDepth 100000 in
theorem c_X12_lotGoes (G : Gm) (M : Mm) : Ct fJ G miX12_lotGoes (7) [.ref (ga G 94)] M (F_X12_lotGoes M) := by
  refine Ct_of (pn_X12) (Nat.le_of_ble_eq_true rfl) ?_
  refine X_lv [0] (lv' := [(0, .ref (ga G 94))]) rfl ?_
  unfold F_X12_lotGoes
  refine X_aload_n (a := 0) dX12_lotGoes_0 rfl rfl rfl ?_
  refine X_getR (t := 95) fl_X12_7 rfl rfl dX12_lotGoes_1 rfl ?_
  refine X_iconst (w := 4) dX12_lotGoes_4 ki_4 rfl ?_
  refine X_aload_n (a := 0) dX12_lotGoes_5 rfl rfl rfl ?_
  refine X_getR (t := 95) fl_X12_7 rfl rfl dX12_lotGoes_6 rfl ?_
  refine X_iconst (w := 4) dX12_lotGoes_9 ki_4 rfl ?_
  refine X_iald rfl rfl dX12_lotGoes_10 rfl ?_
  refine X_ldcw (w := 1103515245) dX12_lotGoes_11 t_1682 rfl ?_
  refine X_imul dX12_lotGoes_14 rfl ?_
  refine X_sipush (w := 12345) dX12_lotGoes_15 ks_12345 rfl ?_
  refine X_iadd dX12_lotGoes_18 rfl ?_
  refine X_iast rfl rfl dX12_lotGoes_19 rfl ?_
  refine X_aload_n (a := 0) dX12_lotGoes_20 rfl rfl rfl ?_
  refine X_aload_n (a := 0) dX12_lotGoes_21 rfl rfl rfl ?_
  refine X_getR (t := 95) fl_X12_7 rfl rfl dX12_lotGoes_22 rfl ?_
  refine X_iconst (w := 4) dX12_lotGoes_25 ki_4 rfl ?_
  refine X_iald rfl rfl dX12_lotGoes_26 rfl ?_
  refine X_bipush (w := 16) dX12_lotGoes_27 kb_16 rfl ?_
  refine X_iushr dX12_lotGoes_29 rfl rfl ?_
  refine X_aload_n (a := 0) dX12_lotGoes_30 rfl rfl rfl ?_
  refine X_getR (t := 95) fl_X12_7 rfl rfl dX12_lotGoes_31 rfl ?_
  refine X_iconst (w := 0) dX12_lotGoes_34 ki_0 rfl ?_
  refine X_iald rfl rfl dX12_lotGoes_35 rfl ?_
  refine X_iconst (w := 1) dX12_lotGoes_36 ki_1 rfl ?_
  refine X_iadd dX12_lotGoes_37 rfl ?_
  refine X_nz (fun h38 => ?_)
  refine X_irem dX12_lotGoes_38 h38 rfl ?_
  refine X_ruJ (Ru_V (st := []) cv_X12_144 rfl (c_X12_tideGoes G (si M 95 (ui 4) (((gi M 95 (ui 4)) * 1103515245) + 12345)) (ir (us (gi (si M 95 (ui 4) (((gi M 95 (ui 4)) * 1103515245) + 12345)) 95 (ui 4)) 16) ((gi (si M 95 (ui 4) (((gi M 95 (ui 4)) * 1103515245) + 12345)) 95 (ui 0)) + 1))) (by decide) rfl rfl (Nat.le_of_ble_eq_true rfl) dX12_lotGoes_39) rfl (fun r39 => ?_)
  exact X_iretJ rfl dX12_lotGoes_42
set_option maxRecDepth 100000 in
theorem c_X12_lot (G : Gm) (M : Mm) : Ct fJ G miX12_lot (8) [.ref (ga G 94)] M (F_X12_lot M) := by
  refine Ct_of (pn_X12) (Nat.le_of_ble_eq_true rfl) ?_
  refine X_lv [0] (lv' := [(0, .ref (ga G 94))]) rfl ?_
  unfold F_X12_lot
  refine X_aload_n (a := 0) dX12_lot_0 rfl rfl rfl ?_
  refine X_ruI (Ru_V (st := []) cv_X12_137 rfl (c_X12_isOver G M) (by decide) rfl rfl (Nat.le_of_ble_eq_true rfl) dX12_lot_1) rfl (fun r1 => ?_)
  refine X_if_eq (tgt := 12) dX12_lot_4 rfl rfl (fun e4 => ?_) (fun e4 => ?_)
  · refine X_aload_n (a := 0) dX12_lot_12 rfl rfl rfl ?_
    refine X_ruJ (Ru_V (st := []) cv_X12_375 rfl (c_X12_lotGoes G M) (by decide) rfl rfl (Nat.le_of_ble_eq_true rfl) dX12_lot_13) rfl (fun r13 => ?_)
    exact X_iretJ rfl dX12_lot_16
  · refine X_bipush (w := (-4)) dX12_lot_7 kb_m4 rfl ?_
    refine X_goto (tgt := 16) dX12_lot_9 rfl ?_
    exact X_iretJ rfl dX12_lot_16
set_option maxRecDepth 100000 in
theorem x_X12_times_L44 (G : Gm) (v1 : Int32) (v2 : Int32) (v3 : Int32) (v4 : Int32) (k35 : Mm → Int32 → Int32 → Option (Int32 × Mm)) (hk35 : ∀ (M : Mm) (v3 : Int32) (v4 : Int32), X fJ G miX12_times (8) 35 [(0, .ref (ga G 94)), (1, .int v1), (2, .int v2), (3, .int v3), (4, .int v4)] [] M (k35 M v3 v4)) : ∀ (n : Nat) (M : Mm) (v5 : Int32), X fJ G miX12_times (8) 44 [(0, .ref (ga G 94)), (1, .int v1), (2, .int v2), (3, .int v3), (4, .int v4), (5, .int v5)] [] M (F_X12_times_L44 k35 v1 v2 v3 v4 n M v5) := by
  intro n
  induction n with
  | zero => intro M v5; exact X_none
  | succ n ih =>
    intro M v5
    rw [F_X12_times_L44]
    refine X_aload_n (a := 0) dX12_times_44 rfl rfl rfl ?_
    refine X_ruI (Ru_V (st := []) cv_X12_137 rfl (c_X12_isOver G M) (by decide) rfl rfl (Nat.le_of_ble_eq_true rfl) dX12_times_45) rfl (fun r45 => ?_)
    refine X_if_ne (tgt := 63) dX12_times_48 rfl rfl (fun e48 => ?_) (fun e48 => ?_)
    · refine X_iload_n (a := 3) dX12_times_63 rfl rfl rfl ?_
      refine X_iload (a := 5) dX12_times_64 rfl rfl ?_
      refine X_iload_n (a := 2) dX12_times_66 rfl rfl rfl ?_
      refine X_jc (P := fun j => ∀ (x75_0 : Int32), X fJ G miX12_times (8) 75 [(0, .ref (ga G 94)), (1, .int v1), (2, .int v2), (4, .int v4)] [.int x75_0, .int v3] M (j x75_0)) (fun x75_0 => ?_) (fun j75 hj75 => ?_)
      · refine X_iadd dX12_times_75 rfl ?_
        refine X_istore_n (lv2 := [(3, .int (v3 + x75_0)), (0, .ref (ga G 94)), (1, .int v1), (2, .int v2), (4, .int v4)]) dX12_times_76 rfl (by decide) rfl rfl ?_
        refine X_aload_n (a := 1) dX12_times_77 rfl rfl rfl ?_
        refine X_getR (t := 95) fl_X12_7 rfl rfl dX12_times_78 rfl ?_
        refine X_iconst (w := 4) dX12_times_81 ki_4 rfl ?_
        refine X_iald rfl rfl dX12_times_82 rfl ?_
        refine X_istore (lv2 := [(6, .int (gi M 95 (ui 4))), (3, .int (v3 + x75_0)), (0, .ref (ga G 94)), (1, .int v1), (2, .int v2), (4, .int v4)]) dX12_times_83 (by decide) rfl rfl ?_
        refine X_aload_n (a := 2) dX12_times_85 rfl rfl rfl ?_
        refine X_ruV (Ru_V (st := []) cv_X12_69 rfl (c_X12_back G M) (by decide) rfl rfl (Nat.le_of_ble_eq_true rfl) dX12_times_86) rfl (fun r86 => ?_)
        refine X_aload_n (a := 2) dX12_times_89 rfl rfl rfl ?_
        refine X_getR (t := 95) fl_X12_7 rfl rfl dX12_times_90 rfl ?_
        refine X_iconst (w := 4) dX12_times_93 ki_4 rfl ?_
        refine X_iload (a := 0) dX12_times_94 rfl rfl ?_
        refine X_iast rfl rfl dX12_times_96 rfl ?_
        refine X_iinc (a := 5) (lv2 := [(4, .int (v4 + 1)), (6, .int (gi M 95 (ui 4))), (3, .int (v3 + x75_0)), (0, .ref (ga G 94)), (1, .int v1), (2, .int v2)]) dX12_times_97 rfl (ii_1 _) (by decide) rfl rfl ?_
        refine X_goto (tgt := 35) dX12_times_100 rfl ?_
        exact X_lv [3, 4, 5, 2, 0] rfl (hk35 (si r86 95 (ui 4) (gi M 95 (ui 4))) (v3 + x75_0) (v4 + 1))
      refine X_icmp_lt (tgt := 74) dX12_times_67 rfl rfl (fun e67 => ?_) (fun e67 => ?_)
      · refine X_iconst (w := 0) dX12_times_74 ki_0 rfl ?_
        exact X_lv [0, 1, 2, 4] rfl (hj75 0)
      · refine X_iconst (w := 1) dX12_times_70 ki_1 rfl ?_
        refine X_goto (tgt := 75) dX12_times_71 rfl ?_
        exact X_lv [0, 1, 2, 4] rfl (hj75 1)
    · refine X_iload (a := 5) dX12_times_51 rfl rfl ?_
      refine X_aload_n (a := 0) dX12_times_53 rfl rfl rfl ?_
      refine X_ruJ (Ru_V (st := [.int v5]) cv_X12_375 rfl (c_X12_lotGoes G M) (by decide) rfl rfl (Nat.le_of_ble_eq_true rfl) dX12_times_54) rfl (fun r54 => ?_)
      refine X_iadd dX12_times_57 rfl ?_
      refine X_istore (lv2 := [(5, .int (v5 + r54.1)), (0, .ref (ga G 94)), (1, .int v1), (2, .int v2), (3, .int v3), (4, .int v4)]) dX12_times_58 (by decide) rfl rfl ?_
      refine X_goto (tgt := 44) dX12_times_60 rfl ?_
      exact X_lv [1, 2, 3, 4, 5, 0] rfl (ih r54.2 (v5 + r54.1))
set_option maxRecDepth 100000 in
theorem x_X12_times_L35 (G : Gm) (v1 : Int32) (v2 : Int32) : ∀ (n : Nat) (M : Mm) (v3 : Int32) (v4 : Int32), X fJ G miX12_times (8) 35 [(0, .ref (ga G 94)), (1, .int v1), (2, .int v2), (3, .int v3), (4, .int v4)] [] M (F_X12_times_L35 v1 v2 n M v3 v4) := by
  intro n
  induction n with
  | zero => intro M v3 v4; exact X_none
  | succ n ih =>
    intro M v3 v4
    rw [F_X12_times_L35]
    refine X_iload (a := 4) dX12_times_35 rfl rfl ?_
    refine X_iload_n (a := 1) dX12_times_37 rfl rfl rfl ?_
    refine X_icmp_ge (tgt := 103) dX12_times_38 rfl rfl (fun e38 => ?_) (fun e38 => ?_)
    · refine X_aload_n (a := 0) dX12_times_103 rfl rfl rfl ?_
      refine X_ruV (Ru_V (st := []) cv_X12_303 rfl (c_X12_takes G M) (by decide) rfl rfl (Nat.le_of_ble_eq_true rfl) dX12_times_104) rfl (fun r104 => ?_)
      refine X_iload_n (a := 3) dX12_times_107 rfl rfl rfl ?_
      exact X_iretJ rfl dX12_times_108
    · refine X_iconst (w := 0) dX12_times_41 ki_0 rfl ?_
      refine X_istore (lv2 := [(5, .int 0), (0, .ref (ga G 94)), (1, .int v1), (2, .int v2), (3, .int v3), (4, .int v4)]) dX12_times_42 (by decide) rfl rfl ?_
      exact X_lv [1, 2, 3, 4, 5, 0] rfl (x_X12_times_L44 G v1 v2 v3 v4 (F_X12_times_L35 v1 v2 n) ih 1000 M 0)
set_option maxRecDepth 100000 in
theorem c_X12_times (G : Gm) (M : Mm) (v1 : Int32) (v2 : Int32) : Ct fJ G miX12_times (8) [.ref (ga G 94), .int v1, .int v2] M (F_X12_times M v1 v2) := by
  refine Ct_of (pn_X12) (Nat.le_of_ble_eq_true rfl) ?_
  refine X_lv [0, 1, 2] (lv' := [(0, .ref (ga G 94)), (1, .int v1), (2, .int v2)]) rfl ?_
  unfold F_X12_times
  refine X_iload_n (a := 1) dX12_times_0 rfl rfl rfl ?_
  refine X_i2l dX12_times_1 rfl rfl ?_
  refine X_lconst (w := 1) dX12_times_2 kl_1 rfl ?_
  refine X_ldc2 (w := 40) dX12_times_3 t_1687 rfl ?_
  refine X_ruI (Ru_S (st := []) cs_X12_61 (c_X12_in G M (Int32.toInt64 v1) 1 40) (by decide) rfl rfl (Nat.le_of_ble_eq_true rfl) dX12_times_6) rfl (fun r6 => ?_)
  refine X_if_eq (tgt := 24) dX12_times_9 rfl rfl (fun e9 => ?_) (fun e9 => ?_)
  · refine X_iconst (w := (-1)) dX12_times_24 ki_m1 rfl ?_
    exact X_iretJ rfl dX12_times_25
  · refine X_iload_n (a := 2) dX12_times_12 rfl rfl rfl ?_
    refine X_i2l dX12_times_13 rfl rfl ?_
    refine X_lconst (w := 0) dX12_times_14 kl_0 rfl ?_
    refine X_ldc2 (w := 999) dX12_times_15 t_1688 rfl ?_
    refine X_ruI (Ru_S (st := []) cs_X12_61 (c_X12_in G M (Int32.toInt64 v2) 0 999) (by decide) rfl rfl (Nat.le_of_ble_eq_true rfl) dX12_times_18) rfl (fun r18 => ?_)
    refine X_if_ne (tgt := 26) dX12_times_21 rfl rfl (fun e21 => ?_) (fun e21 => ?_)
    · refine X_aload_n (a := 0) dX12_times_26 rfl rfl rfl ?_
      refine X_ruV (Ru_V (st := []) cv_X12_297 rfl (c_X12_puts G M) (by decide) rfl rfl (Nat.le_of_ble_eq_true rfl) dX12_times_27) rfl (fun r27 => ?_)
      refine X_iconst (w := 0) dX12_times_30 ki_0 rfl ?_
      refine X_istore_n (lv2 := [(3, .int 0), (0, .ref (ga G 94)), (1, .int v1), (2, .int v2)]) dX12_times_31 rfl (by decide) rfl rfl ?_
      refine X_iconst (w := 0) dX12_times_32 ki_0 rfl ?_
      refine X_istore (lv2 := [(4, .int 0), (3, .int 0), (0, .ref (ga G 94)), (1, .int v1), (2, .int v2)]) dX12_times_33 (by decide) rfl rfl ?_
      exact X_lv [2, 3, 4, 1, 0] rfl (x_X12_times_L35 G v1 v2 1000 r27 0 0)
    · refine X_iconst (w := (-1)) dX12_times_24 ki_m1 rfl ?_
      exact X_iretJ rfl dX12_times_25
set_option maxRecDepth 100000 in
theorem x_X12_prove_L41 (G : Gm) : ∀ (n : Nat) (M : Mm) (v2 : Int32), X fJ G miX12_prove (8) 41 [(0, .ref (ga G 94)), (2, .int v2)] [] M (F_X12_prove_L41 n M v2) := by
  intro n
  induction n with
  | zero => intro M v2; exact X_none
  | succ n ih =>
    intro M v2
    rw [F_X12_prove_L41]
    refine X_iload_n (a := 1) dX12_prove_41 rfl rfl rfl ?_
    refine X_aload_n (a := 0) dX12_prove_42 rfl rfl rfl ?_
    refine X_getI fl_X12_382 rfl dX12_prove_43 rfl ?_
    refine X_icmp_ge (tgt := 103) dX12_prove_46 rfl rfl (fun e46 => ?_) (fun e46 => ?_)
    · refine X_aload_n (a := 0) dX12_prove_103 rfl rfl rfl ?_
      refine X_ruV (Ru_V (st := []) cv_X12_303 rfl (c_X12_takes G M) (by decide) rfl rfl (Nat.le_of_ble_eq_true rfl) dX12_prove_104) rfl (fun r104 => ?_)
      refine X_aload_n (a := 0) dX12_prove_107 rfl rfl rfl ?_
      refine X_getI fl_X12_382 rfl dX12_prove_108 rfl ?_
      exact X_iretJ rfl dX12_prove_111
    · refine X_aload_n (a := 0) dX12_prove_49 rfl rfl rfl ?_
      refine X_getR (t := 104) fl_X12_37 rfl rfl dX12_prove_50 rfl ?_
      refine X_iconst (w := 3) dX12_prove_53 ki_3 rfl ?_
      refine X_iload_n (a := 1) dX12_prove_54 rfl rfl rfl ?_
      refine X_imul dX12_prove_55 rfl ?_
      refine X_aload_n (a := 0) dX12_prove_56 rfl rfl rfl ?_
      refine X_getR (t := 103) fl_X12_34 rfl rfl dX12_prove_57 rfl ?_
      refine X_iload_n (a := 1) dX12_prove_60 rfl rfl rfl ?_
      refine X_iald rfl rfl dX12_prove_61 rfl ?_
      refine X_iast rfl rfl dX12_prove_62 rfl ?_
      refine X_aload_n (a := 0) dX12_prove_63 rfl rfl rfl ?_
      refine X_getR (t := 104) fl_X12_37 rfl rfl dX12_prove_64 rfl ?_
      refine X_iconst (w := 3) dX12_prove_67 ki_3 rfl ?_
      refine X_iload_n (a := 1) dX12_prove_68 rfl rfl rfl ?_
      refine X_imul dX12_prove_69 rfl ?_
      refine X_iconst (w := 1) dX12_prove_70 ki_1 rfl ?_
      refine X_iadd dX12_prove_71 rfl ?_
      refine X_aload_n (a := 0) dX12_prove_72 rfl rfl rfl ?_
      refine X_aload_n (a := 0) dX12_prove_73 rfl rfl rfl ?_
      refine X_getR (t := 103) fl_X12_34 rfl rfl dX12_prove_74 rfl ?_
      refine X_iload_n (a := 1) dX12_prove_77 rfl rfl rfl ?_
      refine X_iald rfl rfl dX12_prove_78 rfl ?_
      refine X_ruJ (Ru_V (st := [.int ((3 * v2) + 1), .ref (ga G 104)]) cv_X12_144 rfl (c_X12_tideGoes G (si M 104 (ui (3 * v2)) (gi M 103 (ui v2))) (gi (si M 104 (ui (3 * v2)) (gi M 103 (ui v2))) 103 (ui v2))) (by decide) rfl rfl (Nat.le_of_ble_eq_true rfl) dX12_prove_79) rfl (fun r79 => ?_)
      refine X_iast rfl rfl dX12_prove_82 rfl ?_
      refine X_aload_n (a := 0) dX12_prove_83 rfl rfl rfl ?_
      refine X_getR (t := 104) fl_X12_37 rfl rfl dX12_prove_84 rfl ?_
      refine X_iconst (w := 3) dX12_prove_87 ki_3 rfl ?_
      refine X_iload_n (a := 1) dX12_prove_88 rfl rfl rfl ?_
      refine X_imul dX12_prove_89 rfl ?_
      refine X_iconst (w := 2) dX12_prove_90 ki_2 rfl ?_
      refine X_iadd dX12_prove_91 rfl ?_
      refine X_aload_n (a := 0) dX12_prove_92 rfl rfl rfl ?_
      refine X_ruI (Ru_V (st := [.int ((3 * v2) + 2), .ref (ga G 104)]) cv_X12_163 rfl (c_X12_staked G (si r79.2 104 (ui ((3 * v2) + 1)) r79.1)) (by decide) rfl rfl (Nat.le_of_ble_eq_true rfl) dX12_prove_93) rfl (fun r93 => ?_)
      refine X_iast rfl rfl dX12_prove_96 rfl ?_
      refine X_iinc (a := 1) (lv2 := [(2, .int (v2 + 1)), (0, .ref (ga G 94))]) dX12_prove_97 rfl (ii_1 _) (by decide) rfl rfl ?_
      refine X_goto (tgt := 41) dX12_prove_100 rfl ?_
      exact X_lv [1, 0] rfl (ih (si (si r79.2 104 (ui ((3 * v2) + 1)) r79.1) 104 (ui ((3 * v2) + 2)) r93) (v2 + 1))
set_option maxRecDepth 100000 in
theorem c_X12_prove (G : Gm) (M : Mm) (v1 : Int32) : Ct fJ G miX12_prove (8) [.ref (ga G 94), .int v1] M (F_X12_prove M v1) := by
  refine Ct_of (pn_X12) (Nat.le_of_ble_eq_true rfl) ?_
  refine X_lv [0, 1] (lv' := [(0, .ref (ga G 94)), (1, .int v1)]) rfl ?_
  unfold F_X12_prove
  refine X_iload_n (a := 1) dX12_prove_0 rfl rfl rfl ?_
  refine X_ruI (Ru_S (st := []) cs_X12_337 (c_X12_isPlan G M v1) (by decide) rfl rfl (Nat.le_of_ble_eq_true rfl) dX12_prove_1) rfl (fun r1 => ?_)
  refine X_if_ne (tgt := 9) dX12_prove_4 rfl rfl (fun e4 => ?_) (fun e4 => ?_)
  · refine X_aload_n (a := 0) dX12_prove_9 rfl rfl rfl ?_
    refine X_iload_n (a := 1) dX12_prove_10 rfl rfl rfl ?_
    refine X_ruV (Ru_V (st := []) cv_X12_340 rfl (c_X12_findBest G M v1) (by decide) rfl rfl (Nat.le_of_ble_eq_true rfl) dX12_prove_11) rfl (fun r11 => ?_)
    refine X_aload_n (a := 0) dX12_prove_14 rfl rfl rfl ?_
    refine X_aload_n (a := 0) dX12_prove_15 rfl rfl rfl ?_
    refine X_iload_n (a := 1) dX12_prove_16 rfl rfl rfl ?_
    refine X_ruI (Ru_V (st := [.ref (ga G 94)]) cv_X12_318 rfl (c_X12_longOf G r11 v1) (by decide) rfl rfl (Nat.le_of_ble_eq_true rfl) dX12_prove_17) rfl (fun r17 => ?_)
    refine X_putI fp_X12_382 rfl dX12_prove_20 rfl ?_
    refine X_aload_n (a := 0) dX12_prove_23 rfl rfl rfl ?_
    refine X_aload_n (a := 0) dX12_prove_24 rfl rfl rfl ?_
    refine X_getI fl_X12_331 rfl dX12_prove_25 rfl ?_
    refine X_aload_n (a := 0) dX12_prove_28 rfl rfl rfl ?_
    refine X_getI fl_X12_382 rfl dX12_prove_29 rfl ?_
    refine X_ruV (Ru_V (st := []) cv_X12_327 rfl (c_X12_actsOf G (si r11 94 28 r17) (gi (si r11 94 28 r17) 94 21) (gi (si r11 94 28 r17) 94 28)) (by decide) rfl rfl (Nat.le_of_ble_eq_true rfl) dX12_prove_32) rfl (fun r32 => ?_)
    refine X_aload_n (a := 0) dX12_prove_35 rfl rfl rfl ?_
    refine X_ruV (Ru_V (st := []) cv_X12_297 rfl (c_X12_puts G r32) (by decide) rfl rfl (Nat.le_of_ble_eq_true rfl) dX12_prove_36) rfl (fun r36 => ?_)
    refine X_iconst (w := 0) dX12_prove_39 ki_0 rfl ?_
    refine X_istore_n (lv2 := [(2, .int 0), (0, .ref (ga G 94)), (1, .int v1)]) dX12_prove_40 rfl (by decide) rfl rfl ?_
    exact X_lv [1, 0] rfl (x_X12_prove_L41 G 1000 r36 0)
  · refine X_iconst (w := (-1)) dX12_prove_7 ki_m1 rfl ?_
    exact X_iretJ rfl dX12_prove_8
set_option maxRecDepth 100000 in
theorem c_X12_row (G : Gm) (M : Mm) (v1 : Int32) (v2 : Int32) : Ct (fI M) G miX12_row (1) [.ref (ga G 94), .int v1, .int v2] M (F_X12_row M v1 v2) := by
  refine Ct_of (pn_X12) (Nat.le_of_ble_eq_true rfl) ?_
  refine X_lv [0, 1, 2] (lv' := [(0, .ref (ga G 94)), (1, .int v1), (2, .int v2)]) rfl ?_
  unfold F_X12_row
  refine X_iload_n (a := 1) dX12_row_0 rfl rfl rfl ?_
  refine X_i2l dX12_row_1 rfl rfl ?_
  refine X_lconst (w := 0) dX12_row_2 kl_0 rfl ?_
  refine X_aload_n (a := 0) dX12_row_3 rfl rfl rfl ?_
  refine X_getI fl_X12_382 rfl dX12_row_4 rfl ?_
  refine X_iconst (w := 1) dX12_row_7 ki_1 rfl ?_
  refine X_isub dX12_row_8 rfl ?_
  refine X_i2l dX12_row_9 rfl rfl ?_
  refine X_ruI (Ru_S (st := []) cs_X12_61 (c_X12_in G M (Int32.toInt64 v1) 0 (Int32.toInt64 ((gi M 94 28) - 1))) (by decide) rfl rfl (Nat.le_of_ble_eq_true rfl) dX12_row_10) rfl (fun r10 => ?_)
  refine X_if_eq (tgt := 41) dX12_row_13 rfl rfl (fun e13 => ?_) (fun e13 => ?_)
  · refine X_bipush (w := (-9)) dX12_row_41 kb_m9 rfl ?_
    exact X_iretI rfl dX12_row_43
  · refine X_iload_n (a := 2) dX12_row_16 rfl rfl rfl ?_
    refine X_i2l dX12_row_17 rfl rfl ?_
    refine X_lconst (w := 0) dX12_row_18 kl_0 rfl ?_
    refine X_ldc2 (w := 2) dX12_row_19 t_1697 rfl ?_
    refine X_ruI (Ru_S (st := []) cs_X12_61 (c_X12_in G M (Int32.toInt64 v2) 0 2) (by decide) rfl rfl (Nat.le_of_ble_eq_true rfl) dX12_row_22) rfl (fun r22 => ?_)
    refine X_if_eq (tgt := 41) dX12_row_25 rfl rfl (fun e25 => ?_) (fun e25 => ?_)
    · refine X_bipush (w := (-9)) dX12_row_41 kb_m9 rfl ?_
      exact X_iretI rfl dX12_row_43
    · refine X_aload_n (a := 0) dX12_row_28 rfl rfl rfl ?_
      refine X_getR (t := 104) fl_X12_37 rfl rfl dX12_row_29 rfl ?_
      refine X_iconst (w := 3) dX12_row_32 ki_3 rfl ?_
      refine X_iload_n (a := 1) dX12_row_33 rfl rfl rfl ?_
      refine X_imul dX12_row_34 rfl ?_
      refine X_iload_n (a := 2) dX12_row_35 rfl rfl rfl ?_
      refine X_iadd dX12_row_36 rfl ?_
      refine X_iald rfl rfl dX12_row_37 rfl ?_
      refine X_goto (tgt := 43) dX12_row_38 rfl ?_
      exact X_iretI rfl dX12_row_43
set_option maxRecDepth 100000 in
theorem c_X12_alterRow (G : Gm) (M : Mm) (v1 : Int32) (v2 : Int32) (v3 : Int32) : Ct fJ G miX12_alterRow (1) [.ref (ga G 94), .int v1, .int v2, .int v3] M (F_X12_alterRow M v1 v2 v3) := by
  refine Ct_of (pn_X12) (Nat.le_of_ble_eq_true rfl) ?_
  refine X_lv [0, 1, 2, 3] (lv' := [(0, .ref (ga G 94)), (1, .int v1), (2, .int v2), (3, .int v3)]) rfl ?_
  unfold F_X12_alterRow
  refine X_iload_n (a := 1) dX12_alterRow_0 rfl rfl rfl ?_
  refine X_i2l dX12_alterRow_1 rfl rfl ?_
  refine X_lconst (w := 0) dX12_alterRow_2 kl_0 rfl ?_
  refine X_aload_n (a := 0) dX12_alterRow_3 rfl rfl rfl ?_
  refine X_getI fl_X12_382 rfl dX12_alterRow_4 rfl ?_
  refine X_iconst (w := 1) dX12_alterRow_7 ki_1 rfl ?_
  refine X_isub dX12_alterRow_8 rfl ?_
  refine X_i2l dX12_alterRow_9 rfl rfl ?_
  refine X_ruI (Ru_S (st := []) cs_X12_61 (c_X12_in G M (Int32.toInt64 v1) 0 (Int32.toInt64 ((gi M 94 28) - 1))) (by decide) rfl rfl (Nat.le_of_ble_eq_true rfl) dX12_alterRow_10) rfl (fun r10 => ?_)
  refine X_if_eq (tgt := 28) dX12_alterRow_13 rfl rfl (fun e13 => ?_) (fun e13 => ?_)
  · refine X_bipush (w := (-9)) dX12_alterRow_28 kb_m9 rfl ?_
    exact X_iretJ rfl dX12_alterRow_30
  · refine X_iload_n (a := 2) dX12_alterRow_16 rfl rfl rfl ?_
    refine X_i2l dX12_alterRow_17 rfl rfl ?_
    refine X_lconst (w := 0) dX12_alterRow_18 kl_0 rfl ?_
    refine X_ldc2 (w := 2) dX12_alterRow_19 t_1697 rfl ?_
    refine X_ruI (Ru_S (st := []) cs_X12_61 (c_X12_in G M (Int32.toInt64 v2) 0 2) (by decide) rfl rfl (Nat.le_of_ble_eq_true rfl) dX12_alterRow_22) rfl (fun r22 => ?_)
    refine X_if_ne (tgt := 31) dX12_alterRow_25 rfl rfl (fun e25 => ?_) (fun e25 => ?_)
    · refine X_aload_n (a := 0) dX12_alterRow_31 rfl rfl rfl ?_
      refine X_getR (t := 104) fl_X12_37 rfl rfl dX12_alterRow_32 rfl ?_
      refine X_iconst (w := 3) dX12_alterRow_35 ki_3 rfl ?_
      refine X_iload_n (a := 1) dX12_alterRow_36 rfl rfl rfl ?_
      refine X_imul dX12_alterRow_37 rfl ?_
      refine X_iload_n (a := 2) dX12_alterRow_38 rfl rfl rfl ?_
      refine X_iadd dX12_alterRow_39 rfl ?_
      refine X_iald rfl rfl dX12_alterRow_40 rfl ?_
      refine X_istore (lv2 := [(4, .int (gi M 104 (ui ((3 * v1) + v2)))), (0, .ref (ga G 94)), (1, .int v1), (2, .int v2), (3, .int v3)]) dX12_alterRow_41 (by decide) rfl rfl ?_
      refine X_aload_n (a := 1) dX12_alterRow_43 rfl rfl rfl ?_
      refine X_getR (t := 104) fl_X12_37 rfl rfl dX12_alterRow_44 rfl ?_
      refine X_iconst (w := 3) dX12_alterRow_47 ki_3 rfl ?_
      refine X_iload_n (a := 2) dX12_alterRow_48 rfl rfl rfl ?_
      refine X_imul dX12_alterRow_49 rfl ?_
      refine X_iload_n (a := 3) dX12_alterRow_50 rfl rfl rfl ?_
      refine X_iadd dX12_alterRow_51 rfl ?_
      refine X_iload_n (a := 4) dX12_alterRow_52 rfl rfl rfl ?_
      refine X_iast rfl rfl dX12_alterRow_53 rfl ?_
      refine X_iload (a := 0) dX12_alterRow_54 rfl rfl ?_
      exact X_iretJ rfl dX12_alterRow_56
    · refine X_bipush (w := (-9)) dX12_alterRow_28 kb_m9 rfl ?_
      exact X_iretJ rfl dX12_alterRow_30
set_option maxRecDepth 100000 in
theorem x_X12_judge_L8 (G : Gm) : ∀ (n : Nat) (M : Mm) (v1 : Int32) (v2 : Int32), X fJ G miX12_judge (7) 8 [(0, .ref (ga G 94)), (1, .int v1), (2, .int v2)] [] M (F_X12_judge_L8 n M v1 v2) := by
  intro n
  induction n with
  | zero => intro M v1 v2; exact X_none
  | succ n ih =>
    intro M v1 v2
    rw [F_X12_judge_L8]
    refine X_iload_n (a := 2) dX12_judge_8 rfl rfl rfl ?_
    refine X_aload_n (a := 0) dX12_judge_9 rfl rfl rfl ?_
    refine X_getI fl_X12_382 rfl dX12_judge_10 rfl ?_
    refine X_jc (P := fun j => X fJ G miX12_judge (7) 116 [(0, .ref (ga G 94)), (1, .int v1)] [] M (j)) (?_) (fun j116 hj116 => ?_)
    · refine X_aload_n (a := 0) dX12_judge_116 rfl rfl rfl ?_
      refine X_ruV (Ru_V (st := []) cv_X12_303 rfl (c_X12_takes G M) (by decide) rfl rfl (Nat.le_of_ble_eq_true rfl) dX12_judge_117) rfl (fun r117 => ?_)
      refine X_iload_n (a := 1) dX12_judge_120 rfl rfl rfl ?_
      exact X_iretJ rfl dX12_judge_121
    refine X_icmp_ge (tgt := 116) dX12_judge_13 rfl rfl (fun e13 => ?_) (fun e13 => ?_)
    · exact X_lv [0, 1] rfl (hj116)
    · refine X_iload_n (a := 1) dX12_judge_16 rfl rfl rfl ?_
      refine X_if_ne (tgt := 116) dX12_judge_17 rfl rfl (fun e17 => ?_) (fun e17 => ?_)
      · exact X_lv [0, 1] rfl (hj116)
      · refine X_aload_n (a := 0) dX12_judge_20 rfl rfl rfl ?_
        refine X_getR (t := 104) fl_X12_37 rfl rfl dX12_judge_21 rfl ?_
        refine X_iconst (w := 3) dX12_judge_24 ki_3 rfl ?_
        refine X_iload_n (a := 2) dX12_judge_25 rfl rfl rfl ?_
        refine X_imul dX12_judge_26 rfl ?_
        refine X_iald rfl rfl dX12_judge_27 rfl ?_
        refine X_i2l dX12_judge_28 rfl rfl ?_
        refine X_lconst (w := 0) dX12_judge_29 kl_0 rfl ?_
        refine X_aload_n (a := 0) dX12_judge_30 rfl rfl rfl ?_
        refine X_getR (t := 95) fl_X12_7 rfl rfl dX12_judge_31 rfl ?_
        refine X_iconst (w := 0) dX12_judge_34 ki_0 rfl ?_
        refine X_iald rfl rfl dX12_judge_35 rfl ?_
        refine X_i2l dX12_judge_36 rfl rfl ?_
        refine X_ruI (Ru_S (st := []) cs_X12_61 (c_X12_in G M (Int32.toInt64 (gi M 104 (ui (3 * v2)))) 0 (Int32.toInt64 (gi M 95 (ui 0)))) (by decide) rfl rfl (Nat.le_of_ble_eq_true rfl) dX12_judge_37) rfl (fun r37 => ?_)
        refine X_jc (P := fun j => ∀ (x97_0 : Int32) (M : Mm), X fJ G miX12_judge (7) 97 [(0, .ref (ga G 94)), (2, .int v2)] [.int x97_0] M (j x97_0 M)) (fun x97_0 M => ?_) (fun j97 hj97 => ?_)
        · refine X_istore_n (lv2 := [(3, .int x97_0), (0, .ref (ga G 94)), (2, .int v2)]) dX12_judge_97 rfl (by decide) rfl rfl ?_
          refine X_iload_n (a := 0) dX12_judge_98 rfl rfl rfl ?_
          refine X_jc (P := fun j => ∀ (x109_0 : Int32), X fJ G miX12_judge (7) 109 [(0, .ref (ga G 94)), (2, .int v2)] [.int x109_0] M (j x109_0)) (fun x109_0 => ?_) (fun j109 hj109 => ?_)
          · refine X_istore_n (lv2 := [(1, .int x109_0), (0, .ref (ga G 94)), (2, .int v2)]) dX12_judge_109 rfl (by decide) rfl rfl ?_
            refine X_iinc (a := 2) (lv2 := [(2, .int (v2 + 1)), (1, .int x109_0), (0, .ref (ga G 94))]) dX12_judge_110 rfl (ii_1 _) (by decide) rfl rfl ?_
            refine X_goto (tgt := 8) dX12_judge_113 rfl ?_
            exact X_lv [2, 1, 0] rfl (ih M x109_0 (v2 + 1))
          refine X_if_eq (tgt := 106) dX12_judge_99 rfl rfl (fun e99 => ?_) (fun e99 => ?_)
          · refine X_iload_n (a := 2) dX12_judge_106 rfl rfl rfl ?_
            refine X_iconst (w := 1) dX12_judge_107 ki_1 rfl ?_
            refine X_iadd dX12_judge_108 rfl ?_
            exact X_lv [1, 2] rfl (hj109 (v2 + 1))
          · refine X_iconst (w := 0) dX12_judge_102 ki_0 rfl ?_
            refine X_goto (tgt := 109) dX12_judge_103 rfl ?_
            exact X_lv [1, 2] rfl (hj109 0)
        refine X_jc (P := fun j => ∀ (M : Mm), X fJ G miX12_judge (7) 96 [(0, .ref (ga G 94)), (2, .int v2)] [] M (j M)) (fun M => ?_) (fun j96 hj96 => ?_)
        · refine X_iconst (w := 0) dX12_judge_96 ki_0 rfl ?_
          exact X_lv [0, 1] rfl (hj97 0 M)
        refine X_if_eq (tgt := 96) dX12_judge_40 rfl rfl (fun e40 => ?_) (fun e40 => ?_)
        · exact X_lv [0, 2] rfl (hj96 M)
        · refine X_aload_n (a := 0) dX12_judge_43 rfl rfl rfl ?_
          refine X_ruI (Ru_V (st := []) cv_X12_137 rfl (c_X12_isOver G M) (by decide) rfl rfl (Nat.le_of_ble_eq_true rfl) dX12_judge_44) rfl (fun r44 => ?_)
          refine X_if_ne (tgt := 96) dX12_judge_47 rfl rfl (fun e47 => ?_) (fun e47 => ?_)
          · exact X_lv [0, 2] rfl (hj96 M)
          · refine X_aload_n (a := 0) dX12_judge_50 rfl rfl rfl ?_
            refine X_aload_n (a := 0) dX12_judge_51 rfl rfl rfl ?_
            refine X_getR (t := 104) fl_X12_37 rfl rfl dX12_judge_52 rfl ?_
            refine X_iconst (w := 3) dX12_judge_55 ki_3 rfl ?_
            refine X_iload_n (a := 2) dX12_judge_56 rfl rfl rfl ?_
            refine X_imul dX12_judge_57 rfl ?_
            refine X_iald rfl rfl dX12_judge_58 rfl ?_
            refine X_ruJ (Ru_V (st := []) cv_X12_144 rfl (c_X12_tideGoes G M (gi M 104 (ui (3 * v2)))) (by decide) rfl rfl (Nat.le_of_ble_eq_true rfl) dX12_judge_59) rfl (fun r59 => ?_)
            refine X_aload_n (a := 0) dX12_judge_62 rfl rfl rfl ?_
            refine X_getR (t := 104) fl_X12_37 rfl rfl dX12_judge_63 rfl ?_
            refine X_iconst (w := 3) dX12_judge_66 ki_3 rfl ?_
            refine X_iload_n (a := 2) dX12_judge_67 rfl rfl rfl ?_
            refine X_imul dX12_judge_68 rfl ?_
            refine X_iconst (w := 1) dX12_judge_69 ki_1 rfl ?_
            refine X_iadd dX12_judge_70 rfl ?_
            refine X_iald rfl rfl dX12_judge_71 rfl ?_
            refine X_icmp_ne (tgt := 96) dX12_judge_72 rfl rfl (fun e72 => ?_) (fun e72 => ?_)
            · exact X_lv [0, 2] rfl (hj96 r59.2)
            · refine X_aload_n (a := 0) dX12_judge_75 rfl rfl rfl ?_
              refine X_ruI (Ru_V (st := []) cv_X12_163 rfl (c_X12_staked G r59.2) (by decide) rfl rfl (Nat.le_of_ble_eq_true rfl) dX12_judge_76) rfl (fun r76 => ?_)
              refine X_aload_n (a := 0) dX12_judge_79 rfl rfl rfl ?_
              refine X_getR (t := 104) fl_X12_37 rfl rfl dX12_judge_80 rfl ?_
              refine X_iconst (w := 3) dX12_judge_83 ki_3 rfl ?_
              refine X_iload_n (a := 2) dX12_judge_84 rfl rfl rfl ?_
              refine X_imul dX12_judge_85 rfl ?_
              refine X_iconst (w := 2) dX12_judge_86 ki_2 rfl ?_
              refine X_iadd dX12_judge_87 rfl ?_
              refine X_iald rfl rfl dX12_judge_88 rfl ?_
              refine X_icmp_ne (tgt := 96) dX12_judge_89 rfl rfl (fun e89 => ?_) (fun e89 => ?_)
              · exact X_lv [0, 2] rfl (hj96 r59.2)
              · refine X_iconst (w := 1) dX12_judge_92 ki_1 rfl ?_
                refine X_goto (tgt := 97) dX12_judge_93 rfl ?_
                exact X_lv [0, 2] rfl (hj97 1 r59.2)
set_option maxRecDepth 100000 in
theorem c_X12_judge (G : Gm) (M : Mm) : Ct fJ G miX12_judge (7) [.ref (ga G 94)] M (F_X12_judge M) := by
  refine Ct_of (pn_X12) (Nat.le_of_ble_eq_true rfl) ?_
  refine X_lv [0] (lv' := [(0, .ref (ga G 94))]) rfl ?_
  unfold F_X12_judge
  refine X_iconst (w := 0) dX12_judge_0 ki_0 rfl ?_
  refine X_istore_n (lv2 := [(1, .int 0), (0, .ref (ga G 94))]) dX12_judge_1 rfl (by decide) rfl rfl ?_
  refine X_aload_n (a := 1) dX12_judge_2 rfl rfl rfl ?_
  refine X_ruV (Ru_V (st := []) cv_X12_297 rfl (c_X12_puts G M) (by decide) rfl rfl (Nat.le_of_ble_eq_true rfl) dX12_judge_3) rfl (fun r3 => ?_)
  refine X_iconst (w := 0) dX12_judge_6 ki_0 rfl ?_
  refine X_istore_n (lv2 := [(2, .int 0), (1, .int 0), (0, .ref (ga G 94))]) dX12_judge_7 rfl (by decide) rfl rfl ?_
  exact X_lv [2, 1, 0] rfl (x_X12_judge_L8 G 1000 r3 0 0)

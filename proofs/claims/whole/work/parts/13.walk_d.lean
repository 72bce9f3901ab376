set_option maxRecDepth 100000 in
theorem c_X11_forget (G : Gm) (M : Mm) : Ct fJ G miX11_forget (0) [.ref (ga G 0)] M (F_X11_forget M) := by
  refine Ct_of (pn_X11) (Nat.le_of_ble_eq_true rfl) ?_
  refine X_lv [0] (lv' := [(0, .ref (ga G 0))]) rfl ?_
  unfold F_X11_forget
  refine X_aload_n (a := 0) dX11_forget_0 rfl rfl rfl ?_
  refine X_getR (t := 33) fl_X11_81 rfl rfl dX11_forget_1 rfl ?_
  refine X_getI fl_X11_258 rfl dX11_forget_4 rfl ?_
  refine X_istore_n (lv2 := [(1, .int (gi M 33 15)), (0, .ref (ga G 0))]) dX11_forget_7 rfl (by decide) rfl rfl ?_
  refine X_aload_n (a := 1) dX11_forget_8 rfl rfl rfl ?_
  refine X_getR (t := 33) fl_X11_81 rfl rfl dX11_forget_9 rfl ?_
  refine X_iconst (w := 0) dX11_forget_12 ki_0 rfl ?_
  refine X_putI fp_X11_258 rfl dX11_forget_13 rfl ?_
  refine X_iload_n (a := 0) dX11_forget_16 rfl rfl rfl ?_
  exact X_iretJ rfl dX11_forget_17
set_option maxRecDepth 100000 in
theorem x_X11_lone_L15 (G : Gm) (M : Mm) (v1 : Int32) : ∀ (n : Nat) (v2 : Int32) (v3 : Int32), X (fI M) G miX11_lone (4) 15 [(0, .ref (ga G 0)), (1, .int v1), (2, .int v2), (3, .int v3)] [] M (F_X11_lone_L15 M v1 n v2 v3) := by
  intro n
  induction n with
  | zero => intro v2 v3; exact X_none
  | succ n ih =>
    intro v2 v3
    rw [F_X11_lone_L15]
    refine X_iload_n (a := 3) dX11_lone_15 rfl rfl rfl ?_
    refine X_sipush (w := 500) dX11_lone_16 ks_500 rfl ?_
    refine X_icmp_ge (tgt := 75) dX11_lone_19 rfl rfl (fun e19 => ?_) (fun e19 => ?_)
    · refine X_iload_n (a := 1) dX11_lone_75 rfl rfl rfl ?_
      refine X_if_ne (tgt := 83) dX11_lone_76 rfl rfl (fun e76 => ?_) (fun e76 => ?_)
      · refine X_bipush (w := (-3)) dX11_lone_83 kb_m3 rfl ?_
        exact X_iretI rfl dX11_lone_85
      · refine X_iload_n (a := 2) dX11_lone_79 rfl rfl rfl ?_
        refine X_goto (tgt := 85) dX11_lone_80 rfl ?_
        exact X_iretI rfl dX11_lone_85
    · refine X_aload_n (a := 0) dX11_lone_22 rfl rfl rfl ?_
      refine X_getR (t := 33) fl_X11_81 rfl rfl dX11_lone_23 rfl ?_
      refine X_iload_n (a := 3) dX11_lone_26 rfl rfl rfl ?_
      refine X_ruI (Ru_V (st := []) cv_X11_273 rfl (c_X10_denied G M v3) (by decide) rfl rfl (Nat.le_of_ble_eq_true rfl) dX11_lone_27) rfl (fun r27 => ?_)
      refine X_jc (P := fun j => ∀ (v2 : Int32), X (fI M) G miX11_lone (4) 69 [(0, .ref (ga G 0)), (1, .int v1), (2, .int v2), (3, .int v3)] [] M (j v2)) (fun v2 => ?_) (fun j69 hj69 => ?_)
      · refine X_iinc (a := 3) (lv2 := [(3, .int (v3 + 1)), (0, .ref (ga G 0)), (1, .int v1), (2, .int v2)]) dX11_lone_69 rfl (ii_1 _) (by decide) rfl rfl ?_
        refine X_goto (tgt := 15) dX11_lone_72 rfl ?_
        exact X_lv [1, 2, 3, 0] rfl (ih v2 (v3 + 1))
      refine X_if_eq (tgt := 36) dX11_lone_30 rfl rfl (fun e30 => ?_) (fun e30 => ?_)
      · refine X_iload_n (a := 1) dX11_lone_36 rfl rfl rfl ?_
        refine X_iconst (w := 1) dX11_lone_37 ki_1 rfl ?_
        refine X_icmp_ne (tgt := 46) dX11_lone_38 rfl rfl (fun e38 => ?_) (fun e38 => ?_)
        · refine X_iload_n (a := 1) dX11_lone_46 rfl rfl rfl ?_
          refine X_iconst (w := 2) dX11_lone_47 ki_2 rfl ?_
          refine X_icmp_ne (tgt := 56) dX11_lone_48 rfl rfl (fun e48 => ?_) (fun e48 => ?_)
          · refine X_iload_n (a := 1) dX11_lone_56 rfl rfl rfl ?_
            refine X_iconst (w := 3) dX11_lone_57 ki_3 rfl ?_
            refine X_icmp_ne (tgt := 66) dX11_lone_58 rfl rfl (fun e58 => ?_) (fun e58 => ?_)
            · refine X_iinc (a := 2) (lv2 := [(2, .int (v2 + 1)), (0, .ref (ga G 0)), (1, .int v1), (3, .int v3)]) dX11_lone_66 rfl (ii_1 _) (by decide) rfl rfl ?_
              exact X_lv [1, 2, 0, 3] rfl (hj69 (v2 + 1))
            · refine X_iload_n (a := 3) dX11_lone_61 rfl rfl rfl ?_
              refine X_ruI (Ru_S (st := []) cs_X11_282 (c_X10_loneFill G M v3) (by decide) rfl rfl (Nat.le_of_ble_eq_true rfl) dX11_lone_62) rfl (fun r62 => ?_)
              exact X_iretI rfl dX11_lone_65
          · refine X_iload_n (a := 3) dX11_lone_51 rfl rfl rfl ?_
            refine X_ruI (Ru_S (st := []) cs_X11_279 (c_X10_loneChalk G M v3) (by decide) rfl rfl (Nat.le_of_ble_eq_true rfl) dX11_lone_52) rfl (fun r52 => ?_)
            exact X_iretI rfl dX11_lone_55
        · refine X_iload_n (a := 3) dX11_lone_41 rfl rfl rfl ?_
          refine X_ruI (Ru_S (st := []) cs_X11_276 (c_X10_loneKind G M v3) (by decide) rfl rfl (Nat.le_of_ble_eq_true rfl) dX11_lone_42) rfl (fun r42 => ?_)
          exact X_iretI rfl dX11_lone_45
      · refine X_goto (tgt := 69) dX11_lone_33 rfl ?_
        exact X_lv [0, 1, 2, 3] rfl (hj69 v2)
set_option maxRecDepth 100000 in
theorem c_X11_lone (G : Gm) (M : Mm) (v1 : Int32) : Ct (fI M) G miX11_lone (4) [.ref (ga G 0), .int v1] M (F_X11_lone M v1) := by
  refine Ct_of (pn_X11) (Nat.le_of_ble_eq_true rfl) ?_
  refine X_lv [0, 1] (lv' := [(0, .ref (ga G 0)), (1, .int v1)]) rfl ?_
  unfold F_X11_lone
  refine X_iload_n (a := 1) dX11_lone_0 rfl rfl rfl ?_
  refine X_iconst (w := 0) dX11_lone_1 ki_0 rfl ?_
  refine X_iconst (w := 3) dX11_lone_2 ki_3 rfl ?_
  refine X_ruI (Ru_S (st := []) cs_X11_97 (c_X11_within G M v1 0 3) (by decide) rfl rfl (Nat.le_of_ble_eq_true rfl) dX11_lone_3) rfl (fun r3 => ?_)
  refine X_if_ne (tgt := 11) dX11_lone_6 rfl rfl (fun e6 => ?_) (fun e6 => ?_)
  · refine X_iconst (w := 0) dX11_lone_11 ki_0 rfl ?_
    refine X_istore_n (lv2 := [(2, .int 0), (0, .ref (ga G 0)), (1, .int v1)]) dX11_lone_12 rfl (by decide) rfl rfl ?_
    refine X_iconst (w := 0) dX11_lone_13 ki_0 rfl ?_
    refine X_istore_n (lv2 := [(3, .int 0), (2, .int 0), (0, .ref (ga G 0)), (1, .int v1)]) dX11_lone_14 rfl (by decide) rfl rfl ?_
    exact X_lv [2, 3, 1, 0] rfl (x_X11_lone_L15 G M v1 1000 0 0)
  · refine X_iconst (w := (-1)) dX11_lone_9 ki_m1 rfl ?_
    exact X_iretI rfl dX11_lone_10
set_option maxRecDepth 100000 in
theorem c_J6_bitCount_0f7a4 (G : Gm) (M : Mm) (v0 : Int32) : Ct (fI M) G miJ6_bitCount_0f7a4 (0) [.int v0] M (F_J6_bitCount_0f7a4 v0) := by
  refine Ct_of (pn_J6) (Nat.le_of_ble_eq_true rfl) ?_
  refine X_lv [0] (lv' := [(0, .int v0)]) rfl ?_
  unfold F_J6_bitCount_0f7a4
  refine X_iload_n (a := 0) dJ6_bitCount_0f7a4_0 rfl rfl rfl ?_
  refine X_iload_n (a := 0) dJ6_bitCount_0f7a4_1 rfl rfl rfl ?_
  refine X_iconst (w := 1) dJ6_bitCount_0f7a4_2 ki_1 rfl ?_
  refine X_iushr dJ6_bitCount_0f7a4_3 rfl rfl ?_
  refine X_ldcw (w := 1431655765) dJ6_bitCount_0f7a4_4 t_938 rfl ?_
  refine X_iand dJ6_bitCount_0f7a4_7 rfl ?_
  refine X_isub dJ6_bitCount_0f7a4_8 rfl ?_
  refine X_istore_n (lv2 := [(0, .int (v0 - ((us v0 1) &&& 1431655765)))]) dJ6_bitCount_0f7a4_9 rfl (by decide) rfl rfl ?_
  refine X_iload_n (a := 0) dJ6_bitCount_0f7a4_10 rfl rfl rfl ?_
  refine X_ldcw (w := 858993459) dJ6_bitCount_0f7a4_11 t_939 rfl ?_
  refine X_iand dJ6_bitCount_0f7a4_14 rfl ?_
  refine X_iload_n (a := 0) dJ6_bitCount_0f7a4_15 rfl rfl rfl ?_
  refine X_iconst (w := 2) dJ6_bitCount_0f7a4_16 ki_2 rfl ?_
  refine X_iushr dJ6_bitCount_0f7a4_17 rfl rfl ?_
  refine X_ldcw (w := 858993459) dJ6_bitCount_0f7a4_18 t_939 rfl ?_
  refine X_iand dJ6_bitCount_0f7a4_21 rfl ?_
  refine X_iadd dJ6_bitCount_0f7a4_22 rfl ?_
  refine X_istore_n (lv2 := [(0, .int (((v0 - ((us v0 1) &&& 1431655765)) &&& 858993459) + ((us (v0 - ((us v0 1) &&& 1431655765)) 2) &&& 858993459)))]) dJ6_bitCount_0f7a4_23 rfl (by decide) rfl rfl ?_
  refine X_iload_n (a := 0) dJ6_bitCount_0f7a4_24 rfl rfl rfl ?_
  refine X_iload_n (a := 0) dJ6_bitCount_0f7a4_25 rfl rfl rfl ?_
  refine X_iconst (w := 4) dJ6_bitCount_0f7a4_26 ki_4 rfl ?_
  refine X_iushr dJ6_bitCount_0f7a4_27 rfl rfl ?_
  refine X_iadd dJ6_bitCount_0f7a4_28 rfl ?_
  refine X_ldcw (w := 252645135) dJ6_bitCount_0f7a4_29 t_940 rfl ?_
  refine X_iand dJ6_bitCount_0f7a4_32 rfl ?_
  refine X_istore_n (lv2 := [(0, .int (((((v0 - ((us v0 1) &&& 1431655765)) &&& 858993459) + ((us (v0 - ((us v0 1) &&& 1431655765)) 2) &&& 858993459)) + (us (((v0 - ((us v0 1) &&& 1431655765)) &&& 858993459) + ((us (v0 - ((us v0 1) &&& 1431655765)) 2) &&& 858993459)) 4)) &&& 252645135))]) dJ6_bitCount_0f7a4_33 rfl (by decide) rfl rfl ?_
  refine X_iload_n (a := 0) dJ6_bitCount_0f7a4_34 rfl rfl rfl ?_
  refine X_iload_n (a := 0) dJ6_bitCount_0f7a4_35 rfl rfl rfl ?_
  refine X_bipush (w := 8) dJ6_bitCount_0f7a4_36 kb_8 rfl ?_
  refine X_iushr dJ6_bitCount_0f7a4_38 rfl rfl ?_
  refine X_iadd dJ6_bitCount_0f7a4_39 rfl ?_
  refine X_istore_n (lv2 := [(0, .int ((((((v0 - ((us v0 1) &&& 1431655765)) &&& 858993459) + ((us (v0 - ((us v0 1) &&& 1431655765)) 2) &&& 858993459)) + (us (((v0 - ((us v0 1) &&& 1431655765)) &&& 858993459) + ((us (v0 - ((us v0 1) &&& 1431655765)) 2) &&& 858993459)) 4)) &&& 252645135) + (us (((((v0 - ((us v0 1) &&& 1431655765)) &&& 858993459) + ((us (v0 - ((us v0 1) &&& 1431655765)) 2) &&& 858993459)) + (us (((v0 - ((us v0 1) &&& 1431655765)) &&& 858993459) + ((us (v0 - ((us v0 1) &&& 1431655765)) 2) &&& 858993459)) 4)) &&& 252645135) 8)))]) dJ6_bitCount_0f7a4_40 rfl (by decide) rfl rfl ?_
  refine X_iload_n (a := 0) dJ6_bitCount_0f7a4_41 rfl rfl rfl ?_
  refine X_iload_n (a := 0) dJ6_bitCount_0f7a4_42 rfl rfl rfl ?_
  refine X_bipush (w := 16) dJ6_bitCount_0f7a4_43 kb_16 rfl ?_
  refine X_iushr dJ6_bitCount_0f7a4_45 rfl rfl ?_
  refine X_iadd dJ6_bitCount_0f7a4_46 rfl ?_
  refine X_istore_n (lv2 := [(0, .int (((((((v0 - ((us v0 1) &&& 1431655765)) &&& 858993459) + ((us (v0 - ((us v0 1) &&& 1431655765)) 2) &&& 858993459)) + (us (((v0 - ((us v0 1) &&& 1431655765)) &&& 858993459) + ((us (v0 - ((us v0 1) &&& 1431655765)) 2) &&& 858993459)) 4)) &&& 252645135) + (us (((((v0 - ((us v0 1) &&& 1431655765)) &&& 858993459) + ((us (v0 - ((us v0 1) &&& 1431655765)) 2) &&& 858993459)) + (us (((v0 - ((us v0 1) &&& 1431655765)) &&& 858993459) + ((us (v0 - ((us v0 1) &&& 1431655765)) 2) &&& 858993459)) 4)) &&& 252645135) 8)) + (us ((((((v0 - ((us v0 1) &&& 1431655765)) &&& 858993459) + ((us (v0 - ((us v0 1) &&& 1431655765)) 2) &&& 858993459)) + (us (((v0 - ((us v0 1) &&& 1431655765)) &&& 858993459) + ((us (v0 - ((us v0 1) &&& 1431655765)) 2) &&& 858993459)) 4)) &&& 252645135) + (us (((((v0 - ((us v0 1) &&& 1431655765)) &&& 858993459) + ((us (v0 - ((us v0 1) &&& 1431655765)) 2) &&& 858993459)) + (us (((v0 - ((us v0 1) &&& 1431655765)) &&& 858993459) + ((us (v0 - ((us v0 1) &&& 1431655765)) 2) &&& 858993459)) 4)) &&& 252645135) 8)) 16)))]) dJ6_bitCount_0f7a4_47 rfl (by decide) rfl rfl ?_
  refine X_iload_n (a := 0) dJ6_bitCount_0f7a4_48 rfl rfl rfl ?_
  refine X_bipush (w := 63) dJ6_bitCount_0f7a4_49 kb_63 rfl ?_
  refine X_iand dJ6_bitCount_0f7a4_51 rfl ?_
  exact X_iretI rfl dJ6_bitCount_0f7a4_52
set_option maxRecDepth 100000 in
theorem x_X11_liar_L4 (G : Gm) (M : Mm) : ∀ (n : Nat) (v1 : Int32) (v2 : Int32), X (fI M) G miX11_liar (4) 4 [(0, .ref (ga G 0)), (1, .int v1), (2, .int v2)] [] M (F_X11_liar_L4 M n v1 v2) := by
  intro n
  induction n with
  | zero => intro v1 v2; exact X_none
  | succ n ih =>
    intro v1 v2
    rw [F_X11_liar_L4]
    refine X_iload_n (a := 2) dX11_liar_4 rfl rfl rfl ?_
    refine X_sipush (w := 500) dX11_liar_5 ks_500 rfl ?_
    refine X_icmp_ge (tgt := 45) dX11_liar_8 rfl rfl (fun e8 => ?_) (fun e8 => ?_)
    · refine X_iload_n (a := 1) dX11_liar_45 rfl rfl rfl ?_
      refine X_if_ne (tgt := 54) dX11_liar_46 rfl rfl (fun e46 => ?_) (fun e46 => ?_)
      · refine X_iload_n (a := 1) dX11_liar_54 rfl rfl rfl ?_
        refine X_ruI (Ru_S (st := []) cs_X11_247 (c_J6_numberOfTrailingZeros_0f7a4 G M v1) (by decide) rfl rfl (Nat.le_of_ble_eq_true rfl) dX11_liar_55) rfl (fun r55 => ?_)
        exact X_iretI rfl dX11_liar_58
      · refine X_bipush (w := (-3)) dX11_liar_49 kb_m3 rfl ?_
        refine X_goto (tgt := 58) dX11_liar_51 rfl ?_
        exact X_iretI rfl dX11_liar_58
    · refine X_aload_n (a := 0) dX11_liar_11 rfl rfl rfl ?_
      refine X_getR (t := 33) fl_X11_81 rfl rfl dX11_liar_12 rfl ?_
      refine X_iload_n (a := 2) dX11_liar_15 rfl rfl rfl ?_
      refine X_ruI (Ru_V (st := []) cv_X11_273 rfl (c_X10_denied G M v2) (by decide) rfl rfl (Nat.le_of_ble_eq_true rfl) dX11_liar_16) rfl (fun r16 => ?_)
      refine X_istore_n (lv2 := [(3, .int r16), (0, .ref (ga G 0)), (1, .int v1), (2, .int v2)]) dX11_liar_19 rfl (by decide) rfl rfl ?_
      refine X_iload_n (a := 0) dX11_liar_20 rfl rfl rfl ?_
      refine X_if_ne (tgt := 27) dX11_liar_21 rfl rfl (fun e21 => ?_) (fun e21 => ?_)
      · refine X_iload_n (a := 0) dX11_liar_27 rfl rfl rfl ?_
        refine X_ruI (Ru_S (st := []) cs_X11_285 (c_J6_bitCount_0f7a4 G M r16) (by decide) rfl rfl (Nat.le_of_ble_eq_true rfl) dX11_liar_28) rfl (fun r28 => ?_)
        refine X_iconst (w := 1) dX11_liar_31 ki_1 rfl ?_
        refine X_jc (P := fun j => ∀ (v1 : Int32), X (fI M) G miX11_liar (4) 39 [(0, .ref (ga G 0)), (1, .int v1), (2, .int v2)] [] M (j v1)) (fun v1 => ?_) (fun j39 hj39 => ?_)
        · refine X_iinc (a := 2) (lv2 := [(2, .int (v2 + 1)), (0, .ref (ga G 0)), (1, .int v1)]) dX11_liar_39 rfl (ii_1 _) (by decide) rfl rfl ?_
          refine X_goto (tgt := 4) dX11_liar_42 rfl ?_
          exact X_lv [1, 2, 0] rfl (ih v1 (v2 + 1))
        refine X_icmp_ne (tgt := 39) dX11_liar_32 rfl rfl (fun e32 => ?_) (fun e32 => ?_)
        · exact X_lv [1, 2, 3] rfl (hj39 v1)
        · refine X_iload_n (a := 2) dX11_liar_35 rfl rfl rfl ?_
          refine X_iload_n (a := 0) dX11_liar_36 rfl rfl rfl ?_
          refine X_ior dX11_liar_37 rfl ?_
          refine X_istore_n (lv2 := [(1, .int (v1 ||| r16)), (3, .int r16), (0, .ref (ga G 0)), (2, .int v2)]) dX11_liar_38 rfl (by decide) rfl rfl ?_
          exact X_lv [2, 0, 3] rfl (hj39 (v1 ||| r16))
      · refine X_bipush (w := (-3)) dX11_liar_24 kb_m3 rfl ?_
        exact X_iretI rfl dX11_liar_26
set_option maxRecDepth 100000 in
theorem c_X11_liar (G : Gm) (M : Mm) : Ct (fI M) G miX11_liar (4) [.ref (ga G 0)] M (F_X11_liar M) := by
  refine Ct_of (pn_X11) (Nat.le_of_ble_eq_true rfl) ?_
  refine X_lv [0] (lv' := [(0, .ref (ga G 0))]) rfl ?_
  unfold F_X11_liar
  refine X_iconst (w := 0) dX11_liar_0 ki_0 rfl ?_
  refine X_istore_n (lv2 := [(1, .int 0), (0, .ref (ga G 0))]) dX11_liar_1 rfl (by decide) rfl rfl ?_
  refine X_iconst (w := 0) dX11_liar_2 ki_0 rfl ?_
  refine X_istore_n (lv2 := [(2, .int 0), (1, .int 0), (0, .ref (ga G 0))]) dX11_liar_3 rfl (by decide) rfl rfl ?_
  exact X_lv [2, 1, 0] rfl (x_X11_liar_L4 G M 1000 0 0)
set_option maxRecDepth 100000 in
theorem c_X11_seed (G : Gm) (M : Mm) (v1 : Int32) : Ct fJ G miX11_seed (0) [.ref (ga G 0), .int v1] M (F_X11_seed M v1) := by
  refine Ct_of (pn_X11) (Nat.le_of_ble_eq_true rfl) ?_
  refine X_lv [0, 1] (lv' := [(0, .ref (ga G 0)), (1, .int v1)]) rfl ?_
  unfold F_X11_seed
  refine X_aload_n (a := 0) dX11_seed_0 rfl rfl rfl ?_
  refine X_getR (t := 33) fl_X11_81 rfl rfl dX11_seed_1 rfl ?_
  refine X_getI fl_X11_288 rfl dX11_seed_4 rfl ?_
  refine X_istore_n (lv2 := [(2, .int (gi M 33 16)), (0, .ref (ga G 0)), (1, .int v1)]) dX11_seed_7 rfl (by decide) rfl rfl ?_
  refine X_aload_n (a := 1) dX11_seed_8 rfl rfl rfl ?_
  refine X_getR (t := 33) fl_X11_81 rfl rfl dX11_seed_9 rfl ?_
  refine X_iload_n (a := 2) dX11_seed_12 rfl rfl rfl ?_
  refine X_putI fp_X11_288 rfl dX11_seed_13 rfl ?_
  refine X_iload_n (a := 0) dX11_seed_16 rfl rfl rfl ?_
  exact X_iretJ rfl dX11_seed_17
set_option maxRecDepth 100000 in
theorem c_X11_actByLot (G : Gm) (M : Mm) (v1 : Int32) : Ct (fI M) G miX11_actByLot (0) [.ref (ga G 0), .int v1] M (F_X11_actByLot M v1) := by
  refine Ct_of (pn_X11) (Nat.le_of_ble_eq_true rfl) ?_
  refine X_lv [0, 1] (lv' := [(0, .ref (ga G 0)), (1, .int v1)]) rfl ?_
  unfold F_X11_actByLot
  refine X_iload_n (a := 1) dX11_actByLot_0 rfl rfl rfl ?_
  refine X_bipush (w := 16) dX11_actByLot_1 kb_16 rfl ?_
  refine X_iushr dX11_actByLot_3 rfl rfl ?_
  refine X_aload_n (a := 0) dX11_actByLot_4 rfl rfl rfl ?_
  refine X_getR (t := 33) fl_X11_81 rfl rfl dX11_actByLot_5 rfl ?_
  refine X_getI fl_X11_101 rfl dX11_actByLot_8 rfl ?_
  refine X_iconst (w := 1) dX11_actByLot_11 ki_1 rfl ?_
  refine X_iadd dX11_actByLot_12 rfl ?_
  refine X_nz (fun h13 => ?_)
  refine X_irem dX11_actByLot_13 h13 rfl ?_
  exact X_iretI rfl dX11_actByLot_14
set_option maxRecDepth 100000 in
theorem c_X11_nextLot (G : Gm) (M : Mm) (v0 : Int32) : Ct (fI M) G miX11_nextLot (0) [.int v0] M (F_X11_nextLot v0) := by
  refine Ct_of (pn_X11) (Nat.le_of_ble_eq_true rfl) ?_
  refine X_lv [0] (lv' := [(0, .int v0)]) rfl ?_
  unfold F_X11_nextLot
  refine X_iload_n (a := 0) dX11_nextLot_0 rfl rfl rfl ?_
  refine X_ldcw (w := 1103515245) dX11_nextLot_1 t_952 rfl ?_
  refine X_imul dX11_nextLot_4 rfl ?_
  refine X_sipush (w := 12345) dX11_nextLot_5 ks_12345 rfl ?_
  refine X_iadd dX11_nextLot_8 rfl ?_
  exact X_iretI rfl dX11_nextLot_9
set_option maxRecDepth 100000 in
theorem c_X11_lot (G : Gm) (M : Mm) : Ct fJ G miX11_lot (6) [.ref (ga G 0)] M (F_X11_lot M) := by
  refine Ct_of (pn_X11) (Nat.le_of_ble_eq_true rfl) ?_
  refine X_lv [0] (lv' := [(0, .ref (ga G 0))]) rfl ?_
  unfold F_X11_lot
  refine X_aload_n (a := 0) dX11_lot_0 rfl rfl rfl ?_
  refine X_getR (t := 33) fl_X11_81 rfl rfl dX11_lot_1 rfl ?_
  refine X_aload_n (a := 0) dX11_lot_4 rfl rfl rfl ?_
  refine X_getR (t := 33) fl_X11_81 rfl rfl dX11_lot_5 rfl ?_
  refine X_getR (t := 39) fl_X11_111 rfl rfl dX11_lot_8 rfl ?_
  refine X_ruI (Ru_V (st := []) cv_X11_170 rfl (c_X10_isOver G M 39 rfl) (by decide) rfl rfl (Nat.le_of_ble_eq_true rfl) dX11_lot_11) rfl (fun r11 => ?_)
  refine X_if_eq (tgt := 20) dX11_lot_14 rfl rfl (fun e14 => ?_) (fun e14 => ?_)
  · refine X_aload_n (a := 0) dX11_lot_20 rfl rfl rfl ?_
    refine X_getR (t := 33) fl_X11_81 rfl rfl dX11_lot_21 rfl ?_
    refine X_aload_n (a := 0) dX11_lot_24 rfl rfl rfl ?_
    refine X_getR (t := 33) fl_X11_81 rfl rfl dX11_lot_25 rfl ?_
    refine X_getI fl_X11_288 rfl dX11_lot_28 rfl ?_
    refine X_ruI (Ru_S (st := [.ref (ga G 33)]) cs_X11_291 (c_X11_nextLot G M (gi M 33 16)) (by decide) rfl rfl (Nat.le_of_ble_eq_true rfl) dX11_lot_31) rfl (fun r31 => ?_)
    refine X_putI fp_X11_288 rfl dX11_lot_34 rfl ?_
    refine X_aload_n (a := 0) dX11_lot_37 rfl rfl rfl ?_
    refine X_aload_n (a := 0) dX11_lot_38 rfl rfl rfl ?_
    refine X_aload_n (a := 0) dX11_lot_39 rfl rfl rfl ?_
    refine X_getR (t := 33) fl_X11_81 rfl rfl dX11_lot_40 rfl ?_
    refine X_getI fl_X11_288 rfl dX11_lot_43 rfl ?_
    refine X_ruI (Ru_V (st := [.ref (ga G 0)]) cv_X11_294 rfl (c_X11_actByLot G (si M 33 16 r31) (gi (si M 33 16 r31) 33 16)) (by decide) rfl rfl (Nat.le_of_ble_eq_true rfl) dX11_lot_46) rfl (fun r46 => ?_)
    refine X_ruJ (Ru_V (st := []) cv_X11_200 rfl (c_X11_goBy G (si M 33 16 r31) r46) (by decide) rfl rfl (Nat.le_of_ble_eq_true rfl) dX11_lot_49) rfl (fun r49 => ?_)
    exact X_iretJ rfl dX11_lot_52
  · refine X_bipush (w := (-4)) dX11_lot_17 kb_m4 rfl ?_
    exact X_iretJ rfl dX11_lot_19
set_option maxRecDepth 100000 in
theorem x_X11_times_L69 (G : Gm) (v1 : Int32) (v2 : Int32) (v4 : Int32) (v5 : Int32) (k37 : Mm → Int32 → Int32 → Int32 → Option (Int32 × Mm)) (hk37 : ∀ (M : Mm) (v3 : Int32) (v4 : Int32) (v5 : Int32), X fJ G miX11_times (5) 37 [(0, .ref (ga G 0)), (1, .int v1), (2, .int v2), (3, .int v3), (4, .int v4), (5, .int v5)] [] M (k37 M v3 v4 v5)) : ∀ (n : Nat) (M : Mm) (v3 : Int32) (v6 : Int32) (v7 : Int32), X fJ G miX11_times (5) 69 [(0, .ref (ga G 0)), (1, .int v1), (2, .int v2), (3, .int v3), (4, .int v4), (5, .int v5), (6, .int v6), (7, .int v7)] [] M (F_X11_times_L69 k37 v1 v2 v4 v5 n M v3 v6 v7) := by
  intro n
  induction n with
  | zero => intro M v3 v6 v7; exact X_none
  | succ n ih =>
    intro M v3 v6 v7
    rw [F_X11_times_L69]
    refine X_iload (a := 7) dX11_times_69 rfl rfl ?_
    refine X_aload_n (a := 0) dX11_times_71 rfl rfl rfl ?_
    refine X_getR (t := 33) fl_X11_81 rfl rfl dX11_times_72 rfl ?_
    refine X_getI fl_X11_164 rfl dX11_times_75 rfl ?_
    refine X_icmp_ge (tgt := 113) dX11_times_78 rfl rfl (fun e78 => ?_) (fun e78 => ?_)
    · refine X_iload (a := 6) dX11_times_113 rfl rfl ?_
      refine X_iload_n (a := 2) dX11_times_115 rfl rfl rfl ?_
      refine X_jc (P := fun j => ∀ (v4 : Int32), X fJ G miX11_times (5) 122 [(0, .ref (ga G 0)), (1, .int v1), (2, .int v2), (3, .int v3), (4, .int v4), (5, .int v5)] [] M (j v4)) (fun v4 => ?_) (fun j122 hj122 => ?_)
      · refine X_iinc (a := 5) (lv2 := [(5, .int (v5 + 1)), (0, .ref (ga G 0)), (1, .int v1), (2, .int v2), (3, .int v3), (4, .int v4)]) dX11_times_122 rfl (ii_1 _) (by decide) rfl rfl ?_
        refine X_goto (tgt := 37) dX11_times_125 rfl ?_
        exact X_lv [1, 2, 3, 4, 5, 0] rfl (hk37 M v3 v4 (v5 + 1))
      refine X_icmp_lt (tgt := 122) dX11_times_116 rfl rfl (fun e116 => ?_) (fun e116 => ?_)
      · exact X_lv [0, 1, 2, 3, 4, 5] rfl (hj122 v4)
      · refine X_iinc (a := 4) (lv2 := [(4, .int (v4 + 1)), (0, .ref (ga G 0)), (1, .int v1), (2, .int v2), (3, .int v3), (5, .int v5), (6, .int v6), (7, .int v7)]) dX11_times_119 rfl (ii_1 _) (by decide) rfl rfl ?_
        exact X_lv [1, 2, 3, 4, 0, 5] rfl (hj122 (v4 + 1))
    · refine X_iload_n (a := 3) dX11_times_81 rfl rfl rfl ?_
      refine X_ruI (Ru_S (st := []) cs_X11_291 (c_X11_nextLot G M v3) (by decide) rfl rfl (Nat.le_of_ble_eq_true rfl) dX11_times_82) rfl (fun r82 => ?_)
      refine X_istore_n (lv2 := [(3, .int r82), (0, .ref (ga G 0)), (1, .int v1), (2, .int v2), (4, .int v4), (5, .int v5), (6, .int v6), (7, .int v7)]) dX11_times_85 rfl (by decide) rfl rfl ?_
      refine X_iload (a := 6) dX11_times_86 rfl rfl ?_
      refine X_aload_n (a := 1) dX11_times_88 rfl rfl rfl ?_
      refine X_getR (t := 33) fl_X11_81 rfl rfl dX11_times_89 rfl ?_
      refine X_aload_n (a := 1) dX11_times_92 rfl rfl rfl ?_
      refine X_getR (t := 1) fl_X11_10 rfl rfl dX11_times_93 rfl ?_
      refine X_aload_n (a := 1) dX11_times_96 rfl rfl rfl ?_
      refine X_iload_n (a := 0) dX11_times_97 rfl rfl rfl ?_
      refine X_ruI (Ru_V (st := [.ref (ga G 1), .ref (ga G 33), .int v6]) cv_X11_294 rfl (c_X11_actByLot G M r82) (by decide) rfl rfl (Nat.le_of_ble_eq_true rfl) dX11_times_98) rfl (fun r98 => ?_)
      refine X_ruJ (Ru_V (st := [.int v6]) cv_X11_212 rfl (c_X10_pass G M 1 r98 rfl) (by decide) rfl rfl (Nat.le_of_ble_eq_true rfl) dX11_times_101) rfl (fun r101 => ?_)
      refine X_iadd dX11_times_104 rfl ?_
      refine X_istore (lv2 := [(6, .int (v6 + r101.1)), (3, .int r82), (0, .ref (ga G 0)), (1, .int v1), (2, .int v2), (4, .int v4), (5, .int v5), (7, .int v7)]) dX11_times_105 (by decide) rfl rfl ?_
      refine X_iinc (a := 7) (lv2 := [(7, .int (v7 + 1)), (6, .int (v6 + r101.1)), (3, .int r82), (0, .ref (ga G 0)), (1, .int v1), (2, .int v2), (4, .int v4), (5, .int v5)]) dX11_times_107 rfl (ii_1 _) (by decide) rfl rfl ?_
      refine X_goto (tgt := 69) dX11_times_110 rfl ?_
      exact X_lv [3, 4, 5, 2, 6, 7, 1, 0] rfl (ih r101.2 r82 (v6 + r101.1) (v7 + 1))
set_option maxRecDepth 100000 in
theorem x_X11_times_L37 (G : Gm) (v1 : Int32) (v2 : Int32) : ∀ (n : Nat) (M : Mm) (v3 : Int32) (v4 : Int32) (v5 : Int32), X fJ G miX11_times (5) 37 [(0, .ref (ga G 0)), (1, .int v1), (2, .int v2), (3, .int v3), (4, .int v4), (5, .int v5)] [] M (F_X11_times_L37 v1 v2 n M v3 v4 v5) := by
  intro n
  induction n with
  | zero => intro M v3 v4 v5; exact X_none
  | succ n ih =>
    intro M v3 v4 v5
    rw [F_X11_times_L37]
    refine X_iload (a := 5) dX11_times_37 rfl rfl ?_
    refine X_iload_n (a := 1) dX11_times_39 rfl rfl rfl ?_
    refine X_icmp_ge (tgt := 128) dX11_times_40 rfl rfl (fun e40 => ?_) (fun e40 => ?_)
    · refine X_iload (a := 4) dX11_times_128 rfl rfl ?_
      exact X_iretJ rfl dX11_times_130
    · refine X_aload_n (a := 0) dX11_times_43 rfl rfl rfl ?_
      refine X_getR (t := 1) fl_X11_10 rfl rfl dX11_times_44 rfl ?_
      refine X_aload_n (a := 0) dX11_times_47 rfl rfl rfl ?_
      refine X_getR (t := 33) fl_X11_81 rfl rfl dX11_times_48 rfl ?_
      refine X_getR (t := 39) fl_X11_111 rfl rfl dX11_times_51 rfl ?_
      refine X_ruV (Ru_V (st := []) cv_X11_203 rfl (c_X3_take G M 1 39 rfl rfl) (by decide) rfl rfl (Nat.le_of_ble_eq_true rfl) dX11_times_54) rfl (fun r54 => ?_)
      refine X_iconst (w := 0) dX11_times_57 ki_0 rfl ?_
      refine X_istore (lv2 := [(6, .int 0), (0, .ref (ga G 0)), (1, .int v1), (2, .int v2), (3, .int v3), (4, .int v4), (5, .int v5)]) dX11_times_58 (by decide) rfl rfl ?_
      refine X_aload_n (a := 1) dX11_times_60 rfl rfl rfl ?_
      refine X_getR (t := 1) fl_X11_10 rfl rfl dX11_times_61 rfl ?_
      refine X_getI fl_X11_161 rfl dX11_times_64 rfl ?_
      refine X_istore (lv2 := [(7, .int (gi r54 1 3)), (6, .int 0), (0, .ref (ga G 0)), (1, .int v1), (2, .int v2), (3, .int v3), (4, .int v4), (5, .int v5)]) dX11_times_67 (by decide) rfl rfl ?_
      exact X_lv [2, 3, 4, 5, 6, 7, 1, 0] rfl (x_X11_times_L69 G v1 v2 v4 v5 (F_X11_times_L37 v1 v2 n) ih 1000 r54 v3 0 (gi r54 1 3))
set_option maxRecDepth 100000 in
theorem c_X11_times (G : Gm) (M : Mm) (v1 : Int32) (v2 : Int32) : Ct fJ G miX11_times (5) [.ref (ga G 0), .int v1, .int v2] M (F_X11_times M v1 v2) := by
  refine Ct_of (pn_X11) (Nat.le_of_ble_eq_true rfl) ?_
  refine X_lv [0, 1, 2] (lv' := [(0, .ref (ga G 0)), (1, .int v1), (2, .int v2)]) rfl ?_
  unfold F_X11_times
  refine X_iload_n (a := 1) dX11_times_0 rfl rfl rfl ?_
  refine X_iconst (w := 1) dX11_times_1 ki_1 rfl ?_
  refine X_bipush (w := 40) dX11_times_2 kb_40 rfl ?_
  refine X_ruI (Ru_S (st := []) cs_X11_97 (c_X11_within G M v1 1 40) (by decide) rfl rfl (Nat.le_of_ble_eq_true rfl) dX11_times_4) rfl (fun r4 => ?_)
  refine X_if_eq (tgt := 21) dX11_times_7 rfl rfl (fun e7 => ?_) (fun e7 => ?_)
  · refine X_iconst (w := (-1)) dX11_times_21 ki_m1 rfl ?_
    exact X_iretJ rfl dX11_times_22
  · refine X_iload_n (a := 2) dX11_times_10 rfl rfl rfl ?_
    refine X_iconst (w := 0) dX11_times_11 ki_0 rfl ?_
    refine X_sipush (w := 999) dX11_times_12 ks_999 rfl ?_
    refine X_ruI (Ru_S (st := []) cs_X11_97 (c_X11_within G M v2 0 999) (by decide) rfl rfl (Nat.le_of_ble_eq_true rfl) dX11_times_15) rfl (fun r15 => ?_)
    refine X_if_ne (tgt := 23) dX11_times_18 rfl rfl (fun e18 => ?_) (fun e18 => ?_)
    · refine X_aload_n (a := 0) dX11_times_23 rfl rfl rfl ?_
      refine X_getR (t := 33) fl_X11_81 rfl rfl dX11_times_24 rfl ?_
      refine X_getI fl_X11_288 rfl dX11_times_27 rfl ?_
      refine X_istore_n (lv2 := [(3, .int (gi M 33 16)), (0, .ref (ga G 0)), (1, .int v1), (2, .int v2)]) dX11_times_30 rfl (by decide) rfl rfl ?_
      refine X_iconst (w := 0) dX11_times_31 ki_0 rfl ?_
      refine X_istore (lv2 := [(4, .int 0), (3, .int (gi M 33 16)), (0, .ref (ga G 0)), (1, .int v1), (2, .int v2)]) dX11_times_32 (by decide) rfl rfl ?_
      refine X_iconst (w := 0) dX11_times_34 ki_0 rfl ?_
      refine X_istore (lv2 := [(5, .int 0), (4, .int 0), (3, .int (gi M 33 16)), (0, .ref (ga G 0)), (1, .int v1), (2, .int v2)]) dX11_times_35 (by decide) rfl rfl ?_
      exact X_lv [3, 4, 5, 2, 1, 0] rfl (x_X11_times_L37 G v1 v2 1000 M (gi M 33 16) 0 0)
    · refine X_iconst (w := (-1)) dX11_times_21 ki_m1 rfl ?_
      exact X_iretJ rfl dX11_times_22
set_option maxRecDepth 100000 in
theorem x_X11_prove_L48 (G : Gm) : ∀ (n : Nat) (M : Mm) (v2 : Int32), X fJ G miX11_prove (42) 48 [(0, .ref (ga G 0)), (2, .int v2)] [] M (F_X11_prove_L48 n M v2) := by
  intro n
  induction n with
  | zero => intro M v2; exact X_none
  | succ n ih =>
    intro M v2
    rw [F_X11_prove_L48]
    refine X_iload_n (a := 1) dX11_prove_48 rfl rfl rfl ?_
    refine X_aload_n (a := 0) dX11_prove_49 rfl rfl rfl ?_
    refine X_getI fl_X11_297 rfl dX11_prove_50 rfl ?_
    refine X_icmp_ge (tgt := 126) dX11_prove_53 rfl rfl (fun e53 => ?_) (fun e53 => ?_)
    · refine X_aload_n (a := 0) dX11_prove_126 rfl rfl rfl ?_
      refine X_getI fl_X11_297 rfl dX11_prove_127 rfl ?_
      exact X_iretJ rfl dX11_prove_130
    · refine X_aload_n (a := 0) dX11_prove_56 rfl rfl rfl ?_
      refine X_getR (t := 15) fl_X11_34 rfl rfl dX11_prove_57 rfl ?_
      refine X_iconst (w := 3) dX11_prove_60 ki_3 rfl ?_
      refine X_iload_n (a := 1) dX11_prove_61 rfl rfl rfl ?_
      refine X_imul dX11_prove_62 rfl ?_
      refine X_aload_n (a := 0) dX11_prove_63 rfl rfl rfl ?_
      refine X_getR (t := 75) fl_X11_93 rfl rfl dX11_prove_64 rfl ?_
      refine X_getR (t := 93) fl_X11_232 rfl rfl dX11_prove_67 rfl ?_
      refine X_iload_n (a := 1) dX11_prove_70 rfl rfl rfl ?_
      refine X_iald rfl rfl dX11_prove_71 rfl ?_
      refine X_iast rfl rfl dX11_prove_72 rfl ?_
      refine X_aload_n (a := 0) dX11_prove_73 rfl rfl rfl ?_
      refine X_getR (t := 15) fl_X11_34 rfl rfl dX11_prove_74 rfl ?_
      refine X_iconst (w := 3) dX11_prove_77 ki_3 rfl ?_
      refine X_iload_n (a := 1) dX11_prove_78 rfl rfl rfl ?_
      refine X_imul dX11_prove_79 rfl ?_
      refine X_iconst (w := 1) dX11_prove_80 ki_1 rfl ?_
      refine X_iadd dX11_prove_81 rfl ?_
      refine X_aload_n (a := 0) dX11_prove_82 rfl rfl rfl ?_
      refine X_getR (t := 33) fl_X11_81 rfl rfl dX11_prove_83 rfl ?_
      refine X_aload_n (a := 0) dX11_prove_86 rfl rfl rfl ?_
      refine X_getR (t := 1) fl_X11_10 rfl rfl dX11_prove_87 rfl ?_
      refine X_aload_n (a := 0) dX11_prove_90 rfl rfl rfl ?_
      refine X_getR (t := 75) fl_X11_93 rfl rfl dX11_prove_91 rfl ?_
      refine X_getR (t := 93) fl_X11_232 rfl rfl dX11_prove_94 rfl ?_
      refine X_iload_n (a := 1) dX11_prove_97 rfl rfl rfl ?_
      refine X_iald rfl rfl dX11_prove_98 rfl ?_
      refine X_ruJ (Ru_V (st := [.int ((3 * v2) + 1), .ref (ga G 15)]) cv_X11_212 rfl (c_X10_pass G (si M 15 (ui (3 * v2)) (gi M 93 (ui v2))) 1 (gi (si M 15 (ui (3 * v2)) (gi M 93 (ui v2))) 93 (ui v2)) rfl) (by decide) rfl rfl (Nat.le_of_ble_eq_true rfl) dX11_prove_99) rfl (fun r99 => ?_)
      refine X_iast rfl rfl dX11_prove_102 rfl ?_
      refine X_aload_n (a := 0) dX11_prove_103 rfl rfl rfl ?_
      refine X_getR (t := 15) fl_X11_34 rfl rfl dX11_prove_104 rfl ?_
      refine X_iconst (w := 3) dX11_prove_107 ki_3 rfl ?_
      refine X_iload_n (a := 1) dX11_prove_108 rfl rfl rfl ?_
      refine X_imul dX11_prove_109 rfl ?_
      refine X_iconst (w := 2) dX11_prove_110 ki_2 rfl ?_
      refine X_iadd dX11_prove_111 rfl ?_
      refine X_aload_n (a := 0) dX11_prove_112 rfl rfl rfl ?_
      refine X_getR (t := 1) fl_X11_10 rfl rfl dX11_prove_113 rfl ?_
      refine X_getI fl_X11_128 rfl dX11_prove_116 rfl ?_
      refine X_iast rfl rfl dX11_prove_119 rfl ?_
      refine X_iinc (a := 1) (lv2 := [(2, .int (v2 + 1)), (0, .ref (ga G 0))]) dX11_prove_120 rfl (ii_1 _) (by decide) rfl rfl ?_
      refine X_goto (tgt := 48) dX11_prove_123 rfl ?_
      exact X_lv [1, 0] rfl (ih (si (si r99.2 15 (ui ((3 * v2) + 1)) r99.1) 15 (ui ((3 * v2) + 2)) (gi (si r99.2 15 (ui ((3 * v2) + 1)) r99.1) 1 2)) (v2 + 1))
set_option maxRecDepth 100000 in
theorem c_X11_prove (G : Gm) (M : Mm) (v1 : Int32) : Ct fJ G miX11_prove (42) [.ref (ga G 0), .int v1] M (F_X11_prove M v1) := by
  refine Ct_of (pn_X11) (Nat.le_of_ble_eq_true rfl) ?_
  refine X_lv [0, 1] (lv' := [(0, .ref (ga G 0)), (1, .int v1)]) rfl ?_
  unfold F_X11_prove
  refine X_iload_n (a := 1) dX11_prove_0 rfl rfl rfl ?_
  refine X_iconst (w := 0) dX11_prove_1 ki_0 rfl ?_
  refine X_iconst (w := 4) dX11_prove_2 ki_4 rfl ?_
  refine X_ruI (Ru_S (st := []) cs_X11_97 (c_X11_within G M v1 0 4) (by decide) rfl rfl (Nat.le_of_ble_eq_true rfl) dX11_prove_3) rfl (fun r3 => ?_)
  refine X_if_ne (tgt := 11) dX11_prove_6 rfl rfl (fun e6 => ?_) (fun e6 => ?_)
  · refine X_aload_n (a := 0) dX11_prove_11 rfl rfl rfl ?_
    refine X_getR (t := 75) fl_X11_93 rfl rfl dX11_prove_12 rfl ?_
    refine X_iload_n (a := 1) dX11_prove_15 rfl rfl rfl ?_
    refine X_iconst (w := 0) dX11_prove_16 ki_0 rfl ?_
    refine X_ruV (Ru_V (st := []) cv_X11_222 rfl (c_X5_lookAhead G M v1 0) (by decide) rfl rfl (Nat.le_of_ble_eq_true rfl) dX11_prove_17) rfl (fun r17 => ?_)
    refine X_aload_n (a := 0) dX11_prove_20 rfl rfl rfl ?_
    refine X_aload_n (a := 0) dX11_prove_21 rfl rfl rfl ?_
    refine X_getR (t := 75) fl_X11_93 rfl rfl dX11_prove_22 rfl ?_
    refine X_iload_n (a := 1) dX11_prove_25 rfl rfl rfl ?_
    refine X_ruI (Ru_V (st := [.ref (ga G 0)]) cv_X11_229 rfl (c_X5_lengthOf G r17 v1) (by decide) rfl rfl (Nat.le_of_ble_eq_true rfl) dX11_prove_26) rfl (fun r26 => ?_)
    refine X_putI fp_X11_297 rfl dX11_prove_29 rfl ?_
    refine X_aload_n (a := 0) dX11_prove_32 rfl rfl rfl ?_
    refine X_getR (t := 1) fl_X11_10 rfl rfl dX11_prove_33 rfl ?_
    refine X_aload_n (a := 0) dX11_prove_36 rfl rfl rfl ?_
    refine X_getR (t := 33) fl_X11_81 rfl rfl dX11_prove_37 rfl ?_
    refine X_getR (t := 39) fl_X11_111 rfl rfl dX11_prove_40 rfl ?_
    refine X_ruV (Ru_V (st := []) cv_X11_203 rfl (c_X3_take G (si r17 0 10 r26) 1 39 rfl rfl) (by decide) rfl rfl (Nat.le_of_ble_eq_true rfl) dX11_prove_43) rfl (fun r43 => ?_)
    refine X_iconst (w := 0) dX11_prove_46 ki_0 rfl ?_
    refine X_istore_n (lv2 := [(2, .int 0), (0, .ref (ga G 0)), (1, .int v1)]) dX11_prove_47 rfl (by decide) rfl rfl ?_
    exact X_lv [1, 0] rfl (x_X11_prove_L48 G 1000 r43 0)
  · refine X_iconst (w := (-1)) dX11_prove_9 ki_m1 rfl ?_
    exact X_iretJ rfl dX11_prove_10
set_option maxRecDepth 100000 in
theorem c_X11_isRowField (G : Gm) (M : Mm) (v1 : Int32) (v2 : Int32) : Ct (fI M) G miX11_isRowField (1) [.ref (ga G 0), .int v1, .int v2] M (F_X11_isRowField M v1 v2) := by
  refine Ct_of (pn_X11) (Nat.le_of_ble_eq_true rfl) ?_
  refine X_lv [0, 1, 2] (lv' := [(0, .ref (ga G 0)), (1, .int v1), (2, .int v2)]) rfl ?_
  unfold F_X11_isRowField
  refine X_iload_n (a := 1) dX11_isRowField_0 rfl rfl rfl ?_
  refine X_iconst (w := 0) dX11_isRowField_1 ki_0 rfl ?_
  refine X_aload_n (a := 0) dX11_isRowField_2 rfl rfl rfl ?_
  refine X_getI fl_X11_297 rfl dX11_isRowField_3 rfl ?_
  refine X_iconst (w := 1) dX11_isRowField_6 ki_1 rfl ?_
  refine X_isub dX11_isRowField_7 rfl ?_
  refine X_ruI (Ru_S (st := []) cs_X11_97 (c_X11_within G M v1 0 ((gi M 0 10) - 1)) (by decide) rfl rfl (Nat.le_of_ble_eq_true rfl) dX11_isRowField_8) rfl (fun r8 => ?_)
  refine X_if_eq (tgt := 27) dX11_isRowField_11 rfl rfl (fun e11 => ?_) (fun e11 => ?_)
  · refine X_iconst (w := 0) dX11_isRowField_27 ki_0 rfl ?_
    exact X_zretI rfl dX11_isRowField_28
  · refine X_iload_n (a := 2) dX11_isRowField_14 rfl rfl rfl ?_
    refine X_iconst (w := 0) dX11_isRowField_15 ki_0 rfl ?_
    refine X_iconst (w := 2) dX11_isRowField_16 ki_2 rfl ?_
    refine X_ruI (Ru_S (st := []) cs_X11_97 (c_X11_within G M v2 0 2) (by decide) rfl rfl (Nat.le_of_ble_eq_true rfl) dX11_isRowField_17) rfl (fun r17 => ?_)
    refine X_if_eq (tgt := 27) dX11_isRowField_20 rfl rfl (fun e20 => ?_) (fun e20 => ?_)
    · refine X_iconst (w := 0) dX11_isRowField_27 ki_0 rfl ?_
      exact X_zretI rfl dX11_isRowField_28
    · refine X_iconst (w := 1) dX11_isRowField_23 ki_1 rfl ?_
      refine X_goto (tgt := 28) dX11_isRowField_24 rfl ?_
      exact X_zretI rfl dX11_isRowField_28
set_option maxRecDepth 100000 in
theorem c_X11_row (G : Gm) (M : Mm) (v1 : Int32) (v2 : Int32) : Ct (fI M) G miX11_row (2) [.ref (ga G 0), .int v1, .int v2] M (F_X11_row M v1 v2) := by
  refine Ct_of (pn_X11) (Nat.le_of_ble_eq_true rfl) ?_
  refine X_lv [0, 1, 2] (lv' := [(0, .ref (ga G 0)), (1, .int v1), (2, .int v2)]) rfl ?_
  unfold F_X11_row
  refine X_aload_n (a := 0) dX11_row_0 rfl rfl rfl ?_
  refine X_iload_n (a := 1) dX11_row_1 rfl rfl rfl ?_
  refine X_iload_n (a := 2) dX11_row_2 rfl rfl rfl ?_
  refine X_ruI (Ru_V (st := []) cv_X11_300 rfl (c_X11_isRowField G M v1 v2) (by decide) rfl rfl (Nat.le_of_ble_eq_true rfl) dX11_row_3) rfl (fun r3 => ?_)
  refine X_if_eq (tgt := 22) dX11_row_6 rfl rfl (fun e6 => ?_) (fun e6 => ?_)
  · refine X_bipush (w := (-9)) dX11_row_22 kb_m9 rfl ?_
    exact X_iretI rfl dX11_row_24
  · refine X_aload_n (a := 0) dX11_row_9 rfl rfl rfl ?_
    refine X_getR (t := 15) fl_X11_34 rfl rfl dX11_row_10 rfl ?_
    refine X_iconst (w := 3) dX11_row_13 ki_3 rfl ?_
    refine X_iload_n (a := 1) dX11_row_14 rfl rfl rfl ?_
    refine X_imul dX11_row_15 rfl ?_
    refine X_iload_n (a := 2) dX11_row_16 rfl rfl rfl ?_
    refine X_iadd dX11_row_17 rfl ?_
    refine X_iald rfl rfl dX11_row_18 rfl ?_
    refine X_goto (tgt := 24) dX11_row_19 rfl ?_
    exact X_iretI rfl dX11_row_24
set_option maxRecDepth 100000 in
theorem c_X11_alterRow (G : Gm) (M : Mm) (v1 : Int32) (v2 : Int32) (v3 : Int32) : Ct fJ G miX11_alterRow (2) [.ref (ga G 0), .int v1, .int v2, .int v3] M (F_X11_alterRow M v1 v2 v3) := by
  refine Ct_of (pn_X11) (Nat.le_of_ble_eq_true rfl) ?_
  refine X_lv [0, 1, 2, 3] (lv' := [(0, .ref (ga G 0)), (1, .int v1), (2, .int v2), (3, .int v3)]) rfl ?_
  unfold F_X11_alterRow
  refine X_aload_n (a := 0) dX11_alterRow_0 rfl rfl rfl ?_
  refine X_iload_n (a := 1) dX11_alterRow_1 rfl rfl rfl ?_
  refine X_iload_n (a := 2) dX11_alterRow_2 rfl rfl rfl ?_
  refine X_ruI (Ru_V (st := []) cv_X11_300 rfl (c_X11_isRowField G M v1 v2) (by decide) rfl rfl (Nat.le_of_ble_eq_true rfl) dX11_alterRow_3) rfl (fun r3 => ?_)
  refine X_if_eq (tgt := 25) dX11_alterRow_6 rfl rfl (fun e6 => ?_) (fun e6 => ?_)
  · refine X_bipush (w := (-9)) dX11_alterRow_25 kb_m9 rfl ?_
    exact X_iretJ rfl dX11_alterRow_27
  · refine X_aload_n (a := 0) dX11_alterRow_9 rfl rfl rfl ?_
    refine X_getR (t := 15) fl_X11_34 rfl rfl dX11_alterRow_10 rfl ?_
    refine X_iconst (w := 3) dX11_alterRow_13 ki_3 rfl ?_
    refine X_iload_n (a := 1) dX11_alterRow_14 rfl rfl rfl ?_
    refine X_imul dX11_alterRow_15 rfl ?_
    refine X_iload_n (a := 2) dX11_alterRow_16 rfl rfl rfl ?_
    refine X_iadd dX11_alterRow_17 rfl ?_
    refine X_iload_n (a := 3) dX11_alterRow_18 rfl rfl rfl ?_
    refine X_ruJ (Ru_S (st := []) cs_X11_148 (c_X11_put G M 15 ((3 * v1) + v2) v3 rfl) (by decide) rfl rfl (Nat.le_of_ble_eq_true rfl) dX11_alterRow_19) rfl (fun r19 => ?_)
    refine X_goto (tgt := 27) dX11_alterRow_22 rfl ?_
    exact X_iretJ rfl dX11_alterRow_27
set_option maxRecDepth 100000 in
theorem c_X11_isAct (G : Gm) (M : Mm) (v1 : Int32) : Ct (fI M) G miX11_isAct (1) [.ref (ga G 0), .int v1] M (F_X11_isAct M v1) := by
  refine Ct_of (pn_X11) (Nat.le_of_ble_eq_true rfl) ?_
  refine X_lv [0, 1] (lv' := [(0, .ref (ga G 0)), (1, .int v1)]) rfl ?_
  unfold F_X11_isAct
  refine X_iload_n (a := 1) dX11_isAct_0 rfl rfl rfl ?_
  refine X_iconst (w := 0) dX11_isAct_1 ki_0 rfl ?_
  refine X_aload_n (a := 0) dX11_isAct_2 rfl rfl rfl ?_
  refine X_getR (t := 33) fl_X11_81 rfl rfl dX11_isAct_3 rfl ?_
  refine X_getI fl_X11_101 rfl dX11_isAct_6 rfl ?_
  refine X_ruI (Ru_S (st := []) cs_X11_97 (c_X11_within G M v1 0 (gi M 33 12)) (by decide) rfl rfl (Nat.le_of_ble_eq_true rfl) dX11_isAct_9) rfl (fun r9 => ?_)
  exact X_zretI rfl dX11_isAct_12
set_option maxRecDepth 100000 in
theorem x_X11_judge_L16 (G : Gm) : ∀ (n : Nat) (M : Mm) (v1 : Int32), X fJ G miX11_judge (5) 16 [(0, .ref (ga G 0)), (1, .int v1)] [] M (F_X11_judge_L16 n M v1) := by
  intro n
  induction n with
  | zero => intro M v1; exact X_none
  | succ n ih =>
    intro M v1
    rw [F_X11_judge_L16]
    refine X_iload_n (a := 1) dX11_judge_16 rfl rfl rfl ?_
    refine X_aload_n (a := 0) dX11_judge_17 rfl rfl rfl ?_
    refine X_getI fl_X11_297 rfl dX11_judge_18 rfl ?_
    refine X_icmp_ge (tgt := 116) dX11_judge_21 rfl rfl (fun e21 => ?_) (fun e21 => ?_)
    · refine X_iconst (w := 0) dX11_judge_116 ki_0 rfl ?_
      exact X_iretJ rfl dX11_judge_117
    · refine X_aload_n (a := 0) dX11_judge_24 rfl rfl rfl ?_
      refine X_getR (t := 15) fl_X11_34 rfl rfl dX11_judge_25 rfl ?_
      refine X_iconst (w := 3) dX11_judge_28 ki_3 rfl ?_
      refine X_iload_n (a := 1) dX11_judge_29 rfl rfl rfl ?_
      refine X_imul dX11_judge_30 rfl ?_
      refine X_iald rfl rfl dX11_judge_31 rfl ?_
      refine X_istore_n (lv2 := [(2, .int (gi M 15 (ui (3 * v1)))), (0, .ref (ga G 0)), (1, .int v1)]) dX11_judge_32 rfl (by decide) rfl rfl ?_
      refine X_aload_n (a := 1) dX11_judge_33 rfl rfl rfl ?_
      refine X_getR (t := 33) fl_X11_81 rfl rfl dX11_judge_34 rfl ?_
      refine X_aload_n (a := 1) dX11_judge_37 rfl rfl rfl ?_
      refine X_getR (t := 1) fl_X11_10 rfl rfl dX11_judge_38 rfl ?_
      refine X_ruI (Ru_V (st := []) cv_X11_170 rfl (c_X10_isOver G M 1 rfl) (by decide) rfl rfl (Nat.le_of_ble_eq_true rfl) dX11_judge_41) rfl (fun r41 => ?_)
      refine X_if_ne (tgt := 55) dX11_judge_44 rfl rfl (fun e44 => ?_) (fun e44 => ?_)
      · refine X_iload_n (a := 2) dX11_judge_55 rfl rfl rfl ?_
        refine X_iconst (w := 1) dX11_judge_56 ki_1 rfl ?_
        refine X_iadd dX11_judge_57 rfl ?_
        exact X_iretJ rfl dX11_judge_58
      · refine X_aload_n (a := 1) dX11_judge_47 rfl rfl rfl ?_
        refine X_iload_n (a := 0) dX11_judge_48 rfl rfl rfl ?_
        refine X_ruI (Ru_V (st := []) cv_X11_304 rfl (c_X11_isAct G M (gi M 15 (ui (3 * v1)))) (by decide) rfl rfl (Nat.le_of_ble_eq_true rfl) dX11_judge_49) rfl (fun r49 => ?_)
        refine X_if_ne (tgt := 59) dX11_judge_52 rfl rfl (fun e52 => ?_) (fun e52 => ?_)
        · refine X_aload_n (a := 1) dX11_judge_59 rfl rfl rfl ?_
          refine X_getR (t := 33) fl_X11_81 rfl rfl dX11_judge_60 rfl ?_
          refine X_aload_n (a := 1) dX11_judge_63 rfl rfl rfl ?_
          refine X_getR (t := 1) fl_X11_10 rfl rfl dX11_judge_64 rfl ?_
          refine X_iload_n (a := 0) dX11_judge_67 rfl rfl rfl ?_
          refine X_ruJ (Ru_V (st := []) cv_X11_212 rfl (c_X10_pass G M 1 (gi M 15 (ui (3 * v1))) rfl) (by decide) rfl rfl (Nat.le_of_ble_eq_true rfl) dX11_judge_68) rfl (fun r68 => ?_)
          refine X_istore_n (lv2 := [(3, .int r68.1), (2, .int (gi M 15 (ui (3 * v1)))), (0, .ref (ga G 0)), (1, .int v1)]) dX11_judge_71 rfl (by decide) rfl rfl ?_
          refine X_iload_n (a := 0) dX11_judge_72 rfl rfl rfl ?_
          refine X_aload_n (a := 2) dX11_judge_73 rfl rfl rfl ?_
          refine X_getR (t := 15) fl_X11_34 rfl rfl dX11_judge_74 rfl ?_
          refine X_iconst (w := 3) dX11_judge_77 ki_3 rfl ?_
          refine X_iload_n (a := 3) dX11_judge_78 rfl rfl rfl ?_
          refine X_imul dX11_judge_79 rfl ?_
          refine X_iconst (w := 1) dX11_judge_80 ki_1 rfl ?_
          refine X_iadd dX11_judge_81 rfl ?_
          refine X_iald rfl rfl dX11_judge_82 rfl ?_
          refine X_icmp_ne (tgt := 106) dX11_judge_83 rfl rfl (fun e83 => ?_) (fun e83 => ?_)
          · refine X_iload_n (a := 3) dX11_judge_106 rfl rfl rfl ?_
            refine X_iconst (w := 1) dX11_judge_107 ki_1 rfl ?_
            refine X_iadd dX11_judge_108 rfl ?_
            exact X_iretJ rfl dX11_judge_109
          · refine X_aload_n (a := 2) dX11_judge_86 rfl rfl rfl ?_
            refine X_getR (t := 1) fl_X11_10 rfl rfl dX11_judge_87 rfl ?_
            refine X_getI fl_X11_128 rfl dX11_judge_90 rfl ?_
            refine X_aload_n (a := 2) dX11_judge_93 rfl rfl rfl ?_
            refine X_getR (t := 15) fl_X11_34 rfl rfl dX11_judge_94 rfl ?_
            refine X_iconst (w := 3) dX11_judge_97 ki_3 rfl ?_
            refine X_iload_n (a := 3) dX11_judge_98 rfl rfl rfl ?_
            refine X_imul dX11_judge_99 rfl ?_
            refine X_iconst (w := 2) dX11_judge_100 ki_2 rfl ?_
            refine X_iadd dX11_judge_101 rfl ?_
            refine X_iald rfl rfl dX11_judge_102 rfl ?_
            refine X_icmp_eq (tgt := 110) dX11_judge_103 rfl rfl (fun e103 => ?_) (fun e103 => ?_)
            · refine X_iinc (a := 3) (lv2 := [(1, .int (v1 + 1)), (3, .int r68.1), (2, .int (gi M 15 (ui (3 * v1)))), (0, .ref (ga G 0))]) dX11_judge_110 rfl (ii_1 _) (by decide) rfl rfl ?_
              refine X_goto (tgt := 16) dX11_judge_113 rfl ?_
              exact X_lv [3, 0] rfl (ih r68.2 (v1 + 1))
            · refine X_iload_n (a := 3) dX11_judge_106 rfl rfl rfl ?_
              refine X_iconst (w := 1) dX11_judge_107 ki_1 rfl ?_
              refine X_iadd dX11_judge_108 rfl ?_
              exact X_iretJ rfl dX11_judge_109
        · refine X_iload_n (a := 2) dX11_judge_55 rfl rfl rfl ?_
          refine X_iconst (w := 1) dX11_judge_56 ki_1 rfl ?_
          refine X_iadd dX11_judge_57 rfl ?_
          exact X_iretJ rfl dX11_judge_58
set_option maxRecDepth 100000 in
theorem c_X11_judge (G : Gm) (M : Mm) : Ct fJ G miX11_judge (5) [.ref (ga G 0)] M (F_X11_judge M) := by
  refine Ct_of (pn_X11) (Nat.le_of_ble_eq_true rfl) ?_
  refine X_lv [0] (lv' := [(0, .ref (ga G 0))]) rfl ?_
  unfold F_X11_judge
  refine X_aload_n (a := 0) dX11_judge_0 rfl rfl rfl ?_
  refine X_getR (t := 1) fl_X11_10 rfl rfl dX11_judge_1 rfl ?_
  refine X_aload_n (a := 0) dX11_judge_4 rfl rfl rfl ?_
  refine X_getR (t := 33) fl_X11_81 rfl rfl dX11_judge_5 rfl ?_
  refine X_getR (t := 39) fl_X11_111 rfl rfl dX11_judge_8 rfl ?_
  refine X_ruV (Ru_V (st := []) cv_X11_203 rfl (c_X3_take G M 1 39 rfl rfl) (by decide) rfl rfl (Nat.le_of_ble_eq_true rfl) dX11_judge_11) rfl (fun r11 => ?_)
  refine X_iconst (w := 0) dX11_judge_14 ki_0 rfl ?_
  refine X_istore_n (lv2 := [(1, .int 0), (0, .ref (ga G 0))]) dX11_judge_15 rfl (by decide) rfl rfl ?_
  exact X_lv [1, 0] rfl (x_X11_judge_L16 G 1000 r11 0)
set_option maxRecDepth 100000 in
theorem c_X11_isSheet (G : Gm) (M : Mm) (v0 : Int32) : Ct (fI M) G miX11_isSheet (1) [.int v0] M (F_X11_isSheet v0) := by
  refine Ct_of (pn_X11) (Nat.le_of_ble_eq_true rfl) ?_
  refine X_lv [0] (lv' := [(0, .int v0)]) rfl ?_
  unfold F_X11_isSheet
  refine X_iload_n (a := 0) dX11_isSheet_0 rfl rfl rfl ?_
  refine X_iconst (w := 0) dX11_isSheet_1 ki_0 rfl ?_
  refine X_iconst (w := 3) dX11_isSheet_2 ki_3 rfl ?_
  refine X_ruI (Ru_S (st := []) cs_X11_97 (c_X11_within G M v0 0 3) (by decide) rfl rfl (Nat.le_of_ble_eq_true rfl) dX11_isSheet_3) rfl (fun r3 => ?_)
  exact X_zretI rfl dX11_isSheet_6
set_option maxRecDepth 100000 in
theorem x_X11_sheet_L69 (G : Gm) (v1 : Int32) : ∀ (n : Nat) (M : Mm) (v4 : Int32), X fJ G miX11_sheet (2) 69 [(0, .ref (ga G 0)), (1, .int v1), (4, .int v4)] [] M (F_X11_sheet_L69 v1 n M v4) := by
  intro n
  induction n with
  | zero => intro M v4; exact X_none
  | succ n ih =>
    intro M v4
    rw [F_X11_sheet_L69]
    refine X_iload (a := 2) dX11_sheet_69 rfl rfl ?_
    refine X_bipush (w := 40) dX11_sheet_71 kb_40 rfl ?_
    refine X_icmp_ge (tgt := 92) dX11_sheet_73 rfl rfl (fun e73 => ?_) (fun e73 => ?_)
    · refine X_iconst (w := 1) dX11_sheet_92 ki_1 rfl ?_
      exact X_iretJ rfl dX11_sheet_93
    · refine X_aload_n (a := 0) dX11_sheet_76 rfl rfl rfl ?_
      refine X_getR (t := 18) fl_X11_46 rfl rfl dX11_sheet_77 rfl ?_
      refine X_iload_n (a := 1) dX11_sheet_80 rfl rfl rfl ?_
      refine X_aald (t := 24) rfl (by decide) rfl dX11_sheet_81 rfl (fun h81 => ?_)
      refine X_iload (a := 2) dX11_sheet_82 rfl rfl ?_
      refine X_iconst (w := 0) dX11_sheet_84 ki_0 rfl ?_
      refine X_iast (ty_items h81) (ln_items h81) dX11_sheet_85 rfl ?_
      refine X_iinc (a := 2) (lv2 := [(4, .int (v4 + 1)), (0, .ref (ga G 0)), (1, .int v1)]) dX11_sheet_86 rfl (ii_1 _) (by decide) rfl rfl ?_
      refine X_goto (tgt := 69) dX11_sheet_89 rfl ?_
      exact X_lv [1, 2, 0] rfl (ih (si M (ly_rf 18 (ui v1)) (ui v4) 0) (v4 + 1))
set_option maxRecDepth 100000 in
theorem c_X11_sheet (G : Gm) (M : Mm) (v1 : Int32) (v2 : Int32) (v3 : Int32) : Ct fJ G miX11_sheet (2) [.ref (ga G 0), .int v1, .int v2, .int v3] M (F_X11_sheet M v1 v2 v3) := by
  refine Ct_of (pn_X11) (Nat.le_of_ble_eq_true rfl) ?_
  refine X_lv [0, 1, 2, 3] (lv' := [(0, .ref (ga G 0)), (1, .int v1), (2, .int v2), (3, .int v3)]) rfl ?_
  unfold F_X11_sheet
  refine X_iload_n (a := 1) dX11_sheet_0 rfl rfl rfl ?_
  refine X_ruI (Ru_S (st := []) cs_X11_307 (c_X11_isSheet G M v1) (by decide) rfl rfl (Nat.le_of_ble_eq_true rfl) dX11_sheet_1) rfl (fun r1 => ?_)
  refine X_if_eq (tgt := 16) dX11_sheet_4 rfl rfl (fun e4 => ?_) (fun e4 => ?_)
  · refine X_iconst (w := (-1)) dX11_sheet_16 ki_m1 rfl ?_
    exact X_iretJ rfl dX11_sheet_17
  · refine X_iload_n (a := 2) dX11_sheet_7 rfl rfl rfl ?_
    refine X_iconst (w := (-1)) dX11_sheet_8 ki_m1 rfl ?_
    refine X_iconst (w := 4) dX11_sheet_9 ki_4 rfl ?_
    refine X_ruI (Ru_S (st := []) cs_X11_97 (c_X11_within G M v2 (-1) 4) (by decide) rfl rfl (Nat.le_of_ble_eq_true rfl) dX11_sheet_10) rfl (fun r10 => ?_)
    refine X_if_ne (tgt := 18) dX11_sheet_13 rfl rfl (fun e13 => ?_) (fun e13 => ?_)
    · refine X_iload_n (a := 2) dX11_sheet_18 rfl rfl rfl ?_
      refine X_iconst (w := (-1)) dX11_sheet_19 ki_m1 rfl ?_
      refine X_jc (P := fun j => X fJ G miX11_sheet (2) 31 [(0, .ref (ga G 0)), (1, .int v1), (2, .int v2), (3, .int v3)] [] M (j)) (?_) (fun j31 hj31 => ?_)
      · refine X_iload_n (a := 2) dX11_sheet_31 rfl rfl rfl ?_
        refine X_iconst (w := (-1)) dX11_sheet_32 ki_m1 rfl ?_
        refine X_jc (P := fun j => X fJ G miX11_sheet (2) 43 [(0, .ref (ga G 0)), (1, .int v1), (2, .int v2), (3, .int v3)] [] M (j)) (?_) (fun j43 hj43 => ?_)
        · refine X_aload_n (a := 0) dX11_sheet_43 rfl rfl rfl ?_
          refine X_getR (t := 16) fl_X11_38 rfl rfl dX11_sheet_44 rfl ?_
          refine X_iload_n (a := 1) dX11_sheet_47 rfl rfl rfl ?_
          refine X_iload_n (a := 2) dX11_sheet_48 rfl rfl rfl ?_
          refine X_iast rfl rfl dX11_sheet_49 rfl ?_
          refine X_aload_n (a := 0) dX11_sheet_50 rfl rfl rfl ?_
          refine X_getR (t := 17) fl_X11_41 rfl rfl dX11_sheet_51 rfl ?_
          refine X_iload_n (a := 1) dX11_sheet_54 rfl rfl rfl ?_
          refine X_iload_n (a := 2) dX11_sheet_55 rfl rfl rfl ?_
          refine X_iconst (w := (-1)) dX11_sheet_56 ki_m1 rfl ?_
          refine X_jc (P := fun j => ∀ (x65_0 : Int32), X fJ G miX11_sheet (2) 65 [(0, .ref (ga G 0)), (1, .int v1)] [.int x65_0, .int v1, .ref (ga G 17)] (si M 16 (ui v1) v2) (j x65_0)) (fun x65_0 => ?_) (fun j65 hj65 => ?_)
          · refine X_iast rfl rfl dX11_sheet_65 rfl ?_
            refine X_iconst (w := 0) dX11_sheet_66 ki_0 rfl ?_
            refine X_istore (lv2 := [(4, .int 0), (0, .ref (ga G 0)), (1, .int v1)]) dX11_sheet_67 (by decide) rfl rfl ?_
            exact X_lv [1, 2, 0] rfl (x_X11_sheet_L69 G v1 1000 (si (si M 16 (ui v1) v2) 17 (ui v1) x65_0) 0)
          refine X_icmp_ne (tgt := 64) dX11_sheet_57 rfl rfl (fun e57 => ?_) (fun e57 => ?_)
          · refine X_iload_n (a := 3) dX11_sheet_64 rfl rfl rfl ?_
            exact X_lv [0, 1] rfl (hj65 v3)
          · refine X_iconst (w := 0) dX11_sheet_60 ki_0 rfl ?_
            refine X_goto (tgt := 65) dX11_sheet_61 rfl ?_
            exact X_lv [0, 1] rfl (hj65 0)
        refine X_icmp_eq (tgt := 43) dX11_sheet_33 rfl rfl (fun e33 => ?_) (fun e33 => ?_)
        · exact X_lv [0, 1, 2, 3] rfl (hj43)
        · refine X_iload_n (a := 3) dX11_sheet_36 rfl rfl rfl ?_
          refine X_if_ge (tgt := 43) dX11_sheet_37 rfl rfl (fun e37 => ?_) (fun e37 => ?_)
          · exact X_lv [0, 1, 2, 3] rfl (hj43)
          · refine X_bipush (w := (-14)) dX11_sheet_40 kb_m14 rfl ?_
            exact X_iretJ rfl dX11_sheet_42
      refine X_icmp_eq (tgt := 31) dX11_sheet_20 rfl rfl (fun e20 => ?_) (fun e20 => ?_)
      · exact X_lv [0, 1, 2, 3] rfl (hj31)
      · refine X_iload_n (a := 3) dX11_sheet_23 rfl rfl rfl ?_
        refine X_bipush (w := 40) dX11_sheet_24 kb_40 rfl ?_
        refine X_icmp_le (tgt := 31) dX11_sheet_26 rfl rfl (fun e26 => ?_) (fun e26 => ?_)
        · exact X_lv [0, 1, 2, 3] rfl (hj31)
        · refine X_iconst (w := (-1)) dX11_sheet_29 ki_m1 rfl ?_
          exact X_iretJ rfl dX11_sheet_30
    · refine X_iconst (w := (-1)) dX11_sheet_16 ki_m1 rfl ?_
      exact X_iretJ rfl dX11_sheet_17
set_option maxRecDepth 100000 in
theorem c_X11_narrowed (G : Gm) (M : Mm) (v0 : Int32) (v1 : Int32) : Ct (fI M) G miX11_narrowed (0) [.int v0, .int v1] M (F_X11_narrowed v0 v1) := by
  refine Ct_of (pn_X11) (Nat.le_of_ble_eq_true rfl) ?_
  refine X_lv [0, 1] (lv' := [(0, .int v0), (1, .int v1)]) rfl ?_
  unfold F_X11_narrowed
  refine X_iload_n (a := 1) dX11_narrowed_0 rfl rfl rfl ?_
  refine X_if (fun e1_0 => ?_) (fun e1_0 => ?_)
  · refine X_tsIn (tgt := 36) dX11_narrowed_1 (by rw [e1_0]; decide) (by rw [e1_0]; decide) (by rw [e1_0]; rfl) rfl ?_
    refine X_iload_n (a := 0) dX11_narrowed_36 rfl rfl rfl ?_
    refine X_i2b dX11_narrowed_37 rfl rfl ?_
    exact X_iretI rfl dX11_narrowed_38
  · skip
    refine X_if (fun e1_1 => ?_) (fun e1_1 => ?_)
    · refine X_tsIn (tgt := 39) dX11_narrowed_1 (by rw [e1_1]; decide) (by rw [e1_1]; decide) (by rw [e1_1]; rfl) rfl ?_
      refine X_iload_n (a := 0) dX11_narrowed_39 rfl rfl rfl ?_
      refine X_i2s dX11_narrowed_40 rfl rfl ?_
      exact X_iretI rfl dX11_narrowed_41
    · skip
      refine X_if (fun e1_2 => ?_) (fun e1_2 => ?_)
      · refine X_tsIn (tgt := 52) dX11_narrowed_1 (by rw [e1_2]; decide) (by rw [e1_2]; decide) (by rw [e1_2]; rfl) rfl ?_
        refine X_iload_n (a := 0) dX11_narrowed_52 rfl rfl rfl ?_
        exact X_iretI rfl dX11_narrowed_53
      · skip
        refine X_if (fun e1_3 => ?_) (fun e1_3 => ?_)
        · refine X_tsIn (tgt := 52) dX11_narrowed_1 (by rw [e1_3]; decide) (by rw [e1_3]; decide) (by rw [e1_3]; rfl) rfl ?_
          refine X_iload_n (a := 0) dX11_narrowed_52 rfl rfl rfl ?_
          exact X_iretI rfl dX11_narrowed_53
        · skip
          refine X_if (fun e1_4 => ?_) (fun e1_4 => ?_)
          · refine X_tsIn (tgt := 42) dX11_narrowed_1 (by rw [e1_4]; decide) (by rw [e1_4]; decide) (by rw [e1_4]; rfl) rfl ?_
            refine X_iload_n (a := 0) dX11_narrowed_42 rfl rfl rfl ?_
            refine X_if_eq (tgt := 50) dX11_narrowed_43 rfl rfl (fun e43 => ?_) (fun e43 => ?_)
            · refine X_iconst (w := 0) dX11_narrowed_50 ki_0 rfl ?_
              exact X_iretI rfl dX11_narrowed_51
            · refine X_iconst (w := 1) dX11_narrowed_46 ki_1 rfl ?_
              refine X_goto (tgt := 51) dX11_narrowed_47 rfl ?_
              exact X_iretI rfl dX11_narrowed_51
          · skip
            refine X_tsOut (tgt := 52) dX11_narrowed_1 (by have ne1_0 := ne_toInt e1_0 (n := 0) (by decide); have ne1_1 := ne_toInt e1_1 (n := 1) (by decide); have ne1_2 := ne_toInt e1_2 (n := 2) (by decide); have ne1_3 := ne_toInt e1_3 (n := 3) (by decide); have ne1_4 := ne_toInt e1_4 (n := 4) (by decide); omega) rfl ?_
            refine X_iload_n (a := 0) dX11_narrowed_52 rfl rfl rfl ?_
            exact X_iretI rfl dX11_narrowed_53
set_option maxRecDepth 100000 in
theorem c_X11_write (G : Gm) (M : Mm) (v1 : Int32) (v2 : Int32) (v3 : Int32) : Ct fJ G miX11_write (2) [.ref (ga G 0), .int v1, .int v2, .int v3] M (F_X11_write M v1 v2 v3) := by
  refine Ct_of (pn_X11) (Nat.le_of_ble_eq_true rfl) ?_
  refine X_lv [0, 1, 2, 3] (lv' := [(0, .ref (ga G 0)), (1, .int v1), (2, .int v2), (3, .int v3)]) rfl ?_
  unfold F_X11_write
  refine X_iload_n (a := 1) dX11_write_0 rfl rfl rfl ?_
  refine X_ruI (Ru_S (st := []) cs_X11_307 (c_X11_isSheet G M v1) (by decide) rfl rfl (Nat.le_of_ble_eq_true rfl) dX11_write_1) rfl (fun r1 => ?_)
  refine X_if_ne (tgt := 9) dX11_write_4 rfl rfl (fun e4 => ?_) (fun e4 => ?_)
  · refine X_aload_n (a := 0) dX11_write_9 rfl rfl rfl ?_
    refine X_getR (t := 16) fl_X11_38 rfl rfl dX11_write_10 rfl ?_
    refine X_iload_n (a := 1) dX11_write_13 rfl rfl rfl ?_
    refine X_iald rfl rfl dX11_write_14 rfl ?_
    refine X_iconst (w := (-1)) dX11_write_15 ki_m1 rfl ?_
    refine X_icmp_ne (tgt := 22) dX11_write_16 rfl rfl (fun e16 => ?_) (fun e16 => ?_)
    · refine X_iload_n (a := 2) dX11_write_22 rfl rfl rfl ?_
      refine X_iconst (w := 0) dX11_write_23 ki_0 rfl ?_
      refine X_aload_n (a := 0) dX11_write_24 rfl rfl rfl ?_
      refine X_getR (t := 17) fl_X11_41 rfl rfl dX11_write_25 rfl ?_
      refine X_iload_n (a := 1) dX11_write_28 rfl rfl rfl ?_
      refine X_iald rfl rfl dX11_write_29 rfl ?_
      refine X_iconst (w := 1) dX11_write_30 ki_1 rfl ?_
      refine X_isub dX11_write_31 rfl ?_
      refine X_ruI (Ru_S (st := []) cs_X11_97 (c_X11_within G M v2 0 ((gi M 17 (ui v1)) - 1)) (by decide) rfl rfl (Nat.le_of_ble_eq_true rfl) dX11_write_32) rfl (fun r32 => ?_)
      refine X_if_ne (tgt := 41) dX11_write_35 rfl rfl (fun e35 => ?_) (fun e35 => ?_)
      · refine X_aload_n (a := 0) dX11_write_41 rfl rfl rfl ?_
        refine X_getR (t := 18) fl_X11_46 rfl rfl dX11_write_42 rfl ?_
        refine X_iload_n (a := 1) dX11_write_45 rfl rfl rfl ?_
        refine X_aald (t := 24) rfl (by decide) rfl dX11_write_46 rfl (fun h46 => ?_)
        refine X_iload_n (a := 2) dX11_write_47 rfl rfl rfl ?_
        refine X_iload_n (a := 3) dX11_write_48 rfl rfl rfl ?_
        refine X_aload_n (a := 0) dX11_write_49 rfl rfl rfl ?_
        refine X_getR (t := 16) fl_X11_38 rfl rfl dX11_write_50 rfl ?_
        refine X_iload_n (a := 1) dX11_write_53 rfl rfl rfl ?_
        refine X_iald rfl rfl dX11_write_54 rfl ?_
        refine X_ruI (Ru_S (st := [.int v2, .ref (ga G (ly_rf 18 (ui v1)))]) cs_X11_310 (c_X11_narrowed G M v3 (gi M 16 (ui v1))) (by decide) rfl rfl (Nat.le_of_ble_eq_true rfl) dX11_write_55) rfl (fun r55 => ?_)
        refine X_iast (ty_items h46) (ln_items h46) dX11_write_58 rfl ?_
        refine X_iconst (w := 1) dX11_write_59 ki_1 rfl ?_
        exact X_iretJ rfl dX11_write_60
      · refine X_bipush (w := (-12)) dX11_write_38 kb_m12 rfl ?_
        exact X_iretJ rfl dX11_write_40
    · refine X_bipush (w := (-11)) dX11_write_19 kb_m11 rfl ?_
      exact X_iretJ rfl dX11_write_21
  · refine X_iconst (w := (-1)) dX11_write_7 ki_m1 rfl ?_
    exact X_iretJ rfl dX11_write_8
set_option maxRecDepth 100000 in
theorem c_X11_refusalAs (G : Gm) (M : Mm) (v1 : Int32) (v2 : Int32) : Ct (fI M) G miX11_refusalAs (0) [.ref (ga G 0), .int v1, .int v2] M (F_X11_refusalAs M v1 v2) := by
  refine Ct_of (pn_X11) (Nat.le_of_ble_eq_true rfl) ?_
  refine X_lv [0, 1, 2] (lv' := [(0, .ref (ga G 0)), (1, .int v1), (2, .int v2)]) rfl ?_
  unfold F_X11_refusalAs
  refine X_aload_n (a := 0) dX11_refusalAs_0 rfl rfl rfl ?_
  refine X_getR (t := 16) fl_X11_38 rfl rfl dX11_refusalAs_1 rfl ?_
  refine X_iload_n (a := 1) dX11_refusalAs_4 rfl rfl rfl ?_
  refine X_iald rfl rfl dX11_refusalAs_5 rfl ?_
  refine X_iconst (w := (-1)) dX11_refusalAs_6 ki_m1 rfl ?_
  refine X_icmp_ne (tgt := 13) dX11_refusalAs_7 rfl rfl (fun e7 => ?_) (fun e7 => ?_)
  · refine X_aload_n (a := 0) dX11_refusalAs_13 rfl rfl rfl ?_
    refine X_getR (t := 16) fl_X11_38 rfl rfl dX11_refusalAs_14 rfl ?_
    refine X_iload_n (a := 1) dX11_refusalAs_17 rfl rfl rfl ?_
    refine X_iald rfl rfl dX11_refusalAs_18 rfl ?_
    refine X_iload_n (a := 2) dX11_refusalAs_19 rfl rfl rfl ?_
    refine X_icmp_ne (tgt := 27) dX11_refusalAs_20 rfl rfl (fun e20 => ?_) (fun e20 => ?_)
    · refine X_bipush (w := (-13)) dX11_refusalAs_27 kb_m13 rfl ?_
      exact X_iretI rfl dX11_refusalAs_29
    · refine X_iconst (w := 0) dX11_refusalAs_23 ki_0 rfl ?_
      refine X_goto (tgt := 29) dX11_refusalAs_24 rfl ?_
      exact X_iretI rfl dX11_refusalAs_29
  · refine X_bipush (w := (-11)) dX11_refusalAs_10 kb_m11 rfl ?_
    exact X_iretI rfl dX11_refusalAs_12
set_option maxRecDepth 100000 in
theorem c_X11_item (G : Gm) (M : Mm) (v1 : Int32) (v2 : Int32) (v3 : Int32) : Ct (fI M) G miX11_item (2) [.ref (ga G 0), .int v1, .int v2, .int v3] M (F_X11_item M v1 v2 v3) := by
  refine Ct_of (pn_X11) (Nat.le_of_ble_eq_true rfl) ?_
  refine X_lv [0, 1, 2, 3] (lv' := [(0, .ref (ga G 0)), (1, .int v1), (2, .int v2), (3, .int v3)]) rfl ?_
  unfold F_X11_item
  refine X_iload_n (a := 1) dX11_item_0 rfl rfl rfl ?_
  refine X_ruI (Ru_S (st := []) cs_X11_307 (c_X11_isSheet G M v1) (by decide) rfl rfl (Nat.le_of_ble_eq_true rfl) dX11_item_1) rfl (fun r1 => ?_)
  refine X_if_eq (tgt := 16) dX11_item_4 rfl rfl (fun e4 => ?_) (fun e4 => ?_)
  · refine X_iconst (w := (-1)) dX11_item_16 ki_m1 rfl ?_
    exact X_iretI rfl dX11_item_17
  · refine X_iload_n (a := 2) dX11_item_7 rfl rfl rfl ?_
    refine X_iconst (w := 0) dX11_item_8 ki_0 rfl ?_
    refine X_iconst (w := 4) dX11_item_9 ki_4 rfl ?_
    refine X_ruI (Ru_S (st := []) cs_X11_97 (c_X11_within G M v2 0 4) (by decide) rfl rfl (Nat.le_of_ble_eq_true rfl) dX11_item_10) rfl (fun r10 => ?_)
    refine X_if_ne (tgt := 18) dX11_item_13 rfl rfl (fun e13 => ?_) (fun e13 => ?_)
    · refine X_aload_n (a := 0) dX11_item_18 rfl rfl rfl ?_
      refine X_iload_n (a := 1) dX11_item_19 rfl rfl rfl ?_
      refine X_iload_n (a := 2) dX11_item_20 rfl rfl rfl ?_
      refine X_ruI (Ru_V (st := []) cv_X11_313 rfl (c_X11_refusalAs G M v1 v2) (by decide) rfl rfl (Nat.le_of_ble_eq_true rfl) dX11_item_21) rfl (fun r21 => ?_)
      refine X_istore (lv2 := [(4, .int r21), (0, .ref (ga G 0)), (1, .int v1), (2, .int v2), (3, .int v3)]) dX11_item_24 (by decide) rfl rfl ?_
      refine X_iload (a := 0) dX11_item_26 rfl rfl ?_
      refine X_if_eq (tgt := 34) dX11_item_28 rfl rfl (fun e28 => ?_) (fun e28 => ?_)
      · refine X_iload_n (a := 4) dX11_item_34 rfl rfl rfl ?_
        refine X_iconst (w := 0) dX11_item_35 ki_0 rfl ?_
        refine X_aload_n (a := 1) dX11_item_36 rfl rfl rfl ?_
        refine X_getR (t := 17) fl_X11_41 rfl rfl dX11_item_37 rfl ?_
        refine X_iload_n (a := 2) dX11_item_40 rfl rfl rfl ?_
        refine X_iald rfl rfl dX11_item_41 rfl ?_
        refine X_iconst (w := 1) dX11_item_42 ki_1 rfl ?_
        refine X_isub dX11_item_43 rfl ?_
        refine X_ruI (Ru_S (st := []) cs_X11_97 (c_X11_within G M v3 0 ((gi M 17 (ui v1)) - 1)) (by decide) rfl rfl (Nat.le_of_ble_eq_true rfl) dX11_item_44) rfl (fun r44 => ?_)
        refine X_if_eq (tgt := 61) dX11_item_47 rfl rfl (fun e47 => ?_) (fun e47 => ?_)
        · refine X_bipush (w := (-12)) dX11_item_61 kb_m12 rfl ?_
          exact X_iretI rfl dX11_item_63
        · refine X_aload_n (a := 1) dX11_item_50 rfl rfl rfl ?_
          refine X_getR (t := 18) fl_X11_46 rfl rfl dX11_item_51 rfl ?_
          refine X_iload_n (a := 2) dX11_item_54 rfl rfl rfl ?_
          refine X_aald (t := 24) rfl (by decide) rfl dX11_item_55 rfl (fun h55 => ?_)
          refine X_iload_n (a := 4) dX11_item_56 rfl rfl rfl ?_
          refine X_iald (ty_items h55) (ln_items h55) dX11_item_57 rfl ?_
          refine X_goto (tgt := 63) dX11_item_58 rfl ?_
          exact X_iretI rfl dX11_item_63
      · refine X_iload (a := 0) dX11_item_31 rfl rfl ?_
        exact X_iretI rfl dX11_item_33
    · refine X_iconst (w := (-1)) dX11_item_16 ki_m1 rfl ?_
      exact X_iretI rfl dX11_item_17
set_option maxRecDepth 100000 in
theorem x_X11_goAll_L41 (G : Gm) (v1 : Int32) (v2 : Int32) (v3 : Int32) : ∀ (n : Nat) (M : Mm) (v5 : Int32) (v6 : Int32), X fJ G miX11_goAll (6) 41 [(0, .ref (ga G 0)), (1, .int v1), (2, .int v2), (3, .int v3), (5, .int v5), (6, .int v6)] [] M (F_X11_goAll_L41 v1 v2 v3 n M v5 v6) := by
  intro n
  induction n with
  | zero => intro M v5 v6; exact X_none
  | succ n ih =>
    intro M v5 v6
    rw [F_X11_goAll_L41]
    refine X_iload (a := 5) dX11_goAll_41 rfl rfl ?_
    refine X_iload_n (a := 3) dX11_goAll_43 rfl rfl rfl ?_
    refine X_icmp_ge (tgt := 125) dX11_goAll_44 rfl rfl (fun e44 => ?_) (fun e44 => ?_)
    · refine X_iload (a := 4) dX11_goAll_125 rfl rfl ?_
      exact X_iretJ rfl dX11_goAll_127
    · refine X_iload_n (a := 2) dX11_goAll_47 rfl rfl rfl ?_
      refine X_iload (a := 5) dX11_goAll_48 rfl rfl ?_
      refine X_iadd dX11_goAll_50 rfl ?_
      refine X_iconst (w := 0) dX11_goAll_51 ki_0 rfl ?_
      refine X_aload_n (a := 0) dX11_goAll_52 rfl rfl rfl ?_
      refine X_getR (t := 17) fl_X11_41 rfl rfl dX11_goAll_53 rfl ?_
      refine X_iload_n (a := 1) dX11_goAll_56 rfl rfl rfl ?_
      refine X_iald rfl rfl dX11_goAll_57 rfl ?_
      refine X_iconst (w := 1) dX11_goAll_58 ki_1 rfl ?_
      refine X_isub dX11_goAll_59 rfl ?_
      refine X_ruI (Ru_S (st := []) cs_X11_97 (c_X11_within G M (v2 + v6) 0 ((gi M 17 (ui v1)) - 1)) (by decide) rfl rfl (Nat.le_of_ble_eq_true rfl) dX11_goAll_60) rfl (fun r60 => ?_)
      refine X_if_ne (tgt := 69) dX11_goAll_63 rfl rfl (fun e63 => ?_) (fun e63 => ?_)
      · refine X_aload_n (a := 0) dX11_goAll_69 rfl rfl rfl ?_
        refine X_getR (t := 18) fl_X11_46 rfl rfl dX11_goAll_70 rfl ?_
        refine X_iload_n (a := 1) dX11_goAll_73 rfl rfl rfl ?_
        refine X_aald (t := 24) rfl (by decide) rfl dX11_goAll_74 rfl (fun h74 => ?_)
        refine X_iload_n (a := 2) dX11_goAll_75 rfl rfl rfl ?_
        refine X_iload (a := 5) dX11_goAll_76 rfl rfl ?_
        refine X_iadd dX11_goAll_78 rfl ?_
        refine X_iald (ty_items h74) (ln_items h74) dX11_goAll_79 rfl ?_
        refine X_istore (lv2 := [(7, .int (gi M (ly_rf 18 (ui v1)) (ui (v2 + v6)))), (0, .ref (ga G 0)), (1, .int v1), (2, .int v2), (3, .int v3), (5, .int v5), (6, .int v6)]) dX11_goAll_80 (by decide) rfl rfl ?_
        refine X_aload_n (a := 1) dX11_goAll_82 rfl rfl rfl ?_
        refine X_iload (a := 0) dX11_goAll_83 rfl rfl ?_
        refine X_ruI (Ru_V (st := []) cv_X11_304 rfl (c_X11_isAct G M (gi M (ly_rf 18 (ui v1)) (ui (v2 + v6)))) (by decide) rfl rfl (Nat.le_of_ble_eq_true rfl) dX11_goAll_85) rfl (fun r85 => ?_)
        refine X_jc (P := fun j => ∀ (v5 : Int32) (M : Mm), X fJ G miX11_goAll (6) 119 [(0, .ref (ga G 0)), (1, .int v1), (2, .int v2), (3, .int v3), (5, .int v5), (6, .int v6)] [] M (j v5 M)) (fun v5 M => ?_) (fun j119 hj119 => ?_)
        · refine X_iinc (a := 5) (lv2 := [(6, .int (v6 + 1)), (0, .ref (ga G 0)), (1, .int v1), (2, .int v2), (3, .int v3), (5, .int v5)]) dX11_goAll_119 rfl (ii_1 _) (by decide) rfl rfl ?_
          refine X_goto (tgt := 41) dX11_goAll_122 rfl ?_
          exact X_lv [1, 2, 3, 4, 5, 0] rfl (ih M v5 (v6 + 1))
        refine X_if_eq (tgt := 119) dX11_goAll_88 rfl rfl (fun e88 => ?_) (fun e88 => ?_)
        · exact X_lv [1, 2, 3, 4, 5, 6] rfl (hj119 v5 M)
        · refine X_aload_n (a := 1) dX11_goAll_91 rfl rfl rfl ?_
          refine X_getR (t := 33) fl_X11_81 rfl rfl dX11_goAll_92 rfl ?_
          refine X_aload_n (a := 1) dX11_goAll_95 rfl rfl rfl ?_
          refine X_getR (t := 33) fl_X11_81 rfl rfl dX11_goAll_96 rfl ?_
          refine X_getR (t := 39) fl_X11_111 rfl rfl dX11_goAll_99 rfl ?_
          refine X_ruI (Ru_V (st := []) cv_X11_170 rfl (c_X10_isOver G M 39 rfl) (by decide) rfl rfl (Nat.le_of_ble_eq_true rfl) dX11_goAll_102) rfl (fun r102 => ?_)
          refine X_if_ne (tgt := 119) dX11_goAll_105 rfl rfl (fun e105 => ?_) (fun e105 => ?_)
          · exact X_lv [1, 2, 3, 4, 5, 6] rfl (hj119 v5 M)
          · refine X_iload (a := 5) dX11_goAll_108 rfl rfl ?_
            refine X_aload_n (a := 1) dX11_goAll_110 rfl rfl rfl ?_
            refine X_iload (a := 0) dX11_goAll_111 rfl rfl ?_
            refine X_ruJ (Ru_V (st := [.int v5]) cv_X11_200 rfl (c_X11_goBy G M (gi M (ly_rf 18 (ui v1)) (ui (v2 + v6)))) (by decide) rfl rfl (Nat.le_of_ble_eq_true rfl) dX11_goAll_113) rfl (fun r113 => ?_)
            refine X_iadd dX11_goAll_116 rfl ?_
            refine X_istore (lv2 := [(5, .int (v5 + r113.1)), (7, .int (gi M (ly_rf 18 (ui v1)) (ui (v2 + v6)))), (0, .ref (ga G 0)), (1, .int v1), (2, .int v2), (3, .int v3), (6, .int v6)]) dX11_goAll_117 (by decide) rfl rfl ?_
            exact X_lv [2, 3, 4, 5, 0, 6] rfl (hj119 (v5 + r113.1) r113.2)
      · refine X_bipush (w := (-12)) dX11_goAll_66 kb_m12 rfl ?_
        exact X_iretJ rfl dX11_goAll_68
set_option maxRecDepth 100000 in
theorem c_X11_goAll (G : Gm) (M : Mm) (v1 : Int32) (v2 : Int32) (v3 : Int32) : Ct fJ G miX11_goAll (6) [.ref (ga G 0), .int v1, .int v2, .int v3] M (F_X11_goAll M v1 v2 v3) := by
  refine Ct_of (pn_X11) (Nat.le_of_ble_eq_true rfl) ?_
  refine X_lv [0, 1, 2, 3] (lv' := [(0, .ref (ga G 0)), (1, .int v1), (2, .int v2), (3, .int v3)]) rfl ?_
  unfold F_X11_goAll
  refine X_iload_n (a := 1) dX11_goAll_0 rfl rfl rfl ?_
  refine X_ruI (Ru_S (st := []) cs_X11_307 (c_X11_isSheet G M v1) (by decide) rfl rfl (Nat.le_of_ble_eq_true rfl) dX11_goAll_1) rfl (fun r1 => ?_)
  refine X_if_eq (tgt := 17) dX11_goAll_4 rfl rfl (fun e4 => ?_) (fun e4 => ?_)
  · refine X_iconst (w := (-1)) dX11_goAll_17 ki_m1 rfl ?_
    exact X_iretJ rfl dX11_goAll_18
  · refine X_iload_n (a := 3) dX11_goAll_7 rfl rfl rfl ?_
    refine X_iconst (w := 0) dX11_goAll_8 ki_0 rfl ?_
    refine X_bipush (w := 20) dX11_goAll_9 kb_20 rfl ?_
    refine X_ruI (Ru_S (st := []) cs_X11_97 (c_X11_within G M v3 0 20) (by decide) rfl rfl (Nat.le_of_ble_eq_true rfl) dX11_goAll_11) rfl (fun r11 => ?_)
    refine X_if_ne (tgt := 19) dX11_goAll_14 rfl rfl (fun e14 => ?_) (fun e14 => ?_)
    · refine X_aload_n (a := 0) dX11_goAll_19 rfl rfl rfl ?_
      refine X_iload_n (a := 1) dX11_goAll_20 rfl rfl rfl ?_
      refine X_iconst (w := 0) dX11_goAll_21 ki_0 rfl ?_
      refine X_ruI (Ru_V (st := []) cv_X11_313 rfl (c_X11_refusalAs G M v1 0) (by decide) rfl rfl (Nat.le_of_ble_eq_true rfl) dX11_goAll_22) rfl (fun r22 => ?_)
      refine X_istore (lv2 := [(4, .int r22), (0, .ref (ga G 0)), (1, .int v1), (2, .int v2), (3, .int v3)]) dX11_goAll_25 (by decide) rfl rfl ?_
      refine X_iload (a := 0) dX11_goAll_27 rfl rfl ?_
      refine X_if_eq (tgt := 35) dX11_goAll_29 rfl rfl (fun e29 => ?_) (fun e29 => ?_)
      · refine X_iconst (w := 0) dX11_goAll_35 ki_0 rfl ?_
        refine X_istore (lv2 := [(5, .int 0), (4, .int r22), (0, .ref (ga G 0)), (1, .int v1), (2, .int v2), (3, .int v3)]) dX11_goAll_36 (by decide) rfl rfl ?_
        refine X_iconst (w := 0) dX11_goAll_38 ki_0 rfl ?_
        refine X_istore (lv2 := [(6, .int 0), (5, .int 0), (4, .int r22), (0, .ref (ga G 0)), (1, .int v1), (2, .int v2), (3, .int v3)]) dX11_goAll_39 (by decide) rfl rfl ?_
        exact X_lv [3, 4, 5, 6, 1, 0] rfl (x_X11_goAll_L41 G v1 v2 v3 1000 M 0 0)
      · refine X_iload (a := 0) dX11_goAll_32 rfl rfl ?_
        exact X_iretJ rfl dX11_goAll_34
    · refine X_iconst (w := (-1)) dX11_goAll_17 ki_m1 rfl ?_
      exact X_iretJ rfl dX11_goAll_18
set_option maxRecDepth 100000 in
theorem x_X11_wouldBe_L55 (G : Gm) (v1 : Int32) (v2 : Int32) (v3 : Int32) : ∀ (n : Nat) (M : Mm) (v5 : Int32) (v6 : Int32), X fJ G miX11_wouldBe (5) 55 [(0, .ref (ga G 0)), (1, .int v1), (2, .int v2), (3, .int v3), (5, .int v5), (6, .int v6)] [] M (F_X11_wouldBe_L55 v1 v2 v3 n M v5 v6) := by
  intro n
  induction n with
  | zero => intro M v5 v6; exact X_none
  | succ n ih =>
    intro M v5 v6
    rw [F_X11_wouldBe_L55]
    refine X_iload (a := 5) dX11_wouldBe_55 rfl rfl ?_
    refine X_iload_n (a := 3) dX11_wouldBe_57 rfl rfl rfl ?_
    refine X_icmp_ge (tgt := 146) dX11_wouldBe_58 rfl rfl (fun e58 => ?_) (fun e58 => ?_)
    · refine X_iload (a := 4) dX11_wouldBe_146 rfl rfl ?_
      exact X_iretJ rfl dX11_wouldBe_148
    · refine X_iload_n (a := 2) dX11_wouldBe_61 rfl rfl rfl ?_
      refine X_iload (a := 5) dX11_wouldBe_62 rfl rfl ?_
      refine X_iadd dX11_wouldBe_64 rfl ?_
      refine X_iconst (w := 0) dX11_wouldBe_65 ki_0 rfl ?_
      refine X_aload_n (a := 0) dX11_wouldBe_66 rfl rfl rfl ?_
      refine X_getR (t := 17) fl_X11_41 rfl rfl dX11_wouldBe_67 rfl ?_
      refine X_iload_n (a := 1) dX11_wouldBe_70 rfl rfl rfl ?_
      refine X_iald rfl rfl dX11_wouldBe_71 rfl ?_
      refine X_iconst (w := 1) dX11_wouldBe_72 ki_1 rfl ?_
      refine X_isub dX11_wouldBe_73 rfl ?_
      refine X_ruI (Ru_S (st := []) cs_X11_97 (c_X11_within G M (v2 + v6) 0 ((gi M 17 (ui v1)) - 1)) (by decide) rfl rfl (Nat.le_of_ble_eq_true rfl) dX11_wouldBe_74) rfl (fun r74 => ?_)
      refine X_if_ne (tgt := 83) dX11_wouldBe_77 rfl rfl (fun e77 => ?_) (fun e77 => ?_)
      · refine X_aload_n (a := 0) dX11_wouldBe_83 rfl rfl rfl ?_
        refine X_getR (t := 18) fl_X11_46 rfl rfl dX11_wouldBe_84 rfl ?_
        refine X_iload_n (a := 1) dX11_wouldBe_87 rfl rfl rfl ?_
        refine X_aald (t := 24) rfl (by decide) rfl dX11_wouldBe_88 rfl (fun h88 => ?_)
        refine X_iload_n (a := 2) dX11_wouldBe_89 rfl rfl rfl ?_
        refine X_iload (a := 5) dX11_wouldBe_90 rfl rfl ?_
        refine X_iadd dX11_wouldBe_92 rfl ?_
        refine X_iald (ty_items h88) (ln_items h88) dX11_wouldBe_93 rfl ?_
        refine X_istore (lv2 := [(7, .int (gi M (ly_rf 18 (ui v1)) (ui (v2 + v6)))), (0, .ref (ga G 0)), (1, .int v1), (2, .int v2), (3, .int v3), (5, .int v5), (6, .int v6)]) dX11_wouldBe_94 (by decide) rfl rfl ?_
        refine X_aload_n (a := 1) dX11_wouldBe_96 rfl rfl rfl ?_
        refine X_iload (a := 0) dX11_wouldBe_97 rfl rfl ?_
        refine X_ruI (Ru_V (st := []) cv_X11_304 rfl (c_X11_isAct G M (gi M (ly_rf 18 (ui v1)) (ui (v2 + v6)))) (by decide) rfl rfl (Nat.le_of_ble_eq_true rfl) dX11_wouldBe_99) rfl (fun r99 => ?_)
        refine X_if_eq (tgt := 119) dX11_wouldBe_102 rfl rfl (fun e102 => ?_) (fun e102 => ?_)
        · refine X_bipush (w := (-4)) dX11_wouldBe_119 kb_m4 rfl ?_
          exact X_iretJ rfl dX11_wouldBe_121
        · refine X_aload_n (a := 1) dX11_wouldBe_105 rfl rfl rfl ?_
          refine X_getR (t := 33) fl_X11_81 rfl rfl dX11_wouldBe_106 rfl ?_
          refine X_aload_n (a := 1) dX11_wouldBe_109 rfl rfl rfl ?_
          refine X_getR (t := 1) fl_X11_10 rfl rfl dX11_wouldBe_110 rfl ?_
          refine X_ruI (Ru_V (st := []) cv_X11_170 rfl (c_X10_isOver G M 1 rfl) (by decide) rfl rfl (Nat.le_of_ble_eq_true rfl) dX11_wouldBe_113) rfl (fun r113 => ?_)
          refine X_if_eq (tgt := 122) dX11_wouldBe_116 rfl rfl (fun e116 => ?_) (fun e116 => ?_)
          · refine X_iload (a := 5) dX11_wouldBe_122 rfl rfl ?_
            refine X_aload_n (a := 1) dX11_wouldBe_124 rfl rfl rfl ?_
            refine X_getR (t := 33) fl_X11_81 rfl rfl dX11_wouldBe_125 rfl ?_
            refine X_aload_n (a := 1) dX11_wouldBe_128 rfl rfl rfl ?_
            refine X_getR (t := 1) fl_X11_10 rfl rfl dX11_wouldBe_129 rfl ?_
            refine X_iload (a := 0) dX11_wouldBe_132 rfl rfl ?_
            refine X_ruJ (Ru_V (st := [.int v5]) cv_X11_212 rfl (c_X10_pass G M 1 (gi M (ly_rf 18 (ui v1)) (ui (v2 + v6))) rfl) (by decide) rfl rfl (Nat.le_of_ble_eq_true rfl) dX11_wouldBe_134) rfl (fun r134 => ?_)
            refine X_iadd dX11_wouldBe_137 rfl ?_
            refine X_istore (lv2 := [(5, .int (v5 + r134.1)), (7, .int (gi M (ly_rf 18 (ui v1)) (ui (v2 + v6)))), (0, .ref (ga G 0)), (1, .int v1), (2, .int v2), (3, .int v3), (6, .int v6)]) dX11_wouldBe_138 (by decide) rfl rfl ?_
            refine X_iinc (a := 6) (lv2 := [(6, .int (v6 + 1)), (5, .int (v5 + r134.1)), (7, .int (gi M (ly_rf 18 (ui v1)) (ui (v2 + v6)))), (0, .ref (ga G 0)), (1, .int v1), (2, .int v2), (3, .int v3)]) dX11_wouldBe_140 rfl (ii_1 _) (by decide) rfl rfl ?_
            refine X_goto (tgt := 55) dX11_wouldBe_143 rfl ?_
            exact X_lv [3, 4, 5, 6, 1, 0] rfl (ih r134.2 (v5 + r134.1) (v6 + 1))
          · refine X_bipush (w := (-4)) dX11_wouldBe_119 kb_m4 rfl ?_
            exact X_iretJ rfl dX11_wouldBe_121
      · refine X_bipush (w := (-12)) dX11_wouldBe_80 kb_m12 rfl ?_
        exact X_iretJ rfl dX11_wouldBe_82
set_option maxRecDepth 100000 in
theorem c_X11_wouldBe (G : Gm) (M : Mm) (v1 : Int32) (v2 : Int32) (v3 : Int32) : Ct fJ G miX11_wouldBe (5) [.ref (ga G 0), .int v1, .int v2, .int v3] M (F_X11_wouldBe M v1 v2 v3) := by
  refine Ct_of (pn_X11) (Nat.le_of_ble_eq_true rfl) ?_
  refine X_lv [0, 1, 2, 3] (lv' := [(0, .ref (ga G 0)), (1, .int v1), (2, .int v2), (3, .int v3)]) rfl ?_
  unfold F_X11_wouldBe
  refine X_iload_n (a := 1) dX11_wouldBe_0 rfl rfl rfl ?_
  refine X_ruI (Ru_S (st := []) cs_X11_307 (c_X11_isSheet G M v1) (by decide) rfl rfl (Nat.le_of_ble_eq_true rfl) dX11_wouldBe_1) rfl (fun r1 => ?_)
  refine X_if_eq (tgt := 17) dX11_wouldBe_4 rfl rfl (fun e4 => ?_) (fun e4 => ?_)
  · refine X_iconst (w := (-1)) dX11_wouldBe_17 ki_m1 rfl ?_
    exact X_iretJ rfl dX11_wouldBe_18
  · refine X_iload_n (a := 3) dX11_wouldBe_7 rfl rfl rfl ?_
    refine X_iconst (w := 0) dX11_wouldBe_8 ki_0 rfl ?_
    refine X_bipush (w := 20) dX11_wouldBe_9 kb_20 rfl ?_
    refine X_ruI (Ru_S (st := []) cs_X11_97 (c_X11_within G M v3 0 20) (by decide) rfl rfl (Nat.le_of_ble_eq_true rfl) dX11_wouldBe_11) rfl (fun r11 => ?_)
    refine X_if_ne (tgt := 19) dX11_wouldBe_14 rfl rfl (fun e14 => ?_) (fun e14 => ?_)
    · refine X_aload_n (a := 0) dX11_wouldBe_19 rfl rfl rfl ?_
      refine X_iload_n (a := 1) dX11_wouldBe_20 rfl rfl rfl ?_
      refine X_iconst (w := 0) dX11_wouldBe_21 ki_0 rfl ?_
      refine X_ruI (Ru_V (st := []) cv_X11_313 rfl (c_X11_refusalAs G M v1 0) (by decide) rfl rfl (Nat.le_of_ble_eq_true rfl) dX11_wouldBe_22) rfl (fun r22 => ?_)
      refine X_istore (lv2 := [(4, .int r22), (0, .ref (ga G 0)), (1, .int v1), (2, .int v2), (3, .int v3)]) dX11_wouldBe_25 (by decide) rfl rfl ?_
      refine X_iload (a := 0) dX11_wouldBe_27 rfl rfl ?_
      refine X_if_eq (tgt := 35) dX11_wouldBe_29 rfl rfl (fun e29 => ?_) (fun e29 => ?_)
      · refine X_aload_n (a := 1) dX11_wouldBe_35 rfl rfl rfl ?_
        refine X_getR (t := 1) fl_X11_10 rfl rfl dX11_wouldBe_36 rfl ?_
        refine X_aload_n (a := 1) dX11_wouldBe_39 rfl rfl rfl ?_
        refine X_getR (t := 33) fl_X11_81 rfl rfl dX11_wouldBe_40 rfl ?_
        refine X_getR (t := 39) fl_X11_111 rfl rfl dX11_wouldBe_43 rfl ?_
        refine X_ruV (Ru_V (st := []) cv_X11_203 rfl (c_X3_take G M 1 39 rfl rfl) (by decide) rfl rfl (Nat.le_of_ble_eq_true rfl) dX11_wouldBe_46) rfl (fun r46 => ?_)
        refine X_iconst (w := 0) dX11_wouldBe_49 ki_0 rfl ?_
        refine X_istore (lv2 := [(5, .int 0), (4, .int r22), (0, .ref (ga G 0)), (1, .int v1), (2, .int v2), (3, .int v3)]) dX11_wouldBe_50 (by decide) rfl rfl ?_
        refine X_iconst (w := 0) dX11_wouldBe_52 ki_0 rfl ?_
        refine X_istore (lv2 := [(6, .int 0), (5, .int 0), (4, .int r22), (0, .ref (ga G 0)), (1, .int v1), (2, .int v2), (3, .int v3)]) dX11_wouldBe_53 (by decide) rfl rfl ?_
        exact X_lv [3, 4, 5, 6, 1, 0] rfl (x_X11_wouldBe_L55 G v1 v2 v3 1000 r46 0 0)
      · refine X_iload (a := 0) dX11_wouldBe_32 rfl rfl ?_
        exact X_iretJ rfl dX11_wouldBe_34
    · refine X_iconst (w := (-1)) dX11_wouldBe_17 ki_m1 rfl ?_
      exact X_iretJ rfl dX11_wouldBe_18
set_option maxRecDepth 100000 in
theorem c_X11_isShelf (G : Gm) (M : Mm) (v0 : Int32) : Ct (fI M) G miX11_isShelf (1) [.int v0] M (F_X11_isShelf v0) := by
  refine Ct_of (pn_X11) (Nat.le_of_ble_eq_true rfl) ?_
  refine X_lv [0] (lv' := [(0, .int v0)]) rfl ?_
  unfold F_X11_isShelf
  refine X_iload_n (a := 0) dX11_isShelf_0 rfl rfl rfl ?_
  refine X_iconst (w := 0) dX11_isShelf_1 ki_0 rfl ?_
  refine X_iconst (w := 3) dX11_isShelf_2 ki_3 rfl ?_
  refine X_ruI (Ru_S (st := []) cs_X11_97 (c_X11_within G M v0 0 3) (by decide) rfl rfl (Nat.le_of_ble_eq_true rfl) dX11_isShelf_3) rfl (fun r3 => ?_)
  exact X_zretI rfl dX11_isShelf_6
set_option maxRecDepth 100000 in
theorem c_X11_place (G : Gm) (M : Mm) (v1 : Int32) (v2 : Int32) (v3 : Int32) (v4 : Int32) : Ct fJ G miX11_place (0) [.ref (ga G 0), .int v1, .int v2, .int v3, .int v4] M (F_X11_place M v1 v2 v3 v4) := by
  refine Ct_of (pn_X11) (Nat.le_of_ble_eq_true rfl) ?_
  refine X_lv [0, 1, 2, 3, 4] (lv' := [(0, .ref (ga G 0)), (1, .int v1), (2, .int v2), (3, .int v3), (4, .int v4)]) rfl ?_
  unfold F_X11_place
  refine X_aload_n (a := 0) dX11_place_0 rfl rfl rfl ?_
  refine X_getR (t := 23) fl_X11_49 rfl rfl dX11_place_1 rfl ?_
  refine X_iload_n (a := 1) dX11_place_4 rfl rfl rfl ?_
  refine X_iload_n (a := 2) dX11_place_5 rfl rfl rfl ?_
  refine X_iast rfl rfl dX11_place_6 rfl ?_
  refine X_aload_n (a := 0) dX11_place_7 rfl rfl rfl ?_
  refine X_getR (t := 24) fl_X11_52 rfl rfl dX11_place_8 rfl ?_
  refine X_iload_n (a := 1) dX11_place_11 rfl rfl rfl ?_
  refine X_iload_n (a := 3) dX11_place_12 rfl rfl rfl ?_
  refine X_iast rfl rfl dX11_place_13 rfl ?_
  refine X_aload_n (a := 0) dX11_place_14 rfl rfl rfl ?_
  refine X_getR (t := 25) fl_X11_55 rfl rfl dX11_place_15 rfl ?_
  refine X_iload_n (a := 1) dX11_place_18 rfl rfl rfl ?_
  refine X_iload (a := 4) dX11_place_19 rfl rfl ?_
  refine X_iast rfl rfl dX11_place_21 rfl ?_
  refine X_iconst (w := 1) dX11_place_22 ki_1 rfl ?_
  exact X_iretJ rfl dX11_place_23
set_option maxRecDepth 100000 in
theorem c_X11_placeRow (G : Gm) (M : Mm) (v1 : Int32) (v2 : Int32) : Ct fJ G miX11_placeRow (1) [.ref (ga G 0), .int v1, .int v2] M (F_X11_placeRow M v1 v2) := by
  refine Ct_of (pn_X11) (Nat.le_of_ble_eq_true rfl) ?_
  refine X_lv [0, 1, 2] (lv' := [(0, .ref (ga G 0)), (1, .int v1), (2, .int v2)]) rfl ?_
  unfold F_X11_placeRow
  refine X_aload_n (a := 0) dX11_placeRow_0 rfl rfl rfl ?_
  refine X_getR (t := 16) fl_X11_38 rfl rfl dX11_placeRow_1 rfl ?_
  refine X_iload_n (a := 2) dX11_placeRow_4 rfl rfl rfl ?_
  refine X_iald rfl rfl dX11_placeRow_5 rfl ?_
  refine X_iconst (w := (-1)) dX11_placeRow_6 ki_m1 rfl ?_
  refine X_icmp_ne (tgt := 19) dX11_placeRow_7 rfl rfl (fun e7 => ?_) (fun e7 => ?_)
  · refine X_aload_n (a := 0) dX11_placeRow_19 rfl rfl rfl ?_
    refine X_iload_n (a := 1) dX11_placeRow_20 rfl rfl rfl ?_
    refine X_iconst (w := 1) dX11_placeRow_21 ki_1 rfl ?_
    refine X_aload_n (a := 0) dX11_placeRow_22 rfl rfl rfl ?_
    refine X_getR (t := 16) fl_X11_38 rfl rfl dX11_placeRow_23 rfl ?_
    refine X_iload_n (a := 2) dX11_placeRow_26 rfl rfl rfl ?_
    refine X_iald rfl rfl dX11_placeRow_27 rfl ?_
    refine X_aload_n (a := 0) dX11_placeRow_28 rfl rfl rfl ?_
    refine X_getR (t := 17) fl_X11_41 rfl rfl dX11_placeRow_29 rfl ?_
    refine X_iload_n (a := 2) dX11_placeRow_32 rfl rfl rfl ?_
    refine X_iald rfl rfl dX11_placeRow_33 rfl ?_
    refine X_ruJ (Ru_V (st := []) cv_X11_319 rfl (c_X11_place G M v1 1 (gi M 16 (ui v2)) (gi M 17 (ui v2))) (by decide) rfl rfl (Nat.le_of_ble_eq_true rfl) dX11_placeRow_34) rfl (fun r34 => ?_)
    exact X_iretJ rfl dX11_placeRow_37
  · refine X_aload_n (a := 0) dX11_placeRow_10 rfl rfl rfl ?_
    refine X_iload_n (a := 1) dX11_placeRow_11 rfl rfl rfl ?_
    refine X_iconst (w := 2) dX11_placeRow_12 ki_2 rfl ?_
    refine X_iconst (w := 0) dX11_placeRow_13 ki_0 rfl ?_
    refine X_iconst (w := 0) dX11_placeRow_14 ki_0 rfl ?_
    refine X_ruJ (Ru_V (st := []) cv_X11_319 rfl (c_X11_place G M v1 2 0 0) (by decide) rfl rfl (Nat.le_of_ble_eq_true rfl) dX11_placeRow_15) rfl (fun r15 => ?_)
    exact X_iretJ rfl dX11_placeRow_18
set_option maxRecDepth 100000 in
theorem c_X11_shelf (G : Gm) (M : Mm) (v1 : Int32) (v2 : Int32) (v3 : Int32) : Ct fJ G miX11_shelf (2) [.ref (ga G 0), .int v1, .int v2, .int v3] M (F_X11_shelf M v1 v2 v3) := by
  refine Ct_of (pn_X11) (Nat.le_of_ble_eq_true rfl) ?_
  refine X_lv [0, 1, 2, 3] (lv' := [(0, .ref (ga G 0)), (1, .int v1), (2, .int v2), (3, .int v3)]) rfl ?_
  unfold F_X11_shelf
  refine X_iload_n (a := 1) dX11_shelf_0 rfl rfl rfl ?_
  refine X_ruI (Ru_S (st := []) cs_X11_316 (c_X11_isShelf G M v1) (by decide) rfl rfl (Nat.le_of_ble_eq_true rfl) dX11_shelf_1) rfl (fun r1 => ?_)
  refine X_if_ne (tgt := 9) dX11_shelf_4 rfl rfl (fun e4 => ?_) (fun e4 => ?_)
  · refine X_iload_n (a := 2) dX11_shelf_9 rfl rfl rfl ?_
    refine X_if (fun e10_0 => ?_) (fun e10_0 => ?_)
    · refine X_tsIn (tgt := 36) dX11_shelf_10 (by rw [e10_0]; decide) (by rw [e10_0]; decide) (by rw [e10_0]; rfl) rfl ?_
      refine X_aload_n (a := 0) dX11_shelf_36 rfl rfl rfl ?_
      refine X_getR (t := 33) fl_X11_81 rfl rfl dX11_shelf_37 rfl ?_
      refine X_iload_n (a := 3) dX11_shelf_40 rfl rfl rfl ?_
      refine X_ruI (Ru_V (st := []) cv_X11_124 rfl (c_X10_has G M v3) (by decide) rfl rfl (Nat.le_of_ble_eq_true rfl) dX11_shelf_41) rfl (fun r41 => ?_)
      refine X_if_eq (tgt := 58) dX11_shelf_44 rfl rfl (fun e44 => ?_) (fun e44 => ?_)
      · refine X_iconst (w := (-1)) dX11_shelf_58 ki_m1 rfl ?_
        exact X_iretJ rfl dX11_shelf_59
      · refine X_aload_n (a := 0) dX11_shelf_47 rfl rfl rfl ?_
        refine X_iload_n (a := 1) dX11_shelf_48 rfl rfl rfl ?_
        refine X_iconst (w := 0) dX11_shelf_49 ki_0 rfl ?_
        refine X_iload_n (a := 3) dX11_shelf_50 rfl rfl rfl ?_
        refine X_iconst (w := 0) dX11_shelf_51 ki_0 rfl ?_
        refine X_ruJ (Ru_V (st := []) cv_X11_319 rfl (c_X11_place G M v1 0 v3 0) (by decide) rfl rfl (Nat.le_of_ble_eq_true rfl) dX11_shelf_52) rfl (fun r52 => ?_)
        refine X_goto (tgt := 59) dX11_shelf_55 rfl ?_
        exact X_iretJ rfl dX11_shelf_59
    · skip
      refine X_if (fun e10_1 => ?_) (fun e10_1 => ?_)
      · refine X_tsIn (tgt := 60) dX11_shelf_10 (by rw [e10_1]; decide) (by rw [e10_1]; decide) (by rw [e10_1]; rfl) rfl ?_
        refine X_iload_n (a := 3) dX11_shelf_60 rfl rfl rfl ?_
        refine X_ruI (Ru_S (st := []) cs_X11_307 (c_X11_isSheet G M v3) (by decide) rfl rfl (Nat.le_of_ble_eq_true rfl) dX11_shelf_61) rfl (fun r61 => ?_)
        refine X_if_eq (tgt := 76) dX11_shelf_64 rfl rfl (fun e64 => ?_) (fun e64 => ?_)
        · refine X_iconst (w := (-1)) dX11_shelf_76 ki_m1 rfl ?_
          exact X_iretJ rfl dX11_shelf_77
        · refine X_aload_n (a := 0) dX11_shelf_67 rfl rfl rfl ?_
          refine X_iload_n (a := 1) dX11_shelf_68 rfl rfl rfl ?_
          refine X_iload_n (a := 3) dX11_shelf_69 rfl rfl rfl ?_
          refine X_ruJ (Ru_V (st := []) cv_X11_323 rfl (c_X11_placeRow G M v1 v3) (by decide) rfl rfl (Nat.le_of_ble_eq_true rfl) dX11_shelf_70) rfl (fun r70 => ?_)
          refine X_goto (tgt := 77) dX11_shelf_73 rfl ?_
          exact X_iretJ rfl dX11_shelf_77
      · skip
        refine X_if (fun e10_2 => ?_) (fun e10_2 => ?_)
        · refine X_tsIn (tgt := 78) dX11_shelf_10 (by rw [e10_2]; decide) (by rw [e10_2]; decide) (by rw [e10_2]; rfl) rfl ?_
          refine X_aload_n (a := 0) dX11_shelf_78 rfl rfl rfl ?_
          refine X_iload_n (a := 1) dX11_shelf_79 rfl rfl rfl ?_
          refine X_iconst (w := 2) dX11_shelf_80 ki_2 rfl ?_
          refine X_iconst (w := 0) dX11_shelf_81 ki_0 rfl ?_
          refine X_iconst (w := 0) dX11_shelf_82 ki_0 rfl ?_
          refine X_ruJ (Ru_V (st := []) cv_X11_319 rfl (c_X11_place G M v1 2 0 0) (by decide) rfl rfl (Nat.le_of_ble_eq_true rfl) dX11_shelf_83) rfl (fun r83 => ?_)
          exact X_iretJ rfl dX11_shelf_86
        · skip
          refine X_tsOut (tgt := 87) dX11_shelf_10 (by have ne10_0 := ne_toInt e10_0 (n := 0) (by decide); have ne10_1 := ne_toInt e10_1 (n := 1) (by decide); have ne10_2 := ne_toInt e10_2 (n := 2) (by decide); omega) rfl ?_
          refine X_iconst (w := (-1)) dX11_shelf_87 ki_m1 rfl ?_
          exact X_iretJ rfl dX11_shelf_88
  · refine X_iconst (w := (-1)) dX11_shelf_7 ki_m1 rfl ?_
    exact X_iretJ rfl dX11_shelf_8
set_option maxRecDepth 100000 in
theorem c_X11_holdsNothing (G : Gm) (M : Mm) (v1 : Int32) : Ct (fI M) G miX11_holdsNothing (1) [.ref (ga G 0), .int v1] M (F_X11_holdsNothing M v1) := by
  refine Ct_of (pn_X11) (Nat.le_of_ble_eq_true rfl) ?_
  refine X_lv [0, 1] (lv' := [(0, .ref (ga G 0)), (1, .int v1)]) rfl ?_
  unfold F_X11_holdsNothing
  refine X_aload_n (a := 0) dX11_holdsNothing_0 rfl rfl rfl ?_
  refine X_getR (t := 23) fl_X11_49 rfl rfl dX11_holdsNothing_1 rfl ?_
  refine X_iload_n (a := 1) dX11_holdsNothing_4 rfl rfl rfl ?_
  refine X_iald rfl rfl dX11_holdsNothing_5 rfl ?_
  refine X_iconst (w := 2) dX11_holdsNothing_6 ki_2 rfl ?_
  refine X_icmp_ne (tgt := 12) dX11_holdsNothing_7 rfl rfl (fun e7 => ?_) (fun e7 => ?_)
  · refine X_aload_n (a := 0) dX11_holdsNothing_12 rfl rfl rfl ?_
    refine X_getR (t := 23) fl_X11_49 rfl rfl dX11_holdsNothing_13 rfl ?_
    refine X_iload_n (a := 1) dX11_holdsNothing_16 rfl rfl rfl ?_
    refine X_iald rfl rfl dX11_holdsNothing_17 rfl ?_
    refine X_if_ne (tgt := 41) dX11_holdsNothing_18 rfl rfl (fun e18 => ?_) (fun e18 => ?_)
    · refine X_iconst (w := 0) dX11_holdsNothing_41 ki_0 rfl ?_
      exact X_zretI rfl dX11_holdsNothing_42
    · refine X_aload_n (a := 0) dX11_holdsNothing_21 rfl rfl rfl ?_
      refine X_getR (t := 33) fl_X11_81 rfl rfl dX11_holdsNothing_22 rfl ?_
      refine X_aload_n (a := 0) dX11_holdsNothing_25 rfl rfl rfl ?_
      refine X_getR (t := 24) fl_X11_52 rfl rfl dX11_holdsNothing_26 rfl ?_
      refine X_iload_n (a := 1) dX11_holdsNothing_29 rfl rfl rfl ?_
      refine X_iald rfl rfl dX11_holdsNothing_30 rfl ?_
      refine X_ruI (Ru_V (st := []) cv_X11_124 rfl (c_X10_has G M (gi M 24 (ui v1))) (by decide) rfl rfl (Nat.le_of_ble_eq_true rfl) dX11_holdsNothing_31) rfl (fun r31 => ?_)
      refine X_if_ne (tgt := 41) dX11_holdsNothing_34 rfl rfl (fun e34 => ?_) (fun e34 => ?_)
      · refine X_iconst (w := 0) dX11_holdsNothing_41 ki_0 rfl ?_
        exact X_zretI rfl dX11_holdsNothing_42
      · refine X_iconst (w := 1) dX11_holdsNothing_37 ki_1 rfl ?_
        refine X_goto (tgt := 42) dX11_holdsNothing_38 rfl ?_
        exact X_zretI rfl dX11_holdsNothing_42
  · refine X_iconst (w := 1) dX11_holdsNothing_10 ki_1 rfl ?_
    exact X_zretI rfl dX11_holdsNothing_11
set_option maxRecDepth 100000 in
theorem c_X11_taken (G : Gm) (M : Mm) (v1 : Int32) (v2 : Int32) : Ct (fI M) G miX11_taken (2) [.ref (ga G 0), .int v1, .int v2] M (F_X11_taken M v1 v2) := by
  refine Ct_of (pn_X11) (Nat.le_of_ble_eq_true rfl) ?_
  refine X_lv [0, 1, 2] (lv' := [(0, .ref (ga G 0)), (1, .int v1), (2, .int v2)]) rfl ?_
  unfold F_X11_taken
  refine X_iload_n (a := 2) dX11_taken_0 rfl rfl rfl ?_
  refine X_iconst (w := 0) dX11_taken_1 ki_0 rfl ?_
  refine X_iconst (w := 5) dX11_taken_2 ki_5 rfl ?_
  refine X_ruI (Ru_S (st := []) cs_X11_97 (c_X11_within G M v2 0 5) (by decide) rfl rfl (Nat.le_of_ble_eq_true rfl) dX11_taken_3) rfl (fun r3 => ?_)
  refine X_istore_n (lv2 := [(3, .int r3), (0, .ref (ga G 0)), (1, .int v1), (2, .int v2)]) dX11_taken_6 rfl (by decide) rfl rfl ?_
  refine X_iload_n (a := 3) dX11_taken_7 rfl rfl rfl ?_
  refine X_bipush (w := 10) dX11_taken_8 kb_10 rfl ?_
  refine X_bipush (w := 14) dX11_taken_10 kb_14 rfl ?_
  refine X_ruI (Ru_S (st := []) cs_X11_97 (c_X11_within G M v2 10 14) (by decide) rfl rfl (Nat.le_of_ble_eq_true rfl) dX11_taken_12) rfl (fun r12 => ?_)
  refine X_istore (lv2 := [(4, .int r12), (3, .int r3), (0, .ref (ga G 0)), (1, .int v1), (2, .int v2)]) dX11_taken_15 (by decide) rfl rfl ?_
  refine X_iload_n (a := 3) dX11_taken_17 rfl rfl rfl ?_
  refine X_ruI (Ru_S (st := []) cs_X11_316 (c_X11_isShelf G M v1) (by decide) rfl rfl (Nat.le_of_ble_eq_true rfl) dX11_taken_18) rfl (fun r18 => ?_)
  refine X_if_eq (tgt := 33) dX11_taken_21 rfl rfl (fun e21 => ?_) (fun e21 => ?_)
  · refine X_iconst (w := (-1)) dX11_taken_33 ki_m1 rfl ?_
    exact X_iretI rfl dX11_taken_34
  · refine X_iload_n (a := 1) dX11_taken_24 rfl rfl rfl ?_
    refine X_jc (P := fun j => X (fI M) G miX11_taken (2) 35 [(0, .ref (ga G 0)), (1, .int v1), (2, .int v2), (3, .int r3)] [] M (j)) (?_) (fun j35 hj35 => ?_)
    · refine X_aload_n (a := 0) dX11_taken_35 rfl rfl rfl ?_
      refine X_iload_n (a := 1) dX11_taken_36 rfl rfl rfl ?_
      refine X_ruI (Ru_V (st := []) cv_X11_326 rfl (c_X11_holdsNothing G M v1) (by decide) rfl rfl (Nat.le_of_ble_eq_true rfl) dX11_taken_37) rfl (fun r37 => ?_)
      refine X_if_eq (tgt := 46) dX11_taken_40 rfl rfl (fun e40 => ?_) (fun e40 => ?_)
      · refine X_aload_n (a := 0) dX11_taken_46 rfl rfl rfl ?_
        refine X_getR (t := 24) fl_X11_52 rfl rfl dX11_taken_47 rfl ?_
        refine X_iload_n (a := 1) dX11_taken_50 rfl rfl rfl ?_
        refine X_iald rfl rfl dX11_taken_51 rfl ?_
        refine X_istore (lv2 := [(5, .int (gi M 24 (ui v1))), (0, .ref (ga G 0)), (1, .int v1), (2, .int v2), (3, .int r3)]) dX11_taken_52 (by decide) rfl rfl ?_
        refine X_aload_n (a := 1) dX11_taken_54 rfl rfl rfl ?_
        refine X_getR (t := 23) fl_X11_49 rfl rfl dX11_taken_55 rfl ?_
        refine X_iload_n (a := 2) dX11_taken_58 rfl rfl rfl ?_
        refine X_iald rfl rfl dX11_taken_59 rfl ?_
        refine X_iconst (w := 1) dX11_taken_60 ki_1 rfl ?_
        refine X_icmp_ne (tgt := 85) dX11_taken_61 rfl rfl (fun e61 => ?_) (fun e61 => ?_)
        · refine X_iload_n (a := 4) dX11_taken_85 rfl rfl rfl ?_
          refine X_if_eq (tgt := 111) dX11_taken_86 rfl rfl (fun e86 => ?_) (fun e86 => ?_)
          · refine X_bipush (w := (-13)) dX11_taken_111 kb_m13 rfl ?_
            exact X_iretI rfl dX11_taken_113
          · refine X_aload_n (a := 1) dX11_taken_89 rfl rfl rfl ?_
            refine X_getR (t := 33) fl_X11_81 rfl rfl dX11_taken_90 rfl ?_
            refine X_getR (t := 34) fl_X11_105 rfl rfl dX11_taken_93 rfl ?_
            refine X_iload (a := 0) dX11_taken_96 rfl rfl ?_
            refine X_iald rfl rfl dX11_taken_98 rfl ?_
            refine X_iload_n (a := 3) dX11_taken_99 rfl rfl rfl ?_
            refine X_ruI (Ru_S (st := []) cs_X11_329 (c_X0_isUnder G M (gi M 34 (ui (gi M 24 (ui v1)))) v2) (by decide) rfl rfl (Nat.le_of_ble_eq_true rfl) dX11_taken_100) rfl (fun r100 => ?_)
            refine X_if_eq (tgt := 111) dX11_taken_103 rfl rfl (fun e103 => ?_) (fun e103 => ?_)
            · refine X_bipush (w := (-13)) dX11_taken_111 kb_m13 rfl ?_
              exact X_iretI rfl dX11_taken_113
            · refine X_iload (a := 0) dX11_taken_106 rfl rfl ?_
              refine X_goto (tgt := 113) dX11_taken_108 rfl ?_
              exact X_iretI rfl dX11_taken_113
        · refine X_iload_n (a := 3) dX11_taken_64 rfl rfl rfl ?_
          refine X_bipush (w := 10) dX11_taken_65 kb_10 rfl ?_
          refine X_iload (a := 0) dX11_taken_67 rfl rfl ?_
          refine X_iadd dX11_taken_69 rfl ?_
          refine X_icmp_ne (tgt := 82) dX11_taken_70 rfl rfl (fun e70 => ?_) (fun e70 => ?_)
          · refine X_bipush (w := (-13)) dX11_taken_82 kb_m13 rfl ?_
            exact X_iretI rfl dX11_taken_84
          · refine X_aload_n (a := 1) dX11_taken_73 rfl rfl rfl ?_
            refine X_getR (t := 25) fl_X11_55 rfl rfl dX11_taken_74 rfl ?_
            refine X_iload_n (a := 2) dX11_taken_77 rfl rfl rfl ?_
            refine X_iald rfl rfl dX11_taken_78 rfl ?_
            refine X_goto (tgt := 84) dX11_taken_79 rfl ?_
            exact X_iretI rfl dX11_taken_84
      · refine X_bipush (w := (-11)) dX11_taken_43 kb_m11 rfl ?_
        exact X_iretI rfl dX11_taken_45
    refine X_if_ne (tgt := 35) dX11_taken_25 rfl rfl (fun e25 => ?_) (fun e25 => ?_)
    · exact X_lv [2, 3, 4, 1] rfl (hj35)
    · refine X_iload (a := 0) dX11_taken_28 rfl rfl ?_
      refine X_if_ne (tgt := 35) dX11_taken_30 rfl rfl (fun e30 => ?_) (fun e30 => ?_)
      · exact X_lv [2, 3, 4, 1] rfl (hj35)
      · refine X_iconst (w := (-1)) dX11_taken_33 ki_m1 rfl ?_
        exact X_iretI rfl dX11_taken_34
set_option maxRecDepth 100000 in
theorem rv_X11_345 {G : Gm} {mi : Mi} {d pc : Nat} {lv : List (Nat × Value)} {st0 st : List Value} {M : Mm} {w : Nat} {a0 : Int32} (hc : mi.1.cls = RX11) (hw0 : ly_ty w = 0 ∨ ly_ty w = 9 ∨ ly_ty w = 8 ∨ ly_ty w = 1 ∨ ly_ty w = 4 ∨ ly_ty w = 2) (hdd : 3 ≤ d) (hst : st0 = ([.ref (ga G 4), .int a0] : List Value).reverse ++ .ref (ga G w) :: st) (hw : (st.map fun v => v.category).sum ≤ 8) (hd : decode mi.2.1 pc = .ok (.invokevirtual 345, 3)) : Ru fJ G mi d pc lv st0 st M (F_v_rolls M w a0) := by
  unfold F_v_rolls
  rcases hw0 with h | h | h | h | h | h
  · rw [if_pos h]
    exact Ru_U (hc ▸ cu_X11_345_0) h (c_X0_rolls G M w a0 (by omega)) (by omega) rfl hst hw hd
  · rw [if_neg (by omega), if_pos h]
    exact Ru_U (hc ▸ cu_X11_345_9) h (c_X9_rolls G M w a0 (by omega)) (by omega) rfl hst hw hd
  · rw [if_neg (by omega), if_neg (by omega), if_pos h]
    exact Ru_U (hc ▸ cu_X11_345_8) h (c_X0_rolls G M w a0 (by omega)) (by omega) rfl hst hw hd
  · rw [if_neg (by omega), if_neg (by omega), if_neg (by omega), if_pos h]
    exact Ru_U (hc ▸ cu_X11_345_1) h (c_X1_rolls G M w a0 (by omega)) (by omega) rfl hst hw hd
  · rw [if_neg (by omega), if_neg (by omega), if_neg (by omega), if_neg (by omega), if_pos h]
    exact Ru_U (hc ▸ cu_X11_345_4) h (c_X0_rolls G M w a0 (by omega)) (by omega) rfl hst hw hd
  · rw [if_neg (by omega), if_neg (by omega), if_neg (by omega), if_neg (by omega), if_neg (by omega), if_pos h]
    exact Ru_U (hc ▸ cu_X11_345_2) h (c_X0_rolls G M w a0 (by omega)) (by omega) rfl hst hw hd
set_option maxRecDepth 100000 in
theorem rv_X11_349 {G : Gm} {mi : Mi} {d pc : Nat} {lv : List (Nat × Value)} {st0 st : List Value} {M : Mm} {w : Nat} {a0 : Int32} (hc : mi.1.cls = RX11) (hw0 : ly_ty w = 0 ∨ ly_ty w = 9 ∨ ly_ty w = 8 ∨ ly_ty w = 1 ∨ ly_ty w = 4 ∨ ly_ty w = 2) (hdd : 5 ≤ d) (hst : st0 = ([.ref (ga G 4), .int a0] : List Value).reverse ++ .ref (ga G w) :: st) (hw : (st.map fun v => v.category).sum ≤ 8) (hd : decode mi.2.1 pc = .ok (.invokevirtual 349, 3)) : Ru fJ G mi d pc lv st0 st M (F_v_seeps M w a0) := by
  unfold F_v_seeps
  rcases hw0 with h | h | h | h | h | h
  · rw [if_pos h]
    exact Ru_U (hc ▸ cu_X11_349_0) h (c_X0_seeps G M w a0 (by omega)) (by omega) rfl hst hw hd
  · rw [if_neg (by omega), if_pos h]
    exact Ru_U (hc ▸ cu_X11_349_9) h (c_X0_seeps G M w a0 (by omega)) (by omega) rfl hst hw hd
  · rw [if_neg (by omega), if_neg (by omega), if_pos h]
    exact Ru_U (hc ▸ cu_X11_349_8) h (c_X8_seeps G M w a0 (by omega)) (by omega) rfl hst hw hd
  · rw [if_neg (by omega), if_neg (by omega), if_neg (by omega), if_pos h]
    exact Ru_U (hc ▸ cu_X11_349_1) h (c_X8_seeps G M w a0 (by omega)) (by omega) rfl hst hw hd
  · rw [if_neg (by omega), if_neg (by omega), if_neg (by omega), if_neg (by omega), if_pos h]
    exact Ru_U (hc ▸ cu_X11_349_4) h (c_X0_seeps G M w a0 (by omega)) (by omega) rfl hst hw hd
  · rw [if_neg (by omega), if_neg (by omega), if_neg (by omega), if_neg (by omega), if_neg (by omega), if_pos h]
    exact Ru_U (hc ▸ cu_X11_349_2) h (c_X2_seeps G M w a0 (by omega)) (by omega) rfl hst hw hd
set_option maxRecDepth 100000 in
theorem rv_X11_352 {G : Gm} {mi : Mi} {d pc : Nat} {lv : List (Nat × Value)} {st0 st : List Value} {M : Mm} {w : Nat} {a0 : Int32} (hc : mi.1.cls = RX11) (hw0 : ly_ty w = 0 ∨ ly_ty w = 9 ∨ ly_ty w = 8 ∨ ly_ty w = 1 ∨ ly_ty w = 4 ∨ ly_ty w = 2) (hdd : 4 ≤ d) (hst : st0 = ([.ref (ga G 4), .int a0] : List Value).reverse ++ .ref (ga G w) :: st) (hw : (st.map fun v => v.category).sum ≤ 8) (hd : decode mi.2.1 pc = .ok (.invokevirtual 352, 3)) : Ru fJ G mi d pc lv st0 st M (F_v_hoops M w a0) := by
  unfold F_v_hoops
  rcases hw0 with h | h | h | h | h | h
  · rw [if_pos h]
    exact Ru_U (hc ▸ cu_X11_352_0) h (c_X0_hoops G M w a0 (by omega)) (by omega) rfl hst hw hd
  · rw [if_neg (by omega), if_pos h]
    exact Ru_U (hc ▸ cu_X11_352_9) h (c_X0_hoops G M w a0 (by omega)) (by omega) rfl hst hw hd
  · rw [if_neg (by omega), if_neg (by omega), if_pos h]
    exact Ru_U (hc ▸ cu_X11_352_8) h (c_X0_hoops G M w a0 (by omega)) (by omega) rfl hst hw hd
  · rw [if_neg (by omega), if_neg (by omega), if_neg (by omega), if_pos h]
    exact Ru_U (hc ▸ cu_X11_352_1) h (c_X0_hoops G M w a0 (by omega)) (by omega) rfl hst hw hd
  · rw [if_neg (by omega), if_neg (by omega), if_neg (by omega), if_neg (by omega), if_pos h]
    exact Ru_U (hc ▸ cu_X11_352_4) h (c_X4_hoops G M w a0 (by omega)) (by omega) rfl hst hw hd
  · rw [if_neg (by omega), if_neg (by omega), if_neg (by omega), if_neg (by omega), if_neg (by omega), if_pos h]
    exact Ru_U (hc ▸ cu_X11_352_2) h (c_X2_hoops G M w a0 (by omega)) (by omega) rfl hst hw hd
set_option maxRecDepth 100000 in
theorem rv_X11_355 {G : Gm} {mi : Mi} {d pc : Nat} {lv : List (Nat × Value)} {st0 st : List Value} {M : Mm} {w : Nat} {a0 : Int32} (hc : mi.1.cls = RX11) (hw0 : ly_ty w = 0 ∨ ly_ty w = 9 ∨ ly_ty w = 8 ∨ ly_ty w = 1 ∨ ly_ty w = 4 ∨ ly_ty w = 2) (hdd : 7 ≤ d) (hst : st0 = ([.ref (ga G 4), .int a0] : List Value).reverse ++ .ref (ga G w) :: st) (hw : (st.map fun v => v.category).sum ≤ 8) (hd : decode mi.2.1 pc = .ok (.invokevirtual 355, 3)) : Ru fJ G mi d pc lv st0 st M (F_v_floods M w a0) := by
  unfold F_v_floods
  rcases hw0 with h | h | h | h | h | h
  · rw [if_pos h]
    exact Ru_U (hc ▸ cu_X11_355_0) h (c_X0_floods G M w a0 (by omega)) (by omega) rfl hst hw hd
  · rw [if_neg (by omega), if_pos h]
    exact Ru_U (hc ▸ cu_X11_355_9) h (c_X0_floods G M w a0 (by omega)) (by omega) rfl hst hw hd
  · rw [if_neg (by omega), if_neg (by omega), if_pos h]
    exact Ru_U (hc ▸ cu_X11_355_8) h (c_X0_floods G M w a0 (by omega)) (by omega) rfl hst hw hd
  · rw [if_neg (by omega), if_neg (by omega), if_neg (by omega), if_pos h]
    exact Ru_U (hc ▸ cu_X11_355_1) h (c_X1_floods G M w a0 (by omega)) (by omega) rfl hst hw hd
  · rw [if_neg (by omega), if_neg (by omega), if_neg (by omega), if_neg (by omega), if_pos h]
    exact Ru_U (hc ▸ cu_X11_355_4) h (c_X0_floods G M w a0 (by omega)) (by omega) rfl hst hw hd
  · rw [if_neg (by omega), if_neg (by omega), if_neg (by omega), if_neg (by omega), if_neg (by omega), if_pos h]
    exact Ru_U (hc ▸ cu_X11_355_2) h (c_X0_floods G M w a0 (by omega)) (by omega) rfl hst hw hd
set_option maxRecDepth 100000 in
theorem c_X11_act (G : Gm) (M : Mm) (v1 : Int32) (v2 : Int32) (v3 : Int32) : Ct fJ G miX11_act (7) [.ref (ga G 0), .int v1, .int v2, .int v3] M (F_X11_act M v1 v2 v3) := by
  refine Ct_of (pn_X11) (Nat.le_of_ble_eq_true rfl) ?_
  refine X_lv [0, 1, 2, 3] (lv' := [(0, .ref (ga G 0)), (1, .int v1), (2, .int v2), (3, .int v3)]) rfl ?_
  unfold F_X11_act
  refine X_aload_n (a := 0) dX11_act_0 rfl rfl rfl ?_
  refine X_getR (t := 4) fl_X11_19 rfl rfl dX11_act_1 rfl ?_
  refine X_ruV (Ru_V (st := []) cv_X11_332 rfl (c_X7_clear G M) (by decide) rfl rfl (Nat.le_of_ble_eq_true rfl) dX11_act_4) rfl (fun r4 => ?_)
  refine X_iload_n (a := 1) dX11_act_7 rfl rfl rfl ?_
  refine X_ruI (Ru_S (st := []) cs_X11_316 (c_X11_isShelf G r4 v1) (by decide) rfl rfl (Nat.le_of_ble_eq_true rfl) dX11_act_8) rfl (fun r8 => ?_)
  refine X_if_eq (tgt := 23) dX11_act_11 rfl rfl (fun e11 => ?_) (fun e11 => ?_)
  · refine X_iconst (w := 0) dX11_act_23 ki_0 rfl ?_
    exact X_iretJ rfl dX11_act_24
  · refine X_iload_n (a := 2) dX11_act_14 rfl rfl rfl ?_
    refine X_iconst (w := 0) dX11_act_15 ki_0 rfl ?_
    refine X_iconst (w := 3) dX11_act_16 ki_3 rfl ?_
    refine X_ruI (Ru_S (st := []) cs_X11_97 (c_X11_within G r4 v2 0 3) (by decide) rfl rfl (Nat.le_of_ble_eq_true rfl) dX11_act_17) rfl (fun r17 => ?_)
    refine X_if_ne (tgt := 25) dX11_act_20 rfl rfl (fun e20 => ?_) (fun e20 => ?_)
    · refine X_aload_n (a := 0) dX11_act_25 rfl rfl rfl ?_
      refine X_iload_n (a := 1) dX11_act_26 rfl rfl rfl ?_
      refine X_ruI (Ru_V (st := []) cv_X11_326 rfl (c_X11_holdsNothing G r4 v1) (by decide) rfl rfl (Nat.le_of_ble_eq_true rfl) dX11_act_27) rfl (fun r27 => ?_)
      refine X_if_ne (tgt := 43) dX11_act_30 rfl rfl (fun e30 => ?_) (fun e30 => ?_)
      · refine X_iconst (w := 0) dX11_act_43 ki_0 rfl ?_
        exact X_iretJ rfl dX11_act_44
      · refine X_aload_n (a := 0) dX11_act_33 rfl rfl rfl ?_
        refine X_getR (t := 23) fl_X11_49 rfl rfl dX11_act_34 rfl ?_
        refine X_iload_n (a := 1) dX11_act_37 rfl rfl rfl ?_
        refine X_iald rfl rfl dX11_act_38 rfl ?_
        refine X_iconst (w := 1) dX11_act_39 ki_1 rfl ?_
        refine X_icmp_ne (tgt := 45) dX11_act_40 rfl rfl (fun e40 => ?_) (fun e40 => ?_)
        · refine X_aload_n (a := 0) dX11_act_45 rfl rfl rfl ?_
          refine X_getR (t := 24) fl_X11_52 rfl rfl dX11_act_46 rfl ?_
          refine X_iload_n (a := 1) dX11_act_49 rfl rfl rfl ?_
          refine X_iald rfl rfl dX11_act_50 rfl ?_
          refine X_istore (lv2 := [(4, .int (gi r4 24 (ui v1))), (0, .ref (ga G 0)), (1, .int v1), (2, .int v2), (3, .int v3)]) dX11_act_51 (by decide) rfl rfl ?_
          refine X_aload_n (a := 1) dX11_act_53 rfl rfl rfl ?_
          refine X_getR (t := 4) fl_X11_19 rfl rfl dX11_act_54 rfl ?_
          refine X_iload (a := 0) dX11_act_57 rfl rfl ?_
          refine X_putI fp_X11_335 rfl dX11_act_59 rfl ?_
          refine X_aload_n (a := 1) dX11_act_62 rfl rfl rfl ?_
          refine X_getR (t := 4) fl_X11_19 rfl rfl dX11_act_63 rfl ?_
          refine X_aload_n (a := 1) dX11_act_66 rfl rfl rfl ?_
          refine X_getR (t := 33) fl_X11_81 rfl rfl dX11_act_67 rfl ?_
          refine X_getR (t := 35) fl_X11_108 rfl rfl dX11_act_70 rfl ?_
          refine X_iload (a := 0) dX11_act_73 rfl rfl ?_
          refine X_iald rfl rfl dX11_act_75 rfl ?_
          refine X_putI fp_X11_338 rfl dX11_act_76 rfl ?_
          refine X_aload_n (a := 1) dX11_act_79 rfl rfl rfl ?_
          refine X_getR (t := 33) fl_X11_81 rfl rfl dX11_act_80 rfl ?_
          refine X_getR (t := 26) fl_X11_341 rfl rfl dX11_act_83 rfl ?_
          refine X_aload_n (a := 1) dX11_act_86 rfl rfl rfl ?_
          refine X_getR (t := 33) fl_X11_81 rfl rfl dX11_act_87 rfl ?_
          refine X_getR (t := 34) fl_X11_105 rfl rfl dX11_act_90 rfl ?_
          refine X_iload (a := 0) dX11_act_93 rfl rfl ?_
          refine X_iald rfl rfl dX11_act_95 rfl ?_
          refine X_aald (t := 23) rfl (by decide) rfl dX11_act_96 rfl (fun h96 => ?_)
          refine X_astore (lv2 := [(5, .ref (ga G (ly_rf 26 (ui (gi (si (si r4 4 2 (gi r4 24 (ui v1))) 4 3 (gi (si r4 4 2 (gi r4 24 (ui v1))) 35 (ui (gi r4 24 (ui v1))))) 34 (ui (gi r4 24 (ui v1)))))))), (4, .int (gi r4 24 (ui v1))), (0, .ref (ga G 0)), (1, .int v1), (2, .int v2), (3, .int v3)]) dX11_act_97 (by decide) rfl rfl ?_
          refine X_iload_n (a := 4) dX11_act_99 rfl rfl rfl ?_
          refine X_jc (P := fun j => ∀ (v6 : Int32) (M : Mm), X fJ G miX11_act (7) 185 [(0, .ref (ga G 0)), (6, .int v6)] [] M (j v6 M)) (fun v6 M => ?_) (fun j185 hj185 => ?_)
          · refine X_aload_n (a := 0) dX11_act_185 rfl rfl rfl ?_
            refine X_getR (t := 4) fl_X11_19 rfl rfl dX11_act_186 rfl ?_
            refine X_getI fl_X11_358 rfl dX11_act_189 rfl ?_
            refine X_if_eq (tgt := 200) dX11_act_192 rfl rfl (fun e192 => ?_) (fun e192 => ?_)
            · refine X_iload (a := 1) dX11_act_200 rfl rfl ?_
              exact X_iretJ rfl dX11_act_202
            · refine X_bipush (w := (-15)) dX11_act_195 kb_m15 rfl ?_
              refine X_goto (tgt := 202) dX11_act_197 rfl ?_
              exact X_iretJ rfl dX11_act_202
          refine X_if (fun e100_0 => ?_) (fun e100_0 => ?_)
          · refine X_tsIn (tgt := 128) dX11_act_100 (by rw [e100_0]; decide) (by rw [e100_0]; decide) (by rw [e100_0]; rfl) rfl ?_
            refine X_aload (a := 0) dX11_act_128 rfl rfl ?_
            refine X_aload_n (a := 2) dX11_act_130 rfl rfl rfl ?_
            refine X_getR (t := 4) fl_X11_19 rfl rfl dX11_act_131 rfl ?_
            refine X_iload_n (a := 5) dX11_act_134 rfl rfl rfl ?_
            refine X_ruJ (rv_X11_345 rfl (ty_nat h96) (by decide) rfl (Nat.le_of_ble_eq_true rfl) dX11_act_135) rfl (fun r135 => ?_)
            refine X_istore (lv2 := [(6, .int r135.1), (5, .ref (ga G (ly_rf 26 (ui (gi (si (si r4 4 2 (gi r4 24 (ui v1))) 4 3 (gi (si r4 4 2 (gi r4 24 (ui v1))) 35 (ui (gi r4 24 (ui v1))))) 34 (ui (gi r4 24 (ui v1)))))))), (4, .int (gi r4 24 (ui v1))), (0, .ref (ga G 0)), (1, .int v1), (2, .int v2), (3, .int v3)]) dX11_act_138 (by decide) rfl rfl ?_
            refine X_goto (tgt := 185) dX11_act_140 rfl ?_
            exact X_lv [3, 0] rfl (hj185 r135.1 r135.2)
          · skip
            refine X_if (fun e100_1 => ?_) (fun e100_1 => ?_)
            · refine X_tsIn (tgt := 143) dX11_act_100 (by rw [e100_1]; decide) (by rw [e100_1]; decide) (by rw [e100_1]; rfl) rfl ?_
              refine X_aload (a := 0) dX11_act_143 rfl rfl ?_
              refine X_aload_n (a := 2) dX11_act_145 rfl rfl rfl ?_
              refine X_getR (t := 4) fl_X11_19 rfl rfl dX11_act_146 rfl ?_
              refine X_iload_n (a := 5) dX11_act_149 rfl rfl rfl ?_
              refine X_ruJ (rv_X11_349 rfl (ty_nat h96) (by decide) rfl (Nat.le_of_ble_eq_true rfl) dX11_act_150) rfl (fun r150 => ?_)
              refine X_istore (lv2 := [(6, .int r150.1), (5, .ref (ga G (ly_rf 26 (ui (gi (si (si r4 4 2 (gi r4 24 (ui v1))) 4 3 (gi (si r4 4 2 (gi r4 24 (ui v1))) 35 (ui (gi r4 24 (ui v1))))) 34 (ui (gi r4 24 (ui v1)))))))), (4, .int (gi r4 24 (ui v1))), (0, .ref (ga G 0)), (1, .int v1), (2, .int v2), (3, .int v3)]) dX11_act_153 (by decide) rfl rfl ?_
              refine X_goto (tgt := 185) dX11_act_155 rfl ?_
              exact X_lv [3, 0] rfl (hj185 r150.1 r150.2)
            · skip
              refine X_if (fun e100_2 => ?_) (fun e100_2 => ?_)
              · refine X_tsIn (tgt := 158) dX11_act_100 (by rw [e100_2]; decide) (by rw [e100_2]; decide) (by rw [e100_2]; rfl) rfl ?_
                refine X_aload (a := 0) dX11_act_158 rfl rfl ?_
                refine X_aload_n (a := 2) dX11_act_160 rfl rfl rfl ?_
                refine X_getR (t := 4) fl_X11_19 rfl rfl dX11_act_161 rfl ?_
                refine X_iload_n (a := 5) dX11_act_164 rfl rfl rfl ?_
                refine X_ruJ (rv_X11_352 rfl (ty_nat h96) (by decide) rfl (Nat.le_of_ble_eq_true rfl) dX11_act_165) rfl (fun r165 => ?_)
                refine X_istore (lv2 := [(6, .int r165.1), (5, .ref (ga G (ly_rf 26 (ui (gi (si (si r4 4 2 (gi r4 24 (ui v1))) 4 3 (gi (si r4 4 2 (gi r4 24 (ui v1))) 35 (ui (gi r4 24 (ui v1))))) 34 (ui (gi r4 24 (ui v1)))))))), (4, .int (gi r4 24 (ui v1))), (0, .ref (ga G 0)), (1, .int v1), (2, .int v2), (3, .int v3)]) dX11_act_168 (by decide) rfl rfl ?_
                refine X_goto (tgt := 185) dX11_act_170 rfl ?_
                exact X_lv [3, 0] rfl (hj185 r165.1 r165.2)
              · skip
                refine X_tsOut (tgt := 173) dX11_act_100 (by have ne100_0 := ne_toInt e100_0 (n := 0) (by decide); have ne100_1 := ne_toInt e100_1 (n := 1) (by decide); have ne100_2 := ne_toInt e100_2 (n := 2) (by decide); omega) rfl ?_
                refine X_aload (a := 0) dX11_act_173 rfl rfl ?_
                refine X_aload_n (a := 2) dX11_act_175 rfl rfl rfl ?_
                refine X_getR (t := 4) fl_X11_19 rfl rfl dX11_act_176 rfl ?_
                refine X_iload_n (a := 5) dX11_act_179 rfl rfl rfl ?_
                refine X_ruJ (rv_X11_355 rfl (ty_nat h96) (by decide) rfl (Nat.le_of_ble_eq_true rfl) dX11_act_180) rfl (fun r180 => ?_)
                refine X_istore (lv2 := [(6, .int r180.1), (5, .ref (ga G (ly_rf 26 (ui (gi (si (si r4 4 2 (gi r4 24 (ui v1))) 4 3 (gi (si r4 4 2 (gi r4 24 (ui v1))) 35 (ui (gi r4 24 (ui v1))))) 34 (ui (gi r4 24 (ui v1)))))))), (4, .int (gi r4 24 (ui v1))), (0, .ref (ga G 0)), (1, .int v1), (2, .int v2), (3, .int v3)]) dX11_act_183 (by decide) rfl rfl ?_
                exact X_lv [3, 0] rfl (hj185 r180.1 r180.2)
        · refine X_iconst (w := 0) dX11_act_43 ki_0 rfl ?_
          exact X_iretJ rfl dX11_act_44
    · refine X_iconst (w := 0) dX11_act_23 ki_0 rfl ?_
      exact X_iretJ rfl dX11_act_24
set_option maxRecDepth 100000 in
theorem c_X11_trace (G : Gm) (M : Mm) (v1 : Int32) : Ct (fI M) G miX11_trace (1) [.ref (ga G 0), .int v1] M (F_X11_trace M v1) := by
  refine Ct_of (pn_X11) (Nat.le_of_ble_eq_true rfl) ?_
  refine X_lv [0, 1] (lv' := [(0, .ref (ga G 0)), (1, .int v1)]) rfl ?_
  unfold F_X11_trace
  refine X_iload_n (a := 1) dX11_trace_0 rfl rfl rfl ?_
  refine X_iconst (w := 0) dX11_trace_1 ki_0 rfl ?_
  refine X_aload_n (a := 0) dX11_trace_2 rfl rfl rfl ?_
  refine X_getR (t := 4) fl_X11_19 rfl rfl dX11_trace_3 rfl ?_
  refine X_getI fl_X11_362 rfl dX11_trace_6 rfl ?_
  refine X_iconst (w := 1) dX11_trace_9 ki_1 rfl ?_
  refine X_isub dX11_trace_10 rfl ?_
  refine X_ruI (Ru_S (st := []) cs_X11_97 (c_X11_within G M v1 0 ((gi M 4 1) - 1)) (by decide) rfl rfl (Nat.le_of_ble_eq_true rfl) dX11_trace_11) rfl (fun r11 => ?_)
  refine X_if_eq (tgt := 29) dX11_trace_14 rfl rfl (fun e14 => ?_) (fun e14 => ?_)
  · refine X_bipush (w := (-3)) dX11_trace_29 kb_m3 rfl ?_
    exact X_iretI rfl dX11_trace_31
  · refine X_aload_n (a := 0) dX11_trace_17 rfl rfl rfl ?_
    refine X_getR (t := 4) fl_X11_19 rfl rfl dX11_trace_18 rfl ?_
    refine X_getR (t := 5) fl_X11_365 rfl rfl dX11_trace_21 rfl ?_
    refine X_iload_n (a := 1) dX11_trace_24 rfl rfl rfl ?_
    refine X_iald rfl rfl dX11_trace_25 rfl ?_
    refine X_goto (tgt := 31) dX11_trace_26 rfl ?_
    exact X_iretI rfl dX11_trace_31
set_option maxRecDepth 100000 in
theorem c_X11_many (G : Gm) (M : Mm) (v1 : Int32) : Ct (fI M) G miX11_many (1) [.ref (ga G 0), .int v1] M (F_X11_many M v1) := by
  refine Ct_of (pn_X11) (Nat.le_of_ble_eq_true rfl) ?_
  refine X_lv [0, 1] (lv' := [(0, .ref (ga G 0)), (1, .int v1)]) rfl ?_
  unfold F_X11_many
  refine X_iload_n (a := 1) dX11_many_0 rfl rfl rfl ?_
  refine X_if (fun e1_0 => ?_) (fun e1_0 => ?_)
  · refine X_tsIn (tgt := 44) dX11_many_1 (by rw [e1_0]; decide) (by rw [e1_0]; decide) (by rw [e1_0]; rfl) rfl ?_
    refine X_aload_n (a := 0) dX11_many_44 rfl rfl rfl ?_
    refine X_getR (t := 33) fl_X11_81 rfl rfl dX11_many_45 rfl ?_
    refine X_getI fl_X11_101 rfl dX11_many_48 rfl ?_
    exact X_iretI rfl dX11_many_51
  · skip
    refine X_if (fun e1_1 => ?_) (fun e1_1 => ?_)
    · refine X_tsIn (tgt := 52) dX11_many_1 (by rw [e1_1]; decide) (by rw [e1_1]; decide) (by rw [e1_1]; rfl) rfl ?_
      refine X_aload_n (a := 0) dX11_many_52 rfl rfl rfl ?_
      refine X_getR (t := 33) fl_X11_81 rfl rfl dX11_many_53 rfl ?_
      refine X_getR (t := 42) fl_X11_189 rfl rfl dX11_many_56 rfl ?_
      refine X_getI fl_X11_196 rfl dX11_many_59 rfl ?_
      exact X_iretI rfl dX11_many_62
    · skip
      refine X_if (fun e1_2 => ?_) (fun e1_2 => ?_)
      · refine X_tsIn (tgt := 63) dX11_many_1 (by rw [e1_2]; decide) (by rw [e1_2]; decide) (by rw [e1_2]; rfl) rfl ?_
        refine X_aload_n (a := 0) dX11_many_63 rfl rfl rfl ?_
        refine X_getR (t := 33) fl_X11_81 rfl rfl dX11_many_64 rfl ?_
        refine X_getR (t := 39) fl_X11_111 rfl rfl dX11_many_67 rfl ?_
        refine X_getI fl_X11_128 rfl dX11_many_70 rfl ?_
        refine X_ruI (Ru_S (st := []) cs_X11_285 (c_J6_bitCount_0f7a4 G M (gi M 39 2)) (by decide) rfl rfl (Nat.le_of_ble_eq_true rfl) dX11_many_73) rfl (fun r73 => ?_)
        exact X_iretI rfl dX11_many_76
      · skip
        refine X_if (fun e1_3 => ?_) (fun e1_3 => ?_)
        · refine X_tsIn (tgt := 77) dX11_many_1 (by rw [e1_3]; decide) (by rw [e1_3]; decide) (by rw [e1_3]; rfl) rfl ?_
          refine X_aload_n (a := 0) dX11_many_77 rfl rfl rfl ?_
          refine X_getR (t := 33) fl_X11_81 rfl rfl dX11_many_78 rfl ?_
          refine X_getI fl_X11_258 rfl dX11_many_81 rfl ?_
          exact X_iretI rfl dX11_many_84
        · skip
          refine X_if (fun e1_4 => ?_) (fun e1_4 => ?_)
          · refine X_tsIn (tgt := 85) dX11_many_1 (by rw [e1_4]; decide) (by rw [e1_4]; decide) (by rw [e1_4]; rfl) rfl ?_
            refine X_aload_n (a := 0) dX11_many_85 rfl rfl rfl ?_
            refine X_getI fl_X11_297 rfl dX11_many_86 rfl ?_
            exact X_iretI rfl dX11_many_89
          · skip
            refine X_if (fun e1_5 => ?_) (fun e1_5 => ?_)
            · refine X_tsIn (tgt := 90) dX11_many_1 (by rw [e1_5]; decide) (by rw [e1_5]; decide) (by rw [e1_5]; rfl) rfl ?_
              refine X_aload_n (a := 0) dX11_many_90 rfl rfl rfl ?_
              refine X_getI fl_X11_182 rfl dX11_many_91 rfl ?_
              exact X_iretI rfl dX11_many_94
            · skip
              refine X_if (fun e1_6 => ?_) (fun e1_6 => ?_)
              · refine X_tsIn (tgt := 95) dX11_many_1 (by rw [e1_6]; decide) (by rw [e1_6]; decide) (by rw [e1_6]; rfl) rfl ?_
                refine X_aload_n (a := 0) dX11_many_95 rfl rfl rfl ?_
                refine X_getR (t := 4) fl_X11_19 rfl rfl dX11_many_96 rfl ?_
                refine X_getI fl_X11_362 rfl dX11_many_99 rfl ?_
                exact X_iretI rfl dX11_many_102
              · skip
                refine X_tsOut (tgt := 103) dX11_many_1 (by have ne1_0 := ne_toInt e1_0 (n := 0) (by decide); have ne1_1 := ne_toInt e1_1 (n := 1) (by decide); have ne1_2 := ne_toInt e1_2 (n := 2) (by decide); have ne1_3 := ne_toInt e1_3 (n := 3) (by decide); have ne1_4 := ne_toInt e1_4 (n := 4) (by decide); have ne1_5 := ne_toInt e1_5 (n := 5) (by decide); have ne1_6 := ne_toInt e1_6 (n := 6) (by decide); omega) rfl ?_
                refine X_iconst (w := (-1)) dX11_many_103 ki_m1 rfl ?_
                exact X_iretI rfl dX11_many_104
set_option maxRecDepth 100000 in
theorem c_X11_keep (G : Gm) (M : Mm) : Ct fJ G miX11_keep (4) [.ref (ga G 0)] M (F_X11_keep M) := by
  refine Ct_of (pn_X11) (Nat.le_of_ble_eq_true rfl) ?_
  refine X_lv [0] (lv' := [(0, .ref (ga G 0))]) rfl ?_
  unfold F_X11_keep
  refine X_aload_n (a := 0) dX11_keep_0 rfl rfl rfl ?_
  refine X_getR (t := 54) fl_X11_85 rfl rfl dX11_keep_1 rfl ?_
  refine X_aload_n (a := 0) dX11_keep_4 rfl rfl rfl ?_
  refine X_getR (t := 33) fl_X11_81 rfl rfl dX11_keep_5 rfl ?_
  refine X_ruV (Ru_V (st := []) cv_X11_368 rfl (c_X10_take_54_33 G M) (by decide) rfl rfl (Nat.le_of_ble_eq_true rfl) dX11_keep_8) rfl (fun r8 => ?_)
  refine X_aload_n (a := 0) dX11_keep_11 rfl rfl rfl ?_
  refine X_iconst (w := 1) dX11_keep_12 ki_1 rfl ?_
  refine X_putZ fp_X11_370 rfl dX11_keep_13 rfl ?_
  refine X_iconst (w := 1) dX11_keep_16 ki_1 rfl ?_
  exact X_iretJ rfl dX11_keep_17
set_option maxRecDepth 100000 in
theorem c_X11_again (G : Gm) (M : Mm) : Ct fJ G miX11_again (4) [.ref (ga G 0)] M (F_X11_again M) := by
  refine Ct_of (pn_X11) (Nat.le_of_ble_eq_true rfl) ?_
  refine X_lv [0] (lv' := [(0, .ref (ga G 0))]) rfl ?_
  unfold F_X11_again
  refine X_aload_n (a := 0) dX11_again_0 rfl rfl rfl ?_
  refine X_getI fl_X11_370 rfl dX11_again_1 rfl ?_
  refine X_if_ne (tgt := 10) dX11_again_4 rfl rfl (fun e4 => ?_) (fun e4 => ?_)
  · refine X_aload_n (a := 0) dX11_again_10 rfl rfl rfl ?_
    refine X_getR (t := 33) fl_X11_81 rfl rfl dX11_again_11 rfl ?_
    refine X_aload_n (a := 0) dX11_again_14 rfl rfl rfl ?_
    refine X_getR (t := 54) fl_X11_85 rfl rfl dX11_again_15 rfl ?_
    refine X_ruV (Ru_V (st := []) cv_X11_368 rfl (c_X10_take_33_54 G M) (by decide) rfl rfl (Nat.le_of_ble_eq_true rfl) dX11_again_18) rfl (fun r18 => ?_)
    refine X_aload_n (a := 0) dX11_again_21 rfl rfl rfl ?_
    refine X_getR (t := 33) fl_X11_81 rfl rfl dX11_again_22 rfl ?_
    refine X_getI fl_X11_101 rfl dX11_again_25 rfl ?_
    exact X_iretJ rfl dX11_again_28
  · refine X_bipush (w := (-3)) dX11_again_7 kb_m3 rfl ?_
    exact X_iretJ rfl dX11_again_9

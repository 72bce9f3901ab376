set_option maxRecDepth 100000 in
theorem c_X12_state (G : Gm) (M : Mm) (v1 : Int32) : Ct (fI M) G miX12_state (2) [.ref (ga G 94), .int v1] M (F_X12_state M v1) := by
  refine Ct_of (pn_X12) (Nat.le_of_ble_eq_true rfl) ?_
  refine X_lv [0, 1] (lv' := [(0, .ref (ga G 94)), (1, .int v1)]) rfl ?_
  unfold F_X12_state
  refine X_iload_n (a := 1) dX12_state_0 rfl rfl rfl ?_
  refine X_if (fun e1_0 => ?_) (fun e1_0 => ?_)
  · refine X_tsIn (tgt := 44) dX12_state_1 (by rw [e1_0]; decide) (by rw [e1_0]; decide) (by rw [e1_0]; rfl) rfl ?_
    refine X_aload_n (a := 0) dX12_state_44 rfl rfl rfl ?_
    refine X_getR (t := 95) fl_X12_7 rfl rfl dX12_state_45 rfl ?_
    refine X_iconst (w := 1) dX12_state_48 ki_1 rfl ?_
    refine X_iald rfl rfl dX12_state_49 rfl ?_
    exact X_iretI rfl dX12_state_50
  · skip
    refine X_if (fun e1_1 => ?_) (fun e1_1 => ?_)
    · refine X_tsIn (tgt := 51) dX12_state_1 (by rw [e1_1]; decide) (by rw [e1_1]; decide) (by rw [e1_1]; rfl) rfl ?_
      refine X_aload_n (a := 0) dX12_state_51 rfl rfl rfl ?_
      refine X_getR (t := 95) fl_X12_7 rfl rfl dX12_state_52 rfl ?_
      refine X_iconst (w := 2) dX12_state_55 ki_2 rfl ?_
      refine X_iald rfl rfl dX12_state_56 rfl ?_
      exact X_iretI rfl dX12_state_57
    · skip
      refine X_if (fun e1_2 => ?_) (fun e1_2 => ?_)
      · refine X_tsIn (tgt := 58) dX12_state_1 (by rw [e1_2]; decide) (by rw [e1_2]; decide) (by rw [e1_2]; rfl) rfl ?_
        refine X_aload_n (a := 0) dX12_state_58 rfl rfl rfl ?_
        refine X_getR (t := 95) fl_X12_7 rfl rfl dX12_state_59 rfl ?_
        refine X_iconst (w := 3) dX12_state_62 ki_3 rfl ?_
        refine X_iald rfl rfl dX12_state_63 rfl ?_
        exact X_iretI rfl dX12_state_64
      · skip
        refine X_if (fun e1_3 => ?_) (fun e1_3 => ?_)
        · refine X_tsIn (tgt := 65) dX12_state_1 (by rw [e1_3]; decide) (by rw [e1_3]; decide) (by rw [e1_3]; rfl) rfl ?_
          refine X_aload_n (a := 0) dX12_state_65 rfl rfl rfl ?_
          refine X_ruI (Ru_V (st := []) cv_X12_137 rfl (c_X12_isOver G M) (by decide) rfl rfl (Nat.le_of_ble_eq_true rfl) dX12_state_66) rfl (fun r66 => ?_)
          refine X_if_eq (tgt := 76) dX12_state_69 rfl rfl (fun e69 => ?_) (fun e69 => ?_)
          · refine X_iconst (w := 0) dX12_state_76 ki_0 rfl ?_
            exact X_iretI rfl dX12_state_77
          · refine X_iconst (w := 1) dX12_state_72 ki_1 rfl ?_
            refine X_goto (tgt := 77) dX12_state_73 rfl ?_
            exact X_iretI rfl dX12_state_77
        · skip
          refine X_if (fun e1_4 => ?_) (fun e1_4 => ?_)
          · refine X_tsIn (tgt := 78) dX12_state_1 (by rw [e1_4]; decide) (by rw [e1_4]; decide) (by rw [e1_4]; rfl) rfl ?_
            refine X_aload_n (a := 0) dX12_state_78 rfl rfl rfl ?_
            refine X_ruI (Ru_V (st := []) cv_X12_163 rfl (c_X12_staked G M) (by decide) rfl rfl (Nat.le_of_ble_eq_true rfl) dX12_state_79) rfl (fun r79 => ?_)
            exact X_iretI rfl dX12_state_82
          · skip
            refine X_if (fun e1_5 => ?_) (fun e1_5 => ?_)
            · refine X_tsIn (tgt := 83) dX12_state_1 (by rw [e1_5]; decide) (by rw [e1_5]; decide) (by rw [e1_5]; rfl) rfl ?_
              refine X_aload_n (a := 0) dX12_state_83 rfl rfl rfl ?_
              refine X_aload_n (a := 0) dX12_state_84 rfl rfl rfl ?_
              refine X_getR (t := 95) fl_X12_7 rfl rfl dX12_state_85 rfl ?_
              refine X_iconst (w := 1) dX12_state_88 ki_1 rfl ?_
              refine X_iald rfl rfl dX12_state_89 rfl ?_
              refine X_ruI (Ru_V (st := []) cv_X12_72 rfl (c_X12_waterOf G M (gi M 95 (ui 1))) (by decide) rfl rfl (Nat.le_of_ble_eq_true rfl) dX12_state_90) rfl (fun r90 => ?_)
              exact X_iretI rfl dX12_state_93
            · skip
              refine X_if (fun e1_6 => ?_) (fun e1_6 => ?_)
              · refine X_tsIn (tgt := 94) dX12_state_1 (by rw [e1_6]; decide) (by rw [e1_6]; decide) (by rw [e1_6]; rfl) rfl ?_
                refine X_aload_n (a := 0) dX12_state_94 rfl rfl rfl ?_
                refine X_ruI (Ru_V (st := []) cv_X12_166 rfl (c_X12_fillAll G M) (by decide) rfl rfl (Nat.le_of_ble_eq_true rfl) dX12_state_95) rfl (fun r95 => ?_)
                exact X_iretI rfl dX12_state_98
              · skip
                refine X_tsOut (tgt := 99) dX12_state_1 (by have ne1_0 := ne_toInt e1_0 (n := 0) (by decide); have ne1_1 := ne_toInt e1_1 (n := 1) (by decide); have ne1_2 := ne_toInt e1_2 (n := 2) (by decide); have ne1_3 := ne_toInt e1_3 (n := 3) (by decide); have ne1_4 := ne_toInt e1_4 (n := 4) (by decide); have ne1_5 := ne_toInt e1_5 (n := 5) (by decide); have ne1_6 := ne_toInt e1_6 (n := 6) (by decide); omega) rfl ?_
                refine X_iconst (w := (-1)) dX12_state_99 ki_m1 rfl ?_
                exact X_iretI rfl dX12_state_100
set_option maxRecDepth 100000 in
theorem x_X12_feed_L32 (G : Gm) (v1 : Int64) (v3 : Int32) : ∀ (n : Nat) (M : Mm) (v4 : Int32), X fJ G miX12_feed (1) 32 [(0, .ref (ga G 94)), (1, .long v1), (3, .int v3), (4, .int v4)] [] M (F_X12_feed_L32 v1 v3 n M v4) := by
  intro n
  induction n with
  | zero => intro M v4; exact X_none
  | succ n ih =>
    intro M v4
    rw [F_X12_feed_L32]
    refine X_iload (a := 3) dX12_feed_32 rfl rfl ?_
    refine X_iload_n (a := 2) dX12_feed_34 rfl rfl rfl ?_
    refine X_icmp_ge (tgt := 75) dX12_feed_35 rfl rfl (fun e35 => ?_) (fun e35 => ?_)
    · refine X_aload_n (a := 0) dX12_feed_75 rfl rfl rfl ?_
      refine X_getI fl_X12_171 rfl dX12_feed_76 rfl ?_
      exact X_iretJ rfl dX12_feed_79
    · refine X_aload_n (a := 0) dX12_feed_38 rfl rfl rfl ?_
      refine X_getR (t := 100) fl_X12_25 rfl rfl dX12_feed_39 rfl ?_
      refine X_aload_n (a := 0) dX12_feed_42 rfl rfl rfl ?_
      refine X_getI fl_X12_171 rfl dX12_feed_43 rfl ?_
      refine X_lload_n (a := 1) dX12_feed_46 rfl rfl rfl ?_
      refine X_bipush (w := 8) dX12_feed_47 kb_8 rfl ?_
      refine X_iload (a := 3) dX12_feed_49 rfl rfl ?_
      refine X_imul dX12_feed_51 rfl ?_
      refine X_lshr dX12_feed_52 rfl rfl ?_
      refine X_ldc2 (w := 255) dX12_feed_53 t_1423 rfl ?_
      refine X_land dX12_feed_56 rfl ?_
      refine X_l2i dX12_feed_57 rfl rfl ?_
      refine X_iast rfl rfl dX12_feed_58 rfl ?_
      refine X_aload_n (a := 0) dX12_feed_59 rfl rfl rfl ?_
      refine X_dup dX12_feed_60 rfl rfl ?_
      refine X_getI fl_X12_171 rfl dX12_feed_61 rfl ?_
      refine X_iconst (w := 1) dX12_feed_64 ki_1 rfl ?_
      refine X_iadd dX12_feed_65 rfl ?_
      refine X_putI fp_X12_171 rfl dX12_feed_66 rfl ?_
      refine X_iinc (a := 3) (lv2 := [(4, .int (v4 + 1)), (0, .ref (ga G 94)), (1, .long v1), (3, .int v3)]) dX12_feed_69 rfl (ii_1 _) (by decide) rfl rfl ?_
      refine X_goto (tgt := 32) dX12_feed_72 rfl ?_
      exact X_lv [1, 2, 3, 0] rfl (ih (si (si M 100 (ui (gi M 94 8)) (Int64.toInt32 ((v1 >>> (Int32.toInt64 (8 * v4) &&& 63)) &&& 255))) 94 8 ((gi (si M 100 (ui (gi M 94 8)) (Int64.toInt32 ((v1 >>> (Int32.toInt64 (8 * v4) &&& 63)) &&& 255))) 94 8) + 1)) (v4 + 1))
set_option maxRecDepth 100000 in
theorem c_X12_feed (G : Gm) (M : Mm) (v1 : Int64) (v3 : Int32) : Ct fJ G miX12_feed (1) [.ref (ga G 94), .long v1, .int v3] M (F_X12_feed M v1 v3) := by
  refine Ct_of (pn_X12) (Nat.le_of_ble_eq_true rfl) ?_
  refine X_lv [0, 1, 2] (lv' := [(0, .ref (ga G 94)), (1, .long v1), (3, .int v3)]) rfl ?_
  unfold F_X12_feed
  refine X_iload_n (a := 2) dX12_feed_0 rfl rfl rfl ?_
  refine X_i2l dX12_feed_1 rfl rfl ?_
  refine X_lconst (w := 1) dX12_feed_2 kl_1 rfl ?_
  refine X_ldc2 (w := 8) dX12_feed_3 t_1422 rfl ?_
  refine X_ruI (Ru_S (st := []) cs_X12_61 (c_X12_in G M (Int32.toInt64 v3) 1 8) (by decide) rfl rfl (Nat.le_of_ble_eq_true rfl) dX12_feed_6) rfl (fun r6 => ?_)
  refine X_if_ne (tgt := 14) dX12_feed_9 rfl rfl (fun e9 => ?_) (fun e9 => ?_)
  · refine X_aload_n (a := 0) dX12_feed_14 rfl rfl rfl ?_
    refine X_getI fl_X12_171 rfl dX12_feed_15 rfl ?_
    refine X_iload_n (a := 2) dX12_feed_18 rfl rfl rfl ?_
    refine X_iadd dX12_feed_19 rfl ?_
    refine X_sipush (w := 200) dX12_feed_20 ks_200 rfl ?_
    refine X_icmp_le (tgt := 29) dX12_feed_23 rfl rfl (fun e23 => ?_) (fun e23 => ?_)
    · refine X_iconst (w := 0) dX12_feed_29 ki_0 rfl ?_
      refine X_istore (lv2 := [(4, .int 0), (0, .ref (ga G 94)), (1, .long v1), (3, .int v3)]) dX12_feed_30 (by decide) rfl rfl ?_
      exact X_lv [1, 2, 3, 0] rfl (x_X12_feed_L32 G v1 v3 1000 M 0)
    · refine X_bipush (w := (-2)) dX12_feed_26 kb_m2 rfl ?_
      exact X_iretJ rfl dX12_feed_28
  · refine X_iconst (w := (-1)) dX12_feed_12 ki_m1 rfl ?_
    exact X_iretJ rfl dX12_feed_13
set_option maxRecDepth 100000 in
theorem c_X12_isRow (G : Gm) (M : Mm) (v1 : Int32) (v2 : Int32) : Ct (fI M) G miX12_isRow (1) [.ref (ga G 94), .int v1, .int v2] M (F_X12_isRow M v1 v2) := by
  refine Ct_of (pn_X12) (Nat.le_of_ble_eq_true rfl) ?_
  refine X_lv [0, 1, 2] (lv' := [(0, .ref (ga G 94)), (1, .int v1), (2, .int v2)]) rfl ?_
  unfold F_X12_isRow
  refine X_aload_n (a := 0) dX12_isRow_0 rfl rfl rfl ?_
  refine X_getI fl_X12_176 rfl dX12_isRow_1 rfl ?_
  refine X_aload_n (a := 0) dX12_isRow_4 rfl rfl rfl ?_
  refine X_getI fl_X12_171 rfl dX12_isRow_5 rfl ?_
  refine X_icmp_ge (tgt := 35) dX12_isRow_8 rfl rfl (fun e8 => ?_) (fun e8 => ?_)
  · refine X_iconst (w := 0) dX12_isRow_35 ki_0 rfl ?_
    exact X_zretI rfl dX12_isRow_36
  · refine X_aload_n (a := 0) dX12_isRow_11 rfl rfl rfl ?_
    refine X_getR (t := 100) fl_X12_25 rfl rfl dX12_isRow_12 rfl ?_
    refine X_aload_n (a := 0) dX12_isRow_15 rfl rfl rfl ?_
    refine X_getI fl_X12_176 rfl dX12_isRow_16 rfl ?_
    refine X_iald rfl rfl dX12_isRow_19 rfl ?_
    refine X_i2l dX12_isRow_20 rfl rfl ?_
    refine X_iload_n (a := 1) dX12_isRow_21 rfl rfl rfl ?_
    refine X_i2l dX12_isRow_22 rfl rfl ?_
    refine X_iload_n (a := 2) dX12_isRow_23 rfl rfl rfl ?_
    refine X_i2l dX12_isRow_24 rfl rfl ?_
    refine X_ruI (Ru_S (st := []) cs_X12_61 (c_X12_in G M (Int32.toInt64 (gi M 100 (ui (gi M 94 9)))) (Int32.toInt64 v1) (Int32.toInt64 v2)) (by decide) rfl rfl (Nat.le_of_ble_eq_true rfl) dX12_isRow_25) rfl (fun r25 => ?_)
    refine X_if_eq (tgt := 35) dX12_isRow_28 rfl rfl (fun e28 => ?_) (fun e28 => ?_)
    · refine X_iconst (w := 0) dX12_isRow_35 ki_0 rfl ?_
      exact X_zretI rfl dX12_isRow_36
    · refine X_iconst (w := 1) dX12_isRow_31 ki_1 rfl ?_
      refine X_goto (tgt := 36) dX12_isRow_32 rfl ?_
      exact X_zretI rfl dX12_isRow_36
set_option maxRecDepth 100000 in
theorem x_X12_next_L206 (G : Gm) : ∀ (n : Nat) (M : Mm), X fV G miX12_next (2) 206 [(0, .ref (ga G 94))] [] M (F_X12_next_L206 n M) := by
  intro n
  induction n with
  | zero => intro M; exact X_none
  | succ n ih =>
    intro M
    rw [F_X12_next_L206]
    refine X_aload_n (a := 0) dX12_next_206 rfl rfl rfl ?_
    refine X_bipush (w := 48) dX12_next_207 kb_48 rfl ?_
    refine X_bipush (w := 57) dX12_next_209 kb_57 rfl ?_
    refine X_ruI (Ru_V (st := []) cv_X12_189 rfl (c_X12_isRow G M 48 57) (by decide) rfl rfl (Nat.le_of_ble_eq_true rfl) dX12_next_211) rfl (fun r211 => ?_)
    refine X_if_eq (tgt := 276) dX12_next_214 rfl rfl (fun e214 => ?_) (fun e214 => ?_)
    · refine X_aload_n (a := 0) dX12_next_276 rfl rfl rfl ?_
      refine X_aload_n (a := 0) dX12_next_277 rfl rfl rfl ?_
      refine X_getI fl_X12_176 rfl dX12_next_278 rfl ?_
      refine X_aload_n (a := 0) dX12_next_281 rfl rfl rfl ?_
      refine X_getI fl_X12_179 rfl dX12_next_282 rfl ?_
      refine X_isub dX12_next_285 rfl ?_
      refine X_iconst (w := 4) dX12_next_286 ki_4 rfl ?_
      refine X_icmp_le (tgt := 296) dX12_next_287 rfl rfl (fun e287 => ?_) (fun e287 => ?_)
      · refine X_aload_n (a := 0) dX12_next_296 rfl rfl rfl ?_
        refine X_getL fl_X12_182 rfl dX12_next_297 rfl ?_
        refine X_putL fp_X12_182 long_u dX12_next_300 rfl ?_
        refine X_goto (tgt := 335) dX12_next_303 rfl ?_
        exact X_vret rfl dX12_next_335
      · refine X_ldc2 (w := 100000) dX12_next_290 t_1441 rfl ?_
        refine X_goto (tgt := 300) dX12_next_293 rfl ?_
        refine X_putL fp_X12_182 long_u dX12_next_300 rfl ?_
        refine X_goto (tgt := 335) dX12_next_303 rfl ?_
        exact X_vret rfl dX12_next_335
    · refine X_aload_n (a := 0) dX12_next_217 rfl rfl rfl ?_
      refine X_aload_n (a := 0) dX12_next_218 rfl rfl rfl ?_
      refine X_getI fl_X12_176 rfl dX12_next_219 rfl ?_
      refine X_aload_n (a := 0) dX12_next_222 rfl rfl rfl ?_
      refine X_getI fl_X12_179 rfl dX12_next_223 rfl ?_
      refine X_isub dX12_next_226 rfl ?_
      refine X_iconst (w := 4) dX12_next_227 ki_4 rfl ?_
      refine X_jc (P := fun j => ∀ (x260_0 : Int64), X fV G miX12_next (2) 260 [(0, .ref (ga G 94))] [.long x260_0, .ref (ga G 94)] M (j x260_0)) (fun x260_0 => ?_) (fun j260 hj260 => ?_)
      · refine X_putL fp_X12_182 long_u dX12_next_260 rfl ?_
        refine X_aload_n (a := 0) dX12_next_263 rfl rfl rfl ?_
        refine X_dup dX12_next_264 rfl rfl ?_
        refine X_getI fl_X12_176 rfl dX12_next_265 rfl ?_
        refine X_iconst (w := 1) dX12_next_268 ki_1 rfl ?_
        refine X_iadd dX12_next_269 rfl ?_
        refine X_putI fp_X12_176 rfl dX12_next_270 rfl ?_
        refine X_goto (tgt := 206) dX12_next_273 rfl ?_
        exact X_lv [0] rfl (ih (si (sl M x260_0) 94 9 ((gi (sl M x260_0) 94 9) + 1)))
      refine X_icmp_ge (tgt := 257) dX12_next_228 rfl rfl (fun e228 => ?_) (fun e228 => ?_)
      · refine X_ldc2 (w := 100000) dX12_next_257 t_1441 rfl ?_
        exact X_lv [0] rfl (hj260 100000)
      · refine X_ldc2 (w := 10) dX12_next_231 t_1439 rfl ?_
        refine X_aload_n (a := 0) dX12_next_234 rfl rfl rfl ?_
        refine X_getL fl_X12_182 rfl dX12_next_235 rfl ?_
        refine X_lmul dX12_next_238 rfl ?_
        refine X_aload_n (a := 0) dX12_next_239 rfl rfl rfl ?_
        refine X_getR (t := 100) fl_X12_25 rfl rfl dX12_next_240 rfl ?_
        refine X_aload_n (a := 0) dX12_next_243 rfl rfl rfl ?_
        refine X_getI fl_X12_176 rfl dX12_next_244 rfl ?_
        refine X_iald rfl rfl dX12_next_247 rfl ?_
        refine X_i2l dX12_next_248 rfl rfl ?_
        refine X_ladd dX12_next_249 rfl ?_
        refine X_ldc2 (w := 48) dX12_next_250 t_1440 rfl ?_
        refine X_lsub dX12_next_253 rfl ?_
        refine X_goto (tgt := 260) dX12_next_254 rfl ?_
        exact X_lv [0] rfl (hj260 (((10 * (gl M)) + (Int32.toInt64 (gi M 100 (ui (gi M 94 9))))) - 48))
set_option maxRecDepth 100000 in
theorem x_X12_next_L86 (G : Gm) : ∀ (n : Nat) (M : Mm), X fV G miX12_next (2) 86 [(0, .ref (ga G 94))] [] M (F_X12_next_L86 n M) := by
  intro n
  induction n with
  | zero => intro M; exact X_none
  | succ n ih =>
    intro M
    rw [F_X12_next_L86]
    refine X_aload_n (a := 0) dX12_next_86 rfl rfl rfl ?_
    refine X_bipush (w := 97) dX12_next_87 kb_97 rfl ?_
    refine X_bipush (w := 122) dX12_next_89 kb_122 rfl ?_
    refine X_ruI (Ru_V (st := []) cv_X12_189 rfl (c_X12_isRow G M 97 122) (by decide) rfl rfl (Nat.le_of_ble_eq_true rfl) dX12_next_91) rfl (fun r91 => ?_)
    refine X_if_eq (tgt := 159) dX12_next_94 rfl rfl (fun e94 => ?_) (fun e94 => ?_)
    · refine X_aload_n (a := 0) dX12_next_159 rfl rfl rfl ?_
      refine X_aload_n (a := 0) dX12_next_160 rfl rfl rfl ?_
      refine X_getI fl_X12_176 rfl dX12_next_161 rfl ?_
      refine X_aload_n (a := 0) dX12_next_164 rfl rfl rfl ?_
      refine X_getI fl_X12_179 rfl dX12_next_165 rfl ?_
      refine X_isub dX12_next_168 rfl ?_
      refine X_bipush (w := 7) dX12_next_169 kb_7 rfl ?_
      refine X_icmp_le (tgt := 180) dX12_next_171 rfl rfl (fun e171 => ?_) (fun e171 => ?_)
      · refine X_aload_n (a := 0) dX12_next_180 rfl rfl rfl ?_
        refine X_getL fl_X12_182 rfl dX12_next_181 rfl ?_
        refine X_putL fp_X12_182 long_u dX12_next_184 rfl ?_
        refine X_goto (tgt := 335) dX12_next_187 rfl ?_
        exact X_vret rfl dX12_next_335
      · refine X_ldc2 (w := (-1)) dX12_next_174 t_1438 rfl ?_
        refine X_goto (tgt := 184) dX12_next_177 rfl ?_
        refine X_putL fp_X12_182 long_u dX12_next_184 rfl ?_
        refine X_goto (tgt := 335) dX12_next_187 rfl ?_
        exact X_vret rfl dX12_next_335
    · refine X_aload_n (a := 0) dX12_next_97 rfl rfl rfl ?_
      refine X_aload_n (a := 0) dX12_next_98 rfl rfl rfl ?_
      refine X_getI fl_X12_176 rfl dX12_next_99 rfl ?_
      refine X_aload_n (a := 0) dX12_next_102 rfl rfl rfl ?_
      refine X_getI fl_X12_179 rfl dX12_next_103 rfl ?_
      refine X_isub dX12_next_106 rfl ?_
      refine X_bipush (w := 7) dX12_next_107 kb_7 rfl ?_
      refine X_jc (P := fun j => ∀ (x143_0 : Int64), X fV G miX12_next (2) 143 [(0, .ref (ga G 94))] [.long x143_0, .ref (ga G 94)] M (j x143_0)) (fun x143_0 => ?_) (fun j143 hj143 => ?_)
      · refine X_putL fp_X12_182 long_u dX12_next_143 rfl ?_
        refine X_aload_n (a := 0) dX12_next_146 rfl rfl rfl ?_
        refine X_dup dX12_next_147 rfl rfl ?_
        refine X_getI fl_X12_176 rfl dX12_next_148 rfl ?_
        refine X_iconst (w := 1) dX12_next_151 ki_1 rfl ?_
        refine X_iadd dX12_next_152 rfl ?_
        refine X_putI fp_X12_176 rfl dX12_next_153 rfl ?_
        refine X_goto (tgt := 86) dX12_next_156 rfl ?_
        exact X_lv [0] rfl (ih (si (sl M x143_0) 94 9 ((gi (sl M x143_0) 94 9) + 1)))
      refine X_icmp_ge (tgt := 140) dX12_next_109 rfl rfl (fun e109 => ?_) (fun e109 => ?_)
      · refine X_ldc2 (w := (-1)) dX12_next_140 t_1438 rfl ?_
        exact X_lv [0] rfl (hj143 (-1))
      · refine X_ldc2 (w := 27) dX12_next_112 t_1436 rfl ?_
        refine X_aload_n (a := 0) dX12_next_115 rfl rfl rfl ?_
        refine X_getL fl_X12_182 rfl dX12_next_116 rfl ?_
        refine X_lmul dX12_next_119 rfl ?_
        refine X_aload_n (a := 0) dX12_next_120 rfl rfl rfl ?_
        refine X_getR (t := 100) fl_X12_25 rfl rfl dX12_next_121 rfl ?_
        refine X_aload_n (a := 0) dX12_next_124 rfl rfl rfl ?_
        refine X_getI fl_X12_176 rfl dX12_next_125 rfl ?_
        refine X_iald rfl rfl dX12_next_128 rfl ?_
        refine X_i2l dX12_next_129 rfl rfl ?_
        refine X_ladd dX12_next_130 rfl ?_
        refine X_ldc2 (w := 97) dX12_next_131 t_1437 rfl ?_
        refine X_lsub dX12_next_134 rfl ?_
        refine X_lconst (w := 1) dX12_next_135 kl_1 rfl ?_
        refine X_ladd dX12_next_136 rfl ?_
        refine X_goto (tgt := 143) dX12_next_137 rfl ?_
        exact X_lv [0] rfl (hj143 ((((27 * (gl M)) + (Int32.toInt64 (gi M 100 (ui (gi M 94 9))))) - 97) + 1))
set_option maxRecDepth 100000 in
theorem x_X12_next_L0 (G : Gm) : ∀ (n : Nat) (M : Mm), X fV G miX12_next (2) 0 [(0, .ref (ga G 94))] [] M (F_X12_next_L0 n M) := by
  intro n
  induction n with
  | zero => intro M; exact X_none
  | succ n ih =>
    intro M
    rw [F_X12_next_L0]
    refine X_aload_n (a := 0) dX12_next_0 rfl rfl rfl ?_
    refine X_getI fl_X12_176 rfl dX12_next_1 rfl ?_
    refine X_aload_n (a := 0) dX12_next_4 rfl rfl rfl ?_
    refine X_getI fl_X12_171 rfl dX12_next_5 rfl ?_
    refine X_jc (P := fun j => X fV G miX12_next (2) 38 [(0, .ref (ga G 94))] [] M (j)) (?_) (fun j38 hj38 => ?_)
    · refine X_aload_n (a := 0) dX12_next_38 rfl rfl rfl ?_
      refine X_aload_n (a := 0) dX12_next_39 rfl rfl rfl ?_
      refine X_getI fl_X12_176 rfl dX12_next_40 rfl ?_
      refine X_putI fp_X12_179 rfl dX12_next_43 rfl ?_
      refine X_aload_n (a := 0) dX12_next_46 rfl rfl rfl ?_
      refine X_lconst (w := 0) dX12_next_47 kl_0 rfl ?_
      refine X_putL fp_X12_182 long_u dX12_next_48 rfl ?_
      refine X_aload_n (a := 0) dX12_next_51 rfl rfl rfl ?_
      refine X_getI fl_X12_176 rfl dX12_next_52 rfl ?_
      refine X_aload_n (a := 0) dX12_next_55 rfl rfl rfl ?_
      refine X_getI fl_X12_171 rfl dX12_next_56 rfl ?_
      refine X_icmp_ne (tgt := 70) dX12_next_59 rfl rfl (fun e59 => ?_) (fun e59 => ?_)
      · refine X_aload_n (a := 0) dX12_next_70 rfl rfl rfl ?_
        refine X_bipush (w := 97) dX12_next_71 kb_97 rfl ?_
        refine X_bipush (w := 122) dX12_next_73 kb_122 rfl ?_
        refine X_ruI (Ru_V (st := []) cv_X12_189 rfl (c_X12_isRow G (sl (si M 94 10 (gi M 94 9)) 0) 97 122) (by decide) rfl rfl (Nat.le_of_ble_eq_true rfl) dX12_next_75) rfl (fun r75 => ?_)
        refine X_if_eq (tgt := 190) dX12_next_78 rfl rfl (fun e78 => ?_) (fun e78 => ?_)
        · refine X_aload_n (a := 0) dX12_next_190 rfl rfl rfl ?_
          refine X_bipush (w := 48) dX12_next_191 kb_48 rfl ?_
          refine X_bipush (w := 57) dX12_next_193 kb_57 rfl ?_
          refine X_ruI (Ru_V (st := []) cv_X12_189 rfl (c_X12_isRow G (sl (si M 94 10 (gi M 94 9)) 0) 48 57) (by decide) rfl rfl (Nat.le_of_ble_eq_true rfl) dX12_next_195) rfl (fun r195 => ?_)
          refine X_if_eq (tgt := 306) dX12_next_198 rfl rfl (fun e198 => ?_) (fun e198 => ?_)
          · refine X_aload_n (a := 0) dX12_next_306 rfl rfl rfl ?_
            refine X_iconst (w := 3) dX12_next_307 ki_3 rfl ?_
            refine X_putI fp_X12_186 rfl dX12_next_308 rfl ?_
            refine X_aload_n (a := 0) dX12_next_311 rfl rfl rfl ?_
            refine X_aload_n (a := 0) dX12_next_312 rfl rfl rfl ?_
            refine X_getR (t := 100) fl_X12_25 rfl rfl dX12_next_313 rfl ?_
            refine X_aload_n (a := 0) dX12_next_316 rfl rfl rfl ?_
            refine X_getI fl_X12_176 rfl dX12_next_317 rfl ?_
            refine X_iald rfl rfl dX12_next_320 rfl ?_
            refine X_i2l dX12_next_321 rfl rfl ?_
            refine X_putL fp_X12_182 long_u dX12_next_322 rfl ?_
            refine X_aload_n (a := 0) dX12_next_325 rfl rfl rfl ?_
            refine X_dup dX12_next_326 rfl rfl ?_
            refine X_getI fl_X12_176 rfl dX12_next_327 rfl ?_
            refine X_iconst (w := 1) dX12_next_330 ki_1 rfl ?_
            refine X_iadd dX12_next_331 rfl ?_
            refine X_putI fp_X12_176 rfl dX12_next_332 rfl ?_
            exact X_vret rfl dX12_next_335
          · refine X_aload_n (a := 0) dX12_next_201 rfl rfl rfl ?_
            refine X_iconst (w := 2) dX12_next_202 ki_2 rfl ?_
            refine X_putI fp_X12_186 rfl dX12_next_203 rfl ?_
            exact X_lv [0] rfl (x_X12_next_L206 G 1000 (si (sl (si M 94 10 (gi M 94 9)) 0) 94 11 2))
        · refine X_aload_n (a := 0) dX12_next_81 rfl rfl rfl ?_
          refine X_iconst (w := 1) dX12_next_82 ki_1 rfl ?_
          refine X_putI fp_X12_186 rfl dX12_next_83 rfl ?_
          exact X_lv [0] rfl (x_X12_next_L86 G 1000 (si (sl (si M 94 10 (gi M 94 9)) 0) 94 11 1))
      · refine X_aload_n (a := 0) dX12_next_62 rfl rfl rfl ?_
        refine X_iconst (w := 0) dX12_next_63 ki_0 rfl ?_
        refine X_putI fp_X12_186 rfl dX12_next_64 rfl ?_
        refine X_goto (tgt := 335) dX12_next_67 rfl ?_
        exact X_vret rfl dX12_next_335
    refine X_icmp_ge (tgt := 38) dX12_next_8 rfl rfl (fun e8 => ?_) (fun e8 => ?_)
    · exact X_lv [0] rfl (hj38)
    · refine X_aload_n (a := 0) dX12_next_11 rfl rfl rfl ?_
      refine X_getR (t := 100) fl_X12_25 rfl rfl dX12_next_12 rfl ?_
      refine X_aload_n (a := 0) dX12_next_15 rfl rfl rfl ?_
      refine X_getI fl_X12_176 rfl dX12_next_16 rfl ?_
      refine X_iald rfl rfl dX12_next_19 rfl ?_
      refine X_bipush (w := 32) dX12_next_20 kb_32 rfl ?_
      refine X_icmp_ne (tgt := 38) dX12_next_22 rfl rfl (fun e22 => ?_) (fun e22 => ?_)
      · exact X_lv [0] rfl (hj38)
      · refine X_aload_n (a := 0) dX12_next_25 rfl rfl rfl ?_
        refine X_dup dX12_next_26 rfl rfl ?_
        refine X_getI fl_X12_176 rfl dX12_next_27 rfl ?_
        refine X_iconst (w := 1) dX12_next_30 ki_1 rfl ?_
        refine X_iadd dX12_next_31 rfl ?_
        refine X_putI fp_X12_176 rfl dX12_next_32 rfl ?_
        refine X_goto (tgt := 0) dX12_next_35 rfl ?_
        exact X_lv [0] rfl (ih (si M 94 9 ((gi M 94 9) + 1)))
set_option maxRecDepth 100000 in
theorem c_X12_next (G : Gm) (M : Mm) : Ct fV G miX12_next (2) [.ref (ga G 94)] M (F_X12_next M) := by
  refine Ct_of (pn_X12) (Nat.le_of_ble_eq_true rfl) ?_
  refine X_lv [0] (lv' := [(0, .ref (ga G 94))]) rfl ?_
  unfold F_X12_next
  exact X_lv [0] rfl (x_X12_next_L0 G 1000 M)
set_option maxRecDepth 100000 in
theorem c_X12_isWord (G : Gm) (M : Mm) (v1 : Int64) : Ct (fI M) G miX12_isWord (0) [.ref (ga G 94), .long v1] M (F_X12_isWord M v1) := by
  refine Ct_of (pn_X12) (Nat.le_of_ble_eq_true rfl) ?_
  refine X_lv [0, 1] (lv' := [(0, .ref (ga G 94)), (1, .long v1)]) rfl ?_
  unfold F_X12_isWord
  refine X_aload_n (a := 0) dX12_isWord_0 rfl rfl rfl ?_
  refine X_getI fl_X12_186 rfl dX12_isWord_1 rfl ?_
  refine X_iconst (w := 1) dX12_isWord_4 ki_1 rfl ?_
  refine X_icmp_ne (tgt := 28) dX12_isWord_5 rfl rfl (fun e5 => ?_) (fun e5 => ?_)
  · refine X_iconst (w := 0) dX12_isWord_28 ki_0 rfl ?_
    exact X_zretI rfl dX12_isWord_29
  · refine X_aload_n (a := 0) dX12_isWord_8 rfl rfl rfl ?_
    refine X_getL fl_X12_182 rfl dX12_isWord_9 rfl ?_
    refine X_lload_n (a := 1) dX12_isWord_12 rfl rfl rfl ?_
    refine X_lcmp dX12_isWord_13 rfl ?_
    refine X_if_ne (tgt := 28) dX12_isWord_14 rfl rfl (fun e14 => ?_) (fun e14 => ?_)
    · refine X_iconst (w := 0) dX12_isWord_28 ki_0 rfl ?_
      exact X_zretI rfl dX12_isWord_29
    · refine X_aload_n (a := 0) dX12_isWord_17 rfl rfl rfl ?_
      refine X_getI fl_X12_205 rfl dX12_isWord_18 rfl ?_
      refine X_if_ne (tgt := 28) dX12_isWord_21 rfl rfl (fun e21 => ?_) (fun e21 => ?_)
      · refine X_iconst (w := 0) dX12_isWord_28 ki_0 rfl ?_
        exact X_zretI rfl dX12_isWord_29
      · refine X_iconst (w := 1) dX12_isWord_24 ki_1 rfl ?_
        refine X_goto (tgt := 29) dX12_isWord_25 rfl ?_
        exact X_zretI rfl dX12_isWord_29
set_option maxRecDepth 100000 in
theorem c_X12_isByte (G : Gm) (M : Mm) (v1 : Int32) : Ct (fI M) G miX12_isByte (0) [.ref (ga G 94), .int v1] M (F_X12_isByte M v1) := by
  refine Ct_of (pn_X12) (Nat.le_of_ble_eq_true rfl) ?_
  refine X_lv [0, 1] (lv' := [(0, .ref (ga G 94)), (1, .int v1)]) rfl ?_
  unfold F_X12_isByte
  refine X_aload_n (a := 0) dX12_isByte_0 rfl rfl rfl ?_
  refine X_getI fl_X12_186 rfl dX12_isByte_1 rfl ?_
  refine X_iconst (w := 3) dX12_isByte_4 ki_3 rfl ?_
  refine X_icmp_ne (tgt := 29) dX12_isByte_5 rfl rfl (fun e5 => ?_) (fun e5 => ?_)
  · refine X_iconst (w := 0) dX12_isByte_29 ki_0 rfl ?_
    exact X_zretI rfl dX12_isByte_30
  · refine X_aload_n (a := 0) dX12_isByte_8 rfl rfl rfl ?_
    refine X_getL fl_X12_182 rfl dX12_isByte_9 rfl ?_
    refine X_iload_n (a := 1) dX12_isByte_12 rfl rfl rfl ?_
    refine X_i2l dX12_isByte_13 rfl rfl ?_
    refine X_lcmp dX12_isByte_14 rfl ?_
    refine X_if_ne (tgt := 29) dX12_isByte_15 rfl rfl (fun e15 => ?_) (fun e15 => ?_)
    · refine X_iconst (w := 0) dX12_isByte_29 ki_0 rfl ?_
      exact X_zretI rfl dX12_isByte_30
    · refine X_aload_n (a := 0) dX12_isByte_18 rfl rfl rfl ?_
      refine X_getI fl_X12_205 rfl dX12_isByte_19 rfl ?_
      refine X_if_ne (tgt := 29) dX12_isByte_22 rfl rfl (fun e22 => ?_) (fun e22 => ?_)
      · refine X_iconst (w := 0) dX12_isByte_29 ki_0 rfl ?_
        exact X_zretI rfl dX12_isByte_30
      · refine X_iconst (w := 1) dX12_isByte_25 ki_1 rfl ?_
        refine X_goto (tgt := 30) dX12_isByte_26 rfl ?_
        exact X_zretI rfl dX12_isByte_30
set_option maxRecDepth 100000 in
theorem c_X12_lays (G : Gm) (M : Mm) (v1 : Int32) : Ct fV G miX12_lays (0) [.ref (ga G 94), .int v1] M (F_X12_lays M v1) := by
  refine Ct_of (pn_X12) (Nat.le_of_ble_eq_true rfl) ?_
  refine X_lv [0, 1] (lv' := [(0, .ref (ga G 94)), (1, .int v1)]) rfl ?_
  unfold F_X12_lays
  refine X_aload_n (a := 0) dX12_lays_0 rfl rfl rfl ?_
  refine X_getI fl_X12_205 rfl dX12_lays_1 rfl ?_
  refine X_if_ne (tgt := 27) dX12_lays_4 rfl rfl (fun e4 => ?_) (fun e4 => ?_)
  · exact X_vret rfl dX12_lays_27
  · refine X_aload_n (a := 0) dX12_lays_7 rfl rfl rfl ?_
    refine X_getR (t := 101) fl_X12_28 rfl rfl dX12_lays_8 rfl ?_
    refine X_aload_n (a := 0) dX12_lays_11 rfl rfl rfl ?_
    refine X_getI fl_X12_209 rfl dX12_lays_12 rfl ?_
    refine X_iload_n (a := 1) dX12_lays_15 rfl rfl rfl ?_
    refine X_iast rfl rfl dX12_lays_16 rfl ?_
    refine X_aload_n (a := 0) dX12_lays_17 rfl rfl rfl ?_
    refine X_dup dX12_lays_18 rfl rfl ?_
    refine X_getI fl_X12_209 rfl dX12_lays_19 rfl ?_
    refine X_iconst (w := 1) dX12_lays_22 ki_1 rfl ?_
    refine X_iadd dX12_lays_23 rfl ?_
    refine X_putI fp_X12_209 rfl dX12_lays_24 rfl ?_
    exact X_vret rfl dX12_lays_27
set_option maxRecDepth 100000 in
theorem c_X12_kindHere (G : Gm) (M : Mm) : Ct (fI M) G miX12_kindHere (1) [.ref (ga G 94)] M (F_X12_kindHere M) := by
  refine Ct_of (pn_X12) (Nat.le_of_ble_eq_true rfl) ?_
  refine X_lv [0] (lv' := [(0, .ref (ga G 94))]) rfl ?_
  unfold F_X12_kindHere
  refine X_aload_n (a := 0) dX12_kindHere_0 rfl rfl rfl ?_
  refine X_ldc2 (w := 29596818) dX12_kindHere_1 t_1450 rfl ?_
  refine X_ruI (Ru_V (st := []) cv_X12_214 rfl (c_X12_isWord G M 29596818) (by decide) rfl rfl (Nat.le_of_ble_eq_true rfl) dX12_kindHere_4) rfl (fun r4 => ?_)
  refine X_if_eq (tgt := 14) dX12_kindHere_7 rfl rfl (fun e7 => ?_) (fun e7 => ?_)
  · refine X_aload_n (a := 0) dX12_kindHere_14 rfl rfl rfl ?_
    refine X_ldc2 (w := 16085) dX12_kindHere_15 t_1455 rfl ?_
    refine X_ruI (Ru_V (st := []) cv_X12_214 rfl (c_X12_isWord G M 16085) (by decide) rfl rfl (Nat.le_of_ble_eq_true rfl) dX12_kindHere_18) rfl (fun r18 => ?_)
    refine X_if_eq (tgt := 28) dX12_kindHere_21 rfl rfl (fun e21 => ?_) (fun e21 => ?_)
    · refine X_aload_n (a := 0) dX12_kindHere_28 rfl rfl rfl ?_
      refine X_ldc2 (w := 15161) dX12_kindHere_29 t_1456 rfl ?_
      refine X_ruI (Ru_V (st := []) cv_X12_214 rfl (c_X12_isWord G M 15161) (by decide) rfl rfl (Nat.le_of_ble_eq_true rfl) dX12_kindHere_32) rfl (fun r32 => ?_)
      refine X_if_eq (tgt := 42) dX12_kindHere_35 rfl rfl (fun e35 => ?_) (fun e35 => ?_)
      · refine X_aload_n (a := 0) dX12_kindHere_42 rfl rfl rfl ?_
        refine X_ldc2 (w := 55235) dX12_kindHere_43 t_1457 rfl ?_
        refine X_ruI (Ru_V (st := []) cv_X12_214 rfl (c_X12_isWord G M 55235) (by decide) rfl rfl (Nat.le_of_ble_eq_true rfl) dX12_kindHere_46) rfl (fun r46 => ?_)
        refine X_if_eq (tgt := 56) dX12_kindHere_49 rfl rfl (fun e49 => ?_) (fun e49 => ?_)
        · refine X_aload_n (a := 0) dX12_kindHere_56 rfl rfl rfl ?_
          refine X_ldc2 (w := 8161) dX12_kindHere_57 t_1458 rfl ?_
          refine X_ruI (Ru_V (st := []) cv_X12_214 rfl (c_X12_isWord G M 8161) (by decide) rfl rfl (Nat.le_of_ble_eq_true rfl) dX12_kindHere_60) rfl (fun r60 => ?_)
          refine X_if_eq (tgt := 70) dX12_kindHere_63 rfl rfl (fun e63 => ?_) (fun e63 => ?_)
          · refine X_aload_n (a := 0) dX12_kindHere_70 rfl rfl rfl ?_
            refine X_ldc2 (w := 60302) dX12_kindHere_71 t_1459 rfl ?_
            refine X_ruI (Ru_V (st := []) cv_X12_214 rfl (c_X12_isWord G M 60302) (by decide) rfl rfl (Nat.le_of_ble_eq_true rfl) dX12_kindHere_74) rfl (fun r74 => ?_)
            refine X_if_eq (tgt := 84) dX12_kindHere_77 rfl rfl (fun e77 => ?_) (fun e77 => ?_)
            · refine X_iconst (w := (-1)) dX12_kindHere_84 ki_m1 rfl ?_
              exact X_iretI rfl dX12_kindHere_85
            · refine X_iconst (w := 5) dX12_kindHere_80 ki_5 rfl ?_
              refine X_goto (tgt := 85) dX12_kindHere_81 rfl ?_
              exact X_iretI rfl dX12_kindHere_85
          · refine X_iconst (w := 4) dX12_kindHere_66 ki_4 rfl ?_
            refine X_goto (tgt := 85) dX12_kindHere_67 rfl ?_
            exact X_iretI rfl dX12_kindHere_85
        · refine X_iconst (w := 3) dX12_kindHere_52 ki_3 rfl ?_
          refine X_goto (tgt := 85) dX12_kindHere_53 rfl ?_
          exact X_iretI rfl dX12_kindHere_85
      · refine X_iconst (w := 2) dX12_kindHere_38 ki_2 rfl ?_
        refine X_goto (tgt := 85) dX12_kindHere_39 rfl ?_
        exact X_iretI rfl dX12_kindHere_85
    · refine X_iconst (w := 1) dX12_kindHere_24 ki_1 rfl ?_
      refine X_goto (tgt := 85) dX12_kindHere_25 rfl ?_
      exact X_iretI rfl dX12_kindHere_85
  · refine X_iconst (w := 0) dX12_kindHere_10 ki_0 rfl ?_
    refine X_goto (tgt := 85) dX12_kindHere_11 rfl ?_
    exact X_iretI rfl dX12_kindHere_85
set_option maxRecDepth 100000 in
theorem c_X12_doHere (G : Gm) (M : Mm) : Ct (fI M) G miX12_doHere (1) [.ref (ga G 94)] M (F_X12_doHere M) := by
  refine Ct_of (pn_X12) (Nat.le_of_ble_eq_true rfl) ?_
  refine X_lv [0] (lv' := [(0, .ref (ga G 94))]) rfl ?_
  unfold F_X12_doHere
  refine X_aload_n (a := 0) dX12_doHere_0 rfl rfl rfl ?_
  refine X_ldc2 (w := 10492070) dX12_doHere_1 t_1505 rfl ?_
  refine X_ruI (Ru_V (st := []) cv_X12_214 rfl (c_X12_isWord G M 10492070) (by decide) rfl rfl (Nat.le_of_ble_eq_true rfl) dX12_doHere_4) rfl (fun r4 => ?_)
  refine X_if_eq (tgt := 14) dX12_doHere_7 rfl rfl (fun e7 => ?_) (fun e7 => ?_)
  · refine X_aload_n (a := 0) dX12_doHere_14 rfl rfl rfl ?_
    refine X_ldc2 (w := 6477035) dX12_doHere_15 t_1506 rfl ?_
    refine X_ruI (Ru_V (st := []) cv_X12_214 rfl (c_X12_isWord G M 6477035) (by decide) rfl rfl (Nat.le_of_ble_eq_true rfl) dX12_doHere_18) rfl (fun r18 => ?_)
    refine X_if_eq (tgt := 28) dX12_doHere_21 rfl rfl (fun e21 => ?_) (fun e21 => ?_)
    · refine X_aload_n (a := 0) dX12_doHere_28 rfl rfl rfl ?_
      refine X_ldc2 (w := 55060) dX12_doHere_29 t_1507 rfl ?_
      refine X_ruI (Ru_V (st := []) cv_X12_214 rfl (c_X12_isWord G M 55060) (by decide) rfl rfl (Nat.le_of_ble_eq_true rfl) dX12_doHere_32) rfl (fun r32 => ?_)
      refine X_if_eq (tgt := 42) dX12_doHere_35 rfl rfl (fun e35 => ?_) (fun e35 => ?_)
      · refine X_iconst (w := (-1)) dX12_doHere_42 ki_m1 rfl ?_
        exact X_iretI rfl dX12_doHere_43
      · refine X_iconst (w := 2) dX12_doHere_38 ki_2 rfl ?_
        refine X_goto (tgt := 43) dX12_doHere_39 rfl ?_
        exact X_iretI rfl dX12_doHere_43
    · refine X_iconst (w := 1) dX12_doHere_24 ki_1 rfl ?_
      refine X_goto (tgt := 43) dX12_doHere_25 rfl ?_
      exact X_iretI rfl dX12_doHere_43
  · refine X_iconst (w := 0) dX12_doHere_10 ki_0 rfl ?_
    refine X_goto (tgt := 43) dX12_doHere_11 rfl ?_
    exact X_iretI rfl dX12_doHere_43
set_option maxRecDepth 100000 in
theorem c_X12_factHere (G : Gm) (M : Mm) : Ct (fI M) G miX12_factHere (1) [.ref (ga G 94)] M (F_X12_factHere M) := by
  refine Ct_of (pn_X12) (Nat.le_of_ble_eq_true rfl) ?_
  refine X_lv [0] (lv' := [(0, .ref (ga G 94))]) rfl ?_
  unfold F_X12_factHere
  refine X_aload_n (a := 0) dX12_factHere_0 rfl rfl rfl ?_
  refine X_ldc2 (w := 400334) dX12_factHere_1 t_1490 rfl ?_
  refine X_ruI (Ru_V (st := []) cv_X12_214 rfl (c_X12_isWord G M 400334) (by decide) rfl rfl (Nat.le_of_ble_eq_true rfl) dX12_factHere_4) rfl (fun r4 => ?_)
  refine X_if_eq (tgt := 14) dX12_factHere_7 rfl rfl (fun e7 => ?_) (fun e7 => ?_)
  · refine X_aload_n (a := 0) dX12_factHere_14 rfl rfl rfl ?_
    refine X_ldc2 (w := 124995) dX12_factHere_15 t_1491 rfl ?_
    refine X_ruI (Ru_V (st := []) cv_X12_214 rfl (c_X12_isWord G M 124995) (by decide) rfl rfl (Nat.le_of_ble_eq_true rfl) dX12_factHere_18) rfl (fun r18 => ?_)
    refine X_if_eq (tgt := 28) dX12_factHere_21 rfl rfl (fun e21 => ?_) (fun e21 => ?_)
    · refine X_aload_n (a := 0) dX12_factHere_28 rfl rfl rfl ?_
      refine X_ldc2 (w := 1752851) dX12_factHere_29 t_1492 rfl ?_
      refine X_ruI (Ru_V (st := []) cv_X12_214 rfl (c_X12_isWord G M 1752851) (by decide) rfl rfl (Nat.le_of_ble_eq_true rfl) dX12_factHere_32) rfl (fun r32 => ?_)
      refine X_if_eq (tgt := 42) dX12_factHere_35 rfl rfl (fun e35 => ?_) (fun e35 => ?_)
      · refine X_aload_n (a := 0) dX12_factHere_42 rfl rfl rfl ?_
        refine X_ldc2 (w := 361373) dX12_factHere_43 t_1493 rfl ?_
        refine X_ruI (Ru_V (st := []) cv_X12_214 rfl (c_X12_isWord G M 361373) (by decide) rfl rfl (Nat.le_of_ble_eq_true rfl) dX12_factHere_46) rfl (fun r46 => ?_)
        refine X_if_eq (tgt := 56) dX12_factHere_49 rfl rfl (fun e49 => ?_) (fun e49 => ?_)
        · refine X_aload_n (a := 0) dX12_factHere_56 rfl rfl rfl ?_
          refine X_ldc2 (w := 212302449) dX12_factHere_57 t_1494 rfl ?_
          refine X_ruI (Ru_V (st := []) cv_X12_214 rfl (c_X12_isWord G M 212302449) (by decide) rfl rfl (Nat.le_of_ble_eq_true rfl) dX12_factHere_60) rfl (fun r60 => ?_)
          refine X_if_eq (tgt := 70) dX12_factHere_63 rfl rfl (fun e63 => ?_) (fun e63 => ?_)
          · refine X_iconst (w := (-1)) dX12_factHere_70 ki_m1 rfl ?_
            exact X_iretI rfl dX12_factHere_71
          · refine X_iconst (w := 4) dX12_factHere_66 ki_4 rfl ?_
            refine X_goto (tgt := 71) dX12_factHere_67 rfl ?_
            exact X_iretI rfl dX12_factHere_71
        · refine X_iconst (w := 3) dX12_factHere_52 ki_3 rfl ?_
          refine X_goto (tgt := 71) dX12_factHere_53 rfl ?_
          exact X_iretI rfl dX12_factHere_71
      · refine X_iconst (w := 2) dX12_factHere_38 ki_2 rfl ?_
        refine X_goto (tgt := 71) dX12_factHere_39 rfl ?_
        exact X_iretI rfl dX12_factHere_71
    · refine X_iconst (w := 1) dX12_factHere_24 ki_1 rfl ?_
      refine X_goto (tgt := 71) dX12_factHere_25 rfl ?_
      exact X_iretI rfl dX12_factHere_71
  · refine X_iconst (w := 0) dX12_factHere_10 ki_0 rfl ?_
    refine X_goto (tgt := 71) dX12_factHere_11 rfl ?_
    exact X_iretI rfl dX12_factHere_71
set_option maxRecDepth 100000 in
theorem c_X12_goesBy (G : Gm) (M : Mm) (v1 : Int32) : Ct fV G miX12_goesBy (3) [.ref (ga G 94), .int v1] M (F_X12_goesBy M v1) := by
  refine Ct_of (pn_X12) (Nat.le_of_ble_eq_true rfl) ?_
  refine X_lv [0, 1] (lv' := [(0, .ref (ga G 94)), (1, .int v1)]) rfl ?_
  unfold F_X12_goesBy
  refine X_aload_n (a := 0) dX12_goesBy_0 rfl rfl rfl ?_
  refine X_aload_n (a := 0) dX12_goesBy_1 rfl rfl rfl ?_
  refine X_getI fl_X12_205 rfl dX12_goesBy_2 rfl ?_
  refine X_jc (P := fun j => ∀ (x17_0 : Int32), X fV G miX12_goesBy (3) 17 [(0, .ref (ga G 94))] [.int x17_0, .ref (ga G 94)] M (j x17_0)) (fun x17_0 => ?_) (fun j17 hj17 => ?_)
  · refine X_putZ fp_X12_205 rfl dX12_goesBy_17 rfl ?_
    refine X_aload_n (a := 0) dX12_goesBy_20 rfl rfl rfl ?_
    refine X_getI fl_X12_205 rfl dX12_goesBy_21 rfl ?_
    refine X_if_ne (tgt := 31) dX12_goesBy_24 rfl rfl (fun e24 => ?_) (fun e24 => ?_)
    · exact X_vret rfl dX12_goesBy_31
    · refine X_aload_n (a := 0) dX12_goesBy_27 rfl rfl rfl ?_
      refine X_ruV (Ru_V (st := []) cv_X12_244 rfl (c_X12_next G (si M 94 13 x17_0)) (by decide) rfl rfl (Nat.le_of_ble_eq_true rfl) dX12_goesBy_28) rfl (fun r28 => ?_)
      exact X_vret rfl dX12_goesBy_31
  refine X_jc (P := fun j => X fV G miX12_goesBy (3) 12 [(0, .ref (ga G 94))] [.ref (ga G 94)] M (j)) (?_) (fun j12 hj12 => ?_)
  · refine X_iconst (w := 1) dX12_goesBy_12 ki_1 rfl ?_
    refine X_goto (tgt := 17) dX12_goesBy_13 rfl ?_
    exact X_lv [0] rfl (hj17 1)
  refine X_if_ne (tgt := 12) dX12_goesBy_5 rfl rfl (fun e5 => ?_) (fun e5 => ?_)
  · exact X_lv [0] rfl (hj12)
  · refine X_iload_n (a := 1) dX12_goesBy_8 rfl rfl rfl ?_
    refine X_if_ne (tgt := 16) dX12_goesBy_9 rfl rfl (fun e9 => ?_) (fun e9 => ?_)
    · refine X_iconst (w := 0) dX12_goesBy_16 ki_0 rfl ?_
      exact X_lv [0] rfl (hj17 0)
    · exact X_lv [0] rfl (hj12)
set_option maxRecDepth 100000 in
theorem c_X12_valueHere (G : Gm) (M : Mm) : Ct fV G miX12_valueHere (4) [.ref (ga G 94)] M (F_X12_valueHere M) := by
  refine Ct_of (pn_X12) (Nat.le_of_ble_eq_true rfl) ?_
  refine X_lv [0] (lv' := [(0, .ref (ga G 94))]) rfl ?_
  unfold F_X12_valueHere
  refine X_aload_n (a := 0) dX12_valueHere_0 rfl rfl rfl ?_
  refine X_ruI (Ru_V (st := []) cv_X12_247 rfl (c_X12_factHere G M) (by decide) rfl rfl (Nat.le_of_ble_eq_true rfl) dX12_valueHere_1) rfl (fun r1 => ?_)
  refine X_istore_n (lv2 := [(1, .int r1), (0, .ref (ga G 94))]) dX12_valueHere_4 rfl (by decide) rfl rfl ?_
  refine X_aload_n (a := 1) dX12_valueHere_5 rfl rfl rfl ?_
  refine X_getI fl_X12_186 rfl dX12_valueHere_6 rfl ?_
  refine X_iconst (w := 2) dX12_valueHere_9 ki_2 rfl ?_
  refine X_jc (P := fun j => ∀ (x29_0 : Int32), X fV G miX12_valueHere (4) 29 [(0, .ref (ga G 94)), (1, .int r1)] [.int x29_0] M (j x29_0)) (fun x29_0 => ?_) (fun j29 hj29 => ?_)
  · refine X_istore_n (lv2 := [(2, .int x29_0), (0, .ref (ga G 94)), (1, .int r1)]) dX12_valueHere_29 rfl (by decide) rfl rfl ?_
    refine X_aload_n (a := 1) dX12_valueHere_30 rfl rfl rfl ?_
    refine X_iload_n (a := 2) dX12_valueHere_31 rfl rfl rfl ?_
    refine X_jc (P := fun j => ∀ (x56_0 : Int32), X fV G miX12_valueHere (4) 56 [(0, .ref (ga G 94)), (1, .int r1), (2, .int x29_0)] [.int x56_0, .ref (ga G 94)] M (j x56_0)) (fun x56_0 => ?_) (fun j56 hj56 => ?_)
    · refine X_ruV (Ru_V (st := []) cv_X12_250 rfl (c_X12_lays G M x56_0) (by decide) rfl rfl (Nat.le_of_ble_eq_true rfl) dX12_valueHere_56) rfl (fun r56 => ?_)
      refine X_aload_n (a := 0) dX12_valueHere_59 rfl rfl rfl ?_
      refine X_iload_n (a := 1) dX12_valueHere_60 rfl rfl rfl ?_
      refine X_jc (P := fun j => ∀ (x73_0 : Int32), X fV G miX12_valueHere (4) 73 [] [.int x73_0, .ref (ga G 94)] r56 (j x73_0)) (fun x73_0 => ?_) (fun j73 hj73 => ?_)
      · refine X_ruV (Ru_V (st := []) cv_X12_254 rfl (c_X12_goesBy G r56 x73_0) (by decide) rfl rfl (Nat.le_of_ble_eq_true rfl) dX12_valueHere_73) rfl (fun r73 => ?_)
        exact X_vret rfl dX12_valueHere_76
      refine X_jc (P := fun j => X fV G miX12_valueHere (4) 68 [] [.ref (ga G 94)] r56 (j)) (?_) (fun j68 hj68 => ?_)
      · refine X_iconst (w := 1) dX12_valueHere_68 ki_1 rfl ?_
        refine X_goto (tgt := 73) dX12_valueHere_69 rfl ?_
        exact X_lv [] rfl (hj73 1)
      refine X_if_ge (tgt := 68) dX12_valueHere_61 rfl rfl (fun e61 => ?_) (fun e61 => ?_)
      · exact X_lv [] rfl (hj68)
      · refine X_iload_n (a := 2) dX12_valueHere_64 rfl rfl rfl ?_
        refine X_if_eq (tgt := 72) dX12_valueHere_65 rfl rfl (fun e65 => ?_) (fun e65 => ?_)
        · refine X_iconst (w := 0) dX12_valueHere_72 ki_0 rfl ?_
          exact X_lv [] rfl (hj73 0)
        · exact X_lv [] rfl (hj68)
    refine X_if_lt (tgt := 43) dX12_valueHere_32 rfl rfl (fun e32 => ?_) (fun e32 => ?_)
    · refine X_iload_n (a := 0) dX12_valueHere_43 rfl rfl rfl ?_
      refine X_if_eq (tgt := 55) dX12_valueHere_44 rfl rfl (fun e44 => ?_) (fun e44 => ?_)
      · refine X_iconst (w := 0) dX12_valueHere_55 ki_0 rfl ?_
        exact X_lv [1, 2, 0] rfl (hj56 0)
      · refine X_aload_n (a := 1) dX12_valueHere_47 rfl rfl rfl ?_
        refine X_getL fl_X12_182 rfl dX12_valueHere_48 rfl ?_
        refine X_l2i dX12_valueHere_51 rfl rfl ?_
        refine X_goto (tgt := 56) dX12_valueHere_52 rfl ?_
        exact X_lv [1, 2, 0] rfl (hj56 (Int64.toInt32 (gl M)))
    · refine X_sipush (w := 10000) dX12_valueHere_35 ks_10000 rfl ?_
      refine X_iload_n (a := 2) dX12_valueHere_38 rfl rfl rfl ?_
      refine X_iadd dX12_valueHere_39 rfl ?_
      refine X_goto (tgt := 56) dX12_valueHere_40 rfl ?_
      exact X_lv [1, 2, 0] rfl (hj56 (10000 + r1))
  refine X_jc (P := fun j => X fV G miX12_valueHere (4) 28 [(0, .ref (ga G 94)), (1, .int r1)] [] M (j)) (?_) (fun j28 hj28 => ?_)
  · refine X_iconst (w := 0) dX12_valueHere_28 ki_0 rfl ?_
    exact X_lv [0, 1] rfl (hj29 0)
  refine X_icmp_ne (tgt := 28) dX12_valueHere_10 rfl rfl (fun e10 => ?_) (fun e10 => ?_)
  · exact X_lv [1, 0] rfl (hj28)
  · refine X_aload_n (a := 1) dX12_valueHere_13 rfl rfl rfl ?_
    refine X_getL fl_X12_182 rfl dX12_valueHere_14 rfl ?_
    refine X_ldc2 (w := 100000) dX12_valueHere_17 t_1441 rfl ?_
    refine X_lcmp dX12_valueHere_20 rfl ?_
    refine X_if_ge (tgt := 28) dX12_valueHere_21 rfl rfl (fun e21 => ?_) (fun e21 => ?_)
    · exact X_lv [1, 0] rfl (hj28)
    · refine X_iconst (w := 1) dX12_valueHere_24 ki_1 rfl ?_
      refine X_goto (tgt := 29) dX12_valueHere_25 rfl ?_
      exact X_lv [1, 0] rfl (hj29 1)
set_option maxRecDepth 100000 in
theorem x_X12_one_L146 (G : Gm) (dd : Nat) (rc : Mm → Option Mm) (hrc : ∀ (M : Mm), Ct fV G miX12_either dd [.ref (ga G 94)] M (rc M)) (v1 : Int32) : ∀ (n : Nat) (M : Mm) (v2 : Int32), X fV G miX12_one (dd + 5) 146 [(0, .ref (ga G 94)), (1, .int v1), (2, .int v2)] [] M (F_X12_one_L146 rc v1 n M v2) := by
  intro n
  induction n with
  | zero => intro M v2; exact X_none
  | succ n ih =>
    intro M v2
    rw [F_X12_one_L146]
    refine X_iload_n (a := 2) dX12_one_146 rfl rfl rfl ?_
    refine X_iload_n (a := 1) dX12_one_147 rfl rfl rfl ?_
    refine X_icmp_ge (tgt := 164) dX12_one_148 rfl rfl (fun e148 => ?_) (fun e148 => ?_)
    · exact X_vret rfl dX12_one_164
    · refine X_aload_n (a := 0) dX12_one_151 rfl rfl rfl ?_
      refine X_sipush (w := 20033) dX12_one_152 ks_20033 rfl ?_
      refine X_ruV (Ru_V (st := []) cv_X12_250 rfl (c_X12_lays G M 20033) (by omega) rfl rfl (Nat.le_of_ble_eq_true rfl) dX12_one_155) rfl (fun r155 => ?_)
      refine X_iinc (a := 2) (lv2 := [(2, .int (v2 + 1)), (0, .ref (ga G 94)), (1, .int v1)]) dX12_one_158 rfl (ii_1 _) (by decide) rfl rfl ?_
      refine X_goto (tgt := 146) dX12_one_161 rfl ?_
      exact X_lv [1, 2, 0] rfl (ih r155 (v2 + 1))
set_option maxRecDepth 100000 in
theorem x_X12_one_L2 (G : Gm) (dd : Nat) (rc : Mm → Option Mm) (hrc : ∀ (M : Mm), Ct fV G miX12_either dd [.ref (ga G 94)] M (rc M)) : ∀ (n : Nat) (M : Mm) (v1 : Int32), X fV G miX12_one (dd + 5) 2 [(0, .ref (ga G 94)), (1, .int v1)] [] M (F_X12_one_L2 rc n M v1) := by
  intro n
  induction n with
  | zero => intro M v1; exact X_none
  | succ n ih =>
    intro M v1
    rw [F_X12_one_L2]
    refine X_aload_n (a := 0) dX12_one_2 rfl rfl rfl ?_
    refine X_ldc2 (w := 10631) dX12_one_3 t_1477 rfl ?_
    refine X_ruI (Ru_V (st := []) cv_X12_214 rfl (c_X12_isWord G M 10631) (by omega) rfl rfl (Nat.le_of_ble_eq_true rfl) dX12_one_6) rfl (fun r6 => ?_)
    refine X_if_eq (tgt := 22) dX12_one_9 rfl rfl (fun e9 => ?_) (fun e9 => ?_)
    · refine X_aload_n (a := 0) dX12_one_22 rfl rfl rfl ?_
      refine X_bipush (w := 40) dX12_one_23 kb_40 rfl ?_
      refine X_ruI (Ru_V (st := []) cv_X12_260 rfl (c_X12_isByte G M 40) (by omega) rfl rfl (Nat.le_of_ble_eq_true rfl) dX12_one_25) rfl (fun r25 => ?_)
      refine X_jc (P := fun j => ∀ (M : Mm), X fV G miX12_one (dd + 5) 144 [(0, .ref (ga G 94)), (1, .int v1)] [] M (j M)) (fun M => ?_) (fun j144 hj144 => ?_)
      · refine X_iconst (w := 0) dX12_one_144 ki_0 rfl ?_
        refine X_istore_n (lv2 := [(2, .int 0), (0, .ref (ga G 94)), (1, .int v1)]) dX12_one_145 rfl (by decide) rfl rfl ?_
        exact X_lv [1, 2, 0] rfl (x_X12_one_L146 G dd rc hrc v1 1000 M 0)
      refine X_if_eq (tgt := 85) dX12_one_28 rfl rfl (fun e28 => ?_) (fun e28 => ?_)
      · refine X_aload_n (a := 0) dX12_one_85 rfl rfl rfl ?_
        refine X_ruV (Ru_V (st := []) cv_X12_270 rfl (c_X12_valueHere G M) (by omega) rfl rfl (Nat.le_of_ble_eq_true rfl) dX12_one_86) rfl (fun r86 => ?_)
        refine X_aload_n (a := 0) dX12_one_89 rfl rfl rfl ?_
        refine X_getL fl_X12_182 rfl dX12_one_90 rfl ?_
        refine X_l2i dX12_one_93 rfl rfl ?_
        refine X_istore_n (lv2 := [(2, .int (Int64.toInt32 (gl r86))), (0, .ref (ga G 94)), (1, .int v1)]) dX12_one_94 rfl (by decide) rfl rfl ?_
        refine X_aload_n (a := 1) dX12_one_95 rfl rfl rfl ?_
        refine X_aload_n (a := 1) dX12_one_96 rfl rfl rfl ?_
        refine X_bipush (w := 60) dX12_one_97 kb_60 rfl ?_
        refine X_ruI (Ru_V (st := [.ref (ga G 94)]) cv_X12_260 rfl (c_X12_isByte G r86 60) (by omega) rfl rfl (Nat.le_of_ble_eq_true rfl) dX12_one_99) rfl (fun r99 => ?_)
        refine X_jc (P := fun j => ∀ (x128_0 : Int32), X fV G miX12_one (dd + 5) 128 [(0, .ref (ga G 94)), (1, .int v1), (2, .int (Int64.toInt32 (gl r86)))] [.int x128_0, .ref (ga G 94)] r86 (j x128_0)) (fun x128_0 => ?_) (fun j128 hj128 => ?_)
        · refine X_ruV (Ru_V (st := []) cv_X12_254 rfl (c_X12_goesBy G r86 x128_0) (by omega) rfl rfl (Nat.le_of_ble_eq_true rfl) dX12_one_128) rfl (fun r128 => ?_)
          refine X_aload_n (a := 0) dX12_one_131 rfl rfl rfl ?_
          refine X_ruV (Ru_V (st := []) cv_X12_270 rfl (c_X12_valueHere G r128) (by omega) rfl rfl (Nat.le_of_ble_eq_true rfl) dX12_one_132) rfl (fun r132 => ?_)
          refine X_aload_n (a := 0) dX12_one_135 rfl rfl rfl ?_
          refine X_sipush (w := 20000) dX12_one_136 ks_20000 rfl ?_
          refine X_iload_n (a := 2) dX12_one_139 rfl rfl rfl ?_
          refine X_iadd dX12_one_140 rfl ?_
          refine X_ruV (Ru_V (st := []) cv_X12_250 rfl (c_X12_lays G r132 (20000 + (Int64.toInt32 (gl r86)))) (by omega) rfl rfl (Nat.le_of_ble_eq_true rfl) dX12_one_141) rfl (fun r141 => ?_)
          exact X_lv [0, 1] rfl (hj144 r141)
        refine X_jc (P := fun j => X fV G miX12_one (dd + 5) 123 [(0, .ref (ga G 94)), (1, .int v1), (2, .int (Int64.toInt32 (gl r86)))] [.ref (ga G 94)] r86 (j)) (?_) (fun j123 hj123 => ?_)
        · refine X_iconst (w := 1) dX12_one_123 ki_1 rfl ?_
          refine X_goto (tgt := 128) dX12_one_124 rfl ?_
          exact X_lv [0, 1, 2] rfl (hj128 1)
        refine X_if_ne (tgt := 123) dX12_one_102 rfl rfl (fun e102 => ?_) (fun e102 => ?_)
        · exact X_lv [1, 2, 0] rfl (hj123)
        · refine X_aload_n (a := 1) dX12_one_105 rfl rfl rfl ?_
          refine X_bipush (w := 61) dX12_one_106 kb_61 rfl ?_
          refine X_ruI (Ru_V (st := [.ref (ga G 94)]) cv_X12_260 rfl (c_X12_isByte G r86 61) (by omega) rfl rfl (Nat.le_of_ble_eq_true rfl) dX12_one_108) rfl (fun r108 => ?_)
          refine X_if_ne (tgt := 123) dX12_one_111 rfl rfl (fun e111 => ?_) (fun e111 => ?_)
          · exact X_lv [1, 2, 0] rfl (hj123)
          · refine X_aload_n (a := 1) dX12_one_114 rfl rfl rfl ?_
            refine X_bipush (w := 62) dX12_one_115 kb_62 rfl ?_
            refine X_ruI (Ru_V (st := [.ref (ga G 94)]) cv_X12_260 rfl (c_X12_isByte G r86 62) (by omega) rfl rfl (Nat.le_of_ble_eq_true rfl) dX12_one_117) rfl (fun r117 => ?_)
            refine X_if_eq (tgt := 127) dX12_one_120 rfl rfl (fun e120 => ?_) (fun e120 => ?_)
            · refine X_iconst (w := 0) dX12_one_127 ki_0 rfl ?_
              exact X_lv [1, 2, 0] rfl (hj128 0)
            · exact X_lv [1, 2, 0] rfl (hj123)
      · refine X_aload_n (a := 0) dX12_one_31 rfl rfl rfl ?_
        refine X_aload_n (a := 0) dX12_one_32 rfl rfl rfl ?_
        refine X_getI fl_X12_264 rfl dX12_one_33 rfl ?_
        refine X_iconst (w := 3) dX12_one_36 ki_3 rfl ?_
        refine X_jc (P := fun j => ∀ (x45_0 : Int32), X fV G miX12_one (dd + 5) 45 [(0, .ref (ga G 94)), (1, .int v1)] [.int x45_0, .ref (ga G 94)] M (j x45_0)) (fun x45_0 => ?_) (fun j45 hj45 => ?_)
        · refine X_ruV (Ru_V (st := []) cv_X12_254 rfl (c_X12_goesBy G M x45_0) (by omega) rfl rfl (Nat.le_of_ble_eq_true rfl) dX12_one_45) rfl (fun r45 => ?_)
          refine X_aload_n (a := 0) dX12_one_48 rfl rfl rfl ?_
          refine X_dup dX12_one_49 rfl rfl ?_
          refine X_getI fl_X12_264 rfl dX12_one_50 rfl ?_
          refine X_iconst (w := 1) dX12_one_53 ki_1 rfl ?_
          refine X_iadd dX12_one_54 rfl ?_
          refine X_putI fp_X12_264 rfl dX12_one_55 rfl ?_
          refine X_aload_n (a := 0) dX12_one_58 rfl rfl rfl ?_
          refine X_ruV (Ru_V (st := []) cv_X12_267 rfl (hrc (si r45 94 14 ((gi r45 94 14) + 1))) (by omega) rfl rfl (Nat.le_of_ble_eq_true rfl) dX12_one_59) rfl (fun r59 => ?_)
          refine X_aload_n (a := 0) dX12_one_62 rfl rfl rfl ?_
          refine X_aload_n (a := 0) dX12_one_63 rfl rfl rfl ?_
          refine X_bipush (w := 41) dX12_one_64 kb_41 rfl ?_
          refine X_ruI (Ru_V (st := [.ref (ga G 94)]) cv_X12_260 rfl (c_X12_isByte G r59 41) (by omega) rfl rfl (Nat.le_of_ble_eq_true rfl) dX12_one_66) rfl (fun r66 => ?_)
          refine X_ruV (Ru_V (st := []) cv_X12_254 rfl (c_X12_goesBy G r59 r66) (by omega) rfl rfl (Nat.le_of_ble_eq_true rfl) dX12_one_69) rfl (fun r69 => ?_)
          refine X_aload_n (a := 0) dX12_one_72 rfl rfl rfl ?_
          refine X_dup dX12_one_73 rfl rfl ?_
          refine X_getI fl_X12_264 rfl dX12_one_74 rfl ?_
          refine X_iconst (w := 1) dX12_one_77 ki_1 rfl ?_
          refine X_isub dX12_one_78 rfl ?_
          refine X_putI fp_X12_264 rfl dX12_one_79 rfl ?_
          refine X_goto (tgt := 144) dX12_one_82 rfl ?_
          exact X_lv [0, 1] rfl (hj144 (si r69 94 14 ((gi r69 94 14) - 1)))
        refine X_icmp_ge (tgt := 44) dX12_one_37 rfl rfl (fun e37 => ?_) (fun e37 => ?_)
        · refine X_iconst (w := 0) dX12_one_44 ki_0 rfl ?_
          exact X_lv [0, 1] rfl (hj45 0)
        · refine X_iconst (w := 1) dX12_one_40 ki_1 rfl ?_
          refine X_goto (tgt := 45) dX12_one_41 rfl ?_
          exact X_lv [0, 1] rfl (hj45 1)
    · refine X_iinc (a := 1) (lv2 := [(1, .int (v1 + 1)), (0, .ref (ga G 94))]) dX12_one_12 rfl (ii_1 _) (by decide) rfl rfl ?_
      refine X_aload_n (a := 1) dX12_one_15 rfl rfl rfl ?_
      refine X_ruV (Ru_V (st := []) cv_X12_244 rfl (c_X12_next G M) (by omega) rfl rfl (Nat.le_of_ble_eq_true rfl) dX12_one_16) rfl (fun r16 => ?_)
      refine X_goto (tgt := 2) dX12_one_19 rfl ?_
      exact X_lv [1, 0] rfl (ih r16 (v1 + 1))
set_option maxRecDepth 100000 in
theorem c_X12_one (G : Gm) (dd : Nat) (rc : Mm → Option Mm) (hrc : ∀ (M : Mm), Ct fV G miX12_either dd [.ref (ga G 94)] M (rc M)) (M : Mm) : Ct fV G miX12_one (dd + 5) [.ref (ga G 94)] M (F_X12_one rc M) := by
  refine Ct_of (pn_X12) (Nat.le_of_ble_eq_true rfl) ?_
  refine X_lv [0] (lv' := [(0, .ref (ga G 94))]) rfl ?_
  unfold F_X12_one
  refine X_iconst (w := 0) dX12_one_0 ki_0 rfl ?_
  refine X_istore_n (lv2 := [(1, .int 0), (0, .ref (ga G 94))]) dX12_one_1 rfl (by decide) rfl rfl ?_
  exact X_lv [1, 0] rfl (x_X12_one_L2 G dd rc hrc 1000 M 0)
set_option maxRecDepth 100000 in
theorem x_X12_both_L4 (G : Gm) (dd : Nat) (rc : Mm → Option Mm) (hrc : ∀ (M : Mm), Ct fV G miX12_either dd [.ref (ga G 94)] M (rc M)) : ∀ (n : Nat) (M : Mm), X fV G miX12_both (dd + 6) 4 [(0, .ref (ga G 94))] [] M (F_X12_both_L4 rc n M) := by
  intro n
  induction n with
  | zero => intro M; exact X_none
  | succ n ih =>
    intro M
    rw [F_X12_both_L4]
    refine X_aload_n (a := 0) dX12_both_4 rfl rfl rfl ?_
    refine X_ldc2 (w := 1111) dX12_both_5 t_1499 rfl ?_
    refine X_ruI (Ru_V (st := []) cv_X12_214 rfl (c_X12_isWord G M 1111) (by omega) rfl rfl (Nat.le_of_ble_eq_true rfl) dX12_both_8) rfl (fun r8 => ?_)
    refine X_if_eq (tgt := 32) dX12_both_11 rfl rfl (fun e11 => ?_) (fun e11 => ?_)
    · exact X_vret rfl dX12_both_32
    · refine X_aload_n (a := 0) dX12_both_14 rfl rfl rfl ?_
      refine X_ruV (Ru_V (st := []) cv_X12_244 rfl (c_X12_next G M) (by omega) rfl rfl (Nat.le_of_ble_eq_true rfl) dX12_both_15) rfl (fun r15 => ?_)
      refine X_aload_n (a := 0) dX12_both_18 rfl rfl rfl ?_
      refine X_ruV (Ru_V (st := []) cv_X12_273 rfl (c_X12_one G dd rc hrc r15) (by omega) rfl rfl (Nat.le_of_ble_eq_true rfl) dX12_both_19) rfl (fun r19 => ?_)
      refine X_aload_n (a := 0) dX12_both_22 rfl rfl rfl ?_
      refine X_sipush (w := 20038) dX12_both_23 ks_20038 rfl ?_
      refine X_ruV (Ru_V (st := []) cv_X12_250 rfl (c_X12_lays G r19 20038) (by omega) rfl rfl (Nat.le_of_ble_eq_true rfl) dX12_both_26) rfl (fun r26 => ?_)
      refine X_goto (tgt := 4) dX12_both_29 rfl ?_
      exact X_lv [0] rfl (ih r26)
set_option maxRecDepth 100000 in
theorem c_X12_both (G : Gm) (dd : Nat) (rc : Mm → Option Mm) (hrc : ∀ (M : Mm), Ct fV G miX12_either dd [.ref (ga G 94)] M (rc M)) (M : Mm) : Ct fV G miX12_both (dd + 6) [.ref (ga G 94)] M (F_X12_both rc M) := by
  refine Ct_of (pn_X12) (Nat.le_of_ble_eq_true rfl) ?_
  refine X_lv [0] (lv' := [(0, .ref (ga G 94))]) rfl ?_
  unfold F_X12_both
  refine X_aload_n (a := 0) dX12_both_0 rfl rfl rfl ?_
  refine X_ruV (Ru_V (st := []) cv_X12_273 rfl (c_X12_one G dd rc hrc M) (by omega) rfl rfl (Nat.le_of_ble_eq_true rfl) dX12_both_1) rfl (fun r1 => ?_)
  exact X_lv [0] rfl (x_X12_both_L4 G dd rc hrc 1000 r1)
set_option maxRecDepth 100000 in
theorem x_X12_either_L12 (G : Gm) (dd : Nat) (rc : Mm → Option Mm) (hrc : ∀ (M : Mm), Ct fV G miX12_either dd [.ref (ga G 94)] M (rc M)) : ∀ (n : Nat) (M : Mm), X fV G miX12_either (dd + 7) 12 [(0, .ref (ga G 94))] [] M (F_X12_either_L12 rc n M) := by
  intro n
  induction n with
  | zero => intro M; exact X_none
  | succ n ih =>
    intro M
    rw [F_X12_either_L12]
    refine X_aload_n (a := 0) dX12_either_12 rfl rfl rfl ?_
    refine X_ldc2 (w := 423) dX12_either_13 t_1500 rfl ?_
    refine X_ruI (Ru_V (st := []) cv_X12_214 rfl (c_X12_isWord G M 423) (by omega) rfl rfl (Nat.le_of_ble_eq_true rfl) dX12_either_16) rfl (fun r16 => ?_)
    refine X_if_eq (tgt := 40) dX12_either_19 rfl rfl (fun e19 => ?_) (fun e19 => ?_)
    · exact X_vret rfl dX12_either_40
    · refine X_aload_n (a := 0) dX12_either_22 rfl rfl rfl ?_
      refine X_ruV (Ru_V (st := []) cv_X12_244 rfl (c_X12_next G M) (by omega) rfl rfl (Nat.le_of_ble_eq_true rfl) dX12_either_23) rfl (fun r23 => ?_)
      refine X_aload_n (a := 0) dX12_either_26 rfl rfl rfl ?_
      refine X_ruV (Ru_V (st := []) cv_X12_278 rfl (c_X12_both G dd rc hrc r23) (by omega) rfl rfl (Nat.le_of_ble_eq_true rfl) dX12_either_27) rfl (fun r27 => ?_)
      refine X_aload_n (a := 0) dX12_either_30 rfl rfl rfl ?_
      refine X_sipush (w := 20124) dX12_either_31 ks_20124 rfl ?_
      refine X_ruV (Ru_V (st := []) cv_X12_250 rfl (c_X12_lays G r27 20124) (by omega) rfl rfl (Nat.le_of_ble_eq_true rfl) dX12_either_34) rfl (fun r34 => ?_)
      refine X_goto (tgt := 12) dX12_either_37 rfl ?_
      exact X_lv [0] rfl (ih r34)
set_option maxRecDepth 100000 in
theorem c_X12_either_b (G : Gm) (dd : Nat) (rc : Mm → Option Mm) (hrc : ∀ (M : Mm), Ct fV G miX12_either dd [.ref (ga G 94)] M (rc M)) (M : Mm) : Ct fV G miX12_either (dd + 7) [.ref (ga G 94)] M (F_X12_either_b rc M) := by
  refine Ct_of (pn_X12) (Nat.le_of_ble_eq_true rfl) ?_
  refine X_lv [0] (lv' := [(0, .ref (ga G 94))]) rfl ?_
  unfold F_X12_either_b
  refine X_aload_n (a := 0) dX12_either_0 rfl rfl rfl ?_
  refine X_getI fl_X12_205 rfl dX12_either_1 rfl ?_
  refine X_if_eq (tgt := 8) dX12_either_4 rfl rfl (fun e4 => ?_) (fun e4 => ?_)
  · refine X_aload_n (a := 0) dX12_either_8 rfl rfl rfl ?_
    refine X_ruV (Ru_V (st := []) cv_X12_278 rfl (c_X12_both G dd rc hrc M) (by omega) rfl rfl (Nat.le_of_ble_eq_true rfl) dX12_either_9) rfl (fun r9 => ?_)
    exact X_lv [0] rfl (x_X12_either_L12 G dd rc hrc 1000 r9)
  · exact X_vret rfl dX12_either_7
theorem c_X12_either (G : Gm) : ∀ (n : Nat) (M : Mm), Ct fV G miX12_either (7 * n) [.ref (ga G 94)] M (F_X12_either n M) := by
  intro n
  induction n with
  | zero => intro M; exact Ct_none
  | succ n ih =>
    intro M
    exact c_X12_either_b G (7 * n) (F_X12_either n) ih M
set_option maxRecDepth 100000 in
theorem c_X12_ruleHere (G : Gm) (M : Mm) : Ct fV G miX12_ruleHere (57) [.ref (ga G 94)] M (F_X12_ruleHere M) := by
  refine Ct_of (pn_X12) (Nat.le_of_ble_eq_true rfl) ?_
  refine X_lv [0] (lv' := [(0, .ref (ga G 94))]) rfl ?_
  unfold F_X12_ruleHere
  refine X_aload_n (a := 0) dX12_ruleHere_0 rfl rfl rfl ?_
  refine X_ruI (Ru_V (st := []) cv_X12_283 rfl (c_X12_kindHere G M) (by decide) rfl rfl (Nat.le_of_ble_eq_true rfl) dX12_ruleHere_1) rfl (fun r1 => ?_)
  refine X_istore_n (lv2 := [(1, .int r1), (0, .ref (ga G 94))]) dX12_ruleHere_4 rfl (by decide) rfl rfl ?_
  refine X_aload_n (a := 1) dX12_ruleHere_5 rfl rfl rfl ?_
  refine X_iload_n (a := 0) dX12_ruleHere_6 rfl rfl rfl ?_
  refine X_jc (P := fun j => ∀ (x24_0 : Int32), X fV G miX12_ruleHere (57) 24 [(0, .ref (ga G 94)), (1, .int r1)] [.int x24_0, .ref (ga G 94)] M (j x24_0)) (fun x24_0 => ?_) (fun j24 hj24 => ?_)
  · refine X_ruV (Ru_V (st := []) cv_X12_254 rfl (c_X12_goesBy G M x24_0) (by decide) rfl rfl (Nat.le_of_ble_eq_true rfl) dX12_ruleHere_24) rfl (fun r24 => ?_)
    refine X_aload_n (a := 0) dX12_ruleHere_27 rfl rfl rfl ?_
    refine X_getI fl_X12_209 rfl dX12_ruleHere_28 rfl ?_
    refine X_istore_n (lv2 := [(2, .int (gi r24 94 16)), (0, .ref (ga G 94)), (1, .int r1)]) dX12_ruleHere_31 rfl (by decide) rfl rfl ?_
    refine X_aload_n (a := 1) dX12_ruleHere_32 rfl rfl rfl ?_
    refine X_ldc2 (w := 249) dX12_ruleHere_33 t_1464 rfl ?_
    refine X_ruI (Ru_V (st := []) cv_X12_214 rfl (c_X12_isWord G r24 249) (by decide) rfl rfl (Nat.le_of_ble_eq_true rfl) dX12_ruleHere_36) rfl (fun r36 => ?_)
    refine X_jc (P := fun j => ∀ (M : Mm), X fV G miX12_ruleHere (57) 50 [(0, .ref (ga G 94)), (1, .int r1), (2, .int (gi r24 94 16))] [] M (j M)) (fun M => ?_) (fun j50 hj50 => ?_)
    · refine X_aload_n (a := 0) dX12_ruleHere_50 rfl rfl rfl ?_
      refine X_ruI (Ru_V (st := []) cv_X12_291 rfl (c_X12_doHere G M) (by decide) rfl rfl (Nat.le_of_ble_eq_true rfl) dX12_ruleHere_51) rfl (fun r51 => ?_)
      refine X_istore_n (lv2 := [(3, .int r51), (0, .ref (ga G 94)), (1, .int r1), (2, .int (gi r24 94 16))]) dX12_ruleHere_54 rfl (by decide) rfl rfl ?_
      refine X_aload_n (a := 1) dX12_ruleHere_55 rfl rfl rfl ?_
      refine X_iload_n (a := 0) dX12_ruleHere_56 rfl rfl rfl ?_
      refine X_jc (P := fun j => ∀ (x65_0 : Int32), X fV G miX12_ruleHere (57) 65 [(0, .ref (ga G 94)), (1, .int r1), (2, .int (gi r24 94 16)), (3, .int r51)] [.int x65_0, .ref (ga G 94)] M (j x65_0)) (fun x65_0 => ?_) (fun j65 hj65 => ?_)
      · refine X_ruV (Ru_V (st := []) cv_X12_254 rfl (c_X12_goesBy G M x65_0) (by decide) rfl rfl (Nat.le_of_ble_eq_true rfl) dX12_ruleHere_65) rfl (fun r65 => ?_)
        refine X_aload_n (a := 0) dX12_ruleHere_68 rfl rfl rfl ?_
        refine X_getI fl_X12_205 rfl dX12_ruleHere_69 rfl ?_
        refine X_jc (P := fun j => ∀ (M : Mm), X fV G miX12_ruleHere (57) 89 [(0, .ref (ga G 94)), (1, .int r1), (2, .int (gi r24 94 16)), (3, .int r51)] [] M (j M)) (fun M => ?_) (fun j89 hj89 => ?_)
        · refine X_aload_n (a := 0) dX12_ruleHere_89 rfl rfl rfl ?_
          refine X_getI fl_X12_205 rfl dX12_ruleHere_90 rfl ?_
          refine X_if_ne (tgt := 167) dX12_ruleHere_93 rfl rfl (fun e93 => ?_) (fun e93 => ?_)
          · exact X_vret rfl dX12_ruleHere_167
          · refine X_aload_n (a := 0) dX12_ruleHere_96 rfl rfl rfl ?_
            refine X_getR (t := 102) fl_X12_31 rfl rfl dX12_ruleHere_97 rfl ?_
            refine X_iconst (w := 4) dX12_ruleHere_100 ki_4 rfl ?_
            refine X_aload_n (a := 0) dX12_ruleHere_101 rfl rfl rfl ?_
            refine X_getI fl_X12_286 rfl dX12_ruleHere_102 rfl ?_
            refine X_imul dX12_ruleHere_105 rfl ?_
            refine X_iload_n (a := 1) dX12_ruleHere_106 rfl rfl rfl ?_
            refine X_iast rfl rfl dX12_ruleHere_107 rfl ?_
            refine X_aload_n (a := 0) dX12_ruleHere_108 rfl rfl rfl ?_
            refine X_getR (t := 102) fl_X12_31 rfl rfl dX12_ruleHere_109 rfl ?_
            refine X_iconst (w := 4) dX12_ruleHere_112 ki_4 rfl ?_
            refine X_aload_n (a := 0) dX12_ruleHere_113 rfl rfl rfl ?_
            refine X_getI fl_X12_286 rfl dX12_ruleHere_114 rfl ?_
            refine X_imul dX12_ruleHere_117 rfl ?_
            refine X_iconst (w := 1) dX12_ruleHere_118 ki_1 rfl ?_
            refine X_iadd dX12_ruleHere_119 rfl ?_
            refine X_iload_n (a := 3) dX12_ruleHere_120 rfl rfl rfl ?_
            refine X_iast rfl rfl dX12_ruleHere_121 rfl ?_
            refine X_aload_n (a := 0) dX12_ruleHere_122 rfl rfl rfl ?_
            refine X_getR (t := 102) fl_X12_31 rfl rfl dX12_ruleHere_123 rfl ?_
            refine X_iconst (w := 4) dX12_ruleHere_126 ki_4 rfl ?_
            refine X_aload_n (a := 0) dX12_ruleHere_127 rfl rfl rfl ?_
            refine X_getI fl_X12_286 rfl dX12_ruleHere_128 rfl ?_
            refine X_imul dX12_ruleHere_131 rfl ?_
            refine X_iconst (w := 2) dX12_ruleHere_132 ki_2 rfl ?_
            refine X_iadd dX12_ruleHere_133 rfl ?_
            refine X_iload_n (a := 2) dX12_ruleHere_134 rfl rfl rfl ?_
            refine X_iast rfl rfl dX12_ruleHere_135 rfl ?_
            refine X_aload_n (a := 0) dX12_ruleHere_136 rfl rfl rfl ?_
            refine X_getR (t := 102) fl_X12_31 rfl rfl dX12_ruleHere_137 rfl ?_
            refine X_iconst (w := 4) dX12_ruleHere_140 ki_4 rfl ?_
            refine X_aload_n (a := 0) dX12_ruleHere_141 rfl rfl rfl ?_
            refine X_getI fl_X12_286 rfl dX12_ruleHere_142 rfl ?_
            refine X_imul dX12_ruleHere_145 rfl ?_
            refine X_iconst (w := 3) dX12_ruleHere_146 ki_3 rfl ?_
            refine X_iadd dX12_ruleHere_147 rfl ?_
            refine X_aload_n (a := 0) dX12_ruleHere_148 rfl rfl rfl ?_
            refine X_getI fl_X12_209 rfl dX12_ruleHere_149 rfl ?_
            refine X_iast rfl rfl dX12_ruleHere_152 rfl ?_
            refine X_aload_n (a := 0) dX12_ruleHere_153 rfl rfl rfl ?_
            refine X_dup dX12_ruleHere_154 rfl rfl ?_
            refine X_getI fl_X12_286 rfl dX12_ruleHere_155 rfl ?_
            refine X_iconst (w := 1) dX12_ruleHere_158 ki_1 rfl ?_
            refine X_iadd dX12_ruleHere_159 rfl ?_
            refine X_putI fp_X12_286 rfl dX12_ruleHere_160 rfl ?_
            refine X_aload_n (a := 0) dX12_ruleHere_163 rfl rfl rfl ?_
            refine X_ruV (Ru_V (st := []) cv_X12_244 rfl (c_X12_next G (si (si (si (si (si M 102 (ui (4 * (gi M 94 18))) r1) 102 (ui ((4 * (gi (si M 102 (ui (4 * (gi M 94 18))) r1) 94 18)) + 1)) r51) 102 (ui ((4 * (gi (si (si M 102 (ui (4 * (gi M 94 18))) r1) 102 (ui ((4 * (gi (si M 102 (ui (4 * (gi M 94 18))) r1) 94 18)) + 1)) r51) 94 18)) + 2)) (gi r24 94 16)) 102 (ui ((4 * (gi (si (si (si M 102 (ui (4 * (gi M 94 18))) r1) 102 (ui ((4 * (gi (si M 102 (ui (4 * (gi M 94 18))) r1) 94 18)) + 1)) r51) 102 (ui ((4 * (gi (si (si M 102 (ui (4 * (gi M 94 18))) r1) 102 (ui ((4 * (gi (si M 102 (ui (4 * (gi M 94 18))) r1) 94 18)) + 1)) r51) 94 18)) + 2)) (gi r24 94 16)) 94 18)) + 3)) (gi (si (si (si M 102 (ui (4 * (gi M 94 18))) r1) 102 (ui ((4 * (gi (si M 102 (ui (4 * (gi M 94 18))) r1) 94 18)) + 1)) r51) 102 (ui ((4 * (gi (si (si M 102 (ui (4 * (gi M 94 18))) r1) 102 (ui ((4 * (gi (si M 102 (ui (4 * (gi M 94 18))) r1) 94 18)) + 1)) r51) 94 18)) + 2)) (gi r24 94 16)) 94 16)) 94 18 ((gi (si (si (si (si M 102 (ui (4 * (gi M 94 18))) r1) 102 (ui ((4 * (gi (si M 102 (ui (4 * (gi M 94 18))) r1) 94 18)) + 1)) r51) 102 (ui ((4 * (gi (si (si M 102 (ui (4 * (gi M 94 18))) r1) 102 (ui ((4 * (gi (si M 102 (ui (4 * (gi M 94 18))) r1) 94 18)) + 1)) r51) 94 18)) + 2)) (gi r24 94 16)) 102 (ui ((4 * (gi (si (si (si M 102 (ui (4 * (gi M 94 18))) r1) 102 (ui ((4 * (gi (si M 102 (ui (4 * (gi M 94 18))) r1) 94 18)) + 1)) r51) 102 (ui ((4 * (gi (si (si M 102 (ui (4 * (gi M 94 18))) r1) 102 (ui ((4 * (gi (si M 102 (ui (4 * (gi M 94 18))) r1) 94 18)) + 1)) r51) 94 18)) + 2)) (gi r24 94 16)) 94 18)) + 3)) (gi (si (si (si M 102 (ui (4 * (gi M 94 18))) r1) 102 (ui ((4 * (gi (si M 102 (ui (4 * (gi M 94 18))) r1) 94 18)) + 1)) r51) 102 (ui ((4 * (gi (si (si M 102 (ui (4 * (gi M 94 18))) r1) 102 (ui ((4 * (gi (si M 102 (ui (4 * (gi M 94 18))) r1) 94 18)) + 1)) r51) 94 18)) + 2)) (gi r24 94 16)) 94 16)) 94 18) + 1))) (by decide) rfl rfl (Nat.le_of_ble_eq_true rfl) dX12_ruleHere_164) rfl (fun r164 => ?_)
            exact X_vret rfl dX12_ruleHere_167
        refine X_if_ne (tgt := 89) dX12_ruleHere_72 rfl rfl (fun e72 => ?_) (fun e72 => ?_)
        · exact X_lv [0, 1, 2, 3] rfl (hj89 r65)
        · refine X_aload_n (a := 0) dX12_ruleHere_75 rfl rfl rfl ?_
          refine X_bipush (w := 59) dX12_ruleHere_76 kb_59 rfl ?_
          refine X_ruI (Ru_V (st := []) cv_X12_260 rfl (c_X12_isByte G r65 59) (by decide) rfl rfl (Nat.le_of_ble_eq_true rfl) dX12_ruleHere_78) rfl (fun r78 => ?_)
          refine X_if_ne (tgt := 89) dX12_ruleHere_81 rfl rfl (fun e81 => ?_) (fun e81 => ?_)
          · exact X_lv [0, 1, 2, 3] rfl (hj89 r65)
          · refine X_aload_n (a := 0) dX12_ruleHere_84 rfl rfl rfl ?_
            refine X_iconst (w := 1) dX12_ruleHere_85 ki_1 rfl ?_
            refine X_putZ fp_X12_205 rfl dX12_ruleHere_86 rfl ?_
            exact X_lv [0, 1, 2, 3] rfl (hj89 (si r65 94 13 1))
      refine X_if_lt (tgt := 64) dX12_ruleHere_57 rfl rfl (fun e57 => ?_) (fun e57 => ?_)
      · refine X_iconst (w := 0) dX12_ruleHere_64 ki_0 rfl ?_
        exact X_lv [1, 2, 3, 0] rfl (hj65 0)
      · refine X_iconst (w := 1) dX12_ruleHere_60 ki_1 rfl ?_
        refine X_goto (tgt := 65) dX12_ruleHere_61 rfl ?_
        exact X_lv [1, 2, 3, 0] rfl (hj65 1)
    refine X_if_eq (tgt := 50) dX12_ruleHere_39 rfl rfl (fun e39 => ?_) (fun e39 => ?_)
    · exact X_lv [1, 2, 0] rfl (hj50 r24)
    · refine X_aload_n (a := 1) dX12_ruleHere_42 rfl rfl rfl ?_
      refine X_ruV (Ru_V (st := []) cv_X12_244 rfl (c_X12_next G r24) (by decide) rfl rfl (Nat.le_of_ble_eq_true rfl) dX12_ruleHere_43) rfl (fun r43 => ?_)
      refine X_aload_n (a := 1) dX12_ruleHere_46 rfl rfl rfl ?_
      refine X_ruV (Ru_V (st := []) cv_X12_267 rfl (c_X12_either G 8 r43) (by decide) rfl rfl (Nat.le_of_ble_eq_true rfl) dX12_ruleHere_47) rfl (fun r47 => ?_)
      exact X_lv [1, 2, 0] rfl (hj50 r47)
  refine X_jc (P := fun j => X fV G miX12_ruleHere (57) 23 [(0, .ref (ga G 94)), (1, .int r1)] [.ref (ga G 94)] M (j)) (?_) (fun j23 hj23 => ?_)
  · refine X_iconst (w := 0) dX12_ruleHere_23 ki_0 rfl ?_
    exact X_lv [0, 1] rfl (hj24 0)
  refine X_if_lt (tgt := 23) dX12_ruleHere_7 rfl rfl (fun e7 => ?_) (fun e7 => ?_)
  · exact X_lv [1, 0] rfl (hj23)
  · refine X_aload_n (a := 1) dX12_ruleHere_10 rfl rfl rfl ?_
    refine X_getI fl_X12_286 rfl dX12_ruleHere_11 rfl ?_
    refine X_bipush (w := 8) dX12_ruleHere_14 kb_8 rfl ?_
    refine X_icmp_ge (tgt := 23) dX12_ruleHere_16 rfl rfl (fun e16 => ?_) (fun e16 => ?_)
    · exact X_lv [1, 0] rfl (hj23)
    · refine X_iconst (w := 1) dX12_ruleHere_19 ki_1 rfl ?_
      refine X_goto (tgt := 24) dX12_ruleHere_20 rfl ?_
      exact X_lv [1, 0] rfl (hj24 1)
set_option maxRecDepth 100000 in
theorem x_X12_rules_L111 (G : Gm) : ∀ (n : Nat) (M : Mm) (v1 : Int32), X fJ G miX12_rules (58) 111 [(0, .ref (ga G 94)), (1, .int v1)] [] M (F_X12_rules_L111 n M v1) := by
  intro n
  induction n with
  | zero => intro M v1; exact X_none
  | succ n ih =>
    intro M v1
    rw [F_X12_rules_L111]
    refine X_iload_n (a := 1) dX12_rules_111 rfl rfl rfl ?_
    refine X_aload_n (a := 0) dX12_rules_112 rfl rfl rfl ?_
    refine X_getI fl_X12_209 rfl dX12_rules_113 rfl ?_
    refine X_icmp_ge (tgt := 140) dX12_rules_116 rfl rfl (fun e116 => ?_) (fun e116 => ?_)
    · refine X_aload_n (a := 0) dX12_rules_140 rfl rfl rfl ?_
      refine X_getI fl_X12_286 rfl dX12_rules_141 rfl ?_
      exact X_iretJ rfl dX12_rules_144
    · refine X_aload_n (a := 0) dX12_rules_119 rfl rfl rfl ?_
      refine X_getR (t := 95) fl_X12_7 rfl rfl dX12_rules_120 rfl ?_
      refine X_bipush (w := 121) dX12_rules_123 kb_121 rfl ?_
      refine X_iload_n (a := 1) dX12_rules_125 rfl rfl rfl ?_
      refine X_iadd dX12_rules_126 rfl ?_
      refine X_aload_n (a := 0) dX12_rules_127 rfl rfl rfl ?_
      refine X_getR (t := 101) fl_X12_28 rfl rfl dX12_rules_128 rfl ?_
      refine X_iload_n (a := 1) dX12_rules_131 rfl rfl rfl ?_
      refine X_iald rfl rfl dX12_rules_132 rfl ?_
      refine X_iast rfl rfl dX12_rules_133 rfl ?_
      refine X_iinc (a := 1) (lv2 := [(1, .int (v1 + 1)), (0, .ref (ga G 94))]) dX12_rules_134 rfl (ii_1 _) (by decide) rfl rfl ?_
      refine X_goto (tgt := 111) dX12_rules_137 rfl ?_
      exact X_lv [1, 0] rfl (ih (si M 95 (ui (121 + v1)) (gi M 101 (ui v1))) (v1 + 1))
set_option maxRecDepth 100000 in
theorem x_X12_rules_L82 (G : Gm) : ∀ (n : Nat) (M : Mm) (v1 : Int32), X fJ G miX12_rules (58) 82 [(0, .ref (ga G 94)), (1, .int v1)] [] M (F_X12_rules_L82 n M v1) := by
  intro n
  induction n with
  | zero => intro M v1; exact X_none
  | succ n ih =>
    intro M v1
    rw [F_X12_rules_L82]
    refine X_iload_n (a := 1) dX12_rules_82 rfl rfl rfl ?_
    refine X_bipush (w := 32) dX12_rules_83 kb_32 rfl ?_
    refine X_icmp_ge (tgt := 109) dX12_rules_85 rfl rfl (fun e85 => ?_) (fun e85 => ?_)
    · refine X_iconst (w := 0) dX12_rules_109 ki_0 rfl ?_
      refine X_istore_n (lv2 := [(1, .int 0), (0, .ref (ga G 94))]) dX12_rules_110 rfl (by decide) rfl rfl ?_
      exact X_lv [1, 0] rfl (x_X12_rules_L111 G 1000 M 0)
    · refine X_aload_n (a := 0) dX12_rules_88 rfl rfl rfl ?_
      refine X_getR (t := 95) fl_X12_7 rfl rfl dX12_rules_89 rfl ?_
      refine X_bipush (w := 89) dX12_rules_92 kb_89 rfl ?_
      refine X_iload_n (a := 1) dX12_rules_94 rfl rfl rfl ?_
      refine X_iadd dX12_rules_95 rfl ?_
      refine X_aload_n (a := 0) dX12_rules_96 rfl rfl rfl ?_
      refine X_getR (t := 102) fl_X12_31 rfl rfl dX12_rules_97 rfl ?_
      refine X_iload_n (a := 1) dX12_rules_100 rfl rfl rfl ?_
      refine X_iald rfl rfl dX12_rules_101 rfl ?_
      refine X_iast rfl rfl dX12_rules_102 rfl ?_
      refine X_iinc (a := 1) (lv2 := [(1, .int (v1 + 1)), (0, .ref (ga G 94))]) dX12_rules_103 rfl (ii_1 _) (by decide) rfl rfl ?_
      refine X_goto (tgt := 82) dX12_rules_106 rfl ?_
      exact X_lv [1, 0] rfl (ih (si M 95 (ui (89 + v1)) (gi M 102 (ui v1))) (v1 + 1))
set_option maxRecDepth 100000 in
theorem x_X12_rules_L29 (G : Gm) : ∀ (n : Nat) (M : Mm), X fJ G miX12_rules (58) 29 [(0, .ref (ga G 94))] [] M (F_X12_rules_L29 n M) := by
  intro n
  induction n with
  | zero => intro M; exact X_none
  | succ n ih =>
    intro M
    rw [F_X12_rules_L29]
    refine X_aload_n (a := 0) dX12_rules_29 rfl rfl rfl ?_
    refine X_getI fl_X12_186 rfl dX12_rules_30 rfl ?_
    refine X_jc (P := fun j => X fJ G miX12_rules (58) 50 [(0, .ref (ga G 94))] [] M (j)) (?_) (fun j50 hj50 => ?_)
    · refine X_aload_n (a := 0) dX12_rules_50 rfl rfl rfl ?_
      refine X_iconst (w := 0) dX12_rules_51 ki_0 rfl ?_
      refine X_putI fp_X12_171 rfl dX12_rules_52 rfl ?_
      refine X_aload_n (a := 0) dX12_rules_55 rfl rfl rfl ?_
      refine X_getI fl_X12_205 rfl dX12_rules_56 rfl ?_
      refine X_if_eq (tgt := 70) dX12_rules_59 rfl rfl (fun e59 => ?_) (fun e59 => ?_)
      · refine X_aload_n (a := 0) dX12_rules_70 rfl rfl rfl ?_
        refine X_getR (t := 95) fl_X12_7 rfl rfl dX12_rules_71 rfl ?_
        refine X_iconst (w := 5) dX12_rules_74 ki_5 rfl ?_
        refine X_aload_n (a := 0) dX12_rules_75 rfl rfl rfl ?_
        refine X_getI fl_X12_286 rfl dX12_rules_76 rfl ?_
        refine X_iast rfl rfl dX12_rules_79 rfl ?_
        refine X_iconst (w := 0) dX12_rules_80 ki_0 rfl ?_
        refine X_istore_n (lv2 := [(1, .int 0), (0, .ref (ga G 94))]) dX12_rules_81 rfl (by decide) rfl rfl ?_
        exact X_lv [1, 0] rfl (x_X12_rules_L82 G 1000 (si (si M 94 8 0) 95 (ui 5) (gi (si M 94 8 0) 94 18)) 0)
      · refine X_bipush (w := (-100)) dX12_rules_62 kb_m100 rfl ?_
        refine X_aload_n (a := 0) dX12_rules_64 rfl rfl rfl ?_
        refine X_getI fl_X12_179 rfl dX12_rules_65 rfl ?_
        refine X_isub dX12_rules_68 rfl ?_
        exact X_iretJ rfl dX12_rules_69
    refine X_if_eq (tgt := 50) dX12_rules_33 rfl rfl (fun e33 => ?_) (fun e33 => ?_)
    · exact X_lv [0] rfl (hj50)
    · refine X_aload_n (a := 0) dX12_rules_36 rfl rfl rfl ?_
      refine X_getI fl_X12_205 rfl dX12_rules_37 rfl ?_
      refine X_if_ne (tgt := 50) dX12_rules_40 rfl rfl (fun e40 => ?_) (fun e40 => ?_)
      · exact X_lv [0] rfl (hj50)
      · refine X_aload_n (a := 0) dX12_rules_43 rfl rfl rfl ?_
        refine X_ruV (Ru_V (st := []) cv_X12_294 rfl (c_X12_ruleHere G M) (by decide) rfl rfl (Nat.le_of_ble_eq_true rfl) dX12_rules_44) rfl (fun r44 => ?_)
        refine X_goto (tgt := 29) dX12_rules_47 rfl ?_
        exact X_lv [0] rfl (ih r44)
set_option maxRecDepth 100000 in
theorem c_X12_rules (G : Gm) (M : Mm) : Ct fJ G miX12_rules (58) [.ref (ga G 94)] M (F_X12_rules M) := by
  refine Ct_of (pn_X12) (Nat.le_of_ble_eq_true rfl) ?_
  refine X_lv [0] (lv' := [(0, .ref (ga G 94))]) rfl ?_
  unfold F_X12_rules
  refine X_aload_n (a := 0) dX12_rules_0 rfl rfl rfl ?_
  refine X_iconst (w := 0) dX12_rules_1 ki_0 rfl ?_
  refine X_putI fp_X12_176 rfl dX12_rules_2 rfl ?_
  refine X_aload_n (a := 0) dX12_rules_5 rfl rfl rfl ?_
  refine X_iconst (w := 0) dX12_rules_6 ki_0 rfl ?_
  refine X_putZ fp_X12_205 rfl dX12_rules_7 rfl ?_
  refine X_aload_n (a := 0) dX12_rules_10 rfl rfl rfl ?_
  refine X_iconst (w := 0) dX12_rules_11 ki_0 rfl ?_
  refine X_putI fp_X12_264 rfl dX12_rules_12 rfl ?_
  refine X_aload_n (a := 0) dX12_rules_15 rfl rfl rfl ?_
  refine X_iconst (w := 0) dX12_rules_16 ki_0 rfl ?_
  refine X_putI fp_X12_209 rfl dX12_rules_17 rfl ?_
  refine X_aload_n (a := 0) dX12_rules_20 rfl rfl rfl ?_
  refine X_iconst (w := 0) dX12_rules_21 ki_0 rfl ?_
  refine X_putI fp_X12_286 rfl dX12_rules_22 rfl ?_
  refine X_aload_n (a := 0) dX12_rules_25 rfl rfl rfl ?_
  refine X_ruV (Ru_V (st := []) cv_X12_244 rfl (c_X12_next G (si (si (si (si (si M 94 9 0) 94 13 0) 94 14 0) 94 16 0) 94 18 0)) (by decide) rfl rfl (Nat.le_of_ble_eq_true rfl) dX12_rules_26) rfl (fun r26 => ?_)
  exact X_lv [0] rfl (x_X12_rules_L29 G 1000 r26)
set_option maxRecDepth 100000 in
theorem c_X12_tide (G : Gm) (M : Mm) : Ct fJ G miX12_tide (7) [.ref (ga G 94)] M (F_X12_tide M) := by
  refine Ct_of (pn_X12) (Nat.le_of_ble_eq_true rfl) ?_
  refine X_lv [0] (lv' := [(0, .ref (ga G 94))]) rfl ?_
  unfold F_X12_tide
  refine X_aload_n (a := 0) dX12_tide_0 rfl rfl rfl ?_
  refine X_ruI (Ru_V (st := []) cv_X12_137 rfl (c_X12_isOver G M) (by decide) rfl rfl (Nat.le_of_ble_eq_true rfl) dX12_tide_1) rfl (fun r1 => ?_)
  refine X_if_eq (tgt := 12) dX12_tide_4 rfl rfl (fun e4 => ?_) (fun e4 => ?_)
  · refine X_aload_n (a := 0) dX12_tide_12 rfl rfl rfl ?_
    refine X_aload_n (a := 0) dX12_tide_13 rfl rfl rfl ?_
    refine X_ruJ (Ru_V (st := [.ref (ga G 94)]) cv_X12_141 rfl (c_X12_actOfRest G M) (by decide) rfl rfl (Nat.le_of_ble_eq_true rfl) dX12_tide_14) rfl (fun r14 => ?_)
    refine X_ruJ (Ru_V (st := []) cv_X12_144 rfl (c_X12_tideGoes G r14.2 r14.1) (by decide) rfl rfl (Nat.le_of_ble_eq_true rfl) dX12_tide_17) rfl (fun r17 => ?_)
    exact X_iretJ rfl dX12_tide_20
  · refine X_bipush (w := (-4)) dX12_tide_7 kb_m4 rfl ?_
    refine X_goto (tgt := 20) dX12_tide_9 rfl ?_
    exact X_iretJ rfl dX12_tide_20
set_option maxRecDepth 100000 in
theorem c_X12_on (G : Gm) (M : Mm) (v1 : Int32) : Ct fJ G miX12_on (8) [.ref (ga G 94), .int v1] M (F_X12_on M v1) := by
  refine Ct_of (pn_X12) (Nat.le_of_ble_eq_true rfl) ?_
  refine X_lv [0, 1] (lv' := [(0, .ref (ga G 94)), (1, .int v1)]) rfl ?_
  unfold F_X12_on
  refine X_iload_n (a := 1) dX12_on_0 rfl rfl rfl ?_
  refine X_i2l dX12_on_1 rfl rfl ?_
  refine X_lconst (w := 0) dX12_on_2 kl_0 rfl ?_
  refine X_ldc2 (w := 16) dX12_on_3 t_1397 rfl ?_
  refine X_ruI (Ru_S (st := []) cs_X12_61 (c_X12_in G M (Int32.toInt64 v1) 0 16) (by decide) rfl rfl (Nat.le_of_ble_eq_true rfl) dX12_on_6) rfl (fun r6 => ?_)
  refine X_if_ne (tgt := 14) dX12_on_9 rfl rfl (fun e9 => ?_) (fun e9 => ?_)
  · refine X_aload_n (a := 0) dX12_on_14 rfl rfl rfl ?_
    refine X_ruV (Ru_V (st := []) cv_X12_297 rfl (c_X12_puts G M) (by decide) rfl rfl (Nat.le_of_ble_eq_true rfl) dX12_on_15) rfl (fun r15 => ?_)
    refine X_aload_n (a := 0) dX12_on_18 rfl rfl rfl ?_
    refine X_iload_n (a := 1) dX12_on_19 rfl rfl rfl ?_
    refine X_ruJ (Ru_V (st := []) cv_X12_300 rfl (c_X12_restGoes G r15 v1) (by decide) rfl rfl (Nat.le_of_ble_eq_true rfl) dX12_on_20) rfl (fun r20 => ?_)
    refine X_istore_n (lv2 := [(2, .int r20.1), (0, .ref (ga G 94)), (1, .int v1)]) dX12_on_23 rfl (by decide) rfl rfl ?_
    refine X_aload_n (a := 1) dX12_on_24 rfl rfl rfl ?_
    refine X_ruV (Ru_V (st := []) cv_X12_303 rfl (c_X12_takes G r20.2) (by decide) rfl rfl (Nat.le_of_ble_eq_true rfl) dX12_on_25) rfl (fun r25 => ?_)
    refine X_iload_n (a := 0) dX12_on_28 rfl rfl rfl ?_
    exact X_iretJ rfl dX12_on_29
  · refine X_iconst (w := (-1)) dX12_on_12 ki_m1 rfl ?_
    exact X_iretJ rfl dX12_on_13
set_option maxRecDepth 100000 in
theorem x_X12_when_L27 (G : Gm) (v1 : Int32) : ∀ (n : Nat) (M : Mm), X fJ G miX12_when (7) 27 [(0, .ref (ga G 94)), (1, .int v1)] [] M (F_X12_when_L27 v1 n M) := by
  intro n
  induction n with
  | zero => intro M; exact X_none
  | succ n ih =>
    intro M
    rw [F_X12_when_L27]
    refine X_aload_n (a := 0) dX12_when_27 rfl rfl rfl ?_
    refine X_ruI (Ru_V (st := []) cv_X12_137 rfl (c_X12_isOver G M) (by decide) rfl rfl (Nat.le_of_ble_eq_true rfl) dX12_when_28) rfl (fun r28 => ?_)
    refine X_jc (P := fun j => X fJ G miX12_when (7) 55 [(0, .ref (ga G 94)), (1, .int v1)] [] M (j)) (?_) (fun j55 hj55 => ?_)
    · refine X_aload_n (a := 0) dX12_when_55 rfl rfl rfl ?_
      refine X_iload_n (a := 1) dX12_when_56 rfl rfl rfl ?_
      refine X_iconst (w := 4) dX12_when_57 ki_4 rfl ?_
      refine X_ruI (Ru_V (st := []) cv_X12_80 rfl (c_X12_of G M v1 4) (by decide) rfl rfl (Nat.le_of_ble_eq_true rfl) dX12_when_58) rfl (fun r58 => ?_)
      refine X_iconst (w := 1) dX12_when_61 ki_1 rfl ?_
      refine X_jc (P := fun j => ∀ (x78_0 : Int32), X fJ G miX12_when (7) 78 [(0, .ref (ga G 94))] [.int x78_0] M (j x78_0)) (fun x78_0 => ?_) (fun j78 hj78 => ?_)
      · refine X_istore_n (lv2 := [(2, .int x78_0), (0, .ref (ga G 94))]) dX12_when_78 rfl (by decide) rfl rfl ?_
        refine X_aload_n (a := 1) dX12_when_79 rfl rfl rfl ?_
        refine X_ruV (Ru_V (st := []) cv_X12_303 rfl (c_X12_takes G M) (by decide) rfl rfl (Nat.le_of_ble_eq_true rfl) dX12_when_80) rfl (fun r80 => ?_)
        refine X_iload_n (a := 0) dX12_when_83 rfl rfl rfl ?_
        exact X_iretJ rfl dX12_when_84
      refine X_icmp_ne (tgt := 76) dX12_when_62 rfl rfl (fun e62 => ?_) (fun e62 => ?_)
      · refine X_bipush (w := (-3)) dX12_when_76 kb_m3 rfl ?_
        exact X_lv [0] rfl (hj78 (-3))
      · refine X_aload_n (a := 0) dX12_when_65 rfl rfl rfl ?_
        refine X_getR (t := 95) fl_X12_7 rfl rfl dX12_when_66 rfl ?_
        refine X_iconst (w := 1) dX12_when_69 ki_1 rfl ?_
        refine X_iald rfl rfl dX12_when_70 rfl ?_
        refine X_iconst (w := 1) dX12_when_71 ki_1 rfl ?_
        refine X_isub dX12_when_72 rfl ?_
        refine X_goto (tgt := 78) dX12_when_73 rfl ?_
        exact X_lv [0] rfl (hj78 ((gi M 95 (ui 1)) - 1))
    refine X_if_ne (tgt := 55) dX12_when_31 rfl rfl (fun e31 => ?_) (fun e31 => ?_)
    · exact X_lv [0, 1] rfl (hj55)
    · refine X_aload_n (a := 0) dX12_when_34 rfl rfl rfl ?_
      refine X_iload_n (a := 1) dX12_when_35 rfl rfl rfl ?_
      refine X_iconst (w := 4) dX12_when_36 ki_4 rfl ?_
      refine X_ruI (Ru_V (st := []) cv_X12_80 rfl (c_X12_of G M v1 4) (by decide) rfl rfl (Nat.le_of_ble_eq_true rfl) dX12_when_37) rfl (fun r37 => ?_)
      refine X_if_ne (tgt := 55) dX12_when_40 rfl rfl (fun e40 => ?_) (fun e40 => ?_)
      · exact X_lv [0, 1] rfl (hj55)
      · refine X_aload_n (a := 0) dX12_when_43 rfl rfl rfl ?_
        refine X_aload_n (a := 0) dX12_when_44 rfl rfl rfl ?_
        refine X_ruJ (Ru_V (st := [.ref (ga G 94)]) cv_X12_141 rfl (c_X12_actOfRest G M) (by decide) rfl rfl (Nat.le_of_ble_eq_true rfl) dX12_when_45) rfl (fun r45 => ?_)
        refine X_ruJ (Ru_V (st := []) cv_X12_144 rfl (c_X12_tideGoes G r45.2 r45.1) (by decide) rfl rfl (Nat.le_of_ble_eq_true rfl) dX12_when_48) rfl (fun r48 => ?_)
        refine X_pop dX12_when_51 rfl rfl ?_
        refine X_goto (tgt := 27) dX12_when_52 rfl ?_
        exact X_lv [0, 1] rfl (ih r48.2)
set_option maxRecDepth 100000 in
theorem c_X12_when (G : Gm) (M : Mm) (v1 : Int32) : Ct fJ G miX12_when (7) [.ref (ga G 94), .int v1] M (F_X12_when M v1) := by
  refine Ct_of (pn_X12) (Nat.le_of_ble_eq_true rfl) ?_
  refine X_lv [0, 1] (lv' := [(0, .ref (ga G 94)), (1, .int v1)]) rfl ?_
  unfold F_X12_when
  refine X_aload_n (a := 0) dX12_when_0 rfl rfl rfl ?_
  refine X_iload_n (a := 1) dX12_when_1 rfl rfl rfl ?_
  refine X_ruI (Ru_V (st := []) cv_X12_153 rfl (c_X12_isBarrel G M v1) (by decide) rfl rfl (Nat.le_of_ble_eq_true rfl) dX12_when_2) rfl (fun r2 => ?_)
  refine X_if_ne (tgt := 10) dX12_when_5 rfl rfl (fun e5 => ?_) (fun e5 => ?_)
  · refine X_aload_n (a := 0) dX12_when_10 rfl rfl rfl ?_
    refine X_iload_n (a := 1) dX12_when_11 rfl rfl rfl ?_
    refine X_iconst (w := 4) dX12_when_12 ki_4 rfl ?_
    refine X_ruI (Ru_V (st := []) cv_X12_80 rfl (c_X12_of G M v1 4) (by decide) rfl rfl (Nat.le_of_ble_eq_true rfl) dX12_when_13) rfl (fun r13 => ?_)
    refine X_iconst (w := 1) dX12_when_16 ki_1 rfl ?_
    refine X_icmp_ne (tgt := 23) dX12_when_17 rfl rfl (fun e17 => ?_) (fun e17 => ?_)
    · refine X_aload_n (a := 0) dX12_when_23 rfl rfl rfl ?_
      refine X_ruV (Ru_V (st := []) cv_X12_297 rfl (c_X12_puts G M) (by decide) rfl rfl (Nat.le_of_ble_eq_true rfl) dX12_when_24) rfl (fun r24 => ?_)
      exact X_lv [0, 1] rfl (x_X12_when_L27 G v1 1000 r24)
    · refine X_bipush (w := (-3)) dX12_when_20 kb_m3 rfl ?_
      exact X_iretJ rfl dX12_when_22
  · refine X_iconst (w := (-1)) dX12_when_8 ki_m1 rfl ?_
    exact X_iretJ rfl dX12_when_9
set_option maxRecDepth 100000 in
theorem x_X12_bestOf_L13 (G : Gm) (v1 : Int32) (v2 : Int32) (v3 : Int32) : ∀ (n : Nat) (M : Mm) (v4 : Int32) (v5 : Int32) (v6 : Int32), X fJ G miX12_bestOf (8) 13 [(0, .ref (ga G 94)), (1, .int v1), (2, .int v2), (3, .int v3), (4, .int v4), (5, .int v5), (6, .int v6)] [] M (F_X12_bestOf_L13 v1 v2 v3 n M v4 v5 v6) := by
  intro n
  induction n with
  | zero => intro M v4 v5 v6; exact X_none
  | succ n ih =>
    intro M v4 v5 v6
    rw [F_X12_bestOf_L13]
    refine X_iload (a := 6) dX12_bestOf_13 rfl rfl ?_
    refine X_iload_n (a := 3) dX12_bestOf_15 rfl rfl rfl ?_
    refine X_icmp_gt (tgt := 60) dX12_bestOf_16 rfl rfl (fun e16 => ?_) (fun e16 => ?_)
    · refine X_aload_n (a := 0) dX12_bestOf_60 rfl rfl rfl ?_
      refine X_ruV (Ru_V (st := []) cv_X12_303 rfl (c_X12_takes G M) (by decide) rfl rfl (Nat.le_of_ble_eq_true rfl) dX12_bestOf_61) rfl (fun r61 => ?_)
      refine X_iload (a := 4) dX12_bestOf_64 rfl rfl ?_
      exact X_iretJ rfl dX12_bestOf_66
    · refine X_aload_n (a := 0) dX12_bestOf_19 rfl rfl rfl ?_
      refine X_iload_n (a := 1) dX12_bestOf_20 rfl rfl rfl ?_
      refine X_iload_n (a := 2) dX12_bestOf_21 rfl rfl rfl ?_
      refine X_iload (a := 6) dX12_bestOf_22 rfl rfl ?_
      refine X_ruV (Ru_V (st := []) cv_X12_123 rfl (c_X12_sets G M v1 v2 v6) (by decide) rfl rfl (Nat.le_of_ble_eq_true rfl) dX12_bestOf_24) rfl (fun r24 => ?_)
      refine X_aload_n (a := 0) dX12_bestOf_27 rfl rfl rfl ?_
      refine X_bipush (w := 16) dX12_bestOf_28 kb_16 rfl ?_
      refine X_ruJ (Ru_V (st := []) cv_X12_300 rfl (c_X12_restGoes G r24 16) (by decide) rfl rfl (Nat.le_of_ble_eq_true rfl) dX12_bestOf_30) rfl (fun r30 => ?_)
      refine X_istore (lv2 := [(7, .int r30.1), (0, .ref (ga G 94)), (1, .int v1), (2, .int v2), (3, .int v3), (4, .int v4), (5, .int v5), (6, .int v6)]) dX12_bestOf_33 (by decide) rfl rfl ?_
      refine X_aload_n (a := 1) dX12_bestOf_35 rfl rfl rfl ?_
      refine X_ruV (Ru_V (st := []) cv_X12_69 rfl (c_X12_back G r30.2) (by decide) rfl rfl (Nat.le_of_ble_eq_true rfl) dX12_bestOf_36) rfl (fun r36 => ?_)
      refine X_iload (a := 0) dX12_bestOf_39 rfl rfl ?_
      refine X_iload (a := 6) dX12_bestOf_41 rfl rfl ?_
      refine X_jc (P := fun j => ∀ (v4 : Int32) (v5 : Int32), X fJ G miX12_bestOf (8) 54 [(0, .ref (ga G 94)), (1, .int v1), (2, .int v2), (3, .int v3), (4, .int v4), (5, .int v5), (6, .int v6)] [] r36 (j v4 v5)) (fun v4 v5 => ?_) (fun j54 hj54 => ?_)
      · refine X_iinc (a := 6) (lv2 := [(6, .int (v6 + 1)), (0, .ref (ga G 94)), (1, .int v1), (2, .int v2), (3, .int v3), (4, .int v4), (5, .int v5)]) dX12_bestOf_54 rfl (ii_1 _) (by decide) rfl rfl ?_
        refine X_goto (tgt := 13) dX12_bestOf_57 rfl ?_
        exact X_lv [1, 2, 3, 4, 5, 6, 0] rfl (ih r36 v4 v5 (v6 + 1))
      refine X_icmp_le (tgt := 54) dX12_bestOf_43 rfl rfl (fun e43 => ?_) (fun e43 => ?_)
      · exact X_lv [1, 2, 3, 4, 5, 6, 7] rfl (hj54 v4 v5)
      · refine X_iload (a := 7) dX12_bestOf_46 rfl rfl ?_
        refine X_istore (lv2 := [(4, .int v6), (7, .int r30.1), (0, .ref (ga G 94)), (1, .int v1), (2, .int v2), (3, .int v3), (5, .int v5), (6, .int v6)]) dX12_bestOf_48 (by decide) rfl rfl ?_
        refine X_iload (a := 1) dX12_bestOf_50 rfl rfl ?_
        refine X_istore (lv2 := [(5, .int r30.1), (4, .int v6), (7, .int r30.1), (0, .ref (ga G 94)), (1, .int v1), (2, .int v2), (3, .int v3), (6, .int v6)]) dX12_bestOf_52 (by decide) rfl rfl ?_
        exact X_lv [3, 4, 5, 6, 1, 0, 7] rfl (hj54 v6 r30.1)
set_option maxRecDepth 100000 in
theorem c_X12_bestOf (G : Gm) (M : Mm) (v1 : Int32) (v2 : Int32) (v3 : Int32) : Ct fJ G miX12_bestOf (8) [.ref (ga G 94), .int v1, .int v2, .int v3] M (F_X12_bestOf M v1 v2 v3) := by
  refine Ct_of (pn_X12) (Nat.le_of_ble_eq_true rfl) ?_
  refine X_lv [0, 1, 2, 3] (lv' := [(0, .ref (ga G 94)), (1, .int v1), (2, .int v2), (3, .int v3)]) rfl ?_
  unfold F_X12_bestOf
  refine X_aload_n (a := 0) dX12_bestOf_0 rfl rfl rfl ?_
  refine X_ruV (Ru_V (st := []) cv_X12_297 rfl (c_X12_puts G M) (by decide) rfl rfl (Nat.le_of_ble_eq_true rfl) dX12_bestOf_1) rfl (fun r1 => ?_)
  refine X_iconst (w := 0) dX12_bestOf_4 ki_0 rfl ?_
  refine X_istore (lv2 := [(4, .int 0), (0, .ref (ga G 94)), (1, .int v1), (2, .int v2), (3, .int v3)]) dX12_bestOf_5 (by decide) rfl rfl ?_
  refine X_iconst (w := (-1)) dX12_bestOf_7 ki_m1 rfl ?_
  refine X_istore (lv2 := [(5, .int (-1)), (4, .int 0), (0, .ref (ga G 94)), (1, .int v1), (2, .int v2), (3, .int v3)]) dX12_bestOf_8 (by decide) rfl rfl ?_
  refine X_iconst (w := 0) dX12_bestOf_10 ki_0 rfl ?_
  refine X_istore (lv2 := [(6, .int 0), (5, .int (-1)), (4, .int 0), (0, .ref (ga G 94)), (1, .int v1), (2, .int v2), (3, .int v3)]) dX12_bestOf_11 (by decide) rfl rfl ?_
  exact X_lv [3, 4, 5, 6, 2, 1, 0] rfl (x_X12_bestOf_L13 G v1 v2 v3 1000 r1 0 (-1) 0)
set_option maxRecDepth 100000 in
theorem c_X12_chalkFor (G : Gm) (M : Mm) (v1 : Int32) : Ct fJ G miX12_chalkFor (9) [.ref (ga G 94), .int v1] M (F_X12_chalkFor M v1) := by
  refine Ct_of (pn_X12) (Nat.le_of_ble_eq_true rfl) ?_
  refine X_lv [0, 1] (lv' := [(0, .ref (ga G 94)), (1, .int v1)]) rfl ?_
  unfold F_X12_chalkFor
  refine X_aload_n (a := 0) dX12_chalkFor_0 rfl rfl rfl ?_
  refine X_iload_n (a := 1) dX12_chalkFor_1 rfl rfl rfl ?_
  refine X_ruI (Ru_V (st := []) cv_X12_153 rfl (c_X12_isBarrel G M v1) (by decide) rfl rfl (Nat.le_of_ble_eq_true rfl) dX12_chalkFor_2) rfl (fun r2 => ?_)
  refine X_if_eq (tgt := 19) dX12_chalkFor_5 rfl rfl (fun e5 => ?_) (fun e5 => ?_)
  · refine X_iconst (w := (-1)) dX12_chalkFor_19 ki_m1 rfl ?_
    exact X_iretJ rfl dX12_chalkFor_20
  · refine X_aload_n (a := 0) dX12_chalkFor_8 rfl rfl rfl ?_
    refine X_iload_n (a := 1) dX12_chalkFor_9 rfl rfl rfl ?_
    refine X_iconst (w := 2) dX12_chalkFor_10 ki_2 rfl ?_
    refine X_bipush (w := 9) dX12_chalkFor_11 kb_9 rfl ?_
    refine X_ruJ (Ru_V (st := []) cv_X12_306 rfl (c_X12_bestOf G M v1 2 9) (by decide) rfl rfl (Nat.le_of_ble_eq_true rfl) dX12_chalkFor_13) rfl (fun r13 => ?_)
    refine X_goto (tgt := 20) dX12_chalkFor_16 rfl ?_
    exact X_iretJ rfl dX12_chalkFor_20
set_option maxRecDepth 100000 in
theorem c_X12_tierFor (G : Gm) (M : Mm) (v1 : Int32) : Ct fJ G miX12_tierFor (9) [.ref (ga G 94), .int v1] M (F_X12_tierFor M v1) := by
  refine Ct_of (pn_X12) (Nat.le_of_ble_eq_true rfl) ?_
  refine X_lv [0, 1] (lv' := [(0, .ref (ga G 94)), (1, .int v1)]) rfl ?_
  unfold F_X12_tierFor
  refine X_aload_n (a := 0) dX12_tierFor_0 rfl rfl rfl ?_
  refine X_iload_n (a := 1) dX12_tierFor_1 rfl rfl rfl ?_
  refine X_ruI (Ru_V (st := []) cv_X12_153 rfl (c_X12_isBarrel G M v1) (by decide) rfl rfl (Nat.le_of_ble_eq_true rfl) dX12_tierFor_2) rfl (fun r2 => ?_)
  refine X_if_eq (tgt := 18) dX12_tierFor_5 rfl rfl (fun e5 => ?_) (fun e5 => ?_)
  · refine X_iconst (w := (-1)) dX12_tierFor_18 ki_m1 rfl ?_
    exact X_iretJ rfl dX12_tierFor_19
  · refine X_aload_n (a := 0) dX12_tierFor_8 rfl rfl rfl ?_
    refine X_iload_n (a := 1) dX12_tierFor_9 rfl rfl rfl ?_
    refine X_iconst (w := 3) dX12_tierFor_10 ki_3 rfl ?_
    refine X_iconst (w := 5) dX12_tierFor_11 ki_5 rfl ?_
    refine X_ruJ (Ru_V (st := []) cv_X12_306 rfl (c_X12_bestOf G M v1 3 5) (by decide) rfl rfl (Nat.le_of_ble_eq_true rfl) dX12_tierFor_12) rfl (fun r12 => ?_)
    refine X_goto (tgt := 19) dX12_tierFor_15 rfl ?_
    exact X_iretJ rfl dX12_tierFor_19
set_option maxRecDepth 100000 in
theorem x_X12_dry_L14 (G : Gm) (v1 : Int32) : ∀ (n : Nat) (M : Mm), X fJ G miX12_dry (7) 14 [(0, .ref (ga G 94)), (1, .int v1)] [] M (F_X12_dry_L14 v1 n M) := by
  intro n
  induction n with
  | zero => intro M; exact X_none
  | succ n ih =>
    intro M
    rw [F_X12_dry_L14]
    refine X_aload_n (a := 0) dX12_dry_14 rfl rfl rfl ?_
    refine X_ruI (Ru_V (st := []) cv_X12_137 rfl (c_X12_isOver G M) (by decide) rfl rfl (Nat.le_of_ble_eq_true rfl) dX12_dry_15) rfl (fun r15 => ?_)
    refine X_jc (P := fun j => X fJ G miX12_dry (7) 42 [(0, .ref (ga G 94)), (1, .int v1)] [] M (j)) (?_) (fun j42 hj42 => ?_)
    · refine X_aload_n (a := 0) dX12_dry_42 rfl rfl rfl ?_
      refine X_iload_n (a := 1) dX12_dry_43 rfl rfl rfl ?_
      refine X_iconst (w := 1) dX12_dry_44 ki_1 rfl ?_
      refine X_ruI (Ru_V (st := []) cv_X12_80 rfl (c_X12_of G M v1 1) (by decide) rfl rfl (Nat.le_of_ble_eq_true rfl) dX12_dry_45) rfl (fun r45 => ?_)
      refine X_jc (P := fun j => ∀ (x62_0 : Int32), X fJ G miX12_dry (7) 62 [(0, .ref (ga G 94))] [.int x62_0] M (j x62_0)) (fun x62_0 => ?_) (fun j62 hj62 => ?_)
      · refine X_istore_n (lv2 := [(2, .int x62_0), (0, .ref (ga G 94))]) dX12_dry_62 rfl (by decide) rfl rfl ?_
        refine X_aload_n (a := 1) dX12_dry_63 rfl rfl rfl ?_
        refine X_ruV (Ru_V (st := []) cv_X12_303 rfl (c_X12_takes G M) (by decide) rfl rfl (Nat.le_of_ble_eq_true rfl) dX12_dry_64) rfl (fun r64 => ?_)
        refine X_iload_n (a := 0) dX12_dry_67 rfl rfl rfl ?_
        exact X_iretJ rfl dX12_dry_68
      refine X_if_ne (tgt := 60) dX12_dry_48 rfl rfl (fun e48 => ?_) (fun e48 => ?_)
      · refine X_bipush (w := (-3)) dX12_dry_60 kb_m3 rfl ?_
        exact X_lv [0] rfl (hj62 (-3))
      · refine X_aload_n (a := 0) dX12_dry_51 rfl rfl rfl ?_
        refine X_getR (t := 95) fl_X12_7 rfl rfl dX12_dry_52 rfl ?_
        refine X_iconst (w := 1) dX12_dry_55 ki_1 rfl ?_
        refine X_iald rfl rfl dX12_dry_56 rfl ?_
        refine X_goto (tgt := 62) dX12_dry_57 rfl ?_
        exact X_lv [0] rfl (hj62 (gi M 95 (ui 1)))
    refine X_if_ne (tgt := 42) dX12_dry_18 rfl rfl (fun e18 => ?_) (fun e18 => ?_)
    · exact X_lv [0, 1] rfl (hj42)
    · refine X_aload_n (a := 0) dX12_dry_21 rfl rfl rfl ?_
      refine X_iload_n (a := 1) dX12_dry_22 rfl rfl rfl ?_
      refine X_iconst (w := 1) dX12_dry_23 ki_1 rfl ?_
      refine X_ruI (Ru_V (st := []) cv_X12_80 rfl (c_X12_of G M v1 1) (by decide) rfl rfl (Nat.le_of_ble_eq_true rfl) dX12_dry_24) rfl (fun r24 => ?_)
      refine X_if_le (tgt := 42) dX12_dry_27 rfl rfl (fun e27 => ?_) (fun e27 => ?_)
      · exact X_lv [0, 1] rfl (hj42)
      · refine X_aload_n (a := 0) dX12_dry_30 rfl rfl rfl ?_
        refine X_aload_n (a := 0) dX12_dry_31 rfl rfl rfl ?_
        refine X_ruJ (Ru_V (st := [.ref (ga G 94)]) cv_X12_141 rfl (c_X12_actOfRest G M) (by decide) rfl rfl (Nat.le_of_ble_eq_true rfl) dX12_dry_32) rfl (fun r32 => ?_)
        refine X_ruJ (Ru_V (st := []) cv_X12_144 rfl (c_X12_tideGoes G r32.2 r32.1) (by decide) rfl rfl (Nat.le_of_ble_eq_true rfl) dX12_dry_35) rfl (fun r35 => ?_)
        refine X_pop dX12_dry_38 rfl rfl ?_
        refine X_goto (tgt := 14) dX12_dry_39 rfl ?_
        exact X_lv [0, 1] rfl (ih r35.2)
set_option maxRecDepth 100000 in
theorem c_X12_dry (G : Gm) (M : Mm) (v1 : Int32) : Ct fJ G miX12_dry (7) [.ref (ga G 94), .int v1] M (F_X12_dry M v1) := by
  refine Ct_of (pn_X12) (Nat.le_of_ble_eq_true rfl) ?_
  refine X_lv [0, 1] (lv' := [(0, .ref (ga G 94)), (1, .int v1)]) rfl ?_
  unfold F_X12_dry
  refine X_aload_n (a := 0) dX12_dry_0 rfl rfl rfl ?_
  refine X_iload_n (a := 1) dX12_dry_1 rfl rfl rfl ?_
  refine X_ruI (Ru_V (st := []) cv_X12_153 rfl (c_X12_isBarrel G M v1) (by decide) rfl rfl (Nat.le_of_ble_eq_true rfl) dX12_dry_2) rfl (fun r2 => ?_)
  refine X_if_ne (tgt := 10) dX12_dry_5 rfl rfl (fun e5 => ?_) (fun e5 => ?_)
  · refine X_aload_n (a := 0) dX12_dry_10 rfl rfl rfl ?_
    refine X_ruV (Ru_V (st := []) cv_X12_297 rfl (c_X12_puts G M) (by decide) rfl rfl (Nat.le_of_ble_eq_true rfl) dX12_dry_11) rfl (fun r11 => ?_)
    exact X_lv [0, 1] rfl (x_X12_dry_L14 G v1 1000 r11)
  · refine X_iconst (w := (-1)) dX12_dry_8 ki_m1 rfl ?_
    exact X_iretJ rfl dX12_dry_9
set_option maxRecDepth 100000 in
theorem x_X12_least_L35 (G : Gm) (v1 : Int32) (v2 : Int32) (v3 : Int32) : ∀ (n : Nat) (M : Mm) (v4 : Int32) (v5 : Int32), X fJ G miX12_least (4) 35 [(0, .ref (ga G 94)), (1, .int v1), (2, .int v2), (3, .int v3), (4, .int v4), (5, .int v5)] [] M (F_X12_least_L35 v1 v2 v3 n M v4 v5) := by
  intro n
  induction n with
  | zero => intro M v4 v5; exact X_none
  | succ n ih =>
    intro M v4 v5
    rw [F_X12_least_L35]
    refine X_iload (a := 5) dX12_least_35 rfl rfl ?_
    refine X_if_lt (tgt := 71) dX12_least_37 rfl rfl (fun e37 => ?_) (fun e37 => ?_)
    · refine X_aload_n (a := 0) dX12_least_71 rfl rfl rfl ?_
      refine X_getR (t := 95) fl_X12_7 rfl rfl dX12_least_72 rfl ?_
      refine X_iload_n (a := 2) dX12_least_75 rfl rfl rfl ?_
      refine X_iload_n (a := 3) dX12_least_76 rfl rfl rfl ?_
      refine X_iast rfl rfl dX12_least_77 rfl ?_
      refine X_iload (a := 4) dX12_least_78 rfl rfl ?_
      exact X_iretJ rfl dX12_least_80
    · refine X_aload_n (a := 0) dX12_least_40 rfl rfl rfl ?_
      refine X_getR (t := 95) fl_X12_7 rfl rfl dX12_least_41 rfl ?_
      refine X_iload_n (a := 2) dX12_least_44 rfl rfl rfl ?_
      refine X_iload (a := 5) dX12_least_45 rfl rfl ?_
      refine X_iast rfl rfl dX12_least_47 rfl ?_
      refine X_aload_n (a := 0) dX12_least_48 rfl rfl rfl ?_
      refine X_iload_n (a := 1) dX12_least_49 rfl rfl rfl ?_
      refine X_ruI (Ru_V (st := []) cv_X12_120 rfl (c_X12_pays G (si M 95 (ui v2) v5) v1) (by decide) rfl rfl (Nat.le_of_ble_eq_true rfl) dX12_least_50) rfl (fun r50 => ?_)
      refine X_jc (P := fun j => ∀ (x63_0 : Int32), X fJ G miX12_least (4) 63 [(0, .ref (ga G 94)), (1, .int v1), (2, .int v2), (3, .int v3), (5, .int v5)] [.int x63_0] (si M 95 (ui v2) v5) (j x63_0)) (fun x63_0 => ?_) (fun j63 hj63 => ?_)
      · refine X_istore (lv2 := [(4, .int x63_0), (0, .ref (ga G 94)), (1, .int v1), (2, .int v2), (3, .int v3), (5, .int v5)]) dX12_least_63 (by decide) rfl rfl ?_
        refine X_iinc (a := 5) (lv2 := [(5, .int (v5 + (-1))), (4, .int x63_0), (0, .ref (ga G 94)), (1, .int v1), (2, .int v2), (3, .int v3)]) dX12_least_65 rfl (ii_m1 _) (by decide) rfl rfl ?_
        refine X_goto (tgt := 35) dX12_least_68 rfl ?_
        exact X_lv [2, 3, 4, 5, 1, 0] rfl (ih (si M 95 (ui v2) v5) x63_0 (v5 + (-1)))
      refine X_if_le (tgt := 61) dX12_least_53 rfl rfl (fun e53 => ?_) (fun e53 => ?_)
      · refine X_iload (a := 4) dX12_least_61 rfl rfl ?_
        exact X_lv [0, 1, 2, 3, 5] rfl (hj63 v4)
      · refine X_iload (a := 5) dX12_least_56 rfl rfl ?_
        refine X_goto (tgt := 63) dX12_least_58 rfl ?_
        exact X_lv [0, 1, 2, 3, 5] rfl (hj63 v5)
set_option maxRecDepth 100000 in
theorem c_X12_least (G : Gm) (M : Mm) (v1 : Int32) : Ct fJ G miX12_least (4) [.ref (ga G 94), .int v1] M (F_X12_least M v1) := by
  refine Ct_of (pn_X12) (Nat.le_of_ble_eq_true rfl) ?_
  refine X_lv [0, 1] (lv' := [(0, .ref (ga G 94)), (1, .int v1)]) rfl ?_
  unfold F_X12_least
  refine X_aload_n (a := 0) dX12_least_0 rfl rfl rfl ?_
  refine X_iload_n (a := 1) dX12_least_1 rfl rfl rfl ?_
  refine X_ruI (Ru_V (st := []) cv_X12_153 rfl (c_X12_isBarrel G M v1) (by decide) rfl rfl (Nat.le_of_ble_eq_true rfl) dX12_least_2) rfl (fun r2 => ?_)
  refine X_if_ne (tgt := 10) dX12_least_5 rfl rfl (fun e5 => ?_) (fun e5 => ?_)
  · refine X_bipush (w := 23) dX12_least_10 kb_23 rfl ?_
    refine X_aload_n (a := 0) dX12_least_12 rfl rfl rfl ?_
    refine X_iload_n (a := 1) dX12_least_13 rfl rfl rfl ?_
    refine X_iconst (w := 3) dX12_least_14 ki_3 rfl ?_
    refine X_ruI (Ru_V (st := [.int 23]) cv_X12_80 rfl (c_X12_of G M v1 3) (by decide) rfl rfl (Nat.le_of_ble_eq_true rfl) dX12_least_15) rfl (fun r15 => ?_)
    refine X_iadd dX12_least_18 rfl ?_
    refine X_istore_n (lv2 := [(2, .int (23 + r15)), (0, .ref (ga G 94)), (1, .int v1)]) dX12_least_19 rfl (by decide) rfl rfl ?_
    refine X_aload_n (a := 1) dX12_least_20 rfl rfl rfl ?_
    refine X_getR (t := 95) fl_X12_7 rfl rfl dX12_least_21 rfl ?_
    refine X_iload_n (a := 0) dX12_least_24 rfl rfl rfl ?_
    refine X_iald rfl rfl dX12_least_25 rfl ?_
    refine X_istore_n (lv2 := [(3, .int (gi M 95 (ui (23 + r15)))), (2, .int (23 + r15)), (0, .ref (ga G 94)), (1, .int v1)]) dX12_least_26 rfl (by decide) rfl rfl ?_
    refine X_bipush (w := (-3)) dX12_least_27 kb_m3 rfl ?_
    refine X_istore (lv2 := [(4, .int (-3)), (3, .int (gi M 95 (ui (23 + r15)))), (2, .int (23 + r15)), (0, .ref (ga G 94)), (1, .int v1)]) dX12_least_29 (by decide) rfl rfl ?_
    refine X_bipush (w := 9) dX12_least_31 kb_9 rfl ?_
    refine X_istore (lv2 := [(5, .int 9), (4, .int (-3)), (3, .int (gi M 95 (ui (23 + r15)))), (2, .int (23 + r15)), (0, .ref (ga G 94)), (1, .int v1)]) dX12_least_33 (by decide) rfl rfl ?_
    exact X_lv [4, 5, 3, 2, 1, 0] rfl (x_X12_least_L35 G v1 (23 + r15) (gi M 95 (ui (23 + r15))) 1000 M (-3) 9)
  · refine X_iconst (w := (-1)) dX12_least_8 ki_m1 rfl ?_
    exact X_iretJ rfl dX12_least_9
set_option maxRecDepth 100000 in
theorem c_X12_left (G : Gm) (M : Mm) (v1 : Int32) (v2 : Int32) : Ct fJ G miX12_left (8) [.ref (ga G 94), .int v1, .int v2] M (F_X12_left M v1 v2) := by
  refine Ct_of (pn_X12) (Nat.le_of_ble_eq_true rfl) ?_
  refine X_lv [0, 1, 2] (lv' := [(0, .ref (ga G 94)), (1, .int v1), (2, .int v2)]) rfl ?_
  unfold F_X12_left
  refine X_iload_n (a := 1) dX12_left_0 rfl rfl rfl ?_
  refine X_i2l dX12_left_1 rfl rfl ?_
  refine X_lconst (w := 0) dX12_left_2 kl_0 rfl ?_
  refine X_ldc2 (w := 16) dX12_left_3 t_1397 rfl ?_
  refine X_ruI (Ru_S (st := []) cs_X12_61 (c_X12_in G M (Int32.toInt64 v1) 0 16) (by decide) rfl rfl (Nat.le_of_ble_eq_true rfl) dX12_left_6) rfl (fun r6 => ?_)
  refine X_if_eq (tgt := 22) dX12_left_9 rfl rfl (fun e9 => ?_) (fun e9 => ?_)
  · refine X_iconst (w := (-1)) dX12_left_22 ki_m1 rfl ?_
    exact X_iretJ rfl dX12_left_23
  · refine X_iload_n (a := 2) dX12_left_12 rfl rfl rfl ?_
    refine X_i2l dX12_left_13 rfl rfl ?_
    refine X_lconst (w := 0) dX12_left_14 kl_0 rfl ?_
    refine X_lconst (w := 1) dX12_left_15 kl_1 rfl ?_
    refine X_ruI (Ru_S (st := []) cs_X12_61 (c_X12_in G M (Int32.toInt64 v2) 0 1) (by decide) rfl rfl (Nat.le_of_ble_eq_true rfl) dX12_left_16) rfl (fun r16 => ?_)
    refine X_if_ne (tgt := 24) dX12_left_19 rfl rfl (fun e19 => ?_) (fun e19 => ?_)
    · refine X_aload_n (a := 0) dX12_left_24 rfl rfl rfl ?_
      refine X_ruV (Ru_V (st := []) cv_X12_297 rfl (c_X12_puts G M) (by decide) rfl rfl (Nat.le_of_ble_eq_true rfl) dX12_left_25) rfl (fun r25 => ?_)
      refine X_aload_n (a := 0) dX12_left_28 rfl rfl rfl ?_
      refine X_iload_n (a := 1) dX12_left_29 rfl rfl rfl ?_
      refine X_ruJ (Ru_V (st := []) cv_X12_300 rfl (c_X12_restGoes G r25 v1) (by decide) rfl rfl (Nat.le_of_ble_eq_true rfl) dX12_left_30) rfl (fun r30 => ?_)
      refine X_pop dX12_left_33 rfl rfl ?_
      refine X_iload_n (a := 2) dX12_left_34 rfl rfl rfl ?_
      refine X_jc (P := fun j => ∀ (x49_0 : Int32), X fJ G miX12_left (8) 49 [(0, .ref (ga G 94))] [.int x49_0] r30.2 (j x49_0)) (fun x49_0 => ?_) (fun j49 hj49 => ?_)
      · refine X_istore_n (lv2 := [(3, .int x49_0), (0, .ref (ga G 94))]) dX12_left_49 rfl (by decide) rfl rfl ?_
        refine X_aload_n (a := 1) dX12_left_50 rfl rfl rfl ?_
        refine X_ruV (Ru_V (st := []) cv_X12_303 rfl (c_X12_takes G r30.2) (by decide) rfl rfl (Nat.le_of_ble_eq_true rfl) dX12_left_51) rfl (fun r51 => ?_)
        refine X_iload_n (a := 0) dX12_left_54 rfl rfl rfl ?_
        exact X_iretJ rfl dX12_left_55
      refine X_if_ne (tgt := 45) dX12_left_35 rfl rfl (fun e35 => ?_) (fun e35 => ?_)
      · refine X_aload_n (a := 0) dX12_left_45 rfl rfl rfl ?_
        refine X_ruI (Ru_V (st := []) cv_X12_163 rfl (c_X12_staked G r30.2) (by decide) rfl rfl (Nat.le_of_ble_eq_true rfl) dX12_left_46) rfl (fun r46 => ?_)
        exact X_lv [0] rfl (hj49 r46)
      · refine X_aload_n (a := 0) dX12_left_38 rfl rfl rfl ?_
        refine X_ruI (Ru_V (st := []) cv_X12_166 rfl (c_X12_fillAll G r30.2) (by decide) rfl rfl (Nat.le_of_ble_eq_true rfl) dX12_left_39) rfl (fun r39 => ?_)
        refine X_goto (tgt := 49) dX12_left_42 rfl ?_
        exact X_lv [0] rfl (hj49 r39)
    · refine X_iconst (w := (-1)) dX12_left_22 ki_m1 rfl ?_
      exact X_iretJ rfl dX12_left_23
set_option maxRecDepth 100000 in
theorem c_X12_isClose (G : Gm) (M : Mm) (v1 : Int32) (v2 : Int32) : Ct (fI M) G miX12_isClose (3) [.ref (ga G 94), .int v1, .int v2] M (F_X12_isClose M v1 v2) := by
  refine Ct_of (pn_X12) (Nat.le_of_ble_eq_true rfl) ?_
  refine X_lv [0, 1, 2] (lv' := [(0, .ref (ga G 94)), (1, .int v1), (2, .int v2)]) rfl ?_
  unfold F_X12_isClose
  refine X_aload_n (a := 0) dX12_isClose_0 rfl rfl rfl ?_
  refine X_iload_n (a := 1) dX12_isClose_1 rfl rfl rfl ?_
  refine X_iconst (w := 4) dX12_isClose_2 ki_4 rfl ?_
  refine X_ruI (Ru_V (st := []) cv_X12_80 rfl (c_X12_of G M v1 4) (by decide) rfl rfl (Nat.le_of_ble_eq_true rfl) dX12_isClose_3) rfl (fun r3 => ?_)
  refine X_aload_n (a := 0) dX12_isClose_6 rfl rfl rfl ?_
  refine X_iload_n (a := 2) dX12_isClose_7 rfl rfl rfl ?_
  refine X_iconst (w := 4) dX12_isClose_8 ki_4 rfl ?_
  refine X_ruI (Ru_V (st := [.int r3]) cv_X12_80 rfl (c_X12_of G M v2 4) (by decide) rfl rfl (Nat.le_of_ble_eq_true rfl) dX12_isClose_9) rfl (fun r9 => ?_)
  refine X_iadd dX12_isClose_12 rfl ?_
  refine X_if_ne (tgt := 48) dX12_isClose_13 rfl rfl (fun e13 => ?_) (fun e13 => ?_)
  · refine X_iconst (w := 0) dX12_isClose_48 ki_0 rfl ?_
    exact X_zretI rfl dX12_isClose_49
  · refine X_aload_n (a := 0) dX12_isClose_16 rfl rfl rfl ?_
    refine X_iload_n (a := 1) dX12_isClose_17 rfl rfl rfl ?_
    refine X_iconst (w := 3) dX12_isClose_18 ki_3 rfl ?_
    refine X_ruI (Ru_V (st := []) cv_X12_80 rfl (c_X12_of G M v1 3) (by decide) rfl rfl (Nat.le_of_ble_eq_true rfl) dX12_isClose_19) rfl (fun r19 => ?_)
    refine X_aload_n (a := 0) dX12_isClose_22 rfl rfl rfl ?_
    refine X_iload_n (a := 2) dX12_isClose_23 rfl rfl rfl ?_
    refine X_iconst (w := 3) dX12_isClose_24 ki_3 rfl ?_
    refine X_ruI (Ru_V (st := [.int r19]) cv_X12_80 rfl (c_X12_of G M v2 3) (by decide) rfl rfl (Nat.le_of_ble_eq_true rfl) dX12_isClose_25) rfl (fun r25 => ?_)
    refine X_icmp_eq (tgt := 44) dX12_isClose_28 rfl rfl (fun e28 => ?_) (fun e28 => ?_)
    · refine X_iconst (w := 1) dX12_isClose_44 ki_1 rfl ?_
      refine X_goto (tgt := 49) dX12_isClose_45 rfl ?_
      exact X_zretI rfl dX12_isClose_49
    · refine X_aload_n (a := 0) dX12_isClose_31 rfl rfl rfl ?_
      refine X_iload_n (a := 1) dX12_isClose_32 rfl rfl rfl ?_
      refine X_ruI (Ru_V (st := []) cv_X12_101 rfl (c_X12_floats G M v1) (by decide) rfl rfl (Nat.le_of_ble_eq_true rfl) dX12_isClose_33) rfl (fun r33 => ?_)
      refine X_aload_n (a := 0) dX12_isClose_36 rfl rfl rfl ?_
      refine X_iload_n (a := 2) dX12_isClose_37 rfl rfl rfl ?_
      refine X_ruI (Ru_V (st := [.int r33]) cv_X12_101 rfl (c_X12_floats G M v2) (by decide) rfl rfl (Nat.le_of_ble_eq_true rfl) dX12_isClose_38) rfl (fun r38 => ?_)
      refine X_icmp_ne (tgt := 48) dX12_isClose_41 rfl rfl (fun e41 => ?_) (fun e41 => ?_)
      · refine X_iconst (w := 0) dX12_isClose_48 ki_0 rfl ?_
        exact X_zretI rfl dX12_isClose_49
      · refine X_iconst (w := 1) dX12_isClose_44 ki_1 rfl ?_
        refine X_goto (tgt := 49) dX12_isClose_45 rfl ?_
        exact X_zretI rfl dX12_isClose_49
set_option maxRecDepth 100000 in
theorem x_X12_raftOf_L43 (G : Gm) (M : Mm) (v3 : Int32) (v4 : Int32) (k29 : Int32 → Int32 → Option Int32) (hk29 : ∀ (v2 : Int32) (v4 : Int32), X (fI M) G miX12_raftOf (4) 29 [(0, .ref (ga G 94)), (2, .int v2), (3, .int v3), (4, .int v4)] [] M (k29 v2 v4)) : ∀ (n : Nat) (v2 : Int32) (v5 : Int32), X (fI M) G miX12_raftOf (4) 43 [(0, .ref (ga G 94)), (2, .int v2), (3, .int v3), (4, .int v4), (5, .int v5)] [] M (F_X12_raftOf_L43 k29 M v3 v4 n v2 v5) := by
  intro n
  induction n with
  | zero => intro v2 v5; exact X_none
  | succ n ih =>
    intro v2 v5
    rw [F_X12_raftOf_L43]
    refine X_iload (a := 4) dX12_raftOf_43 rfl rfl ?_
    refine X_aload_n (a := 0) dX12_raftOf_45 rfl rfl rfl ?_
    refine X_getR (t := 95) fl_X12_7 rfl rfl dX12_raftOf_46 rfl ?_
    refine X_iconst (w := 0) dX12_raftOf_49 ki_0 rfl ?_
    refine X_iald rfl rfl dX12_raftOf_50 rfl ?_
    refine X_icmp_ge (tgt := 92) dX12_raftOf_51 rfl rfl (fun e51 => ?_) (fun e51 => ?_)
    · refine X_iinc (a := 3) (lv2 := [(4, .int (v4 + 1)), (0, .ref (ga G 94)), (2, .int v2), (3, .int v3), (5, .int v5)]) dX12_raftOf_92 rfl (ii_1 _) (by decide) rfl rfl ?_
      refine X_goto (tgt := 29) dX12_raftOf_95 rfl ?_
      exact X_lv [1, 2, 3, 0] rfl (hk29 v2 (v4 + 1))
    · refine X_iload_n (a := 1) dX12_raftOf_54 rfl rfl rfl ?_
      refine X_iload_n (a := 1) dX12_raftOf_55 rfl rfl rfl ?_
      refine X_iload (a := 3) dX12_raftOf_56 rfl rfl ?_
      refine X_ishr dX12_raftOf_58 rfl ?_
      refine X_iconst (w := 1) dX12_raftOf_59 ki_1 rfl ?_
      refine X_iand dX12_raftOf_60 rfl ?_
      refine X_iconst (w := 1) dX12_raftOf_61 ki_1 rfl ?_
      refine X_jc (P := fun j => ∀ (x84_0 : Int32), X (fI M) G miX12_raftOf (4) 84 [(0, .ref (ga G 94)), (3, .int v3), (4, .int v4), (5, .int v5)] [.int x84_0, .int v2] M (j x84_0)) (fun x84_0 => ?_) (fun j84 hj84 => ?_)
      · refine X_ior dX12_raftOf_84 rfl ?_
        refine X_istore_n (lv2 := [(2, .int (v2 ||| x84_0)), (0, .ref (ga G 94)), (3, .int v3), (4, .int v4), (5, .int v5)]) dX12_raftOf_85 rfl (by decide) rfl rfl ?_
        refine X_iinc (a := 4) (lv2 := [(5, .int (v5 + 1)), (2, .int (v2 ||| x84_0)), (0, .ref (ga G 94)), (3, .int v3), (4, .int v4)]) dX12_raftOf_86 rfl (ii_1 _) (by decide) rfl rfl ?_
        refine X_goto (tgt := 43) dX12_raftOf_89 rfl ?_
        exact X_lv [2, 1, 3, 4, 0] rfl (ih (v2 ||| x84_0) (v5 + 1))
      refine X_jc (P := fun j => X (fI M) G miX12_raftOf (4) 83 [(0, .ref (ga G 94)), (3, .int v3), (4, .int v4), (5, .int v5)] [.int v2] M (j)) (?_) (fun j83 hj83 => ?_)
      · refine X_iconst (w := 0) dX12_raftOf_83 ki_0 rfl ?_
        exact X_lv [0, 1, 2, 3] rfl (hj84 0)
      refine X_icmp_ne (tgt := 83) dX12_raftOf_62 rfl rfl (fun e62 => ?_) (fun e62 => ?_)
      · exact X_lv [0, 2, 3, 4] rfl (hj83)
      · refine X_aload_n (a := 0) dX12_raftOf_65 rfl rfl rfl ?_
        refine X_iload (a := 3) dX12_raftOf_66 rfl rfl ?_
        refine X_iload (a := 4) dX12_raftOf_68 rfl rfl ?_
        refine X_ruI (Ru_V (st := [.int v2]) cv_X12_309 rfl (c_X12_isClose G M v4 v5) (by decide) rfl rfl (Nat.le_of_ble_eq_true rfl) dX12_raftOf_70) rfl (fun r70 => ?_)
        refine X_if_eq (tgt := 83) dX12_raftOf_73 rfl rfl (fun e73 => ?_) (fun e73 => ?_)
        · exact X_lv [0, 2, 3, 4] rfl (hj83)
        · refine X_iconst (w := 1) dX12_raftOf_76 ki_1 rfl ?_
          refine X_iload (a := 4) dX12_raftOf_77 rfl rfl ?_
          refine X_ishl dX12_raftOf_79 rfl ?_
          refine X_goto (tgt := 84) dX12_raftOf_80 rfl ?_
          exact X_lv [0, 2, 3, 4] rfl (hj84 (1 <<< (v5 &&& 31)))
set_option maxRecDepth 100000 in
theorem x_X12_raftOf_L29 (G : Gm) (M : Mm) (v3 : Int32) (k20 : Int32 → Int32 → Option Int32) (hk20 : ∀ (v2 : Int32) (v3 : Int32), X (fI M) G miX12_raftOf (4) 20 [(0, .ref (ga G 94)), (2, .int v2), (3, .int v3)] [] M (k20 v2 v3)) : ∀ (n : Nat) (v2 : Int32) (v4 : Int32), X (fI M) G miX12_raftOf (4) 29 [(0, .ref (ga G 94)), (2, .int v2), (3, .int v3), (4, .int v4)] [] M (F_X12_raftOf_L29 k20 M v3 n v2 v4) := by
  intro n
  induction n with
  | zero => intro v2 v4; exact X_none
  | succ n ih =>
    intro v2 v4
    rw [F_X12_raftOf_L29]
    refine X_iload (a := 3) dX12_raftOf_29 rfl rfl ?_
    refine X_aload_n (a := 0) dX12_raftOf_31 rfl rfl rfl ?_
    refine X_getR (t := 95) fl_X12_7 rfl rfl dX12_raftOf_32 rfl ?_
    refine X_iconst (w := 0) dX12_raftOf_35 ki_0 rfl ?_
    refine X_iald rfl rfl dX12_raftOf_36 rfl ?_
    refine X_icmp_ge (tgt := 98) dX12_raftOf_37 rfl rfl (fun e37 => ?_) (fun e37 => ?_)
    · refine X_iinc (a := 2) (lv2 := [(3, .int (v3 + 1)), (0, .ref (ga G 94)), (2, .int v2), (4, .int v4)]) dX12_raftOf_98 rfl (ii_1 _) (by decide) rfl rfl ?_
      refine X_goto (tgt := 20) dX12_raftOf_101 rfl ?_
      exact X_lv [1, 2, 0] rfl (hk20 v2 (v3 + 1))
    · refine X_iconst (w := 0) dX12_raftOf_40 ki_0 rfl ?_
      refine X_istore (lv2 := [(5, .int 0), (0, .ref (ga G 94)), (2, .int v2), (3, .int v3), (4, .int v4)]) dX12_raftOf_41 (by decide) rfl rfl ?_
      exact X_lv [1, 2, 3, 4, 0] rfl (x_X12_raftOf_L43 G M v3 v4 (F_X12_raftOf_L29 k20 M v3 n) ih 1000 v2 0)
set_option maxRecDepth 100000 in
theorem x_X12_raftOf_L20 (G : Gm) (M : Mm) : ∀ (n : Nat) (v2 : Int32) (v3 : Int32), X (fI M) G miX12_raftOf (4) 20 [(0, .ref (ga G 94)), (2, .int v2), (3, .int v3)] [] M (F_X12_raftOf_L20 M n v2 v3) := by
  intro n
  induction n with
  | zero => intro v2 v3; exact X_none
  | succ n ih =>
    intro v2 v3
    rw [F_X12_raftOf_L20]
    refine X_iload_n (a := 2) dX12_raftOf_20 rfl rfl rfl ?_
    refine X_bipush (w := 6) dX12_raftOf_21 kb_6 rfl ?_
    refine X_icmp_ge (tgt := 104) dX12_raftOf_23 rfl rfl (fun e23 => ?_) (fun e23 => ?_)
    · refine X_iload_n (a := 1) dX12_raftOf_104 rfl rfl rfl ?_
      exact X_iretI rfl dX12_raftOf_105
    · refine X_iconst (w := 0) dX12_raftOf_26 ki_0 rfl ?_
      refine X_istore (lv2 := [(4, .int 0), (0, .ref (ga G 94)), (2, .int v2), (3, .int v3)]) dX12_raftOf_27 (by decide) rfl rfl ?_
      exact X_lv [1, 2, 3, 0] rfl (x_X12_raftOf_L29 G M v3 (F_X12_raftOf_L20 M n) ih 1000 v2 0)
set_option maxRecDepth 100000 in
theorem c_X12_raftOf (G : Gm) (M : Mm) (v1 : Int32) : Ct (fI M) G miX12_raftOf (4) [.ref (ga G 94), .int v1] M (F_X12_raftOf M v1) := by
  refine Ct_of (pn_X12) (Nat.le_of_ble_eq_true rfl) ?_
  refine X_lv [0, 1] (lv' := [(0, .ref (ga G 94)), (1, .int v1)]) rfl ?_
  unfold F_X12_raftOf
  refine X_aload_n (a := 0) dX12_raftOf_0 rfl rfl rfl ?_
  refine X_iload_n (a := 1) dX12_raftOf_1 rfl rfl rfl ?_
  refine X_iconst (w := 4) dX12_raftOf_2 ki_4 rfl ?_
  refine X_ruI (Ru_V (st := []) cv_X12_80 rfl (c_X12_of G M v1 4) (by decide) rfl rfl (Nat.le_of_ble_eq_true rfl) dX12_raftOf_3) rfl (fun r3 => ?_)
  refine X_iconst (w := 1) dX12_raftOf_6 ki_1 rfl ?_
  refine X_jc (P := fun j => ∀ (x17_0 : Int32), X (fI M) G miX12_raftOf (4) 17 [(0, .ref (ga G 94))] [.int x17_0] M (j x17_0)) (fun x17_0 => ?_) (fun j17 hj17 => ?_)
  · refine X_istore_n (lv2 := [(2, .int x17_0), (0, .ref (ga G 94))]) dX12_raftOf_17 rfl (by decide) rfl rfl ?_
    refine X_iconst (w := 0) dX12_raftOf_18 ki_0 rfl ?_
    refine X_istore_n (lv2 := [(3, .int 0), (2, .int x17_0), (0, .ref (ga G 94))]) dX12_raftOf_19 rfl (by decide) rfl rfl ?_
    exact X_lv [2, 1, 0] rfl (x_X12_raftOf_L20 G M 1000 x17_0 0)
  refine X_icmp_ne (tgt := 14) dX12_raftOf_7 rfl rfl (fun e7 => ?_) (fun e7 => ?_)
  · refine X_iconst (w := 1) dX12_raftOf_14 ki_1 rfl ?_
    refine X_iload_n (a := 1) dX12_raftOf_15 rfl rfl rfl ?_
    refine X_ishl dX12_raftOf_16 rfl ?_
    exact X_lv [0] rfl (hj17 (1 <<< (v1 &&& 31)))
  · refine X_iconst (w := 0) dX12_raftOf_10 ki_0 rfl ?_
    refine X_goto (tgt := 17) dX12_raftOf_11 rfl ?_
    exact X_lv [0] rfl (hj17 0)
set_option maxRecDepth 100000 in
theorem x_X12_rafts_L39 (G : Gm) (M : Mm) : ∀ (n : Nat) (v2 : Int32) (v3 : Int32) (v4 : Int32), X (fI M) G miX12_rafts (5) 39 [(0, .ref (ga G 94)), (2, .int v2), (3, .int v3), (4, .int v4)] [] M (F_X12_rafts_L39 M n v2 v3 v4) := by
  intro n
  induction n with
  | zero => intro v2 v3 v4; exact X_none
  | succ n ih =>
    intro v2 v3 v4
    rw [F_X12_rafts_L39]
    refine X_iload (a := 3) dX12_rafts_39 rfl rfl ?_
    refine X_aload_n (a := 0) dX12_rafts_41 rfl rfl rfl ?_
    refine X_getR (t := 95) fl_X12_7 rfl rfl dX12_rafts_42 rfl ?_
    refine X_iconst (w := 0) dX12_rafts_45 ki_0 rfl ?_
    refine X_iald rfl rfl dX12_rafts_46 rfl ?_
    refine X_icmp_ge (tgt := 92) dX12_rafts_47 rfl rfl (fun e47 => ?_) (fun e47 => ?_)
    · refine X_iload_n (a := 2) dX12_rafts_92 rfl rfl rfl ?_
      exact X_iretI rfl dX12_rafts_93
    · refine X_iload_n (a := 2) dX12_rafts_50 rfl rfl rfl ?_
      refine X_aload_n (a := 0) dX12_rafts_51 rfl rfl rfl ?_
      refine X_iload (a := 3) dX12_rafts_52 rfl rfl ?_
      refine X_iconst (w := 4) dX12_rafts_54 ki_4 rfl ?_
      refine X_ruI (Ru_V (st := [.int v3]) cv_X12_80 rfl (c_X12_of G M v4 4) (by decide) rfl rfl (Nat.le_of_ble_eq_true rfl) dX12_rafts_55) rfl (fun r55 => ?_)
      refine X_jc (P := fun j => ∀ (x75_0 : Int32), X (fI M) G miX12_rafts (5) 75 [(0, .ref (ga G 94)), (2, .int v2), (4, .int v4)] [.int x75_0, .int v3] M (j x75_0)) (fun x75_0 => ?_) (fun j75 hj75 => ?_)
      · refine X_iadd dX12_rafts_75 rfl ?_
        refine X_istore_n (lv2 := [(3, .int (v3 + x75_0)), (0, .ref (ga G 94)), (2, .int v2), (4, .int v4)]) dX12_rafts_76 rfl (by decide) rfl rfl ?_
        refine X_iload_n (a := 2) dX12_rafts_77 rfl rfl rfl ?_
        refine X_aload_n (a := 1) dX12_rafts_78 rfl rfl rfl ?_
        refine X_iload (a := 3) dX12_rafts_79 rfl rfl ?_
        refine X_ruI (Ru_V (st := [.int v2]) cv_X12_313 rfl (c_X12_raftOf G M v4) (by decide) rfl rfl (Nat.le_of_ble_eq_true rfl) dX12_rafts_81) rfl (fun r81 => ?_)
        refine X_ior dX12_rafts_84 rfl ?_
        refine X_istore_n (lv2 := [(2, .int (v2 ||| r81)), (3, .int (v3 + x75_0)), (0, .ref (ga G 94)), (4, .int v4)]) dX12_rafts_85 rfl (by decide) rfl rfl ?_
        refine X_iinc (a := 3) (lv2 := [(4, .int (v4 + 1)), (2, .int (v2 ||| r81)), (3, .int (v3 + x75_0)), (0, .ref (ga G 94))]) dX12_rafts_86 rfl (ii_1 _) (by decide) rfl rfl ?_
        refine X_goto (tgt := 39) dX12_rafts_89 rfl ?_
        exact X_lv [3, 1, 2, 0] rfl (ih (v2 ||| r81) (v3 + x75_0) (v4 + 1))
      refine X_jc (P := fun j => X (fI M) G miX12_rafts (5) 74 [(0, .ref (ga G 94)), (2, .int v2), (4, .int v4)] [.int v3] M (j)) (?_) (fun j74 hj74 => ?_)
      · refine X_iconst (w := 0) dX12_rafts_74 ki_0 rfl ?_
        exact X_lv [0, 1, 2] rfl (hj75 0)
      refine X_if_ne (tgt := 74) dX12_rafts_58 rfl rfl (fun e58 => ?_) (fun e58 => ?_)
      · exact X_lv [0, 1, 3] rfl (hj74)
      · refine X_iload_n (a := 1) dX12_rafts_61 rfl rfl rfl ?_
        refine X_iload (a := 3) dX12_rafts_62 rfl rfl ?_
        refine X_ishr dX12_rafts_64 rfl ?_
        refine X_iconst (w := 1) dX12_rafts_65 ki_1 rfl ?_
        refine X_iand dX12_rafts_66 rfl ?_
        refine X_if_ne (tgt := 74) dX12_rafts_67 rfl rfl (fun e67 => ?_) (fun e67 => ?_)
        · exact X_lv [0, 1, 3] rfl (hj74)
        · refine X_iconst (w := 1) dX12_rafts_70 ki_1 rfl ?_
          refine X_goto (tgt := 75) dX12_rafts_71 rfl ?_
          exact X_lv [0, 1, 3] rfl (hj75 1)
set_option maxRecDepth 100000 in
theorem c_X12_rafts (G : Gm) (M : Mm) (v1 : Int32) : Ct (fI M) G miX12_rafts (5) [.ref (ga G 94), .int v1] M (F_X12_rafts M v1) := by
  refine Ct_of (pn_X12) (Nat.le_of_ble_eq_true rfl) ?_
  refine X_lv [0, 1] (lv' := [(0, .ref (ga G 94)), (1, .int v1)]) rfl ?_
  unfold F_X12_rafts
  refine X_iload_n (a := 1) dX12_rafts_0 rfl rfl rfl ?_
  refine X_i2l dX12_rafts_1 rfl rfl ?_
  refine X_ldc2 (w := (-1)) dX12_rafts_2 t_1438 rfl ?_
  refine X_aload_n (a := 0) dX12_rafts_5 rfl rfl rfl ?_
  refine X_getR (t := 95) fl_X12_7 rfl rfl dX12_rafts_6 rfl ?_
  refine X_iconst (w := 0) dX12_rafts_9 ki_0 rfl ?_
  refine X_iald rfl rfl dX12_rafts_10 rfl ?_
  refine X_iconst (w := 1) dX12_rafts_11 ki_1 rfl ?_
  refine X_isub dX12_rafts_12 rfl ?_
  refine X_i2l dX12_rafts_13 rfl rfl ?_
  refine X_ruI (Ru_S (st := []) cs_X12_61 (c_X12_in G M (Int32.toInt64 v1) (-1) (Int32.toInt64 ((gi M 95 (ui 0)) - 1))) (by decide) rfl rfl (Nat.le_of_ble_eq_true rfl) dX12_rafts_14) rfl (fun r14 => ?_)
  refine X_if_ne (tgt := 22) dX12_rafts_17 rfl rfl (fun e17 => ?_) (fun e17 => ?_)
  · refine X_iload_n (a := 1) dX12_rafts_22 rfl rfl rfl ?_
    refine X_if_lt (tgt := 32) dX12_rafts_23 rfl rfl (fun e23 => ?_) (fun e23 => ?_)
    · refine X_iconst (w := 0) dX12_rafts_32 ki_0 rfl ?_
      refine X_istore_n (lv2 := [(2, .int 0), (0, .ref (ga G 94)), (1, .int v1)]) dX12_rafts_33 rfl (by decide) rfl rfl ?_
      refine X_iconst (w := 0) dX12_rafts_34 ki_0 rfl ?_
      refine X_istore_n (lv2 := [(3, .int 0), (2, .int 0), (0, .ref (ga G 94)), (1, .int v1)]) dX12_rafts_35 rfl (by decide) rfl rfl ?_
      refine X_iconst (w := 0) dX12_rafts_36 ki_0 rfl ?_
      refine X_istore (lv2 := [(4, .int 0), (3, .int 0), (2, .int 0), (0, .ref (ga G 94)), (1, .int v1)]) dX12_rafts_37 (by decide) rfl rfl ?_
      exact X_lv [3, 2, 1, 0] rfl (x_X12_rafts_L39 G M 1000 0 0 0)
    · refine X_aload_n (a := 0) dX12_rafts_26 rfl rfl rfl ?_
      refine X_iload_n (a := 1) dX12_rafts_27 rfl rfl rfl ?_
      refine X_ruI (Ru_V (st := []) cv_X12_313 rfl (c_X12_raftOf G M v1) (by decide) rfl rfl (Nat.le_of_ble_eq_true rfl) dX12_rafts_28) rfl (fun r28 => ?_)
      exact X_iretI rfl dX12_rafts_31
  · refine X_iconst (w := (-1)) dX12_rafts_20 ki_m1 rfl ?_
    exact X_iretI rfl dX12_rafts_21

set_option maxRecDepth 100000 in
theorem c_X11_within (G : Gm) (M : Mm) (v0 : Int32) (v1 : Int32) (v2 : Int32) : Ct (fI M) G miX11_within (0) [.int v0, .int v1, .int v2] M (F_X11_within v0 v1 v2) := by
  refine Ct_of (pn_X11) (Nat.le_of_ble_eq_true rfl) ?_
  refine X_lv [0, 1, 2] (lv' := [(0, .int v0), (1, .int v1), (2, .int v2)]) rfl ?_
  unfold F_X11_within
  refine X_iload_n (a := 0) dX11_within_0 rfl rfl rfl ?_
  refine X_iload_n (a := 1) dX11_within_1 rfl rfl rfl ?_
  refine X_icmp_lt (tgt := 14) dX11_within_2 rfl rfl (fun e2 => ?_) (fun e2 => ?_)
  · refine X_iconst (w := 0) dX11_within_14 ki_0 rfl ?_
    exact X_zretI rfl dX11_within_15
  · refine X_iload_n (a := 0) dX11_within_5 rfl rfl rfl ?_
    refine X_iload_n (a := 2) dX11_within_6 rfl rfl rfl ?_
    refine X_icmp_gt (tgt := 14) dX11_within_7 rfl rfl (fun e7 => ?_) (fun e7 => ?_)
    · refine X_iconst (w := 0) dX11_within_14 ki_0 rfl ?_
      exact X_zretI rfl dX11_within_15
    · refine X_iconst (w := 1) dX11_within_10 ki_1 rfl ?_
      refine X_goto (tgt := 15) dX11_within_11 rfl ?_
      exact X_zretI rfl dX11_within_15
set_option maxRecDepth 100000 in
theorem c_X11_barrel (G : Gm) (M : Mm) (v1 : Int32) (v2 : Int32) (v3 : Int32) (v4 : Int32) : Ct fJ G miX11_barrel (1) [.ref (ga G 0), .int v1, .int v2, .int v3, .int v4] M (F_X11_barrel M v1 v2 v3 v4) := by
  refine Ct_of (pn_X11) (Nat.le_of_ble_eq_true rfl) ?_
  refine X_lv [0, 1, 2, 3, 4] (lv' := [(0, .ref (ga G 0)), (1, .int v1), (2, .int v2), (3, .int v3), (4, .int v4)]) rfl ?_
  unfold F_X11_barrel
  refine X_iload_n (a := 1) dX11_barrel_0 rfl rfl rfl ?_
  refine X_iconst (w := 1) dX11_barrel_1 ki_1 rfl ?_
  refine X_iconst (w := 5) dX11_barrel_2 ki_5 rfl ?_
  refine X_ruI (Ru_S (st := []) cs_X11_97 (c_X11_within G M v1 1 5) (by decide) rfl rfl (Nat.le_of_ble_eq_true rfl) dX11_barrel_3) rfl (fun r3 => ?_)
  refine X_if_eq (tgt := 19) dX11_barrel_6 rfl rfl (fun e6 => ?_) (fun e6 => ?_)
  · refine X_iconst (w := (-1)) dX11_barrel_19 ki_m1 rfl ?_
    exact X_iretJ rfl dX11_barrel_20
  · refine X_iload_n (a := 2) dX11_barrel_9 rfl rfl rfl ?_
    refine X_iconst (w := 0) dX11_barrel_10 ki_0 rfl ?_
    refine X_bipush (w := 99) dX11_barrel_11 kb_99 rfl ?_
    refine X_ruI (Ru_S (st := []) cs_X11_97 (c_X11_within G M v2 0 99) (by decide) rfl rfl (Nat.le_of_ble_eq_true rfl) dX11_barrel_13) rfl (fun r13 => ?_)
    refine X_if_ne (tgt := 21) dX11_barrel_16 rfl rfl (fun e16 => ?_) (fun e16 => ?_)
    · refine X_iload_n (a := 3) dX11_barrel_21 rfl rfl rfl ?_
      refine X_iconst (w := 0) dX11_barrel_22 ki_0 rfl ?_
      refine X_bipush (w := 9) dX11_barrel_23 kb_9 rfl ?_
      refine X_ruI (Ru_S (st := []) cs_X11_97 (c_X11_within G M v3 0 9) (by decide) rfl rfl (Nat.le_of_ble_eq_true rfl) dX11_barrel_25) rfl (fun r25 => ?_)
      refine X_if_eq (tgt := 41) dX11_barrel_28 rfl rfl (fun e28 => ?_) (fun e28 => ?_)
      · refine X_iconst (w := (-1)) dX11_barrel_41 ki_m1 rfl ?_
        exact X_iretJ rfl dX11_barrel_42
      · refine X_iload (a := 4) dX11_barrel_31 rfl rfl ?_
        refine X_iconst (w := 0) dX11_barrel_33 ki_0 rfl ?_
        refine X_iconst (w := 5) dX11_barrel_34 ki_5 rfl ?_
        refine X_ruI (Ru_S (st := []) cs_X11_97 (c_X11_within G M v4 0 5) (by decide) rfl rfl (Nat.le_of_ble_eq_true rfl) dX11_barrel_35) rfl (fun r35 => ?_)
        refine X_if_ne (tgt := 43) dX11_barrel_38 rfl rfl (fun e38 => ?_) (fun e38 => ?_)
        · refine X_aload_n (a := 0) dX11_barrel_43 rfl rfl rfl ?_
          refine X_getR (t := 33) fl_X11_81 rfl rfl dX11_barrel_44 rfl ?_
          refine X_getI fl_X11_101 rfl dX11_barrel_47 rfl ?_
          refine X_bipush (w := 6) dX11_barrel_50 kb_6 rfl ?_
          refine X_icmp_lt (tgt := 58) dX11_barrel_52 rfl rfl (fun e52 => ?_) (fun e52 => ?_)
          · refine X_aload_n (a := 0) dX11_barrel_58 rfl rfl rfl ?_
            refine X_getR (t := 33) fl_X11_81 rfl rfl dX11_barrel_59 rfl ?_
            refine X_getI fl_X11_101 rfl dX11_barrel_62 rfl ?_
            refine X_istore (lv2 := [(5, .int (gi M 33 12)), (0, .ref (ga G 0)), (1, .int v1), (2, .int v2), (3, .int v3), (4, .int v4)]) dX11_barrel_65 (by decide) rfl rfl ?_
            refine X_aload_n (a := 1) dX11_barrel_67 rfl rfl rfl ?_
            refine X_getR (t := 33) fl_X11_81 rfl rfl dX11_barrel_68 rfl ?_
            refine X_dup dX11_barrel_71 rfl rfl ?_
            refine X_getI fl_X11_101 rfl dX11_barrel_72 rfl ?_
            refine X_iconst (w := 1) dX11_barrel_75 ki_1 rfl ?_
            refine X_iadd dX11_barrel_76 rfl ?_
            refine X_putI fp_X11_101 rfl dX11_barrel_77 rfl ?_
            refine X_aload_n (a := 1) dX11_barrel_80 rfl rfl rfl ?_
            refine X_getR (t := 33) fl_X11_81 rfl rfl dX11_barrel_81 rfl ?_
            refine X_getR (t := 34) fl_X11_105 rfl rfl dX11_barrel_84 rfl ?_
            refine X_iload (a := 0) dX11_barrel_87 rfl rfl ?_
            refine X_iload_n (a := 2) dX11_barrel_89 rfl rfl rfl ?_
            refine X_iast rfl rfl dX11_barrel_90 rfl ?_
            refine X_aload_n (a := 1) dX11_barrel_91 rfl rfl rfl ?_
            refine X_getR (t := 33) fl_X11_81 rfl rfl dX11_barrel_92 rfl ?_
            refine X_getR (t := 35) fl_X11_108 rfl rfl dX11_barrel_95 rfl ?_
            refine X_iload (a := 0) dX11_barrel_98 rfl rfl ?_
            refine X_iload (a := 5) dX11_barrel_100 rfl rfl ?_
            refine X_iast rfl rfl dX11_barrel_102 rfl ?_
            refine X_aload_n (a := 1) dX11_barrel_103 rfl rfl rfl ?_
            refine X_getR (t := 33) fl_X11_81 rfl rfl dX11_barrel_104 rfl ?_
            refine X_getR (t := 39) fl_X11_111 rfl rfl dX11_barrel_107 rfl ?_
            refine X_getR (t := 40) fl_X11_114 rfl rfl dX11_barrel_110 rfl ?_
            refine X_iload (a := 0) dX11_barrel_113 rfl rfl ?_
            refine X_iload_n (a := 3) dX11_barrel_115 rfl rfl rfl ?_
            refine X_iast rfl rfl dX11_barrel_116 rfl ?_
            refine X_aload_n (a := 1) dX11_barrel_117 rfl rfl rfl ?_
            refine X_getR (t := 33) fl_X11_81 rfl rfl dX11_barrel_118 rfl ?_
            refine X_getR (t := 39) fl_X11_111 rfl rfl dX11_barrel_121 rfl ?_
            refine X_getR (t := 41) fl_X11_117 rfl rfl dX11_barrel_124 rfl ?_
            refine X_iload (a := 0) dX11_barrel_127 rfl rfl ?_
            refine X_iload_n (a := 4) dX11_barrel_129 rfl rfl rfl ?_
            refine X_iast rfl rfl dX11_barrel_130 rfl ?_
            refine X_aload_n (a := 1) dX11_barrel_131 rfl rfl rfl ?_
            refine X_getR (t := 33) fl_X11_81 rfl rfl dX11_barrel_132 rfl ?_
            refine X_getR (t := 39) fl_X11_111 rfl rfl dX11_barrel_135 rfl ?_
            refine X_iload (a := 0) dX11_barrel_138 rfl rfl ?_
            refine X_iconst (w := 0) dX11_barrel_140 ki_0 rfl ?_
            refine X_ruJ (Ru_V (st := []) cv_X11_120 rfl (c_X3_putStaked G (si (si (si (si (si M 33 12 ((gi M 33 12) + 1)) 34 (ui (gi M 33 12)) v1) 35 (ui (gi M 33 12)) v4) 40 (ui (gi M 33 12)) v2) 41 (ui (gi M 33 12)) v3) 39 (gi M 33 12) 0 rfl) (by decide) rfl rfl (Nat.le_of_ble_eq_true rfl) dX11_barrel_141) rfl (fun r141 => ?_)
            refine X_pop dX11_barrel_144 rfl rfl ?_
            refine X_iload (a := 0) dX11_barrel_145 rfl rfl ?_
            exact X_iretJ rfl dX11_barrel_147
          · refine X_bipush (w := (-2)) dX11_barrel_55 kb_m2 rfl ?_
            exact X_iretJ rfl dX11_barrel_57
        · refine X_iconst (w := (-1)) dX11_barrel_41 ki_m1 rfl ?_
          exact X_iretJ rfl dX11_barrel_42
    · refine X_iconst (w := (-1)) dX11_barrel_19 ki_m1 rfl ?_
      exact X_iretJ rfl dX11_barrel_20
set_option maxRecDepth 100000 in
theorem c_X11_barrelOf (G : Gm) (M : Mm) (v1 : Int32) (v2 : Int32) : Ct fJ G miX11_barrelOf (5) [.ref (ga G 0), .int v1, .int v2] M (F_X11_barrelOf M v1 v2) := by
  refine Ct_of (pn_X11) (Nat.le_of_ble_eq_true rfl) ?_
  refine X_lv [0, 1, 2] (lv' := [(0, .ref (ga G 0)), (1, .int v1), (2, .int v2)]) rfl ?_
  unfold F_X11_barrelOf
  refine X_aload_n (a := 0) dX11_barrelOf_0 rfl rfl rfl ?_
  refine X_getR (t := 33) fl_X11_81 rfl rfl dX11_barrelOf_1 rfl ?_
  refine X_iload_n (a := 1) dX11_barrelOf_4 rfl rfl rfl ?_
  refine X_ruI (Ru_V (st := []) cv_X11_124 rfl (c_X10_has G M v1) (by decide) rfl rfl (Nat.le_of_ble_eq_true rfl) dX11_barrelOf_5) rfl (fun r5 => ?_)
  refine X_if_ne (tgt := 13) dX11_barrelOf_8 rfl rfl (fun e8 => ?_) (fun e8 => ?_)
  · refine X_aload_n (a := 0) dX11_barrelOf_13 rfl rfl rfl ?_
    refine X_getR (t := 33) fl_X11_81 rfl rfl dX11_barrelOf_14 rfl ?_
    refine X_getR (t := 39) fl_X11_111 rfl rfl dX11_barrelOf_17 rfl ?_
    refine X_astore_n (lv2 := [(3, .ref (ga G 39)), (0, .ref (ga G 0)), (1, .int v1), (2, .int v2)]) dX11_barrelOf_20 rfl (by decide) rfl rfl ?_
    refine X_iload_n (a := 3) dX11_barrelOf_21 rfl rfl rfl ?_
    refine X_if (fun e22_0 => ?_) (fun e22_0 => ?_)
    · refine X_tsIn (tgt := 76) dX11_barrelOf_22 (by rw [e22_0]; decide) (by rw [e22_0]; decide) (by rw [e22_0]; rfl) rfl ?_
      refine X_aload_n (a := 1) dX11_barrelOf_76 rfl rfl rfl ?_
      refine X_getR (t := 33) fl_X11_81 rfl rfl dX11_barrelOf_77 rfl ?_
      refine X_getR (t := 34) fl_X11_105 rfl rfl dX11_barrelOf_80 rfl ?_
      refine X_iload_n (a := 2) dX11_barrelOf_83 rfl rfl rfl ?_
      refine X_iald rfl rfl dX11_barrelOf_84 rfl ?_
      exact X_iretJ rfl dX11_barrelOf_85
    · skip
      refine X_if (fun e22_1 => ?_) (fun e22_1 => ?_)
      · refine X_tsIn (tgt := 86) dX11_barrelOf_22 (by rw [e22_1]; decide) (by rw [e22_1]; decide) (by rw [e22_1]; rfl) rfl ?_
        refine X_aload_n (a := 0) dX11_barrelOf_86 rfl rfl rfl ?_
        refine X_getR (t := 40) fl_X11_114 rfl rfl dX11_barrelOf_87 rfl ?_
        refine X_iload_n (a := 2) dX11_barrelOf_90 rfl rfl rfl ?_
        refine X_iald rfl rfl dX11_barrelOf_91 rfl ?_
        exact X_iretJ rfl dX11_barrelOf_92
      · skip
        refine X_if (fun e22_2 => ?_) (fun e22_2 => ?_)
        · refine X_tsIn (tgt := 93) dX11_barrelOf_22 (by rw [e22_2]; decide) (by rw [e22_2]; decide) (by rw [e22_2]; rfl) rfl ?_
          refine X_aload_n (a := 0) dX11_barrelOf_93 rfl rfl rfl ?_
          refine X_getR (t := 41) fl_X11_117 rfl rfl dX11_barrelOf_94 rfl ?_
          refine X_iload_n (a := 2) dX11_barrelOf_97 rfl rfl rfl ?_
          refine X_iald rfl rfl dX11_barrelOf_98 rfl ?_
          exact X_iretJ rfl dX11_barrelOf_99
        · skip
          refine X_if (fun e22_3 => ?_) (fun e22_3 => ?_)
          · refine X_tsIn (tgt := 100) dX11_barrelOf_22 (by rw [e22_3]; decide) (by rw [e22_3]; decide) (by rw [e22_3]; rfl) rfl ?_
            refine X_aload_n (a := 1) dX11_barrelOf_100 rfl rfl rfl ?_
            refine X_getR (t := 33) fl_X11_81 rfl rfl dX11_barrelOf_101 rfl ?_
            refine X_getR (t := 35) fl_X11_108 rfl rfl dX11_barrelOf_104 rfl ?_
            refine X_iload_n (a := 2) dX11_barrelOf_107 rfl rfl rfl ?_
            refine X_iald rfl rfl dX11_barrelOf_108 rfl ?_
            exact X_iretJ rfl dX11_barrelOf_109
          · skip
            refine X_if (fun e22_4 => ?_) (fun e22_4 => ?_)
            · refine X_tsIn (tgt := 110) dX11_barrelOf_22 (by rw [e22_4]; decide) (by rw [e22_4]; decide) (by rw [e22_4]; rfl) rfl ?_
              refine X_aload_n (a := 0) dX11_barrelOf_110 rfl rfl rfl ?_
              refine X_getI fl_X11_128 rfl dX11_barrelOf_111 rfl ?_
              refine X_iload_n (a := 2) dX11_barrelOf_114 rfl rfl rfl ?_
              refine X_ishr dX11_barrelOf_115 rfl ?_
              refine X_iconst (w := 1) dX11_barrelOf_116 ki_1 rfl ?_
              refine X_iand dX11_barrelOf_117 rfl ?_
              exact X_iretJ rfl dX11_barrelOf_118
            · skip
              refine X_if (fun e22_5 => ?_) (fun e22_5 => ?_)
              · refine X_tsIn (tgt := 119) dX11_barrelOf_22 (by rw [e22_5]; decide) (by rw [e22_5]; decide) (by rw [e22_5]; rfl) rfl ?_
                refine X_aload_n (a := 1) dX11_barrelOf_119 rfl rfl rfl ?_
                refine X_getR (t := 33) fl_X11_81 rfl rfl dX11_barrelOf_120 rfl ?_
                refine X_aload_n (a := 0) dX11_barrelOf_123 rfl rfl rfl ?_
                refine X_iload_n (a := 2) dX11_barrelOf_124 rfl rfl rfl ?_
                refine X_ruI (Ru_V (st := []) cv_X11_131 rfl (c_X10_leaks G M 39 v1 rfl) (by decide) rfl rfl (Nat.le_of_ble_eq_true rfl) dX11_barrelOf_125) rfl (fun r125 => ?_)
                exact X_iretJ rfl dX11_barrelOf_128
              · skip
                refine X_if (fun e22_6 => ?_) (fun e22_6 => ?_)
                · refine X_tsIn (tgt := 129) dX11_barrelOf_22 (by rw [e22_6]; decide) (by rw [e22_6]; decide) (by rw [e22_6]; rfl) rfl ?_
                  refine X_aload_n (a := 1) dX11_barrelOf_129 rfl rfl rfl ?_
                  refine X_getR (t := 33) fl_X11_81 rfl rfl dX11_barrelOf_130 rfl ?_
                  refine X_aload_n (a := 0) dX11_barrelOf_133 rfl rfl rfl ?_
                  refine X_iload_n (a := 2) dX11_barrelOf_134 rfl rfl rfl ?_
                  refine X_ruI (Ru_V (st := []) cv_X11_135 rfl (c_X10_floatsOf G M 39 v1 rfl) (by decide) rfl rfl (Nat.le_of_ble_eq_true rfl) dX11_barrelOf_135) rfl (fun r135 => ?_)
                  exact X_iretJ rfl dX11_barrelOf_138
                · skip
                  refine X_if (fun e22_7 => ?_) (fun e22_7 => ?_)
                  · refine X_tsIn (tgt := 139) dX11_barrelOf_22 (by rw [e22_7]; decide) (by rw [e22_7]; decide) (by rw [e22_7]; rfl) rfl ?_
                    refine X_aload_n (a := 1) dX11_barrelOf_139 rfl rfl rfl ?_
                    refine X_getR (t := 33) fl_X11_81 rfl rfl dX11_barrelOf_140 rfl ?_
                    refine X_aload_n (a := 0) dX11_barrelOf_143 rfl rfl rfl ?_
                    refine X_iload_n (a := 2) dX11_barrelOf_144 rfl rfl rfl ?_
                    refine X_ruI (Ru_V (st := []) cv_X11_138 rfl (c_X10_pays G M 39 v1 rfl) (by decide) rfl rfl (Nat.le_of_ble_eq_true rfl) dX11_barrelOf_145) rfl (fun r145 => ?_)
                    exact X_iretJ rfl dX11_barrelOf_148
                  · skip
                    refine X_if (fun e22_8 => ?_) (fun e22_8 => ?_)
                    · refine X_tsIn (tgt := 149) dX11_barrelOf_22 (by rw [e22_8]; decide) (by rw [e22_8]; decide) (by rw [e22_8]; rfl) rfl ?_
                      refine X_aload_n (a := 1) dX11_barrelOf_149 rfl rfl rfl ?_
                      refine X_getR (t := 33) fl_X11_81 rfl rfl dX11_barrelOf_150 rfl ?_
                      refine X_aload_n (a := 0) dX11_barrelOf_153 rfl rfl rfl ?_
                      refine X_iload_n (a := 2) dX11_barrelOf_154 rfl rfl rfl ?_
                      refine X_ruJ (Ru_V (st := []) cv_X11_141 rfl (c_X10_may G M 39 v1 rfl) (by decide) rfl rfl (Nat.le_of_ble_eq_true rfl) dX11_barrelOf_155) rfl (fun r155 => ?_)
                      refine X_if_eq (tgt := 165) dX11_barrelOf_158 rfl rfl (fun e158 => ?_) (fun e158 => ?_)
                      · refine X_iconst (w := 0) dX11_barrelOf_165 ki_0 rfl ?_
                        exact X_iretJ rfl dX11_barrelOf_166
                      · refine X_iconst (w := 1) dX11_barrelOf_161 ki_1 rfl ?_
                        refine X_goto (tgt := 166) dX11_barrelOf_162 rfl ?_
                        exact X_iretJ rfl dX11_barrelOf_166
                    · skip
                      refine X_if (fun e22_9 => ?_) (fun e22_9 => ?_)
                      · refine X_tsIn (tgt := 167) dX11_barrelOf_22 (by rw [e22_9]; decide) (by rw [e22_9]; decide) (by rw [e22_9]; rfl) rfl ?_
                        refine X_aload_n (a := 1) dX11_barrelOf_167 rfl rfl rfl ?_
                        refine X_getR (t := 33) fl_X11_81 rfl rfl dX11_barrelOf_168 rfl ?_
                        refine X_aload_n (a := 0) dX11_barrelOf_171 rfl rfl rfl ?_
                        refine X_iload_n (a := 2) dX11_barrelOf_172 rfl rfl rfl ?_
                        refine X_ruJ (Ru_V (st := []) cv_X11_145 rfl (c_X10_will G M 39 v1 rfl) (by decide) rfl rfl (Nat.le_of_ble_eq_true rfl) dX11_barrelOf_173) rfl (fun r173 => ?_)
                        exact X_iretJ rfl dX11_barrelOf_176
                      · skip
                        refine X_tsOut (tgt := 177) dX11_barrelOf_22 (by have ne22_0 := ne_toInt e22_0 (n := 0) (by decide); have ne22_1 := ne_toInt e22_1 (n := 1) (by decide); have ne22_2 := ne_toInt e22_2 (n := 2) (by decide); have ne22_3 := ne_toInt e22_3 (n := 3) (by decide); have ne22_4 := ne_toInt e22_4 (n := 4) (by decide); have ne22_5 := ne_toInt e22_5 (n := 5) (by decide); have ne22_6 := ne_toInt e22_6 (n := 6) (by decide); have ne22_7 := ne_toInt e22_7 (n := 7) (by decide); have ne22_8 := ne_toInt e22_8 (n := 8) (by decide); have ne22_9 := ne_toInt e22_9 (n := 9) (by decide); omega) rfl ?_
                        refine X_iconst (w := (-1)) dX11_barrelOf_177 ki_m1 rfl ?_
                        exact X_iretJ rfl dX11_barrelOf_178
  · refine X_iconst (w := (-1)) dX11_barrelOf_11 ki_m1 rfl ?_
    exact X_iretJ rfl dX11_barrelOf_12
set_option maxRecDepth 100000 in
theorem c_X11_put (G : Gm) (M : Mm) (w0 : Nat) (v1 : Int32) (v2 : Int32) (hw0 : ly_ty w0 = 20) : Ct fJ G miX11_put (0) [.ref (ga G w0), .int v1, .int v2] M (F_X11_put M w0 v1 v2) := by
  refine Ct_of (pn_X11) (Nat.le_of_ble_eq_true rfl) ?_
  refine X_lv [0, 1, 2] (lv' := [(0, .ref (ga G w0)), (1, .int v1), (2, .int v2)]) rfl ?_
  unfold F_X11_put
  refine X_aload_n (a := 0) dX11_put_0 rfl rfl rfl ?_
  refine X_iload_n (a := 1) dX11_put_1 rfl rfl rfl ?_
  refine X_iald hw0 rfl dX11_put_2 rfl ?_
  refine X_istore_n (lv2 := [(3, .int (gi M w0 (ui v1))), (0, .ref (ga G w0)), (1, .int v1), (2, .int v2)]) dX11_put_3 rfl (by decide) rfl rfl ?_
  refine X_aload_n (a := 1) dX11_put_4 rfl rfl rfl ?_
  refine X_iload_n (a := 2) dX11_put_5 rfl rfl rfl ?_
  refine X_iload_n (a := 3) dX11_put_6 rfl rfl rfl ?_
  refine X_iast hw0 rfl dX11_put_7 rfl ?_
  refine X_iload_n (a := 0) dX11_put_8 rfl rfl rfl ?_
  exact X_iretJ rfl dX11_put_9
set_option maxRecDepth 100000 in
theorem c_X11_change (G : Gm) (M : Mm) (v1 : Int32) (v2 : Int32) (v3 : Int32) : Ct fJ G miX11_change (1) [.ref (ga G 0), .int v1, .int v2, .int v3] M (F_X11_change M v1 v2 v3) := by
  refine Ct_of (pn_X11) (Nat.le_of_ble_eq_true rfl) ?_
  refine X_lv [0, 1, 2, 3] (lv' := [(0, .ref (ga G 0)), (1, .int v1), (2, .int v2), (3, .int v3)]) rfl ?_
  unfold F_X11_change
  refine X_aload_n (a := 0) dX11_change_0 rfl rfl rfl ?_
  refine X_getR (t := 33) fl_X11_81 rfl rfl dX11_change_1 rfl ?_
  refine X_iload_n (a := 1) dX11_change_4 rfl rfl rfl ?_
  refine X_ruI (Ru_V (st := []) cv_X11_124 rfl (c_X10_has G M v1) (by decide) rfl rfl (Nat.le_of_ble_eq_true rfl) dX11_change_5) rfl (fun r5 => ?_)
  refine X_if_ne (tgt := 13) dX11_change_8 rfl rfl (fun e8 => ?_) (fun e8 => ?_)
  · refine X_aload_n (a := 0) dX11_change_13 rfl rfl rfl ?_
    refine X_getR (t := 33) fl_X11_81 rfl rfl dX11_change_14 rfl ?_
    refine X_getR (t := 39) fl_X11_111 rfl rfl dX11_change_17 rfl ?_
    refine X_astore (lv2 := [(4, .ref (ga G 39)), (0, .ref (ga G 0)), (1, .int v1), (2, .int v2), (3, .int v3)]) dX11_change_20 (by decide) rfl rfl ?_
    refine X_iload_n (a := 3) dX11_change_22 rfl rfl rfl ?_
    refine X_if (fun e23_1 => ?_) (fun e23_1 => ?_)
    · refine X_tsIn (tgt := 52) dX11_change_23 (by rw [e23_1]; decide) (by rw [e23_1]; decide) (by rw [e23_1]; rfl) rfl ?_
      refine X_iload_n (a := 4) dX11_change_52 rfl rfl rfl ?_
      refine X_iconst (w := 0) dX11_change_53 ki_0 rfl ?_
      refine X_bipush (w := 99) dX11_change_54 kb_99 rfl ?_
      refine X_ruI (Ru_S (st := []) cs_X11_97 (c_X11_within G M v3 0 99) (by decide) rfl rfl (Nat.le_of_ble_eq_true rfl) dX11_change_56) rfl (fun r56 => ?_)
      refine X_if_eq (tgt := 75) dX11_change_59 rfl rfl (fun e59 => ?_) (fun e59 => ?_)
      · refine X_iconst (w := (-1)) dX11_change_75 ki_m1 rfl ?_
        exact X_iretJ rfl dX11_change_76
      · refine X_aload (a := 0) dX11_change_62 rfl rfl ?_
        refine X_getR (t := 40) fl_X11_114 rfl rfl dX11_change_64 rfl ?_
        refine X_iload_n (a := 2) dX11_change_67 rfl rfl rfl ?_
        refine X_iload_n (a := 4) dX11_change_68 rfl rfl rfl ?_
        refine X_ruJ (Ru_S (st := []) cs_X11_148 (c_X11_put G M 40 v1 v3 rfl) (by decide) rfl rfl (Nat.le_of_ble_eq_true rfl) dX11_change_69) rfl (fun r69 => ?_)
        refine X_goto (tgt := 76) dX11_change_72 rfl ?_
        exact X_iretJ rfl dX11_change_76
    · skip
      refine X_if (fun e23_2 => ?_) (fun e23_2 => ?_)
      · refine X_tsIn (tgt := 77) dX11_change_23 (by rw [e23_2]; decide) (by rw [e23_2]; decide) (by rw [e23_2]; rfl) rfl ?_
        refine X_iload_n (a := 4) dX11_change_77 rfl rfl rfl ?_
        refine X_iconst (w := 0) dX11_change_78 ki_0 rfl ?_
        refine X_bipush (w := 9) dX11_change_79 kb_9 rfl ?_
        refine X_ruI (Ru_S (st := []) cs_X11_97 (c_X11_within G M v3 0 9) (by decide) rfl rfl (Nat.le_of_ble_eq_true rfl) dX11_change_81) rfl (fun r81 => ?_)
        refine X_if_eq (tgt := 100) dX11_change_84 rfl rfl (fun e84 => ?_) (fun e84 => ?_)
        · refine X_iconst (w := (-1)) dX11_change_100 ki_m1 rfl ?_
          exact X_iretJ rfl dX11_change_101
        · refine X_aload (a := 0) dX11_change_87 rfl rfl ?_
          refine X_getR (t := 41) fl_X11_117 rfl rfl dX11_change_89 rfl ?_
          refine X_iload_n (a := 2) dX11_change_92 rfl rfl rfl ?_
          refine X_iload_n (a := 4) dX11_change_93 rfl rfl rfl ?_
          refine X_ruJ (Ru_S (st := []) cs_X11_148 (c_X11_put G M 41 v1 v3 rfl) (by decide) rfl rfl (Nat.le_of_ble_eq_true rfl) dX11_change_94) rfl (fun r94 => ?_)
          refine X_goto (tgt := 101) dX11_change_97 rfl ?_
          exact X_iretJ rfl dX11_change_101
      · skip
        refine X_if (fun e23_3 => ?_) (fun e23_3 => ?_)
        · refine X_tsIn (tgt := 102) dX11_change_23 (by rw [e23_3]; decide) (by rw [e23_3]; decide) (by rw [e23_3]; rfl) rfl ?_
          refine X_iload_n (a := 4) dX11_change_102 rfl rfl rfl ?_
          refine X_iconst (w := 0) dX11_change_103 ki_0 rfl ?_
          refine X_iconst (w := 5) dX11_change_104 ki_5 rfl ?_
          refine X_ruI (Ru_S (st := []) cs_X11_97 (c_X11_within G M v3 0 5) (by decide) rfl rfl (Nat.le_of_ble_eq_true rfl) dX11_change_105) rfl (fun r105 => ?_)
          refine X_if_eq (tgt := 126) dX11_change_108 rfl rfl (fun e108 => ?_) (fun e108 => ?_)
          · refine X_iconst (w := (-1)) dX11_change_126 ki_m1 rfl ?_
            exact X_iretJ rfl dX11_change_127
          · refine X_aload_n (a := 1) dX11_change_111 rfl rfl rfl ?_
            refine X_getR (t := 33) fl_X11_81 rfl rfl dX11_change_112 rfl ?_
            refine X_getR (t := 35) fl_X11_108 rfl rfl dX11_change_115 rfl ?_
            refine X_iload_n (a := 2) dX11_change_118 rfl rfl rfl ?_
            refine X_iload_n (a := 4) dX11_change_119 rfl rfl rfl ?_
            refine X_ruJ (Ru_S (st := []) cs_X11_148 (c_X11_put G M 35 v1 v3 rfl) (by decide) rfl rfl (Nat.le_of_ble_eq_true rfl) dX11_change_120) rfl (fun r120 => ?_)
            refine X_goto (tgt := 127) dX11_change_123 rfl ?_
            exact X_iretJ rfl dX11_change_127
        · skip
          refine X_if (fun e23_4 => ?_) (fun e23_4 => ?_)
          · refine X_tsIn (tgt := 128) dX11_change_23 (by rw [e23_4]; decide) (by rw [e23_4]; decide) (by rw [e23_4]; rfl) rfl ?_
            refine X_iload_n (a := 4) dX11_change_128 rfl rfl rfl ?_
            refine X_iconst (w := 0) dX11_change_129 ki_0 rfl ?_
            refine X_iconst (w := 1) dX11_change_130 ki_1 rfl ?_
            refine X_ruI (Ru_S (st := []) cs_X11_97 (c_X11_within G M v3 0 1) (by decide) rfl rfl (Nat.le_of_ble_eq_true rfl) dX11_change_131) rfl (fun r131 => ?_)
            refine X_if_eq (tgt := 147) dX11_change_134 rfl rfl (fun e134 => ?_) (fun e134 => ?_)
            · refine X_iconst (w := (-1)) dX11_change_147 ki_m1 rfl ?_
              exact X_iretJ rfl dX11_change_148
            · refine X_aload (a := 0) dX11_change_137 rfl rfl ?_
              refine X_iload_n (a := 2) dX11_change_139 rfl rfl rfl ?_
              refine X_iload_n (a := 4) dX11_change_140 rfl rfl rfl ?_
              refine X_ruJ (Ru_V (st := []) cv_X11_120 rfl (c_X3_putStaked G M 39 v1 v3 rfl) (by decide) rfl rfl (Nat.le_of_ble_eq_true rfl) dX11_change_141) rfl (fun r141 => ?_)
              refine X_goto (tgt := 148) dX11_change_144 rfl ?_
              exact X_iretJ rfl dX11_change_148
          · skip
            refine X_tsOut (tgt := 149) dX11_change_23 (by have ne23_1 := ne_toInt e23_1 (n := 1) (by decide); have ne23_2 := ne_toInt e23_2 (n := 2) (by decide); have ne23_3 := ne_toInt e23_3 (n := 3) (by decide); have ne23_4 := ne_toInt e23_4 (n := 4) (by decide); omega) rfl ?_
            refine X_iconst (w := (-1)) dX11_change_149 ki_m1 rfl ?_
            exact X_iretJ rfl dX11_change_150
  · refine X_iconst (w := (-1)) dX11_change_11 ki_m1 rfl ?_
    exact X_iretJ rfl dX11_change_12
set_option maxRecDepth 100000 in
theorem c_X11_remake (G : Gm) (M : Mm) (v1 : Int32) (v2 : Int32) : Ct fJ G miX11_remake (1) [.ref (ga G 0), .int v1, .int v2] M (F_X11_remake M v1 v2) := by
  refine Ct_of (pn_X11) (Nat.le_of_ble_eq_true rfl) ?_
  refine X_lv [0, 1, 2] (lv' := [(0, .ref (ga G 0)), (1, .int v1), (2, .int v2)]) rfl ?_
  unfold F_X11_remake
  refine X_aload_n (a := 0) dX11_remake_0 rfl rfl rfl ?_
  refine X_getR (t := 33) fl_X11_81 rfl rfl dX11_remake_1 rfl ?_
  refine X_iload_n (a := 1) dX11_remake_4 rfl rfl rfl ?_
  refine X_ruI (Ru_V (st := []) cv_X11_124 rfl (c_X10_has G M v1) (by decide) rfl rfl (Nat.le_of_ble_eq_true rfl) dX11_remake_5) rfl (fun r5 => ?_)
  refine X_if_eq (tgt := 20) dX11_remake_8 rfl rfl (fun e8 => ?_) (fun e8 => ?_)
  · refine X_iconst (w := (-1)) dX11_remake_20 ki_m1 rfl ?_
    exact X_iretJ rfl dX11_remake_21
  · refine X_iload_n (a := 2) dX11_remake_11 rfl rfl rfl ?_
    refine X_iconst (w := 1) dX11_remake_12 ki_1 rfl ?_
    refine X_iconst (w := 5) dX11_remake_13 ki_5 rfl ?_
    refine X_ruI (Ru_S (st := []) cs_X11_97 (c_X11_within G M v2 1 5) (by decide) rfl rfl (Nat.le_of_ble_eq_true rfl) dX11_remake_14) rfl (fun r14 => ?_)
    refine X_if_ne (tgt := 22) dX11_remake_17 rfl rfl (fun e17 => ?_) (fun e17 => ?_)
    · refine X_aload_n (a := 0) dX11_remake_22 rfl rfl rfl ?_
      refine X_getR (t := 33) fl_X11_81 rfl rfl dX11_remake_23 rfl ?_
      refine X_getR (t := 34) fl_X11_105 rfl rfl dX11_remake_26 rfl ?_
      refine X_iload_n (a := 1) dX11_remake_29 rfl rfl rfl ?_
      refine X_iload_n (a := 2) dX11_remake_30 rfl rfl rfl ?_
      refine X_ruJ (Ru_S (st := []) cs_X11_148 (c_X11_put G M 34 v1 v2 rfl) (by decide) rfl rfl (Nat.le_of_ble_eq_true rfl) dX11_remake_31) rfl (fun r31 => ?_)
      exact X_iretJ rfl dX11_remake_34
    · refine X_iconst (w := (-1)) dX11_remake_20 ki_m1 rfl ?_
      exact X_iretJ rfl dX11_remake_21
set_option maxRecDepth 100000 in
theorem c_X11_water (G : Gm) (M : Mm) (v1 : Int32) (v2 : Int32) : Ct fJ G miX11_water (1) [.ref (ga G 0), .int v1, .int v2] M (F_X11_water M v1 v2) := by
  refine Ct_of (pn_X11) (Nat.le_of_ble_eq_true rfl) ?_
  refine X_lv [0, 1, 2] (lv' := [(0, .ref (ga G 0)), (1, .int v1), (2, .int v2)]) rfl ?_
  unfold F_X11_water
  refine X_iload_n (a := 1) dX11_water_0 rfl rfl rfl ?_
  refine X_iconst (w := 0) dX11_water_1 ki_0 rfl ?_
  refine X_bipush (w := 15) dX11_water_2 kb_15 rfl ?_
  refine X_ruI (Ru_S (st := []) cs_X11_97 (c_X11_within G M v1 0 15) (by decide) rfl rfl (Nat.le_of_ble_eq_true rfl) dX11_water_4) rfl (fun r4 => ?_)
  refine X_if_eq (tgt := 20) dX11_water_7 rfl rfl (fun e7 => ?_) (fun e7 => ?_)
  · refine X_iconst (w := (-1)) dX11_water_20 ki_m1 rfl ?_
    exact X_iretJ rfl dX11_water_21
  · refine X_iload_n (a := 2) dX11_water_10 rfl rfl rfl ?_
    refine X_iconst (w := 0) dX11_water_11 ki_0 rfl ?_
    refine X_bipush (w := 15) dX11_water_12 kb_15 rfl ?_
    refine X_ruI (Ru_S (st := []) cs_X11_97 (c_X11_within G M v2 0 15) (by decide) rfl rfl (Nat.le_of_ble_eq_true rfl) dX11_water_14) rfl (fun r14 => ?_)
    refine X_if_ne (tgt := 22) dX11_water_17 rfl rfl (fun e17 => ?_) (fun e17 => ?_)
    · refine X_aload_n (a := 0) dX11_water_22 rfl rfl rfl ?_
      refine X_getR (t := 33) fl_X11_81 rfl rfl dX11_water_23 rfl ?_
      refine X_getR (t := 36) fl_X11_152 rfl rfl dX11_water_26 rfl ?_
      refine X_iload_n (a := 1) dX11_water_29 rfl rfl rfl ?_
      refine X_iload_n (a := 2) dX11_water_30 rfl rfl rfl ?_
      refine X_ruJ (Ru_S (st := []) cs_X11_148 (c_X11_put G M 36 v1 v2 rfl) (by decide) rfl rfl (Nat.le_of_ble_eq_true rfl) dX11_water_31) rfl (fun r31 => ?_)
      exact X_iretJ rfl dX11_water_34
    · refine X_iconst (w := (-1)) dX11_water_20 ki_m1 rfl ?_
      exact X_iretJ rfl dX11_water_21
set_option maxRecDepth 100000 in
theorem c_X11_tier (G : Gm) (M : Mm) (v1 : Int32) (v2 : Int32) (v3 : Int32) : Ct fJ G miX11_tier (1) [.ref (ga G 0), .int v1, .int v2, .int v3] M (F_X11_tier M v1 v2 v3) := by
  refine Ct_of (pn_X11) (Nat.le_of_ble_eq_true rfl) ?_
  refine X_lv [0, 1, 2, 3] (lv' := [(0, .ref (ga G 0)), (1, .int v1), (2, .int v2), (3, .int v3)]) rfl ?_
  unfold F_X11_tier
  refine X_iload_n (a := 1) dX11_tier_0 rfl rfl rfl ?_
  refine X_iconst (w := 0) dX11_tier_1 ki_0 rfl ?_
  refine X_iconst (w := 5) dX11_tier_2 ki_5 rfl ?_
  refine X_ruI (Ru_S (st := []) cs_X11_97 (c_X11_within G M v1 0 5) (by decide) rfl rfl (Nat.le_of_ble_eq_true rfl) dX11_tier_3) rfl (fun r3 => ?_)
  refine X_if_eq (tgt := 28) dX11_tier_6 rfl rfl (fun e6 => ?_) (fun e6 => ?_)
  · refine X_iconst (w := (-1)) dX11_tier_28 ki_m1 rfl ?_
    exact X_iretJ rfl dX11_tier_29
  · refine X_iload_n (a := 2) dX11_tier_9 rfl rfl rfl ?_
    refine X_iconst (w := 0) dX11_tier_10 ki_0 rfl ?_
    refine X_iconst (w := 1) dX11_tier_11 ki_1 rfl ?_
    refine X_ruI (Ru_S (st := []) cs_X11_97 (c_X11_within G M v2 0 1) (by decide) rfl rfl (Nat.le_of_ble_eq_true rfl) dX11_tier_12) rfl (fun r12 => ?_)
    refine X_if_eq (tgt := 28) dX11_tier_15 rfl rfl (fun e15 => ?_) (fun e15 => ?_)
    · refine X_iconst (w := (-1)) dX11_tier_28 ki_m1 rfl ?_
      exact X_iretJ rfl dX11_tier_29
    · refine X_iload_n (a := 3) dX11_tier_18 rfl rfl rfl ?_
      refine X_iconst (w := 0) dX11_tier_19 ki_0 rfl ?_
      refine X_bipush (w := 9) dX11_tier_20 kb_9 rfl ?_
      refine X_ruI (Ru_S (st := []) cs_X11_97 (c_X11_within G M v3 0 9) (by decide) rfl rfl (Nat.le_of_ble_eq_true rfl) dX11_tier_22) rfl (fun r22 => ?_)
      refine X_if_ne (tgt := 30) dX11_tier_25 rfl rfl (fun e25 => ?_) (fun e25 => ?_)
      · refine X_iload_n (a := 2) dX11_tier_30 rfl rfl rfl ?_
        refine X_jc (P := fun j => ∀ (y51_0 : Nat), ly_ty y51_0 = 20 → X fJ G miX11_tier (1) 51 [(1, .int v1), (3, .int v3)] [.ref (ga G y51_0)] M (j y51_0)) (fun y51_0 hy51_0 => ?_) (fun j51 hj51 => ?_)
        · refine X_iload_n (a := 0) dX11_tier_51 rfl rfl rfl ?_
          refine X_iload_n (a := 1) dX11_tier_52 rfl rfl rfl ?_
          refine X_ruJ (Ru_S (st := []) cs_X11_148 (c_X11_put G M y51_0 v1 v3 hy51_0) (by decide) rfl rfl (Nat.le_of_ble_eq_true rfl) dX11_tier_53) rfl (fun r53 => ?_)
          exact X_iretJ rfl dX11_tier_56
        refine X_if_ne (tgt := 44) dX11_tier_31 rfl rfl (fun e31 => ?_) (fun e31 => ?_)
        · refine X_aload_n (a := 0) dX11_tier_44 rfl rfl rfl ?_
          refine X_getR (t := 33) fl_X11_81 rfl rfl dX11_tier_45 rfl ?_
          refine X_getR (t := 38) fl_X11_158 rfl rfl dX11_tier_48 rfl ?_
          exact X_lv [1, 3] rfl (hj51 38 rfl)
        · refine X_aload_n (a := 0) dX11_tier_34 rfl rfl rfl ?_
          refine X_getR (t := 33) fl_X11_81 rfl rfl dX11_tier_35 rfl ?_
          refine X_getR (t := 37) fl_X11_155 rfl rfl dX11_tier_38 rfl ?_
          refine X_goto (tgt := 51) dX11_tier_41 rfl ?_
          exact X_lv [1, 3] rfl (hj51 37 rfl)
      · refine X_iconst (w := (-1)) dX11_tier_28 ki_m1 rfl ?_
        exact X_iretJ rfl dX11_tier_29
set_option maxRecDepth 100000 in
theorem c_X11_tierOf (G : Gm) (M : Mm) (v1 : Int32) (v2 : Int32) : Ct (fI M) G miX11_tierOf (1) [.ref (ga G 0), .int v1, .int v2] M (F_X11_tierOf M v1 v2) := by
  refine Ct_of (pn_X11) (Nat.le_of_ble_eq_true rfl) ?_
  refine X_lv [0, 1, 2] (lv' := [(0, .ref (ga G 0)), (1, .int v1), (2, .int v2)]) rfl ?_
  unfold F_X11_tierOf
  refine X_iload_n (a := 1) dX11_tierOf_0 rfl rfl rfl ?_
  refine X_iconst (w := 0) dX11_tierOf_1 ki_0 rfl ?_
  refine X_iconst (w := 5) dX11_tierOf_2 ki_5 rfl ?_
  refine X_ruI (Ru_S (st := []) cs_X11_97 (c_X11_within G M v1 0 5) (by decide) rfl rfl (Nat.le_of_ble_eq_true rfl) dX11_tierOf_3) rfl (fun r3 => ?_)
  refine X_if_eq (tgt := 18) dX11_tierOf_6 rfl rfl (fun e6 => ?_) (fun e6 => ?_)
  · refine X_iconst (w := (-1)) dX11_tierOf_18 ki_m1 rfl ?_
    exact X_iretI rfl dX11_tierOf_19
  · refine X_iload_n (a := 2) dX11_tierOf_9 rfl rfl rfl ?_
    refine X_iconst (w := 0) dX11_tierOf_10 ki_0 rfl ?_
    refine X_iconst (w := 1) dX11_tierOf_11 ki_1 rfl ?_
    refine X_ruI (Ru_S (st := []) cs_X11_97 (c_X11_within G M v2 0 1) (by decide) rfl rfl (Nat.le_of_ble_eq_true rfl) dX11_tierOf_12) rfl (fun r12 => ?_)
    refine X_if_ne (tgt := 20) dX11_tierOf_15 rfl rfl (fun e15 => ?_) (fun e15 => ?_)
    · refine X_iload_n (a := 2) dX11_tierOf_20 rfl rfl rfl ?_
      refine X_if_ne (tgt := 36) dX11_tierOf_21 rfl rfl (fun e21 => ?_) (fun e21 => ?_)
      · refine X_aload_n (a := 0) dX11_tierOf_36 rfl rfl rfl ?_
        refine X_getR (t := 33) fl_X11_81 rfl rfl dX11_tierOf_37 rfl ?_
        refine X_getR (t := 38) fl_X11_158 rfl rfl dX11_tierOf_40 rfl ?_
        refine X_iload_n (a := 1) dX11_tierOf_43 rfl rfl rfl ?_
        refine X_iald rfl rfl dX11_tierOf_44 rfl ?_
        exact X_iretI rfl dX11_tierOf_45
      · refine X_aload_n (a := 0) dX11_tierOf_24 rfl rfl rfl ?_
        refine X_getR (t := 33) fl_X11_81 rfl rfl dX11_tierOf_25 rfl ?_
        refine X_getR (t := 37) fl_X11_155 rfl rfl dX11_tierOf_28 rfl ?_
        refine X_iload_n (a := 1) dX11_tierOf_31 rfl rfl rfl ?_
        refine X_iald rfl rfl dX11_tierOf_32 rfl ?_
        refine X_goto (tgt := 45) dX11_tierOf_33 rfl ?_
        exact X_iretI rfl dX11_tierOf_45
    · refine X_iconst (w := (-1)) dX11_tierOf_18 ki_m1 rfl ?_
      exact X_iretI rfl dX11_tierOf_19
set_option maxRecDepth 100000 in
theorem c_X11_ends (G : Gm) (M : Mm) (v1 : Int32) : Ct fJ G miX11_ends (1) [.ref (ga G 0), .int v1] M (F_X11_ends M v1) := by
  refine Ct_of (pn_X11) (Nat.le_of_ble_eq_true rfl) ?_
  refine X_lv [0, 1] (lv' := [(0, .ref (ga G 0)), (1, .int v1)]) rfl ?_
  unfold F_X11_ends
  refine X_iload_n (a := 1) dX11_ends_0 rfl rfl rfl ?_
  refine X_iconst (w := 1) dX11_ends_1 ki_1 rfl ?_
  refine X_bipush (w := 16) dX11_ends_2 kb_16 rfl ?_
  refine X_ruI (Ru_S (st := []) cs_X11_97 (c_X11_within G M v1 1 16) (by decide) rfl rfl (Nat.le_of_ble_eq_true rfl) dX11_ends_4) rfl (fun r4 => ?_)
  refine X_if_ne (tgt := 12) dX11_ends_7 rfl rfl (fun e7 => ?_) (fun e7 => ?_)
  · refine X_iload_n (a := 1) dX11_ends_12 rfl rfl rfl ?_
    refine X_aload_n (a := 0) dX11_ends_13 rfl rfl rfl ?_
    refine X_getR (t := 33) fl_X11_81 rfl rfl dX11_ends_14 rfl ?_
    refine X_getR (t := 39) fl_X11_111 rfl rfl dX11_ends_17 rfl ?_
    refine X_getI fl_X11_161 rfl dX11_ends_20 rfl ?_
    refine X_icmp_ge (tgt := 29) dX11_ends_23 rfl rfl (fun e23 => ?_) (fun e23 => ?_)
    · refine X_aload_n (a := 0) dX11_ends_29 rfl rfl rfl ?_
      refine X_getR (t := 33) fl_X11_81 rfl rfl dX11_ends_30 rfl ?_
      refine X_getI fl_X11_164 rfl dX11_ends_33 rfl ?_
      refine X_istore_n (lv2 := [(2, .int (gi M 33 13)), (0, .ref (ga G 0)), (1, .int v1)]) dX11_ends_36 rfl (by decide) rfl rfl ?_
      refine X_aload_n (a := 1) dX11_ends_37 rfl rfl rfl ?_
      refine X_getR (t := 33) fl_X11_81 rfl rfl dX11_ends_38 rfl ?_
      refine X_iload_n (a := 2) dX11_ends_41 rfl rfl rfl ?_
      refine X_putI fp_X11_164 rfl dX11_ends_42 rfl ?_
      refine X_iload_n (a := 0) dX11_ends_45 rfl rfl rfl ?_
      exact X_iretJ rfl dX11_ends_46
    · refine X_bipush (w := (-4)) dX11_ends_26 kb_m4 rfl ?_
      exact X_iretJ rfl dX11_ends_28
  · refine X_iconst (w := (-1)) dX11_ends_10 ki_m1 rfl ?_
    exact X_iretJ rfl dX11_ends_11
set_option maxRecDepth 100000 in
theorem c_X11_anew (G : Gm) (M : Mm) : Ct fJ G miX11_anew (0) [.ref (ga G 0)] M (F_X11_anew M) := by
  refine Ct_of (pn_X11) (Nat.le_of_ble_eq_true rfl) ?_
  refine X_lv [0] (lv' := [(0, .ref (ga G 0))]) rfl ?_
  unfold F_X11_anew
  refine X_aload_n (a := 0) dX11_anew_0 rfl rfl rfl ?_
  refine X_getR (t := 33) fl_X11_81 rfl rfl dX11_anew_1 rfl ?_
  refine X_getR (t := 39) fl_X11_111 rfl rfl dX11_anew_4 rfl ?_
  refine X_getI fl_X11_161 rfl dX11_anew_7 rfl ?_
  refine X_istore_n (lv2 := [(1, .int (gi M 39 3)), (0, .ref (ga G 0))]) dX11_anew_10 rfl (by decide) rfl rfl ?_
  refine X_aload_n (a := 1) dX11_anew_11 rfl rfl rfl ?_
  refine X_getR (t := 33) fl_X11_81 rfl rfl dX11_anew_12 rfl ?_
  refine X_getR (t := 39) fl_X11_111 rfl rfl dX11_anew_15 rfl ?_
  refine X_iconst (w := 0) dX11_anew_18 ki_0 rfl ?_
  refine X_putI fp_X11_161 rfl dX11_anew_19 rfl ?_
  refine X_aload_n (a := 1) dX11_anew_22 rfl rfl rfl ?_
  refine X_getR (t := 33) fl_X11_81 rfl rfl dX11_anew_23 rfl ?_
  refine X_getR (t := 39) fl_X11_111 rfl rfl dX11_anew_26 rfl ?_
  refine X_iconst (w := 0) dX11_anew_29 ki_0 rfl ?_
  refine X_putI fp_X11_128 rfl dX11_anew_30 rfl ?_
  refine X_aload_n (a := 1) dX11_anew_33 rfl rfl rfl ?_
  refine X_getR (t := 33) fl_X11_81 rfl rfl dX11_anew_34 rfl ?_
  refine X_iconst (w := 0) dX11_anew_37 ki_0 rfl ?_
  refine X_putI fp_X11_167 rfl dX11_anew_38 rfl ?_
  refine X_iload_n (a := 0) dX11_anew_41 rfl rfl rfl ?_
  exact X_iretJ rfl dX11_anew_42
set_option maxRecDepth 100000 in
theorem c_X11_state (G : Gm) (M : Mm) (v1 : Int32) : Ct (fI M) G miX11_state (1) [.ref (ga G 0), .int v1] M (F_X11_state M v1) := by
  refine Ct_of (pn_X11) (Nat.le_of_ble_eq_true rfl) ?_
  refine X_lv [0, 1] (lv' := [(0, .ref (ga G 0)), (1, .int v1)]) rfl ?_
  unfold F_X11_state
  refine X_aload_n (a := 0) dX11_state_0 rfl rfl rfl ?_
  refine X_getR (t := 33) fl_X11_81 rfl rfl dX11_state_1 rfl ?_
  refine X_getR (t := 39) fl_X11_111 rfl rfl dX11_state_4 rfl ?_
  refine X_astore_n (lv2 := [(2, .ref (ga G 39)), (0, .ref (ga G 0)), (1, .int v1)]) dX11_state_7 rfl (by decide) rfl rfl ?_
  refine X_iload_n (a := 2) dX11_state_8 rfl rfl rfl ?_
  refine X_if (fun e9_0 => ?_) (fun e9_0 => ?_)
  · refine X_tsIn (tgt := 52) dX11_state_9 (by rw [e9_0]; decide) (by rw [e9_0]; decide) (by rw [e9_0]; rfl) rfl ?_
    refine X_aload_n (a := 0) dX11_state_52 rfl rfl rfl ?_
    refine X_getI fl_X11_161 rfl dX11_state_53 rfl ?_
    exact X_iretI rfl dX11_state_56
  · skip
    refine X_if (fun e9_1 => ?_) (fun e9_1 => ?_)
    · refine X_tsIn (tgt := 57) dX11_state_9 (by rw [e9_1]; decide) (by rw [e9_1]; decide) (by rw [e9_1]; rfl) rfl ?_
      refine X_aload_n (a := 1) dX11_state_57 rfl rfl rfl ?_
      refine X_getR (t := 33) fl_X11_81 rfl rfl dX11_state_58 rfl ?_
      refine X_getI fl_X11_164 rfl dX11_state_61 rfl ?_
      exact X_iretI rfl dX11_state_64
    · skip
      refine X_if (fun e9_2 => ?_) (fun e9_2 => ?_)
      · refine X_tsIn (tgt := 65) dX11_state_9 (by rw [e9_2]; decide) (by rw [e9_2]; decide) (by rw [e9_2]; rfl) rfl ?_
        refine X_aload_n (a := 1) dX11_state_65 rfl rfl rfl ?_
        refine X_getR (t := 33) fl_X11_81 rfl rfl dX11_state_66 rfl ?_
        refine X_getI fl_X11_167 rfl dX11_state_69 rfl ?_
        exact X_iretI rfl dX11_state_72
      · skip
        refine X_if (fun e9_3 => ?_) (fun e9_3 => ?_)
        · refine X_tsIn (tgt := 73) dX11_state_9 (by rw [e9_3]; decide) (by rw [e9_3]; decide) (by rw [e9_3]; rfl) rfl ?_
          refine X_aload_n (a := 1) dX11_state_73 rfl rfl rfl ?_
          refine X_getR (t := 33) fl_X11_81 rfl rfl dX11_state_74 rfl ?_
          refine X_aload_n (a := 0) dX11_state_77 rfl rfl rfl ?_
          refine X_ruI (Ru_V (st := []) cv_X11_170 rfl (c_X10_isOver G M 39 rfl) (by decide) rfl rfl (Nat.le_of_ble_eq_true rfl) dX11_state_78) rfl (fun r78 => ?_)
          refine X_if_eq (tgt := 88) dX11_state_81 rfl rfl (fun e81 => ?_) (fun e81 => ?_)
          · refine X_iconst (w := 0) dX11_state_88 ki_0 rfl ?_
            exact X_iretI rfl dX11_state_89
          · refine X_iconst (w := 1) dX11_state_84 ki_1 rfl ?_
            refine X_goto (tgt := 89) dX11_state_85 rfl ?_
            exact X_iretI rfl dX11_state_89
        · skip
          refine X_if (fun e9_4 => ?_) (fun e9_4 => ?_)
          · refine X_tsIn (tgt := 90) dX11_state_9 (by rw [e9_4]; decide) (by rw [e9_4]; decide) (by rw [e9_4]; rfl) rfl ?_
            refine X_aload_n (a := 0) dX11_state_90 rfl rfl rfl ?_
            refine X_getI fl_X11_128 rfl dX11_state_91 rfl ?_
            exact X_iretI rfl dX11_state_94
          · skip
            refine X_if (fun e9_5 => ?_) (fun e9_5 => ?_)
            · refine X_tsIn (tgt := 95) dX11_state_9 (by rw [e9_5]; decide) (by rw [e9_5]; decide) (by rw [e9_5]; rfl) rfl ?_
              refine X_aload_n (a := 1) dX11_state_95 rfl rfl rfl ?_
              refine X_getR (t := 33) fl_X11_81 rfl rfl dX11_state_96 rfl ?_
              refine X_aload_n (a := 0) dX11_state_99 rfl rfl rfl ?_
              refine X_getI fl_X11_161 rfl dX11_state_100 rfl ?_
              refine X_ruI (Ru_V (st := []) cv_X11_174 rfl (c_X10_waterAt G M (gi M 39 3)) (by decide) rfl rfl (Nat.le_of_ble_eq_true rfl) dX11_state_103) rfl (fun r103 => ?_)
              exact X_iretI rfl dX11_state_106
            · skip
              refine X_if (fun e9_6 => ?_) (fun e9_6 => ?_)
              · refine X_tsIn (tgt := 107) dX11_state_9 (by rw [e9_6]; decide) (by rw [e9_6]; decide) (by rw [e9_6]; rfl) rfl ?_
                refine X_aload_n (a := 1) dX11_state_107 rfl rfl rfl ?_
                refine X_getR (t := 33) fl_X11_81 rfl rfl dX11_state_108 rfl ?_
                refine X_aload_n (a := 0) dX11_state_111 rfl rfl rfl ?_
                refine X_ruI (Ru_V (st := []) cv_X11_178 rfl (c_X10_allFill G M 39 rfl) (by decide) rfl rfl (Nat.le_of_ble_eq_true rfl) dX11_state_112) rfl (fun r112 => ?_)
                exact X_iretI rfl dX11_state_115
              · skip
                refine X_tsOut (tgt := 116) dX11_state_9 (by have ne9_0 := ne_toInt e9_0 (n := 0) (by decide); have ne9_1 := ne_toInt e9_1 (n := 1) (by decide); have ne9_2 := ne_toInt e9_2 (n := 2) (by decide); have ne9_3 := ne_toInt e9_3 (n := 3) (by decide); have ne9_4 := ne_toInt e9_4 (n := 4) (by decide); have ne9_5 := ne_toInt e9_5 (n := 5) (by decide); have ne9_6 := ne_toInt e9_6 (n := 6) (by decide); omega) rfl ?_
                refine X_iconst (w := (-1)) dX11_state_116 ki_m1 rfl ?_
                exact X_iretI rfl dX11_state_117
set_option maxRecDepth 100000 in
theorem x_X11_feed_L30 (G : Gm) (v1 : Int64) (v3 : Int32) : ∀ (n : Nat) (M : Mm) (v4 : Int32), X fJ G miX11_feed (1) 30 [(0, .ref (ga G 0)), (1, .long v1), (3, .int v3), (4, .int v4)] [] M (F_X11_feed_L30 v1 v3 n M v4) := by
  intro n
  induction n with
  | zero => intro M v4; exact X_none
  | succ n ih =>
    intro M v4
    rw [F_X11_feed_L30]
    refine X_iload (a := 3) dX11_feed_30 rfl rfl ?_
    refine X_iload_n (a := 2) dX11_feed_32 rfl rfl rfl ?_
    refine X_icmp_ge (tgt := 70) dX11_feed_33 rfl rfl (fun e33 => ?_) (fun e33 => ?_)
    · refine X_aload_n (a := 0) dX11_feed_70 rfl rfl rfl ?_
      refine X_getI fl_X11_182 rfl dX11_feed_71 rfl ?_
      exact X_iretJ rfl dX11_feed_74
    · refine X_aload_n (a := 0) dX11_feed_36 rfl rfl rfl ?_
      refine X_getR (t := 6) fl_X11_23 rfl rfl dX11_feed_37 rfl ?_
      refine X_aload_n (a := 0) dX11_feed_40 rfl rfl rfl ?_
      refine X_getI fl_X11_182 rfl dX11_feed_41 rfl ?_
      refine X_lload_n (a := 1) dX11_feed_44 rfl rfl rfl ?_
      refine X_bipush (w := 8) dX11_feed_45 kb_8 rfl ?_
      refine X_iload (a := 3) dX11_feed_47 rfl rfl ?_
      refine X_imul dX11_feed_49 rfl ?_
      refine X_lshr dX11_feed_50 rfl rfl ?_
      refine X_l2i dX11_feed_51 rfl rfl ?_
      refine X_i2b dX11_feed_52 rfl rfl ?_
      refine X_bast rfl rfl dX11_feed_53 rfl ?_
      refine X_aload_n (a := 0) dX11_feed_54 rfl rfl rfl ?_
      refine X_dup dX11_feed_55 rfl rfl ?_
      refine X_getI fl_X11_182 rfl dX11_feed_56 rfl ?_
      refine X_iconst (w := 1) dX11_feed_59 ki_1 rfl ?_
      refine X_iadd dX11_feed_60 rfl ?_
      refine X_putI fp_X11_182 rfl dX11_feed_61 rfl ?_
      refine X_iinc (a := 3) (lv2 := [(4, .int (v4 + 1)), (0, .ref (ga G 0)), (1, .long v1), (3, .int v3)]) dX11_feed_64 rfl (ii_1 _) (by decide) rfl rfl ?_
      refine X_goto (tgt := 30) dX11_feed_67 rfl ?_
      exact X_lv [1, 2, 3, 0] rfl (ih (si (si M 6 (ui (gi M 0 7)) (vp_nar .byte (tb8 (Int64.toInt32 (v1 >>> (Int32.toInt64 (8 * v4) &&& 63)))))) 0 7 ((gi (si M 6 (ui (gi M 0 7)) (vp_nar .byte (tb8 (Int64.toInt32 (v1 >>> (Int32.toInt64 (8 * v4) &&& 63)))))) 0 7) + 1)) (v4 + 1))
set_option maxRecDepth 100000 in
theorem c_X11_feed (G : Gm) (M : Mm) (v1 : Int64) (v3 : Int32) : Ct fJ G miX11_feed (1) [.ref (ga G 0), .long v1, .int v3] M (F_X11_feed M v1 v3) := by
  refine Ct_of (pn_X11) (Nat.le_of_ble_eq_true rfl) ?_
  refine X_lv [0, 1, 2] (lv' := [(0, .ref (ga G 0)), (1, .long v1), (3, .int v3)]) rfl ?_
  unfold F_X11_feed
  refine X_iload_n (a := 2) dX11_feed_0 rfl rfl rfl ?_
  refine X_iconst (w := 1) dX11_feed_1 ki_1 rfl ?_
  refine X_bipush (w := 8) dX11_feed_2 kb_8 rfl ?_
  refine X_ruI (Ru_S (st := []) cs_X11_97 (c_X11_within G M v3 1 8) (by decide) rfl rfl (Nat.le_of_ble_eq_true rfl) dX11_feed_4) rfl (fun r4 => ?_)
  refine X_if_ne (tgt := 12) dX11_feed_7 rfl rfl (fun e7 => ?_) (fun e7 => ?_)
  · refine X_aload_n (a := 0) dX11_feed_12 rfl rfl rfl ?_
    refine X_getI fl_X11_182 rfl dX11_feed_13 rfl ?_
    refine X_iload_n (a := 2) dX11_feed_16 rfl rfl rfl ?_
    refine X_iadd dX11_feed_17 rfl ?_
    refine X_sipush (w := 200) dX11_feed_18 ks_200 rfl ?_
    refine X_icmp_le (tgt := 27) dX11_feed_21 rfl rfl (fun e21 => ?_) (fun e21 => ?_)
    · refine X_iconst (w := 0) dX11_feed_27 ki_0 rfl ?_
      refine X_istore (lv2 := [(4, .int 0), (0, .ref (ga G 0)), (1, .long v1), (3, .int v3)]) dX11_feed_28 (by decide) rfl rfl ?_
      exact X_lv [1, 2, 3, 0] rfl (x_X11_feed_L30 G v1 v3 1000 M 0)
    · refine X_bipush (w := (-2)) dX11_feed_24 kb_m2 rfl ?_
      exact X_iretJ rfl dX11_feed_26
  · refine X_iconst (w := (-1)) dX11_feed_10 ki_m1 rfl ?_
    exact X_iretJ rfl dX11_feed_11
set_option maxRecDepth 100000 in
theorem c_X11_rules (G : Gm) (M : Mm) : Ct fJ G miX11_rules (35) [.ref (ga G 0)] M (F_X11_rules M) := by
  refine Ct_of (pn_X11) (Nat.le_of_ble_eq_true rfl) ?_
  refine X_lv [0] (lv' := [(0, .ref (ga G 0))]) rfl ?_
  unfold F_X11_rules
  refine X_aload_n (a := 0) dX11_rules_0 rfl rfl rfl ?_
  refine X_getR (t := 7) fl_X11_30 rfl rfl dX11_rules_1 rfl ?_
  refine X_aload_n (a := 0) dX11_rules_4 rfl rfl rfl ?_
  refine X_getR (t := 6) fl_X11_23 rfl rfl dX11_rules_5 rfl ?_
  refine X_aload_n (a := 0) dX11_rules_8 rfl rfl rfl ?_
  refine X_getI fl_X11_182 rfl dX11_rules_9 rfl ?_
  refine X_ruJ (Ru_V (st := []) cv_X11_185 rfl (c_X6_read G M (gi M 0 7)) (by decide) rfl rfl (Nat.le_of_ble_eq_true rfl) dX11_rules_12) rfl (fun r12 => ?_)
  refine X_istore_n (lv2 := [(1, .int r12.1), (0, .ref (ga G 0))]) dX11_rules_15 rfl (by decide) rfl rfl ?_
  refine X_aload_n (a := 1) dX11_rules_16 rfl rfl rfl ?_
  refine X_iconst (w := 0) dX11_rules_17 ki_0 rfl ?_
  refine X_putI fp_X11_182 rfl dX11_rules_18 rfl ?_
  refine X_iload_n (a := 0) dX11_rules_21 rfl rfl rfl ?_
  refine X_if_lt (tgt := 30) dX11_rules_22 rfl rfl (fun e22 => ?_) (fun e22 => ?_)
  · refine X_aload_n (a := 1) dX11_rules_30 rfl rfl rfl ?_
    refine X_getR (t := 33) fl_X11_81 rfl rfl dX11_rules_31 rfl ?_
    refine X_getR (t := 42) fl_X11_189 rfl rfl dX11_rules_34 rfl ?_
    refine X_aload_n (a := 1) dX11_rules_37 rfl rfl rfl ?_
    refine X_getR (t := 7) fl_X11_30 rfl rfl dX11_rules_38 rfl ?_
    refine X_ruV (Ru_V (st := []) cv_X11_192 rfl (c_X6_take_42_7 G (si r12.2 0 7 0)) (by decide) rfl rfl (Nat.le_of_ble_eq_true rfl) dX11_rules_41) rfl (fun r41 => ?_)
    refine X_aload_n (a := 1) dX11_rules_44 rfl rfl rfl ?_
    refine X_getR (t := 33) fl_X11_81 rfl rfl dX11_rules_45 rfl ?_
    refine X_getR (t := 42) fl_X11_189 rfl rfl dX11_rules_48 rfl ?_
    refine X_getI fl_X11_196 rfl dX11_rules_51 rfl ?_
    exact X_iretJ rfl dX11_rules_54
  · refine X_bipush (w := (-100)) dX11_rules_25 kb_m100 rfl ?_
    refine X_iload_n (a := 0) dX11_rules_27 rfl rfl rfl ?_
    refine X_isub dX11_rules_28 rfl ?_
    exact X_iretJ rfl dX11_rules_29
set_option maxRecDepth 100000 in
theorem c_X11_goBy (G : Gm) (M : Mm) (v1 : Int32) : Ct fJ G miX11_goBy (5) [.ref (ga G 0), .int v1] M (F_X11_goBy M v1) := by
  refine Ct_of (pn_X11) (Nat.le_of_ble_eq_true rfl) ?_
  refine X_lv [0, 1] (lv' := [(0, .ref (ga G 0)), (1, .int v1)]) rfl ?_
  unfold F_X11_goBy
  refine X_aload_n (a := 0) dX11_goBy_0 rfl rfl rfl ?_
  refine X_getR (t := 33) fl_X11_81 rfl rfl dX11_goBy_1 rfl ?_
  refine X_aload_n (a := 0) dX11_goBy_4 rfl rfl rfl ?_
  refine X_getR (t := 33) fl_X11_81 rfl rfl dX11_goBy_5 rfl ?_
  refine X_getR (t := 39) fl_X11_111 rfl rfl dX11_goBy_8 rfl ?_
  refine X_iload_n (a := 1) dX11_goBy_11 rfl rfl rfl ?_
  refine X_ruJ (Ru_V (st := []) cv_X11_212 rfl (c_X10_pass G M 39 v1 rfl) (by decide) rfl rfl (Nat.le_of_ble_eq_true rfl) dX11_goBy_12) rfl (fun r12 => ?_)
  refine X_istore_n (lv2 := [(2, .int r12.1), (0, .ref (ga G 0)), (1, .int v1)]) dX11_goBy_15 rfl (by decide) rfl rfl ?_
  refine X_aload_n (a := 1) dX11_goBy_16 rfl rfl rfl ?_
  refine X_getR (t := 33) fl_X11_81 rfl rfl dX11_goBy_17 rfl ?_
  refine X_dup dX11_goBy_20 rfl rfl ?_
  refine X_getI fl_X11_167 rfl dX11_goBy_21 rfl ?_
  refine X_iload_n (a := 0) dX11_goBy_24 rfl rfl rfl ?_
  refine X_iadd dX11_goBy_25 rfl ?_
  refine X_putI fp_X11_167 rfl dX11_goBy_26 rfl ?_
  refine X_iload_n (a := 0) dX11_goBy_29 rfl rfl rfl ?_
  exact X_iretJ rfl dX11_goBy_30
set_option maxRecDepth 100000 in
theorem c_X11_tide (G : Gm) (M : Mm) : Ct fJ G miX11_tide (6) [.ref (ga G 0)] M (F_X11_tide M) := by
  refine Ct_of (pn_X11) (Nat.le_of_ble_eq_true rfl) ?_
  refine X_lv [0] (lv' := [(0, .ref (ga G 0))]) rfl ?_
  unfold F_X11_tide
  refine X_aload_n (a := 0) dX11_tide_0 rfl rfl rfl ?_
  refine X_getR (t := 33) fl_X11_81 rfl rfl dX11_tide_1 rfl ?_
  refine X_aload_n (a := 0) dX11_tide_4 rfl rfl rfl ?_
  refine X_getR (t := 33) fl_X11_81 rfl rfl dX11_tide_5 rfl ?_
  refine X_getR (t := 39) fl_X11_111 rfl rfl dX11_tide_8 rfl ?_
  refine X_ruI (Ru_V (st := []) cv_X11_170 rfl (c_X10_isOver G M 39 rfl) (by decide) rfl rfl (Nat.le_of_ble_eq_true rfl) dX11_tide_11) rfl (fun r11 => ?_)
  refine X_if_eq (tgt := 20) dX11_tide_14 rfl rfl (fun e14 => ?_) (fun e14 => ?_)
  · refine X_aload_n (a := 0) dX11_tide_20 rfl rfl rfl ?_
    refine X_aload_n (a := 0) dX11_tide_21 rfl rfl rfl ?_
    refine X_getR (t := 33) fl_X11_81 rfl rfl dX11_tide_22 rfl ?_
    refine X_aload_n (a := 0) dX11_tide_25 rfl rfl rfl ?_
    refine X_getR (t := 33) fl_X11_81 rfl rfl dX11_tide_26 rfl ?_
    refine X_getR (t := 39) fl_X11_111 rfl rfl dX11_tide_29 rfl ?_
    refine X_ruJ (Ru_V (st := [.ref (ga G 0)]) cv_X11_197 rfl (c_X10_restAct G M 39 rfl) (by decide) rfl rfl (Nat.le_of_ble_eq_true rfl) dX11_tide_32) rfl (fun r32 => ?_)
    refine X_ruJ (Ru_V (st := []) cv_X11_200 rfl (c_X11_goBy G r32.2 r32.1) (by decide) rfl rfl (Nat.le_of_ble_eq_true rfl) dX11_tide_35) rfl (fun r35 => ?_)
    exact X_iretJ rfl dX11_tide_38
  · refine X_bipush (w := (-4)) dX11_tide_17 kb_m4 rfl ?_
    exact X_iretJ rfl dX11_tide_19
set_option maxRecDepth 100000 in
theorem c_X11_on (G : Gm) (M : Mm) (v1 : Int32) : Ct fJ G miX11_on (7) [.ref (ga G 0), .int v1] M (F_X11_on M v1) := by
  refine Ct_of (pn_X11) (Nat.le_of_ble_eq_true rfl) ?_
  refine X_lv [0, 1] (lv' := [(0, .ref (ga G 0)), (1, .int v1)]) rfl ?_
  unfold F_X11_on
  refine X_iload_n (a := 1) dX11_on_0 rfl rfl rfl ?_
  refine X_iconst (w := 0) dX11_on_1 ki_0 rfl ?_
  refine X_bipush (w := 16) dX11_on_2 kb_16 rfl ?_
  refine X_ruI (Ru_S (st := []) cs_X11_97 (c_X11_within G M v1 0 16) (by decide) rfl rfl (Nat.le_of_ble_eq_true rfl) dX11_on_4) rfl (fun r4 => ?_)
  refine X_if_ne (tgt := 12) dX11_on_7 rfl rfl (fun e7 => ?_) (fun e7 => ?_)
  · refine X_aload_n (a := 0) dX11_on_12 rfl rfl rfl ?_
    refine X_getR (t := 1) fl_X11_10 rfl rfl dX11_on_13 rfl ?_
    refine X_aload_n (a := 0) dX11_on_16 rfl rfl rfl ?_
    refine X_getR (t := 33) fl_X11_81 rfl rfl dX11_on_17 rfl ?_
    refine X_getR (t := 39) fl_X11_111 rfl rfl dX11_on_20 rfl ?_
    refine X_ruV (Ru_V (st := []) cv_X11_203 rfl (c_X3_take G M 1 39 rfl rfl) (by decide) rfl rfl (Nat.le_of_ble_eq_true rfl) dX11_on_23) rfl (fun r23 => ?_)
    refine X_aload_n (a := 0) dX11_on_26 rfl rfl rfl ?_
    refine X_getR (t := 33) fl_X11_81 rfl rfl dX11_on_27 rfl ?_
    refine X_aload_n (a := 0) dX11_on_30 rfl rfl rfl ?_
    refine X_getR (t := 1) fl_X11_10 rfl rfl dX11_on_31 rfl ?_
    refine X_iload_n (a := 1) dX11_on_34 rfl rfl rfl ?_
    refine X_ruJ (Ru_V (st := []) cv_X11_206 rfl (c_X10_rest G r23 1 v1 rfl) (by decide) rfl rfl (Nat.le_of_ble_eq_true rfl) dX11_on_35) rfl (fun r35 => ?_)
    exact X_iretJ rfl dX11_on_38
  · refine X_iconst (w := (-1)) dX11_on_10 ki_m1 rfl ?_
    exact X_iretJ rfl dX11_on_11
set_option maxRecDepth 100000 in
theorem x_X11_when_L49 (G : Gm) (v1 : Int32) : ∀ (n : Nat) (M : Mm) (v2 : Int32), X fJ G miX11_when (6) 49 [(0, .ref (ga G 0)), (1, .int v1), (2, .int v2)] [] M (F_X11_when_L49 v1 n M v2) := by
  intro n
  induction n with
  | zero => intro M v2; exact X_none
  | succ n ih =>
    intro M v2
    rw [F_X11_when_L49]
    refine X_iload_n (a := 2) dX11_when_49 rfl rfl rfl ?_
    refine X_aload_n (a := 0) dX11_when_50 rfl rfl rfl ?_
    refine X_getR (t := 33) fl_X11_81 rfl rfl dX11_when_51 rfl ?_
    refine X_getI fl_X11_164 rfl dX11_when_54 rfl ?_
    refine X_icmp_ge (tgt := 102) dX11_when_57 rfl rfl (fun e57 => ?_) (fun e57 => ?_)
    · refine X_bipush (w := (-3)) dX11_when_102 kb_m3 rfl ?_
      exact X_iretJ rfl dX11_when_104
    · refine X_aload_n (a := 0) dX11_when_60 rfl rfl rfl ?_
      refine X_getR (t := 33) fl_X11_81 rfl rfl dX11_when_61 rfl ?_
      refine X_aload_n (a := 0) dX11_when_64 rfl rfl rfl ?_
      refine X_getR (t := 1) fl_X11_10 rfl rfl dX11_when_65 rfl ?_
      refine X_aload_n (a := 0) dX11_when_68 rfl rfl rfl ?_
      refine X_getR (t := 33) fl_X11_81 rfl rfl dX11_when_69 rfl ?_
      refine X_aload_n (a := 0) dX11_when_72 rfl rfl rfl ?_
      refine X_getR (t := 1) fl_X11_10 rfl rfl dX11_when_73 rfl ?_
      refine X_ruJ (Ru_V (st := [.ref (ga G 1), .ref (ga G 33)]) cv_X11_197 rfl (c_X10_restAct G M 1 rfl) (by decide) rfl rfl (Nat.le_of_ble_eq_true rfl) dX11_when_76) rfl (fun r76 => ?_)
      refine X_ruJ (Ru_V (st := []) cv_X11_212 rfl (c_X10_pass G r76.2 1 r76.1 rfl) (by decide) rfl rfl (Nat.le_of_ble_eq_true rfl) dX11_when_79) rfl (fun r79 => ?_)
      refine X_pop dX11_when_82 rfl rfl ?_
      refine X_aload_n (a := 0) dX11_when_83 rfl rfl rfl ?_
      refine X_getR (t := 1) fl_X11_10 rfl rfl dX11_when_84 rfl ?_
      refine X_iload_n (a := 1) dX11_when_87 rfl rfl rfl ?_
      refine X_ruI (Ru_V (st := []) cv_X11_209 rfl (c_X3_isStaked G r79.2 1 v1 rfl) (by decide) rfl rfl (Nat.le_of_ble_eq_true rfl) dX11_when_88) rfl (fun r88 => ?_)
      refine X_if_eq (tgt := 96) dX11_when_91 rfl rfl (fun e91 => ?_) (fun e91 => ?_)
      · refine X_iinc (a := 2) (lv2 := [(2, .int (v2 + 1)), (0, .ref (ga G 0)), (1, .int v1)]) dX11_when_96 rfl (ii_1 _) (by decide) rfl rfl ?_
        refine X_goto (tgt := 49) dX11_when_99 rfl ?_
        exact X_lv [1, 2, 0] rfl (ih r79.2 (v2 + 1))
      · refine X_iload_n (a := 2) dX11_when_94 rfl rfl rfl ?_
        exact X_iretJ rfl dX11_when_95
set_option maxRecDepth 100000 in
theorem c_X11_when (G : Gm) (M : Mm) (v1 : Int32) : Ct fJ G miX11_when (6) [.ref (ga G 0), .int v1] M (F_X11_when M v1) := by
  refine Ct_of (pn_X11) (Nat.le_of_ble_eq_true rfl) ?_
  refine X_lv [0, 1] (lv' := [(0, .ref (ga G 0)), (1, .int v1)]) rfl ?_
  unfold F_X11_when
  refine X_aload_n (a := 0) dX11_when_0 rfl rfl rfl ?_
  refine X_getR (t := 33) fl_X11_81 rfl rfl dX11_when_1 rfl ?_
  refine X_iload_n (a := 1) dX11_when_4 rfl rfl rfl ?_
  refine X_ruI (Ru_V (st := []) cv_X11_124 rfl (c_X10_has G M v1) (by decide) rfl rfl (Nat.le_of_ble_eq_true rfl) dX11_when_5) rfl (fun r5 => ?_)
  refine X_if_ne (tgt := 13) dX11_when_8 rfl rfl (fun e8 => ?_) (fun e8 => ?_)
  · refine X_aload_n (a := 0) dX11_when_13 rfl rfl rfl ?_
    refine X_getR (t := 1) fl_X11_10 rfl rfl dX11_when_14 rfl ?_
    refine X_aload_n (a := 0) dX11_when_17 rfl rfl rfl ?_
    refine X_getR (t := 33) fl_X11_81 rfl rfl dX11_when_18 rfl ?_
    refine X_getR (t := 39) fl_X11_111 rfl rfl dX11_when_21 rfl ?_
    refine X_ruV (Ru_V (st := []) cv_X11_203 rfl (c_X3_take G M 1 39 rfl rfl) (by decide) rfl rfl (Nat.le_of_ble_eq_true rfl) dX11_when_24) rfl (fun r24 => ?_)
    refine X_aload_n (a := 0) dX11_when_27 rfl rfl rfl ?_
    refine X_getR (t := 1) fl_X11_10 rfl rfl dX11_when_28 rfl ?_
    refine X_iload_n (a := 1) dX11_when_31 rfl rfl rfl ?_
    refine X_ruI (Ru_V (st := []) cv_X11_209 rfl (c_X3_isStaked G r24 1 v1 rfl) (by decide) rfl rfl (Nat.le_of_ble_eq_true rfl) dX11_when_32) rfl (fun r32 => ?_)
    refine X_if_eq (tgt := 41) dX11_when_35 rfl rfl (fun e35 => ?_) (fun e35 => ?_)
    · refine X_aload_n (a := 0) dX11_when_41 rfl rfl rfl ?_
      refine X_getR (t := 1) fl_X11_10 rfl rfl dX11_when_42 rfl ?_
      refine X_getI fl_X11_161 rfl dX11_when_45 rfl ?_
      refine X_istore_n (lv2 := [(2, .int (gi r24 1 3)), (0, .ref (ga G 0)), (1, .int v1)]) dX11_when_48 rfl (by decide) rfl rfl ?_
      exact X_lv [1, 2, 0] rfl (x_X11_when_L49 G v1 1000 r24 (gi r24 1 3))
    · refine X_bipush (w := (-3)) dX11_when_38 kb_m3 rfl ?_
      exact X_iretJ rfl dX11_when_40
  · refine X_iconst (w := (-1)) dX11_when_11 ki_m1 rfl ?_
    exact X_iretJ rfl dX11_when_12
set_option maxRecDepth 100000 in
theorem x_X11_chalkFor_L20 (G : Gm) (v1 : Int32) : ∀ (n : Nat) (M : Mm) (v2 : Int32) (v3 : Int32) (v4 : Int32), X fJ G miX11_chalkFor (7) 20 [(0, .ref (ga G 0)), (1, .int v1), (2, .int v2), (3, .int v3), (4, .int v4)] [] M (F_X11_chalkFor_L20 v1 n M v2 v3 v4) := by
  intro n
  induction n with
  | zero => intro M v2 v3 v4; exact X_none
  | succ n ih =>
    intro M v2 v3 v4
    rw [F_X11_chalkFor_L20]
    refine X_iload (a := 4) dX11_chalkFor_20 rfl rfl ?_
    refine X_bipush (w := 9) dX11_chalkFor_22 kb_9 rfl ?_
    refine X_icmp_gt (tgt := 85) dX11_chalkFor_24 rfl rfl (fun e24 => ?_) (fun e24 => ?_)
    · refine X_iload_n (a := 2) dX11_chalkFor_85 rfl rfl rfl ?_
      exact X_iretJ rfl dX11_chalkFor_86
    · refine X_aload_n (a := 0) dX11_chalkFor_27 rfl rfl rfl ?_
      refine X_getR (t := 1) fl_X11_10 rfl rfl dX11_chalkFor_28 rfl ?_
      refine X_aload_n (a := 0) dX11_chalkFor_31 rfl rfl rfl ?_
      refine X_getR (t := 33) fl_X11_81 rfl rfl dX11_chalkFor_32 rfl ?_
      refine X_getR (t := 39) fl_X11_111 rfl rfl dX11_chalkFor_35 rfl ?_
      refine X_ruV (Ru_V (st := []) cv_X11_203 rfl (c_X3_take G M 1 39 rfl rfl) (by decide) rfl rfl (Nat.le_of_ble_eq_true rfl) dX11_chalkFor_38) rfl (fun r38 => ?_)
      refine X_aload_n (a := 0) dX11_chalkFor_41 rfl rfl rfl ?_
      refine X_getR (t := 1) fl_X11_10 rfl rfl dX11_chalkFor_42 rfl ?_
      refine X_getR (t := 3) fl_X11_117 rfl rfl dX11_chalkFor_45 rfl ?_
      refine X_iload_n (a := 1) dX11_chalkFor_48 rfl rfl rfl ?_
      refine X_iload (a := 4) dX11_chalkFor_49 rfl rfl ?_
      refine X_iast rfl rfl dX11_chalkFor_51 rfl ?_
      refine X_aload_n (a := 0) dX11_chalkFor_52 rfl rfl rfl ?_
      refine X_getR (t := 33) fl_X11_81 rfl rfl dX11_chalkFor_53 rfl ?_
      refine X_aload_n (a := 0) dX11_chalkFor_56 rfl rfl rfl ?_
      refine X_getR (t := 1) fl_X11_10 rfl rfl dX11_chalkFor_57 rfl ?_
      refine X_bipush (w := 16) dX11_chalkFor_60 kb_16 rfl ?_
      refine X_ruJ (Ru_V (st := []) cv_X11_206 rfl (c_X10_rest G (si r38 3 (ui v1) v4) 1 16 rfl) (by decide) rfl rfl (Nat.le_of_ble_eq_true rfl) dX11_chalkFor_62) rfl (fun r62 => ?_)
      refine X_istore (lv2 := [(5, .int r62.1), (0, .ref (ga G 0)), (1, .int v1), (2, .int v2), (3, .int v3), (4, .int v4)]) dX11_chalkFor_65 (by decide) rfl rfl ?_
      refine X_iload (a := 0) dX11_chalkFor_67 rfl rfl ?_
      refine X_iload_n (a := 4) dX11_chalkFor_69 rfl rfl rfl ?_
      refine X_jc (P := fun j => ∀ (v2 : Int32) (v3 : Int32), X fJ G miX11_chalkFor (7) 79 [(0, .ref (ga G 0)), (1, .int v1), (2, .int v2), (3, .int v3), (4, .int v4)] [] r62.2 (j v2 v3)) (fun v2 v3 => ?_) (fun j79 hj79 => ?_)
      · refine X_iinc (a := 4) (lv2 := [(4, .int (v4 + 1)), (0, .ref (ga G 0)), (1, .int v1), (2, .int v2), (3, .int v3)]) dX11_chalkFor_79 rfl (ii_1 _) (by decide) rfl rfl ?_
        refine X_goto (tgt := 20) dX11_chalkFor_82 rfl ?_
        exact X_lv [1, 2, 3, 4, 0] rfl (ih r62.2 v2 v3 (v4 + 1))
      refine X_icmp_le (tgt := 79) dX11_chalkFor_70 rfl rfl (fun e70 => ?_) (fun e70 => ?_)
      · exact X_lv [1, 2, 3, 4, 5] rfl (hj79 v2 v3)
      · refine X_iload (a := 0) dX11_chalkFor_73 rfl rfl ?_
        refine X_istore_n (lv2 := [(3, .int r62.1), (5, .int r62.1), (0, .ref (ga G 0)), (1, .int v1), (2, .int v2), (4, .int v4)]) dX11_chalkFor_75 rfl (by decide) rfl rfl ?_
        refine X_iload (a := 5) dX11_chalkFor_76 rfl rfl ?_
        refine X_istore_n (lv2 := [(2, .int v4), (3, .int r62.1), (5, .int r62.1), (0, .ref (ga G 0)), (1, .int v1), (4, .int v4)]) dX11_chalkFor_78 rfl (by decide) rfl rfl ?_
        exact X_lv [3, 4, 0, 1, 5] rfl (hj79 v4 r62.1)
set_option maxRecDepth 100000 in
theorem c_X11_chalkFor (G : Gm) (M : Mm) (v1 : Int32) : Ct fJ G miX11_chalkFor (7) [.ref (ga G 0), .int v1] M (F_X11_chalkFor M v1) := by
  refine Ct_of (pn_X11) (Nat.le_of_ble_eq_true rfl) ?_
  refine X_lv [0, 1] (lv' := [(0, .ref (ga G 0)), (1, .int v1)]) rfl ?_
  unfold F_X11_chalkFor
  refine X_aload_n (a := 0) dX11_chalkFor_0 rfl rfl rfl ?_
  refine X_getR (t := 33) fl_X11_81 rfl rfl dX11_chalkFor_1 rfl ?_
  refine X_iload_n (a := 1) dX11_chalkFor_4 rfl rfl rfl ?_
  refine X_ruI (Ru_V (st := []) cv_X11_124 rfl (c_X10_has G M v1) (by decide) rfl rfl (Nat.le_of_ble_eq_true rfl) dX11_chalkFor_5) rfl (fun r5 => ?_)
  refine X_if_ne (tgt := 13) dX11_chalkFor_8 rfl rfl (fun e8 => ?_) (fun e8 => ?_)
  · refine X_iconst (w := 0) dX11_chalkFor_13 ki_0 rfl ?_
    refine X_istore_n (lv2 := [(2, .int 0), (0, .ref (ga G 0)), (1, .int v1)]) dX11_chalkFor_14 rfl (by decide) rfl rfl ?_
    refine X_iconst (w := (-1)) dX11_chalkFor_15 ki_m1 rfl ?_
    refine X_istore_n (lv2 := [(3, .int (-1)), (2, .int 0), (0, .ref (ga G 0)), (1, .int v1)]) dX11_chalkFor_16 rfl (by decide) rfl rfl ?_
    refine X_iconst (w := 0) dX11_chalkFor_17 ki_0 rfl ?_
    refine X_istore (lv2 := [(4, .int 0), (3, .int (-1)), (2, .int 0), (0, .ref (ga G 0)), (1, .int v1)]) dX11_chalkFor_18 (by decide) rfl rfl ?_
    exact X_lv [3, 4, 2, 1, 0] rfl (x_X11_chalkFor_L20 G v1 1000 M 0 (-1) 0)
  · refine X_iconst (w := (-1)) dX11_chalkFor_11 ki_m1 rfl ?_
    exact X_iretJ rfl dX11_chalkFor_12
set_option maxRecDepth 100000 in
theorem x_X11_tierFor_L31 (G : Gm) (v1 : Int32) (v2 : Int32) : ∀ (n : Nat) (M : Mm) (v3 : Int32) (v4 : Int32) (v5 : Int32), X fJ G miX11_tierFor (7) 31 [(0, .ref (ga G 0)), (1, .int v1), (2, .int v2), (3, .int v3), (4, .int v4), (5, .int v5)] [] M (F_X11_tierFor_L31 v1 v2 n M v3 v4 v5) := by
  intro n
  induction n with
  | zero => intro M v3 v4 v5; exact X_none
  | succ n ih =>
    intro M v3 v4 v5
    rw [F_X11_tierFor_L31]
    refine X_iload (a := 5) dX11_tierFor_31 rfl rfl ?_
    refine X_bipush (w := 6) dX11_tierFor_33 kb_6 rfl ?_
    refine X_icmp_ge (tgt := 98) dX11_tierFor_35 rfl rfl (fun e35 => ?_) (fun e35 => ?_)
    · refine X_aload_n (a := 0) dX11_tierFor_98 rfl rfl rfl ?_
      refine X_getR (t := 33) fl_X11_81 rfl rfl dX11_tierFor_99 rfl ?_
      refine X_getR (t := 35) fl_X11_108 rfl rfl dX11_tierFor_102 rfl ?_
      refine X_iload_n (a := 1) dX11_tierFor_105 rfl rfl rfl ?_
      refine X_iload_n (a := 2) dX11_tierFor_106 rfl rfl rfl ?_
      refine X_iast rfl rfl dX11_tierFor_107 rfl ?_
      refine X_iload_n (a := 3) dX11_tierFor_108 rfl rfl rfl ?_
      exact X_iretJ rfl dX11_tierFor_109
    · refine X_aload_n (a := 0) dX11_tierFor_38 rfl rfl rfl ?_
      refine X_getR (t := 1) fl_X11_10 rfl rfl dX11_tierFor_39 rfl ?_
      refine X_aload_n (a := 0) dX11_tierFor_42 rfl rfl rfl ?_
      refine X_getR (t := 33) fl_X11_81 rfl rfl dX11_tierFor_43 rfl ?_
      refine X_getR (t := 39) fl_X11_111 rfl rfl dX11_tierFor_46 rfl ?_
      refine X_ruV (Ru_V (st := []) cv_X11_203 rfl (c_X3_take G M 1 39 rfl rfl) (by decide) rfl rfl (Nat.le_of_ble_eq_true rfl) dX11_tierFor_49) rfl (fun r49 => ?_)
      refine X_aload_n (a := 0) dX11_tierFor_52 rfl rfl rfl ?_
      refine X_getR (t := 33) fl_X11_81 rfl rfl dX11_tierFor_53 rfl ?_
      refine X_getR (t := 35) fl_X11_108 rfl rfl dX11_tierFor_56 rfl ?_
      refine X_iload_n (a := 1) dX11_tierFor_59 rfl rfl rfl ?_
      refine X_iload (a := 5) dX11_tierFor_60 rfl rfl ?_
      refine X_iast rfl rfl dX11_tierFor_62 rfl ?_
      refine X_aload_n (a := 0) dX11_tierFor_63 rfl rfl rfl ?_
      refine X_getR (t := 33) fl_X11_81 rfl rfl dX11_tierFor_64 rfl ?_
      refine X_aload_n (a := 0) dX11_tierFor_67 rfl rfl rfl ?_
      refine X_getR (t := 1) fl_X11_10 rfl rfl dX11_tierFor_68 rfl ?_
      refine X_bipush (w := 16) dX11_tierFor_71 kb_16 rfl ?_
      refine X_ruJ (Ru_V (st := []) cv_X11_206 rfl (c_X10_rest G (si r49 35 (ui v1) v5) 1 16 rfl) (by decide) rfl rfl (Nat.le_of_ble_eq_true rfl) dX11_tierFor_73) rfl (fun r73 => ?_)
      refine X_istore (lv2 := [(6, .int r73.1), (0, .ref (ga G 0)), (1, .int v1), (2, .int v2), (3, .int v3), (4, .int v4), (5, .int v5)]) dX11_tierFor_76 (by decide) rfl rfl ?_
      refine X_iload (a := 0) dX11_tierFor_78 rfl rfl ?_
      refine X_iload (a := 5) dX11_tierFor_80 rfl rfl ?_
      refine X_jc (P := fun j => ∀ (v3 : Int32) (v4 : Int32), X fJ G miX11_tierFor (7) 92 [(0, .ref (ga G 0)), (1, .int v1), (2, .int v2), (3, .int v3), (4, .int v4), (5, .int v5)] [] r73.2 (j v3 v4)) (fun v3 v4 => ?_) (fun j92 hj92 => ?_)
      · refine X_iinc (a := 5) (lv2 := [(5, .int (v5 + 1)), (0, .ref (ga G 0)), (1, .int v1), (2, .int v2), (3, .int v3), (4, .int v4)]) dX11_tierFor_92 rfl (ii_1 _) (by decide) rfl rfl ?_
        refine X_goto (tgt := 31) dX11_tierFor_95 rfl ?_
        exact X_lv [1, 2, 3, 4, 5, 0] rfl (ih r73.2 v3 v4 (v5 + 1))
      refine X_icmp_le (tgt := 92) dX11_tierFor_82 rfl rfl (fun e82 => ?_) (fun e82 => ?_)
      · exact X_lv [1, 2, 3, 4, 5, 6] rfl (hj92 v3 v4)
      · refine X_iload (a := 0) dX11_tierFor_85 rfl rfl ?_
        refine X_istore (lv2 := [(4, .int r73.1), (6, .int r73.1), (0, .ref (ga G 0)), (1, .int v1), (2, .int v2), (3, .int v3), (5, .int v5)]) dX11_tierFor_87 (by decide) rfl rfl ?_
        refine X_iload (a := 6) dX11_tierFor_89 rfl rfl ?_
        refine X_istore_n (lv2 := [(3, .int v5), (4, .int r73.1), (6, .int r73.1), (0, .ref (ga G 0)), (1, .int v1), (2, .int v2), (5, .int v5)]) dX11_tierFor_91 rfl (by decide) rfl rfl ?_
        exact X_lv [3, 4, 5, 0, 1, 6] rfl (hj92 v5 r73.1)
set_option maxRecDepth 100000 in
theorem c_X11_tierFor (G : Gm) (M : Mm) (v1 : Int32) : Ct fJ G miX11_tierFor (7) [.ref (ga G 0), .int v1] M (F_X11_tierFor M v1) := by
  refine Ct_of (pn_X11) (Nat.le_of_ble_eq_true rfl) ?_
  refine X_lv [0, 1] (lv' := [(0, .ref (ga G 0)), (1, .int v1)]) rfl ?_
  unfold F_X11_tierFor
  refine X_aload_n (a := 0) dX11_tierFor_0 rfl rfl rfl ?_
  refine X_getR (t := 33) fl_X11_81 rfl rfl dX11_tierFor_1 rfl ?_
  refine X_iload_n (a := 1) dX11_tierFor_4 rfl rfl rfl ?_
  refine X_ruI (Ru_V (st := []) cv_X11_124 rfl (c_X10_has G M v1) (by decide) rfl rfl (Nat.le_of_ble_eq_true rfl) dX11_tierFor_5) rfl (fun r5 => ?_)
  refine X_if_ne (tgt := 13) dX11_tierFor_8 rfl rfl (fun e8 => ?_) (fun e8 => ?_)
  · refine X_aload_n (a := 0) dX11_tierFor_13 rfl rfl rfl ?_
    refine X_getR (t := 33) fl_X11_81 rfl rfl dX11_tierFor_14 rfl ?_
    refine X_getR (t := 35) fl_X11_108 rfl rfl dX11_tierFor_17 rfl ?_
    refine X_iload_n (a := 1) dX11_tierFor_20 rfl rfl rfl ?_
    refine X_iald rfl rfl dX11_tierFor_21 rfl ?_
    refine X_istore_n (lv2 := [(2, .int (gi M 35 (ui v1))), (0, .ref (ga G 0)), (1, .int v1)]) dX11_tierFor_22 rfl (by decide) rfl rfl ?_
    refine X_iconst (w := 0) dX11_tierFor_23 ki_0 rfl ?_
    refine X_istore_n (lv2 := [(3, .int 0), (2, .int (gi M 35 (ui v1))), (0, .ref (ga G 0)), (1, .int v1)]) dX11_tierFor_24 rfl (by decide) rfl rfl ?_
    refine X_iconst (w := (-1)) dX11_tierFor_25 ki_m1 rfl ?_
    refine X_istore (lv2 := [(4, .int (-1)), (3, .int 0), (2, .int (gi M 35 (ui v1))), (0, .ref (ga G 0)), (1, .int v1)]) dX11_tierFor_26 (by decide) rfl rfl ?_
    refine X_iconst (w := 0) dX11_tierFor_28 ki_0 rfl ?_
    refine X_istore (lv2 := [(5, .int 0), (4, .int (-1)), (3, .int 0), (2, .int (gi M 35 (ui v1))), (0, .ref (ga G 0)), (1, .int v1)]) dX11_tierFor_29 (by decide) rfl rfl ?_
    exact X_lv [4, 5, 3, 2, 1, 0] rfl (x_X11_tierFor_L31 G v1 (gi M 35 (ui v1)) 1000 M 0 (-1) 0)
  · refine X_iconst (w := (-1)) dX11_tierFor_11 ki_m1 rfl ?_
    exact X_iretJ rfl dX11_tierFor_12
set_option maxRecDepth 100000 in
theorem x_X11_dry_L55 (G : Gm) (v1 : Int32) : ∀ (n : Nat) (M : Mm) (v2 : Int32), X fJ G miX11_dry (6) 55 [(0, .ref (ga G 0)), (1, .int v1), (2, .int v2)] [] M (F_X11_dry_L55 v1 n M v2) := by
  intro n
  induction n with
  | zero => intro M v2; exact X_none
  | succ n ih =>
    intro M v2
    rw [F_X11_dry_L55]
    refine X_iload_n (a := 2) dX11_dry_55 rfl rfl rfl ?_
    refine X_aload_n (a := 0) dX11_dry_56 rfl rfl rfl ?_
    refine X_getR (t := 33) fl_X11_81 rfl rfl dX11_dry_57 rfl ?_
    refine X_getI fl_X11_164 rfl dX11_dry_60 rfl ?_
    refine X_icmp_ge (tgt := 115) dX11_dry_63 rfl rfl (fun e63 => ?_) (fun e63 => ?_)
    · refine X_bipush (w := (-3)) dX11_dry_115 kb_m3 rfl ?_
      exact X_iretJ rfl dX11_dry_117
    · refine X_aload_n (a := 0) dX11_dry_66 rfl rfl rfl ?_
      refine X_getR (t := 33) fl_X11_81 rfl rfl dX11_dry_67 rfl ?_
      refine X_aload_n (a := 0) dX11_dry_70 rfl rfl rfl ?_
      refine X_getR (t := 1) fl_X11_10 rfl rfl dX11_dry_71 rfl ?_
      refine X_aload_n (a := 0) dX11_dry_74 rfl rfl rfl ?_
      refine X_getR (t := 33) fl_X11_81 rfl rfl dX11_dry_75 rfl ?_
      refine X_aload_n (a := 0) dX11_dry_78 rfl rfl rfl ?_
      refine X_getR (t := 1) fl_X11_10 rfl rfl dX11_dry_79 rfl ?_
      refine X_ruJ (Ru_V (st := [.ref (ga G 1), .ref (ga G 33)]) cv_X11_197 rfl (c_X10_restAct G M 1 rfl) (by decide) rfl rfl (Nat.le_of_ble_eq_true rfl) dX11_dry_82) rfl (fun r82 => ?_)
      refine X_ruJ (Ru_V (st := []) cv_X11_212 rfl (c_X10_pass G r82.2 1 r82.1 rfl) (by decide) rfl rfl (Nat.le_of_ble_eq_true rfl) dX11_dry_85) rfl (fun r85 => ?_)
      refine X_pop dX11_dry_88 rfl rfl ?_
      refine X_aload_n (a := 0) dX11_dry_89 rfl rfl rfl ?_
      refine X_getR (t := 1) fl_X11_10 rfl rfl dX11_dry_90 rfl ?_
      refine X_getR (t := 2) fl_X11_114 rfl rfl dX11_dry_93 rfl ?_
      refine X_iload_n (a := 1) dX11_dry_96 rfl rfl rfl ?_
      refine X_iald rfl rfl dX11_dry_97 rfl ?_
      refine X_if_ne (tgt := 109) dX11_dry_98 rfl rfl (fun e98 => ?_) (fun e98 => ?_)
      · refine X_iinc (a := 2) (lv2 := [(2, .int (v2 + 1)), (0, .ref (ga G 0)), (1, .int v1)]) dX11_dry_109 rfl (ii_1 _) (by decide) rfl rfl ?_
        refine X_goto (tgt := 55) dX11_dry_112 rfl ?_
        exact X_lv [1, 2, 0] rfl (ih r85.2 (v2 + 1))
      · refine X_aload_n (a := 0) dX11_dry_101 rfl rfl rfl ?_
        refine X_getR (t := 1) fl_X11_10 rfl rfl dX11_dry_102 rfl ?_
        refine X_getI fl_X11_161 rfl dX11_dry_105 rfl ?_
        exact X_iretJ rfl dX11_dry_108
set_option maxRecDepth 100000 in
theorem c_X11_dry (G : Gm) (M : Mm) (v1 : Int32) : Ct fJ G miX11_dry (6) [.ref (ga G 0), .int v1] M (F_X11_dry M v1) := by
  refine Ct_of (pn_X11) (Nat.le_of_ble_eq_true rfl) ?_
  refine X_lv [0, 1] (lv' := [(0, .ref (ga G 0)), (1, .int v1)]) rfl ?_
  unfold F_X11_dry
  refine X_aload_n (a := 0) dX11_dry_0 rfl rfl rfl ?_
  refine X_getR (t := 33) fl_X11_81 rfl rfl dX11_dry_1 rfl ?_
  refine X_iload_n (a := 1) dX11_dry_4 rfl rfl rfl ?_
  refine X_ruI (Ru_V (st := []) cv_X11_124 rfl (c_X10_has G M v1) (by decide) rfl rfl (Nat.le_of_ble_eq_true rfl) dX11_dry_5) rfl (fun r5 => ?_)
  refine X_if_ne (tgt := 13) dX11_dry_8 rfl rfl (fun e8 => ?_) (fun e8 => ?_)
  · refine X_aload_n (a := 0) dX11_dry_13 rfl rfl rfl ?_
    refine X_getR (t := 1) fl_X11_10 rfl rfl dX11_dry_14 rfl ?_
    refine X_aload_n (a := 0) dX11_dry_17 rfl rfl rfl ?_
    refine X_getR (t := 33) fl_X11_81 rfl rfl dX11_dry_18 rfl ?_
    refine X_getR (t := 39) fl_X11_111 rfl rfl dX11_dry_21 rfl ?_
    refine X_ruV (Ru_V (st := []) cv_X11_203 rfl (c_X3_take G M 1 39 rfl rfl) (by decide) rfl rfl (Nat.le_of_ble_eq_true rfl) dX11_dry_24) rfl (fun r24 => ?_)
    refine X_aload_n (a := 0) dX11_dry_27 rfl rfl rfl ?_
    refine X_getR (t := 1) fl_X11_10 rfl rfl dX11_dry_28 rfl ?_
    refine X_getR (t := 2) fl_X11_114 rfl rfl dX11_dry_31 rfl ?_
    refine X_iload_n (a := 1) dX11_dry_34 rfl rfl rfl ?_
    refine X_iald rfl rfl dX11_dry_35 rfl ?_
    refine X_if_ne (tgt := 47) dX11_dry_36 rfl rfl (fun e36 => ?_) (fun e36 => ?_)
    · refine X_aload_n (a := 0) dX11_dry_47 rfl rfl rfl ?_
      refine X_getR (t := 1) fl_X11_10 rfl rfl dX11_dry_48 rfl ?_
      refine X_getI fl_X11_161 rfl dX11_dry_51 rfl ?_
      refine X_istore_n (lv2 := [(2, .int (gi r24 1 3)), (0, .ref (ga G 0)), (1, .int v1)]) dX11_dry_54 rfl (by decide) rfl rfl ?_
      exact X_lv [1, 2, 0] rfl (x_X11_dry_L55 G v1 1000 r24 (gi r24 1 3))
    · refine X_aload_n (a := 0) dX11_dry_39 rfl rfl rfl ?_
      refine X_getR (t := 1) fl_X11_10 rfl rfl dX11_dry_40 rfl ?_
      refine X_getI fl_X11_161 rfl dX11_dry_43 rfl ?_
      exact X_iretJ rfl dX11_dry_46
  · refine X_iconst (w := (-1)) dX11_dry_11 ki_m1 rfl ?_
    exact X_iretJ rfl dX11_dry_12
set_option maxRecDepth 100000 in
theorem x_X11_least_L41 (G : Gm) (v1 : Int32) (v2 : Int32) (v3 : Int32) : ∀ (n : Nat) (M : Mm) (v4 : Int32) (v5 : Int32), X fJ G miX11_least (4) 41 [(0, .ref (ga G 0)), (1, .int v1), (2, .int v2), (3, .int v3), (4, .int v4), (5, .int v5)] [] M (F_X11_least_L41 v1 v2 v3 n M v4 v5) := by
  intro n
  induction n with
  | zero => intro M v4 v5; exact X_none
  | succ n ih =>
    intro M v4 v5
    rw [F_X11_least_L41]
    refine X_iload (a := 5) dX11_least_41 rfl rfl ?_
    refine X_if_lt (tgt := 85) dX11_least_43 rfl rfl (fun e43 => ?_) (fun e43 => ?_)
    · refine X_aload_n (a := 0) dX11_least_85 rfl rfl rfl ?_
      refine X_getR (t := 33) fl_X11_81 rfl rfl dX11_least_86 rfl ?_
      refine X_getR (t := 37) fl_X11_155 rfl rfl dX11_least_89 rfl ?_
      refine X_iload_n (a := 2) dX11_least_92 rfl rfl rfl ?_
      refine X_iload_n (a := 3) dX11_least_93 rfl rfl rfl ?_
      refine X_iast rfl rfl dX11_least_94 rfl ?_
      refine X_iload (a := 4) dX11_least_95 rfl rfl ?_
      exact X_iretJ rfl dX11_least_97
    · refine X_aload_n (a := 0) dX11_least_46 rfl rfl rfl ?_
      refine X_getR (t := 33) fl_X11_81 rfl rfl dX11_least_47 rfl ?_
      refine X_getR (t := 37) fl_X11_155 rfl rfl dX11_least_50 rfl ?_
      refine X_iload_n (a := 2) dX11_least_53 rfl rfl rfl ?_
      refine X_iload (a := 5) dX11_least_54 rfl rfl ?_
      refine X_iast rfl rfl dX11_least_56 rfl ?_
      refine X_aload_n (a := 0) dX11_least_57 rfl rfl rfl ?_
      refine X_getR (t := 33) fl_X11_81 rfl rfl dX11_least_58 rfl ?_
      refine X_aload_n (a := 0) dX11_least_61 rfl rfl rfl ?_
      refine X_getR (t := 33) fl_X11_81 rfl rfl dX11_least_62 rfl ?_
      refine X_getR (t := 39) fl_X11_111 rfl rfl dX11_least_65 rfl ?_
      refine X_iload_n (a := 1) dX11_least_68 rfl rfl rfl ?_
      refine X_ruI (Ru_V (st := []) cv_X11_138 rfl (c_X10_pays G (si M 37 (ui v2) v5) 39 v1 rfl) (by decide) rfl rfl (Nat.le_of_ble_eq_true rfl) dX11_least_69) rfl (fun r69 => ?_)
      refine X_jc (P := fun j => ∀ (v4 : Int32), X fJ G miX11_least (4) 79 [(0, .ref (ga G 0)), (1, .int v1), (2, .int v2), (3, .int v3), (4, .int v4), (5, .int v5)] [] (si M 37 (ui v2) v5) (j v4)) (fun v4 => ?_) (fun j79 hj79 => ?_)
      · refine X_iinc (a := 5) (lv2 := [(5, .int (v5 + (-1))), (0, .ref (ga G 0)), (1, .int v1), (2, .int v2), (3, .int v3), (4, .int v4)]) dX11_least_79 rfl (ii_m1 _) (by decide) rfl rfl ?_
        refine X_goto (tgt := 41) dX11_least_82 rfl ?_
        exact X_lv [1, 2, 3, 4, 5, 0] rfl (ih (si M 37 (ui v2) v5) v4 (v5 + (-1)))
      refine X_if_le (tgt := 79) dX11_least_72 rfl rfl (fun e72 => ?_) (fun e72 => ?_)
      · exact X_lv [0, 1, 2, 3, 4, 5] rfl (hj79 v4)
      · refine X_iload (a := 5) dX11_least_75 rfl rfl ?_
        refine X_istore (lv2 := [(4, .int v5), (0, .ref (ga G 0)), (1, .int v1), (2, .int v2), (3, .int v3), (5, .int v5)]) dX11_least_77 (by decide) rfl rfl ?_
        exact X_lv [1, 2, 3, 4, 0, 5] rfl (hj79 v5)
set_option maxRecDepth 100000 in
theorem c_X11_least (G : Gm) (M : Mm) (v1 : Int32) : Ct fJ G miX11_least (4) [.ref (ga G 0), .int v1] M (F_X11_least M v1) := by
  refine Ct_of (pn_X11) (Nat.le_of_ble_eq_true rfl) ?_
  refine X_lv [0, 1] (lv' := [(0, .ref (ga G 0)), (1, .int v1)]) rfl ?_
  unfold F_X11_least
  refine X_aload_n (a := 0) dX11_least_0 rfl rfl rfl ?_
  refine X_getR (t := 33) fl_X11_81 rfl rfl dX11_least_1 rfl ?_
  refine X_iload_n (a := 1) dX11_least_4 rfl rfl rfl ?_
  refine X_ruI (Ru_V (st := []) cv_X11_124 rfl (c_X10_has G M v1) (by decide) rfl rfl (Nat.le_of_ble_eq_true rfl) dX11_least_5) rfl (fun r5 => ?_)
  refine X_if_ne (tgt := 13) dX11_least_8 rfl rfl (fun e8 => ?_) (fun e8 => ?_)
  · refine X_aload_n (a := 0) dX11_least_13 rfl rfl rfl ?_
    refine X_getR (t := 33) fl_X11_81 rfl rfl dX11_least_14 rfl ?_
    refine X_getR (t := 35) fl_X11_108 rfl rfl dX11_least_17 rfl ?_
    refine X_iload_n (a := 1) dX11_least_20 rfl rfl rfl ?_
    refine X_iald rfl rfl dX11_least_21 rfl ?_
    refine X_istore_n (lv2 := [(2, .int (gi M 35 (ui v1))), (0, .ref (ga G 0)), (1, .int v1)]) dX11_least_22 rfl (by decide) rfl rfl ?_
    refine X_aload_n (a := 1) dX11_least_23 rfl rfl rfl ?_
    refine X_getR (t := 33) fl_X11_81 rfl rfl dX11_least_24 rfl ?_
    refine X_getR (t := 37) fl_X11_155 rfl rfl dX11_least_27 rfl ?_
    refine X_iload_n (a := 0) dX11_least_30 rfl rfl rfl ?_
    refine X_iald rfl rfl dX11_least_31 rfl ?_
    refine X_istore_n (lv2 := [(3, .int (gi M 37 (ui (gi M 35 (ui v1))))), (2, .int (gi M 35 (ui v1))), (0, .ref (ga G 0)), (1, .int v1)]) dX11_least_32 rfl (by decide) rfl rfl ?_
    refine X_bipush (w := (-3)) dX11_least_33 kb_m3 rfl ?_
    refine X_istore (lv2 := [(4, .int (-3)), (3, .int (gi M 37 (ui (gi M 35 (ui v1))))), (2, .int (gi M 35 (ui v1))), (0, .ref (ga G 0)), (1, .int v1)]) dX11_least_35 (by decide) rfl rfl ?_
    refine X_bipush (w := 9) dX11_least_37 kb_9 rfl ?_
    refine X_istore (lv2 := [(5, .int 9), (4, .int (-3)), (3, .int (gi M 37 (ui (gi M 35 (ui v1))))), (2, .int (gi M 35 (ui v1))), (0, .ref (ga G 0)), (1, .int v1)]) dX11_least_39 (by decide) rfl rfl ?_
    exact X_lv [4, 5, 3, 2, 1, 0] rfl (x_X11_least_L41 G v1 (gi M 35 (ui v1)) (gi M 37 (ui (gi M 35 (ui v1)))) 1000 M (-3) 9)
  · refine X_iconst (w := (-1)) dX11_least_11 ki_m1 rfl ?_
    exact X_iretJ rfl dX11_least_12
set_option maxRecDepth 100000 in
theorem c_X11_left (G : Gm) (M : Mm) (v1 : Int32) (v2 : Int32) : Ct fJ G miX11_left (7) [.ref (ga G 0), .int v1, .int v2] M (F_X11_left M v1 v2) := by
  refine Ct_of (pn_X11) (Nat.le_of_ble_eq_true rfl) ?_
  refine X_lv [0, 1, 2] (lv' := [(0, .ref (ga G 0)), (1, .int v1), (2, .int v2)]) rfl ?_
  unfold F_X11_left
  refine X_iload_n (a := 1) dX11_left_0 rfl rfl rfl ?_
  refine X_iconst (w := 0) dX11_left_1 ki_0 rfl ?_
  refine X_bipush (w := 16) dX11_left_2 kb_16 rfl ?_
  refine X_ruI (Ru_S (st := []) cs_X11_97 (c_X11_within G M v1 0 16) (by decide) rfl rfl (Nat.le_of_ble_eq_true rfl) dX11_left_4) rfl (fun r4 => ?_)
  refine X_if_eq (tgt := 19) dX11_left_7 rfl rfl (fun e7 => ?_) (fun e7 => ?_)
  · refine X_iconst (w := (-1)) dX11_left_19 ki_m1 rfl ?_
    exact X_iretJ rfl dX11_left_20
  · refine X_iload_n (a := 2) dX11_left_10 rfl rfl rfl ?_
    refine X_iconst (w := 0) dX11_left_11 ki_0 rfl ?_
    refine X_iconst (w := 1) dX11_left_12 ki_1 rfl ?_
    refine X_ruI (Ru_S (st := []) cs_X11_97 (c_X11_within G M v2 0 1) (by decide) rfl rfl (Nat.le_of_ble_eq_true rfl) dX11_left_13) rfl (fun r13 => ?_)
    refine X_if_ne (tgt := 21) dX11_left_16 rfl rfl (fun e16 => ?_) (fun e16 => ?_)
    · refine X_aload_n (a := 0) dX11_left_21 rfl rfl rfl ?_
      refine X_getR (t := 1) fl_X11_10 rfl rfl dX11_left_22 rfl ?_
      refine X_aload_n (a := 0) dX11_left_25 rfl rfl rfl ?_
      refine X_getR (t := 33) fl_X11_81 rfl rfl dX11_left_26 rfl ?_
      refine X_getR (t := 39) fl_X11_111 rfl rfl dX11_left_29 rfl ?_
      refine X_ruV (Ru_V (st := []) cv_X11_203 rfl (c_X3_take G M 1 39 rfl rfl) (by decide) rfl rfl (Nat.le_of_ble_eq_true rfl) dX11_left_32) rfl (fun r32 => ?_)
      refine X_aload_n (a := 0) dX11_left_35 rfl rfl rfl ?_
      refine X_getR (t := 33) fl_X11_81 rfl rfl dX11_left_36 rfl ?_
      refine X_aload_n (a := 0) dX11_left_39 rfl rfl rfl ?_
      refine X_getR (t := 1) fl_X11_10 rfl rfl dX11_left_40 rfl ?_
      refine X_iload_n (a := 1) dX11_left_43 rfl rfl rfl ?_
      refine X_ruJ (Ru_V (st := []) cv_X11_206 rfl (c_X10_rest G r32 1 v1 rfl) (by decide) rfl rfl (Nat.le_of_ble_eq_true rfl) dX11_left_44) rfl (fun r44 => ?_)
      refine X_pop dX11_left_47 rfl rfl ?_
      refine X_iload_n (a := 2) dX11_left_48 rfl rfl rfl ?_
      refine X_if_ne (tgt := 66) dX11_left_49 rfl rfl (fun e49 => ?_) (fun e49 => ?_)
      · refine X_aload_n (a := 0) dX11_left_66 rfl rfl rfl ?_
        refine X_getR (t := 1) fl_X11_10 rfl rfl dX11_left_67 rfl ?_
        refine X_getI fl_X11_128 rfl dX11_left_70 rfl ?_
        exact X_iretJ rfl dX11_left_73
      · refine X_aload_n (a := 0) dX11_left_52 rfl rfl rfl ?_
        refine X_getR (t := 33) fl_X11_81 rfl rfl dX11_left_53 rfl ?_
        refine X_aload_n (a := 0) dX11_left_56 rfl rfl rfl ?_
        refine X_getR (t := 1) fl_X11_10 rfl rfl dX11_left_57 rfl ?_
        refine X_ruI (Ru_V (st := []) cv_X11_178 rfl (c_X10_allFill G r44.2 1 rfl) (by decide) rfl rfl (Nat.le_of_ble_eq_true rfl) dX11_left_60) rfl (fun r60 => ?_)
        refine X_goto (tgt := 73) dX11_left_63 rfl ?_
        exact X_iretJ rfl dX11_left_73
    · refine X_iconst (w := (-1)) dX11_left_19 ki_m1 rfl ?_
      exact X_iretJ rfl dX11_left_20
set_option maxRecDepth 100000 in
theorem x_X11_raftOf_L36 (G : Gm) (M : Mm) (v3 : Int32) (k22 : Int32 → Int32 → Option Int32) (hk22 : ∀ (v2 : Int32) (v3 : Int32), X (fI M) G miX11_raftOf (5) 22 [(0, .ref (ga G 0)), (2, .int v2), (3, .int v3)] [] M (k22 v2 v3)) : ∀ (n : Nat) (v2 : Int32) (v4 : Int32), X (fI M) G miX11_raftOf (5) 36 [(0, .ref (ga G 0)), (2, .int v2), (3, .int v3), (4, .int v4)] [] M (F_X11_raftOf_L36 k22 M v3 n v2 v4) := by
  intro n
  induction n with
  | zero => intro v2 v4; exact X_none
  | succ n ih =>
    intro v2 v4
    rw [F_X11_raftOf_L36]
    refine X_iload (a := 3) dX11_raftOf_36 rfl rfl ?_
    refine X_aload_n (a := 0) dX11_raftOf_38 rfl rfl rfl ?_
    refine X_getR (t := 33) fl_X11_81 rfl rfl dX11_raftOf_39 rfl ?_
    refine X_getI fl_X11_101 rfl dX11_raftOf_42 rfl ?_
    refine X_icmp_ge (tgt := 74) dX11_raftOf_45 rfl rfl (fun e45 => ?_) (fun e45 => ?_)
    · refine X_iinc (a := 2) (lv2 := [(3, .int (v3 + 1)), (0, .ref (ga G 0)), (2, .int v2), (4, .int v4)]) dX11_raftOf_74 rfl (ii_1 _) (by decide) rfl rfl ?_
      refine X_goto (tgt := 22) dX11_raftOf_77 rfl ?_
      exact X_lv [1, 2, 0] rfl (hk22 v2 (v3 + 1))
    · refine X_aload_n (a := 0) dX11_raftOf_48 rfl rfl rfl ?_
      refine X_getR (t := 33) fl_X11_81 rfl rfl dX11_raftOf_49 rfl ?_
      refine X_iload (a := 3) dX11_raftOf_52 rfl rfl ?_
      refine X_iload_n (a := 1) dX11_raftOf_54 rfl rfl rfl ?_
      refine X_ruI (Ru_V (st := []) cv_X11_374 rfl (c_X10_isCloseToAny G M v4 v2) (by decide) rfl rfl (Nat.le_of_ble_eq_true rfl) dX11_raftOf_55) rfl (fun r55 => ?_)
      refine X_jc (P := fun j => ∀ (v2 : Int32), X (fI M) G miX11_raftOf (5) 68 [(0, .ref (ga G 0)), (2, .int v2), (3, .int v3), (4, .int v4)] [] M (j v2)) (fun v2 => ?_) (fun j68 hj68 => ?_)
      · refine X_iinc (a := 3) (lv2 := [(4, .int (v4 + 1)), (0, .ref (ga G 0)), (2, .int v2), (3, .int v3)]) dX11_raftOf_68 rfl (ii_1 _) (by decide) rfl rfl ?_
        refine X_goto (tgt := 36) dX11_raftOf_71 rfl ?_
        exact X_lv [1, 2, 3, 0] rfl (ih v2 (v4 + 1))
      refine X_if_eq (tgt := 68) dX11_raftOf_58 rfl rfl (fun e58 => ?_) (fun e58 => ?_)
      · exact X_lv [0, 1, 2, 3] rfl (hj68 v2)
      · refine X_iload_n (a := 1) dX11_raftOf_61 rfl rfl rfl ?_
        refine X_iconst (w := 1) dX11_raftOf_62 ki_1 rfl ?_
        refine X_iload (a := 3) dX11_raftOf_63 rfl rfl ?_
        refine X_ishl dX11_raftOf_65 rfl ?_
        refine X_ior dX11_raftOf_66 rfl ?_
        refine X_istore_n (lv2 := [(2, .int (v2 ||| (1 <<< (v4 &&& 31)))), (0, .ref (ga G 0)), (3, .int v3), (4, .int v4)]) dX11_raftOf_67 rfl (by decide) rfl rfl ?_
        exact X_lv [1, 0, 2, 3] rfl (hj68 (v2 ||| (1 <<< (v4 &&& 31))))
set_option maxRecDepth 100000 in
theorem x_X11_raftOf_L22 (G : Gm) (M : Mm) : ∀ (n : Nat) (v2 : Int32) (v3 : Int32), X (fI M) G miX11_raftOf (5) 22 [(0, .ref (ga G 0)), (2, .int v2), (3, .int v3)] [] M (F_X11_raftOf_L22 M n v2 v3) := by
  intro n
  induction n with
  | zero => intro v2 v3; exact X_none
  | succ n ih =>
    intro v2 v3
    rw [F_X11_raftOf_L22]
    refine X_iload_n (a := 2) dX11_raftOf_22 rfl rfl rfl ?_
    refine X_aload_n (a := 0) dX11_raftOf_23 rfl rfl rfl ?_
    refine X_getR (t := 33) fl_X11_81 rfl rfl dX11_raftOf_24 rfl ?_
    refine X_getI fl_X11_101 rfl dX11_raftOf_27 rfl ?_
    refine X_icmp_ge (tgt := 80) dX11_raftOf_30 rfl rfl (fun e30 => ?_) (fun e30 => ?_)
    · refine X_iload_n (a := 1) dX11_raftOf_80 rfl rfl rfl ?_
      exact X_iretI rfl dX11_raftOf_81
    · refine X_iconst (w := 0) dX11_raftOf_33 ki_0 rfl ?_
      refine X_istore (lv2 := [(4, .int 0), (0, .ref (ga G 0)), (2, .int v2), (3, .int v3)]) dX11_raftOf_34 (by decide) rfl rfl ?_
      exact X_lv [1, 2, 3, 0] rfl (x_X11_raftOf_L36 G M v3 (F_X11_raftOf_L22 M n) ih 1000 v2 0)
set_option maxRecDepth 100000 in
theorem c_X11_raftOf (G : Gm) (M : Mm) (v1 : Int32) : Ct (fI M) G miX11_raftOf (5) [.ref (ga G 0), .int v1] M (F_X11_raftOf M v1) := by
  refine Ct_of (pn_X11) (Nat.le_of_ble_eq_true rfl) ?_
  refine X_lv [0, 1] (lv' := [(0, .ref (ga G 0)), (1, .int v1)]) rfl ?_
  unfold F_X11_raftOf
  refine X_aload_n (a := 0) dX11_raftOf_0 rfl rfl rfl ?_
  refine X_getR (t := 33) fl_X11_81 rfl rfl dX11_raftOf_1 rfl ?_
  refine X_getR (t := 39) fl_X11_111 rfl rfl dX11_raftOf_4 rfl ?_
  refine X_iload_n (a := 1) dX11_raftOf_7 rfl rfl rfl ?_
  refine X_ruI (Ru_V (st := []) cv_X11_209 rfl (c_X3_isStaked G M 39 v1 rfl) (by decide) rfl rfl (Nat.le_of_ble_eq_true rfl) dX11_raftOf_8) rfl (fun r8 => ?_)
  refine X_if_eq (tgt := 16) dX11_raftOf_11 rfl rfl (fun e11 => ?_) (fun e11 => ?_)
  · refine X_iconst (w := 1) dX11_raftOf_16 ki_1 rfl ?_
    refine X_iload_n (a := 1) dX11_raftOf_17 rfl rfl rfl ?_
    refine X_ishl dX11_raftOf_18 rfl ?_
    refine X_istore_n (lv2 := [(2, .int (1 <<< (v1 &&& 31))), (0, .ref (ga G 0)), (1, .int v1)]) dX11_raftOf_19 rfl (by decide) rfl rfl ?_
    refine X_iconst (w := 1) dX11_raftOf_20 ki_1 rfl ?_
    refine X_istore_n (lv2 := [(3, .int 1), (2, .int (1 <<< (v1 &&& 31))), (0, .ref (ga G 0)), (1, .int v1)]) dX11_raftOf_21 rfl (by decide) rfl rfl ?_
    exact X_lv [2, 1, 0] rfl (x_X11_raftOf_L22 G M 1000 (1 <<< (v1 &&& 31)) 1)
  · refine X_iconst (w := 0) dX11_raftOf_14 ki_0 rfl ?_
    exact X_iretI rfl dX11_raftOf_15
set_option maxRecDepth 100000 in
theorem x_X11_countRafts_L6 (G : Gm) (M : Mm) : ∀ (n : Nat) (v1 : Int32) (v2 : Int32) (v3 : Int32), X (fI M) G miX11_countRafts (6) 6 [(0, .ref (ga G 0)), (1, .int v1), (2, .int v2), (3, .int v3)] [] M (F_X11_countRafts_L6 M n v1 v2 v3) := by
  intro n
  induction n with
  | zero => intro v1 v2 v3; exact X_none
  | succ n ih =>
    intro v1 v2 v3
    rw [F_X11_countRafts_L6]
    refine X_iload_n (a := 3) dX11_countRafts_6 rfl rfl rfl ?_
    refine X_aload_n (a := 0) dX11_countRafts_7 rfl rfl rfl ?_
    refine X_getR (t := 33) fl_X11_81 rfl rfl dX11_countRafts_8 rfl ?_
    refine X_getI fl_X11_101 rfl dX11_countRafts_11 rfl ?_
    refine X_icmp_ge (tgt := 60) dX11_countRafts_14 rfl rfl (fun e14 => ?_) (fun e14 => ?_)
    · refine X_iload_n (a := 2) dX11_countRafts_60 rfl rfl rfl ?_
      exact X_iretI rfl dX11_countRafts_61
    · refine X_aload_n (a := 0) dX11_countRafts_17 rfl rfl rfl ?_
      refine X_getR (t := 33) fl_X11_81 rfl rfl dX11_countRafts_18 rfl ?_
      refine X_getR (t := 39) fl_X11_111 rfl rfl dX11_countRafts_21 rfl ?_
      refine X_iload_n (a := 3) dX11_countRafts_24 rfl rfl rfl ?_
      refine X_ruI (Ru_V (st := []) cv_X11_209 rfl (c_X3_isStaked G M 39 v3 rfl) (by decide) rfl rfl (Nat.le_of_ble_eq_true rfl) dX11_countRafts_25) rfl (fun r25 => ?_)
      refine X_jc (P := fun j => ∀ (v1 : Int32) (v2 : Int32), X (fI M) G miX11_countRafts (6) 54 [(0, .ref (ga G 0)), (1, .int v1), (2, .int v2), (3, .int v3)] [] M (j v1 v2)) (fun v1 v2 => ?_) (fun j54 hj54 => ?_)
      · refine X_iinc (a := 3) (lv2 := [(3, .int (v3 + 1)), (0, .ref (ga G 0)), (1, .int v1), (2, .int v2)]) dX11_countRafts_54 rfl (ii_1 _) (by decide) rfl rfl ?_
        refine X_goto (tgt := 6) dX11_countRafts_57 rfl ?_
        exact X_lv [1, 2, 3, 0] rfl (ih v1 v2 (v3 + 1))
      refine X_if_ne (tgt := 54) dX11_countRafts_28 rfl rfl (fun e28 => ?_) (fun e28 => ?_)
      · exact X_lv [0, 1, 2, 3] rfl (hj54 v1 v2)
      · refine X_iload_n (a := 1) dX11_countRafts_31 rfl rfl rfl ?_
        refine X_iload_n (a := 3) dX11_countRafts_32 rfl rfl rfl ?_
        refine X_ishr dX11_countRafts_33 rfl ?_
        refine X_iconst (w := 1) dX11_countRafts_34 ki_1 rfl ?_
        refine X_iand dX11_countRafts_35 rfl ?_
        refine X_iconst (w := 1) dX11_countRafts_36 ki_1 rfl ?_
        refine X_icmp_ne (tgt := 43) dX11_countRafts_37 rfl rfl (fun e37 => ?_) (fun e37 => ?_)
        · refine X_iload_n (a := 1) dX11_countRafts_43 rfl rfl rfl ?_
          refine X_aload_n (a := 0) dX11_countRafts_44 rfl rfl rfl ?_
          refine X_iload_n (a := 3) dX11_countRafts_45 rfl rfl rfl ?_
          refine X_ruI (Ru_V (st := [.int v1]) cv_X11_219 rfl (c_X11_raftOf G M v3) (by decide) rfl rfl (Nat.le_of_ble_eq_true rfl) dX11_countRafts_46) rfl (fun r46 => ?_)
          refine X_ior dX11_countRafts_49 rfl ?_
          refine X_istore_n (lv2 := [(1, .int (v1 ||| r46)), (0, .ref (ga G 0)), (2, .int v2), (3, .int v3)]) dX11_countRafts_50 rfl (by decide) rfl rfl ?_
          refine X_iinc (a := 2) (lv2 := [(2, .int (v2 + 1)), (1, .int (v1 ||| r46)), (0, .ref (ga G 0)), (3, .int v3)]) dX11_countRafts_51 rfl (ii_1 _) (by decide) rfl rfl ?_
          exact X_lv [2, 1, 0, 3] rfl (hj54 (v1 ||| r46) (v2 + 1))
        · refine X_goto (tgt := 54) dX11_countRafts_40 rfl ?_
          exact X_lv [0, 1, 2, 3] rfl (hj54 v1 v2)
set_option maxRecDepth 100000 in
theorem c_X11_countRafts (G : Gm) (M : Mm) : Ct (fI M) G miX11_countRafts (6) [.ref (ga G 0)] M (F_X11_countRafts M) := by
  refine Ct_of (pn_X11) (Nat.le_of_ble_eq_true rfl) ?_
  refine X_lv [0] (lv' := [(0, .ref (ga G 0))]) rfl ?_
  unfold F_X11_countRafts
  refine X_iconst (w := 0) dX11_countRafts_0 ki_0 rfl ?_
  refine X_istore_n (lv2 := [(1, .int 0), (0, .ref (ga G 0))]) dX11_countRafts_1 rfl (by decide) rfl rfl ?_
  refine X_iconst (w := 0) dX11_countRafts_2 ki_0 rfl ?_
  refine X_istore_n (lv2 := [(2, .int 0), (1, .int 0), (0, .ref (ga G 0))]) dX11_countRafts_3 rfl (by decide) rfl rfl ?_
  refine X_iconst (w := 0) dX11_countRafts_4 ki_0 rfl ?_
  refine X_istore_n (lv2 := [(3, .int 0), (2, .int 0), (1, .int 0), (0, .ref (ga G 0))]) dX11_countRafts_5 rfl (by decide) rfl rfl ?_
  exact X_lv [3, 2, 1, 0] rfl (x_X11_countRafts_L6 G M 1000 0 0 0)
set_option maxRecDepth 100000 in
theorem c_X11_rafts (G : Gm) (M : Mm) (v1 : Int32) : Ct (fI M) G miX11_rafts (7) [.ref (ga G 0), .int v1] M (F_X11_rafts M v1) := by
  refine Ct_of (pn_X11) (Nat.le_of_ble_eq_true rfl) ?_
  refine X_lv [0, 1] (lv' := [(0, .ref (ga G 0)), (1, .int v1)]) rfl ?_
  unfold F_X11_rafts
  refine X_iload_n (a := 1) dX11_rafts_0 rfl rfl rfl ?_
  refine X_iconst (w := (-1)) dX11_rafts_1 ki_m1 rfl ?_
  refine X_icmp_ne (tgt := 10) dX11_rafts_2 rfl rfl (fun e2 => ?_) (fun e2 => ?_)
  · refine X_aload_n (a := 0) dX11_rafts_10 rfl rfl rfl ?_
    refine X_getR (t := 33) fl_X11_81 rfl rfl dX11_rafts_11 rfl ?_
    refine X_iload_n (a := 1) dX11_rafts_14 rfl rfl rfl ?_
    refine X_ruI (Ru_V (st := []) cv_X11_124 rfl (c_X10_has G M v1) (by decide) rfl rfl (Nat.le_of_ble_eq_true rfl) dX11_rafts_15) rfl (fun r15 => ?_)
    refine X_if_eq (tgt := 29) dX11_rafts_18 rfl rfl (fun e18 => ?_) (fun e18 => ?_)
    · refine X_iconst (w := (-1)) dX11_rafts_29 ki_m1 rfl ?_
      exact X_iretI rfl dX11_rafts_30
    · refine X_aload_n (a := 0) dX11_rafts_21 rfl rfl rfl ?_
      refine X_iload_n (a := 1) dX11_rafts_22 rfl rfl rfl ?_
      refine X_ruI (Ru_V (st := []) cv_X11_219 rfl (c_X11_raftOf G M v1) (by decide) rfl rfl (Nat.le_of_ble_eq_true rfl) dX11_rafts_23) rfl (fun r23 => ?_)
      refine X_goto (tgt := 30) dX11_rafts_26 rfl ?_
      exact X_iretI rfl dX11_rafts_30
  · refine X_aload_n (a := 0) dX11_rafts_5 rfl rfl rfl ?_
    refine X_ruI (Ru_V (st := []) cv_X11_215 rfl (c_X11_countRafts G M) (by decide) rfl rfl (Nat.le_of_ble_eq_true rfl) dX11_rafts_6) rfl (fun r6 => ?_)
    exact X_iretI rfl dX11_rafts_9
set_option maxRecDepth 100000 in
theorem c_X11_best (G : Gm) (M : Mm) (v1 : Int32) : Ct fJ G miX11_best (42) [.ref (ga G 0), .int v1] M (F_X11_best M v1) := by
  refine Ct_of (pn_X11) (Nat.le_of_ble_eq_true rfl) ?_
  refine X_lv [0, 1] (lv' := [(0, .ref (ga G 0)), (1, .int v1)]) rfl ?_
  unfold F_X11_best
  refine X_iload_n (a := 1) dX11_best_0 rfl rfl rfl ?_
  refine X_iconst (w := 0) dX11_best_1 ki_0 rfl ?_
  refine X_iconst (w := 4) dX11_best_2 ki_4 rfl ?_
  refine X_ruI (Ru_S (st := []) cs_X11_97 (c_X11_within G M v1 0 4) (by decide) rfl rfl (Nat.le_of_ble_eq_true rfl) dX11_best_3) rfl (fun r3 => ?_)
  refine X_if_ne (tgt := 11) dX11_best_6 rfl rfl (fun e6 => ?_) (fun e6 => ?_)
  · refine X_aload_n (a := 0) dX11_best_11 rfl rfl rfl ?_
    refine X_getR (t := 75) fl_X11_93 rfl rfl dX11_best_12 rfl ?_
    refine X_iload_n (a := 1) dX11_best_15 rfl rfl rfl ?_
    refine X_iconst (w := 0) dX11_best_16 ki_0 rfl ?_
    refine X_ruV (Ru_V (st := []) cv_X11_222 rfl (c_X5_lookAhead G M v1 0) (by decide) rfl rfl (Nat.le_of_ble_eq_true rfl) dX11_best_17) rfl (fun r17 => ?_)
    refine X_aload_n (a := 0) dX11_best_20 rfl rfl rfl ?_
    refine X_getR (t := 75) fl_X11_93 rfl rfl dX11_best_21 rfl ?_
    refine X_getI fl_X11_226 rfl dX11_best_24 rfl ?_
    exact X_iretJ rfl dX11_best_27
  · refine X_iconst (w := (-1)) dX11_best_9 ki_m1 rfl ?_
    exact X_iretJ rfl dX11_best_10
set_option maxRecDepth 100000 in
theorem c_X11_ith (G : Gm) (M : Mm) (v1 : Int32) (v2 : Int32) : Ct fJ G miX11_ith (42) [.ref (ga G 0), .int v1, .int v2] M (F_X11_ith M v1 v2) := by
  refine Ct_of (pn_X11) (Nat.le_of_ble_eq_true rfl) ?_
  refine X_lv [0, 1, 2] (lv' := [(0, .ref (ga G 0)), (1, .int v1), (2, .int v2)]) rfl ?_
  unfold F_X11_ith
  refine X_iload_n (a := 1) dX11_ith_0 rfl rfl rfl ?_
  refine X_iconst (w := 0) dX11_ith_1 ki_0 rfl ?_
  refine X_iconst (w := 4) dX11_ith_2 ki_4 rfl ?_
  refine X_ruI (Ru_S (st := []) cs_X11_97 (c_X11_within G M v1 0 4) (by decide) rfl rfl (Nat.le_of_ble_eq_true rfl) dX11_ith_3) rfl (fun r3 => ?_)
  refine X_if_eq (tgt := 18) dX11_ith_6 rfl rfl (fun e6 => ?_) (fun e6 => ?_)
  · refine X_iconst (w := (-1)) dX11_ith_18 ki_m1 rfl ?_
    exact X_iretJ rfl dX11_ith_19
  · refine X_iload_n (a := 2) dX11_ith_9 rfl rfl rfl ?_
    refine X_iconst (w := 0) dX11_ith_10 ki_0 rfl ?_
    refine X_iconst (w := 3) dX11_ith_11 ki_3 rfl ?_
    refine X_ruI (Ru_S (st := []) cs_X11_97 (c_X11_within G M v2 0 3) (by decide) rfl rfl (Nat.le_of_ble_eq_true rfl) dX11_ith_12) rfl (fun r12 => ?_)
    refine X_if_ne (tgt := 20) dX11_ith_15 rfl rfl (fun e15 => ?_) (fun e15 => ?_)
    · refine X_iload_n (a := 2) dX11_ith_20 rfl rfl rfl ?_
      refine X_aload_n (a := 0) dX11_ith_21 rfl rfl rfl ?_
      refine X_getR (t := 75) fl_X11_93 rfl rfl dX11_ith_22 rfl ?_
      refine X_iload_n (a := 1) dX11_ith_25 rfl rfl rfl ?_
      refine X_ruI (Ru_V (st := [.int v2]) cv_X11_229 rfl (c_X5_lengthOf G M v1) (by decide) rfl rfl (Nat.le_of_ble_eq_true rfl) dX11_ith_26) rfl (fun r26 => ?_)
      refine X_icmp_lt (tgt := 35) dX11_ith_29 rfl rfl (fun e29 => ?_) (fun e29 => ?_)
      · refine X_aload_n (a := 0) dX11_ith_35 rfl rfl rfl ?_
        refine X_getR (t := 75) fl_X11_93 rfl rfl dX11_ith_36 rfl ?_
        refine X_iload_n (a := 1) dX11_ith_39 rfl rfl rfl ?_
        refine X_iconst (w := 0) dX11_ith_40 ki_0 rfl ?_
        refine X_ruV (Ru_V (st := []) cv_X11_222 rfl (c_X5_lookAhead G M v1 0) (by decide) rfl rfl (Nat.le_of_ble_eq_true rfl) dX11_ith_41) rfl (fun r41 => ?_)
        refine X_aload_n (a := 0) dX11_ith_44 rfl rfl rfl ?_
        refine X_getR (t := 75) fl_X11_93 rfl rfl dX11_ith_45 rfl ?_
        refine X_getR (t := 93) fl_X11_232 rfl rfl dX11_ith_48 rfl ?_
        refine X_iload_n (a := 2) dX11_ith_51 rfl rfl rfl ?_
        refine X_iald rfl rfl dX11_ith_52 rfl ?_
        exact X_iretJ rfl dX11_ith_53
      · refine X_bipush (w := (-3)) dX11_ith_32 kb_m3 rfl ?_
        exact X_iretJ rfl dX11_ith_34
    · refine X_iconst (w := (-1)) dX11_ith_18 ki_m1 rfl ?_
      exact X_iretJ rfl dX11_ith_19
set_option maxRecDepth 100000 in
theorem c_X11_ways (G : Gm) (M : Mm) (v1 : Int32) : Ct fJ G miX11_ways (42) [.ref (ga G 0), .int v1] M (F_X11_ways M v1) := by
  refine Ct_of (pn_X11) (Nat.le_of_ble_eq_true rfl) ?_
  refine X_lv [0, 1] (lv' := [(0, .ref (ga G 0)), (1, .int v1)]) rfl ?_
  unfold F_X11_ways
  refine X_iload_n (a := 1) dX11_ways_0 rfl rfl rfl ?_
  refine X_iconst (w := 0) dX11_ways_1 ki_0 rfl ?_
  refine X_iconst (w := 4) dX11_ways_2 ki_4 rfl ?_
  refine X_ruI (Ru_S (st := []) cs_X11_97 (c_X11_within G M v1 0 4) (by decide) rfl rfl (Nat.le_of_ble_eq_true rfl) dX11_ways_3) rfl (fun r3 => ?_)
  refine X_if_ne (tgt := 11) dX11_ways_6 rfl rfl (fun e6 => ?_) (fun e6 => ?_)
  · refine X_aload_n (a := 0) dX11_ways_11 rfl rfl rfl ?_
    refine X_getR (t := 75) fl_X11_93 rfl rfl dX11_ways_12 rfl ?_
    refine X_iload_n (a := 1) dX11_ways_15 rfl rfl rfl ?_
    refine X_iconst (w := 0) dX11_ways_16 ki_0 rfl ?_
    refine X_ruV (Ru_V (st := []) cv_X11_222 rfl (c_X5_lookAhead G M v1 0) (by decide) rfl rfl (Nat.le_of_ble_eq_true rfl) dX11_ways_17) rfl (fun r17 => ?_)
    refine X_aload_n (a := 0) dX11_ways_20 rfl rfl rfl ?_
    refine X_getR (t := 75) fl_X11_93 rfl rfl dX11_ways_21 rfl ?_
    refine X_getI fl_X11_235 rfl dX11_ways_24 rfl ?_
    exact X_iretJ rfl dX11_ways_27
  · refine X_iconst (w := (-1)) dX11_ways_9 ki_m1 rfl ?_
    exact X_iretJ rfl dX11_ways_10
set_option maxRecDepth 100000 in
theorem c_X11_isSetOfBarrels (G : Gm) (M : Mm) (v1 : Int32) : Ct (fI M) G miX11_isSetOfBarrels (1) [.ref (ga G 0), .int v1] M (F_X11_isSetOfBarrels M v1) := by
  refine Ct_of (pn_X11) (Nat.le_of_ble_eq_true rfl) ?_
  refine X_lv [0, 1] (lv' := [(0, .ref (ga G 0)), (1, .int v1)]) rfl ?_
  unfold F_X11_isSetOfBarrels
  refine X_iload_n (a := 1) dX11_isSetOfBarrels_0 rfl rfl rfl ?_
  refine X_iconst (w := 0) dX11_isSetOfBarrels_1 ki_0 rfl ?_
  refine X_iconst (w := 1) dX11_isSetOfBarrels_2 ki_1 rfl ?_
  refine X_aload_n (a := 0) dX11_isSetOfBarrels_3 rfl rfl rfl ?_
  refine X_getR (t := 33) fl_X11_81 rfl rfl dX11_isSetOfBarrels_4 rfl ?_
  refine X_getI fl_X11_101 rfl dX11_isSetOfBarrels_7 rfl ?_
  refine X_ishl dX11_isSetOfBarrels_10 rfl ?_
  refine X_iconst (w := 1) dX11_isSetOfBarrels_11 ki_1 rfl ?_
  refine X_isub dX11_isSetOfBarrels_12 rfl ?_
  refine X_ruI (Ru_S (st := []) cs_X11_97 (c_X11_within G M v1 0 ((1 <<< ((gi M 33 12) &&& 31)) - 1)) (by decide) rfl rfl (Nat.le_of_ble_eq_true rfl) dX11_isSetOfBarrels_13) rfl (fun r13 => ?_)
  exact X_zretI rfl dX11_isSetOfBarrels_16
set_option maxRecDepth 100000 in
theorem c_X11_chart (G : Gm) (M : Mm) (v1 : Int32) (v2 : Int32) : Ct fJ G miX11_chart (42) [.ref (ga G 0), .int v1, .int v2] M (F_X11_chart M v1 v2) := by
  refine Ct_of (pn_X11) (Nat.le_of_ble_eq_true rfl) ?_
  refine X_lv [0, 1, 2] (lv' := [(0, .ref (ga G 0)), (1, .int v1), (2, .int v2)]) rfl ?_
  unfold F_X11_chart
  refine X_iload_n (a := 1) dX11_chart_0 rfl rfl rfl ?_
  refine X_iconst (w := 0) dX11_chart_1 ki_0 rfl ?_
  refine X_iconst (w := 4) dX11_chart_2 ki_4 rfl ?_
  refine X_ruI (Ru_S (st := []) cs_X11_97 (c_X11_within G M v1 0 4) (by decide) rfl rfl (Nat.le_of_ble_eq_true rfl) dX11_chart_3) rfl (fun r3 => ?_)
  refine X_if_eq (tgt := 17) dX11_chart_6 rfl rfl (fun e6 => ?_) (fun e6 => ?_)
  · refine X_iconst (w := (-1)) dX11_chart_17 ki_m1 rfl ?_
    exact X_iretJ rfl dX11_chart_18
  · refine X_aload_n (a := 0) dX11_chart_9 rfl rfl rfl ?_
    refine X_iload_n (a := 2) dX11_chart_10 rfl rfl rfl ?_
    refine X_ruI (Ru_V (st := []) cv_X11_238 rfl (c_X11_isSetOfBarrels G M v2) (by decide) rfl rfl (Nat.le_of_ble_eq_true rfl) dX11_chart_11) rfl (fun r11 => ?_)
    refine X_if_ne (tgt := 19) dX11_chart_14 rfl rfl (fun e14 => ?_) (fun e14 => ?_)
    · refine X_aload_n (a := 0) dX11_chart_19 rfl rfl rfl ?_
      refine X_getR (t := 75) fl_X11_93 rfl rfl dX11_chart_20 rfl ?_
      refine X_iload_n (a := 1) dX11_chart_23 rfl rfl rfl ?_
      refine X_iload_n (a := 2) dX11_chart_24 rfl rfl rfl ?_
      refine X_ruV (Ru_V (st := []) cv_X11_222 rfl (c_X5_lookAhead G M v1 v2) (by decide) rfl rfl (Nat.le_of_ble_eq_true rfl) dX11_chart_25) rfl (fun r25 => ?_)
      refine X_aload_n (a := 0) dX11_chart_28 rfl rfl rfl ?_
      refine X_getR (t := 75) fl_X11_93 rfl rfl dX11_chart_29 rfl ?_
      refine X_getI fl_X11_241 rfl dX11_chart_32 rfl ?_
      refine X_if_ge (tgt := 43) dX11_chart_35 rfl rfl (fun e35 => ?_) (fun e35 => ?_)
      · refine X_aload_n (a := 0) dX11_chart_43 rfl rfl rfl ?_
        refine X_getR (t := 75) fl_X11_93 rfl rfl dX11_chart_44 rfl ?_
        refine X_getI fl_X11_241 rfl dX11_chart_47 rfl ?_
        exact X_iretJ rfl dX11_chart_50
      · refine X_bipush (w := (-3)) dX11_chart_38 kb_m3 rfl ?_
        refine X_goto (tgt := 50) dX11_chart_40 rfl ?_
        exact X_iretJ rfl dX11_chart_50
    · refine X_iconst (w := (-1)) dX11_chart_17 ki_m1 rfl ?_
      exact X_iretJ rfl dX11_chart_18
set_option maxRecDepth 100000 in
theorem c_J6_numberOfTrailingZeros_0f7a4 (G : Gm) (M : Mm) (v0 : Int32) : Ct (fI M) G miJ6_numberOfTrailingZeros_0f7a4 (0) [.int v0] M (F_J6_numberOfTrailingZeros_0f7a4 v0) := by
  refine Ct_of (pn_J6) (Nat.le_of_ble_eq_true rfl) ?_
  refine X_lv [0] (lv' := [(0, .int v0)]) rfl ?_
  unfold F_J6_numberOfTrailingZeros_0f7a4
  refine X_iload_n (a := 0) dJ6_numberOfTrailingZeros_0f7a4_0 rfl rfl rfl ?_
  refine X_iconst (w := (-1)) dJ6_numberOfTrailingZeros_0f7a4_1 ki_m1 rfl ?_
  refine X_ixor dJ6_numberOfTrailingZeros_0f7a4_2 rfl ?_
  refine X_iload_n (a := 0) dJ6_numberOfTrailingZeros_0f7a4_3 rfl rfl rfl ?_
  refine X_iconst (w := 1) dJ6_numberOfTrailingZeros_0f7a4_4 ki_1 rfl ?_
  refine X_isub dJ6_numberOfTrailingZeros_0f7a4_5 rfl ?_
  refine X_iand dJ6_numberOfTrailingZeros_0f7a4_6 rfl ?_
  refine X_istore_n (lv2 := [(0, .int ((v0 ^^^ (-1)) &&& (v0 - 1)))]) dJ6_numberOfTrailingZeros_0f7a4_7 rfl (by decide) rfl rfl ?_
  refine X_iload_n (a := 0) dJ6_numberOfTrailingZeros_0f7a4_8 rfl rfl rfl ?_
  refine X_if_gt (tgt := 17) dJ6_numberOfTrailingZeros_0f7a4_9 rfl rfl (fun e9 => ?_) (fun e9 => ?_)
  · refine X_iconst (w := 1) dJ6_numberOfTrailingZeros_0f7a4_17 ki_1 rfl ?_
    refine X_istore_n (lv2 := [(1, .int 1), (0, .int ((v0 ^^^ (-1)) &&& (v0 - 1)))]) dJ6_numberOfTrailingZeros_0f7a4_18 rfl (by decide) rfl rfl ?_
    refine X_iload_n (a := 1) dJ6_numberOfTrailingZeros_0f7a4_19 rfl rfl rfl ?_
    refine X_ldcw (w := 65536) dJ6_numberOfTrailingZeros_0f7a4_20 t_878 rfl ?_
    refine X_jc (P := fun j => ∀ (v0 : Int32) (v1 : Int32), X (fI M) G miJ6_numberOfTrailingZeros_0f7a4 (0) 34 [(0, .int v0), (1, .int v1)] [] M (j v0 v1)) (fun v0 v1 => ?_) (fun j34 hj34 => ?_)
    · refine X_iload_n (a := 0) dJ6_numberOfTrailingZeros_0f7a4_34 rfl rfl rfl ?_
      refine X_sipush (w := 256) dJ6_numberOfTrailingZeros_0f7a4_35 ks_256 rfl ?_
      refine X_jc (P := fun j => ∀ (v0 : Int32) (v1 : Int32), X (fI M) G miJ6_numberOfTrailingZeros_0f7a4 (0) 49 [(0, .int v0), (1, .int v1)] [] M (j v0 v1)) (fun v0 v1 => ?_) (fun j49 hj49 => ?_)
      · refine X_iload_n (a := 0) dJ6_numberOfTrailingZeros_0f7a4_49 rfl rfl rfl ?_
        refine X_bipush (w := 16) dJ6_numberOfTrailingZeros_0f7a4_50 kb_16 rfl ?_
        refine X_jc (P := fun j => ∀ (v0 : Int32) (v1 : Int32), X (fI M) G miJ6_numberOfTrailingZeros_0f7a4 (0) 62 [(0, .int v0), (1, .int v1)] [] M (j v0 v1)) (fun v0 v1 => ?_) (fun j62 hj62 => ?_)
        · refine X_iload_n (a := 0) dJ6_numberOfTrailingZeros_0f7a4_62 rfl rfl rfl ?_
          refine X_iconst (w := 4) dJ6_numberOfTrailingZeros_0f7a4_63 ki_4 rfl ?_
          refine X_icmp_le (tgt := 74) dJ6_numberOfTrailingZeros_0f7a4_64 rfl rfl (fun e64 => ?_) (fun e64 => ?_)
          · refine X_iload_n (a := 1) dJ6_numberOfTrailingZeros_0f7a4_74 rfl rfl rfl ?_
            refine X_iload_n (a := 0) dJ6_numberOfTrailingZeros_0f7a4_75 rfl rfl rfl ?_
            refine X_iconst (w := 1) dJ6_numberOfTrailingZeros_0f7a4_76 ki_1 rfl ?_
            refine X_iushr dJ6_numberOfTrailingZeros_0f7a4_77 rfl rfl ?_
            refine X_iadd dJ6_numberOfTrailingZeros_0f7a4_78 rfl ?_
            exact X_iretI rfl dJ6_numberOfTrailingZeros_0f7a4_79
          · refine X_iinc (a := 1) (lv2 := [(1, .int (v1 + 2)), (0, .int v0)]) dJ6_numberOfTrailingZeros_0f7a4_67 rfl (ii_2 _) (by decide) rfl rfl ?_
            refine X_iload_n (a := 1) dJ6_numberOfTrailingZeros_0f7a4_70 rfl rfl rfl ?_
            refine X_iconst (w := 2) dJ6_numberOfTrailingZeros_0f7a4_71 ki_2 rfl ?_
            refine X_iushr dJ6_numberOfTrailingZeros_0f7a4_72 rfl rfl ?_
            refine X_istore_n (lv2 := [(0, .int (us v0 2)), (1, .int (v1 + 2))]) dJ6_numberOfTrailingZeros_0f7a4_73 rfl (by decide) rfl rfl ?_
            refine X_iload_n (a := 1) dJ6_numberOfTrailingZeros_0f7a4_74 rfl rfl rfl ?_
            refine X_iload_n (a := 0) dJ6_numberOfTrailingZeros_0f7a4_75 rfl rfl rfl ?_
            refine X_iconst (w := 1) dJ6_numberOfTrailingZeros_0f7a4_76 ki_1 rfl ?_
            refine X_iushr dJ6_numberOfTrailingZeros_0f7a4_77 rfl rfl ?_
            refine X_iadd dJ6_numberOfTrailingZeros_0f7a4_78 rfl ?_
            exact X_iretI rfl dJ6_numberOfTrailingZeros_0f7a4_79
        refine X_icmp_le (tgt := 62) dJ6_numberOfTrailingZeros_0f7a4_52 rfl rfl (fun e52 => ?_) (fun e52 => ?_)
        · exact X_lv [0, 1] rfl (hj62 v0 v1)
        · refine X_iinc (a := 1) (lv2 := [(1, .int (v1 + 4)), (0, .int v0)]) dJ6_numberOfTrailingZeros_0f7a4_55 rfl (ii_4 _) (by decide) rfl rfl ?_
          refine X_iload_n (a := 1) dJ6_numberOfTrailingZeros_0f7a4_58 rfl rfl rfl ?_
          refine X_iconst (w := 4) dJ6_numberOfTrailingZeros_0f7a4_59 ki_4 rfl ?_
          refine X_iushr dJ6_numberOfTrailingZeros_0f7a4_60 rfl rfl ?_
          refine X_istore_n (lv2 := [(0, .int (us v0 4)), (1, .int (v1 + 4))]) dJ6_numberOfTrailingZeros_0f7a4_61 rfl (by decide) rfl rfl ?_
          exact X_lv [0, 1] rfl (hj62 (us v0 4) (v1 + 4))
      refine X_icmp_le (tgt := 49) dJ6_numberOfTrailingZeros_0f7a4_38 rfl rfl (fun e38 => ?_) (fun e38 => ?_)
      · exact X_lv [0, 1] rfl (hj49 v0 v1)
      · refine X_iinc (a := 1) (lv2 := [(1, .int (v1 + 8)), (0, .int v0)]) dJ6_numberOfTrailingZeros_0f7a4_41 rfl (ii_8 _) (by decide) rfl rfl ?_
        refine X_iload_n (a := 1) dJ6_numberOfTrailingZeros_0f7a4_44 rfl rfl rfl ?_
        refine X_bipush (w := 8) dJ6_numberOfTrailingZeros_0f7a4_45 kb_8 rfl ?_
        refine X_iushr dJ6_numberOfTrailingZeros_0f7a4_47 rfl rfl ?_
        refine X_istore_n (lv2 := [(0, .int (us v0 8)), (1, .int (v1 + 8))]) dJ6_numberOfTrailingZeros_0f7a4_48 rfl (by decide) rfl rfl ?_
        exact X_lv [0, 1] rfl (hj49 (us v0 8) (v1 + 8))
    refine X_icmp_le (tgt := 34) dJ6_numberOfTrailingZeros_0f7a4_23 rfl rfl (fun e23 => ?_) (fun e23 => ?_)
    · exact X_lv [1, 0] rfl (hj34 ((v0 ^^^ (-1)) &&& (v0 - 1)) 1)
    · refine X_iinc (a := 0) (lv2 := [(1, .int (1 + 16)), (0, .int ((v0 ^^^ (-1)) &&& (v0 - 1)))]) dJ6_numberOfTrailingZeros_0f7a4_26 rfl (ii_16 _) (by decide) rfl rfl ?_
      refine X_iload_n (a := 1) dJ6_numberOfTrailingZeros_0f7a4_29 rfl rfl rfl ?_
      refine X_bipush (w := 16) dJ6_numberOfTrailingZeros_0f7a4_30 kb_16 rfl ?_
      refine X_iushr dJ6_numberOfTrailingZeros_0f7a4_32 rfl rfl ?_
      refine X_istore_n (lv2 := [(0, .int (us ((v0 ^^^ (-1)) &&& (v0 - 1)) 16)), (1, .int (1 + 16))]) dJ6_numberOfTrailingZeros_0f7a4_33 rfl (by decide) rfl rfl ?_
      exact X_lv [0, 1] rfl (hj34 (us ((v0 ^^^ (-1)) &&& (v0 - 1)) 16) (1 + 16))
  · refine X_iload_n (a := 0) dJ6_numberOfTrailingZeros_0f7a4_12 rfl rfl rfl ?_
    refine X_bipush (w := 32) dJ6_numberOfTrailingZeros_0f7a4_13 kb_32 rfl ?_
    refine X_iand dJ6_numberOfTrailingZeros_0f7a4_15 rfl ?_
    exact X_iretI rfl dJ6_numberOfTrailingZeros_0f7a4_16
set_option maxRecDepth 100000 in
theorem c_X11_bars (G : Gm) (M : Mm) (v1 : Int32) (v2 : Int32) : Ct fJ G miX11_bars (42) [.ref (ga G 0), .int v1, .int v2] M (F_X11_bars M v1 v2) := by
  refine Ct_of (pn_X11) (Nat.le_of_ble_eq_true rfl) ?_
  refine X_lv [0, 1, 2] (lv' := [(0, .ref (ga G 0)), (1, .int v1), (2, .int v2)]) rfl ?_
  unfold F_X11_bars
  refine X_iload_n (a := 1) dX11_bars_0 rfl rfl rfl ?_
  refine X_iconst (w := 0) dX11_bars_1 ki_0 rfl ?_
  refine X_iconst (w := 4) dX11_bars_2 ki_4 rfl ?_
  refine X_ruI (Ru_S (st := []) cs_X11_97 (c_X11_within G M v1 0 4) (by decide) rfl rfl (Nat.le_of_ble_eq_true rfl) dX11_bars_3) rfl (fun r3 => ?_)
  refine X_if_eq (tgt := 17) dX11_bars_6 rfl rfl (fun e6 => ?_) (fun e6 => ?_)
  · refine X_iconst (w := (-1)) dX11_bars_17 ki_m1 rfl ?_
    exact X_iretJ rfl dX11_bars_18
  · refine X_aload_n (a := 0) dX11_bars_9 rfl rfl rfl ?_
    refine X_iload_n (a := 2) dX11_bars_10 rfl rfl rfl ?_
    refine X_ruI (Ru_V (st := []) cv_X11_238 rfl (c_X11_isSetOfBarrels G M v2) (by decide) rfl rfl (Nat.le_of_ble_eq_true rfl) dX11_bars_11) rfl (fun r11 => ?_)
    refine X_if_ne (tgt := 19) dX11_bars_14 rfl rfl (fun e14 => ?_) (fun e14 => ?_)
    · refine X_aload_n (a := 0) dX11_bars_19 rfl rfl rfl ?_
      refine X_getR (t := 75) fl_X11_93 rfl rfl dX11_bars_20 rfl ?_
      refine X_iload_n (a := 1) dX11_bars_23 rfl rfl rfl ?_
      refine X_iload_n (a := 2) dX11_bars_24 rfl rfl rfl ?_
      refine X_ruV (Ru_V (st := []) cv_X11_222 rfl (c_X5_lookAhead G M v1 v2) (by decide) rfl rfl (Nat.le_of_ble_eq_true rfl) dX11_bars_25) rfl (fun r25 => ?_)
      refine X_iload_n (a := 2) dX11_bars_28 rfl rfl rfl ?_
      refine X_aload_n (a := 0) dX11_bars_29 rfl rfl rfl ?_
      refine X_getR (t := 75) fl_X11_93 rfl rfl dX11_bars_30 rfl ?_
      refine X_getI fl_X11_244 rfl dX11_bars_33 rfl ?_
      refine X_iconst (w := (-1)) dX11_bars_36 ki_m1 rfl ?_
      refine X_ixor dX11_bars_37 rfl ?_
      refine X_iand dX11_bars_38 rfl ?_
      refine X_istore_n (lv2 := [(3, .int (v2 &&& ((gi r25 75 9) ^^^ (-1)))), (0, .ref (ga G 0)), (1, .int v1), (2, .int v2)]) dX11_bars_39 rfl (by decide) rfl rfl ?_
      refine X_iload_n (a := 0) dX11_bars_40 rfl rfl rfl ?_
      refine X_if_ne (tgt := 49) dX11_bars_41 rfl rfl (fun e41 => ?_) (fun e41 => ?_)
      · refine X_iload_n (a := 0) dX11_bars_49 rfl rfl rfl ?_
        refine X_ruI (Ru_S (st := []) cs_X11_247 (c_J6_numberOfTrailingZeros_0f7a4 G r25 (v2 &&& ((gi r25 75 9) ^^^ (-1)))) (by decide) rfl rfl (Nat.le_of_ble_eq_true rfl) dX11_bars_50) rfl (fun r50 => ?_)
        exact X_iretJ rfl dX11_bars_53
      · refine X_bipush (w := (-3)) dX11_bars_44 kb_m3 rfl ?_
        refine X_goto (tgt := 53) dX11_bars_46 rfl ?_
        exact X_iretJ rfl dX11_bars_53
    · refine X_iconst (w := (-1)) dX11_bars_17 ki_m1 rfl ?_
      exact X_iretJ rfl dX11_bars_18
set_option maxRecDepth 100000 in
theorem c_X11_game (G : Gm) (M : Mm) (v1 : Int32) : Ct fJ G miX11_game (42) [.ref (ga G 0), .int v1] M (F_X11_game M v1) := by
  refine Ct_of (pn_X11) (Nat.le_of_ble_eq_true rfl) ?_
  refine X_lv [0, 1] (lv' := [(0, .ref (ga G 0)), (1, .int v1)]) rfl ?_
  unfold F_X11_game
  refine X_iload_n (a := 1) dX11_game_0 rfl rfl rfl ?_
  refine X_iconst (w := 1) dX11_game_1 ki_1 rfl ?_
  refine X_iconst (w := 4) dX11_game_2 ki_4 rfl ?_
  refine X_ruI (Ru_S (st := []) cs_X11_97 (c_X11_within G M v1 1 4) (by decide) rfl rfl (Nat.le_of_ble_eq_true rfl) dX11_game_3) rfl (fun r3 => ?_)
  refine X_if_eq (tgt := 20) dX11_game_6 rfl rfl (fun e6 => ?_) (fun e6 => ?_)
  · refine X_iconst (w := (-1)) dX11_game_20 ki_m1 rfl ?_
    exact X_iretJ rfl dX11_game_21
  · refine X_aload_n (a := 0) dX11_game_9 rfl rfl rfl ?_
    refine X_getR (t := 75) fl_X11_93 rfl rfl dX11_game_10 rfl ?_
    refine X_iload_n (a := 1) dX11_game_13 rfl rfl rfl ?_
    refine X_ruJ (Ru_V (st := []) cv_X11_252 rfl (c_X5_gameOf G M v1) (by decide) rfl rfl (Nat.le_of_ble_eq_true rfl) dX11_game_14) rfl (fun r14 => ?_)
    refine X_goto (tgt := 21) dX11_game_17 rfl ?_
    exact X_iretJ rfl dX11_game_21
set_option maxRecDepth 100000 in
theorem c_X11_play (G : Gm) (M : Mm) (v1 : Int32) : Ct fJ G miX11_play (42) [.ref (ga G 0), .int v1] M (F_X11_play M v1) := by
  refine Ct_of (pn_X11) (Nat.le_of_ble_eq_true rfl) ?_
  refine X_lv [0, 1] (lv' := [(0, .ref (ga G 0)), (1, .int v1)]) rfl ?_
  unfold F_X11_play
  refine X_iload_n (a := 1) dX11_play_0 rfl rfl rfl ?_
  refine X_iconst (w := 1) dX11_play_1 ki_1 rfl ?_
  refine X_iconst (w := 4) dX11_play_2 ki_4 rfl ?_
  refine X_ruI (Ru_S (st := []) cs_X11_97 (c_X11_within G M v1 1 4) (by decide) rfl rfl (Nat.le_of_ble_eq_true rfl) dX11_play_3) rfl (fun r3 => ?_)
  refine X_if_ne (tgt := 11) dX11_play_6 rfl rfl (fun e6 => ?_) (fun e6 => ?_)
  · refine X_aload_n (a := 0) dX11_play_11 rfl rfl rfl ?_
    refine X_getR (t := 33) fl_X11_81 rfl rfl dX11_play_12 rfl ?_
    refine X_aload_n (a := 0) dX11_play_15 rfl rfl rfl ?_
    refine X_getR (t := 33) fl_X11_81 rfl rfl dX11_play_16 rfl ?_
    refine X_getR (t := 39) fl_X11_111 rfl rfl dX11_play_19 rfl ?_
    refine X_ruI (Ru_V (st := []) cv_X11_170 rfl (c_X10_isOver G M 39 rfl) (by decide) rfl rfl (Nat.le_of_ble_eq_true rfl) dX11_play_22) rfl (fun r22 => ?_)
    refine X_if_eq (tgt := 31) dX11_play_25 rfl rfl (fun e25 => ?_) (fun e25 => ?_)
    · refine X_aload_n (a := 0) dX11_play_31 rfl rfl rfl ?_
      refine X_getR (t := 75) fl_X11_93 rfl rfl dX11_play_32 rfl ?_
      refine X_iload_n (a := 1) dX11_play_35 rfl rfl rfl ?_
      refine X_ruJ (Ru_V (st := []) cv_X11_252 rfl (c_X5_gameOf G M v1) (by decide) rfl rfl (Nat.le_of_ble_eq_true rfl) dX11_play_36) rfl (fun r36 => ?_)
      refine X_pop dX11_play_39 rfl rfl ?_
      refine X_aload_n (a := 0) dX11_play_40 rfl rfl rfl ?_
      refine X_getR (t := 75) fl_X11_93 rfl rfl dX11_play_41 rfl ?_
      refine X_getI fl_X11_255 rfl dX11_play_44 rfl ?_
      exact X_iretJ rfl dX11_play_47
    · refine X_bipush (w := (-3)) dX11_play_28 kb_m3 rfl ?_
      exact X_iretJ rfl dX11_play_30
  · refine X_iconst (w := (-1)) dX11_play_9 ki_m1 rfl ?_
    exact X_iretJ rfl dX11_play_10
set_option maxRecDepth 100000 in
theorem c_X11_report (G : Gm) (M : Mm) (v1 : Int32) (v2 : Int32) (v3 : Int32) (v4 : Int32) : Ct fJ G miX11_report (1) [.ref (ga G 0), .int v1, .int v2, .int v3, .int v4] M (F_X11_report M v1 v2 v3 v4) := by
  refine Ct_of (pn_X11) (Nat.le_of_ble_eq_true rfl) ?_
  refine X_lv [0, 1, 2, 3, 4] (lv' := [(0, .ref (ga G 0)), (1, .int v1), (2, .int v2), (3, .int v3), (4, .int v4)]) rfl ?_
  unfold F_X11_report
  refine X_iload_n (a := 1) dX11_report_0 rfl rfl rfl ?_
  refine X_iconst (w := 0) dX11_report_1 ki_0 rfl ?_
  refine X_bipush (w := 15) dX11_report_2 kb_15 rfl ?_
  refine X_ruI (Ru_S (st := []) cs_X11_97 (c_X11_within G M v1 0 15) (by decide) rfl rfl (Nat.le_of_ble_eq_true rfl) dX11_report_4) rfl (fun r4 => ?_)
  refine X_if_eq (tgt := 19) dX11_report_7 rfl rfl (fun e7 => ?_) (fun e7 => ?_)
  · refine X_iconst (w := (-1)) dX11_report_19 ki_m1 rfl ?_
    exact X_iretJ rfl dX11_report_20
  · refine X_iload_n (a := 2) dX11_report_10 rfl rfl rfl ?_
    refine X_iconst (w := 0) dX11_report_11 ki_0 rfl ?_
    refine X_iconst (w := 1) dX11_report_12 ki_1 rfl ?_
    refine X_ruI (Ru_S (st := []) cs_X11_97 (c_X11_within G M v2 0 1) (by decide) rfl rfl (Nat.le_of_ble_eq_true rfl) dX11_report_13) rfl (fun r13 => ?_)
    refine X_if_ne (tgt := 21) dX11_report_16 rfl rfl (fun e16 => ?_) (fun e16 => ?_)
    · refine X_iload_n (a := 2) dX11_report_21 rfl rfl rfl ?_
      refine X_jc (P := fun j => ∀ (x32_0 : Int32), X fJ G miX11_report (1) 32 [(0, .ref (ga G 0)), (1, .int v1), (2, .int v2), (3, .int v3), (4, .int v4)] [.int x32_0] M (j x32_0)) (fun x32_0 => ?_) (fun j32 hj32 => ?_)
      · refine X_istore (lv2 := [(5, .int x32_0), (0, .ref (ga G 0)), (1, .int v1), (2, .int v2), (3, .int v3), (4, .int v4)]) dX11_report_32 (by decide) rfl rfl ?_
        refine X_iload_n (a := 4) dX11_report_34 rfl rfl rfl ?_
        refine X_iconst (w := 0) dX11_report_35 ki_0 rfl ?_
        refine X_iload (a := 0) dX11_report_36 rfl rfl ?_
        refine X_ruI (Ru_S (st := []) cs_X11_97 (c_X11_within G M v3 0 x32_0) (by decide) rfl rfl (Nat.le_of_ble_eq_true rfl) dX11_report_38) rfl (fun r38 => ?_)
        refine X_if_eq (tgt := 55) dX11_report_41 rfl rfl (fun e41 => ?_) (fun e41 => ?_)
        · refine X_iconst (w := (-1)) dX11_report_55 ki_m1 rfl ?_
          exact X_iretJ rfl dX11_report_56
        · refine X_iload (a := 5) dX11_report_44 rfl rfl ?_
          refine X_iload_n (a := 4) dX11_report_46 rfl rfl rfl ?_
          refine X_iload (a := 0) dX11_report_47 rfl rfl ?_
          refine X_ruI (Ru_S (st := []) cs_X11_97 (c_X11_within G M v4 v3 x32_0) (by decide) rfl rfl (Nat.le_of_ble_eq_true rfl) dX11_report_49) rfl (fun r49 => ?_)
          refine X_if_ne (tgt := 57) dX11_report_52 rfl rfl (fun e52 => ?_) (fun e52 => ?_)
          · refine X_aload_n (a := 1) dX11_report_57 rfl rfl rfl ?_
            refine X_getR (t := 33) fl_X11_81 rfl rfl dX11_report_58 rfl ?_
            refine X_getI fl_X11_258 rfl dX11_report_61 rfl ?_
            refine X_bipush (w := 6) dX11_report_64 kb_6 rfl ?_
            refine X_icmp_lt (tgt := 72) dX11_report_66 rfl rfl (fun e66 => ?_) (fun e66 => ?_)
            · refine X_aload_n (a := 1) dX11_report_72 rfl rfl rfl ?_
              refine X_getR (t := 33) fl_X11_81 rfl rfl dX11_report_73 rfl ?_
              refine X_getI fl_X11_258 rfl dX11_report_76 rfl ?_
              refine X_istore (lv2 := [(6, .int (gi M 33 15)), (5, .int x32_0), (0, .ref (ga G 0)), (1, .int v1), (2, .int v2), (3, .int v3), (4, .int v4)]) dX11_report_79 (by decide) rfl rfl ?_
              refine X_aload_n (a := 2) dX11_report_81 rfl rfl rfl ?_
              refine X_getR (t := 33) fl_X11_81 rfl rfl dX11_report_82 rfl ?_
              refine X_dup dX11_report_85 rfl rfl ?_
              refine X_getI fl_X11_258 rfl dX11_report_86 rfl ?_
              refine X_iconst (w := 1) dX11_report_89 ki_1 rfl ?_
              refine X_iadd dX11_report_90 rfl ?_
              refine X_putI fp_X11_258 rfl dX11_report_91 rfl ?_
              refine X_aload_n (a := 2) dX11_report_94 rfl rfl rfl ?_
              refine X_getR (t := 33) fl_X11_81 rfl rfl dX11_report_95 rfl ?_
              refine X_getR (t := 50) fl_X11_261 rfl rfl dX11_report_98 rfl ?_
              refine X_iload (a := 0) dX11_report_101 rfl rfl ?_
              refine X_iload_n (a := 3) dX11_report_103 rfl rfl rfl ?_
              refine X_iast rfl rfl dX11_report_104 rfl ?_
              refine X_aload_n (a := 2) dX11_report_105 rfl rfl rfl ?_
              refine X_getR (t := 33) fl_X11_81 rfl rfl dX11_report_106 rfl ?_
              refine X_getR (t := 51) fl_X11_264 rfl rfl dX11_report_109 rfl ?_
              refine X_iload (a := 0) dX11_report_112 rfl rfl ?_
              refine X_iload_n (a := 4) dX11_report_114 rfl rfl rfl ?_
              refine X_iast rfl rfl dX11_report_115 rfl ?_
              refine X_aload_n (a := 2) dX11_report_116 rfl rfl rfl ?_
              refine X_getR (t := 33) fl_X11_81 rfl rfl dX11_report_117 rfl ?_
              refine X_getR (t := 52) fl_X11_267 rfl rfl dX11_report_120 rfl ?_
              refine X_iload (a := 0) dX11_report_123 rfl rfl ?_
              refine X_iload_n (a := 5) dX11_report_125 rfl rfl rfl ?_
              refine X_iast rfl rfl dX11_report_126 rfl ?_
              refine X_aload_n (a := 2) dX11_report_127 rfl rfl rfl ?_
              refine X_getR (t := 33) fl_X11_81 rfl rfl dX11_report_128 rfl ?_
              refine X_getR (t := 53) fl_X11_270 rfl rfl dX11_report_131 rfl ?_
              refine X_iload (a := 0) dX11_report_134 rfl rfl ?_
              refine X_iload (a := 6) dX11_report_136 rfl rfl ?_
              refine X_iast rfl rfl dX11_report_138 rfl ?_
              refine X_iload (a := 0) dX11_report_139 rfl rfl ?_
              exact X_iretJ rfl dX11_report_141
            · refine X_bipush (w := (-2)) dX11_report_69 kb_m2 rfl ?_
              exact X_iretJ rfl dX11_report_71
          · refine X_iconst (w := (-1)) dX11_report_55 ki_m1 rfl ?_
            exact X_iretJ rfl dX11_report_56
      refine X_if_ne (tgt := 30) dX11_report_22 rfl rfl (fun e22 => ?_) (fun e22 => ?_)
      · refine X_bipush (w := 16) dX11_report_30 kb_16 rfl ?_
        exact X_lv [0, 1, 2, 3, 4] rfl (hj32 16)
      · refine X_bipush (w := 99) dX11_report_25 kb_99 rfl ?_
        refine X_goto (tgt := 32) dX11_report_27 rfl ?_
        exact X_lv [0, 1, 2, 3, 4] rfl (hj32 99)
    · refine X_iconst (w := (-1)) dX11_report_19 ki_m1 rfl ?_
      exact X_iretJ rfl dX11_report_20

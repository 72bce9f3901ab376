def W_X10_init (K : Nat → ClassId) (a : Nat) (nt : Nat) (u : Nat → Nat) (g0 : Nat → Int32) : va_W := [(a, .inr (10, [.ref nt, .ref (u 0), .ref (u 1), .ref (u 2), .ref (u 3), .ref (u 4), .ref (u 5), .ref (u 8), .ref (u 16), .ref (u 17), .ref (u 18), .ref (u 19), .int 0, .int 12, .int 0, .int 0, .int 1])), ((u 0), .inl (K 0, 6, .inl (fun _ => 0))), ((u 1), .inl (K 0, 6, .inl (fun _ => 0))), ((u 2), .inl (K 0, 16, .inl (g0))), ((u 3), .inl (K 0, 6, .inl (fun _ => 0))), ((u 4), .inl (K 0, 6, .inl (fun _ => 0))), ((u 5), .inr (3, [.ref (u 6), .ref (u 7), .int 0, .int 0])), ((u 6), .inl (K 0, 6, .inl (fun _ => 0))), ((u 7), .inl (K 0, 6, .inl (fun _ => 0))), ((u 8), .inr (6, [.int 0, .ref (u 9), .ref (u 10), .ref (u 11), .ref (u 12), .int 0, .ref (u 13), .ref (u 14), .ref (u 15), .int 0, .int 0])), ((u 9), .inl (K 0, 8, .inl (fun _ => 0))), ((u 10), .inl (K 0, 8, .inl (fun _ => 0))), ((u 11), .inl (K 0, 9, .inl (fun _ => 0))), ((u 12), .inl (K 0, 200, .inl (fun _ => 0))), ((u 13), .inl (K 0, 5, .inl (fun _ => 0))), ((u 14), .inl (K 0, 201, .inl (fun _ => 0))), ((u 15), .inl (K 0, 201, .inl (fun _ => 0))), ((u 16), .inl (K 0, 6, .inl (fun _ => 0))), ((u 17), .inl (K 0, 6, .inl (fun _ => 0))), ((u 18), .inl (K 0, 6, .inl (fun _ => 0))), ((u 19), .inl (K 0, 6, .inl (fun _ => 0)))]
set_option maxRecDepth 100000 in
set_option maxHeartbeats 4000000 in
theorem n_X10_init (l : Launch) (D : va_G) (K : Nat → ClassId) (a : Nat) (nt : Nat) : CtN l D K miX10_init 2 20 723 [.ref a, .ref nt] [(a, .inr (10, [.null, .null, .null, .null, .null, .null, .null, .null, .null, .null, .null, .null, .int 0, .int 0, .int 0, .int 0, .int 0]))] (fun w => ∃ (u : Nat → Nat) (g0 : Nat → Int32), w = W_X10_init K a nt u g0 ∧ (∀ j, j < 16 → g0 j = 9)) := by
  refine CtN_of (pn_X10) (Nat.le_of_ble_eq_true rfl) (fun sz => ?_)
  refine XN_lv [0, 1] (lv' := [(0, .ref a), (1, .ref nt)]) rfl ?_
  refine XN_aload_n (a := 0) dX10_init_0 rfl rfl rfl ?_
  refine XN_objInit of_X10_3 (by decide) (by decide) dX10_init_1 rfl ?_
  refine XN_aload_n (a := 0) dX10_init_4 rfl rfl rfl ?_
  refine XN_bipush (w := 6) dX10_init_5 kb_6 rfl ?_
  refine XN_newi (N := 6) (by decide) (by decide) (by decide) (by decide) (by decide) t_149 dX10_init_7 rfl (fun q7 => ?_)
  refine XN_putF (i := 0) (fs := [.null, .null, .null, .null, .null, .null, .null, .null, .null, .null, .null, .null, .int 0, .int 0, .int 0, .int 0, .int 0]) ff_X10_9 rfl rfl (Nat.le_of_ble_eq_true rfl) rfl rfl dX10_init_9 rfl ?_
  refine XN_aload_n (a := 0) dX10_init_12 rfl rfl rfl ?_
  refine XN_bipush (w := 6) dX10_init_13 kb_6 rfl ?_
  refine XN_newi (N := 6) (by decide) (by decide) (by decide) (by decide) (by decide) t_149 dX10_init_15 rfl (fun q15 => ?_)
  refine XN_putF (i := 0) (fs := [.null, .ref q7, .null, .null, .null, .null, .null, .null, .null, .null, .null, .null, .int 0, .int 0, .int 0, .int 0, .int 0]) ff_X10_15 rfl rfl (Nat.le_of_ble_eq_true rfl) rfl rfl dX10_init_17 rfl ?_
  refine XN_aload_n (a := 0) dX10_init_20 rfl rfl rfl ?_
  refine XN_bipush (w := 16) dX10_init_21 kb_16 rfl ?_
  refine XN_newi (N := 16) (by decide) (by decide) (by decide) (by decide) (by decide) t_149 dX10_init_23 rfl (fun q23 => ?_)
  refine XN_dup dX10_init_25 rfl rfl ?_
  refine XN_iconst (w := 0) dX10_init_26 ki_0 rfl ?_
  refine XN_bipush (w := 9) dX10_init_27 kb_9 rfl ?_
  refine XN_iastK (i := 3) (n := 16) (m := 0) rfl rfl (by unfold vp_in; decide) (fun j hj => absurd hj (Nat.not_lt_zero j)) dX10_init_29 rfl (fun z29 hz29 => ?_)
  refine XN_dup dX10_init_30 rfl rfl ?_
  refine XN_iconst (w := 1) dX10_init_31 ki_1 rfl ?_
  refine XN_bipush (w := 9) dX10_init_32 kb_9 rfl ?_
  refine XN_iastK (i := 3) (n := 16) (m := 1) rfl rfl (by unfold vp_in; decide) hz29 dX10_init_34 rfl (fun z34 hz34 => ?_)
  refine XN_dup dX10_init_35 rfl rfl ?_
  refine XN_iconst (w := 2) dX10_init_36 ki_2 rfl ?_
  refine XN_bipush (w := 9) dX10_init_37 kb_9 rfl ?_
  refine XN_iastK (i := 3) (n := 16) (m := 2) rfl rfl (by unfold vp_in; decide) hz34 dX10_init_39 rfl (fun z39 hz39 => ?_)
  refine XN_dup dX10_init_40 rfl rfl ?_
  refine XN_iconst (w := 3) dX10_init_41 ki_3 rfl ?_
  refine XN_bipush (w := 9) dX10_init_42 kb_9 rfl ?_
  refine XN_iastK (i := 3) (n := 16) (m := 3) rfl rfl (by unfold vp_in; decide) hz39 dX10_init_44 rfl (fun z44 hz44 => ?_)
  refine XN_dup dX10_init_45 rfl rfl ?_
  refine XN_iconst (w := 4) dX10_init_46 ki_4 rfl ?_
  refine XN_bipush (w := 9) dX10_init_47 kb_9 rfl ?_
  refine XN_iastK (i := 3) (n := 16) (m := 4) rfl rfl (by unfold vp_in; decide) hz44 dX10_init_49 rfl (fun z49 hz49 => ?_)
  refine XN_dup dX10_init_50 rfl rfl ?_
  refine XN_iconst (w := 5) dX10_init_51 ki_5 rfl ?_
  refine XN_bipush (w := 9) dX10_init_52 kb_9 rfl ?_
  refine XN_iastK (i := 3) (n := 16) (m := 5) rfl rfl (by unfold vp_in; decide) hz49 dX10_init_54 rfl (fun z54 hz54 => ?_)
  refine XN_dup dX10_init_55 rfl rfl ?_
  refine XN_bipush (w := 6) dX10_init_56 kb_6 rfl ?_
  refine XN_bipush (w := 9) dX10_init_58 kb_9 rfl ?_
  refine XN_iastK (i := 3) (n := 16) (m := 6) rfl rfl (by unfold vp_in; decide) hz54 dX10_init_60 rfl (fun z60 hz60 => ?_)
  refine XN_dup dX10_init_61 rfl rfl ?_
  refine XN_bipush (w := 7) dX10_init_62 kb_7 rfl ?_
  refine XN_bipush (w := 9) dX10_init_64 kb_9 rfl ?_
  refine XN_iastK (i := 3) (n := 16) (m := 7) rfl rfl (by unfold vp_in; decide) hz60 dX10_init_66 rfl (fun z66 hz66 => ?_)
  refine XN_dup dX10_init_67 rfl rfl ?_
  refine XN_bipush (w := 8) dX10_init_68 kb_8 rfl ?_
  refine XN_bipush (w := 9) dX10_init_70 kb_9 rfl ?_
  refine XN_iastK (i := 3) (n := 16) (m := 8) rfl rfl (by unfold vp_in; decide) hz66 dX10_init_72 rfl (fun z72 hz72 => ?_)
  refine XN_dup dX10_init_73 rfl rfl ?_
  refine XN_bipush (w := 9) dX10_init_74 kb_9 rfl ?_
  refine XN_bipush (w := 9) dX10_init_76 kb_9 rfl ?_
  refine XN_iastK (i := 3) (n := 16) (m := 9) rfl rfl (by unfold vp_in; decide) hz72 dX10_init_78 rfl (fun z78 hz78 => ?_)
  refine XN_dup dX10_init_79 rfl rfl ?_
  refine XN_bipush (w := 10) dX10_init_80 kb_10 rfl ?_
  refine XN_bipush (w := 9) dX10_init_82 kb_9 rfl ?_
  refine XN_iastK (i := 3) (n := 16) (m := 10) rfl rfl (by unfold vp_in; decide) hz78 dX10_init_84 rfl (fun z84 hz84 => ?_)
  refine XN_dup dX10_init_85 rfl rfl ?_
  refine XN_bipush (w := 11) dX10_init_86 kb_11 rfl ?_
  refine XN_bipush (w := 9) dX10_init_88 kb_9 rfl ?_
  refine XN_iastK (i := 3) (n := 16) (m := 11) rfl rfl (by unfold vp_in; decide) hz84 dX10_init_90 rfl (fun z90 hz90 => ?_)
  refine XN_dup dX10_init_91 rfl rfl ?_
  refine XN_bipush (w := 12) dX10_init_92 kb_12 rfl ?_
  refine XN_bipush (w := 9) dX10_init_94 kb_9 rfl ?_
  refine XN_iastK (i := 3) (n := 16) (m := 12) rfl rfl (by unfold vp_in; decide) hz90 dX10_init_96 rfl (fun z96 hz96 => ?_)
  refine XN_dup dX10_init_97 rfl rfl ?_
  refine XN_bipush (w := 13) dX10_init_98 kb_13 rfl ?_
  refine XN_bipush (w := 9) dX10_init_100 kb_9 rfl ?_
  refine XN_iastK (i := 3) (n := 16) (m := 13) rfl rfl (by unfold vp_in; decide) hz96 dX10_init_102 rfl (fun z102 hz102 => ?_)
  refine XN_dup dX10_init_103 rfl rfl ?_
  refine XN_bipush (w := 14) dX10_init_104 kb_14 rfl ?_
  refine XN_bipush (w := 9) dX10_init_106 kb_9 rfl ?_
  refine XN_iastK (i := 3) (n := 16) (m := 14) rfl rfl (by unfold vp_in; decide) hz102 dX10_init_108 rfl (fun z108 hz108 => ?_)
  refine XN_dup dX10_init_109 rfl rfl ?_
  refine XN_bipush (w := 15) dX10_init_110 kb_15 rfl ?_
  refine XN_bipush (w := 9) dX10_init_112 kb_9 rfl ?_
  refine XN_iastK (i := 3) (n := 16) (m := 15) rfl rfl (by unfold vp_in; decide) hz108 dX10_init_114 rfl (fun z114 hz114 => ?_)
  refine XN_putF (i := 0) (fs := [.null, .ref q7, .ref q15, .null, .null, .null, .null, .null, .null, .null, .null, .null, .int 0, .int 0, .int 0, .int 0, .int 0]) ff_X10_18 rfl rfl (Nat.le_of_ble_eq_true rfl) rfl rfl dX10_init_115 rfl ?_
  refine XN_aload_n (a := 0) dX10_init_118 rfl rfl rfl ?_
  refine XN_bipush (w := 6) dX10_init_119 kb_6 rfl ?_
  refine XN_newi (N := 6) (by decide) (by decide) (by decide) (by decide) (by decide) t_149 dX10_init_121 rfl (fun q121 => ?_)
  refine XN_putF (i := 0) (fs := [.null, .ref q7, .ref q15, .ref q23, .null, .null, .null, .null, .null, .null, .null, .null, .int 0, .int 0, .int 0, .int 0, .int 0]) ff_X10_21 rfl rfl (Nat.le_of_ble_eq_true rfl) rfl rfl dX10_init_123 rfl ?_
  refine XN_aload_n (a := 0) dX10_init_126 rfl rfl rfl ?_
  refine XN_bipush (w := 6) dX10_init_127 kb_6 rfl ?_
  refine XN_newi (N := 6) (by decide) (by decide) (by decide) (by decide) (by decide) t_149 dX10_init_129 rfl (fun q129 => ?_)
  refine XN_putF (i := 0) (fs := [.null, .ref q7, .ref q15, .ref q23, .ref q121, .null, .null, .null, .null, .null, .null, .null, .int 0, .int 0, .int 0, .int 0, .int 0]) ff_X10_24 rfl rfl (Nat.le_of_ble_eq_true rfl) rfl rfl dX10_init_131 rfl ?_
  refine XN_aload_n (a := 0) dX10_init_134 rfl rfl rfl ?_
  refine XN_new nf_X10_27 (by decide) (by decide) dX10_init_135 rfl (fun q135 => ?_)
  refine XN_dup dX10_init_138 rfl rfl ?_
  refine XN_callI (st := [.ref q135, .ref a]) (av := []) rfl cn_X10_29 (n_X3_init l D K q135) (by decide) rfl rfl (Nat.le_of_ble_eq_true rfl) (by decide) (by decide) dX10_init_139 rfl (fun w139 hw139 => ?_)
  obtain ⟨u139, rfl⟩ := hw139
  refine XN_putF (i := 0) (fs := [.null, .ref q7, .ref q15, .ref q23, .ref q121, .ref q129, .null, .null, .null, .null, .null, .null, .int 0, .int 0, .int 0, .int 0, .int 0]) ff_X10_30 rfl rfl (Nat.le_of_ble_eq_true rfl) rfl rfl dX10_init_142 rfl ?_
  refine XN_aload_n (a := 0) dX10_init_145 rfl rfl rfl ?_
  refine XN_new nf_X10_34 (by decide) (by decide) dX10_init_146 rfl (fun q146 => ?_)
  refine XN_dup dX10_init_149 rfl rfl ?_
  refine XN_callI (st := [.ref q146, .ref a]) (av := []) rfl cn_X10_36 (n_X6_init l D K q146) (by decide) rfl rfl (Nat.le_of_ble_eq_true rfl) (by decide) (by decide) dX10_init_150 rfl (fun w150 hw150 => ?_)
  obtain ⟨u150, rfl⟩ := hw150
  refine XN_putF (i := 0) (fs := [.null, .ref q7, .ref q15, .ref q23, .ref q121, .ref q129, .ref q135, .null, .null, .null, .null, .null, .int 0, .int 0, .int 0, .int 0, .int 0]) ff_X10_37 rfl rfl (Nat.le_of_ble_eq_true rfl) rfl rfl dX10_init_153 rfl ?_
  refine XN_aload_n (a := 0) dX10_init_156 rfl rfl rfl ?_
  refine XN_bipush (w := 6) dX10_init_157 kb_6 rfl ?_
  refine XN_newi (N := 6) (by decide) (by decide) (by decide) (by decide) (by decide) t_149 dX10_init_159 rfl (fun q159 => ?_)
  refine XN_putF (i := 0) (fs := [.null, .ref q7, .ref q15, .ref q23, .ref q121, .ref q129, .ref q135, .ref q146, .null, .null, .null, .null, .int 0, .int 0, .int 0, .int 0, .int 0]) ff_X10_41 rfl rfl (Nat.le_of_ble_eq_true rfl) rfl rfl dX10_init_161 rfl ?_
  refine XN_aload_n (a := 0) dX10_init_164 rfl rfl rfl ?_
  refine XN_bipush (w := 6) dX10_init_165 kb_6 rfl ?_
  refine XN_newi (N := 6) (by decide) (by decide) (by decide) (by decide) (by decide) t_149 dX10_init_167 rfl (fun q167 => ?_)
  refine XN_putF (i := 0) (fs := [.null, .ref q7, .ref q15, .ref q23, .ref q121, .ref q129, .ref q135, .ref q146, .ref q159, .null, .null, .null, .int 0, .int 0, .int 0, .int 0, .int 0]) ff_X10_44 rfl rfl (Nat.le_of_ble_eq_true rfl) rfl rfl dX10_init_169 rfl ?_
  refine XN_aload_n (a := 0) dX10_init_172 rfl rfl rfl ?_
  refine XN_bipush (w := 6) dX10_init_173 kb_6 rfl ?_
  refine XN_newi (N := 6) (by decide) (by decide) (by decide) (by decide) (by decide) t_149 dX10_init_175 rfl (fun q175 => ?_)
  refine XN_putF (i := 0) (fs := [.null, .ref q7, .ref q15, .ref q23, .ref q121, .ref q129, .ref q135, .ref q146, .ref q159, .ref q167, .null, .null, .int 0, .int 0, .int 0, .int 0, .int 0]) ff_X10_47 rfl rfl (Nat.le_of_ble_eq_true rfl) rfl rfl dX10_init_177 rfl ?_
  refine XN_aload_n (a := 0) dX10_init_180 rfl rfl rfl ?_
  refine XN_bipush (w := 6) dX10_init_181 kb_6 rfl ?_
  refine XN_newi (N := 6) (by decide) (by decide) (by decide) (by decide) (by decide) t_149 dX10_init_183 rfl (fun q183 => ?_)
  refine XN_putF (i := 0) (fs := [.null, .ref q7, .ref q15, .ref q23, .ref q121, .ref q129, .ref q135, .ref q146, .ref q159, .ref q167, .ref q175, .null, .int 0, .int 0, .int 0, .int 0, .int 0]) ff_X10_50 rfl rfl (Nat.le_of_ble_eq_true rfl) rfl rfl dX10_init_185 rfl ?_
  refine XN_aload_n (a := 0) dX10_init_188 rfl rfl rfl ?_
  refine XN_bipush (w := 12) dX10_init_189 kb_12 rfl ?_
  refine XN_putI (i := 0) (fs := [.null, .ref q7, .ref q15, .ref q23, .ref q121, .ref q129, .ref q135, .ref q146, .ref q159, .ref q167, .ref q175, .ref q183, .int 0, .int 0, .int 0, .int 0, .int 0]) fp_X10_53 rfl (Nat.le_of_ble_eq_true rfl) dX10_init_191 rfl ?_
  refine XN_aload_n (a := 0) dX10_init_194 rfl rfl rfl ?_
  refine XN_iconst (w := 1) dX10_init_195 ki_1 rfl ?_
  refine XN_putI (i := 0) (fs := [.null, .ref q7, .ref q15, .ref q23, .ref q121, .ref q129, .ref q135, .ref q146, .ref q159, .ref q167, .ref q175, .ref q183, .int 0, .int 12, .int 0, .int 0, .int 0]) fp_X10_57 rfl (Nat.le_of_ble_eq_true rfl) dX10_init_196 rfl ?_
  refine XN_aload_n (a := 0) dX10_init_199 rfl rfl rfl ?_
  refine XN_aload_n (a := 1) dX10_init_200 rfl rfl rfl ?_
  refine XN_putF (i := 0) (fs := [.null, .ref q7, .ref q15, .ref q23, .ref q121, .ref q129, .ref q135, .ref q146, .ref q159, .ref q167, .ref q175, .ref q183, .int 0, .int 12, .int 0, .int 0, .int 1]) ff_X10_60 rfl rfl (Nat.le_of_ble_eq_true rfl) rfl rfl dX10_init_201 rfl ?_
  exact XN_vret rfl ⟨fun i => ([q7, q15, q23, q121, q129, q135, (u139 0), (u139 1), q146, (u150 0), (u150 1), (u150 2), (u150 3), (u150 4), (u150 5), (u150 6), q159, q167, q175, q183] : List Nat).getD i 0, z114, rfl, hz114⟩ (by decide) (by decide) dX10_init_204
def W_X5_init (K : Nat → ClassId) (a : Nat) (vt : Nat) (u : Nat → Nat) (g0 : Nat → Option Nat) : va_W := [(a, .inr (5, [.ref vt, .ref (u 0), .ref (u 16), .int 0, .int 0, .ref (u 17), .int 0, .int 0, .int 0, .int 0, .int 0])), ((u 0), .inl (K 2, 5, .inr (.inr (.inr (.inr (g0)))))), ((u 1), .inr (3, [.ref (u 2), .ref (u 3), .int 0, .int 0])), ((u 2), .inl (K 0, 6, .inl (fun _ => 0))), ((u 3), .inl (K 0, 6, .inl (fun _ => 0))), ((u 4), .inr (3, [.ref (u 5), .ref (u 6), .int 0, .int 0])), ((u 5), .inl (K 0, 6, .inl (fun _ => 0))), ((u 6), .inl (K 0, 6, .inl (fun _ => 0))), ((u 7), .inr (3, [.ref (u 8), .ref (u 9), .int 0, .int 0])), ((u 8), .inl (K 0, 6, .inl (fun _ => 0))), ((u 9), .inl (K 0, 6, .inl (fun _ => 0))), ((u 10), .inr (3, [.ref (u 11), .ref (u 12), .int 0, .int 0])), ((u 11), .inl (K 0, 6, .inl (fun _ => 0))), ((u 12), .inl (K 0, 6, .inl (fun _ => 0))), ((u 13), .inr (3, [.ref (u 14), .ref (u 15), .int 0, .int 0])), ((u 14), .inl (K 0, 6, .inl (fun _ => 0))), ((u 15), .inl (K 0, 6, .inl (fun _ => 0))), ((u 16), .inl (K 0, 4, .inl (fun _ => 0))), ((u 17), .inl (K 0, 4, .inl (fun _ => 0)))]
set_option maxRecDepth 100000 in
set_option maxHeartbeats 4000000 in
theorem n_X5_init (l : Launch) (D : va_G) (K : Nat → ClassId) (a : Nat) (vt : Nat) : CtN l D K miX5_init 2 18 93 [.ref a, .ref vt] [(a, .inr (5, [.null, .null, .null, .int 0, .int 0, .null, .int 0, .int 0, .int 0, .int 0, .int 0]))] (fun w => ∃ (u : Nat → Nat) (g0 : Nat → Option Nat), w = W_X5_init K a vt u g0 ∧ (g0 0 = some (u 1) ∧ g0 1 = some (u 4) ∧ g0 2 = some (u 7) ∧ g0 3 = some (u 10) ∧ g0 4 = some (u 13))) := by
  refine CtN_of (pn_X5) (Nat.le_of_ble_eq_true rfl) (fun sz => ?_)
  refine XN_lv [0, 1] (lv' := [(0, .ref a), (1, .ref vt)]) rfl ?_
  refine XN_aload_n (a := 0) dX5_init_0 rfl rfl rfl ?_
  refine XN_objInit of_X5_3 (by decide) (by decide) dX5_init_1 rfl ?_
  refine XN_aload_n (a := 0) dX5_init_4 rfl rfl rfl ?_
  refine XN_iconst (w := 5) dX5_init_5 ki_5 rfl ?_
  refine XN_newq (N := 5) (t := 2) (E := RX3) rfl (Or.inl rfl) (by decide) (by decide) (by decide) (by decide) (by decide) t_355 dX5_init_6 rfl (fun q6 => ?_)
  refine XN_dup dX5_init_9 rfl rfl ?_
  refine XN_iconst (w := 0) dX5_init_10 ki_0 rfl ?_
  refine XN_new nf_X5_9 (by decide) (by decide) dX5_init_11 rfl (fun q11 => ?_)
  refine XN_dup dX5_init_14 rfl rfl ?_
  refine XN_callI (st := [.ref q11, .int 0, .ref q6, .ref q6, .ref a]) (av := []) rfl cn_X5_11 (n_X3_init l D K q11) (by decide) rfl rfl (Nat.le_of_ble_eq_true rfl) (by decide) (by decide) dX5_init_15 rfl (fun w15 hw15 => ?_)
  obtain ⟨u15, rfl⟩ := hw15
  refine XN_astqK (i := 1) (i2 := 2) (n := 5) (m := 0) (t := 2) (E := RX3) (ci := 3) (fs := [.ref (u15 0), .ref (u15 1), .int 0, .int 0]) rfl rfl rfl rfl (Or.inl rfl) rfl (by unfold vp_in; decide) dX5_init_18 rfl (fun z18 hz18 ez18 => ?_)
  refine XN_dup dX5_init_19 rfl rfl ?_
  refine XN_iconst (w := 1) dX5_init_20 ki_1 rfl ?_
  refine XN_new nf_X5_9 (by decide) (by decide) dX5_init_21 rfl (fun q21 => ?_)
  refine XN_dup dX5_init_24 rfl rfl ?_
  refine XN_callI (st := [.ref q21, .int 1, .ref q6, .ref q6, .ref a]) (av := []) rfl cn_X5_11 (n_X3_init l D K q21) (by decide) rfl rfl (Nat.le_of_ble_eq_true rfl) (by decide) (by decide) dX5_init_25 rfl (fun w25 hw25 => ?_)
  obtain ⟨u25, rfl⟩ := hw25
  refine XN_astqK (i := 1) (i2 := 5) (n := 5) (m := 1) (t := 2) (E := RX3) (ci := 3) (fs := [.ref (u25 0), .ref (u25 1), .int 0, .int 0]) rfl rfl rfl rfl (Or.inl rfl) rfl (by unfold vp_in; decide) dX5_init_28 rfl (fun z28 hz28 ez28 => ?_)
  refine XN_dup dX5_init_29 rfl rfl ?_
  refine XN_iconst (w := 2) dX5_init_30 ki_2 rfl ?_
  refine XN_new nf_X5_9 (by decide) (by decide) dX5_init_31 rfl (fun q31 => ?_)
  refine XN_dup dX5_init_34 rfl rfl ?_
  refine XN_callI (st := [.ref q31, .int 2, .ref q6, .ref q6, .ref a]) (av := []) rfl cn_X5_11 (n_X3_init l D K q31) (by decide) rfl rfl (Nat.le_of_ble_eq_true rfl) (by decide) (by decide) dX5_init_35 rfl (fun w35 hw35 => ?_)
  obtain ⟨u35, rfl⟩ := hw35
  refine XN_astqK (i := 1) (i2 := 8) (n := 5) (m := 2) (t := 2) (E := RX3) (ci := 3) (fs := [.ref (u35 0), .ref (u35 1), .int 0, .int 0]) rfl rfl rfl rfl (Or.inl rfl) rfl (by unfold vp_in; decide) dX5_init_38 rfl (fun z38 hz38 ez38 => ?_)
  refine XN_dup dX5_init_39 rfl rfl ?_
  refine XN_iconst (w := 3) dX5_init_40 ki_3 rfl ?_
  refine XN_new nf_X5_9 (by decide) (by decide) dX5_init_41 rfl (fun q41 => ?_)
  refine XN_dup dX5_init_44 rfl rfl ?_
  refine XN_callI (st := [.ref q41, .int 3, .ref q6, .ref q6, .ref a]) (av := []) rfl cn_X5_11 (n_X3_init l D K q41) (by decide) rfl rfl (Nat.le_of_ble_eq_true rfl) (by decide) (by decide) dX5_init_45 rfl (fun w45 hw45 => ?_)
  obtain ⟨u45, rfl⟩ := hw45
  refine XN_astqK (i := 1) (i2 := 11) (n := 5) (m := 3) (t := 2) (E := RX3) (ci := 3) (fs := [.ref (u45 0), .ref (u45 1), .int 0, .int 0]) rfl rfl rfl rfl (Or.inl rfl) rfl (by unfold vp_in; decide) dX5_init_48 rfl (fun z48 hz48 ez48 => ?_)
  refine XN_dup dX5_init_49 rfl rfl ?_
  refine XN_iconst (w := 4) dX5_init_50 ki_4 rfl ?_
  refine XN_new nf_X5_9 (by decide) (by decide) dX5_init_51 rfl (fun q51 => ?_)
  refine XN_dup dX5_init_54 rfl rfl ?_
  refine XN_callI (st := [.ref q51, .int 4, .ref q6, .ref q6, .ref a]) (av := []) rfl cn_X5_11 (n_X3_init l D K q51) (by decide) rfl rfl (Nat.le_of_ble_eq_true rfl) (by decide) (by decide) dX5_init_55 rfl (fun w55 hw55 => ?_)
  obtain ⟨u55, rfl⟩ := hw55
  refine XN_astqK (i := 1) (i2 := 14) (n := 5) (m := 4) (t := 2) (E := RX3) (ci := 3) (fs := [.ref (u55 0), .ref (u55 1), .int 0, .int 0]) rfl rfl rfl rfl (Or.inl rfl) rfl (by unfold vp_in; decide) dX5_init_58 rfl (fun z58 hz58 ez58 => ?_)
  refine XN_putF (i := 0) (fs := [.null, .null, .null, .int 0, .int 0, .null, .int 0, .int 0, .int 0, .int 0, .int 0]) ff_X5_12 rfl rfl (Nat.le_of_ble_eq_true rfl) rfl rfl dX5_init_59 rfl ?_
  refine XN_aload_n (a := 0) dX5_init_62 rfl rfl rfl ?_
  refine XN_iconst (w := 4) dX5_init_63 ki_4 rfl ?_
  refine XN_newi (N := 4) (by decide) (by decide) (by decide) (by decide) (by decide) t_149 dX5_init_64 rfl (fun q64 => ?_)
  refine XN_putF (i := 0) (fs := [.null, .ref q6, .null, .int 0, .int 0, .null, .int 0, .int 0, .int 0, .int 0, .int 0]) ff_X5_18 rfl rfl (Nat.le_of_ble_eq_true rfl) rfl rfl dX5_init_66 rfl ?_
  refine XN_aload_n (a := 0) dX5_init_69 rfl rfl rfl ?_
  refine XN_iconst (w := 4) dX5_init_70 ki_4 rfl ?_
  refine XN_newi (N := 4) (by decide) (by decide) (by decide) (by decide) (by decide) t_149 dX5_init_71 rfl (fun q71 => ?_)
  refine XN_putF (i := 0) (fs := [.null, .ref q6, .ref q64, .int 0, .int 0, .null, .int 0, .int 0, .int 0, .int 0, .int 0]) ff_X5_22 rfl rfl (Nat.le_of_ble_eq_true rfl) rfl rfl dX5_init_73 rfl ?_
  refine XN_aload_n (a := 0) dX5_init_76 rfl rfl rfl ?_
  refine XN_aload_n (a := 1) dX5_init_77 rfl rfl rfl ?_
  refine XN_putF (i := 0) (fs := [.null, .ref q6, .ref q64, .int 0, .int 0, .ref q71, .int 0, .int 0, .int 0, .int 0, .int 0]) ff_X5_25 rfl rfl (Nat.le_of_ble_eq_true rfl) rfl rfl dX5_init_78 rfl ?_
  exact XN_vret rfl ⟨fun i => ([q6, q11, (u15 0), (u15 1), q21, (u25 0), (u25 1), q31, (u35 0), (u35 1), q41, (u45 0), (u45 1), q51, (u55 0), (u55 1), q64, q71] : List Nat).getD i 0, z58, rfl, ⟨((ez58 0 (by decide)).trans ((ez48 0 (by decide)).trans ((ez38 0 (by decide)).trans ((ez28 0 (by decide)).trans hz18)))), ((ez58 1 (by decide)).trans ((ez48 1 (by decide)).trans ((ez38 1 (by decide)).trans hz28))), ((ez58 2 (by decide)).trans ((ez48 2 (by decide)).trans hz38)), ((ez58 3 (by decide)).trans hz48), hz58⟩⟩ (by decide) (by decide) dX5_init_81

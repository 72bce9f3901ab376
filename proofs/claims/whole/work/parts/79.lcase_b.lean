/-! THE LAW: a call of both (2) -/
theorem lc_26 {G : Gm} {p : Program} {e : Env} {s : State} {m : MethodId} {below : List Frame} {meth : Method} {c : Code} {b L i : Nat} {xs : Nat → Int32} {M : Mm} (C : LwC G p s m meth c b L xs) (hi : i + 5 ≤ L) (hI : Inv M M) (k : ∀ M2, Inv M2 M2 → XW G p e s m below meth c b 1745 (lvL G b i) [] M2) : XW G p e s m below meth c b 1010 (lvL G b i) [] M := by
  obtain ⟨r, M1, M2, h1, h2, h3⟩ := (q_game (xs (i + 1))).pair hI
  refine LW_aload (a := 2) C dL_law_1010 rfl rfl rfl ?_
  refine LW_arg C la_1011 (by omega) rfl ?_
  refine LW_call (j := 0) (av := [.int (xs (i + 1))]) (st := []) C cv_L_125 rfl (c_X11_game G M _) h1 (by decide) rfl rfl (Nat.le_of_ble_eq_true rfl) dL_law_1016 rfl ?_
  refine LW_aload (a := 1) C dL_law_1019 rfl rfl rfl ?_
  refine LW_arg C la_1020 (by omega) rfl ?_
  refine LW_call (j := 94) (av := [.int (xs (i + 1))]) (st := [.int r]) C cv_L_128 rfl (c_X12_game G M1 _) h2 (by decide) rfl rfl (Nat.le_of_ble_eq_true rfl) dL_law_1025 rfl ?_
  refine LW_same C dL_law_1028 (by decide) ?_
  exact k M2 h3
theorem lc_27 {G : Gm} {p : Program} {e : Env} {s : State} {m : MethodId} {below : List Frame} {meth : Method} {c : Code} {b L i : Nat} {xs : Nat → Int32} {M : Mm} (C : LwC G p s m meth c b L xs) (hi : i + 5 ≤ L) (hI : Inv M M) (k : ∀ M2, Inv M2 M2 → XW G p e s m below meth c b 1745 (lvL G b i) [] M2) : XW G p e s m below meth c b 1033 (lvL G b i) [] M := by
  obtain ⟨r, M1, M2, h1, h2, h3⟩ := (q_play (xs (i + 1))).pair hI
  refine LW_aload (a := 2) C dL_law_1033 rfl rfl rfl ?_
  refine LW_arg C la_1034 (by omega) rfl ?_
  refine LW_call (j := 0) (av := [.int (xs (i + 1))]) (st := []) C cv_L_129 rfl (c_X11_play G M _) h1 (by decide) rfl rfl (Nat.le_of_ble_eq_true rfl) dL_law_1039 rfl ?_
  refine LW_aload (a := 1) C dL_law_1042 rfl rfl rfl ?_
  refine LW_arg C la_1043 (by omega) rfl ?_
  refine LW_call (j := 94) (av := [.int (xs (i + 1))]) (st := [.int r]) C cv_L_132 rfl (c_X12_play G M1 _) h2 (by decide) rfl rfl (Nat.le_of_ble_eq_true rfl) dL_law_1048 rfl ?_
  refine LW_same C dL_law_1051 (by decide) ?_
  exact k M2 h3
theorem lc_28 {G : Gm} {p : Program} {e : Env} {s : State} {m : MethodId} {below : List Frame} {meth : Method} {c : Code} {b L i : Nat} {xs : Nat → Int32} {M : Mm} (C : LwC G p s m meth c b L xs) (hi : i + 5 ≤ L) (hI : Inv M M) (k : ∀ M2, Inv M2 M2 → XW G p e s m below meth c b 1745 (lvL G b i) [] M2) : XW G p e s m below meth c b 1056 (lvL G b i) [] M := by
  obtain ⟨r, M1, M2, h1, h2, h3⟩ := (q_report (xs (i + 1)) (xs (i + 2)) (xs (i + 3)) (xs (i + 4))).pair hI
  refine LW_aload (a := 2) C dL_law_1056 rfl rfl rfl ?_
  refine LW_arg C la_1057 (by omega) rfl ?_
  refine LW_arg C la_1062 (by omega) rfl ?_
  refine LW_arg C la_1067 (by omega) rfl ?_
  refine LW_arg C la_1072 (by omega) rfl ?_
  refine LW_call (j := 0) (av := [.int (xs (i + 1)), .int (xs (i + 2)), .int (xs (i + 3)), .int (xs (i + 4))]) (st := []) C cv_L_133 rfl (c_X11_report G M _ _ _ _) h1 (by decide) rfl rfl (Nat.le_of_ble_eq_true rfl) dL_law_1077 rfl ?_
  refine LW_aload (a := 1) C dL_law_1080 rfl rfl rfl ?_
  refine LW_arg C la_1081 (by omega) rfl ?_
  refine LW_arg C la_1086 (by omega) rfl ?_
  refine LW_arg C la_1091 (by omega) rfl ?_
  refine LW_arg C la_1096 (by omega) rfl ?_
  refine LW_call (j := 94) (av := [.int (xs (i + 1)), .int (xs (i + 2)), .int (xs (i + 3)), .int (xs (i + 4))]) (st := [.int r]) C cv_L_136 rfl (c_X12_report G M1 _ _ _ _) h2 (by decide) rfl rfl (Nat.le_of_ble_eq_true rfl) dL_law_1101 rfl ?_
  refine LW_same C dL_law_1104 (by decide) ?_
  exact k M2 h3
theorem lc_29 {G : Gm} {p : Program} {e : Env} {s : State} {m : MethodId} {below : List Frame} {meth : Method} {c : Code} {b L i : Nat} {xs : Nat → Int32} {M : Mm} (C : LwC G p s m meth c b L xs) (hi : i + 5 ≤ L) (hI : Inv M M) (k : ∀ M2, Inv M2 M2 → XW G p e s m below meth c b 1745 (lvL G b i) [] M2) : XW G p e s m below meth c b 1109 (lvL G b i) [] M := by
  obtain ⟨r, M1, M2, h1, h2, h3⟩ := (q_forget).pair hI
  refine LW_aload (a := 2) C dL_law_1109 rfl rfl rfl ?_
  refine LW_call (j := 0) (av := []) (st := []) C cv_L_137 rfl (c_X11_forget G M) h1 (by decide) rfl rfl (Nat.le_of_ble_eq_true rfl) dL_law_1110 rfl ?_
  refine LW_aload (a := 1) C dL_law_1113 rfl rfl rfl ?_
  refine LW_call (j := 94) (av := []) (st := [.int r]) C cv_L_140 rfl (c_X12_forget G M1) h2 (by decide) rfl rfl (Nat.le_of_ble_eq_true rfl) dL_law_1114 rfl ?_
  refine LW_same C dL_law_1117 (by decide) ?_
  exact k M2 h3
theorem lc_30 {G : Gm} {p : Program} {e : Env} {s : State} {m : MethodId} {below : List Frame} {meth : Method} {c : Code} {b L i : Nat} {xs : Nat → Int32} {M : Mm} (C : LwC G p s m meth c b L xs) (hi : i + 5 ≤ L) (hI : Inv M M) (k : ∀ M2, Inv M2 M2 → XW G p e s m below meth c b 1745 (lvL G b i) [] M2) : XW G p e s m below meth c b 1122 (lvL G b i) [] M := by
  obtain ⟨r, M1, M2, h1, h2, h3⟩ := (q_lone (xs (i + 1))).pair hI
  refine LW_aload (a := 2) C dL_law_1122 rfl rfl rfl ?_
  refine LW_arg C la_1123 (by omega) rfl ?_
  refine LW_call (j := 0) (av := [.int (xs (i + 1))]) (st := []) C cv_L_141 rfl (Ct_pu (c_X11_lone G M _)) h1 (by decide) rfl rfl (Nat.le_of_ble_eq_true rfl) dL_law_1128 rfl ?_
  refine LW_aload (a := 1) C dL_law_1131 rfl rfl rfl ?_
  refine LW_arg C la_1132 (by omega) rfl ?_
  refine LW_call (j := 94) (av := [.int (xs (i + 1))]) (st := [.int r]) C cv_L_144 rfl (c_X12_lone G M1 _) h2 (by decide) rfl rfl (Nat.le_of_ble_eq_true rfl) dL_law_1137 rfl ?_
  refine LW_same C dL_law_1140 (by decide) ?_
  exact k M2 h3
theorem lc_31 {G : Gm} {p : Program} {e : Env} {s : State} {m : MethodId} {below : List Frame} {meth : Method} {c : Code} {b L i : Nat} {xs : Nat → Int32} {M : Mm} (C : LwC G p s m meth c b L xs) (hi : i + 5 ≤ L) (hI : Inv M M) (k : ∀ M2, Inv M2 M2 → XW G p e s m below meth c b 1745 (lvL G b i) [] M2) : XW G p e s m below meth c b 1145 (lvL G b i) [] M := by
  obtain ⟨r, M1, M2, h1, h2, h3⟩ := (q_liar).pair hI
  refine LW_aload (a := 2) C dL_law_1145 rfl rfl rfl ?_
  refine LW_call (j := 0) (av := []) (st := []) C cv_L_145 rfl (Ct_pu (c_X11_liar G M)) h1 (by decide) rfl rfl (Nat.le_of_ble_eq_true rfl) dL_law_1146 rfl ?_
  refine LW_aload (a := 1) C dL_law_1149 rfl rfl rfl ?_
  refine LW_call (j := 94) (av := []) (st := [.int r]) C cv_L_148 rfl (c_X12_liar G M1) h2 (by decide) rfl rfl (Nat.le_of_ble_eq_true rfl) dL_law_1150 rfl ?_
  refine LW_same C dL_law_1153 (by decide) ?_
  exact k M2 h3
theorem lc_32 {G : Gm} {p : Program} {e : Env} {s : State} {m : MethodId} {below : List Frame} {meth : Method} {c : Code} {b L i : Nat} {xs : Nat → Int32} {M : Mm} (C : LwC G p s m meth c b L xs) (hi : i + 5 ≤ L) (hI : Inv M M) (k : ∀ M2, Inv M2 M2 → XW G p e s m below meth c b 1745 (lvL G b i) [] M2) : XW G p e s m below meth c b 1158 (lvL G b i) [] M := by
  obtain ⟨r, M1, M2, h1, h2, h3⟩ := (q_seed (xs (i + 1))).pair hI
  refine LW_aload (a := 2) C dL_law_1158 rfl rfl rfl ?_
  refine LW_arg C la_1159 (by omega) rfl ?_
  refine LW_call (j := 0) (av := [.int (xs (i + 1))]) (st := []) C cv_L_149 rfl (c_X11_seed G M _) h1 (by decide) rfl rfl (Nat.le_of_ble_eq_true rfl) dL_law_1164 rfl ?_
  refine LW_aload (a := 1) C dL_law_1167 rfl rfl rfl ?_
  refine LW_arg C la_1168 (by omega) rfl ?_
  refine LW_call (j := 94) (av := [.int (xs (i + 1))]) (st := [.int r]) C cv_L_152 rfl (c_X12_seed G M1 _) h2 (by decide) rfl rfl (Nat.le_of_ble_eq_true rfl) dL_law_1173 rfl ?_
  refine LW_same C dL_law_1176 (by decide) ?_
  exact k M2 h3
theorem lc_33 {G : Gm} {p : Program} {e : Env} {s : State} {m : MethodId} {below : List Frame} {meth : Method} {c : Code} {b L i : Nat} {xs : Nat → Int32} {M : Mm} (C : LwC G p s m meth c b L xs) (hi : i + 5 ≤ L) (hI : Inv M M) (k : ∀ M2, Inv M2 M2 → XW G p e s m below meth c b 1745 (lvL G b i) [] M2) : XW G p e s m below meth c b 1181 (lvL G b i) [] M := by
  obtain ⟨r, M1, M2, h1, h2, h3⟩ := (q_lot).pair hI
  refine LW_aload (a := 2) C dL_law_1181 rfl rfl rfl ?_
  refine LW_call (j := 0) (av := []) (st := []) C cv_L_153 rfl (c_X11_lot G M) h1 (by decide) rfl rfl (Nat.le_of_ble_eq_true rfl) dL_law_1182 rfl ?_
  refine LW_aload (a := 1) C dL_law_1185 rfl rfl rfl ?_
  refine LW_call (j := 94) (av := []) (st := [.int r]) C cv_L_156 rfl (c_X12_lot G M1) h2 (by decide) rfl rfl (Nat.le_of_ble_eq_true rfl) dL_law_1186 rfl ?_
  refine LW_same C dL_law_1189 (by decide) ?_
  exact k M2 h3
theorem lc_34 {G : Gm} {p : Program} {e : Env} {s : State} {m : MethodId} {below : List Frame} {meth : Method} {c : Code} {b L i : Nat} {xs : Nat → Int32} {M : Mm} (C : LwC G p s m meth c b L xs) (hi : i + 5 ≤ L) (hI : Inv M M) (k : ∀ M2, Inv M2 M2 → XW G p e s m below meth c b 1745 (lvL G b i) [] M2) : XW G p e s m below meth c b 1194 (lvL G b i) [] M := by
  obtain ⟨r, M1, M2, h1, h2, h3⟩ := (q_times (xs (i + 1)) (xs (i + 2))).pair hI
  refine LW_aload (a := 2) C dL_law_1194 rfl rfl rfl ?_
  refine LW_arg C la_1195 (by omega) rfl ?_
  refine LW_arg C la_1200 (by omega) rfl ?_
  refine LW_call (j := 0) (av := [.int (xs (i + 1)), .int (xs (i + 2))]) (st := []) C cv_L_157 rfl (c_X11_times G M _ _) h1 (by decide) rfl rfl (Nat.le_of_ble_eq_true rfl) dL_law_1205 rfl ?_
  refine LW_aload (a := 1) C dL_law_1208 rfl rfl rfl ?_
  refine LW_arg C la_1209 (by omega) rfl ?_
  refine LW_arg C la_1214 (by omega) rfl ?_
  refine LW_call (j := 94) (av := [.int (xs (i + 1)), .int (xs (i + 2))]) (st := [.int r]) C cv_L_160 rfl (c_X12_times G M1 _ _) h2 (by decide) rfl rfl (Nat.le_of_ble_eq_true rfl) dL_law_1219 rfl ?_
  refine LW_same C dL_law_1222 (by decide) ?_
  exact k M2 h3
theorem lc_35 {G : Gm} {p : Program} {e : Env} {s : State} {m : MethodId} {below : List Frame} {meth : Method} {c : Code} {b L i : Nat} {xs : Nat → Int32} {M : Mm} (C : LwC G p s m meth c b L xs) (hi : i + 5 ≤ L) (hI : Inv M M) (k : ∀ M2, Inv M2 M2 → XW G p e s m below meth c b 1745 (lvL G b i) [] M2) : XW G p e s m below meth c b 1227 (lvL G b i) [] M := by
  obtain ⟨r, M1, M2, h1, h2, h3⟩ := (q_prove (xs (i + 1))).pair hI
  refine LW_aload (a := 2) C dL_law_1227 rfl rfl rfl ?_
  refine LW_arg C la_1228 (by omega) rfl ?_
  refine LW_call (j := 0) (av := [.int (xs (i + 1))]) (st := []) C cv_L_161 rfl (c_X11_prove G M _) h1 (by decide) rfl rfl (Nat.le_of_ble_eq_true rfl) dL_law_1233 rfl ?_
  refine LW_aload (a := 1) C dL_law_1236 rfl rfl rfl ?_
  refine LW_arg C la_1237 (by omega) rfl ?_
  refine LW_call (j := 94) (av := [.int (xs (i + 1))]) (st := [.int r]) C cv_L_164 rfl (c_X12_prove G M1 _) h2 (by decide) rfl rfl (Nat.le_of_ble_eq_true rfl) dL_law_1242 rfl ?_
  refine LW_same C dL_law_1245 (by decide) ?_
  exact k M2 h3
theorem lc_36 {G : Gm} {p : Program} {e : Env} {s : State} {m : MethodId} {below : List Frame} {meth : Method} {c : Code} {b L i : Nat} {xs : Nat → Int32} {M : Mm} (C : LwC G p s m meth c b L xs) (hi : i + 5 ≤ L) (hI : Inv M M) (k : ∀ M2, Inv M2 M2 → XW G p e s m below meth c b 1745 (lvL G b i) [] M2) : XW G p e s m below meth c b 1250 (lvL G b i) [] M := by
  obtain ⟨r, M1, M2, h1, h2, h3⟩ := (q_row (xs (i + 1)) (xs (i + 2))).pair hI
  refine LW_aload (a := 2) C dL_law_1250 rfl rfl rfl ?_
  refine LW_arg C la_1251 (by omega) rfl ?_
  refine LW_arg C la_1256 (by omega) rfl ?_
  refine LW_call (j := 0) (av := [.int (xs (i + 1)), .int (xs (i + 2))]) (st := []) C cv_L_165 rfl (Ct_pu (c_X11_row G M _ _)) h1 (by decide) rfl rfl (Nat.le_of_ble_eq_true rfl) dL_law_1261 rfl ?_
  refine LW_aload (a := 1) C dL_law_1264 rfl rfl rfl ?_
  refine LW_arg C la_1265 (by omega) rfl ?_
  refine LW_arg C la_1270 (by omega) rfl ?_
  refine LW_call (j := 94) (av := [.int (xs (i + 1)), .int (xs (i + 2))]) (st := [.int r]) C cv_L_168 rfl (Ct_pu (c_X12_row G M1 _ _)) h2 (by decide) rfl rfl (Nat.le_of_ble_eq_true rfl) dL_law_1275 rfl ?_
  refine LW_same C dL_law_1278 (by decide) ?_
  exact k M2 h3
theorem lc_37 {G : Gm} {p : Program} {e : Env} {s : State} {m : MethodId} {below : List Frame} {meth : Method} {c : Code} {b L i : Nat} {xs : Nat → Int32} {M : Mm} (C : LwC G p s m meth c b L xs) (hi : i + 5 ≤ L) (hI : Inv M M) (k : ∀ M2, Inv M2 M2 → XW G p e s m below meth c b 1745 (lvL G b i) [] M2) : XW G p e s m below meth c b 1283 (lvL G b i) [] M := by
  obtain ⟨r, M1, M2, h1, h2, h3⟩ := (q_alterRow (xs (i + 1)) (xs (i + 2)) (xs (i + 3))).pair hI
  refine LW_aload (a := 2) C dL_law_1283 rfl rfl rfl ?_
  refine LW_arg C la_1284 (by omega) rfl ?_
  refine LW_arg C la_1289 (by omega) rfl ?_
  refine LW_arg C la_1294 (by omega) rfl ?_
  refine LW_call (j := 0) (av := [.int (xs (i + 1)), .int (xs (i + 2)), .int (xs (i + 3))]) (st := []) C cv_L_169 rfl (c_X11_alterRow G M _ _ _) h1 (by decide) rfl rfl (Nat.le_of_ble_eq_true rfl) dL_law_1299 rfl ?_
  refine LW_aload (a := 1) C dL_law_1302 rfl rfl rfl ?_
  refine LW_arg C la_1303 (by omega) rfl ?_
  refine LW_arg C la_1308 (by omega) rfl ?_
  refine LW_arg C la_1313 (by omega) rfl ?_
  refine LW_call (j := 94) (av := [.int (xs (i + 1)), .int (xs (i + 2)), .int (xs (i + 3))]) (st := [.int r]) C cv_L_172 rfl (c_X12_alterRow G M1 _ _ _) h2 (by decide) rfl rfl (Nat.le_of_ble_eq_true rfl) dL_law_1318 rfl ?_
  refine LW_same C dL_law_1321 (by decide) ?_
  exact k M2 h3
theorem lc_38 {G : Gm} {p : Program} {e : Env} {s : State} {m : MethodId} {below : List Frame} {meth : Method} {c : Code} {b L i : Nat} {xs : Nat → Int32} {M : Mm} (C : LwC G p s m meth c b L xs) (hi : i + 5 ≤ L) (hI : Inv M M) (k : ∀ M2, Inv M2 M2 → XW G p e s m below meth c b 1745 (lvL G b i) [] M2) : XW G p e s m below meth c b 1326 (lvL G b i) [] M := by
  obtain ⟨r, M1, M2, h1, h2, h3⟩ := (q_judge).pair hI
  refine LW_aload (a := 2) C dL_law_1326 rfl rfl rfl ?_
  refine LW_call (j := 0) (av := []) (st := []) C cv_L_173 rfl (c_X11_judge G M) h1 (by decide) rfl rfl (Nat.le_of_ble_eq_true rfl) dL_law_1327 rfl ?_
  refine LW_aload (a := 1) C dL_law_1330 rfl rfl rfl ?_
  refine LW_call (j := 94) (av := []) (st := [.int r]) C cv_L_176 rfl (c_X12_judge G M1) h2 (by decide) rfl rfl (Nat.le_of_ble_eq_true rfl) dL_law_1331 rfl ?_
  refine LW_same C dL_law_1334 (by decide) ?_
  exact k M2 h3
theorem lc_39 {G : Gm} {p : Program} {e : Env} {s : State} {m : MethodId} {below : List Frame} {meth : Method} {c : Code} {b L i : Nat} {xs : Nat → Int32} {M : Mm} (C : LwC G p s m meth c b L xs) (hi : i + 5 ≤ L) (hI : Inv M M) (k : ∀ M2, Inv M2 M2 → XW G p e s m below meth c b 1745 (lvL G b i) [] M2) : XW G p e s m below meth c b 1339 (lvL G b i) [] M := by
  obtain ⟨r, M1, M2, h1, h2, h3⟩ := (q_sheet (xs (i + 1)) (xs (i + 2)) (xs (i + 3))).pair hI
  refine LW_aload (a := 2) C dL_law_1339 rfl rfl rfl ?_
  refine LW_arg C la_1340 (by omega) rfl ?_
  refine LW_arg C la_1345 (by omega) rfl ?_
  refine LW_arg C la_1350 (by omega) rfl ?_
  refine LW_call (j := 0) (av := [.int (xs (i + 1)), .int (xs (i + 2)), .int (xs (i + 3))]) (st := []) C cv_L_177 rfl (c_X11_sheet G M _ _ _) h1 (by decide) rfl rfl (Nat.le_of_ble_eq_true rfl) dL_law_1355 rfl ?_
  refine LW_aload (a := 1) C dL_law_1358 rfl rfl rfl ?_
  refine LW_arg C la_1359 (by omega) rfl ?_
  refine LW_arg C la_1364 (by omega) rfl ?_
  refine LW_arg C la_1369 (by omega) rfl ?_
  refine LW_call (j := 94) (av := [.int (xs (i + 1)), .int (xs (i + 2)), .int (xs (i + 3))]) (st := [.int r]) C cv_L_180 rfl (c_X12_sheet G M1 _ _ _) h2 (by decide) rfl rfl (Nat.le_of_ble_eq_true rfl) dL_law_1374 rfl ?_
  refine LW_same C dL_law_1377 (by decide) ?_
  exact k M2 h3
theorem lc_40 {G : Gm} {p : Program} {e : Env} {s : State} {m : MethodId} {below : List Frame} {meth : Method} {c : Code} {b L i : Nat} {xs : Nat → Int32} {M : Mm} (C : LwC G p s m meth c b L xs) (hi : i + 5 ≤ L) (hI : Inv M M) (k : ∀ M2, Inv M2 M2 → XW G p e s m below meth c b 1745 (lvL G b i) [] M2) : XW G p e s m below meth c b 1382 (lvL G b i) [] M := by
  obtain ⟨r, M1, M2, h1, h2, h3⟩ := (q_write (xs (i + 1)) (xs (i + 2)) (xs (i + 3))).pair hI
  refine LW_aload (a := 2) C dL_law_1382 rfl rfl rfl ?_
  refine LW_arg C la_1383 (by omega) rfl ?_
  refine LW_arg C la_1388 (by omega) rfl ?_
  refine LW_arg C la_1393 (by omega) rfl ?_
  refine LW_call (j := 0) (av := [.int (xs (i + 1)), .int (xs (i + 2)), .int (xs (i + 3))]) (st := []) C cv_L_181 rfl (c_X11_write G M _ _ _) h1 (by decide) rfl rfl (Nat.le_of_ble_eq_true rfl) dL_law_1398 rfl ?_
  refine LW_aload (a := 1) C dL_law_1401 rfl rfl rfl ?_
  refine LW_arg C la_1402 (by omega) rfl ?_
  refine LW_arg C la_1407 (by omega) rfl ?_
  refine LW_arg C la_1412 (by omega) rfl ?_
  refine LW_call (j := 94) (av := [.int (xs (i + 1)), .int (xs (i + 2)), .int (xs (i + 3))]) (st := [.int r]) C cv_L_184 rfl (c_X12_write G M1 _ _ _) h2 (by decide) rfl rfl (Nat.le_of_ble_eq_true rfl) dL_law_1417 rfl ?_
  refine LW_same C dL_law_1420 (by decide) ?_
  exact k M2 h3
theorem lc_41 {G : Gm} {p : Program} {e : Env} {s : State} {m : MethodId} {below : List Frame} {meth : Method} {c : Code} {b L i : Nat} {xs : Nat → Int32} {M : Mm} (C : LwC G p s m meth c b L xs) (hi : i + 5 ≤ L) (hI : Inv M M) (k : ∀ M2, Inv M2 M2 → XW G p e s m below meth c b 1745 (lvL G b i) [] M2) : XW G p e s m below meth c b 1425 (lvL G b i) [] M := by
  obtain ⟨r, M1, M2, h1, h2, h3⟩ := (q_item (xs (i + 1)) (xs (i + 2)) (xs (i + 3))).pair hI
  refine LW_aload (a := 2) C dL_law_1425 rfl rfl rfl ?_
  refine LW_arg C la_1426 (by omega) rfl ?_
  refine LW_arg C la_1431 (by omega) rfl ?_
  refine LW_arg C la_1436 (by omega) rfl ?_
  refine LW_call (j := 0) (av := [.int (xs (i + 1)), .int (xs (i + 2)), .int (xs (i + 3))]) (st := []) C cv_L_185 rfl (Ct_pu (c_X11_item G M _ _ _)) h1 (by decide) rfl rfl (Nat.le_of_ble_eq_true rfl) dL_law_1441 rfl ?_
  refine LW_aload (a := 1) C dL_law_1444 rfl rfl rfl ?_
  refine LW_arg C la_1445 (by omega) rfl ?_
  refine LW_arg C la_1450 (by omega) rfl ?_
  refine LW_arg C la_1455 (by omega) rfl ?_
  refine LW_call (j := 94) (av := [.int (xs (i + 1)), .int (xs (i + 2)), .int (xs (i + 3))]) (st := [.int r]) C cv_L_188 rfl (Ct_pu (c_X12_item G M1 _ _ _)) h2 (by decide) rfl rfl (Nat.le_of_ble_eq_true rfl) dL_law_1460 rfl ?_
  refine LW_same C dL_law_1463 (by decide) ?_
  exact k M2 h3
theorem lc_42 {G : Gm} {p : Program} {e : Env} {s : State} {m : MethodId} {below : List Frame} {meth : Method} {c : Code} {b L i : Nat} {xs : Nat → Int32} {M : Mm} (C : LwC G p s m meth c b L xs) (hi : i + 5 ≤ L) (hI : Inv M M) (k : ∀ M2, Inv M2 M2 → XW G p e s m below meth c b 1745 (lvL G b i) [] M2) : XW G p e s m below meth c b 1468 (lvL G b i) [] M := by
  obtain ⟨r, M1, M2, h1, h2, h3⟩ := (q_goAll (xs (i + 1)) (xs (i + 2)) (xs (i + 3))).pair hI
  refine LW_aload (a := 2) C dL_law_1468 rfl rfl rfl ?_
  refine LW_arg C la_1469 (by omega) rfl ?_
  refine LW_arg C la_1474 (by omega) rfl ?_
  refine LW_arg C la_1479 (by omega) rfl ?_
  refine LW_call (j := 0) (av := [.int (xs (i + 1)), .int (xs (i + 2)), .int (xs (i + 3))]) (st := []) C cv_L_189 rfl (c_X11_goAll G M _ _ _) h1 (by decide) rfl rfl (Nat.le_of_ble_eq_true rfl) dL_law_1484 rfl ?_
  refine LW_aload (a := 1) C dL_law_1487 rfl rfl rfl ?_
  refine LW_arg C la_1488 (by omega) rfl ?_
  refine LW_arg C la_1493 (by omega) rfl ?_
  refine LW_arg C la_1498 (by omega) rfl ?_
  refine LW_call (j := 94) (av := [.int (xs (i + 1)), .int (xs (i + 2)), .int (xs (i + 3))]) (st := [.int r]) C cv_L_192 rfl (c_X12_goAll G M1 _ _ _) h2 (by decide) rfl rfl (Nat.le_of_ble_eq_true rfl) dL_law_1503 rfl ?_
  refine LW_same C dL_law_1506 (by decide) ?_
  exact k M2 h3
theorem lc_43 {G : Gm} {p : Program} {e : Env} {s : State} {m : MethodId} {below : List Frame} {meth : Method} {c : Code} {b L i : Nat} {xs : Nat → Int32} {M : Mm} (C : LwC G p s m meth c b L xs) (hi : i + 5 ≤ L) (hI : Inv M M) (k : ∀ M2, Inv M2 M2 → XW G p e s m below meth c b 1745 (lvL G b i) [] M2) : XW G p e s m below meth c b 1511 (lvL G b i) [] M := by
  obtain ⟨r, M1, M2, h1, h2, h3⟩ := (q_wouldBe (xs (i + 1)) (xs (i + 2)) (xs (i + 3))).pair hI
  refine LW_aload (a := 2) C dL_law_1511 rfl rfl rfl ?_
  refine LW_arg C la_1512 (by omega) rfl ?_
  refine LW_arg C la_1517 (by omega) rfl ?_
  refine LW_arg C la_1522 (by omega) rfl ?_
  refine LW_call (j := 0) (av := [.int (xs (i + 1)), .int (xs (i + 2)), .int (xs (i + 3))]) (st := []) C cv_L_193 rfl (c_X11_wouldBe G M _ _ _) h1 (by decide) rfl rfl (Nat.le_of_ble_eq_true rfl) dL_law_1527 rfl ?_
  refine LW_aload (a := 1) C dL_law_1530 rfl rfl rfl ?_
  refine LW_arg C la_1531 (by omega) rfl ?_
  refine LW_arg C la_1536 (by omega) rfl ?_
  refine LW_arg C la_1541 (by omega) rfl ?_
  refine LW_call (j := 94) (av := [.int (xs (i + 1)), .int (xs (i + 2)), .int (xs (i + 3))]) (st := [.int r]) C cv_L_196 rfl (c_X12_wouldBe G M1 _ _ _) h2 (by decide) rfl rfl (Nat.le_of_ble_eq_true rfl) dL_law_1546 rfl ?_
  refine LW_same C dL_law_1549 (by decide) ?_
  exact k M2 h3
theorem lc_44 {G : Gm} {p : Program} {e : Env} {s : State} {m : MethodId} {below : List Frame} {meth : Method} {c : Code} {b L i : Nat} {xs : Nat → Int32} {M : Mm} (C : LwC G p s m meth c b L xs) (hi : i + 5 ≤ L) (hI : Inv M M) (k : ∀ M2, Inv M2 M2 → XW G p e s m below meth c b 1745 (lvL G b i) [] M2) : XW G p e s m below meth c b 1554 (lvL G b i) [] M := by
  obtain ⟨r, M1, M2, h1, h2, h3⟩ := (q_shelf (xs (i + 1)) (xs (i + 2)) (xs (i + 3))).pair hI
  refine LW_aload (a := 2) C dL_law_1554 rfl rfl rfl ?_
  refine LW_arg C la_1555 (by omega) rfl ?_
  refine LW_arg C la_1560 (by omega) rfl ?_
  refine LW_arg C la_1565 (by omega) rfl ?_
  refine LW_call (j := 0) (av := [.int (xs (i + 1)), .int (xs (i + 2)), .int (xs (i + 3))]) (st := []) C cv_L_197 rfl (c_X11_shelf G M _ _ _) h1 (by decide) rfl rfl (Nat.le_of_ble_eq_true rfl) dL_law_1570 rfl ?_
  refine LW_aload (a := 1) C dL_law_1573 rfl rfl rfl ?_
  refine LW_arg C la_1574 (by omega) rfl ?_
  refine LW_arg C la_1579 (by omega) rfl ?_
  refine LW_arg C la_1584 (by omega) rfl ?_
  refine LW_call (j := 94) (av := [.int (xs (i + 1)), .int (xs (i + 2)), .int (xs (i + 3))]) (st := [.int r]) C cv_L_200 rfl (c_X12_shelf G M1 _ _ _) h2 (by decide) rfl rfl (Nat.le_of_ble_eq_true rfl) dL_law_1589 rfl ?_
  refine LW_same C dL_law_1592 (by decide) ?_
  exact k M2 h3
theorem lc_45 {G : Gm} {p : Program} {e : Env} {s : State} {m : MethodId} {below : List Frame} {meth : Method} {c : Code} {b L i : Nat} {xs : Nat → Int32} {M : Mm} (C : LwC G p s m meth c b L xs) (hi : i + 5 ≤ L) (hI : Inv M M) (k : ∀ M2, Inv M2 M2 → XW G p e s m below meth c b 1745 (lvL G b i) [] M2) : XW G p e s m below meth c b 1597 (lvL G b i) [] M := by
  obtain ⟨r, M1, M2, h1, h2, h3⟩ := (q_taken (xs (i + 1)) (xs (i + 2))).pair hI
  refine LW_aload (a := 2) C dL_law_1597 rfl rfl rfl ?_
  refine LW_arg C la_1598 (by omega) rfl ?_
  refine LW_arg C la_1603 (by omega) rfl ?_
  refine LW_call (j := 0) (av := [.int (xs (i + 1)), .int (xs (i + 2))]) (st := []) C cv_L_201 rfl (Ct_pu (c_X11_taken G M _ _)) h1 (by decide) rfl rfl (Nat.le_of_ble_eq_true rfl) dL_law_1608 rfl ?_
  refine LW_aload (a := 1) C dL_law_1611 rfl rfl rfl ?_
  refine LW_arg C la_1612 (by omega) rfl ?_
  refine LW_arg C la_1617 (by omega) rfl ?_
  refine LW_call (j := 94) (av := [.int (xs (i + 1)), .int (xs (i + 2))]) (st := [.int r]) C cv_L_204 rfl (Ct_pu (c_X12_taken G M1 _ _)) h2 (by decide) rfl rfl (Nat.le_of_ble_eq_true rfl) dL_law_1622 rfl ?_
  refine LW_same C dL_law_1625 (by decide) ?_
  exact k M2 h3
theorem lc_46 {G : Gm} {p : Program} {e : Env} {s : State} {m : MethodId} {below : List Frame} {meth : Method} {c : Code} {b L i : Nat} {xs : Nat → Int32} {M : Mm} (C : LwC G p s m meth c b L xs) (hi : i + 5 ≤ L) (hI : Inv M M) (k : ∀ M2, Inv M2 M2 → XW G p e s m below meth c b 1745 (lvL G b i) [] M2) : XW G p e s m below meth c b 1630 (lvL G b i) [] M := by
  obtain ⟨r, M1, M2, h1, h2, h3⟩ := (q_act (xs (i + 1)) (xs (i + 2)) (xs (i + 3))).pair hI
  refine LW_aload (a := 2) C dL_law_1630 rfl rfl rfl ?_
  refine LW_arg C la_1631 (by omega) rfl ?_
  refine LW_arg C la_1636 (by omega) rfl ?_
  refine LW_arg C la_1641 (by omega) rfl ?_
  refine LW_call (j := 0) (av := [.int (xs (i + 1)), .int (xs (i + 2)), .int (xs (i + 3))]) (st := []) C cv_L_205 rfl (c_X11_act G M _ _ _) h1 (by decide) rfl rfl (Nat.le_of_ble_eq_true rfl) dL_law_1646 rfl ?_
  refine LW_aload (a := 1) C dL_law_1649 rfl rfl rfl ?_
  refine LW_arg C la_1650 (by omega) rfl ?_
  refine LW_arg C la_1655 (by omega) rfl ?_
  refine LW_arg C la_1660 (by omega) rfl ?_
  refine LW_call (j := 94) (av := [.int (xs (i + 1)), .int (xs (i + 2)), .int (xs (i + 3))]) (st := [.int r]) C cv_L_208 rfl (c_X12_act G M1 _ _ _) h2 (by decide) rfl rfl (Nat.le_of_ble_eq_true rfl) dL_law_1665 rfl ?_
  refine LW_same C dL_law_1668 (by decide) ?_
  exact k M2 h3
theorem lc_47 {G : Gm} {p : Program} {e : Env} {s : State} {m : MethodId} {below : List Frame} {meth : Method} {c : Code} {b L i : Nat} {xs : Nat → Int32} {M : Mm} (C : LwC G p s m meth c b L xs) (hi : i + 5 ≤ L) (hI : Inv M M) (k : ∀ M2, Inv M2 M2 → XW G p e s m below meth c b 1745 (lvL G b i) [] M2) : XW G p e s m below meth c b 1673 (lvL G b i) [] M := by
  obtain ⟨r, M1, M2, h1, h2, h3⟩ := (q_trace (xs (i + 1))).pair hI
  refine LW_aload (a := 2) C dL_law_1673 rfl rfl rfl ?_
  refine LW_arg C la_1674 (by omega) rfl ?_
  refine LW_call (j := 0) (av := [.int (xs (i + 1))]) (st := []) C cv_L_209 rfl (Ct_pu (c_X11_trace G M _)) h1 (by decide) rfl rfl (Nat.le_of_ble_eq_true rfl) dL_law_1679 rfl ?_
  refine LW_aload (a := 1) C dL_law_1682 rfl rfl rfl ?_
  refine LW_arg C la_1683 (by omega) rfl ?_
  refine LW_call (j := 94) (av := [.int (xs (i + 1))]) (st := [.int r]) C cv_L_212 rfl (Ct_pu (c_X12_trace G M1 _)) h2 (by decide) rfl rfl (Nat.le_of_ble_eq_true rfl) dL_law_1688 rfl ?_
  refine LW_same C dL_law_1691 (by decide) ?_
  exact k M2 h3
theorem lc_48 {G : Gm} {p : Program} {e : Env} {s : State} {m : MethodId} {below : List Frame} {meth : Method} {c : Code} {b L i : Nat} {xs : Nat → Int32} {M : Mm} (C : LwC G p s m meth c b L xs) (hi : i + 5 ≤ L) (hI : Inv M M) (k : ∀ M2, Inv M2 M2 → XW G p e s m below meth c b 1745 (lvL G b i) [] M2) : XW G p e s m below meth c b 1696 (lvL G b i) [] M := by
  obtain ⟨r, M1, M2, h1, h2, h3⟩ := (q_many (xs (i + 1))).pair hI
  refine LW_aload (a := 2) C dL_law_1696 rfl rfl rfl ?_
  refine LW_arg C la_1697 (by omega) rfl ?_
  refine LW_call (j := 0) (av := [.int (xs (i + 1))]) (st := []) C cv_L_213 rfl (Ct_pu (c_X11_many G M _)) h1 (by decide) rfl rfl (Nat.le_of_ble_eq_true rfl) dL_law_1702 rfl ?_
  refine LW_aload (a := 1) C dL_law_1705 rfl rfl rfl ?_
  refine LW_arg C la_1706 (by omega) rfl ?_
  refine LW_call (j := 94) (av := [.int (xs (i + 1))]) (st := [.int r]) C cv_L_216 rfl (Ct_pu (c_X12_many G M1 _)) h2 (by decide) rfl rfl (Nat.le_of_ble_eq_true rfl) dL_law_1711 rfl ?_
  refine LW_same C dL_law_1714 (by decide) ?_
  exact k M2 h3
theorem lc_49 {G : Gm} {p : Program} {e : Env} {s : State} {m : MethodId} {below : List Frame} {meth : Method} {c : Code} {b L i : Nat} {xs : Nat → Int32} {M : Mm} (C : LwC G p s m meth c b L xs) (hi : i + 5 ≤ L) (hI : Inv M M) (k : ∀ M2, Inv M2 M2 → XW G p e s m below meth c b 1745 (lvL G b i) [] M2) : XW G p e s m below meth c b 1719 (lvL G b i) [] M := by
  obtain ⟨r, M1, M2, h1, h2, h3⟩ := (q_keep).pair hI
  refine LW_aload (a := 2) C dL_law_1719 rfl rfl rfl ?_
  refine LW_call (j := 0) (av := []) (st := []) C cv_L_217 rfl (c_X11_keep G M) h1 (by decide) rfl rfl (Nat.le_of_ble_eq_true rfl) dL_law_1720 rfl ?_
  refine LW_aload (a := 1) C dL_law_1723 rfl rfl rfl ?_
  refine LW_call (j := 94) (av := []) (st := [.int r]) C cv_L_220 rfl (c_X12_keep G M1) h2 (by decide) rfl rfl (Nat.le_of_ble_eq_true rfl) dL_law_1724 rfl ?_
  refine LW_same C dL_law_1727 (by decide) ?_
  exact k M2 h3
theorem lc_50 {G : Gm} {p : Program} {e : Env} {s : State} {m : MethodId} {below : List Frame} {meth : Method} {c : Code} {b L i : Nat} {xs : Nat → Int32} {M : Mm} (C : LwC G p s m meth c b L xs) (hi : i + 5 ≤ L) (hI : Inv M M) (k : ∀ M2, Inv M2 M2 → XW G p e s m below meth c b 1745 (lvL G b i) [] M2) : XW G p e s m below meth c b 1732 (lvL G b i) [] M := by
  obtain ⟨r, M1, M2, h1, h2, h3⟩ := (q_again).pair hI
  refine LW_aload (a := 2) C dL_law_1732 rfl rfl rfl ?_
  refine LW_call (j := 0) (av := []) (st := []) C cv_L_221 rfl (c_X11_again G M) h1 (by decide) rfl rfl (Nat.le_of_ble_eq_true rfl) dL_law_1733 rfl ?_
  refine LW_aload (a := 1) C dL_law_1736 rfl rfl rfl ?_
  refine LW_call (j := 94) (av := []) (st := [.int r]) C cv_L_224 rfl (c_X12_again G M1) h2 (by decide) rfl rfl (Nat.le_of_ble_eq_true rfl) dL_law_1737 rfl ?_
  refine LW_same C dL_law_1740 (by decide) ?_
  exact k M2 h3

/-! RULES of the memory -/
/-- o where the index lies in the row -/
def ck {α : Type} (x : Int32) (n : Nat) (o : Option α) : Option α := if x < 0 ∨ n ≤ x.toNatClampNeg then none else o
abbrev ui (x : Int32) : Nat := x.toNatClampNeg
/-- a field's word: class number, slot, kind (0 int, 1 long, 2 reference) -/
def Fl (own : String) (idx ci j kd : Nat) : Prop := ∃ (C : String) (T : u_T) (N : Nat), vwCl[ci]? = some (C, T, N) ∧ j < N ∧ ci < 20 ∧ (ly_kd ci)[j]? = some kd ∧ (∀ w ∈ u_ws C T N, w ∈ tb) ∧ Cond.fieldLink own idx (T j).1 (T j).2.1 (T j).2.2.1 ∈ tb
/-- a field that is written outside of constructors -/
def Fp (own : String) (idx ci j kd : Nat) (ty : FieldType) : Prop := ∃ (C : String) (T : u_T) (N : Nat) (ty0 : Nat → FieldType), vwCl[ci]? = some (C, T, N) ∧ j < N ∧ ci < 20 ∧ (ly_kd ci)[j]? = some kd ∧ (∀ w ∈ u_ws C T N, w ∈ tb) ∧ Cond.fieldLink own idx (T j).1 (T j).2.1 (T j).2.2.1 ∈ tb ∧ (∀ k, k < N → parseFieldDescriptor (T k).2.2.1 = some (ty0 k)) ∧ (∀ a, a < N → ∀ b, b < N → a ≠ b → (T a).2.1 ≠ (T b).2.1) ∧ (T j).2.2.2 = false ∧ parseFieldDescriptor (T j).2.2.1 = some ty
section MEM
variable {G : Gm} {mi : Mi} {d pc q : Nat} {lv : List (Nat × Value)} {st : List Value} {M : Mm} {α : Type} {f : α → Option Value × Mm} {o o1 o2 : Option α}
theorem X_getI {i ci j idx : Nat} (F : Fl mi.1.cls idx ci j 0) (ht : ly_ty i = ci) (hd : decode mi.2.1 pc = .ok (.getfield idx, 3)) (hq : pc + 3 = q) (k : X f G mi d q lv (.int (gi M i j) :: st) M o) : X f G mi d pc lv (.ref (ga G i) :: st) M o := by
  subst hq
  intro r ho p e s m args below meth c H locs ls C
  obtain ⟨cC, T, N, h1, h2, h3, h4, h5, h6⟩ := F
  have hi := lt_of_ty ht (by omega)
  exact va_get C.1 C.2.1 C.2.2.2.2.2.2.1 h5 C.2.2.2.2.2.1 C.2.2.2.2.2.2.2.1 C.2.2.2.2.2.2.2.2.1 i (by rw [wd_at hi, cel_obj ht h3]) h1 j h2 (C.2.2.2.2.2.2.1 _ h6) (fun _ h9 => h9) (fs_at ht h4) hd (k r ho p e s m args below meth c H locs ls C)
theorem X_getL {i ci j idx : Nat} (F : Fl mi.1.cls idx ci j 1) (ht : ly_ty i = ci) (hd : decode mi.2.1 pc = .ok (.getfield idx, 3)) (hq : pc + 3 = q) (k : X f G mi d q lv (.long (gl M) :: st) M o) : X f G mi d pc lv (.ref (ga G i) :: st) M o := by
  subst hq
  intro r ho p e s m args below meth c H locs ls C
  obtain ⟨cC, T, N, h1, h2, h3, h4, h5, h6⟩ := F
  have hi := lt_of_ty ht (by omega)
  exact va_get C.1 C.2.1 C.2.2.2.2.2.2.1 h5 C.2.2.2.2.2.1 C.2.2.2.2.2.2.2.1 C.2.2.2.2.2.2.2.2.1 i (by rw [wd_at hi, cel_obj ht h3]) h1 j h2 (C.2.2.2.2.2.2.1 _ h6) (fun _ h9 => h9) (fs_at ht h4) hd (k r ho p e s m args below meth c H locs ls C)
theorem X_getR {i ci j idx t : Nat} (F : Fl mi.1.cls idx ci j 2) (ht : ly_ty i = ci) (hr : ly_rf i j = t) (hd : decode mi.2.1 pc = .ok (.getfield idx, 3)) (hq : pc + 3 = q) (k : X f G mi d q lv (.ref (ga G t) :: st) M o) : X f G mi d pc lv (.ref (ga G i) :: st) M o := by
  subst hq
  subst hr
  intro r ho p e s m args below meth c H locs ls C
  obtain ⟨cC, T, N, h1, h2, h3, h4, h5, h6⟩ := F
  have hi := lt_of_ty ht (by omega)
  exact va_get C.1 C.2.1 C.2.2.2.2.2.2.1 h5 C.2.2.2.2.2.1 C.2.2.2.2.2.2.2.1 C.2.2.2.2.2.2.2.2.1 i (by rw [wd_at hi, cel_obj ht h3]) h1 j h2 (C.2.2.2.2.2.2.1 _ h6) (fun _ h9 => h9) (fs_at ht h4) hd (k r ho p e s m args below meth c H locs ls C)
theorem X_putT {i ci j idx : Nat} {ty : FieldType} {x : Int32} (F : Fp mi.1.cls idx ci j 0 ty) (ht : ly_ty i = ci) (hn : narrow ty (.int x) = .int x) (hf : fits ty (.int x) = true) (hd : decode mi.2.1 pc = .ok (.putfield idx, 3)) (hq : pc + 3 = q) (k : X f G mi d q lv st (si M i j x) o) : X f G mi d pc lv (.int x :: .ref (ga G i) :: st) M o := by
  subst hq
  intro r ho p e s m args below meth c H locs ls C
  obtain ⟨cC, T, N, ty0, h1, h2, h3, h4, h5, h6, h7, h8, h9, h10⟩ := F
  have hi := lt_of_ty ht (by omega)
  have he : (wd (ga G) (gK G) M).set i (ga G i, .inr (ci, (ly_fs (ga G) M i).set j (.int x))) = wd (ga G) (gK G) (si M i j x) := wd_set hi (by rw [cel_obj ht h3, fs_set_int (by rw [ht]; exact h4)]) (fun c9 _ hc9 => cel_ne (si_ne hc9) rfl)
  refine va_put C.1 C.2.1 C.2.2.2.2.2.2.1 h5 ty0 h7 h8 C.2.2.2.2.2.1 C.2.2.2.2.2.2.2.1 C.2.2.2.2.2.2.2.2.1 C.2.2.2.2.2.2.2.2.2.1 C.2.2.2.2.2.2.2.2.2.2.2.1 i (by rw [wd_at hi, cel_obj ht h3]) h1 j h2 (C.2.2.2.2.2.2.1 _ h6) (fun _ h => h) h9 h10 hn hf (by rw [fs_len ht]; exact (List.getElem?_eq_some_iff.mp h4).1) hd (fun H1 locs1 hP hD hS => ?_)
  rw [he] at hP hD
  exact k r ho p e s m args below meth c H1 locs1 ls (C.mem hP hD hS)
theorem X_putI {i ci j idx : Nat} {x : Int32} (F : Fp mi.1.cls idx ci j 0 .int) (ht : ly_ty i = ci) (hd : decode mi.2.1 pc = .ok (.putfield idx, 3)) (hq : pc + 3 = q) (k : X f G mi d q lv st (si M i j x) o) : X f G mi d pc lv (.int x :: .ref (ga G i) :: st) M o := X_putT F ht rfl rfl hd hq k
/-- a boolean's store: 0 or 1 -/
def bl {α : Type} (x : Int32) (o : Option α) : Option α := if x = 0 ∨ x = 1 then o else none
theorem X_putZ {i ci j idx : Nat} {x : Int32} (F : Fp mi.1.cls idx ci j 0 .boolean) (ht : ly_ty i = ci) (hd : decode mi.2.1 pc = .ok (.putfield idx, 3)) (hq : pc + 3 = q) (k : X f G mi d q lv st (si M i j x) o) : X f G mi d pc lv (.int x :: .ref (ga G i) :: st) M (bl x o) := by
  unfold bl
  refine X_if (fun h => ?_) (fun _ => X_none)
  rcases h with rfl | rfl
  · exact X_putT F ht (by decide) (by decide) hd hq k
  · exact X_putT F ht (by decide) (by decide) hd hq k
theorem fs_set_long {A : Nat → Nat} {M : Mm} {i j : Nat} {x : Int64} (hk : (ly_kd (ly_ty i))[j]? = some 1) (hu : ∀ k, (ly_kd (ly_ty i))[k]? = some 1 → k = j) : (ly_fs A M i).set j (.long x) = ly_fs A (sl M x) i := by
  apply List.ext_getElem?
  intro k
  have hl : j < (ly_kd (ly_ty i)).length := (List.getElem?_eq_some_iff.mp hk).1
  unfold ly_fs
  by_cases hkj : k = j
  · subst hkj
    rw [List.getElem?_set_self (by simpa using hl), List.getElem?_mapIdx, hk]
    simp [ly_fv, sl]
  · rw [List.getElem?_set_ne (Ne.symm hkj), List.getElem?_mapIdx, List.getElem?_mapIdx]
    cases hx : (ly_kd (ly_ty i))[k]? with
    | none => rfl
    | some y =>
      have : y ≠ 1 := fun h => hkj (hu k (by rw [hx, h]))
      simp [ly_fv, sl, this]
theorem cel_long {A : Nat → Nat} {K : Nat → ClassId} {M : Mm} {x : Int64} {c : Nat} (hc : c < ly_N) (hn : c ≠ 94) : ly_cel A K (sl M x) c = ly_cel A K M c := by
  have hk := long_only c hc hn
  have h : ly_fs A (sl M x) c = ly_fs A M c := by
    unfold ly_fs
    apply List.ext_getElem?
    intro k
    rw [List.getElem?_mapIdx, List.getElem?_mapIdx]
    cases hx : (ly_kd (ly_ty c))[k]? with
    | none => rfl
    | some y =>
      have : y ≠ 1 := hk y (List.mem_of_getElem? hx)
      simp [ly_fv, sl, this]
  unfold ly_cel
  rw [h]
  rfl
theorem X_putL {j idx : Nat} {x : Int64} (F : Fp mi.1.cls idx 12 j 1 .long) (hu : ∀ k, (ly_kd 12)[k]? = some 1 → k = j) (hd : decode mi.2.1 pc = .ok (.putfield idx, 3)) (hq : pc + 3 = q) (k : X f G mi d q lv st (sl M x) o) : X f G mi d pc lv (.long x :: .ref (ga G 94) :: st) M o := by
  subst hq
  have ht : ly_ty 94 = 12 := rfl
  intro r ho p e s m args below meth c H locs ls C
  obtain ⟨cC, T, N, ty0, h1, h2, h3, h4, h5, h6, h7, h8, h9, h10⟩ := F
  have hi := lt_of_ty ht (by omega)
  have he : (wd (ga G) (gK G) M).set 94 (ga G 94, .inr (12, (ly_fs (ga G) M 94).set j (.long x))) = wd (ga G) (gK G) (sl M x) := wd_set hi (by rw [cel_obj ht h3, fs_set_long (by rw [ht]; exact h4) (by rw [ht]; exact hu)]) (fun c9 h9 hc9 => cel_long h9 hc9)
  refine va_put C.1 C.2.1 C.2.2.2.2.2.2.1 h5 ty0 h7 h8 C.2.2.2.2.2.1 C.2.2.2.2.2.2.2.1 C.2.2.2.2.2.2.2.2.1 C.2.2.2.2.2.2.2.2.2.1 C.2.2.2.2.2.2.2.2.2.2.2.1 94 (by rw [wd_at hi, cel_obj ht h3]) h1 j h2 (C.2.2.2.2.2.2.1 _ h6) (fun _ h => h) h9 h10 rfl rfl (by rw [fs_len ht]; exact (List.getElem?_eq_some_iff.mp h4).1) hd (fun H1 locs1 hP hD hS => ?_)
  rw [he] at hP hD
  exact k r ho p e s m args below meth c H1 locs1 ls (C.mem hP hD hS)
theorem ck_in {α : Type} {x : Int32} {n : Nat} {oo : Option α} {r : α} (h : ck x n oo = some r) : vp_in x n ∧ oo = some r := by
  unfold ck at h
  split at h
  · cases h
  · exact ⟨‹_›, h⟩
theorem in_ui {x : Int32} {n : Nat} (h : vp_in x n) : ui x < n := Nat.not_le.mp fun q => h (Or.inr q)
theorem X_iald {i n : Nat} {x : Int32} (ht : ly_ty i = 20) (hn : ly_ln i = n) (hd : decode mi.2.1 pc = .ok (.iaload, 1)) (hq : pc + 1 = q) (k : X f G mi d q lv (.int (gi M i (ui x)) :: st) M o) : X f G mi d pc lv (.int x :: .ref (ga G i) :: st) M (ck x n o) := by
  subst hq
  subst hn
  have hi := lt_of_ty ht (by omega)
  intro r ho p e s m args below meth c H locs ls C
  obtain ⟨hin, ho⟩ := ck_in ho
  exact va_iald C.1 C.2.1 C.2.2.2.2.2.2.2.1 C.2.2.2.2.2.2.2.2.1 i 0 (by rw [wd_at hi, cel_int ht]; rfl) rfl hin hd (k r ho p e s m args below meth c H locs ls C)
theorem X_bald {i n : Nat} {x : Int32} (ht : ly_ty i = 21) (hn : ly_ln i = n) (hd : decode mi.2.1 pc = .ok (.baload, 1)) (hq : pc + 1 = q) (k : X f G mi d q lv (.int (gi M i (ui x)) :: st) M o) : X f G mi d pc lv (.int x :: .ref (ga G i) :: st) M (ck x n o) := by
  subst hq
  subst hn
  have hi := lt_of_ty ht (by omega)
  intro r ho p e s m args below meth c H locs ls C
  obtain ⟨hin, ho⟩ := ck_in ho
  exact va_bald C.1 C.2.1 C.2.2.2.2.2.2.2.1 C.2.2.2.2.2.2.2.2.1 i 1 (by rw [wd_at hi, cel_byte ht]; rfl) rfl hin hd (k r ho p e s m args below meth c H locs ls C)
theorem X_iast {i n : Nat} {x y : Int32} (ht : ly_ty i = 20) (hn : ly_ln i = n) (hd : decode mi.2.1 pc = .ok (.iastore, 1)) (hq : pc + 1 = q) (k : X f G mi d q lv st (si M i (ui x) y) o) : X f G mi d pc lv (.int y :: .int x :: .ref (ga G i) :: st) M (ck x n o) := by
  subst hq
  subst hn
  have hi := lt_of_ty ht (by omega)
  intro r ho p e s m args below meth c H locs ls C
  obtain ⟨hin, ho⟩ := ck_in ho
  refine va_iast C.1 C.2.1 C.2.2.2.2.2.2.2.1 C.2.2.2.2.2.2.2.2.1 C.2.2.2.2.2.2.2.2.2.1 C.2.2.2.2.2.2.2.2.2.2.2.1 i 0 (by rw [wd_at hi, cel_int ht]) rfl hin hd (fun H1 locs1 hP hD hS => ?_)
  rw [wd_set hi (M' := si M i (ui x) y) (by rw [cel_int ht, si_eq]) (fun c9 _ hc9 => cel_ne (si_ne hc9) rfl)] at hP hD
  exact k r ho p e s m args below meth c H1 locs1 ls (C.mem hP hD hS)
theorem X_bast {i n : Nat} {x y : Int32} (ht : ly_ty i = 21) (hn : ly_ln i = n) (hd : decode mi.2.1 pc = .ok (.bastore, 1)) (hq : pc + 1 = q) (k : X f G mi d q lv st (si M i (ui x) (vp_nar .byte y)) o) : X f G mi d pc lv (.int y :: .int x :: .ref (ga G i) :: st) M (ck x n o) := by
  subst hq
  subst hn
  have hi := lt_of_ty ht (by omega)
  intro r ho p e s m args below meth c H locs ls C
  obtain ⟨hin, ho⟩ := ck_in ho
  refine va_bast C.1 C.2.1 C.2.2.2.2.2.2.2.1 C.2.2.2.2.2.2.2.2.1 C.2.2.2.2.2.2.2.2.2.1 C.2.2.2.2.2.2.2.2.2.2.2.1 i 1 (by rw [wd_at hi, cel_byte ht]) rfl hin hd (fun H1 locs1 hP hD hS => ?_)
  rw [wd_set hi (M' := si M i (ui x) (vp_nar .byte y)) (by rw [cel_byte ht, si_eq]) (fun c9 _ hc9 => cel_ne (si_ne hc9) rfl)] at hP hD
  exact k r ho p e s m args below meth c H1 locs1 ls (C.mem hP hD hS)
theorem X_aald {i n t : Nat} {x : Int32} (ht : ly_ty i = t) (h1 : t = 22 ∨ t = 23 ∨ t = 24) (hn : ly_ln i = n) (hd : decode mi.2.1 pc = .ok (.aaload, 1)) (hq : pc + 1 = q) (k : ui x < n → X f G mi d q lv (.ref (ga G (ly_rf i (ui x))) :: st) M o) : X f G mi d pc lv (.int x :: .ref (ga G i) :: st) M (ck x n o) := by
  subst hq
  subst hn
  have hi := lt_of_ty ht (by omega)
  intro r ho p e s m args below meth c H locs ls C
  obtain ⟨hin, ho⟩ := ck_in ho
  have hlt := in_ui hin
  have hk := k hlt r ho p e s m args below meth c H locs ls C
  have hce := cel_ref (A := ga G) (K := gK G) (M := M) ht (by omega) (by omega)
  have hty : ∃ ty : FieldType, (ty5 (gK G))[t - 20]? = some (gK G (t - 20), ty) ∧ ty.isReference = true := by
    rcases h1 with rfl | rfl | rfl
    · exact ⟨_, rfl, rfl⟩
    · exact ⟨_, rfl, rfl⟩
    · exact ⟨_, rfl, rfl⟩
  obtain ⟨ty, ht2, hre⟩ := hty
  have hP := C.2.2.2.2.2.2.2.2.1 i _ (wd_at hi)
  rw [hce] at hP
  exact W.aald (v := va_rf (some (ga G (ly_rf i (ui x))))) (ty := ty) C.1 C.2.1 hP ((C.2.2.2.2.2.2.2.1.2 (t - 20) _ ht2).1 (ly_ln i) (fun j => va_rf (some (ga G (ly_rf i j))))) hre (fun q => by cases q) (by show ¬ (x < 0 ∨ (arrV _ _ _).slots.size ≤ _); rw [arrV_size]; exact hin) (by show (arrV _ _ _).slots[_]? = _; rw [arrV_read _ _ hlt]) rfl rfl hd hk
theorem X_alen {i t : Nat} {w : Int32} (ht : ly_ty i = t) (h1 : t = 20 ∨ t = 21) (hn : Int32.ofNat (ly_ln i) = w) (hd : decode mi.2.1 pc = .ok (.arraylength, 1)) (hq : pc + 1 = q) (k : X f G mi d q lv (.int w :: st) M o) : X f G mi d pc lv (.ref (ga G i) :: st) M o := by
  subst hq
  have hi := lt_of_ty ht (by omega)
  intro r ho p e s m args below meth c H locs ls C
  rcases h1 with rfl | rfl
  · exact va_alen C.1 C.2.1 C.2.2.2.2.2.2.2.1 C.2.2.2.2.2.2.2.2.1 i 0 (by rw [wd_at hi, cel_int ht]) rfl hn hd (k r ho p e s m args below meth c H locs ls C)
  · exact va_alen C.1 C.2.1 C.2.2.2.2.2.2.2.1 C.2.2.2.2.2.2.2.2.1 i 1 (by rw [wd_at hi, cel_byte ht]) rfl hn hd (k r ho p e s m args below meth c H locs ls C)
/-- the ends -/
theorem Cx.good {p : Program} {s : State} {m : MethodId} {args : Array Value} {meth : Method} {c : Code} {H : Heap} {locs : List Loc} {ls : Array Slot} (C : Cx G mi p s m args meth c H locs ls lv M) {U : State} (hU : U.heap = H) (hW : s.WarmedH U.vm) : Gd G M U := ⟨by rw [hU]; exact C.2.2.2.2.2.2.2.2.1, va_K.moved hW.alike C.2.2.2.2.2.2.2.1, C.2.2.2.2.2.2.2.2.2.1, C.2.2.2.2.2.2.2.2.2.2.1.step C.2.2.2.2.2.2.2.2.2.2.2.1 hU hW⟩
theorem X_iretT {x : Int32} {ty : FieldType} {r : α} (hr : mi.2.2.2 = some ty) (hf : f r = (some (.int x), M)) (hn : narrow ty (.int x) = .int x) (hd : decode mi.2.1 pc = .ok (.ireturn, 1)) : X f G mi d pc lv [.int x] M (some r) := by
  intro r2 ho p e s m args below meth c H locs ls C
  cases ho
  rw [hf]
  exact W.zret (ty := ty) C.1 C.2.1 (C.2.2.2.1.trans hr) hn (fun t ht hW => ⟨⟨rfl, C.good ht hW⟩, C.2.2.2.2.2.2.2.2.2.2.2.1.F ht⟩) C.2.2.2.2.2.2.2.2.2.2.2.1.2.2 hd C.2.2.2.2.1
/-- how answers are read: an int and the memory as it was; an int and a memory; a memory -/
abbrev fI (M : Mm) : Int32 → Option Value × Mm := fun r => (some (.int r), M)
abbrev fJ : Int32 × Mm → Option Value × Mm := fun r => (some (.int r.1), r.2)
abbrev fV : Mm → Option Value × Mm := fun r => (none, r)
theorem X_iretI {x : Int32} (hr : mi.2.2.2 = some .int) (hd : decode mi.2.1 pc = .ok (.ireturn, 1)) : X (fI M) G mi d pc lv [.int x] M (some x) := X_iretT hr rfl rfl hd
theorem X_iretJ {x : Int32} (hr : mi.2.2.2 = some .int) (hd : decode mi.2.1 pc = .ok (.ireturn, 1)) : X fJ G mi d pc lv [.int x] M (some (x, M)) := X_iretT hr rfl rfl hd
theorem X_zretI {x : Int32} (hr : mi.2.2.2 = some .boolean) (hd : decode mi.2.1 pc = .ok (.ireturn, 1)) : X (fI M) G mi d pc lv [.int x] M (bl x (some x)) := by
  unfold bl
  refine X_if (fun h => ?_) (fun _ => X_none)
  rcases h with rfl | rfl
  · exact X_iretT hr rfl (by decide) hd
  · exact X_iretT hr rfl (by decide) hd
theorem X_zretJ {x : Int32} (hr : mi.2.2.2 = some .boolean) (hd : decode mi.2.1 pc = .ok (.ireturn, 1)) : X fJ G mi d pc lv [.int x] M (bl x (some (x, M))) := by
  unfold bl
  refine X_if (fun h => ?_) (fun _ => X_none)
  rcases h with rfl | rfl
  · exact X_iretT hr rfl (by decide) hd
  · exact X_iretT hr rfl (by decide) hd
theorem X_vret (hr : mi.2.2.2 = none) (hd : decode mi.2.1 pc = .ok (.return_, 1)) : X fV G mi d pc lv [] M (some M) := by
  intro r ho p e s m args below meth c H locs ls C
  cases ho
  exact W.vret C.1 C.2.1 (C.2.2.2.1.trans hr) (fun t ht hW => ⟨⟨rfl, C.good ht hW⟩, C.2.2.2.2.2.2.2.2.2.2.2.1.F ht⟩) C.2.2.2.2.2.2.2.2.2.2.2.1.2.2 hd C.2.2.2.2.1
end MEM

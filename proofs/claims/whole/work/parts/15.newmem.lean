/-! CONSTRUCTORS: what makes cells and writes them -/
theorem nd_of : ∀ {l : List Nat}, l.Nodup → va_nd l = true
  | [], _ => rfl
  | a :: l, h => by
    rw [List.nodup_cons] at h
    simp [va_nd, h.1, nd_of h.2]
def Of (own : String) (idx : Nat) : Prop := Cond.methodLink own idx Lib.objectInit ∈ tb ∧ Cond.instanceMethod Lib.objectInit ∈ tb ∧ Cond.code Lib.objectInit ⟨#[0xb1]⟩ 1 none ∈ tb
def Nf (own : String) (idx ci : Nat) (fs : List Value) : Prop := ∃ (C : String) (T : u_T) (N : Nat) (ty : Nat → FieldType), vwCl[ci]? = some (C, T, N) ∧ (∀ w ∈ u_ws C T N, w ∈ tb) ∧ (∀ k, k < N → parseFieldDescriptor (T k).2.2.1 = some (ty k)) ∧ Cond.classLink own idx C ∈ tb ∧ Cond.instantiable C N ∈ tb ∧ Cond.initialized C ∈ tb ∧ (∀ j, j < N → defaultValue (ty j) = vp_V fs j) ∧ N = fs.length
/-- a final field of the own class, as its constructor writes it -/
def Ff (own : String) (idx ci j : Nat) (ty : FieldType) : Prop := ∃ (C : String) (T : u_T) (N : Nat) (ty0 : Nat → FieldType), vwCl[ci]? = some (C, T, N) ∧ j < N ∧ (∀ w ∈ u_ws C T N, w ∈ tb) ∧ Cond.fieldLink own idx (T j).1 (T j).2.1 (T j).2.2.1 ∈ tb ∧ (∀ k, k < N → parseFieldDescriptor (T k).2.2.1 = some (ty0 k)) ∧ (∀ a, a < N → ∀ b, b < N → a ≠ b → (T a).2.1 ≠ (T b).2.1) ∧ (T j).2.2.2 = true ∧ (T j).1 = own ∧ parseFieldDescriptor (T j).2.2.1 = some ty
section NEWM
variable {l : Launch} {D : va_G} {K : Nat → ClassId} {mi mi2 : Mi} {R : Room} {A : Nat → Prop} {post post2 : va_W → Prop} {mc ms pc q cells slots idx : Nat} {lv : List (Nat × Value)} {st av : List Value} {ws : va_W}
theorem XN_objInit {a : Nat} (F : Of mi.1.cls idx) (h1 : 1 ≤ R.frames) (h2 : 12 ≤ R.locals) (hd : decode mi.2.1 pc = .ok (.invokespecial idx, 3)) (hq : pc + 3 = q) (k : XN l D K mi R A post mc ms q lv [] ws cells slots) : XN l D K mi R A post mc ms pc lv [.ref a] ws cells slots := by
  subst hq
  intro p e s m args below meth c H locs ls C
  have hts := C.2.2.2.2.2.2.1
  exact W.objInit C.1 C.2.1 C.2.2.2.2.2.1 (hts _ F.1) (hts _ F.2.1) (hts _ F.2.2) rfl (C.2.2.2.2.2.2.2.2.2.2.2.2.1.1.trans C.2.2.1.symm) rfl hd h1 (by show 2 * 0 + 0 + 12 ≤ _; omega) (k p e s m args below meth c H locs ls C)
theorem XN_new {ci : Nat} {fs : List Value} (F : Nf mi.1.cls idx ci fs) (h1 : cells + 1 ≤ R.cells) (h2 : slots + fs.length ≤ R.slots) (hd : decode mi.2.1 pc = .ok (.new idx, 3)) (hq : pc + 3 = q) (k : ∀ a, XN l D K mi R A post mc ms q lv (.ref a :: st) (ws ++ [(a, .inr (ci, fs))]) (cells + 1) (slots + fs.length)) : XN l D K mi R A post mc ms pc lv st ws cells slots := by
  subst hq
  intro p e s m args below meth c H locs ls C
  obtain ⟨cC, T, N, ty, f1, f2, f3, f4, f5, f6, f7, f8⟩ := F
  subst f8
  have hts := C.2.2.2.2.2.2.1
  exact va_new C.1 C.2.1 hts f2 ty f3 C.2.2.2.2.2.1 (hts _ f4) (hts _ f5) (hts _ f6) C.2.2.2.2.2.2.2.1 C.2.2.2.2.2.2.2.2.1 C.2.2.2.2.2.2.2.2.2.1 C.2.2.2.2.2.2.2.2.2.2.2.1 C.2.2.2.2.2.2.2.2.2.2.2.2.2.1 f1 f7 h1 h2 hd (fun a H1 hP hD hS => k a p e s m args below meth c H1 locs ls (C.mem hP hD hS))
theorem K_eq {t : Nat} {ty : FieldType} {c1 : ClassId} {s : State} (hK : va_K D vwCl (ty5 K) s) (hK2 : va_K D vwCl (ty5 K ++ [(c1, ty)]) s) (ht : (ty5 K)[t]? = some (K t, ty)) : c1 = K t := by
  have h1 := (hK.2 t _ ht).2
  have h2 := (hK2.2 5 (c1, ty) (by simp)).2
  unfold va_RA at h1 h2
  cases ty with
  | object C =>
    obtain ⟨_, _, _, _, _, h1⟩ := h1
    obtain ⟨_, _, _, _, _, h2⟩ := h2
    exact Option.some.inj (h2.symm.trans h1)
  | _ => exact Option.some.inj (h2.symm.trans h1)
theorem XN_newi {n : Int32} {N : Nat} (hn : ¬ n < 0) (hN : n.toNatClampNeg = N) (hb : N ≤ 1000) (h1 : cells + 1 ≤ R.cells) (h2 : slots + N ≤ R.slots) (hw : Cond.arrayClass .int ∈ tb) (hd : decode mi.2.1 pc = .ok (.newarray .int, 2)) (hq : pc + 2 = q) (k : ∀ a, XN l D K mi R A post mc ms q lv (.ref a :: st) (ws ++ [(a, .inl (K 0, N, .inl (fun _ => 0)))]) (cells + 1) (slots + N)) : XN l D K mi R A post mc ms pc lv (.int n :: st) ws cells slots := by
  subst hq
  intro p e s m args below meth c H locs ls C
  refine va_newa (atype := .int) (ty := .int) (a0 := (N, .inl (fun _ => 0))) C.1 C.2.1 (C.2.2.2.2.2.2.1 _ hw) rfl C.2.2.2.2.2.2.2.1 C.2.2.2.2.2.2.2.2.1 C.2.2.2.2.2.2.2.2.2.1 C.2.2.2.2.2.2.2.2.2.2.2.1 C.2.2.2.2.2.2.2.2.2.2.2.2.2.1 (fun _ => rfl) hn hN (by show N * 4 ≤ _; omega) h1 h2 hd (fun a cA H1 hK2 hP hD hS => ?_)
  have e1 : cA = K 0 := K_eq (t := 0) C.2.2.2.2.2.2.2.1 hK2 rfl
  subst e1
  exact k a p e s m args below meth c H1 locs ls (C.mem hP hD hS)
theorem XN_newb {n : Int32} {N : Nat} (hn : ¬ n < 0) (hN : n.toNatClampNeg = N) (hb : N ≤ 1000) (h1 : cells + 1 ≤ R.cells) (h2 : slots + N ≤ R.slots) (hw : Cond.arrayClass .byte ∈ tb) (hd : decode mi.2.1 pc = .ok (.newarray .byte, 2)) (hq : pc + 2 = q) (k : ∀ a, XN l D K mi R A post mc ms q lv (.ref a :: st) (ws ++ [(a, .inl (K 1, N, .inl (fun _ => 0)))]) (cells + 1) (slots + N)) : XN l D K mi R A post mc ms pc lv (.int n :: st) ws cells slots := by
  subst hq
  intro p e s m args below meth c H locs ls C
  refine va_newa (atype := .byte) (ty := .byte) (a0 := (N, .inl (fun _ => 0))) C.1 C.2.1 (C.2.2.2.2.2.2.1 _ hw) rfl C.2.2.2.2.2.2.2.1 C.2.2.2.2.2.2.2.2.1 C.2.2.2.2.2.2.2.2.2.1 C.2.2.2.2.2.2.2.2.2.2.2.1 C.2.2.2.2.2.2.2.2.2.2.2.2.2.1 (fun _ => rfl) hn hN (by show N * 1 ≤ _; omega) h1 h2 hd (fun a cA H1 hK2 hP hD hS => ?_)
  have e1 : cA = K 1 := K_eq (t := 1) C.2.2.2.2.2.2.2.1 hK2 rfl
  subst e1
  exact k a p e s m args below meth c H1 locs ls (C.mem hP hD hS)
theorem XN_newq {n : Int32} {N t : Nat} {E : String} (ht : (ty5 K)[t]? = some (K t, .object E)) (hE : E = RX3 ∨ E = RX0) (hn : ¬ n < 0) (hN : n.toNatClampNeg = N) (hb : N ≤ 1000) (h1 : cells + 1 ≤ R.cells) (h2 : slots + N ≤ R.slots) (hw : Cond.classLink mi.1.cls idx E ∈ tb) (hd : decode mi.2.1 pc = .ok (.anewarray idx, 3)) (hq : pc + 3 = q) (k : ∀ a, XN l D K mi R A post mc ms q lv (.ref a :: st) (ws ++ [(a, .inl (K t, N, .inr (.inr (.inr (.inr (fun _ => none))))))]) (cells + 1) (slots + N)) : XN l D K mi R A post mc ms pc lv (.int n :: st) ws cells slots := by
  subst hq
  intro p e s m args below meth c H locs ls C
  have hao : va_AO E s := by
    rcases hE with rfl | rfl
    · exact C.2.2.2.2.2.2.2.2.2.2.1.2.2.1
    · exact C.2.2.2.2.2.2.2.2.2.2.1.2.2.2.1
  refine va_newq C.1 C.2.1 C.2.2.2.2.2.1 (C.2.2.2.2.2.2.1 _ hw) hao C.2.2.2.2.2.2.2.1 C.2.2.2.2.2.2.2.2.1 C.2.2.2.2.2.2.2.2.2.1 C.2.2.2.2.2.2.2.2.2.2.2.1 C.2.2.2.2.2.2.2.2.2.2.2.2.2.1 hn hN (by omega) h1 h2 hd (fun a cA H1 hK2 hP hD hS => ?_)
  have e1 : cA = K t := K_eq (t := t) C.2.2.2.2.2.2.2.1 hK2 ht
  subst e1
  exact k a p e s m args below meth c H1 locs ls (C.mem hP hD hS)
theorem XN_putF {a ci j i : Nat} {ty : FieldType} {v : Value} {fs : List Value} (F : Ff mi.1.cls idx ci j ty) (hin : mi.1.name = "<init>") (he : ws[i]? = some (a, .inr (ci, fs))) (hl : j < fs.length) (hn : narrow ty v = v) (hf : fits ty v = true) (hd : decode mi.2.1 pc = .ok (.putfield idx, 3)) (hq : pc + 3 = q) (k : XN l D K mi R A post mc ms q lv st (ws.set i (a, .inr (ci, fs.set j v))) cells slots) : XN l D K mi R A post mc ms pc lv (v :: .ref a :: st) ws cells slots := by
  subst hq
  intro p e s m args below meth c H locs ls C
  obtain ⟨cC, T, N, ty0, f1, f2, f3, f4, f5, f6, f7, f8, f9⟩ := F
  have hts := C.2.2.2.2.2.2.1
  exact va_putF C.1 C.2.1 hts f3 ty0 f5 f6 C.2.2.2.2.2.1 C.2.2.2.2.2.2.2.1 C.2.2.2.2.2.2.2.2.1 C.2.2.2.2.2.2.2.2.2.1 C.2.2.2.2.2.2.2.2.2.2.2.1 i he f1 j f2 (hts _ f4) (fun _ h => h) f7 (C.2.2.2.2.2.2.2.2.2.2.2.2.2.2.trans hin) f8 f9 hn hf hl hd (fun H1 locs1 hP hD hS => k p e s m args below meth c H1 locs1 ls (C.mem hP hD hS))
theorem XN_putI {a ci j i kd : Nat} {x : Int32} {fs : List Value} (F : Fp mi.1.cls idx ci j kd .int) (he : ws[i]? = some (a, .inr (ci, fs))) (hl : j < fs.length) (hd : decode mi.2.1 pc = .ok (.putfield idx, 3)) (hq : pc + 3 = q) (k : XN l D K mi R A post mc ms q lv st (ws.set i (a, .inr (ci, fs.set j (.int x)))) cells slots) : XN l D K mi R A post mc ms pc lv (.int x :: .ref a :: st) ws cells slots := by
  subst hq
  intro p e s m args below meth c H locs ls C
  obtain ⟨cC, T, N, ty0, h1, h2, h3, h4, h5, h6, h7, h8, h9, h10⟩ := F
  have hts := C.2.2.2.2.2.2.1
  exact va_put C.1 C.2.1 hts h5 ty0 h7 h8 C.2.2.2.2.2.1 C.2.2.2.2.2.2.2.1 C.2.2.2.2.2.2.2.2.1 C.2.2.2.2.2.2.2.2.2.1 C.2.2.2.2.2.2.2.2.2.2.2.1 i he h1 j h2 (hts _ h6) (fun _ h => h) h9 h10 rfl rfl hl hd (fun H1 locs1 hP hD hS => k p e s m args below meth c H1 locs1 ls (C.mem hP hD hS))
theorem XN_get {a ci j i kd : Nat} {v : Value} {fs : List Value} (F : Fl mi.1.cls idx ci j kd) (he : ws[i]? = some (a, .inr (ci, fs))) (hv : fs[j]? = some v) (hd : decode mi.2.1 pc = .ok (.getfield idx, 3)) (hq : pc + 3 = q) (k : XN l D K mi R A post mc ms q lv (v :: st) ws cells slots) : XN l D K mi R A post mc ms pc lv (.ref a :: st) ws cells slots := by
  subst hq
  intro p e s m args below meth c H locs ls C
  obtain ⟨cC, T, N, h1, h2, h3, h4, h5, h6⟩ := F
  have hts := C.2.2.2.2.2.2.1
  exact va_get C.1 C.2.1 hts h5 C.2.2.2.2.2.1 C.2.2.2.2.2.2.2.1 C.2.2.2.2.2.2.2.2.1 i he h1 j h2 (hts _ h6) (fun _ h => h) hv hd (k p e s m args below meth c H locs ls C)
theorem XN_iast {a i n : Nat} {f : Nat → Int32} {x y : Int32} (he : ws[i]? = some (a, .inl (K 0, n, .inl f))) (hin : vp_in x n) (hd : decode mi.2.1 pc = .ok (.iastore, 1)) (hq : pc + 1 = q) (k : XN l D K mi R A post mc ms q lv st (ws.set i (a, .inl (K 0, n, .inl (upd f x.toNatClampNeg y)))) cells slots) : XN l D K mi R A post mc ms pc lv (.int y :: .int x :: .ref a :: st) ws cells slots := by
  subst hq
  intro p e s m args below meth c H locs ls C
  exact va_iast C.1 C.2.1 C.2.2.2.2.2.2.2.1 C.2.2.2.2.2.2.2.2.1 C.2.2.2.2.2.2.2.2.2.1 C.2.2.2.2.2.2.2.2.2.2.2.1 i 0 he rfl hin hd (fun H1 locs1 hP hD hS => k p e s m args below meth c H1 locs1 ls (C.mem hP hD hS))
theorem XN_astq {a i i2 n t v ci : Nat} {E : String} {f : Nat → Option Nat} {x : Int32} {fs : List Value} {cq : vw_C} (ht : (ty5 K)[t]? = some (K t, .object E)) (he : ws[i]? = some (a, .inl (K t, n, .inr (.inr (.inr (.inr f)))))) (he2 : ws[i2]? = some (v, .inr (ci, fs))) (hc : vwCl[ci]? = some cq) (hE : cq.1 = E ∨ (cq.1, E) ∈ castL) (hin : vp_in x n) (hd : decode mi.2.1 pc = .ok (.aastore, 1)) (hq : pc + 1 = q) (k : XN l D K mi R A post mc ms q lv st (ws.set i (a, .inl (K t, n, .inr (.inr (.inr (.inr (va_up f x.toNatClampNeg (some v)))))))) cells slots) : XN l D K mi R A post mc ms pc lv (.ref v :: .int x :: .ref a :: st) ws cells slots := by
  subst hq
  intro p e s m args below meth c H locs ls C
  refine vb_astq (C := cq.1) C.1 C.2.1 C.2.2.2.2.2.2.2.1 C.2.2.2.2.2.2.2.2.1 C.2.2.2.2.2.2.2.2.2.1 C.2.2.2.2.2.2.2.2.2.2.2.1 i t he ht (va_recv C.2.2.2.2.2.2.2.1 C.2.2.2.2.2.2.2.2.1 hc he2) (fun comp c0 h1 h2 => ?_) hin hd (fun H1 locs1 hP hD hS => k p e s m args below meth c H1 locs1 ls (C.mem hP hD hS))
  rcases hE with rfl | hE
  · obtain rfl : comp = c0 := Option.some.inj (h1.symm.trans h2)
    exact va_assign (C := cq.1) (by
      have := (C.2.2.2.2.2.2.2.1.1 ci _ hc).2
      rw [Option.some.inj (h1.symm.trans this.1)]
      exact this)
  · exact vb_asgC (C.2.2.2.2.2.2.2.2.2.2.1.2.1 _ hE) comp c0 h1 h2
/-- the call of a constructor of the cell that was made last -/
def Cn (own : String) (idx : Nat) (mi2 : Mi) (n : Nat) : Prop := mi2.1.name = "<init>" ∧ mi2.2.2.2 = none ∧ (Cond.methodLink own idx mi2.1 ∈ tb ∨ ∃ h, (own, idx, mi2.1, h) ∈ nestL) ∧ Cond.instanceMethod mi2.1 ∈ tb ∧ Cond.initialized mi2.1.cls ∈ tb ∧ Cond.code mi2.1 mi2.2.1 mi2.2.2.1 mi2.2.2.2 ∈ tb ∧ (mi2.1.cls ≠ "java/lang/invoke/MethodHandle" ∧ mi2.1.cls ≠ "java/lang/invoke/VarHandle" ∧ (parseMethodDescriptor mi2.1.desc).map (fun d => d.parameters.length) = some n) ∧ mi2.2.2.1 ≤ 40
theorem PN.blind {ws0 : va_W} {sz : Nat} : FrameBlind (va_Pc av (PN D K ws0 sz)) := fun a U g mk q => ⟨q.1, q.2.1, q.2.2.1, va_K.moved (u := U) (U := U.calling g mk a) (Vm.Alike.refl U.vm) q.2.2.2.1, q.2.2.2.2.1, q.2.2.2.2.2.same rfl⟩
theorem XN_callI {a d d2 mc2 ms2 n : Nat} {e0 : va_E} {pre : va_W} {st0 : List Value} (hR : R = rmn d mc ms) (F : Cn mi.1.cls idx mi2 n) (hC : CtN l D K mi2 d2 mc2 ms2 (.ref a :: av) [(a, e0)] post2) (hdd : d2 + 1 ≤ d) (hn : av.length = n) (hst : st0 = av.reverse ++ .ref a :: st) (hw : (st.map fun v => v.category).sum ≤ 8) (h1 : cells + mc2 ≤ mc) (h2 : slots + ms2 ≤ ms) (hd : decode mi.2.1 pc = .ok (.invokespecial idx, 3)) (hq : pc + 3 = q) (k : ∀ w1, post2 w1 → XN l D K mi R A post mc ms q lv st (pre ++ w1) (cells + mc2) (slots + ms2)) : XN l D K mi R A post mc ms pc lv st0 (pre ++ [(a, e0)]) cells slots := by
  subst hq
  subst hR
  intro p e s m args below meth c H locs ls C
  obtain ⟨f1, f2, f3, f4, f5, f6, f7, f8⟩ := F
  have hts := C.2.2.2.2.2.2.1
  have hP := C.2.2.2.2.2.2.2.2.1
  have hD := C.2.2.2.2.2.2.2.2.2.1
  have hS := C.2.2.2.2.2.2.2.2.2.2.2.1
  have hA := C.2.2.2.2.2.2.2.2.2.2.2.2.2.1
  have hCe : [pre.length].map (fun i => (pre ++ [(a, e0)])[i]?) = ([(a, e0)] : va_W).map some := by simp
  have hRe : (List.range pre.length).map (fun i => (pre ++ [(a, e0)])[i]?) = pre.map some := by
    apply List.ext_getElem?
    intro i
    rw [List.getElem?_map, List.getElem?_map]
    by_cases hi : i < pre.length
    · rw [List.getElem?_range hi]
      simp [List.getElem?_append_left hi, hi]
    · rw [List.getElem?_eq_none (by simp; omega), List.getElem?_eq_none (by omega)]
      rfl
  have hPc : va_P D vwCl [(a, e0)] H := hP.sub [pre.length] (by simp)
  have hDc : va_D A [(a, e0)] := hD.sub [pre.length] (by simp [va_nd]) hCe
  have hFc := va_free (wc := [(a, e0)]) hD hS hA [pre.length] hCe
  have hpre : PreS s H (va_Pc (.ref a :: av) (PN D K [(a, e0)] H.size)) (.ref a :: av) := ⟨PN.blind, fun U hU hW => ⟨rfl, by rw [hU], by rw [hU]; exact hPc, va_K.moved hW.alike C.2.2.2.2.2.2.2.1, hDc.weaken (fun _ _ _ _ => trivial), C.2.2.2.2.2.2.2.2.2.2.1.warm hW⟩⟩
  have hroom : (rmn d2 mc2 ms2).frames + 1 ≤ (rmn d mc ms).frames ∧ 8 + (mi2.2.2.1 + 11) + (rmn d2 mc2 ms2).locals ≤ (rmn d mc ms).locals := ⟨hdd, by show 8 + (mi2.2.2.1 + 11) + 64 * d2 ≤ 64 * d; omega⟩
  rw [f2] at f6
  have hM := hC H.size
  rw [f2] at hM
  have hrun : va_Run p l e (rmn d mc ms) s m args below meth c H locs cells slots mc2 ms2 (F0 m pc ls st0) st (QN D K (va_A [(a, e0)] H.size) post2 (Value.ref a :: av).toArray) (va_A [(a, e0)] H.size) := by
    rcases f3 with f3 | ⟨h9, f3⟩
    · exact va_runI (Ts := tb) (nL := mi.2.2.1) (ws := Cond.code mi2.1 mi2.2.1 mi2.2.2.1 none :: tb) (As := av) ⟨C.1, C.2.1, C.2.2.1, C.2.2.2.2.2.1, hts⟩ hM ⟨callB_of n hts (tb_cons f6) rfl rfl rfl (hts _ f5) (hts _ f3) f7 hroom, f1, hts _ f4⟩ hpre rfl hn C.2.2.2.2.2.2.2.2.2.2.2.2.1.1 hst (lv_room hw) hd ⟨h1, h2⟩
    · exact va_runIN (Ts := tb) (nL := mi.2.2.1) (ws := Cond.code mi2.1 mi2.2.1 mi2.2.2.1 none :: tb) (As := av) ⟨C.1, C.2.1, C.2.2.1, C.2.2.2.2.2.1, hts⟩ hM ⟨va_cnB n hts (tb_cons f6) rfl rfl rfl (C.2.2.2.2.2.2.2.2.2.2.1.1 _ f3) (hts _ f5) f7 hroom, f1, hts _ f4⟩ hpre rfl hn C.2.2.2.2.2.2.2.2.2.2.2.2.1.1 hst (lv_room hw) hd ⟨h1, h2⟩
  intro T hT Xs
  obtain ⟨v0, st₀, t, T', L, h0, X', hL, e1, e2, ⟨⟨hv, w1, hp1, hP1, hK1, hD1⟩, hz, hk⟩, stp⟩ := hrun T hT Xs
  have hv : v0 = none := by injection hv
  subst hv
  rw [h0] at hz hk
  rw [← e1] at hP1 hz hk
  obtain ⟨hP2, hD2⟩ := va_join (wr := pre) (w1 := w1) hP hD [pre.length] (List.range pre.length) hCe hRe (nd_of List.nodup_range) (fun i hi hj => by rw [List.mem_range] at hi; rw [List.mem_singleton] at hj; omega) hk hFc hP1 hD1
  have hS' : va_S A s.heap T'.heap (locs ++ L) := ⟨Nat.le_trans hS.1 hz, fun q g1 g2 => by rw [hk q (Nat.lt_of_lt_of_le g1 hS.1) (fun z => g2 (hFc q z))]; exact hS.2.1 q g1 g2, fun q hq => by
    rcases List.mem_append.mp hq with h | h
    · exact hS.2.2 q h
    · exact hFc _ (hL q h)⟩
  obtain ⟨t2, a1, b1⟩ := k w1 hp1 p e s m args below meth c T'.heap (locs ++ L) ls (C.mem hP2 hD2 hS') T' rfl X'
  exact ⟨t2, stp t2 a1, b1⟩
end NEWM

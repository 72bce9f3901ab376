/-! CALLS -/
theorem tb_good : GoodIn tb tb := fun w hw => ⟨hw, good_of_word (List.mem_filter.mp hw).2⟩
theorem tb_cons {w : Cond} (h : w ∈ tb) : GoodIn tb (w :: tb) := fun x hx => by
  rcases List.mem_cons.mp hx with rfl | hx
  · exact tb_good _ h
  · exact tb_good _ hx
theorem Gd.calling {G : Gm} {M : Mm} {U : State} {g : JFrame} {mk : MethodId} {a : Array Value} (h : Gd G M U) : Gd G M (U.calling g mk a) := ⟨h.1, va_K.moved (u := U) (U := U.calling g mk a) (Vm.Alike.refl U.vm) h.2.1, h.2.2.1, h.2.2.2.same rfl rfl⟩
theorem blind {G : Gm} {M : Mm} {av : List Value} : FrameBlind (va_Pc av (Gd G M)) := fun a U g mk q => ⟨q.1, q.2.calling⟩
/-- the run of a call: what it says, whatever the call's kind -/
def Ru {β : Type} (g : β → Option Value × Mm) (G : Gm) (mi : Mi) (d pc : Nat) (lv : List (Nat × Value)) (st0 st : List Value) (M : Mm) (o : Option β) : Prop :=
  ∀ r1, o = some r1 → ∀ (p : Program) (e : Env) (s : State) (m : MethodId) (args : Array Value) (below : List Frame) (meth : Method) (c : Code) (H : Heap) (locs : List Loc) (ls : Array Slot), Cx G mi p s m args meth c H locs ls lv M →
    va_Run p (gL G) e (rmd d) s m args below meth c H locs 0 0 0 0 (F0 m pc ls st0) st (QQ G (g r1).1 (g r1).2 #[]) (Rg (ga G))
section CALL
variable {G : Gm} {mi mi2 : Mi} {d d2 pc q idx n : Nat} {lv : List (Nat × Value)} {st st0 av : List Value} {M : Mm} {α β : Type} {f : α → Option Value × Mm} {g : β → Option Value × Mm} {o : Option β}
theorem X_ru {kk : β → Option α} (hR : Ru g G mi d pc lv st0 st M o) (hq : pc + 3 = q) (k : ∀ r1, o = some r1 → X f G mi d q lv ((g r1).1.toList ++ st) (g r1).2 (kk r1)) : X f G mi d pc lv st0 M (o.bind kk) := by
  subst hq
  intro r ho p e s m args below meth c H locs ls C
  cases h1 : o with
  | none => rw [h1] at ho; cases ho
  | some r1 =>
    rw [h1] at ho
    have ho : kk r1 = some r := ho
    intro T hT Xs
    obtain ⟨v0, st₀, t, T', L, h0, X', hL, e1, e2, ⟨⟨hv, hG⟩, hz, hk⟩, stp⟩ := hR r1 h1 p e s m args below meth c H locs ls C T hT Xs
    have hv : v0 = (g r1).1 := by injection hv
    subst hv
    rw [h0] at hz hk
    have hS := C.2.2.2.2.2.2.2.2.2.2.2.1
    have hS' : va_S (Rg (ga G)) s.heap T'.heap (locs ++ L) := ⟨Nat.le_trans hS.1 (by rw [e1]; exact hz), fun q h1 h2 => by rw [e1, hk q (Nat.lt_of_lt_of_le h1 hS.1) h2]; exact hS.2.1 q h1 h2, fun q hq => by
      rcases List.mem_append.mp hq with h | h
      · exact hS.2.2 q h
      · exact hL q h⟩
    obtain ⟨t2, a1, b1⟩ := k r1 h1 r ho p e s m args below meth c T'.heap (locs ++ L) ls (C.mem (by rw [e1]; exact hG.1) hG.2.2.1 hS') T' rfl X'
    exact ⟨t2, stp t2 a1, b1⟩
theorem X_ruI {x : Option Int32} {kk : Int32 → Option α} (hR : Ru (fI M) G mi d pc lv st0 st M x) (hq : pc + 3 = q) (k : ∀ r, X f G mi d q lv (.int r :: st) M (kk r)) : X f G mi d pc lv st0 M (x.bind kk) := X_ru hR hq (fun r _ => k r)
theorem X_ruJ {x : Option (Int32 × Mm)} {kk : Int32 × Mm → Option α} (hR : Ru fJ G mi d pc lv st0 st M x) (hq : pc + 3 = q) (k : ∀ r, X f G mi d q lv (.int r.1 :: st) r.2 (kk r)) : X f G mi d pc lv st0 M (x.bind kk) := X_ru hR hq (fun r _ => k r)
theorem X_ruV {x : Option Mm} {kk : Mm → Option α} (hR : Ru fV G mi d pc lv st0 st M x) (hq : pc + 3 = q) (k : ∀ r, X f G mi d q lv st r (kk r)) : X f G mi d pc lv st0 M (x.bind kk) := X_ru hR hq (fun r _ => k r)
/-- a static method of the own class, or of another -/
def Cs (own : String) (idx : Nat) (mi2 : Mi) (n : Nat) : Prop := Cond.methodLink own idx mi2.1 ∈ tb ∧ Cond.static mi2.1 ∈ tb ∧ Cond.initialized mi2.1.cls ∈ tb ∧ Cond.code mi2.1 mi2.2.1 mi2.2.2.1 mi2.2.2.2 ∈ tb ∧ (mi2.1.cls ≠ "java/lang/invoke/MethodHandle" ∧ mi2.1.cls ≠ "java/lang/invoke/VarHandle" ∧ (parseMethodDescriptor mi2.1.desc).map (fun d => d.parameters.length) = some n) ∧ mi2.2.2.1 ≤ 40
theorem Ru_S (F : Cs mi.1.cls idx mi2 n) (hC : Ct g G mi2 d2 av M o) (hdd : d2 + 1 ≤ d) (hn : av.length = n) (hst : st0 = av.reverse ++ st) (hw : (st.map fun v => v.category).sum ≤ 8) (hd : decode mi.2.1 pc = .ok (.invokestatic idx, 3)) : Ru g G mi d pc lv st0 st M o := by
  intro r1 ho p e s m args below meth c H locs ls C
  obtain ⟨f1, f2, f3, f4, f5, f6⟩ := F
  have hts := C.2.2.2.2.2.2.1
  exact va_runS (Ts := tb) (nL := mi.2.2.1) (ws := Cond.code mi2.1 mi2.2.1 mi2.2.2.1 mi2.2.2.2 :: tb) (As := av) ⟨C.1, C.2.1, C.2.2.1, C.2.2.2.2.2.1, hts⟩ (hC r1 ho) ⟨callB_of n hts (tb_cons f4) rfl rfl rfl (hts _ f3) (hts _ f1) f5 ⟨hdd, by show 8 + (mi2.2.2.1 + 11) + 64 * d2 ≤ 64 * d; omega⟩, hts _ f2⟩ ⟨blind, fun U hU hW => ⟨rfl, C.good hU hW⟩⟩ rfl hn C.2.2.2.2.2.2.2.2.2.2.2.2.1 hst (lv_room hw) hd ⟨Nat.le_refl 0, Nat.le_refl 0⟩
/-- a method of an object of just its class -/
def Cv (own : String) (idx : Nat) (mi2 : Mi) (n ci : Nat) : Prop := Cond.methodLink own idx mi2.1 ∈ tb ∧ Cond.instanceMethod mi2.1 ∈ tb ∧ Cond.selects mi2.1.cls mi2.1 mi2.1 ∈ tb ∧ Cond.initialized mi2.1.cls ∈ tb ∧ Cond.code mi2.1 mi2.2.1 mi2.2.2.1 mi2.2.2.2 ∈ tb ∧ (mi2.1.cls ≠ "java/lang/invoke/MethodHandle" ∧ mi2.1.cls ≠ "java/lang/invoke/VarHandle" ∧ (parseMethodDescriptor mi2.1.desc).map (fun d => d.parameters.length) = some n) ∧ mi2.2.2.1 ≤ 40 ∧ ci < 20 ∧ ∃ T N, vwCl[ci]? = some (mi2.1.cls, T, N)
theorem rv_of {p : Program} {s : State} {m : MethodId} {args : Array Value} {meth : Method} {c : Code} {H : Heap} {locs : List Loc} {ls : Array Slot} {i ci : Nat} {cq : vw_C} (C : Cx G mi p s m args meth c H locs ls lv M) (ht : ly_ty i = ci) (h20 : ci < 20) (hc : vwCl[ci]? = some cq) : ∃ cell : Cell, H[ga G i]? = some cell ∧ cell.vm.isStatics = false ∧ s.vm.findClass cq.1 = some cell.cls :=
  va_recv C.2.2.2.2.2.2.2.1 C.2.2.2.2.2.2.2.2.1 hc (by rw [wd_at (lt_of_ty ht (by omega)), cel_obj ht h20])
theorem Ru_V {i ci : Nat} (F : Cv mi.1.cls idx mi2 n ci) (ht : ly_ty i = ci) (hC : Ct g G mi2 d2 (.ref (ga G i) :: av) M o) (hdd : d2 + 1 ≤ d) (hn : av.length = n) (hst : st0 = av.reverse ++ .ref (ga G i) :: st) (hw : (st.map fun v => v.category).sum ≤ 8) (hd : decode mi.2.1 pc = .ok (.invokevirtual idx, 3)) : Ru g G mi d pc lv st0 st M o := by
  intro r1 ho p e s m args below meth c H locs ls C
  obtain ⟨f1, f2, f3, f4, f5, f6, f7, f8, T, N, f9⟩ := F
  have hts := C.2.2.2.2.2.2.1
  exact va_runV (Ts := tb) (nL := mi.2.2.1) (C := mi2.1.cls) (ws := Cond.code mi2.1 mi2.2.1 mi2.2.2.1 mi2.2.2.2 :: tb) (As := av) ⟨C.1, C.2.1, C.2.2.1, C.2.2.2.2.2.1, hts⟩ (hC r1 ho) ⟨callB_of n hts (tb_cons f5) rfl rfl rfl (hts _ f4) (hts _ f1) f6 ⟨hdd, by show 8 + (mi2.2.2.1 + 11) + 64 * d2 ≤ 64 * d; omega⟩, hts _ f2, hts _ f3⟩ ⟨blind, rv_of C ht f8 f9, fun U hU hW => ⟨rfl, C.good hU hW⟩⟩ rfl hn C.2.2.2.2.2.2.2.2.2.2.2.2.1 hst (lv_room hw) hd ⟨Nat.le_refl 0, Nat.le_refl 0⟩
/-- a method named as Barrel's, of an object of a class Cn under it: run is mi2 (inherited, or overriding); mi0 is the named method's code -/
def Cu (own : String) (idx : Nat) (x : MethodName) (mi0 mi2 : Mi) (n ci : Nat) : Prop := ∃ (Cn : String) (T : u_T) (N : Nat), vwCl[ci]? = some (Cn, T, N) ∧ ci < 20 ∧ Cond.methodLink own idx x ∈ tb ∧ Cond.sameMethod x.cls mi0.1.cls x.name x.desc ∈ tb ∧ Cond.instanceMethod mi0.1 ∈ tb ∧ Cond.selects Cn x mi2.1 ∈ tb ∧ Cond.instanceMethod mi2.1 ∈ tb ∧ Cond.initialized mi2.1.cls ∈ tb ∧ Cond.code mi0.1 mi0.2.1 mi0.2.2.1 mi0.2.2.2 ∈ tb ∧ Cond.code mi2.1 mi2.2.1 mi2.2.2.1 mi2.2.2.2 ∈ tb ∧ (mi0.1.cls ≠ "java/lang/invoke/MethodHandle" ∧ mi0.1.cls ≠ "java/lang/invoke/VarHandle" ∧ (parseMethodDescriptor x.desc).map (fun d => d.parameters.length) = some n) ∧ mi2.2.2.1 ≤ 40 ∧ mi0.1 = ⟨mi0.1.cls, x.name, x.desc⟩
theorem Ru_U {i ci : Nat} {x : MethodName} {mi0 : Mi} (F : Cu mi.1.cls idx x mi0 mi2 n ci) (ht : ly_ty i = ci) (hC : Ct g G mi2 d2 (.ref (ga G i) :: av) M o) (hdd : d2 + 1 ≤ d) (hn : av.length = n) (hst : st0 = av.reverse ++ .ref (ga G i) :: st) (hw : (st.map fun v => v.category).sum ≤ 8) (hd : decode mi.2.1 pc = .ok (.invokevirtual idx, 3)) : Ru g G mi d pc lv st0 st M o := by
  intro r1 ho p e s m args below meth c H locs ls C
  obtain ⟨Cn, T, N, f1, f2, f3, f4, f5, f6, f7, f8, f9, f10, f11, f12, f13⟩ := F
  rw [f13] at f5 f9
  have hts := C.2.2.2.2.2.2.1
  refine va_runU (Ts := tb) (nL := mi.2.2.1) (C := Cn) (owner := mi0.1.cls) (x := x) (ws := Cond.code mi2.1 mi2.2.1 mi2.2.2.1 mi2.2.2.2 :: tb) (As := av) ⟨C.1, C.2.1, C.2.2.1, C.2.2.2.2.2.1, hts⟩ (hC r1 ho) (va_cwO n hts ?_ rfl rfl rfl (h0 := f9) f11 ⟨hdd, by show 8 + (mi2.2.2.1 + 11) + 64 * d2 ≤ 64 * d; omega⟩) ⟨blind, rv_of C ht f2 f1, fun U hU hW => ⟨rfl, C.good hU hW⟩⟩ rfl hn C.2.2.2.2.2.2.2.2.2.2.2.2.1 hst (lv_room hw) hd ⟨Nat.le_refl 0, Nat.le_refl 0⟩
  intro w hw
  unfold va_wsO at hw
  rcases List.mem_append.mp hw with h | h
  · simp only [List.mem_cons, List.not_mem_nil, or_false] at h
    rcases h with rfl | rfl | rfl | rfl | rfl | rfl
    · exact tb_good _ f3
    · exact tb_good _ f4
    · exact tb_good _ f5
    · exact tb_good _ f6
    · exact tb_good _ f7
    · exact tb_good _ f8
  · exact tb_cons f10 w h
/-- super.method(..) -/
def Cp (own : String) (idx : Nat) (mi2 : Mi) (n : Nat) : Prop := Cond.methodLink own idx mi2.1 ∈ tb ∧ Cond.sameMethod mi2.1.cls mi2.1.cls mi2.1.name mi2.1.desc ∈ tb ∧ Cond.superclass own mi2.1.cls ∈ tb ∧ Cond.instanceMethod mi2.1 ∈ tb ∧ Cond.initialized mi2.1.cls ∈ tb ∧ Cond.code mi2.1 mi2.2.1 mi2.2.2.1 mi2.2.2.2 ∈ tb ∧ (mi2.1.name ≠ "<init>" ∧ (parseMethodDescriptor mi2.1.desc).map (fun d => d.parameters.length) = some n) ∧ mi2.2.2.1 ≤ 40
theorem Ru_P {i : Nat} (F : Cp mi.1.cls idx mi2 n) (ht : ly_ty i < 13) (hC : Ct g G mi2 d2 (.ref (ga G i) :: av) M o) (hdd : d2 + 1 ≤ d) (hn : av.length = n) (hst : st0 = av.reverse ++ .ref (ga G i) :: st) (hw : (st.map fun v => v.category).sum ≤ 8) (hd : decode mi.2.1 pc = .ok (.invokespecial idx, 3)) : Ru g G mi d pc lv st0 st M o := by
  intro r1 ho p e s m args below meth c H locs ls C
  obtain ⟨Cn, T, N, f1⟩ : ∃ (Cn : String) (T : u_T) (N : Nat), vwCl[ly_ty i]? = some (Cn, T, N) := ⟨_, _, _, List.getElem?_eq_getElem (l := vwCl) (i := ly_ty i) ht⟩
  have f2 : ly_ty i < 20 := by omega
  obtain ⟨f3, f4, f5, f6, f7, f8, f9, f10⟩ := F
  have hts := C.2.2.2.2.2.2.1
  refine va_runSU (Ts := tb) (nL := mi.2.2.1) (C := Cn) ((C.2.2.2.2.2.2.2.1.1 (ly_ty i) _ f1).2) (ws := Cond.code mi2.1 mi2.2.1 mi2.2.2.1 mi2.2.2.2 :: tb) (As := av) ⟨C.1, C.2.1, C.2.2.1, C.2.2.2.2.2.1, hts⟩ (hC r1 ho) (va_cwSU n hts ?_ rfl rfl rfl f9 ⟨hdd, by show 8 + (mi2.2.2.1 + 11) + 64 * d2 ≤ 64 * d; omega⟩) ⟨blind, rv_of C rfl f2 f1, fun U hU hW => ⟨rfl, C.good hU hW⟩⟩ rfl hn C.2.2.2.2.2.2.2.2.2.2.2.2.1 hst (lv_room hw) hd ⟨Nat.le_refl 0, Nat.le_refl 0⟩
  intro w hw
  unfold va_wsSU at hw
  rcases List.mem_append.mp hw with h | h
  · simp only [List.mem_cons, List.not_mem_nil, or_false] at h
    rcases h with rfl | rfl | rfl | rfl | rfl
    · exact tb_good _ f3
    · exact tb_good _ f4
    · exact tb_good _ f5
    · exact tb_good _ f6
    · exact tb_good _ f7
  · exact tb_cons f8 w h
/-- super.method(..) that the class above inherits itself -/
def Ci (own : String) (idx : Nat) (x : MethodName) (mi2 : Mi) (n : Nat) : Prop := Cond.methodLink own idx x ∈ tb ∧ Cond.sameMethod x.cls mi2.1.cls x.name x.desc ∈ tb ∧ Cond.superclass own x.cls ∈ tb ∧ Cond.superclass x.cls mi2.1.cls ∈ tb ∧ Cond.instanceMethod mi2.1 ∈ tb ∧ Cond.initialized mi2.1.cls ∈ tb ∧ Cond.code mi2.1 mi2.2.1 mi2.2.2.1 mi2.2.2.2 ∈ tb ∧ (x.name ≠ "<init>" ∧ (parseMethodDescriptor x.desc).map (fun d => d.parameters.length) = some n) ∧ mi2.2.2.1 ≤ 40 ∧ mi2.1 = ⟨mi2.1.cls, x.name, x.desc⟩
theorem Ru_I {i : Nat} {x : MethodName} (F : Ci mi.1.cls idx x mi2 n) (ht : ly_ty i < 13) (hC : Ct g G mi2 d2 (.ref (ga G i) :: av) M o) (hdd : d2 + 1 ≤ d) (hn : av.length = n) (hst : st0 = av.reverse ++ .ref (ga G i) :: st) (hw : (st.map fun v => v.category).sum ≤ 8) (hd : decode mi.2.1 pc = .ok (.invokespecial idx, 3)) : Ru g G mi d pc lv st0 st M o := by
  intro r1 ho p e s m args below meth c H locs ls C
  obtain ⟨Cn, T, N, f1⟩ : ∃ (Cn : String) (T : u_T) (N : Nat), vwCl[ly_ty i]? = some (Cn, T, N) := ⟨_, _, _, List.getElem?_eq_getElem (l := vwCl) (i := ly_ty i) ht⟩
  have f2 : ly_ty i < 20 := by omega
  obtain ⟨g1, g2, g3, g4, g5, g6, g7, g8, g9, g10⟩ := F
  have hts := C.2.2.2.2.2.2.1
  have hown := C.2.2.2.2.2.1
  obtain ⟨cellB, hcB, hoB, hclB⟩ := rv_of C rfl f2 f1
  obtain ⟨hclB', kB, hkB, -⟩ := (C.2.2.2.2.2.2.2.1.1 (ly_ty i) _ f1).2
  have hkB' : s.vm.classes[cellB.cls]? = some kB := by
    have : cellB.cls = (gD G).1 (ly_ty i) := Option.some.inj (hclB.symm.trans hclB')
    rw [this]; exact hkB
  have hini := hts _ g6
  have hws : ∀ w ∈ (Cond.code mi2.1 mi2.2.1 mi2.2.2.1 mi2.2.2.2 :: tb), ∀ (a' : Array Value) (U : State), s.WarmedH U.vm → w.before a' U = true := pay_in hts (tb_cons g7)
  have hK : Back (gL G) (rmd d) p e below s args mi2.1 3 8 (PreOf (rmd d) 0 0 (va_Pc (.ref (ga G i) :: av) (Gd G M))) (PostOf (QQ G (g r1).1 (g r1).2) 0 0 (Rg (ga G))) := back_of (bytes := mi2.2.1) (maxL := mi2.2.2.1) (ret := mi2.2.2.2) (hC r1 ho) blind rfl rfl hdd (by show 8 + (mi2.2.2.1 + 11) + 64 * d2 ≤ 64 * d; omega) hws List.mem_cons_self (fun a' U hW => word_at hW (Or.inl (by first | rfl | simp [Cond.onTables, Cond.keeps, Cond.steady])) hini)
  obtain ⟨mk, methM, hnamed, hmethM, hstM, habM⟩ := Cond.instanceMethod_spec (hts _ g5)
  obtain ⟨methM', cM, hmethM', -, -, -, -, -, -, hsigM⟩ := Cond.code_spec hnamed (hts _ g7)
  cases hmethM.symm.trans hmethM'
  obtain ⟨ps, dk, kp, hps, hdk, hkp, hsuper, -, -, hnid⟩ := Cond.superclass_spec hown (hts _ g3)
  obtain ⟨ps2, dk2, kp2, hps2, hdk2, hkp2, hsuper2, -, -, -⟩ := Cond.superclass_spec hps (hts _ g4)
  have hpm : ps2 = mk.cls := Option.some.inj (hps2.symm.trans (findClass_of_methodNamed hnamed))
  have hsub : s.vm.isSubclass ps mk.cls = true := by
    have hpos : 0 < s.vm.classes.size := Nat.lt_of_le_of_lt (Nat.zero_le _) (Array.getElem?_eq_some_iff.mp hdk2).1
    obtain ⟨z, hz⟩ : ∃ z, s.vm.classes.size = z + 1 := ⟨s.vm.classes.size - 1, by omega⟩
    rw [← hpm]
    simp [Vm.isSubclass, Vm.isSubclassAux, hz, hdk2, hsuper2]
  have hn2 : s.methodNamed? ⟨mi2.1.cls, x.name, x.desc⟩ = some mk := by rw [← g10]; exact hnamed
  have hdesc : mi2.1.desc = x.desc := by rw [g10]
  have hlen : ∀ sig, parseMethodDescriptor mi2.1.desc = some sig → av.length = sig.parameters.length := fun sig h => by
    have h2 := g8.2
    rw [← hdesc, h] at h2
    rw [hn]
    exact (Option.some.inj h2).symm
  intro T hT Xs
  obtain ⟨vm₁, X₁, hstep₁⟩ := Xs.invokespecialUp C.1 hown (hts _ g1) (hts _ g2) hn2 hmethM hstM habM g8.1 hdk hnid hps hsuper hsub (a := ga G i) (cell := cellB) (by rw [hT]; exact hcB) (fun z h => by rw [h] at hoB; cases hoB) hkB' (g := F0 m pc ls st0) rfl (argsL := av) (rest := st) (hlen _ hsigM) hst (by rw [C.2.1]; exact hd)
  obtain ⟨v, ⟨U', l2, c2, s2⟩, X', ⟨g', mk', t, L, e1, e2, hq, h1, hL, h2, h3⟩, hsteps⟩ := hK m meth c ⟨T.setVm vm₁, locs, 0, 0⟩ { (F0 m pc ls st0) with stack := st } (.invokespecial idx) mk (Value.ref (ga G i) :: av).toArray X₁ rfl (C.2.2.2.2.2.2.2.2.2.2.2.2.1.trans C.2.2.1.symm) (by rw [C.2.1]; exact hd) (lv_room hw) (X₁.named hnamed) ⟨Nat.le_refl 0, Nat.le_refl 0, rfl, C.good hT X₁.warmed⟩
  dsimp only [Pt.U, Pt.locs, Pt.cells, Pt.slots] at X' e1 e2 h1 h2 h3 hsteps
  subst h1; subst h2; subst h3
  exact ⟨v, (T.setVm vm₁).calling g' mk' (Value.ref (ga G i) :: av).toArray, t, U', L, hT, X', hL, e1, e2, hq, fun target h => hstep₁ _ (by rw [doInvoke_state]; exact hsteps.trans h)⟩
end CALL
